set_option maxHeartbeats 4000000 in
set_option maxRecDepth 100000 in
theorem t_X12_size (l : Launch) (dC : Nat → ClassId) (dI : Nat → Nat → Nat) (sz : Nat) (v : Int64) (Z_v : Int) (hZ_v : v.toInt = Z_v) : Met l yX12_size wqX12_size ({ frames := 2, cells := 0, slots := 0, locals := 400 }) (va_Pc [.long v] (pz_B dC dI [] [] sz)) (vp_Sl (fun r => True ∧ (Z_v ≠ 0 → r.toInt ≠ 0))) 0 0 (fun _ => False) := by
  refine Met.ofW (cc := cX12_size) (maxL := 2) (ret := some .long) (by decide) rfl ?_
  intro p e s m args below meth c s₁ B hml hv
  obtain ⟨rfl, hsz, hP, hK, hD0, hN⟩ := hv
  have hx := B.exec
  have hb := B.bytes
  have hr := B.returns
  have hts := fun (w : Cond) (h : w ∈ WALL) => atoms_spec (ws := wqX12_size) B.pre w (List.mem_cons_of_mem _ h)
  have hown : s.vm.findClass RX12 = some m.cls := findClass_of_methodNamed B.named
  have hlocks := B.notSynchronized
  subst hsz
  have hD := hD0
  have hS : va_S (fun _ => True) s.heap s.heap [] := va_S.rf
  have hl := lv_entry ([.long v]) (n := 2) (Nat.le_of_ble_eq_true rfl)
  rw [lg_entry_eq]
  generalize (lg_sl ([.long v]) ++ List.replicate (2 - (lg_sl ([.long v])).length) Slot.unset).toArray = ls at hl ⊢
  have hl : lv_has ls 2 [(0, .long v)] := hl
  refine lv_lload_n hx hb dX12_size_0 rfl (lv_at hl 0 rfl) ?_
  refine lv_lconst (v := 0) hx hb dX12_size_1 (by decide) ?_
  refine W.lcmp hx hb dX12_size_2 ?_
  refine lv_if_ge (tgt := 11) hx hb dX12_size_3 (by decide) (fun c1 => ?_) (fun c1 => ?_)
  · have ic1 : Z_v ≥ 0 := zl_ge hZ_v rfl c1
    refine lv_lload_n hx hb dX12_size_11 rfl (lv_at hl 0 rfl) ?_
    exact W.lret (v := v) hx hb hr (fun t ht hW => ⟨v, rfl, ⟨trivial, (fun q9 => by have := hZ_v; omega)⟩, ht⟩) (fun _ h => by cases h) dX12_size_12
  · have ic1 : Z_v < 0 := zl_gef hZ_v rfl c1
    refine lv_lload_n hx hb dX12_size_6 rfl (lv_at hl 0 rfl) ?_
    refine lv_lneg hx hb dX12_size_7 ?_
    refine lv_topl (fun z2 ez2 => ?_)
    refine lv_goto (tgt := 12) hx hb dX12_size_8 (by decide) ?_
    exact W.lret (v := z2) hx hb hr (fun t ht hW => ⟨z2, rfl, ⟨trivial, (fun q9 => zl_negnz ez2 (by have := hZ_v; omega))⟩, ht⟩) (fun _ h => by cases h) dX12_size_12
set_option maxHeartbeats 4000000 in
set_option maxRecDepth 100000 in
theorem t_X12_reckon (l : Launch) (dC : Nat → ClassId) (dI : Nat → Nat → Nat) (sz : Nat) (κ : Nat → ClassId) (Θ : Nat → Option Int) (τ ν : Nat → Nat) (ρ : Nat → Nat → Nat) (L : List Nat) (f : Nat → va_E) (hG : tp_G τ ν ρ L) (hT : tp_T (mo_O κ Θ) κ τ ν ρ f) (h0 : Nat) (v : Int32) (u : Int64) (a : Int64) (ht_h0 : τ h0 = 13) : Met l yX12_reckon wqX12_reckon ({ frames := 3, cells := 0, slots := 0, locals := 800 }) (va_Pc [.ref h0, .int v, .long u, .long a] (pz_B dC dI (tp_K κ) (va_pl L f) sz)) (va_Ql (fun (r : Int64) (f1 : Nat → va_E) => tp_T (mo_O κ Θ) κ τ ν ρ f1 ∧ tp_F τ [13] f f1 ∧ True ∧ True) (fun (f1 : Nat → va_E) (t : State) => pz_E dC dI (tp_K κ) (va_A (va_pl L f) sz) (va_pl L f1) t) (va_A (va_pl L f) sz)) 0 0 (va_A (va_pl L f) sz) := by
  refine Met.ofW (cc := cX12_reckon) (maxL := 6) (ret := some .long) (by decide) rfl ?_
  intro p e s m args below meth c s₁ B hml hv
  obtain ⟨rfl, hsz, hP, hK, hD0, hN⟩ := hv
  have hx := B.exec
  have hb := B.bytes
  have hr := B.returns
  have hts := fun (w : Cond) (h : w ∈ WALL) => atoms_spec (ws := wqX12_reckon) B.pre w (List.mem_cons_of_mem _ h)
  have hown : s.vm.findClass RX12 = some m.cls := findClass_of_methodNamed B.named
  have hlocks := B.notSynchronized
  subst hsz
  have hD := hD0.self (sz := s.heap.size)
  generalize hAe : va_A (va_pl L f) s.heap.size = A at hD ⊢
  have hA : ∀ q : Nat, s.heap.size ≤ q → A q := fun q h => by rw [← hAe]; exact Or.inr h
  have hS : va_S A s.heap s.heap [] := va_S.rf
  have hR : tp_F τ [13] f f := tp_F.rf
  have hl := lv_entry ([.ref h0, .int v, .long u, .long a]) (n := 6) (Nat.le_of_ble_eq_true rfl)
  rw [lg_entry_eq]
  generalize (lg_sl ([.ref h0, .int v, .long u, .long a]) ++ List.replicate (6 - (lg_sl ([.ref h0, .int v, .long u, .long a])).length) Slot.unset).toArray = ls at hl ⊢
  have hl : lv_has ls 6 [(0, .ref h0), (1, .int v), (2, .long u), (4, .long a)] := hl
  refine lv_iload_n hx hb dX12_reckon_0 rfl (lv_at hl 1 rfl) ?_
  rcases zi_sw v 10 15 with h1 | h1
  · refine lv_tableOut (tgt := 156) hx hb dX12_reckon_1 h1 (by decide) ?_
    refine lv_lload_n hx hb dX12_reckon_156 rfl (lv_at hl 2 rfl) ?_
    refine lv_lload hx hb dX12_reckon_157 (lv_at hl 3 rfl) ?_
    refine W.lcmp hx hb dX12_reckon_159 ?_
    refine lv_if_ne (tgt := 167) hx hb dX12_reckon_160 (by decide) (fun c2 => ?_) (fun c2 => ?_)
    · have ic2 : u.toInt ≠ a.toInt := zl_ne rfl rfl c2
      refine lv_lconst (v := 0) hx hb dX12_reckon_167 (by decide) ?_
      exact W.lret (v := 0) hx hb hr (fun t ht hW => ⟨⟨0, f, rfl, ⟨hT, hR, trivial, trivial⟩, by rw [ht]; exact hP, va_K.moved hW.alike hK, hD⟩, hS.F ht⟩) hS.2.2 dX12_reckon_168
    · have ic2 : u.toInt = a.toInt := zl_nef rfl rfl c2
      refine lv_lconst (v := 1) hx hb dX12_reckon_163 (by decide) ?_
      refine lv_goto (tgt := 168) hx hb dX12_reckon_164 (by decide) ?_
      exact W.lret (v := 1) hx hb hr (fun t ht hW => ⟨⟨1, f, rfl, ⟨hT, hR, trivial, trivial⟩, by rw [ht]; exact hP, va_K.moved hW.alike hK, hD⟩, hS.F ht⟩) hS.2.2 dX12_reckon_168
  · rcases (show v.toInt = 10 ∨ v.toInt = 11 ∨ v.toInt = 12 ∨ v.toInt = 13 ∨ v.toInt = 14 ∨ v.toInt = 15 by omega) with h1k | h1k | h1k | h1k | h1k | h1k
    · refine lv_tableIn (tgt := 40) hx hb dX12_reckon_1 (by omega) (by omega) (by rw [h1k]; rfl) (by decide) ?_
      refine lv_lload_n hx hb dX12_reckon_40 rfl (lv_at hl 2 rfl) ?_
      refine lv_lload hx hb dX12_reckon_41 (lv_at hl 3 rfl) ?_
      refine lv_ladd hx hb dX12_reckon_43 ?_
      refine lv_topl (fun z3 ez3 => ?_)
      exact W.lret (v := z3) hx hb hr (fun t ht hW => ⟨⟨z3, f, rfl, ⟨hT, hR, trivial, trivial⟩, by rw [ht]; exact hP, va_K.moved hW.alike hK, hD⟩, hS.F ht⟩) hS.2.2 dX12_reckon_44
    · refine lv_tableIn (tgt := 45) hx hb dX12_reckon_1 (by omega) (by omega) (by rw [h1k]; rfl) (by decide) ?_
      refine lv_lload_n hx hb dX12_reckon_45 rfl (lv_at hl 2 rfl) ?_
      refine lv_lload hx hb dX12_reckon_46 (lv_at hl 3 rfl) ?_
      refine lv_lsub hx hb dX12_reckon_48 ?_
      refine lv_topl (fun z4 ez4 => ?_)
      exact W.lret (v := z4) hx hb hr (fun t ht hW => ⟨⟨z4, f, rfl, ⟨hT, hR, trivial, trivial⟩, by rw [ht]; exact hP, va_K.moved hW.alike hK, hD⟩, hS.F ht⟩) hS.2.2 dX12_reckon_49
    · refine lv_tableIn (tgt := 50) hx hb dX12_reckon_1 (by omega) (by omega) (by rw [h1k]; rfl) (by decide) ?_
      refine lv_aload_n hx hb dX12_reckon_50 rfl (lv_at hl 0 rfl) ?_
      refine lv_lload_n hx hb dX12_reckon_51 rfl (lv_at hl 2 rfl) ?_
      refine lv_lconst (v := 0) hx hb dX12_reckon_52 (by decide) ?_
      refine W.lcmp hx hb dX12_reckon_53 ?_
      refine lv_if_eq (tgt := 78) hx hb dX12_reckon_54 (by decide) (fun c5 => ?_) (fun c5 => ?_)
      · have ic5 : u.toInt = 0 := zl_eq rfl rfl c5
        refine lv_iconst (v := 0) hx hb dX12_reckon_78 (by decide) ?_
        refine tgk_13 hG ht_h0 (fun y6 y7 y8 y9 y10 y11 y12 y13 y14 y15 y16 y17 y18 y19 y20 y21 y22 y23 y24 y25 y26 y27 y28 y29 y30 => ?_)
        refine tpk_13 hT ht_h0 (fun o31_x0 o31_x1 o31_x7 o31_x9 o31_x10 o31_x11 o31_x12 o31_x13 o31_x14 o31_x15 o31_x16 o31_x17 o31_x18 o31_x19 o31_x20 o31_x22 o31_x25 o31_x28 o31_x29 o31_x32 o31_x33 o31_x34 o31_x35 o31_x36 o31_x37 o31_x38 o31_x47 o31_x48 hf_o31 ro31_0 ro31_1 ro31_2 ro31_3 ro31_4 ro31_5 ro31_6 ro31_7 ro31_8 ro31_9 ro31_10 ro31_11 ro31_12 ro31_13 ro31_14 => ?_)
        refine tpk_pos (tp_in hG ht_h0 (by decide)) hf_o31 (fun q32 eq32 => ?_)
        refine va_put (D := (dC, dI)) (ci := 12) (v := .int 0) (ty := .boolean) (C := RX12) (T := TX12) (N := 53) hx hb hts hfX12 tyX12 tyX12_ok nmX12 hown hK hP hD hS q32 eq32 rfl 32 (by decide) (hts (.fieldLink RX12 440 "ColdShipsModel" "broken" "Z") wa_1219) (fun _ h9 => h9) rfl (tyX12_ok 32 (by decide)) rfl rfl (Nat.le_of_ble_eq_true rfl) dX12_reckon_79 (tp_k (.inr (12, [.int o31_x0, .int o31_x1, .ref (ρ h0 2), .ref (ρ h0 3), .ref (ρ h0 4), .ref (ρ h0 5), .ref (ρ h0 6), .int o31_x7, .ref (ρ h0 8), .int o31_x9, .int o31_x10, .int o31_x11, .int o31_x12, .long o31_x13, .int o31_x14, .int o31_x15, .int o31_x16, .int o31_x17, .int o31_x18, .int o31_x19, .int o31_x20, .ref (ρ h0 21), .int o31_x22, .ref (ρ h0 23), .ref (ρ h0 24), .int o31_x25, .ref (ρ h0 26), .ref (ρ h0 27), .int o31_x28, .int o31_x29, .ref (ρ h0 30), .ref (ρ h0 31), .int 0, .long o31_x33, .long o31_x34, .long o31_x35, .int o31_x36, .int o31_x37, .int o31_x38, .ref (ρ h0 39), .ref (ρ h0 40), .ref (ρ h0 41), .ref (ρ h0 42), .ref (ρ h0 43), .ref (ρ h0 44), .ref (ρ h0 45), .ref (ρ h0 46), .int o31_x47, .int o31_x48, .ref (ρ h0 49), .ref (ρ h0 50), .ref (ρ h0 51), .ref (ρ h0 52)])) hD (tp_in hG ht_h0 (by decide)) eq32 (fun f33 H locs hP hD hS g35 k34 => ?_))
        have hT := hT.up ht_h0 g35 k34 ⟨_, _, _, _, _, _, _, _, _, _, _, _, _, _, _, _, _, _, _, _, _, _, _, _, _, _, _, _, rfl, ro31_0, ro31_1, ro31_2, ro31_3, ro31_4, ro31_5, ro31_6, ro31_7, ro31_8, ro31_9, (by decide), ro31_11, ro31_12, ro31_13, ro31_14⟩
        have hR := hR.up ht_h0 (by decide) k34
        refine lv_aload_n hx hb dX12_reckon_82 rfl (lv_at hl 0 rfl) ?_
        refine tpk_pos (tp_in hG ht_h0 (by decide)) g35 (fun q36 eq36 => ?_)
        refine va_get (D := (dC, dI)) (ci := 12) (v := .int 0) (C := RX12) (T := TX12) (N := 53) hx hb hts hfX12 hown hK hP q36 eq36 rfl 32 (by decide) (hts (.fieldLink RX12 440 "ColdShipsModel" "broken" "Z") wa_1219) (fun _ h9 => h9) rfl dX12_reckon_83 ?_
        refine lv_if_eq (tgt := 93) hx hb dX12_reckon_86 (by decide) (fun _ => ?_) (fun c9 => absurd c9 (by decide))
        refine lv_lload_n hx hb dX12_reckon_93 rfl (lv_at hl 2 rfl) ?_
        refine lv_lload hx hb dX12_reckon_94 (lv_at hl 3 rfl) ?_
        refine lv_lmul hx hb dX12_reckon_96 ?_
        refine lv_topl (fun z37 ez37 => ?_)
        exact W.lret (v := z37) hx hb hr (fun t ht hW => ⟨⟨z37, f33, rfl, ⟨hT, hR, trivial, trivial⟩, by rw [ht]; exact hP, va_K.moved hW.alike hK, hD⟩, hS.F ht⟩) hS.2.2 dX12_reckon_97
      · have ic5 : u.toInt ≠ 0 := zl_eqf rfl rfl c5
        refine lv_lload hx hb dX12_reckon_57 (lv_at hl 3 rfl) ?_
        refine pz_calll (va_runS (As := [.long a]) (rest := [.ref h0]) ⟨hx, hb, hml, hown, hts⟩ (t_X12_size l dC dI _ a (a.toInt) rfl) (va_cwS 1 hts gX12_reckon_X12_size rfl rfl rfl pd_X12_size ⟨Nat.le_of_ble_eq_true rfl, Nat.le_of_ble_eq_true rfl⟩) ⟨pz_blind, pz_pre pz_P0 (hK.sub (tys' := []) [] rfl) (pz_D0 (A := fun _ => True)) hN⟩ rfl rfl hl.1 rfl (lv_room (Nat.le_of_ble_eq_true rfl)) dX12_reckon_59 ⟨Nat.le_of_ble_eq_true rfl, Nat.le_of_ble_eq_true rfl⟩) (fun r38 hw39 => ?_)
        obtain ⟨hw39r, hw39p⟩ := hw39
        refine lv_ldc2 (own := RX12) (v := 1000000000000) hx hb hown (hts (.constantLong RX12 438 (1000000000000)) wa_1226) dX12_reckon_62 ?_
        refine lv_lload_n hx hb dX12_reckon_65 rfl (lv_at hl 2 rfl) ?_
        refine pz_calll (va_runS (As := [.long u]) (rest := [.long 1000000000000, .long r38, .ref h0]) ⟨hx, hb, hml, hown, hts⟩ (t_X12_size l dC dI _ u (u.toInt) rfl) (va_cwS 1 hts gX12_reckon_X12_size rfl rfl rfl pd_X12_size ⟨Nat.le_of_ble_eq_true rfl, Nat.le_of_ble_eq_true rfl⟩) ⟨pz_blind, pz_pre pz_P0 (hK.sub (tys' := []) [] rfl) (pz_D0 (A := fun _ => True)) hN⟩ rfl rfl hl.1 rfl (lv_room (Nat.le_of_ble_eq_true rfl)) dX12_reckon_66 ⟨Nat.le_of_ble_eq_true rfl, Nat.le_of_ble_eq_true rfl⟩) (fun r40 hw41 => ?_)
        obtain ⟨hw41r, hw41p⟩ := hw41
        refine lv_ldiv hx hb dX12_reckon_69 (zl_nz (by omega) rfl) ?_
        refine lv_topl (fun z42 ez42 => ?_)
        refine W.lcmp hx hb dX12_reckon_70 ?_
        refine lv_if_le (tgt := 78) hx hb dX12_reckon_71 (by decide) (fun c43 => ?_) (fun c43 => ?_)
        · have ic43 : r38.toInt ≤ z42.toInt := zl_le rfl rfl c43
          refine lv_iconst (v := 0) hx hb dX12_reckon_78 (by decide) ?_
          refine tgk_13 hG ht_h0 (fun y44 y45 y46 y47 y48 y49 y50 y51 y52 y53 y54 y55 y56 y57 y58 y59 y60 y61 y62 y63 y64 y65 y66 y67 y68 => ?_)
          refine tpk_13 hT ht_h0 (fun o69_x0 o69_x1 o69_x7 o69_x9 o69_x10 o69_x11 o69_x12 o69_x13 o69_x14 o69_x15 o69_x16 o69_x17 o69_x18 o69_x19 o69_x20 o69_x22 o69_x25 o69_x28 o69_x29 o69_x32 o69_x33 o69_x34 o69_x35 o69_x36 o69_x37 o69_x38 o69_x47 o69_x48 hf_o69 ro69_0 ro69_1 ro69_2 ro69_3 ro69_4 ro69_5 ro69_6 ro69_7 ro69_8 ro69_9 ro69_10 ro69_11 ro69_12 ro69_13 ro69_14 => ?_)
          refine tpk_pos (tp_in hG ht_h0 (by decide)) hf_o69 (fun q70 eq70 => ?_)
          refine va_put (D := (dC, dI)) (ci := 12) (v := .int 0) (ty := .boolean) (C := RX12) (T := TX12) (N := 53) hx hb hts hfX12 tyX12 tyX12_ok nmX12 hown hK hP hD hS q70 eq70 rfl 32 (by decide) (hts (.fieldLink RX12 440 "ColdShipsModel" "broken" "Z") wa_1219) (fun _ h9 => h9) rfl (tyX12_ok 32 (by decide)) rfl rfl (Nat.le_of_ble_eq_true rfl) dX12_reckon_79 (tp_k (.inr (12, [.int o69_x0, .int o69_x1, .ref (ρ h0 2), .ref (ρ h0 3), .ref (ρ h0 4), .ref (ρ h0 5), .ref (ρ h0 6), .int o69_x7, .ref (ρ h0 8), .int o69_x9, .int o69_x10, .int o69_x11, .int o69_x12, .long o69_x13, .int o69_x14, .int o69_x15, .int o69_x16, .int o69_x17, .int o69_x18, .int o69_x19, .int o69_x20, .ref (ρ h0 21), .int o69_x22, .ref (ρ h0 23), .ref (ρ h0 24), .int o69_x25, .ref (ρ h0 26), .ref (ρ h0 27), .int o69_x28, .int o69_x29, .ref (ρ h0 30), .ref (ρ h0 31), .int 0, .long o69_x33, .long o69_x34, .long o69_x35, .int o69_x36, .int o69_x37, .int o69_x38, .ref (ρ h0 39), .ref (ρ h0 40), .ref (ρ h0 41), .ref (ρ h0 42), .ref (ρ h0 43), .ref (ρ h0 44), .ref (ρ h0 45), .ref (ρ h0 46), .int o69_x47, .int o69_x48, .ref (ρ h0 49), .ref (ρ h0 50), .ref (ρ h0 51), .ref (ρ h0 52)])) hD (tp_in hG ht_h0 (by decide)) eq70 (fun f71 H locs hP hD hS g73 k72 => ?_))
          have hT := hT.up ht_h0 g73 k72 ⟨_, _, _, _, _, _, _, _, _, _, _, _, _, _, _, _, _, _, _, _, _, _, _, _, _, _, _, _, rfl, ro69_0, ro69_1, ro69_2, ro69_3, ro69_4, ro69_5, ro69_6, ro69_7, ro69_8, ro69_9, (by decide), ro69_11, ro69_12, ro69_13, ro69_14⟩
          have hR := hR.up ht_h0 (by decide) k72
          refine lv_aload_n hx hb dX12_reckon_82 rfl (lv_at hl 0 rfl) ?_
          refine tpk_pos (tp_in hG ht_h0 (by decide)) g73 (fun q74 eq74 => ?_)
          refine va_get (D := (dC, dI)) (ci := 12) (v := .int 0) (C := RX12) (T := TX12) (N := 53) hx hb hts hfX12 hown hK hP q74 eq74 rfl 32 (by decide) (hts (.fieldLink RX12 440 "ColdShipsModel" "broken" "Z") wa_1219) (fun _ h9 => h9) rfl dX12_reckon_83 ?_
          refine lv_if_eq (tgt := 93) hx hb dX12_reckon_86 (by decide) (fun _ => ?_) (fun c9 => absurd c9 (by decide))
          refine lv_lload_n hx hb dX12_reckon_93 rfl (lv_at hl 2 rfl) ?_
          refine lv_lload hx hb dX12_reckon_94 (lv_at hl 3 rfl) ?_
          refine lv_lmul hx hb dX12_reckon_96 ?_
          refine lv_topl (fun z75 ez75 => ?_)
          exact W.lret (v := z75) hx hb hr (fun t ht hW => ⟨⟨z75, f71, rfl, ⟨hT, hR, trivial, trivial⟩, by rw [ht]; exact hP, va_K.moved hW.alike hK, hD⟩, hS.F ht⟩) hS.2.2 dX12_reckon_97
        · have ic43 : r38.toInt > z42.toInt := zl_lef rfl rfl c43
          refine lv_iconst (v := 1) hx hb dX12_reckon_74 (by decide) ?_
          refine lv_goto (tgt := 79) hx hb dX12_reckon_75 (by decide) ?_
          refine tgk_13 hG ht_h0 (fun y76 y77 y78 y79 y80 y81 y82 y83 y84 y85 y86 y87 y88 y89 y90 y91 y92 y93 y94 y95 y96 y97 y98 y99 y100 => ?_)
          refine tpk_13 hT ht_h0 (fun o101_x0 o101_x1 o101_x7 o101_x9 o101_x10 o101_x11 o101_x12 o101_x13 o101_x14 o101_x15 o101_x16 o101_x17 o101_x18 o101_x19 o101_x20 o101_x22 o101_x25 o101_x28 o101_x29 o101_x32 o101_x33 o101_x34 o101_x35 o101_x36 o101_x37 o101_x38 o101_x47 o101_x48 hf_o101 ro101_0 ro101_1 ro101_2 ro101_3 ro101_4 ro101_5 ro101_6 ro101_7 ro101_8 ro101_9 ro101_10 ro101_11 ro101_12 ro101_13 ro101_14 => ?_)
          refine tpk_pos (tp_in hG ht_h0 (by decide)) hf_o101 (fun q102 eq102 => ?_)
          refine va_put (D := (dC, dI)) (ci := 12) (v := .int 1) (ty := .boolean) (C := RX12) (T := TX12) (N := 53) hx hb hts hfX12 tyX12 tyX12_ok nmX12 hown hK hP hD hS q102 eq102 rfl 32 (by decide) (hts (.fieldLink RX12 440 "ColdShipsModel" "broken" "Z") wa_1219) (fun _ h9 => h9) rfl (tyX12_ok 32 (by decide)) rfl rfl (Nat.le_of_ble_eq_true rfl) dX12_reckon_79 (tp_k (.inr (12, [.int o101_x0, .int o101_x1, .ref (ρ h0 2), .ref (ρ h0 3), .ref (ρ h0 4), .ref (ρ h0 5), .ref (ρ h0 6), .int o101_x7, .ref (ρ h0 8), .int o101_x9, .int o101_x10, .int o101_x11, .int o101_x12, .long o101_x13, .int o101_x14, .int o101_x15, .int o101_x16, .int o101_x17, .int o101_x18, .int o101_x19, .int o101_x20, .ref (ρ h0 21), .int o101_x22, .ref (ρ h0 23), .ref (ρ h0 24), .int o101_x25, .ref (ρ h0 26), .ref (ρ h0 27), .int o101_x28, .int o101_x29, .ref (ρ h0 30), .ref (ρ h0 31), .int 1, .long o101_x33, .long o101_x34, .long o101_x35, .int o101_x36, .int o101_x37, .int o101_x38, .ref (ρ h0 39), .ref (ρ h0 40), .ref (ρ h0 41), .ref (ρ h0 42), .ref (ρ h0 43), .ref (ρ h0 44), .ref (ρ h0 45), .ref (ρ h0 46), .int o101_x47, .int o101_x48, .ref (ρ h0 49), .ref (ρ h0 50), .ref (ρ h0 51), .ref (ρ h0 52)])) hD (tp_in hG ht_h0 (by decide)) eq102 (fun f103 H locs hP hD hS g105 k104 => ?_))
          have hT := hT.up ht_h0 g105 k104 ⟨_, _, _, _, _, _, _, _, _, _, _, _, _, _, _, _, _, _, _, _, _, _, _, _, _, _, _, _, rfl, ro101_0, ro101_1, ro101_2, ro101_3, ro101_4, ro101_5, ro101_6, ro101_7, ro101_8, ro101_9, (by decide), ro101_11, ro101_12, ro101_13, ro101_14⟩
          have hR := hR.up ht_h0 (by decide) k104
          refine lv_aload_n hx hb dX12_reckon_82 rfl (lv_at hl 0 rfl) ?_
          refine tpk_pos (tp_in hG ht_h0 (by decide)) g105 (fun q106 eq106 => ?_)
          refine va_get (D := (dC, dI)) (ci := 12) (v := .int 1) (C := RX12) (T := TX12) (N := 53) hx hb hts hfX12 hown hK hP q106 eq106 rfl 32 (by decide) (hts (.fieldLink RX12 440 "ColdShipsModel" "broken" "Z") wa_1219) (fun _ h9 => h9) rfl dX12_reckon_83 ?_
          refine lv_if_eq (tgt := 93) hx hb dX12_reckon_86 (by decide) (fun c9 => absurd c9 (by decide)) (fun _ => ?_)
          refine lv_lconst (v := 0) hx hb dX12_reckon_89 (by decide) ?_
          refine lv_goto (tgt := 97) hx hb dX12_reckon_90 (by decide) ?_
          exact W.lret (v := 0) hx hb hr (fun t ht hW => ⟨⟨0, f103, rfl, ⟨hT, hR, trivial, trivial⟩, by rw [ht]; exact hP, va_K.moved hW.alike hK, hD⟩, hS.F ht⟩) hS.2.2 dX12_reckon_97
    · refine lv_tableIn (tgt := 98) hx hb dX12_reckon_1 (by omega) (by omega) (by rw [h1k]; rfl) (by decide) ?_
      refine lv_aload_n hx hb dX12_reckon_98 rfl (lv_at hl 0 rfl) ?_
      refine lv_lload hx hb dX12_reckon_99 (lv_at hl 3 rfl) ?_
      refine lv_lconst (v := 0) hx hb dX12_reckon_101 (by decide) ?_
      refine W.lcmp hx hb dX12_reckon_102 ?_
      refine lv_if_ne (tgt := 110) hx hb dX12_reckon_103 (by decide) (fun c107 => ?_) (fun c107 => ?_)
      · have ic107 : a.toInt ≠ 0 := zl_ne rfl rfl c107
        refine lv_iconst (v := 0) hx hb dX12_reckon_110 (by decide) ?_
        refine tgk_13 hG ht_h0 (fun y108 y109 y110 y111 y112 y113 y114 y115 y116 y117 y118 y119 y120 y121 y122 y123 y124 y125 y126 y127 y128 y129 y130 y131 y132 => ?_)
        refine tpk_13 hT ht_h0 (fun o133_x0 o133_x1 o133_x7 o133_x9 o133_x10 o133_x11 o133_x12 o133_x13 o133_x14 o133_x15 o133_x16 o133_x17 o133_x18 o133_x19 o133_x20 o133_x22 o133_x25 o133_x28 o133_x29 o133_x32 o133_x33 o133_x34 o133_x35 o133_x36 o133_x37 o133_x38 o133_x47 o133_x48 hf_o133 ro133_0 ro133_1 ro133_2 ro133_3 ro133_4 ro133_5 ro133_6 ro133_7 ro133_8 ro133_9 ro133_10 ro133_11 ro133_12 ro133_13 ro133_14 => ?_)
        refine tpk_pos (tp_in hG ht_h0 (by decide)) hf_o133 (fun q134 eq134 => ?_)
        refine va_put (D := (dC, dI)) (ci := 12) (v := .int 0) (ty := .boolean) (C := RX12) (T := TX12) (N := 53) hx hb hts hfX12 tyX12 tyX12_ok nmX12 hown hK hP hD hS q134 eq134 rfl 32 (by decide) (hts (.fieldLink RX12 440 "ColdShipsModel" "broken" "Z") wa_1219) (fun _ h9 => h9) rfl (tyX12_ok 32 (by decide)) rfl rfl (Nat.le_of_ble_eq_true rfl) dX12_reckon_111 (tp_k (.inr (12, [.int o133_x0, .int o133_x1, .ref (ρ h0 2), .ref (ρ h0 3), .ref (ρ h0 4), .ref (ρ h0 5), .ref (ρ h0 6), .int o133_x7, .ref (ρ h0 8), .int o133_x9, .int o133_x10, .int o133_x11, .int o133_x12, .long o133_x13, .int o133_x14, .int o133_x15, .int o133_x16, .int o133_x17, .int o133_x18, .int o133_x19, .int o133_x20, .ref (ρ h0 21), .int o133_x22, .ref (ρ h0 23), .ref (ρ h0 24), .int o133_x25, .ref (ρ h0 26), .ref (ρ h0 27), .int o133_x28, .int o133_x29, .ref (ρ h0 30), .ref (ρ h0 31), .int 0, .long o133_x33, .long o133_x34, .long o133_x35, .int o133_x36, .int o133_x37, .int o133_x38, .ref (ρ h0 39), .ref (ρ h0 40), .ref (ρ h0 41), .ref (ρ h0 42), .ref (ρ h0 43), .ref (ρ h0 44), .ref (ρ h0 45), .ref (ρ h0 46), .int o133_x47, .int o133_x48, .ref (ρ h0 49), .ref (ρ h0 50), .ref (ρ h0 51), .ref (ρ h0 52)])) hD (tp_in hG ht_h0 (by decide)) eq134 (fun f135 H locs hP hD hS g137 k136 => ?_))
        have hT := hT.up ht_h0 g137 k136 ⟨_, _, _, _, _, _, _, _, _, _, _, _, _, _, _, _, _, _, _, _, _, _, _, _, _, _, _, _, rfl, ro133_0, ro133_1, ro133_2, ro133_3, ro133_4, ro133_5, ro133_6, ro133_7, ro133_8, ro133_9, (by decide), ro133_11, ro133_12, ro133_13, ro133_14⟩
        have hR := hR.up ht_h0 (by decide) k136
        refine lv_aload_n hx hb dX12_reckon_114 rfl (lv_at hl 0 rfl) ?_
        refine tpk_pos (tp_in hG ht_h0 (by decide)) g137 (fun q138 eq138 => ?_)
        refine va_get (D := (dC, dI)) (ci := 12) (v := .int 0) (C := RX12) (T := TX12) (N := 53) hx hb hts hfX12 hown hK hP q138 eq138 rfl 32 (by decide) (hts (.fieldLink RX12 440 "ColdShipsModel" "broken" "Z") wa_1219) (fun _ h9 => h9) rfl dX12_reckon_115 ?_
        refine lv_if_eq (tgt := 125) hx hb dX12_reckon_118 (by decide) (fun _ => ?_) (fun c9 => absurd c9 (by decide))
        refine lv_lload_n hx hb dX12_reckon_125 rfl (lv_at hl 2 rfl) ?_
        refine lv_lload hx hb dX12_reckon_126 (lv_at hl 3 rfl) ?_
        refine lv_ldiv hx hb dX12_reckon_128 (zl_nz (by omega) rfl) ?_
        refine lv_topl (fun z139 ez139 => ?_)
        exact W.lret (v := z139) hx hb hr (fun t ht hW => ⟨⟨z139, f135, rfl, ⟨hT, hR, trivial, trivial⟩, by rw [ht]; exact hP, va_K.moved hW.alike hK, hD⟩, hS.F ht⟩) hS.2.2 dX12_reckon_129
      · have ic107 : a.toInt = 0 := zl_nef rfl rfl c107
        refine lv_iconst (v := 1) hx hb dX12_reckon_106 (by decide) ?_
        refine lv_goto (tgt := 111) hx hb dX12_reckon_107 (by decide) ?_
        refine tgk_13 hG ht_h0 (fun y140 y141 y142 y143 y144 y145 y146 y147 y148 y149 y150 y151 y152 y153 y154 y155 y156 y157 y158 y159 y160 y161 y162 y163 y164 => ?_)
        refine tpk_13 hT ht_h0 (fun o165_x0 o165_x1 o165_x7 o165_x9 o165_x10 o165_x11 o165_x12 o165_x13 o165_x14 o165_x15 o165_x16 o165_x17 o165_x18 o165_x19 o165_x20 o165_x22 o165_x25 o165_x28 o165_x29 o165_x32 o165_x33 o165_x34 o165_x35 o165_x36 o165_x37 o165_x38 o165_x47 o165_x48 hf_o165 ro165_0 ro165_1 ro165_2 ro165_3 ro165_4 ro165_5 ro165_6 ro165_7 ro165_8 ro165_9 ro165_10 ro165_11 ro165_12 ro165_13 ro165_14 => ?_)
        refine tpk_pos (tp_in hG ht_h0 (by decide)) hf_o165 (fun q166 eq166 => ?_)
        refine va_put (D := (dC, dI)) (ci := 12) (v := .int 1) (ty := .boolean) (C := RX12) (T := TX12) (N := 53) hx hb hts hfX12 tyX12 tyX12_ok nmX12 hown hK hP hD hS q166 eq166 rfl 32 (by decide) (hts (.fieldLink RX12 440 "ColdShipsModel" "broken" "Z") wa_1219) (fun _ h9 => h9) rfl (tyX12_ok 32 (by decide)) rfl rfl (Nat.le_of_ble_eq_true rfl) dX12_reckon_111 (tp_k (.inr (12, [.int o165_x0, .int o165_x1, .ref (ρ h0 2), .ref (ρ h0 3), .ref (ρ h0 4), .ref (ρ h0 5), .ref (ρ h0 6), .int o165_x7, .ref (ρ h0 8), .int o165_x9, .int o165_x10, .int o165_x11, .int o165_x12, .long o165_x13, .int o165_x14, .int o165_x15, .int o165_x16, .int o165_x17, .int o165_x18, .int o165_x19, .int o165_x20, .ref (ρ h0 21), .int o165_x22, .ref (ρ h0 23), .ref (ρ h0 24), .int o165_x25, .ref (ρ h0 26), .ref (ρ h0 27), .int o165_x28, .int o165_x29, .ref (ρ h0 30), .ref (ρ h0 31), .int 1, .long o165_x33, .long o165_x34, .long o165_x35, .int o165_x36, .int o165_x37, .int o165_x38, .ref (ρ h0 39), .ref (ρ h0 40), .ref (ρ h0 41), .ref (ρ h0 42), .ref (ρ h0 43), .ref (ρ h0 44), .ref (ρ h0 45), .ref (ρ h0 46), .int o165_x47, .int o165_x48, .ref (ρ h0 49), .ref (ρ h0 50), .ref (ρ h0 51), .ref (ρ h0 52)])) hD (tp_in hG ht_h0 (by decide)) eq166 (fun f167 H locs hP hD hS g169 k168 => ?_))
        have hT := hT.up ht_h0 g169 k168 ⟨_, _, _, _, _, _, _, _, _, _, _, _, _, _, _, _, _, _, _, _, _, _, _, _, _, _, _, _, rfl, ro165_0, ro165_1, ro165_2, ro165_3, ro165_4, ro165_5, ro165_6, ro165_7, ro165_8, ro165_9, (by decide), ro165_11, ro165_12, ro165_13, ro165_14⟩
        have hR := hR.up ht_h0 (by decide) k168
        refine lv_aload_n hx hb dX12_reckon_114 rfl (lv_at hl 0 rfl) ?_
        refine tpk_pos (tp_in hG ht_h0 (by decide)) g169 (fun q170 eq170 => ?_)
        refine va_get (D := (dC, dI)) (ci := 12) (v := .int 1) (C := RX12) (T := TX12) (N := 53) hx hb hts hfX12 hown hK hP q170 eq170 rfl 32 (by decide) (hts (.fieldLink RX12 440 "ColdShipsModel" "broken" "Z") wa_1219) (fun _ h9 => h9) rfl dX12_reckon_115 ?_
        refine lv_if_eq (tgt := 125) hx hb dX12_reckon_118 (by decide) (fun c9 => absurd c9 (by decide)) (fun _ => ?_)
        refine lv_lconst (v := 0) hx hb dX12_reckon_121 (by decide) ?_
        refine lv_goto (tgt := 129) hx hb dX12_reckon_122 (by decide) ?_
        exact W.lret (v := 0) hx hb hr (fun t ht hW => ⟨⟨0, f167, rfl, ⟨hT, hR, trivial, trivial⟩, by rw [ht]; exact hP, va_K.moved hW.alike hK, hD⟩, hS.F ht⟩) hS.2.2 dX12_reckon_129
    · refine lv_tableIn (tgt := 130) hx hb dX12_reckon_1 (by omega) (by omega) (by rw [h1k]; rfl) (by decide) ?_
      refine lv_lload_n hx hb dX12_reckon_130 rfl (lv_at hl 2 rfl) ?_
      refine lv_lload hx hb dX12_reckon_131 (lv_at hl 3 rfl) ?_
      refine W.lcmp hx hb dX12_reckon_133 ?_
      refine lv_if_ge (tgt := 141) hx hb dX12_reckon_134 (by decide) (fun c171 => ?_) (fun c171 => ?_)
      · have ic171 : u.toInt ≥ a.toInt := zl_ge rfl rfl c171
        refine lv_lconst (v := 0) hx hb dX12_reckon_141 (by decide) ?_
        exact W.lret (v := 0) hx hb hr (fun t ht hW => ⟨⟨0, f, rfl, ⟨hT, hR, trivial, trivial⟩, by rw [ht]; exact hP, va_K.moved hW.alike hK, hD⟩, hS.F ht⟩) hS.2.2 dX12_reckon_142
      · have ic171 : u.toInt < a.toInt := zl_gef rfl rfl c171
        refine lv_lconst (v := 1) hx hb dX12_reckon_137 (by decide) ?_
        refine lv_goto (tgt := 142) hx hb dX12_reckon_138 (by decide) ?_
        exact W.lret (v := 1) hx hb hr (fun t ht hW => ⟨⟨1, f, rfl, ⟨hT, hR, trivial, trivial⟩, by rw [ht]; exact hP, va_K.moved hW.alike hK, hD⟩, hS.F ht⟩) hS.2.2 dX12_reckon_142
    · refine lv_tableIn (tgt := 143) hx hb dX12_reckon_1 (by omega) (by omega) (by rw [h1k]; rfl) (by decide) ?_
      refine lv_lload_n hx hb dX12_reckon_143 rfl (lv_at hl 2 rfl) ?_
      refine lv_lload hx hb dX12_reckon_144 (lv_at hl 3 rfl) ?_
      refine W.lcmp hx hb dX12_reckon_146 ?_
      refine lv_if_le (tgt := 154) hx hb dX12_reckon_147 (by decide) (fun c172 => ?_) (fun c172 => ?_)
      · have ic172 : u.toInt ≤ a.toInt := zl_le rfl rfl c172
        refine lv_lconst (v := 0) hx hb dX12_reckon_154 (by decide) ?_
        exact W.lret (v := 0) hx hb hr (fun t ht hW => ⟨⟨0, f, rfl, ⟨hT, hR, trivial, trivial⟩, by rw [ht]; exact hP, va_K.moved hW.alike hK, hD⟩, hS.F ht⟩) hS.2.2 dX12_reckon_155
      · have ic172 : u.toInt > a.toInt := zl_lef rfl rfl c172
        refine lv_lconst (v := 1) hx hb dX12_reckon_150 (by decide) ?_
        refine lv_goto (tgt := 155) hx hb dX12_reckon_151 (by decide) ?_
        exact W.lret (v := 1) hx hb hr (fun t ht hW => ⟨⟨1, f, rfl, ⟨hT, hR, trivial, trivial⟩, by rw [ht]; exact hP, va_K.moved hW.alike hK, hD⟩, hS.F ht⟩) hS.2.2 dX12_reckon_155
set_option maxHeartbeats 4000000 in
set_option maxRecDepth 100000 in
theorem t_X12_run (l : Launch) (dC : Nat → ClassId) (dI : Nat → Nat → Nat) (sz : Nat) (κ : Nat → ClassId) (Θ : Nat → Option Int) (τ ν : Nat → Nat) (ρ : Nat → Nat → Nat) (L : List Nat) (f : Nat → va_E) (hG : tp_G τ ν ρ L) (hT : tp_T (mo_O κ Θ) κ τ ν ρ f) (h0 : Nat) (uc : Int32) (v : Int32) (u : Int32) (x : Int) (b : Int) (qc : Int) (ht_h0 : τ h0 = 13) (hL_uc : uc.toInt = 2251 + 864 * qc) (hq_uc : 0 ≤ qc ∧ qc ≤ 11) (hbb : 0 ≤ b ∧ b ≤ 1000) (hJ : mo_RI x b (mo_R (mo_i (f (ρ h0 2))))) (hb9 : 0 ≤ v.toInt ∧ v.toInt ≤ u.toInt ∧ u.toInt ≤ 400) (hw : mo_WF (fun j => (mo_R (mo_i (f (ρ h0 2)))) (2251 + 864 * qc + j)) v.toInt u.toInt) : Met l yX12_run wqX12_run ({ frames := 4, cells := 0, slots := 0, locals := 1200 }) (va_Pc [.ref h0, .int uc, .int v, .int u] (pz_B dC dI (tp_K κ) (va_pl L f) sz)) (va_Qv (fun (f1 : Nat → va_E) => tp_T (mo_O κ Θ) κ τ ν ρ f1 ∧ tp_F τ [13, 61] f f1 ∧ True) (fun (f1 : Nat → va_E) (t : State) => pz_E dC dI (tp_K κ) (va_A (va_pl L f) sz) (va_pl L f1) t) (va_A (va_pl L f) sz)) 0 0 (va_A (va_pl L f) sz) := by
  refine Met.ofW (cc := cX12_run) (maxL := 8) (ret := none) (by decide) rfl ?_
  intro p e s m args below meth c s₁ B hml hv
  obtain ⟨rfl, hsz, hP, hK, hD0, hN⟩ := hv
  have hx := B.exec
  have hb := B.bytes
  have hr := B.returns
  have hts := fun (w : Cond) (h : w ∈ WALL) => atoms_spec (ws := wqX12_run) B.pre w (List.mem_cons_of_mem _ h)
  have hown : s.vm.findClass RX12 = some m.cls := findClass_of_methodNamed B.named
  have hlocks := B.notSynchronized
  subst hsz
  have hD := hD0.self (sz := s.heap.size)
  generalize hAe : va_A (va_pl L f) s.heap.size = A at hD ⊢
  have hA : ∀ q : Nat, s.heap.size ≤ q → A q := fun q h => by rw [← hAe]; exact Or.inr h
  have hS : va_S A s.heap s.heap [] := va_S.rf
  have hR : tp_F τ [13, 61] f f := tp_F.rf
  have hl := lv_entry ([.ref h0, .int uc, .int v, .int u]) (n := 8) (Nat.le_of_ble_eq_true rfl)
  rw [lg_entry_eq]
  generalize (lg_sl ([.ref h0, .int uc, .int v, .int u]) ++ List.replicate (8 - (lg_sl ([.ref h0, .int uc, .int v, .int u])).length) Slot.unset).toArray = ls at hl ⊢
  have hl : lv_has ls 8 [(0, .ref h0), (1, .int uc), (2, .int v), (3, .int u)] := hl
  refine tgk_13 hG ht_h0 (fun y1 y2 y3 y4 y5 y6 y7 y8 y9 y10 y11 y12 y13 y14 y15 y16 y17 y18 y19 y20 y21 y22 y23 y24 y25 => ?_)
  refine tpk_32 hT y1 (fun g27 hf_o26 => ?_)
  have hI : mo_RI x b (mo_R g27) := by have q9 := hJ; rw [hf_o26, mo_i1] at q9; exact q9
  rw [hf_o26, mo_i1] at hw
  obtain ⟨dd, hd0, hd⟩ := hw.row
  refine lv_aload_n hx hb dX12_run_0 rfl (lv_at hl 0 rfl) ?_
  refine lv_iconst (v := 0) hx hb dX12_run_1 (by decide) ?_
  refine tpk_13 hT ht_h0 (fun o28_x0 o28_x1 o28_x7 o28_x9 o28_x10 o28_x11 o28_x12 o28_x13 o28_x14 o28_x15 o28_x16 o28_x17 o28_x18 o28_x19 o28_x20 o28_x22 o28_x25 o28_x28 o28_x29 o28_x32 o28_x33 o28_x34 o28_x35 o28_x36 o28_x37 o28_x38 o28_x47 o28_x48 hf_o28 ro28_0 ro28_1 ro28_2 ro28_3 ro28_4 ro28_5 ro28_6 ro28_7 ro28_8 ro28_9 ro28_10 ro28_11 ro28_12 ro28_13 ro28_14 => ?_)
  refine tpk_pos (tp_in hG ht_h0 (by decide)) hf_o28 (fun q29 eq29 => ?_)
  refine va_put (D := (dC, dI)) (ci := 12) (v := .int 0) (ty := .boolean) (C := RX12) (T := TX12) (N := 53) hx hb hts hfX12 tyX12 tyX12_ok nmX12 hown hK hP hD hS q29 eq29 rfl 32 (by decide) (hts (.fieldLink RX12 440 "ColdShipsModel" "broken" "Z") wa_1219) (fun _ h9 => h9) rfl (tyX12_ok 32 (by decide)) rfl rfl (Nat.le_of_ble_eq_true rfl) dX12_run_2 (tp_k (.inr (12, [.int o28_x0, .int o28_x1, .ref (ρ h0 2), .ref (ρ h0 3), .ref (ρ h0 4), .ref (ρ h0 5), .ref (ρ h0 6), .int o28_x7, .ref (ρ h0 8), .int o28_x9, .int o28_x10, .int o28_x11, .int o28_x12, .long o28_x13, .int o28_x14, .int o28_x15, .int o28_x16, .int o28_x17, .int o28_x18, .int o28_x19, .int o28_x20, .ref (ρ h0 21), .int o28_x22, .ref (ρ h0 23), .ref (ρ h0 24), .int o28_x25, .ref (ρ h0 26), .ref (ρ h0 27), .int o28_x28, .int o28_x29, .ref (ρ h0 30), .ref (ρ h0 31), .int 0, .long o28_x33, .long o28_x34, .long o28_x35, .int o28_x36, .int o28_x37, .int o28_x38, .ref (ρ h0 39), .ref (ρ h0 40), .ref (ρ h0 41), .ref (ρ h0 42), .ref (ρ h0 43), .ref (ρ h0 44), .ref (ρ h0 45), .ref (ρ h0 46), .int o28_x47, .int o28_x48, .ref (ρ h0 49), .ref (ρ h0 50), .ref (ρ h0 51), .ref (ρ h0 52)])) hD (tp_in hG ht_h0 (by decide)) eq29 (fun f30 H locs hP hD hS g32 k31 => ?_))
  have hT := hT.up ht_h0 g32 k31 ⟨_, _, _, _, _, _, _, _, _, _, _, _, _, _, _, _, _, _, _, _, _, _, _, _, _, _, _, _, rfl, ro28_0, ro28_1, ro28_2, ro28_3, ro28_4, ro28_5, ro28_6, ro28_7, ro28_8, ro28_9, (by decide), ro28_11, ro28_12, ro28_13, ro28_14⟩
  have hR := hR.up ht_h0 (by decide) k31
  refine lv_iconst (v := 0) hx hb dX12_run_5 (by decide) ?_
  refine lv_istore (lv' := [(4, .int 0), (0, .ref h0), (1, .int uc), (2, .int v), (3, .int u)]) hx hb dX12_run_6 hl (by decide) rfl (fun ls hl => ?_)
  refine lv_iload_n hx hb dX12_run_8 rfl (lv_at hl 3 rfl) ?_
  refine lv_istore (lv' := [(5, .int v), (4, .int 0), (0, .ref h0), (1, .int uc), (2, .int v), (3, .int u)]) hx hb dX12_run_9 hl (by decide) rfl (fun ls hl => ?_)
  have hf_33 : f30 (ρ h0 2) = .inl (κ 0, 12967, .inl g27) := (k31 _ (tp_ne y1 ht_h0 (by decide))).trans hf_o26
  refine pz_loop (fun n0 H locs ls => ∃ f40 : Nat → va_E, ∃ w34 : Int32, ∃ w35 : Int32, n0 = (400 - (w34.toInt)).toNat ∧ tp_T (mo_O κ Θ) κ τ ν ρ f40 ∧ tp_F τ [13, 61] f f40 ∧ f40 (ρ h0 2) = .inl (κ 0, 12967, .inl g27) ∧ (0 ≤ w34.toInt ∧ w34.toInt ≤ 400) ∧ (0 ≤ w35.toInt ∧ w35.toInt ≤ 400) ∧ (v.toInt ≤ (w34.toInt)) ∧ ((w34.toInt) ≤ u.toInt) ∧ ((w35.toInt) = dd (w34.toInt)) ∧ va_P (dC, dI) vwCl (va_pl L f40) H ∧ va_D A (va_pl L f40) ∧ va_S A s.heap H locs ∧ lv_has ls 8 [(5, .int w34), (4, .int w35), (0, .ref h0), (1, .int uc), (2, .int v), (3, .int u)]) ?_ _ _ _ _ ⟨f30, v, 0, rfl, hT, hR, hf_33, (by have : (0 : Int32).toInt = 0 := rfl; omega), (by have : (0 : Int32).toInt = 0 := rfl; omega), (by have : (0 : Int32).toInt = 0 := rfl; omega), (by have : (0 : Int32).toInt = 0 := rfl; omega), (by first | (have : (0 : Int32).toInt = 0 := rfl; have q9 := hd0; omega)), hP, hD, hS, lv_sub hl [0, 1, 2, 3, 4, 5] rfl⟩
  intro n0 H locs ls hI ih42
  refine Exists.elim hI (fun f40 hE90 => Exists.elim hE90 (fun w34 hE91 => Exists.elim hE91 (fun w35 hE92 => tn_13 hE92 (fun hn43 hT hR hk39k rw34 rw35 k36 k37 k38 hP hD hS hl => ?_))))
  clear hE92 hE91 hE90 hI
  refine lv_iload hx hb dX12_run_11 (lv_at hl 0 rfl) ?_
  refine lv_iload_n hx hb dX12_run_13 rfl (lv_at hl 5 rfl) ?_
  refine tp_join 248 (fun H locs ls stk => stk = [] ∧ va_P (dC, dI) vwCl (va_pl L f40) H ∧ va_D A (va_pl L f40) ∧ va_S A s.heap H locs ∧ lv_has ls 8 [(5, .int w34), (4, .int w35), (0, .ref h0), (1, .int uc), (2, .int v), (3, .int u)]) ?_ (fun hj44 => ?_)
  · intro H locs ls stk hI
    refine tn_5 hI (fun e90 hP hD hS hl => ?_)
    clear hI; subst e90
    refine lv_aload_n hx hb dX12_run_248 rfl (lv_at hl 2 rfl) ?_
    refine lv_iload hx hb dX12_run_249 (lv_at hl 1 rfl) ?_
    refine lv_if_le (tgt := 263) hx hb dX12_run_251 (by decide) (fun c45 => ?_) (fun c45 => ?_)
    · have ic45 : w35.toInt ≤ 0 := zi_le rfl rfl c45
      refine lv_lconst (v := 0) hx hb dX12_run_263 (by decide) ?_
      refine tpk_13 hT ht_h0 (fun o46_x0 o46_x1 o46_x7 o46_x9 o46_x10 o46_x11 o46_x12 o46_x13 o46_x14 o46_x15 o46_x16 o46_x17 o46_x18 o46_x19 o46_x20 o46_x22 o46_x25 o46_x28 o46_x29 o46_x32 o46_x33 o46_x34 o46_x35 o46_x36 o46_x37 o46_x38 o46_x47 o46_x48 hf_o46 ro46_0 ro46_1 ro46_2 ro46_3 ro46_4 ro46_5 ro46_6 ro46_7 ro46_8 ro46_9 ro46_10 ro46_11 ro46_12 ro46_13 ro46_14 => ?_)
      refine tpk_pos (tp_in hG ht_h0 (by decide)) hf_o46 (fun q47 eq47 => ?_)
      refine va_put (D := (dC, dI)) (ci := 12) (v := .long 0) (ty := .long) (C := RX12) (T := TX12) (N := 53) hx hb hts hfX12 tyX12 tyX12_ok nmX12 hown hK hP hD hS q47 eq47 rfl 33 (by decide) (hts (.fieldLink RX12 449 "ColdShipsModel" "value" "J") wa_1220) (fun _ h9 => h9) rfl (tyX12_ok 33 (by decide)) rfl rfl (Nat.le_of_ble_eq_true rfl) dX12_run_264 (tp_k (.inr (12, [.int o46_x0, .int o46_x1, .ref (ρ h0 2), .ref (ρ h0 3), .ref (ρ h0 4), .ref (ρ h0 5), .ref (ρ h0 6), .int o46_x7, .ref (ρ h0 8), .int o46_x9, .int o46_x10, .int o46_x11, .int o46_x12, .long o46_x13, .int o46_x14, .int o46_x15, .int o46_x16, .int o46_x17, .int o46_x18, .int o46_x19, .int o46_x20, .ref (ρ h0 21), .int o46_x22, .ref (ρ h0 23), .ref (ρ h0 24), .int o46_x25, .ref (ρ h0 26), .ref (ρ h0 27), .int o46_x28, .int o46_x29, .ref (ρ h0 30), .ref (ρ h0 31), .int o46_x32, .long 0, .long o46_x34, .long o46_x35, .int o46_x36, .int o46_x37, .int o46_x38, .ref (ρ h0 39), .ref (ρ h0 40), .ref (ρ h0 41), .ref (ρ h0 42), .ref (ρ h0 43), .ref (ρ h0 44), .ref (ρ h0 45), .ref (ρ h0 46), .int o46_x47, .int o46_x48, .ref (ρ h0 49), .ref (ρ h0 50), .ref (ρ h0 51), .ref (ρ h0 52)])) hD (tp_in hG ht_h0 (by decide)) eq47 (fun f48 H locs hP hD hS g50 k49 => ?_))
      have hT := hT.up ht_h0 g50 k49 ⟨_, _, _, _, _, _, _, _, _, _, _, _, _, _, _, _, _, _, _, _, _, _, _, _, _, _, _, _, rfl, ro46_0, ro46_1, ro46_2, ro46_3, ro46_4, ro46_5, ro46_6, ro46_7, ro46_8, ro46_9, ro46_10, ro46_11, ro46_12, ro46_13, ro46_14⟩
      have hR := hR.up ht_h0 (by decide) k49
      exact W.vret hx hb hr (fun t ht hW => ⟨⟨f48, rfl, ⟨hT, hR, trivial⟩, by rw [ht]; exact hP, va_K.moved hW.alike hK, hD⟩, hS.F ht⟩) hS.2.2 dX12_run_267
    · have ic45 : w35.toInt > 0 := zi_lef rfl rfl c45
      refine lv_aload_n hx hb dX12_run_254 rfl (lv_at hl 2 rfl) ?_
      refine tpk_13 hT ht_h0 (fun o51_x0 o51_x1 o51_x7 o51_x9 o51_x10 o51_x11 o51_x12 o51_x13 o51_x14 o51_x15 o51_x16 o51_x17 o51_x18 o51_x19 o51_x20 o51_x22 o51_x25 o51_x28 o51_x29 o51_x32 o51_x33 o51_x34 o51_x35 o51_x36 o51_x37 o51_x38 o51_x47 o51_x48 hf_o51 ro51_0 ro51_1 ro51_2 ro51_3 ro51_4 ro51_5 ro51_6 ro51_7 ro51_8 ro51_9 ro51_10 ro51_11 ro51_12 ro51_13 ro51_14 => ?_)
      refine tpk_pos (tp_in hG ht_h0 (by decide)) hf_o51 (fun q52 eq52 => ?_)
      refine va_get (D := (dC, dI)) (ci := 12) (v := .ref (ρ h0 31)) (C := RX12) (T := TX12) (N := 53) hx hb hts hfX12 hown hK hP q52 eq52 rfl 31 (by decide) (hts (.fieldLink RX12 52 "ColdShipsModel" "rest" "[J") wa_162) (fun _ h9 => h9) rfl dX12_run_255 ?_
      refine lv_iconst (v := 0) hx hb dX12_run_258 (by decide) ?_
      refine tpk_61 hT y13 (fun g54 hf_o53 => ?_)
      refine tpk_pos (tp_in hG y13 (by decide)) hf_o53 (fun q55 eq55 => ?_)
      refine va_lald hx hb hK hP q55 1 eq55 rfl (vp_in_iff.mpr ⟨by decide, by decide⟩) dX12_run_259 ?_
      refine lv_topl (fun z56 ez56 => ?_)
      refine lv_goto (tgt := 264) hx hb dX12_run_260 (by decide) ?_
      refine va_put (D := (dC, dI)) (ci := 12) (v := .long z56) (ty := .long) (C := RX12) (T := TX12) (N := 53) hx hb hts hfX12 tyX12 tyX12_ok nmX12 hown hK hP hD hS q52 eq52 rfl 33 (by decide) (hts (.fieldLink RX12 449 "ColdShipsModel" "value" "J") wa_1220) (fun _ h9 => h9) rfl (tyX12_ok 33 (by decide)) rfl rfl (Nat.le_of_ble_eq_true rfl) dX12_run_264 (tp_k (.inr (12, [.int o51_x0, .int o51_x1, .ref (ρ h0 2), .ref (ρ h0 3), .ref (ρ h0 4), .ref (ρ h0 5), .ref (ρ h0 6), .int o51_x7, .ref (ρ h0 8), .int o51_x9, .int o51_x10, .int o51_x11, .int o51_x12, .long o51_x13, .int o51_x14, .int o51_x15, .int o51_x16, .int o51_x17, .int o51_x18, .int o51_x19, .int o51_x20, .ref (ρ h0 21), .int o51_x22, .ref (ρ h0 23), .ref (ρ h0 24), .int o51_x25, .ref (ρ h0 26), .ref (ρ h0 27), .int o51_x28, .int o51_x29, .ref (ρ h0 30), .ref (ρ h0 31), .int o51_x32, .long z56, .long o51_x34, .long o51_x35, .int o51_x36, .int o51_x37, .int o51_x38, .ref (ρ h0 39), .ref (ρ h0 40), .ref (ρ h0 41), .ref (ρ h0 42), .ref (ρ h0 43), .ref (ρ h0 44), .ref (ρ h0 45), .ref (ρ h0 46), .int o51_x47, .int o51_x48, .ref (ρ h0 49), .ref (ρ h0 50), .ref (ρ h0 51), .ref (ρ h0 52)])) hD (tp_in hG ht_h0 (by decide)) eq52 (fun f57 H locs hP hD hS g59 k58 => ?_))
      have hT := hT.up ht_h0 g59 k58 ⟨_, _, _, _, _, _, _, _, _, _, _, _, _, _, _, _, _, _, _, _, _, _, _, _, _, _, _, _, rfl, ro51_0, ro51_1, ro51_2, ro51_3, ro51_4, ro51_5, ro51_6, ro51_7, ro51_8, ro51_9, ro51_10, ro51_11, ro51_12, ro51_13, ro51_14⟩
      have hR := hR.up ht_h0 (by decide) k58
      exact W.vret hx hb hr (fun t ht hW => ⟨⟨f57, rfl, ⟨hT, hR, trivial⟩, by rw [ht]; exact hP, va_K.moved hW.alike hK, hD⟩, hS.F ht⟩) hS.2.2 dX12_run_267
  · refine lv_icmp_ge (tgt := 248) hx hb dX12_run_14 (by decide) (fun c60 => ?_) (fun c60 => ?_)
    · have ic60 : w34.toInt ≥ u.toInt := zi_ge rfl rfl c60
      exact hj44 _ _ _ _ ⟨rfl, hP, hD, hS, lv_sub hl [0, 1, 2, 3, 4, 5] rfl⟩
    · have ic60 : w34.toInt < u.toInt := zi_gef rfl rfl c60
      refine lv_aload_n hx hb dX12_run_17 rfl (lv_at hl 2 rfl) ?_
      refine tpk_13 hT ht_h0 (fun o61_x0 o61_x1 o61_x7 o61_x9 o61_x10 o61_x11 o61_x12 o61_x13 o61_x14 o61_x15 o61_x16 o61_x17 o61_x18 o61_x19 o61_x20 o61_x22 o61_x25 o61_x28 o61_x29 o61_x32 o61_x33 o61_x34 o61_x35 o61_x36 o61_x37 o61_x38 o61_x47 o61_x48 hf_o61 ro61_0 ro61_1 ro61_2 ro61_3 ro61_4 ro61_5 ro61_6 ro61_7 ro61_8 ro61_9 ro61_10 ro61_11 ro61_12 ro61_13 ro61_14 => ?_)
      refine tpk_pos (tp_in hG ht_h0 (by decide)) hf_o61 (fun q62 eq62 => ?_)
      have ro61_10 := tp_hu ro61_10
      refine va_get (D := (dC, dI)) (ci := 12) (v := .int o61_x32) (C := RX12) (T := TX12) (N := 53) hx hb hts hfX12 hown hK hP q62 eq62 rfl 32 (by decide) (hts (.fieldLink RX12 440 "ColdShipsModel" "broken" "Z") wa_1219) (fun _ h9 => h9) rfl dX12_run_18 ?_
      refine lv_if_ne (tgt := 248) hx hb dX12_run_21 (by decide) (fun c63 => ?_) (fun c63 => ?_)
      · have ic63 : o61_x32.toInt ≠ 0 := zi_ne rfl rfl c63
        replace ic63 : 1 ≤ o61_x32.toInt := by omega
        exact hj44 _ _ _ _ ⟨rfl, hP, hD, hS, lv_sub hl [0, 1, 2, 3, 4, 5] rfl⟩
      · have ic63 : o61_x32.toInt = 0 := zi_nef rfl rfl c63
        have hk9 := hd w34.toInt (by omega) (by omega)
        refine lv_aload_n hx hb dX12_run_24 rfl (lv_at hl 2 rfl) ?_
        refine va_get (D := (dC, dI)) (ci := 12) (v := .ref (ρ h0 2)) (C := RX12) (T := TX12) (N := 53) hx hb hts hfX12 hown hK hP q62 eq62 rfl 2 (by decide) (hts (.fieldLink RX12 7 "ColdShipsModel" "row" "[I") wa_148) (fun _ h9 => h9) rfl dX12_run_25 ?_
        refine lv_iload_n hx hb dX12_run_28 rfl (lv_at hl 3 rfl) ?_
        refine lv_bipush (v := 64) hx hb dX12_run_29 (by decide) ?_
        refine lv_iadd hx hb dX12_run_31 ?_
        refine lv_topi (fun z64 ez64 => ?_)
        have iz64 : z64.toInt = uc.toInt + 64 := zi_add ez64 rfl rfl (by omega) (by omega)
        refine lv_iconst (v := 2) hx hb dX12_run_32 (by decide) ?_
        refine lv_iload hx hb dX12_run_33 (lv_at hl 0 rfl) ?_
        refine lv_imul hx hb dX12_run_35 ?_
        refine lv_topi (fun z65 ez65 => ?_)
        have iz65 : z65.toInt = 2 * w34.toInt := zi_mul ez65 rfl rfl (by omega) (by omega)
        refine lv_iadd hx hb dX12_run_36 ?_
        refine lv_topi (fun z66 ez66 => ?_)
        have iz66 : z66.toInt = z64.toInt + z65.toInt := zi_add ez66 rfl rfl (by omega) (by omega)
        refine tpk_pos (tp_in hG y1 (by decide)) hk39k (fun q67 eq67 => ?_)
        refine va_iald hx hb hK hP q67 0 eq67 rfl (vp_in_iff.mpr ⟨by omega, by omega⟩) dX12_run_37 ?_
        refine lv_topi (fun z68 ez68 => ?_)
        have jz68 : z68.toInt = mo_R g27 (2251 + 864 * qc + 64 + 2 * w34.toInt) := mo_rd ez68 (by omega)
        refine lv_istore (lv' := [(6, .int z68), (5, .int w34), (4, .int w35), (0, .ref h0), (1, .int uc), (2, .int v), (3, .int u)]) hx hb dX12_run_38 hl (by decide) rfl (fun ls hl => ?_)
        refine lv_aload_n hx hb dX12_run_40 rfl (lv_at hl 3 rfl) ?_
        refine va_get (D := (dC, dI)) (ci := 12) (v := .ref (ρ h0 2)) (C := RX12) (T := TX12) (N := 53) hx hb hts hfX12 hown hK hP q62 eq62 rfl 2 (by decide) (hts (.fieldLink RX12 7 "ColdShipsModel" "row" "[I") wa_148) (fun _ h9 => h9) rfl dX12_run_41 ?_
        refine lv_iload_n hx hb dX12_run_44 rfl (lv_at hl 4 rfl) ?_
        refine lv_bipush (v := 64) hx hb dX12_run_45 (by decide) ?_
        refine lv_iadd hx hb dX12_run_47 ?_
        refine lv_topi (fun z69 ez69 => ?_)
        have iz69 : z69.toInt = uc.toInt + 64 := zi_add ez69 rfl rfl (by omega) (by omega)
        refine lv_iconst (v := 2) hx hb dX12_run_48 (by decide) ?_
        refine lv_iload hx hb dX12_run_49 (lv_at hl 1 rfl) ?_
        refine lv_imul hx hb dX12_run_51 ?_
        refine lv_topi (fun z70 ez70 => ?_)
        have iz70 : z70.toInt = 2 * w34.toInt := zi_mul ez70 rfl rfl (by omega) (by omega)
        refine lv_iadd hx hb dX12_run_52 ?_
        refine lv_topi (fun z71 ez71 => ?_)
        have iz71 : z71.toInt = z69.toInt + z70.toInt := zi_add ez71 rfl rfl (by omega) (by omega)
        refine lv_iconst (v := 1) hx hb dX12_run_53 (by decide) ?_
        refine lv_iadd hx hb dX12_run_54 ?_
        refine lv_topi (fun z72 ez72 => ?_)
        have iz72 : z72.toInt = z71.toInt + 1 := zi_add ez72 rfl rfl (by omega) (by omega)
        refine va_iald hx hb hK hP q67 0 eq67 rfl (vp_in_iff.mpr ⟨by omega, by omega⟩) dX12_run_55 ?_
        refine lv_topi (fun z73 ez73 => ?_)
        have jz73 : z73.toInt = mo_R g27 (2251 + 864 * qc + 65 + 2 * w34.toInt) := mo_rd ez73 (by omega)
        refine lv_istore (lv' := [(7, .int z73), (6, .int z68), (5, .int w34), (4, .int w35), (0, .ref h0), (1, .int uc), (2, .int v), (3, .int u)]) hx hb dX12_run_56 hl (by decide) rfl (fun ls hl => ?_)
        obtain ⟨z74, ez74⟩ : ∃ y : Int32, y = w34 + 1 := ⟨_, rfl⟩
        refine lv_iinc (v := z74) (lv' := [(5, .int z74), (7, .int z73), (6, .int z68), (4, .int w35), (0, .ref h0), (1, .int uc), (2, .int v), (3, .int u)]) hx hb dX12_run_58 hl (k := 2) rfl (by rw [ez74]; rfl) (by decide) rfl (fun ls hl => ?_)
        have iz74 : z74.toInt = w34.toInt + 1 := zi_add ez74 rfl rfl (by omega) (by omega)
        refine lv_iload hx hb dX12_run_61 (lv_at hl 2 rfl) ?_
        refine lv_bipush (v := 10) hx hb dX12_run_63 (by decide) ?_
        refine lv_icmp_ge (tgt := 99) hx hb dX12_run_65 (by decide) (fun c75 => ?_) (fun c75 => ?_)
        · have ic75 : z68.toInt ≥ 10 := zi_ge rfl rfl c75
          refine lv_iload hx hb dX12_run_99 (lv_at hl 2 rfl) ?_
          refine lv_bipush (v := 17) hx hb dX12_run_101 (by decide) ?_
          refine lv_icmp_ge (tgt := 180) hx hb dX12_run_103 (by decide) (fun c76 => ?_) (fun c76 => ?_)
          · have ic76 : z68.toInt ≥ 17 := zi_ge rfl rfl c76
            refine lv_iload hx hb dX12_run_180 (lv_at hl 2 rfl) ?_
            refine lv_bipush (v := 17) hx hb dX12_run_182 (by decide) ?_
            refine lv_icmp_ne (tgt := 210) hx hb dX12_run_184 (by decide) (fun c77 => ?_) (fun c77 => ?_)
            · have ic77 : z68.toInt ≠ 17 := zi_ne rfl rfl c77
              replace ic77 : 18 ≤ z68.toInt := by omega
              refine lv_aload_n hx hb dX12_run_210 rfl (lv_at hl 4 rfl) ?_
              refine va_get (D := (dC, dI)) (ci := 12) (v := .ref (ρ h0 31)) (C := RX12) (T := TX12) (N := 53) hx hb hts hfX12 hown hK hP q62 eq62 rfl 31 (by decide) (hts (.fieldLink RX12 52 "ColdShipsModel" "rest" "[J") wa_162) (fun _ h9 => h9) rfl dX12_run_211 ?_
              refine lv_iload hx hb dX12_run_214 (lv_at hl 3 rfl) ?_
              refine lv_iconst (v := 1) hx hb dX12_run_216 (by decide) ?_
              refine lv_isub hx hb dX12_run_217 ?_
              refine lv_topi (fun z78 ez78 => ?_)
              have iz78 : z78.toInt = w35.toInt - 1 := zi_sub ez78 rfl rfl (by omega) (by omega)
              refine tpk_61 hT y13 (fun g80 hf_o79 => ?_)
              refine tpk_pos (tp_in hG y13 (by decide)) hf_o79 (fun q81 eq81 => ?_)
              refine va_lald hx hb hK hP q81 1 eq81 rfl (vp_in_iff.mpr ⟨by omega, by omega⟩) dX12_run_218 ?_
              refine lv_topl (fun z82 ez82 => ?_)
              refine lv_iload hx hb dX12_run_219 (lv_at hl 2 rfl) ?_
              refine lv_bipush (v := 18) hx hb dX12_run_221 (by decide) ?_
              refine lv_icmp_ne (tgt := 230) hx hb dX12_run_223 (by decide) (fun c83 => ?_) (fun c83 => ?_)
              · have ic83 : z68.toInt ≠ 18 := zi_ne rfl rfl c83
                replace ic83 : 19 ≤ z68.toInt := by omega
                refine lv_lconst (v := 1) hx hb dX12_run_230 (by decide) ?_
                refine W.lcmp hx hb dX12_run_231 ?_
                refine lv_if_ne (tgt := 242) hx hb dX12_run_232 (by decide) (fun c84 => ?_) (fun c84 => ?_)
                · have ic84 : z82.toInt ≠ 1 := zl_ne rfl rfl c84
                  obtain ⟨z85, ez85⟩ : ∃ y : Int32, y = w35 + (-1) := ⟨_, rfl⟩
                  refine lv_iinc (v := z85) (lv' := [(4, .int z85), (5, .int z74), (7, .int z73), (6, .int z68), (0, .ref h0), (1, .int uc), (2, .int v), (3, .int u)]) hx hb dX12_run_242 hl (k := 3) rfl (by rw [ez85]; rfl) (by decide) rfl (fun ls hl => ?_)
                  have iz85 : z85.toInt = w35.toInt + (-1) := zi_add ez85 rfl rfl (by omega) (by omega)
                  refine lv_goto (tgt := 11) hx hb dX12_run_245 (by decide) ?_
                  exact ih42 _ _ _ _ (by rw [hn43]; omega) ⟨f40, z74, z85, rfl, hT, hR, hk39k, (by omega), (by omega), (by omega), (by omega), (by first | (omega) | (have q9 := congrArg dd (show z74.toInt = w34.toInt + 1 by omega); omega) | (have q9 := congrArg dd (show z74.toInt = mo_R g27 (2251 + 864 * qc + 65 + 2 * w34.toInt) by omega); omega)), hP, hD, hS, lv_sub hl [1, 0, 4, 5, 6, 7] rfl⟩
                · have ic84 : z82.toInt = 1 := zl_nef rfl rfl c84
                  refine lv_iload hx hb dX12_run_235 (lv_at hl 1 rfl) ?_
                  refine lv_istore (lv' := [(5, .int z73), (7, .int z73), (6, .int z68), (4, .int w35), (0, .ref h0), (1, .int uc), (2, .int v), (3, .int u)]) hx hb dX12_run_237 hl (by decide) rfl (fun ls hl => ?_)
                  refine lv_goto (tgt := 245) hx hb dX12_run_239 (by decide) ?_
                  refine lv_goto (tgt := 11) hx hb dX12_run_245 (by decide) ?_
                  exact ih42 _ _ _ _ (by rw [hn43]; omega) ⟨f40, z73, w35, rfl, hT, hR, hk39k, (by omega), (by omega), (by omega), (by omega), (by first | (omega) | (have q9 := congrArg dd (show z73.toInt = w34.toInt + 1 by omega); omega) | (have q9 := congrArg dd (show z73.toInt = mo_R g27 (2251 + 864 * qc + 65 + 2 * w34.toInt) by omega); omega)), hP, hD, hS, lv_sub hl [0, 3, 4, 5, 6, 7] rfl⟩
              · have ic83 : z68.toInt = 18 := zi_nef rfl rfl c83
                refine lv_lconst (v := 0) hx hb dX12_run_226 (by decide) ?_
                refine lv_goto (tgt := 231) hx hb dX12_run_227 (by decide) ?_
                refine W.lcmp hx hb dX12_run_231 ?_
                refine lv_if_ne (tgt := 242) hx hb dX12_run_232 (by decide) (fun c86 => ?_) (fun c86 => ?_)
                · have ic86 : z82.toInt ≠ 0 := zl_ne rfl rfl c86
                  obtain ⟨z87, ez87⟩ : ∃ y : Int32, y = w35 + (-1) := ⟨_, rfl⟩
                  refine lv_iinc (v := z87) (lv' := [(4, .int z87), (5, .int z74), (7, .int z73), (6, .int z68), (0, .ref h0), (1, .int uc), (2, .int v), (3, .int u)]) hx hb dX12_run_242 hl (k := 3) rfl (by rw [ez87]; rfl) (by decide) rfl (fun ls hl => ?_)
                  have iz87 : z87.toInt = w35.toInt + (-1) := zi_add ez87 rfl rfl (by omega) (by omega)
                  refine lv_goto (tgt := 11) hx hb dX12_run_245 (by decide) ?_
                  exact ih42 _ _ _ _ (by rw [hn43]; omega) ⟨f40, z74, z87, rfl, hT, hR, hk39k, (by omega), (by omega), (by omega), (by omega), (by first | (omega) | (have q9 := congrArg dd (show z74.toInt = w34.toInt + 1 by omega); omega) | (have q9 := congrArg dd (show z74.toInt = mo_R g27 (2251 + 864 * qc + 65 + 2 * w34.toInt) by omega); omega)), hP, hD, hS, lv_sub hl [1, 0, 4, 5, 6, 7] rfl⟩
                · have ic86 : z82.toInt = 0 := zl_nef rfl rfl c86
                  refine lv_iload hx hb dX12_run_235 (lv_at hl 1 rfl) ?_
                  refine lv_istore (lv' := [(5, .int z73), (7, .int z73), (6, .int z68), (4, .int w35), (0, .ref h0), (1, .int uc), (2, .int v), (3, .int u)]) hx hb dX12_run_237 hl (by decide) rfl (fun ls hl => ?_)
                  refine lv_goto (tgt := 245) hx hb dX12_run_239 (by decide) ?_
                  refine lv_goto (tgt := 11) hx hb dX12_run_245 (by decide) ?_
                  exact ih42 _ _ _ _ (by rw [hn43]; omega) ⟨f40, z73, w35, rfl, hT, hR, hk39k, (by omega), (by omega), (by omega), (by omega), (by first | (omega) | (have q9 := congrArg dd (show z73.toInt = w34.toInt + 1 by omega); omega) | (have q9 := congrArg dd (show z73.toInt = mo_R g27 (2251 + 864 * qc + 65 + 2 * w34.toInt) by omega); omega)), hP, hD, hS, lv_sub hl [0, 3, 4, 5, 6, 7] rfl⟩
            · have ic77 : z68.toInt = 17 := zi_nef rfl rfl c77
              refine lv_aload_n hx hb dX12_run_187 rfl (lv_at hl 4 rfl) ?_
              refine va_get (D := (dC, dI)) (ci := 12) (v := .ref (ρ h0 31)) (C := RX12) (T := TX12) (N := 53) hx hb hts hfX12 hown hK hP q62 eq62 rfl 31 (by decide) (hts (.fieldLink RX12 52 "ColdShipsModel" "rest" "[J") wa_162) (fun _ h9 => h9) rfl dX12_run_188 ?_
              refine lv_iload hx hb dX12_run_191 (lv_at hl 3 rfl) ?_
              refine lv_iconst (v := 1) hx hb dX12_run_193 (by decide) ?_
              refine lv_isub hx hb dX12_run_194 ?_
              refine lv_topi (fun z88 ez88 => ?_)
              have iz88 : z88.toInt = w35.toInt - 1 := zi_sub ez88 rfl rfl (by omega) (by omega)
              refine lv_lconst (v := 1) hx hb dX12_run_195 (by decide) ?_
              refine lv_aload_n hx hb dX12_run_196 rfl (lv_at hl 4 rfl) ?_
              refine va_get (D := (dC, dI)) (ci := 12) (v := .ref (ρ h0 31)) (C := RX12) (T := TX12) (N := 53) hx hb hts hfX12 hown hK hP q62 eq62 rfl 31 (by decide) (hts (.fieldLink RX12 52 "ColdShipsModel" "rest" "[J") wa_162) (fun _ h9 => h9) rfl dX12_run_197 ?_
              refine lv_iload hx hb dX12_run_200 (lv_at hl 3 rfl) ?_
              refine lv_iconst (v := 1) hx hb dX12_run_202 (by decide) ?_
              refine lv_isub hx hb dX12_run_203 ?_
              refine lv_topi (fun z89 ez89 => ?_)
              have iz89 : z89.toInt = w35.toInt - 1 := zi_sub ez89 rfl rfl (by omega) (by omega)
              refine tpk_61 hT y13 (fun g91 hf_o90 => ?_)
              refine tpk_pos (tp_in hG y13 (by decide)) hf_o90 (fun q92 eq92 => ?_)
              refine va_lald hx hb hK hP q92 1 eq92 rfl (vp_in_iff.mpr ⟨by omega, by omega⟩) dX12_run_204 ?_
              refine lv_topl (fun z93 ez93 => ?_)
              refine lv_lsub hx hb dX12_run_205 ?_
              refine lv_topl (fun z94 ez94 => ?_)
              refine va_last hx hb hK hP hD hS q92 1 eq92 rfl (vp_in_iff.mpr ⟨by omega, by omega⟩) dX12_run_206 (tp_k (.inl (κ 1, 400, .inr (.inl (vp_updL g91 z88.toNatClampNeg z94)))) hD (tp_in hG y13 (by decide)) eq92 (fun f95 H locs hP hD hS g97 k96 => ?_))
              have hT := hT.up y13 g97 k96 tp_o61
              have hR := hR.up y13 (by decide) k96
              generalize (vp_updL g91 z88.toNatClampNeg z94) = g98 at g97
              refine lv_goto (tgt := 245) hx hb dX12_run_207 (by decide) ?_
              refine lv_goto (tgt := 11) hx hb dX12_run_245 (by decide) ?_
              have hf_99 : f95 (ρ h0 2) = .inl (κ 0, 12967, .inl g27) := (k96 _ (tp_ne y1 y13 (by decide))).trans hk39k
              exact ih42 _ _ _ _ (by rw [hn43]; omega) ⟨f95, z74, w35, rfl, hT, hR, hf_99, (by omega), (by omega), (by omega), (by omega), (by first | (omega) | (have q9 := congrArg dd (show z74.toInt = w34.toInt + 1 by omega); omega) | (have q9 := congrArg dd (show z74.toInt = mo_R g27 (2251 + 864 * qc + 65 + 2 * w34.toInt) by omega); omega)), hP, hD, hS, lv_sub hl [0, 3, 4, 5, 6, 7] rfl⟩
          · have ic76 : z68.toInt < 17 := zi_gef rfl rfl c76
            obtain ⟨z100, ez100⟩ : ∃ y : Int32, y = w35 + (-1) := ⟨_, rfl⟩
            refine lv_iinc (v := z100) (lv' := [(4, .int z100), (5, .int z74), (7, .int z73), (6, .int z68), (0, .ref h0), (1, .int uc), (2, .int v), (3, .int u)]) hx hb dX12_run_106 hl (k := 3) rfl (by rw [ez100]; rfl) (by decide) rfl (fun ls hl => ?_)
            have iz100 : z100.toInt = w35.toInt + (-1) := zi_add ez100 rfl rfl (by omega) (by omega)
            refine lv_aload_n hx hb dX12_run_109 rfl (lv_at hl 4 rfl) ?_
            refine va_get (D := (dC, dI)) (ci := 12) (v := .ref (ρ h0 31)) (C := RX12) (T := TX12) (N := 53) hx hb hts hfX12 hown hK hP q62 eq62 rfl 31 (by decide) (hts (.fieldLink RX12 52 "ColdShipsModel" "rest" "[J") wa_162) (fun _ h9 => h9) rfl dX12_run_110 ?_
            refine lv_iload hx hb dX12_run_113 (lv_at hl 0 rfl) ?_
            refine lv_iconst (v := 1) hx hb dX12_run_115 (by decide) ?_
            refine lv_isub hx hb dX12_run_116 ?_
            refine lv_topi (fun z101 ez101 => ?_)
            have iz101 : z101.toInt = z100.toInt - 1 := zi_sub ez101 rfl rfl (by omega) (by omega)
            refine lv_aload_n hx hb dX12_run_117 rfl (lv_at hl 4 rfl) ?_
            refine lv_iload hx hb dX12_run_118 (lv_at hl 3 rfl) ?_
            refine lv_aload_n hx hb dX12_run_120 rfl (lv_at hl 4 rfl) ?_
            refine va_get (D := (dC, dI)) (ci := 12) (v := .ref (ρ h0 31)) (C := RX12) (T := TX12) (N := 53) hx hb hts hfX12 hown hK hP q62 eq62 rfl 31 (by decide) (hts (.fieldLink RX12 52 "ColdShipsModel" "rest" "[J") wa_162) (fun _ h9 => h9) rfl dX12_run_121 ?_
            refine lv_iload hx hb dX12_run_124 (lv_at hl 0 rfl) ?_
            refine lv_iconst (v := 1) hx hb dX12_run_126 (by decide) ?_
            refine lv_isub hx hb dX12_run_127 ?_
            refine lv_topi (fun z102 ez102 => ?_)
            have iz102 : z102.toInt = z100.toInt - 1 := zi_sub ez102 rfl rfl (by omega) (by omega)
            refine tpk_61 hT y13 (fun g104 hf_o103 => ?_)
            refine tpk_pos (tp_in hG y13 (by decide)) hf_o103 (fun q105 eq105 => ?_)
            refine va_lald hx hb hK hP q105 1 eq105 rfl (vp_in_iff.mpr ⟨by omega, by omega⟩) dX12_run_128 ?_
            refine lv_topl (fun z106 ez106 => ?_)
            refine lv_aload_n hx hb dX12_run_129 rfl (lv_at hl 4 rfl) ?_
            refine va_get (D := (dC, dI)) (ci := 12) (v := .ref (ρ h0 31)) (C := RX12) (T := TX12) (N := 53) hx hb hts hfX12 hown hK hP q62 eq62 rfl 31 (by decide) (hts (.fieldLink RX12 52 "ColdShipsModel" "rest" "[J") wa_162) (fun _ h9 => h9) rfl dX12_run_130 ?_
            refine lv_iload hx hb dX12_run_133 (lv_at hl 0 rfl) ?_
            refine va_lald hx hb hK hP q105 1 eq105 rfl (vp_in_iff.mpr ⟨by omega, by omega⟩) dX12_run_135 ?_
            refine lv_topl (fun z107 ez107 => ?_)
            have hFc := tp_fr hD hS hA
            refine va_calll (va_runV (As := [.int z68, .long z106, .long z107]) (rest := [.int z101, .ref (ρ h0 31)]) ⟨hx, hb, hml, hown, hts⟩ (t_X12_reckon l dC dI _ κ Θ τ ν ρ L f40 hG hT h0 z68 z106 z107 ht_h0) (cwV 3 hts gX12_run_X12_reckon rfl rfl rfl ⟨rfl, pd_X12_reckon⟩ ⟨Nat.le_of_ble_eq_true rfl, Nat.le_of_ble_eq_true rfl⟩) ⟨pz_blind, va_recv hK hP (ci := 12) (q0 := q62) rfl eq62, pz_pre hP hK hD hN⟩ rfl rfl hl.1 rfl (lv_room (Nat.le_of_ble_eq_true rfl)) dX12_run_136 ⟨Nat.le_of_ble_eq_true rfl, Nat.le_of_ble_eq_true rfl⟩) hS (fun q _ h => hFc q h) hFc (fun r108 f110 t H1 locs ht hvm hw109 hB hz1 hk1 hS => ?_)
            refine tn_4 hw109 (fun hT hF111 hw109r hw109p => ?_); clear hw109
            have hR := hR.then hF111 (by decide)
            have hP := hB.1; rw [ht] at hP; have hD := tp_ad f110 hD; clear hB hFc hz1 hk1; subst ht; generalize t.heap = H at hP hS ⊢
            have hf_112 : f110 (ρ h0 31) = .inl (κ 1, 400, .inr (.inl g104)) := (hF111 _ (by rw [tp_iu y13]; decide)).trans hf_o103
            refine tpk_pos (tp_in hG y13 (by decide)) hf_112 (fun q113 eq113 => ?_)
            refine va_last hx hb hK hP hD hS q113 1 eq113 rfl (vp_in_iff.mpr ⟨by omega, by omega⟩) dX12_run_139 (tp_k (.inl (κ 1, 400, .inr (.inl (vp_updL g104 z101.toNatClampNeg r108)))) hD (tp_in hG y13 (by decide)) eq113 (fun f114 H locs hP hD hS g116 k115 => ?_))
            have hT := hT.up y13 g116 k115 tp_o61
            have hR := hR.up y13 (by decide) k115
            generalize (vp_updL g104 z101.toNatClampNeg r108) = g117 at g116
            refine lv_aload_n hx hb dX12_run_140 rfl (lv_at hl 4 rfl) ?_
            refine lv_aload_n hx hb dX12_run_141 rfl (lv_at hl 4 rfl) ?_
            refine tpk_13 hT ht_h0 (fun o118_x0 o118_x1 o118_x7 o118_x9 o118_x10 o118_x11 o118_x12 o118_x13 o118_x14 o118_x15 o118_x16 o118_x17 o118_x18 o118_x19 o118_x20 o118_x22 o118_x25 o118_x28 o118_x29 o118_x32 o118_x33 o118_x34 o118_x35 o118_x36 o118_x37 o118_x38 o118_x47 o118_x48 hf_o118 ro118_0 ro118_1 ro118_2 ro118_3 ro118_4 ro118_5 ro118_6 ro118_7 ro118_8 ro118_9 ro118_10 ro118_11 ro118_12 ro118_13 ro118_14 => ?_)
            refine tpk_pos (tp_in hG ht_h0 (by decide)) hf_o118 (fun q119 eq119 => ?_)
            have ro118_10 := tp_hu ro118_10
            refine va_get (D := (dC, dI)) (ci := 12) (v := .int o118_x32) (C := RX12) (T := TX12) (N := 53) hx hb hts hfX12 hown hK hP q119 eq119 rfl 32 (by decide) (hts (.fieldLink RX12 440 "ColdShipsModel" "broken" "Z") wa_1219) (fun _ h9 => h9) rfl dX12_run_142 ?_
            refine lv_if_ne (tgt := 169) hx hb dX12_run_145 (by decide) (fun c120 => ?_) (fun c120 => ?_)
            · have ic120 : o118_x32.toInt ≠ 0 := zi_ne rfl rfl c120
              replace ic120 : 1 ≤ o118_x32.toInt := by omega
              refine lv_iconst (v := 1) hx hb dX12_run_169 (by decide) ?_
              refine lv_goto (tgt := 174) hx hb dX12_run_170 (by decide) ?_
              refine va_put (D := (dC, dI)) (ci := 12) (v := .int 1) (ty := .boolean) (C := RX12) (T := TX12) (N := 53) hx hb hts hfX12 tyX12 tyX12_ok nmX12 hown hK hP hD hS q119 eq119 rfl 32 (by decide) (hts (.fieldLink RX12 440 "ColdShipsModel" "broken" "Z") wa_1219) (fun _ h9 => h9) rfl (tyX12_ok 32 (by decide)) rfl rfl (Nat.le_of_ble_eq_true rfl) dX12_run_174 (tp_k (.inr (12, [.int o118_x0, .int o118_x1, .ref (ρ h0 2), .ref (ρ h0 3), .ref (ρ h0 4), .ref (ρ h0 5), .ref (ρ h0 6), .int o118_x7, .ref (ρ h0 8), .int o118_x9, .int o118_x10, .int o118_x11, .int o118_x12, .long o118_x13, .int o118_x14, .int o118_x15, .int o118_x16, .int o118_x17, .int o118_x18, .int o118_x19, .int o118_x20, .ref (ρ h0 21), .int o118_x22, .ref (ρ h0 23), .ref (ρ h0 24), .int o118_x25, .ref (ρ h0 26), .ref (ρ h0 27), .int o118_x28, .int o118_x29, .ref (ρ h0 30), .ref (ρ h0 31), .int 1, .long o118_x33, .long o118_x34, .long o118_x35, .int o118_x36, .int o118_x37, .int o118_x38, .ref (ρ h0 39), .ref (ρ h0 40), .ref (ρ h0 41), .ref (ρ h0 42), .ref (ρ h0 43), .ref (ρ h0 44), .ref (ρ h0 45), .ref (ρ h0 46), .int o118_x47, .int o118_x48, .ref (ρ h0 49), .ref (ρ h0 50), .ref (ρ h0 51), .ref (ρ h0 52)])) hD (tp_in hG ht_h0 (by decide)) eq119 (fun f121 H locs hP hD hS g123 k122 => ?_))
              have hT := hT.up ht_h0 g123 k122 ⟨_, _, _, _, _, _, _, _, _, _, _, _, _, _, _, _, _, _, _, _, _, _, _, _, _, _, _, _, rfl, ro118_0, ro118_1, ro118_2, ro118_3, ro118_4, ro118_5, ro118_6, ro118_7, ro118_8, ro118_9, (by decide), ro118_11, ro118_12, ro118_13, ro118_14⟩
              have hR := hR.up ht_h0 (by decide) k122
              refine lv_goto (tgt := 245) hx hb dX12_run_177 (by decide) ?_
              refine lv_goto (tgt := 11) hx hb dX12_run_245 (by decide) ?_
              have hf_124 : f110 (ρ h0 2) = .inl (κ 0, 12967, .inl g27) := (hF111 _ (by rw [tp_iu y1]; decide)).trans hk39k
              have hf_125 : f114 (ρ h0 2) = .inl (κ 0, 12967, .inl g27) := (k115 _ (tp_ne y1 y13 (by decide))).trans hf_124
              have hf_126 : f121 (ρ h0 2) = .inl (κ 0, 12967, .inl g27) := (k122 _ (tp_ne y1 ht_h0 (by decide))).trans hf_125
              exact ih42 _ _ _ _ (by rw [hn43]; omega) ⟨f121, z74, z100, rfl, hT, hR, hf_126, (by omega), (by omega), (by omega), (by omega), (by first | (omega) | (have q9 := congrArg dd (show z74.toInt = w34.toInt + 1 by omega); omega) | (have q9 := congrArg dd (show z74.toInt = mo_R g27 (2251 + 864 * qc + 65 + 2 * w34.toInt) by omega); omega)), hP, hD, hS, lv_sub hl [1, 0, 4, 5, 6, 7] rfl⟩
            · have ic120 : o118_x32.toInt = 0 := zi_nef rfl rfl c120
              refine lv_aload_n hx hb dX12_run_148 rfl (lv_at hl 4 rfl) ?_
              refine va_get (D := (dC, dI)) (ci := 12) (v := .ref (ρ h0 31)) (C := RX12) (T := TX12) (N := 53) hx hb hts hfX12 hown hK hP q119 eq119 rfl 31 (by decide) (hts (.fieldLink RX12 52 "ColdShipsModel" "rest" "[J") wa_162) (fun _ h9 => h9) rfl dX12_run_149 ?_
              refine lv_iload hx hb dX12_run_152 (lv_at hl 0 rfl) ?_
              refine lv_iconst (v := 1) hx hb dX12_run_154 (by decide) ?_
              refine lv_isub hx hb dX12_run_155 ?_
              refine lv_topi (fun z127 ez127 => ?_)
              have iz127 : z127.toInt = z100.toInt - 1 := zi_sub ez127 rfl rfl (by omega) (by omega)
              refine tpk_pos (tp_in hG y13 (by decide)) g116 (fun q128 eq128 => ?_)
              refine va_lald hx hb hK hP q128 1 eq128 rfl (vp_in_iff.mpr ⟨by omega, by omega⟩) dX12_run_156 ?_
              refine lv_topl (fun z129 ez129 => ?_)
              refine lv_ldc2 (own := RX12) (v := (-1000000000000)) hx hb hown (hts (.constantLong RX12 447 (-1000000000000)) wa_1225) dX12_run_157 ?_
              refine lv_ldc2 (own := RX12) (v := 1000000000000) hx hb hown (hts (.constantLong RX12 438 (1000000000000)) wa_1226) dX12_run_160 ?_
              have hf_130 : f110 (ρ h0 2) = .inl (κ 0, 12967, .inl g27) := (hF111 _ (by rw [tp_iu y1]; decide)).trans hk39k
              have hf_131 : f114 (ρ h0 2) = .inl (κ 0, 12967, .inl g27) := (k115 _ (tp_ne y1 y13 (by decide))).trans hf_130
              refine pz_calli (va_runS (As := [.long z129, .long (-1000000000000), .long 1000000000000]) (rest := [.ref h0]) ⟨hx, hb, hml, hown, hts⟩ (t_X12_in l dC dI _ z129 ((-1000000000000)) (1000000000000) (z129.toInt) ((-1000000000000)) (1000000000000) rfl rfl rfl) (va_cwS 3 hts gX12_run_X12_in rfl rfl rfl pd_X12_in ⟨Nat.le_of_ble_eq_true rfl, Nat.le_of_ble_eq_true rfl⟩) ⟨pz_blind, pz_pre pz_P0 (hK.sub (tys' := []) [] rfl) (pz_D0 (A := fun _ => True)) hN⟩ rfl rfl hl.1 rfl (lv_room (Nat.le_of_ble_eq_true rfl)) dX12_run_163 ⟨Nat.le_of_ble_eq_true rfl, Nat.le_of_ble_eq_true rfl⟩) (fun r132 hw133 => ?_)
              obtain ⟨hw133r, hw133p⟩ := hw133
              refine lv_if_ne (tgt := 173) hx hb dX12_run_166 (by decide) (fun c134 => ?_) (fun c134 => ?_)
              · have ic134 : r132.toInt ≠ 0 := zi_ne rfl rfl c134
                replace ic134 : 1 ≤ r132.toInt := by omega
                have p135 : ((-1000000000000)) ≤ (z129.toInt) ∧ (z129.toInt) ≤ (1000000000000) := (tp_cond.yes hw133p) (by omega)
                clear hw133r ic134
                refine lv_iconst (v := 0) hx hb dX12_run_173 (by decide) ?_
                refine va_put (D := (dC, dI)) (ci := 12) (v := .int 0) (ty := .boolean) (C := RX12) (T := TX12) (N := 53) hx hb hts hfX12 tyX12 tyX12_ok nmX12 hown hK hP hD hS q119 eq119 rfl 32 (by decide) (hts (.fieldLink RX12 440 "ColdShipsModel" "broken" "Z") wa_1219) (fun _ h9 => h9) rfl (tyX12_ok 32 (by decide)) rfl rfl (Nat.le_of_ble_eq_true rfl) dX12_run_174 (tp_k (.inr (12, [.int o118_x0, .int o118_x1, .ref (ρ h0 2), .ref (ρ h0 3), .ref (ρ h0 4), .ref (ρ h0 5), .ref (ρ h0 6), .int o118_x7, .ref (ρ h0 8), .int o118_x9, .int o118_x10, .int o118_x11, .int o118_x12, .long o118_x13, .int o118_x14, .int o118_x15, .int o118_x16, .int o118_x17, .int o118_x18, .int o118_x19, .int o118_x20, .ref (ρ h0 21), .int o118_x22, .ref (ρ h0 23), .ref (ρ h0 24), .int o118_x25, .ref (ρ h0 26), .ref (ρ h0 27), .int o118_x28, .int o118_x29, .ref (ρ h0 30), .ref (ρ h0 31), .int 0, .long o118_x33, .long o118_x34, .long o118_x35, .int o118_x36, .int o118_x37, .int o118_x38, .ref (ρ h0 39), .ref (ρ h0 40), .ref (ρ h0 41), .ref (ρ h0 42), .ref (ρ h0 43), .ref (ρ h0 44), .ref (ρ h0 45), .ref (ρ h0 46), .int o118_x47, .int o118_x48, .ref (ρ h0 49), .ref (ρ h0 50), .ref (ρ h0 51), .ref (ρ h0 52)])) hD (tp_in hG ht_h0 (by decide)) eq119 (fun f136 H locs hP hD hS g138 k137 => ?_))
                have hT := hT.up ht_h0 g138 k137 ⟨_, _, _, _, _, _, _, _, _, _, _, _, _, _, _, _, _, _, _, _, _, _, _, _, _, _, _, _, rfl, ro118_0, ro118_1, ro118_2, ro118_3, ro118_4, ro118_5, ro118_6, ro118_7, ro118_8, ro118_9, (by decide), ro118_11, ro118_12, ro118_13, ro118_14⟩
                have hR := hR.up ht_h0 (by decide) k137
                refine lv_goto (tgt := 245) hx hb dX12_run_177 (by decide) ?_
                refine lv_goto (tgt := 11) hx hb dX12_run_245 (by decide) ?_
                have hf_139 : f136 (ρ h0 2) = .inl (κ 0, 12967, .inl g27) := (k137 _ (tp_ne y1 ht_h0 (by decide))).trans hf_131
                exact ih42 _ _ _ _ (by rw [hn43]; omega) ⟨f136, z74, z100, rfl, hT, hR, hf_139, (by omega), (by omega), (by omega), (by omega), (by first | (omega) | (have q9 := congrArg dd (show z74.toInt = w34.toInt + 1 by omega); omega) | (have q9 := congrArg dd (show z74.toInt = mo_R g27 (2251 + 864 * qc + 65 + 2 * w34.toInt) by omega); omega)), hP, hD, hS, lv_sub hl [1, 0, 4, 5, 6, 7] rfl⟩
              · have ic134 : r132.toInt = 0 := zi_nef rfl rfl c134
                clear hw133r ic134
                refine lv_iconst (v := 1) hx hb dX12_run_169 (by decide) ?_
                refine lv_goto (tgt := 174) hx hb dX12_run_170 (by decide) ?_
                refine va_put (D := (dC, dI)) (ci := 12) (v := .int 1) (ty := .boolean) (C := RX12) (T := TX12) (N := 53) hx hb hts hfX12 tyX12 tyX12_ok nmX12 hown hK hP hD hS q119 eq119 rfl 32 (by decide) (hts (.fieldLink RX12 440 "ColdShipsModel" "broken" "Z") wa_1219) (fun _ h9 => h9) rfl (tyX12_ok 32 (by decide)) rfl rfl (Nat.le_of_ble_eq_true rfl) dX12_run_174 (tp_k (.inr (12, [.int o118_x0, .int o118_x1, .ref (ρ h0 2), .ref (ρ h0 3), .ref (ρ h0 4), .ref (ρ h0 5), .ref (ρ h0 6), .int o118_x7, .ref (ρ h0 8), .int o118_x9, .int o118_x10, .int o118_x11, .int o118_x12, .long o118_x13, .int o118_x14, .int o118_x15, .int o118_x16, .int o118_x17, .int o118_x18, .int o118_x19, .int o118_x20, .ref (ρ h0 21), .int o118_x22, .ref (ρ h0 23), .ref (ρ h0 24), .int o118_x25, .ref (ρ h0 26), .ref (ρ h0 27), .int o118_x28, .int o118_x29, .ref (ρ h0 30), .ref (ρ h0 31), .int 1, .long o118_x33, .long o118_x34, .long o118_x35, .int o118_x36, .int o118_x37, .int o118_x38, .ref (ρ h0 39), .ref (ρ h0 40), .ref (ρ h0 41), .ref (ρ h0 42), .ref (ρ h0 43), .ref (ρ h0 44), .ref (ρ h0 45), .ref (ρ h0 46), .int o118_x47, .int o118_x48, .ref (ρ h0 49), .ref (ρ h0 50), .ref (ρ h0 51), .ref (ρ h0 52)])) hD (tp_in hG ht_h0 (by decide)) eq119 (fun f140 H locs hP hD hS g142 k141 => ?_))
                have hT := hT.up ht_h0 g142 k141 ⟨_, _, _, _, _, _, _, _, _, _, _, _, _, _, _, _, _, _, _, _, _, _, _, _, _, _, _, _, rfl, ro118_0, ro118_1, ro118_2, ro118_3, ro118_4, ro118_5, ro118_6, ro118_7, ro118_8, ro118_9, (by decide), ro118_11, ro118_12, ro118_13, ro118_14⟩
                have hR := hR.up ht_h0 (by decide) k141
                refine lv_goto (tgt := 245) hx hb dX12_run_177 (by decide) ?_
                refine lv_goto (tgt := 11) hx hb dX12_run_245 (by decide) ?_
                have hf_143 : f140 (ρ h0 2) = .inl (κ 0, 12967, .inl g27) := (k141 _ (tp_ne y1 ht_h0 (by decide))).trans hf_131
                exact ih42 _ _ _ _ (by rw [hn43]; omega) ⟨f140, z74, z100, rfl, hT, hR, hf_143, (by omega), (by omega), (by omega), (by omega), (by first | (omega) | (have q9 := congrArg dd (show z74.toInt = w34.toInt + 1 by omega); omega) | (have q9 := congrArg dd (show z74.toInt = mo_R g27 (2251 + 864 * qc + 65 + 2 * w34.toInt) by omega); omega)), hP, hD, hS, lv_sub hl [1, 0, 4, 5, 6, 7] rfl⟩
        · have ic75 : z68.toInt < 10 := zi_gef rfl rfl c75
          refine lv_aload_n hx hb dX12_run_68 rfl (lv_at hl 4 rfl) ?_
          refine va_get (D := (dC, dI)) (ci := 12) (v := .ref (ρ h0 31)) (C := RX12) (T := TX12) (N := 53) hx hb hts hfX12 hown hK hP q62 eq62 rfl 31 (by decide) (hts (.fieldLink RX12 52 "ColdShipsModel" "rest" "[J") wa_162) (fun _ h9 => h9) rfl dX12_run_69 ?_
          refine lv_iload hx hb dX12_run_72 (lv_at hl 3 rfl) ?_
          refine lv_iload hx hb dX12_run_74 (lv_at hl 2 rfl) ?_
          refine lv_if_ne (tgt := 85) hx hb dX12_run_76 (by decide) (fun c144 => ?_) (fun c144 => ?_)
          · have ic144 : z68.toInt ≠ 0 := zi_ne rfl rfl c144
            refine lv_aload_n hx hb dX12_run_85 rfl (lv_at hl 4 rfl) ?_
            refine va_get (D := (dC, dI)) (ci := 12) (v := .ref (ρ h0 30)) (C := RX12) (T := TX12) (N := 53) hx hb hts hfX12 hown hK hP q62 eq62 rfl 30 (by decide) (hts (.fieldLink RX12 49 "ColdShipsModel" "set" "[J") wa_161) (fun _ h9 => h9) rfl dX12_run_86 ?_
            refine lv_iload hx hb dX12_run_89 (lv_at hl 2 rfl) ?_
            refine tpk_60 hT y12 (fun g146 hf_o145 => ?_)
            refine tpk_pos (tp_in hG y12 (by decide)) hf_o145 (fun q147 eq147 => ?_)
            refine va_lald hx hb hK hP q147 1 eq147 rfl (vp_in_iff.mpr ⟨by omega, by omega⟩) dX12_run_91 ?_
            refine lv_topl (fun z148 ez148 => ?_)
            refine tpk_61 hT y13 (fun g150 hf_o149 => ?_)
            refine tpk_pos (tp_in hG y13 (by decide)) hf_o149 (fun q151 eq151 => ?_)
            refine va_last hx hb hK hP hD hS q151 1 eq151 rfl (vp_in_iff.mpr ⟨by omega, by omega⟩) dX12_run_92 (tp_k (.inl (κ 1, 400, .inr (.inl (vp_updL g150 w35.toNatClampNeg z148)))) hD (tp_in hG y13 (by decide)) eq151 (fun f152 H locs hP hD hS g154 k153 => ?_))
            have hT := hT.up y13 g154 k153 tp_o61
            have hR := hR.up y13 (by decide) k153
            generalize (vp_updL g150 w35.toNatClampNeg z148) = g155 at g154
            obtain ⟨z156, ez156⟩ : ∃ y : Int32, y = w35 + 1 := ⟨_, rfl⟩
            refine lv_iinc (v := z156) (lv' := [(4, .int z156), (5, .int z74), (7, .int z73), (6, .int z68), (0, .ref h0), (1, .int uc), (2, .int v), (3, .int u)]) hx hb dX12_run_93 hl (k := 3) rfl (by rw [ez156]; rfl) (by decide) rfl (fun ls hl => ?_)
            have iz156 : z156.toInt = w35.toInt + 1 := zi_add ez156 rfl rfl (by omega) (by omega)
            refine lv_goto (tgt := 245) hx hb dX12_run_96 (by decide) ?_
            refine lv_goto (tgt := 11) hx hb dX12_run_245 (by decide) ?_
            have hf_157 : f152 (ρ h0 2) = .inl (κ 0, 12967, .inl g27) := (k153 _ (tp_ne y1 y13 (by decide))).trans hk39k
            exact ih42 _ _ _ _ (by rw [hn43]; omega) ⟨f152, z74, z156, rfl, hT, hR, hf_157, (by omega), (by omega), (by omega), (by omega), (by first | (omega) | (have q9 := congrArg dd (show z74.toInt = w34.toInt + 1 by omega); omega) | (have q9 := congrArg dd (show z74.toInt = mo_R g27 (2251 + 864 * qc + 65 + 2 * w34.toInt) by omega); omega)), hP, hD, hS, lv_sub hl [1, 0, 4, 5, 6, 7] rfl⟩
          · have ic144 : z68.toInt = 0 := zi_nef rfl rfl c144
            refine lv_iload hx hb dX12_run_79 (lv_at hl 1 rfl) ?_
            refine lv_i2l hx hb dX12_run_81 rfl ?_
            refine lv_goto (tgt := 92) hx hb dX12_run_82 (by decide) ?_
            refine tpk_61 hT y13 (fun g159 hf_o158 => ?_)
            refine tpk_pos (tp_in hG y13 (by decide)) hf_o158 (fun q160 eq160 => ?_)
            refine va_last hx hb hK hP hD hS q160 1 eq160 rfl (vp_in_iff.mpr ⟨by omega, by omega⟩) dX12_run_92 (tp_k (.inl (κ 1, 400, .inr (.inl (vp_updL g159 w35.toNatClampNeg z73.toInt64)))) hD (tp_in hG y13 (by decide)) eq160 (fun f161 H locs hP hD hS g163 k162 => ?_))
            have hT := hT.up y13 g163 k162 tp_o61
            have hR := hR.up y13 (by decide) k162
            generalize (vp_updL g159 w35.toNatClampNeg z73.toInt64) = g164 at g163
            obtain ⟨z165, ez165⟩ : ∃ y : Int32, y = w35 + 1 := ⟨_, rfl⟩
            refine lv_iinc (v := z165) (lv' := [(4, .int z165), (5, .int z74), (7, .int z73), (6, .int z68), (0, .ref h0), (1, .int uc), (2, .int v), (3, .int u)]) hx hb dX12_run_93 hl (k := 3) rfl (by rw [ez165]; rfl) (by decide) rfl (fun ls hl => ?_)
            have iz165 : z165.toInt = w35.toInt + 1 := zi_add ez165 rfl rfl (by omega) (by omega)
            refine lv_goto (tgt := 245) hx hb dX12_run_96 (by decide) ?_
            refine lv_goto (tgt := 11) hx hb dX12_run_245 (by decide) ?_
            have hf_166 : f161 (ρ h0 2) = .inl (κ 0, 12967, .inl g27) := (k162 _ (tp_ne y1 y13 (by decide))).trans hk39k
            exact ih42 _ _ _ _ (by rw [hn43]; omega) ⟨f161, z74, z165, rfl, hT, hR, hf_166, (by omega), (by omega), (by omega), (by omega), (by first | (omega) | (have q9 := congrArg dd (show z74.toInt = w34.toInt + 1 by omega); omega) | (have q9 := congrArg dd (show z74.toInt = mo_R g27 (2251 + 864 * qc + 65 + 2 * w34.toInt) by omega); omega)), hP, hD, hS, lv_sub hl [1, 0, 4, 5, 6, 7] rfl⟩
set_option maxHeartbeats 4000000 in
set_option maxRecDepth 100000 in
theorem t_X12_judgeLanding (l : Launch) (dC : Nat → ClassId) (dI : Nat → Nat → Nat) (sz : Nat) (κ : Nat → ClassId) (Θ : Nat → Option Int) (τ ν : Nat → Nat) (ρ : Nat → Nat → Nat) (L : List Nat) (f : Nat → va_E) (hG : tp_G τ ν ρ L) (hT : tp_T (mo_O κ Θ) κ τ ν ρ f) (h0 : Nat) (v : Int32) (uc : Int32) (x : Int) (b : Int) (qc : Int) (ht_h0 : τ h0 = 13) (hL_uc : uc.toInt = 2251 + 864 * qc) (hq_uc : 0 ≤ qc ∧ qc ≤ 11) (hbb : 0 ≤ b ∧ b ≤ 1000) (hJ : mo_RI x b (mo_R (mo_i (f (ρ h0 2))))) (hn8 : qc < (mo_R (mo_i (f (ρ h0 2)))) (8)) : Met l yX12_judgeLanding wqX12_judgeLanding ({ frames := 5, cells := 0, slots := 0, locals := 1600 }) (va_Pc [.ref h0, .int v, .int uc] (pz_B dC dI (tp_K κ) (va_pl L f) sz)) (va_Qv (fun (f1 : Nat → va_E) => tp_T (mo_O κ Θ) κ τ ν ρ f1 ∧ tp_F τ [13, 61] f f1 ∧ True) (fun (f1 : Nat → va_E) (t : State) => pz_E dC dI (tp_K κ) (va_A (va_pl L f) sz) (va_pl L f1) t) (va_A (va_pl L f) sz)) 0 0 (va_A (va_pl L f) sz) := by
  refine Met.ofW (cc := cX12_judgeLanding) (maxL := 6) (ret := none) (by decide) rfl ?_
  intro p e s m args below meth c s₁ B hml hv
  obtain ⟨rfl, hsz, hP, hK, hD0, hN⟩ := hv
  have hx := B.exec
  have hb := B.bytes
  have hr := B.returns
  have hts := fun (w : Cond) (h : w ∈ WALL) => atoms_spec (ws := wqX12_judgeLanding) B.pre w (List.mem_cons_of_mem _ h)
  have hown : s.vm.findClass RX12 = some m.cls := findClass_of_methodNamed B.named
  have hlocks := B.notSynchronized
  subst hsz
  have hD := hD0.self (sz := s.heap.size)
  generalize hAe : va_A (va_pl L f) s.heap.size = A at hD ⊢
  have hA : ∀ q : Nat, s.heap.size ≤ q → A q := fun q h => by rw [← hAe]; exact Or.inr h
  have hS : va_S A s.heap s.heap [] := va_S.rf
  have hR : tp_F τ [13, 61] f f := tp_F.rf
  have hl := lv_entry ([.ref h0, .int v, .int uc]) (n := 6) (Nat.le_of_ble_eq_true rfl)
  rw [lg_entry_eq]
  generalize (lg_sl ([.ref h0, .int v, .int uc]) ++ List.replicate (6 - (lg_sl ([.ref h0, .int v, .int uc])).length) Slot.unset).toArray = ls at hl ⊢
  have hl : lv_has ls 6 [(0, .ref h0), (1, .int v), (2, .int uc)] := hl
  refine tgk_13 hG ht_h0 (fun y1 y2 y3 y4 y5 y6 y7 y8 y9 y10 y11 y12 y13 y14 y15 y16 y17 y18 y19 y20 y21 y22 y23 y24 y25 => ?_)
  refine tpk_32 hT y1 (fun g27 hf_o26 => ?_)
  have hI : mo_RI x b (mo_R g27) := by have q9 := hJ; rw [hf_o26, mo_i1] at q9; exact q9
  rw [hf_o26, mo_i1] at hn8
  have hC9 := (hI.C (c := qc) (by omega) (by omega)).row
  refine lv_aload_n hx hb dX12_judgeLanding_0 rfl (lv_at hl 0 rfl) ?_
  refine lv_lconst (v := 0) hx hb dX12_judgeLanding_1 (by decide) ?_
  refine tpk_13 hT ht_h0 (fun o28_x0 o28_x1 o28_x7 o28_x9 o28_x10 o28_x11 o28_x12 o28_x13 o28_x14 o28_x15 o28_x16 o28_x17 o28_x18 o28_x19 o28_x20 o28_x22 o28_x25 o28_x28 o28_x29 o28_x32 o28_x33 o28_x34 o28_x35 o28_x36 o28_x37 o28_x38 o28_x47 o28_x48 hf_o28 ro28_0 ro28_1 ro28_2 ro28_3 ro28_4 ro28_5 ro28_6 ro28_7 ro28_8 ro28_9 ro28_10 ro28_11 ro28_12 ro28_13 ro28_14 => ?_)
  refine tpk_pos (tp_in hG ht_h0 (by decide)) hf_o28 (fun q29 eq29 => ?_)
  refine va_put (D := (dC, dI)) (ci := 12) (v := .long 0) (ty := .long) (C := RX12) (T := TX12) (N := 53) hx hb hts hfX12 tyX12 tyX12_ok nmX12 hown hK hP hD hS q29 eq29 rfl 34 (by decide) (hts (.fieldLink RX12 452 "ColdShipsModel" "pays" "J") wa_1190) (fun _ h9 => h9) rfl (tyX12_ok 34 (by decide)) rfl rfl (Nat.le_of_ble_eq_true rfl) dX12_judgeLanding_2 (tp_k (.inr (12, [.int o28_x0, .int o28_x1, .ref (ρ h0 2), .ref (ρ h0 3), .ref (ρ h0 4), .ref (ρ h0 5), .ref (ρ h0 6), .int o28_x7, .ref (ρ h0 8), .int o28_x9, .int o28_x10, .int o28_x11, .int o28_x12, .long o28_x13, .int o28_x14, .int o28_x15, .int o28_x16, .int o28_x17, .int o28_x18, .int o28_x19, .int o28_x20, .ref (ρ h0 21), .int o28_x22, .ref (ρ h0 23), .ref (ρ h0 24), .int o28_x25, .ref (ρ h0 26), .ref (ρ h0 27), .int o28_x28, .int o28_x29, .ref (ρ h0 30), .ref (ρ h0 31), .int o28_x32, .long o28_x33, .long 0, .long o28_x35, .int o28_x36, .int o28_x37, .int o28_x38, .ref (ρ h0 39), .ref (ρ h0 40), .ref (ρ h0 41), .ref (ρ h0 42), .ref (ρ h0 43), .ref (ρ h0 44), .ref (ρ h0 45), .ref (ρ h0 46), .int o28_x47, .int o28_x48, .ref (ρ h0 49), .ref (ρ h0 50), .ref (ρ h0 51), .ref (ρ h0 52)])) hD (tp_in hG ht_h0 (by decide)) eq29 (fun f30 H locs hP hD hS g32 k31 => ?_))
  have hT := hT.up ht_h0 g32 k31 ⟨_, _, _, _, _, _, _, _, _, _, _, _, _, _, _, _, _, _, _, _, _, _, _, _, _, _, _, _, rfl, ro28_0, ro28_1, ro28_2, ro28_3, ro28_4, ro28_5, ro28_6, ro28_7, ro28_8, ro28_9, ro28_10, ro28_11, ro28_12, ro28_13, ro28_14⟩
  have hR := hR.up ht_h0 (by decide) k31
  refine lv_aload_n hx hb dX12_judgeLanding_5 rfl (lv_at hl 0 rfl) ?_
  refine lv_lconst (v := 0) hx hb dX12_judgeLanding_6 (by decide) ?_
  refine tpk_pos (tp_in hG ht_h0 (by decide)) g32 (fun q33 eq33 => ?_)
  refine va_put (D := (dC, dI)) (ci := 12) (v := .long 0) (ty := .long) (C := RX12) (T := TX12) (N := 53) hx hb hts hfX12 tyX12 tyX12_ok nmX12 hown hK hP hD hS q33 eq33 rfl 35 (by decide) (hts (.fieldLink RX12 455 "ColdShipsModel" "fines" "J") wa_1191) (fun _ h9 => h9) rfl (tyX12_ok 35 (by decide)) rfl rfl (Nat.le_of_ble_eq_true rfl) dX12_judgeLanding_7 (tp_k (.inr (12, [.int o28_x0, .int o28_x1, .ref (ρ h0 2), .ref (ρ h0 3), .ref (ρ h0 4), .ref (ρ h0 5), .ref (ρ h0 6), .int o28_x7, .ref (ρ h0 8), .int o28_x9, .int o28_x10, .int o28_x11, .int o28_x12, .long o28_x13, .int o28_x14, .int o28_x15, .int o28_x16, .int o28_x17, .int o28_x18, .int o28_x19, .int o28_x20, .ref (ρ h0 21), .int o28_x22, .ref (ρ h0 23), .ref (ρ h0 24), .int o28_x25, .ref (ρ h0 26), .ref (ρ h0 27), .int o28_x28, .int o28_x29, .ref (ρ h0 30), .ref (ρ h0 31), .int o28_x32, .long o28_x33, .long 0, .long 0, .int o28_x36, .int o28_x37, .int o28_x38, .ref (ρ h0 39), .ref (ρ h0 40), .ref (ρ h0 41), .ref (ρ h0 42), .ref (ρ h0 43), .ref (ρ h0 44), .ref (ρ h0 45), .ref (ρ h0 46), .int o28_x47, .int o28_x48, .ref (ρ h0 49), .ref (ρ h0 50), .ref (ρ h0 51), .ref (ρ h0 52)])) hD (tp_in hG ht_h0 (by decide)) eq33 (fun f34 H locs hP hD hS g36 k35 => ?_))
  have hT := hT.up ht_h0 g36 k35 ⟨_, _, _, _, _, _, _, _, _, _, _, _, _, _, _, _, _, _, _, _, _, _, _, _, _, _, _, _, rfl, ro28_0, ro28_1, ro28_2, ro28_3, ro28_4, ro28_5, ro28_6, ro28_7, ro28_8, ro28_9, ro28_10, ro28_11, ro28_12, ro28_13, ro28_14⟩
  have hR := hR.up ht_h0 (by decide) k35
  refine lv_iconst (v := 0) hx hb dX12_judgeLanding_10 (by decide) ?_
  refine lv_istore_n (lv' := [(3, .int 0), (0, .ref h0), (1, .int v), (2, .int uc)]) hx hb dX12_judgeLanding_11 rfl hl (by decide) rfl (fun ls hl => ?_)
  have hf_37 : f30 (ρ h0 2) = .inl (κ 0, 12967, .inl g27) := (k31 _ (tp_ne y1 ht_h0 (by decide))).trans hf_o26
  have hf_38 : f34 (ρ h0 2) = .inl (κ 0, 12967, .inl g27) := (k35 _ (tp_ne y1 ht_h0 (by decide))).trans hf_37
  refine pz_loop (fun n0 H locs ls => ∃ f41 : Nat → va_E, ∃ w39 : Int32, n0 = (12 - (w39.toInt)).toNat ∧ tp_T (mo_O κ Θ) κ τ ν ρ f41 ∧ tp_F τ [13, 61] f f41 ∧ f41 (ρ h0 2) = .inl (κ 0, 12967, .inl g27) ∧ (0 ≤ w39.toInt ∧ w39.toInt ≤ 12) ∧ va_P (dC, dI) vwCl (va_pl L f41) H ∧ va_D A (va_pl L f41) ∧ va_S A s.heap H locs ∧ lv_has ls 6 [(3, .int w39), (0, .ref h0), (1, .int v), (2, .int uc)]) ?_ _ _ _ _ ⟨f34, 0, rfl, hT, hR, hf_38, (by have : (0 : Int32).toInt = 0 := rfl; omega), hP, hD, hS, lv_sub hl [0, 1, 2, 3] rfl⟩
  intro n0 H locs ls hI ih43
  refine Exists.elim hI (fun f41 hE90 => Exists.elim hE90 (fun w39 hE91 => tn_9 hE91 (fun hn44 hT hR hk40k rw39 hP hD hS hl => ?_)))
  clear hE91 hE90 hI
  refine lv_iload_n hx hb dX12_judgeLanding_12 rfl (lv_at hl 0 rfl) ?_
  refine lv_aload_n hx hb dX12_judgeLanding_13 rfl (lv_at hl 1 rfl) ?_
  refine tpk_13 hT ht_h0 (fun o45_x0 o45_x1 o45_x7 o45_x9 o45_x10 o45_x11 o45_x12 o45_x13 o45_x14 o45_x15 o45_x16 o45_x17 o45_x18 o45_x19 o45_x20 o45_x22 o45_x25 o45_x28 o45_x29 o45_x32 o45_x33 o45_x34 o45_x35 o45_x36 o45_x37 o45_x38 o45_x47 o45_x48 hf_o45 ro45_0 ro45_1 ro45_2 ro45_3 ro45_4 ro45_5 ro45_6 ro45_7 ro45_8 ro45_9 ro45_10 ro45_11 ro45_12 ro45_13 ro45_14 => ?_)
  refine tpk_pos (tp_in hG ht_h0 (by decide)) hf_o45 (fun q46 eq46 => ?_)
  refine va_get (D := (dC, dI)) (ci := 12) (v := .ref (ρ h0 2)) (C := RX12) (T := TX12) (N := 53) hx hb hts hfX12 hown hK hP q46 eq46 rfl 2 (by decide) (hts (.fieldLink RX12 7 "ColdShipsModel" "row" "[I") wa_148) (fun _ h9 => h9) rfl dX12_judgeLanding_14 ?_
  refine lv_iload_n hx hb dX12_judgeLanding_17 rfl (lv_at hl 3 rfl) ?_
  refine lv_iconst (v := 3) hx hb dX12_judgeLanding_18 (by decide) ?_
  refine lv_iadd hx hb dX12_judgeLanding_19 ?_
  refine lv_topi (fun z47 ez47 => ?_)
  have iz47 : z47.toInt = uc.toInt + 3 := zi_add ez47 rfl rfl (by omega) (by omega)
  refine tpk_pos (tp_in hG y1 (by decide)) hk40k (fun q48 eq48 => ?_)
  refine va_iald hx hb hK hP q48 0 eq48 rfl (vp_in_iff.mpr ⟨by omega, by omega⟩) dX12_judgeLanding_20 ?_
  refine lv_topi (fun z49 ez49 => ?_)
  have jz49 : z49.toInt = mo_R g27 (2251 + 864 * qc + 3) := mo_rd ez49 (by omega)
  refine lv_icmp_ge (tgt := 206) hx hb dX12_judgeLanding_21 (by decide) (fun c50 => ?_) (fun c50 => ?_)
  · have ic50 : w39.toInt ≥ z49.toInt := zi_ge rfl rfl c50
    exact W.vret hx hb hr (fun t ht hW => ⟨⟨f41, rfl, ⟨hT, hR, trivial⟩, by rw [ht]; exact hP, va_K.moved hW.alike hK, hD⟩, hS.F ht⟩) hS.2.2 dX12_judgeLanding_206
  · have ic50 : w39.toInt < z49.toInt := zi_gef rfl rfl c50
    have hk9 := hC9.2 w39.toInt (by omega) (by omega)
    refine lv_iload_n hx hb dX12_judgeLanding_24 rfl (lv_at hl 3 rfl) ?_
    refine lv_iconst (v := 4) hx hb dX12_judgeLanding_25 (by decide) ?_
    refine lv_iadd hx hb dX12_judgeLanding_26 ?_
    refine lv_topi (fun z51 ez51 => ?_)
    have iz51 : z51.toInt = uc.toInt + 4 := zi_add ez51 rfl rfl (by omega) (by omega)
    refine lv_iconst (v := 5) hx hb dX12_judgeLanding_27 (by decide) ?_
    refine lv_iload_n hx hb dX12_judgeLanding_28 rfl (lv_at hl 0 rfl) ?_
    refine lv_imul hx hb dX12_judgeLanding_29 ?_
    refine lv_topi (fun z52 ez52 => ?_)
    have iz52 : z52.toInt = 5 * w39.toInt := zi_mul ez52 rfl rfl (by omega) (by omega)
    refine lv_iadd hx hb dX12_judgeLanding_30 ?_
    refine lv_topi (fun z53 ez53 => ?_)
    have iz53 : z53.toInt = z51.toInt + z52.toInt := zi_add ez53 rfl rfl (by omega) (by omega)
    refine lv_istore (lv' := [(4, .int z53), (3, .int w39), (0, .ref h0), (1, .int v), (2, .int uc)]) hx hb dX12_judgeLanding_31 hl (by decide) rfl (fun ls hl => ?_)
    refine lv_iconst (v := 1) hx hb dX12_judgeLanding_33 (by decide) ?_
    refine lv_istore (lv' := [(5, .int 1), (4, .int z53), (3, .int w39), (0, .ref h0), (1, .int v), (2, .int uc)]) hx hb dX12_judgeLanding_34 hl (by decide) rfl (fun ls hl => ?_)
    refine lv_aload_n hx hb dX12_judgeLanding_36 rfl (lv_at hl 3 rfl) ?_
    refine va_get (D := (dC, dI)) (ci := 12) (v := .ref (ρ h0 2)) (C := RX12) (T := TX12) (N := 53) hx hb hts hfX12 hown hK hP q46 eq46 rfl 2 (by decide) (hts (.fieldLink RX12 7 "ColdShipsModel" "row" "[I") wa_148) (fun _ h9 => h9) rfl dX12_judgeLanding_37 ?_
    refine lv_iload hx hb dX12_judgeLanding_40 (lv_at hl 1 rfl) ?_
    refine lv_iconst (v := 3) hx hb dX12_judgeLanding_42 (by decide) ?_
    refine lv_iadd hx hb dX12_judgeLanding_43 ?_
    refine lv_topi (fun z54 ez54 => ?_)
    have iz54 : z54.toInt = z53.toInt + 3 := zi_add ez54 rfl rfl (by omega) (by omega)
    refine va_iald hx hb hK hP q48 0 eq48 rfl (vp_in_iff.mpr ⟨by omega, by omega⟩) dX12_judgeLanding_44 ?_
    refine lv_topi (fun z55 ez55 => ?_)
    have jz55 : z55.toInt = mo_R g27 (2251 + 864 * qc + 7 + 5 * w39.toInt) := mo_rd ez55 (by omega)
    refine lv_aload_n hx hb dX12_judgeLanding_45 rfl (lv_at hl 3 rfl) ?_
    refine va_get (D := (dC, dI)) (ci := 12) (v := .ref (ρ h0 2)) (C := RX12) (T := TX12) (N := 53) hx hb hts hfX12 hown hK hP q46 eq46 rfl 2 (by decide) (hts (.fieldLink RX12 7 "ColdShipsModel" "row" "[I") wa_148) (fun _ h9 => h9) rfl dX12_judgeLanding_46 ?_
    refine lv_iload hx hb dX12_judgeLanding_49 (lv_at hl 1 rfl) ?_
    refine lv_iconst (v := 4) hx hb dX12_judgeLanding_51 (by decide) ?_
    refine lv_iadd hx hb dX12_judgeLanding_52 ?_
    refine lv_topi (fun z56 ez56 => ?_)
    have iz56 : z56.toInt = z53.toInt + 4 := zi_add ez56 rfl rfl (by omega) (by omega)
    refine va_iald hx hb hK hP q48 0 eq48 rfl (vp_in_iff.mpr ⟨by omega, by omega⟩) dX12_judgeLanding_53 ?_
    refine lv_topi (fun z57 ez57 => ?_)
    have jz57 : z57.toInt = mo_R g27 (2251 + 864 * qc + 8 + 5 * w39.toInt) := mo_rd ez57 (by omega)
    refine lv_icmp_ge (tgt := 103) hx hb dX12_judgeLanding_54 (by decide) (fun c58 => ?_) (fun c58 => ?_)
    · have ic58 : z55.toInt ≥ z57.toInt := zi_ge rfl rfl c58
      refine lv_iload hx hb dX12_judgeLanding_103 (lv_at hl 0 rfl) ?_
      refine lv_if_eq (tgt := 200) hx hb dX12_judgeLanding_105 (by decide) (fun c9 => absurd c9 (by decide)) (fun _ => ?_)
      refine lv_aload_n hx hb dX12_judgeLanding_108 rfl (lv_at hl 3 rfl) ?_
      refine lv_iload_n hx hb dX12_judgeLanding_109 rfl (lv_at hl 5 rfl) ?_
      refine lv_aload_n hx hb dX12_judgeLanding_110 rfl (lv_at hl 3 rfl) ?_
      refine va_get (D := (dC, dI)) (ci := 12) (v := .ref (ρ h0 2)) (C := RX12) (T := TX12) (N := 53) hx hb hts hfX12 hown hK hP q46 eq46 rfl 2 (by decide) (hts (.fieldLink RX12 7 "ColdShipsModel" "row" "[I") wa_148) (fun _ h9 => h9) rfl dX12_judgeLanding_111 ?_
      refine lv_iload hx hb dX12_judgeLanding_114 (lv_at hl 1 rfl) ?_
      refine lv_iconst (v := 1) hx hb dX12_judgeLanding_116 (by decide) ?_
      refine lv_iadd hx hb dX12_judgeLanding_117 ?_
      refine lv_topi (fun z59 ez59 => ?_)
      have iz59 : z59.toInt = z53.toInt + 1 := zi_add ez59 rfl rfl (by omega) (by omega)
      refine va_iald hx hb hK hP q48 0 eq48 rfl (vp_in_iff.mpr ⟨by omega, by omega⟩) dX12_judgeLanding_118 ?_
      refine lv_topi (fun z60 ez60 => ?_)
      have jz60 : z60.toInt = mo_R g27 (2251 + 864 * qc + 5 + 5 * w39.toInt) := mo_rd ez60 (by omega)
      refine lv_aload_n hx hb dX12_judgeLanding_119 rfl (lv_at hl 3 rfl) ?_
      refine va_get (D := (dC, dI)) (ci := 12) (v := .ref (ρ h0 2)) (C := RX12) (T := TX12) (N := 53) hx hb hts hfX12 hown hK hP q46 eq46 rfl 2 (by decide) (hts (.fieldLink RX12 7 "ColdShipsModel" "row" "[I") wa_148) (fun _ h9 => h9) rfl dX12_judgeLanding_120 ?_
      refine lv_iload hx hb dX12_judgeLanding_123 (lv_at hl 1 rfl) ?_
      refine lv_iconst (v := 2) hx hb dX12_judgeLanding_125 (by decide) ?_
      refine lv_iadd hx hb dX12_judgeLanding_126 ?_
      refine lv_topi (fun z61 ez61 => ?_)
      have iz61 : z61.toInt = z53.toInt + 2 := zi_add ez61 rfl rfl (by omega) (by omega)
      refine va_iald hx hb hK hP q48 0 eq48 rfl (vp_in_iff.mpr ⟨by omega, by omega⟩) dX12_judgeLanding_127 ?_
      refine lv_topi (fun z62 ez62 => ?_)
      have jz62 : z62.toInt = mo_R g27 (2251 + 864 * qc + 6 + 5 * w39.toInt) := mo_rd ez62 (by omega)
      have hFc := tp_fr hD hS hA
      refine va_callv (va_runV (As := [.int uc, .int z60, .int z62]) (rest := []) ⟨hx, hb, hml, hown, hts⟩ (t_X12_run l dC dI _ κ Θ τ ν ρ L f41 hG hT h0 uc z60 z62 x b qc ht_h0 (by omega) (by omega) (by omega) (by rw [hk40k, mo_i1]; exact hI) (by omega) (by rw [hk40k, mo_i1, jz60, jz62]; exact hk9.2.1)) (cwV 3 hts gX12_judgeLanding_X12_run rfl rfl rfl ⟨rfl, pd_X12_run⟩ ⟨Nat.le_of_ble_eq_true rfl, Nat.le_of_ble_eq_true rfl⟩) ⟨pz_blind, va_recv hK hP (ci := 12) (q0 := q46) rfl eq46, pz_pre hP hK hD hN⟩ rfl rfl hl.1 rfl (lv_room (Nat.le_of_ble_eq_true rfl)) dX12_judgeLanding_128 ⟨Nat.le_of_ble_eq_true rfl, Nat.le_of_ble_eq_true rfl⟩) hS (fun q _ h => hFc q h) hFc (fun f65 t H1 locs ht hvm hw64 hB hz1 hk1 hS => ?_)
      refine tn_3 hw64 (fun hT hF66 hw64p => ?_); clear hw64
      have hR := hR.then hF66 (by decide)
      have hP := hB.1; rw [ht] at hP; have hD := tp_ad f65 hD; clear hB hFc hz1 hk1; subst ht; generalize t.heap = H at hP hS ⊢
      refine lv_aload_n hx hb dX12_judgeLanding_131 rfl (lv_at hl 3 rfl) ?_
      refine lv_dup hx hb dX12_judgeLanding_132 rfl ?_
      refine tpk_13 hT ht_h0 (fun o67_x0 o67_x1 o67_x7 o67_x9 o67_x10 o67_x11 o67_x12 o67_x13 o67_x14 o67_x15 o67_x16 o67_x17 o67_x18 o67_x19 o67_x20 o67_x22 o67_x25 o67_x28 o67_x29 o67_x32 o67_x33 o67_x34 o67_x35 o67_x36 o67_x37 o67_x38 o67_x47 o67_x48 hf_o67 ro67_0 ro67_1 ro67_2 ro67_3 ro67_4 ro67_5 ro67_6 ro67_7 ro67_8 ro67_9 ro67_10 ro67_11 ro67_12 ro67_13 ro67_14 => ?_)
      refine tpk_pos (tp_in hG ht_h0 (by decide)) hf_o67 (fun q68 eq68 => ?_)
      refine va_get (D := (dC, dI)) (ci := 12) (v := .long o67_x34) (C := RX12) (T := TX12) (N := 53) hx hb hts hfX12 hown hK hP q68 eq68 rfl 34 (by decide) (hts (.fieldLink RX12 452 "ColdShipsModel" "pays" "J") wa_1190) (fun _ h9 => h9) rfl dX12_judgeLanding_133 ?_
      refine lv_aload_n hx hb dX12_judgeLanding_136 rfl (lv_at hl 3 rfl) ?_
      have ro67_10 := tp_hu ro67_10
      refine va_get (D := (dC, dI)) (ci := 12) (v := .int o67_x32) (C := RX12) (T := TX12) (N := 53) hx hb hts hfX12 hown hK hP q68 eq68 rfl 32 (by decide) (hts (.fieldLink RX12 440 "ColdShipsModel" "broken" "Z") wa_1219) (fun _ h9 => h9) rfl dX12_judgeLanding_137 ?_
      refine lv_if_ne (tgt := 160) hx hb dX12_judgeLanding_140 (by decide) (fun c69 => ?_) (fun c69 => ?_)
      · have ic69 : o67_x32.toInt ≠ 0 := zi_ne rfl rfl c69
        replace ic69 : 1 ≤ o67_x32.toInt := by omega
        refine lv_lconst (v := 0) hx hb dX12_judgeLanding_160 (by decide) ?_
        refine lv_ladd hx hb dX12_judgeLanding_161 ?_
        refine lv_topl (fun z70 ez70 => ?_)
        have := zl_bd o67_x34
        have iz70 : z70.toInt = o67_x34.toInt + 0 := zl_add ez70 rfl rfl (by omega) (by omega)
        refine va_put (D := (dC, dI)) (ci := 12) (v := .long z70) (ty := .long) (C := RX12) (T := TX12) (N := 53) hx hb hts hfX12 tyX12 tyX12_ok nmX12 hown hK hP hD hS q68 eq68 rfl 34 (by decide) (hts (.fieldLink RX12 452 "ColdShipsModel" "pays" "J") wa_1190) (fun _ h9 => h9) rfl (tyX12_ok 34 (by decide)) rfl rfl (Nat.le_of_ble_eq_true rfl) dX12_judgeLanding_162 (tp_k (.inr (12, [.int o67_x0, .int o67_x1, .ref (ρ h0 2), .ref (ρ h0 3), .ref (ρ h0 4), .ref (ρ h0 5), .ref (ρ h0 6), .int o67_x7, .ref (ρ h0 8), .int o67_x9, .int o67_x10, .int o67_x11, .int o67_x12, .long o67_x13, .int o67_x14, .int o67_x15, .int o67_x16, .int o67_x17, .int o67_x18, .int o67_x19, .int o67_x20, .ref (ρ h0 21), .int o67_x22, .ref (ρ h0 23), .ref (ρ h0 24), .int o67_x25, .ref (ρ h0 26), .ref (ρ h0 27), .int o67_x28, .int o67_x29, .ref (ρ h0 30), .ref (ρ h0 31), .int o67_x32, .long o67_x33, .long z70, .long o67_x35, .int o67_x36, .int o67_x37, .int o67_x38, .ref (ρ h0 39), .ref (ρ h0 40), .ref (ρ h0 41), .ref (ρ h0 42), .ref (ρ h0 43), .ref (ρ h0 44), .ref (ρ h0 45), .ref (ρ h0 46), .int o67_x47, .int o67_x48, .ref (ρ h0 49), .ref (ρ h0 50), .ref (ρ h0 51), .ref (ρ h0 52)])) hD (tp_in hG ht_h0 (by decide)) eq68 (fun f71 H locs hP hD hS g73 k72 => ?_))
        have hT := hT.up ht_h0 g73 k72 ⟨_, _, _, _, _, _, _, _, _, _, _, _, _, _, _, _, _, _, _, _, _, _, _, _, _, _, _, _, rfl, ro67_0, ro67_1, ro67_2, ro67_3, ro67_4, ro67_5, ro67_6, ro67_7, ro67_8, ro67_9, ro67_10, ro67_11, ro67_12, ro67_13, ro67_14⟩
        have hR := hR.up ht_h0 (by decide) k72
        refine lv_aload_n hx hb dX12_judgeLanding_165 rfl (lv_at hl 3 rfl) ?_
        refine lv_dup hx hb dX12_judgeLanding_166 rfl ?_
        refine tpk_pos (tp_in hG ht_h0 (by decide)) g73 (fun q74 eq74 => ?_)
        refine va_get (D := (dC, dI)) (ci := 12) (v := .long o67_x35) (C := RX12) (T := TX12) (N := 53) hx hb hts hfX12 hown hK hP q74 eq74 rfl 35 (by decide) (hts (.fieldLink RX12 455 "ColdShipsModel" "fines" "J") wa_1191) (fun _ h9 => h9) rfl dX12_judgeLanding_167 ?_
        refine lv_aload_n hx hb dX12_judgeLanding_170 rfl (lv_at hl 3 rfl) ?_
        refine va_get (D := (dC, dI)) (ci := 12) (v := .int o67_x32) (C := RX12) (T := TX12) (N := 53) hx hb hts hfX12 hown hK hP q74 eq74 rfl 32 (by decide) (hts (.fieldLink RX12 440 "ColdShipsModel" "broken" "Z") wa_1219) (fun _ h9 => h9) rfl dX12_judgeLanding_171 ?_
        refine lv_if_ne (tgt := 195) hx hb dX12_judgeLanding_174 (by decide) (fun c75 => ?_) (fun c75 => ?_)
        · have ic75 : o67_x32.toInt ≠ 0 := zi_ne rfl rfl c75
          refine lv_lconst (v := 0) hx hb dX12_judgeLanding_195 (by decide) ?_
          refine lv_ladd hx hb dX12_judgeLanding_196 ?_
          refine lv_topl (fun z76 ez76 => ?_)
          have := zl_bd o67_x35
          have iz76 : z76.toInt = o67_x35.toInt + 0 := zl_add ez76 rfl rfl (by omega) (by omega)
          refine va_put (D := (dC, dI)) (ci := 12) (v := .long z76) (ty := .long) (C := RX12) (T := TX12) (N := 53) hx hb hts hfX12 tyX12 tyX12_ok nmX12 hown hK hP hD hS q74 eq74 rfl 35 (by decide) (hts (.fieldLink RX12 455 "ColdShipsModel" "fines" "J") wa_1191) (fun _ h9 => h9) rfl (tyX12_ok 35 (by decide)) rfl rfl (Nat.le_of_ble_eq_true rfl) dX12_judgeLanding_197 (tp_k (.inr (12, [.int o67_x0, .int o67_x1, .ref (ρ h0 2), .ref (ρ h0 3), .ref (ρ h0 4), .ref (ρ h0 5), .ref (ρ h0 6), .int o67_x7, .ref (ρ h0 8), .int o67_x9, .int o67_x10, .int o67_x11, .int o67_x12, .long o67_x13, .int o67_x14, .int o67_x15, .int o67_x16, .int o67_x17, .int o67_x18, .int o67_x19, .int o67_x20, .ref (ρ h0 21), .int o67_x22, .ref (ρ h0 23), .ref (ρ h0 24), .int o67_x25, .ref (ρ h0 26), .ref (ρ h0 27), .int o67_x28, .int o67_x29, .ref (ρ h0 30), .ref (ρ h0 31), .int o67_x32, .long o67_x33, .long z70, .long z76, .int o67_x36, .int o67_x37, .int o67_x38, .ref (ρ h0 39), .ref (ρ h0 40), .ref (ρ h0 41), .ref (ρ h0 42), .ref (ρ h0 43), .ref (ρ h0 44), .ref (ρ h0 45), .ref (ρ h0 46), .int o67_x47, .int o67_x48, .ref (ρ h0 49), .ref (ρ h0 50), .ref (ρ h0 51), .ref (ρ h0 52)])) hD (tp_in hG ht_h0 (by decide)) eq74 (fun f77 H locs hP hD hS g79 k78 => ?_))
          have hT := hT.up ht_h0 g79 k78 ⟨_, _, _, _, _, _, _, _, _, _, _, _, _, _, _, _, _, _, _, _, _, _, _, _, _, _, _, _, rfl, ro67_0, ro67_1, ro67_2, ro67_3, ro67_4, ro67_5, ro67_6, ro67_7, ro67_8, ro67_9, ro67_10, ro67_11, ro67_12, ro67_13, ro67_14⟩
          have hR := hR.up ht_h0 (by decide) k78
          obtain ⟨z80, ez80⟩ : ∃ y : Int32, y = w39 + 1 := ⟨_, rfl⟩
          refine lv_iinc (v := z80) (lv' := [(3, .int z80), (5, .int 1), (4, .int z53), (0, .ref h0), (1, .int v), (2, .int uc)]) hx hb dX12_judgeLanding_200 hl (k := 2) rfl (by rw [ez80]; rfl) (by decide) rfl (fun ls hl => ?_)
          have iz80 : z80.toInt = w39.toInt + 1 := zi_add ez80 rfl rfl (by omega) (by omega)
          refine lv_goto (tgt := 12) hx hb dX12_judgeLanding_203 (by decide) ?_
          have hf_81 : f65 (ρ h0 2) = .inl (κ 0, 12967, .inl g27) := (hF66 _ (by rw [tp_iu y1]; decide)).trans hk40k
          have hf_82 : f71 (ρ h0 2) = .inl (κ 0, 12967, .inl g27) := (k72 _ (tp_ne y1 ht_h0 (by decide))).trans hf_81
          have hf_83 : f77 (ρ h0 2) = .inl (κ 0, 12967, .inl g27) := (k78 _ (tp_ne y1 ht_h0 (by decide))).trans hf_82
          exact ih43 _ _ _ _ (by rw [hn44]; omega) ⟨f77, z80, rfl, hT, hR, hf_83, (by omega), hP, hD, hS, lv_sub hl [0, 3, 4, 5] rfl⟩
        · have ic75 : o67_x32.toInt = 0 := zi_nef rfl rfl c75
          exfalso; omega
      · have ic69 : o67_x32.toInt = 0 := zi_nef rfl rfl c69
        refine lv_aload_n hx hb dX12_judgeLanding_143 rfl (lv_at hl 3 rfl) ?_
        refine va_get (D := (dC, dI)) (ci := 12) (v := .ref (ρ h0 2)) (C := RX12) (T := TX12) (N := 53) hx hb hts hfX12 hown hK hP q68 eq68 rfl 2 (by decide) (hts (.fieldLink RX12 7 "ColdShipsModel" "row" "[I") wa_148) (fun _ h9 => h9) rfl dX12_judgeLanding_144 ?_
        refine lv_iload hx hb dX12_judgeLanding_147 (lv_at hl 1 rfl) ?_
        have hf_84 : f65 (ρ h0 2) = .inl (κ 0, 12967, .inl g27) := (hF66 _ (by rw [tp_iu y1]; decide)).trans hk40k
        refine tpk_pos (tp_in hG y1 (by decide)) hf_84 (fun q85 eq85 => ?_)
        refine va_iald hx hb hK hP q85 0 eq85 rfl (vp_in_iff.mpr ⟨by omega, by omega⟩) dX12_judgeLanding_149 ?_
        refine lv_topi (fun z86 ez86 => ?_)
        have jz86 : z86.toInt = mo_R g27 (2251 + 864 * qc + 4 + 5 * w39.toInt) := mo_rd ez86 (by omega)
        refine lv_if_ne (tgt := 160) hx hb dX12_judgeLanding_150 (by decide) (fun c87 => ?_) (fun c87 => ?_)
        · have ic87 : z86.toInt ≠ 0 := zi_ne rfl rfl c87
          refine lv_lconst (v := 0) hx hb dX12_judgeLanding_160 (by decide) ?_
          refine lv_ladd hx hb dX12_judgeLanding_161 ?_
          refine lv_topl (fun z88 ez88 => ?_)
          have := zl_bd o67_x34
          have iz88 : z88.toInt = o67_x34.toInt + 0 := zl_add ez88 rfl rfl (by omega) (by omega)
          refine va_put (D := (dC, dI)) (ci := 12) (v := .long z88) (ty := .long) (C := RX12) (T := TX12) (N := 53) hx hb hts hfX12 tyX12 tyX12_ok nmX12 hown hK hP hD hS q68 eq68 rfl 34 (by decide) (hts (.fieldLink RX12 452 "ColdShipsModel" "pays" "J") wa_1190) (fun _ h9 => h9) rfl (tyX12_ok 34 (by decide)) rfl rfl (Nat.le_of_ble_eq_true rfl) dX12_judgeLanding_162 (tp_k (.inr (12, [.int o67_x0, .int o67_x1, .ref (ρ h0 2), .ref (ρ h0 3), .ref (ρ h0 4), .ref (ρ h0 5), .ref (ρ h0 6), .int o67_x7, .ref (ρ h0 8), .int o67_x9, .int o67_x10, .int o67_x11, .int o67_x12, .long o67_x13, .int o67_x14, .int o67_x15, .int o67_x16, .int o67_x17, .int o67_x18, .int o67_x19, .int o67_x20, .ref (ρ h0 21), .int o67_x22, .ref (ρ h0 23), .ref (ρ h0 24), .int o67_x25, .ref (ρ h0 26), .ref (ρ h0 27), .int o67_x28, .int o67_x29, .ref (ρ h0 30), .ref (ρ h0 31), .int o67_x32, .long o67_x33, .long z88, .long o67_x35, .int o67_x36, .int o67_x37, .int o67_x38, .ref (ρ h0 39), .ref (ρ h0 40), .ref (ρ h0 41), .ref (ρ h0 42), .ref (ρ h0 43), .ref (ρ h0 44), .ref (ρ h0 45), .ref (ρ h0 46), .int o67_x47, .int o67_x48, .ref (ρ h0 49), .ref (ρ h0 50), .ref (ρ h0 51), .ref (ρ h0 52)])) hD (tp_in hG ht_h0 (by decide)) eq68 (fun f89 H locs hP hD hS g91 k90 => ?_))
          have hT := hT.up ht_h0 g91 k90 ⟨_, _, _, _, _, _, _, _, _, _, _, _, _, _, _, _, _, _, _, _, _, _, _, _, _, _, _, _, rfl, ro67_0, ro67_1, ro67_2, ro67_3, ro67_4, ro67_5, ro67_6, ro67_7, ro67_8, ro67_9, ro67_10, ro67_11, ro67_12, ro67_13, ro67_14⟩
          have hR := hR.up ht_h0 (by decide) k90
          refine lv_aload_n hx hb dX12_judgeLanding_165 rfl (lv_at hl 3 rfl) ?_
          refine lv_dup hx hb dX12_judgeLanding_166 rfl ?_
          refine tpk_pos (tp_in hG ht_h0 (by decide)) g91 (fun q92 eq92 => ?_)
          refine va_get (D := (dC, dI)) (ci := 12) (v := .long o67_x35) (C := RX12) (T := TX12) (N := 53) hx hb hts hfX12 hown hK hP q92 eq92 rfl 35 (by decide) (hts (.fieldLink RX12 455 "ColdShipsModel" "fines" "J") wa_1191) (fun _ h9 => h9) rfl dX12_judgeLanding_167 ?_
          refine lv_aload_n hx hb dX12_judgeLanding_170 rfl (lv_at hl 3 rfl) ?_
          refine va_get (D := (dC, dI)) (ci := 12) (v := .int o67_x32) (C := RX12) (T := TX12) (N := 53) hx hb hts hfX12 hown hK hP q92 eq92 rfl 32 (by decide) (hts (.fieldLink RX12 440 "ColdShipsModel" "broken" "Z") wa_1219) (fun _ h9 => h9) rfl dX12_judgeLanding_171 ?_
          refine lv_if_ne (tgt := 195) hx hb dX12_judgeLanding_174 (by decide) (fun c93 => ?_) (fun c93 => ?_)
          · have ic93 : o67_x32.toInt ≠ 0 := zi_ne rfl rfl c93
            exfalso; omega
          · have ic93 : o67_x32.toInt = 0 := zi_nef rfl rfl c93
            refine lv_aload_n hx hb dX12_judgeLanding_177 rfl (lv_at hl 3 rfl) ?_
            refine va_get (D := (dC, dI)) (ci := 12) (v := .ref (ρ h0 2)) (C := RX12) (T := TX12) (N := 53) hx hb hts hfX12 hown hK hP q92 eq92 rfl 2 (by decide) (hts (.fieldLink RX12 7 "ColdShipsModel" "row" "[I") wa_148) (fun _ h9 => h9) rfl dX12_judgeLanding_178 ?_
            refine lv_iload hx hb dX12_judgeLanding_181 (lv_at hl 1 rfl) ?_
            have hf_94 : f89 (ρ h0 2) = .inl (κ 0, 12967, .inl g27) := (k90 _ (tp_ne y1 ht_h0 (by decide))).trans hf_84
            refine tpk_pos (tp_in hG y1 (by decide)) hf_94 (fun q95 eq95 => ?_)
            refine va_iald hx hb hK hP q95 0 eq95 rfl (vp_in_iff.mpr ⟨by omega, by omega⟩) dX12_judgeLanding_183 ?_
            refine lv_topi (fun z96 ez96 => ?_)
            have jz96 : z96.toInt = mo_R g27 (2251 + 864 * qc + 4 + 5 * w39.toInt) := mo_rd ez96 (by omega)
            have vz96 : z96.toInt = z86.toInt := jz96.trans (jz86).symm
            refine lv_iconst (v := 1) hx hb dX12_judgeLanding_184 (by decide) ?_
            refine lv_icmp_ne (tgt := 195) hx hb dX12_judgeLanding_185 (by decide) (fun c97 => ?_) (fun c97 => ?_)
            · have ic97 : z96.toInt ≠ 1 := zi_ne rfl rfl c97
              refine lv_lconst (v := 0) hx hb dX12_judgeLanding_195 (by decide) ?_
              refine lv_ladd hx hb dX12_judgeLanding_196 ?_
              refine lv_topl (fun z98 ez98 => ?_)
              have := zl_bd o67_x35
              have iz98 : z98.toInt = o67_x35.toInt + 0 := zl_add ez98 rfl rfl (by omega) (by omega)
              refine va_put (D := (dC, dI)) (ci := 12) (v := .long z98) (ty := .long) (C := RX12) (T := TX12) (N := 53) hx hb hts hfX12 tyX12 tyX12_ok nmX12 hown hK hP hD hS q92 eq92 rfl 35 (by decide) (hts (.fieldLink RX12 455 "ColdShipsModel" "fines" "J") wa_1191) (fun _ h9 => h9) rfl (tyX12_ok 35 (by decide)) rfl rfl (Nat.le_of_ble_eq_true rfl) dX12_judgeLanding_197 (tp_k (.inr (12, [.int o67_x0, .int o67_x1, .ref (ρ h0 2), .ref (ρ h0 3), .ref (ρ h0 4), .ref (ρ h0 5), .ref (ρ h0 6), .int o67_x7, .ref (ρ h0 8), .int o67_x9, .int o67_x10, .int o67_x11, .int o67_x12, .long o67_x13, .int o67_x14, .int o67_x15, .int o67_x16, .int o67_x17, .int o67_x18, .int o67_x19, .int o67_x20, .ref (ρ h0 21), .int o67_x22, .ref (ρ h0 23), .ref (ρ h0 24), .int o67_x25, .ref (ρ h0 26), .ref (ρ h0 27), .int o67_x28, .int o67_x29, .ref (ρ h0 30), .ref (ρ h0 31), .int o67_x32, .long o67_x33, .long z88, .long z98, .int o67_x36, .int o67_x37, .int o67_x38, .ref (ρ h0 39), .ref (ρ h0 40), .ref (ρ h0 41), .ref (ρ h0 42), .ref (ρ h0 43), .ref (ρ h0 44), .ref (ρ h0 45), .ref (ρ h0 46), .int o67_x47, .int o67_x48, .ref (ρ h0 49), .ref (ρ h0 50), .ref (ρ h0 51), .ref (ρ h0 52)])) hD (tp_in hG ht_h0 (by decide)) eq92 (fun f99 H locs hP hD hS g101 k100 => ?_))
              have hT := hT.up ht_h0 g101 k100 ⟨_, _, _, _, _, _, _, _, _, _, _, _, _, _, _, _, _, _, _, _, _, _, _, _, _, _, _, _, rfl, ro67_0, ro67_1, ro67_2, ro67_3, ro67_4, ro67_5, ro67_6, ro67_7, ro67_8, ro67_9, ro67_10, ro67_11, ro67_12, ro67_13, ro67_14⟩
              have hR := hR.up ht_h0 (by decide) k100
              obtain ⟨z102, ez102⟩ : ∃ y : Int32, y = w39 + 1 := ⟨_, rfl⟩
              refine lv_iinc (v := z102) (lv' := [(3, .int z102), (5, .int 1), (4, .int z53), (0, .ref h0), (1, .int v), (2, .int uc)]) hx hb dX12_judgeLanding_200 hl (k := 2) rfl (by rw [ez102]; rfl) (by decide) rfl (fun ls hl => ?_)
              have iz102 : z102.toInt = w39.toInt + 1 := zi_add ez102 rfl rfl (by omega) (by omega)
              refine lv_goto (tgt := 12) hx hb dX12_judgeLanding_203 (by decide) ?_
              have hf_103 : f99 (ρ h0 2) = .inl (κ 0, 12967, .inl g27) := (k100 _ (tp_ne y1 ht_h0 (by decide))).trans hf_94
              exact ih43 _ _ _ _ (by rw [hn44]; omega) ⟨f99, z102, rfl, hT, hR, hf_103, (by omega), hP, hD, hS, lv_sub hl [0, 3, 4, 5] rfl⟩
            · have ic97 : z96.toInt = 1 := zi_nef rfl rfl c97
              refine lv_aload_n hx hb dX12_judgeLanding_188 rfl (lv_at hl 3 rfl) ?_
              refine va_get (D := (dC, dI)) (ci := 12) (v := .long o67_x33) (C := RX12) (T := TX12) (N := 53) hx hb hts hfX12 hown hK hP q92 eq92 rfl 33 (by decide) (hts (.fieldLink RX12 449 "ColdShipsModel" "value" "J") wa_1220) (fun _ h9 => h9) rfl dX12_judgeLanding_189 ?_
              refine lv_goto (tgt := 196) hx hb dX12_judgeLanding_192 (by decide) ?_
              refine lv_ladd hx hb dX12_judgeLanding_196 ?_
              refine lv_topl (fun z104 ez104 => ?_)
              refine va_put (D := (dC, dI)) (ci := 12) (v := .long z104) (ty := .long) (C := RX12) (T := TX12) (N := 53) hx hb hts hfX12 tyX12 tyX12_ok nmX12 hown hK hP hD hS q92 eq92 rfl 35 (by decide) (hts (.fieldLink RX12 455 "ColdShipsModel" "fines" "J") wa_1191) (fun _ h9 => h9) rfl (tyX12_ok 35 (by decide)) rfl rfl (Nat.le_of_ble_eq_true rfl) dX12_judgeLanding_197 (tp_k (.inr (12, [.int o67_x0, .int o67_x1, .ref (ρ h0 2), .ref (ρ h0 3), .ref (ρ h0 4), .ref (ρ h0 5), .ref (ρ h0 6), .int o67_x7, .ref (ρ h0 8), .int o67_x9, .int o67_x10, .int o67_x11, .int o67_x12, .long o67_x13, .int o67_x14, .int o67_x15, .int o67_x16, .int o67_x17, .int o67_x18, .int o67_x19, .int o67_x20, .ref (ρ h0 21), .int o67_x22, .ref (ρ h0 23), .ref (ρ h0 24), .int o67_x25, .ref (ρ h0 26), .ref (ρ h0 27), .int o67_x28, .int o67_x29, .ref (ρ h0 30), .ref (ρ h0 31), .int o67_x32, .long o67_x33, .long z88, .long z104, .int o67_x36, .int o67_x37, .int o67_x38, .ref (ρ h0 39), .ref (ρ h0 40), .ref (ρ h0 41), .ref (ρ h0 42), .ref (ρ h0 43), .ref (ρ h0 44), .ref (ρ h0 45), .ref (ρ h0 46), .int o67_x47, .int o67_x48, .ref (ρ h0 49), .ref (ρ h0 50), .ref (ρ h0 51), .ref (ρ h0 52)])) hD (tp_in hG ht_h0 (by decide)) eq92 (fun f105 H locs hP hD hS g107 k106 => ?_))
              have hT := hT.up ht_h0 g107 k106 ⟨_, _, _, _, _, _, _, _, _, _, _, _, _, _, _, _, _, _, _, _, _, _, _, _, _, _, _, _, rfl, ro67_0, ro67_1, ro67_2, ro67_3, ro67_4, ro67_5, ro67_6, ro67_7, ro67_8, ro67_9, ro67_10, ro67_11, ro67_12, ro67_13, ro67_14⟩
              have hR := hR.up ht_h0 (by decide) k106
              obtain ⟨z108, ez108⟩ : ∃ y : Int32, y = w39 + 1 := ⟨_, rfl⟩
              refine lv_iinc (v := z108) (lv' := [(3, .int z108), (5, .int 1), (4, .int z53), (0, .ref h0), (1, .int v), (2, .int uc)]) hx hb dX12_judgeLanding_200 hl (k := 2) rfl (by rw [ez108]; rfl) (by decide) rfl (fun ls hl => ?_)
              have iz108 : z108.toInt = w39.toInt + 1 := zi_add ez108 rfl rfl (by omega) (by omega)
              refine lv_goto (tgt := 12) hx hb dX12_judgeLanding_203 (by decide) ?_
              have hf_109 : f105 (ρ h0 2) = .inl (κ 0, 12967, .inl g27) := (k106 _ (tp_ne y1 ht_h0 (by decide))).trans hf_94
              exact ih43 _ _ _ _ (by rw [hn44]; omega) ⟨f105, z108, rfl, hT, hR, hf_109, (by omega), hP, hD, hS, lv_sub hl [0, 3, 4, 5] rfl⟩
        · have ic87 : z86.toInt = 0 := zi_nef rfl rfl c87
          refine lv_aload_n hx hb dX12_judgeLanding_153 rfl (lv_at hl 3 rfl) ?_
          refine va_get (D := (dC, dI)) (ci := 12) (v := .long o67_x33) (C := RX12) (T := TX12) (N := 53) hx hb hts hfX12 hown hK hP q68 eq68 rfl 33 (by decide) (hts (.fieldLink RX12 449 "ColdShipsModel" "value" "J") wa_1220) (fun _ h9 => h9) rfl dX12_judgeLanding_154 ?_
          refine lv_goto (tgt := 161) hx hb dX12_judgeLanding_157 (by decide) ?_
          refine lv_ladd hx hb dX12_judgeLanding_161 ?_
          refine lv_topl (fun z110 ez110 => ?_)
          refine va_put (D := (dC, dI)) (ci := 12) (v := .long z110) (ty := .long) (C := RX12) (T := TX12) (N := 53) hx hb hts hfX12 tyX12 tyX12_ok nmX12 hown hK hP hD hS q68 eq68 rfl 34 (by decide) (hts (.fieldLink RX12 452 "ColdShipsModel" "pays" "J") wa_1190) (fun _ h9 => h9) rfl (tyX12_ok 34 (by decide)) rfl rfl (Nat.le_of_ble_eq_true rfl) dX12_judgeLanding_162 (tp_k (.inr (12, [.int o67_x0, .int o67_x1, .ref (ρ h0 2), .ref (ρ h0 3), .ref (ρ h0 4), .ref (ρ h0 5), .ref (ρ h0 6), .int o67_x7, .ref (ρ h0 8), .int o67_x9, .int o67_x10, .int o67_x11, .int o67_x12, .long o67_x13, .int o67_x14, .int o67_x15, .int o67_x16, .int o67_x17, .int o67_x18, .int o67_x19, .int o67_x20, .ref (ρ h0 21), .int o67_x22, .ref (ρ h0 23), .ref (ρ h0 24), .int o67_x25, .ref (ρ h0 26), .ref (ρ h0 27), .int o67_x28, .int o67_x29, .ref (ρ h0 30), .ref (ρ h0 31), .int o67_x32, .long o67_x33, .long z110, .long o67_x35, .int o67_x36, .int o67_x37, .int o67_x38, .ref (ρ h0 39), .ref (ρ h0 40), .ref (ρ h0 41), .ref (ρ h0 42), .ref (ρ h0 43), .ref (ρ h0 44), .ref (ρ h0 45), .ref (ρ h0 46), .int o67_x47, .int o67_x48, .ref (ρ h0 49), .ref (ρ h0 50), .ref (ρ h0 51), .ref (ρ h0 52)])) hD (tp_in hG ht_h0 (by decide)) eq68 (fun f111 H locs hP hD hS g113 k112 => ?_))
          have hT := hT.up ht_h0 g113 k112 ⟨_, _, _, _, _, _, _, _, _, _, _, _, _, _, _, _, _, _, _, _, _, _, _, _, _, _, _, _, rfl, ro67_0, ro67_1, ro67_2, ro67_3, ro67_4, ro67_5, ro67_6, ro67_7, ro67_8, ro67_9, ro67_10, ro67_11, ro67_12, ro67_13, ro67_14⟩
          have hR := hR.up ht_h0 (by decide) k112
          refine lv_aload_n hx hb dX12_judgeLanding_165 rfl (lv_at hl 3 rfl) ?_
          refine lv_dup hx hb dX12_judgeLanding_166 rfl ?_
          refine tpk_pos (tp_in hG ht_h0 (by decide)) g113 (fun q114 eq114 => ?_)
          refine va_get (D := (dC, dI)) (ci := 12) (v := .long o67_x35) (C := RX12) (T := TX12) (N := 53) hx hb hts hfX12 hown hK hP q114 eq114 rfl 35 (by decide) (hts (.fieldLink RX12 455 "ColdShipsModel" "fines" "J") wa_1191) (fun _ h9 => h9) rfl dX12_judgeLanding_167 ?_
          refine lv_aload_n hx hb dX12_judgeLanding_170 rfl (lv_at hl 3 rfl) ?_
          refine va_get (D := (dC, dI)) (ci := 12) (v := .int o67_x32) (C := RX12) (T := TX12) (N := 53) hx hb hts hfX12 hown hK hP q114 eq114 rfl 32 (by decide) (hts (.fieldLink RX12 440 "ColdShipsModel" "broken" "Z") wa_1219) (fun _ h9 => h9) rfl dX12_judgeLanding_171 ?_
          refine lv_if_ne (tgt := 195) hx hb dX12_judgeLanding_174 (by decide) (fun c115 => ?_) (fun c115 => ?_)
          · have ic115 : o67_x32.toInt ≠ 0 := zi_ne rfl rfl c115
            exfalso; omega
          · have ic115 : o67_x32.toInt = 0 := zi_nef rfl rfl c115
            refine lv_aload_n hx hb dX12_judgeLanding_177 rfl (lv_at hl 3 rfl) ?_
            refine va_get (D := (dC, dI)) (ci := 12) (v := .ref (ρ h0 2)) (C := RX12) (T := TX12) (N := 53) hx hb hts hfX12 hown hK hP q114 eq114 rfl 2 (by decide) (hts (.fieldLink RX12 7 "ColdShipsModel" "row" "[I") wa_148) (fun _ h9 => h9) rfl dX12_judgeLanding_178 ?_
            refine lv_iload hx hb dX12_judgeLanding_181 (lv_at hl 1 rfl) ?_
            have hf_116 : f111 (ρ h0 2) = .inl (κ 0, 12967, .inl g27) := (k112 _ (tp_ne y1 ht_h0 (by decide))).trans hf_84
            refine tpk_pos (tp_in hG y1 (by decide)) hf_116 (fun q117 eq117 => ?_)
            refine va_iald hx hb hK hP q117 0 eq117 rfl (vp_in_iff.mpr ⟨by omega, by omega⟩) dX12_judgeLanding_183 ?_
            refine lv_topi (fun z118 ez118 => ?_)
            have jz118 : z118.toInt = mo_R g27 (2251 + 864 * qc + 4 + 5 * w39.toInt) := mo_rd ez118 (by omega)
            have vz118 : z118.toInt = z86.toInt := jz118.trans (jz86).symm
            refine lv_iconst (v := 1) hx hb dX12_judgeLanding_184 (by decide) ?_
            refine lv_icmp_ne (tgt := 195) hx hb dX12_judgeLanding_185 (by decide) (fun c119 => ?_) (fun c119 => ?_)
            · have ic119 : z118.toInt ≠ 1 := zi_ne rfl rfl c119
              refine lv_lconst (v := 0) hx hb dX12_judgeLanding_195 (by decide) ?_
              refine lv_ladd hx hb dX12_judgeLanding_196 ?_
              refine lv_topl (fun z120 ez120 => ?_)
              have := zl_bd o67_x35
              have iz120 : z120.toInt = o67_x35.toInt + 0 := zl_add ez120 rfl rfl (by omega) (by omega)
              refine va_put (D := (dC, dI)) (ci := 12) (v := .long z120) (ty := .long) (C := RX12) (T := TX12) (N := 53) hx hb hts hfX12 tyX12 tyX12_ok nmX12 hown hK hP hD hS q114 eq114 rfl 35 (by decide) (hts (.fieldLink RX12 455 "ColdShipsModel" "fines" "J") wa_1191) (fun _ h9 => h9) rfl (tyX12_ok 35 (by decide)) rfl rfl (Nat.le_of_ble_eq_true rfl) dX12_judgeLanding_197 (tp_k (.inr (12, [.int o67_x0, .int o67_x1, .ref (ρ h0 2), .ref (ρ h0 3), .ref (ρ h0 4), .ref (ρ h0 5), .ref (ρ h0 6), .int o67_x7, .ref (ρ h0 8), .int o67_x9, .int o67_x10, .int o67_x11, .int o67_x12, .long o67_x13, .int o67_x14, .int o67_x15, .int o67_x16, .int o67_x17, .int o67_x18, .int o67_x19, .int o67_x20, .ref (ρ h0 21), .int o67_x22, .ref (ρ h0 23), .ref (ρ h0 24), .int o67_x25, .ref (ρ h0 26), .ref (ρ h0 27), .int o67_x28, .int o67_x29, .ref (ρ h0 30), .ref (ρ h0 31), .int o67_x32, .long o67_x33, .long z110, .long z120, .int o67_x36, .int o67_x37, .int o67_x38, .ref (ρ h0 39), .ref (ρ h0 40), .ref (ρ h0 41), .ref (ρ h0 42), .ref (ρ h0 43), .ref (ρ h0 44), .ref (ρ h0 45), .ref (ρ h0 46), .int o67_x47, .int o67_x48, .ref (ρ h0 49), .ref (ρ h0 50), .ref (ρ h0 51), .ref (ρ h0 52)])) hD (tp_in hG ht_h0 (by decide)) eq114 (fun f121 H locs hP hD hS g123 k122 => ?_))
              have hT := hT.up ht_h0 g123 k122 ⟨_, _, _, _, _, _, _, _, _, _, _, _, _, _, _, _, _, _, _, _, _, _, _, _, _, _, _, _, rfl, ro67_0, ro67_1, ro67_2, ro67_3, ro67_4, ro67_5, ro67_6, ro67_7, ro67_8, ro67_9, ro67_10, ro67_11, ro67_12, ro67_13, ro67_14⟩
              have hR := hR.up ht_h0 (by decide) k122
              obtain ⟨z124, ez124⟩ : ∃ y : Int32, y = w39 + 1 := ⟨_, rfl⟩
              refine lv_iinc (v := z124) (lv' := [(3, .int z124), (5, .int 1), (4, .int z53), (0, .ref h0), (1, .int v), (2, .int uc)]) hx hb dX12_judgeLanding_200 hl (k := 2) rfl (by rw [ez124]; rfl) (by decide) rfl (fun ls hl => ?_)
              have iz124 : z124.toInt = w39.toInt + 1 := zi_add ez124 rfl rfl (by omega) (by omega)
              refine lv_goto (tgt := 12) hx hb dX12_judgeLanding_203 (by decide) ?_
              have hf_125 : f121 (ρ h0 2) = .inl (κ 0, 12967, .inl g27) := (k122 _ (tp_ne y1 ht_h0 (by decide))).trans hf_116
              exact ih43 _ _ _ _ (by rw [hn44]; omega) ⟨f121, z124, rfl, hT, hR, hf_125, (by omega), hP, hD, hS, lv_sub hl [0, 3, 4, 5] rfl⟩
            · have ic119 : z118.toInt = 1 := zi_nef rfl rfl c119
              exfalso; omega
    · have ic58 : z55.toInt < z57.toInt := zi_gef rfl rfl c58
      refine lv_aload_n hx hb dX12_judgeLanding_57 rfl (lv_at hl 3 rfl) ?_
      refine lv_iload_n hx hb dX12_judgeLanding_58 rfl (lv_at hl 5 rfl) ?_
      refine lv_aload_n hx hb dX12_judgeLanding_59 rfl (lv_at hl 3 rfl) ?_
      refine va_get (D := (dC, dI)) (ci := 12) (v := .ref (ρ h0 2)) (C := RX12) (T := TX12) (N := 53) hx hb hts hfX12 hown hK hP q46 eq46 rfl 2 (by decide) (hts (.fieldLink RX12 7 "ColdShipsModel" "row" "[I") wa_148) (fun _ h9 => h9) rfl dX12_judgeLanding_60 ?_
      refine lv_iload hx hb dX12_judgeLanding_63 (lv_at hl 1 rfl) ?_
      refine lv_iconst (v := 3) hx hb dX12_judgeLanding_65 (by decide) ?_
      refine lv_iadd hx hb dX12_judgeLanding_66 ?_
      refine lv_topi (fun z126 ez126 => ?_)
      have iz126 : z126.toInt = z53.toInt + 3 := zi_add ez126 rfl rfl (by omega) (by omega)
      refine va_iald hx hb hK hP q48 0 eq48 rfl (vp_in_iff.mpr ⟨by omega, by omega⟩) dX12_judgeLanding_67 ?_
      refine lv_topi (fun z127 ez127 => ?_)
      have jz127 : z127.toInt = mo_R g27 (2251 + 864 * qc + 7 + 5 * w39.toInt) := mo_rd ez127 (by omega)
      have vz127 : z127.toInt = z55.toInt := jz127.trans (jz55).symm
      refine lv_aload_n hx hb dX12_judgeLanding_68 rfl (lv_at hl 3 rfl) ?_
      refine va_get (D := (dC, dI)) (ci := 12) (v := .ref (ρ h0 2)) (C := RX12) (T := TX12) (N := 53) hx hb hts hfX12 hown hK hP q46 eq46 rfl 2 (by decide) (hts (.fieldLink RX12 7 "ColdShipsModel" "row" "[I") wa_148) (fun _ h9 => h9) rfl dX12_judgeLanding_69 ?_
      refine lv_iload hx hb dX12_judgeLanding_72 (lv_at hl 1 rfl) ?_
      refine lv_iconst (v := 4) hx hb dX12_judgeLanding_74 (by decide) ?_
      refine lv_iadd hx hb dX12_judgeLanding_75 ?_
      refine lv_topi (fun z128 ez128 => ?_)
      have iz128 : z128.toInt = z53.toInt + 4 := zi_add ez128 rfl rfl (by omega) (by omega)
      refine va_iald hx hb hK hP q48 0 eq48 rfl (vp_in_iff.mpr ⟨by omega, by omega⟩) dX12_judgeLanding_76 ?_
      refine lv_topi (fun z129 ez129 => ?_)
      have jz129 : z129.toInt = mo_R g27 (2251 + 864 * qc + 8 + 5 * w39.toInt) := mo_rd ez129 (by omega)
      have vz129 : z129.toInt = z57.toInt := jz129.trans (jz57).symm
      have hFc := tp_fr hD hS hA
      refine va_callv (va_runV (As := [.int uc, .int z127, .int z129]) (rest := []) ⟨hx, hb, hml, hown, hts⟩ (t_X12_run l dC dI _ κ Θ τ ν ρ L f41 hG hT h0 uc z127 z129 x b qc ht_h0 (by omega) (by omega) (by omega) (by rw [hk40k, mo_i1]; exact hI) (by omega) (by rw [hk40k, mo_i1, jz127, jz129]; exact hk9.2.2)) (cwV 3 hts gX12_judgeLanding_X12_run rfl rfl rfl ⟨rfl, pd_X12_run⟩ ⟨Nat.le_of_ble_eq_true rfl, Nat.le_of_ble_eq_true rfl⟩) ⟨pz_blind, va_recv hK hP (ci := 12) (q0 := q46) rfl eq46, pz_pre hP hK hD hN⟩ rfl rfl hl.1 rfl (lv_room (Nat.le_of_ble_eq_true rfl)) dX12_judgeLanding_77 ⟨Nat.le_of_ble_eq_true rfl, Nat.le_of_ble_eq_true rfl⟩) hS (fun q _ h => hFc q h) hFc (fun f132 t H1 locs ht hvm hw131 hB hz1 hk1 hS => ?_)
      refine tn_3 hw131 (fun hT hF133 hw131p => ?_); clear hw131
      have hR := hR.then hF133 (by decide)
      have hP := hB.1; rw [ht] at hP; have hD := tp_ad f132 hD; clear hB hFc hz1 hk1; subst ht; generalize t.heap = H at hP hS ⊢
      refine lv_aload_n hx hb dX12_judgeLanding_80 rfl (lv_at hl 3 rfl) ?_
      refine tpk_13 hT ht_h0 (fun o134_x0 o134_x1 o134_x7 o134_x9 o134_x10 o134_x11 o134_x12 o134_x13 o134_x14 o134_x15 o134_x16 o134_x17 o134_x18 o134_x19 o134_x20 o134_x22 o134_x25 o134_x28 o134_x29 o134_x32 o134_x33 o134_x34 o134_x35 o134_x36 o134_x37 o134_x38 o134_x47 o134_x48 hf_o134 ro134_0 ro134_1 ro134_2 ro134_3 ro134_4 ro134_5 ro134_6 ro134_7 ro134_8 ro134_9 ro134_10 ro134_11 ro134_12 ro134_13 ro134_14 => ?_)
      refine tpk_pos (tp_in hG ht_h0 (by decide)) hf_o134 (fun q135 eq135 => ?_)
      have ro134_10 := tp_hu ro134_10
      refine va_get (D := (dC, dI)) (ci := 12) (v := .int o134_x32) (C := RX12) (T := TX12) (N := 53) hx hb hts hfX12 hown hK hP q135 eq135 rfl 32 (by decide) (hts (.fieldLink RX12 440 "ColdShipsModel" "broken" "Z") wa_1219) (fun _ h9 => h9) rfl dX12_judgeLanding_81 ?_
      refine lv_if_ne (tgt := 100) hx hb dX12_judgeLanding_84 (by decide) (fun c136 => ?_) (fun c136 => ?_)
      · have ic136 : o134_x32.toInt ≠ 0 := zi_ne rfl rfl c136
        replace ic136 : 1 ≤ o134_x32.toInt := by omega
        refine lv_iconst (v := 0) hx hb dX12_judgeLanding_100 (by decide) ?_
        refine lv_istore (lv' := [(5, .int 0), (4, .int z53), (3, .int w39), (0, .ref h0), (1, .int v), (2, .int uc)]) hx hb dX12_judgeLanding_101 hl (by decide) rfl (fun ls hl => ?_)
        refine lv_iload hx hb dX12_judgeLanding_103 (lv_at hl 0 rfl) ?_
        refine lv_if_eq (tgt := 200) hx hb dX12_judgeLanding_105 (by decide) (fun _ => ?_) (fun c9 => absurd c9 (by decide))
        obtain ⟨z137, ez137⟩ : ∃ y : Int32, y = w39 + 1 := ⟨_, rfl⟩
        refine lv_iinc (v := z137) (lv' := [(3, .int z137), (5, .int 0), (4, .int z53), (0, .ref h0), (1, .int v), (2, .int uc)]) hx hb dX12_judgeLanding_200 hl (k := 2) rfl (by rw [ez137]; rfl) (by decide) rfl (fun ls hl => ?_)
        have iz137 : z137.toInt = w39.toInt + 1 := zi_add ez137 rfl rfl (by omega) (by omega)
        refine lv_goto (tgt := 12) hx hb dX12_judgeLanding_203 (by decide) ?_
        have hf_138 : f132 (ρ h0 2) = .inl (κ 0, 12967, .inl g27) := (hF133 _ (by rw [tp_iu y1]; decide)).trans hk40k
        exact ih43 _ _ _ _ (by rw [hn44]; omega) ⟨f132, z137, rfl, hT, hR, hf_138, (by omega), hP, hD, hS, lv_sub hl [0, 3, 4, 5] rfl⟩
      · have ic136 : o134_x32.toInt = 0 := zi_nef rfl rfl c136
        refine lv_aload_n hx hb dX12_judgeLanding_87 rfl (lv_at hl 3 rfl) ?_
        refine va_get (D := (dC, dI)) (ci := 12) (v := .long o134_x33) (C := RX12) (T := TX12) (N := 53) hx hb hts hfX12 hown hK hP q135 eq135 rfl 33 (by decide) (hts (.fieldLink RX12 449 "ColdShipsModel" "value" "J") wa_1220) (fun _ h9 => h9) rfl dX12_judgeLanding_88 ?_
        refine lv_lconst (v := 1) hx hb dX12_judgeLanding_91 (by decide) ?_
        refine W.lcmp hx hb dX12_judgeLanding_92 ?_
        refine lv_if_ne (tgt := 100) hx hb dX12_judgeLanding_93 (by decide) (fun c139 => ?_) (fun c139 => ?_)
        · have ic139 : o134_x33.toInt ≠ 1 := zl_ne rfl rfl c139
          refine lv_iconst (v := 0) hx hb dX12_judgeLanding_100 (by decide) ?_
          refine lv_istore (lv' := [(5, .int 0), (4, .int z53), (3, .int w39), (0, .ref h0), (1, .int v), (2, .int uc)]) hx hb dX12_judgeLanding_101 hl (by decide) rfl (fun ls hl => ?_)
          refine lv_iload hx hb dX12_judgeLanding_103 (lv_at hl 0 rfl) ?_
          refine lv_if_eq (tgt := 200) hx hb dX12_judgeLanding_105 (by decide) (fun _ => ?_) (fun c9 => absurd c9 (by decide))
          obtain ⟨z140, ez140⟩ : ∃ y : Int32, y = w39 + 1 := ⟨_, rfl⟩
          refine lv_iinc (v := z140) (lv' := [(3, .int z140), (5, .int 0), (4, .int z53), (0, .ref h0), (1, .int v), (2, .int uc)]) hx hb dX12_judgeLanding_200 hl (k := 2) rfl (by rw [ez140]; rfl) (by decide) rfl (fun ls hl => ?_)
          have iz140 : z140.toInt = w39.toInt + 1 := zi_add ez140 rfl rfl (by omega) (by omega)
          refine lv_goto (tgt := 12) hx hb dX12_judgeLanding_203 (by decide) ?_
          have hf_141 : f132 (ρ h0 2) = .inl (κ 0, 12967, .inl g27) := (hF133 _ (by rw [tp_iu y1]; decide)).trans hk40k
          exact ih43 _ _ _ _ (by rw [hn44]; omega) ⟨f132, z140, rfl, hT, hR, hf_141, (by omega), hP, hD, hS, lv_sub hl [0, 3, 4, 5] rfl⟩
        · have ic139 : o134_x33.toInt = 1 := zl_nef rfl rfl c139
          refine lv_iconst (v := 1) hx hb dX12_judgeLanding_96 (by decide) ?_
          refine lv_goto (tgt := 101) hx hb dX12_judgeLanding_97 (by decide) ?_
          refine lv_istore (lv' := [(5, .int 1), (4, .int z53), (3, .int w39), (0, .ref h0), (1, .int v), (2, .int uc)]) hx hb dX12_judgeLanding_101 hl (by decide) rfl (fun ls hl => ?_)
          refine lv_iload hx hb dX12_judgeLanding_103 (lv_at hl 0 rfl) ?_
          refine lv_if_eq (tgt := 200) hx hb dX12_judgeLanding_105 (by decide) (fun c9 => absurd c9 (by decide)) (fun _ => ?_)
          refine lv_aload_n hx hb dX12_judgeLanding_108 rfl (lv_at hl 3 rfl) ?_
          refine lv_iload_n hx hb dX12_judgeLanding_109 rfl (lv_at hl 5 rfl) ?_
          refine lv_aload_n hx hb dX12_judgeLanding_110 rfl (lv_at hl 3 rfl) ?_
          refine va_get (D := (dC, dI)) (ci := 12) (v := .ref (ρ h0 2)) (C := RX12) (T := TX12) (N := 53) hx hb hts hfX12 hown hK hP q135 eq135 rfl 2 (by decide) (hts (.fieldLink RX12 7 "ColdShipsModel" "row" "[I") wa_148) (fun _ h9 => h9) rfl dX12_judgeLanding_111 ?_
          refine lv_iload hx hb dX12_judgeLanding_114 (lv_at hl 1 rfl) ?_
          refine lv_iconst (v := 1) hx hb dX12_judgeLanding_116 (by decide) ?_
          refine lv_iadd hx hb dX12_judgeLanding_117 ?_
          refine lv_topi (fun z142 ez142 => ?_)
          have iz142 : z142.toInt = z53.toInt + 1 := zi_add ez142 rfl rfl (by omega) (by omega)
          have hf_143 : f132 (ρ h0 2) = .inl (κ 0, 12967, .inl g27) := (hF133 _ (by rw [tp_iu y1]; decide)).trans hk40k
          refine tpk_pos (tp_in hG y1 (by decide)) hf_143 (fun q144 eq144 => ?_)
          refine va_iald hx hb hK hP q144 0 eq144 rfl (vp_in_iff.mpr ⟨by omega, by omega⟩) dX12_judgeLanding_118 ?_
          refine lv_topi (fun z145 ez145 => ?_)
          have jz145 : z145.toInt = mo_R g27 (2251 + 864 * qc + 5 + 5 * w39.toInt) := mo_rd ez145 (by omega)
          refine lv_aload_n hx hb dX12_judgeLanding_119 rfl (lv_at hl 3 rfl) ?_
          refine va_get (D := (dC, dI)) (ci := 12) (v := .ref (ρ h0 2)) (C := RX12) (T := TX12) (N := 53) hx hb hts hfX12 hown hK hP q135 eq135 rfl 2 (by decide) (hts (.fieldLink RX12 7 "ColdShipsModel" "row" "[I") wa_148) (fun _ h9 => h9) rfl dX12_judgeLanding_120 ?_
          refine lv_iload hx hb dX12_judgeLanding_123 (lv_at hl 1 rfl) ?_
          refine lv_iconst (v := 2) hx hb dX12_judgeLanding_125 (by decide) ?_
          refine lv_iadd hx hb dX12_judgeLanding_126 ?_
          refine lv_topi (fun z146 ez146 => ?_)
          have iz146 : z146.toInt = z53.toInt + 2 := zi_add ez146 rfl rfl (by omega) (by omega)
          refine va_iald hx hb hK hP q144 0 eq144 rfl (vp_in_iff.mpr ⟨by omega, by omega⟩) dX12_judgeLanding_127 ?_
          refine lv_topi (fun z147 ez147 => ?_)
          have jz147 : z147.toInt = mo_R g27 (2251 + 864 * qc + 6 + 5 * w39.toInt) := mo_rd ez147 (by omega)
          have hFc := tp_fr hD hS hA
          refine va_callv (va_runV (As := [.int uc, .int z145, .int z147]) (rest := []) ⟨hx, hb, hml, hown, hts⟩ (t_X12_run l dC dI _ κ Θ τ ν ρ L f132 hG hT h0 uc z145 z147 x b qc ht_h0 (by omega) (by omega) (by omega) (by rw [hf_143, mo_i1]; exact hI) (by omega) (by rw [hf_143, mo_i1, jz145, jz147]; exact hk9.2.1)) (cwV 3 hts gX12_judgeLanding_X12_run rfl rfl rfl ⟨rfl, pd_X12_run⟩ ⟨Nat.le_of_ble_eq_true rfl, Nat.le_of_ble_eq_true rfl⟩) ⟨pz_blind, va_recv hK hP (ci := 12) (q0 := q135) rfl eq135, pz_pre hP hK hD hN⟩ rfl rfl hl.1 rfl (lv_room (Nat.le_of_ble_eq_true rfl)) dX12_judgeLanding_128 ⟨Nat.le_of_ble_eq_true rfl, Nat.le_of_ble_eq_true rfl⟩) hS (fun q _ h => hFc q h) hFc (fun f150 t H1 locs ht hvm hw149 hB hz1 hk1 hS => ?_)
          refine tn_3 hw149 (fun hT hF151 hw149p => ?_); clear hw149
          have hR := hR.then hF151 (by decide)
          have hP := hB.1; rw [ht] at hP; have hD := tp_ad f150 hD; clear hB hFc hz1 hk1; subst ht; generalize t.heap = H at hP hS ⊢
          refine lv_aload_n hx hb dX12_judgeLanding_131 rfl (lv_at hl 3 rfl) ?_
          refine lv_dup hx hb dX12_judgeLanding_132 rfl ?_
          refine tpk_13 hT ht_h0 (fun o152_x0 o152_x1 o152_x7 o152_x9 o152_x10 o152_x11 o152_x12 o152_x13 o152_x14 o152_x15 o152_x16 o152_x17 o152_x18 o152_x19 o152_x20 o152_x22 o152_x25 o152_x28 o152_x29 o152_x32 o152_x33 o152_x34 o152_x35 o152_x36 o152_x37 o152_x38 o152_x47 o152_x48 hf_o152 ro152_0 ro152_1 ro152_2 ro152_3 ro152_4 ro152_5 ro152_6 ro152_7 ro152_8 ro152_9 ro152_10 ro152_11 ro152_12 ro152_13 ro152_14 => ?_)
          refine tpk_pos (tp_in hG ht_h0 (by decide)) hf_o152 (fun q153 eq153 => ?_)
          refine va_get (D := (dC, dI)) (ci := 12) (v := .long o152_x34) (C := RX12) (T := TX12) (N := 53) hx hb hts hfX12 hown hK hP q153 eq153 rfl 34 (by decide) (hts (.fieldLink RX12 452 "ColdShipsModel" "pays" "J") wa_1190) (fun _ h9 => h9) rfl dX12_judgeLanding_133 ?_
          refine lv_aload_n hx hb dX12_judgeLanding_136 rfl (lv_at hl 3 rfl) ?_
          have ro152_10 := tp_hu ro152_10
          refine va_get (D := (dC, dI)) (ci := 12) (v := .int o152_x32) (C := RX12) (T := TX12) (N := 53) hx hb hts hfX12 hown hK hP q153 eq153 rfl 32 (by decide) (hts (.fieldLink RX12 440 "ColdShipsModel" "broken" "Z") wa_1219) (fun _ h9 => h9) rfl dX12_judgeLanding_137 ?_
          refine lv_if_ne (tgt := 160) hx hb dX12_judgeLanding_140 (by decide) (fun c154 => ?_) (fun c154 => ?_)
          · have ic154 : o152_x32.toInt ≠ 0 := zi_ne rfl rfl c154
            replace ic154 : 1 ≤ o152_x32.toInt := by omega
            refine lv_lconst (v := 0) hx hb dX12_judgeLanding_160 (by decide) ?_
            refine lv_ladd hx hb dX12_judgeLanding_161 ?_
            refine lv_topl (fun z155 ez155 => ?_)
            have := zl_bd o152_x34
            have iz155 : z155.toInt = o152_x34.toInt + 0 := zl_add ez155 rfl rfl (by omega) (by omega)
            refine va_put (D := (dC, dI)) (ci := 12) (v := .long z155) (ty := .long) (C := RX12) (T := TX12) (N := 53) hx hb hts hfX12 tyX12 tyX12_ok nmX12 hown hK hP hD hS q153 eq153 rfl 34 (by decide) (hts (.fieldLink RX12 452 "ColdShipsModel" "pays" "J") wa_1190) (fun _ h9 => h9) rfl (tyX12_ok 34 (by decide)) rfl rfl (Nat.le_of_ble_eq_true rfl) dX12_judgeLanding_162 (tp_k (.inr (12, [.int o152_x0, .int o152_x1, .ref (ρ h0 2), .ref (ρ h0 3), .ref (ρ h0 4), .ref (ρ h0 5), .ref (ρ h0 6), .int o152_x7, .ref (ρ h0 8), .int o152_x9, .int o152_x10, .int o152_x11, .int o152_x12, .long o152_x13, .int o152_x14, .int o152_x15, .int o152_x16, .int o152_x17, .int o152_x18, .int o152_x19, .int o152_x20, .ref (ρ h0 21), .int o152_x22, .ref (ρ h0 23), .ref (ρ h0 24), .int o152_x25, .ref (ρ h0 26), .ref (ρ h0 27), .int o152_x28, .int o152_x29, .ref (ρ h0 30), .ref (ρ h0 31), .int o152_x32, .long o152_x33, .long z155, .long o152_x35, .int o152_x36, .int o152_x37, .int o152_x38, .ref (ρ h0 39), .ref (ρ h0 40), .ref (ρ h0 41), .ref (ρ h0 42), .ref (ρ h0 43), .ref (ρ h0 44), .ref (ρ h0 45), .ref (ρ h0 46), .int o152_x47, .int o152_x48, .ref (ρ h0 49), .ref (ρ h0 50), .ref (ρ h0 51), .ref (ρ h0 52)])) hD (tp_in hG ht_h0 (by decide)) eq153 (fun f156 H locs hP hD hS g158 k157 => ?_))
            have hT := hT.up ht_h0 g158 k157 ⟨_, _, _, _, _, _, _, _, _, _, _, _, _, _, _, _, _, _, _, _, _, _, _, _, _, _, _, _, rfl, ro152_0, ro152_1, ro152_2, ro152_3, ro152_4, ro152_5, ro152_6, ro152_7, ro152_8, ro152_9, ro152_10, ro152_11, ro152_12, ro152_13, ro152_14⟩
            have hR := hR.up ht_h0 (by decide) k157
            refine lv_aload_n hx hb dX12_judgeLanding_165 rfl (lv_at hl 3 rfl) ?_
            refine lv_dup hx hb dX12_judgeLanding_166 rfl ?_
            refine tpk_pos (tp_in hG ht_h0 (by decide)) g158 (fun q159 eq159 => ?_)
            refine va_get (D := (dC, dI)) (ci := 12) (v := .long o152_x35) (C := RX12) (T := TX12) (N := 53) hx hb hts hfX12 hown hK hP q159 eq159 rfl 35 (by decide) (hts (.fieldLink RX12 455 "ColdShipsModel" "fines" "J") wa_1191) (fun _ h9 => h9) rfl dX12_judgeLanding_167 ?_
            refine lv_aload_n hx hb dX12_judgeLanding_170 rfl (lv_at hl 3 rfl) ?_
            refine va_get (D := (dC, dI)) (ci := 12) (v := .int o152_x32) (C := RX12) (T := TX12) (N := 53) hx hb hts hfX12 hown hK hP q159 eq159 rfl 32 (by decide) (hts (.fieldLink RX12 440 "ColdShipsModel" "broken" "Z") wa_1219) (fun _ h9 => h9) rfl dX12_judgeLanding_171 ?_
            refine lv_if_ne (tgt := 195) hx hb dX12_judgeLanding_174 (by decide) (fun c160 => ?_) (fun c160 => ?_)
            · have ic160 : o152_x32.toInt ≠ 0 := zi_ne rfl rfl c160
              refine lv_lconst (v := 0) hx hb dX12_judgeLanding_195 (by decide) ?_
              refine lv_ladd hx hb dX12_judgeLanding_196 ?_
              refine lv_topl (fun z161 ez161 => ?_)
              have := zl_bd o152_x35
              have iz161 : z161.toInt = o152_x35.toInt + 0 := zl_add ez161 rfl rfl (by omega) (by omega)
              refine va_put (D := (dC, dI)) (ci := 12) (v := .long z161) (ty := .long) (C := RX12) (T := TX12) (N := 53) hx hb hts hfX12 tyX12 tyX12_ok nmX12 hown hK hP hD hS q159 eq159 rfl 35 (by decide) (hts (.fieldLink RX12 455 "ColdShipsModel" "fines" "J") wa_1191) (fun _ h9 => h9) rfl (tyX12_ok 35 (by decide)) rfl rfl (Nat.le_of_ble_eq_true rfl) dX12_judgeLanding_197 (tp_k (.inr (12, [.int o152_x0, .int o152_x1, .ref (ρ h0 2), .ref (ρ h0 3), .ref (ρ h0 4), .ref (ρ h0 5), .ref (ρ h0 6), .int o152_x7, .ref (ρ h0 8), .int o152_x9, .int o152_x10, .int o152_x11, .int o152_x12, .long o152_x13, .int o152_x14, .int o152_x15, .int o152_x16, .int o152_x17, .int o152_x18, .int o152_x19, .int o152_x20, .ref (ρ h0 21), .int o152_x22, .ref (ρ h0 23), .ref (ρ h0 24), .int o152_x25, .ref (ρ h0 26), .ref (ρ h0 27), .int o152_x28, .int o152_x29, .ref (ρ h0 30), .ref (ρ h0 31), .int o152_x32, .long o152_x33, .long z155, .long z161, .int o152_x36, .int o152_x37, .int o152_x38, .ref (ρ h0 39), .ref (ρ h0 40), .ref (ρ h0 41), .ref (ρ h0 42), .ref (ρ h0 43), .ref (ρ h0 44), .ref (ρ h0 45), .ref (ρ h0 46), .int o152_x47, .int o152_x48, .ref (ρ h0 49), .ref (ρ h0 50), .ref (ρ h0 51), .ref (ρ h0 52)])) hD (tp_in hG ht_h0 (by decide)) eq159 (fun f162 H locs hP hD hS g164 k163 => ?_))
              have hT := hT.up ht_h0 g164 k163 ⟨_, _, _, _, _, _, _, _, _, _, _, _, _, _, _, _, _, _, _, _, _, _, _, _, _, _, _, _, rfl, ro152_0, ro152_1, ro152_2, ro152_3, ro152_4, ro152_5, ro152_6, ro152_7, ro152_8, ro152_9, ro152_10, ro152_11, ro152_12, ro152_13, ro152_14⟩
              have hR := hR.up ht_h0 (by decide) k163
              obtain ⟨z165, ez165⟩ : ∃ y : Int32, y = w39 + 1 := ⟨_, rfl⟩
              refine lv_iinc (v := z165) (lv' := [(3, .int z165), (5, .int 1), (4, .int z53), (0, .ref h0), (1, .int v), (2, .int uc)]) hx hb dX12_judgeLanding_200 hl (k := 2) rfl (by rw [ez165]; rfl) (by decide) rfl (fun ls hl => ?_)
              have iz165 : z165.toInt = w39.toInt + 1 := zi_add ez165 rfl rfl (by omega) (by omega)
              refine lv_goto (tgt := 12) hx hb dX12_judgeLanding_203 (by decide) ?_
              have hf_166 : f150 (ρ h0 2) = .inl (κ 0, 12967, .inl g27) := (hF151 _ (by rw [tp_iu y1]; decide)).trans hf_143
              have hf_167 : f156 (ρ h0 2) = .inl (κ 0, 12967, .inl g27) := (k157 _ (tp_ne y1 ht_h0 (by decide))).trans hf_166
              have hf_168 : f162 (ρ h0 2) = .inl (κ 0, 12967, .inl g27) := (k163 _ (tp_ne y1 ht_h0 (by decide))).trans hf_167
              exact ih43 _ _ _ _ (by rw [hn44]; omega) ⟨f162, z165, rfl, hT, hR, hf_168, (by omega), hP, hD, hS, lv_sub hl [0, 3, 4, 5] rfl⟩
            · have ic160 : o152_x32.toInt = 0 := zi_nef rfl rfl c160
              exfalso; omega
          · have ic154 : o152_x32.toInt = 0 := zi_nef rfl rfl c154
            refine lv_aload_n hx hb dX12_judgeLanding_143 rfl (lv_at hl 3 rfl) ?_
            refine va_get (D := (dC, dI)) (ci := 12) (v := .ref (ρ h0 2)) (C := RX12) (T := TX12) (N := 53) hx hb hts hfX12 hown hK hP q153 eq153 rfl 2 (by decide) (hts (.fieldLink RX12 7 "ColdShipsModel" "row" "[I") wa_148) (fun _ h9 => h9) rfl dX12_judgeLanding_144 ?_
            refine lv_iload hx hb dX12_judgeLanding_147 (lv_at hl 1 rfl) ?_
            have hf_169 : f150 (ρ h0 2) = .inl (κ 0, 12967, .inl g27) := (hF151 _ (by rw [tp_iu y1]; decide)).trans hf_143
            refine tpk_pos (tp_in hG y1 (by decide)) hf_169 (fun q170 eq170 => ?_)
            refine va_iald hx hb hK hP q170 0 eq170 rfl (vp_in_iff.mpr ⟨by omega, by omega⟩) dX12_judgeLanding_149 ?_
            refine lv_topi (fun z171 ez171 => ?_)
            have jz171 : z171.toInt = mo_R g27 (2251 + 864 * qc + 4 + 5 * w39.toInt) := mo_rd ez171 (by omega)
            refine lv_if_ne (tgt := 160) hx hb dX12_judgeLanding_150 (by decide) (fun c172 => ?_) (fun c172 => ?_)
            · have ic172 : z171.toInt ≠ 0 := zi_ne rfl rfl c172
              refine lv_lconst (v := 0) hx hb dX12_judgeLanding_160 (by decide) ?_
              refine lv_ladd hx hb dX12_judgeLanding_161 ?_
              refine lv_topl (fun z173 ez173 => ?_)
              have := zl_bd o152_x34
              have iz173 : z173.toInt = o152_x34.toInt + 0 := zl_add ez173 rfl rfl (by omega) (by omega)
              refine va_put (D := (dC, dI)) (ci := 12) (v := .long z173) (ty := .long) (C := RX12) (T := TX12) (N := 53) hx hb hts hfX12 tyX12 tyX12_ok nmX12 hown hK hP hD hS q153 eq153 rfl 34 (by decide) (hts (.fieldLink RX12 452 "ColdShipsModel" "pays" "J") wa_1190) (fun _ h9 => h9) rfl (tyX12_ok 34 (by decide)) rfl rfl (Nat.le_of_ble_eq_true rfl) dX12_judgeLanding_162 (tp_k (.inr (12, [.int o152_x0, .int o152_x1, .ref (ρ h0 2), .ref (ρ h0 3), .ref (ρ h0 4), .ref (ρ h0 5), .ref (ρ h0 6), .int o152_x7, .ref (ρ h0 8), .int o152_x9, .int o152_x10, .int o152_x11, .int o152_x12, .long o152_x13, .int o152_x14, .int o152_x15, .int o152_x16, .int o152_x17, .int o152_x18, .int o152_x19, .int o152_x20, .ref (ρ h0 21), .int o152_x22, .ref (ρ h0 23), .ref (ρ h0 24), .int o152_x25, .ref (ρ h0 26), .ref (ρ h0 27), .int o152_x28, .int o152_x29, .ref (ρ h0 30), .ref (ρ h0 31), .int o152_x32, .long o152_x33, .long z173, .long o152_x35, .int o152_x36, .int o152_x37, .int o152_x38, .ref (ρ h0 39), .ref (ρ h0 40), .ref (ρ h0 41), .ref (ρ h0 42), .ref (ρ h0 43), .ref (ρ h0 44), .ref (ρ h0 45), .ref (ρ h0 46), .int o152_x47, .int o152_x48, .ref (ρ h0 49), .ref (ρ h0 50), .ref (ρ h0 51), .ref (ρ h0 52)])) hD (tp_in hG ht_h0 (by decide)) eq153 (fun f174 H locs hP hD hS g176 k175 => ?_))
              have hT := hT.up ht_h0 g176 k175 ⟨_, _, _, _, _, _, _, _, _, _, _, _, _, _, _, _, _, _, _, _, _, _, _, _, _, _, _, _, rfl, ro152_0, ro152_1, ro152_2, ro152_3, ro152_4, ro152_5, ro152_6, ro152_7, ro152_8, ro152_9, ro152_10, ro152_11, ro152_12, ro152_13, ro152_14⟩
              have hR := hR.up ht_h0 (by decide) k175
              refine lv_aload_n hx hb dX12_judgeLanding_165 rfl (lv_at hl 3 rfl) ?_
              refine lv_dup hx hb dX12_judgeLanding_166 rfl ?_
              refine tpk_pos (tp_in hG ht_h0 (by decide)) g176 (fun q177 eq177 => ?_)
              refine va_get (D := (dC, dI)) (ci := 12) (v := .long o152_x35) (C := RX12) (T := TX12) (N := 53) hx hb hts hfX12 hown hK hP q177 eq177 rfl 35 (by decide) (hts (.fieldLink RX12 455 "ColdShipsModel" "fines" "J") wa_1191) (fun _ h9 => h9) rfl dX12_judgeLanding_167 ?_
              refine lv_aload_n hx hb dX12_judgeLanding_170 rfl (lv_at hl 3 rfl) ?_
              refine va_get (D := (dC, dI)) (ci := 12) (v := .int o152_x32) (C := RX12) (T := TX12) (N := 53) hx hb hts hfX12 hown hK hP q177 eq177 rfl 32 (by decide) (hts (.fieldLink RX12 440 "ColdShipsModel" "broken" "Z") wa_1219) (fun _ h9 => h9) rfl dX12_judgeLanding_171 ?_
              refine lv_if_ne (tgt := 195) hx hb dX12_judgeLanding_174 (by decide) (fun c178 => ?_) (fun c178 => ?_)
              · have ic178 : o152_x32.toInt ≠ 0 := zi_ne rfl rfl c178
                exfalso; omega
              · have ic178 : o152_x32.toInt = 0 := zi_nef rfl rfl c178
                refine lv_aload_n hx hb dX12_judgeLanding_177 rfl (lv_at hl 3 rfl) ?_
                refine va_get (D := (dC, dI)) (ci := 12) (v := .ref (ρ h0 2)) (C := RX12) (T := TX12) (N := 53) hx hb hts hfX12 hown hK hP q177 eq177 rfl 2 (by decide) (hts (.fieldLink RX12 7 "ColdShipsModel" "row" "[I") wa_148) (fun _ h9 => h9) rfl dX12_judgeLanding_178 ?_
                refine lv_iload hx hb dX12_judgeLanding_181 (lv_at hl 1 rfl) ?_
                have hf_179 : f174 (ρ h0 2) = .inl (κ 0, 12967, .inl g27) := (k175 _ (tp_ne y1 ht_h0 (by decide))).trans hf_169
                refine tpk_pos (tp_in hG y1 (by decide)) hf_179 (fun q180 eq180 => ?_)
                refine va_iald hx hb hK hP q180 0 eq180 rfl (vp_in_iff.mpr ⟨by omega, by omega⟩) dX12_judgeLanding_183 ?_
                refine lv_topi (fun z181 ez181 => ?_)
                have jz181 : z181.toInt = mo_R g27 (2251 + 864 * qc + 4 + 5 * w39.toInt) := mo_rd ez181 (by omega)
                have vz181 : z181.toInt = z171.toInt := jz181.trans (jz171).symm
                refine lv_iconst (v := 1) hx hb dX12_judgeLanding_184 (by decide) ?_
                refine lv_icmp_ne (tgt := 195) hx hb dX12_judgeLanding_185 (by decide) (fun c182 => ?_) (fun c182 => ?_)
                · have ic182 : z181.toInt ≠ 1 := zi_ne rfl rfl c182
                  refine lv_lconst (v := 0) hx hb dX12_judgeLanding_195 (by decide) ?_
                  refine lv_ladd hx hb dX12_judgeLanding_196 ?_
                  refine lv_topl (fun z183 ez183 => ?_)
                  have := zl_bd o152_x35
                  have iz183 : z183.toInt = o152_x35.toInt + 0 := zl_add ez183 rfl rfl (by omega) (by omega)
                  refine va_put (D := (dC, dI)) (ci := 12) (v := .long z183) (ty := .long) (C := RX12) (T := TX12) (N := 53) hx hb hts hfX12 tyX12 tyX12_ok nmX12 hown hK hP hD hS q177 eq177 rfl 35 (by decide) (hts (.fieldLink RX12 455 "ColdShipsModel" "fines" "J") wa_1191) (fun _ h9 => h9) rfl (tyX12_ok 35 (by decide)) rfl rfl (Nat.le_of_ble_eq_true rfl) dX12_judgeLanding_197 (tp_k (.inr (12, [.int o152_x0, .int o152_x1, .ref (ρ h0 2), .ref (ρ h0 3), .ref (ρ h0 4), .ref (ρ h0 5), .ref (ρ h0 6), .int o152_x7, .ref (ρ h0 8), .int o152_x9, .int o152_x10, .int o152_x11, .int o152_x12, .long o152_x13, .int o152_x14, .int o152_x15, .int o152_x16, .int o152_x17, .int o152_x18, .int o152_x19, .int o152_x20, .ref (ρ h0 21), .int o152_x22, .ref (ρ h0 23), .ref (ρ h0 24), .int o152_x25, .ref (ρ h0 26), .ref (ρ h0 27), .int o152_x28, .int o152_x29, .ref (ρ h0 30), .ref (ρ h0 31), .int o152_x32, .long o152_x33, .long z173, .long z183, .int o152_x36, .int o152_x37, .int o152_x38, .ref (ρ h0 39), .ref (ρ h0 40), .ref (ρ h0 41), .ref (ρ h0 42), .ref (ρ h0 43), .ref (ρ h0 44), .ref (ρ h0 45), .ref (ρ h0 46), .int o152_x47, .int o152_x48, .ref (ρ h0 49), .ref (ρ h0 50), .ref (ρ h0 51), .ref (ρ h0 52)])) hD (tp_in hG ht_h0 (by decide)) eq177 (fun f184 H locs hP hD hS g186 k185 => ?_))
                  have hT := hT.up ht_h0 g186 k185 ⟨_, _, _, _, _, _, _, _, _, _, _, _, _, _, _, _, _, _, _, _, _, _, _, _, _, _, _, _, rfl, ro152_0, ro152_1, ro152_2, ro152_3, ro152_4, ro152_5, ro152_6, ro152_7, ro152_8, ro152_9, ro152_10, ro152_11, ro152_12, ro152_13, ro152_14⟩
                  have hR := hR.up ht_h0 (by decide) k185
                  obtain ⟨z187, ez187⟩ : ∃ y : Int32, y = w39 + 1 := ⟨_, rfl⟩
                  refine lv_iinc (v := z187) (lv' := [(3, .int z187), (5, .int 1), (4, .int z53), (0, .ref h0), (1, .int v), (2, .int uc)]) hx hb dX12_judgeLanding_200 hl (k := 2) rfl (by rw [ez187]; rfl) (by decide) rfl (fun ls hl => ?_)
                  have iz187 : z187.toInt = w39.toInt + 1 := zi_add ez187 rfl rfl (by omega) (by omega)
                  refine lv_goto (tgt := 12) hx hb dX12_judgeLanding_203 (by decide) ?_
                  have hf_188 : f184 (ρ h0 2) = .inl (κ 0, 12967, .inl g27) := (k185 _ (tp_ne y1 ht_h0 (by decide))).trans hf_179
                  exact ih43 _ _ _ _ (by rw [hn44]; omega) ⟨f184, z187, rfl, hT, hR, hf_188, (by omega), hP, hD, hS, lv_sub hl [0, 3, 4, 5] rfl⟩
                · have ic182 : z181.toInt = 1 := zi_nef rfl rfl c182
                  refine lv_aload_n hx hb dX12_judgeLanding_188 rfl (lv_at hl 3 rfl) ?_
                  refine va_get (D := (dC, dI)) (ci := 12) (v := .long o152_x33) (C := RX12) (T := TX12) (N := 53) hx hb hts hfX12 hown hK hP q177 eq177 rfl 33 (by decide) (hts (.fieldLink RX12 449 "ColdShipsModel" "value" "J") wa_1220) (fun _ h9 => h9) rfl dX12_judgeLanding_189 ?_
                  refine lv_goto (tgt := 196) hx hb dX12_judgeLanding_192 (by decide) ?_
                  refine lv_ladd hx hb dX12_judgeLanding_196 ?_
                  refine lv_topl (fun z189 ez189 => ?_)
                  refine va_put (D := (dC, dI)) (ci := 12) (v := .long z189) (ty := .long) (C := RX12) (T := TX12) (N := 53) hx hb hts hfX12 tyX12 tyX12_ok nmX12 hown hK hP hD hS q177 eq177 rfl 35 (by decide) (hts (.fieldLink RX12 455 "ColdShipsModel" "fines" "J") wa_1191) (fun _ h9 => h9) rfl (tyX12_ok 35 (by decide)) rfl rfl (Nat.le_of_ble_eq_true rfl) dX12_judgeLanding_197 (tp_k (.inr (12, [.int o152_x0, .int o152_x1, .ref (ρ h0 2), .ref (ρ h0 3), .ref (ρ h0 4), .ref (ρ h0 5), .ref (ρ h0 6), .int o152_x7, .ref (ρ h0 8), .int o152_x9, .int o152_x10, .int o152_x11, .int o152_x12, .long o152_x13, .int o152_x14, .int o152_x15, .int o152_x16, .int o152_x17, .int o152_x18, .int o152_x19, .int o152_x20, .ref (ρ h0 21), .int o152_x22, .ref (ρ h0 23), .ref (ρ h0 24), .int o152_x25, .ref (ρ h0 26), .ref (ρ h0 27), .int o152_x28, .int o152_x29, .ref (ρ h0 30), .ref (ρ h0 31), .int o152_x32, .long o152_x33, .long z173, .long z189, .int o152_x36, .int o152_x37, .int o152_x38, .ref (ρ h0 39), .ref (ρ h0 40), .ref (ρ h0 41), .ref (ρ h0 42), .ref (ρ h0 43), .ref (ρ h0 44), .ref (ρ h0 45), .ref (ρ h0 46), .int o152_x47, .int o152_x48, .ref (ρ h0 49), .ref (ρ h0 50), .ref (ρ h0 51), .ref (ρ h0 52)])) hD (tp_in hG ht_h0 (by decide)) eq177 (fun f190 H locs hP hD hS g192 k191 => ?_))
                  have hT := hT.up ht_h0 g192 k191 ⟨_, _, _, _, _, _, _, _, _, _, _, _, _, _, _, _, _, _, _, _, _, _, _, _, _, _, _, _, rfl, ro152_0, ro152_1, ro152_2, ro152_3, ro152_4, ro152_5, ro152_6, ro152_7, ro152_8, ro152_9, ro152_10, ro152_11, ro152_12, ro152_13, ro152_14⟩
                  have hR := hR.up ht_h0 (by decide) k191
                  obtain ⟨z193, ez193⟩ : ∃ y : Int32, y = w39 + 1 := ⟨_, rfl⟩
                  refine lv_iinc (v := z193) (lv' := [(3, .int z193), (5, .int 1), (4, .int z53), (0, .ref h0), (1, .int v), (2, .int uc)]) hx hb dX12_judgeLanding_200 hl (k := 2) rfl (by rw [ez193]; rfl) (by decide) rfl (fun ls hl => ?_)
                  have iz193 : z193.toInt = w39.toInt + 1 := zi_add ez193 rfl rfl (by omega) (by omega)
                  refine lv_goto (tgt := 12) hx hb dX12_judgeLanding_203 (by decide) ?_
                  have hf_194 : f190 (ρ h0 2) = .inl (κ 0, 12967, .inl g27) := (k191 _ (tp_ne y1 ht_h0 (by decide))).trans hf_179
                  exact ih43 _ _ _ _ (by rw [hn44]; omega) ⟨f190, z193, rfl, hT, hR, hf_194, (by omega), hP, hD, hS, lv_sub hl [0, 3, 4, 5] rfl⟩
            · have ic172 : z171.toInt = 0 := zi_nef rfl rfl c172
              refine lv_aload_n hx hb dX12_judgeLanding_153 rfl (lv_at hl 3 rfl) ?_
              refine va_get (D := (dC, dI)) (ci := 12) (v := .long o152_x33) (C := RX12) (T := TX12) (N := 53) hx hb hts hfX12 hown hK hP q153 eq153 rfl 33 (by decide) (hts (.fieldLink RX12 449 "ColdShipsModel" "value" "J") wa_1220) (fun _ h9 => h9) rfl dX12_judgeLanding_154 ?_
              refine lv_goto (tgt := 161) hx hb dX12_judgeLanding_157 (by decide) ?_
              refine lv_ladd hx hb dX12_judgeLanding_161 ?_
              refine lv_topl (fun z195 ez195 => ?_)
              refine va_put (D := (dC, dI)) (ci := 12) (v := .long z195) (ty := .long) (C := RX12) (T := TX12) (N := 53) hx hb hts hfX12 tyX12 tyX12_ok nmX12 hown hK hP hD hS q153 eq153 rfl 34 (by decide) (hts (.fieldLink RX12 452 "ColdShipsModel" "pays" "J") wa_1190) (fun _ h9 => h9) rfl (tyX12_ok 34 (by decide)) rfl rfl (Nat.le_of_ble_eq_true rfl) dX12_judgeLanding_162 (tp_k (.inr (12, [.int o152_x0, .int o152_x1, .ref (ρ h0 2), .ref (ρ h0 3), .ref (ρ h0 4), .ref (ρ h0 5), .ref (ρ h0 6), .int o152_x7, .ref (ρ h0 8), .int o152_x9, .int o152_x10, .int o152_x11, .int o152_x12, .long o152_x13, .int o152_x14, .int o152_x15, .int o152_x16, .int o152_x17, .int o152_x18, .int o152_x19, .int o152_x20, .ref (ρ h0 21), .int o152_x22, .ref (ρ h0 23), .ref (ρ h0 24), .int o152_x25, .ref (ρ h0 26), .ref (ρ h0 27), .int o152_x28, .int o152_x29, .ref (ρ h0 30), .ref (ρ h0 31), .int o152_x32, .long o152_x33, .long z195, .long o152_x35, .int o152_x36, .int o152_x37, .int o152_x38, .ref (ρ h0 39), .ref (ρ h0 40), .ref (ρ h0 41), .ref (ρ h0 42), .ref (ρ h0 43), .ref (ρ h0 44), .ref (ρ h0 45), .ref (ρ h0 46), .int o152_x47, .int o152_x48, .ref (ρ h0 49), .ref (ρ h0 50), .ref (ρ h0 51), .ref (ρ h0 52)])) hD (tp_in hG ht_h0 (by decide)) eq153 (fun f196 H locs hP hD hS g198 k197 => ?_))
              have hT := hT.up ht_h0 g198 k197 ⟨_, _, _, _, _, _, _, _, _, _, _, _, _, _, _, _, _, _, _, _, _, _, _, _, _, _, _, _, rfl, ro152_0, ro152_1, ro152_2, ro152_3, ro152_4, ro152_5, ro152_6, ro152_7, ro152_8, ro152_9, ro152_10, ro152_11, ro152_12, ro152_13, ro152_14⟩
              have hR := hR.up ht_h0 (by decide) k197
              refine lv_aload_n hx hb dX12_judgeLanding_165 rfl (lv_at hl 3 rfl) ?_
              refine lv_dup hx hb dX12_judgeLanding_166 rfl ?_
              refine tpk_pos (tp_in hG ht_h0 (by decide)) g198 (fun q199 eq199 => ?_)
              refine va_get (D := (dC, dI)) (ci := 12) (v := .long o152_x35) (C := RX12) (T := TX12) (N := 53) hx hb hts hfX12 hown hK hP q199 eq199 rfl 35 (by decide) (hts (.fieldLink RX12 455 "ColdShipsModel" "fines" "J") wa_1191) (fun _ h9 => h9) rfl dX12_judgeLanding_167 ?_
              refine lv_aload_n hx hb dX12_judgeLanding_170 rfl (lv_at hl 3 rfl) ?_
              refine va_get (D := (dC, dI)) (ci := 12) (v := .int o152_x32) (C := RX12) (T := TX12) (N := 53) hx hb hts hfX12 hown hK hP q199 eq199 rfl 32 (by decide) (hts (.fieldLink RX12 440 "ColdShipsModel" "broken" "Z") wa_1219) (fun _ h9 => h9) rfl dX12_judgeLanding_171 ?_
              refine lv_if_ne (tgt := 195) hx hb dX12_judgeLanding_174 (by decide) (fun c200 => ?_) (fun c200 => ?_)
              · have ic200 : o152_x32.toInt ≠ 0 := zi_ne rfl rfl c200
                exfalso; omega
              · have ic200 : o152_x32.toInt = 0 := zi_nef rfl rfl c200
                refine lv_aload_n hx hb dX12_judgeLanding_177 rfl (lv_at hl 3 rfl) ?_
                refine va_get (D := (dC, dI)) (ci := 12) (v := .ref (ρ h0 2)) (C := RX12) (T := TX12) (N := 53) hx hb hts hfX12 hown hK hP q199 eq199 rfl 2 (by decide) (hts (.fieldLink RX12 7 "ColdShipsModel" "row" "[I") wa_148) (fun _ h9 => h9) rfl dX12_judgeLanding_178 ?_
                refine lv_iload hx hb dX12_judgeLanding_181 (lv_at hl 1 rfl) ?_
                have hf_201 : f196 (ρ h0 2) = .inl (κ 0, 12967, .inl g27) := (k197 _ (tp_ne y1 ht_h0 (by decide))).trans hf_169
                refine tpk_pos (tp_in hG y1 (by decide)) hf_201 (fun q202 eq202 => ?_)
                refine va_iald hx hb hK hP q202 0 eq202 rfl (vp_in_iff.mpr ⟨by omega, by omega⟩) dX12_judgeLanding_183 ?_
                refine lv_topi (fun z203 ez203 => ?_)
                have jz203 : z203.toInt = mo_R g27 (2251 + 864 * qc + 4 + 5 * w39.toInt) := mo_rd ez203 (by omega)
                have vz203 : z203.toInt = z171.toInt := jz203.trans (jz171).symm
                refine lv_iconst (v := 1) hx hb dX12_judgeLanding_184 (by decide) ?_
                refine lv_icmp_ne (tgt := 195) hx hb dX12_judgeLanding_185 (by decide) (fun c204 => ?_) (fun c204 => ?_)
                · have ic204 : z203.toInt ≠ 1 := zi_ne rfl rfl c204
                  refine lv_lconst (v := 0) hx hb dX12_judgeLanding_195 (by decide) ?_
                  refine lv_ladd hx hb dX12_judgeLanding_196 ?_
                  refine lv_topl (fun z205 ez205 => ?_)
                  have := zl_bd o152_x35
                  have iz205 : z205.toInt = o152_x35.toInt + 0 := zl_add ez205 rfl rfl (by omega) (by omega)
                  refine va_put (D := (dC, dI)) (ci := 12) (v := .long z205) (ty := .long) (C := RX12) (T := TX12) (N := 53) hx hb hts hfX12 tyX12 tyX12_ok nmX12 hown hK hP hD hS q199 eq199 rfl 35 (by decide) (hts (.fieldLink RX12 455 "ColdShipsModel" "fines" "J") wa_1191) (fun _ h9 => h9) rfl (tyX12_ok 35 (by decide)) rfl rfl (Nat.le_of_ble_eq_true rfl) dX12_judgeLanding_197 (tp_k (.inr (12, [.int o152_x0, .int o152_x1, .ref (ρ h0 2), .ref (ρ h0 3), .ref (ρ h0 4), .ref (ρ h0 5), .ref (ρ h0 6), .int o152_x7, .ref (ρ h0 8), .int o152_x9, .int o152_x10, .int o152_x11, .int o152_x12, .long o152_x13, .int o152_x14, .int o152_x15, .int o152_x16, .int o152_x17, .int o152_x18, .int o152_x19, .int o152_x20, .ref (ρ h0 21), .int o152_x22, .ref (ρ h0 23), .ref (ρ h0 24), .int o152_x25, .ref (ρ h0 26), .ref (ρ h0 27), .int o152_x28, .int o152_x29, .ref (ρ h0 30), .ref (ρ h0 31), .int o152_x32, .long o152_x33, .long z195, .long z205, .int o152_x36, .int o152_x37, .int o152_x38, .ref (ρ h0 39), .ref (ρ h0 40), .ref (ρ h0 41), .ref (ρ h0 42), .ref (ρ h0 43), .ref (ρ h0 44), .ref (ρ h0 45), .ref (ρ h0 46), .int o152_x47, .int o152_x48, .ref (ρ h0 49), .ref (ρ h0 50), .ref (ρ h0 51), .ref (ρ h0 52)])) hD (tp_in hG ht_h0 (by decide)) eq199 (fun f206 H locs hP hD hS g208 k207 => ?_))
                  have hT := hT.up ht_h0 g208 k207 ⟨_, _, _, _, _, _, _, _, _, _, _, _, _, _, _, _, _, _, _, _, _, _, _, _, _, _, _, _, rfl, ro152_0, ro152_1, ro152_2, ro152_3, ro152_4, ro152_5, ro152_6, ro152_7, ro152_8, ro152_9, ro152_10, ro152_11, ro152_12, ro152_13, ro152_14⟩
                  have hR := hR.up ht_h0 (by decide) k207
                  obtain ⟨z209, ez209⟩ : ∃ y : Int32, y = w39 + 1 := ⟨_, rfl⟩
                  refine lv_iinc (v := z209) (lv' := [(3, .int z209), (5, .int 1), (4, .int z53), (0, .ref h0), (1, .int v), (2, .int uc)]) hx hb dX12_judgeLanding_200 hl (k := 2) rfl (by rw [ez209]; rfl) (by decide) rfl (fun ls hl => ?_)
                  have iz209 : z209.toInt = w39.toInt + 1 := zi_add ez209 rfl rfl (by omega) (by omega)
                  refine lv_goto (tgt := 12) hx hb dX12_judgeLanding_203 (by decide) ?_
                  have hf_210 : f206 (ρ h0 2) = .inl (κ 0, 12967, .inl g27) := (k207 _ (tp_ne y1 ht_h0 (by decide))).trans hf_201
                  exact ih43 _ _ _ _ (by rw [hn44]; omega) ⟨f206, z209, rfl, hT, hR, hf_210, (by omega), hP, hD, hS, lv_sub hl [0, 3, 4, 5] rfl⟩
                · have ic204 : z203.toInt = 1 := zi_nef rfl rfl c204
                  exfalso; omega
