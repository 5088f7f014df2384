set_option maxHeartbeats 4000000 in
set_option maxRecDepth 100000 in
theorem t_X12_swapPlaces (l : Launch) (dC : Nat → ClassId) (dI : Nat → Nat → Nat) (sz : Nat) (κ : Nat → ClassId) (τ ν : Nat → Nat) (ρ : Nat → Nat → Nat) (L : List Nat) (f : Nat → va_E) (hG : tp_G τ ν ρ L) (hT : tp_T (mo_O κ) κ τ ν ρ f) (h0 : Nat) (v : Int32) (u : Int32) (ht_h0 : τ h0 = 13) (hr_v : 0 ≤ v.toInt ∧ v.toInt ≤ 5) (hr_u : 0 ≤ u.toInt ∧ u.toInt ≤ 5) : Met l yX12_swapPlaces wqX12_swapPlaces ({ frames := 2, cells := 0, slots := 0, locals := 400 }) (va_Pc [.ref h0, .int v, .int u] (pz_B dC dI (tp_K κ) (va_pl L f) sz)) (va_Qv (fun (f1 : Nat → va_E) => tp_T (mo_O κ) κ τ ν ρ f1 ∧ tp_F τ [76] f f1 ∧ mo_SW (mo_R (mo_i (f (ρ h0 46)))) (mo_R (mo_i (f1 (ρ h0 46)))) v.toInt u.toInt) (fun (f1 : Nat → va_E) (t : State) => pz_E dC dI (tp_K κ) (va_A (va_pl L f) sz) (va_pl L f1) t) (va_A (va_pl L f) sz)) 0 0 (va_A (va_pl L f) sz) := by
  refine Met.ofW (cc := cX12_swapPlaces) (maxL := 4) (ret := none) (by decide) rfl ?_
  intro p e s m args below meth c s₁ B hml hv
  obtain ⟨rfl, hsz, hP, hK, hD0, hN⟩ := hv
  have hx := B.exec
  have hb := B.bytes
  have hr := B.returns
  have hts := fun (w : Cond) (h : w ∈ WALL) => atoms_spec (ws := wqX12_swapPlaces) B.pre w (List.mem_cons_of_mem _ h)
  have hown : s.vm.findClass RX12 = some m.cls := findClass_of_methodNamed B.named
  have hlocks := B.notSynchronized
  subst hsz
  have hD := hD0.self (sz := s.heap.size)
  generalize hAe : va_A (va_pl L f) s.heap.size = A at hD ⊢
  have hA : ∀ q : Nat, s.heap.size ≤ q → A q := fun q h => by rw [← hAe]; exact Or.inr h
  have hS : va_S A s.heap s.heap [] := va_S.rf
  have hR : tp_F τ [76] f f := tp_F.rf
  have hl := lv_entry ([.ref h0, .int v, .int u]) (n := 4) (Nat.le_of_ble_eq_true rfl)
  rw [lg_entry_eq]
  generalize (lg_sl ([.ref h0, .int v, .int u]) ++ List.replicate (4 - (lg_sl ([.ref h0, .int v, .int u])).length) Slot.unset).toArray = ls at hl ⊢
  have hl : lv_has ls 4 [(0, .ref h0), (1, .int v), (2, .int u)] := hl
  obtain ⟨y1, y2, y3, y4, y5, y6, y7, y8, y9, y10, y11, y12, y13, y14, y15, y16, y17, y18, y19, y20, y21, y22, y23, y24, y25⟩ := tpg_13 hG ht_h0
  obtain ⟨g27, hf_o26⟩ := tpo_76 hT y21
  refine lv_aload_n hx hb dX12_swapPlaces_0 rfl (lv_at hl 0 rfl) ?_
  obtain ⟨o28_x0, o28_x1, o28_x7, o28_x9, o28_x10, o28_x11, o28_x12, o28_x13, o28_x14, o28_x15, o28_x16, o28_x17, o28_x18, o28_x19, o28_x20, o28_x22, o28_x25, o28_x28, o28_x29, o28_x32, o28_x33, o28_x34, o28_x35, o28_x36, o28_x37, o28_x38, o28_x47, o28_x48, hf_o28, ro28_0, ro28_1, ro28_2, ro28_3, ro28_4, ro28_5, ro28_6, ro28_7, ro28_8, ro28_9, ro28_10, ro28_11, ro28_12, ro28_13⟩ := tpo_13 hT ht_h0
  obtain ⟨q29, eq29⟩ := tp_pos (tp_in hG ht_h0 (by decide)) hf_o28
  refine va_get (D := (dC, dI)) (ci := 12) (v := .ref (ρ h0 46)) (C := RX12) (T := TX12) (N := 53) hx hb hts hfX12 hown hK hP q29 eq29 rfl 46 (by decide) (hts (.fieldLink RX12 76 "ColdShipsModel" "places" "[I") wa_170) (fun _ h9 => h9) rfl dX12_swapPlaces_1 ?_
  refine lv_iload_n hx hb dX12_swapPlaces_4 rfl (lv_at hl 1 rfl) ?_
  obtain ⟨q30, eq30⟩ := tp_pos (tp_in hG y21 (by decide)) hf_o26
  refine va_iald hx hb hK hP q30 0 eq30 rfl (vp_in_iff.mpr ⟨by omega, by omega⟩) dX12_swapPlaces_5 ?_
  refine lv_topi (fun z31 ez31 => ?_)
  have jz31 : z31.toInt = mo_R g27 v.toInt := mo_rd ez31 (by omega)
  refine lv_istore_n (lv' := [(3, .int z31), (0, .ref h0), (1, .int v), (2, .int u)]) hx hb dX12_swapPlaces_6 rfl hl (by decide) rfl (fun ls hl => ?_)
  refine lv_aload_n hx hb dX12_swapPlaces_7 rfl (lv_at hl 1 rfl) ?_
  refine va_get (D := (dC, dI)) (ci := 12) (v := .ref (ρ h0 46)) (C := RX12) (T := TX12) (N := 53) hx hb hts hfX12 hown hK hP q29 eq29 rfl 46 (by decide) (hts (.fieldLink RX12 76 "ColdShipsModel" "places" "[I") wa_170) (fun _ h9 => h9) rfl dX12_swapPlaces_8 ?_
  refine lv_iload_n hx hb dX12_swapPlaces_11 rfl (lv_at hl 2 rfl) ?_
  refine lv_aload_n hx hb dX12_swapPlaces_12 rfl (lv_at hl 1 rfl) ?_
  refine va_get (D := (dC, dI)) (ci := 12) (v := .ref (ρ h0 46)) (C := RX12) (T := TX12) (N := 53) hx hb hts hfX12 hown hK hP q29 eq29 rfl 46 (by decide) (hts (.fieldLink RX12 76 "ColdShipsModel" "places" "[I") wa_170) (fun _ h9 => h9) rfl dX12_swapPlaces_13 ?_
  refine lv_iload_n hx hb dX12_swapPlaces_16 rfl (lv_at hl 3 rfl) ?_
  refine va_iald hx hb hK hP q30 0 eq30 rfl (vp_in_iff.mpr ⟨by omega, by omega⟩) dX12_swapPlaces_17 ?_
  refine lv_topi (fun z32 ez32 => ?_)
  have jz32 : z32.toInt = mo_R g27 u.toInt := mo_rd ez32 (by omega)
  refine va_iast hx hb hK hP hD hS q30 0 eq30 rfl (vp_in_iff.mpr ⟨by omega, by omega⟩) dX12_swapPlaces_18 (tp_k (.inl (κ 0, 6, .inl (upd g27 v.toNatClampNeg z32))) hD (tp_in hG y21 (by decide)) eq30 (fun f33 H locs hP hD hS g35 k34 => ?_))
  have hT := hT.up y21 g35 k34 tp_o76
  have hR := hR.up y21 (by decide) k34
  have hU37 : mo_U (mo_R g27) (mo_R (upd g27 v.toNatClampNeg z32)) (v.toInt) (z32.toInt) := mo_up (by omega) (rfl : z32.toInt = _) (by omega)
  generalize (upd g27 v.toNatClampNeg z32) = g36 at g35 hU37
  have hU37e := hU37.eq (by omega)
  refine lv_aload_n hx hb dX12_swapPlaces_19 rfl (lv_at hl 1 rfl) ?_
  have hf_38 : f33 h0 = .inr (12, [.int o28_x0, .int o28_x1, .ref (ρ h0 2), .ref (ρ h0 3), .ref (ρ h0 4), .ref (ρ h0 5), .ref (ρ h0 6), .int o28_x7, .ref (ρ h0 8), .int o28_x9, .int o28_x10, .int o28_x11, .int o28_x12, .long o28_x13, .int o28_x14, .int o28_x15, .int o28_x16, .int o28_x17, .int o28_x18, .int o28_x19, .int o28_x20, .ref (ρ h0 21), .int o28_x22, .ref (ρ h0 23), .ref (ρ h0 24), .int o28_x25, .ref (ρ h0 26), .ref (ρ h0 27), .int o28_x28, .int o28_x29, .ref (ρ h0 30), .ref (ρ h0 31), .int o28_x32, .long o28_x33, .long o28_x34, .long o28_x35, .int o28_x36, .int o28_x37, .int o28_x38, .ref (ρ h0 39), .ref (ρ h0 40), .ref (ρ h0 41), .ref (ρ h0 42), .ref (ρ h0 43), .ref (ρ h0 44), .ref (ρ h0 45), .ref (ρ h0 46), .int o28_x47, .int o28_x48, .ref (ρ h0 49), .ref (ρ h0 50), .ref (ρ h0 51), .ref (ρ h0 52)]) := (k34 _ (tp_ne ht_h0 y21 (by decide))).trans hf_o28
  obtain ⟨q39, eq39⟩ := tp_pos (tp_in hG ht_h0 (by decide)) hf_38
  refine va_get (D := (dC, dI)) (ci := 12) (v := .ref (ρ h0 46)) (C := RX12) (T := TX12) (N := 53) hx hb hts hfX12 hown hK hP q39 eq39 rfl 46 (by decide) (hts (.fieldLink RX12 76 "ColdShipsModel" "places" "[I") wa_170) (fun _ h9 => h9) rfl dX12_swapPlaces_20 ?_
  refine lv_iload_n hx hb dX12_swapPlaces_23 rfl (lv_at hl 3 rfl) ?_
  refine lv_iload_n hx hb dX12_swapPlaces_24 rfl (lv_at hl 0 rfl) ?_
  obtain ⟨q40, eq40⟩ := tp_pos (tp_in hG y21 (by decide)) g35
  refine va_iast hx hb hK hP hD hS q40 0 eq40 rfl (vp_in_iff.mpr ⟨by omega, by omega⟩) dX12_swapPlaces_25 (tp_k (.inl (κ 0, 6, .inl (upd g36 u.toNatClampNeg z31))) hD (tp_in hG y21 (by decide)) eq40 (fun f41 H locs hP hD hS g43 k42 => ?_))
  have hT := hT.up y21 g43 k42 tp_o76
  have hR := hR.up y21 (by decide) k42
  have hU45 : mo_U (mo_R g36) (mo_R (upd g36 u.toNatClampNeg z31)) (u.toInt) (z31.toInt) := mo_up (by omega) (rfl : z31.toInt = _) (by omega)
  generalize (upd g36 u.toNatClampNeg z31) = g44 at g43 hU45
  have hU45e := hU45.eq (by omega)
  exact W.vret hx hb hr (fun t ht hW => ⟨⟨f41, rfl, ⟨hT, hR, (by simp only [hf_o26, g43, mo_i1, mo_l1]; exact (show mo_SW (mo_R g27) (mo_R g44) v.toInt u.toInt from mo_SW.of hU37 hU45 (by omega) (by omega)))⟩, by rw [ht]; exact hP, va_K.moved hW.alike hK, hD⟩, hS.F ht⟩) hS.2.2 dX12_swapPlaces_26
set_option maxHeartbeats 4000000 in
set_option maxRecDepth 100000 in
theorem t_X12_nextPlaces (l : Launch) (dC : Nat → ClassId) (dI : Nat → Nat → Nat) (sz : Nat) (κ : Nat → ClassId) (τ ν : Nat → Nat) (ρ : Nat → Nat → Nat) (L : List Nat) (f : Nat → va_E) (hG : tp_G τ ν ρ L) (hT : tp_T (mo_O κ) κ τ ν ρ f) (h0 : Nat) (v : Int32) (ht_h0 : τ h0 = 13) (hr_v : 0 ≤ v.toInt ∧ v.toInt ≤ 6) (hpm : mo_PM (mo_R (mo_i (f (ρ h0 46)))) v.toInt) : Met l yX12_nextPlaces wqX12_nextPlaces ({ frames := 3, cells := 0, slots := 0, locals := 800 }) (va_Pc [.ref h0, .int v] (pz_B dC dI (tp_K κ) (va_pl L f) sz)) (va_Qi (fun (r : Int32) (f1 : Nat → va_E) => tp_T (mo_O κ) κ τ ν ρ f1 ∧ tp_F τ [76] f f1 ∧ (0 ≤ r.toInt ∧ r.toInt ≤ 1) ∧ mo_PM (mo_R (mo_i (f1 (ρ h0 46)))) v.toInt ∧ mo_V (mo_R (mo_i (f (ρ h0 46)))) v.toInt.toNat ≤ mo_V (mo_R (mo_i (f1 (ρ h0 46)))) v.toInt.toNat ∧ (r.toInt ≠ 0 → mo_V (mo_R (mo_i (f (ρ h0 46)))) v.toInt.toNat < mo_V (mo_R (mo_i (f1 (ρ h0 46)))) v.toInt.toNat)) (fun (f1 : Nat → va_E) (t : State) => pz_E dC dI (tp_K κ) (va_A (va_pl L f) sz) (va_pl L f1) t) (va_A (va_pl L f) sz)) 0 0 (va_A (va_pl L f) sz) := by
  refine Met.ofW (cc := cX12_nextPlaces) (maxL := 6) (ret := some .boolean) (by decide) rfl ?_
  intro p e s m args below meth c s₁ B hml hv
  obtain ⟨rfl, hsz, hP, hK, hD0, hN⟩ := hv
  have hx := B.exec
  have hb := B.bytes
  have hr := B.returns
  have hts := fun (w : Cond) (h : w ∈ WALL) => atoms_spec (ws := wqX12_nextPlaces) B.pre w (List.mem_cons_of_mem _ h)
  have hown : s.vm.findClass RX12 = some m.cls := findClass_of_methodNamed B.named
  have hlocks := B.notSynchronized
  subst hsz
  have hD := hD0.self (sz := s.heap.size)
  generalize hAe : va_A (va_pl L f) s.heap.size = A at hD ⊢
  have hA : ∀ q : Nat, s.heap.size ≤ q → A q := fun q h => by rw [← hAe]; exact Or.inr h
  have hS : va_S A s.heap s.heap [] := va_S.rf
  have hR : tp_F τ [76] f f := tp_F.rf
  have hl := lv_entry ([.ref h0, .int v]) (n := 6) (Nat.le_of_ble_eq_true rfl)
  rw [lg_entry_eq]
  generalize (lg_sl ([.ref h0, .int v]) ++ List.replicate (6 - (lg_sl ([.ref h0, .int v])).length) Slot.unset).toArray = ls at hl ⊢
  have hl : lv_has ls 6 [(0, .ref h0), (1, .int v)] := hl
  obtain ⟨y1, y2, y3, y4, y5, y6, y7, y8, y9, y10, y11, y12, y13, y14, y15, y16, y17, y18, y19, y20, y21, y22, y23, y24, y25⟩ := tpg_13 hG ht_h0
  obtain ⟨g27, hf_o26⟩ := tpo_76 hT y21
  have hpm : mo_PM (mo_R g27) v.toInt := by have q9 := hpm; simp only [hf_o26, mo_i1, mo_l1] at q9; exact q9
  refine lv_iload_n hx hb dX12_nextPlaces_0 rfl (lv_at hl 1 rfl) ?_
  refine lv_iconst (v := 2) hx hb dX12_nextPlaces_1 (by decide) ?_
  refine lv_isub hx hb dX12_nextPlaces_2 ?_
  refine lv_topi (fun z28 ez28 => ?_)
  have iz28 : z28.toInt = v.toInt - 2 := zi_sub ez28 rfl rfl (by omega) (by omega)
  refine lv_istore_n (lv' := [(2, .int z28), (0, .ref h0), (1, .int v)]) hx hb dX12_nextPlaces_3 rfl hl (by decide) rfl (fun ls hl => ?_)
  refine pz_loop (fun n0 H locs ls => ∃ w29 : Int32, n0 = ((w29.toInt) + 2).toNat ∧ ((-2) ≤ w29.toInt ∧ w29.toInt ≤ 4) ∧ ((w29.toInt) ≤ v.toInt - 2) ∧ va_P (dC, dI) vwCl (va_pl L f) H ∧ va_D A (va_pl L f) ∧ va_S A s.heap H locs ∧ lv_has ls 6 [(2, .int w29), (0, .ref h0), (1, .int v)]) ?_ _ _ _ _ ⟨z28, rfl, (by omega), (by omega), hP, hD, hS, lv_sub hl [0, 1, 2] rfl⟩
  intro n0 H locs ls hI ih31
  obtain ⟨w29, hn32, rw29, k30, hP, hD, hS, hl⟩ := hI
  refine lv_iload_n hx hb dX12_nextPlaces_4 rfl (lv_at hl 0 rfl) ?_
  refine lv_if_lt (tgt := 31) hx hb dX12_nextPlaces_5 (by decide) (fun c33 => ?_) (fun c33 => ?_)
  · have ic33 : w29.toInt < 0 := zi_lt rfl rfl c33
    refine lv_iload_n hx hb dX12_nextPlaces_31 rfl (lv_at hl 0 rfl) ?_
    refine lv_if_ge (tgt := 37) hx hb dX12_nextPlaces_32 (by decide) (fun c34 => ?_) (fun c34 => ?_)
    · have ic34 : w29.toInt ≥ 0 := zi_ge rfl rfl c34
      exfalso; omega
    · have ic34 : w29.toInt < 0 := zi_gef rfl rfl c34
      refine lv_iconst (v := 0) hx hb dX12_nextPlaces_35 (by decide) ?_
      exact W.zret (v := 0) hx hb hr rfl (fun t ht hW => ⟨⟨0, f, rfl, ⟨hT, hR, (by first | decide | omega), (by simp only [hf_o26, mo_i1, mo_l1]; exact (show mo_PM (mo_R g27) v.toInt ∧ mo_V (mo_R g27) v.toInt.toNat ≤ mo_V (mo_R g27) v.toInt.toNat ∧ ((0 : Int32).toInt ≠ 0 → mo_V (mo_R g27) v.toInt.toNat < mo_V (mo_R g27) v.toInt.toNat) from ⟨hpm, Int.le_refl _, fun q9 => absurd (by decide) q9⟩))⟩, by rw [ht]; exact hP, va_K.moved hW.alike hK, hD⟩, hS.F ht⟩) hS.2.2 dX12_nextPlaces_36
  · have ic33 : w29.toInt ≥ 0 := zi_ltf rfl rfl c33
    refine lv_aload_n hx hb dX12_nextPlaces_8 rfl (lv_at hl 1 rfl) ?_
    obtain ⟨o35_x0, o35_x1, o35_x7, o35_x9, o35_x10, o35_x11, o35_x12, o35_x13, o35_x14, o35_x15, o35_x16, o35_x17, o35_x18, o35_x19, o35_x20, o35_x22, o35_x25, o35_x28, o35_x29, o35_x32, o35_x33, o35_x34, o35_x35, o35_x36, o35_x37, o35_x38, o35_x47, o35_x48, hf_o35, ro35_0, ro35_1, ro35_2, ro35_3, ro35_4, ro35_5, ro35_6, ro35_7, ro35_8, ro35_9, ro35_10, ro35_11, ro35_12, ro35_13⟩ := tpo_13 hT ht_h0
    obtain ⟨q36, eq36⟩ := tp_pos (tp_in hG ht_h0 (by decide)) hf_o35
    refine va_get (D := (dC, dI)) (ci := 12) (v := .ref (ρ h0 46)) (C := RX12) (T := TX12) (N := 53) hx hb hts hfX12 hown hK hP q36 eq36 rfl 46 (by decide) (hts (.fieldLink RX12 76 "ColdShipsModel" "places" "[I") wa_170) (fun _ h9 => h9) rfl dX12_nextPlaces_9 ?_
    refine lv_iload_n hx hb dX12_nextPlaces_12 rfl (lv_at hl 0 rfl) ?_
    obtain ⟨q37, eq37⟩ := tp_pos (tp_in hG y21 (by decide)) hf_o26
    refine va_iald hx hb hK hP q37 0 eq37 rfl (vp_in_iff.mpr ⟨by omega, by omega⟩) dX12_nextPlaces_13 ?_
    refine lv_topi (fun z38 ez38 => ?_)
    have jz38 : z38.toInt = mo_R g27 w29.toInt := mo_rd ez38 (by omega)
    refine lv_aload_n hx hb dX12_nextPlaces_14 rfl (lv_at hl 1 rfl) ?_
    refine va_get (D := (dC, dI)) (ci := 12) (v := .ref (ρ h0 46)) (C := RX12) (T := TX12) (N := 53) hx hb hts hfX12 hown hK hP q36 eq36 rfl 46 (by decide) (hts (.fieldLink RX12 76 "ColdShipsModel" "places" "[I") wa_170) (fun _ h9 => h9) rfl dX12_nextPlaces_15 ?_
    refine lv_iload_n hx hb dX12_nextPlaces_18 rfl (lv_at hl 0 rfl) ?_
    refine lv_iconst (v := 1) hx hb dX12_nextPlaces_19 (by decide) ?_
    refine lv_iadd hx hb dX12_nextPlaces_20 ?_
    refine lv_topi (fun z39 ez39 => ?_)
    have iz39 : z39.toInt = w29.toInt + 1 := zi_add ez39 rfl rfl (by omega) (by omega)
    refine va_iald hx hb hK hP q37 0 eq37 rfl (vp_in_iff.mpr ⟨by omega, by omega⟩) dX12_nextPlaces_21 ?_
    refine lv_topi (fun z40 ez40 => ?_)
    have jz40 : z40.toInt = mo_R g27 (w29.toInt + 1) := mo_rd ez40 (by omega)
    refine lv_icmp_le (tgt := 31) hx hb dX12_nextPlaces_22 (by decide) (fun c41 => ?_) (fun c41 => ?_)
    · have ic41 : z38.toInt ≤ z40.toInt := zi_le rfl rfl c41
      refine lv_iload_n hx hb dX12_nextPlaces_31 rfl (lv_at hl 0 rfl) ?_
      refine lv_if_ge (tgt := 37) hx hb dX12_nextPlaces_32 (by decide) (fun c42 => ?_) (fun c42 => ?_)
      · have ic42 : w29.toInt ≥ 0 := zi_ge rfl rfl c42
        refine lv_iload_n hx hb dX12_nextPlaces_37 rfl (lv_at hl 2 rfl) ?_
        refine lv_iconst (v := 1) hx hb dX12_nextPlaces_38 (by decide) ?_
        refine lv_isub hx hb dX12_nextPlaces_39 ?_
        refine lv_topi (fun z43 ez43 => ?_)
        have iz43 : z43.toInt = v.toInt - 1 := zi_sub ez43 rfl rfl (by omega) (by omega)
        refine lv_istore_n (lv' := [(3, .int z43), (2, .int w29), (0, .ref h0), (1, .int v)]) hx hb dX12_nextPlaces_40 rfl hl (by decide) rfl (fun ls hl => ?_)
        refine pz_loop (fun n0 H locs ls => ∃ w44 : Int32, n0 = ((w44.toInt)).toNat ∧ (1 ≤ w44.toInt ∧ w44.toInt ≤ 5) ∧ (w29.toInt < (w44.toInt)) ∧ ((w44.toInt) ≤ v.toInt - 1) ∧ va_P (dC, dI) vwCl (va_pl L f) H ∧ va_D A (va_pl L f) ∧ va_S A s.heap H locs ∧ lv_has ls 6 [(3, .int w44), (2, .int w29), (0, .ref h0), (1, .int v)]) ?_ _ _ _ _ ⟨z43, rfl, (by omega), (by omega), (by omega), hP, hD, hS, lv_sub hl [0, 1, 2, 3] rfl⟩
        intro n0 H locs ls hI ih47
        obtain ⟨w44, hn48, rw44, k45, k46, hP, hD, hS, hl⟩ := hI
        refine lv_aload_n hx hb dX12_nextPlaces_41 rfl (lv_at hl 2 rfl) ?_
        refine va_get (D := (dC, dI)) (ci := 12) (v := .ref (ρ h0 46)) (C := RX12) (T := TX12) (N := 53) hx hb hts hfX12 hown hK hP q36 eq36 rfl 46 (by decide) (hts (.fieldLink RX12 76 "ColdShipsModel" "places" "[I") wa_170) (fun _ h9 => h9) rfl dX12_nextPlaces_42 ?_
        refine lv_iload_n hx hb dX12_nextPlaces_45 rfl (lv_at hl 0 rfl) ?_
        refine va_iald hx hb hK hP q37 0 eq37 rfl (vp_in_iff.mpr ⟨by omega, by omega⟩) dX12_nextPlaces_46 ?_
        refine lv_topi (fun z49 ez49 => ?_)
        have jz49 : z49.toInt = mo_R g27 w44.toInt := mo_rd ez49 (by omega)
        refine lv_aload_n hx hb dX12_nextPlaces_47 rfl (lv_at hl 2 rfl) ?_
        refine va_get (D := (dC, dI)) (ci := 12) (v := .ref (ρ h0 46)) (C := RX12) (T := TX12) (N := 53) hx hb hts hfX12 hown hK hP q36 eq36 rfl 46 (by decide) (hts (.fieldLink RX12 76 "ColdShipsModel" "places" "[I") wa_170) (fun _ h9 => h9) rfl dX12_nextPlaces_48 ?_
        refine lv_iload_n hx hb dX12_nextPlaces_51 rfl (lv_at hl 1 rfl) ?_
        refine va_iald hx hb hK hP q37 0 eq37 rfl (vp_in_iff.mpr ⟨by omega, by omega⟩) dX12_nextPlaces_52 ?_
        refine lv_topi (fun z50 ez50 => ?_)
        have jz50 : z50.toInt = mo_R g27 w29.toInt := mo_rd ez50 (by omega)
        refine lv_icmp_ge (tgt := 62) hx hb dX12_nextPlaces_53 (by decide) (fun c51 => ?_) (fun c51 => ?_)
        · have ic51 : z49.toInt ≥ z50.toInt := zi_ge rfl rfl c51
          refine lv_aload_n hx hb dX12_nextPlaces_62 rfl (lv_at hl 2 rfl) ?_
          refine lv_iload_n hx hb dX12_nextPlaces_63 rfl (lv_at hl 1 rfl) ?_
          refine lv_iload_n hx hb dX12_nextPlaces_64 rfl (lv_at hl 0 rfl) ?_
          have hFc := tp_fr hD hS hA
          refine va_callv (va_runV (As := [.int w29, .int w44]) (rest := []) ⟨hx, hb, hml, hown, hts⟩ (t_X12_swapPlaces l dC dI _ κ τ ν ρ L f hG hT h0 w29 w44 ht_h0 (by first | decide | omega) (by first | decide | omega)) (cwV 2 hts gX12_nextPlaces_X12_swapPlaces rfl rfl rfl ⟨rfl, pd_X12_swapPlaces⟩ ⟨Nat.le_of_ble_eq_true rfl, Nat.le_of_ble_eq_true rfl⟩) ⟨pz_blind, va_recv hK hP (ci := 12) (q0 := q36) rfl eq36, pz_pre hP hK hD hN⟩ rfl rfl hl.1 rfl (lv_room (Nat.le_of_ble_eq_true rfl)) dX12_nextPlaces_65 ⟨Nat.le_of_ble_eq_true rfl, Nat.le_of_ble_eq_true rfl⟩) hS (fun q _ h => hFc q h) hFc (fun f54 t H1 locs ht hvm hw53 hB hz1 hk1 hS => ?_)
          obtain ⟨hT, hF55, hw53p⟩ := hw53
          have hR := hR.then hF55 (by decide)
          have hP := hB.1; rw [ht] at hP; have hD := tp_ad f54 hD; clear hB hFc hz1 hk1; subst ht; generalize t.heap = H at hP hS ⊢
          obtain ⟨g57, hf_o56⟩ := tpo_76 hT y21
          have tk58 : mo_SW (mo_R g27) (mo_R g57) w29.toInt w44.toInt := by have q9 := hw53p; simp only [hf_o26, hf_o56, mo_i1, mo_l1] at q9; exact q9
          have np59n : (mo_R g27) w29.toInt ≠ (mo_R g27) w44.toInt := hpm.2.1 w29.toInt w44.toInt (by omega) (by omega) (by omega)
          refine lv_iload_n hx hb dX12_nextPlaces_68 rfl (lv_at hl 1 rfl) ?_
          refine lv_iconst (v := 1) hx hb dX12_nextPlaces_69 (by decide) ?_
          refine lv_iadd hx hb dX12_nextPlaces_70 ?_
          refine lv_topi (fun z60 ez60 => ?_)
          have iz60 : z60.toInt = w29.toInt + 1 := zi_add ez60 rfl rfl (by omega) (by omega)
          refine lv_istore (lv' := [(4, .int z60), (3, .int w44), (2, .int w29), (0, .ref h0), (1, .int v)]) hx hb dX12_nextPlaces_71 hl (by decide) rfl (fun ls hl => ?_)
          refine lv_iload_n hx hb dX12_nextPlaces_73 rfl (lv_at hl 4 rfl) ?_
          refine lv_iconst (v := 1) hx hb dX12_nextPlaces_74 (by decide) ?_
          refine lv_isub hx hb dX12_nextPlaces_75 ?_
          refine lv_topi (fun z61 ez61 => ?_)
          have iz61 : z61.toInt = v.toInt - 1 := zi_sub ez61 rfl rfl (by omega) (by omega)
          refine lv_istore (lv' := [(5, .int z61), (4, .int z60), (3, .int w44), (2, .int w29), (0, .ref h0), (1, .int v)]) hx hb dX12_nextPlaces_76 hl (by decide) rfl (fun ls hl => ?_)
          refine pz_loop (fun n0 H locs ls => ∃ f66 : Nat → va_E, ∃ w62 : Int32, ∃ w63 : Int32, n0 = ((w62.toInt) - (w63.toInt)).toNat ∧ tp_T (mo_O κ) κ τ ν ρ f66 ∧ tp_F τ [76] f f66 ∧ ((mo_PM (mo_R (mo_i (f66 (ρ h0 46)))) v.toInt)) ∧ ((∀ i, 0 ≤ i → i < w29.toInt → (mo_R (mo_i (f66 (ρ h0 46)))) i = (mo_R g27) i)) ∧ (((mo_R g27) w29.toInt < (mo_R (mo_i (f66 (ρ h0 46)))) w29.toInt)) ∧ (0 ≤ w62.toInt ∧ w62.toInt ≤ 5) ∧ (1 ≤ w63.toInt ∧ w63.toInt ≤ 6) ∧ (w29.toInt < (w63.toInt)) ∧ ((w62.toInt) ≤ v.toInt - 1) ∧ va_P (dC, dI) vwCl (va_pl L f66) H ∧ va_D A (va_pl L f66) ∧ va_S A s.heap H locs ∧ lv_has ls 6 [(5, .int w62), (4, .int w63), (3, .int w44), (2, .int w29), (0, .ref h0), (1, .int v)]) ?_ _ _ _ _ ⟨f54, z61, z60, rfl, hT, hR, (by simp only [hf_o56, mo_i1, mo_l1]; exact (show mo_PM (mo_R g57) v.toInt from (hpm.sw tk58 (by omega) (by omega) (by omega) (by omega)))), (by simp only [hf_o56, mo_i1, mo_l1]; exact (show ∀ i, 0 ≤ i → i < w29.toInt → (mo_R g57) i = (mo_R g27) i from (fun i i0 i1 => tk58.ne i0 (by omega) (by omega)))), (by simp only [hf_o56, mo_i1, mo_l1]; exact (show (mo_R g27) w29.toInt < (mo_R g57) w29.toInt from (by rw [tk58.fst (by omega)]; omega))), (by omega), (by omega), (by omega), (by omega), hP, hD, hS, lv_sub hl [0, 1, 2, 3, 4, 5] rfl⟩
          intro n0 H locs ls hI ih68
          obtain ⟨f66, w62, w63, hn69, hT, hR, jf70, jf71, jf72, rw62, rw63, k64, k65, hP, hD, hS, hl⟩ := hI
          obtain ⟨g74, hf_o73⟩ := tpo_76 hT y21
          have jf70 : mo_PM (mo_R g74) v.toInt := by have q9 := jf70; simp only [hf_o73, mo_i1, mo_l1] at q9; exact q9
          have jf71 : ∀ i, 0 ≤ i → i < w29.toInt → (mo_R g74) i = (mo_R g27) i := by have q9 := jf71; simp only [hf_o73, mo_i1, mo_l1] at q9; exact q9
          have jf72 : (mo_R g27) w29.toInt < (mo_R g74) w29.toInt := by have q9 := jf72; simp only [hf_o73, mo_i1, mo_l1] at q9; exact q9
          refine lv_iload hx hb dX12_nextPlaces_78 (lv_at hl 1 rfl) ?_
          refine lv_iload hx hb dX12_nextPlaces_80 (lv_at hl 0 rfl) ?_
          refine lv_icmp_ge (tgt := 102) hx hb dX12_nextPlaces_82 (by decide) (fun c75 => ?_) (fun c75 => ?_)
          · have ic75 : w63.toInt ≥ w62.toInt := zi_ge rfl rfl c75
            refine lv_iconst (v := 1) hx hb dX12_nextPlaces_102 (by decide) ?_
            exact W.zret (v := 1) hx hb hr rfl (fun t ht hW => ⟨⟨1, f66, rfl, ⟨hT, hR, (by first | decide | omega), (by simp only [hf_o73, hf_o26, mo_i1, mo_l1]; exact (show mo_PM (mo_R g74) v.toInt ∧ mo_V (mo_R g27) v.toInt.toNat ≤ mo_V (mo_R g74) v.toInt.toNat ∧ ((1 : Int32).toInt ≠ 0 → mo_V (mo_R g27) v.toInt.toNat < mo_V (mo_R g74) v.toInt.toNat) from (have q7 := mo_lex (by omega) (by omega) jf71 jf72 hpm jf70 (by omega); ⟨jf70, Int.le_of_lt q7, fun _ => q7⟩)))⟩, by rw [ht]; exact hP, va_K.moved hW.alike hK, hD⟩, hS.F ht⟩) hS.2.2 dX12_nextPlaces_103
          · have ic75 : w63.toInt < w62.toInt := zi_gef rfl rfl c75
            refine lv_aload_n hx hb dX12_nextPlaces_85 rfl (lv_at hl 4 rfl) ?_
            refine lv_iload hx hb dX12_nextPlaces_86 (lv_at hl 1 rfl) ?_
            refine lv_iload hx hb dX12_nextPlaces_88 (lv_at hl 0 rfl) ?_
            obtain ⟨o76_x0, o76_x1, o76_x7, o76_x9, o76_x10, o76_x11, o76_x12, o76_x13, o76_x14, o76_x15, o76_x16, o76_x17, o76_x18, o76_x19, o76_x20, o76_x22, o76_x25, o76_x28, o76_x29, o76_x32, o76_x33, o76_x34, o76_x35, o76_x36, o76_x37, o76_x38, o76_x47, o76_x48, hf_o76, ro76_0, ro76_1, ro76_2, ro76_3, ro76_4, ro76_5, ro76_6, ro76_7, ro76_8, ro76_9, ro76_10, ro76_11, ro76_12, ro76_13⟩ := tpo_13 hT ht_h0
            obtain ⟨q77, eq77⟩ := tp_pos (tp_in hG ht_h0 (by decide)) hf_o76
            have hFc := tp_fr hD hS hA
            refine va_callv (va_runV (As := [.int w63, .int w62]) (rest := []) ⟨hx, hb, hml, hown, hts⟩ (t_X12_swapPlaces l dC dI _ κ τ ν ρ L f66 hG hT h0 w63 w62 ht_h0 (by first | decide | omega) (by first | decide | omega)) (cwV 2 hts gX12_nextPlaces_X12_swapPlaces rfl rfl rfl ⟨rfl, pd_X12_swapPlaces⟩ ⟨Nat.le_of_ble_eq_true rfl, Nat.le_of_ble_eq_true rfl⟩) ⟨pz_blind, va_recv hK hP (ci := 12) (q0 := q77) rfl eq77, pz_pre hP hK hD hN⟩ rfl rfl hl.1 rfl (lv_room (Nat.le_of_ble_eq_true rfl)) dX12_nextPlaces_90 ⟨Nat.le_of_ble_eq_true rfl, Nat.le_of_ble_eq_true rfl⟩) hS (fun q _ h => hFc q h) hFc (fun f80 t H1 locs ht hvm hw79 hB hz1 hk1 hS => ?_)
            obtain ⟨hT, hF81, hw79p⟩ := hw79
            have hR := hR.then hF81 (by decide)
            have hP := hB.1; rw [ht] at hP; have hD := tp_ad f80 hD; clear hB hFc hz1 hk1; subst ht; generalize t.heap = H at hP hS ⊢
            obtain ⟨g83, hf_o82⟩ := tpo_76 hT y21
            have tk84 : mo_SW (mo_R g74) (mo_R g83) w63.toInt w62.toInt := by have q9 := hw79p; simp only [hf_o73, hf_o82, mo_i1, mo_l1] at q9; exact q9
            obtain ⟨z85, ez85⟩ : ∃ y : Int32, y = w63 + 1 := ⟨_, rfl⟩
            refine lv_iinc (v := z85) (lv' := [(4, .int z85), (5, .int w62), (3, .int w44), (2, .int w29), (0, .ref h0), (1, .int v)]) hx hb dX12_nextPlaces_93 hl (k := 1) rfl (by rw [ez85]; rfl) (by decide) rfl (fun ls hl => ?_)
            have iz85 : z85.toInt = w63.toInt + 1 := zi_add ez85 rfl rfl (by omega) (by omega)
            obtain ⟨z86, ez86⟩ : ∃ y : Int32, y = w62 + (-1) := ⟨_, rfl⟩
            refine lv_iinc (v := z86) (lv' := [(5, .int z86), (4, .int z85), (3, .int w44), (2, .int w29), (0, .ref h0), (1, .int v)]) hx hb dX12_nextPlaces_96 hl (k := 1) rfl (by rw [ez86]; rfl) (by decide) rfl (fun ls hl => ?_)
            have iz86 : z86.toInt = w62.toInt + (-1) := zi_add ez86 rfl rfl (by omega) (by omega)
            refine lv_goto (tgt := 78) hx hb dX12_nextPlaces_99 (by decide) ?_
            exact ih68 _ _ _ _ (by rw [hn69]; omega) ⟨f80, z86, z85, rfl, hT, hR, (by simp only [hf_o82, mo_i1, mo_l1]; exact (show mo_PM (mo_R g83) v.toInt from (jf70.sw tk84 (by omega) (by omega) (by omega) (by omega)))), (by simp only [hf_o82, mo_i1, mo_l1]; exact (show ∀ i, 0 ≤ i → i < w29.toInt → (mo_R g83) i = (mo_R g27) i from (fun i i0 i1 => (tk84.ne i0 (by omega) (by omega)).trans (jf71 i i0 i1)))), (by simp only [hf_o82, mo_i1, mo_l1]; exact (show (mo_R g27) w29.toInt < (mo_R g83) w29.toInt from (by rw [tk84.ne (by omega) (by omega) (by omega)]; exact jf72))), (by omega), (by omega), (by omega), (by omega), hP, hD, hS, lv_sub hl [0, 1, 2, 3, 4, 5] rfl⟩
        · have ic51 : z49.toInt < z50.toInt := zi_gef rfl rfl c51
          obtain ⟨z87, ez87⟩ : ∃ y : Int32, y = w44 + (-1) := ⟨_, rfl⟩
          refine lv_iinc (v := z87) (lv' := [(3, .int z87), (2, .int w29), (0, .ref h0), (1, .int v)]) hx hb dX12_nextPlaces_56 hl (k := 0) rfl (by rw [ez87]; rfl) (by decide) rfl (fun ls hl => ?_)
          have iz87 : z87.toInt = w44.toInt + (-1) := zi_add ez87 rfl rfl (by omega) (by omega)
          refine lv_goto (tgt := 41) hx hb dX12_nextPlaces_59 (by decide) ?_
          exact ih47 _ _ _ _ (by rw [hn48]; omega) ⟨z87, rfl, (by omega), (by rcases (show w44.toInt = w29.toInt + 1 ∨ w44.toInt ≠ w29.toInt + 1 by omega) with q9 | q9; (exfalso; have q8 : mo_R g27 w44.toInt = mo_R g27 (w29.toInt + 1) := congrArg (mo_R g27) q9; omega); omega), (by omega), hP, hD, hS, lv_sub hl [0, 1, 2, 3] rfl⟩
      · have ic42 : w29.toInt < 0 := zi_gef rfl rfl c42
        exfalso; omega
    · have ic41 : z38.toInt > z40.toInt := zi_lef rfl rfl c41
      obtain ⟨z88, ez88⟩ : ∃ y : Int32, y = w29 + (-1) := ⟨_, rfl⟩
      refine lv_iinc (v := z88) (lv' := [(2, .int z88), (0, .ref h0), (1, .int v)]) hx hb dX12_nextPlaces_25 hl (k := 0) rfl (by rw [ez88]; rfl) (by decide) rfl (fun ls hl => ?_)
      have iz88 : z88.toInt = w29.toInt + (-1) := zi_add ez88 rfl rfl (by omega) (by omega)
      refine lv_goto (tgt := 4) hx hb dX12_nextPlaces_28 (by decide) ?_
      exact ih31 _ _ _ _ (by rw [hn32]; omega) ⟨z88, rfl, (by omega), (by omega), hP, hD, hS, lv_sub hl [0, 1, 2] rfl⟩
