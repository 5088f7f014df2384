set_option maxHeartbeats 4000000 in
set_option maxRecDepth 100000 in
theorem t_X2_hasRoom (l : Launch) (dC : Nat → ClassId) (dI : Nat → Nat → Nat) (sz : Nat) (κ : Nat → ClassId) (τ ν : Nat → Nat) (ρ : Nat → Nat → Nat) (L : List Nat) (f : Nat → va_E) (hG : tp_G τ ν ρ L) (hT : tp_T κ τ ν ρ f) (h0 : Nat) (ht_h0 : τ h0 = 3) : Met l yX2_hasRoom wsX2_hasRoom ({ frames := 2, cells := 0, slots := 0, locals := 400 }) (va_Pc [.ref h0] (pz_B dC dI (tp_K κ) (va_pl L f) sz)) (vp_Si (fun r => (0 ≤ r.toInt ∧ r.toInt ≤ 1) ∧ True)) 0 0 (fun _ => False) := by
  refine Met.ofW (cc := cX2_hasRoom) (maxL := 1) (ret := some .boolean) (by decide) rfl ?_
  intro p e s m args below meth c s₁ B hml hv
  obtain ⟨rfl, hsz, hP, hK, hD0, hN⟩ := hv
  have hx := B.exec
  have hb := B.bytes
  have hr := B.returns
  have hts := atoms_spec (ws := wsX2_hasRoom) B.pre
  have hown : s.vm.findClass RX2 = some m.cls := findClass_of_methodNamed B.named
  have hlocks := B.notSynchronized
  subst hsz
  have hD := hD0
  have hS : va_S (fun _ => True) s.heap s.heap [] := va_S.rf
  have hl := lv_entry ([.ref h0]) (n := 1) (Nat.le_of_ble_eq_true rfl)
  rw [lg_entry_eq]
  generalize (lg_sl ([.ref h0]) ++ List.replicate (1 - (lg_sl ([.ref h0])).length) Slot.unset).toArray = ls at hl ⊢
  have hl : lv_has ls 1 [(0, .ref h0)] := hl
  have hfX2 : ∀ w ∈ wsX20, w ∈ wsX2_hasRoom := fun w h => List.mem_cons_of_mem _ (List.mem_append_right _ h)
  refine lv_aload_n hx hb dX2_hasRoom_0 rfl (lv_at hl 0 rfl) ?_
  obtain ⟨⟨y1, y1n⟩, ⟨y2, y2n⟩, ⟨y3, y3n⟩⟩ := tpg_3 hG ht_h0
  obtain ⟨o4_x1, o4_x2, o4_x3, o4_x4, o4_x5, o4_x6, o4_x8, o4_x10, o4_x11, o4_x12, o4_x13, o4_x14, o4_x15, hf_o4, ro4_0, ro4_1, ro4_2, ro4_3, ro4_4, ro4_5, ro4_6⟩ := tpo_3 hT ht_h0
  obtain ⟨q5, eq5⟩ := tp_pos (tp_in hG ht_h0 (by decide)) hf_o4
  refine va_get (D := (dC, dI)) (ci := 2) (v := .int o4_x1) (C := RX2) (T := TX2) (N := 16) hx hb hts hfX2 hown hK hP q5 eq5 rfl 1 (by decide) (hts (.fieldLink RX2 26 "ColdShips$Reader" "size" "I") (by decide +kernel)) (fun _ h9 => h9) rfl dX2_hasRoom_1 ?_
  refine lv_bipush (v := 20) hx hb dX2_hasRoom_4 (by decide) ?_
  refine lv_iadd hx hb dX2_hasRoom_6 ?_
  refine lv_topi (fun z6 ez6 => ?_)
  have iz6 : z6.toInt = o4_x1.toInt + 20 := zi_add ez6 rfl rfl (by omega) (by omega)
  refine lv_sipush (v := 400) hx hb dX2_hasRoom_7 (by decide) ?_
  refine lv_icmp_gt (tgt := 17) hx hb dX2_hasRoom_10 (by decide) (fun c7 => ?_) (fun c7 => ?_)
  · have ic7 : z6.toInt > 400 := zi_gt rfl rfl c7
    refine lv_iconst (v := 0) hx hb dX2_hasRoom_17 (by decide) ?_
    exact W.zret (v := 0) hx hb hr rfl (fun t ht hW => ⟨0, rfl, ⟨(by first | decide | omega), trivial⟩, ht⟩) (fun _ h => by cases h) dX2_hasRoom_18
  · have ic7 : z6.toInt ≤ 400 := zi_gtf rfl rfl c7
    refine lv_iconst (v := 1) hx hb dX2_hasRoom_13 (by decide) ?_
    refine lv_goto (tgt := 18) hx hb dX2_hasRoom_14 (by decide) ?_
    exact W.zret (v := 1) hx hb hr rfl (fun t ht hW => ⟨1, rfl, ⟨(by first | decide | omega), trivial⟩, ht⟩) (fun _ h => by cases h) dX2_hasRoom_18
set_option maxHeartbeats 4000000 in
set_option maxRecDepth 100000 in
theorem t_X2_addFour (l : Launch) (dC : Nat → ClassId) (dI : Nat → Nat → Nat) (sz : Nat) (κ : Nat → ClassId) (τ ν : Nat → Nat) (ρ : Nat → Nat → Nat) (L : List Nat) (f : Nat → va_E) (hG : tp_G τ ν ρ L) (hT : tp_T κ τ ν ρ f) (h0 : Nat) (v : Int32) (ht_h0 : τ h0 = 3) : Met l yX2_addFour wsX2_addFour ({ frames := 2, cells := 0, slots := 0, locals := 400 }) (va_Pc [.ref h0, .int v] (pz_B dC dI (tp_K κ) (va_pl L f) sz)) (va_Qv (fun (f1 : Nat → va_E) => tp_T κ τ ν ρ f1 ∧ tp_F τ [3, 22] f f1 ∧ True) (fun (f1 : Nat → va_E) (t : State) => pz_E dC dI (tp_K κ) (va_A (va_pl L f) sz) (va_pl L f1) t) (va_A (va_pl L f) sz)) 0 0 (va_A (va_pl L f) sz) := by
  refine Met.ofW (cc := cX2_addFour) (maxL := 3) (ret := none) (by decide) rfl ?_
  intro p e s m args below meth c s₁ B hml hv
  obtain ⟨rfl, hsz, hP, hK, hD0, hN⟩ := hv
  have hx := B.exec
  have hb := B.bytes
  have hr := B.returns
  have hts := atoms_spec (ws := wsX2_addFour) B.pre
  have hown : s.vm.findClass RX2 = some m.cls := findClass_of_methodNamed B.named
  have hlocks := B.notSynchronized
  subst hsz
  have hD := hD0.self (sz := s.heap.size)
  generalize hAe : va_A (va_pl L f) s.heap.size = A at hD ⊢
  have hA : ∀ q : Nat, s.heap.size ≤ q → A q := fun q h => by rw [← hAe]; exact Or.inr h
  have hS : va_S A s.heap s.heap [] := va_S.rf
  have hR : tp_F τ [3, 22] f f := tp_F.rf
  have hl := lv_entry ([.ref h0, .int v]) (n := 3) (Nat.le_of_ble_eq_true rfl)
  rw [lg_entry_eq]
  generalize (lg_sl ([.ref h0, .int v]) ++ List.replicate (3 - (lg_sl ([.ref h0, .int v])).length) Slot.unset).toArray = ls at hl ⊢
  have hl : lv_has ls 3 [(0, .ref h0), (1, .int v)] := hl
  have hfX2 : ∀ w ∈ wsX20, w ∈ wsX2_addFour := fun w h => List.mem_cons_of_mem _ (List.mem_append_right _ h)
  refine lv_bipush (v := 24) hx hb dX2_addFour_0 (by decide) ?_
  refine lv_istore_n (lv' := [(2, .int 24), (0, .ref h0), (1, .int v)]) hx hb dX2_addFour_2 rfl hl (by decide) rfl (fun ls hl => ?_)
  refine pz_loop (fun n0 H locs ls => ∃ f2 : Nat → va_E, ∃ w1 : Int32, n0 = ((w1.toInt) + 8).toNat ∧ tp_T κ τ ν ρ f2 ∧ tp_F τ [3, 22] f f2 ∧ ((-8) ≤ w1.toInt ∧ w1.toInt ≤ 24) ∧ va_P (dC, dI) vwCl (va_pl L f2) H ∧ va_D A (va_pl L f2) ∧ va_S A s.heap H locs ∧ lv_has ls 3 [(2, .int w1), (0, .ref h0), (1, .int v)]) ?_ _ _ _ _ ⟨f, 24, rfl, hT, hR, (by have : (24 : Int32).toInt = 24 := rfl; omega), hP, hD, hS, lv_sub hl [0, 1, 2] rfl⟩
  intro n0 H locs ls hI ih3
  obtain ⟨f2, w1, hn4, hT, hR, rw1, hP, hD, hS, hl⟩ := hI
  refine lv_iload_n hx hb dX2_addFour_3 rfl (lv_at hl 0 rfl) ?_
  refine lv_if_lt (tgt := 50) hx hb dX2_addFour_4 (by decide) (fun c5 => ?_) (fun c5 => ?_)
  · have ic5 : w1.toInt < 0 := zi_lt rfl rfl c5
    exact W.vret hx hb hr (fun t ht hW => ⟨⟨f2, rfl, ⟨hT, hR, trivial⟩, by rw [ht]; exact hP, va_K.moved hW.alike hK, hD⟩, hS.F ht⟩) hS.2.2 dX2_addFour_50
  · have ic5 : w1.toInt ≥ 0 := zi_ltf rfl rfl c5
    refine lv_aload_n hx hb dX2_addFour_7 rfl (lv_at hl 1 rfl) ?_
    obtain ⟨⟨y6, y6n⟩, ⟨y7, y7n⟩, ⟨y8, y8n⟩⟩ := tpg_3 hG ht_h0
    obtain ⟨o9_x1, o9_x2, o9_x3, o9_x4, o9_x5, o9_x6, o9_x8, o9_x10, o9_x11, o9_x12, o9_x13, o9_x14, o9_x15, hf_o9, ro9_0, ro9_1, ro9_2, ro9_3, ro9_4, ro9_5, ro9_6⟩ := tpo_3 hT ht_h0
    obtain ⟨q10, eq10⟩ := tp_pos (tp_in hG ht_h0 (by decide)) hf_o9
    refine va_get (D := (dC, dI)) (ci := 2) (v := .int o9_x1) (C := RX2) (T := TX2) (N := 16) hx hb hts hfX2 hown hK hP q10 eq10 rfl 1 (by decide) (hts (.fieldLink RX2 26 "ColdShips$Reader" "size" "I") (by decide +kernel)) (fun _ h9 => h9) rfl dX2_addFour_8 ?_
    refine lv_sipush (v := 400) hx hb dX2_addFour_11 (by decide) ?_
    refine lv_icmp_ge (tgt := 50) hx hb dX2_addFour_14 (by decide) (fun c11 => ?_) (fun c11 => ?_)
    · have ic11 : o9_x1.toInt ≥ 400 := zi_ge rfl rfl c11
      exact W.vret hx hb hr (fun t ht hW => ⟨⟨f2, rfl, ⟨hT, hR, trivial⟩, by rw [ht]; exact hP, va_K.moved hW.alike hK, hD⟩, hS.F ht⟩) hS.2.2 dX2_addFour_50
    · have ic11 : o9_x1.toInt < 400 := zi_gef rfl rfl c11
      refine lv_aload_n hx hb dX2_addFour_17 rfl (lv_at hl 1 rfl) ?_
      refine va_get (D := (dC, dI)) (ci := 2) (v := .ref (ρ h0 0)) (C := RX2) (T := TX2) (N := 16) hx hb hts hfX2 hown hK hP q10 eq10 rfl 0 (by decide) (hts (.fieldLink RX2 11 "ColdShips$Reader" "tape" "[C") (by decide +kernel)) (fun _ h9 => h9) rfl dX2_addFour_18 ?_
      refine lv_aload_n hx hb dX2_addFour_21 rfl (lv_at hl 1 rfl) ?_
      refine va_get (D := (dC, dI)) (ci := 2) (v := .int o9_x1) (C := RX2) (T := TX2) (N := 16) hx hb hts hfX2 hown hK hP q10 eq10 rfl 1 (by decide) (hts (.fieldLink RX2 26 "ColdShips$Reader" "size" "I") (by decide +kernel)) (fun _ h9 => h9) rfl dX2_addFour_22 ?_
      refine lv_iload_n hx hb dX2_addFour_25 rfl (lv_at hl 2 rfl) ?_
      refine lv_iload_n hx hb dX2_addFour_26 rfl (lv_at hl 0 rfl) ?_
      refine lv_iushr hx hb dX2_addFour_27 rfl ?_
      refine lv_topi (fun z12 ez12 => ?_)
      refine lv_sipush (v := 255) hx hb dX2_addFour_28 (by decide) ?_
      refine lv_iand hx hb dX2_addFour_31 ?_
      refine lv_topi (fun z13 ez13 => ?_)
      have iz13 : 0 ≤ z13.toInt ∧ z13.toInt ≤ 255 := zb_mask ez13 (by decide)
      refine lv_i2c hx hb dX2_addFour_32 rfl ?_
      refine lv_topi (fun z14 ez14 => ?_)
      obtain ⟨g16, hf_o15⟩ := tpo_22 hT y6 y6n
      obtain ⟨q17, eq17⟩ := tp_pos (tp_in hG y6 (by decide)) hf_o15
      refine va_cast hx hb hK hP hD hS q17 2 eq17 rfl (vp_in_iff.mpr ⟨by omega, by omega⟩) dX2_addFour_33 (tp_k (.inl (κ 2, 400, .inl (upd g16 o9_x1.toNatClampNeg (vp_nar .char z14)))) hD (tp_in hG y6 (by decide)) eq17 (fun f18 H locs hP hD hS g20 k19 => ?_))
      have hT := hT.up y6 g20 k19 (tp_o22 y6n)
      have hR := hR.up y6 (by decide) k19
      generalize (upd g16 o9_x1.toNatClampNeg (vp_nar .char z14)) = g21 at g20
      refine lv_aload_n hx hb dX2_addFour_34 rfl (lv_at hl 1 rfl) ?_
      refine lv_dup hx hb dX2_addFour_35 rfl ?_
      have hf_22 : f18 h0 = .inr (2, [.ref (ρ h0 0), .int o9_x1, .int o9_x2, .int o9_x3, .int o9_x4, .int o9_x5, .int o9_x6, .ref (ρ h0 7), .int o9_x8, .ref (ρ h0 9), .int o9_x10, .int o9_x11, .int o9_x12, .int o9_x13, .int o9_x14, .int o9_x15]) := (k19 _ (tp_ne ht_h0 y6 (by decide))).trans hf_o9
      obtain ⟨q23, eq23⟩ := tp_pos (tp_in hG ht_h0 (by decide)) hf_22
      refine va_get (D := (dC, dI)) (ci := 2) (v := .int o9_x1) (C := RX2) (T := TX2) (N := 16) hx hb hts hfX2 hown hK hP q23 eq23 rfl 1 (by decide) (hts (.fieldLink RX2 26 "ColdShips$Reader" "size" "I") (by decide +kernel)) (fun _ h9 => h9) rfl dX2_addFour_36 ?_
      refine lv_iconst (v := 1) hx hb dX2_addFour_39 (by decide) ?_
      refine lv_iadd hx hb dX2_addFour_40 ?_
      refine lv_topi (fun z24 ez24 => ?_)
      have iz24 : z24.toInt = o9_x1.toInt + 1 := zi_add ez24 rfl rfl (by omega) (by omega)
      refine va_put (D := (dC, dI)) (ci := 2) (v := .int z24) (ty := .int) (C := RX2) (T := TX2) (N := 16) hx hb hts hfX2 tyX2 tyX2_ok nmX2 hown hK hP hD hS q23 eq23 rfl 1 (by decide) (hts (.fieldLink RX2 26 "ColdShips$Reader" "size" "I") (by decide +kernel)) (fun _ h9 => h9) rfl (by decide +kernel) rfl rfl (Nat.le_of_ble_eq_true rfl) dX2_addFour_41 (tp_k (.inr (2, [.ref (ρ h0 0), .int z24, .int o9_x2, .int o9_x3, .int o9_x4, .int o9_x5, .int o9_x6, .ref (ρ h0 7), .int o9_x8, .ref (ρ h0 9), .int o9_x10, .int o9_x11, .int o9_x12, .int o9_x13, .int o9_x14, .int o9_x15])) hD (tp_in hG ht_h0 (by decide)) eq23 (fun f25 H locs hP hD hS g27 k26 => ?_))
      have hT := hT.up ht_h0 g27 k26 ⟨_, _, _, _, _, _, _, _, _, _, _, _, _, rfl, (by first | decide | omega | (omega)), (by first | decide | omega | (omega)), (by first | decide | omega | (omega)), (by first | decide | omega | (omega)), (by first | decide | omega | (omega)), (by first | decide | omega | (omega)), (by first | decide | omega | (omega))⟩
      have hR := hR.up ht_h0 (by decide) k26
      obtain ⟨z28, ez28⟩ : ∃ y : Int32, y = w1 + (-8) := ⟨_, rfl⟩
      refine lv_iinc (v := z28) (lv' := [(2, .int z28), (0, .ref h0), (1, .int v)]) hx hb dX2_addFour_44 hl (k := 0) rfl (by rw [ez28]; rfl) (by decide) rfl (fun ls hl => ?_)
      have iz28 : z28.toInt = w1.toInt + (-8) := zi_add ez28 rfl rfl (by omega) (by omega)
      refine lv_goto (tgt := 3) hx hb dX2_addFour_47 (by decide) ?_
      exact ih3 _ _ _ _ (by rw [hn4]; omega) ⟨f25, z28, rfl, hT, hR, (by omega), hP, hD, hS, lv_sub hl [0, 1, 2] rfl⟩
set_option maxHeartbeats 4000000 in
set_option maxRecDepth 100000 in
theorem t_X2_emptyTape (l : Launch) (dC : Nat → ClassId) (dI : Nat → Nat → Nat) (sz : Nat) (κ : Nat → ClassId) (τ ν : Nat → Nat) (ρ : Nat → Nat → Nat) (L : List Nat) (f : Nat → va_E) (hG : tp_G τ ν ρ L) (hT : tp_T κ τ ν ρ f) (h0 : Nat) (ht_h0 : τ h0 = 3) : Met l yX2_emptyTape wsX2_emptyTape ({ frames := 2, cells := 0, slots := 0, locals := 400 }) (va_Pc [.ref h0] (pz_B dC dI (tp_K κ) (va_pl L f) sz)) (va_Qv (fun (f1 : Nat → va_E) => tp_T κ τ ν ρ f1 ∧ tp_F τ [3] f f1 ∧ True) (fun (f1 : Nat → va_E) (t : State) => pz_E dC dI (tp_K κ) (va_A (va_pl L f) sz) (va_pl L f1) t) (va_A (va_pl L f) sz)) 0 0 (va_A (va_pl L f) sz) := by
  refine Met.ofW (cc := cX2_emptyTape) (maxL := 1) (ret := none) (by decide) rfl ?_
  intro p e s m args below meth c s₁ B hml hv
  obtain ⟨rfl, hsz, hP, hK, hD0, hN⟩ := hv
  have hx := B.exec
  have hb := B.bytes
  have hr := B.returns
  have hts := atoms_spec (ws := wsX2_emptyTape) B.pre
  have hown : s.vm.findClass RX2 = some m.cls := findClass_of_methodNamed B.named
  have hlocks := B.notSynchronized
  subst hsz
  have hD := hD0.self (sz := s.heap.size)
  generalize hAe : va_A (va_pl L f) s.heap.size = A at hD ⊢
  have hA : ∀ q : Nat, s.heap.size ≤ q → A q := fun q h => by rw [← hAe]; exact Or.inr h
  have hS : va_S A s.heap s.heap [] := va_S.rf
  have hR : tp_F τ [3] f f := tp_F.rf
  have hl := lv_entry ([.ref h0]) (n := 1) (Nat.le_of_ble_eq_true rfl)
  rw [lg_entry_eq]
  generalize (lg_sl ([.ref h0]) ++ List.replicate (1 - (lg_sl ([.ref h0])).length) Slot.unset).toArray = ls at hl ⊢
  have hl : lv_has ls 1 [(0, .ref h0)] := hl
  have hfX2 : ∀ w ∈ wsX20, w ∈ wsX2_emptyTape := fun w h => List.mem_cons_of_mem _ (List.mem_append_right _ h)
  refine lv_aload_n hx hb dX2_emptyTape_0 rfl (lv_at hl 0 rfl) ?_
  refine lv_iconst (v := 0) hx hb dX2_emptyTape_1 (by decide) ?_
  obtain ⟨⟨y1, y1n⟩, ⟨y2, y2n⟩, ⟨y3, y3n⟩⟩ := tpg_3 hG ht_h0
  obtain ⟨o4_x1, o4_x2, o4_x3, o4_x4, o4_x5, o4_x6, o4_x8, o4_x10, o4_x11, o4_x12, o4_x13, o4_x14, o4_x15, hf_o4, ro4_0, ro4_1, ro4_2, ro4_3, ro4_4, ro4_5, ro4_6⟩ := tpo_3 hT ht_h0
  obtain ⟨q5, eq5⟩ := tp_pos (tp_in hG ht_h0 (by decide)) hf_o4
  refine va_put (D := (dC, dI)) (ci := 2) (v := .int 0) (ty := .int) (C := RX2) (T := TX2) (N := 16) hx hb hts hfX2 tyX2 tyX2_ok nmX2 hown hK hP hD hS q5 eq5 rfl 1 (by decide) (hts (.fieldLink RX2 26 "ColdShips$Reader" "size" "I") (by decide +kernel)) (fun _ h9 => h9) rfl (by decide +kernel) rfl rfl (Nat.le_of_ble_eq_true rfl) dX2_emptyTape_2 (tp_k (.inr (2, [.ref (ρ h0 0), .int 0, .int o4_x2, .int o4_x3, .int o4_x4, .int o4_x5, .int o4_x6, .ref (ρ h0 7), .int o4_x8, .ref (ρ h0 9), .int o4_x10, .int o4_x11, .int o4_x12, .int o4_x13, .int o4_x14, .int o4_x15])) hD (tp_in hG ht_h0 (by decide)) eq5 (fun f6 H locs hP hD hS g8 k7 => ?_))
  have hT := hT.up ht_h0 g8 k7 ⟨_, _, _, _, _, _, _, _, _, _, _, _, _, rfl, (by first | decide | omega | (have : (0 : Int32).toInt = 0 := rfl; omega)), (by first | decide | omega | (have : (0 : Int32).toInt = 0 := rfl; omega)), (by first | decide | omega | (have : (0 : Int32).toInt = 0 := rfl; omega)), (by first | decide | omega | (have : (0 : Int32).toInt = 0 := rfl; omega)), (by first | decide | omega | (have : (0 : Int32).toInt = 0 := rfl; omega)), (by first | decide | omega | (have : (0 : Int32).toInt = 0 := rfl; omega)), (by first | decide | omega | (have : (0 : Int32).toInt = 0 := rfl; omega))⟩
  have hR := hR.up ht_h0 (by decide) k7
  exact W.vret hx hb hr (fun t ht hW => ⟨⟨f6, rfl, ⟨hT, hR, trivial⟩, by rw [ht]; exact hP, va_K.moved hW.alike hK, hD⟩, hS.F ht⟩) hS.2.2 dX2_emptyTape_5
set_option maxHeartbeats 4000000 in
set_option maxRecDepth 100000 in
theorem t_X2_isLetter (l : Launch) (dC : Nat → ClassId) (dI : Nat → Nat → Nat) (sz : Nat) (v : Int32) : Met l yX2_isLetter wsX2_isLetter ({ frames := 2, cells := 0, slots := 0, locals := 400 }) (va_Pc [.int v] (pz_B dC dI [] [] sz)) (vp_Si (fun r => (0 ≤ r.toInt ∧ r.toInt ≤ 1) ∧ True)) 0 0 (fun _ => False) := by
  refine Met.ofW (cc := cX2_isLetter) (maxL := 1) (ret := some .boolean) (by decide) rfl ?_
  intro p e s m args below meth c s₁ B hml hv
  obtain ⟨rfl, hsz, hP, hK, hD0, hN⟩ := hv
  have hx := B.exec
  have hb := B.bytes
  have hr := B.returns
  have hts := atoms_spec (ws := wsX2_isLetter) B.pre
  have hown : s.vm.findClass RX2 = some m.cls := findClass_of_methodNamed B.named
  have hlocks := B.notSynchronized
  subst hsz
  have hD := hD0
  have hS : va_S (fun _ => True) s.heap s.heap [] := va_S.rf
  have hl := lv_entry ([.int v]) (n := 1) (Nat.le_of_ble_eq_true rfl)
  rw [lg_entry_eq]
  generalize (lg_sl ([.int v]) ++ List.replicate (1 - (lg_sl ([.int v])).length) Slot.unset).toArray = ls at hl ⊢
  have hl : lv_has ls 1 [(0, .int v)] := hl
  refine lv_iload_n hx hb dX2_isLetter_0 rfl (lv_at hl 0 rfl) ?_
  refine lv_bipush (v := 97) hx hb dX2_isLetter_1 (by decide) ?_
  refine lv_icmp_lt (tgt := 16) hx hb dX2_isLetter_3 (by decide) (fun c1 => ?_) (fun c1 => ?_)
  · have ic1 : v.toInt < 97 := zi_lt rfl rfl c1
    refine lv_iconst (v := 0) hx hb dX2_isLetter_16 (by decide) ?_
    exact W.zret (v := 0) hx hb hr rfl (fun t ht hW => ⟨0, rfl, ⟨(by first | decide | omega), trivial⟩, ht⟩) (fun _ h => by cases h) dX2_isLetter_17
  · have ic1 : v.toInt ≥ 97 := zi_ltf rfl rfl c1
    refine lv_iload_n hx hb dX2_isLetter_6 rfl (lv_at hl 0 rfl) ?_
    refine lv_bipush (v := 122) hx hb dX2_isLetter_7 (by decide) ?_
    refine lv_icmp_gt (tgt := 16) hx hb dX2_isLetter_9 (by decide) (fun c2 => ?_) (fun c2 => ?_)
    · have ic2 : v.toInt > 122 := zi_gt rfl rfl c2
      refine lv_iconst (v := 0) hx hb dX2_isLetter_16 (by decide) ?_
      exact W.zret (v := 0) hx hb hr rfl (fun t ht hW => ⟨0, rfl, ⟨(by first | decide | omega), trivial⟩, ht⟩) (fun _ h => by cases h) dX2_isLetter_17
    · have ic2 : v.toInt ≤ 122 := zi_gtf rfl rfl c2
      refine lv_iconst (v := 1) hx hb dX2_isLetter_12 (by decide) ?_
      refine lv_goto (tgt := 17) hx hb dX2_isLetter_13 (by decide) ?_
      exact W.zret (v := 1) hx hb hr rfl (fun t ht hW => ⟨1, rfl, ⟨(by first | decide | omega), trivial⟩, ht⟩) (fun _ h => by cases h) dX2_isLetter_17
set_option maxHeartbeats 4000000 in
set_option maxRecDepth 100000 in
theorem t_X2_isDigit (l : Launch) (dC : Nat → ClassId) (dI : Nat → Nat → Nat) (sz : Nat) (v : Int32) (Z_v : Int) (hZ_v : v.toInt = Z_v) : Met l yX2_isDigit wsX2_isDigit ({ frames := 2, cells := 0, slots := 0, locals := 400 }) (va_Pc [.int v] (pz_B dC dI [] [] sz)) (vp_Si (fun r => (0 ≤ r.toInt ∧ r.toInt ≤ 1) ∧ tp_cond r (48 ≤ Z_v ∧ Z_v ≤ 57))) 0 0 (fun _ => False) := by
  refine Met.ofW (cc := cX2_isDigit) (maxL := 1) (ret := some .boolean) (by decide) rfl ?_
  intro p e s m args below meth c s₁ B hml hv
  obtain ⟨rfl, hsz, hP, hK, hD0, hN⟩ := hv
  have hx := B.exec
  have hb := B.bytes
  have hr := B.returns
  have hts := atoms_spec (ws := wsX2_isDigit) B.pre
  have hown : s.vm.findClass RX2 = some m.cls := findClass_of_methodNamed B.named
  have hlocks := B.notSynchronized
  subst hsz
  have hD := hD0
  have hS : va_S (fun _ => True) s.heap s.heap [] := va_S.rf
  have hl := lv_entry ([.int v]) (n := 1) (Nat.le_of_ble_eq_true rfl)
  rw [lg_entry_eq]
  generalize (lg_sl ([.int v]) ++ List.replicate (1 - (lg_sl ([.int v])).length) Slot.unset).toArray = ls at hl ⊢
  have hl : lv_has ls 1 [(0, .int v)] := hl
  refine lv_iload_n hx hb dX2_isDigit_0 rfl (lv_at hl 0 rfl) ?_
  refine lv_bipush (v := 48) hx hb dX2_isDigit_1 (by decide) ?_
  refine lv_icmp_lt (tgt := 16) hx hb dX2_isDigit_3 (by decide) (fun c1 => ?_) (fun c1 => ?_)
  · have ic1 : Z_v < 48 := zi_lt hZ_v rfl c1
    refine lv_iconst (v := 0) hx hb dX2_isDigit_16 (by decide) ?_
    exact W.zret (v := 0) hx hb hr rfl (fun t ht hW => ⟨0, rfl, ⟨(by first | decide | omega), (Or.inr ⟨rfl, by omega⟩)⟩, ht⟩) (fun _ h => by cases h) dX2_isDigit_17
  · have ic1 : Z_v ≥ 48 := zi_ltf hZ_v rfl c1
    refine lv_iload_n hx hb dX2_isDigit_6 rfl (lv_at hl 0 rfl) ?_
    refine lv_bipush (v := 57) hx hb dX2_isDigit_7 (by decide) ?_
    refine lv_icmp_gt (tgt := 16) hx hb dX2_isDigit_9 (by decide) (fun c2 => ?_) (fun c2 => ?_)
    · have ic2 : Z_v > 57 := zi_gt hZ_v rfl c2
      refine lv_iconst (v := 0) hx hb dX2_isDigit_16 (by decide) ?_
      exact W.zret (v := 0) hx hb hr rfl (fun t ht hW => ⟨0, rfl, ⟨(by first | decide | omega), (Or.inr ⟨rfl, by omega⟩)⟩, ht⟩) (fun _ h => by cases h) dX2_isDigit_17
    · have ic2 : Z_v ≤ 57 := zi_gtf hZ_v rfl c2
      refine lv_iconst (v := 1) hx hb dX2_isDigit_12 (by decide) ?_
      refine lv_goto (tgt := 17) hx hb dX2_isDigit_13 (by decide) ?_
      exact W.zret (v := 1) hx hb hr rfl (fun t ht hW => ⟨1, rfl, ⟨(by first | decide | omega), (Or.inl ⟨rfl, by omega⟩)⟩, ht⟩) (fun _ h => by cases h) dX2_isDigit_17
