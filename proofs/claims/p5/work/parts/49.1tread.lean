set_option maxHeartbeats 4000000 in
set_option maxRecDepth 100000 in
theorem t_X2_hasRoom (l : Launch) (dC : Nat → ClassId) (dI : Nat → Nat → Nat) (sz : Nat) (Ω : Nat → (Nat → Nat) → va_E → Prop) (κ : Nat → ClassId) (τ ν : Nat → Nat) (ρ : Nat → Nat → Nat) (L : List Nat) (f : Nat → va_E) (hG : tp_G τ ν ρ L) (hT : tp_T Ω κ τ ν ρ f) (h0 : Nat) (ht_h0 : τ h0 = 3) : Met l yX2_hasRoom wqX2_hasRoom ({ frames := 2, cells := 0, slots := 0, locals := 400 }) (va_Pc [.ref h0] (pz_B dC dI (tp_K κ) (va_pl L f) sz)) (vp_Si (fun r => (0 ≤ r.toInt ∧ r.toInt ≤ 1) ∧ True)) 0 0 (fun _ => False) := by
  refine Met.ofW (cc := cX2_hasRoom) (maxL := 1) (ret := some .boolean) (by decide) rfl ?_
  intro p e s m args below meth c s₁ B hml hv
  obtain ⟨rfl, hsz, hP, hK, hD0, hN⟩ := hv
  have hx := B.exec
  have hb := B.bytes
  have hr := B.returns
  have hts := fun (w : Cond) (h : w ∈ WALL) => atoms_spec (ws := wqX2_hasRoom) B.pre w (List.mem_cons_of_mem _ h)
  have hown : s.vm.findClass RX2 = some m.cls := findClass_of_methodNamed B.named
  have hlocks := B.notSynchronized
  subst hsz
  have hD := hD0
  have hS : va_S (fun _ => True) s.heap s.heap [] := va_S.rf
  have hl := lv_entry ([.ref h0]) (n := 1) (Nat.le_of_ble_eq_true rfl)
  rw [lg_entry_eq]
  generalize (lg_sl ([.ref h0]) ++ List.replicate (1 - (lg_sl ([.ref h0])).length) Slot.unset).toArray = ls at hl ⊢
  have hl : lv_has ls 1 [(0, .ref h0)] := hl
  refine lv_aload_n hx hb dX2_hasRoom_0 rfl (lv_at hl 0 rfl) ?_
  refine tgk_3 hG ht_h0 (fun y1 y1n y2 y2n y3 y3n => ?_)
  refine tpk_3 hT ht_h0 (fun o4_x1 o4_x2 o4_x3 o4_x4 o4_x5 o4_x6 o4_x8 o4_x10 o4_x11 o4_x12 o4_x13 o4_x14 o4_x15 hf_o4 ro4_0 ro4_1 ro4_2 ro4_3 ro4_4 ro4_5 ro4_6 => ?_)
  refine tpk_pos (tp_in hG ht_h0 (by decide)) hf_o4 (fun q5 eq5 => ?_)
  refine va_get (D := (dC, dI)) (ci := 2) (v := .int o4_x1) (C := RX2) (T := TX2) (N := 16) hx hb hts hfX2 hown hK hP q5 eq5 rfl 1 (by decide) (hts (.fieldLink RX2 26 "ColdShips$Reader" "size" "I") wa_765) (fun _ h9 => h9) rfl dX2_hasRoom_1 ?_
  refine lv_bipush (v := 20) hx hb dX2_hasRoom_4 (by decide) ?_
  refine lv_iadd hx hb dX2_hasRoom_6 ?_
  refine lv_topi (fun z6 ez6 => ?_)
  have iz6 : z6.toInt = o4_x1.toInt + 20 := zi_add ez6 rfl rfl (by omega) (by omega)
  refine lv_sipush (v := 400) hx hb dX2_hasRoom_7 (by decide) ?_
  refine lv_icmp_gt (tgt := 17) hx hb dX2_hasRoom_10 (by decide) (fun c7 => ?_) (fun c7 => ?_)
  · have ic7 : z6.toInt > 400 := zi_gt rfl rfl c7
    refine lv_iconst (v := 0) hx hb dX2_hasRoom_17 (by decide) ?_
    exact W.zret (v := 0) hx hb hr rfl (fun t ht hW => ⟨0, rfl, ⟨(by first | decide | omega), trivial⟩, ht⟩) (fun _ h => by cases h) dX2_hasRoom_18
  · have ic7 : z6.toInt ≤ 400 := zi_gtf rfl rfl c7
    refine lv_iconst (v := 1) hx hb dX2_hasRoom_13 (by decide) ?_
    refine lv_goto (tgt := 18) hx hb dX2_hasRoom_14 (by decide) ?_
    exact W.zret (v := 1) hx hb hr rfl (fun t ht hW => ⟨1, rfl, ⟨(by first | decide | omega), trivial⟩, ht⟩) (fun _ h => by cases h) dX2_hasRoom_18
set_option maxHeartbeats 4000000 in
set_option maxRecDepth 100000 in
theorem t_X2_addFour (l : Launch) (dC : Nat → ClassId) (dI : Nat → Nat → Nat) (sz : Nat) (Ω : Nat → (Nat → Nat) → va_E → Prop) (κ : Nat → ClassId) (τ ν : Nat → Nat) (ρ : Nat → Nat → Nat) (L : List Nat) (f : Nat → va_E) (hG : tp_G τ ν ρ L) (hT : tp_T Ω κ τ ν ρ f) (h0 : Nat) (v : Int32) (ht_h0 : τ h0 = 3) : Met l yX2_addFour wqX2_addFour ({ frames := 2, cells := 0, slots := 0, locals := 400 }) (va_Pc [.ref h0, .int v] (pz_B dC dI (tp_K κ) (va_pl L f) sz)) (va_Qv (fun (f1 : Nat → va_E) => tp_T Ω κ τ ν ρ f1 ∧ tp_F τ [3, 22] f f1 ∧ True) (fun (f1 : Nat → va_E) (t : State) => pz_E dC dI (tp_K κ) (va_A (va_pl L f) sz) (va_pl L f1) t) (va_A (va_pl L f) sz)) 0 0 (va_A (va_pl L f) sz) := by
  refine Met.ofW (cc := cX2_addFour) (maxL := 3) (ret := none) (by decide) rfl ?_
  intro p e s m args below meth c s₁ B hml hv
  obtain ⟨rfl, hsz, hP, hK, hD0, hN⟩ := hv
  have hx := B.exec
  have hb := B.bytes
  have hr := B.returns
  have hts := fun (w : Cond) (h : w ∈ WALL) => atoms_spec (ws := wqX2_addFour) B.pre w (List.mem_cons_of_mem _ h)
  have hown : s.vm.findClass RX2 = some m.cls := findClass_of_methodNamed B.named
  have hlocks := B.notSynchronized
  subst hsz
  have hD := hD0.self (sz := s.heap.size)
  generalize hAe : va_A (va_pl L f) s.heap.size = A at hD ⊢
  have hA : ∀ q : Nat, s.heap.size ≤ q → A q := fun q h => by rw [← hAe]; exact Or.inr h
  have hS : va_S A s.heap s.heap [] := va_S.rf
  have hR : tp_F τ [3, 22] f f := tp_F.rf
  have hl := lv_entry ([.ref h0, .int v]) (n := 3) (Nat.le_of_ble_eq_true rfl)
  rw [lg_entry_eq]
  generalize (lg_sl ([.ref h0, .int v]) ++ List.replicate (3 - (lg_sl ([.ref h0, .int v])).length) Slot.unset).toArray = ls at hl ⊢
  have hl : lv_has ls 3 [(0, .ref h0), (1, .int v)] := hl
  refine lv_bipush (v := 24) hx hb dX2_addFour_0 (by decide) ?_
  refine lv_istore_n (lv' := [(2, .int 24), (0, .ref h0), (1, .int v)]) hx hb dX2_addFour_2 rfl hl (by decide) rfl (fun ls hl => ?_)
  refine pz_loop (fun n0 H locs ls => ∃ f2 : Nat → va_E, ∃ w1 : Int32, n0 = ((w1.toInt) + 8).toNat ∧ tp_T Ω κ τ ν ρ f2 ∧ tp_F τ [3, 22] f f2 ∧ ((-8) ≤ w1.toInt ∧ w1.toInt ≤ 24) ∧ va_P (dC, dI) vwCl (va_pl L f2) H ∧ va_D A (va_pl L f2) ∧ va_S A s.heap H locs ∧ lv_has ls 3 [(2, .int w1), (0, .ref h0), (1, .int v)]) ?_ _ _ _ _ ⟨f, 24, rfl, hT, hR, (by have : (24 : Int32).toInt = 24 := rfl; omega), hP, hD, hS, lv_sub hl [0, 1, 2] rfl⟩
  intro n0 H locs ls hI ih3
  refine Exists.elim hI (fun f2 hE90 => Exists.elim hE90 (fun w1 hE91 => tn_8 hE91 (fun hn4 hT hR rw1 hP hD hS hl => ?_)))
  clear hE91 hE90 hI
  refine lv_iload_n hx hb dX2_addFour_3 rfl (lv_at hl 0 rfl) ?_
  refine lv_if_lt (tgt := 50) hx hb dX2_addFour_4 (by decide) (fun c5 => ?_) (fun c5 => ?_)
  · have ic5 : w1.toInt < 0 := zi_lt rfl rfl c5
    exact W.vret hx hb hr (fun t ht hW => ⟨⟨f2, rfl, ⟨hT, hR, trivial⟩, by rw [ht]; exact hP, va_K.moved hW.alike hK, hD⟩, hS.F ht⟩) hS.2.2 dX2_addFour_50
  · have ic5 : w1.toInt ≥ 0 := zi_ltf rfl rfl c5
    refine lv_aload_n hx hb dX2_addFour_7 rfl (lv_at hl 1 rfl) ?_
    refine tgk_3 hG ht_h0 (fun y6 y6n y7 y7n y8 y8n => ?_)
    refine tpk_3 hT ht_h0 (fun o9_x1 o9_x2 o9_x3 o9_x4 o9_x5 o9_x6 o9_x8 o9_x10 o9_x11 o9_x12 o9_x13 o9_x14 o9_x15 hf_o9 ro9_0 ro9_1 ro9_2 ro9_3 ro9_4 ro9_5 ro9_6 => ?_)
    refine tpk_pos (tp_in hG ht_h0 (by decide)) hf_o9 (fun q10 eq10 => ?_)
    refine va_get (D := (dC, dI)) (ci := 2) (v := .int o9_x1) (C := RX2) (T := TX2) (N := 16) hx hb hts hfX2 hown hK hP q10 eq10 rfl 1 (by decide) (hts (.fieldLink RX2 26 "ColdShips$Reader" "size" "I") wa_765) (fun _ h9 => h9) rfl dX2_addFour_8 ?_
    refine lv_sipush (v := 400) hx hb dX2_addFour_11 (by decide) ?_
    refine lv_icmp_ge (tgt := 50) hx hb dX2_addFour_14 (by decide) (fun c11 => ?_) (fun c11 => ?_)
    · have ic11 : o9_x1.toInt ≥ 400 := zi_ge rfl rfl c11
      exact W.vret hx hb hr (fun t ht hW => ⟨⟨f2, rfl, ⟨hT, hR, trivial⟩, by rw [ht]; exact hP, va_K.moved hW.alike hK, hD⟩, hS.F ht⟩) hS.2.2 dX2_addFour_50
    · have ic11 : o9_x1.toInt < 400 := zi_gef rfl rfl c11
      refine lv_aload_n hx hb dX2_addFour_17 rfl (lv_at hl 1 rfl) ?_
      refine va_get (D := (dC, dI)) (ci := 2) (v := .ref (ρ h0 0)) (C := RX2) (T := TX2) (N := 16) hx hb hts hfX2 hown hK hP q10 eq10 rfl 0 (by decide) (hts (.fieldLink RX2 11 "ColdShips$Reader" "tape" "[C") wa_119) (fun _ h9 => h9) rfl dX2_addFour_18 ?_
      refine lv_aload_n hx hb dX2_addFour_21 rfl (lv_at hl 1 rfl) ?_
      refine va_get (D := (dC, dI)) (ci := 2) (v := .int o9_x1) (C := RX2) (T := TX2) (N := 16) hx hb hts hfX2 hown hK hP q10 eq10 rfl 1 (by decide) (hts (.fieldLink RX2 26 "ColdShips$Reader" "size" "I") wa_765) (fun _ h9 => h9) rfl dX2_addFour_22 ?_
      refine lv_iload_n hx hb dX2_addFour_25 rfl (lv_at hl 2 rfl) ?_
      refine lv_iload_n hx hb dX2_addFour_26 rfl (lv_at hl 0 rfl) ?_
      refine lv_iushr hx hb dX2_addFour_27 rfl ?_
      refine lv_topi (fun z12 ez12 => ?_)
      refine lv_sipush (v := 255) hx hb dX2_addFour_28 (by decide) ?_
      refine lv_iand hx hb dX2_addFour_31 ?_
      refine lv_topi (fun z13 ez13 => ?_)
      have iz13 : 0 ≤ z13.toInt ∧ z13.toInt ≤ 255 := zb_mask ez13 (by decide)
      refine lv_i2c hx hb dX2_addFour_32 rfl ?_
      refine lv_topi (fun z14 ez14 => ?_)
      have iz14 : z14.toInt = z13.toInt := zi_i2c ez14 rfl (by omega) (by omega)
      refine tpk_22 hT y6 y6n (fun g16 hf_o15 => ?_)
      refine tpk_pos (tp_in hG y6 (by decide)) hf_o15 (fun q17 eq17 => ?_)
      refine va_cast hx hb hK hP hD hS q17 2 eq17 rfl (vp_in_iff.mpr ⟨by omega, by omega⟩) dX2_addFour_33 (tp_k (.inl (κ 2, 400, .inl (upd g16 o9_x1.toNatClampNeg (vp_nar .char z14)))) hD (tp_in hG y6 (by decide)) eq17 (fun f18 H locs hP hD hS g20 k19 => ?_))
      have hT := hT.up y6 g20 k19 (tp_o22 y6n)
      have hR := hR.up y6 (by decide) k19
      generalize (upd g16 o9_x1.toNatClampNeg (vp_nar .char z14)) = g21 at g20
      refine lv_aload_n hx hb dX2_addFour_34 rfl (lv_at hl 1 rfl) ?_
      refine lv_dup hx hb dX2_addFour_35 rfl ?_
      have hf_22 : f18 h0 = .inr (2, [.ref (ρ h0 0), .int o9_x1, .int o9_x2, .int o9_x3, .int o9_x4, .int o9_x5, .int o9_x6, .ref (ρ h0 7), .int o9_x8, .ref (ρ h0 9), .int o9_x10, .int o9_x11, .int o9_x12, .int o9_x13, .int o9_x14, .int o9_x15]) := (k19 _ (tp_ne ht_h0 y6 (by decide))).trans hf_o9
      refine tpk_pos (tp_in hG ht_h0 (by decide)) hf_22 (fun q23 eq23 => ?_)
      refine va_get (D := (dC, dI)) (ci := 2) (v := .int o9_x1) (C := RX2) (T := TX2) (N := 16) hx hb hts hfX2 hown hK hP q23 eq23 rfl 1 (by decide) (hts (.fieldLink RX2 26 "ColdShips$Reader" "size" "I") wa_765) (fun _ h9 => h9) rfl dX2_addFour_36 ?_
      refine lv_iconst (v := 1) hx hb dX2_addFour_39 (by decide) ?_
      refine lv_iadd hx hb dX2_addFour_40 ?_
      refine lv_topi (fun z24 ez24 => ?_)
      have iz24 : z24.toInt = o9_x1.toInt + 1 := zi_add ez24 rfl rfl (by omega) (by omega)
      refine va_put (D := (dC, dI)) (ci := 2) (v := .int z24) (ty := .int) (C := RX2) (T := TX2) (N := 16) hx hb hts hfX2 tyX2 tyX2_ok nmX2 hown hK hP hD hS q23 eq23 rfl 1 (by decide) (hts (.fieldLink RX2 26 "ColdShips$Reader" "size" "I") wa_765) (fun _ h9 => h9) rfl (tyX2_ok 1 (by decide)) rfl rfl (Nat.le_of_ble_eq_true rfl) dX2_addFour_41 (tp_k (.inr (2, [.ref (ρ h0 0), .int z24, .int o9_x2, .int o9_x3, .int o9_x4, .int o9_x5, .int o9_x6, .ref (ρ h0 7), .int o9_x8, .ref (ρ h0 9), .int o9_x10, .int o9_x11, .int o9_x12, .int o9_x13, .int o9_x14, .int o9_x15])) hD (tp_in hG ht_h0 (by decide)) eq23 (fun f25 H locs hP hD hS g27 k26 => ?_))
      have hT := hT.up ht_h0 g27 k26 ⟨_, _, _, _, _, _, _, _, _, _, _, _, _, rfl, (by first | decide | omega | (omega)), (by first | decide | omega | (omega)), (by first | decide | omega | (omega)), (by first | decide | omega | (omega)), (by first | decide | omega | (omega)), (by first | decide | omega | (omega)), (by first | decide | omega | (omega))⟩
      have hR := hR.up ht_h0 (by decide) k26
      obtain ⟨z28, ez28⟩ : ∃ y : Int32, y = w1 + (-8) := ⟨_, rfl⟩
      refine lv_iinc (v := z28) (lv' := [(2, .int z28), (0, .ref h0), (1, .int v)]) hx hb dX2_addFour_44 hl (k := 0) rfl (by rw [ez28]; rfl) (by decide) rfl (fun ls hl => ?_)
      have iz28 : z28.toInt = w1.toInt + (-8) := zi_add ez28 rfl rfl (by omega) (by omega)
      refine lv_goto (tgt := 3) hx hb dX2_addFour_47 (by decide) ?_
      exact ih3 _ _ _ _ (by rw [hn4]; omega) ⟨f25, z28, rfl, hT, hR, (by omega), hP, hD, hS, lv_sub hl [0, 1, 2] rfl⟩
set_option maxHeartbeats 4000000 in
set_option maxRecDepth 100000 in
theorem t_X2_emptyTape (l : Launch) (dC : Nat → ClassId) (dI : Nat → Nat → Nat) (sz : Nat) (Ω : Nat → (Nat → Nat) → va_E → Prop) (κ : Nat → ClassId) (τ ν : Nat → Nat) (ρ : Nat → Nat → Nat) (L : List Nat) (f : Nat → va_E) (hG : tp_G τ ν ρ L) (hT : tp_T Ω κ τ ν ρ f) (h0 : Nat) (ht_h0 : τ h0 = 3) : Met l yX2_emptyTape wqX2_emptyTape ({ frames := 2, cells := 0, slots := 0, locals := 400 }) (va_Pc [.ref h0] (pz_B dC dI (tp_K κ) (va_pl L f) sz)) (va_Qv (fun (f1 : Nat → va_E) => tp_T Ω κ τ ν ρ f1 ∧ tp_F τ [3] f f1 ∧ True) (fun (f1 : Nat → va_E) (t : State) => pz_E dC dI (tp_K κ) (va_A (va_pl L f) sz) (va_pl L f1) t) (va_A (va_pl L f) sz)) 0 0 (va_A (va_pl L f) sz) := by
  refine Met.ofW (cc := cX2_emptyTape) (maxL := 1) (ret := none) (by decide) rfl ?_
  intro p e s m args below meth c s₁ B hml hv
  obtain ⟨rfl, hsz, hP, hK, hD0, hN⟩ := hv
  have hx := B.exec
  have hb := B.bytes
  have hr := B.returns
  have hts := fun (w : Cond) (h : w ∈ WALL) => atoms_spec (ws := wqX2_emptyTape) B.pre w (List.mem_cons_of_mem _ h)
  have hown : s.vm.findClass RX2 = some m.cls := findClass_of_methodNamed B.named
  have hlocks := B.notSynchronized
  subst hsz
  have hD := hD0.self (sz := s.heap.size)
  generalize hAe : va_A (va_pl L f) s.heap.size = A at hD ⊢
  have hA : ∀ q : Nat, s.heap.size ≤ q → A q := fun q h => by rw [← hAe]; exact Or.inr h
  have hS : va_S A s.heap s.heap [] := va_S.rf
  have hR : tp_F τ [3] f f := tp_F.rf
  have hl := lv_entry ([.ref h0]) (n := 1) (Nat.le_of_ble_eq_true rfl)
  rw [lg_entry_eq]
  generalize (lg_sl ([.ref h0]) ++ List.replicate (1 - (lg_sl ([.ref h0])).length) Slot.unset).toArray = ls at hl ⊢
  have hl : lv_has ls 1 [(0, .ref h0)] := hl
  refine lv_aload_n hx hb dX2_emptyTape_0 rfl (lv_at hl 0 rfl) ?_
  refine lv_iconst (v := 0) hx hb dX2_emptyTape_1 (by decide) ?_
  refine tgk_3 hG ht_h0 (fun y1 y1n y2 y2n y3 y3n => ?_)
  refine tpk_3 hT ht_h0 (fun o4_x1 o4_x2 o4_x3 o4_x4 o4_x5 o4_x6 o4_x8 o4_x10 o4_x11 o4_x12 o4_x13 o4_x14 o4_x15 hf_o4 ro4_0 ro4_1 ro4_2 ro4_3 ro4_4 ro4_5 ro4_6 => ?_)
  refine tpk_pos (tp_in hG ht_h0 (by decide)) hf_o4 (fun q5 eq5 => ?_)
  refine va_put (D := (dC, dI)) (ci := 2) (v := .int 0) (ty := .int) (C := RX2) (T := TX2) (N := 16) hx hb hts hfX2 tyX2 tyX2_ok nmX2 hown hK hP hD hS q5 eq5 rfl 1 (by decide) (hts (.fieldLink RX2 26 "ColdShips$Reader" "size" "I") wa_765) (fun _ h9 => h9) rfl (tyX2_ok 1 (by decide)) rfl rfl (Nat.le_of_ble_eq_true rfl) dX2_emptyTape_2 (tp_k (.inr (2, [.ref (ρ h0 0), .int 0, .int o4_x2, .int o4_x3, .int o4_x4, .int o4_x5, .int o4_x6, .ref (ρ h0 7), .int o4_x8, .ref (ρ h0 9), .int o4_x10, .int o4_x11, .int o4_x12, .int o4_x13, .int o4_x14, .int o4_x15])) hD (tp_in hG ht_h0 (by decide)) eq5 (fun f6 H locs hP hD hS g8 k7 => ?_))
  have hT := hT.up ht_h0 g8 k7 ⟨_, _, _, _, _, _, _, _, _, _, _, _, _, rfl, (by first | decide | omega | (have : (0 : Int32).toInt = 0 := rfl; omega)), (by first | decide | omega | (have : (0 : Int32).toInt = 0 := rfl; omega)), (by first | decide | omega | (have : (0 : Int32).toInt = 0 := rfl; omega)), (by first | decide | omega | (have : (0 : Int32).toInt = 0 := rfl; omega)), (by first | decide | omega | (have : (0 : Int32).toInt = 0 := rfl; omega)), (by first | decide | omega | (have : (0 : Int32).toInt = 0 := rfl; omega)), (by first | decide | omega | (have : (0 : Int32).toInt = 0 := rfl; omega))⟩
  have hR := hR.up ht_h0 (by decide) k7
  exact W.vret hx hb hr (fun t ht hW => ⟨⟨f6, rfl, ⟨hT, hR, trivial⟩, by rw [ht]; exact hP, va_K.moved hW.alike hK, hD⟩, hS.F ht⟩) hS.2.2 dX2_emptyTape_5
set_option maxHeartbeats 4000000 in
set_option maxRecDepth 100000 in
theorem t_X2_isLetter (l : Launch) (dC : Nat → ClassId) (dI : Nat → Nat → Nat) (sz : Nat) (v : Int32) : Met l yX2_isLetter wqX2_isLetter ({ frames := 2, cells := 0, slots := 0, locals := 400 }) (va_Pc [.int v] (pz_B dC dI [] [] sz)) (vp_Si (fun r => (0 ≤ r.toInt ∧ r.toInt ≤ 1) ∧ True)) 0 0 (fun _ => False) := by
  refine Met.ofW (cc := cX2_isLetter) (maxL := 1) (ret := some .boolean) (by decide) rfl ?_
  intro p e s m args below meth c s₁ B hml hv
  obtain ⟨rfl, hsz, hP, hK, hD0, hN⟩ := hv
  have hx := B.exec
  have hb := B.bytes
  have hr := B.returns
  have hts := fun (w : Cond) (h : w ∈ WALL) => atoms_spec (ws := wqX2_isLetter) B.pre w (List.mem_cons_of_mem _ h)
  have hown : s.vm.findClass RX2 = some m.cls := findClass_of_methodNamed B.named
  have hlocks := B.notSynchronized
  subst hsz
  have hD := hD0
  have hS : va_S (fun _ => True) s.heap s.heap [] := va_S.rf
  have hl := lv_entry ([.int v]) (n := 1) (Nat.le_of_ble_eq_true rfl)
  rw [lg_entry_eq]
  generalize (lg_sl ([.int v]) ++ List.replicate (1 - (lg_sl ([.int v])).length) Slot.unset).toArray = ls at hl ⊢
  have hl : lv_has ls 1 [(0, .int v)] := hl
  refine lv_iload_n hx hb dX2_isLetter_0 rfl (lv_at hl 0 rfl) ?_
  refine lv_bipush (v := 97) hx hb dX2_isLetter_1 (by decide) ?_
  refine lv_icmp_lt (tgt := 16) hx hb dX2_isLetter_3 (by decide) (fun c1 => ?_) (fun c1 => ?_)
  · have ic1 : v.toInt < 97 := zi_lt rfl rfl c1
    refine lv_iconst (v := 0) hx hb dX2_isLetter_16 (by decide) ?_
    exact W.zret (v := 0) hx hb hr rfl (fun t ht hW => ⟨0, rfl, ⟨(by first | decide | omega), trivial⟩, ht⟩) (fun _ h => by cases h) dX2_isLetter_17
  · have ic1 : v.toInt ≥ 97 := zi_ltf rfl rfl c1
    refine lv_iload_n hx hb dX2_isLetter_6 rfl (lv_at hl 0 rfl) ?_
    refine lv_bipush (v := 122) hx hb dX2_isLetter_7 (by decide) ?_
    refine lv_icmp_gt (tgt := 16) hx hb dX2_isLetter_9 (by decide) (fun c2 => ?_) (fun c2 => ?_)
    · have ic2 : v.toInt > 122 := zi_gt rfl rfl c2
      refine lv_iconst (v := 0) hx hb dX2_isLetter_16 (by decide) ?_
      exact W.zret (v := 0) hx hb hr rfl (fun t ht hW => ⟨0, rfl, ⟨(by first | decide | omega), trivial⟩, ht⟩) (fun _ h => by cases h) dX2_isLetter_17
    · have ic2 : v.toInt ≤ 122 := zi_gtf rfl rfl c2
      refine lv_iconst (v := 1) hx hb dX2_isLetter_12 (by decide) ?_
      refine lv_goto (tgt := 17) hx hb dX2_isLetter_13 (by decide) ?_
      exact W.zret (v := 1) hx hb hr rfl (fun t ht hW => ⟨1, rfl, ⟨(by first | decide | omega), trivial⟩, ht⟩) (fun _ h => by cases h) dX2_isLetter_17
set_option maxHeartbeats 4000000 in
set_option maxRecDepth 100000 in
theorem t_X2_isDigit (l : Launch) (dC : Nat → ClassId) (dI : Nat → Nat → Nat) (sz : Nat) (v : Int32) (Z_v : Int) (hZ_v : v.toInt = Z_v) : Met l yX2_isDigit wqX2_isDigit ({ frames := 2, cells := 0, slots := 0, locals := 400 }) (va_Pc [.int v] (pz_B dC dI [] [] sz)) (vp_Si (fun r => (0 ≤ r.toInt ∧ r.toInt ≤ 1) ∧ tp_cond r (48 ≤ Z_v ∧ Z_v ≤ 57))) 0 0 (fun _ => False) := by
  refine Met.ofW (cc := cX2_isDigit) (maxL := 1) (ret := some .boolean) (by decide) rfl ?_
  intro p e s m args below meth c s₁ B hml hv
  obtain ⟨rfl, hsz, hP, hK, hD0, hN⟩ := hv
  have hx := B.exec
  have hb := B.bytes
  have hr := B.returns
  have hts := fun (w : Cond) (h : w ∈ WALL) => atoms_spec (ws := wqX2_isDigit) B.pre w (List.mem_cons_of_mem _ h)
  have hown : s.vm.findClass RX2 = some m.cls := findClass_of_methodNamed B.named
  have hlocks := B.notSynchronized
  subst hsz
  have hD := hD0
  have hS : va_S (fun _ => True) s.heap s.heap [] := va_S.rf
  have hl := lv_entry ([.int v]) (n := 1) (Nat.le_of_ble_eq_true rfl)
  rw [lg_entry_eq]
  generalize (lg_sl ([.int v]) ++ List.replicate (1 - (lg_sl ([.int v])).length) Slot.unset).toArray = ls at hl ⊢
  have hl : lv_has ls 1 [(0, .int v)] := hl
  refine lv_iload_n hx hb dX2_isDigit_0 rfl (lv_at hl 0 rfl) ?_
  refine lv_bipush (v := 48) hx hb dX2_isDigit_1 (by decide) ?_
  refine lv_icmp_lt (tgt := 16) hx hb dX2_isDigit_3 (by decide) (fun c1 => ?_) (fun c1 => ?_)
  · have ic1 : Z_v < 48 := zi_lt hZ_v rfl c1
    refine lv_iconst (v := 0) hx hb dX2_isDigit_16 (by decide) ?_
    exact W.zret (v := 0) hx hb hr rfl (fun t ht hW => ⟨0, rfl, ⟨(by first | decide | omega), (Or.inr ⟨rfl, by omega⟩)⟩, ht⟩) (fun _ h => by cases h) dX2_isDigit_17
  · have ic1 : Z_v ≥ 48 := zi_ltf hZ_v rfl c1
    refine lv_iload_n hx hb dX2_isDigit_6 rfl (lv_at hl 0 rfl) ?_
    refine lv_bipush (v := 57) hx hb dX2_isDigit_7 (by decide) ?_
    refine lv_icmp_gt (tgt := 16) hx hb dX2_isDigit_9 (by decide) (fun c2 => ?_) (fun c2 => ?_)
    · have ic2 : Z_v > 57 := zi_gt hZ_v rfl c2
      refine lv_iconst (v := 0) hx hb dX2_isDigit_16 (by decide) ?_
      exact W.zret (v := 0) hx hb hr rfl (fun t ht hW => ⟨0, rfl, ⟨(by first | decide | omega), (Or.inr ⟨rfl, by omega⟩)⟩, ht⟩) (fun _ h => by cases h) dX2_isDigit_17
    · have ic2 : Z_v ≤ 57 := zi_gtf hZ_v rfl c2
      refine lv_iconst (v := 1) hx hb dX2_isDigit_12 (by decide) ?_
      refine lv_goto (tgt := 17) hx hb dX2_isDigit_13 (by decide) ?_
      exact W.zret (v := 1) hx hb hr rfl (fun t ht hW => ⟨1, rfl, ⟨(by first | decide | omega), (Or.inl ⟨rfl, by omega⟩)⟩, ht⟩) (fun _ h => by cases h) dX2_isDigit_17
set_option maxHeartbeats 4000000 in
set_option maxRecDepth 100000 in
theorem t_J0_coder_7d493 (l : Launch) (dC : Nat → ClassId) (dI : Nat → Nat → Nat) (sz : Nat) (adK adV : Nat → Nat) (zv : Option Nat) (k : Nat) (hk_k : k < 17) : Met l yJ0_coder_7d493 wqJ0_coder_7d493 ({ frames := 2, cells := 0, slots := 0, locals := 400 }) (va_Pc [.ref (adK k)] (pw_BZ dC dI [] [] sz adK adV zv)) (vp_Si (fun r => (0 ≤ r.toInt ∧ r.toInt ≤ 0) ∧ True)) 0 0 (fun _ => False) := by
  refine Met.ofW (cc := cJ0_coder_7d493) (maxL := 1) (ret := some .byte) (by decide) rfl ?_
  intro p e s m args below meth c s₁ B hml hv
  obtain ⟨rfl, ⟨hsz, hP, hK, hD0, hN⟩, hZ⟩ := hv
  have hx := B.exec
  have hb := B.bytes
  have hr := B.returns
  have hts := fun (w : Cond) (h : w ∈ WALL) => atoms_spec (ws := wqJ0_coder_7d493) B.pre w (List.mem_cons_of_mem _ h)
  have hown : s.vm.findClass RJ0 = some m.cls := findClass_of_methodNamed B.named
  have hlocks := B.notSynchronized
  subst hsz
  have hD := hD0
  have hS : va_S (fun _ => True) s.heap s.heap [] := va_S.rf
  have hSZ : va_S (va_A ([]) s.heap.size) s.heap s.heap [] := va_S.rf
  have hl := lv_entry ([.ref (adK k)]) (n := 1) (Nat.le_of_ble_eq_true rfl)
  rw [lg_entry_eq]
  generalize (lg_sl ([.ref (adK k)]) ++ List.replicate (1 - (lg_sl ([.ref (adK k)])).length) Slot.unset).toArray = ls at hl ⊢
  have hl : lv_has ls 1 [(0, .ref (adK k))] := hl
  refine va_gets hx hb hZ.2.1 hSZ hown (hts (.fieldLink RJ0 38 "java/lang/String" "COMPACT_STRINGS" "Z") wa_847) (fun _ h9 => h9) dJ0_coder_7d493_0 ?_
  refine lv_if_eq (tgt := 13) hx hb dJ0_coder_7d493_3 (by decide) (fun c9 => absurd c9 (by decide)) (fun _ => ?_)
  refine lv_aload_n hx hb dJ0_coder_7d493_6 rfl (lv_at hl 0 rfl) ?_
  refine vk_getf hx hb (hZ.1.1 k hk_k).2.1 hSZ hown (hts (.fieldLink RJ0 15 "java/lang/String" "coder" "B") wa_848) (fun _ h9 => h9) dJ0_coder_7d493_7 ?_
  refine lv_goto (tgt := 14) hx hb dJ0_coder_7d493_10 (by decide) ?_
  exact W.zret (v := 0) hx hb hr rfl (fun t ht hW => ⟨0, rfl, ⟨(by first | decide | omega), trivial⟩, ht⟩) (fun _ h => by cases h) dJ0_coder_7d493_14
set_option maxHeartbeats 4000000 in
set_option maxRecDepth 100000 in
theorem t_J0_length_8abf5 (l : Launch) (dC : Nat → ClassId) (dI : Nat → Nat → Nat) (sz : Nat) (adK adV : Nat → Nat) (zv : Option Nat) (k : Nat) (hk_k : k < 17) : Met l yJ0_length_8abf5 wqJ0_length_8abf5 ({ frames := 3, cells := 0, slots := 0, locals := 800 }) (va_Pc [.ref (adK k)] (pw_BZ dC dI [] [] sz adK adV zv)) (vp_Si (fun r => (0 ≤ r.toInt ∧ r.toInt ≤ 9) ∧ r.toInt = (zs_len.getD k 0 : Int))) 0 0 (fun _ => False) := by
  refine Met.ofW (cc := cJ0_length_8abf5) (maxL := 1) (ret := some .int) (by decide) rfl ?_
  intro p e s m args below meth c s₁ B hml hv
  obtain ⟨rfl, ⟨hsz, hP, hK, hD0, hN⟩, hZ⟩ := hv
  have hx := B.exec
  have hb := B.bytes
  have hr := B.returns
  have hts := fun (w : Cond) (h : w ∈ WALL) => atoms_spec (ws := wqJ0_length_8abf5) B.pre w (List.mem_cons_of_mem _ h)
  have hown : s.vm.findClass RJ0 = some m.cls := findClass_of_methodNamed B.named
  have hlocks := B.notSynchronized
  subst hsz
  have hD := hD0
  have hS : va_S (fun _ => True) s.heap s.heap [] := va_S.rf
  have hSZ : va_S (va_A ([]) s.heap.size) s.heap s.heap [] := va_S.rf
  have hl := lv_entry ([.ref (adK k)]) (n := 1) (Nat.le_of_ble_eq_true rfl)
  rw [lg_entry_eq]
  generalize (lg_sl ([.ref (adK k)]) ++ List.replicate (1 - (lg_sl ([.ref (adK k)])).length) Slot.unset).toArray = ls at hl ⊢
  have hl : lv_has ls 1 [(0, .ref (adK k))] := hl
  refine lv_aload_n hx hb dJ0_length_8abf5_0 rfl (lv_at hl 0 rfl) ?_
  refine vk_getf hx hb (hZ.1.1 k hk_k).2.2.1 hSZ hown (hts (.fieldLink RJ0 9 "java/lang/String" "value" "[B") wa_842) (fun _ h9 => h9) dJ0_length_8abf5_1 ?_
  obtain ⟨z1, ez1⟩ : ∃ y : Int32, y = Int32.ofNat (zs_len.getD k 0) := ⟨_, rfl⟩
  have lz1 := zs_le k hk_k
  have iz1 : z1.toInt = (zs_len.getD k 0 : Int) := zi_ofNat ez1 (by omega)
  refine va_tlen hx hb (hZ.1.1 k hk_k).2.2.2 hSZ ez1.symm dJ0_length_8abf5_4 ?_
  refine lv_aload_n hx hb dJ0_length_8abf5_5 rfl (lv_at hl 0 rfl) ?_
  refine pz_calli (va_runV (As := []) (rest := [.int z1]) ⟨hx, hb, hml, hown, hts⟩ (t_J0_coder_7d493 l dC dI _ adK adV zv k hk_k) (cwV 0 hts gJ0_length_8abf5_J0_coder_7d493 rfl rfl rfl ⟨rfl, pd_J0_coder_7d493⟩ ⟨Nat.le_of_ble_eq_true rfl, Nat.le_of_ble_eq_true rfl⟩) ⟨pw_blindZ, vk_recv hZ.1 hk_k hSZ, pw_preZ pz_P0 (hK.sub (tys' := []) [] rfl) (pz_D0 (A := fun _ => True)) hN hZ hSZ (fun _ h9 => h9)⟩ rfl rfl hl.1 rfl (lv_room (Nat.le_of_ble_eq_true rfl)) dJ0_length_8abf5_6 ⟨Nat.le_of_ble_eq_true rfl, Nat.le_of_ble_eq_true rfl⟩) (fun r2 hw3 => ?_)
  obtain ⟨hw3r, hw3p⟩ := hw3
  obtain rfl : r2 = 0 := Int32.toInt_inj.mp (show r2.toInt = (0 : Int32).toInt by have q9 : (0 : Int32).toInt = 0 := rfl; omega)
  refine lv_ishr hx hb dJ0_length_8abf5_9 ?_
  refine lv_topi (fun z4 ez4 => ?_)
  have iz4 : z4.toInt = z1.toInt := zi_shr0 ez4 rfl
  exact W.iret (v := z4) hx hb hr (fun t ht hW => ⟨z4, rfl, ⟨(by first | decide | omega), (by omega)⟩, ht⟩) (fun _ h => by cases h) dJ0_length_8abf5_10
set_option maxHeartbeats 4000000 in
set_option maxRecDepth 100000 in
theorem t_J0_isLatin1_aae02 (l : Launch) (dC : Nat → ClassId) (dI : Nat → Nat → Nat) (sz : Nat) (adK adV : Nat → Nat) (zv : Option Nat) (k : Nat) (hk_k : k < 17) : Met l yJ0_isLatin1_aae02 wqJ0_isLatin1_aae02 ({ frames := 2, cells := 0, slots := 0, locals := 400 }) (va_Pc [.ref (adK k)] (pw_BZ dC dI [] [] sz adK adV zv)) (vp_Si (fun r => (1 ≤ r.toInt ∧ r.toInt ≤ 1) ∧ True)) 0 0 (fun _ => False) := by
  refine Met.ofW (cc := cJ0_isLatin1_aae02) (maxL := 1) (ret := some .boolean) (by decide) rfl ?_
  intro p e s m args below meth c s₁ B hml hv
  obtain ⟨rfl, ⟨hsz, hP, hK, hD0, hN⟩, hZ⟩ := hv
  have hx := B.exec
  have hb := B.bytes
  have hr := B.returns
  have hts := fun (w : Cond) (h : w ∈ WALL) => atoms_spec (ws := wqJ0_isLatin1_aae02) B.pre w (List.mem_cons_of_mem _ h)
  have hown : s.vm.findClass RJ0 = some m.cls := findClass_of_methodNamed B.named
  have hlocks := B.notSynchronized
  subst hsz
  have hD := hD0
  have hS : va_S (fun _ => True) s.heap s.heap [] := va_S.rf
  have hSZ : va_S (va_A ([]) s.heap.size) s.heap s.heap [] := va_S.rf
  have hl := lv_entry ([.ref (adK k)]) (n := 1) (Nat.le_of_ble_eq_true rfl)
  rw [lg_entry_eq]
  generalize (lg_sl ([.ref (adK k)]) ++ List.replicate (1 - (lg_sl ([.ref (adK k)])).length) Slot.unset).toArray = ls at hl ⊢
  have hl : lv_has ls 1 [(0, .ref (adK k))] := hl
  refine va_gets hx hb hZ.2.1 hSZ hown (hts (.fieldLink RJ0 38 "java/lang/String" "COMPACT_STRINGS" "Z") wa_847) (fun _ h9 => h9) dJ0_isLatin1_aae02_0 ?_
  refine lv_if_eq (tgt := 17) hx hb dJ0_isLatin1_aae02_3 (by decide) (fun c9 => absurd c9 (by decide)) (fun _ => ?_)
  refine lv_aload_n hx hb dJ0_isLatin1_aae02_6 rfl (lv_at hl 0 rfl) ?_
  refine vk_getf hx hb (hZ.1.1 k hk_k).2.1 hSZ hown (hts (.fieldLink RJ0 15 "java/lang/String" "coder" "B") wa_848) (fun _ h9 => h9) dJ0_isLatin1_aae02_7 ?_
  refine lv_if_ne (tgt := 17) hx hb dJ0_isLatin1_aae02_10 (by decide) (fun c9 => absurd c9 (by decide)) (fun _ => ?_)
  refine lv_iconst (v := 1) hx hb dJ0_isLatin1_aae02_13 (by decide) ?_
  refine lv_goto (tgt := 18) hx hb dJ0_isLatin1_aae02_14 (by decide) ?_
  exact W.zret (v := 1) hx hb hr rfl (fun t ht hW => ⟨1, rfl, ⟨(by first | decide | omega), trivial⟩, ht⟩) (fun _ h => by cases h) dJ0_isLatin1_aae02_18
set_option maxHeartbeats 4000000 in
set_option maxRecDepth 100000 in
theorem t_J3_checkIndex_8e157 (l : Launch) (dC : Nat → ClassId) (dI : Nat → Nat → Nat) (sz : Nat) (adK adV : Nat → Nat) (zv : Option Nat) (v : Int32) (u : Int32) (Z_v : Int) (Z_u : Int) (h1 : 0 ≤ Z_v ∧ Z_v < Z_u) (hZ_v : v.toInt = Z_v) (hZ_u : u.toInt = Z_u) : Met l yJ3_checkIndex_8e157 wqJ3_checkIndex_8e157 ({ frames := 2, cells := 0, slots := 0, locals := 400 }) (va_Pc [.int v, .int u, va_rf zv] (pw_BZ dC dI [] [] sz adK adV zv)) (vp_Si (fun r => True ∧ True)) 0 0 (fun _ => False) := by
  rcases zv with _ | zv
  · show Met l yJ3_checkIndex_8e157 wqJ3_checkIndex_8e157 ({ frames := 2, cells := 0, slots := 0, locals := 400 }) (va_Pc [.int v, .int u, .null] (pw_BZ dC dI [] [] sz adK adV none)) (vp_Si (fun r => True ∧ True)) 0 0 (fun _ => False)
    refine Met.ofW (cc := cJ3_checkIndex_8e157) (maxL := 3) (ret := some .int) (by decide) rfl ?_
    intro p e s m args below meth c s₁ B hml hv
    obtain ⟨rfl, ⟨hsz, hP, hK, hD0, hN⟩, hZ⟩ := hv
    have hx := B.exec
    have hb := B.bytes
    have hr := B.returns
    have hts := fun (w : Cond) (h : w ∈ WALL) => atoms_spec (ws := wqJ3_checkIndex_8e157) B.pre w (List.mem_cons_of_mem _ h)
    have hown : s.vm.findClass RJ3 = some m.cls := findClass_of_methodNamed B.named
    have hlocks := B.notSynchronized
    subst hsz
    have hD := hD0
    have hS : va_S (fun _ => True) s.heap s.heap [] := va_S.rf
    have hSZ : va_S (va_A ([]) s.heap.size) s.heap s.heap [] := va_S.rf
    have hl := lv_entry ([.int v, .int u, .null]) (n := 3) (Nat.le_of_ble_eq_true rfl)
    rw [lg_entry_eq]
    generalize (lg_sl ([.int v, .int u, .null]) ++ List.replicate (3 - (lg_sl ([.int v, .int u, .null])).length) Slot.unset).toArray = ls at hl ⊢
    have hl : lv_has ls 3 [(0, .int v), (1, .int u), (2, .null)] := hl
    refine lv_iload_n hx hb dJ3_checkIndex_8e157_0 rfl (lv_at hl 0 rfl) ?_
    refine lv_if_lt (tgt := 9) hx hb dJ3_checkIndex_8e157_1 (by decide) (fun c1 => ?_) (fun c1 => ?_)
    · have ic1 : Z_v < 0 := zi_lt hZ_v rfl c1
      exfalso; omega
    · have ic1 : Z_v ≥ 0 := zi_ltf hZ_v rfl c1
      refine lv_iload_n hx hb dJ3_checkIndex_8e157_4 rfl (lv_at hl 0 rfl) ?_
      refine lv_iload_n hx hb dJ3_checkIndex_8e157_5 rfl (lv_at hl 1 rfl) ?_
      refine lv_icmp_lt (tgt := 16) hx hb dJ3_checkIndex_8e157_6 (by decide) (fun c2 => ?_) (fun c2 => ?_)
      · have ic2 : Z_v < Z_u := zi_lt hZ_v hZ_u c2
        refine lv_iload_n hx hb dJ3_checkIndex_8e157_16 rfl (lv_at hl 0 rfl) ?_
        exact W.iret (v := v) hx hb hr (fun t ht hW => ⟨v, rfl, ⟨trivial, trivial⟩, ht⟩) (fun _ h => by cases h) dJ3_checkIndex_8e157_17
      · have ic2 : Z_v ≥ Z_u := zi_ltf hZ_v hZ_u c2
        exfalso; omega
  · show Met l yJ3_checkIndex_8e157 wqJ3_checkIndex_8e157 ({ frames := 2, cells := 0, slots := 0, locals := 400 }) (va_Pc [.int v, .int u, .ref zv] (pw_BZ dC dI [] [] sz adK adV (some zv))) (vp_Si (fun r => True ∧ True)) 0 0 (fun _ => False)
    refine Met.ofW (cc := cJ3_checkIndex_8e157) (maxL := 3) (ret := some .int) (by decide) rfl ?_
    intro p e s m args below meth c s₁ B hml hv
    obtain ⟨rfl, ⟨hsz, hP, hK, hD0, hN⟩, hZ⟩ := hv
    have hx := B.exec
    have hb := B.bytes
    have hr := B.returns
    have hts := fun (w : Cond) (h : w ∈ WALL) => atoms_spec (ws := wqJ3_checkIndex_8e157) B.pre w (List.mem_cons_of_mem _ h)
    have hown : s.vm.findClass RJ3 = some m.cls := findClass_of_methodNamed B.named
    have hlocks := B.notSynchronized
    subst hsz
    have hD := hD0
    have hS : va_S (fun _ => True) s.heap s.heap [] := va_S.rf
    have hSZ : va_S (va_A ([]) s.heap.size) s.heap s.heap [] := va_S.rf
    have hl := lv_entry ([.int v, .int u, .ref zv]) (n := 3) (Nat.le_of_ble_eq_true rfl)
    rw [lg_entry_eq]
    generalize (lg_sl ([.int v, .int u, .ref zv]) ++ List.replicate (3 - (lg_sl ([.int v, .int u, .ref zv])).length) Slot.unset).toArray = ls at hl ⊢
    have hl : lv_has ls 3 [(0, .int v), (1, .int u), (2, .ref zv)] := hl
    refine lv_iload_n hx hb dJ3_checkIndex_8e157_0 rfl (lv_at hl 0 rfl) ?_
    refine lv_if_lt (tgt := 9) hx hb dJ3_checkIndex_8e157_1 (by decide) (fun c1 => ?_) (fun c1 => ?_)
    · have ic1 : Z_v < 0 := zi_lt hZ_v rfl c1
      exfalso; omega
    · have ic1 : Z_v ≥ 0 := zi_ltf hZ_v rfl c1
      refine lv_iload_n hx hb dJ3_checkIndex_8e157_4 rfl (lv_at hl 0 rfl) ?_
      refine lv_iload_n hx hb dJ3_checkIndex_8e157_5 rfl (lv_at hl 1 rfl) ?_
      refine lv_icmp_lt (tgt := 16) hx hb dJ3_checkIndex_8e157_6 (by decide) (fun c2 => ?_) (fun c2 => ?_)
      · have ic2 : Z_v < Z_u := zi_lt hZ_v hZ_u c2
        refine lv_iload_n hx hb dJ3_checkIndex_8e157_16 rfl (lv_at hl 0 rfl) ?_
        exact W.iret (v := v) hx hb hr (fun t ht hW => ⟨v, rfl, ⟨trivial, trivial⟩, ht⟩) (fun _ h => by cases h) dJ3_checkIndex_8e157_17
      · have ic2 : Z_v ≥ Z_u := zi_ltf hZ_v hZ_u c2
        exfalso; omega
set_option maxHeartbeats 4000000 in
set_option maxRecDepth 100000 in
theorem t_J0_checkIndex_df160 (l : Launch) (dC : Nat → ClassId) (dI : Nat → Nat → Nat) (sz : Nat) (adK adV : Nat → Nat) (zv : Option Nat) (v : Int32) (u : Int32) (Z_v : Int) (Z_u : Int) (h1 : 0 ≤ Z_v ∧ Z_v < Z_u) (hZ_v : v.toInt = Z_v) (hZ_u : u.toInt = Z_u) : Met l yJ0_checkIndex_df160 wqJ0_checkIndex_df160 ({ frames := 3, cells := 0, slots := 0, locals := 800 }) (va_Pc [.int v, .int u] (pw_BZ dC dI [] [] sz adK adV zv)) (va_Sv (fun _ => True)) 0 0 (fun _ => False) := by
  refine Met.ofW (cc := cJ0_checkIndex_df160) (maxL := 2) (ret := none) (by decide) rfl ?_
  intro p e s m args below meth c s₁ B hml hv
  obtain ⟨rfl, ⟨hsz, hP, hK, hD0, hN⟩, hZ⟩ := hv
  have hx := B.exec
  have hb := B.bytes
  have hr := B.returns
  have hts := fun (w : Cond) (h : w ∈ WALL) => atoms_spec (ws := wqJ0_checkIndex_df160) B.pre w (List.mem_cons_of_mem _ h)
  have hown : s.vm.findClass RJ0 = some m.cls := findClass_of_methodNamed B.named
  have hlocks := B.notSynchronized
  subst hsz
  have hD := hD0
  have hS : va_S (fun _ => True) s.heap s.heap [] := va_S.rf
  have hSZ : va_S (va_A ([]) s.heap.size) s.heap s.heap [] := va_S.rf
  have hl := lv_entry ([.int v, .int u]) (n := 2) (Nat.le_of_ble_eq_true rfl)
  rw [lg_entry_eq]
  generalize (lg_sl ([.int v, .int u]) ++ List.replicate (2 - (lg_sl ([.int v, .int u])).length) Slot.unset).toArray = ls at hl ⊢
  have hl : lv_has ls 2 [(0, .int v), (1, .int u)] := hl
  refine lv_iload_n hx hb dJ0_checkIndex_df160_0 rfl (lv_at hl 0 rfl) ?_
  refine lv_iload_n hx hb dJ0_checkIndex_df160_1 rfl (lv_at hl 1 rfl) ?_
  refine va_gets hx hb hZ.2.2.1 hSZ hown (hts (.fieldLink RJ0 1053 "jdk/internal/util/Preconditions" "SIOOBE_FORMATTER" "Ljava/util/function/BiFunction;") wa_864) (fun _ h9 => h9) dJ0_checkIndex_df160_2 ?_
  refine pz_calli (va_runS (As := [.int v, .int u, va_rf zv]) (rest := []) ⟨hx, hb, hml, hown, hts⟩ (t_J3_checkIndex_8e157 l dC dI _ adK adV zv v u (Z_v) (Z_u) (by omega) hZ_v hZ_u) (va_cwS 3 hts gJ0_checkIndex_df160_J3_checkIndex_8e157 rfl rfl rfl pd_J3_checkIndex_8e157 ⟨Nat.le_of_ble_eq_true rfl, Nat.le_of_ble_eq_true rfl⟩) ⟨pw_blindZ, pw_preZ pz_P0 (hK.sub (tys' := []) [] rfl) (pz_D0 (A := fun _ => True)) hN hZ hSZ (fun _ h9 => h9)⟩ rfl rfl hl.1 rfl (lv_room (Nat.le_of_ble_eq_true rfl)) dJ0_checkIndex_df160_5 ⟨Nat.le_of_ble_eq_true rfl, Nat.le_of_ble_eq_true rfl⟩) (fun r1 hw2 => ?_)
  obtain ⟨hw2r, hw2p⟩ := hw2
  refine lv_pop hx hb dJ0_checkIndex_df160_8 rfl ?_
  exact W.vret hx hb hr (fun t ht hW => ⟨rfl, trivial, ht⟩) (fun _ h => by cases h) dJ0_checkIndex_df160_9
set_option maxHeartbeats 4000000 in
set_option maxRecDepth 100000 in
theorem t_J1_charAt_3b067 (l : Launch) (dC : Nat → ClassId) (dI : Nat → Nat → Nat) (sz : Nat) (adK adV : Nat → Nat) (zv : Option Nat) (k : Nat) (v : Int32) (hk_k : k < 17) (h1 : 0 ≤ v.toInt ∧ v.toInt < (zs_len.getD k 0 : Int)) : Met l yJ1_charAt_3b067 wqJ1_charAt_3b067 ({ frames := 4, cells := 0, slots := 0, locals := 1200 }) (va_Pc [.ref (adV k), .int v] (pw_BZ dC dI [] [] sz adK adV zv)) (vp_Si (fun r => (0 ≤ r.toInt ∧ r.toInt ≤ 255) ∧ True)) 0 0 (fun _ => False) := by
  refine Met.ofW (cc := cJ1_charAt_3b067) (maxL := 2) (ret := some .char) (by decide) rfl ?_
  intro p e s m args below meth c s₁ B hml hv
  obtain ⟨rfl, ⟨hsz, hP, hK, hD0, hN⟩, hZ⟩ := hv
  have hx := B.exec
  have hb := B.bytes
  have hr := B.returns
  have hts := fun (w : Cond) (h : w ∈ WALL) => atoms_spec (ws := wqJ1_charAt_3b067) B.pre w (List.mem_cons_of_mem _ h)
  have hown : s.vm.findClass RJ1 = some m.cls := findClass_of_methodNamed B.named
  have hlocks := B.notSynchronized
  subst hsz
  have hD := hD0
  have hS : va_S (fun _ => True) s.heap s.heap [] := va_S.rf
  have hSZ : va_S (va_A ([]) s.heap.size) s.heap s.heap [] := va_S.rf
  have hl := lv_entry ([.ref (adV k), .int v]) (n := 2) (Nat.le_of_ble_eq_true rfl)
  rw [lg_entry_eq]
  generalize (lg_sl ([.ref (adV k), .int v]) ++ List.replicate (2 - (lg_sl ([.ref (adV k), .int v])).length) Slot.unset).toArray = ls at hl ⊢
  have hl : lv_has ls 2 [(0, .ref (adV k)), (1, .int v)] := hl
  refine lv_iload_n hx hb dJ1_charAt_3b067_0 rfl (lv_at hl 1 rfl) ?_
  refine lv_aload_n hx hb dJ1_charAt_3b067_1 rfl (lv_at hl 0 rfl) ?_
  obtain ⟨z1, ez1⟩ : ∃ y : Int32, y = Int32.ofNat (zs_len.getD k 0) := ⟨_, rfl⟩
  have lz1 := zs_le k hk_k
  have iz1 : z1.toInt = (zs_len.getD k 0 : Int) := zi_ofNat ez1 (by omega)
  refine va_tlen hx hb (hZ.1.1 k hk_k).2.2.2 hSZ ez1.symm dJ1_charAt_3b067_2 ?_
  refine tp_callv0 (va_runS (As := [.int v, .int z1]) (rest := []) ⟨hx, hb, hml, hown, hts⟩ (t_J0_checkIndex_df160 l dC dI _ adK adV zv v z1 (v.toInt) (z1.toInt) (by omega) rfl rfl) (va_cwS 2 hts gJ1_charAt_3b067_J0_checkIndex_df160 rfl rfl rfl pd_J0_checkIndex_df160 ⟨Nat.le_of_ble_eq_true rfl, Nat.le_of_ble_eq_true rfl⟩) ⟨pw_blindZ, pw_preZ pz_P0 (hK.sub (tys' := []) [] rfl) (pz_D0 (A := fun _ => True)) hN hZ hSZ (fun _ h9 => h9)⟩ rfl rfl hl.1 rfl (lv_room (Nat.le_of_ble_eq_true rfl)) dJ1_charAt_3b067_3 ⟨Nat.le_of_ble_eq_true rfl, Nat.le_of_ble_eq_true rfl⟩) ?_
  refine lv_aload_n hx hb dJ1_charAt_3b067_6 rfl (lv_at hl 0 rfl) ?_
  refine lv_iload_n hx hb dJ1_charAt_3b067_7 rfl (lv_at hl 1 rfl) ?_
  refine va_tb hx hb (hZ.1.1 k hk_k).2.2.2 hSZ (zi_inl (by omega) (by omega)) rfl dJ1_charAt_3b067_8 ?_
  refine lv_topi (fun z4 ez4 => ?_)
  refine lv_sipush (v := 255) hx hb dJ1_charAt_3b067_9 (by decide) ?_
  refine lv_iand hx hb dJ1_charAt_3b067_12 ?_
  refine lv_topi (fun z5 ez5 => ?_)
  have iz5 : 0 ≤ z5.toInt ∧ z5.toInt ≤ 255 := zb_mask ez5 (by decide)
  refine lv_i2c hx hb dJ1_charAt_3b067_13 rfl ?_
  refine lv_topi (fun z6 ez6 => ?_)
  have iz6 : z6.toInt = z5.toInt := zi_i2c ez6 rfl (by omega) (by omega)
  exact W.zret (v := z6) hx hb hr (zi_narC (by omega) (by omega)) (fun t ht hW => ⟨z6, rfl, ⟨(by first | decide | omega), trivial⟩, ht⟩) (fun _ h => by cases h) dJ1_charAt_3b067_14
set_option maxHeartbeats 4000000 in
set_option maxRecDepth 100000 in
theorem t_J0_charAt_5068e (l : Launch) (dC : Nat → ClassId) (dI : Nat → Nat → Nat) (sz : Nat) (adK adV : Nat → Nat) (zv : Option Nat) (k : Nat) (v : Int32) (hk_k : k < 17) (h1 : 0 ≤ v.toInt ∧ v.toInt < (zs_len.getD k 0 : Int)) : Met l yJ0_charAt_5068e wqJ0_charAt_5068e ({ frames := 5, cells := 0, slots := 0, locals := 1600 }) (va_Pc [.ref (adK k), .int v] (pw_BZ dC dI [] [] sz adK adV zv)) (vp_Si (fun r => True ∧ True)) 0 0 (fun _ => False) := by
  refine Met.ofW (cc := cJ0_charAt_5068e) (maxL := 2) (ret := some .char) (by decide) rfl ?_
  intro p e s m args below meth c s₁ B hml hv
  obtain ⟨rfl, ⟨hsz, hP, hK, hD0, hN⟩, hZ⟩ := hv
  have hx := B.exec
  have hb := B.bytes
  have hr := B.returns
  have hts := fun (w : Cond) (h : w ∈ WALL) => atoms_spec (ws := wqJ0_charAt_5068e) B.pre w (List.mem_cons_of_mem _ h)
  have hown : s.vm.findClass RJ0 = some m.cls := findClass_of_methodNamed B.named
  have hlocks := B.notSynchronized
  subst hsz
  have hD := hD0
  have hS : va_S (fun _ => True) s.heap s.heap [] := va_S.rf
  have hSZ : va_S (va_A ([]) s.heap.size) s.heap s.heap [] := va_S.rf
  have hl := lv_entry ([.ref (adK k), .int v]) (n := 2) (Nat.le_of_ble_eq_true rfl)
  rw [lg_entry_eq]
  generalize (lg_sl ([.ref (adK k), .int v]) ++ List.replicate (2 - (lg_sl ([.ref (adK k), .int v])).length) Slot.unset).toArray = ls at hl ⊢
  have hl : lv_has ls 2 [(0, .ref (adK k)), (1, .int v)] := hl
  refine lv_aload_n hx hb dJ0_charAt_5068e_0 rfl (lv_at hl 0 rfl) ?_
  refine pz_calli (va_runV (As := []) (rest := []) ⟨hx, hb, hml, hown, hts⟩ (t_J0_isLatin1_aae02 l dC dI _ adK adV zv k hk_k) (cwV 0 hts gJ0_charAt_5068e_J0_isLatin1_aae02 rfl rfl rfl ⟨rfl, pd_J0_isLatin1_aae02⟩ ⟨Nat.le_of_ble_eq_true rfl, Nat.le_of_ble_eq_true rfl⟩) ⟨pw_blindZ, vk_recv hZ.1 hk_k hSZ, pw_preZ pz_P0 (hK.sub (tys' := []) [] rfl) (pz_D0 (A := fun _ => True)) hN hZ hSZ (fun _ h9 => h9)⟩ rfl rfl hl.1 rfl (lv_room (Nat.le_of_ble_eq_true rfl)) dJ0_charAt_5068e_1 ⟨Nat.le_of_ble_eq_true rfl, Nat.le_of_ble_eq_true rfl⟩) (fun r1 hw2 => ?_)
  obtain ⟨hw2r, hw2p⟩ := hw2
  obtain rfl : r1 = 1 := Int32.toInt_inj.mp (show r1.toInt = (1 : Int32).toInt by have q9 : (1 : Int32).toInt = 1 := rfl; omega)
  refine lv_if_eq (tgt := 16) hx hb dJ0_charAt_5068e_4 (by decide) (fun c9 => absurd c9 (by decide)) (fun _ => ?_)
  refine lv_aload_n hx hb dJ0_charAt_5068e_7 rfl (lv_at hl 0 rfl) ?_
  refine vk_getf hx hb (hZ.1.1 k hk_k).2.2.1 hSZ hown (hts (.fieldLink RJ0 9 "java/lang/String" "value" "[B") wa_842) (fun _ h9 => h9) dJ0_charAt_5068e_8 ?_
  refine lv_iload_n hx hb dJ0_charAt_5068e_11 rfl (lv_at hl 1 rfl) ?_
  refine pz_calli (va_runS (As := [.ref (adV k), .int v]) (rest := []) ⟨hx, hb, hml, hown, hts⟩ (t_J1_charAt_3b067 l dC dI _ adK adV zv k v hk_k (by omega)) (va_cwS 2 hts gJ0_charAt_5068e_J1_charAt_3b067 rfl rfl rfl pd_J1_charAt_3b067 ⟨Nat.le_of_ble_eq_true rfl, Nat.le_of_ble_eq_true rfl⟩) ⟨pw_blindZ, pw_preZ pz_P0 (hK.sub (tys' := []) [] rfl) (pz_D0 (A := fun _ => True)) hN hZ hSZ (fun _ h9 => h9)⟩ rfl rfl hl.1 rfl (lv_room (Nat.le_of_ble_eq_true rfl)) dJ0_charAt_5068e_12 ⟨Nat.le_of_ble_eq_true rfl, Nat.le_of_ble_eq_true rfl⟩) (fun r3 hw4 => ?_)
  obtain ⟨hw4r, hw4p⟩ := hw4
  exact W.zret (v := r3) hx hb hr (zi_narC (by omega) (by omega)) (fun t ht hW => ⟨r3, rfl, ⟨trivial, trivial⟩, ht⟩) (fun _ h => by cases h) dJ0_charAt_5068e_15
set_option maxHeartbeats 4000000 in
set_option maxRecDepth 100000 in
theorem t_X2_advance (l : Launch) (dC : Nat → ClassId) (dI : Nat → Nat → Nat) (sz : Nat) (Ω : Nat → (Nat → Nat) → va_E → Prop) (κ : Nat → ClassId) (τ ν : Nat → Nat) (ρ : Nat → Nat → Nat) (L : List Nat) (f : Nat → va_E) (hG : tp_G τ ν ρ L) (hT : tp_T Ω κ τ ν ρ f) (h0 : Nat) (B0 : Int) (ht_h0 : τ h0 = 3) (hB : tp_fld (f h0) 12 = B0) : Met l yX2_advance wqX2_advance ({ frames := 3, cells := 0, slots := 0, locals := 800 }) (va_Pc [.ref h0] (pz_B dC dI (tp_K κ) (va_pl L f) sz)) (va_Qv (fun (f1 : Nat → va_E) => tp_T Ω κ τ ν ρ f1 ∧ tp_F τ [3] f f1 ∧ tp_fld (f1 h0) 12 = B0) (fun (f1 : Nat → va_E) (t : State) => pz_E dC dI (tp_K κ) (va_A (va_pl L f) sz) (va_pl L f1) t) (va_A (va_pl L f) sz)) 0 0 (va_A (va_pl L f) sz) := by
  refine Met.ofW (cc := cX2_advance) (maxL := 1) (ret := none) (by decide) rfl ?_
  intro p e s m args below meth c s₁ B hml hv
  obtain ⟨rfl, hsz, hP, hK, hD0, hN⟩ := hv
  have hx := B.exec
  have hb := B.bytes
  have hr := B.returns
  have hts := fun (w : Cond) (h : w ∈ WALL) => atoms_spec (ws := wqX2_advance) B.pre w (List.mem_cons_of_mem _ h)
  have hown : s.vm.findClass RX2 = some m.cls := findClass_of_methodNamed B.named
  have hlocks := B.notSynchronized
  subst hsz
  have hD := hD0.self (sz := s.heap.size)
  generalize hAe : va_A (va_pl L f) s.heap.size = A at hD ⊢
  have hA : ∀ q : Nat, s.heap.size ≤ q → A q := fun q h => by rw [← hAe]; exact Or.inr h
  have hS : va_S A s.heap s.heap [] := va_S.rf
  have hR : tp_F τ [3] f f := tp_F.rf
  have hl := lv_entry ([.ref h0]) (n := 1) (Nat.le_of_ble_eq_true rfl)
  rw [lg_entry_eq]
  generalize (lg_sl ([.ref h0]) ++ List.replicate (1 - (lg_sl ([.ref h0])).length) Slot.unset).toArray = ls at hl ⊢
  have hl : lv_has ls 1 [(0, .ref h0)] := hl
  refine tgk_3 hG ht_h0 (fun y1 y1n y2 y2n y3 y3n => ?_)
  refine tpk_3 hT ht_h0 (fun o4_x1 o4_x2 o4_x3 o4_x4 o4_x5 o4_x6 o4_x8 o4_x10 o4_x11 o4_x12 o4_x13 o4_x14 o4_x15 hf_o4 ro4_0 ro4_1 ro4_2 ro4_3 ro4_4 ro4_5 ro4_6 => ?_)
  have bo4 : o4_x12.toInt = B0 := by have q9 := hB; rw [hf_o4] at q9; exact q9
  have hT := hT.opn h0
  refine lv_aload_n hx hb dX2_advance_0 rfl (lv_at hl 0 rfl) ?_
  refine lv_aload_n hx hb dX2_advance_1 rfl (lv_at hl 0 rfl) ?_
  refine tpk_pos (tp_in hG ht_h0 (by decide)) hf_o4 (fun q5 eq5 => ?_)
  refine va_get (D := (dC, dI)) (ci := 2) (v := .int o4_x5) (C := RX2) (T := TX2) (N := 16) hx hb hts hfX2 hown hK hP q5 eq5 rfl 5 (by decide) (hts (.fieldLink RX2 29 "ColdShips$Reader" "behind" "I") wa_795) (fun _ h9 => h9) rfl dX2_advance_2 ?_
  refine va_put (D := (dC, dI)) (ci := 2) (v := .int o4_x5) (ty := .int) (C := RX2) (T := TX2) (N := 16) hx hb hts hfX2 tyX2 tyX2_ok nmX2 hown hK hP hD hS q5 eq5 rfl 3 (by decide) (hts (.fieldLink RX2 60 "ColdShips$Reader" "place" "I") wa_803) (fun _ h9 => h9) rfl (tyX2_ok 3 (by decide)) rfl rfl (Nat.le_of_ble_eq_true rfl) dX2_advance_5 (tp_k (.inr (2, [.ref (ρ h0 0), .int o4_x1, .int o4_x2, .int o4_x5, .int o4_x4, .int o4_x5, .int o4_x6, .ref (ρ h0 7), .int o4_x8, .ref (ρ h0 9), .int o4_x10, .int o4_x11, .int o4_x12, .int o4_x13, .int o4_x14, .int o4_x15])) hD (tp_in hG ht_h0 (by decide)) eq5 (fun f6 H locs hP hD hS g8 k7 => ?_))
  have hT := hT.up k7
  have hR := hR.up ht_h0 (by decide) k7
  have hB : tp_fld (f6 h0) 12 = B0 := by rw [g8]; show (o4_x12).toInt = B0; omega
  refine pz_loop (fun n0 H locs ls => ∃ f11 : Nat → va_E, ∃ w9 : Int32, n0 = ((o4_x1.toInt) - (w9.toInt)).toNat ∧ tp_O Ω κ τ ν ρ h0 f11 ∧ tp_F τ [3] f f11 ∧ tp_fld (f11 h0) 12 = B0 ∧ f11 h0 = .inr (2, [.ref (ρ h0 0), .int o4_x1, .int o4_x2, .int w9, .int o4_x4, .int o4_x5, .int o4_x6, .ref (ρ h0 7), .int o4_x8, .ref (ρ h0 9), .int o4_x10, .int o4_x11, .int o4_x12, .int o4_x13, .int o4_x14, .int o4_x15]) ∧ (0 ≤ w9.toInt ∧ w9.toInt ≤ 400) ∧ va_P (dC, dI) vwCl (va_pl L f11) H ∧ va_D A (va_pl L f11) ∧ va_S A s.heap H locs ∧ lv_has ls 1 [(0, .ref h0)]) ?_ _ _ _ _ ⟨f6, o4_x5, rfl, hT, hR, hB, g8, (by omega), hP, hD, hS, lv_sub hl [0] rfl⟩
  intro n0 H locs ls hI ih12
  refine Exists.elim hI (fun f11 hE90 => Exists.elim hE90 (fun w9 hE91 => tn_10 hE91 (fun hn13 hT hR hB hk10k rw9 hP hD hS hl => ?_)))
  clear hE91 hE90 hI
  refine lv_aload_n hx hb dX2_advance_8 rfl (lv_at hl 0 rfl) ?_
  refine tpk_pos (tp_in hG ht_h0 (by decide)) hk10k (fun q14 eq14 => ?_)
  refine va_get (D := (dC, dI)) (ci := 2) (v := .int w9) (C := RX2) (T := TX2) (N := 16) hx hb hts hfX2 hown hK hP q14 eq14 rfl 3 (by decide) (hts (.fieldLink RX2 60 "ColdShips$Reader" "place" "I") wa_803) (fun _ h9 => h9) rfl dX2_advance_9 ?_
  refine lv_aload_n hx hb dX2_advance_12 rfl (lv_at hl 0 rfl) ?_
  refine va_get (D := (dC, dI)) (ci := 2) (v := .int o4_x1) (C := RX2) (T := TX2) (N := 16) hx hb hts hfX2 hown hK hP q14 eq14 rfl 1 (by decide) (hts (.fieldLink RX2 26 "ColdShips$Reader" "size" "I") wa_765) (fun _ h9 => h9) rfl dX2_advance_13 ?_
  refine tp_join 46 (fun H locs ls stk => stk = [] ∧ va_P (dC, dI) vwCl (va_pl L f11) H ∧ va_D A (va_pl L f11) ∧ va_S A s.heap H locs ∧ lv_has ls 1 [(0, .ref h0)]) ?_ (fun hj15 => ?_)
  · intro H locs ls stk hI
    refine tn_5 hI (fun e90 hP hD hS hl => ?_)
    clear hI; subst e90
    refine lv_aload_n hx hb dX2_advance_46 rfl (lv_at hl 0 rfl) ?_
    refine lv_aload_n hx hb dX2_advance_47 rfl (lv_at hl 0 rfl) ?_
    refine va_get (D := (dC, dI)) (ci := 2) (v := .int w9) (C := RX2) (T := TX2) (N := 16) hx hb hts hfX2 hown hK hP q14 eq14 rfl 3 (by decide) (hts (.fieldLink RX2 60 "ColdShips$Reader" "place" "I") wa_803) (fun _ h9 => h9) rfl dX2_advance_48 ?_
    refine va_put (D := (dC, dI)) (ci := 2) (v := .int w9) (ty := .int) (C := RX2) (T := TX2) (N := 16) hx hb hts hfX2 tyX2 tyX2_ok nmX2 hown hK hP hD hS q14 eq14 rfl 5 (by decide) (hts (.fieldLink RX2 29 "ColdShips$Reader" "behind" "I") wa_795) (fun _ h9 => h9) rfl (tyX2_ok 5 (by decide)) rfl rfl (Nat.le_of_ble_eq_true rfl) dX2_advance_51 (tp_k (.inr (2, [.ref (ρ h0 0), .int o4_x1, .int o4_x2, .int w9, .int o4_x4, .int w9, .int o4_x6, .ref (ρ h0 7), .int o4_x8, .ref (ρ h0 9), .int o4_x10, .int o4_x11, .int o4_x12, .int o4_x13, .int o4_x14, .int o4_x15])) hD (tp_in hG ht_h0 (by decide)) eq14 (fun f16 H locs hP hD hS g18 k17 => ?_))
    have hT := hT.up k17
    have hR := hR.up ht_h0 (by decide) k17
    have hB : tp_fld (f16 h0) 12 = B0 := by rw [g18]; show (o4_x12).toInt = B0; omega
    refine lv_aload_n hx hb dX2_advance_54 rfl (lv_at hl 0 rfl) ?_
    refine tpk_pos (tp_in hG ht_h0 (by decide)) g18 (fun q19 eq19 => ?_)
    refine va_get (D := (dC, dI)) (ci := 2) (v := .int w9) (C := RX2) (T := TX2) (N := 16) hx hb hts hfX2 hown hK hP q19 eq19 rfl 3 (by decide) (hts (.fieldLink RX2 60 "ColdShips$Reader" "place" "I") wa_803) (fun _ h9 => h9) rfl dX2_advance_55 ?_
    refine lv_aload_n hx hb dX2_advance_58 rfl (lv_at hl 0 rfl) ?_
    refine va_get (D := (dC, dI)) (ci := 2) (v := .int o4_x1) (C := RX2) (T := TX2) (N := 16) hx hb hts hfX2 hown hK hP q19 eq19 rfl 1 (by decide) (hts (.fieldLink RX2 26 "ColdShips$Reader" "size" "I") wa_765) (fun _ h9 => h9) rfl dX2_advance_59 ?_
    refine lv_icmp_lt (tgt := 73) hx hb dX2_advance_62 (by decide) (fun c20 => ?_) (fun c20 => ?_)
    · have ic20 : w9.toInt < o4_x1.toInt := zi_lt rfl rfl c20
      refine lv_aload_n hx hb dX2_advance_73 rfl (lv_at hl 0 rfl) ?_
      refine va_get (D := (dC, dI)) (ci := 2) (v := .ref (ρ h0 0)) (C := RX2) (T := TX2) (N := 16) hx hb hts hfX2 hown hK hP q19 eq19 rfl 0 (by decide) (hts (.fieldLink RX2 11 "ColdShips$Reader" "tape" "[C") wa_119) (fun _ h9 => h9) rfl dX2_advance_74 ?_
      refine lv_aload_n hx hb dX2_advance_77 rfl (lv_at hl 0 rfl) ?_
      refine va_get (D := (dC, dI)) (ci := 2) (v := .int w9) (C := RX2) (T := TX2) (N := 16) hx hb hts hfX2 hown hK hP q19 eq19 rfl 3 (by decide) (hts (.fieldLink RX2 60 "ColdShips$Reader" "place" "I") wa_803) (fun _ h9 => h9) rfl dX2_advance_78 ?_
      obtain ⟨g22, hf_o21⟩ := tp_atO hT y1 (by decide) (tp_ne y1 ht_h0 (by decide))
      rw [y1n] at hf_o21
      refine tpk_pos (tp_in hG y1 (by decide)) hf_o21 (fun q23 eq23 => ?_)
      refine va_cald hx hb hK hP q23 2 eq23 rfl (vp_in_iff.mpr ⟨by omega, by omega⟩) dX2_advance_81 ?_
      refine lv_topi (fun z24 ez24 => ?_)
      refine pz_calli (va_runS (As := [.int z24]) (rest := []) ⟨hx, hb, hml, hown, hts⟩ (t_X2_isLetter l dC dI _ z24) (va_cwS 1 hts gX2_advance_X2_isLetter rfl rfl rfl pd_X2_isLetter ⟨Nat.le_of_ble_eq_true rfl, Nat.le_of_ble_eq_true rfl⟩) ⟨pz_blind, pz_pre pz_P0 (hK.sub (tys' := []) [] rfl) (pz_D0 (A := fun _ => True)) hN⟩ rfl rfl hl.1 rfl (lv_room (Nat.le_of_ble_eq_true rfl)) dX2_advance_82 ⟨Nat.le_of_ble_eq_true rfl, Nat.le_of_ble_eq_true rfl⟩) (fun r25 hw26 => ?_)
      obtain ⟨hw26r, hw26p⟩ := hw26
      refine lv_if_eq (tgt := 132) hx hb dX2_advance_85 (by decide) (fun c27 => ?_) (fun c27 => ?_)
      · have ic27 : r25.toInt = 0 := zi_eq rfl rfl c27
        refine lv_aload_n hx hb dX2_advance_132 rfl (lv_at hl 0 rfl) ?_
        refine va_get (D := (dC, dI)) (ci := 2) (v := .ref (ρ h0 0)) (C := RX2) (T := TX2) (N := 16) hx hb hts hfX2 hown hK hP q19 eq19 rfl 0 (by decide) (hts (.fieldLink RX2 11 "ColdShips$Reader" "tape" "[C") wa_119) (fun _ h9 => h9) rfl dX2_advance_133 ?_
        refine lv_aload_n hx hb dX2_advance_136 rfl (lv_at hl 0 rfl) ?_
        refine va_get (D := (dC, dI)) (ci := 2) (v := .int w9) (C := RX2) (T := TX2) (N := 16) hx hb hts hfX2 hown hK hP q19 eq19 rfl 3 (by decide) (hts (.fieldLink RX2 60 "ColdShips$Reader" "place" "I") wa_803) (fun _ h9 => h9) rfl dX2_advance_137 ?_
        refine va_cald hx hb hK hP q23 2 eq23 rfl (vp_in_iff.mpr ⟨by omega, by omega⟩) dX2_advance_140 ?_
        refine lv_topi (fun z28 ez28 => ?_)
        have jz28 : z28.toInt = z24.toInt := by rw [ez28, ez24]
        refine pz_calli (va_runS (As := [.int z28]) (rest := []) ⟨hx, hb, hml, hown, hts⟩ (t_X2_isDigit l dC dI _ z28 (z28.toInt) rfl) (va_cwS 1 hts gX2_advance_X2_isDigit rfl rfl rfl pd_X2_isDigit ⟨Nat.le_of_ble_eq_true rfl, Nat.le_of_ble_eq_true rfl⟩) ⟨pz_blind, pz_pre pz_P0 (hK.sub (tys' := []) [] rfl) (pz_D0 (A := fun _ => True)) hN⟩ rfl rfl hl.1 rfl (lv_room (Nat.le_of_ble_eq_true rfl)) dX2_advance_141 ⟨Nat.le_of_ble_eq_true rfl, Nat.le_of_ble_eq_true rfl⟩) (fun r29 hw30 => ?_)
        obtain ⟨hw30r, hw30p⟩ := hw30
        refine lv_if_eq (tgt := 225) hx hb dX2_advance_144 (by decide) (fun c31 => ?_) (fun c31 => ?_)
        · have ic31 : r29.toInt = 0 := zi_eq rfl rfl c31
          refine lv_aload_n hx hb dX2_advance_225 rfl (lv_at hl 0 rfl) ?_
          refine lv_iconst (v := 3) hx hb dX2_advance_226 (by decide) ?_
          refine va_put (D := (dC, dI)) (ci := 2) (v := .int 3) (ty := .int) (C := RX2) (T := TX2) (N := 16) hx hb hts hfX2 tyX2 tyX2_ok nmX2 hown hK hP hD hS q19 eq19 rfl 4 (by decide) (hts (.fieldLink RX2 77 "ColdShips$Reader" "kind" "I") wa_811) (fun _ h9 => h9) rfl (tyX2_ok 4 (by decide)) rfl rfl (Nat.le_of_ble_eq_true rfl) dX2_advance_227 (tp_k (.inr (2, [.ref (ρ h0 0), .int o4_x1, .int o4_x2, .int w9, .int 3, .int w9, .int o4_x6, .ref (ρ h0 7), .int o4_x8, .ref (ρ h0 9), .int o4_x10, .int o4_x11, .int o4_x12, .int o4_x13, .int o4_x14, .int o4_x15])) hD (tp_in hG ht_h0 (by decide)) eq19 (fun f32 H locs hP hD hS g34 k33 => ?_))
          have hT := hT.up k33
          have hT := hT.close ht_h0 g34 ⟨_, _, _, _, _, _, _, _, _, _, _, _, _, rfl, (by first | decide | omega | (have : (3 : Int32).toInt = 3 := rfl; omega)), (by first | decide | omega | (have : (3 : Int32).toInt = 3 := rfl; omega)), (by first | decide | omega | (have : (3 : Int32).toInt = 3 := rfl; omega)), (by first | decide | omega | (have : (3 : Int32).toInt = 3 := rfl; omega)), (by first | decide | omega | (have : (3 : Int32).toInt = 3 := rfl; omega)), (by first | decide | omega | (have : (3 : Int32).toInt = 3 := rfl; omega)), (by first | decide | omega | (have : (3 : Int32).toInt = 3 := rfl; omega))⟩
          have hR := hR.up ht_h0 (by decide) k33
          have hB : tp_fld (f32 h0) 12 = B0 := by rw [g34]; show (o4_x12).toInt = B0; omega
          refine lv_aload_n hx hb dX2_advance_230 rfl (lv_at hl 0 rfl) ?_
          refine lv_dup hx hb dX2_advance_231 rfl ?_
          refine tpk_pos (tp_in hG ht_h0 (by decide)) g34 (fun q35 eq35 => ?_)
          refine va_get (D := (dC, dI)) (ci := 2) (v := .int w9) (C := RX2) (T := TX2) (N := 16) hx hb hts hfX2 hown hK hP q35 eq35 rfl 5 (by decide) (hts (.fieldLink RX2 29 "ColdShips$Reader" "behind" "I") wa_795) (fun _ h9 => h9) rfl dX2_advance_232 ?_
          refine lv_iconst (v := 1) hx hb dX2_advance_235 (by decide) ?_
          refine lv_iadd hx hb dX2_advance_236 ?_
          refine lv_topi (fun z36 ez36 => ?_)
          have iz36 : z36.toInt = w9.toInt + 1 := zi_add ez36 rfl rfl (by omega) (by omega)
          refine va_put (D := (dC, dI)) (ci := 2) (v := .int z36) (ty := .int) (C := RX2) (T := TX2) (N := 16) hx hb hts hfX2 tyX2 tyX2_ok nmX2 hown hK hP hD hS q35 eq35 rfl 5 (by decide) (hts (.fieldLink RX2 29 "ColdShips$Reader" "behind" "I") wa_795) (fun _ h9 => h9) rfl (tyX2_ok 5 (by decide)) rfl rfl (Nat.le_of_ble_eq_true rfl) dX2_advance_237 (tp_k (.inr (2, [.ref (ρ h0 0), .int o4_x1, .int o4_x2, .int w9, .int 3, .int z36, .int o4_x6, .ref (ρ h0 7), .int o4_x8, .ref (ρ h0 9), .int o4_x10, .int o4_x11, .int o4_x12, .int o4_x13, .int o4_x14, .int o4_x15])) hD (tp_in hG ht_h0 (by decide)) eq35 (fun f37 H locs hP hD hS g39 k38 => ?_))
          have hT := hT.up ht_h0 g39 k38 ⟨_, _, _, _, _, _, _, _, _, _, _, _, _, rfl, (by first | decide | omega | (have : (3 : Int32).toInt = 3 := rfl; omega)), (by first | decide | omega | (have : (3 : Int32).toInt = 3 := rfl; omega)), (by first | decide | omega | (have : (3 : Int32).toInt = 3 := rfl; omega)), (by first | decide | omega | (have : (3 : Int32).toInt = 3 := rfl; omega)), (by first | decide | omega | (have : (3 : Int32).toInt = 3 := rfl; omega)), (by first | decide | omega | (have : (3 : Int32).toInt = 3 := rfl; omega)), (by first | decide | omega | (have : (3 : Int32).toInt = 3 := rfl; omega))⟩
          have hR := hR.up ht_h0 (by decide) k38
          have hB : tp_fld (f37 h0) 12 = B0 := by rw [g39]; show (o4_x12).toInt = B0; omega
          exact W.vret hx hb hr (fun t ht hW => ⟨⟨f37, rfl, ⟨hT, hR, hB⟩, by rw [ht]; exact hP, va_K.moved hW.alike hK, hD⟩, hS.F ht⟩) hS.2.2 dX2_advance_240
        · have ic31 : r29.toInt ≠ 0 := zi_eqf rfl rfl c31
          have p40 : 48 ≤ (z28.toInt) ∧ (z28.toInt) ≤ 57 := (tp_cond.yes hw30p) (by omega)
          refine lv_aload_n hx hb dX2_advance_147 rfl (lv_at hl 0 rfl) ?_
          refine lv_iconst (v := 2) hx hb dX2_advance_148 (by decide) ?_
          refine va_put (D := (dC, dI)) (ci := 2) (v := .int 2) (ty := .int) (C := RX2) (T := TX2) (N := 16) hx hb hts hfX2 tyX2 tyX2_ok nmX2 hown hK hP hD hS q19 eq19 rfl 4 (by decide) (hts (.fieldLink RX2 77 "ColdShips$Reader" "kind" "I") wa_811) (fun _ h9 => h9) rfl (tyX2_ok 4 (by decide)) rfl rfl (Nat.le_of_ble_eq_true rfl) dX2_advance_149 (tp_k (.inr (2, [.ref (ρ h0 0), .int o4_x1, .int o4_x2, .int w9, .int 2, .int w9, .int o4_x6, .ref (ρ h0 7), .int o4_x8, .ref (ρ h0 9), .int o4_x10, .int o4_x11, .int o4_x12, .int o4_x13, .int o4_x14, .int o4_x15])) hD (tp_in hG ht_h0 (by decide)) eq19 (fun f41 H locs hP hD hS g43 k42 => ?_))
          have hT := hT.up k42
          have hT := hT.close ht_h0 g43 ⟨_, _, _, _, _, _, _, _, _, _, _, _, _, rfl, (by first | decide | omega | (have : (2 : Int32).toInt = 2 := rfl; omega)), (by first | decide | omega | (have : (2 : Int32).toInt = 2 := rfl; omega)), (by first | decide | omega | (have : (2 : Int32).toInt = 2 := rfl; omega)), (by first | decide | omega | (have : (2 : Int32).toInt = 2 := rfl; omega)), (by first | decide | omega | (have : (2 : Int32).toInt = 2 := rfl; omega)), (by first | decide | omega | (have : (2 : Int32).toInt = 2 := rfl; omega)), (by first | decide | omega | (have : (2 : Int32).toInt = 2 := rfl; omega))⟩
          have hR := hR.up ht_h0 (by decide) k42
          have hB : tp_fld (f41 h0) 12 = B0 := by rw [g43]; show (o4_x12).toInt = B0; omega
          refine lv_aload_n hx hb dX2_advance_152 rfl (lv_at hl 0 rfl) ?_
          refine lv_iconst (v := 0) hx hb dX2_advance_153 (by decide) ?_
          refine tpk_pos (tp_in hG ht_h0 (by decide)) g43 (fun q44 eq44 => ?_)
          refine va_put (D := (dC, dI)) (ci := 2) (v := .int 0) (ty := .int) (C := RX2) (T := TX2) (N := 16) hx hb hts hfX2 tyX2 tyX2_ok nmX2 hown hK hP hD hS q44 eq44 rfl 6 (by decide) (hts (.fieldLink RX2 99 "ColdShips$Reader" "value" "I") wa_812) (fun _ h9 => h9) rfl (tyX2_ok 6 (by decide)) rfl rfl (Nat.le_of_ble_eq_true rfl) dX2_advance_154 (tp_k (.inr (2, [.ref (ρ h0 0), .int o4_x1, .int o4_x2, .int w9, .int 2, .int w9, .int 0, .ref (ρ h0 7), .int o4_x8, .ref (ρ h0 9), .int o4_x10, .int o4_x11, .int o4_x12, .int o4_x13, .int o4_x14, .int o4_x15])) hD (tp_in hG ht_h0 (by decide)) eq44 (fun f45 H locs hP hD hS g47 k46 => ?_))
          have hT := hT.up ht_h0 g47 k46 ⟨_, _, _, _, _, _, _, _, _, _, _, _, _, rfl, (by first | decide | omega | (have : (2 : Int32).toInt = 2 := rfl; have : (0 : Int32).toInt = 0 := rfl; omega)), (by first | decide | omega | (have : (2 : Int32).toInt = 2 := rfl; have : (0 : Int32).toInt = 0 := rfl; omega)), (by first | decide | omega | (have : (2 : Int32).toInt = 2 := rfl; have : (0 : Int32).toInt = 0 := rfl; omega)), (by first | decide | omega | (have : (2 : Int32).toInt = 2 := rfl; have : (0 : Int32).toInt = 0 := rfl; omega)), (by first | decide | omega | (have : (2 : Int32).toInt = 2 := rfl; have : (0 : Int32).toInt = 0 := rfl; omega)), (by first | decide | omega | (have : (2 : Int32).toInt = 2 := rfl; have : (0 : Int32).toInt = 0 := rfl; omega)), (by first | decide | omega | (have : (2 : Int32).toInt = 2 := rfl; have : (0 : Int32).toInt = 0 := rfl; omega))⟩
          have hR := hR.up ht_h0 (by decide) k46
          have hB : tp_fld (f45 h0) 12 = B0 := by rw [g47]; show (o4_x12).toInt = B0; omega
          refine pz_loop (fun n0 H locs ls => ∃ f51 : Nat → va_E, ∃ w48 : Int32, ∃ w49 : Int32, n0 = ((o4_x1.toInt) - (w48.toInt)).toNat ∧ tp_T Ω κ τ ν ρ f51 ∧ tp_F τ [3] f f51 ∧ tp_fld (f51 h0) 12 = B0 ∧ f51 h0 = .inr (2, [.ref (ρ h0 0), .int o4_x1, .int o4_x2, .int w9, .int 2, .int w48, .int w49, .ref (ρ h0 7), .int o4_x8, .ref (ρ h0 9), .int o4_x10, .int o4_x11, .int o4_x12, .int o4_x13, .int o4_x14, .int o4_x15]) ∧ (0 ≤ w48.toInt ∧ w48.toInt ≤ 400) ∧ (0 ≤ w49.toInt ∧ w49.toInt ≤ 100001) ∧ va_P (dC, dI) vwCl (va_pl L f51) H ∧ va_D A (va_pl L f51) ∧ va_S A s.heap H locs ∧ lv_has ls 1 [(0, .ref h0)]) ?_ _ _ _ _ ⟨f45, w9, 0, rfl, hT, hR, hB, g47, (by have : (0 : Int32).toInt = 0 := rfl; omega), (by have : (0 : Int32).toInt = 0 := rfl; omega), hP, hD, hS, lv_sub hl [0] rfl⟩
          intro n0 H locs ls hI ih52
          refine Exists.elim hI (fun f51 hE90 => Exists.elim hE90 (fun w48 hE91 => Exists.elim hE91 (fun w49 hE92 => tn_11 hE92 (fun hn53 hT hR hB hk50k rw48 rw49 hP hD hS hl => ?_))))
          clear hE92 hE91 hE90 hI
          refine lv_aload_n hx hb dX2_advance_157 rfl (lv_at hl 0 rfl) ?_
          refine tpk_pos (tp_in hG ht_h0 (by decide)) hk50k (fun q54 eq54 => ?_)
          refine va_get (D := (dC, dI)) (ci := 2) (v := .int w48) (C := RX2) (T := TX2) (N := 16) hx hb hts hfX2 hown hK hP q54 eq54 rfl 5 (by decide) (hts (.fieldLink RX2 29 "ColdShips$Reader" "behind" "I") wa_795) (fun _ h9 => h9) rfl dX2_advance_158 ?_
          refine lv_aload_n hx hb dX2_advance_161 rfl (lv_at hl 0 rfl) ?_
          refine va_get (D := (dC, dI)) (ci := 2) (v := .int o4_x1) (C := RX2) (T := TX2) (N := 16) hx hb hts hfX2 hown hK hP q54 eq54 rfl 1 (by decide) (hts (.fieldLink RX2 26 "ColdShips$Reader" "size" "I") wa_765) (fun _ h9 => h9) rfl dX2_advance_162 ?_
          refine lv_icmp_ge (tgt := 240) hx hb dX2_advance_165 (by decide) (fun c55 => ?_) (fun c55 => ?_)
          · have ic55 : w48.toInt ≥ o4_x1.toInt := zi_ge rfl rfl c55
            exact W.vret hx hb hr (fun t ht hW => ⟨⟨f51, rfl, ⟨hT, hR, hB⟩, by rw [ht]; exact hP, va_K.moved hW.alike hK, hD⟩, hS.F ht⟩) hS.2.2 dX2_advance_240
          · have ic55 : w48.toInt < o4_x1.toInt := zi_gef rfl rfl c55
            refine lv_aload_n hx hb dX2_advance_168 rfl (lv_at hl 0 rfl) ?_
            refine va_get (D := (dC, dI)) (ci := 2) (v := .ref (ρ h0 0)) (C := RX2) (T := TX2) (N := 16) hx hb hts hfX2 hown hK hP q54 eq54 rfl 0 (by decide) (hts (.fieldLink RX2 11 "ColdShips$Reader" "tape" "[C") wa_119) (fun _ h9 => h9) rfl dX2_advance_169 ?_
            refine lv_aload_n hx hb dX2_advance_172 rfl (lv_at hl 0 rfl) ?_
            refine va_get (D := (dC, dI)) (ci := 2) (v := .int w48) (C := RX2) (T := TX2) (N := 16) hx hb hts hfX2 hown hK hP q54 eq54 rfl 5 (by decide) (hts (.fieldLink RX2 29 "ColdShips$Reader" "behind" "I") wa_795) (fun _ h9 => h9) rfl dX2_advance_173 ?_
            refine tpk_22 hT y1 y1n (fun g57 hf_o56 => ?_)
            refine tpk_pos (tp_in hG y1 (by decide)) hf_o56 (fun q58 eq58 => ?_)
            refine va_cald hx hb hK hP q58 2 eq58 rfl (vp_in_iff.mpr ⟨by omega, by omega⟩) dX2_advance_176 ?_
            refine lv_topi (fun z59 ez59 => ?_)
            refine pz_calli (va_runS (As := [.int z59]) (rest := []) ⟨hx, hb, hml, hown, hts⟩ (t_X2_isDigit l dC dI _ z59 (z59.toInt) rfl) (va_cwS 1 hts gX2_advance_X2_isDigit rfl rfl rfl pd_X2_isDigit ⟨Nat.le_of_ble_eq_true rfl, Nat.le_of_ble_eq_true rfl⟩) ⟨pz_blind, pz_pre pz_P0 (hK.sub (tys' := []) [] rfl) (pz_D0 (A := fun _ => True)) hN⟩ rfl rfl hl.1 rfl (lv_room (Nat.le_of_ble_eq_true rfl)) dX2_advance_177 ⟨Nat.le_of_ble_eq_true rfl, Nat.le_of_ble_eq_true rfl⟩) (fun r60 hw61 => ?_)
            obtain ⟨hw61r, hw61p⟩ := hw61
            refine lv_if_eq (tgt := 240) hx hb dX2_advance_180 (by decide) (fun c62 => ?_) (fun c62 => ?_)
            · have ic62 : r60.toInt = 0 := zi_eq rfl rfl c62
              exact W.vret hx hb hr (fun t ht hW => ⟨⟨f51, rfl, ⟨hT, hR, hB⟩, by rw [ht]; exact hP, va_K.moved hW.alike hK, hD⟩, hS.F ht⟩) hS.2.2 dX2_advance_240
            · have ic62 : r60.toInt ≠ 0 := zi_eqf rfl rfl c62
              have p63 : 48 ≤ (z59.toInt) ∧ (z59.toInt) ≤ 57 := (tp_cond.yes hw61p) (by omega)
              refine lv_aload_n hx hb dX2_advance_183 rfl (lv_at hl 0 rfl) ?_
              refine lv_ldc (own := RX2) (v := 100001) hx hb hown (hts (.constant RX2 205 (100001)) wa_813) dX2_advance_184 ?_
              refine lv_aload_n hx hb dX2_advance_186 rfl (lv_at hl 0 rfl) ?_
              refine va_get (D := (dC, dI)) (ci := 2) (v := .int w49) (C := RX2) (T := TX2) (N := 16) hx hb hts hfX2 hown hK hP q54 eq54 rfl 6 (by decide) (hts (.fieldLink RX2 99 "ColdShips$Reader" "value" "I") wa_812) (fun _ h9 => h9) rfl dX2_advance_187 ?_
              refine lv_bipush (v := 10) hx hb dX2_advance_190 (by decide) ?_
              refine lv_imul hx hb dX2_advance_192 ?_
              refine lv_topi (fun z64 ez64 => ?_)
              have iz64 : z64.toInt = w49.toInt * 10 := zi_mul ez64 rfl rfl (by omega) (by omega)
              refine lv_aload_n hx hb dX2_advance_193 rfl (lv_at hl 0 rfl) ?_
              refine va_get (D := (dC, dI)) (ci := 2) (v := .ref (ρ h0 0)) (C := RX2) (T := TX2) (N := 16) hx hb hts hfX2 hown hK hP q54 eq54 rfl 0 (by decide) (hts (.fieldLink RX2 11 "ColdShips$Reader" "tape" "[C") wa_119) (fun _ h9 => h9) rfl dX2_advance_194 ?_
              refine lv_aload_n hx hb dX2_advance_197 rfl (lv_at hl 0 rfl) ?_
              refine va_get (D := (dC, dI)) (ci := 2) (v := .int w48) (C := RX2) (T := TX2) (N := 16) hx hb hts hfX2 hown hK hP q54 eq54 rfl 5 (by decide) (hts (.fieldLink RX2 29 "ColdShips$Reader" "behind" "I") wa_795) (fun _ h9 => h9) rfl dX2_advance_198 ?_
              refine va_cald hx hb hK hP q58 2 eq58 rfl (vp_in_iff.mpr ⟨by omega, by omega⟩) dX2_advance_201 ?_
              refine lv_topi (fun z65 ez65 => ?_)
              have jz65 : z65.toInt = z59.toInt := by rw [ez65, ez59]
              refine lv_iadd hx hb dX2_advance_202 ?_
              refine lv_topi (fun z66 ez66 => ?_)
              have iz66 : z66.toInt = z64.toInt + z65.toInt := zi_add ez66 rfl rfl (by omega) (by omega)
              refine lv_bipush (v := 48) hx hb dX2_advance_203 (by decide) ?_
              refine lv_isub hx hb dX2_advance_205 ?_
              refine lv_topi (fun z67 ez67 => ?_)
              have iz67 : z67.toInt = z66.toInt - 48 := zi_sub ez67 rfl rfl (by omega) (by omega)
              refine va_mmin hx hb (by rw [hml]; exact hl.1.symm) hown (hts (.methodLink RX2 206 Lib.Math.min.name) wa_814) (hts (.static Lib.Math.min.name) wa_434) (hts (.initialized "java/lang/Math") wa_71) (hts (.code Lib.Math.min.name Lib.Math.min.code 2 (some .int)) wa_435) (Nat.le_of_ble_eq_true rfl) (Nat.le_of_ble_eq_true rfl) (Nat.le_of_ble_eq_true rfl) (Nat.le_of_ble_eq_true rfl) dX2_advance_206 ?_
              refine lv_topi (fun z68 ez68 => ?_)
              have iz68 := zi_min ez68 (show (100001 : Int32).toInt = 100001 from rfl) (rfl : z67.toInt = _)
              refine va_put (D := (dC, dI)) (ci := 2) (v := .int z68) (ty := .int) (C := RX2) (T := TX2) (N := 16) hx hb hts hfX2 tyX2 tyX2_ok nmX2 hown hK hP hD hS q54 eq54 rfl 6 (by decide) (hts (.fieldLink RX2 99 "ColdShips$Reader" "value" "I") wa_812) (fun _ h9 => h9) rfl (tyX2_ok 6 (by decide)) rfl rfl (Nat.le_of_ble_eq_true rfl) dX2_advance_209 (tp_k (.inr (2, [.ref (ρ h0 0), .int o4_x1, .int o4_x2, .int w9, .int 2, .int w48, .int z68, .ref (ρ h0 7), .int o4_x8, .ref (ρ h0 9), .int o4_x10, .int o4_x11, .int o4_x12, .int o4_x13, .int o4_x14, .int o4_x15])) hD (tp_in hG ht_h0 (by decide)) eq54 (fun f69 H locs hP hD hS g71 k70 => ?_))
              have hT := hT.up ht_h0 g71 k70 ⟨_, _, _, _, _, _, _, _, _, _, _, _, _, rfl, (by first | decide | omega | (have : (2 : Int32).toInt = 2 := rfl; omega)), (by first | decide | omega | (have : (2 : Int32).toInt = 2 := rfl; omega)), (by first | decide | omega | (have : (2 : Int32).toInt = 2 := rfl; omega)), (by first | decide | omega | (have : (2 : Int32).toInt = 2 := rfl; omega)), (by first | decide | omega | (have : (2 : Int32).toInt = 2 := rfl; omega)), (by first | decide | omega | (have : (2 : Int32).toInt = 2 := rfl; omega)), (by first | decide | omega | (have : (2 : Int32).toInt = 2 := rfl; omega))⟩
              have hR := hR.up ht_h0 (by decide) k70
              have hB : tp_fld (f69 h0) 12 = B0 := by rw [g71]; show (o4_x12).toInt = B0; omega
              refine lv_aload_n hx hb dX2_advance_212 rfl (lv_at hl 0 rfl) ?_
              refine lv_dup hx hb dX2_advance_213 rfl ?_
              refine tpk_pos (tp_in hG ht_h0 (by decide)) g71 (fun q72 eq72 => ?_)
              refine va_get (D := (dC, dI)) (ci := 2) (v := .int w48) (C := RX2) (T := TX2) (N := 16) hx hb hts hfX2 hown hK hP q72 eq72 rfl 5 (by decide) (hts (.fieldLink RX2 29 "ColdShips$Reader" "behind" "I") wa_795) (fun _ h9 => h9) rfl dX2_advance_214 ?_
              refine lv_iconst (v := 1) hx hb dX2_advance_217 (by decide) ?_
              refine lv_iadd hx hb dX2_advance_218 ?_
              refine lv_topi (fun z73 ez73 => ?_)
              have iz73 : z73.toInt = w48.toInt + 1 := zi_add ez73 rfl rfl (by omega) (by omega)
              refine va_put (D := (dC, dI)) (ci := 2) (v := .int z73) (ty := .int) (C := RX2) (T := TX2) (N := 16) hx hb hts hfX2 tyX2 tyX2_ok nmX2 hown hK hP hD hS q72 eq72 rfl 5 (by decide) (hts (.fieldLink RX2 29 "ColdShips$Reader" "behind" "I") wa_795) (fun _ h9 => h9) rfl (tyX2_ok 5 (by decide)) rfl rfl (Nat.le_of_ble_eq_true rfl) dX2_advance_219 (tp_k (.inr (2, [.ref (ρ h0 0), .int o4_x1, .int o4_x2, .int w9, .int 2, .int z73, .int z68, .ref (ρ h0 7), .int o4_x8, .ref (ρ h0 9), .int o4_x10, .int o4_x11, .int o4_x12, .int o4_x13, .int o4_x14, .int o4_x15])) hD (tp_in hG ht_h0 (by decide)) eq72 (fun f74 H locs hP hD hS g76 k75 => ?_))
              have hT := hT.up ht_h0 g76 k75 ⟨_, _, _, _, _, _, _, _, _, _, _, _, _, rfl, (by first | decide | omega | (have : (2 : Int32).toInt = 2 := rfl; omega)), (by first | decide | omega | (have : (2 : Int32).toInt = 2 := rfl; omega)), (by first | decide | omega | (have : (2 : Int32).toInt = 2 := rfl; omega)), (by first | decide | omega | (have : (2 : Int32).toInt = 2 := rfl; omega)), (by first | decide | omega | (have : (2 : Int32).toInt = 2 := rfl; omega)), (by first | decide | omega | (have : (2 : Int32).toInt = 2 := rfl; omega)), (by first | decide | omega | (have : (2 : Int32).toInt = 2 := rfl; omega))⟩
              have hR := hR.up ht_h0 (by decide) k75
              have hB : tp_fld (f74 h0) 12 = B0 := by rw [g76]; show (o4_x12).toInt = B0; omega
              refine lv_goto (tgt := 157) hx hb dX2_advance_222 (by decide) ?_
              exact ih52 _ _ _ _ (by rw [hn53]; omega) ⟨f74, z73, z68, rfl, hT, hR, hB, g76, (by omega), (by omega), hP, hD, hS, lv_sub hl [0] rfl⟩
      · have ic27 : r25.toInt ≠ 0 := zi_eqf rfl rfl c27
        refine lv_aload_n hx hb dX2_advance_88 rfl (lv_at hl 0 rfl) ?_
        refine lv_iconst (v := 1) hx hb dX2_advance_89 (by decide) ?_
        refine va_put (D := (dC, dI)) (ci := 2) (v := .int 1) (ty := .int) (C := RX2) (T := TX2) (N := 16) hx hb hts hfX2 tyX2 tyX2_ok nmX2 hown hK hP hD hS q19 eq19 rfl 4 (by decide) (hts (.fieldLink RX2 77 "ColdShips$Reader" "kind" "I") wa_811) (fun _ h9 => h9) rfl (tyX2_ok 4 (by decide)) rfl rfl (Nat.le_of_ble_eq_true rfl) dX2_advance_90 (tp_k (.inr (2, [.ref (ρ h0 0), .int o4_x1, .int o4_x2, .int w9, .int 1, .int w9, .int o4_x6, .ref (ρ h0 7), .int o4_x8, .ref (ρ h0 9), .int o4_x10, .int o4_x11, .int o4_x12, .int o4_x13, .int o4_x14, .int o4_x15])) hD (tp_in hG ht_h0 (by decide)) eq19 (fun f77 H locs hP hD hS g79 k78 => ?_))
        have hT := hT.up k78
        have hT := hT.close ht_h0 g79 ⟨_, _, _, _, _, _, _, _, _, _, _, _, _, rfl, (by first | decide | omega | (have : (1 : Int32).toInt = 1 := rfl; omega)), (by first | decide | omega | (have : (1 : Int32).toInt = 1 := rfl; omega)), (by first | decide | omega | (have : (1 : Int32).toInt = 1 := rfl; omega)), (by first | decide | omega | (have : (1 : Int32).toInt = 1 := rfl; omega)), (by first | decide | omega | (have : (1 : Int32).toInt = 1 := rfl; omega)), (by first | decide | omega | (have : (1 : Int32).toInt = 1 := rfl; omega)), (by first | decide | omega | (have : (1 : Int32).toInt = 1 := rfl; omega))⟩
        have hR := hR.up ht_h0 (by decide) k78
        have hB : tp_fld (f77 h0) 12 = B0 := by rw [g79]; show (o4_x12).toInt = B0; omega
        refine pz_loop (fun n0 H locs ls => ∃ f82 : Nat → va_E, ∃ w80 : Int32, n0 = ((o4_x1.toInt) - (w80.toInt)).toNat ∧ tp_T Ω κ τ ν ρ f82 ∧ tp_F τ [3] f f82 ∧ tp_fld (f82 h0) 12 = B0 ∧ f82 h0 = .inr (2, [.ref (ρ h0 0), .int o4_x1, .int o4_x2, .int w9, .int 1, .int w80, .int o4_x6, .ref (ρ h0 7), .int o4_x8, .ref (ρ h0 9), .int o4_x10, .int o4_x11, .int o4_x12, .int o4_x13, .int o4_x14, .int o4_x15]) ∧ (0 ≤ w80.toInt ∧ w80.toInt ≤ 400) ∧ va_P (dC, dI) vwCl (va_pl L f82) H ∧ va_D A (va_pl L f82) ∧ va_S A s.heap H locs ∧ lv_has ls 1 [(0, .ref h0)]) ?_ _ _ _ _ ⟨f77, w9, rfl, hT, hR, hB, g79, (by omega), hP, hD, hS, lv_sub hl [0] rfl⟩
        intro n0 H locs ls hI ih83
        refine Exists.elim hI (fun f82 hE90 => Exists.elim hE90 (fun w80 hE91 => tn_10 hE91 (fun hn84 hT hR hB hk81k rw80 hP hD hS hl => ?_)))
        clear hE91 hE90 hI
        refine lv_aload_n hx hb dX2_advance_93 rfl (lv_at hl 0 rfl) ?_
        refine tpk_pos (tp_in hG ht_h0 (by decide)) hk81k (fun q85 eq85 => ?_)
        refine va_get (D := (dC, dI)) (ci := 2) (v := .int w80) (C := RX2) (T := TX2) (N := 16) hx hb hts hfX2 hown hK hP q85 eq85 rfl 5 (by decide) (hts (.fieldLink RX2 29 "ColdShips$Reader" "behind" "I") wa_795) (fun _ h9 => h9) rfl dX2_advance_94 ?_
        refine lv_aload_n hx hb dX2_advance_97 rfl (lv_at hl 0 rfl) ?_
        refine va_get (D := (dC, dI)) (ci := 2) (v := .int o4_x1) (C := RX2) (T := TX2) (N := 16) hx hb hts hfX2 hown hK hP q85 eq85 rfl 1 (by decide) (hts (.fieldLink RX2 26 "ColdShips$Reader" "size" "I") wa_765) (fun _ h9 => h9) rfl dX2_advance_98 ?_
        refine lv_icmp_ge (tgt := 240) hx hb dX2_advance_101 (by decide) (fun c86 => ?_) (fun c86 => ?_)
        · have ic86 : w80.toInt ≥ o4_x1.toInt := zi_ge rfl rfl c86
          exact W.vret hx hb hr (fun t ht hW => ⟨⟨f82, rfl, ⟨hT, hR, hB⟩, by rw [ht]; exact hP, va_K.moved hW.alike hK, hD⟩, hS.F ht⟩) hS.2.2 dX2_advance_240
        · have ic86 : w80.toInt < o4_x1.toInt := zi_gef rfl rfl c86
          refine lv_aload_n hx hb dX2_advance_104 rfl (lv_at hl 0 rfl) ?_
          refine va_get (D := (dC, dI)) (ci := 2) (v := .ref (ρ h0 0)) (C := RX2) (T := TX2) (N := 16) hx hb hts hfX2 hown hK hP q85 eq85 rfl 0 (by decide) (hts (.fieldLink RX2 11 "ColdShips$Reader" "tape" "[C") wa_119) (fun _ h9 => h9) rfl dX2_advance_105 ?_
          refine lv_aload_n hx hb dX2_advance_108 rfl (lv_at hl 0 rfl) ?_
          refine va_get (D := (dC, dI)) (ci := 2) (v := .int w80) (C := RX2) (T := TX2) (N := 16) hx hb hts hfX2 hown hK hP q85 eq85 rfl 5 (by decide) (hts (.fieldLink RX2 29 "ColdShips$Reader" "behind" "I") wa_795) (fun _ h9 => h9) rfl dX2_advance_109 ?_
          refine tpk_22 hT y1 y1n (fun g88 hf_o87 => ?_)
          refine tpk_pos (tp_in hG y1 (by decide)) hf_o87 (fun q89 eq89 => ?_)
          refine va_cald hx hb hK hP q89 2 eq89 rfl (vp_in_iff.mpr ⟨by omega, by omega⟩) dX2_advance_112 ?_
          refine lv_topi (fun z90 ez90 => ?_)
          refine pz_calli (va_runS (As := [.int z90]) (rest := []) ⟨hx, hb, hml, hown, hts⟩ (t_X2_isLetter l dC dI _ z90) (va_cwS 1 hts gX2_advance_X2_isLetter rfl rfl rfl pd_X2_isLetter ⟨Nat.le_of_ble_eq_true rfl, Nat.le_of_ble_eq_true rfl⟩) ⟨pz_blind, pz_pre pz_P0 (hK.sub (tys' := []) [] rfl) (pz_D0 (A := fun _ => True)) hN⟩ rfl rfl hl.1 rfl (lv_room (Nat.le_of_ble_eq_true rfl)) dX2_advance_113 ⟨Nat.le_of_ble_eq_true rfl, Nat.le_of_ble_eq_true rfl⟩) (fun r91 hw92 => ?_)
          obtain ⟨hw92r, hw92p⟩ := hw92
          refine lv_if_eq (tgt := 240) hx hb dX2_advance_116 (by decide) (fun c93 => ?_) (fun c93 => ?_)
          · have ic93 : r91.toInt = 0 := zi_eq rfl rfl c93
            exact W.vret hx hb hr (fun t ht hW => ⟨⟨f82, rfl, ⟨hT, hR, hB⟩, by rw [ht]; exact hP, va_K.moved hW.alike hK, hD⟩, hS.F ht⟩) hS.2.2 dX2_advance_240
          · have ic93 : r91.toInt ≠ 0 := zi_eqf rfl rfl c93
            refine lv_aload_n hx hb dX2_advance_119 rfl (lv_at hl 0 rfl) ?_
            refine lv_dup hx hb dX2_advance_120 rfl ?_
            refine va_get (D := (dC, dI)) (ci := 2) (v := .int w80) (C := RX2) (T := TX2) (N := 16) hx hb hts hfX2 hown hK hP q85 eq85 rfl 5 (by decide) (hts (.fieldLink RX2 29 "ColdShips$Reader" "behind" "I") wa_795) (fun _ h9 => h9) rfl dX2_advance_121 ?_
            refine lv_iconst (v := 1) hx hb dX2_advance_124 (by decide) ?_
            refine lv_iadd hx hb dX2_advance_125 ?_
            refine lv_topi (fun z94 ez94 => ?_)
            have iz94 : z94.toInt = w80.toInt + 1 := zi_add ez94 rfl rfl (by omega) (by omega)
            refine va_put (D := (dC, dI)) (ci := 2) (v := .int z94) (ty := .int) (C := RX2) (T := TX2) (N := 16) hx hb hts hfX2 tyX2 tyX2_ok nmX2 hown hK hP hD hS q85 eq85 rfl 5 (by decide) (hts (.fieldLink RX2 29 "ColdShips$Reader" "behind" "I") wa_795) (fun _ h9 => h9) rfl (tyX2_ok 5 (by decide)) rfl rfl (Nat.le_of_ble_eq_true rfl) dX2_advance_126 (tp_k (.inr (2, [.ref (ρ h0 0), .int o4_x1, .int o4_x2, .int w9, .int 1, .int z94, .int o4_x6, .ref (ρ h0 7), .int o4_x8, .ref (ρ h0 9), .int o4_x10, .int o4_x11, .int o4_x12, .int o4_x13, .int o4_x14, .int o4_x15])) hD (tp_in hG ht_h0 (by decide)) eq85 (fun f95 H locs hP hD hS g97 k96 => ?_))
            have hT := hT.up ht_h0 g97 k96 ⟨_, _, _, _, _, _, _, _, _, _, _, _, _, rfl, (by first | decide | omega | (have : (1 : Int32).toInt = 1 := rfl; omega)), (by first | decide | omega | (have : (1 : Int32).toInt = 1 := rfl; omega)), (by first | decide | omega | (have : (1 : Int32).toInt = 1 := rfl; omega)), (by first | decide | omega | (have : (1 : Int32).toInt = 1 := rfl; omega)), (by first | decide | omega | (have : (1 : Int32).toInt = 1 := rfl; omega)), (by first | decide | omega | (have : (1 : Int32).toInt = 1 := rfl; omega)), (by first | decide | omega | (have : (1 : Int32).toInt = 1 := rfl; omega))⟩
            have hR := hR.up ht_h0 (by decide) k96
            have hB : tp_fld (f95 h0) 12 = B0 := by rw [g97]; show (o4_x12).toInt = B0; omega
            refine lv_goto (tgt := 93) hx hb dX2_advance_129 (by decide) ?_
            exact ih83 _ _ _ _ (by rw [hn84]; omega) ⟨f95, z94, rfl, hT, hR, hB, g97, (by omega), hP, hD, hS, lv_sub hl [0] rfl⟩
    · have ic20 : w9.toInt ≥ o4_x1.toInt := zi_ltf rfl rfl c20
      refine lv_aload_n hx hb dX2_advance_65 rfl (lv_at hl 0 rfl) ?_
      refine lv_iconst (v := 0) hx hb dX2_advance_66 (by decide) ?_
      refine va_put (D := (dC, dI)) (ci := 2) (v := .int 0) (ty := .int) (C := RX2) (T := TX2) (N := 16) hx hb hts hfX2 tyX2 tyX2_ok nmX2 hown hK hP hD hS q19 eq19 rfl 4 (by decide) (hts (.fieldLink RX2 77 "ColdShips$Reader" "kind" "I") wa_811) (fun _ h9 => h9) rfl (tyX2_ok 4 (by decide)) rfl rfl (Nat.le_of_ble_eq_true rfl) dX2_advance_67 (tp_k (.inr (2, [.ref (ρ h0 0), .int o4_x1, .int o4_x2, .int w9, .int 0, .int w9, .int o4_x6, .ref (ρ h0 7), .int o4_x8, .ref (ρ h0 9), .int o4_x10, .int o4_x11, .int o4_x12, .int o4_x13, .int o4_x14, .int o4_x15])) hD (tp_in hG ht_h0 (by decide)) eq19 (fun f98 H locs hP hD hS g100 k99 => ?_))
      have hT := hT.up k99
      have hT := hT.close ht_h0 g100 ⟨_, _, _, _, _, _, _, _, _, _, _, _, _, rfl, (by first | decide | omega | (have : (0 : Int32).toInt = 0 := rfl; omega)), (by first | decide | omega | (have : (0 : Int32).toInt = 0 := rfl; omega)), (by first | decide | omega | (have : (0 : Int32).toInt = 0 := rfl; omega)), (by first | decide | omega | (have : (0 : Int32).toInt = 0 := rfl; omega)), (by first | decide | omega | (have : (0 : Int32).toInt = 0 := rfl; omega)), (by first | decide | omega | (have : (0 : Int32).toInt = 0 := rfl; omega)), (by first | decide | omega | (have : (0 : Int32).toInt = 0 := rfl; omega))⟩
      have hR := hR.up ht_h0 (by decide) k99
      have hB : tp_fld (f98 h0) 12 = B0 := by rw [g100]; show (o4_x12).toInt = B0; omega
      refine lv_goto (tgt := 240) hx hb dX2_advance_70 (by decide) ?_
      exact W.vret hx hb hr (fun t ht hW => ⟨⟨f98, rfl, ⟨hT, hR, hB⟩, by rw [ht]; exact hP, va_K.moved hW.alike hK, hD⟩, hS.F ht⟩) hS.2.2 dX2_advance_240
  · refine lv_icmp_ge (tgt := 46) hx hb dX2_advance_16 (by decide) (fun c101 => ?_) (fun c101 => ?_)
    · have ic101 : w9.toInt ≥ o4_x1.toInt := zi_ge rfl rfl c101
      exact hj15 _ _ _ _ ⟨rfl, hP, hD, hS, lv_sub hl [0] rfl⟩
    · have ic101 : w9.toInt < o4_x1.toInt := zi_gef rfl rfl c101
      refine lv_aload_n hx hb dX2_advance_19 rfl (lv_at hl 0 rfl) ?_
      refine va_get (D := (dC, dI)) (ci := 2) (v := .ref (ρ h0 0)) (C := RX2) (T := TX2) (N := 16) hx hb hts hfX2 hown hK hP q14 eq14 rfl 0 (by decide) (hts (.fieldLink RX2 11 "ColdShips$Reader" "tape" "[C") wa_119) (fun _ h9 => h9) rfl dX2_advance_20 ?_
      refine lv_aload_n hx hb dX2_advance_23 rfl (lv_at hl 0 rfl) ?_
      refine va_get (D := (dC, dI)) (ci := 2) (v := .int w9) (C := RX2) (T := TX2) (N := 16) hx hb hts hfX2 hown hK hP q14 eq14 rfl 3 (by decide) (hts (.fieldLink RX2 60 "ColdShips$Reader" "place" "I") wa_803) (fun _ h9 => h9) rfl dX2_advance_24 ?_
      obtain ⟨g103, hf_o102⟩ := tp_atO hT y1 (by decide) (tp_ne y1 ht_h0 (by decide))
      rw [y1n] at hf_o102
      refine tpk_pos (tp_in hG y1 (by decide)) hf_o102 (fun q104 eq104 => ?_)
      refine va_cald hx hb hK hP q104 2 eq104 rfl (vp_in_iff.mpr ⟨by omega, by omega⟩) dX2_advance_27 ?_
      refine lv_topi (fun z105 ez105 => ?_)
      refine lv_bipush (v := 32) hx hb dX2_advance_28 (by decide) ?_
      refine lv_icmp_ne (tgt := 46) hx hb dX2_advance_30 (by decide) (fun c106 => ?_) (fun c106 => ?_)
      · have ic106 : z105.toInt ≠ 32 := zi_ne rfl rfl c106
        exact hj15 _ _ _ _ ⟨rfl, hP, hD, hS, lv_sub hl [0] rfl⟩
      · have ic106 : z105.toInt = 32 := zi_nef rfl rfl c106
        refine lv_aload_n hx hb dX2_advance_33 rfl (lv_at hl 0 rfl) ?_
        refine lv_dup hx hb dX2_advance_34 rfl ?_
        refine va_get (D := (dC, dI)) (ci := 2) (v := .int w9) (C := RX2) (T := TX2) (N := 16) hx hb hts hfX2 hown hK hP q14 eq14 rfl 3 (by decide) (hts (.fieldLink RX2 60 "ColdShips$Reader" "place" "I") wa_803) (fun _ h9 => h9) rfl dX2_advance_35 ?_
        refine lv_iconst (v := 1) hx hb dX2_advance_38 (by decide) ?_
        refine lv_iadd hx hb dX2_advance_39 ?_
        refine lv_topi (fun z107 ez107 => ?_)
        have iz107 : z107.toInt = w9.toInt + 1 := zi_add ez107 rfl rfl (by omega) (by omega)
        refine va_put (D := (dC, dI)) (ci := 2) (v := .int z107) (ty := .int) (C := RX2) (T := TX2) (N := 16) hx hb hts hfX2 tyX2 tyX2_ok nmX2 hown hK hP hD hS q14 eq14 rfl 3 (by decide) (hts (.fieldLink RX2 60 "ColdShips$Reader" "place" "I") wa_803) (fun _ h9 => h9) rfl (tyX2_ok 3 (by decide)) rfl rfl (Nat.le_of_ble_eq_true rfl) dX2_advance_40 (tp_k (.inr (2, [.ref (ρ h0 0), .int o4_x1, .int o4_x2, .int z107, .int o4_x4, .int o4_x5, .int o4_x6, .ref (ρ h0 7), .int o4_x8, .ref (ρ h0 9), .int o4_x10, .int o4_x11, .int o4_x12, .int o4_x13, .int o4_x14, .int o4_x15])) hD (tp_in hG ht_h0 (by decide)) eq14 (fun f108 H locs hP hD hS g110 k109 => ?_))
        have hT := hT.up k109
        have hR := hR.up ht_h0 (by decide) k109
        have hB : tp_fld (f108 h0) 12 = B0 := by rw [g110]; show (o4_x12).toInt = B0; omega
        refine lv_goto (tgt := 8) hx hb dX2_advance_43 (by decide) ?_
        exact ih12 _ _ _ _ (by rw [hn13]; omega) ⟨f108, z107, rfl, hT, hR, hB, g110, (by omega), hP, hD, hS, lv_sub hl [0] rfl⟩
set_option maxHeartbeats 4000000 in
set_option maxRecDepth 100000 in
theorem t_X2_isSign (l : Launch) (dC : Nat → ClassId) (dI : Nat → Nat → Nat) (sz : Nat) (Ω : Nat → (Nat → Nat) → va_E → Prop) (κ : Nat → ClassId) (τ ν : Nat → Nat) (ρ : Nat → Nat → Nat) (L : List Nat) (f : Nat → va_E) (hG : tp_G τ ν ρ L) (hT : tp_T Ω κ τ ν ρ f) (h0 : Nat) (v : Int32) (ht_h0 : τ h0 = 3) : Met l yX2_isSign wqX2_isSign ({ frames := 2, cells := 0, slots := 0, locals := 400 }) (va_Pc [.ref h0, .int v] (pz_B dC dI (tp_K κ) (va_pl L f) sz)) (vp_Si (fun r => (0 ≤ r.toInt ∧ r.toInt ≤ 1) ∧ True)) 0 0 (fun _ => False) := by
  refine Met.ofW (cc := cX2_isSign) (maxL := 2) (ret := some .boolean) (by decide) rfl ?_
  intro p e s m args below meth c s₁ B hml hv
  obtain ⟨rfl, hsz, hP, hK, hD0, hN⟩ := hv
  have hx := B.exec
  have hb := B.bytes
  have hr := B.returns
  have hts := fun (w : Cond) (h : w ∈ WALL) => atoms_spec (ws := wqX2_isSign) B.pre w (List.mem_cons_of_mem _ h)
  have hown : s.vm.findClass RX2 = some m.cls := findClass_of_methodNamed B.named
  have hlocks := B.notSynchronized
  subst hsz
  have hD := hD0
  have hS : va_S (fun _ => True) s.heap s.heap [] := va_S.rf
  have hl := lv_entry ([.ref h0, .int v]) (n := 2) (Nat.le_of_ble_eq_true rfl)
  rw [lg_entry_eq]
  generalize (lg_sl ([.ref h0, .int v]) ++ List.replicate (2 - (lg_sl ([.ref h0, .int v])).length) Slot.unset).toArray = ls at hl ⊢
  have hl : lv_has ls 2 [(0, .ref h0), (1, .int v)] := hl
  refine lv_aload_n hx hb dX2_isSign_0 rfl (lv_at hl 0 rfl) ?_
  refine tgk_3 hG ht_h0 (fun y1 y1n y2 y2n y3 y3n => ?_)
  refine tpk_3 hT ht_h0 (fun o4_x1 o4_x2 o4_x3 o4_x4 o4_x5 o4_x6 o4_x8 o4_x10 o4_x11 o4_x12 o4_x13 o4_x14 o4_x15 hf_o4 ro4_0 ro4_1 ro4_2 ro4_3 ro4_4 ro4_5 ro4_6 => ?_)
  refine tpk_pos (tp_in hG ht_h0 (by decide)) hf_o4 (fun q5 eq5 => ?_)
  refine va_get (D := (dC, dI)) (ci := 2) (v := .int o4_x4) (C := RX2) (T := TX2) (N := 16) hx hb hts hfX2 hown hK hP q5 eq5 rfl 4 (by decide) (hts (.fieldLink RX2 77 "ColdShips$Reader" "kind" "I") wa_811) (fun _ h9 => h9) rfl dX2_isSign_1 ?_
  refine lv_iconst (v := 3) hx hb dX2_isSign_4 (by decide) ?_
  refine lv_icmp_ne (tgt := 25) hx hb dX2_isSign_5 (by decide) (fun c6 => ?_) (fun c6 => ?_)
  · have ic6 : o4_x4.toInt ≠ 3 := zi_ne rfl rfl c6
    refine lv_iconst (v := 0) hx hb dX2_isSign_25 (by decide) ?_
    exact W.zret (v := 0) hx hb hr rfl (fun t ht hW => ⟨0, rfl, ⟨(by first | decide | omega), trivial⟩, ht⟩) (fun _ h => by cases h) dX2_isSign_26
  · have ic6 : o4_x4.toInt = 3 := zi_nef rfl rfl c6
    refine lv_aload_n hx hb dX2_isSign_8 rfl (lv_at hl 0 rfl) ?_
    refine va_get (D := (dC, dI)) (ci := 2) (v := .ref (ρ h0 0)) (C := RX2) (T := TX2) (N := 16) hx hb hts hfX2 hown hK hP q5 eq5 rfl 0 (by decide) (hts (.fieldLink RX2 11 "ColdShips$Reader" "tape" "[C") wa_119) (fun _ h9 => h9) rfl dX2_isSign_9 ?_
    refine lv_aload_n hx hb dX2_isSign_12 rfl (lv_at hl 0 rfl) ?_
    refine va_get (D := (dC, dI)) (ci := 2) (v := .int o4_x3) (C := RX2) (T := TX2) (N := 16) hx hb hts hfX2 hown hK hP q5 eq5 rfl 3 (by decide) (hts (.fieldLink RX2 60 "ColdShips$Reader" "place" "I") wa_803) (fun _ h9 => h9) rfl dX2_isSign_13 ?_
    refine tpk_22 hT y1 y1n (fun g8 hf_o7 => ?_)
    refine tpk_pos (tp_in hG y1 (by decide)) hf_o7 (fun q9 eq9 => ?_)
    refine va_cald hx hb hK hP q9 2 eq9 rfl (vp_in_iff.mpr ⟨by omega, by omega⟩) dX2_isSign_16 ?_
    refine lv_topi (fun z10 ez10 => ?_)
    refine lv_iload_n hx hb dX2_isSign_17 rfl (lv_at hl 1 rfl) ?_
    refine lv_icmp_ne (tgt := 25) hx hb dX2_isSign_18 (by decide) (fun c11 => ?_) (fun c11 => ?_)
    · have ic11 : z10.toInt ≠ v.toInt := zi_ne rfl rfl c11
      refine lv_iconst (v := 0) hx hb dX2_isSign_25 (by decide) ?_
      exact W.zret (v := 0) hx hb hr rfl (fun t ht hW => ⟨0, rfl, ⟨(by first | decide | omega), trivial⟩, ht⟩) (fun _ h => by cases h) dX2_isSign_26
    · have ic11 : z10.toInt = v.toInt := zi_nef rfl rfl c11
      refine lv_iconst (v := 1) hx hb dX2_isSign_21 (by decide) ?_
      refine lv_goto (tgt := 26) hx hb dX2_isSign_22 (by decide) ?_
      exact W.zret (v := 1) hx hb hr rfl (fun t ht hW => ⟨1, rfl, ⟨(by first | decide | omega), trivial⟩, ht⟩) (fun _ h => by cases h) dX2_isSign_26
set_option maxHeartbeats 4000000 in
set_option maxRecDepth 100000 in
theorem t_X2_isWord (l : Launch) (dC : Nat → ClassId) (dI : Nat → Nat → Nat) (sz : Nat) (Ω : Nat → (Nat → Nat) → va_E → Prop) (κ : Nat → ClassId) (τ ν : Nat → Nat) (ρ : Nat → Nat → Nat) (L : List Nat) (f : Nat → va_E) (hG : tp_G τ ν ρ L) (hT : tp_T Ω κ τ ν ρ f) (adK adV : Nat → Nat) (zv : Option Nat) (h0 : Nat) (k : Nat) (ht_h0 : τ h0 = 3) (hk_k : k < 17) : Met l yX2_isWord wqX2_isWord ({ frames := 6, cells := 0, slots := 0, locals := 2000 }) (va_Pc [.ref h0, .ref (adK k)] (pw_BZ dC dI (tp_K κ) (va_pl L f) sz adK adV zv)) (vp_Si (fun r => (0 ≤ r.toInt ∧ r.toInt ≤ 1) ∧ True)) 0 0 (fun _ => False) := by
  refine Met.ofW (cc := cX2_isWord) (maxL := 3) (ret := some .boolean) (by decide) rfl ?_
  intro p e s m args below meth c s₁ B hml hv
  obtain ⟨rfl, ⟨hsz, hP, hK, hD0, hN⟩, hZ⟩ := hv
  have hx := B.exec
  have hb := B.bytes
  have hr := B.returns
  have hts := fun (w : Cond) (h : w ∈ WALL) => atoms_spec (ws := wqX2_isWord) B.pre w (List.mem_cons_of_mem _ h)
  have hown : s.vm.findClass RX2 = some m.cls := findClass_of_methodNamed B.named
  have hlocks := B.notSynchronized
  subst hsz
  have hD := hD0
  have hS : va_S (fun _ => True) s.heap s.heap [] := va_S.rf
  have hSZ : va_S (va_A (va_pl L f) s.heap.size) s.heap s.heap [] := va_S.rf
  have hl := lv_entry ([.ref h0, .ref (adK k)]) (n := 3) (Nat.le_of_ble_eq_true rfl)
  rw [lg_entry_eq]
  generalize (lg_sl ([.ref h0, .ref (adK k)]) ++ List.replicate (3 - (lg_sl ([.ref h0, .ref (adK k)])).length) Slot.unset).toArray = ls at hl ⊢
  have hl : lv_has ls 3 [(0, .ref h0), (1, .ref (adK k))] := hl
  refine lv_aload_n hx hb dX2_isWord_0 rfl (lv_at hl 0 rfl) ?_
  refine tgk_3 hG ht_h0 (fun y1 y1n y2 y2n y3 y3n => ?_)
  refine tpk_3 hT ht_h0 (fun o4_x1 o4_x2 o4_x3 o4_x4 o4_x5 o4_x6 o4_x8 o4_x10 o4_x11 o4_x12 o4_x13 o4_x14 o4_x15 hf_o4 ro4_0 ro4_1 ro4_2 ro4_3 ro4_4 ro4_5 ro4_6 => ?_)
  refine tpk_pos (tp_in hG ht_h0 (by decide)) hf_o4 (fun q5 eq5 => ?_)
  refine va_get (D := (dC, dI)) (ci := 2) (v := .int o4_x4) (C := RX2) (T := TX2) (N := 16) hx hb hts hfX2 hown hK hP q5 eq5 rfl 4 (by decide) (hts (.fieldLink RX2 77 "ColdShips$Reader" "kind" "I") wa_811) (fun _ h9 => h9) rfl dX2_isWord_1 ?_
  refine lv_iconst (v := 1) hx hb dX2_isWord_4 (by decide) ?_
  refine lv_icmp_ne (tgt := 24) hx hb dX2_isWord_5 (by decide) (fun c6 => ?_) (fun c6 => ?_)
  · have ic6 : o4_x4.toInt ≠ 1 := zi_ne rfl rfl c6
    refine lv_iconst (v := 0) hx hb dX2_isWord_24 (by decide) ?_
    exact W.zret (v := 0) hx hb hr rfl (fun t ht hW => ⟨0, rfl, ⟨(by first | decide | omega), trivial⟩, ht⟩) (fun _ h => by cases h) dX2_isWord_25
  · have ic6 : o4_x4.toInt = 1 := zi_nef rfl rfl c6
    refine lv_aload_n hx hb dX2_isWord_8 rfl (lv_at hl 0 rfl) ?_
    refine va_get (D := (dC, dI)) (ci := 2) (v := .int o4_x5) (C := RX2) (T := TX2) (N := 16) hx hb hts hfX2 hown hK hP q5 eq5 rfl 5 (by decide) (hts (.fieldLink RX2 29 "ColdShips$Reader" "behind" "I") wa_795) (fun _ h9 => h9) rfl dX2_isWord_9 ?_
    refine lv_aload_n hx hb dX2_isWord_12 rfl (lv_at hl 0 rfl) ?_
    refine va_get (D := (dC, dI)) (ci := 2) (v := .int o4_x3) (C := RX2) (T := TX2) (N := 16) hx hb hts hfX2 hown hK hP q5 eq5 rfl 3 (by decide) (hts (.fieldLink RX2 60 "ColdShips$Reader" "place" "I") wa_803) (fun _ h9 => h9) rfl dX2_isWord_13 ?_
    refine lv_isub hx hb dX2_isWord_16 ?_
    refine lv_topi (fun z7 ez7 => ?_)
    have iz7 : z7.toInt = o4_x5.toInt - o4_x3.toInt := zi_sub ez7 rfl rfl (by omega) (by omega)
    refine lv_aload_n hx hb dX2_isWord_17 rfl (lv_at hl 1 rfl) ?_
    refine pz_calli (va_runV (As := []) (rest := [.int z7]) ⟨hx, hb, hml, hown, hts⟩ (t_J0_length_8abf5 l dC dI _ adK adV zv k hk_k) (cwV 0 hts gX2_isWord_J0_length_8abf5 rfl rfl rfl ⟨rfl, pd_J0_length_8abf5⟩ ⟨Nat.le_of_ble_eq_true rfl, Nat.le_of_ble_eq_true rfl⟩) ⟨pw_blindZ, vk_recv hZ.1 hk_k hSZ, pw_preZ pz_P0 (hK.sub (tys' := []) [] rfl) (pz_D0 (A := fun _ => True)) hN hZ hSZ (fun q h9 => Or.inr (pz_A0 h9))⟩ rfl rfl hl.1 rfl (lv_room (Nat.le_of_ble_eq_true rfl)) dX2_isWord_18 ⟨Nat.le_of_ble_eq_true rfl, Nat.le_of_ble_eq_true rfl⟩) (fun r8 hw9 => ?_)
    obtain ⟨hw9r, hw9p⟩ := hw9
    refine lv_icmp_eq (tgt := 26) hx hb dX2_isWord_21 (by decide) (fun c10 => ?_) (fun c10 => ?_)
    · have ic10 : z7.toInt = r8.toInt := zi_eq rfl rfl c10
      refine lv_iconst (v := 0) hx hb dX2_isWord_26 (by decide) ?_
      refine lv_istore_n (lv' := [(2, .int 0), (0, .ref h0), (1, .ref (adK k))]) hx hb dX2_isWord_27 rfl hl (by decide) rfl (fun ls hl => ?_)
      refine pz_loop (fun n0 H locs ls => ∃ w11 : Int32, n0 = (9 - (w11.toInt)).toNat ∧ (0 ≤ w11.toInt ∧ w11.toInt ≤ 9) ∧ H = s.heap ∧ locs = [] ∧ lv_has ls 3 [(2, .int w11), (0, .ref h0), (1, .ref (adK k))]) ?_ _ _ _ _ ⟨0, rfl, (by have : (0 : Int32).toInt = 0 := rfl; omega), rfl, rfl, lv_sub hl [0, 1, 2] rfl⟩
      intro n0 H locs ls hI ih12
      refine Exists.elim hI (fun w11 hE90 => tn_5 hE90 (fun hn13 rw11 e92 e93 hl => ?_))
      clear hE90 hI; subst e92; subst e93
      refine lv_iload_n hx hb dX2_isWord_28 rfl (lv_at hl 0 rfl) ?_
      refine lv_aload_n hx hb dX2_isWord_29 rfl (lv_at hl 2 rfl) ?_
      refine pz_calli (va_runV (As := []) (rest := [.int w11]) ⟨hx, hb, hml, hown, hts⟩ (t_J0_length_8abf5 l dC dI _ adK adV zv k hk_k) (cwV 0 hts gX2_isWord_J0_length_8abf5 rfl rfl rfl ⟨rfl, pd_J0_length_8abf5⟩ ⟨Nat.le_of_ble_eq_true rfl, Nat.le_of_ble_eq_true rfl⟩) ⟨pw_blindZ, vk_recv hZ.1 hk_k hSZ, pw_preZ pz_P0 (hK.sub (tys' := []) [] rfl) (pz_D0 (A := fun _ => True)) hN hZ hSZ (fun q h9 => Or.inr (pz_A0 h9))⟩ rfl rfl hl.1 rfl (lv_room (Nat.le_of_ble_eq_true rfl)) dX2_isWord_30 ⟨Nat.le_of_ble_eq_true rfl, Nat.le_of_ble_eq_true rfl⟩) (fun r14 hw15 => ?_)
      obtain ⟨hw15r, hw15p⟩ := hw15
      refine lv_icmp_ge (tgt := 63) hx hb dX2_isWord_33 (by decide) (fun c16 => ?_) (fun c16 => ?_)
      · have ic16 : w11.toInt ≥ r14.toInt := zi_ge rfl rfl c16
        refine lv_iconst (v := 1) hx hb dX2_isWord_63 (by decide) ?_
        exact W.zret (v := 1) hx hb hr rfl (fun t ht hW => ⟨1, rfl, ⟨(by first | decide | omega), trivial⟩, ht⟩) (fun _ h => by cases h) dX2_isWord_64
      · have ic16 : w11.toInt < r14.toInt := zi_gef rfl rfl c16
        refine lv_aload_n hx hb dX2_isWord_36 rfl (lv_at hl 1 rfl) ?_
        refine va_get (D := (dC, dI)) (ci := 2) (v := .ref (ρ h0 0)) (C := RX2) (T := TX2) (N := 16) hx hb hts hfX2 hown hK hP q5 eq5 rfl 0 (by decide) (hts (.fieldLink RX2 11 "ColdShips$Reader" "tape" "[C") wa_119) (fun _ h9 => h9) rfl dX2_isWord_37 ?_
        refine lv_aload_n hx hb dX2_isWord_40 rfl (lv_at hl 1 rfl) ?_
        refine va_get (D := (dC, dI)) (ci := 2) (v := .int o4_x3) (C := RX2) (T := TX2) (N := 16) hx hb hts hfX2 hown hK hP q5 eq5 rfl 3 (by decide) (hts (.fieldLink RX2 60 "ColdShips$Reader" "place" "I") wa_803) (fun _ h9 => h9) rfl dX2_isWord_41 ?_
        refine lv_iload_n hx hb dX2_isWord_44 rfl (lv_at hl 0 rfl) ?_
        refine lv_iadd hx hb dX2_isWord_45 ?_
        refine lv_topi (fun z17 ez17 => ?_)
        have iz17 : z17.toInt = o4_x3.toInt + w11.toInt := zi_add ez17 rfl rfl (by omega) (by omega)
        refine tpk_22 hT y1 y1n (fun g19 hf_o18 => ?_)
        refine tpk_pos (tp_in hG y1 (by decide)) hf_o18 (fun q20 eq20 => ?_)
        refine va_cald hx hb hK hP q20 2 eq20 rfl (vp_in_iff.mpr ⟨by omega, by omega⟩) dX2_isWord_46 ?_
        refine lv_topi (fun z21 ez21 => ?_)
        refine lv_aload_n hx hb dX2_isWord_47 rfl (lv_at hl 2 rfl) ?_
        refine lv_iload_n hx hb dX2_isWord_48 rfl (lv_at hl 0 rfl) ?_
        refine pz_calli (va_runV (As := [.int w11]) (rest := [.int z21]) ⟨hx, hb, hml, hown, hts⟩ (t_J0_charAt_5068e l dC dI _ adK adV zv k w11 hk_k (by omega)) (cwV 1 hts gX2_isWord_J0_charAt_5068e rfl rfl rfl ⟨rfl, pd_J0_charAt_5068e⟩ ⟨Nat.le_of_ble_eq_true rfl, Nat.le_of_ble_eq_true rfl⟩) ⟨pw_blindZ, vk_recv hZ.1 hk_k hSZ, pw_preZ pz_P0 (hK.sub (tys' := []) [] rfl) (pz_D0 (A := fun _ => True)) hN hZ hSZ (fun q h9 => Or.inr (pz_A0 h9))⟩ rfl rfl hl.1 rfl (lv_room (Nat.le_of_ble_eq_true rfl)) dX2_isWord_49 ⟨Nat.le_of_ble_eq_true rfl, Nat.le_of_ble_eq_true rfl⟩) (fun r22 hw23 => ?_)
        obtain ⟨hw23r, hw23p⟩ := hw23
        refine lv_icmp_eq (tgt := 57) hx hb dX2_isWord_52 (by decide) (fun c24 => ?_) (fun c24 => ?_)
        · have ic24 : z21.toInt = r22.toInt := zi_eq rfl rfl c24
          obtain ⟨z25, ez25⟩ : ∃ y : Int32, y = w11 + 1 := ⟨_, rfl⟩
          refine lv_iinc (v := z25) (lv' := [(2, .int z25), (0, .ref h0), (1, .ref (adK k))]) hx hb dX2_isWord_57 hl (k := 0) rfl (by rw [ez25]; rfl) (by decide) rfl (fun ls hl => ?_)
          have iz25 : z25.toInt = w11.toInt + 1 := zi_add ez25 rfl rfl (by omega) (by omega)
          refine lv_goto (tgt := 28) hx hb dX2_isWord_60 (by decide) ?_
          exact ih12 _ _ _ _ (by rw [hn13]; omega) ⟨z25, rfl, (by omega), rfl, rfl, lv_sub hl [0, 1, 2] rfl⟩
        · have ic24 : z21.toInt ≠ r22.toInt := zi_eqf rfl rfl c24
          refine lv_iconst (v := 0) hx hb dX2_isWord_55 (by decide) ?_
          exact W.zret (v := 0) hx hb hr rfl (fun t ht hW => ⟨0, rfl, ⟨(by first | decide | omega), trivial⟩, ht⟩) (fun _ h => by cases h) dX2_isWord_56
    · have ic10 : z7.toInt ≠ r8.toInt := zi_eqf rfl rfl c10
      refine lv_iconst (v := 0) hx hb dX2_isWord_24 (by decide) ?_
      exact W.zret (v := 0) hx hb hr rfl (fun t ht hW => ⟨0, rfl, ⟨(by first | decide | omega), trivial⟩, ht⟩) (fun _ h => by cases h) dX2_isWord_25
set_option maxHeartbeats 4000000 in
set_option maxRecDepth 100000 in
theorem t_X2_passWord (l : Launch) (dC : Nat → ClassId) (dI : Nat → Nat → Nat) (sz : Nat) (Ω : Nat → (Nat → Nat) → va_E → Prop) (κ : Nat → ClassId) (τ ν : Nat → Nat) (ρ : Nat → Nat → Nat) (L : List Nat) (f : Nat → va_E) (hG : tp_G τ ν ρ L) (hT : tp_T Ω κ τ ν ρ f) (adK adV : Nat → Nat) (zv : Option Nat) (h0 : Nat) (k : Nat) (B0 : Int) (ht_h0 : τ h0 = 3) (hk_k : k < 17) (hB : tp_fld (f h0) 12 = B0) : Met l yX2_passWord wqX2_passWord ({ frames := 7, cells := 0, slots := 0, locals := 2400 }) (va_Pc [.ref h0, .ref (adK k)] (pw_BZ dC dI (tp_K κ) (va_pl L f) sz adK adV zv)) (va_Qi (fun (r : Int32) (f1 : Nat → va_E) => tp_T Ω κ τ ν ρ f1 ∧ tp_F τ [3] f f1 ∧ (0 ≤ r.toInt ∧ r.toInt ≤ 1) ∧ tp_fld (f1 h0) 12 = B0) (fun (f1 : Nat → va_E) (t : State) => pz_E dC dI (tp_K κ) (va_A (va_pl L f) sz) (va_pl L f1) t) (va_A (va_pl L f) sz)) 0 0 (va_A (va_pl L f) sz) := by
  refine Met.ofW (cc := cX2_passWord) (maxL := 3) (ret := some .boolean) (by decide) rfl ?_
  intro p e s m args below meth c s₁ B hml hv
  obtain ⟨rfl, ⟨hsz, hP, hK, hD0, hN⟩, hZ⟩ := hv
  have hx := B.exec
  have hb := B.bytes
  have hr := B.returns
  have hts := fun (w : Cond) (h : w ∈ WALL) => atoms_spec (ws := wqX2_passWord) B.pre w (List.mem_cons_of_mem _ h)
  have hown : s.vm.findClass RX2 = some m.cls := findClass_of_methodNamed B.named
  have hlocks := B.notSynchronized
  subst hsz
  have hD := hD0.self (sz := s.heap.size)
  generalize hAe : va_A (va_pl L f) s.heap.size = A at hD hZ ⊢
  have hA : ∀ q : Nat, s.heap.size ≤ q → A q := fun q h => by rw [← hAe]; exact Or.inr h
  have hS : va_S A s.heap s.heap [] := va_S.rf
  have hR : tp_F τ [3] f f := tp_F.rf
  have hl := lv_entry ([.ref h0, .ref (adK k)]) (n := 3) (Nat.le_of_ble_eq_true rfl)
  rw [lg_entry_eq]
  generalize (lg_sl ([.ref h0, .ref (adK k)]) ++ List.replicate (3 - (lg_sl ([.ref h0, .ref (adK k)])).length) Slot.unset).toArray = ls at hl ⊢
  have hl : lv_has ls 3 [(0, .ref h0), (1, .ref (adK k))] := hl
  refine lv_aload_n hx hb dX2_passWord_0 rfl (lv_at hl 0 rfl) ?_
  refine lv_aload_n hx hb dX2_passWord_1 rfl (lv_at hl 1 rfl) ?_
  refine tgk_3 hG ht_h0 (fun y1 y1n y2 y2n y3 y3n => ?_)
  refine tpk_3 hT ht_h0 (fun o4_x1 o4_x2 o4_x3 o4_x4 o4_x5 o4_x6 o4_x8 o4_x10 o4_x11 o4_x12 o4_x13 o4_x14 o4_x15 hf_o4 ro4_0 ro4_1 ro4_2 ro4_3 ro4_4 ro4_5 ro4_6 => ?_)
  have bo4 : o4_x12.toInt = B0 := by have q9 := hB; rw [hf_o4] at q9; exact q9
  refine tpk_pos (tp_in hG ht_h0 (by decide)) hf_o4 (fun q5 eq5 => ?_)
  refine pz_calli (va_runV (As := [.ref (adK k)]) (rest := []) ⟨hx, hb, hml, hown, hts⟩ (t_X2_isWord l dC dI _ Ω κ τ ν ρ L f hG hT adK adV zv h0 k ht_h0 hk_k) (cwV 1 hts gX2_passWord_X2_isWord rfl rfl rfl ⟨rfl, pd_X2_isWord⟩ ⟨Nat.le_of_ble_eq_true rfl, Nat.le_of_ble_eq_true rfl⟩) ⟨pw_blindZ, va_recv hK hP (ci := 2) (q0 := q5) rfl eq5, pw_preZ hP hK hD hN hZ hS (tp_fr hD hS hA)⟩ rfl rfl hl.1 rfl (lv_room (Nat.le_of_ble_eq_true rfl)) dX2_passWord_2 ⟨Nat.le_of_ble_eq_true rfl, Nat.le_of_ble_eq_true rfl⟩) (fun r6 hw7 => ?_)
  obtain ⟨hw7r, hw7p⟩ := hw7
  refine lv_istore_n (lv' := [(2, .int r6), (0, .ref h0), (1, .ref (adK k))]) hx hb dX2_passWord_5 rfl hl (by decide) rfl (fun ls hl => ?_)
  refine lv_iload_n hx hb dX2_passWord_6 rfl (lv_at hl 0 rfl) ?_
  refine lv_if_eq (tgt := 14) hx hb dX2_passWord_7 (by decide) (fun c8 => ?_) (fun c8 => ?_)
  · have ic8 : r6.toInt = 0 := zi_eq rfl rfl c8
    refine lv_iload_n hx hb dX2_passWord_14 rfl (lv_at hl 0 rfl) ?_
    exact W.zret (v := r6) hx hb hr (zi_narZ (by omega) (by omega)) (fun t ht hW => ⟨⟨r6, f, rfl, ⟨hT, hR, (by first | decide | omega), hB⟩, by rw [ht]; exact hP, va_K.moved hW.alike hK, hD⟩, hS.F ht⟩) hS.2.2 dX2_passWord_15
  · have ic8 : r6.toInt ≠ 0 := zi_eqf rfl rfl c8
    refine lv_aload_n hx hb dX2_passWord_10 rfl (lv_at hl 1 rfl) ?_
    have hFc := tp_fr hD hS hA
    refine va_callv (va_runV (As := []) (rest := []) ⟨hx, hb, hml, hown, hts⟩ (t_X2_advance l dC dI _ Ω κ τ ν ρ L f hG hT h0 B0 ht_h0 hB) (cwV 0 hts gX2_passWord_X2_advance rfl rfl rfl ⟨rfl, pd_X2_advance⟩ ⟨Nat.le_of_ble_eq_true rfl, Nat.le_of_ble_eq_true rfl⟩) ⟨pz_blind, va_recv hK hP (ci := 2) (q0 := q5) rfl eq5, pz_pre hP hK hD hN⟩ rfl rfl hl.1 rfl (lv_room (Nat.le_of_ble_eq_true rfl)) dX2_passWord_11 ⟨Nat.le_of_ble_eq_true rfl, Nat.le_of_ble_eq_true rfl⟩) hS (fun q _ h => hFc q h) hFc (fun f11 t H1 locs ht hvm hw10 hB hz1 hk1 hS => ?_)
    refine tn_3 hw10 (fun hT hF12 hw10p => ?_); clear hw10
    have hR := hR.then hF12 (by decide)
    have hP := hB.1; rw [ht] at hP; have hD := tp_ad f11 hD; clear hB hFc hz1 hk1; subst ht; generalize t.heap = H at hP hS ⊢
    have hB := hw10p
    refine lv_iload_n hx hb dX2_passWord_14 rfl (lv_at hl 0 rfl) ?_
    exact W.zret (v := r6) hx hb hr (zi_narZ (by omega) (by omega)) (fun t ht hW => ⟨⟨r6, f11, rfl, ⟨hT, hR, (by first | decide | omega), hB⟩, by rw [ht]; exact hP, va_K.moved hW.alike hK, hD⟩, hS.F ht⟩) hS.2.2 dX2_passWord_15
set_option maxHeartbeats 4000000 in
set_option maxRecDepth 100000 in
theorem t_X2_passSign (l : Launch) (dC : Nat → ClassId) (dI : Nat → Nat → Nat) (sz : Nat) (Ω : Nat → (Nat → Nat) → va_E → Prop) (κ : Nat → ClassId) (τ ν : Nat → Nat) (ρ : Nat → Nat → Nat) (L : List Nat) (f : Nat → va_E) (hG : tp_G τ ν ρ L) (hT : tp_T Ω κ τ ν ρ f) (h0 : Nat) (v : Int32) (B0 : Int) (ht_h0 : τ h0 = 3) (hB : tp_fld (f h0) 12 = B0) : Met l yX2_passSign wqX2_passSign ({ frames := 4, cells := 0, slots := 0, locals := 1200 }) (va_Pc [.ref h0, .int v] (pz_B dC dI (tp_K κ) (va_pl L f) sz)) (va_Qi (fun (r : Int32) (f1 : Nat → va_E) => tp_T Ω κ τ ν ρ f1 ∧ tp_F τ [3] f f1 ∧ (0 ≤ r.toInt ∧ r.toInt ≤ 1) ∧ tp_fld (f1 h0) 12 = B0) (fun (f1 : Nat → va_E) (t : State) => pz_E dC dI (tp_K κ) (va_A (va_pl L f) sz) (va_pl L f1) t) (va_A (va_pl L f) sz)) 0 0 (va_A (va_pl L f) sz) := by
  refine Met.ofW (cc := cX2_passSign) (maxL := 3) (ret := some .boolean) (by decide) rfl ?_
  intro p e s m args below meth c s₁ B hml hv
  obtain ⟨rfl, hsz, hP, hK, hD0, hN⟩ := hv
  have hx := B.exec
  have hb := B.bytes
  have hr := B.returns
  have hts := fun (w : Cond) (h : w ∈ WALL) => atoms_spec (ws := wqX2_passSign) B.pre w (List.mem_cons_of_mem _ h)
  have hown : s.vm.findClass RX2 = some m.cls := findClass_of_methodNamed B.named
  have hlocks := B.notSynchronized
  subst hsz
  have hD := hD0.self (sz := s.heap.size)
  generalize hAe : va_A (va_pl L f) s.heap.size = A at hD ⊢
  have hA : ∀ q : Nat, s.heap.size ≤ q → A q := fun q h => by rw [← hAe]; exact Or.inr h
  have hS : va_S A s.heap s.heap [] := va_S.rf
  have hR : tp_F τ [3] f f := tp_F.rf
  have hl := lv_entry ([.ref h0, .int v]) (n := 3) (Nat.le_of_ble_eq_true rfl)
  rw [lg_entry_eq]
  generalize (lg_sl ([.ref h0, .int v]) ++ List.replicate (3 - (lg_sl ([.ref h0, .int v])).length) Slot.unset).toArray = ls at hl ⊢
  have hl : lv_has ls 3 [(0, .ref h0), (1, .int v)] := hl
  refine lv_aload_n hx hb dX2_passSign_0 rfl (lv_at hl 0 rfl) ?_
  refine lv_iload_n hx hb dX2_passSign_1 rfl (lv_at hl 1 rfl) ?_
  refine tgk_3 hG ht_h0 (fun y1 y1n y2 y2n y3 y3n => ?_)
  refine tpk_3 hT ht_h0 (fun o4_x1 o4_x2 o4_x3 o4_x4 o4_x5 o4_x6 o4_x8 o4_x10 o4_x11 o4_x12 o4_x13 o4_x14 o4_x15 hf_o4 ro4_0 ro4_1 ro4_2 ro4_3 ro4_4 ro4_5 ro4_6 => ?_)
  have bo4 : o4_x12.toInt = B0 := by have q9 := hB; rw [hf_o4] at q9; exact q9
  refine tpk_pos (tp_in hG ht_h0 (by decide)) hf_o4 (fun q5 eq5 => ?_)
  refine pz_calli (va_runV (As := [.int v]) (rest := []) ⟨hx, hb, hml, hown, hts⟩ (t_X2_isSign l dC dI _ Ω κ τ ν ρ L f hG hT h0 v ht_h0) (cwV 1 hts gX2_passSign_X2_isSign rfl rfl rfl ⟨rfl, pd_X2_isSign⟩ ⟨Nat.le_of_ble_eq_true rfl, Nat.le_of_ble_eq_true rfl⟩) ⟨pz_blind, va_recv hK hP (ci := 2) (q0 := q5) rfl eq5, pz_pre hP hK hD hN⟩ rfl rfl hl.1 rfl (lv_room (Nat.le_of_ble_eq_true rfl)) dX2_passSign_2 ⟨Nat.le_of_ble_eq_true rfl, Nat.le_of_ble_eq_true rfl⟩) (fun r6 hw7 => ?_)
  obtain ⟨hw7r, hw7p⟩ := hw7
  refine lv_istore_n (lv' := [(2, .int r6), (0, .ref h0), (1, .int v)]) hx hb dX2_passSign_5 rfl hl (by decide) rfl (fun ls hl => ?_)
  refine lv_iload_n hx hb dX2_passSign_6 rfl (lv_at hl 0 rfl) ?_
  refine lv_if_eq (tgt := 14) hx hb dX2_passSign_7 (by decide) (fun c8 => ?_) (fun c8 => ?_)
  · have ic8 : r6.toInt = 0 := zi_eq rfl rfl c8
    refine lv_iload_n hx hb dX2_passSign_14 rfl (lv_at hl 0 rfl) ?_
    exact W.zret (v := r6) hx hb hr (zi_narZ (by omega) (by omega)) (fun t ht hW => ⟨⟨r6, f, rfl, ⟨hT, hR, (by first | decide | omega), hB⟩, by rw [ht]; exact hP, va_K.moved hW.alike hK, hD⟩, hS.F ht⟩) hS.2.2 dX2_passSign_15
  · have ic8 : r6.toInt ≠ 0 := zi_eqf rfl rfl c8
    refine lv_aload_n hx hb dX2_passSign_10 rfl (lv_at hl 1 rfl) ?_
    have hFc := tp_fr hD hS hA
    refine va_callv (va_runV (As := []) (rest := []) ⟨hx, hb, hml, hown, hts⟩ (t_X2_advance l dC dI _ Ω κ τ ν ρ L f hG hT h0 B0 ht_h0 hB) (cwV 0 hts gX2_passSign_X2_advance rfl rfl rfl ⟨rfl, pd_X2_advance⟩ ⟨Nat.le_of_ble_eq_true rfl, Nat.le_of_ble_eq_true rfl⟩) ⟨pz_blind, va_recv hK hP (ci := 2) (q0 := q5) rfl eq5, pz_pre hP hK hD hN⟩ rfl rfl hl.1 rfl (lv_room (Nat.le_of_ble_eq_true rfl)) dX2_passSign_11 ⟨Nat.le_of_ble_eq_true rfl, Nat.le_of_ble_eq_true rfl⟩) hS (fun q _ h => hFc q h) hFc (fun f11 t H1 locs ht hvm hw10 hB hz1 hk1 hS => ?_)
    refine tn_3 hw10 (fun hT hF12 hw10p => ?_); clear hw10
    have hR := hR.then hF12 (by decide)
    have hP := hB.1; rw [ht] at hP; have hD := tp_ad f11 hD; clear hB hFc hz1 hk1; subst ht; generalize t.heap = H at hP hS ⊢
    have hB := hw10p
    refine lv_iload_n hx hb dX2_passSign_14 rfl (lv_at hl 0 rfl) ?_
    exact W.zret (v := r6) hx hb hr (zi_narZ (by omega) (by omega)) (fun t ht hW => ⟨⟨r6, f11, rfl, ⟨hT, hR, (by first | decide | omega), hB⟩, by rw [ht]; exact hP, va_K.moved hW.alike hK, hD⟩, hS.F ht⟩) hS.2.2 dX2_passSign_15
set_option maxHeartbeats 4000000 in
set_option maxRecDepth 100000 in
theorem t_X2_isNumber (l : Launch) (dC : Nat → ClassId) (dI : Nat → Nat → Nat) (sz : Nat) (Ω : Nat → (Nat → Nat) → va_E → Prop) (κ : Nat → ClassId) (τ ν : Nat → Nat) (ρ : Nat → Nat → Nat) (L : List Nat) (f : Nat → va_E) (hG : tp_G τ ν ρ L) (hT : tp_T Ω κ τ ν ρ f) (h0 : Nat) (v : Int32) (u : Int32) (ht_h0 : τ h0 = 3) : Met l yX2_isNumber wqX2_isNumber ({ frames := 3, cells := 0, slots := 0, locals := 800 }) (va_Pc [.ref h0, .int v, .int u] (pz_B dC dI (tp_K κ) (va_pl L f) sz)) (vp_Si (fun r => (0 ≤ r.toInt ∧ r.toInt ≤ 1) ∧ True)) 0 0 (fun _ => False) := by
  refine Met.ofW (cc := cX2_isNumber) (maxL := 3) (ret := some .boolean) (by decide) rfl ?_
  intro p e s m args below meth c s₁ B hml hv
  obtain ⟨rfl, hsz, hP, hK, hD0, hN⟩ := hv
  have hx := B.exec
  have hb := B.bytes
  have hr := B.returns
  have hts := fun (w : Cond) (h : w ∈ WALL) => atoms_spec (ws := wqX2_isNumber) B.pre w (List.mem_cons_of_mem _ h)
  have hown : s.vm.findClass RX2 = some m.cls := findClass_of_methodNamed B.named
  have hlocks := B.notSynchronized
  subst hsz
  have hD := hD0
  have hS : va_S (fun _ => True) s.heap s.heap [] := va_S.rf
  have hl := lv_entry ([.ref h0, .int v, .int u]) (n := 3) (Nat.le_of_ble_eq_true rfl)
  rw [lg_entry_eq]
  generalize (lg_sl ([.ref h0, .int v, .int u]) ++ List.replicate (3 - (lg_sl ([.ref h0, .int v, .int u])).length) Slot.unset).toArray = ls at hl ⊢
  have hl : lv_has ls 3 [(0, .ref h0), (1, .int v), (2, .int u)] := hl
  refine lv_aload_n hx hb dX2_isNumber_0 rfl (lv_at hl 0 rfl) ?_
  refine tgk_3 hG ht_h0 (fun y1 y1n y2 y2n y3 y3n => ?_)
  refine tpk_3 hT ht_h0 (fun o4_x1 o4_x2 o4_x3 o4_x4 o4_x5 o4_x6 o4_x8 o4_x10 o4_x11 o4_x12 o4_x13 o4_x14 o4_x15 hf_o4 ro4_0 ro4_1 ro4_2 ro4_3 ro4_4 ro4_5 ro4_6 => ?_)
  refine tpk_pos (tp_in hG ht_h0 (by decide)) hf_o4 (fun q5 eq5 => ?_)
  refine va_get (D := (dC, dI)) (ci := 2) (v := .int o4_x4) (C := RX2) (T := TX2) (N := 16) hx hb hts hfX2 hown hK hP q5 eq5 rfl 4 (by decide) (hts (.fieldLink RX2 77 "ColdShips$Reader" "kind" "I") wa_811) (fun _ h9 => h9) rfl dX2_isNumber_1 ?_
  refine lv_iconst (v := 2) hx hb dX2_isNumber_4 (by decide) ?_
  refine lv_icmp_ne (tgt := 24) hx hb dX2_isNumber_5 (by decide) (fun c6 => ?_) (fun c6 => ?_)
  · have ic6 : o4_x4.toInt ≠ 2 := zi_ne rfl rfl c6
    refine lv_iconst (v := 0) hx hb dX2_isNumber_24 (by decide) ?_
    exact W.zret (v := 0) hx hb hr rfl (fun t ht hW => ⟨0, rfl, ⟨(by first | decide | omega), trivial⟩, ht⟩) (fun _ h => by cases h) dX2_isNumber_25
  · have ic6 : o4_x4.toInt = 2 := zi_nef rfl rfl c6
    refine lv_aload_n hx hb dX2_isNumber_8 rfl (lv_at hl 0 rfl) ?_
    refine va_get (D := (dC, dI)) (ci := 2) (v := .int o4_x6) (C := RX2) (T := TX2) (N := 16) hx hb hts hfX2 hown hK hP q5 eq5 rfl 6 (by decide) (hts (.fieldLink RX2 99 "ColdShips$Reader" "value" "I") wa_812) (fun _ h9 => h9) rfl dX2_isNumber_9 ?_
    refine lv_iload_n hx hb dX2_isNumber_12 rfl (lv_at hl 1 rfl) ?_
    refine lv_iload_n hx hb dX2_isNumber_13 rfl (lv_at hl 2 rfl) ?_
    refine pz_calli (va_runSN (As := [.int o4_x6, .int v, .int u]) (rest := []) ⟨hx, hb, hml, hown, hts⟩ (t_X11_within l dC dI _ o4_x6 v u (o4_x6.toInt) (v.toInt) (u.toInt) rfl rfl rfl) ⟨(va_cnB (host := "ColdShips") 3 hts ggX2_isNumber_X11_within rfl rfl rfl (hN.1 (.methodLinkNest RX2 186 yX11_within "ColdShips") nzw_111) (hts (.initialized RX11) wa_2) pd_X11_within ⟨Nat.le_of_ble_eq_true rfl, Nat.le_of_ble_eq_true rfl⟩), (hts (.static yX11_within) wa_181), trivial⟩ ⟨pz_blind, pz_pre pz_P0 (hK.sub (tys' := []) [] rfl) (pz_D0 (A := fun _ => True)) hN⟩ rfl rfl hl.1 rfl (lv_room (Nat.le_of_ble_eq_true rfl)) dX2_isNumber_14 ⟨Nat.le_of_ble_eq_true rfl, Nat.le_of_ble_eq_true rfl⟩) (fun r7 hw8 => ?_)
    obtain ⟨hw8r, hw8p⟩ := hw8
    refine lv_if_eq (tgt := 24) hx hb dX2_isNumber_17 (by decide) (fun c9 => ?_) (fun c9 => ?_)
    · have ic9 : r7.toInt = 0 := zi_eq rfl rfl c9
      refine lv_iconst (v := 0) hx hb dX2_isNumber_24 (by decide) ?_
      exact W.zret (v := 0) hx hb hr rfl (fun t ht hW => ⟨0, rfl, ⟨(by first | decide | omega), trivial⟩, ht⟩) (fun _ h => by cases h) dX2_isNumber_25
    · have ic9 : r7.toInt ≠ 0 := zi_eqf rfl rfl c9
      have p10 : (v.toInt) ≤ (o4_x6.toInt) ∧ (o4_x6.toInt) ≤ (u.toInt) := (tp_cond.yes hw8p) (by omega)
      refine lv_iconst (v := 1) hx hb dX2_isNumber_20 (by decide) ?_
      refine lv_goto (tgt := 25) hx hb dX2_isNumber_21 (by decide) ?_
      exact W.zret (v := 1) hx hb hr rfl (fun t ht hW => ⟨1, rfl, ⟨(by first | decide | omega), trivial⟩, ht⟩) (fun _ h => by cases h) dX2_isNumber_25
set_option maxHeartbeats 4000000 in
set_option maxRecDepth 100000 in
theorem t_X2_factHere (l : Launch) (dC : Nat → ClassId) (dI : Nat → Nat → Nat) (sz : Nat) (Ω : Nat → (Nat → Nat) → va_E → Prop) (κ : Nat → ClassId) (τ ν : Nat → Nat) (ρ : Nat → Nat → Nat) (L : List Nat) (f : Nat → va_E) (hG : tp_G τ ν ρ L) (hT : tp_T Ω κ τ ν ρ f) (adK adV : Nat → Nat) (zv : Option Nat) (h0 : Nat) (ht_h0 : τ h0 = 3) : Met l yX2_factHere wqX2_factHere ({ frames := 7, cells := 0, slots := 0, locals := 2400 }) (va_Pc [.ref h0] (pw_BZ dC dI (tp_K κ) (va_pl L f) sz adK adV zv)) (vp_Si (fun r => ((-1) ≤ r.toInt ∧ r.toInt ≤ 7) ∧ True)) 0 0 (fun _ => False) := by
  refine Met.ofW (cc := cX2_factHere) (maxL := 1) (ret := some .int) (by decide) rfl ?_
  intro p e s m args below meth c s₁ B hml hv
  obtain ⟨rfl, ⟨hsz, hP, hK, hD0, hN⟩, hZ⟩ := hv
  have hx := B.exec
  have hb := B.bytes
  have hr := B.returns
  have hts := fun (w : Cond) (h : w ∈ WALL) => atoms_spec (ws := wqX2_factHere) B.pre w (List.mem_cons_of_mem _ h)
  have hown : s.vm.findClass RX2 = some m.cls := findClass_of_methodNamed B.named
  have hlocks := B.notSynchronized
  subst hsz
  have hD := hD0
  have hS : va_S (fun _ => True) s.heap s.heap [] := va_S.rf
  have hSZ : va_S (va_A (va_pl L f) s.heap.size) s.heap s.heap [] := va_S.rf
  have hl := lv_entry ([.ref h0]) (n := 1) (Nat.le_of_ble_eq_true rfl)
  rw [lg_entry_eq]
  generalize (lg_sl ([.ref h0]) ++ List.replicate (1 - (lg_sl ([.ref h0])).length) Slot.unset).toArray = ls at hl ⊢
  have hl : lv_has ls 1 [(0, .ref h0)] := hl
  refine lv_aload_n hx hb dX2_factHere_0 rfl (lv_at hl 0 rfl) ?_
  refine va_ldcS hx hb hown (show vk_R RX2 167 "tons" (adK 9) s from hZ.2.2.2 9 (by decide)) dX2_factHere_1 ?_
  refine tgk_3 hG ht_h0 (fun y1 y1n y2 y2n y3 y3n => ?_)
  refine tpk_3 hT ht_h0 (fun o4_x1 o4_x2 o4_x3 o4_x4 o4_x5 o4_x6 o4_x8 o4_x10 o4_x11 o4_x12 o4_x13 o4_x14 o4_x15 hf_o4 ro4_0 ro4_1 ro4_2 ro4_3 ro4_4 ro4_5 ro4_6 => ?_)
  refine tpk_pos (tp_in hG ht_h0 (by decide)) hf_o4 (fun q5 eq5 => ?_)
  refine pz_calli (va_runV (As := [.ref (adK 9)]) (rest := []) ⟨hx, hb, hml, hown, hts⟩ (t_X2_isWord l dC dI _ Ω κ τ ν ρ L f hG hT adK adV zv h0 9 ht_h0 (by decide)) (cwV 1 hts gX2_factHere_X2_isWord rfl rfl rfl ⟨rfl, pd_X2_isWord⟩ ⟨Nat.le_of_ble_eq_true rfl, Nat.le_of_ble_eq_true rfl⟩) ⟨pw_blindZ, va_recv hK hP (ci := 2) (q0 := q5) rfl eq5, pw_preZ hP hK hD hN hZ hSZ (fun _ h9 => h9)⟩ rfl rfl hl.1 rfl (lv_room (Nat.le_of_ble_eq_true rfl)) dX2_factHere_3 ⟨Nat.le_of_ble_eq_true rfl, Nat.le_of_ble_eq_true rfl⟩) (fun r6 hw7 => ?_)
  obtain ⟨hw7r, hw7p⟩ := hw7
  refine lv_if_eq (tgt := 11) hx hb dX2_factHere_6 (by decide) (fun c8 => ?_) (fun c8 => ?_)
  · have ic8 : r6.toInt = 0 := zi_eq rfl rfl c8
    refine lv_aload_n hx hb dX2_factHere_11 rfl (lv_at hl 0 rfl) ?_
    refine va_ldcS hx hb hown (show vk_R RX2 172 "billed" (adK 10) s from hZ.2.2.2 10 (by decide)) dX2_factHere_12 ?_
    refine pz_calli (va_runV (As := [.ref (adK 10)]) (rest := []) ⟨hx, hb, hml, hown, hts⟩ (t_X2_isWord l dC dI _ Ω κ τ ν ρ L f hG hT adK adV zv h0 10 ht_h0 (by decide)) (cwV 1 hts gX2_factHere_X2_isWord rfl rfl rfl ⟨rfl, pd_X2_isWord⟩ ⟨Nat.le_of_ble_eq_true rfl, Nat.le_of_ble_eq_true rfl⟩) ⟨pw_blindZ, va_recv hK hP (ci := 2) (q0 := q5) rfl eq5, pw_preZ hP hK hD hN hZ hSZ (fun _ h9 => h9)⟩ rfl rfl hl.1 rfl (lv_room (Nat.le_of_ble_eq_true rfl)) dX2_factHere_14 ⟨Nat.le_of_ble_eq_true rfl, Nat.le_of_ble_eq_true rfl⟩) (fun r9 hw10 => ?_)
    obtain ⟨hw10r, hw10p⟩ := hw10
    refine lv_if_eq (tgt := 22) hx hb dX2_factHere_17 (by decide) (fun c11 => ?_) (fun c11 => ?_)
    · have ic11 : r9.toInt = 0 := zi_eq rfl rfl c11
      refine lv_aload_n hx hb dX2_factHere_22 rfl (lv_at hl 0 rfl) ?_
      refine va_ldcS hx hb hown (show vk_R RX2 174 "heat" (adK 11) s from hZ.2.2.2 11 (by decide)) dX2_factHere_23 ?_
      refine pz_calli (va_runV (As := [.ref (adK 11)]) (rest := []) ⟨hx, hb, hml, hown, hts⟩ (t_X2_isWord l dC dI _ Ω κ τ ν ρ L f hG hT adK adV zv h0 11 ht_h0 (by decide)) (cwV 1 hts gX2_factHere_X2_isWord rfl rfl rfl ⟨rfl, pd_X2_isWord⟩ ⟨Nat.le_of_ble_eq_true rfl, Nat.le_of_ble_eq_true rfl⟩) ⟨pw_blindZ, va_recv hK hP (ci := 2) (q0 := q5) rfl eq5, pw_preZ hP hK hD hN hZ hSZ (fun _ h9 => h9)⟩ rfl rfl hl.1 rfl (lv_room (Nat.le_of_ble_eq_true rfl)) dX2_factHere_25 ⟨Nat.le_of_ble_eq_true rfl, Nat.le_of_ble_eq_true rfl⟩) (fun r12 hw13 => ?_)
      obtain ⟨hw13r, hw13p⟩ := hw13
      refine lv_if_eq (tgt := 33) hx hb dX2_factHere_28 (by decide) (fun c14 => ?_) (fun c14 => ?_)
      · have ic14 : r12.toInt = 0 := zi_eq rfl rfl c14
        refine lv_aload_n hx hb dX2_factHere_33 rfl (lv_at hl 0 rfl) ?_
        refine va_ldcS hx hb hown (show vk_R RX2 176 "late" (adK 12) s from hZ.2.2.2 12 (by decide)) dX2_factHere_34 ?_
        refine pz_calli (va_runV (As := [.ref (adK 12)]) (rest := []) ⟨hx, hb, hml, hown, hts⟩ (t_X2_isWord l dC dI _ Ω κ τ ν ρ L f hG hT adK adV zv h0 12 ht_h0 (by decide)) (cwV 1 hts gX2_factHere_X2_isWord rfl rfl rfl ⟨rfl, pd_X2_isWord⟩ ⟨Nat.le_of_ble_eq_true rfl, Nat.le_of_ble_eq_true rfl⟩) ⟨pw_blindZ, va_recv hK hP (ci := 2) (q0 := q5) rfl eq5, pw_preZ hP hK hD hN hZ hSZ (fun _ h9 => h9)⟩ rfl rfl hl.1 rfl (lv_room (Nat.le_of_ble_eq_true rfl)) dX2_factHere_36 ⟨Nat.le_of_ble_eq_true rfl, Nat.le_of_ble_eq_true rfl⟩) (fun r15 hw16 => ?_)
        obtain ⟨hw16r, hw16p⟩ := hw16
        refine lv_if_eq (tgt := 44) hx hb dX2_factHere_39 (by decide) (fun c17 => ?_) (fun c17 => ?_)
        · have ic17 : r15.toInt = 0 := zi_eq rfl rfl c17
          refine lv_aload_n hx hb dX2_factHere_44 rfl (lv_at hl 0 rfl) ?_
          refine va_ldcS hx hb hown (show vk_R RX2 178 "early" (adK 13) s from hZ.2.2.2 13 (by decide)) dX2_factHere_45 ?_
          refine pz_calli (va_runV (As := [.ref (adK 13)]) (rest := []) ⟨hx, hb, hml, hown, hts⟩ (t_X2_isWord l dC dI _ Ω κ τ ν ρ L f hG hT adK adV zv h0 13 ht_h0 (by decide)) (cwV 1 hts gX2_factHere_X2_isWord rfl rfl rfl ⟨rfl, pd_X2_isWord⟩ ⟨Nat.le_of_ble_eq_true rfl, Nat.le_of_ble_eq_true rfl⟩) ⟨pw_blindZ, va_recv hK hP (ci := 2) (q0 := q5) rfl eq5, pw_preZ hP hK hD hN hZ hSZ (fun _ h9 => h9)⟩ rfl rfl hl.1 rfl (lv_room (Nat.le_of_ble_eq_true rfl)) dX2_factHere_47 ⟨Nat.le_of_ble_eq_true rfl, Nat.le_of_ble_eq_true rfl⟩) (fun r18 hw19 => ?_)
          obtain ⟨hw19r, hw19p⟩ := hw19
          refine lv_if_eq (tgt := 55) hx hb dX2_factHere_50 (by decide) (fun c20 => ?_) (fun c20 => ?_)
          · have ic20 : r18.toInt = 0 := zi_eq rfl rfl c20
            refine lv_aload_n hx hb dX2_factHere_55 rfl (lv_at hl 0 rfl) ?_
            refine va_ldcS hx hb hown (show vk_R RX2 180 "price" (adK 14) s from hZ.2.2.2 14 (by decide)) dX2_factHere_56 ?_
            refine pz_calli (va_runV (As := [.ref (adK 14)]) (rest := []) ⟨hx, hb, hml, hown, hts⟩ (t_X2_isWord l dC dI _ Ω κ τ ν ρ L f hG hT adK adV zv h0 14 ht_h0 (by decide)) (cwV 1 hts gX2_factHere_X2_isWord rfl rfl rfl ⟨rfl, pd_X2_isWord⟩ ⟨Nat.le_of_ble_eq_true rfl, Nat.le_of_ble_eq_true rfl⟩) ⟨pw_blindZ, va_recv hK hP (ci := 2) (q0 := q5) rfl eq5, pw_preZ hP hK hD hN hZ hSZ (fun _ h9 => h9)⟩ rfl rfl hl.1 rfl (lv_room (Nat.le_of_ble_eq_true rfl)) dX2_factHere_58 ⟨Nat.le_of_ble_eq_true rfl, Nat.le_of_ble_eq_true rfl⟩) (fun r21 hw22 => ?_)
            obtain ⟨hw22r, hw22p⟩ := hw22
            refine lv_if_eq (tgt := 66) hx hb dX2_factHere_61 (by decide) (fun c23 => ?_) (fun c23 => ?_)
            · have ic23 : r21.toInt = 0 := zi_eq rfl rfl c23
              refine lv_aload_n hx hb dX2_factHere_66 rfl (lv_at hl 0 rfl) ?_
              refine va_ldcS hx hb hown (show vk_R RX2 182 "hours" (adK 15) s from hZ.2.2.2 15 (by decide)) dX2_factHere_67 ?_
              refine pz_calli (va_runV (As := [.ref (adK 15)]) (rest := []) ⟨hx, hb, hml, hown, hts⟩ (t_X2_isWord l dC dI _ Ω κ τ ν ρ L f hG hT adK adV zv h0 15 ht_h0 (by decide)) (cwV 1 hts gX2_factHere_X2_isWord rfl rfl rfl ⟨rfl, pd_X2_isWord⟩ ⟨Nat.le_of_ble_eq_true rfl, Nat.le_of_ble_eq_true rfl⟩) ⟨pw_blindZ, va_recv hK hP (ci := 2) (q0 := q5) rfl eq5, pw_preZ hP hK hD hN hZ hSZ (fun _ h9 => h9)⟩ rfl rfl hl.1 rfl (lv_room (Nat.le_of_ble_eq_true rfl)) dX2_factHere_69 ⟨Nat.le_of_ble_eq_true rfl, Nat.le_of_ble_eq_true rfl⟩) (fun r24 hw25 => ?_)
              obtain ⟨hw25r, hw25p⟩ := hw25
              refine lv_if_eq (tgt := 78) hx hb dX2_factHere_72 (by decide) (fun c26 => ?_) (fun c26 => ?_)
              · have ic26 : r24.toInt = 0 := zi_eq rfl rfl c26
                refine lv_aload_n hx hb dX2_factHere_78 rfl (lv_at hl 0 rfl) ?_
                refine va_ldcS hx hb hown (show vk_R RX2 184 "elsewhere" (adK 16) s from hZ.2.2.2 16 (by decide)) dX2_factHere_79 ?_
                refine pz_calli (va_runV (As := [.ref (adK 16)]) (rest := []) ⟨hx, hb, hml, hown, hts⟩ (t_X2_isWord l dC dI _ Ω κ τ ν ρ L f hG hT adK adV zv h0 16 ht_h0 (by decide)) (cwV 1 hts gX2_factHere_X2_isWord rfl rfl rfl ⟨rfl, pd_X2_isWord⟩ ⟨Nat.le_of_ble_eq_true rfl, Nat.le_of_ble_eq_true rfl⟩) ⟨pw_blindZ, va_recv hK hP (ci := 2) (q0 := q5) rfl eq5, pw_preZ hP hK hD hN hZ hSZ (fun _ h9 => h9)⟩ rfl rfl hl.1 rfl (lv_room (Nat.le_of_ble_eq_true rfl)) dX2_factHere_81 ⟨Nat.le_of_ble_eq_true rfl, Nat.le_of_ble_eq_true rfl⟩) (fun r27 hw28 => ?_)
                obtain ⟨hw28r, hw28p⟩ := hw28
                refine lv_if_eq (tgt := 92) hx hb dX2_factHere_84 (by decide) (fun c29 => ?_) (fun c29 => ?_)
                · have ic29 : r27.toInt = 0 := zi_eq rfl rfl c29
                  refine lv_iconst (v := (-1)) hx hb dX2_factHere_92 (by decide) ?_
                  exact W.iret (v := (-1)) hx hb hr (fun t ht hW => ⟨(-1), rfl, ⟨(by first | decide | omega), trivial⟩, ht⟩) (fun _ h => by cases h) dX2_factHere_93
                · have ic29 : r27.toInt ≠ 0 := zi_eqf rfl rfl c29
                  refine lv_bipush (v := 7) hx hb dX2_factHere_87 (by decide) ?_
                  refine lv_goto (tgt := 93) hx hb dX2_factHere_89 (by decide) ?_
                  exact W.iret (v := 7) hx hb hr (fun t ht hW => ⟨7, rfl, ⟨(by first | decide | omega), trivial⟩, ht⟩) (fun _ h => by cases h) dX2_factHere_93
              · have ic26 : r24.toInt ≠ 0 := zi_eqf rfl rfl c26
                refine lv_bipush (v := 6) hx hb dX2_factHere_75 (by decide) ?_
                exact W.iret (v := 6) hx hb hr (fun t ht hW => ⟨6, rfl, ⟨(by first | decide | omega), trivial⟩, ht⟩) (fun _ h => by cases h) dX2_factHere_77
            · have ic23 : r21.toInt ≠ 0 := zi_eqf rfl rfl c23
              refine lv_iconst (v := 5) hx hb dX2_factHere_64 (by decide) ?_
              exact W.iret (v := 5) hx hb hr (fun t ht hW => ⟨5, rfl, ⟨(by first | decide | omega), trivial⟩, ht⟩) (fun _ h => by cases h) dX2_factHere_65
          · have ic20 : r18.toInt ≠ 0 := zi_eqf rfl rfl c20
            refine lv_iconst (v := 4) hx hb dX2_factHere_53 (by decide) ?_
            exact W.iret (v := 4) hx hb hr (fun t ht hW => ⟨4, rfl, ⟨(by first | decide | omega), trivial⟩, ht⟩) (fun _ h => by cases h) dX2_factHere_54
        · have ic17 : r15.toInt ≠ 0 := zi_eqf rfl rfl c17
          refine lv_iconst (v := 3) hx hb dX2_factHere_42 (by decide) ?_
          exact W.iret (v := 3) hx hb hr (fun t ht hW => ⟨3, rfl, ⟨(by first | decide | omega), trivial⟩, ht⟩) (fun _ h => by cases h) dX2_factHere_43
      · have ic14 : r12.toInt ≠ 0 := zi_eqf rfl rfl c14
        refine lv_iconst (v := 2) hx hb dX2_factHere_31 (by decide) ?_
        exact W.iret (v := 2) hx hb hr (fun t ht hW => ⟨2, rfl, ⟨(by first | decide | omega), trivial⟩, ht⟩) (fun _ h => by cases h) dX2_factHere_32
    · have ic11 : r9.toInt ≠ 0 := zi_eqf rfl rfl c11
      refine lv_iconst (v := 1) hx hb dX2_factHere_20 (by decide) ?_
      exact W.iret (v := 1) hx hb hr (fun t ht hW => ⟨1, rfl, ⟨(by first | decide | omega), trivial⟩, ht⟩) (fun _ h => by cases h) dX2_factHere_21
  · have ic8 : r6.toInt ≠ 0 := zi_eqf rfl rfl c8
    refine lv_iconst (v := 0) hx hb dX2_factHere_9 (by decide) ?_
    exact W.iret (v := 0) hx hb hr (fun t ht hW => ⟨0, rfl, ⟨(by first | decide | omega), trivial⟩, ht⟩) (fun _ h => by cases h) dX2_factHere_10
set_option maxHeartbeats 4000000 in
set_option maxRecDepth 100000 in
theorem t_X2_leafHere (l : Launch) (dC : Nat → ClassId) (dI : Nat → Nat → Nat) (sz : Nat) (Ω : Nat → (Nat → Nat) → va_E → Prop) (κ : Nat → ClassId) (τ ν : Nat → Nat) (ρ : Nat → Nat → Nat) (L : List Nat) (f : Nat → va_E) (hG : tp_G τ ν ρ L) (hT : tp_T Ω κ τ ν ρ f) (adK adV : Nat → Nat) (zv : Option Nat) (h0 : Nat) (ht_h0 : τ h0 = 3) : Met l yX2_leafHere wqX2_leafHere ({ frames := 8, cells := 0, slots := 0, locals := 2800 }) (va_Pc [.ref h0] (pw_BZ dC dI (tp_K κ) (va_pl L f) sz adK adV zv)) (vp_Si (fun r => ((-1000) ≤ r.toInt ∧ r.toInt ≤ 100000) ∧ True)) 0 0 (fun _ => False) := by
  refine Met.ofW (cc := cX2_leafHere) (maxL := 2) (ret := some .int) (by decide) rfl ?_
  intro p e s m args below meth c s₁ B hml hv
  obtain ⟨rfl, ⟨hsz, hP, hK, hD0, hN⟩, hZ⟩ := hv
  have hx := B.exec
  have hb := B.bytes
  have hr := B.returns
  have hts := fun (w : Cond) (h : w ∈ WALL) => atoms_spec (ws := wqX2_leafHere) B.pre w (List.mem_cons_of_mem _ h)
  have hown : s.vm.findClass RX2 = some m.cls := findClass_of_methodNamed B.named
  have hlocks := B.notSynchronized
  subst hsz
  have hD := hD0
  have hS : va_S (fun _ => True) s.heap s.heap [] := va_S.rf
  have hSZ : va_S (va_A (va_pl L f) s.heap.size) s.heap s.heap [] := va_S.rf
  have hl := lv_entry ([.ref h0]) (n := 2) (Nat.le_of_ble_eq_true rfl)
  rw [lg_entry_eq]
  generalize (lg_sl ([.ref h0]) ++ List.replicate (2 - (lg_sl ([.ref h0])).length) Slot.unset).toArray = ls at hl ⊢
  have hl : lv_has ls 2 [(0, .ref h0)] := hl
  refine lv_aload_n hx hb dX2_leafHere_0 rfl (lv_at hl 0 rfl) ?_
  refine tgk_3 hG ht_h0 (fun y1 y1n y2 y2n y3 y3n => ?_)
  refine tpk_3 hT ht_h0 (fun o4_x1 o4_x2 o4_x3 o4_x4 o4_x5 o4_x6 o4_x8 o4_x10 o4_x11 o4_x12 o4_x13 o4_x14 o4_x15 hf_o4 ro4_0 ro4_1 ro4_2 ro4_3 ro4_4 ro4_5 ro4_6 => ?_)
  refine tpk_pos (tp_in hG ht_h0 (by decide)) hf_o4 (fun q5 eq5 => ?_)
  refine va_get (D := (dC, dI)) (ci := 2) (v := .int o4_x4) (C := RX2) (T := TX2) (N := 16) hx hb hts hfX2 hown hK hP q5 eq5 rfl 4 (by decide) (hts (.fieldLink RX2 77 "ColdShips$Reader" "kind" "I") wa_811) (fun _ h9 => h9) rfl dX2_leafHere_1 ?_
  refine lv_iconst (v := 2) hx hb dX2_leafHere_4 (by decide) ?_
  refine lv_icmp_ne (tgt := 28) hx hb dX2_leafHere_5 (by decide) (fun c6 => ?_) (fun c6 => ?_)
  · have ic6 : o4_x4.toInt ≠ 2 := zi_ne rfl rfl c6
    refine lv_aload_n hx hb dX2_leafHere_28 rfl (lv_at hl 0 rfl) ?_
    refine pz_calli (va_runV (As := []) (rest := []) ⟨hx, hb, hml, hown, hts⟩ (t_X2_factHere l dC dI _ Ω κ τ ν ρ L f hG hT adK adV zv h0 ht_h0) (cwV 0 hts gX2_leafHere_X2_factHere rfl rfl rfl ⟨rfl, pd_X2_factHere⟩ ⟨Nat.le_of_ble_eq_true rfl, Nat.le_of_ble_eq_true rfl⟩) ⟨pw_blindZ, va_recv hK hP (ci := 2) (q0 := q5) rfl eq5, pw_preZ hP hK hD hN hZ hSZ (fun _ h9 => h9)⟩ rfl rfl hl.1 rfl (lv_room (Nat.le_of_ble_eq_true rfl)) dX2_leafHere_29 ⟨Nat.le_of_ble_eq_true rfl, Nat.le_of_ble_eq_true rfl⟩) (fun r7 hw8 => ?_)
    obtain ⟨hw8r, hw8p⟩ := hw8
    refine lv_istore_n (lv' := [(1, .int r7), (0, .ref h0)]) hx hb dX2_leafHere_32 rfl hl (by decide) rfl (fun ls hl => ?_)
    refine lv_iload_n hx hb dX2_leafHere_33 rfl (lv_at hl 0 rfl) ?_
    refine lv_iconst (v := (-1)) hx hb dX2_leafHere_34 (by decide) ?_
    refine lv_icmp_ne (tgt := 44) hx hb dX2_leafHere_35 (by decide) (fun c9 => ?_) (fun c9 => ?_)
    · have ic9 : r7.toInt ≠ (-1) := zi_ne rfl rfl c9
      refine lv_iconst (v := (-1)) hx hb dX2_leafHere_44 (by decide) ?_
      refine lv_iload_n hx hb dX2_leafHere_45 rfl (lv_at hl 0 rfl) ?_
      refine lv_isub hx hb dX2_leafHere_46 ?_
      refine lv_topi (fun z10 ez10 => ?_)
      have iz10 : z10.toInt = (-1) - r7.toInt := zi_sub ez10 rfl rfl (by omega) (by omega)
      exact W.iret (v := z10) hx hb hr (fun t ht hW => ⟨z10, rfl, ⟨(by first | decide | omega), trivial⟩, ht⟩) (fun _ h => by cases h) dX2_leafHere_47
    · have ic9 : r7.toInt = (-1) := zi_nef rfl rfl c9
      refine lv_sipush (v := (-1000)) hx hb dX2_leafHere_38 (by decide) ?_
      refine lv_goto (tgt := 47) hx hb dX2_leafHere_41 (by decide) ?_
      exact W.iret (v := (-1000)) hx hb hr (fun t ht hW => ⟨(-1000), rfl, ⟨(by first | decide | omega), trivial⟩, ht⟩) (fun _ h => by cases h) dX2_leafHere_47
  · have ic6 : o4_x4.toInt = 2 := zi_nef rfl rfl c6
    refine lv_aload_n hx hb dX2_leafHere_8 rfl (lv_at hl 0 rfl) ?_
    refine va_get (D := (dC, dI)) (ci := 2) (v := .int o4_x6) (C := RX2) (T := TX2) (N := 16) hx hb hts hfX2 hown hK hP q5 eq5 rfl 6 (by decide) (hts (.fieldLink RX2 99 "ColdShips$Reader" "value" "I") wa_812) (fun _ h9 => h9) rfl dX2_leafHere_9 ?_
    refine lv_ldc (own := RX2) (v := 100000) hx hb hown (hts (.constant RX2 163 (100000)) wa_942) dX2_leafHere_12 ?_
    refine lv_icmp_gt (tgt := 24) hx hb dX2_leafHere_14 (by decide) (fun c11 => ?_) (fun c11 => ?_)
    · have ic11 : o4_x6.toInt > 100000 := zi_gt rfl rfl c11
      refine lv_sipush (v := (-1000)) hx hb dX2_leafHere_24 (by decide) ?_
      exact W.iret (v := (-1000)) hx hb hr (fun t ht hW => ⟨(-1000), rfl, ⟨(by first | decide | omega), trivial⟩, ht⟩) (fun _ h => by cases h) dX2_leafHere_27
    · have ic11 : o4_x6.toInt ≤ 100000 := zi_gtf rfl rfl c11
      refine lv_aload_n hx hb dX2_leafHere_17 rfl (lv_at hl 0 rfl) ?_
      refine va_get (D := (dC, dI)) (ci := 2) (v := .int o4_x6) (C := RX2) (T := TX2) (N := 16) hx hb hts hfX2 hown hK hP q5 eq5 rfl 6 (by decide) (hts (.fieldLink RX2 99 "ColdShips$Reader" "value" "I") wa_812) (fun _ h9 => h9) rfl dX2_leafHere_18 ?_
      refine lv_goto (tgt := 27) hx hb dX2_leafHere_21 (by decide) ?_
      exact W.iret (v := o4_x6) hx hb hr (fun t ht hW => ⟨o4_x6, rfl, ⟨(by first | decide | omega), trivial⟩, ht⟩) (fun _ h => by cases h) dX2_leafHere_27
set_option maxHeartbeats 4000000 in
set_option maxRecDepth 100000 in
theorem t_X2_emit (l : Launch) (dC : Nat → ClassId) (dI : Nat → Nat → Nat) (sz : Nat) (Ω : Nat → (Nat → Nat) → va_E → Prop) (κ : Nat → ClassId) (τ ν : Nat → Nat) (ρ : Nat → Nat → Nat) (L : List Nat) (f : Nat → va_E) (hG : tp_G τ ν ρ L) (hT : tp_T Ω κ τ ν ρ f) (h0 : Nat) (v : Int32) (B0 : Int) (ht_h0 : τ h0 = 3) (hr_v : -1000 ≤ v.toInt ∧ v.toInt ≤ 100001) (hB : tp_fld (f h0) 12 = B0) : Met l yX2_emit wqX2_emit ({ frames := 2, cells := 0, slots := 0, locals := 400 }) (va_Pc [.ref h0, .int v] (pz_B dC dI (tp_K κ) (va_pl L f) sz)) (va_Qv (fun (f1 : Nat → va_E) => tp_T Ω κ τ ν ρ f1 ∧ tp_F τ [3, 28] f f1 ∧ tp_fld (f1 h0) 12 = B0) (fun (f1 : Nat → va_E) (t : State) => pz_E dC dI (tp_K κ) (va_A (va_pl L f) sz) (va_pl L f1) t) (va_A (va_pl L f) sz)) 0 0 (va_A (va_pl L f) sz) := by
  refine Met.ofW (cc := cX2_emit) (maxL := 2) (ret := none) (by decide) rfl ?_
  intro p e s m args below meth c s₁ B hml hv
  obtain ⟨rfl, hsz, hP, hK, hD0, hN⟩ := hv
  have hx := B.exec
  have hb := B.bytes
  have hr := B.returns
  have hts := fun (w : Cond) (h : w ∈ WALL) => atoms_spec (ws := wqX2_emit) B.pre w (List.mem_cons_of_mem _ h)
  have hown : s.vm.findClass RX2 = some m.cls := findClass_of_methodNamed B.named
  have hlocks := B.notSynchronized
  subst hsz
  have hD := hD0.self (sz := s.heap.size)
  generalize hAe : va_A (va_pl L f) s.heap.size = A at hD ⊢
  have hA : ∀ q : Nat, s.heap.size ≤ q → A q := fun q h => by rw [← hAe]; exact Or.inr h
  have hS : va_S A s.heap s.heap [] := va_S.rf
  have hR : tp_F τ [3, 28] f f := tp_F.rf
  have hl := lv_entry ([.ref h0, .int v]) (n := 2) (Nat.le_of_ble_eq_true rfl)
  rw [lg_entry_eq]
  generalize (lg_sl ([.ref h0, .int v]) ++ List.replicate (2 - (lg_sl ([.ref h0, .int v])).length) Slot.unset).toArray = ls at hl ⊢
  have hl : lv_has ls 2 [(0, .ref h0), (1, .int v)] := hl
  refine lv_aload_n hx hb dX2_emit_0 rfl (lv_at hl 0 rfl) ?_
  refine tgk_3 hG ht_h0 (fun y1 y1n y2 y2n y3 y3n => ?_)
  refine tpk_3 hT ht_h0 (fun o4_x1 o4_x2 o4_x3 o4_x4 o4_x5 o4_x6 o4_x8 o4_x10 o4_x11 o4_x12 o4_x13 o4_x14 o4_x15 hf_o4 ro4_0 ro4_1 ro4_2 ro4_3 ro4_4 ro4_5 ro4_6 => ?_)
  have bo4 : o4_x12.toInt = B0 := by have q9 := hB; rw [hf_o4] at q9; exact q9
  refine tpk_pos (tp_in hG ht_h0 (by decide)) hf_o4 (fun q5 eq5 => ?_)
  refine va_get (D := (dC, dI)) (ci := 2) (v := .int o4_x8) (C := RX2) (T := TX2) (N := 16) hx hb hts hfX2 hown hK hP q5 eq5 rfl 8 (by decide) (hts (.fieldLink RX2 32 "ColdShips$Reader" "cells" "I") wa_796) (fun _ h9 => h9) rfl dX2_emit_1 ?_
  refine lv_aload_n hx hb dX2_emit_4 rfl (lv_at hl 0 rfl) ?_
  refine va_get (D := (dC, dI)) (ci := 2) (v := .ref (ρ h0 7)) (C := RX2) (T := TX2) (N := 16) hx hb hts hfX2 hown hK hP q5 eq5 rfl 7 (by decide) (hts (.fieldLink RX2 19 "ColdShips$Reader" "code" "[I") wa_121) (fun _ h9 => h9) rfl dX2_emit_5 ?_
  refine tpk_28 hT y2 y2n (fun g7 hf_o6 hf_o6e => ?_)
  refine tpk_pos (tp_in hG y2 (by decide)) hf_o6 (fun q8 eq8 => ?_)
  refine va_alen hx hb hK hP q8 0 eq8 rfl (rfl : Int32.ofNat 400 = (400 : Int32)) dX2_emit_8 ?_
  refine lv_icmp_ge (tgt := 32) hx hb dX2_emit_9 (by decide) (fun c9 => ?_) (fun c9 => ?_)
  · have ic9 : o4_x8.toInt ≥ 400 := zi_ge rfl rfl c9
    exact W.vret hx hb hr (fun t ht hW => ⟨⟨f, rfl, ⟨hT, hR, hB⟩, by rw [ht]; exact hP, va_K.moved hW.alike hK, hD⟩, hS.F ht⟩) hS.2.2 dX2_emit_32
  · have ic9 : o4_x8.toInt < 400 := zi_gef rfl rfl c9
    refine lv_aload_n hx hb dX2_emit_12 rfl (lv_at hl 0 rfl) ?_
    refine va_get (D := (dC, dI)) (ci := 2) (v := .ref (ρ h0 7)) (C := RX2) (T := TX2) (N := 16) hx hb hts hfX2 hown hK hP q5 eq5 rfl 7 (by decide) (hts (.fieldLink RX2 19 "ColdShips$Reader" "code" "[I") wa_121) (fun _ h9 => h9) rfl dX2_emit_13 ?_
    refine lv_aload_n hx hb dX2_emit_16 rfl (lv_at hl 0 rfl) ?_
    refine va_get (D := (dC, dI)) (ci := 2) (v := .int o4_x8) (C := RX2) (T := TX2) (N := 16) hx hb hts hfX2 hown hK hP q5 eq5 rfl 8 (by decide) (hts (.fieldLink RX2 32 "ColdShips$Reader" "cells" "I") wa_796) (fun _ h9 => h9) rfl dX2_emit_17 ?_
    refine lv_iload_n hx hb dX2_emit_20 rfl (lv_at hl 1 rfl) ?_
    refine va_iast hx hb hK hP hD hS q8 0 eq8 rfl (vp_in_iff.mpr ⟨by omega, by omega⟩) dX2_emit_21 (tp_k (.inl (κ 0, 400, .inl (upd g7 o4_x8.toNatClampNeg v))) hD (tp_in hG y2 (by decide)) eq8 (fun f10 H locs hP hD hS g12 k11 => ?_))
    have hT := hT.up y2 g12 k11 (tp_o28 y2n (tp_up28 hf_o6e _ (by first | decide | omega)))
    have hR := hR.up y2 (by decide) k11
    have hB : tp_fld (f10 h0) 12 = B0 := by rw [k11 _ (tp_ne ht_h0 y2 (by decide))]; exact hB
    refine lv_aload_n hx hb dX2_emit_22 rfl (lv_at hl 0 rfl) ?_
    refine lv_dup hx hb dX2_emit_23 rfl ?_
    have hf_13 : f10 h0 = .inr (2, [.ref (ρ h0 0), .int o4_x1, .int o4_x2, .int o4_x3, .int o4_x4, .int o4_x5, .int o4_x6, .ref (ρ h0 7), .int o4_x8, .ref (ρ h0 9), .int o4_x10, .int o4_x11, .int o4_x12, .int o4_x13, .int o4_x14, .int o4_x15]) := (k11 _ (tp_ne ht_h0 y2 (by decide))).trans hf_o4
    refine tpk_pos (tp_in hG ht_h0 (by decide)) hf_13 (fun q14 eq14 => ?_)
    refine va_get (D := (dC, dI)) (ci := 2) (v := .int o4_x8) (C := RX2) (T := TX2) (N := 16) hx hb hts hfX2 hown hK hP q14 eq14 rfl 8 (by decide) (hts (.fieldLink RX2 32 "ColdShips$Reader" "cells" "I") wa_796) (fun _ h9 => h9) rfl dX2_emit_24 ?_
    refine lv_iconst (v := 1) hx hb dX2_emit_27 (by decide) ?_
    refine lv_iadd hx hb dX2_emit_28 ?_
    refine lv_topi (fun z15 ez15 => ?_)
    have iz15 : z15.toInt = o4_x8.toInt + 1 := zi_add ez15 rfl rfl (by omega) (by omega)
    refine va_put (D := (dC, dI)) (ci := 2) (v := .int z15) (ty := .int) (C := RX2) (T := TX2) (N := 16) hx hb hts hfX2 tyX2 tyX2_ok nmX2 hown hK hP hD hS q14 eq14 rfl 8 (by decide) (hts (.fieldLink RX2 32 "ColdShips$Reader" "cells" "I") wa_796) (fun _ h9 => h9) rfl (tyX2_ok 8 (by decide)) rfl rfl (Nat.le_of_ble_eq_true rfl) dX2_emit_29 (tp_k (.inr (2, [.ref (ρ h0 0), .int o4_x1, .int o4_x2, .int o4_x3, .int o4_x4, .int o4_x5, .int o4_x6, .ref (ρ h0 7), .int z15, .ref (ρ h0 9), .int o4_x10, .int o4_x11, .int o4_x12, .int o4_x13, .int o4_x14, .int o4_x15])) hD (tp_in hG ht_h0 (by decide)) eq14 (fun f16 H locs hP hD hS g18 k17 => ?_))
    have hT := hT.up ht_h0 g18 k17 ⟨_, _, _, _, _, _, _, _, _, _, _, _, _, rfl, (by first | decide | omega | (omega)), (by first | decide | omega | (omega)), (by first | decide | omega | (omega)), (by first | decide | omega | (omega)), (by first | decide | omega | (omega)), (by first | decide | omega | (omega)), (by first | decide | omega | (omega))⟩
    have hR := hR.up ht_h0 (by decide) k17
    have hB : tp_fld (f16 h0) 12 = B0 := by rw [g18]; show (o4_x12).toInt = B0; omega
    exact W.vret hx hb hr (fun t ht hW => ⟨⟨f16, rfl, ⟨hT, hR, hB⟩, by rw [ht]; exact hP, va_K.moved hW.alike hK, hD⟩, hS.F ht⟩) hS.2.2 dX2_emit_32
set_option maxHeartbeats 4000000 in
set_option maxRecDepth 100000 in
theorem t_X2_emitJump (l : Launch) (dC : Nat → ClassId) (dI : Nat → Nat → Nat) (sz : Nat) (Ω : Nat → (Nat → Nat) → va_E → Prop) (κ : Nat → ClassId) (τ ν : Nat → Nat) (ρ : Nat → Nat → Nat) (L : List Nat) (f : Nat → va_E) (hG : tp_G τ ν ρ L) (hT : tp_T Ω κ τ ν ρ f) (h0 : Nat) (v : Int32) (B0 : Int) (ht_h0 : τ h0 = 3) (hr_v : -1000 ≤ v.toInt ∧ v.toInt ≤ 100001) (hB : tp_fld (f h0) 12 = B0) : Met l yX2_emitJump wqX2_emitJump ({ frames := 3, cells := 0, slots := 0, locals := 800 }) (va_Pc [.ref h0, .int v] (pz_B dC dI (tp_K κ) (va_pl L f) sz)) (va_Qi (fun (r : Int32) (f1 : Nat → va_E) => tp_T Ω κ τ ν ρ f1 ∧ tp_F τ [3, 28] f f1 ∧ True ∧ tp_fld (f1 h0) 12 = B0) (fun (f1 : Nat → va_E) (t : State) => pz_E dC dI (tp_K κ) (va_A (va_pl L f) sz) (va_pl L f1) t) (va_A (va_pl L f) sz)) 0 0 (va_A (va_pl L f) sz) := by
  refine Met.ofW (cc := cX2_emitJump) (maxL := 2) (ret := some .int) (by decide) rfl ?_
  intro p e s m args below meth c s₁ B hml hv
  obtain ⟨rfl, hsz, hP, hK, hD0, hN⟩ := hv
  have hx := B.exec
  have hb := B.bytes
  have hr := B.returns
  have hts := fun (w : Cond) (h : w ∈ WALL) => atoms_spec (ws := wqX2_emitJump) B.pre w (List.mem_cons_of_mem _ h)
  have hown : s.vm.findClass RX2 = some m.cls := findClass_of_methodNamed B.named
  have hlocks := B.notSynchronized
  subst hsz
  have hD := hD0.self (sz := s.heap.size)
  generalize hAe : va_A (va_pl L f) s.heap.size = A at hD ⊢
  have hA : ∀ q : Nat, s.heap.size ≤ q → A q := fun q h => by rw [← hAe]; exact Or.inr h
  have hS : va_S A s.heap s.heap [] := va_S.rf
  have hR : tp_F τ [3, 28] f f := tp_F.rf
  have hl := lv_entry ([.ref h0, .int v]) (n := 2) (Nat.le_of_ble_eq_true rfl)
  rw [lg_entry_eq]
  generalize (lg_sl ([.ref h0, .int v]) ++ List.replicate (2 - (lg_sl ([.ref h0, .int v])).length) Slot.unset).toArray = ls at hl ⊢
  have hl : lv_has ls 2 [(0, .ref h0), (1, .int v)] := hl
  refine lv_aload_n hx hb dX2_emitJump_0 rfl (lv_at hl 0 rfl) ?_
  refine lv_iload_n hx hb dX2_emitJump_1 rfl (lv_at hl 1 rfl) ?_
  refine tgk_3 hG ht_h0 (fun y1 y1n y2 y2n y3 y3n => ?_)
  refine tpk_3 hT ht_h0 (fun o4_x1 o4_x2 o4_x3 o4_x4 o4_x5 o4_x6 o4_x8 o4_x10 o4_x11 o4_x12 o4_x13 o4_x14 o4_x15 hf_o4 ro4_0 ro4_1 ro4_2 ro4_3 ro4_4 ro4_5 ro4_6 => ?_)
  have bo4 : o4_x12.toInt = B0 := by have q9 := hB; rw [hf_o4] at q9; exact q9
  refine tpk_pos (tp_in hG ht_h0 (by decide)) hf_o4 (fun q5 eq5 => ?_)
  have hFc := tp_fr hD hS hA
  refine va_callv (va_runV (As := [.int v]) (rest := []) ⟨hx, hb, hml, hown, hts⟩ (t_X2_emit l dC dI _ Ω κ τ ν ρ L f hG hT h0 v B0 ht_h0 (by first | decide | omega) hB) (cwV 1 hts gX2_emitJump_X2_emit rfl rfl rfl ⟨rfl, pd_X2_emit⟩ ⟨Nat.le_of_ble_eq_true rfl, Nat.le_of_ble_eq_true rfl⟩) ⟨pz_blind, va_recv hK hP (ci := 2) (q0 := q5) rfl eq5, pz_pre hP hK hD hN⟩ rfl rfl hl.1 rfl (lv_room (Nat.le_of_ble_eq_true rfl)) dX2_emitJump_2 ⟨Nat.le_of_ble_eq_true rfl, Nat.le_of_ble_eq_true rfl⟩) hS (fun q _ h => hFc q h) hFc (fun f8 t H1 locs ht hvm hw7 hB hz1 hk1 hS => ?_)
  refine tn_3 hw7 (fun hT hF9 hw7p => ?_); clear hw7
  have hR := hR.then hF9 (by decide)
  have hP := hB.1; rw [ht] at hP; have hD := tp_ad f8 hD; clear hB hFc hz1 hk1; subst ht; generalize t.heap = H at hP hS ⊢
  have hB := hw7p
  refine lv_aload_n hx hb dX2_emitJump_5 rfl (lv_at hl 0 rfl) ?_
  refine lv_iconst (v := 0) hx hb dX2_emitJump_6 (by decide) ?_
  refine tpk_3 hT ht_h0 (fun o10_x1 o10_x2 o10_x3 o10_x4 o10_x5 o10_x6 o10_x8 o10_x10 o10_x11 o10_x12 o10_x13 o10_x14 o10_x15 hf_o10 ro10_0 ro10_1 ro10_2 ro10_3 ro10_4 ro10_5 ro10_6 => ?_)
  have bo10 : o10_x12.toInt = B0 := by have q9 := hB; rw [hf_o10] at q9; exact q9
  refine tpk_pos (tp_in hG ht_h0 (by decide)) hf_o10 (fun q11 eq11 => ?_)
  have hFc := tp_fr hD hS hA
  refine va_callv (va_runV (As := [.int 0]) (rest := []) ⟨hx, hb, hml, hown, hts⟩ (t_X2_emit l dC dI _ Ω κ τ ν ρ L f8 hG hT h0 (0) B0 ht_h0 (by first | decide | omega) hB) (cwV 1 hts gX2_emitJump_X2_emit rfl rfl rfl ⟨rfl, pd_X2_emit⟩ ⟨Nat.le_of_ble_eq_true rfl, Nat.le_of_ble_eq_true rfl⟩) ⟨pz_blind, va_recv hK hP (ci := 2) (q0 := q11) rfl eq11, pz_pre hP hK hD hN⟩ rfl rfl hl.1 rfl (lv_room (Nat.le_of_ble_eq_true rfl)) dX2_emitJump_7 ⟨Nat.le_of_ble_eq_true rfl, Nat.le_of_ble_eq_true rfl⟩) hS (fun q _ h => hFc q h) hFc (fun f14 t H1 locs ht hvm hw13 hB hz1 hk1 hS => ?_)
  refine tn_3 hw13 (fun hT hF15 hw13p => ?_); clear hw13
  have hR := hR.then hF15 (by decide)
  have hP := hB.1; rw [ht] at hP; have hD := tp_ad f14 hD; clear hB hFc hz1 hk1; subst ht; generalize t.heap = H at hP hS ⊢
  have hB := hw13p
  refine lv_aload_n hx hb dX2_emitJump_10 rfl (lv_at hl 0 rfl) ?_
  refine tpk_3 hT ht_h0 (fun o16_x1 o16_x2 o16_x3 o16_x4 o16_x5 o16_x6 o16_x8 o16_x10 o16_x11 o16_x12 o16_x13 o16_x14 o16_x15 hf_o16 ro16_0 ro16_1 ro16_2 ro16_3 ro16_4 ro16_5 ro16_6 => ?_)
  have bo16 : o16_x12.toInt = B0 := by have q9 := hB; rw [hf_o16] at q9; exact q9
  refine tpk_pos (tp_in hG ht_h0 (by decide)) hf_o16 (fun q17 eq17 => ?_)
  refine va_get (D := (dC, dI)) (ci := 2) (v := .int o16_x8) (C := RX2) (T := TX2) (N := 16) hx hb hts hfX2 hown hK hP q17 eq17 rfl 8 (by decide) (hts (.fieldLink RX2 32 "ColdShips$Reader" "cells" "I") wa_796) (fun _ h9 => h9) rfl dX2_emitJump_11 ?_
  refine lv_iconst (v := 1) hx hb dX2_emitJump_14 (by decide) ?_
  refine lv_isub hx hb dX2_emitJump_15 ?_
  refine lv_topi (fun z18 ez18 => ?_)
  have iz18 : z18.toInt = o16_x8.toInt - 1 := zi_sub ez18 rfl rfl (by omega) (by omega)
  exact W.iret (v := z18) hx hb hr (fun t ht hW => ⟨⟨z18, f14, rfl, ⟨hT, hR, trivial, hB⟩, by rw [ht]; exact hP, va_K.moved hW.alike hK, hD⟩, hS.F ht⟩) hS.2.2 dX2_emitJump_16
set_option maxHeartbeats 4000000 in
set_option maxRecDepth 100000 in
theorem t_X2_land (l : Launch) (dC : Nat → ClassId) (dI : Nat → Nat → Nat) (sz : Nat) (Ω : Nat → (Nat → Nat) → va_E → Prop) (κ : Nat → ClassId) (τ ν : Nat → Nat) (ρ : Nat → Nat → Nat) (L : List Nat) (f : Nat → va_E) (hG : tp_G τ ν ρ L) (hT : tp_T Ω κ τ ν ρ f) (h0 : Nat) (v : Int32) (B0 : Int) (ht_h0 : τ h0 = 3) (hB : tp_fld (f h0) 12 = B0) : Met l yX2_land wqX2_land ({ frames := 2, cells := 0, slots := 0, locals := 400 }) (va_Pc [.ref h0, .int v] (pz_B dC dI (tp_K κ) (va_pl L f) sz)) (va_Qv (fun (f1 : Nat → va_E) => tp_T Ω κ τ ν ρ f1 ∧ tp_F τ [28] f f1 ∧ tp_fld (f1 h0) 12 = B0) (fun (f1 : Nat → va_E) (t : State) => pz_E dC dI (tp_K κ) (va_A (va_pl L f) sz) (va_pl L f1) t) (va_A (va_pl L f) sz)) 0 0 (va_A (va_pl L f) sz) := by
  refine Met.ofW (cc := cX2_land) (maxL := 2) (ret := none) (by decide) rfl ?_
  intro p e s m args below meth c s₁ B hml hv
  obtain ⟨rfl, hsz, hP, hK, hD0, hN⟩ := hv
  have hx := B.exec
  have hb := B.bytes
  have hr := B.returns
  have hts := fun (w : Cond) (h : w ∈ WALL) => atoms_spec (ws := wqX2_land) B.pre w (List.mem_cons_of_mem _ h)
  have hown : s.vm.findClass RX2 = some m.cls := findClass_of_methodNamed B.named
  have hlocks := B.notSynchronized
  subst hsz
  have hD := hD0.self (sz := s.heap.size)
  generalize hAe : va_A (va_pl L f) s.heap.size = A at hD ⊢
  have hA : ∀ q : Nat, s.heap.size ≤ q → A q := fun q h => by rw [← hAe]; exact Or.inr h
  have hS : va_S A s.heap s.heap [] := va_S.rf
  have hR : tp_F τ [28] f f := tp_F.rf
  have hl := lv_entry ([.ref h0, .int v]) (n := 2) (Nat.le_of_ble_eq_true rfl)
  rw [lg_entry_eq]
  generalize (lg_sl ([.ref h0, .int v]) ++ List.replicate (2 - (lg_sl ([.ref h0, .int v])).length) Slot.unset).toArray = ls at hl ⊢
  have hl : lv_has ls 2 [(0, .ref h0), (1, .int v)] := hl
  refine lv_iload_n hx hb dX2_land_0 rfl (lv_at hl 1 rfl) ?_
  refine lv_if_lt (tgt := 23) hx hb dX2_land_1 (by decide) (fun c1 => ?_) (fun c1 => ?_)
  · have ic1 : v.toInt < 0 := zi_lt rfl rfl c1
    exact W.vret hx hb hr (fun t ht hW => ⟨⟨f, rfl, ⟨hT, hR, hB⟩, by rw [ht]; exact hP, va_K.moved hW.alike hK, hD⟩, hS.F ht⟩) hS.2.2 dX2_land_23
  · have ic1 : v.toInt ≥ 0 := zi_ltf rfl rfl c1
    refine lv_iload_n hx hb dX2_land_4 rfl (lv_at hl 1 rfl) ?_
    refine lv_aload_n hx hb dX2_land_5 rfl (lv_at hl 0 rfl) ?_
    refine tgk_3 hG ht_h0 (fun y2 y2n y3 y3n y4 y4n => ?_)
    refine tpk_3 hT ht_h0 (fun o5_x1 o5_x2 o5_x3 o5_x4 o5_x5 o5_x6 o5_x8 o5_x10 o5_x11 o5_x12 o5_x13 o5_x14 o5_x15 hf_o5 ro5_0 ro5_1 ro5_2 ro5_3 ro5_4 ro5_5 ro5_6 => ?_)
    have bo5 : o5_x12.toInt = B0 := by have q9 := hB; rw [hf_o5] at q9; exact q9
    refine tpk_pos (tp_in hG ht_h0 (by decide)) hf_o5 (fun q6 eq6 => ?_)
    refine va_get (D := (dC, dI)) (ci := 2) (v := .ref (ρ h0 7)) (C := RX2) (T := TX2) (N := 16) hx hb hts hfX2 hown hK hP q6 eq6 rfl 7 (by decide) (hts (.fieldLink RX2 19 "ColdShips$Reader" "code" "[I") wa_121) (fun _ h9 => h9) rfl dX2_land_6 ?_
    refine tpk_28 hT y3 y3n (fun g8 hf_o7 hf_o7e => ?_)
    refine tpk_pos (tp_in hG y3 (by decide)) hf_o7 (fun q9 eq9 => ?_)
    refine va_alen hx hb hK hP q9 0 eq9 rfl (rfl : Int32.ofNat 400 = (400 : Int32)) dX2_land_9 ?_
    refine lv_icmp_ge (tgt := 23) hx hb dX2_land_10 (by decide) (fun c10 => ?_) (fun c10 => ?_)
    · have ic10 : v.toInt ≥ 400 := zi_ge rfl rfl c10
      exact W.vret hx hb hr (fun t ht hW => ⟨⟨f, rfl, ⟨hT, hR, hB⟩, by rw [ht]; exact hP, va_K.moved hW.alike hK, hD⟩, hS.F ht⟩) hS.2.2 dX2_land_23
    · have ic10 : v.toInt < 400 := zi_gef rfl rfl c10
      refine lv_aload_n hx hb dX2_land_13 rfl (lv_at hl 0 rfl) ?_
      refine va_get (D := (dC, dI)) (ci := 2) (v := .ref (ρ h0 7)) (C := RX2) (T := TX2) (N := 16) hx hb hts hfX2 hown hK hP q6 eq6 rfl 7 (by decide) (hts (.fieldLink RX2 19 "ColdShips$Reader" "code" "[I") wa_121) (fun _ h9 => h9) rfl dX2_land_14 ?_
      refine lv_iload_n hx hb dX2_land_17 rfl (lv_at hl 1 rfl) ?_
      refine lv_aload_n hx hb dX2_land_18 rfl (lv_at hl 0 rfl) ?_
      refine va_get (D := (dC, dI)) (ci := 2) (v := .int o5_x8) (C := RX2) (T := TX2) (N := 16) hx hb hts hfX2 hown hK hP q6 eq6 rfl 8 (by decide) (hts (.fieldLink RX2 32 "ColdShips$Reader" "cells" "I") wa_796) (fun _ h9 => h9) rfl dX2_land_19 ?_
      refine va_iast hx hb hK hP hD hS q9 0 eq9 rfl (vp_in_iff.mpr ⟨by omega, by omega⟩) dX2_land_22 (tp_k (.inl (κ 0, 400, .inl (upd g8 v.toNatClampNeg o5_x8))) hD (tp_in hG y3 (by decide)) eq9 (fun f11 H locs hP hD hS g13 k12 => ?_))
      have hT := hT.up y3 g13 k12 (tp_o28 y3n (tp_up28 hf_o7e _ (by first | decide | omega)))
      have hR := hR.up y3 (by decide) k12
      have hB : tp_fld (f11 h0) 12 = B0 := by rw [k12 _ (tp_ne ht_h0 y3 (by decide))]; exact hB
      exact W.vret hx hb hr (fun t ht hW => ⟨⟨f11, rfl, ⟨hT, hR, hB⟩, by rw [ht]; exact hP, va_K.moved hW.alike hK, hD⟩, hS.F ht⟩) hS.2.2 dX2_land_23
