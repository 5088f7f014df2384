section
set_option maxHeartbeats 4000000 in
set_option maxRecDepth 100000 in
theorem t_X3_push (l : Launch) (dC : Nat → ClassId) (dI : Nat → Nat → Nat) (sz : Nat) (Ω : Nat → Nat → (Nat → Nat) → va_E → Prop) (κ : Nat → ClassId) (τ ν : Nat → Nat) (ρ : Nat → Nat → Nat) (L : List Nat) (f : Nat → va_E) (hG : tp_G τ ν ρ L) (hT : tp_T Ω κ τ ν ρ f) (h0 : Nat) (v : Int64) (ht_h0 : τ h0 = 4) : Met l yX3_push wqX3_push ({ frames := 2, cells := 0, slots := 0, locals := 400 }) (va_Pc [.ref h0, .long v] (pz_B dC dI (tp_K κ) (va_pl L f) sz)) (va_Qv (fun (f1 : Nat → va_E) => tp_T Ω κ τ ν ρ f1 ∧ tp_F τ [4, 21] f f1 ∧ True) (fun (f1 : Nat → va_E) (t : State) => pz_E dC dI (tp_K κ) (va_A (va_pl L f) sz) (va_pl L f1) t) (va_A (va_pl L f) sz)) 0 0 (va_A (va_pl L f) sz) := by
  refine Met.ofW (cc := cX3_push) (maxL := 3) (ret := none) (by decide) rfl ?_
  intro p e s m args below meth c s₁ B hml hv
  obtain ⟨rfl, hsz, hP, hK, hD0, hN⟩ := hv
  have hx := B.exec
  have hb := B.bytes
  have hr := B.returns
  have hts := fun (w : Cond) (h : w ∈ WALL) => atoms_spec (ws := wqX3_push) B.pre w (List.mem_cons_of_mem _ h)
  have hown : s.vm.findClass RX3 = some m.cls := findClass_of_methodNamed B.named
  have hlocks := B.notSynchronized
  subst hsz
  have hD := hD0.self (sz := s.heap.size)
  generalize hAe : va_A (va_pl L f) s.heap.size = A at hD ⊢
  have hA : ∀ q : Nat, s.heap.size ≤ q → A q := fun q h => by rw [← hAe]; exact Or.inr h
  have hS : va_S A s.heap s.heap [] := va_S.rf
  have hR : tp_F τ [4, 21] f f := tp_F.rf
  have hl := lv_entry ([.ref h0, .long v]) (n := 3) (Nat.le_of_ble_eq_true rfl)
  rw [lg_entry_eq]
  generalize (lg_sl ([.ref h0, .long v]) ++ List.replicate (3 - (lg_sl ([.ref h0, .long v])).length) Slot.unset).toArray = ls at hl ⊢
  have hl : lv_has ls 3 [(0, .ref h0), (1, .long v)] := hl
  refine lv_aload_n hx hb dX3_push_0 rfl (lv_at hl 0 rfl) ?_
  refine tgk_4 hG ht_h0 (fun y1 y1l y2 y2n y3 y3n => ?_)
  refine tpk_4 hT ht_h0 (fun o4_x3 o4_x4 o4_x5 hf_o4 ro4_0 => ?_)
  refine tpk_pos (tp_in hG ht_h0 (by decide)) hf_o4 (fun q5 eq5 => ?_)
  have ro4_0 := tp_hu ro4_0
  refine va_get (D := (dC, dI)) (ci := 3) (v := .int o4_x3) (C := RX3) (T := TX3) (N := 6) hx hb hts hfX3 hown hK hP q5 eq5 rfl 3 (by decide) (hts (.fieldLink RX3 97 "ColdShips$Reckoner" "depth" "I") wa_1162) (fun _ h9 => h9) rfl dX3_push_1 ?_
  refine lv_aload_n hx hb dX3_push_4 rfl (lv_at hl 0 rfl) ?_
  refine va_get (D := (dC, dI)) (ci := 3) (v := .ref (ρ h0 2)) (C := RX3) (T := TX3) (N := 6) hx hb hts hfX3 hown hK hP q5 eq5 rfl 2 (by decide) (hts (.fieldLink RX3 15 "ColdShips$Reckoner" "stack" "[J") wa_128) (fun _ h9 => h9) rfl dX3_push_5 ?_
  refine tpk_21 hT y3 y3n (fun g7 hf_o6 => ?_)
  refine tpk_pos (tp_in hG y3 (by decide)) hf_o6 (fun q8 eq8 => ?_)
  refine va_alen hx hb hK hP q8 1 eq8 rfl (rfl : Int32.ofNat 64 = (64 : Int32)) dX3_push_8 ?_
  refine lv_icmp_ge (tgt := 32) hx hb dX3_push_9 (by decide) (fun c9 => ?_) (fun c9 => ?_)
  · have ic9 : o4_x3.toInt ≥ 64 := zi_ge rfl rfl c9
    exact W.vret hx hb hr (fun t ht hW => ⟨⟨f, rfl, ⟨hT, hR, trivial⟩, by rw [ht]; exact hP, va_K.moved hW.alike hK, hD⟩, hS.F ht⟩) hS.2.2 dX3_push_32
  · have ic9 : o4_x3.toInt < 64 := zi_gef rfl rfl c9
    refine lv_aload_n hx hb dX3_push_12 rfl (lv_at hl 0 rfl) ?_
    refine va_get (D := (dC, dI)) (ci := 3) (v := .ref (ρ h0 2)) (C := RX3) (T := TX3) (N := 6) hx hb hts hfX3 hown hK hP q5 eq5 rfl 2 (by decide) (hts (.fieldLink RX3 15 "ColdShips$Reckoner" "stack" "[J") wa_128) (fun _ h9 => h9) rfl dX3_push_13 ?_
    refine lv_aload_n hx hb dX3_push_16 rfl (lv_at hl 0 rfl) ?_
    refine va_get (D := (dC, dI)) (ci := 3) (v := .int o4_x3) (C := RX3) (T := TX3) (N := 6) hx hb hts hfX3 hown hK hP q5 eq5 rfl 3 (by decide) (hts (.fieldLink RX3 97 "ColdShips$Reckoner" "depth" "I") wa_1162) (fun _ h9 => h9) rfl dX3_push_17 ?_
    refine lv_lload_n hx hb dX3_push_20 rfl (lv_at hl 1 rfl) ?_
    refine va_last hx hb hK hP hD hS q8 1 eq8 rfl (vp_in_iff.mpr ⟨by omega, by omega⟩) dX3_push_21 (tp_k (.inl (κ 1, 64, .inr (.inl (vp_updL g7 o4_x3.toNatClampNeg v)))) hD (tp_in hG y3 (by decide)) eq8 (fun f10 H locs hP hD hS g12 k11 => ?_))
    have hT := hT.up y3 g12 k11 (tp_o21 y3n)
    have hR := hR.up y3 (by decide) k11
    generalize (vp_updL g7 o4_x3.toNatClampNeg v) = g13 at g12
    refine lv_aload_n hx hb dX3_push_22 rfl (lv_at hl 0 rfl) ?_
    refine lv_dup hx hb dX3_push_23 rfl ?_
    have hf_14 : f10 h0 = .inr (3, [.ref (ρ h0 0), .ref (ρ h0 1), .ref (ρ h0 2), .int o4_x3, .long o4_x4, .long o4_x5]) := (k11 _ (tp_ne ht_h0 y3 (by decide))).trans hf_o4
    refine tpk_pos (tp_in hG ht_h0 (by decide)) hf_14 (fun q15 eq15 => ?_)
    refine va_get (D := (dC, dI)) (ci := 3) (v := .int o4_x3) (C := RX3) (T := TX3) (N := 6) hx hb hts hfX3 hown hK hP q15 eq15 rfl 3 (by decide) (hts (.fieldLink RX3 97 "ColdShips$Reckoner" "depth" "I") wa_1162) (fun _ h9 => h9) rfl dX3_push_24 ?_
    refine lv_iconst (v := 1) hx hb dX3_push_27 (by decide) ?_
    refine lv_iadd hx hb dX3_push_28 ?_
    refine lv_topi (fun z16 ez16 => ?_)
    have iz16 : z16.toInt = o4_x3.toInt + 1 := zi_add ez16 rfl rfl (by omega) (by omega)
    refine va_put (D := (dC, dI)) (ci := 3) (v := .int z16) (ty := .int) (C := RX3) (T := TX3) (N := 6) hx hb hts hfX3 tyX3 tyX3_ok nmX3 hown hK hP hD hS q15 eq15 rfl 3 (by decide) (hts (.fieldLink RX3 97 "ColdShips$Reckoner" "depth" "I") wa_1162) (fun _ h9 => h9) rfl (tyX3_ok 3 (by decide)) rfl rfl (Nat.le_of_ble_eq_true rfl) dX3_push_29 (tp_k (.inr (3, [.ref (ρ h0 0), .ref (ρ h0 1), .ref (ρ h0 2), .int z16, .long o4_x4, .long o4_x5])) hD (tp_in hG ht_h0 (by decide)) eq15 (fun f17 H locs hP hD hS g19 k18 => ?_))
    have hT := hT.up ht_h0 g19 k18 ⟨_, _, _, rfl, (by first | decide | omega | (omega))⟩
    have hR := hR.up ht_h0 (by decide) k18
    exact W.vret hx hb hr (fun t ht hW => ⟨⟨f17, rfl, ⟨hT, hR, trivial⟩, by rw [ht]; exact hP, va_K.moved hW.alike hK, hD⟩, hS.F ht⟩) hS.2.2 dX3_push_32
set_option maxHeartbeats 4000000 in
set_option maxRecDepth 100000 in
theorem t_X3_pop (l : Launch) (dC : Nat → ClassId) (dI : Nat → Nat → Nat) (sz : Nat) (Ω : Nat → Nat → (Nat → Nat) → va_E → Prop) (κ : Nat → ClassId) (τ ν : Nat → Nat) (ρ : Nat → Nat → Nat) (L : List Nat) (f : Nat → va_E) (hG : tp_G τ ν ρ L) (hT : tp_T Ω κ τ ν ρ f) (h0 : Nat) (ht_h0 : τ h0 = 4) : Met l yX3_pop wqX3_pop ({ frames := 2, cells := 0, slots := 0, locals := 400 }) (va_Pc [.ref h0] (pz_B dC dI (tp_K κ) (va_pl L f) sz)) (va_Ql (fun (r : Int64) (f1 : Nat → va_E) => tp_T Ω κ τ ν ρ f1 ∧ tp_F τ [4] f f1 ∧ True ∧ True) (fun (f1 : Nat → va_E) (t : State) => pz_E dC dI (tp_K κ) (va_A (va_pl L f) sz) (va_pl L f1) t) (va_A (va_pl L f) sz)) 0 0 (va_A (va_pl L f) sz) := by
  refine Met.ofW (cc := cX3_pop) (maxL := 1) (ret := some .long) (by decide) rfl ?_
  intro p e s m args below meth c s₁ B hml hv
  obtain ⟨rfl, hsz, hP, hK, hD0, hN⟩ := hv
  have hx := B.exec
  have hb := B.bytes
  have hr := B.returns
  have hts := fun (w : Cond) (h : w ∈ WALL) => atoms_spec (ws := wqX3_pop) B.pre w (List.mem_cons_of_mem _ h)
  have hown : s.vm.findClass RX3 = some m.cls := findClass_of_methodNamed B.named
  have hlocks := B.notSynchronized
  subst hsz
  have hD := hD0.self (sz := s.heap.size)
  generalize hAe : va_A (va_pl L f) s.heap.size = A at hD ⊢
  have hA : ∀ q : Nat, s.heap.size ≤ q → A q := fun q h => by rw [← hAe]; exact Or.inr h
  have hS : va_S A s.heap s.heap [] := va_S.rf
  have hR : tp_F τ [4] f f := tp_F.rf
  have hl := lv_entry ([.ref h0]) (n := 1) (Nat.le_of_ble_eq_true rfl)
  rw [lg_entry_eq]
  generalize (lg_sl ([.ref h0]) ++ List.replicate (1 - (lg_sl ([.ref h0])).length) Slot.unset).toArray = ls at hl ⊢
  have hl : lv_has ls 1 [(0, .ref h0)] := hl
  refine lv_aload_n hx hb dX3_pop_0 rfl (lv_at hl 0 rfl) ?_
  refine tgk_4 hG ht_h0 (fun y1 y1l y2 y2n y3 y3n => ?_)
  refine tpk_4 hT ht_h0 (fun o4_x3 o4_x4 o4_x5 hf_o4 ro4_0 => ?_)
  refine tpk_pos (tp_in hG ht_h0 (by decide)) hf_o4 (fun q5 eq5 => ?_)
  have ro4_0 := tp_hu ro4_0
  refine va_get (D := (dC, dI)) (ci := 3) (v := .int o4_x3) (C := RX3) (T := TX3) (N := 6) hx hb hts hfX3 hown hK hP q5 eq5 rfl 3 (by decide) (hts (.fieldLink RX3 97 "ColdShips$Reckoner" "depth" "I") wa_1162) (fun _ h9 => h9) rfl dX3_pop_1 ?_
  refine lv_if_ne (tgt := 9) hx hb dX3_pop_4 (by decide) (fun c6 => ?_) (fun c6 => ?_)
  · have ic6 : o4_x3.toInt ≠ 0 := zi_ne rfl rfl c6
    refine lv_aload_n hx hb dX3_pop_9 rfl (lv_at hl 0 rfl) ?_
    refine lv_dup hx hb dX3_pop_10 rfl ?_
    refine va_get (D := (dC, dI)) (ci := 3) (v := .int o4_x3) (C := RX3) (T := TX3) (N := 6) hx hb hts hfX3 hown hK hP q5 eq5 rfl 3 (by decide) (hts (.fieldLink RX3 97 "ColdShips$Reckoner" "depth" "I") wa_1162) (fun _ h9 => h9) rfl dX3_pop_11 ?_
    refine lv_iconst (v := 1) hx hb dX3_pop_14 (by decide) ?_
    refine lv_isub hx hb dX3_pop_15 ?_
    refine lv_topi (fun z7 ez7 => ?_)
    have iz7 : z7.toInt = o4_x3.toInt - 1 := zi_sub ez7 rfl rfl (by omega) (by omega)
    refine va_put (D := (dC, dI)) (ci := 3) (v := .int z7) (ty := .int) (C := RX3) (T := TX3) (N := 6) hx hb hts hfX3 tyX3 tyX3_ok nmX3 hown hK hP hD hS q5 eq5 rfl 3 (by decide) (hts (.fieldLink RX3 97 "ColdShips$Reckoner" "depth" "I") wa_1162) (fun _ h9 => h9) rfl (tyX3_ok 3 (by decide)) rfl rfl (Nat.le_of_ble_eq_true rfl) dX3_pop_16 (tp_k (.inr (3, [.ref (ρ h0 0), .ref (ρ h0 1), .ref (ρ h0 2), .int z7, .long o4_x4, .long o4_x5])) hD (tp_in hG ht_h0 (by decide)) eq5 (fun f8 H locs hP hD hS g10 k9 => ?_))
    have hT := hT.up ht_h0 g10 k9 ⟨_, _, _, rfl, (by first | decide | omega | (omega))⟩
    have hR := hR.up ht_h0 (by decide) k9
    refine lv_aload_n hx hb dX3_pop_19 rfl (lv_at hl 0 rfl) ?_
    refine tpk_pos (tp_in hG ht_h0 (by decide)) g10 (fun q11 eq11 => ?_)
    refine va_get (D := (dC, dI)) (ci := 3) (v := .ref (ρ h0 2)) (C := RX3) (T := TX3) (N := 6) hx hb hts hfX3 hown hK hP q11 eq11 rfl 2 (by decide) (hts (.fieldLink RX3 15 "ColdShips$Reckoner" "stack" "[J") wa_128) (fun _ h9 => h9) rfl dX3_pop_20 ?_
    refine lv_aload_n hx hb dX3_pop_23 rfl (lv_at hl 0 rfl) ?_
    refine va_get (D := (dC, dI)) (ci := 3) (v := .int z7) (C := RX3) (T := TX3) (N := 6) hx hb hts hfX3 hown hK hP q11 eq11 rfl 3 (by decide) (hts (.fieldLink RX3 97 "ColdShips$Reckoner" "depth" "I") wa_1162) (fun _ h9 => h9) rfl dX3_pop_24 ?_
    refine tpk_21 hT y3 y3n (fun g13 hf_o12 => ?_)
    refine tpk_pos (tp_in hG y3 (by decide)) hf_o12 (fun q14 eq14 => ?_)
    refine va_lald hx hb hK hP q14 1 eq14 rfl (vp_in_iff.mpr ⟨by omega, by omega⟩) dX3_pop_27 ?_
    refine lv_topl (fun z15 ez15 => ?_)
    exact W.lret (v := z15) hx hb hr (fun t ht hW => ⟨⟨z15, f8, rfl, ⟨hT, hR, trivial, trivial⟩, by rw [ht]; exact hP, va_K.moved hW.alike hK, hD⟩, hS.F ht⟩) hS.2.2 dX3_pop_28
  · have ic6 : o4_x3.toInt = 0 := zi_nef rfl rfl c6
    refine lv_lconst (v := 0) hx hb dX3_pop_7 (by decide) ?_
    exact W.lret (v := 0) hx hb hr (fun t ht hW => ⟨⟨0, f, rfl, ⟨hT, hR, trivial, trivial⟩, by rw [ht]; exact hP, va_K.moved hW.alike hK, hD⟩, hS.F ht⟩) hS.2.2 dX3_pop_8
set_option maxHeartbeats 4000000 in
set_option maxRecDepth 100000 in
theorem t_X3_pushSum (l : Launch) (dC : Nat → ClassId) (dI : Nat → Nat → Nat) (sz : Nat) (Ω : Nat → Nat → (Nat → Nat) → va_E → Prop) (κ : Nat → ClassId) (τ ν : Nat → Nat) (ρ : Nat → Nat → Nat) (L : List Nat) (f : Nat → va_E) (hG : tp_G τ ν ρ L) (hT : tp_T Ω κ τ ν ρ f) (h0 : Nat) (v : Int64) (ht_h0 : τ h0 = 4) : Met l yX3_pushSum wqX3_pushSum ({ frames := 3, cells := 0, slots := 0, locals := 800 }) (va_Pc [.ref h0, .long v] (pz_B dC dI (tp_K κ) (va_pl L f) sz)) (va_Qi (fun (r : Int32) (f1 : Nat → va_E) => tp_T Ω κ τ ν ρ f1 ∧ tp_F τ [4, 21] f f1 ∧ (0 ≤ r.toInt ∧ r.toInt ≤ 1) ∧ True) (fun (f1 : Nat → va_E) (t : State) => pz_E dC dI (tp_K κ) (va_A (va_pl L f) sz) (va_pl L f1) t) (va_A (va_pl L f) sz)) 0 0 (va_A (va_pl L f) sz) := by
  refine Met.ofW (cc := cX3_pushSum) (maxL := 3) (ret := some .boolean) (by decide) rfl ?_
  intro p e s m args below meth c s₁ B hml hv
  obtain ⟨rfl, hsz, hP, hK, hD0, hN⟩ := hv
  have hx := B.exec
  have hb := B.bytes
  have hr := B.returns
  have hts := fun (w : Cond) (h : w ∈ WALL) => atoms_spec (ws := wqX3_pushSum) B.pre w (List.mem_cons_of_mem _ h)
  have hown : s.vm.findClass RX3 = some m.cls := findClass_of_methodNamed B.named
  have hlocks := B.notSynchronized
  subst hsz
  have hD := hD0.self (sz := s.heap.size)
  generalize hAe : va_A (va_pl L f) s.heap.size = A at hD ⊢
  have hA : ∀ q : Nat, s.heap.size ≤ q → A q := fun q h => by rw [← hAe]; exact Or.inr h
  have hS : va_S A s.heap s.heap [] := va_S.rf
  have hR : tp_F τ [4, 21] f f := tp_F.rf
  have hl := lv_entry ([.ref h0, .long v]) (n := 3) (Nat.le_of_ble_eq_true rfl)
  rw [lg_entry_eq]
  generalize (lg_sl ([.ref h0, .long v]) ++ List.replicate (3 - (lg_sl ([.ref h0, .long v])).length) Slot.unset).toArray = ls at hl ⊢
  have hl : lv_has ls 3 [(0, .ref h0), (1, .long v)] := hl
  refine lv_aload_n hx hb dX3_pushSum_0 rfl (lv_at hl 0 rfl) ?_
  refine lv_lload_n hx hb dX3_pushSum_1 rfl (lv_at hl 1 rfl) ?_
  refine tgk_4 hG ht_h0 (fun y1 y1l y2 y2n y3 y3n => ?_)
  refine tpk_4 hT ht_h0 (fun o4_x3 o4_x4 o4_x5 hf_o4 ro4_0 => ?_)
  refine tpk_pos (tp_in hG ht_h0 (by decide)) hf_o4 (fun q5 eq5 => ?_)
  have hFc := tp_fr hD hS hA
  refine va_callv (va_runV (As := [.long v]) (rest := []) ⟨hx, hb, hml, hown, hts⟩ (t_X3_push l dC dI _ Ω κ τ ν ρ L f hG hT h0 v ht_h0) (cwV 1 hts gX3_pushSum_X3_push rfl rfl rfl ⟨rfl, pd_X3_push⟩ ⟨Nat.le_of_ble_eq_true rfl, Nat.le_of_ble_eq_true rfl⟩) ⟨pz_blind, va_recv hK hP (ci := 3) (q0 := q5) rfl eq5, pz_pre hP hK hD hN⟩ rfl rfl hl.1 rfl (lv_room (Nat.le_of_ble_eq_true rfl)) dX3_pushSum_2 ⟨Nat.le_of_ble_eq_true rfl, Nat.le_of_ble_eq_true rfl⟩) hS (fun q _ h => hFc q h) hFc (fun f8 t H1 locs ht hvm hw7 hB hz1 hk1 hS => ?_)
  refine tn_3 hw7 (fun hT hF9 hw7p => ?_); clear hw7
  have hR := hR.then hF9 (by decide)
  have hP := hB.1; rw [ht] at hP; have hD := tp_ad f8 hD; clear hB hFc hz1 hk1; subst ht; generalize t.heap = H at hP hS ⊢
  refine lv_lload_n hx hb dX3_pushSum_5 rfl (lv_at hl 1 rfl) ?_
  refine va_mabs_long hx hb (by rw [hml]; exact hl.1.symm) hown (hts (.methodLink RX3 119 Lib.MathLoose.abs_long.x) wa_1176) (hts (.static Lib.MathLoose.abs_long.x) wa_1177) (hts (.initialized "java/lang/Math") wa_71) (hts (.code Lib.MathLoose.abs_long.x Lib.MathLoose.abs_long.code 2 (some .long)) wa_1178) (Nat.le_of_ble_eq_true rfl) (Nat.le_of_ble_eq_true rfl) (Nat.le_of_ble_eq_true rfl) (Nat.le_of_ble_eq_true rfl) dX3_pushSum_6 ?_
  refine lv_topl (fun z10 ez10 => ?_)
  refine lv_ldc2 (own := RX3) (v := 1000000000000) hx hb hown (hts (.constantLong RX3 123 (1000000000000)) wa_1179) dX3_pushSum_9 ?_
  refine W.lcmp hx hb dX3_pushSum_12 ?_
  refine lv_if_gt (tgt := 20) hx hb dX3_pushSum_13 (by decide) (fun c11 => ?_) (fun c11 => ?_)
  · have ic11 : z10.toInt > 1000000000000 := zl_gt rfl rfl c11
    refine lv_iconst (v := 0) hx hb dX3_pushSum_20 (by decide) ?_
    exact W.zret (v := 0) hx hb hr rfl (fun t ht hW => ⟨⟨0, f8, rfl, ⟨hT, hR, (by first | decide | omega), trivial⟩, by rw [ht]; exact hP, va_K.moved hW.alike hK, hD⟩, hS.F ht⟩) hS.2.2 dX3_pushSum_21
  · have ic11 : z10.toInt ≤ 1000000000000 := zl_gtf rfl rfl c11
    refine lv_iconst (v := 1) hx hb dX3_pushSum_16 (by decide) ?_
    refine lv_goto (tgt := 21) hx hb dX3_pushSum_17 (by decide) ?_
    exact W.zret (v := 1) hx hb hr rfl (fun t ht hW => ⟨⟨1, f8, rfl, ⟨hT, hR, (by first | decide | omega), trivial⟩, by rw [ht]; exact hP, va_K.moved hW.alike hK, hD⟩, hS.F ht⟩) hS.2.2 dX3_pushSum_21
set_option maxHeartbeats 4000000 in
set_option maxRecDepth 100000 in
theorem t_X3_combine (l : Launch) (dC : Nat → ClassId) (dI : Nat → Nat → Nat) (sz : Nat) (Ω : Nat → Nat → (Nat → Nat) → va_E → Prop) (κ : Nat → ClassId) (τ ν : Nat → Nat) (ρ : Nat → Nat → Nat) (L : List Nat) (f : Nat → va_E) (hG : tp_G τ ν ρ L) (hT : tp_T Ω κ τ ν ρ f) (h0 : Nat) (v : Int32) (ht_h0 : τ h0 = 4) : Met l yX3_combine wqX3_combine ({ frames := 4, cells := 0, slots := 0, locals := 1200 }) (va_Pc [.ref h0, .int v] (pz_B dC dI (tp_K κ) (va_pl L f) sz)) (va_Qi (fun (r : Int32) (f1 : Nat → va_E) => tp_T Ω κ τ ν ρ f1 ∧ tp_F τ [4, 21] f f1 ∧ (0 ≤ r.toInt ∧ r.toInt ≤ 1) ∧ True) (fun (f1 : Nat → va_E) (t : State) => pz_E dC dI (tp_K κ) (va_A (va_pl L f) sz) (va_pl L f1) t) (va_A (va_pl L f) sz)) 0 0 (va_A (va_pl L f) sz) := by
  refine Met.ofW (cc := cX3_combine) (maxL := 6) (ret := some .boolean) (by decide) rfl ?_
  intro p e s m args below meth c s₁ B hml hv
  obtain ⟨rfl, hsz, hP, hK, hD0, hN⟩ := hv
  have hx := B.exec
  have hb := B.bytes
  have hr := B.returns
  have hts := fun (w : Cond) (h : w ∈ WALL) => atoms_spec (ws := wqX3_combine) B.pre w (List.mem_cons_of_mem _ h)
  have hown : s.vm.findClass RX3 = some m.cls := findClass_of_methodNamed B.named
  have hlocks := B.notSynchronized
  subst hsz
  have hD := hD0.self (sz := s.heap.size)
  generalize hAe : va_A (va_pl L f) s.heap.size = A at hD ⊢
  have hA : ∀ q : Nat, s.heap.size ≤ q → A q := fun q h => by rw [← hAe]; exact Or.inr h
  have hS : va_S A s.heap s.heap [] := va_S.rf
  have hR : tp_F τ [4, 21] f f := tp_F.rf
  have hl := lv_entry ([.ref h0, .int v]) (n := 6) (Nat.le_of_ble_eq_true rfl)
  rw [lg_entry_eq]
  generalize (lg_sl ([.ref h0, .int v]) ++ List.replicate (6 - (lg_sl ([.ref h0, .int v])).length) Slot.unset).toArray = ls at hl ⊢
  have hl : lv_has ls 6 [(0, .ref h0), (1, .int v)] := hl
  refine lv_aload_n hx hb dX3_combine_0 rfl (lv_at hl 0 rfl) ?_
  refine tgk_4 hG ht_h0 (fun y1 y1l y2 y2n y3 y3n => ?_)
  refine tpk_4 hT ht_h0 (fun o4_x3 o4_x4 o4_x5 hf_o4 ro4_0 => ?_)
  refine tpk_pos (tp_in hG ht_h0 (by decide)) hf_o4 (fun q5 eq5 => ?_)
  have hFc := tp_fr hD hS hA
  refine va_calll (va_runV (As := []) (rest := []) ⟨hx, hb, hml, hown, hts⟩ (t_X3_pop l dC dI _ Ω κ τ ν ρ L f hG hT h0 ht_h0) (cwV 0 hts gX3_combine_X3_pop rfl rfl rfl ⟨rfl, pd_X3_pop⟩ ⟨Nat.le_of_ble_eq_true rfl, Nat.le_of_ble_eq_true rfl⟩) ⟨pz_blind, va_recv hK hP (ci := 3) (q0 := q5) rfl eq5, pz_pre hP hK hD hN⟩ rfl rfl hl.1 rfl (lv_room (Nat.le_of_ble_eq_true rfl)) dX3_combine_1 ⟨Nat.le_of_ble_eq_true rfl, Nat.le_of_ble_eq_true rfl⟩) hS (fun q _ h => hFc q h) hFc (fun r6 f8 t H1 locs ht hvm hw7 hB hz1 hk1 hS => ?_)
  refine tn_4 hw7 (fun hT hF9 hw7r hw7p => ?_); clear hw7
  have hR := hR.then hF9 (by decide)
  have hP := hB.1; rw [ht] at hP; have hD := tp_ad f8 hD; clear hB hFc hz1 hk1; subst ht; generalize t.heap = H at hP hS ⊢
  refine lv_lstore_n (lv' := [(2, .long r6), (0, .ref h0), (1, .int v)]) hx hb dX3_combine_4 rfl hl (by decide) rfl (fun ls hl => ?_)
  refine lv_aload_n hx hb dX3_combine_5 rfl (lv_at hl 1 rfl) ?_
  refine tpk_4 hT ht_h0 (fun o10_x3 o10_x4 o10_x5 hf_o10 ro10_0 => ?_)
  refine tpk_pos (tp_in hG ht_h0 (by decide)) hf_o10 (fun q11 eq11 => ?_)
  have hFc := tp_fr hD hS hA
  refine va_calll (va_runV (As := []) (rest := []) ⟨hx, hb, hml, hown, hts⟩ (t_X3_pop l dC dI _ Ω κ τ ν ρ L f8 hG hT h0 ht_h0) (cwV 0 hts gX3_combine_X3_pop rfl rfl rfl ⟨rfl, pd_X3_pop⟩ ⟨Nat.le_of_ble_eq_true rfl, Nat.le_of_ble_eq_true rfl⟩) ⟨pz_blind, va_recv hK hP (ci := 3) (q0 := q11) rfl eq11, pz_pre hP hK hD hN⟩ rfl rfl hl.1 rfl (lv_room (Nat.le_of_ble_eq_true rfl)) dX3_combine_6 ⟨Nat.le_of_ble_eq_true rfl, Nat.le_of_ble_eq_true rfl⟩) hS (fun q _ h => hFc q h) hFc (fun r12 f14 t H1 locs ht hvm hw13 hB hz1 hk1 hS => ?_)
  refine tn_4 hw13 (fun hT hF15 hw13r hw13p => ?_); clear hw13
  have hR := hR.then hF15 (by decide)
  have hP := hB.1; rw [ht] at hP; have hD := tp_ad f14 hD; clear hB hFc hz1 hk1; subst ht; generalize t.heap = H at hP hS ⊢
  refine lv_lstore (lv' := [(4, .long r12), (2, .long r6), (0, .ref h0), (1, .int v)]) hx hb dX3_combine_9 hl (by decide) rfl (fun ls hl => ?_)
  refine lv_iload_n hx hb dX3_combine_11 rfl (lv_at hl 3 rfl) ?_
  rcases zi_sw v (-16) (-11) with h16 | h16
  · refine lv_tableOut (tgt := 167) hx hb dX3_combine_12 h16 (by decide) ?_
    refine lv_aload_n hx hb dX3_combine_167 rfl (lv_at hl 2 rfl) ?_
    refine lv_lload hx hb dX3_combine_168 (lv_at hl 0 rfl) ?_
    refine lv_lload_n hx hb dX3_combine_170 rfl (lv_at hl 1 rfl) ?_
    refine W.lcmp hx hb dX3_combine_171 ?_
    refine lv_if_ne (tgt := 179) hx hb dX3_combine_172 (by decide) (fun c17 => ?_) (fun c17 => ?_)
    · have ic17 : r12.toInt ≠ r6.toInt := zl_ne rfl rfl c17
      refine lv_lconst (v := 0) hx hb dX3_combine_179 (by decide) ?_
      refine tpk_4 hT ht_h0 (fun o18_x3 o18_x4 o18_x5 hf_o18 ro18_0 => ?_)
      refine tpk_pos (tp_in hG ht_h0 (by decide)) hf_o18 (fun q19 eq19 => ?_)
      have hFc := tp_fr hD hS hA
      refine va_calli (va_runV (As := [.long 0]) (rest := []) ⟨hx, hb, hml, hown, hts⟩ (t_X3_pushSum l dC dI _ Ω κ τ ν ρ L f14 hG hT h0 (0) ht_h0) (cwV 1 hts gX3_combine_X3_pushSum rfl rfl rfl ⟨rfl, pd_X3_pushSum⟩ ⟨Nat.le_of_ble_eq_true rfl, Nat.le_of_ble_eq_true rfl⟩) ⟨pz_blind, va_recv hK hP (ci := 3) (q0 := q19) rfl eq19, pz_pre hP hK hD hN⟩ rfl rfl hl.1 rfl (lv_room (Nat.le_of_ble_eq_true rfl)) dX3_combine_180 ⟨Nat.le_of_ble_eq_true rfl, Nat.le_of_ble_eq_true rfl⟩) hS (fun q _ h => hFc q h) hFc (fun r20 f22 t H1 locs ht hvm hw21 hB hz1 hk1 hS => ?_)
      refine tn_4 hw21 (fun hT hF23 hw21r hw21p => ?_); clear hw21
      have hR := hR.then hF23 (by decide)
      have hP := hB.1; rw [ht] at hP; have hD := tp_ad f22 hD; clear hB hFc hz1 hk1; subst ht; generalize t.heap = H at hP hS ⊢
      exact W.zret (v := r20) hx hb hr (zi_narZ (by omega) (by omega)) (fun t ht hW => ⟨⟨r20, f22, rfl, ⟨hT, hR, (by first | decide | omega), trivial⟩, by rw [ht]; exact hP, va_K.moved hW.alike hK, hD⟩, hS.F ht⟩) hS.2.2 dX3_combine_183
    · have ic17 : r12.toInt = r6.toInt := zl_nef rfl rfl c17
      refine lv_lconst (v := 1) hx hb dX3_combine_175 (by decide) ?_
      refine lv_goto (tgt := 180) hx hb dX3_combine_176 (by decide) ?_
      refine tpk_4 hT ht_h0 (fun o24_x3 o24_x4 o24_x5 hf_o24 ro24_0 => ?_)
      refine tpk_pos (tp_in hG ht_h0 (by decide)) hf_o24 (fun q25 eq25 => ?_)
      have hFc := tp_fr hD hS hA
      refine va_calli (va_runV (As := [.long 1]) (rest := []) ⟨hx, hb, hml, hown, hts⟩ (t_X3_pushSum l dC dI _ Ω κ τ ν ρ L f14 hG hT h0 (1) ht_h0) (cwV 1 hts gX3_combine_X3_pushSum rfl rfl rfl ⟨rfl, pd_X3_pushSum⟩ ⟨Nat.le_of_ble_eq_true rfl, Nat.le_of_ble_eq_true rfl⟩) ⟨pz_blind, va_recv hK hP (ci := 3) (q0 := q25) rfl eq25, pz_pre hP hK hD hN⟩ rfl rfl hl.1 rfl (lv_room (Nat.le_of_ble_eq_true rfl)) dX3_combine_180 ⟨Nat.le_of_ble_eq_true rfl, Nat.le_of_ble_eq_true rfl⟩) hS (fun q _ h => hFc q h) hFc (fun r26 f28 t H1 locs ht hvm hw27 hB hz1 hk1 hS => ?_)
      refine tn_4 hw27 (fun hT hF29 hw27r hw27p => ?_); clear hw27
      have hR := hR.then hF29 (by decide)
      have hP := hB.1; rw [ht] at hP; have hD := tp_ad f28 hD; clear hB hFc hz1 hk1; subst ht; generalize t.heap = H at hP hS ⊢
      exact W.zret (v := r26) hx hb hr (zi_narZ (by omega) (by omega)) (fun t ht hW => ⟨⟨r26, f28, rfl, ⟨hT, hR, (by first | decide | omega), trivial⟩, by rw [ht]; exact hP, va_K.moved hW.alike hK, hD⟩, hS.F ht⟩) hS.2.2 dX3_combine_183
  · rcases (show v.toInt = (-16) ∨ v.toInt = (-15) ∨ v.toInt = (-14) ∨ v.toInt = (-13) ∨ v.toInt = (-12) ∨ v.toInt = (-11) by omega) with h16k | h16k | h16k | h16k | h16k | h16k
    · refine lv_tableIn (tgt := 150) hx hb dX3_combine_12 (by omega) (by omega) (by rw [h16k]; rfl) (by decide) ?_
      refine lv_aload_n hx hb dX3_combine_150 rfl (lv_at hl 2 rfl) ?_
      refine lv_lload hx hb dX3_combine_151 (lv_at hl 0 rfl) ?_
      refine lv_lload_n hx hb dX3_combine_153 rfl (lv_at hl 1 rfl) ?_
      refine W.lcmp hx hb dX3_combine_154 ?_
      refine lv_if_le (tgt := 162) hx hb dX3_combine_155 (by decide) (fun c30 => ?_) (fun c30 => ?_)
      · have ic30 : r12.toInt ≤ r6.toInt := zl_le rfl rfl c30
        refine lv_lconst (v := 0) hx hb dX3_combine_162 (by decide) ?_
        refine tpk_4 hT ht_h0 (fun o31_x3 o31_x4 o31_x5 hf_o31 ro31_0 => ?_)
        refine tpk_pos (tp_in hG ht_h0 (by decide)) hf_o31 (fun q32 eq32 => ?_)
        have hFc := tp_fr hD hS hA
        refine va_calli (va_runV (As := [.long 0]) (rest := []) ⟨hx, hb, hml, hown, hts⟩ (t_X3_pushSum l dC dI _ Ω κ τ ν ρ L f14 hG hT h0 (0) ht_h0) (cwV 1 hts gX3_combine_X3_pushSum rfl rfl rfl ⟨rfl, pd_X3_pushSum⟩ ⟨Nat.le_of_ble_eq_true rfl, Nat.le_of_ble_eq_true rfl⟩) ⟨pz_blind, va_recv hK hP (ci := 3) (q0 := q32) rfl eq32, pz_pre hP hK hD hN⟩ rfl rfl hl.1 rfl (lv_room (Nat.le_of_ble_eq_true rfl)) dX3_combine_163 ⟨Nat.le_of_ble_eq_true rfl, Nat.le_of_ble_eq_true rfl⟩) hS (fun q _ h => hFc q h) hFc (fun r33 f35 t H1 locs ht hvm hw34 hB hz1 hk1 hS => ?_)
        refine tn_4 hw34 (fun hT hF36 hw34r hw34p => ?_); clear hw34
        have hR := hR.then hF36 (by decide)
        have hP := hB.1; rw [ht] at hP; have hD := tp_ad f35 hD; clear hB hFc hz1 hk1; subst ht; generalize t.heap = H at hP hS ⊢
        exact W.zret (v := r33) hx hb hr (zi_narZ (by omega) (by omega)) (fun t ht hW => ⟨⟨r33, f35, rfl, ⟨hT, hR, (by first | decide | omega), trivial⟩, by rw [ht]; exact hP, va_K.moved hW.alike hK, hD⟩, hS.F ht⟩) hS.2.2 dX3_combine_166
      · have ic30 : r12.toInt > r6.toInt := zl_lef rfl rfl c30
        refine lv_lconst (v := 1) hx hb dX3_combine_158 (by decide) ?_
        refine lv_goto (tgt := 163) hx hb dX3_combine_159 (by decide) ?_
        refine tpk_4 hT ht_h0 (fun o37_x3 o37_x4 o37_x5 hf_o37 ro37_0 => ?_)
        refine tpk_pos (tp_in hG ht_h0 (by decide)) hf_o37 (fun q38 eq38 => ?_)
        have hFc := tp_fr hD hS hA
        refine va_calli (va_runV (As := [.long 1]) (rest := []) ⟨hx, hb, hml, hown, hts⟩ (t_X3_pushSum l dC dI _ Ω κ τ ν ρ L f14 hG hT h0 (1) ht_h0) (cwV 1 hts gX3_combine_X3_pushSum rfl rfl rfl ⟨rfl, pd_X3_pushSum⟩ ⟨Nat.le_of_ble_eq_true rfl, Nat.le_of_ble_eq_true rfl⟩) ⟨pz_blind, va_recv hK hP (ci := 3) (q0 := q38) rfl eq38, pz_pre hP hK hD hN⟩ rfl rfl hl.1 rfl (lv_room (Nat.le_of_ble_eq_true rfl)) dX3_combine_163 ⟨Nat.le_of_ble_eq_true rfl, Nat.le_of_ble_eq_true rfl⟩) hS (fun q _ h => hFc q h) hFc (fun r39 f41 t H1 locs ht hvm hw40 hB hz1 hk1 hS => ?_)
        refine tn_4 hw40 (fun hT hF42 hw40r hw40p => ?_); clear hw40
        have hR := hR.then hF42 (by decide)
        have hP := hB.1; rw [ht] at hP; have hD := tp_ad f41 hD; clear hB hFc hz1 hk1; subst ht; generalize t.heap = H at hP hS ⊢
        exact W.zret (v := r39) hx hb hr (zi_narZ (by omega) (by omega)) (fun t ht hW => ⟨⟨r39, f41, rfl, ⟨hT, hR, (by first | decide | omega), trivial⟩, by rw [ht]; exact hP, va_K.moved hW.alike hK, hD⟩, hS.F ht⟩) hS.2.2 dX3_combine_166
    · refine lv_tableIn (tgt := 133) hx hb dX3_combine_12 (by omega) (by omega) (by rw [h16k]; rfl) (by decide) ?_
      refine lv_aload_n hx hb dX3_combine_133 rfl (lv_at hl 2 rfl) ?_
      refine lv_lload hx hb dX3_combine_134 (lv_at hl 0 rfl) ?_
      refine lv_lload_n hx hb dX3_combine_136 rfl (lv_at hl 1 rfl) ?_
      refine W.lcmp hx hb dX3_combine_137 ?_
      refine lv_if_ge (tgt := 145) hx hb dX3_combine_138 (by decide) (fun c43 => ?_) (fun c43 => ?_)
      · have ic43 : r12.toInt ≥ r6.toInt := zl_ge rfl rfl c43
        refine lv_lconst (v := 0) hx hb dX3_combine_145 (by decide) ?_
        refine tpk_4 hT ht_h0 (fun o44_x3 o44_x4 o44_x5 hf_o44 ro44_0 => ?_)
        refine tpk_pos (tp_in hG ht_h0 (by decide)) hf_o44 (fun q45 eq45 => ?_)
        have hFc := tp_fr hD hS hA
        refine va_calli (va_runV (As := [.long 0]) (rest := []) ⟨hx, hb, hml, hown, hts⟩ (t_X3_pushSum l dC dI _ Ω κ τ ν ρ L f14 hG hT h0 (0) ht_h0) (cwV 1 hts gX3_combine_X3_pushSum rfl rfl rfl ⟨rfl, pd_X3_pushSum⟩ ⟨Nat.le_of_ble_eq_true rfl, Nat.le_of_ble_eq_true rfl⟩) ⟨pz_blind, va_recv hK hP (ci := 3) (q0 := q45) rfl eq45, pz_pre hP hK hD hN⟩ rfl rfl hl.1 rfl (lv_room (Nat.le_of_ble_eq_true rfl)) dX3_combine_146 ⟨Nat.le_of_ble_eq_true rfl, Nat.le_of_ble_eq_true rfl⟩) hS (fun q _ h => hFc q h) hFc (fun r46 f48 t H1 locs ht hvm hw47 hB hz1 hk1 hS => ?_)
        refine tn_4 hw47 (fun hT hF49 hw47r hw47p => ?_); clear hw47
        have hR := hR.then hF49 (by decide)
        have hP := hB.1; rw [ht] at hP; have hD := tp_ad f48 hD; clear hB hFc hz1 hk1; subst ht; generalize t.heap = H at hP hS ⊢
        exact W.zret (v := r46) hx hb hr (zi_narZ (by omega) (by omega)) (fun t ht hW => ⟨⟨r46, f48, rfl, ⟨hT, hR, (by first | decide | omega), trivial⟩, by rw [ht]; exact hP, va_K.moved hW.alike hK, hD⟩, hS.F ht⟩) hS.2.2 dX3_combine_149
      · have ic43 : r12.toInt < r6.toInt := zl_gef rfl rfl c43
        refine lv_lconst (v := 1) hx hb dX3_combine_141 (by decide) ?_
        refine lv_goto (tgt := 146) hx hb dX3_combine_142 (by decide) ?_
        refine tpk_4 hT ht_h0 (fun o50_x3 o50_x4 o50_x5 hf_o50 ro50_0 => ?_)
        refine tpk_pos (tp_in hG ht_h0 (by decide)) hf_o50 (fun q51 eq51 => ?_)
        have hFc := tp_fr hD hS hA
        refine va_calli (va_runV (As := [.long 1]) (rest := []) ⟨hx, hb, hml, hown, hts⟩ (t_X3_pushSum l dC dI _ Ω κ τ ν ρ L f14 hG hT h0 (1) ht_h0) (cwV 1 hts gX3_combine_X3_pushSum rfl rfl rfl ⟨rfl, pd_X3_pushSum⟩ ⟨Nat.le_of_ble_eq_true rfl, Nat.le_of_ble_eq_true rfl⟩) ⟨pz_blind, va_recv hK hP (ci := 3) (q0 := q51) rfl eq51, pz_pre hP hK hD hN⟩ rfl rfl hl.1 rfl (lv_room (Nat.le_of_ble_eq_true rfl)) dX3_combine_146 ⟨Nat.le_of_ble_eq_true rfl, Nat.le_of_ble_eq_true rfl⟩) hS (fun q _ h => hFc q h) hFc (fun r52 f54 t H1 locs ht hvm hw53 hB hz1 hk1 hS => ?_)
        refine tn_4 hw53 (fun hT hF55 hw53r hw53p => ?_); clear hw53
        have hR := hR.then hF55 (by decide)
        have hP := hB.1; rw [ht] at hP; have hD := tp_ad f54 hD; clear hB hFc hz1 hk1; subst ht; generalize t.heap = H at hP hS ⊢
        exact W.zret (v := r52) hx hb hr (zi_narZ (by omega) (by omega)) (fun t ht hW => ⟨⟨r52, f54, rfl, ⟨hT, hR, (by first | decide | omega), trivial⟩, by rw [ht]; exact hP, va_K.moved hW.alike hK, hD⟩, hS.F ht⟩) hS.2.2 dX3_combine_149
    · refine lv_tableIn (tgt := 110) hx hb dX3_combine_12 (by omega) (by omega) (by rw [h16k]; rfl) (by decide) ?_
      refine lv_lload_n hx hb dX3_combine_110 rfl (lv_at hl 1 rfl) ?_
      refine lv_lconst (v := 0) hx hb dX3_combine_111 (by decide) ?_
      refine W.lcmp hx hb dX3_combine_112 ?_
      refine lv_if_eq (tgt := 131) hx hb dX3_combine_113 (by decide) (fun c56 => ?_) (fun c56 => ?_)
      · have ic56 : r6.toInt = 0 := zl_eq rfl rfl c56
        refine lv_iconst (v := 0) hx hb dX3_combine_131 (by decide) ?_
        exact W.zret (v := 0) hx hb hr rfl (fun t ht hW => ⟨⟨0, f14, rfl, ⟨hT, hR, (by first | decide | omega), trivial⟩, by rw [ht]; exact hP, va_K.moved hW.alike hK, hD⟩, hS.F ht⟩) hS.2.2 dX3_combine_132
      · have ic56 : r6.toInt ≠ 0 := zl_eqf rfl rfl c56
        refine lv_aload_n hx hb dX3_combine_116 rfl (lv_at hl 2 rfl) ?_
        refine lv_lload hx hb dX3_combine_117 (lv_at hl 0 rfl) ?_
        refine lv_lload_n hx hb dX3_combine_119 rfl (lv_at hl 1 rfl) ?_
        refine lv_ldiv hx hb dX3_combine_120 (zl_nz (by omega) rfl) ?_
        refine lv_topl (fun z57 ez57 => ?_)
        refine tpk_4 hT ht_h0 (fun o58_x3 o58_x4 o58_x5 hf_o58 ro58_0 => ?_)
        refine tpk_pos (tp_in hG ht_h0 (by decide)) hf_o58 (fun q59 eq59 => ?_)
        have hFc := tp_fr hD hS hA
        refine va_calli (va_runV (As := [.long z57]) (rest := []) ⟨hx, hb, hml, hown, hts⟩ (t_X3_pushSum l dC dI _ Ω κ τ ν ρ L f14 hG hT h0 z57 ht_h0) (cwV 1 hts gX3_combine_X3_pushSum rfl rfl rfl ⟨rfl, pd_X3_pushSum⟩ ⟨Nat.le_of_ble_eq_true rfl, Nat.le_of_ble_eq_true rfl⟩) ⟨pz_blind, va_recv hK hP (ci := 3) (q0 := q59) rfl eq59, pz_pre hP hK hD hN⟩ rfl rfl hl.1 rfl (lv_room (Nat.le_of_ble_eq_true rfl)) dX3_combine_121 ⟨Nat.le_of_ble_eq_true rfl, Nat.le_of_ble_eq_true rfl⟩) hS (fun q _ h => hFc q h) hFc (fun r60 f62 t H1 locs ht hvm hw61 hB hz1 hk1 hS => ?_)
        refine tn_4 hw61 (fun hT hF63 hw61r hw61p => ?_); clear hw61
        have hR := hR.then hF63 (by decide)
        have hP := hB.1; rw [ht] at hP; have hD := tp_ad f62 hD; clear hB hFc hz1 hk1; subst ht; generalize t.heap = H at hP hS ⊢
        refine lv_if_eq (tgt := 131) hx hb dX3_combine_124 (by decide) (fun c64 => ?_) (fun c64 => ?_)
        · have ic64 : r60.toInt = 0 := zi_eq rfl rfl c64
          refine lv_iconst (v := 0) hx hb dX3_combine_131 (by decide) ?_
          exact W.zret (v := 0) hx hb hr rfl (fun t ht hW => ⟨⟨0, f62, rfl, ⟨hT, hR, (by first | decide | omega), trivial⟩, by rw [ht]; exact hP, va_K.moved hW.alike hK, hD⟩, hS.F ht⟩) hS.2.2 dX3_combine_132
        · have ic64 : r60.toInt ≠ 0 := zi_eqf rfl rfl c64
          refine lv_iconst (v := 1) hx hb dX3_combine_127 (by decide) ?_
          refine lv_goto (tgt := 132) hx hb dX3_combine_128 (by decide) ?_
          exact W.zret (v := 1) hx hb hr rfl (fun t ht hW => ⟨⟨1, f62, rfl, ⟨hT, hR, (by first | decide | omega), trivial⟩, by rw [ht]; exact hP, va_K.moved hW.alike hK, hD⟩, hS.F ht⟩) hS.2.2 dX3_combine_132
    · refine lv_tableIn (tgt := 70) hx hb dX3_combine_12 (by omega) (by omega) (by rw [h16k]; rfl) (by decide) ?_
      refine lv_lload_n hx hb dX3_combine_70 rfl (lv_at hl 1 rfl) ?_
      refine lv_lconst (v := 0) hx hb dX3_combine_71 (by decide) ?_
      refine tp_join 93 (fun H locs ls stk => stk = [] ∧ va_P (dC, dI) vwCl (va_pl L f14) H ∧ va_D A (va_pl L f14) ∧ va_S A s.heap H locs ∧ lv_has ls 6 [(4, .long r12), (2, .long r6), (0, .ref h0), (1, .int v)]) ?_ (fun hj65 => ?_)
      · intro H locs ls stk hI
        refine tn_5 hI (fun e90 hP hD hS hl => ?_)
        clear hI; subst e90
        refine lv_aload_n hx hb dX3_combine_93 rfl (lv_at hl 2 rfl) ?_
        refine lv_lload hx hb dX3_combine_94 (lv_at hl 0 rfl) ?_
        refine lv_lload_n hx hb dX3_combine_96 rfl (lv_at hl 1 rfl) ?_
        refine lv_lmul hx hb dX3_combine_97 ?_
        refine lv_topl (fun z66 ez66 => ?_)
        refine tpk_4 hT ht_h0 (fun o67_x3 o67_x4 o67_x5 hf_o67 ro67_0 => ?_)
        refine tpk_pos (tp_in hG ht_h0 (by decide)) hf_o67 (fun q68 eq68 => ?_)
        have hFc := tp_fr hD hS hA
        refine va_calli (va_runV (As := [.long z66]) (rest := []) ⟨hx, hb, hml, hown, hts⟩ (t_X3_pushSum l dC dI _ Ω κ τ ν ρ L f14 hG hT h0 z66 ht_h0) (cwV 1 hts gX3_combine_X3_pushSum rfl rfl rfl ⟨rfl, pd_X3_pushSum⟩ ⟨Nat.le_of_ble_eq_true rfl, Nat.le_of_ble_eq_true rfl⟩) ⟨pz_blind, va_recv hK hP (ci := 3) (q0 := q68) rfl eq68, pz_pre hP hK hD hN⟩ rfl rfl hl.1 rfl (lv_room (Nat.le_of_ble_eq_true rfl)) dX3_combine_98 ⟨Nat.le_of_ble_eq_true rfl, Nat.le_of_ble_eq_true rfl⟩) hS (fun q _ h => hFc q h) hFc (fun r69 f71 t H1 locs ht hvm hw70 hB hz1 hk1 hS => ?_)
        refine tn_4 hw70 (fun hT hF72 hw70r hw70p => ?_); clear hw70
        have hR := hR.then hF72 (by decide)
        have hP := hB.1; rw [ht] at hP; have hD := tp_ad f71 hD; clear hB hFc hz1 hk1; subst ht; generalize t.heap = H at hP hS ⊢
        refine lv_if_eq (tgt := 108) hx hb dX3_combine_101 (by decide) (fun c73 => ?_) (fun c73 => ?_)
        · have ic73 : r69.toInt = 0 := zi_eq rfl rfl c73
          refine lv_iconst (v := 0) hx hb dX3_combine_108 (by decide) ?_
          exact W.zret (v := 0) hx hb hr rfl (fun t ht hW => ⟨⟨0, f71, rfl, ⟨hT, hR, (by first | decide | omega), trivial⟩, by rw [ht]; exact hP, va_K.moved hW.alike hK, hD⟩, hS.F ht⟩) hS.2.2 dX3_combine_109
        · have ic73 : r69.toInt ≠ 0 := zi_eqf rfl rfl c73
          refine lv_iconst (v := 1) hx hb dX3_combine_104 (by decide) ?_
          refine lv_goto (tgt := 109) hx hb dX3_combine_105 (by decide) ?_
          exact W.zret (v := 1) hx hb hr rfl (fun t ht hW => ⟨⟨1, f71, rfl, ⟨hT, hR, (by first | decide | omega), trivial⟩, by rw [ht]; exact hP, va_K.moved hW.alike hK, hD⟩, hS.F ht⟩) hS.2.2 dX3_combine_109
      · refine W.lcmp hx hb dX3_combine_72 ?_
        refine lv_if_eq (tgt := 93) hx hb dX3_combine_73 (by decide) (fun c74 => ?_) (fun c74 => ?_)
        · have ic74 : r6.toInt = 0 := zl_eq rfl rfl c74
          exact hj65 _ _ _ _ ⟨rfl, hP, hD, hS, lv_sub hl [0, 1, 2, 3] rfl⟩
        · have ic74 : r6.toInt ≠ 0 := zl_eqf rfl rfl c74
          refine lv_lload hx hb dX3_combine_76 (lv_at hl 0 rfl) ?_
          refine va_mabs_long hx hb (by rw [hml]; exact hl.1.symm) hown (hts (.methodLink RX3 119 Lib.MathLoose.abs_long.x) wa_1176) (hts (.static Lib.MathLoose.abs_long.x) wa_1177) (hts (.initialized "java/lang/Math") wa_71) (hts (.code Lib.MathLoose.abs_long.x Lib.MathLoose.abs_long.code 2 (some .long)) wa_1178) (Nat.le_of_ble_eq_true rfl) (Nat.le_of_ble_eq_true rfl) (Nat.le_of_ble_eq_true rfl) (Nat.le_of_ble_eq_true rfl) dX3_combine_78 ?_
          refine lv_topl (fun z75 ez75 => ?_)
          refine lv_ldc2 (own := RX3) (v := 1000000000000) hx hb hown (hts (.constantLong RX3 123 (1000000000000)) wa_1179) dX3_combine_81 ?_
          refine lv_lload_n hx hb dX3_combine_84 rfl (lv_at hl 1 rfl) ?_
          refine va_mabs_long hx hb (by rw [hml]; exact hl.1.symm) hown (hts (.methodLink RX3 119 Lib.MathLoose.abs_long.x) wa_1176) (hts (.static Lib.MathLoose.abs_long.x) wa_1177) (hts (.initialized "java/lang/Math") wa_71) (hts (.code Lib.MathLoose.abs_long.x Lib.MathLoose.abs_long.code 2 (some .long)) wa_1178) (Nat.le_of_ble_eq_true rfl) (Nat.le_of_ble_eq_true rfl) (Nat.le_of_ble_eq_true rfl) (Nat.le_of_ble_eq_true rfl) dX3_combine_85 ?_
          refine lv_topl (fun z76 ez76 => ?_)
          refine lv_ldiv hx hb dX3_combine_88 (zl_absnz ez76 (by omega)) ?_
          refine lv_topl (fun z77 ez77 => ?_)
          refine W.lcmp hx hb dX3_combine_89 ?_
          refine lv_if_gt (tgt := 108) hx hb dX3_combine_90 (by decide) (fun c78 => ?_) (fun c78 => ?_)
          · have ic78 : z75.toInt > z77.toInt := zl_gt rfl rfl c78
            refine lv_iconst (v := 0) hx hb dX3_combine_108 (by decide) ?_
            exact W.zret (v := 0) hx hb hr rfl (fun t ht hW => ⟨⟨0, f14, rfl, ⟨hT, hR, (by first | decide | omega), trivial⟩, by rw [ht]; exact hP, va_K.moved hW.alike hK, hD⟩, hS.F ht⟩) hS.2.2 dX3_combine_109
          · have ic78 : z75.toInt ≤ z77.toInt := zl_gtf rfl rfl c78
            exact hj65 _ _ _ _ ⟨rfl, hP, hD, hS, lv_sub hl [0, 1, 2, 3] rfl⟩
    · refine lv_tableIn (tgt := 61) hx hb dX3_combine_12 (by omega) (by omega) (by rw [h16k]; rfl) (by decide) ?_
      refine lv_aload_n hx hb dX3_combine_61 rfl (lv_at hl 2 rfl) ?_
      refine lv_lload hx hb dX3_combine_62 (lv_at hl 0 rfl) ?_
      refine lv_lload_n hx hb dX3_combine_64 rfl (lv_at hl 1 rfl) ?_
      refine lv_lsub hx hb dX3_combine_65 ?_
      refine lv_topl (fun z79 ez79 => ?_)
      refine tpk_4 hT ht_h0 (fun o80_x3 o80_x4 o80_x5 hf_o80 ro80_0 => ?_)
      refine tpk_pos (tp_in hG ht_h0 (by decide)) hf_o80 (fun q81 eq81 => ?_)
      have hFc := tp_fr hD hS hA
      refine va_calli (va_runV (As := [.long z79]) (rest := []) ⟨hx, hb, hml, hown, hts⟩ (t_X3_pushSum l dC dI _ Ω κ τ ν ρ L f14 hG hT h0 z79 ht_h0) (cwV 1 hts gX3_combine_X3_pushSum rfl rfl rfl ⟨rfl, pd_X3_pushSum⟩ ⟨Nat.le_of_ble_eq_true rfl, Nat.le_of_ble_eq_true rfl⟩) ⟨pz_blind, va_recv hK hP (ci := 3) (q0 := q81) rfl eq81, pz_pre hP hK hD hN⟩ rfl rfl hl.1 rfl (lv_room (Nat.le_of_ble_eq_true rfl)) dX3_combine_66 ⟨Nat.le_of_ble_eq_true rfl, Nat.le_of_ble_eq_true rfl⟩) hS (fun q _ h => hFc q h) hFc (fun r82 f84 t H1 locs ht hvm hw83 hB hz1 hk1 hS => ?_)
      refine tn_4 hw83 (fun hT hF85 hw83r hw83p => ?_); clear hw83
      have hR := hR.then hF85 (by decide)
      have hP := hB.1; rw [ht] at hP; have hD := tp_ad f84 hD; clear hB hFc hz1 hk1; subst ht; generalize t.heap = H at hP hS ⊢
      exact W.zret (v := r82) hx hb hr (zi_narZ (by omega) (by omega)) (fun t ht hW => ⟨⟨r82, f84, rfl, ⟨hT, hR, (by first | decide | omega), trivial⟩, by rw [ht]; exact hP, va_K.moved hW.alike hK, hD⟩, hS.F ht⟩) hS.2.2 dX3_combine_69
    · refine lv_tableIn (tgt := 52) hx hb dX3_combine_12 (by omega) (by omega) (by rw [h16k]; rfl) (by decide) ?_
      refine lv_aload_n hx hb dX3_combine_52 rfl (lv_at hl 2 rfl) ?_
      refine lv_lload hx hb dX3_combine_53 (lv_at hl 0 rfl) ?_
      refine lv_lload_n hx hb dX3_combine_55 rfl (lv_at hl 1 rfl) ?_
      refine lv_ladd hx hb dX3_combine_56 ?_
      refine lv_topl (fun z86 ez86 => ?_)
      refine tpk_4 hT ht_h0 (fun o87_x3 o87_x4 o87_x5 hf_o87 ro87_0 => ?_)
      refine tpk_pos (tp_in hG ht_h0 (by decide)) hf_o87 (fun q88 eq88 => ?_)
      have hFc := tp_fr hD hS hA
      refine va_calli (va_runV (As := [.long z86]) (rest := []) ⟨hx, hb, hml, hown, hts⟩ (t_X3_pushSum l dC dI _ Ω κ τ ν ρ L f14 hG hT h0 z86 ht_h0) (cwV 1 hts gX3_combine_X3_pushSum rfl rfl rfl ⟨rfl, pd_X3_pushSum⟩ ⟨Nat.le_of_ble_eq_true rfl, Nat.le_of_ble_eq_true rfl⟩) ⟨pz_blind, va_recv hK hP (ci := 3) (q0 := q88) rfl eq88, pz_pre hP hK hD hN⟩ rfl rfl hl.1 rfl (lv_room (Nat.le_of_ble_eq_true rfl)) dX3_combine_57 ⟨Nat.le_of_ble_eq_true rfl, Nat.le_of_ble_eq_true rfl⟩) hS (fun q _ h => hFc q h) hFc (fun r89 f91 t H1 locs ht hvm hw90 hB hz1 hk1 hS => ?_)
      refine tn_4 hw90 (fun hT hF92 hw90r hw90p => ?_); clear hw90
      have hR := hR.then hF92 (by decide)
      have hP := hB.1; rw [ht] at hP; have hD := tp_ad f91 hD; clear hB hFc hz1 hk1; subst ht; generalize t.heap = H at hP hS ⊢
      exact W.zret (v := r89) hx hb hr (zi_narZ (by omega) (by omega)) (fun t ht hW => ⟨⟨r89, f91, rfl, ⟨hT, hR, (by first | decide | omega), trivial⟩, by rw [ht]; exact hP, va_K.moved hW.alike hK, hD⟩, hS.F ht⟩) hS.2.2 dX3_combine_60
set_option maxHeartbeats 4000000 in
set_option maxRecDepth 100000 in
theorem t_X3_runClause (l : Launch) (dC : Nat → ClassId) (dI : Nat → Nat → Nat) (sz : Nat) (Ω : Nat → Nat → (Nat → Nat) → va_E → Prop) (κ : Nat → ClassId) (τ ν : Nat → Nat) (ρ : Nat → Nat → Nat) (L : List Nat) (f : Nat → va_E) (hG : tp_G τ ν ρ L) (hT : tp_T Ω κ τ ν ρ f) (h0 : Nat) (h1 : Nat) (v : Int32) (u : Int32) (ht_h0 : τ h0 = 4) (ht_h1 : τ h1 = 28) (hn : ν h1 ≤ 400) : Met l yX3_runClause wqX3_runClause ({ frames := 5, cells := 0, slots := 0, locals := 1600 }) (va_Pc [.ref h0, .ref h1, .int v, .int u] (pz_B dC dI (tp_K κ) (va_pl L f) sz)) (va_Qv (fun (f1 : Nat → va_E) => tp_T Ω κ τ ν ρ f1 ∧ tp_F τ [4, 21] f f1 ∧ True) (fun (f1 : Nat → va_E) (t : State) => pz_E dC dI (tp_K κ) (va_A (va_pl L f) sz) (va_pl L f1) t) (va_A (va_pl L f) sz)) 0 0 (va_A (va_pl L f) sz) := by
  refine Met.ofW (cc := cX3_runClause) (maxL := 9) (ret := none) (by decide) rfl ?_
  intro p e s m args below meth c s₁ B hml hv
  obtain ⟨rfl, hsz, hP, hK, hD0, hN⟩ := hv
  have hx := B.exec
  have hb := B.bytes
  have hr := B.returns
  have hts := fun (w : Cond) (h : w ∈ WALL) => atoms_spec (ws := wqX3_runClause) B.pre w (List.mem_cons_of_mem _ h)
  have hown : s.vm.findClass RX3 = some m.cls := findClass_of_methodNamed B.named
  have hlocks := B.notSynchronized
  subst hsz
  have hD := hD0.self (sz := s.heap.size)
  generalize hAe : va_A (va_pl L f) s.heap.size = A at hD ⊢
  have hA : ∀ q : Nat, s.heap.size ≤ q → A q := fun q h => by rw [← hAe]; exact Or.inr h
  have hS : va_S A s.heap s.heap [] := va_S.rf
  have hR : tp_F τ [4, 21] f f := tp_F.rf
  have hl := lv_entry ([.ref h0, .ref h1, .int v, .int u]) (n := 9) (Nat.le_of_ble_eq_true rfl)
  rw [lg_entry_eq]
  generalize (lg_sl ([.ref h0, .ref h1, .int v, .int u]) ++ List.replicate (9 - (lg_sl ([.ref h0, .ref h1, .int v, .int u])).length) Slot.unset).toArray = ls at hl ⊢
  have hl : lv_has ls 9 [(0, .ref h0), (1, .ref h1), (2, .int v), (3, .int u)] := hl
  refine lv_aload_n hx hb dX3_runClause_0 rfl (lv_at hl 0 rfl) ?_
  refine lv_iconst (v := 0) hx hb dX3_runClause_1 (by decide) ?_
  refine tgk_4 hG ht_h0 (fun y1 y1l y2 y2n y3 y3n => ?_)
  refine tpk_4 hT ht_h0 (fun o4_x3 o4_x4 o4_x5 hf_o4 ro4_0 => ?_)
  refine tpk_pos (tp_in hG ht_h0 (by decide)) hf_o4 (fun q5 eq5 => ?_)
  refine va_put (D := (dC, dI)) (ci := 3) (v := .int 0) (ty := .int) (C := RX3) (T := TX3) (N := 6) hx hb hts hfX3 tyX3 tyX3_ok nmX3 hown hK hP hD hS q5 eq5 rfl 3 (by decide) (hts (.fieldLink RX3 97 "ColdShips$Reckoner" "depth" "I") wa_1162) (fun _ h9 => h9) rfl (tyX3_ok 3 (by decide)) rfl rfl (Nat.le_of_ble_eq_true rfl) dX3_runClause_2 (tp_k (.inr (3, [.ref (ρ h0 0), .ref (ρ h0 1), .ref (ρ h0 2), .int 0, .long o4_x4, .long o4_x5])) hD (tp_in hG ht_h0 (by decide)) eq5 (fun f6 H locs hP hD hS g8 k7 => ?_))
  have hT := hT.up ht_h0 g8 k7 ⟨_, _, _, rfl, (by first | decide | omega | (have : (0 : Int32).toInt = 0 := rfl; omega))⟩
  have hR := hR.up ht_h0 (by decide) k7
  refine lv_iload_n hx hb dX3_runClause_5 rfl (lv_at hl 3 rfl) ?_
  refine lv_aload_n hx hb dX3_runClause_6 rfl (lv_at hl 1 rfl) ?_
  refine tpk_28 hT ht_h1 rfl (fun g10 hf_o9 hf_o9e => ?_)
  refine tpk_pos (tp_in hG ht_h1 (by decide)) hf_o9 (fun q11 eq11 => ?_)
  obtain ⟨z12, ez12⟩ : ∃ y : Int32, y = Int32.ofNat (ν h1) := ⟨_, rfl⟩
  have iz12 : z12.toInt = ((ν h1) : Int) := zi_ofNat ez12 (by omega)
  refine va_alen hx hb hK hP q11 0 eq11 rfl ez12.symm dX3_runClause_7 ?_
  refine va_mmin hx hb (by rw [hml]; exact hl.1.symm) hown (hts (.methodLink RX3 100 Lib.Math.min.name) wa_1163) (hts (.static Lib.Math.min.name) wa_434) (hts (.initialized "java/lang/Math") wa_71) (hts (.code Lib.Math.min.name Lib.Math.min.code 2 (some .int)) wa_435) (Nat.le_of_ble_eq_true rfl) (Nat.le_of_ble_eq_true rfl) (Nat.le_of_ble_eq_true rfl) (Nat.le_of_ble_eq_true rfl) dX3_runClause_8 ?_
  refine lv_topi (fun z13 ez13 => ?_)
  have iz13 := zi_min ez13 (rfl : u.toInt = _) (rfl : z12.toInt = _)
  refine lv_istore (lv' := [(4, .int z13), (0, .ref h0), (1, .ref h1), (2, .int v), (3, .int u)]) hx hb dX3_runClause_11 hl (by decide) rfl (fun ls hl => ?_)
  refine lv_iconst (v := 0) hx hb dX3_runClause_13 (by decide) ?_
  refine lv_iload_n hx hb dX3_runClause_14 rfl (lv_at hl 3 rfl) ?_
  refine va_mmax hx hb (by rw [hml]; exact hl.1.symm) hown (hts (.methodLink RX3 89 Lib.Math.max.name) wa_1140) (hts (.static Lib.Math.max.name) wa_70) (hts (.initialized "java/lang/Math") wa_71) (hts (.code Lib.Math.max.name Lib.Math.max.code 2 (some .int)) wa_72) (Nat.le_of_ble_eq_true rfl) (Nat.le_of_ble_eq_true rfl) (Nat.le_of_ble_eq_true rfl) (Nat.le_of_ble_eq_true rfl) dX3_runClause_15 ?_
  refine lv_topi (fun z14 ez14 => ?_)
  have iz14 := zi_max ez14 (show (0 : Int32).toInt = 0 from rfl) (rfl : v.toInt = _)
  refine lv_istore (lv' := [(5, .int z14), (4, .int z13), (0, .ref h0), (1, .ref h1), (2, .int v), (3, .int u)]) hx hb dX3_runClause_18 hl (by decide) rfl (fun ls hl => ?_)
  refine pz_loop (fun n0 H locs ls => ∃ f16 : Nat → va_E, ∃ w15 : Int32, n0 = ((z13.toInt) - (w15.toInt)).toNat ∧ tp_T Ω κ τ ν ρ f16 ∧ tp_F τ [4, 21] f f16 ∧ (0 ≤ w15.toInt) ∧ va_P (dC, dI) vwCl (va_pl L f16) H ∧ va_D A (va_pl L f16) ∧ va_S A s.heap H locs ∧ lv_has ls 9 [(5, .int w15), (4, .int z13), (0, .ref h0), (1, .ref h1), (2, .int v), (3, .int u)]) ?_ _ _ _ _ ⟨f6, z14, rfl, hT, hR, (by omega), hP, hD, hS, lv_sub hl [0, 1, 2, 3, 4, 5] rfl⟩
  intro n0 H locs ls hI ih17
  refine Exists.elim hI (fun f16 hE90 => Exists.elim hE90 (fun w15 hE91 => tn_8 hE91 (fun hn18 hT hR rw15 hP hD hS hl => ?_)))
  clear hE91 hE90 hI
  refine lv_iload hx hb dX3_runClause_20 (lv_at hl 0 rfl) ?_
  refine lv_iload hx hb dX3_runClause_22 (lv_at hl 1 rfl) ?_
  refine lv_icmp_ge (tgt := 292) hx hb dX3_runClause_24 (by decide) (fun c19 => ?_) (fun c19 => ?_)
  · have ic19 : w15.toInt ≥ z13.toInt := zi_ge rfl rfl c19
    exact W.vret hx hb hr (fun t ht hW => ⟨⟨f16, rfl, ⟨hT, hR, trivial⟩, by rw [ht]; exact hP, va_K.moved hW.alike hK, hD⟩, hS.F ht⟩) hS.2.2 dX3_runClause_292
  · have ic19 : w15.toInt < z13.toInt := zi_gef rfl rfl c19
    refine lv_aload_n hx hb dX3_runClause_27 rfl (lv_at hl 3 rfl) ?_
    refine lv_iload hx hb dX3_runClause_28 (lv_at hl 0 rfl) ?_
    refine tpk_28 hT ht_h1 rfl (fun g21 hf_o20 hf_o20e => ?_)
    refine tpk_pos (tp_in hG ht_h1 (by decide)) hf_o20 (fun q22 eq22 => ?_)
    refine va_iald hx hb hK hP q22 0 eq22 rfl (vp_in_iff.mpr ⟨by omega, by omega⟩) dX3_runClause_30 ?_
    refine lv_topi (fun z23 ez23 => ?_)
    have iz23 : -1000 ≤ z23.toInt ∧ z23.toInt ≤ 100001 := by rw [ez23]; exact hf_o20e _
    refine lv_istore (lv' := [(6, .int z23), (5, .int w15), (4, .int z13), (0, .ref h0), (1, .ref h1), (2, .int v), (3, .int u)]) hx hb dX3_runClause_31 hl (by decide) rfl (fun ls hl => ?_)
    refine lv_iload hx hb dX3_runClause_33 (lv_at hl 0 rfl) ?_
    refine lv_if_lt (tgt := 48) hx hb dX3_runClause_35 (by decide) (fun c24 => ?_) (fun c24 => ?_)
    · have ic24 : z23.toInt < 0 := zi_lt rfl rfl c24
      refine lv_iload hx hb dX3_runClause_48 (lv_at hl 0 rfl) ?_
      refine lv_bipush (v := (-8)) hx hb dX3_runClause_50 (by decide) ?_
      refine lv_icmp_lt (tgt := 71) hx hb dX3_runClause_52 (by decide) (fun c25 => ?_) (fun c25 => ?_)
      · have ic25 : z23.toInt < (-8) := zi_lt rfl rfl c25
        refine lv_iload hx hb dX3_runClause_71 (lv_at hl 0 rfl) ?_
        refine lv_bipush (v := (-19)) hx hb dX3_runClause_73 (by decide) ?_
        refine tp_join 85 (fun H locs ls stk => stk = [] ∧ va_P (dC, dI) vwCl (va_pl L f16) H ∧ va_D A (va_pl L f16) ∧ va_S A s.heap H locs ∧ lv_has ls 9 [(6, .int z23), (5, .int w15), (4, .int z13), (0, .ref h0), (1, .ref h1), (2, .int v), (3, .int u)]) ?_ (fun hj26 => ?_)
        · intro H locs ls stk hI
          refine tn_5 hI (fun e90 hP hD hS hl => ?_)
          clear hI; subst e90
          refine lv_aload_n hx hb dX3_runClause_85 rfl (lv_at hl 3 rfl) ?_
          refine tpk_4 hT ht_h0 (fun o27_x3 o27_x4 o27_x5 hf_o27 ro27_0 => ?_)
          refine tpk_pos (tp_in hG ht_h0 (by decide)) hf_o27 (fun q28 eq28 => ?_)
          have hFc := tp_fr hD hS hA
          refine va_calll (va_runV (As := []) (rest := []) ⟨hx, hb, hml, hown, hts⟩ (t_X3_pop l dC dI _ Ω κ τ ν ρ L f16 hG hT h0 ht_h0) (cwV 0 hts gX3_runClause_X3_pop rfl rfl rfl ⟨rfl, pd_X3_pop⟩ ⟨Nat.le_of_ble_eq_true rfl, Nat.le_of_ble_eq_true rfl⟩) ⟨pz_blind, va_recv hK hP (ci := 3) (q0 := q28) rfl eq28, pz_pre hP hK hD hN⟩ rfl rfl hl.1 rfl (lv_room (Nat.le_of_ble_eq_true rfl)) dX3_runClause_86 ⟨Nat.le_of_ble_eq_true rfl, Nat.le_of_ble_eq_true rfl⟩) hS (fun q _ h => hFc q h) hFc (fun r29 f31 t H1 locs ht hvm hw30 hB hz1 hk1 hS => ?_)
          refine tn_4 hw30 (fun hT hF32 hw30r hw30p => ?_); clear hw30
          have hR := hR.then hF32 (by decide)
          have hP := hB.1; rw [ht] at hP; have hD := tp_ad f31 hD; clear hB hFc hz1 hk1; subst ht; generalize t.heap = H at hP hS ⊢
          refine lv_lconst (v := 0) hx hb dX3_runClause_89 (by decide) ?_
          refine tp_join 99 (fun H locs ls stk => ∃ w33 : Int32, stk = [.int w33] ∧ (0 ≤ w33.toInt ∧ w33.toInt ≤ 1) ∧ va_P (dC, dI) vwCl (va_pl L f31) H ∧ va_D A (va_pl L f31) ∧ va_S A s.heap H locs ∧ lv_has ls 9 [(6, .int z23), (5, .int w15), (4, .int z13), (0, .ref h0), (1, .ref h1), (2, .int v), (3, .int u)]) ?_ (fun hj34 => ?_)
          · intro H locs ls stk hI
            refine Exists.elim hI (fun w33 hE90 => tn_6 hE90 (fun e90 rw33 hP hD hS hl => ?_))
            clear hE90 hI; subst e90
            refine lv_istore (lv' := [(7, .int w33), (6, .int z23), (5, .int w15), (4, .int z13), (0, .ref h0), (1, .ref h1), (2, .int v), (3, .int u)]) hx hb dX3_runClause_99 hl (by decide) rfl (fun ls hl => ?_)
            refine lv_iload hx hb dX3_runClause_101 (lv_at hl 0 rfl) ?_
            refine lv_iload hx hb dX3_runClause_103 (lv_at hl 1 rfl) ?_
            refine lv_bipush (v := (-19)) hx hb dX3_runClause_105 (by decide) ?_
            refine tp_join 115 (fun H locs ls stk => ∃ w35 : Int32, stk = [.int w35, .int w33] ∧ (0 ≤ w35.toInt ∧ w35.toInt ≤ 1) ∧ va_P (dC, dI) vwCl (va_pl L f31) H ∧ va_D A (va_pl L f31) ∧ va_S A s.heap H locs ∧ lv_has ls 9 [(7, .int w33), (6, .int z23), (5, .int w15), (4, .int z13), (0, .ref h0), (1, .ref h1), (2, .int v), (3, .int u)]) ?_ (fun hj36 => ?_)
            · intro H locs ls stk hI
              refine Exists.elim hI (fun w35 hE90 => tn_6 hE90 (fun e90 rw35 hP hD hS hl => ?_))
              clear hE90 hI; subst e90
              refine tp_join 123 (fun H locs ls stk => ∃ w37 : Int32, stk = [.int w37] ∧ (0 ≤ w37.toInt ∧ w37.toInt ≤ 1) ∧ va_P (dC, dI) vwCl (va_pl L f31) H ∧ va_D A (va_pl L f31) ∧ va_S A s.heap H locs ∧ lv_has ls 9 [(7, .int w33), (6, .int z23), (5, .int w15), (4, .int z13), (0, .ref h0), (1, .ref h1), (2, .int v), (3, .int u)]) ?_ (fun hj38 => ?_)
              · intro H locs ls stk hI
                refine Exists.elim hI (fun w37 hE90 => tn_6 hE90 (fun e90 rw37 hP hD hS hl => ?_))
                clear hE90 hI; subst e90
                refine lv_istore (lv' := [(8, .int w37), (7, .int w33), (6, .int z23), (5, .int w15), (4, .int z13), (0, .ref h0), (1, .ref h1), (2, .int v), (3, .int u)]) hx hb dX3_runClause_123 hl (by decide) rfl (fun ls hl => ?_)
                refine lv_iload hx hb dX3_runClause_125 (lv_at hl 0 rfl) ?_
                refine tp_join 144 (fun H locs ls stk => ∃ f40 : Nat → va_E, stk = [] ∧ tp_T Ω κ τ ν ρ f40 ∧ tp_F τ [4, 21] f f40 ∧ va_P (dC, dI) vwCl (va_pl L f40) H ∧ va_D A (va_pl L f40) ∧ va_S A s.heap H locs ∧ lv_has ls 9 [(8, .int w37), (7, .int w33), (6, .int z23), (5, .int w15), (4, .int z13), (0, .ref h0), (1, .ref h1), (2, .int v), (3, .int u)]) ?_ (fun hj39 => ?_)
                · intro H locs ls stk hI
                  refine Exists.elim hI (fun f40 hE90 => tn_7 hE90 (fun e90 hT hR hP hD hS hl => ?_))
                  clear hE90 hI; subst e90
                  refine lv_iload hx hb dX3_runClause_144 (lv_at hl 0 rfl) ?_
                  refine lv_if_eq (tgt := 176) hx hb dX3_runClause_146 (by decide) (fun c41 => ?_) (fun c41 => ?_)
                  · have ic41 : w37.toInt = 0 := zi_eq rfl rfl c41
                    refine lv_iload hx hb dX3_runClause_176 (lv_at hl 3 rfl) ?_
                    refine lv_iconst (v := 1) hx hb dX3_runClause_178 (by decide) ?_
                    refine lv_iadd hx hb dX3_runClause_179 ?_
                    refine lv_topi (fun z42 ez42 => ?_)
                    have iz42 : z42.toInt = w15.toInt + 1 := zi_add ez42 rfl rfl (by omega) (by omega)
                    refine lv_istore (lv' := [(5, .int z42), (8, .int w37), (7, .int w33), (6, .int z23), (4, .int z13), (0, .ref h0), (1, .ref h1), (2, .int v), (3, .int u)]) hx hb dX3_runClause_180 hl (by decide) rfl (fun ls hl => ?_)
                    refine lv_goto (tgt := 286) hx hb dX3_runClause_182 (by decide) ?_
                    obtain ⟨z43, ez43⟩ : ∃ y : Int32, y = z42 + 1 := ⟨_, rfl⟩
                    refine lv_iinc (v := z43) (lv' := [(5, .int z43), (8, .int w37), (7, .int w33), (6, .int z23), (4, .int z13), (0, .ref h0), (1, .ref h1), (2, .int v), (3, .int u)]) hx hb dX3_runClause_286 hl (k := 0) rfl (by rw [ez43]; rfl) (by decide) rfl (fun ls hl => ?_)
                    have iz43 : z43.toInt = z42.toInt + 1 := zi_add ez43 rfl rfl (by omega) (by omega)
                    refine lv_goto (tgt := 20) hx hb dX3_runClause_289 (by decide) ?_
                    exact ih17 _ _ _ _ (by rw [hn18]; omega) ⟨f40, z43, rfl, hT, hR, (by omega), hP, hD, hS, lv_sub hl [0, 4, 5, 6, 7, 8] rfl⟩
                  · have ic41 : w37.toInt ≠ 0 := zi_eqf rfl rfl c41
                    refine lv_iload hx hb dX3_runClause_149 (lv_at hl 3 rfl) ?_
                    refine lv_iconst (v := 1) hx hb dX3_runClause_151 (by decide) ?_
                    refine lv_iadd hx hb dX3_runClause_152 ?_
                    refine lv_topi (fun z44 ez44 => ?_)
                    have iz44 : z44.toInt = w15.toInt + 1 := zi_add ez44 rfl rfl (by omega) (by omega)
                    refine lv_iload hx hb dX3_runClause_153 (lv_at hl 4 rfl) ?_
                    refine lv_icmp_ge (tgt := 176) hx hb dX3_runClause_155 (by decide) (fun c45 => ?_) (fun c45 => ?_)
                    · have ic45 : z44.toInt ≥ z13.toInt := zi_ge rfl rfl c45
                      refine lv_iload hx hb dX3_runClause_176 (lv_at hl 3 rfl) ?_
                      refine lv_iconst (v := 1) hx hb dX3_runClause_178 (by decide) ?_
                      refine lv_iadd hx hb dX3_runClause_179 ?_
                      refine lv_topi (fun z46 ez46 => ?_)
                      have iz46 : z46.toInt = w15.toInt + 1 := zi_add ez46 rfl rfl (by omega) (by omega)
                      refine lv_istore (lv' := [(5, .int z46), (8, .int w37), (7, .int w33), (6, .int z23), (4, .int z13), (0, .ref h0), (1, .ref h1), (2, .int v), (3, .int u)]) hx hb dX3_runClause_180 hl (by decide) rfl (fun ls hl => ?_)
                      refine lv_goto (tgt := 286) hx hb dX3_runClause_182 (by decide) ?_
                      obtain ⟨z47, ez47⟩ : ∃ y : Int32, y = z46 + 1 := ⟨_, rfl⟩
                      refine lv_iinc (v := z47) (lv' := [(5, .int z47), (8, .int w37), (7, .int w33), (6, .int z23), (4, .int z13), (0, .ref h0), (1, .ref h1), (2, .int v), (3, .int u)]) hx hb dX3_runClause_286 hl (k := 0) rfl (by rw [ez47]; rfl) (by decide) rfl (fun ls hl => ?_)
                      have iz47 : z47.toInt = z46.toInt + 1 := zi_add ez47 rfl rfl (by omega) (by omega)
                      refine lv_goto (tgt := 20) hx hb dX3_runClause_289 (by decide) ?_
                      exact ih17 _ _ _ _ (by rw [hn18]; omega) ⟨f40, z47, rfl, hT, hR, (by omega), hP, hD, hS, lv_sub hl [0, 4, 5, 6, 7, 8] rfl⟩
                    · have ic45 : z44.toInt < z13.toInt := zi_gef rfl rfl c45
                      refine lv_iload hx hb dX3_runClause_158 (lv_at hl 3 rfl) ?_
                      refine lv_iconst (v := 1) hx hb dX3_runClause_160 (by decide) ?_
                      refine lv_iadd hx hb dX3_runClause_161 ?_
                      refine lv_topi (fun z48 ez48 => ?_)
                      have iz48 : z48.toInt = w15.toInt + 1 := zi_add ez48 rfl rfl (by omega) (by omega)
                      refine lv_aload_n hx hb dX3_runClause_162 rfl (lv_at hl 6 rfl) ?_
                      refine lv_iload hx hb dX3_runClause_163 (lv_at hl 3 rfl) ?_
                      refine lv_iconst (v := 1) hx hb dX3_runClause_165 (by decide) ?_
                      refine lv_iadd hx hb dX3_runClause_166 ?_
                      refine lv_topi (fun z49 ez49 => ?_)
                      have iz49 : z49.toInt = w15.toInt + 1 := zi_add ez49 rfl rfl (by omega) (by omega)
                      refine tpk_28 hT ht_h1 rfl (fun g51 hf_o50 hf_o50e => ?_)
                      refine tpk_pos (tp_in hG ht_h1 (by decide)) hf_o50 (fun q52 eq52 => ?_)
                      refine va_iald hx hb hK hP q52 0 eq52 rfl (vp_in_iff.mpr ⟨by omega, by omega⟩) dX3_runClause_167 ?_
                      refine lv_topi (fun z53 ez53 => ?_)
                      have iz53 : -1000 ≤ z53.toInt ∧ z53.toInt ≤ 100001 := by rw [ez53]; exact hf_o50e _
                      refine lv_iconst (v := 1) hx hb dX3_runClause_168 (by decide) ?_
                      refine lv_isub hx hb dX3_runClause_169 ?_
                      refine lv_topi (fun z54 ez54 => ?_)
                      have iz54 : z54.toInt = z53.toInt - 1 := zi_sub ez54 rfl rfl (by omega) (by omega)
                      refine va_mmax hx hb (by rw [hml]; exact hl.1.symm) hown (hts (.methodLink RX3 89 Lib.Math.max.name) wa_1140) (hts (.static Lib.Math.max.name) wa_70) (hts (.initialized "java/lang/Math") wa_71) (hts (.code Lib.Math.max.name Lib.Math.max.code 2 (some .int)) wa_72) (Nat.le_of_ble_eq_true rfl) (Nat.le_of_ble_eq_true rfl) (Nat.le_of_ble_eq_true rfl) (Nat.le_of_ble_eq_true rfl) dX3_runClause_170 ?_
                      refine lv_topi (fun z55 ez55 => ?_)
                      have iz55 := zi_max ez55 (rfl : z48.toInt = _) (rfl : z54.toInt = _)
                      refine lv_goto (tgt := 180) hx hb dX3_runClause_173 (by decide) ?_
                      refine lv_istore (lv' := [(5, .int z55), (8, .int w37), (7, .int w33), (6, .int z23), (4, .int z13), (0, .ref h0), (1, .ref h1), (2, .int v), (3, .int u)]) hx hb dX3_runClause_180 hl (by decide) rfl (fun ls hl => ?_)
                      refine lv_goto (tgt := 286) hx hb dX3_runClause_182 (by decide) ?_
                      obtain ⟨z56, ez56⟩ : ∃ y : Int32, y = z55 + 1 := ⟨_, rfl⟩
                      refine lv_iinc (v := z56) (lv' := [(5, .int z56), (8, .int w37), (7, .int w33), (6, .int z23), (4, .int z13), (0, .ref h0), (1, .ref h1), (2, .int v), (3, .int u)]) hx hb dX3_runClause_286 hl (k := 0) rfl (by rw [ez56]; rfl) (by decide) rfl (fun ls hl => ?_)
                      have iz56 : z56.toInt = z55.toInt + 1 := zi_add ez56 rfl rfl (by omega) (by omega)
                      refine lv_goto (tgt := 20) hx hb dX3_runClause_289 (by decide) ?_
                      exact ih17 _ _ _ _ (by rw [hn18]; omega) ⟨f40, z56, rfl, hT, hR, (by omega), hP, hD, hS, lv_sub hl [0, 4, 5, 6, 7, 8] rfl⟩
                · refine lv_if_eq (tgt := 144) hx hb dX3_runClause_127 (by decide) (fun c57 => ?_) (fun c57 => ?_)
                  · have ic57 : w37.toInt = 0 := zi_eq rfl rfl c57
                    exact hj39 _ _ _ _ ⟨f31, rfl, hT, hR, hP, hD, hS, lv_sub hl [0, 1, 2, 3, 4, 5, 6, 7, 8] rfl⟩
                  · have ic57 : w37.toInt ≠ 0 := zi_eqf rfl rfl c57
                    refine lv_aload_n hx hb dX3_runClause_130 rfl (lv_at hl 5 rfl) ?_
                    refine lv_iload hx hb dX3_runClause_131 (lv_at hl 1 rfl) ?_
                    refine lv_if_eq (tgt := 140) hx hb dX3_runClause_133 (by decide) (fun c58 => ?_) (fun c58 => ?_)
                    · have ic58 : w33.toInt = 0 := zi_eq rfl rfl c58
                      refine lv_lconst (v := 0) hx hb dX3_runClause_140 (by decide) ?_
                      refine tpk_4 hT ht_h0 (fun o59_x3 o59_x4 o59_x5 hf_o59 ro59_0 => ?_)
                      refine tpk_pos (tp_in hG ht_h0 (by decide)) hf_o59 (fun q60 eq60 => ?_)
                      have hFc := tp_fr hD hS hA
                      refine va_callv (va_runV (As := [.long 0]) (rest := []) ⟨hx, hb, hml, hown, hts⟩ (t_X3_push l dC dI _ Ω κ τ ν ρ L f31 hG hT h0 (0) ht_h0) (cwV 1 hts gX3_runClause_X3_push rfl rfl rfl ⟨rfl, pd_X3_push⟩ ⟨Nat.le_of_ble_eq_true rfl, Nat.le_of_ble_eq_true rfl⟩) ⟨pz_blind, va_recv hK hP (ci := 3) (q0 := q60) rfl eq60, pz_pre hP hK hD hN⟩ rfl rfl hl.1 rfl (lv_room (Nat.le_of_ble_eq_true rfl)) dX3_runClause_141 ⟨Nat.le_of_ble_eq_true rfl, Nat.le_of_ble_eq_true rfl⟩) hS (fun q _ h => hFc q h) hFc (fun f63 t H1 locs ht hvm hw62 hB hz1 hk1 hS => ?_)
                      refine tn_3 hw62 (fun hT hF64 hw62p => ?_); clear hw62
                      have hR := hR.then hF64 (by decide)
                      have hP := hB.1; rw [ht] at hP; have hD := tp_ad f63 hD; clear hB hFc hz1 hk1; subst ht; generalize t.heap = H at hP hS ⊢
                      exact hj39 _ _ _ _ ⟨f63, rfl, hT, hR, hP, hD, hS, lv_sub hl [0, 1, 2, 3, 4, 5, 6, 7, 8] rfl⟩
                    · have ic58 : w33.toInt ≠ 0 := zi_eqf rfl rfl c58
                      refine lv_lconst (v := 1) hx hb dX3_runClause_136 (by decide) ?_
                      refine lv_goto (tgt := 141) hx hb dX3_runClause_137 (by decide) ?_
                      refine tpk_4 hT ht_h0 (fun o65_x3 o65_x4 o65_x5 hf_o65 ro65_0 => ?_)
                      refine tpk_pos (tp_in hG ht_h0 (by decide)) hf_o65 (fun q66 eq66 => ?_)
                      have hFc := tp_fr hD hS hA
                      refine va_callv (va_runV (As := [.long 1]) (rest := []) ⟨hx, hb, hml, hown, hts⟩ (t_X3_push l dC dI _ Ω κ τ ν ρ L f31 hG hT h0 (1) ht_h0) (cwV 1 hts gX3_runClause_X3_push rfl rfl rfl ⟨rfl, pd_X3_push⟩ ⟨Nat.le_of_ble_eq_true rfl, Nat.le_of_ble_eq_true rfl⟩) ⟨pz_blind, va_recv hK hP (ci := 3) (q0 := q66) rfl eq66, pz_pre hP hK hD hN⟩ rfl rfl hl.1 rfl (lv_room (Nat.le_of_ble_eq_true rfl)) dX3_runClause_141 ⟨Nat.le_of_ble_eq_true rfl, Nat.le_of_ble_eq_true rfl⟩) hS (fun q _ h => hFc q h) hFc (fun f69 t H1 locs ht hvm hw68 hB hz1 hk1 hS => ?_)
                      refine tn_3 hw68 (fun hT hF70 hw68p => ?_); clear hw68
                      have hR := hR.then hF70 (by decide)
                      have hP := hB.1; rw [ht] at hP; have hD := tp_ad f69 hD; clear hB hFc hz1 hk1; subst ht; generalize t.heap = H at hP hS ⊢
                      exact hj39 _ _ _ _ ⟨f69, rfl, hT, hR, hP, hD, hS, lv_sub hl [0, 1, 2, 3, 4, 5, 6, 7, 8] rfl⟩
              · refine lv_icmp_ne (tgt := 122) hx hb dX3_runClause_115 (by decide) (fun c71 => ?_) (fun c71 => ?_)
                · have ic71 : w33.toInt ≠ w35.toInt := zi_ne rfl rfl c71
                  refine lv_iconst (v := 0) hx hb dX3_runClause_122 (by decide) ?_
                  exact hj38 _ _ _ _ ⟨0, rfl, (by have : (0 : Int32).toInt = 0 := rfl; omega), hP, hD, hS, lv_sub hl [0, 1, 2, 3, 4, 5, 6, 7] rfl⟩
                · have ic71 : w33.toInt = w35.toInt := zi_nef rfl rfl c71
                  refine lv_iconst (v := 1) hx hb dX3_runClause_118 (by decide) ?_
                  refine lv_goto (tgt := 123) hx hb dX3_runClause_119 (by decide) ?_
                  exact hj38 _ _ _ _ ⟨1, rfl, (by have : (1 : Int32).toInt = 1 := rfl; omega), hP, hD, hS, lv_sub hl [0, 1, 2, 3, 4, 5, 6, 7] rfl⟩
            · refine lv_icmp_ne (tgt := 114) hx hb dX3_runClause_107 (by decide) (fun c72 => ?_) (fun c72 => ?_)
              · have ic72 : z23.toInt ≠ (-19) := zi_ne rfl rfl c72
                refine lv_iconst (v := 0) hx hb dX3_runClause_114 (by decide) ?_
                exact hj36 _ _ _ _ ⟨0, rfl, (by have : (0 : Int32).toInt = 0 := rfl; omega), hP, hD, hS, lv_sub hl [0, 1, 2, 3, 4, 5, 6, 7] rfl⟩
              · have ic72 : z23.toInt = (-19) := zi_nef rfl rfl c72
                refine lv_iconst (v := 1) hx hb dX3_runClause_110 (by decide) ?_
                refine lv_goto (tgt := 115) hx hb dX3_runClause_111 (by decide) ?_
                exact hj36 _ _ _ _ ⟨1, rfl, (by have : (1 : Int32).toInt = 1 := rfl; omega), hP, hD, hS, lv_sub hl [0, 1, 2, 3, 4, 5, 6, 7] rfl⟩
          · refine W.lcmp hx hb dX3_runClause_90 ?_
            refine lv_if_eq (tgt := 98) hx hb dX3_runClause_91 (by decide) (fun c73 => ?_) (fun c73 => ?_)
            · have ic73 : r29.toInt = 0 := zl_eq rfl rfl c73
              refine lv_iconst (v := 0) hx hb dX3_runClause_98 (by decide) ?_
              exact hj34 _ _ _ _ ⟨0, rfl, (by have : (0 : Int32).toInt = 0 := rfl; omega), hP, hD, hS, lv_sub hl [0, 1, 2, 3, 4, 5, 6] rfl⟩
            · have ic73 : r29.toInt ≠ 0 := zl_eqf rfl rfl c73
              refine lv_iconst (v := 1) hx hb dX3_runClause_94 (by decide) ?_
              refine lv_goto (tgt := 99) hx hb dX3_runClause_95 (by decide) ?_
              exact hj34 _ _ _ _ ⟨1, rfl, (by have : (1 : Int32).toInt = 1 := rfl; omega), hP, hD, hS, lv_sub hl [0, 1, 2, 3, 4, 5, 6] rfl⟩
        · refine lv_icmp_eq (tgt := 85) hx hb dX3_runClause_75 (by decide) (fun c74 => ?_) (fun c74 => ?_)
          · have ic74 : z23.toInt = (-19) := zi_eq rfl rfl c74
            exact hj26 _ _ _ _ ⟨rfl, hP, hD, hS, lv_sub hl [0, 1, 2, 3, 4, 5, 6] rfl⟩
          · have ic74 : z23.toInt ≠ (-19) := zi_eqf rfl rfl c74
            refine lv_iload hx hb dX3_runClause_78 (lv_at hl 0 rfl) ?_
            refine lv_bipush (v := (-20)) hx hb dX3_runClause_80 (by decide) ?_
            refine lv_icmp_ne (tgt := 185) hx hb dX3_runClause_82 (by decide) (fun c75 => ?_) (fun c75 => ?_)
            · have ic75 : z23.toInt ≠ (-20) := zi_ne rfl rfl c75
              refine lv_iload hx hb dX3_runClause_185 (lv_at hl 0 rfl) ?_
              refine lv_bipush (v := (-18)) hx hb dX3_runClause_187 (by decide) ?_
              refine lv_icmp_ne (tgt := 213) hx hb dX3_runClause_189 (by decide) (fun c76 => ?_) (fun c76 => ?_)
              · have ic76 : z23.toInt ≠ (-18) := zi_ne rfl rfl c76
                refine lv_iload hx hb dX3_runClause_213 (lv_at hl 0 rfl) ?_
                refine lv_bipush (v := (-21)) hx hb dX3_runClause_215 (by decide) ?_
                refine lv_icmp_ne (tgt := 230) hx hb dX3_runClause_217 (by decide) (fun c77 => ?_) (fun c77 => ?_)
                · have ic77 : z23.toInt ≠ (-21) := zi_ne rfl rfl c77
                  refine lv_iload hx hb dX3_runClause_230 (lv_at hl 0 rfl) ?_
                  refine lv_bipush (v := (-22)) hx hb dX3_runClause_232 (by decide) ?_
                  refine lv_icmp_ne (tgt := 253) hx hb dX3_runClause_234 (by decide) (fun c78 => ?_) (fun c78 => ?_)
                  · have ic78 : z23.toInt ≠ (-22) := zi_ne rfl rfl c78
                    refine lv_iload hx hb dX3_runClause_253 (lv_at hl 0 rfl) ?_
                    refine lv_bipush (v := (-23)) hx hb dX3_runClause_255 (by decide) ?_
                    refine lv_icmp_ne (tgt := 276) hx hb dX3_runClause_257 (by decide) (fun c79 => ?_) (fun c79 => ?_)
                    · have ic79 : z23.toInt ≠ (-23) := zi_ne rfl rfl c79
                      refine lv_aload_n hx hb dX3_runClause_276 rfl (lv_at hl 3 rfl) ?_
                      refine lv_iload hx hb dX3_runClause_277 (lv_at hl 0 rfl) ?_
                      refine tpk_4 hT ht_h0 (fun o80_x3 o80_x4 o80_x5 hf_o80 ro80_0 => ?_)
                      refine tpk_pos (tp_in hG ht_h0 (by decide)) hf_o80 (fun q81 eq81 => ?_)
                      have hFc := tp_fr hD hS hA
                      refine va_calli (va_runV (As := [.int z23]) (rest := []) ⟨hx, hb, hml, hown, hts⟩ (t_X3_combine l dC dI _ Ω κ τ ν ρ L f16 hG hT h0 z23 ht_h0) (cwV 1 hts gX3_runClause_X3_combine rfl rfl rfl ⟨rfl, pd_X3_combine⟩ ⟨Nat.le_of_ble_eq_true rfl, Nat.le_of_ble_eq_true rfl⟩) ⟨pz_blind, va_recv hK hP (ci := 3) (q0 := q81) rfl eq81, pz_pre hP hK hD hN⟩ rfl rfl hl.1 rfl (lv_room (Nat.le_of_ble_eq_true rfl)) dX3_runClause_279 ⟨Nat.le_of_ble_eq_true rfl, Nat.le_of_ble_eq_true rfl⟩) hS (fun q _ h => hFc q h) hFc (fun r82 f84 t H1 locs ht hvm hw83 hB hz1 hk1 hS => ?_)
                      refine tn_4 hw83 (fun hT hF85 hw83r hw83p => ?_); clear hw83
                      have hR := hR.then hF85 (by decide)
                      have hP := hB.1; rw [ht] at hP; have hD := tp_ad f84 hD; clear hB hFc hz1 hk1; subst ht; generalize t.heap = H at hP hS ⊢
                      refine lv_if_ne (tgt := 286) hx hb dX3_runClause_282 (by decide) (fun c86 => ?_) (fun c86 => ?_)
                      · have ic86 : r82.toInt ≠ 0 := zi_ne rfl rfl c86
                        obtain ⟨z87, ez87⟩ : ∃ y : Int32, y = w15 + 1 := ⟨_, rfl⟩
                        refine lv_iinc (v := z87) (lv' := [(5, .int z87), (6, .int z23), (4, .int z13), (0, .ref h0), (1, .ref h1), (2, .int v), (3, .int u)]) hx hb dX3_runClause_286 hl (k := 1) rfl (by rw [ez87]; rfl) (by decide) rfl (fun ls hl => ?_)
                        have iz87 : z87.toInt = w15.toInt + 1 := zi_add ez87 rfl rfl (by omega) (by omega)
                        refine lv_goto (tgt := 20) hx hb dX3_runClause_289 (by decide) ?_
                        exact ih17 _ _ _ _ (by rw [hn18]; omega) ⟨f84, z87, rfl, hT, hR, (by omega), hP, hD, hS, lv_sub hl [0, 2, 3, 4, 5, 6] rfl⟩
                      · have ic86 : r82.toInt = 0 := zi_nef rfl rfl c86
                        exact W.vret hx hb hr (fun t ht hW => ⟨⟨f84, rfl, ⟨hT, hR, trivial⟩, by rw [ht]; exact hP, va_K.moved hW.alike hK, hD⟩, hS.F ht⟩) hS.2.2 dX3_runClause_285
                    · have ic79 : z23.toInt = (-23) := zi_nef rfl rfl c79
                      refine lv_aload_n hx hb dX3_runClause_260 rfl (lv_at hl 3 rfl) ?_
                      refine lv_dup hx hb dX3_runClause_261 rfl ?_
                      refine tpk_4 hT ht_h0 (fun o88_x3 o88_x4 o88_x5 hf_o88 ro88_0 => ?_)
                      refine tpk_pos (tp_in hG ht_h0 (by decide)) hf_o88 (fun q89 eq89 => ?_)
                      refine va_get (D := (dC, dI)) (ci := 3) (v := .long o88_x5) (C := RX3) (T := TX3) (N := 6) hx hb hts hfX3 hown hK hP q89 eq89 rfl 5 (by decide) (hts (.fieldLink RX3 26 "ColdShips$Reckoner" "fines" "J") wa_1135) (fun _ h9 => h9) rfl dX3_runClause_262 ?_
                      refine lv_aload_n hx hb dX3_runClause_265 rfl (lv_at hl 3 rfl) ?_
                      have hFc := tp_fr hD hS hA
                      refine va_calll (va_runV (As := []) (rest := [.long o88_x5, .ref h0]) ⟨hx, hb, hml, hown, hts⟩ (t_X3_pop l dC dI _ Ω κ τ ν ρ L f16 hG hT h0 ht_h0) (cwV 0 hts gX3_runClause_X3_pop rfl rfl rfl ⟨rfl, pd_X3_pop⟩ ⟨Nat.le_of_ble_eq_true rfl, Nat.le_of_ble_eq_true rfl⟩) ⟨pz_blind, va_recv hK hP (ci := 3) (q0 := q89) rfl eq89, pz_pre hP hK hD hN⟩ rfl rfl hl.1 rfl (lv_room (Nat.le_of_ble_eq_true rfl)) dX3_runClause_266 ⟨Nat.le_of_ble_eq_true rfl, Nat.le_of_ble_eq_true rfl⟩) hS (fun q _ h => hFc q h) hFc (fun r90 f92 t H1 locs ht hvm hw91 hB hz1 hk1 hS => ?_)
                      refine tn_4 hw91 (fun hT hF93 hw91r hw91p => ?_); clear hw91
                      have hR := hR.then hF93 (by decide)
                      have hP := hB.1; rw [ht] at hP; have hD := tp_ad f92 hD; clear hB hFc hz1 hk1; subst ht; generalize t.heap = H at hP hS ⊢
                      refine lv_ladd hx hb dX3_runClause_269 ?_
                      refine lv_topl (fun z94 ez94 => ?_)
                      refine tpk_4 hT ht_h0 (fun o95_x3 o95_x4 o95_x5 hf_o95 ro95_0 => ?_)
                      refine tpk_pos (tp_in hG ht_h0 (by decide)) hf_o95 (fun q96 eq96 => ?_)
                      refine va_put (D := (dC, dI)) (ci := 3) (v := .long z94) (ty := .long) (C := RX3) (T := TX3) (N := 6) hx hb hts hfX3 tyX3 tyX3_ok nmX3 hown hK hP hD hS q96 eq96 rfl 5 (by decide) (hts (.fieldLink RX3 26 "ColdShips$Reckoner" "fines" "J") wa_1135) (fun _ h9 => h9) rfl (tyX3_ok 5 (by decide)) rfl rfl (Nat.le_of_ble_eq_true rfl) dX3_runClause_270 (tp_k (.inr (3, [.ref (ρ h0 0), .ref (ρ h0 1), .ref (ρ h0 2), .int o95_x3, .long o95_x4, .long z94])) hD (tp_in hG ht_h0 (by decide)) eq96 (fun f97 H locs hP hD hS g99 k98 => ?_))
                      have hT := hT.up ht_h0 g99 k98 ⟨_, _, _, rfl, ro95_0⟩
                      have hR := hR.up ht_h0 (by decide) k98
                      refine lv_goto (tgt := 286) hx hb dX3_runClause_273 (by decide) ?_
                      obtain ⟨z100, ez100⟩ : ∃ y : Int32, y = w15 + 1 := ⟨_, rfl⟩
                      refine lv_iinc (v := z100) (lv' := [(5, .int z100), (6, .int z23), (4, .int z13), (0, .ref h0), (1, .ref h1), (2, .int v), (3, .int u)]) hx hb dX3_runClause_286 hl (k := 1) rfl (by rw [ez100]; rfl) (by decide) rfl (fun ls hl => ?_)
                      have iz100 : z100.toInt = w15.toInt + 1 := zi_add ez100 rfl rfl (by omega) (by omega)
                      refine lv_goto (tgt := 20) hx hb dX3_runClause_289 (by decide) ?_
                      exact ih17 _ _ _ _ (by rw [hn18]; omega) ⟨f97, z100, rfl, hT, hR, (by omega), hP, hD, hS, lv_sub hl [0, 2, 3, 4, 5, 6] rfl⟩
                  · have ic78 : z23.toInt = (-22) := zi_nef rfl rfl c78
                    refine lv_aload_n hx hb dX3_runClause_237 rfl (lv_at hl 3 rfl) ?_
                    refine lv_dup hx hb dX3_runClause_238 rfl ?_
                    refine tpk_4 hT ht_h0 (fun o101_x3 o101_x4 o101_x5 hf_o101 ro101_0 => ?_)
                    refine tpk_pos (tp_in hG ht_h0 (by decide)) hf_o101 (fun q102 eq102 => ?_)
                    refine va_get (D := (dC, dI)) (ci := 3) (v := .long o101_x4) (C := RX3) (T := TX3) (N := 6) hx hb hts hfX3 hown hK hP q102 eq102 rfl 4 (by decide) (hts (.fieldLink RX3 22 "ColdShips$Reckoner" "pays" "J") wa_1134) (fun _ h9 => h9) rfl dX3_runClause_239 ?_
                    refine lv_aload_n hx hb dX3_runClause_242 rfl (lv_at hl 3 rfl) ?_
                    have hFc := tp_fr hD hS hA
                    refine va_calll (va_runV (As := []) (rest := [.long o101_x4, .ref h0]) ⟨hx, hb, hml, hown, hts⟩ (t_X3_pop l dC dI _ Ω κ τ ν ρ L f16 hG hT h0 ht_h0) (cwV 0 hts gX3_runClause_X3_pop rfl rfl rfl ⟨rfl, pd_X3_pop⟩ ⟨Nat.le_of_ble_eq_true rfl, Nat.le_of_ble_eq_true rfl⟩) ⟨pz_blind, va_recv hK hP (ci := 3) (q0 := q102) rfl eq102, pz_pre hP hK hD hN⟩ rfl rfl hl.1 rfl (lv_room (Nat.le_of_ble_eq_true rfl)) dX3_runClause_243 ⟨Nat.le_of_ble_eq_true rfl, Nat.le_of_ble_eq_true rfl⟩) hS (fun q _ h => hFc q h) hFc (fun r103 f105 t H1 locs ht hvm hw104 hB hz1 hk1 hS => ?_)
                    refine tn_4 hw104 (fun hT hF106 hw104r hw104p => ?_); clear hw104
                    have hR := hR.then hF106 (by decide)
                    have hP := hB.1; rw [ht] at hP; have hD := tp_ad f105 hD; clear hB hFc hz1 hk1; subst ht; generalize t.heap = H at hP hS ⊢
                    refine lv_ladd hx hb dX3_runClause_246 ?_
                    refine lv_topl (fun z107 ez107 => ?_)
                    refine tpk_4 hT ht_h0 (fun o108_x3 o108_x4 o108_x5 hf_o108 ro108_0 => ?_)
                    refine tpk_pos (tp_in hG ht_h0 (by decide)) hf_o108 (fun q109 eq109 => ?_)
                    refine va_put (D := (dC, dI)) (ci := 3) (v := .long z107) (ty := .long) (C := RX3) (T := TX3) (N := 6) hx hb hts hfX3 tyX3 tyX3_ok nmX3 hown hK hP hD hS q109 eq109 rfl 4 (by decide) (hts (.fieldLink RX3 22 "ColdShips$Reckoner" "pays" "J") wa_1134) (fun _ h9 => h9) rfl (tyX3_ok 4 (by decide)) rfl rfl (Nat.le_of_ble_eq_true rfl) dX3_runClause_247 (tp_k (.inr (3, [.ref (ρ h0 0), .ref (ρ h0 1), .ref (ρ h0 2), .int o108_x3, .long z107, .long o108_x5])) hD (tp_in hG ht_h0 (by decide)) eq109 (fun f110 H locs hP hD hS g112 k111 => ?_))
                    have hT := hT.up ht_h0 g112 k111 ⟨_, _, _, rfl, ro108_0⟩
                    have hR := hR.up ht_h0 (by decide) k111
                    refine lv_goto (tgt := 286) hx hb dX3_runClause_250 (by decide) ?_
                    obtain ⟨z113, ez113⟩ : ∃ y : Int32, y = w15 + 1 := ⟨_, rfl⟩
                    refine lv_iinc (v := z113) (lv' := [(5, .int z113), (6, .int z23), (4, .int z13), (0, .ref h0), (1, .ref h1), (2, .int v), (3, .int u)]) hx hb dX3_runClause_286 hl (k := 1) rfl (by rw [ez113]; rfl) (by decide) rfl (fun ls hl => ?_)
                    have iz113 : z113.toInt = w15.toInt + 1 := zi_add ez113 rfl rfl (by omega) (by omega)
                    refine lv_goto (tgt := 20) hx hb dX3_runClause_289 (by decide) ?_
                    exact ih17 _ _ _ _ (by rw [hn18]; omega) ⟨f110, z113, rfl, hT, hR, (by omega), hP, hD, hS, lv_sub hl [0, 2, 3, 4, 5, 6] rfl⟩
                · have ic77 : z23.toInt = (-21) := zi_nef rfl rfl c77
                  refine lv_aload_n hx hb dX3_runClause_220 rfl (lv_at hl 3 rfl) ?_
                  refine tpk_4 hT ht_h0 (fun o114_x3 o114_x4 o114_x5 hf_o114 ro114_0 => ?_)
                  refine tpk_pos (tp_in hG ht_h0 (by decide)) hf_o114 (fun q115 eq115 => ?_)
                  have hFc := tp_fr hD hS hA
                  refine va_calll (va_runV (As := []) (rest := []) ⟨hx, hb, hml, hown, hts⟩ (t_X3_pop l dC dI _ Ω κ τ ν ρ L f16 hG hT h0 ht_h0) (cwV 0 hts gX3_runClause_X3_pop rfl rfl rfl ⟨rfl, pd_X3_pop⟩ ⟨Nat.le_of_ble_eq_true rfl, Nat.le_of_ble_eq_true rfl⟩) ⟨pz_blind, va_recv hK hP (ci := 3) (q0 := q115) rfl eq115, pz_pre hP hK hD hN⟩ rfl rfl hl.1 rfl (lv_room (Nat.le_of_ble_eq_true rfl)) dX3_runClause_221 ⟨Nat.le_of_ble_eq_true rfl, Nat.le_of_ble_eq_true rfl⟩) hS (fun q _ h => hFc q h) hFc (fun r116 f118 t H1 locs ht hvm hw117 hB hz1 hk1 hS => ?_)
                  refine tn_4 hw117 (fun hT hF119 hw117r hw117p => ?_); clear hw117
                  have hR := hR.then hF119 (by decide)
                  have hP := hB.1; rw [ht] at hP; have hD := tp_ad f118 hD; clear hB hFc hz1 hk1; subst ht; generalize t.heap = H at hP hS ⊢
                  refine lv_lconst (v := 0) hx hb dX3_runClause_224 (by decide) ?_
                  refine W.lcmp hx hb dX3_runClause_225 ?_
                  refine lv_if_ne (tgt := 286) hx hb dX3_runClause_226 (by decide) (fun c120 => ?_) (fun c120 => ?_)
                  · have ic120 : r116.toInt ≠ 0 := zl_ne rfl rfl c120
                    obtain ⟨z121, ez121⟩ : ∃ y : Int32, y = w15 + 1 := ⟨_, rfl⟩
                    refine lv_iinc (v := z121) (lv' := [(5, .int z121), (6, .int z23), (4, .int z13), (0, .ref h0), (1, .ref h1), (2, .int v), (3, .int u)]) hx hb dX3_runClause_286 hl (k := 1) rfl (by rw [ez121]; rfl) (by decide) rfl (fun ls hl => ?_)
                    have iz121 : z121.toInt = w15.toInt + 1 := zi_add ez121 rfl rfl (by omega) (by omega)
                    refine lv_goto (tgt := 20) hx hb dX3_runClause_289 (by decide) ?_
                    exact ih17 _ _ _ _ (by rw [hn18]; omega) ⟨f118, z121, rfl, hT, hR, (by omega), hP, hD, hS, lv_sub hl [0, 2, 3, 4, 5, 6] rfl⟩
                  · have ic120 : r116.toInt = 0 := zl_nef rfl rfl c120
                    exact W.vret hx hb hr (fun t ht hW => ⟨⟨f118, rfl, ⟨hT, hR, trivial⟩, by rw [ht]; exact hP, va_K.moved hW.alike hK, hD⟩, hS.F ht⟩) hS.2.2 dX3_runClause_229
              · have ic76 : z23.toInt = (-18) := zi_nef rfl rfl c76
                refine lv_aload_n hx hb dX3_runClause_192 rfl (lv_at hl 3 rfl) ?_
                refine lv_aload_n hx hb dX3_runClause_193 rfl (lv_at hl 3 rfl) ?_
                refine tpk_4 hT ht_h0 (fun o122_x3 o122_x4 o122_x5 hf_o122 ro122_0 => ?_)
                refine tpk_pos (tp_in hG ht_h0 (by decide)) hf_o122 (fun q123 eq123 => ?_)
                have hFc := tp_fr hD hS hA
                refine va_calll (va_runV (As := []) (rest := [.ref h0]) ⟨hx, hb, hml, hown, hts⟩ (t_X3_pop l dC dI _ Ω κ τ ν ρ L f16 hG hT h0 ht_h0) (cwV 0 hts gX3_runClause_X3_pop rfl rfl rfl ⟨rfl, pd_X3_pop⟩ ⟨Nat.le_of_ble_eq_true rfl, Nat.le_of_ble_eq_true rfl⟩) ⟨pz_blind, va_recv hK hP (ci := 3) (q0 := q123) rfl eq123, pz_pre hP hK hD hN⟩ rfl rfl hl.1 rfl (lv_room (Nat.le_of_ble_eq_true rfl)) dX3_runClause_194 ⟨Nat.le_of_ble_eq_true rfl, Nat.le_of_ble_eq_true rfl⟩) hS (fun q _ h => hFc q h) hFc (fun r124 f126 t H1 locs ht hvm hw125 hB hz1 hk1 hS => ?_)
                refine tn_4 hw125 (fun hT hF127 hw125r hw125p => ?_); clear hw125
                have hR := hR.then hF127 (by decide)
                have hP := hB.1; rw [ht] at hP; have hD := tp_ad f126 hD; clear hB hFc hz1 hk1; subst ht; generalize t.heap = H at hP hS ⊢
                refine lv_lconst (v := 0) hx hb dX3_runClause_197 (by decide) ?_
                refine W.lcmp hx hb dX3_runClause_198 ?_
                refine lv_if_ne (tgt := 206) hx hb dX3_runClause_199 (by decide) (fun c128 => ?_) (fun c128 => ?_)
                · have ic128 : r124.toInt ≠ 0 := zl_ne rfl rfl c128
                  refine lv_lconst (v := 0) hx hb dX3_runClause_206 (by decide) ?_
                  refine tpk_4 hT ht_h0 (fun o129_x3 o129_x4 o129_x5 hf_o129 ro129_0 => ?_)
                  refine tpk_pos (tp_in hG ht_h0 (by decide)) hf_o129 (fun q130 eq130 => ?_)
                  have hFc := tp_fr hD hS hA
                  refine va_callv (va_runV (As := [.long 0]) (rest := []) ⟨hx, hb, hml, hown, hts⟩ (t_X3_push l dC dI _ Ω κ τ ν ρ L f126 hG hT h0 (0) ht_h0) (cwV 1 hts gX3_runClause_X3_push rfl rfl rfl ⟨rfl, pd_X3_push⟩ ⟨Nat.le_of_ble_eq_true rfl, Nat.le_of_ble_eq_true rfl⟩) ⟨pz_blind, va_recv hK hP (ci := 3) (q0 := q130) rfl eq130, pz_pre hP hK hD hN⟩ rfl rfl hl.1 rfl (lv_room (Nat.le_of_ble_eq_true rfl)) dX3_runClause_207 ⟨Nat.le_of_ble_eq_true rfl, Nat.le_of_ble_eq_true rfl⟩) hS (fun q _ h => hFc q h) hFc (fun f133 t H1 locs ht hvm hw132 hB hz1 hk1 hS => ?_)
                  refine tn_3 hw132 (fun hT hF134 hw132p => ?_); clear hw132
                  have hR := hR.then hF134 (by decide)
                  have hP := hB.1; rw [ht] at hP; have hD := tp_ad f133 hD; clear hB hFc hz1 hk1; subst ht; generalize t.heap = H at hP hS ⊢
                  refine lv_goto (tgt := 286) hx hb dX3_runClause_210 (by decide) ?_
                  obtain ⟨z135, ez135⟩ : ∃ y : Int32, y = w15 + 1 := ⟨_, rfl⟩
                  refine lv_iinc (v := z135) (lv' := [(5, .int z135), (6, .int z23), (4, .int z13), (0, .ref h0), (1, .ref h1), (2, .int v), (3, .int u)]) hx hb dX3_runClause_286 hl (k := 1) rfl (by rw [ez135]; rfl) (by decide) rfl (fun ls hl => ?_)
                  have iz135 : z135.toInt = w15.toInt + 1 := zi_add ez135 rfl rfl (by omega) (by omega)
                  refine lv_goto (tgt := 20) hx hb dX3_runClause_289 (by decide) ?_
                  exact ih17 _ _ _ _ (by rw [hn18]; omega) ⟨f133, z135, rfl, hT, hR, (by omega), hP, hD, hS, lv_sub hl [0, 2, 3, 4, 5, 6] rfl⟩
                · have ic128 : r124.toInt = 0 := zl_nef rfl rfl c128
                  refine lv_lconst (v := 1) hx hb dX3_runClause_202 (by decide) ?_
                  refine lv_goto (tgt := 207) hx hb dX3_runClause_203 (by decide) ?_
                  refine tpk_4 hT ht_h0 (fun o136_x3 o136_x4 o136_x5 hf_o136 ro136_0 => ?_)
                  refine tpk_pos (tp_in hG ht_h0 (by decide)) hf_o136 (fun q137 eq137 => ?_)
                  have hFc := tp_fr hD hS hA
                  refine va_callv (va_runV (As := [.long 1]) (rest := []) ⟨hx, hb, hml, hown, hts⟩ (t_X3_push l dC dI _ Ω κ τ ν ρ L f126 hG hT h0 (1) ht_h0) (cwV 1 hts gX3_runClause_X3_push rfl rfl rfl ⟨rfl, pd_X3_push⟩ ⟨Nat.le_of_ble_eq_true rfl, Nat.le_of_ble_eq_true rfl⟩) ⟨pz_blind, va_recv hK hP (ci := 3) (q0 := q137) rfl eq137, pz_pre hP hK hD hN⟩ rfl rfl hl.1 rfl (lv_room (Nat.le_of_ble_eq_true rfl)) dX3_runClause_207 ⟨Nat.le_of_ble_eq_true rfl, Nat.le_of_ble_eq_true rfl⟩) hS (fun q _ h => hFc q h) hFc (fun f140 t H1 locs ht hvm hw139 hB hz1 hk1 hS => ?_)
                  refine tn_3 hw139 (fun hT hF141 hw139p => ?_); clear hw139
                  have hR := hR.then hF141 (by decide)
                  have hP := hB.1; rw [ht] at hP; have hD := tp_ad f140 hD; clear hB hFc hz1 hk1; subst ht; generalize t.heap = H at hP hS ⊢
                  refine lv_goto (tgt := 286) hx hb dX3_runClause_210 (by decide) ?_
                  obtain ⟨z142, ez142⟩ : ∃ y : Int32, y = w15 + 1 := ⟨_, rfl⟩
                  refine lv_iinc (v := z142) (lv' := [(5, .int z142), (6, .int z23), (4, .int z13), (0, .ref h0), (1, .ref h1), (2, .int v), (3, .int u)]) hx hb dX3_runClause_286 hl (k := 1) rfl (by rw [ez142]; rfl) (by decide) rfl (fun ls hl => ?_)
                  have iz142 : z142.toInt = w15.toInt + 1 := zi_add ez142 rfl rfl (by omega) (by omega)
                  refine lv_goto (tgt := 20) hx hb dX3_runClause_289 (by decide) ?_
                  exact ih17 _ _ _ _ (by rw [hn18]; omega) ⟨f140, z142, rfl, hT, hR, (by omega), hP, hD, hS, lv_sub hl [0, 2, 3, 4, 5, 6] rfl⟩
            · have ic75 : z23.toInt = (-20) := zi_nef rfl rfl c75
              exact hj26 _ _ _ _ ⟨rfl, hP, hD, hS, lv_sub hl [0, 1, 2, 3, 4, 5, 6] rfl⟩
      · have ic25 : z23.toInt ≥ (-8) := zi_ltf rfl rfl c25
        refine lv_aload_n hx hb dX3_runClause_55 rfl (lv_at hl 3 rfl) ?_
        refine lv_aload_n hx hb dX3_runClause_56 rfl (lv_at hl 3 rfl) ?_
        refine tpk_4 hT ht_h0 (fun o143_x3 o143_x4 o143_x5 hf_o143 ro143_0 => ?_)
        refine tpk_pos (tp_in hG ht_h0 (by decide)) hf_o143 (fun q144 eq144 => ?_)
        refine va_get (D := (dC, dI)) (ci := 3) (v := .ref (ρ h0 1)) (C := RX3) (T := TX3) (N := 6) hx hb hts hfX3 hown hK hP q144 eq144 rfl 1 (by decide) (hts (.fieldLink RX3 9 "ColdShips$Reckoner" "facts" "[J") wa_127) (fun _ h9 => h9) rfl dX3_runClause_57 ?_
        refine lv_iconst (v := (-1)) hx hb dX3_runClause_60 (by decide) ?_
        refine lv_iload hx hb dX3_runClause_61 (lv_at hl 0 rfl) ?_
        refine lv_isub hx hb dX3_runClause_63 ?_
        refine lv_topi (fun z145 ez145 => ?_)
        have iz145 : z145.toInt = (-1) - z23.toInt := zi_sub ez145 rfl rfl (by omega) (by omega)
        refine tpk_21 hT y2 y2n (fun g147 hf_o146 => ?_)
        refine tpk_pos (tp_in hG y2 (by decide)) hf_o146 (fun q148 eq148 => ?_)
        refine va_lald hx hb hK hP q148 1 eq148 rfl (vp_in_iff.mpr ⟨by omega, by omega⟩) dX3_runClause_64 ?_
        refine lv_topl (fun z149 ez149 => ?_)
        have hFc := tp_fr hD hS hA
        refine va_callv (va_runV (As := [.long z149]) (rest := []) ⟨hx, hb, hml, hown, hts⟩ (t_X3_push l dC dI _ Ω κ τ ν ρ L f16 hG hT h0 z149 ht_h0) (cwV 1 hts gX3_runClause_X3_push rfl rfl rfl ⟨rfl, pd_X3_push⟩ ⟨Nat.le_of_ble_eq_true rfl, Nat.le_of_ble_eq_true rfl⟩) ⟨pz_blind, va_recv hK hP (ci := 3) (q0 := q144) rfl eq144, pz_pre hP hK hD hN⟩ rfl rfl hl.1 rfl (lv_room (Nat.le_of_ble_eq_true rfl)) dX3_runClause_65 ⟨Nat.le_of_ble_eq_true rfl, Nat.le_of_ble_eq_true rfl⟩) hS (fun q _ h => hFc q h) hFc (fun f152 t H1 locs ht hvm hw151 hB hz1 hk1 hS => ?_)
        refine tn_3 hw151 (fun hT hF153 hw151p => ?_); clear hw151
        have hR := hR.then hF153 (by decide)
        have hP := hB.1; rw [ht] at hP; have hD := tp_ad f152 hD; clear hB hFc hz1 hk1; subst ht; generalize t.heap = H at hP hS ⊢
        refine lv_goto (tgt := 286) hx hb dX3_runClause_68 (by decide) ?_
        obtain ⟨z154, ez154⟩ : ∃ y : Int32, y = w15 + 1 := ⟨_, rfl⟩
        refine lv_iinc (v := z154) (lv' := [(5, .int z154), (6, .int z23), (4, .int z13), (0, .ref h0), (1, .ref h1), (2, .int v), (3, .int u)]) hx hb dX3_runClause_286 hl (k := 1) rfl (by rw [ez154]; rfl) (by decide) rfl (fun ls hl => ?_)
        have iz154 : z154.toInt = w15.toInt + 1 := zi_add ez154 rfl rfl (by omega) (by omega)
        refine lv_goto (tgt := 20) hx hb dX3_runClause_289 (by decide) ?_
        exact ih17 _ _ _ _ (by rw [hn18]; omega) ⟨f152, z154, rfl, hT, hR, (by omega), hP, hD, hS, lv_sub hl [0, 2, 3, 4, 5, 6] rfl⟩
    · have ic24 : z23.toInt ≥ 0 := zi_ltf rfl rfl c24
      refine lv_aload_n hx hb dX3_runClause_38 rfl (lv_at hl 3 rfl) ?_
      refine lv_iload hx hb dX3_runClause_39 (lv_at hl 0 rfl) ?_
      refine lv_i2l hx hb dX3_runClause_41 rfl ?_
      refine tpk_4 hT ht_h0 (fun o155_x3 o155_x4 o155_x5 hf_o155 ro155_0 => ?_)
      refine tpk_pos (tp_in hG ht_h0 (by decide)) hf_o155 (fun q156 eq156 => ?_)
      have hFc := tp_fr hD hS hA
      refine va_callv (va_runV (As := [.long z23.toInt64]) (rest := []) ⟨hx, hb, hml, hown, hts⟩ (t_X3_push l dC dI _ Ω κ τ ν ρ L f16 hG hT h0 z23.toInt64 ht_h0) (cwV 1 hts gX3_runClause_X3_push rfl rfl rfl ⟨rfl, pd_X3_push⟩ ⟨Nat.le_of_ble_eq_true rfl, Nat.le_of_ble_eq_true rfl⟩) ⟨pz_blind, va_recv hK hP (ci := 3) (q0 := q156) rfl eq156, pz_pre hP hK hD hN⟩ rfl rfl hl.1 rfl (lv_room (Nat.le_of_ble_eq_true rfl)) dX3_runClause_42 ⟨Nat.le_of_ble_eq_true rfl, Nat.le_of_ble_eq_true rfl⟩) hS (fun q _ h => hFc q h) hFc (fun f159 t H1 locs ht hvm hw158 hB hz1 hk1 hS => ?_)
      refine tn_3 hw158 (fun hT hF160 hw158p => ?_); clear hw158
      have hR := hR.then hF160 (by decide)
      have hP := hB.1; rw [ht] at hP; have hD := tp_ad f159 hD; clear hB hFc hz1 hk1; subst ht; generalize t.heap = H at hP hS ⊢
      refine lv_goto (tgt := 286) hx hb dX3_runClause_45 (by decide) ?_
      obtain ⟨z161, ez161⟩ : ∃ y : Int32, y = w15 + 1 := ⟨_, rfl⟩
      refine lv_iinc (v := z161) (lv' := [(5, .int z161), (6, .int z23), (4, .int z13), (0, .ref h0), (1, .ref h1), (2, .int v), (3, .int u)]) hx hb dX3_runClause_286 hl (k := 1) rfl (by rw [ez161]; rfl) (by decide) rfl (fun ls hl => ?_)
      have iz161 : z161.toInt = w15.toInt + 1 := zi_add ez161 rfl rfl (by omega) (by omega)
      refine lv_goto (tgt := 20) hx hb dX3_runClause_289 (by decide) ?_
      exact ih17 _ _ _ _ (by rw [hn18]; omega) ⟨f159, z161, rfl, hT, hR, (by omega), hP, hD, hS, lv_sub hl [0, 2, 3, 4, 5, 6] rfl⟩
set_option maxHeartbeats 4000000 in
set_option maxRecDepth 100000 in
theorem t_X3_findFacts (l : Launch) (dC : Nat → ClassId) (dI : Nat → Nat → Nat) (sz : Nat) (Ω : Nat → Nat → (Nat → Nat) → va_E → Prop) (κ : Nat → ClassId) (τ ν : Nat → Nat) (ρ : Nat → Nat → Nat) (L : List Nat) (f : Nat → va_E) (hG : tp_G τ ν ρ L) (hT : tp_T Ω κ τ ν ρ f) (h0 : Nat) (v : Int32) (h1 : Nat) (u : Int32) (ht_h0 : τ h0 = 4) (ht_h1 : τ h1 = 1) : Met l yX3_findFacts wqX3_findFacts ({ frames := 4, cells := 0, slots := 0, locals := 1200 }) (va_Pc [.ref h0, .int v, .ref h1, .int u] (pz_B dC dI (tp_K κ) (va_pl L f) sz)) (va_Qv (fun (f1 : Nat → va_E) => tp_T Ω κ τ ν ρ f1 ∧ tp_F τ [21] f f1 ∧ True) (fun (f1 : Nat → va_E) (t : State) => pz_E dC dI (tp_K κ) (va_A (va_pl L f) sz) (va_pl L f1) t) (va_A (va_pl L f) sz)) 0 0 (va_A (va_pl L f) sz) := by
  refine Met.ofW (cc := cX3_findFacts) (maxL := 7) (ret := none) (by decide) rfl ?_
  intro p e s m args below meth c s₁ B hml hv
  obtain ⟨rfl, hsz, hP, hK, hD0, hN⟩ := hv
  have hx := B.exec
  have hb := B.bytes
  have hr := B.returns
  have hts := fun (w : Cond) (h : w ∈ WALL) => atoms_spec (ws := wqX3_findFacts) B.pre w (List.mem_cons_of_mem _ h)
  have hown : s.vm.findClass RX3 = some m.cls := findClass_of_methodNamed B.named
  have hlocks := B.notSynchronized
  subst hsz
  have hD := hD0.self (sz := s.heap.size)
  generalize hAe : va_A (va_pl L f) s.heap.size = A at hD ⊢
  have hA : ∀ q : Nat, s.heap.size ≤ q → A q := fun q h => by rw [← hAe]; exact Or.inr h
  have hS : va_S A s.heap s.heap [] := va_S.rf
  have hR : tp_F τ [21] f f := tp_F.rf
  have hl := lv_entry ([.ref h0, .int v, .ref h1, .int u]) (n := 7) (Nat.le_of_ble_eq_true rfl)
  rw [lg_entry_eq]
  generalize (lg_sl ([.ref h0, .int v, .ref h1, .int u]) ++ List.replicate (7 - (lg_sl ([.ref h0, .int v, .ref h1, .int u])).length) Slot.unset).toArray = ls at hl ⊢
  have hl : lv_has ls 7 [(0, .ref h0), (1, .int v), (2, .ref h1), (3, .int u)] := hl
  refine lv_aload_n hx hb dX3_findFacts_0 rfl (lv_at hl 0 rfl) ?_
  refine tgk_4 hG ht_h0 (fun y1 y1l y2 y2n y3 y3n => ?_)
  refine tpk_4 hT ht_h0 (fun o4_x3 o4_x4 o4_x5 hf_o4 ro4_0 => ?_)
  refine tpk_pos (tp_in hG ht_h0 (by decide)) hf_o4 (fun q5 eq5 => ?_)
  refine va_get (D := (dC, dI)) (ci := 3) (v := .ref (ρ h0 0)) (C := RX3) (T := TX3) (N := 6) hx hb hts hfX3 hown hK hP q5 eq5 rfl 0 (by decide) (hts (.fieldLink RX3 18 "ColdShips$Reckoner" "world" "LColdShips$World;") wa_129) (fun _ h9 => h9) rfl dX3_findFacts_1 ?_
  refine tgk_11 hG y1 (fun y6 y6n y7 y7n y8 y9 y10 y11 y11m y11l y12 y12m y12l y13 y13m y13l y14 y14w y14m y14l y15 y15w y15m y15l y16 y16w y16m y16l y17 y17w y17m y17l => ?_)
  refine tpk_11 hT y1 (fun o18_x0 o18_x1 o18_x2 o18_x3 o18_x4 o18_x5 o18_x6 hf_o18 ro18_0 ro18_1 ro18_2 ro18_3 => ?_)
  refine tpk_pos (tp_in hG y1 (by decide)) hf_o18 (fun q19 eq19 => ?_)
  refine va_getN (D := (dC, dI)) (ci := 10) (v := .ref (ρ (ρ h0 0) 17)) (C := RX10) (T := TX10) (N := 19) hx hb hts hfX10 hown hK hP q19 eq19 rfl 17 (by decide) (va_Nw.use rfl (hN.1 (.fieldLinkNest RX3 46 "ColdShips$World" "landings" "LColdShips$Rows;" "ColdShips") nzw_83)) (fun _ h9 => h9) rfl dX3_findFacts_4 ?_
  refine lv_iload_n hx hb dX3_findFacts_7 rfl (lv_at hl 1 rfl) ?_
  refine lv_iconst (v := 2) hx hb dX3_findFacts_8 (by decide) ?_
  refine tgk_5 hG y16 (fun y20 y20n y21a y21b y21c => ?_)
  refine tpk_5 hT y16 (fun o22_x0 o22_x2 hf_o22 ro22_0 ro22_1 => ?_)
  refine tpk_pos (tp_in hG y16 (by decide)) hf_o22 (fun q23 eq23 => ?_)
  refine pz_calli (va_runV (As := [.int v, .int 2]) (rest := []) ⟨hx, hb, hml, hown, hts⟩ (t_X4_number l dC dI _ Ω κ τ ν ρ L f hG hT (ρ (ρ h0 0) 17) v (2) y16) (cwV 2 hts gX3_findFacts_X4_number rfl rfl rfl ⟨rfl, pd_X4_number⟩ ⟨Nat.le_of_ble_eq_true rfl, Nat.le_of_ble_eq_true rfl⟩) ⟨pz_blind, va_recv hK hP (ci := 4) (q0 := q23) rfl eq23, pz_pre hP hK hD hN⟩ rfl rfl hl.1 rfl (lv_room (Nat.le_of_ble_eq_true rfl)) dX3_findFacts_9 ⟨Nat.le_of_ble_eq_true rfl, Nat.le_of_ble_eq_true rfl⟩) (fun r24 hw25 => ?_)
  obtain ⟨hw25r, hw25p⟩ := hw25
  refine lv_istore (lv' := [(4, .int r24), (0, .ref h0), (1, .int v), (2, .ref h1), (3, .int u)]) hx hb dX3_findFacts_12 hl (by decide) rfl (fun ls hl => ?_)
  refine lv_aload_n hx hb dX3_findFacts_14 rfl (lv_at hl 1 rfl) ?_
  refine va_get (D := (dC, dI)) (ci := 3) (v := .ref (ρ h0 0)) (C := RX3) (T := TX3) (N := 6) hx hb hts hfX3 hown hK hP q5 eq5 rfl 0 (by decide) (hts (.fieldLink RX3 18 "ColdShips$Reckoner" "world" "LColdShips$World;") wa_129) (fun _ h9 => h9) rfl dX3_findFacts_15 ?_
  refine va_getN (D := (dC, dI)) (ci := 10) (v := .ref (ρ (ρ h0 0) 17)) (C := RX10) (T := TX10) (N := 19) hx hb hts hfX10 hown hK hP q19 eq19 rfl 17 (by decide) (va_Nw.use rfl (hN.1 (.fieldLinkNest RX3 46 "ColdShips$World" "landings" "LColdShips$Rows;" "ColdShips") nzw_83)) (fun _ h9 => h9) rfl dX3_findFacts_18 ?_
  refine lv_iload_n hx hb dX3_findFacts_21 rfl (lv_at hl 2 rfl) ?_
  refine lv_iconst (v := 3) hx hb dX3_findFacts_22 (by decide) ?_
  refine pz_calli (va_runV (As := [.int v, .int 3]) (rest := []) ⟨hx, hb, hml, hown, hts⟩ (t_X4_number l dC dI _ Ω κ τ ν ρ L f hG hT (ρ (ρ h0 0) 17) v (3) y16) (cwV 2 hts gX3_findFacts_X4_number rfl rfl rfl ⟨rfl, pd_X4_number⟩ ⟨Nat.le_of_ble_eq_true rfl, Nat.le_of_ble_eq_true rfl⟩) ⟨pz_blind, va_recv hK hP (ci := 4) (q0 := q23) rfl eq23, pz_pre hP hK hD hN⟩ rfl rfl hl.1 rfl (lv_room (Nat.le_of_ble_eq_true rfl)) dX3_findFacts_23 ⟨Nat.le_of_ble_eq_true rfl, Nat.le_of_ble_eq_true rfl⟩) (fun r26 hw27 => ?_)
  obtain ⟨hw27r, hw27p⟩ := hw27
  refine lv_istore (lv' := [(5, .int r26), (4, .int r24), (0, .ref h0), (1, .int v), (2, .ref h1), (3, .int u)]) hx hb dX3_findFacts_26 hl (by decide) rfl (fun ls hl => ?_)
  refine lv_aload_n hx hb dX3_findFacts_28 rfl (lv_at hl 4 rfl) ?_
  refine tgk_1 hG ht_h1 (fun y28 y28n y29 y29n => ?_)
  refine tpk_1 hT ht_h1 (fun o30_x2 o30_x3 o30_x4 hf_o30 => ?_)
  refine tpk_pos (tp_in hG ht_h1 (by decide)) hf_o30 (fun q31 eq31 => ?_)
  refine va_getN (D := (dC, dI)) (ci := 0) (v := .int o30_x4) (C := RX0) (T := TX0) (N := 5) hx hb hts hfX0 hown hK hP q31 eq31 rfl 4 (by decide) (va_Nw.use rfl (hN.1 (.fieldLinkNest RX3 58 "ColdShips$Contract" "place" "I" "ColdShips") nzw_103)) (fun _ h9 => h9) rfl dX3_findFacts_29 ?_
  refine lv_aload_n hx hb dX3_findFacts_32 rfl (lv_at hl 2 rfl) ?_
  refine va_get (D := (dC, dI)) (ci := 3) (v := .ref (ρ h0 0)) (C := RX3) (T := TX3) (N := 6) hx hb hts hfX3 hown hK hP q5 eq5 rfl 0 (by decide) (hts (.fieldLink RX3 18 "ColdShips$Reckoner" "world" "LColdShips$World;") wa_129) (fun _ h9 => h9) rfl dX3_findFacts_33 ?_
  refine va_getN (D := (dC, dI)) (ci := 10) (v := .ref (ρ (ρ h0 0) 17)) (C := RX10) (T := TX10) (N := 19) hx hb hts hfX10 hown hK hP q19 eq19 rfl 17 (by decide) (va_Nw.use rfl (hN.1 (.fieldLinkNest RX3 46 "ColdShips$World" "landings" "LColdShips$Rows;" "ColdShips") nzw_83)) (fun _ h9 => h9) rfl dX3_findFacts_36 ?_
  refine lv_iload_n hx hb dX3_findFacts_39 rfl (lv_at hl 3 rfl) ?_
  refine lv_iconst (v := 1) hx hb dX3_findFacts_40 (by decide) ?_
  refine pz_calli (va_runV (As := [.int v, .int 1]) (rest := [.int o30_x4]) ⟨hx, hb, hml, hown, hts⟩ (t_X4_number l dC dI _ Ω κ τ ν ρ L f hG hT (ρ (ρ h0 0) 17) v (1) y16) (cwV 2 hts gX3_findFacts_X4_number rfl rfl rfl ⟨rfl, pd_X4_number⟩ ⟨Nat.le_of_ble_eq_true rfl, Nat.le_of_ble_eq_true rfl⟩) ⟨pz_blind, va_recv hK hP (ci := 4) (q0 := q23) rfl eq23, pz_pre hP hK hD hN⟩ rfl rfl hl.1 rfl (lv_room (Nat.le_of_ble_eq_true rfl)) dX3_findFacts_41 ⟨Nat.le_of_ble_eq_true rfl, Nat.le_of_ble_eq_true rfl⟩) (fun r32 hw33 => ?_)
  obtain ⟨hw33r, hw33p⟩ := hw33
  refine tp_join 52 (fun H locs ls stk => ∃ w34 : Int32, stk = [.int w34] ∧ (0 ≤ w34.toInt ∧ w34.toInt ≤ 1) ∧ va_P (dC, dI) vwCl (va_pl L f) H ∧ va_D A (va_pl L f) ∧ va_S A s.heap H locs ∧ lv_has ls 7 [(5, .int r26), (4, .int r24), (0, .ref h0), (1, .int v), (2, .ref h1), (3, .int u)]) ?_ (fun hj35 => ?_)
  · intro H locs ls stk hI
    refine Exists.elim hI (fun w34 hE90 => tn_6 hE90 (fun e90 rw34 hP hD hS hl => ?_))
    clear hE90 hI; subst e90
    refine lv_istore (lv' := [(6, .int w34), (5, .int r26), (4, .int r24), (0, .ref h0), (1, .int v), (2, .ref h1), (3, .int u)]) hx hb dX3_findFacts_52 hl (by decide) rfl (fun ls hl => ?_)
    refine lv_aload_n hx hb dX3_findFacts_54 rfl (lv_at hl 3 rfl) ?_
    refine va_get (D := (dC, dI)) (ci := 3) (v := .ref (ρ h0 1)) (C := RX3) (T := TX3) (N := 6) hx hb hts hfX3 hown hK hP q5 eq5 rfl 1 (by decide) (hts (.fieldLink RX3 9 "ColdShips$Reckoner" "facts" "[J") wa_127) (fun _ h9 => h9) rfl dX3_findFacts_55 ?_
    refine lv_iconst (v := 0) hx hb dX3_findFacts_58 (by decide) ?_
    refine lv_aload_n hx hb dX3_findFacts_59 rfl (lv_at hl 3 rfl) ?_
    refine va_get (D := (dC, dI)) (ci := 3) (v := .ref (ρ h0 0)) (C := RX3) (T := TX3) (N := 6) hx hb hts hfX3 hown hK hP q5 eq5 rfl 0 (by decide) (hts (.fieldLink RX3 18 "ColdShips$Reckoner" "world" "LColdShips$World;") wa_129) (fun _ h9 => h9) rfl dX3_findFacts_60 ?_
    refine va_getN (D := (dC, dI)) (ci := 10) (v := .ref (ρ (ρ h0 0) 17)) (C := RX10) (T := TX10) (N := 19) hx hb hts hfX10 hown hK hP q19 eq19 rfl 17 (by decide) (va_Nw.use rfl (hN.1 (.fieldLinkNest RX3 46 "ColdShips$World" "landings" "LColdShips$Rows;" "ColdShips") nzw_83)) (fun _ h9 => h9) rfl dX3_findFacts_63 ?_
    refine lv_iload_n hx hb dX3_findFacts_66 rfl (lv_at hl 4 rfl) ?_
    refine lv_iconst (v := 4) hx hb dX3_findFacts_67 (by decide) ?_
    have ro22_0 := tp_hu ro22_0; have ro22_1 := tp_hu ro22_1
    refine pz_calll (va_runV (As := [.int v, .int 4]) (rest := [.int 0, .ref (ρ h0 1)]) ⟨hx, hb, hml, hown, hts⟩ (t_X4_at l dC dI _ Ω κ τ ν ρ L f hG hT (ρ (ρ h0 0) 17) v (4) y16 o22_x0 o22_x2 hf_o22) (cwV 2 hts gX3_findFacts_X4_at rfl rfl rfl ⟨rfl, pd_X4_at⟩ ⟨Nat.le_of_ble_eq_true rfl, Nat.le_of_ble_eq_true rfl⟩) ⟨pz_blind, va_recv hK hP (ci := 4) (q0 := q23) rfl eq23, pz_pre hP hK hD hN⟩ rfl rfl hl.1 rfl (lv_room (Nat.le_of_ble_eq_true rfl)) dX3_findFacts_68 ⟨Nat.le_of_ble_eq_true rfl, Nat.le_of_ble_eq_true rfl⟩) (fun r36 hw37 => ?_)
    obtain ⟨hw37r, hw37p⟩ := hw37
    refine tpk_21 hT y2 y2n (fun g39 hf_o38 => ?_)
    refine tpk_pos (tp_in hG y2 (by decide)) hf_o38 (fun q40 eq40 => ?_)
    refine va_last hx hb hK hP hD hS q40 1 eq40 rfl (vp_in_iff.mpr ⟨by decide, by decide⟩) dX3_findFacts_71 (tp_k (.inl (κ 1, 8, .inr (.inl (vp_updL g39 (0 : Int32).toNatClampNeg r36)))) hD (tp_in hG y2 (by decide)) eq40 (fun f41 H locs hP hD hS g43 k42 => ?_))
    have hT := hT.up y2 g43 k42 (tp_o21 y2n)
    have hR := hR.up y2 (by decide) k42
    generalize (vp_updL g39 (0 : Int32).toNatClampNeg r36) = g44 at g43
    refine lv_aload_n hx hb dX3_findFacts_72 rfl (lv_at hl 3 rfl) ?_
    have hf_45 : f41 h0 = .inr (3, [.ref (ρ h0 0), .ref (ρ h0 1), .ref (ρ h0 2), .int o4_x3, .long o4_x4, .long o4_x5]) := (k42 _ (tp_ne ht_h0 y2 (by decide))).trans hf_o4
    refine tpk_pos (tp_in hG ht_h0 (by decide)) hf_45 (fun q46 eq46 => ?_)
    refine va_get (D := (dC, dI)) (ci := 3) (v := .ref (ρ h0 1)) (C := RX3) (T := TX3) (N := 6) hx hb hts hfX3 hown hK hP q46 eq46 rfl 1 (by decide) (hts (.fieldLink RX3 9 "ColdShips$Reckoner" "facts" "[J") wa_127) (fun _ h9 => h9) rfl dX3_findFacts_73 ?_
    refine lv_iconst (v := 1) hx hb dX3_findFacts_76 (by decide) ?_
    refine lv_aload_n hx hb dX3_findFacts_77 rfl (lv_at hl 3 rfl) ?_
    refine va_get (D := (dC, dI)) (ci := 3) (v := .ref (ρ h0 0)) (C := RX3) (T := TX3) (N := 6) hx hb hts hfX3 hown hK hP q46 eq46 rfl 0 (by decide) (hts (.fieldLink RX3 18 "ColdShips$Reckoner" "world" "LColdShips$World;") wa_129) (fun _ h9 => h9) rfl dX3_findFacts_78 ?_
    refine lv_iload_n hx hb dX3_findFacts_81 rfl (lv_at hl 4 rfl) ?_
    have hf_47 : f41 (ρ h0 0) = .inr (10, [.int o18_x0, .int o18_x1, .int o18_x2, .int o18_x3, .int o18_x4, .int o18_x5, .int o18_x6, .ref (ρ (ρ h0 0) 7), .ref (ρ (ρ h0 0) 8), .ref (ρ (ρ h0 0) 9), .ref (ρ (ρ h0 0) 10), .ref (ρ (ρ h0 0) 11), .ref (ρ (ρ h0 0) 12), .ref (ρ (ρ h0 0) 13), .ref (ρ (ρ h0 0) 14), .ref (ρ (ρ h0 0) 15), .ref (ρ (ρ h0 0) 16), .ref (ρ (ρ h0 0) 17), .ref (ρ (ρ h0 0) 18)]) := (k42 _ (tp_ne y1 y2 (by decide))).trans hf_o18
    refine tpk_pos (tp_in hG y1 (by decide)) hf_47 (fun q48 eq48 => ?_)
    refine pz_calll (va_runV (As := [.int v]) (rest := [.int 1, .ref (ρ h0 1)]) ⟨hx, hb, hml, hown, hts⟩ (t_X10_billedOf l dC dI _ Ω κ τ ν ρ L f41 hG hT (ρ h0 0) v y1) (cwV 1 hts gX3_findFacts_X10_billedOf rfl rfl rfl ⟨rfl, pd_X10_billedOf⟩ ⟨Nat.le_of_ble_eq_true rfl, Nat.le_of_ble_eq_true rfl⟩) ⟨pz_blind, va_recv hK hP (ci := 10) (q0 := q48) rfl eq48, pz_pre hP hK hD hN⟩ rfl rfl hl.1 rfl (lv_room (Nat.le_of_ble_eq_true rfl)) dX3_findFacts_82 ⟨Nat.le_of_ble_eq_true rfl, Nat.le_of_ble_eq_true rfl⟩) (fun r49 hw50 => ?_)
    obtain ⟨hw50r, hw50p⟩ := hw50
    refine tpk_pos (tp_in hG y2 (by decide)) g43 (fun q51 eq51 => ?_)
    refine va_last hx hb hK hP hD hS q51 1 eq51 rfl (vp_in_iff.mpr ⟨by decide, by decide⟩) dX3_findFacts_85 (tp_k (.inl (κ 1, 8, .inr (.inl (vp_updL g44 (1 : Int32).toNatClampNeg r49)))) hD (tp_in hG y2 (by decide)) eq51 (fun f52 H locs hP hD hS g54 k53 => ?_))
    have hT := hT.up y2 g54 k53 (tp_o21 y2n)
    have hR := hR.up y2 (by decide) k53
    generalize (vp_updL g44 (1 : Int32).toNatClampNeg r49) = g55 at g54
    refine lv_aload_n hx hb dX3_findFacts_86 rfl (lv_at hl 3 rfl) ?_
    have hf_56 : f52 h0 = .inr (3, [.ref (ρ h0 0), .ref (ρ h0 1), .ref (ρ h0 2), .int o4_x3, .long o4_x4, .long o4_x5]) := (k53 _ (tp_ne ht_h0 y2 (by decide))).trans hf_45
    refine tpk_pos (tp_in hG ht_h0 (by decide)) hf_56 (fun q57 eq57 => ?_)
    refine va_get (D := (dC, dI)) (ci := 3) (v := .ref (ρ h0 1)) (C := RX3) (T := TX3) (N := 6) hx hb hts hfX3 hown hK hP q57 eq57 rfl 1 (by decide) (hts (.fieldLink RX3 9 "ColdShips$Reckoner" "facts" "[J") wa_127) (fun _ h9 => h9) rfl dX3_findFacts_87 ?_
    refine lv_iconst (v := 2) hx hb dX3_findFacts_90 (by decide) ?_
    refine lv_aload_n hx hb dX3_findFacts_91 rfl (lv_at hl 3 rfl) ?_
    refine va_get (D := (dC, dI)) (ci := 3) (v := .ref (ρ h0 0)) (C := RX3) (T := TX3) (N := 6) hx hb hts hfX3 hown hK hP q57 eq57 rfl 0 (by decide) (hts (.fieldLink RX3 18 "ColdShips$Reckoner" "world" "LColdShips$World;") wa_129) (fun _ h9 => h9) rfl dX3_findFacts_92 ?_
    refine lv_iload_n hx hb dX3_findFacts_95 rfl (lv_at hl 4 rfl) ?_
    have hf_58 : f52 (ρ h0 0) = .inr (10, [.int o18_x0, .int o18_x1, .int o18_x2, .int o18_x3, .int o18_x4, .int o18_x5, .int o18_x6, .ref (ρ (ρ h0 0) 7), .ref (ρ (ρ h0 0) 8), .ref (ρ (ρ h0 0) 9), .ref (ρ (ρ h0 0) 10), .ref (ρ (ρ h0 0) 11), .ref (ρ (ρ h0 0) 12), .ref (ρ (ρ h0 0) 13), .ref (ρ (ρ h0 0) 14), .ref (ρ (ρ h0 0) 15), .ref (ρ (ρ h0 0) 16), .ref (ρ (ρ h0 0) 17), .ref (ρ (ρ h0 0) 18)]) := (k53 _ (tp_ne y1 y2 (by decide))).trans hf_47
    refine tpk_pos (tp_in hG y1 (by decide)) hf_58 (fun q59 eq59 => ?_)
    refine pz_calll (va_runV (As := [.int v]) (rest := [.int 2, .ref (ρ h0 1)]) ⟨hx, hb, hml, hown, hts⟩ (t_X10_heatOf l dC dI _ Ω κ τ ν ρ L f52 hG hT (ρ h0 0) v y1) (cwV 1 hts gX3_findFacts_X10_heatOf rfl rfl rfl ⟨rfl, pd_X10_heatOf⟩ ⟨Nat.le_of_ble_eq_true rfl, Nat.le_of_ble_eq_true rfl⟩) ⟨pz_blind, va_recv hK hP (ci := 10) (q0 := q59) rfl eq59, pz_pre hP hK hD hN⟩ rfl rfl hl.1 rfl (lv_room (Nat.le_of_ble_eq_true rfl)) dX3_findFacts_96 ⟨Nat.le_of_ble_eq_true rfl, Nat.le_of_ble_eq_true rfl⟩) (fun r60 hw61 => ?_)
    obtain ⟨hw61r, hw61p⟩ := hw61
    refine tpk_pos (tp_in hG y2 (by decide)) g54 (fun q62 eq62 => ?_)
    refine va_last hx hb hK hP hD hS q62 1 eq62 rfl (vp_in_iff.mpr ⟨by decide, by decide⟩) dX3_findFacts_99 (tp_k (.inl (κ 1, 8, .inr (.inl (vp_updL g55 (2 : Int32).toNatClampNeg r60)))) hD (tp_in hG y2 (by decide)) eq62 (fun f63 H locs hP hD hS g65 k64 => ?_))
    have hT := hT.up y2 g65 k64 (tp_o21 y2n)
    have hR := hR.up y2 (by decide) k64
    generalize (vp_updL g55 (2 : Int32).toNatClampNeg r60) = g66 at g65
    refine lv_aload_n hx hb dX3_findFacts_100 rfl (lv_at hl 3 rfl) ?_
    have hf_67 : f63 h0 = .inr (3, [.ref (ρ h0 0), .ref (ρ h0 1), .ref (ρ h0 2), .int o4_x3, .long o4_x4, .long o4_x5]) := (k64 _ (tp_ne ht_h0 y2 (by decide))).trans hf_56
    refine tpk_pos (tp_in hG ht_h0 (by decide)) hf_67 (fun q68 eq68 => ?_)
    refine va_get (D := (dC, dI)) (ci := 3) (v := .ref (ρ h0 1)) (C := RX3) (T := TX3) (N := 6) hx hb hts hfX3 hown hK hP q68 eq68 rfl 1 (by decide) (hts (.fieldLink RX3 9 "ColdShips$Reckoner" "facts" "[J") wa_127) (fun _ h9 => h9) rfl dX3_findFacts_101 ?_
    refine lv_iconst (v := 3) hx hb dX3_findFacts_104 (by decide) ?_
    refine lv_aload_n hx hb dX3_findFacts_105 rfl (lv_at hl 3 rfl) ?_
    refine va_get (D := (dC, dI)) (ci := 3) (v := .ref (ρ h0 0)) (C := RX3) (T := TX3) (N := 6) hx hb hts hfX3 hown hK hP q68 eq68 rfl 0 (by decide) (hts (.fieldLink RX3 18 "ColdShips$Reckoner" "world" "LColdShips$World;") wa_129) (fun _ h9 => h9) rfl dX3_findFacts_106 ?_
    have hf_69 : f63 (ρ h0 0) = .inr (10, [.int o18_x0, .int o18_x1, .int o18_x2, .int o18_x3, .int o18_x4, .int o18_x5, .int o18_x6, .ref (ρ (ρ h0 0) 7), .ref (ρ (ρ h0 0) 8), .ref (ρ (ρ h0 0) 9), .ref (ρ (ρ h0 0) 10), .ref (ρ (ρ h0 0) 11), .ref (ρ (ρ h0 0) 12), .ref (ρ (ρ h0 0) 13), .ref (ρ (ρ h0 0) 14), .ref (ρ (ρ h0 0) 15), .ref (ρ (ρ h0 0) 16), .ref (ρ (ρ h0 0) 17), .ref (ρ (ρ h0 0) 18)]) := (k64 _ (tp_ne y1 y2 (by decide))).trans hf_58
    refine tpk_pos (tp_in hG y1 (by decide)) hf_69 (fun q70 eq70 => ?_)
    refine va_getN (D := (dC, dI)) (ci := 10) (v := .ref (ρ (ρ h0 0) 14)) (C := RX10) (T := TX10) (N := 19) hx hb hts hfX10 hown hK hP q70 eq70 rfl 14 (by decide) (va_Nw.use rfl (hN.1 (.fieldLinkNest RX3 73 "ColdShips$World" "forces" "LColdShips$Spans;" "ColdShips") nzw_78)) (fun _ h9 => h9) rfl dX3_findFacts_109 ?_
    refine lv_iconst (v := 0) hx hb dX3_findFacts_112 (by decide) ?_
    refine lv_iload_n hx hb dX3_findFacts_113 rfl (lv_at hl 6 rfl) ?_
    refine lv_aload_n hx hb dX3_findFacts_114 rfl (lv_at hl 5 rfl) ?_
    have hf_71 : f41 h1 = .inr (0, [.ref (ρ h1 0), .ref (ρ h1 1), .int o30_x2, .int o30_x3, .int o30_x4]) := (k42 _ (tp_ne ht_h1 y2 (by decide))).trans hf_o30
    have hf_72 : f52 h1 = .inr (0, [.ref (ρ h1 0), .ref (ρ h1 1), .int o30_x2, .int o30_x3, .int o30_x4]) := (k53 _ (tp_ne ht_h1 y2 (by decide))).trans hf_71
    have hf_73 : f63 h1 = .inr (0, [.ref (ρ h1 0), .ref (ρ h1 1), .int o30_x2, .int o30_x3, .int o30_x4]) := (k64 _ (tp_ne ht_h1 y2 (by decide))).trans hf_72
    refine tpk_pos (tp_in hG ht_h1 (by decide)) hf_73 (fun q74 eq74 => ?_)
    refine va_getN (D := (dC, dI)) (ci := 0) (v := .int o30_x3) (C := RX0) (T := TX0) (N := 5) hx hb hts hfX0 hown hK hP q74 eq74 rfl 3 (by decide) (va_Nw.use rfl (hN.1 (.fieldLinkNest RX3 77 "ColdShips$Contract" "windowTo" "I" "ColdShips") nzw_102)) (fun _ h9 => h9) rfl dX3_findFacts_115 ?_
    refine lv_iconst (v := 1) hx hb dX3_findFacts_118 (by decide) ?_
    refine lv_iadd hx hb dX3_findFacts_119 ?_
    refine lv_topi (fun z75 ez75 => ?_)
    refine lv_iload hx hb dX3_findFacts_120 (lv_at hl 1 rfl) ?_
    refine tgk_7 hG y13 (fun y76 y76n y77 y77n y78 y78n y79a y79b => ?_)
    refine tpk_7 hT y13 (fun o80_x3 hf_o80 ro80_0 => ?_)
    refine tpk_pos (tp_in hG y13 (by decide)) hf_o80 (fun q81 eq81 => ?_)
    have ro80_0 := tp_hu ro80_0
    refine pz_calli (va_runV (As := [.int 0, .int u, .int z75, .int r26]) (rest := [.int 3, .ref (ρ h0 1)]) ⟨hx, hb, hml, hown, hts⟩ (t_X6_freeHours l dC dI _ Ω κ τ ν ρ L f63 hG hT (ρ (ρ h0 0) 14) (0) u z75 r26 y13 o80_x3 hf_o80) (cwV 4 hts gX3_findFacts_X6_freeHours rfl rfl rfl ⟨rfl, pd_X6_freeHours⟩ ⟨Nat.le_of_ble_eq_true rfl, Nat.le_of_ble_eq_true rfl⟩) ⟨pz_blind, va_recv hK hP (ci := 6) (q0 := q81) rfl eq81, pz_pre hP hK hD hN⟩ rfl rfl hl.1 rfl (lv_room (Nat.le_of_ble_eq_true rfl)) dX3_findFacts_122 ⟨Nat.le_of_ble_eq_true rfl, Nat.le_of_ble_eq_true rfl⟩) (fun r82 hw83 => ?_)
    obtain ⟨hw83r, hw83p⟩ := hw83
    refine lv_i2l hx hb dX3_findFacts_125 rfl ?_
    refine tpk_pos (tp_in hG y2 (by decide)) g65 (fun q84 eq84 => ?_)
    refine va_last hx hb hK hP hD hS q84 1 eq84 rfl (vp_in_iff.mpr ⟨by decide, by decide⟩) dX3_findFacts_126 (tp_k (.inl (κ 1, 8, .inr (.inl (vp_updL g66 (3 : Int32).toNatClampNeg r82.toInt64)))) hD (tp_in hG y2 (by decide)) eq84 (fun f85 H locs hP hD hS g87 k86 => ?_))
    have hT := hT.up y2 g87 k86 (tp_o21 y2n)
    have hR := hR.up y2 (by decide) k86
    generalize (vp_updL g66 (3 : Int32).toNatClampNeg r82.toInt64) = g88 at g87
    refine lv_aload_n hx hb dX3_findFacts_127 rfl (lv_at hl 3 rfl) ?_
    have hf_89 : f85 h0 = .inr (3, [.ref (ρ h0 0), .ref (ρ h0 1), .ref (ρ h0 2), .int o4_x3, .long o4_x4, .long o4_x5]) := (k86 _ (tp_ne ht_h0 y2 (by decide))).trans hf_67
    refine tpk_pos (tp_in hG ht_h0 (by decide)) hf_89 (fun q90 eq90 => ?_)
    refine va_get (D := (dC, dI)) (ci := 3) (v := .ref (ρ h0 1)) (C := RX3) (T := TX3) (N := 6) hx hb hts hfX3 hown hK hP q90 eq90 rfl 1 (by decide) (hts (.fieldLink RX3 9 "ColdShips$Reckoner" "facts" "[J") wa_127) (fun _ h9 => h9) rfl dX3_findFacts_128 ?_
    refine lv_iconst (v := 4) hx hb dX3_findFacts_131 (by decide) ?_
    refine lv_iconst (v := 0) hx hb dX3_findFacts_132 (by decide) ?_
    refine lv_aload_n hx hb dX3_findFacts_133 rfl (lv_at hl 5 rfl) ?_
    have hf_91 : f85 h1 = .inr (0, [.ref (ρ h1 0), .ref (ρ h1 1), .int o30_x2, .int o30_x3, .int o30_x4]) := (k86 _ (tp_ne ht_h1 y2 (by decide))).trans hf_73
    refine tpk_pos (tp_in hG ht_h1 (by decide)) hf_91 (fun q92 eq92 => ?_)
    refine va_getN (D := (dC, dI)) (ci := 0) (v := .int o30_x2) (C := RX0) (T := TX0) (N := 5) hx hb hts hfX0 hown hK hP q92 eq92 rfl 2 (by decide) (va_Nw.use rfl (hN.1 (.fieldLinkNest RX3 86 "ColdShips$Contract" "windowFrom" "I" "ColdShips") nzw_101)) (fun _ h9 => h9) rfl dX3_findFacts_134 ?_
    refine lv_iload hx hb dX3_findFacts_137 (lv_at hl 2 rfl) ?_
    refine lv_isub hx hb dX3_findFacts_139 ?_
    refine lv_topi (fun z93 ez93 => ?_)
    refine va_mmax hx hb (by rw [hml]; exact hl.1.symm) hown (hts (.methodLink RX3 89 Lib.Math.max.name) wa_1140) (hts (.static Lib.Math.max.name) wa_70) (hts (.initialized "java/lang/Math") wa_71) (hts (.code Lib.Math.max.name Lib.Math.max.code 2 (some .int)) wa_72) (Nat.le_of_ble_eq_true rfl) (Nat.le_of_ble_eq_true rfl) (Nat.le_of_ble_eq_true rfl) (Nat.le_of_ble_eq_true rfl) dX3_findFacts_140 ?_
    refine lv_topi (fun z94 ez94 => ?_)
    have iz94 := zi_max ez94 (show (0 : Int32).toInt = 0 from rfl) (rfl : z93.toInt = _)
    refine lv_i2l hx hb dX3_findFacts_143 rfl ?_
    refine tpk_pos (tp_in hG y2 (by decide)) g87 (fun q95 eq95 => ?_)
    refine va_last hx hb hK hP hD hS q95 1 eq95 rfl (vp_in_iff.mpr ⟨by decide, by decide⟩) dX3_findFacts_144 (tp_k (.inl (κ 1, 8, .inr (.inl (vp_updL g88 (4 : Int32).toNatClampNeg z94.toInt64)))) hD (tp_in hG y2 (by decide)) eq95 (fun f96 H locs hP hD hS g98 k97 => ?_))
    have hT := hT.up y2 g98 k97 (tp_o21 y2n)
    have hR := hR.up y2 (by decide) k97
    generalize (vp_updL g88 (4 : Int32).toNatClampNeg z94.toInt64) = g99 at g98
    refine lv_aload_n hx hb dX3_findFacts_145 rfl (lv_at hl 3 rfl) ?_
    have hf_100 : f96 h0 = .inr (3, [.ref (ρ h0 0), .ref (ρ h0 1), .ref (ρ h0 2), .int o4_x3, .long o4_x4, .long o4_x5]) := (k97 _ (tp_ne ht_h0 y2 (by decide))).trans hf_89
    refine tpk_pos (tp_in hG ht_h0 (by decide)) hf_100 (fun q101 eq101 => ?_)
    refine va_get (D := (dC, dI)) (ci := 3) (v := .ref (ρ h0 1)) (C := RX3) (T := TX3) (N := 6) hx hb hts hfX3 hown hK hP q101 eq101 rfl 1 (by decide) (hts (.fieldLink RX3 9 "ColdShips$Reckoner" "facts" "[J") wa_127) (fun _ h9 => h9) rfl dX3_findFacts_146 ?_
    refine lv_iconst (v := 5) hx hb dX3_findFacts_149 (by decide) ?_
    refine lv_aload_n hx hb dX3_findFacts_150 rfl (lv_at hl 3 rfl) ?_
    refine va_get (D := (dC, dI)) (ci := 3) (v := .ref (ρ h0 0)) (C := RX3) (T := TX3) (N := 6) hx hb hts hfX3 hown hK hP q101 eq101 rfl 0 (by decide) (hts (.fieldLink RX3 18 "ColdShips$Reckoner" "world" "LColdShips$World;") wa_129) (fun _ h9 => h9) rfl dX3_findFacts_151 ?_
    refine lv_iload_n hx hb dX3_findFacts_154 rfl (lv_at hl 4 rfl) ?_
    refine lv_iload_n hx hb dX3_findFacts_155 rfl (lv_at hl 6 rfl) ?_
    have hf_102 : f85 (ρ h0 0) = .inr (10, [.int o18_x0, .int o18_x1, .int o18_x2, .int o18_x3, .int o18_x4, .int o18_x5, .int o18_x6, .ref (ρ (ρ h0 0) 7), .ref (ρ (ρ h0 0) 8), .ref (ρ (ρ h0 0) 9), .ref (ρ (ρ h0 0) 10), .ref (ρ (ρ h0 0) 11), .ref (ρ (ρ h0 0) 12), .ref (ρ (ρ h0 0) 13), .ref (ρ (ρ h0 0) 14), .ref (ρ (ρ h0 0) 15), .ref (ρ (ρ h0 0) 16), .ref (ρ (ρ h0 0) 17), .ref (ρ (ρ h0 0) 18)]) := (k86 _ (tp_ne y1 y2 (by decide))).trans hf_69
    have hf_103 : f96 (ρ h0 0) = .inr (10, [.int o18_x0, .int o18_x1, .int o18_x2, .int o18_x3, .int o18_x4, .int o18_x5, .int o18_x6, .ref (ρ (ρ h0 0) 7), .ref (ρ (ρ h0 0) 8), .ref (ρ (ρ h0 0) 9), .ref (ρ (ρ h0 0) 10), .ref (ρ (ρ h0 0) 11), .ref (ρ (ρ h0 0) 12), .ref (ρ (ρ h0 0) 13), .ref (ρ (ρ h0 0) 14), .ref (ρ (ρ h0 0) 15), .ref (ρ (ρ h0 0) 16), .ref (ρ (ρ h0 0) 17), .ref (ρ (ρ h0 0) 18)]) := (k97 _ (tp_ne y1 y2 (by decide))).trans hf_102
    refine tpk_pos (tp_in hG y1 (by decide)) hf_103 (fun q104 eq104 => ?_)
    refine pz_calll (va_runV (As := [.int v, .int u]) (rest := [.int 5, .ref (ρ h0 1)]) ⟨hx, hb, hml, hown, hts⟩ (t_X10_priceOf l dC dI _ Ω κ τ ν ρ L f96 hG hT (ρ h0 0) v u y1) (cwV 2 hts gX3_findFacts_X10_priceOf rfl rfl rfl ⟨rfl, pd_X10_priceOf⟩ ⟨Nat.le_of_ble_eq_true rfl, Nat.le_of_ble_eq_true rfl⟩) ⟨pz_blind, va_recv hK hP (ci := 10) (q0 := q104) rfl eq104, pz_pre hP hK hD hN⟩ rfl rfl hl.1 rfl (lv_room (Nat.le_of_ble_eq_true rfl)) dX3_findFacts_156 ⟨Nat.le_of_ble_eq_true rfl, Nat.le_of_ble_eq_true rfl⟩) (fun r105 hw106 => ?_)
    obtain ⟨hw106r, hw106p⟩ := hw106
    refine tpk_pos (tp_in hG y2 (by decide)) g98 (fun q107 eq107 => ?_)
    refine va_last hx hb hK hP hD hS q107 1 eq107 rfl (vp_in_iff.mpr ⟨by decide, by decide⟩) dX3_findFacts_159 (tp_k (.inl (κ 1, 8, .inr (.inl (vp_updL g99 (5 : Int32).toNatClampNeg r105)))) hD (tp_in hG y2 (by decide)) eq107 (fun f108 H locs hP hD hS g110 k109 => ?_))
    have hT := hT.up y2 g110 k109 (tp_o21 y2n)
    have hR := hR.up y2 (by decide) k109
    generalize (vp_updL g99 (5 : Int32).toNatClampNeg r105) = g111 at g110
    refine lv_aload_n hx hb dX3_findFacts_160 rfl (lv_at hl 3 rfl) ?_
    have hf_112 : f108 h0 = .inr (3, [.ref (ρ h0 0), .ref (ρ h0 1), .ref (ρ h0 2), .int o4_x3, .long o4_x4, .long o4_x5]) := (k109 _ (tp_ne ht_h0 y2 (by decide))).trans hf_100
    refine tpk_pos (tp_in hG ht_h0 (by decide)) hf_112 (fun q113 eq113 => ?_)
    refine va_get (D := (dC, dI)) (ci := 3) (v := .ref (ρ h0 1)) (C := RX3) (T := TX3) (N := 6) hx hb hts hfX3 hown hK hP q113 eq113 rfl 1 (by decide) (hts (.fieldLink RX3 9 "ColdShips$Reckoner" "facts" "[J") wa_127) (fun _ h9 => h9) rfl dX3_findFacts_161 ?_
    refine lv_bipush (v := 6) hx hb dX3_findFacts_164 (by decide) ?_
    refine lv_iload hx hb dX3_findFacts_166 (lv_at hl 1 rfl) ?_
    refine lv_iload hx hb dX3_findFacts_168 (lv_at hl 2 rfl) ?_
    refine lv_isub hx hb dX3_findFacts_170 ?_
    refine lv_topi (fun z114 ez114 => ?_)
    refine lv_iconst (v := 1) hx hb dX3_findFacts_171 (by decide) ?_
    refine lv_iadd hx hb dX3_findFacts_172 ?_
    refine lv_topi (fun z115 ez115 => ?_)
    refine lv_i2l hx hb dX3_findFacts_173 rfl ?_
    refine tpk_pos (tp_in hG y2 (by decide)) g110 (fun q116 eq116 => ?_)
    refine va_last hx hb hK hP hD hS q116 1 eq116 rfl (vp_in_iff.mpr ⟨by decide, by decide⟩) dX3_findFacts_174 (tp_k (.inl (κ 1, 8, .inr (.inl (vp_updL g111 (6 : Int32).toNatClampNeg z115.toInt64)))) hD (tp_in hG y2 (by decide)) eq116 (fun f117 H locs hP hD hS g119 k118 => ?_))
    have hT := hT.up y2 g119 k118 (tp_o21 y2n)
    have hR := hR.up y2 (by decide) k118
    generalize (vp_updL g111 (6 : Int32).toNatClampNeg z115.toInt64) = g120 at g119
    refine lv_aload_n hx hb dX3_findFacts_175 rfl (lv_at hl 3 rfl) ?_
    have hf_121 : f117 h0 = .inr (3, [.ref (ρ h0 0), .ref (ρ h0 1), .ref (ρ h0 2), .int o4_x3, .long o4_x4, .long o4_x5]) := (k118 _ (tp_ne ht_h0 y2 (by decide))).trans hf_112
    refine tpk_pos (tp_in hG ht_h0 (by decide)) hf_121 (fun q122 eq122 => ?_)
    refine va_get (D := (dC, dI)) (ci := 3) (v := .ref (ρ h0 1)) (C := RX3) (T := TX3) (N := 6) hx hb hts hfX3 hown hK hP q122 eq122 rfl 1 (by decide) (hts (.fieldLink RX3 9 "ColdShips$Reckoner" "facts" "[J") wa_127) (fun _ h9 => h9) rfl dX3_findFacts_176 ?_
    refine lv_bipush (v := 7) hx hb dX3_findFacts_179 (by decide) ?_
    refine lv_iload hx hb dX3_findFacts_181 (lv_at hl 0 rfl) ?_
    refine lv_if_eq (tgt := 190) hx hb dX3_findFacts_183 (by decide) (fun c123 => ?_) (fun c123 => ?_)
    · have ic123 : w34.toInt = 0 := zi_eq rfl rfl c123
      refine lv_lconst (v := 0) hx hb dX3_findFacts_190 (by decide) ?_
      refine tpk_pos (tp_in hG y2 (by decide)) g119 (fun q124 eq124 => ?_)
      refine va_last hx hb hK hP hD hS q124 1 eq124 rfl (vp_in_iff.mpr ⟨by decide, by decide⟩) dX3_findFacts_191 (tp_k (.inl (κ 1, 8, .inr (.inl (vp_updL g120 (7 : Int32).toNatClampNeg (0 : Int64))))) hD (tp_in hG y2 (by decide)) eq124 (fun f125 H locs hP hD hS g127 k126 => ?_))
      have hT := hT.up y2 g127 k126 (tp_o21 y2n)
      have hR := hR.up y2 (by decide) k126
      generalize (vp_updL g120 (7 : Int32).toNatClampNeg (0 : Int64)) = g128 at g127
      exact W.vret hx hb hr (fun t ht hW => ⟨⟨f125, rfl, ⟨hT, hR, trivial⟩, by rw [ht]; exact hP, va_K.moved hW.alike hK, hD⟩, hS.F ht⟩) hS.2.2 dX3_findFacts_192
    · have ic123 : w34.toInt ≠ 0 := zi_eqf rfl rfl c123
      refine lv_lconst (v := 1) hx hb dX3_findFacts_186 (by decide) ?_
      refine lv_goto (tgt := 191) hx hb dX3_findFacts_187 (by decide) ?_
      refine tpk_pos (tp_in hG y2 (by decide)) g119 (fun q129 eq129 => ?_)
      refine va_last hx hb hK hP hD hS q129 1 eq129 rfl (vp_in_iff.mpr ⟨by decide, by decide⟩) dX3_findFacts_191 (tp_k (.inl (κ 1, 8, .inr (.inl (vp_updL g120 (7 : Int32).toNatClampNeg (1 : Int64))))) hD (tp_in hG y2 (by decide)) eq129 (fun f130 H locs hP hD hS g132 k131 => ?_))
      have hT := hT.up y2 g132 k131 (tp_o21 y2n)
      have hR := hR.up y2 (by decide) k131
      generalize (vp_updL g120 (7 : Int32).toNatClampNeg (1 : Int64)) = g133 at g132
      exact W.vret hx hb hr (fun t ht hW => ⟨⟨f130, rfl, ⟨hT, hR, trivial⟩, by rw [ht]; exact hP, va_K.moved hW.alike hK, hD⟩, hS.F ht⟩) hS.2.2 dX3_findFacts_192
  · refine lv_icmp_eq (tgt := 51) hx hb dX3_findFacts_44 (by decide) (fun c134 => ?_) (fun c134 => ?_)
    · have ic134 : o30_x4.toInt = r32.toInt := zi_eq rfl rfl c134
      refine lv_iconst (v := 0) hx hb dX3_findFacts_51 (by decide) ?_
      exact hj35 _ _ _ _ ⟨0, rfl, (by have : (0 : Int32).toInt = 0 := rfl; omega), hP, hD, hS, lv_sub hl [0, 1, 2, 3, 4, 5] rfl⟩
    · have ic134 : o30_x4.toInt ≠ r32.toInt := zi_eqf rfl rfl c134
      refine lv_iconst (v := 1) hx hb dX3_findFacts_47 (by decide) ?_
      refine lv_goto (tgt := 52) hx hb dX3_findFacts_48 (by decide) ?_
      exact hj35 _ _ _ _ ⟨1, rfl, (by have : (1 : Int32).toInt = 1 := rfl; omega), hP, hD, hS, lv_sub hl [0, 1, 2, 3, 4, 5] rfl⟩
set_option maxHeartbeats 4000000 in
set_option maxRecDepth 100000 in
theorem t_X3_reckon (l : Launch) (dC : Nat → ClassId) (dI : Nat → Nat → Nat) (sz : Nat) (Ω : Nat → Nat → (Nat → Nat) → va_E → Prop) (κ : Nat → ClassId) (τ ν : Nat → Nat) (ρ : Nat → Nat → Nat) (L : List Nat) (f : Nat → va_E) (hG : tp_G τ ν ρ L) (hT : tp_T Ω κ τ ν ρ f) (h0 : Nat) (v : Int32) (h1 : Nat) (u : Int32) (ht_h0 : τ h0 = 4) (ht_h1 : τ h1 = 1) : Met l yX3_reckon wqX3_reckon ({ frames := 6, cells := 0, slots := 0, locals := 2000 }) (va_Pc [.ref h0, .int v, .ref h1, .int u] (pz_B dC dI (tp_K κ) (va_pl L f) sz)) (va_Qv (fun (f1 : Nat → va_E) => tp_T Ω κ τ ν ρ f1 ∧ tp_F τ [4, 21] f f1 ∧ True) (fun (f1 : Nat → va_E) (t : State) => pz_E dC dI (tp_K κ) (va_A (va_pl L f) sz) (va_pl L f1) t) (va_A (va_pl L f) sz)) 0 0 (va_A (va_pl L f) sz) := by
  refine Met.ofW (cc := cX3_reckon) (maxL := 5) (ret := none) (by decide) rfl ?_
  intro p e s m args below meth c s₁ B hml hv
  obtain ⟨rfl, hsz, hP, hK, hD0, hN⟩ := hv
  have hx := B.exec
  have hb := B.bytes
  have hr := B.returns
  have hts := fun (w : Cond) (h : w ∈ WALL) => atoms_spec (ws := wqX3_reckon) B.pre w (List.mem_cons_of_mem _ h)
  have hown : s.vm.findClass RX3 = some m.cls := findClass_of_methodNamed B.named
  have hlocks := B.notSynchronized
  subst hsz
  have hD := hD0.self (sz := s.heap.size)
  generalize hAe : va_A (va_pl L f) s.heap.size = A at hD ⊢
  have hA : ∀ q : Nat, s.heap.size ≤ q → A q := fun q h => by rw [← hAe]; exact Or.inr h
  have hS : va_S A s.heap s.heap [] := va_S.rf
  have hR : tp_F τ [4, 21] f f := tp_F.rf
  have hl := lv_entry ([.ref h0, .int v, .ref h1, .int u]) (n := 5) (Nat.le_of_ble_eq_true rfl)
  rw [lg_entry_eq]
  generalize (lg_sl ([.ref h0, .int v, .ref h1, .int u]) ++ List.replicate (5 - (lg_sl ([.ref h0, .int v, .ref h1, .int u])).length) Slot.unset).toArray = ls at hl ⊢
  have hl : lv_has ls 5 [(0, .ref h0), (1, .int v), (2, .ref h1), (3, .int u)] := hl
  refine lv_aload_n hx hb dX3_reckon_0 rfl (lv_at hl 0 rfl) ?_
  refine lv_lconst (v := 0) hx hb dX3_reckon_1 (by decide) ?_
  refine tgk_4 hG ht_h0 (fun y1 y1l y2 y2n y3 y3n => ?_)
  refine tpk_4 hT ht_h0 (fun o4_x3 o4_x4 o4_x5 hf_o4 ro4_0 => ?_)
  refine tpk_pos (tp_in hG ht_h0 (by decide)) hf_o4 (fun q5 eq5 => ?_)
  refine va_put (D := (dC, dI)) (ci := 3) (v := .long 0) (ty := .long) (C := RX3) (T := TX3) (N := 6) hx hb hts hfX3 tyX3 tyX3_ok nmX3 hown hK hP hD hS q5 eq5 rfl 4 (by decide) (hts (.fieldLink RX3 22 "ColdShips$Reckoner" "pays" "J") wa_1134) (fun _ h9 => h9) rfl (tyX3_ok 4 (by decide)) rfl rfl (Nat.le_of_ble_eq_true rfl) dX3_reckon_2 (tp_k (.inr (3, [.ref (ρ h0 0), .ref (ρ h0 1), .ref (ρ h0 2), .int o4_x3, .long 0, .long o4_x5])) hD (tp_in hG ht_h0 (by decide)) eq5 (fun f6 H locs hP hD hS g8 k7 => ?_))
  have hT := hT.up ht_h0 g8 k7 ⟨_, _, _, rfl, ro4_0⟩
  have hR := hR.up ht_h0 (by decide) k7
  refine lv_aload_n hx hb dX3_reckon_5 rfl (lv_at hl 0 rfl) ?_
  refine lv_lconst (v := 0) hx hb dX3_reckon_6 (by decide) ?_
  refine tpk_pos (tp_in hG ht_h0 (by decide)) g8 (fun q9 eq9 => ?_)
  refine va_put (D := (dC, dI)) (ci := 3) (v := .long 0) (ty := .long) (C := RX3) (T := TX3) (N := 6) hx hb hts hfX3 tyX3 tyX3_ok nmX3 hown hK hP hD hS q9 eq9 rfl 5 (by decide) (hts (.fieldLink RX3 26 "ColdShips$Reckoner" "fines" "J") wa_1135) (fun _ h9 => h9) rfl (tyX3_ok 5 (by decide)) rfl rfl (Nat.le_of_ble_eq_true rfl) dX3_reckon_7 (tp_k (.inr (3, [.ref (ρ h0 0), .ref (ρ h0 1), .ref (ρ h0 2), .int o4_x3, .long 0, .long 0])) hD (tp_in hG ht_h0 (by decide)) eq9 (fun f10 H locs hP hD hS g12 k11 => ?_))
  have hT := hT.up ht_h0 g12 k11 ⟨_, _, _, rfl, ro4_0⟩
  have hR := hR.up ht_h0 (by decide) k11
  refine lv_aload_n hx hb dX3_reckon_10 rfl (lv_at hl 0 rfl) ?_
  refine lv_iload_n hx hb dX3_reckon_11 rfl (lv_at hl 1 rfl) ?_
  refine lv_aload_n hx hb dX3_reckon_12 rfl (lv_at hl 2 rfl) ?_
  refine lv_iload_n hx hb dX3_reckon_13 rfl (lv_at hl 3 rfl) ?_
  refine tpk_pos (tp_in hG ht_h0 (by decide)) g12 (fun q13 eq13 => ?_)
  have hFc := tp_fr hD hS hA
  refine va_callv (va_runV (As := [.int v, .ref h1, .int u]) (rest := []) ⟨hx, hb, hml, hown, hts⟩ (t_X3_findFacts l dC dI _ Ω κ τ ν ρ L f10 hG hT h0 v h1 u ht_h0 ht_h1) (cwV 3 hts gX3_reckon_X3_findFacts rfl rfl rfl ⟨rfl, pd_X3_findFacts⟩ ⟨Nat.le_of_ble_eq_true rfl, Nat.le_of_ble_eq_true rfl⟩) ⟨pz_blind, va_recv hK hP (ci := 3) (q0 := q13) rfl eq13, pz_pre hP hK hD hN⟩ rfl rfl hl.1 rfl (lv_room (Nat.le_of_ble_eq_true rfl)) dX3_reckon_14 ⟨Nat.le_of_ble_eq_true rfl, Nat.le_of_ble_eq_true rfl⟩) hS (fun q _ h => hFc q h) hFc (fun f16 t H1 locs ht hvm hw15 hB hz1 hk1 hS => ?_)
  refine tn_3 hw15 (fun hT hF17 hw15p => ?_); clear hw15
  have hR := hR.then hF17 (by decide)
  have hP := hB.1; rw [ht] at hP; have hD := tp_ad f16 hD; clear hB hFc hz1 hk1; subst ht; generalize t.heap = H at hP hS ⊢
  refine lv_iconst (v := 0) hx hb dX3_reckon_17 (by decide) ?_
  refine lv_istore (lv' := [(4, .int 0), (0, .ref h0), (1, .int v), (2, .ref h1), (3, .int u)]) hx hb dX3_reckon_18 hl (by decide) rfl (fun ls hl => ?_)
  refine pz_loop (fun n0 H locs ls => ∃ f19 : Nat → va_E, ∃ w18 : Int32, n0 = (13 - (w18.toInt)).toNat ∧ tp_T Ω κ τ ν ρ f19 ∧ tp_F τ [4, 21] f f19 ∧ (0 ≤ w18.toInt ∧ w18.toInt ≤ 13) ∧ va_P (dC, dI) vwCl (va_pl L f19) H ∧ va_D A (va_pl L f19) ∧ va_S A s.heap H locs ∧ lv_has ls 5 [(4, .int w18), (0, .ref h0), (1, .int v), (2, .ref h1), (3, .int u)]) ?_ _ _ _ _ ⟨f16, 0, rfl, hT, hR, (by have : (0 : Int32).toInt = 0 := rfl; omega), hP, hD, hS, lv_sub hl [0, 1, 2, 3, 4] rfl⟩
  intro n0 H locs ls hI ih20
  refine Exists.elim hI (fun f19 hE90 => Exists.elim hE90 (fun w18 hE91 => tn_8 hE91 (fun hn21 hT hR rw18 hP hD hS hl => ?_)))
  clear hE91 hE90 hI
  refine lv_iload hx hb dX3_reckon_20 (lv_at hl 0 rfl) ?_
  refine lv_iconst (v := 1) hx hb dX3_reckon_22 (by decide) ?_
  refine lv_iadd hx hb dX3_reckon_23 ?_
  refine lv_topi (fun z22 ez22 => ?_)
  have iz22 : z22.toInt = w18.toInt + 1 := zi_add ez22 rfl rfl (by omega) (by omega)
  refine lv_aload_n hx hb dX3_reckon_24 rfl (lv_at hl 3 rfl) ?_
  refine tgk_1 hG ht_h1 (fun y23 y23n y24 y24n => ?_)
  refine tpk_1 hT ht_h1 (fun o25_x2 o25_x3 o25_x4 hf_o25 => ?_)
  refine tpk_pos (tp_in hG ht_h1 (by decide)) hf_o25 (fun q26 eq26 => ?_)
  refine va_getN (D := (dC, dI)) (ci := 0) (v := .ref (ρ h1 1)) (C := RX0) (T := TX0) (N := 5) hx hb hts hfX0 hown hK hP q26 eq26 rfl 1 (by decide) (va_Nw.use rfl (hN.1 (.fieldLinkNest RX3 33 "ColdShips$Contract" "starts" "[I" "ColdShips") nzw_100)) (fun _ h9 => h9) rfl dX3_reckon_25 ?_
  refine tpk_20 hT y24 rfl (fun g28 hf_o27 => ?_)
  refine tpk_pos (tp_in hG y24 (by decide)) hf_o27 (fun q29 eq29 => ?_)
  obtain ⟨z30, ez30⟩ : ∃ y : Int32, y = Int32.ofNat (ν (ρ h1 1)) := ⟨_, rfl⟩
  have iz30 : z30.toInt = ((ν (ρ h1 1)) : Int) := zi_ofNat ez30 (by omega)
  refine va_alen hx hb hK hP q29 0 eq29 rfl ez30.symm dX3_reckon_28 ?_
  refine lv_icmp_ge (tgt := 62) hx hb dX3_reckon_29 (by decide) (fun c31 => ?_) (fun c31 => ?_)
  · have ic31 : z22.toInt ≥ z30.toInt := zi_ge rfl rfl c31
    exact W.vret hx hb hr (fun t ht hW => ⟨⟨f19, rfl, ⟨hT, hR, trivial⟩, by rw [ht]; exact hP, va_K.moved hW.alike hK, hD⟩, hS.F ht⟩) hS.2.2 dX3_reckon_62
  · have ic31 : z22.toInt < z30.toInt := zi_gef rfl rfl c31
    refine lv_aload_n hx hb dX3_reckon_32 rfl (lv_at hl 1 rfl) ?_
    refine lv_aload_n hx hb dX3_reckon_33 rfl (lv_at hl 3 rfl) ?_
    refine va_getN (D := (dC, dI)) (ci := 0) (v := .ref (ρ h1 0)) (C := RX0) (T := TX0) (N := 5) hx hb hts hfX0 hown hK hP q26 eq26 rfl 0 (by decide) (va_Nw.use rfl (hN.1 (.fieldLinkNest RX3 39 "ColdShips$Contract" "code" "[I" "ColdShips") nzw_99)) (fun _ h9 => h9) rfl dX3_reckon_34 ?_
    refine lv_aload_n hx hb dX3_reckon_37 rfl (lv_at hl 3 rfl) ?_
    refine va_getN (D := (dC, dI)) (ci := 0) (v := .ref (ρ h1 1)) (C := RX0) (T := TX0) (N := 5) hx hb hts hfX0 hown hK hP q26 eq26 rfl 1 (by decide) (va_Nw.use rfl (hN.1 (.fieldLinkNest RX3 33 "ColdShips$Contract" "starts" "[I" "ColdShips") nzw_100)) (fun _ h9 => h9) rfl dX3_reckon_38 ?_
    refine lv_iload hx hb dX3_reckon_41 (lv_at hl 0 rfl) ?_
    refine va_iald hx hb hK hP q29 0 eq29 rfl (vp_in_iff.mpr ⟨by omega, by omega⟩) dX3_reckon_43 ?_
    refine lv_topi (fun z32 ez32 => ?_)
    refine lv_aload_n hx hb dX3_reckon_44 rfl (lv_at hl 3 rfl) ?_
    refine va_getN (D := (dC, dI)) (ci := 0) (v := .ref (ρ h1 1)) (C := RX0) (T := TX0) (N := 5) hx hb hts hfX0 hown hK hP q26 eq26 rfl 1 (by decide) (va_Nw.use rfl (hN.1 (.fieldLinkNest RX3 33 "ColdShips$Contract" "starts" "[I" "ColdShips") nzw_100)) (fun _ h9 => h9) rfl dX3_reckon_45 ?_
    refine lv_iload hx hb dX3_reckon_48 (lv_at hl 0 rfl) ?_
    refine lv_iconst (v := 1) hx hb dX3_reckon_50 (by decide) ?_
    refine lv_iadd hx hb dX3_reckon_51 ?_
    refine lv_topi (fun z33 ez33 => ?_)
    have iz33 : z33.toInt = w18.toInt + 1 := zi_add ez33 rfl rfl (by omega) (by omega)
    refine va_iald hx hb hK hP q29 0 eq29 rfl (vp_in_iff.mpr ⟨by omega, by omega⟩) dX3_reckon_52 ?_
    refine lv_topi (fun z34 ez34 => ?_)
    refine tpk_4 hT ht_h0 (fun o35_x3 o35_x4 o35_x5 hf_o35 ro35_0 => ?_)
    refine tpk_pos (tp_in hG ht_h0 (by decide)) hf_o35 (fun q36 eq36 => ?_)
    have hFc := tp_fr hD hS hA
    refine va_callv (va_runV (As := [.ref (ρ h1 0), .int z32, .int z34]) (rest := []) ⟨hx, hb, hml, hown, hts⟩ (t_X3_runClause l dC dI _ Ω κ τ ν ρ L f19 hG hT h0 (ρ h1 0) z32 z34 ht_h0 y23 (by omega)) (cwV 3 hts gX3_reckon_X3_runClause rfl rfl rfl ⟨rfl, pd_X3_runClause⟩ ⟨Nat.le_of_ble_eq_true rfl, Nat.le_of_ble_eq_true rfl⟩) ⟨pz_blind, va_recv hK hP (ci := 3) (q0 := q36) rfl eq36, pz_pre hP hK hD hN⟩ rfl rfl hl.1 rfl (lv_room (Nat.le_of_ble_eq_true rfl)) dX3_reckon_53 ⟨Nat.le_of_ble_eq_true rfl, Nat.le_of_ble_eq_true rfl⟩) hS (fun q _ h => hFc q h) hFc (fun f39 t H1 locs ht hvm hw38 hB hz1 hk1 hS => ?_)
    refine tn_3 hw38 (fun hT hF40 hw38p => ?_); clear hw38
    have hR := hR.then hF40 (by decide)
    have hP := hB.1; rw [ht] at hP; have hD := tp_ad f39 hD; clear hB hFc hz1 hk1; subst ht; generalize t.heap = H at hP hS ⊢
    obtain ⟨z41, ez41⟩ : ∃ y : Int32, y = w18 + 1 := ⟨_, rfl⟩
    refine lv_iinc (v := z41) (lv' := [(4, .int z41), (0, .ref h0), (1, .int v), (2, .ref h1), (3, .int u)]) hx hb dX3_reckon_56 hl (k := 0) rfl (by rw [ez41]; rfl) (by decide) rfl (fun ls hl => ?_)
    have iz41 : z41.toInt = w18.toInt + 1 := zi_add ez41 rfl rfl (by omega) (by omega)
    refine lv_goto (tgt := 20) hx hb dX3_reckon_59 (by decide) ?_
    exact ih20 _ _ _ _ (by rw [hn21]; omega) ⟨f39, z41, rfl, hT, hR, (by omega), hP, hD, hS, lv_sub hl [0, 1, 2, 3, 4] rfl⟩
set_option maxHeartbeats 4000000 in
set_option maxRecDepth 100000 in
theorem t_X3_tonsRead (l : Launch) (dC : Nat → ClassId) (dI : Nat → Nat → Nat) (sz : Nat) (Ω : Nat → Nat → (Nat → Nat) → va_E → Prop) (κ : Nat → ClassId) (τ ν : Nat → Nat) (ρ : Nat → Nat → Nat) (L : List Nat) (f : Nat → va_E) (hG : tp_G τ ν ρ L) (hT : tp_T Ω κ τ ν ρ f) (h0 : Nat) (v : Int32) (u : Int32) (a : Int32) (ht_h0 : τ h0 = 4) : Met l yX3_tonsRead wqX3_tonsRead ({ frames := 4, cells := 0, slots := 0, locals := 1200 }) (va_Pc [.ref h0, .int v, .int u, .int a] (pz_B dC dI (tp_K κ) (va_pl L f) sz)) (vp_Sl (fun r => True ∧ True)) 0 0 (fun _ => False) := by
  refine Met.ofW (cc := cX3_tonsRead) (maxL := 7) (ret := some .long) (by decide) rfl ?_
  intro p e s m args below meth c s₁ B hml hv
  obtain ⟨rfl, hsz, hP, hK, hD0, hN⟩ := hv
  have hx := B.exec
  have hb := B.bytes
  have hr := B.returns
  have hts := fun (w : Cond) (h : w ∈ WALL) => atoms_spec (ws := wqX3_tonsRead) B.pre w (List.mem_cons_of_mem _ h)
  have hown : s.vm.findClass RX3 = some m.cls := findClass_of_methodNamed B.named
  have hlocks := B.notSynchronized
  subst hsz
  have hD := hD0
  have hS : va_S (fun _ => True) s.heap s.heap [] := va_S.rf
  have hl := lv_entry ([.ref h0, .int v, .int u, .int a]) (n := 7) (Nat.le_of_ble_eq_true rfl)
  rw [lg_entry_eq]
  generalize (lg_sl ([.ref h0, .int v, .int u, .int a]) ++ List.replicate (7 - (lg_sl ([.ref h0, .int v, .int u, .int a])).length) Slot.unset).toArray = ls at hl ⊢
  have hl : lv_has ls 7 [(0, .ref h0), (1, .int v), (2, .int u), (3, .int a)] := hl
  refine lv_aload_n hx hb dX3_tonsRead_0 rfl (lv_at hl 0 rfl) ?_
  refine tgk_4 hG ht_h0 (fun y1 y1l y2 y2n y3 y3n => ?_)
  refine tpk_4 hT ht_h0 (fun o4_x3 o4_x4 o4_x5 hf_o4 ro4_0 => ?_)
  refine tpk_pos (tp_in hG ht_h0 (by decide)) hf_o4 (fun q5 eq5 => ?_)
  refine va_get (D := (dC, dI)) (ci := 3) (v := .ref (ρ h0 0)) (C := RX3) (T := TX3) (N := 6) hx hb hts hfX3 hown hK hP q5 eq5 rfl 0 (by decide) (hts (.fieldLink RX3 18 "ColdShips$Reckoner" "world" "LColdShips$World;") wa_129) (fun _ h9 => h9) rfl dX3_tonsRead_1 ?_
  refine tgk_11 hG y1 (fun y6 y6n y7 y7n y8 y9 y10 y11 y11m y11l y12 y12m y12l y13 y13m y13l y14 y14w y14m y14l y15 y15w y15m y15l y16 y16w y16m y16l y17 y17w y17m y17l => ?_)
  refine tpk_11 hT y1 (fun o18_x0 o18_x1 o18_x2 o18_x3 o18_x4 o18_x5 o18_x6 hf_o18 ro18_0 ro18_1 ro18_2 ro18_3 => ?_)
  refine tpk_pos (tp_in hG y1 (by decide)) hf_o18 (fun q19 eq19 => ?_)
  refine va_getN (D := (dC, dI)) (ci := 10) (v := .ref (ρ (ρ h0 0) 17)) (C := RX10) (T := TX10) (N := 19) hx hb hts hfX10 hown hK hP q19 eq19 rfl 17 (by decide) (va_Nw.use rfl (hN.1 (.fieldLinkNest RX3 46 "ColdShips$World" "landings" "LColdShips$Rows;" "ColdShips") nzw_83)) (fun _ h9 => h9) rfl dX3_tonsRead_4 ?_
  refine lv_iload_n hx hb dX3_tonsRead_7 rfl (lv_at hl 1 rfl) ?_
  refine lv_iconst (v := 0) hx hb dX3_tonsRead_8 (by decide) ?_
  refine tgk_5 hG y16 (fun y20 y20n y21a y21b y21c => ?_)
  refine tpk_5 hT y16 (fun o22_x0 o22_x2 hf_o22 ro22_0 ro22_1 => ?_)
  refine tpk_pos (tp_in hG y16 (by decide)) hf_o22 (fun q23 eq23 => ?_)
  refine pz_calli (va_runV (As := [.int v, .int 0]) (rest := []) ⟨hx, hb, hml, hown, hts⟩ (t_X4_number l dC dI _ Ω κ τ ν ρ L f hG hT (ρ (ρ h0 0) 17) v (0) y16) (cwV 2 hts gX3_tonsRead_X4_number rfl rfl rfl ⟨rfl, pd_X4_number⟩ ⟨Nat.le_of_ble_eq_true rfl, Nat.le_of_ble_eq_true rfl⟩) ⟨pz_blind, va_recv hK hP (ci := 4) (q0 := q23) rfl eq23, pz_pre hP hK hD hN⟩ rfl rfl hl.1 rfl (lv_room (Nat.le_of_ble_eq_true rfl)) dX3_tonsRead_9 ⟨Nat.le_of_ble_eq_true rfl, Nat.le_of_ble_eq_true rfl⟩) (fun r24 hw25 => ?_)
  obtain ⟨hw25r, hw25p⟩ := hw25
  refine lv_istore (lv' := [(4, .int r24), (0, .ref h0), (1, .int v), (2, .int u), (3, .int a)]) hx hb dX3_tonsRead_12 hl (by decide) rfl (fun ls hl => ?_)
  refine lv_aload_n hx hb dX3_tonsRead_14 rfl (lv_at hl 1 rfl) ?_
  refine va_get (D := (dC, dI)) (ci := 3) (v := .ref (ρ h0 0)) (C := RX3) (T := TX3) (N := 6) hx hb hts hfX3 hown hK hP q5 eq5 rfl 0 (by decide) (hts (.fieldLink RX3 18 "ColdShips$Reckoner" "world" "LColdShips$World;") wa_129) (fun _ h9 => h9) rfl dX3_tonsRead_15 ?_
  refine lv_iload hx hb dX3_tonsRead_18 (lv_at hl 0 rfl) ?_
  have ro18_0 := tp_hu ro18_0; have ro18_1 := tp_hu ro18_1; have ro18_2 := tp_hu ro18_2; have ro18_3 := tp_hu ro18_3
  refine pz_calli (va_runV (As := [.int r24]) (rest := []) ⟨hx, hb, hml, hown, hts⟩ (t_X10_hasShip l dC dI _ Ω κ τ ν ρ L f hG hT (ρ h0 0) r24 y1 o18_x0 o18_x1 o18_x2 o18_x3 o18_x4 o18_x5 o18_x6 hf_o18) (cwV 1 hts gX3_tonsRead_X10_hasShip rfl rfl rfl ⟨rfl, pd_X10_hasShip⟩ ⟨Nat.le_of_ble_eq_true rfl, Nat.le_of_ble_eq_true rfl⟩) ⟨pz_blind, va_recv hK hP (ci := 10) (q0 := q19) rfl eq19, pz_pre hP hK hD hN⟩ rfl rfl hl.1 rfl (lv_room (Nat.le_of_ble_eq_true rfl)) dX3_tonsRead_20 ⟨Nat.le_of_ble_eq_true rfl, Nat.le_of_ble_eq_true rfl⟩) (fun r26 hw27 => ?_)
  obtain ⟨hw27r, hw27p⟩ := hw27
  refine lv_if_eq (tgt := 42) hx hb dX3_tonsRead_23 (by decide) (fun c28 => ?_) (fun c28 => ?_)
  · have ic28 : r26.toInt = 0 := zi_eq rfl rfl c28
    clear hw27r ic28
    refine lv_ldc2 (own := RX3) (v := (-2000000000000000)) hx hb hown (hts (.constantLong RX3 138 (-2000000000000000)) wa_1288) dX3_tonsRead_42 ?_
    exact W.lret (v := (-2000000000000000)) hx hb hr (fun t ht hW => ⟨(-2000000000000000), rfl, ⟨trivial, trivial⟩, ht⟩) (fun _ h => by cases h) dX3_tonsRead_45
  · have ic28 : r26.toInt ≠ 0 := zi_eqf rfl rfl c28
    have p29 : 0 ≤ r24.toInt ∧ r24.toInt < o18_x5.toInt := (tp_cond.yes hw27p) (by omega)
    clear hw27r ic28
    refine lv_aload_n hx hb dX3_tonsRead_26 rfl (lv_at hl 1 rfl) ?_
    refine va_get (D := (dC, dI)) (ci := 3) (v := .ref (ρ h0 0)) (C := RX3) (T := TX3) (N := 6) hx hb hts hfX3 hown hK hP q5 eq5 rfl 0 (by decide) (hts (.fieldLink RX3 18 "ColdShips$Reckoner" "world" "LColdShips$World;") wa_129) (fun _ h9 => h9) rfl dX3_tonsRead_27 ?_
    refine va_getN (D := (dC, dI)) (ci := 10) (v := .ref (ρ (ρ h0 0) 10)) (C := RX10) (T := TX10) (N := 19) hx hb hts hfX10 hown hK hP q19 eq19 rfl 10 (by decide) (va_Nw.use rfl (hN.1 (.fieldLinkNest RX3 128 "ColdShips$World" "ships" "[LColdShips$Ship;" "ColdShips") nzw_71)) (fun _ h9 => h9) rfl dX3_tonsRead_30 ?_
    refine lv_iload hx hb dX3_tonsRead_33 (lv_at hl 0 rfl) ?_
    refine tpk_25 hT y9 (fun g31 hf_o30 hf_o30e => ?_)
    refine tpk_pos (tp_in hG y9 (by decide)) hf_o30 (fun q32 eq32 => ?_)
    refine va_aldq hx hb hK hP q32 5 eq32 rfl (vp_in_iff.mpr ⟨by omega, by omega⟩) dX3_tonsRead_35 ?_
    obtain ⟨b33, hb34⟩ : ∃ b : Nat, b = ρ (ρ (ρ h0 0) 10) r24.toNatClampNeg := ⟨_, rfl⟩
    have hb34t : τ b33 = 6 := by rw [hb34]; exact tpg_25 hG y9 _ (zi_cl (vp_in_iff.mpr ⟨by omega, by omega⟩))
    have hb34g : g31 r24.toNatClampNeg = some b33 := by rw [hb34]; exact hf_o30e _ (zi_cl (vp_in_iff.mpr ⟨by omega, by omega⟩))
    refine W.eq (g2 := F0 m 36 ls (.ref b33 :: [])) (congrArg (fun o => F0 m 36 ls (va_rf o :: [])) hb34g) ?_
    refine tgk_6 hG hb34t (fun y35 y36 y36n y37 y37n y38 y38n y39 y39n y40 y40n y41 y41n => ?_)
    refine tpk_6 hT hb34t (fun o42_x1 o42_x2 o42_x3 o42_x4 o42_x5 o42_x6 o42_x10 o42_x11 o42_x12 o42_x14 hf_o42 ro42_0 ro42_1 ro42_2 => ?_)
    refine tpk_pos (tp_in hG hb34t (by decide)) hf_o42 (fun q43 eq43 => ?_)
    refine pz_calli (va_runV (As := []) (rest := []) ⟨hx, hb, hml, hown, hts⟩ (t_X5_gaugeCounts l dC dI _ Ω κ τ ν ρ L f hG hT b33 hb34t) (cwV 0 hts gX3_tonsRead_X5_gaugeCounts rfl rfl rfl ⟨rfl, pd_X5_gaugeCounts⟩ ⟨Nat.le_of_ble_eq_true rfl, Nat.le_of_ble_eq_true rfl⟩) ⟨pz_blind, va_recv hK hP (ci := 5) (q0 := q43) rfl eq43, pz_pre hP hK hD hN⟩ rfl rfl hl.1 rfl (lv_room (Nat.le_of_ble_eq_true rfl)) dX3_tonsRead_36 ⟨Nat.le_of_ble_eq_true rfl, Nat.le_of_ble_eq_true rfl⟩) (fun r44 hw45 => ?_)
    obtain ⟨hw45r, hw45p⟩ := hw45
    refine lv_if_ne (tgt := 46) hx hb dX3_tonsRead_39 (by decide) (fun c46 => ?_) (fun c46 => ?_)
    · have ic46 : r44.toInt ≠ 0 := zi_ne rfl rfl c46
      refine lv_aload_n hx hb dX3_tonsRead_46 rfl (lv_at hl 1 rfl) ?_
      refine va_get (D := (dC, dI)) (ci := 3) (v := .ref (ρ h0 0)) (C := RX3) (T := TX3) (N := 6) hx hb hts hfX3 hown hK hP q5 eq5 rfl 0 (by decide) (hts (.fieldLink RX3 18 "ColdShips$Reckoner" "world" "LColdShips$World;") wa_129) (fun _ h9 => h9) rfl dX3_tonsRead_47 ?_
      refine va_getN (D := (dC, dI)) (ci := 10) (v := .ref (ρ (ρ h0 0) 16)) (C := RX10) (T := TX10) (N := 19) hx hb hts hfX10 hown hK hP q19 eq19 rfl 16 (by decide) (va_Nw.use rfl (hN.1 (.fieldLinkNest RX3 140 "ColdShips$World" "readings" "LColdShips$Rows;" "ColdShips") nzw_81)) (fun _ h9 => h9) rfl dX3_tonsRead_50 ?_
      refine tgk_5 hG y15 (fun y47 y47n y48a y48b y48c => ?_)
      refine tpk_5 hT y15 (fun o49_x0 o49_x2 hf_o49 ro49_0 ro49_1 => ?_)
      refine tpk_pos (tp_in hG y15 (by decide)) hf_o49 (fun q50 eq50 => ?_)
      have ro49_1 := tp_hu ro49_1
      refine va_getN (D := (dC, dI)) (ci := 4) (v := .int o49_x2) (C := RX4) (T := TX4) (N := 3) hx hb hts hfX4 hown hK hP q50 eq50 rfl 2 (by decide) (va_Nw.use rfl (hN.1 (.fieldLinkNest RX3 143 "ColdShips$Rows" "size" "I" "ColdShips") nzw_3)) (fun _ h9 => h9) rfl dX3_tonsRead_53 ?_
      refine lv_iconst (v := 1) hx hb dX3_tonsRead_56 (by decide) ?_
      refine lv_isub hx hb dX3_tonsRead_57 ?_
      refine lv_topi (fun z51 ez51 => ?_)
      have iz51 : z51.toInt = o49_x2.toInt - 1 := zi_sub ez51 rfl rfl (by omega) (by omega)
      refine lv_istore (lv' := [(5, .int z51), (4, .int r24), (0, .ref h0), (1, .int v), (2, .int u), (3, .int a)]) hx hb dX3_tonsRead_58 hl (by decide) rfl (fun ls hl => ?_)
      refine pz_loop (fun n0 H locs ls => ∃ w52 : Int32, n0 = ((w52.toInt) + 1).toNat ∧ ((-1) ≤ w52.toInt ∧ w52.toInt ≤ 59) ∧ H = s.heap ∧ locs = [] ∧ lv_has ls 7 [(5, .int w52), (4, .int r24), (0, .ref h0), (1, .int v), (2, .int u), (3, .int a)]) ?_ _ _ _ _ ⟨z51, rfl, (by omega), rfl, rfl, lv_sub hl [0, 1, 2, 3, 4, 5] rfl⟩
      intro n0 H locs ls hI ih53
      refine Exists.elim hI (fun w52 hE90 => tn_5 hE90 (fun hn54 rw52 e92 e93 hl => ?_))
      clear hE90 hI; subst e92; subst e93
      refine lv_iload hx hb dX3_tonsRead_60 (lv_at hl 0 rfl) ?_
      refine lv_if_lt (tgt := 187) hx hb dX3_tonsRead_62 (by decide) (fun c55 => ?_) (fun c55 => ?_)
      · have ic55 : w52.toInt < 0 := zi_lt rfl rfl c55
        refine lv_ldc2 (own := RX3) (v := (-2000000000000000)) hx hb hown (hts (.constantLong RX3 138 (-2000000000000000)) wa_1288) dX3_tonsRead_187 ?_
        exact W.lret (v := (-2000000000000000)) hx hb hr (fun t ht hW => ⟨(-2000000000000000), rfl, ⟨trivial, trivial⟩, ht⟩) (fun _ h => by cases h) dX3_tonsRead_190
      · have ic55 : w52.toInt ≥ 0 := zi_ltf rfl rfl c55
        refine lv_aload_n hx hb dX3_tonsRead_65 rfl (lv_at hl 2 rfl) ?_
        refine va_get (D := (dC, dI)) (ci := 3) (v := .ref (ρ h0 0)) (C := RX3) (T := TX3) (N := 6) hx hb hts hfX3 hown hK hP q5 eq5 rfl 0 (by decide) (hts (.fieldLink RX3 18 "ColdShips$Reckoner" "world" "LColdShips$World;") wa_129) (fun _ h9 => h9) rfl dX3_tonsRead_66 ?_
        refine va_getN (D := (dC, dI)) (ci := 10) (v := .ref (ρ (ρ h0 0) 16)) (C := RX10) (T := TX10) (N := 19) hx hb hts hfX10 hown hK hP q19 eq19 rfl 16 (by decide) (va_Nw.use rfl (hN.1 (.fieldLinkNest RX3 140 "ColdShips$World" "readings" "LColdShips$Rows;" "ColdShips") nzw_81)) (fun _ h9 => h9) rfl dX3_tonsRead_69 ?_
        refine lv_iload hx hb dX3_tonsRead_72 (lv_at hl 0 rfl) ?_
        refine lv_iconst (v := 0) hx hb dX3_tonsRead_74 (by decide) ?_
        have ro49_0 := tp_hu ro49_0
        refine pz_calll (va_runV (As := [.int w52, .int 0]) (rest := []) ⟨hx, hb, hml, hown, hts⟩ (t_X4_at l dC dI _ Ω κ τ ν ρ L f hG hT (ρ (ρ h0 0) 16) w52 (0) y15 o49_x0 o49_x2 hf_o49) (cwV 2 hts gX3_tonsRead_X4_at rfl rfl rfl ⟨rfl, pd_X4_at⟩ ⟨Nat.le_of_ble_eq_true rfl, Nat.le_of_ble_eq_true rfl⟩) ⟨pz_blind, va_recv hK hP (ci := 4) (q0 := q50) rfl eq50, pz_pre hP hK hD hN⟩ rfl rfl hl.1 rfl (lv_room (Nat.le_of_ble_eq_true rfl)) dX3_tonsRead_75 ⟨Nat.le_of_ble_eq_true rfl, Nat.le_of_ble_eq_true rfl⟩) (fun r56 hw57 => ?_)
        obtain ⟨hw57r, hw57p⟩ := hw57
        refine lv_iload_n hx hb dX3_tonsRead_78 rfl (lv_at hl 3 rfl) ?_
        refine lv_i2l hx hb dX3_tonsRead_79 rfl ?_
        refine W.lcmp hx hb dX3_tonsRead_80 ?_
        refine lv_if_ne (tgt := 181) hx hb dX3_tonsRead_81 (by decide) (fun c58 => ?_) (fun c58 => ?_)
        · have ic58 : r56.toInt ≠ v.toInt := zl_ne rfl (Int32.toInt_toInt64 v) c58
          obtain ⟨z59, ez59⟩ : ∃ y : Int32, y = w52 + (-1) := ⟨_, rfl⟩
          refine lv_iinc (v := z59) (lv' := [(5, .int z59), (4, .int r24), (0, .ref h0), (1, .int v), (2, .int u), (3, .int a)]) hx hb dX3_tonsRead_181 hl (k := 0) rfl (by rw [ez59]; rfl) (by decide) rfl (fun ls hl => ?_)
          have iz59 : z59.toInt = w52.toInt + (-1) := zi_add ez59 rfl rfl (by omega) (by omega)
          refine lv_goto (tgt := 60) hx hb dX3_tonsRead_184 (by decide) ?_
          exact ih53 _ _ _ _ (by rw [hn54]; omega) ⟨z59, rfl, (by omega), rfl, rfl, lv_sub hl [0, 1, 2, 3, 4, 5] rfl⟩
        · have ic58 : r56.toInt = v.toInt := zl_nef rfl (Int32.toInt_toInt64 v) c58
          refine lv_aload_n hx hb dX3_tonsRead_84 rfl (lv_at hl 2 rfl) ?_
          refine va_get (D := (dC, dI)) (ci := 3) (v := .ref (ρ h0 0)) (C := RX3) (T := TX3) (N := 6) hx hb hts hfX3 hown hK hP q5 eq5 rfl 0 (by decide) (hts (.fieldLink RX3 18 "ColdShips$Reckoner" "world" "LColdShips$World;") wa_129) (fun _ h9 => h9) rfl dX3_tonsRead_85 ?_
          refine va_getN (D := (dC, dI)) (ci := 10) (v := .ref (ρ (ρ h0 0) 16)) (C := RX10) (T := TX10) (N := 19) hx hb hts hfX10 hown hK hP q19 eq19 rfl 16 (by decide) (va_Nw.use rfl (hN.1 (.fieldLinkNest RX3 140 "ColdShips$World" "readings" "LColdShips$Rows;" "ColdShips") nzw_81)) (fun _ h9 => h9) rfl dX3_tonsRead_88 ?_
          refine lv_iload hx hb dX3_tonsRead_91 (lv_at hl 0 rfl) ?_
          refine lv_iconst (v := 1) hx hb dX3_tonsRead_93 (by decide) ?_
          refine pz_calll (va_runV (As := [.int w52, .int 1]) (rest := []) ⟨hx, hb, hml, hown, hts⟩ (t_X4_at l dC dI _ Ω κ τ ν ρ L f hG hT (ρ (ρ h0 0) 16) w52 (1) y15 o49_x0 o49_x2 hf_o49) (cwV 2 hts gX3_tonsRead_X4_at rfl rfl rfl ⟨rfl, pd_X4_at⟩ ⟨Nat.le_of_ble_eq_true rfl, Nat.le_of_ble_eq_true rfl⟩) ⟨pz_blind, va_recv hK hP (ci := 4) (q0 := q50) rfl eq50, pz_pre hP hK hD hN⟩ rfl rfl hl.1 rfl (lv_room (Nat.le_of_ble_eq_true rfl)) dX3_tonsRead_94 ⟨Nat.le_of_ble_eq_true rfl, Nat.le_of_ble_eq_true rfl⟩) (fun r60 hw61 => ?_)
          obtain ⟨hw61r, hw61p⟩ := hw61
          refine lv_iload_n hx hb dX3_tonsRead_97 rfl (lv_at hl 4 rfl) ?_
          refine lv_i2l hx hb dX3_tonsRead_98 rfl ?_
          refine W.lcmp hx hb dX3_tonsRead_99 ?_
          refine lv_if_ne (tgt := 181) hx hb dX3_tonsRead_100 (by decide) (fun c62 => ?_) (fun c62 => ?_)
          · have ic62 : r60.toInt ≠ u.toInt := zl_ne rfl (Int32.toInt_toInt64 u) c62
            obtain ⟨z63, ez63⟩ : ∃ y : Int32, y = w52 + (-1) := ⟨_, rfl⟩
            refine lv_iinc (v := z63) (lv' := [(5, .int z63), (4, .int r24), (0, .ref h0), (1, .int v), (2, .int u), (3, .int a)]) hx hb dX3_tonsRead_181 hl (k := 0) rfl (by rw [ez63]; rfl) (by decide) rfl (fun ls hl => ?_)
            have iz63 : z63.toInt = w52.toInt + (-1) := zi_add ez63 rfl rfl (by omega) (by omega)
            refine lv_goto (tgt := 60) hx hb dX3_tonsRead_184 (by decide) ?_
            exact ih53 _ _ _ _ (by rw [hn54]; omega) ⟨z63, rfl, (by omega), rfl, rfl, lv_sub hl [0, 1, 2, 3, 4, 5] rfl⟩
          · have ic62 : r60.toInt = u.toInt := zl_nef rfl (Int32.toInt_toInt64 u) c62
            refine lv_aload_n hx hb dX3_tonsRead_103 rfl (lv_at hl 2 rfl) ?_
            refine va_get (D := (dC, dI)) (ci := 3) (v := .ref (ρ h0 0)) (C := RX3) (T := TX3) (N := 6) hx hb hts hfX3 hown hK hP q5 eq5 rfl 0 (by decide) (hts (.fieldLink RX3 18 "ColdShips$Reckoner" "world" "LColdShips$World;") wa_129) (fun _ h9 => h9) rfl dX3_tonsRead_104 ?_
            refine va_getN (D := (dC, dI)) (ci := 10) (v := .ref (ρ (ρ h0 0) 16)) (C := RX10) (T := TX10) (N := 19) hx hb hts hfX10 hown hK hP q19 eq19 rfl 16 (by decide) (va_Nw.use rfl (hN.1 (.fieldLinkNest RX3 140 "ColdShips$World" "readings" "LColdShips$Rows;" "ColdShips") nzw_81)) (fun _ h9 => h9) rfl dX3_tonsRead_107 ?_
            refine lv_iload hx hb dX3_tonsRead_110 (lv_at hl 0 rfl) ?_
            refine lv_iconst (v := 4) hx hb dX3_tonsRead_112 (by decide) ?_
            refine pz_calll (va_runV (As := [.int w52, .int 4]) (rest := []) ⟨hx, hb, hml, hown, hts⟩ (t_X4_at l dC dI _ Ω κ τ ν ρ L f hG hT (ρ (ρ h0 0) 16) w52 (4) y15 o49_x0 o49_x2 hf_o49) (cwV 2 hts gX3_tonsRead_X4_at rfl rfl rfl ⟨rfl, pd_X4_at⟩ ⟨Nat.le_of_ble_eq_true rfl, Nat.le_of_ble_eq_true rfl⟩) ⟨pz_blind, va_recv hK hP (ci := 4) (q0 := q50) rfl eq50, pz_pre hP hK hD hN⟩ rfl rfl hl.1 rfl (lv_room (Nat.le_of_ble_eq_true rfl)) dX3_tonsRead_113 ⟨Nat.le_of_ble_eq_true rfl, Nat.le_of_ble_eq_true rfl⟩) (fun r64 hw65 => ?_)
            obtain ⟨hw65r, hw65p⟩ := hw65
            refine lv_iload_n hx hb dX3_tonsRead_116 rfl (lv_at hl 5 rfl) ?_
            refine lv_i2l hx hb dX3_tonsRead_117 rfl ?_
            refine W.lcmp hx hb dX3_tonsRead_118 ?_
            refine lv_if_gt (tgt := 181) hx hb dX3_tonsRead_119 (by decide) (fun c66 => ?_) (fun c66 => ?_)
            · have ic66 : r64.toInt > a.toInt := zl_gt rfl (Int32.toInt_toInt64 a) c66
              obtain ⟨z67, ez67⟩ : ∃ y : Int32, y = w52 + (-1) := ⟨_, rfl⟩
              refine lv_iinc (v := z67) (lv' := [(5, .int z67), (4, .int r24), (0, .ref h0), (1, .int v), (2, .int u), (3, .int a)]) hx hb dX3_tonsRead_181 hl (k := 0) rfl (by rw [ez67]; rfl) (by decide) rfl (fun ls hl => ?_)
              have iz67 : z67.toInt = w52.toInt + (-1) := zi_add ez67 rfl rfl (by omega) (by omega)
              refine lv_goto (tgt := 60) hx hb dX3_tonsRead_184 (by decide) ?_
              exact ih53 _ _ _ _ (by rw [hn54]; omega) ⟨z67, rfl, (by omega), rfl, rfl, lv_sub hl [0, 1, 2, 3, 4, 5] rfl⟩
            · have ic66 : r64.toInt ≤ a.toInt := zl_gtf rfl (Int32.toInt_toInt64 a) c66
              refine lv_aload_n hx hb dX3_tonsRead_122 rfl (lv_at hl 2 rfl) ?_
              refine va_get (D := (dC, dI)) (ci := 3) (v := .ref (ρ h0 0)) (C := RX3) (T := TX3) (N := 6) hx hb hts hfX3 hown hK hP q5 eq5 rfl 0 (by decide) (hts (.fieldLink RX3 18 "ColdShips$Reckoner" "world" "LColdShips$World;") wa_129) (fun _ h9 => h9) rfl dX3_tonsRead_123 ?_
              refine va_getN (D := (dC, dI)) (ci := 10) (v := .ref (ρ (ρ h0 0) 16)) (C := RX10) (T := TX10) (N := 19) hx hb hts hfX10 hown hK hP q19 eq19 rfl 16 (by decide) (va_Nw.use rfl (hN.1 (.fieldLinkNest RX3 140 "ColdShips$World" "readings" "LColdShips$Rows;" "ColdShips") nzw_81)) (fun _ h9 => h9) rfl dX3_tonsRead_126 ?_
              refine lv_iload hx hb dX3_tonsRead_129 (lv_at hl 0 rfl) ?_
              refine lv_iconst (v := 2) hx hb dX3_tonsRead_131 (by decide) ?_
              refine pz_calli (va_runV (As := [.int w52, .int 2]) (rest := []) ⟨hx, hb, hml, hown, hts⟩ (t_X4_number l dC dI _ Ω κ τ ν ρ L f hG hT (ρ (ρ h0 0) 16) w52 (2) y15) (cwV 2 hts gX3_tonsRead_X4_number rfl rfl rfl ⟨rfl, pd_X4_number⟩ ⟨Nat.le_of_ble_eq_true rfl, Nat.le_of_ble_eq_true rfl⟩) ⟨pz_blind, va_recv hK hP (ci := 4) (q0 := q50) rfl eq50, pz_pre hP hK hD hN⟩ rfl rfl hl.1 rfl (lv_room (Nat.le_of_ble_eq_true rfl)) dX3_tonsRead_132 ⟨Nat.le_of_ble_eq_true rfl, Nat.le_of_ble_eq_true rfl⟩) (fun r68 hw69 => ?_)
              obtain ⟨hw69r, hw69p⟩ := hw69
              refine lv_aload_n hx hb dX3_tonsRead_135 rfl (lv_at hl 2 rfl) ?_
              refine va_get (D := (dC, dI)) (ci := 3) (v := .ref (ρ h0 0)) (C := RX3) (T := TX3) (N := 6) hx hb hts hfX3 hown hK hP q5 eq5 rfl 0 (by decide) (hts (.fieldLink RX3 18 "ColdShips$Reckoner" "world" "LColdShips$World;") wa_129) (fun _ h9 => h9) rfl dX3_tonsRead_136 ?_
              refine va_getN (D := (dC, dI)) (ci := 10) (v := .ref (ρ (ρ h0 0) 16)) (C := RX10) (T := TX10) (N := 19) hx hb hts hfX10 hown hK hP q19 eq19 rfl 16 (by decide) (va_Nw.use rfl (hN.1 (.fieldLinkNest RX3 140 "ColdShips$World" "readings" "LColdShips$Rows;" "ColdShips") nzw_81)) (fun _ h9 => h9) rfl dX3_tonsRead_139 ?_
              refine lv_iload hx hb dX3_tonsRead_142 (lv_at hl 0 rfl) ?_
              refine lv_iconst (v := 3) hx hb dX3_tonsRead_144 (by decide) ?_
              refine pz_calli (va_runV (As := [.int w52, .int 3]) (rest := [.int r68]) ⟨hx, hb, hml, hown, hts⟩ (t_X4_number l dC dI _ Ω κ τ ν ρ L f hG hT (ρ (ρ h0 0) 16) w52 (3) y15) (cwV 2 hts gX3_tonsRead_X4_number rfl rfl rfl ⟨rfl, pd_X4_number⟩ ⟨Nat.le_of_ble_eq_true rfl, Nat.le_of_ble_eq_true rfl⟩) ⟨pz_blind, va_recv hK hP (ci := 4) (q0 := q50) rfl eq50, pz_pre hP hK hD hN⟩ rfl rfl hl.1 rfl (lv_room (Nat.le_of_ble_eq_true rfl)) dX3_tonsRead_145 ⟨Nat.le_of_ble_eq_true rfl, Nat.le_of_ble_eq_true rfl⟩) (fun r70 hw71 => ?_)
              obtain ⟨hw71r, hw71p⟩ := hw71
              refine lv_aload_n hx hb dX3_tonsRead_148 rfl (lv_at hl 2 rfl) ?_
              refine va_get (D := (dC, dI)) (ci := 3) (v := .ref (ρ h0 0)) (C := RX3) (T := TX3) (N := 6) hx hb hts hfX3 hown hK hP q5 eq5 rfl 0 (by decide) (hts (.fieldLink RX3 18 "ColdShips$Reckoner" "world" "LColdShips$World;") wa_129) (fun _ h9 => h9) rfl dX3_tonsRead_149 ?_
              refine va_getN (D := (dC, dI)) (ci := 10) (v := .ref (ρ (ρ h0 0) 10)) (C := RX10) (T := TX10) (N := 19) hx hb hts hfX10 hown hK hP q19 eq19 rfl 10 (by decide) (va_Nw.use rfl (hN.1 (.fieldLinkNest RX3 128 "ColdShips$World" "ships" "[LColdShips$Ship;" "ColdShips") nzw_71)) (fun _ h9 => h9) rfl dX3_tonsRead_152 ?_
              refine lv_iload hx hb dX3_tonsRead_155 (lv_at hl 1 rfl) ?_
              refine va_aldq hx hb hK hP q32 5 eq32 rfl (vp_in_iff.mpr ⟨by omega, by omega⟩) dX3_tonsRead_157 ?_
              obtain ⟨b72, hb73⟩ : ∃ b : Nat, b = ρ (ρ (ρ h0 0) 10) r24.toNatClampNeg := ⟨_, rfl⟩
              have hb73t : τ b72 = 6 := by rw [hb73]; exact tpg_25 hG y9 _ (zi_cl (vp_in_iff.mpr ⟨by omega, by omega⟩))
              have hb73g : g31 r24.toNatClampNeg = some b72 := by rw [hb73]; exact hf_o30e _ (zi_cl (vp_in_iff.mpr ⟨by omega, by omega⟩))
              refine W.eq (g2 := F0 m 158 ls (.ref b72 :: [.int r70, .int r68])) (congrArg (fun o => F0 m 158 ls (va_rf o :: [.int r70, .int r68])) hb73g) ?_
              refine tgk_6 hG hb73t (fun y74 y75 y75n y76 y76n y77 y77n y78 y78n y79 y79n y80 y80n => ?_)
              refine tpk_6 hT hb73t (fun o81_x1 o81_x2 o81_x3 o81_x4 o81_x5 o81_x6 o81_x10 o81_x11 o81_x12 o81_x14 hf_o81 ro81_0 ro81_1 ro81_2 => ?_)
              refine tpk_pos (tp_in hG hb73t (by decide)) hf_o81 (fun q82 eq82 => ?_)
              refine va_getN (D := (dC, dI)) (ci := 5) (v := .int o81_x14) (C := RX5) (T := TX5) (N := 17) hx hb hts hfX5 hown hK hP q82 eq82 rfl 14 (by decide) (va_Nw.use rfl (hN.1 (.fieldLinkNest RX3 146 "ColdShips$Ship" "list" "I" "ColdShips") nzw_44)) (fun _ h9 => h9) rfl dX3_tonsRead_158 ?_
              refine lv_imul hx hb dX3_tonsRead_161 ?_
              refine lv_topi (fun z83 ez83 => ?_)
              refine lv_isub hx hb dX3_tonsRead_162 ?_
              refine lv_topi (fun z84 ez84 => ?_)
              refine lv_istore (lv' := [(6, .int z84), (5, .int w52), (4, .int r24), (0, .ref h0), (1, .int v), (2, .int u), (3, .int a)]) hx hb dX3_tonsRead_163 hl (by decide) rfl (fun ls hl => ?_)
              refine lv_aload_n hx hb dX3_tonsRead_165 rfl (lv_at hl 3 rfl) ?_
              refine va_get (D := (dC, dI)) (ci := 3) (v := .ref (ρ h0 0)) (C := RX3) (T := TX3) (N := 6) hx hb hts hfX3 hown hK hP q5 eq5 rfl 0 (by decide) (hts (.fieldLink RX3 18 "ColdShips$Reckoner" "world" "LColdShips$World;") wa_129) (fun _ h9 => h9) rfl dX3_tonsRead_166 ?_
              refine va_getN (D := (dC, dI)) (ci := 10) (v := .ref (ρ (ρ h0 0) 10)) (C := RX10) (T := TX10) (N := 19) hx hb hts hfX10 hown hK hP q19 eq19 rfl 10 (by decide) (va_Nw.use rfl (hN.1 (.fieldLinkNest RX3 128 "ColdShips$World" "ships" "[LColdShips$Ship;" "ColdShips") nzw_71)) (fun _ h9 => h9) rfl dX3_tonsRead_169 ?_
              refine lv_iload hx hb dX3_tonsRead_172 (lv_at hl 2 rfl) ?_
              refine va_aldq hx hb hK hP q32 5 eq32 rfl (vp_in_iff.mpr ⟨by omega, by omega⟩) dX3_tonsRead_174 ?_
              obtain ⟨b85, hb86⟩ : ∃ b : Nat, b = ρ (ρ (ρ h0 0) 10) r24.toNatClampNeg := ⟨_, rfl⟩
              have hb86t : τ b85 = 6 := by rw [hb86]; exact tpg_25 hG y9 _ (zi_cl (vp_in_iff.mpr ⟨by omega, by omega⟩))
              have hb86g : g31 r24.toNatClampNeg = some b85 := by rw [hb86]; exact hf_o30e _ (zi_cl (vp_in_iff.mpr ⟨by omega, by omega⟩))
              refine W.eq (g2 := F0 m 175 ls (.ref b85 :: [])) (congrArg (fun o => F0 m 175 ls (va_rf o :: [])) hb86g) ?_
              refine lv_iload hx hb dX3_tonsRead_175 (lv_at hl 0 rfl) ?_
              refine tgk_6 hG hb86t (fun y87 y88 y88n y89 y89n y90 y90n y91 y91n y92 y92n y93 y93n => ?_)
              refine tpk_6 hT hb86t (fun o94_x1 o94_x2 o94_x3 o94_x4 o94_x5 o94_x6 o94_x10 o94_x11 o94_x12 o94_x14 hf_o94 ro94_0 ro94_1 ro94_2 => ?_)
              refine tpk_pos (tp_in hG hb86t (by decide)) hf_o94 (fun q95 eq95 => ?_)
              refine pz_calll (va_runV (As := [.int z84]) (rest := []) ⟨hx, hb, hml, hown, hts⟩ (t_X5_tonsAt l dC dI _ Ω κ τ ν ρ L f hG hT b85 z84 hb86t) (cwV 1 hts gX3_tonsRead_X5_tonsAt rfl rfl rfl ⟨rfl, pd_X5_tonsAt⟩ ⟨Nat.le_of_ble_eq_true rfl, Nat.le_of_ble_eq_true rfl⟩) ⟨pz_blind, va_recv hK hP (ci := 5) (q0 := q95) rfl eq95, pz_pre hP hK hD hN⟩ rfl rfl hl.1 rfl (lv_room (Nat.le_of_ble_eq_true rfl)) dX3_tonsRead_177 ⟨Nat.le_of_ble_eq_true rfl, Nat.le_of_ble_eq_true rfl⟩) (fun r96 hw97 => ?_)
              obtain ⟨hw97r, hw97p⟩ := hw97
              exact W.lret (v := r96) hx hb hr (fun t ht hW => ⟨r96, rfl, ⟨trivial, trivial⟩, ht⟩) (fun _ h => by cases h) dX3_tonsRead_180
    · have ic46 : r44.toInt = 0 := zi_nef rfl rfl c46
      refine lv_ldc2 (own := RX3) (v := (-2000000000000000)) hx hb hown (hts (.constantLong RX3 138 (-2000000000000000)) wa_1288) dX3_tonsRead_42 ?_
      exact W.lret (v := (-2000000000000000)) hx hb hr (fun t ht hW => ⟨(-2000000000000000), rfl, ⟨trivial, trivial⟩, ht⟩) (fun _ h => by cases h) dX3_tonsRead_45
set_option maxHeartbeats 4000000 in
set_option maxRecDepth 100000 in
theorem t_X3_tonsGauged (l : Launch) (dC : Nat → ClassId) (dI : Nat → Nat → Nat) (sz : Nat) (Ω : Nat → Nat → (Nat → Nat) → va_E → Prop) (κ : Nat → ClassId) (τ ν : Nat → Nat) (ρ : Nat → Nat → Nat) (L : List Nat) (f : Nat → va_E) (hG : tp_G τ ν ρ L) (hT : tp_T Ω κ τ ν ρ f) (h0 : Nat) (v : Int32) (u : Int32) (ht_h0 : τ h0 = 4) : Met l yX3_tonsGauged wqX3_tonsGauged ({ frames := 5, cells := 0, slots := 0, locals := 1600 }) (va_Pc [.ref h0, .int v, .int u] (pz_B dC dI (tp_K κ) (va_pl L f) sz)) (vp_Sl (fun r => True ∧ True)) 0 0 (fun _ => False) := by
  refine Met.ofW (cc := cX3_tonsGauged) (maxL := 7) (ret := some .long) (by decide) rfl ?_
  intro p e s m args below meth c s₁ B hml hv
  obtain ⟨rfl, hsz, hP, hK, hD0, hN⟩ := hv
  have hx := B.exec
  have hb := B.bytes
  have hr := B.returns
  have hts := fun (w : Cond) (h : w ∈ WALL) => atoms_spec (ws := wqX3_tonsGauged) B.pre w (List.mem_cons_of_mem _ h)
  have hown : s.vm.findClass RX3 = some m.cls := findClass_of_methodNamed B.named
  have hlocks := B.notSynchronized
  subst hsz
  have hD := hD0
  have hS : va_S (fun _ => True) s.heap s.heap [] := va_S.rf
  have hl := lv_entry ([.ref h0, .int v, .int u]) (n := 7) (Nat.le_of_ble_eq_true rfl)
  rw [lg_entry_eq]
  generalize (lg_sl ([.ref h0, .int v, .int u]) ++ List.replicate (7 - (lg_sl ([.ref h0, .int v, .int u])).length) Slot.unset).toArray = ls at hl ⊢
  have hl : lv_has ls 7 [(0, .ref h0), (1, .int v), (2, .int u)] := hl
  refine lv_aload_n hx hb dX3_tonsGauged_0 rfl (lv_at hl 0 rfl) ?_
  refine lv_iload_n hx hb dX3_tonsGauged_1 rfl (lv_at hl 1 rfl) ?_
  refine lv_iconst (v := 0) hx hb dX3_tonsGauged_2 (by decide) ?_
  refine lv_iload_n hx hb dX3_tonsGauged_3 rfl (lv_at hl 2 rfl) ?_
  refine tgk_4 hG ht_h0 (fun y1 y1l y2 y2n y3 y3n => ?_)
  refine tpk_4 hT ht_h0 (fun o4_x3 o4_x4 o4_x5 hf_o4 ro4_0 => ?_)
  refine tpk_pos (tp_in hG ht_h0 (by decide)) hf_o4 (fun q5 eq5 => ?_)
  refine pz_calll (va_runV (As := [.int v, .int 0, .int u]) (rest := []) ⟨hx, hb, hml, hown, hts⟩ (t_X3_tonsRead l dC dI _ Ω κ τ ν ρ L f hG hT h0 v (0) u ht_h0) (cwV 3 hts gX3_tonsGauged_X3_tonsRead rfl rfl rfl ⟨rfl, pd_X3_tonsRead⟩ ⟨Nat.le_of_ble_eq_true rfl, Nat.le_of_ble_eq_true rfl⟩) ⟨pz_blind, va_recv hK hP (ci := 3) (q0 := q5) rfl eq5, pz_pre hP hK hD hN⟩ rfl rfl hl.1 rfl (lv_room (Nat.le_of_ble_eq_true rfl)) dX3_tonsGauged_4 ⟨Nat.le_of_ble_eq_true rfl, Nat.le_of_ble_eq_true rfl⟩) (fun r6 hw7 => ?_)
  obtain ⟨hw7r, hw7p⟩ := hw7
  refine lv_lstore_n (lv' := [(3, .long r6), (0, .ref h0), (1, .int v), (2, .int u)]) hx hb dX3_tonsGauged_7 rfl hl (by decide) rfl (fun ls hl => ?_)
  refine lv_aload_n hx hb dX3_tonsGauged_8 rfl (lv_at hl 1 rfl) ?_
  refine lv_iload_n hx hb dX3_tonsGauged_9 rfl (lv_at hl 2 rfl) ?_
  refine lv_iconst (v := 1) hx hb dX3_tonsGauged_10 (by decide) ?_
  refine lv_iload_n hx hb dX3_tonsGauged_11 rfl (lv_at hl 3 rfl) ?_
  refine pz_calll (va_runV (As := [.int v, .int 1, .int u]) (rest := []) ⟨hx, hb, hml, hown, hts⟩ (t_X3_tonsRead l dC dI _ Ω κ τ ν ρ L f hG hT h0 v (1) u ht_h0) (cwV 3 hts gX3_tonsGauged_X3_tonsRead rfl rfl rfl ⟨rfl, pd_X3_tonsRead⟩ ⟨Nat.le_of_ble_eq_true rfl, Nat.le_of_ble_eq_true rfl⟩) ⟨pz_blind, va_recv hK hP (ci := 3) (q0 := q5) rfl eq5, pz_pre hP hK hD hN⟩ rfl rfl hl.1 rfl (lv_room (Nat.le_of_ble_eq_true rfl)) dX3_tonsGauged_12 ⟨Nat.le_of_ble_eq_true rfl, Nat.le_of_ble_eq_true rfl⟩) (fun r8 hw9 => ?_)
  obtain ⟨hw9r, hw9p⟩ := hw9
  refine lv_lstore (lv' := [(5, .long r8), (3, .long r6), (0, .ref h0), (1, .int v), (2, .int u)]) hx hb dX3_tonsGauged_15 hl (by decide) rfl (fun ls hl => ?_)
  refine lv_lload_n hx hb dX3_tonsGauged_17 rfl (lv_at hl 1 rfl) ?_
  refine lv_ldc2 (own := RX3) (v := (-2000000000000000)) hx hb hown (hts (.constantLong RX3 138 (-2000000000000000)) wa_1288) dX3_tonsGauged_18 ?_
  refine W.lcmp hx hb dX3_tonsGauged_21 ?_
  refine lv_if_eq (tgt := 34) hx hb dX3_tonsGauged_22 (by decide) (fun c10 => ?_) (fun c10 => ?_)
  · have ic10 : r6.toInt = (-2000000000000000) := zl_eq rfl rfl c10
    refine lv_ldc2 (own := RX3) (v := (-2000000000000000)) hx hb hown (hts (.constantLong RX3 138 (-2000000000000000)) wa_1288) dX3_tonsGauged_34 ?_
    refine lv_goto (tgt := 44) hx hb dX3_tonsGauged_37 (by decide) ?_
    exact W.lret (v := (-2000000000000000)) hx hb hr (fun t ht hW => ⟨(-2000000000000000), rfl, ⟨trivial, trivial⟩, ht⟩) (fun _ h => by cases h) dX3_tonsGauged_44
  · have ic10 : r6.toInt ≠ (-2000000000000000) := zl_eqf rfl rfl c10
    refine lv_lload hx hb dX3_tonsGauged_25 (lv_at hl 0 rfl) ?_
    refine lv_ldc2 (own := RX3) (v := (-2000000000000000)) hx hb hown (hts (.constantLong RX3 138 (-2000000000000000)) wa_1288) dX3_tonsGauged_27 ?_
    refine W.lcmp hx hb dX3_tonsGauged_30 ?_
    refine lv_if_ne (tgt := 40) hx hb dX3_tonsGauged_31 (by decide) (fun c11 => ?_) (fun c11 => ?_)
    · have ic11 : r8.toInt ≠ (-2000000000000000) := zl_ne rfl rfl c11
      refine lv_lload_n hx hb dX3_tonsGauged_40 rfl (lv_at hl 1 rfl) ?_
      refine lv_lload hx hb dX3_tonsGauged_41 (lv_at hl 0 rfl) ?_
      refine lv_lsub hx hb dX3_tonsGauged_43 ?_
      refine lv_topl (fun z12 ez12 => ?_)
      exact W.lret (v := z12) hx hb hr (fun t ht hW => ⟨z12, rfl, ⟨trivial, trivial⟩, ht⟩) (fun _ h => by cases h) dX3_tonsGauged_44
    · have ic11 : r8.toInt = (-2000000000000000) := zl_nef rfl rfl c11
      refine lv_ldc2 (own := RX3) (v := (-2000000000000000)) hx hb hown (hts (.constantLong RX3 138 (-2000000000000000)) wa_1288) dX3_tonsGauged_34 ?_
      refine lv_goto (tgt := 44) hx hb dX3_tonsGauged_37 (by decide) ?_
      exact W.lret (v := (-2000000000000000)) hx hb hr (fun t ht hW => ⟨(-2000000000000000), rfl, ⟨trivial, trivial⟩, ht⟩) (fun _ h => by cases h) dX3_tonsGauged_44
end
section
set_option maxHeartbeats 4000000 in
set_option maxRecDepth 100000 in
theorem t_X3_claimOf (l : Launch) (dC : Nat → ClassId) (dI : Nat → Nat → Nat) (sz : Nat) (Ω : Nat → Nat → (Nat → Nat) → va_E → Prop) (κ : Nat → ClassId) (τ ν : Nat → Nat) (ρ : Nat → Nat → Nat) (L : List Nat) (f : Nat → va_E) (hG : tp_G τ ν ρ L) (hT : tp_T Ω κ τ ν ρ f) (h0 : Nat) (v : Int32) (u : Int32) (ht_h0 : τ h0 = 4) : Met l yX3_claimOf wqX3_claimOf ({ frames := 6, cells := 0, slots := 0, locals := 2000 }) (va_Pc [.ref h0, .int v, .int u] (pz_B dC dI (tp_K κ) (va_pl L f) sz)) (vp_Sl (fun r => True ∧ True)) 0 0 (fun _ => False) := by
  refine Met.ofW (cc := cX3_claimOf) (maxL := 5) (ret := some .long) (by decide) rfl ?_
  intro p e s m args below meth c s₁ B hml hv
  obtain ⟨rfl, hsz, hP, hK, hD0, hN⟩ := hv
  have hx := B.exec
  have hb := B.bytes
  have hr := B.returns
  have hts := fun (w : Cond) (h : w ∈ WALL) => atoms_spec (ws := wqX3_claimOf) B.pre w (List.mem_cons_of_mem _ h)
  have hown : s.vm.findClass RX3 = some m.cls := findClass_of_methodNamed B.named
  have hlocks := B.notSynchronized
  subst hsz
  have hD := hD0
  have hS : va_S (fun _ => True) s.heap s.heap [] := va_S.rf
  have hl := lv_entry ([.ref h0, .int v, .int u]) (n := 5) (Nat.le_of_ble_eq_true rfl)
  rw [lg_entry_eq]
  generalize (lg_sl ([.ref h0, .int v, .int u]) ++ List.replicate (5 - (lg_sl ([.ref h0, .int v, .int u])).length) Slot.unset).toArray = ls at hl ⊢
  have hl : lv_has ls 5 [(0, .ref h0), (1, .int v), (2, .int u)] := hl
  refine lv_aload_n hx hb dX3_claimOf_0 rfl (lv_at hl 0 rfl) ?_
  refine lv_iload_n hx hb dX3_claimOf_1 rfl (lv_at hl 1 rfl) ?_
  refine lv_iload_n hx hb dX3_claimOf_2 rfl (lv_at hl 2 rfl) ?_
  refine tgk_4 hG ht_h0 (fun y1 y1l y2 y2n y3 y3n => ?_)
  refine tpk_4 hT ht_h0 (fun o4_x3 o4_x4 o4_x5 hf_o4 ro4_0 => ?_)
  refine tpk_pos (tp_in hG ht_h0 (by decide)) hf_o4 (fun q5 eq5 => ?_)
  refine pz_calll (va_runV (As := [.int v, .int u]) (rest := []) ⟨hx, hb, hml, hown, hts⟩ (t_X3_tonsGauged l dC dI _ Ω κ τ ν ρ L f hG hT h0 v u ht_h0) (cwV 2 hts gX3_claimOf_X3_tonsGauged rfl rfl rfl ⟨rfl, pd_X3_tonsGauged⟩ ⟨Nat.le_of_ble_eq_true rfl, Nat.le_of_ble_eq_true rfl⟩) ⟨pz_blind, va_recv hK hP (ci := 3) (q0 := q5) rfl eq5, pz_pre hP hK hD hN⟩ rfl rfl hl.1 rfl (lv_room (Nat.le_of_ble_eq_true rfl)) dX3_claimOf_3 ⟨Nat.le_of_ble_eq_true rfl, Nat.le_of_ble_eq_true rfl⟩) (fun r6 hw7 => ?_)
  obtain ⟨hw7r, hw7p⟩ := hw7
  refine lv_lstore_n (lv' := [(3, .long r6), (0, .ref h0), (1, .int v), (2, .int u)]) hx hb dX3_claimOf_6 rfl hl (by decide) rfl (fun ls hl => ?_)
  refine lv_lload_n hx hb dX3_claimOf_7 rfl (lv_at hl 0 rfl) ?_
  refine lv_ldc2 (own := RX3) (v := (-2000000000000000)) hx hb hown (hts (.constantLong RX3 138 (-2000000000000000)) wa_1288) dX3_claimOf_8 ?_
  refine W.lcmp hx hb dX3_claimOf_11 ?_
  refine lv_if_ne (tgt := 21) hx hb dX3_claimOf_12 (by decide) (fun c8 => ?_) (fun c8 => ?_)
  · have ic8 : r6.toInt ≠ (-2000000000000000) := zl_ne rfl rfl c8
    refine lv_aload_n hx hb dX3_claimOf_21 rfl (lv_at hl 1 rfl) ?_
    refine va_get (D := (dC, dI)) (ci := 3) (v := .ref (ρ h0 0)) (C := RX3) (T := TX3) (N := 6) hx hb hts hfX3 hown hK hP q5 eq5 rfl 0 (by decide) (hts (.fieldLink RX3 18 "ColdShips$Reckoner" "world" "LColdShips$World;") wa_129) (fun _ h9 => h9) rfl dX3_claimOf_22 ?_
    refine lv_iload_n hx hb dX3_claimOf_25 rfl (lv_at hl 2 rfl) ?_
    refine tgk_11 hG y1 (fun y9 y9n y10 y10n y11 y12 y13 y14 y14m y14l y15 y15m y15l y16 y16m y16l y17 y17w y17m y17l y18 y18w y18m y18l y19 y19w y19m y19l y20 y20w y20m y20l => ?_)
    refine tpk_11 hT y1 (fun o21_x0 o21_x1 o21_x2 o21_x3 o21_x4 o21_x5 o21_x6 hf_o21 ro21_0 ro21_1 ro21_2 ro21_3 => ?_)
    refine tpk_pos (tp_in hG y1 (by decide)) hf_o21 (fun q22 eq22 => ?_)
    refine pz_calll (va_runV (As := [.int v]) (rest := []) ⟨hx, hb, hml, hown, hts⟩ (t_X10_billedOf l dC dI _ Ω κ τ ν ρ L f hG hT (ρ h0 0) v y1) (cwV 1 hts gX3_claimOf_X10_billedOf rfl rfl rfl ⟨rfl, pd_X10_billedOf⟩ ⟨Nat.le_of_ble_eq_true rfl, Nat.le_of_ble_eq_true rfl⟩) ⟨pz_blind, va_recv hK hP (ci := 10) (q0 := q22) rfl eq22, pz_pre hP hK hD hN⟩ rfl rfl hl.1 rfl (lv_room (Nat.le_of_ble_eq_true rfl)) dX3_claimOf_26 ⟨Nat.le_of_ble_eq_true rfl, Nat.le_of_ble_eq_true rfl⟩) (fun r23 hw24 => ?_)
    obtain ⟨hw24r, hw24p⟩ := hw24
    refine lv_lload_n hx hb dX3_claimOf_29 rfl (lv_at hl 0 rfl) ?_
    refine lv_lsub hx hb dX3_claimOf_30 ?_
    refine lv_topl (fun z25 ez25 => ?_)
    refine lv_aload_n hx hb dX3_claimOf_31 rfl (lv_at hl 1 rfl) ?_
    refine va_get (D := (dC, dI)) (ci := 3) (v := .ref (ρ h0 0)) (C := RX3) (T := TX3) (N := 6) hx hb hts hfX3 hown hK hP q5 eq5 rfl 0 (by decide) (hts (.fieldLink RX3 18 "ColdShips$Reckoner" "world" "LColdShips$World;") wa_129) (fun _ h9 => h9) rfl dX3_claimOf_32 ?_
    refine lv_iload_n hx hb dX3_claimOf_35 rfl (lv_at hl 2 rfl) ?_
    refine lv_iload_n hx hb dX3_claimOf_36 rfl (lv_at hl 3 rfl) ?_
    refine pz_calll (va_runV (As := [.int v, .int u]) (rest := [.long z25]) ⟨hx, hb, hml, hown, hts⟩ (t_X10_priceOf l dC dI _ Ω κ τ ν ρ L f hG hT (ρ h0 0) v u y1) (cwV 2 hts gX3_claimOf_X10_priceOf rfl rfl rfl ⟨rfl, pd_X10_priceOf⟩ ⟨Nat.le_of_ble_eq_true rfl, Nat.le_of_ble_eq_true rfl⟩) ⟨pz_blind, va_recv hK hP (ci := 10) (q0 := q22) rfl eq22, pz_pre hP hK hD hN⟩ rfl rfl hl.1 rfl (lv_room (Nat.le_of_ble_eq_true rfl)) dX3_claimOf_37 ⟨Nat.le_of_ble_eq_true rfl, Nat.le_of_ble_eq_true rfl⟩) (fun r26 hw27 => ?_)
    obtain ⟨hw27r, hw27p⟩ := hw27
    refine lv_lmul hx hb dX3_claimOf_40 ?_
    refine lv_topl (fun z28 ez28 => ?_)
    exact W.lret (v := z28) hx hb hr (fun t ht hW => ⟨z28, rfl, ⟨trivial, trivial⟩, ht⟩) (fun _ h => by cases h) dX3_claimOf_41
  · have ic8 : r6.toInt = (-2000000000000000) := zl_nef rfl rfl c8
    refine lv_ldc2 (own := RX3) (v := (-2000000000000000)) hx hb hown (hts (.constantLong RX3 138 (-2000000000000000)) wa_1288) dX3_claimOf_15 ?_
    refine lv_goto (tgt := 41) hx hb dX3_claimOf_18 (by decide) ?_
    exact W.lret (v := (-2000000000000000)) hx hb hr (fun t ht hW => ⟨(-2000000000000000), rfl, ⟨trivial, trivial⟩, ht⟩) (fun _ h => by cases h) dX3_claimOf_41
end
section
theorem gX1_sails_X10_hasShip : GoodIn WALL (wsV RX1 44 RX10 yX10_hasShip wqX10_hasShip) := wg_V wa_1477 wa_327 wa_328 wa_14 wa_329
theorem dX1_sails_0 : decode cX1_sails 0 = .ok (.aload_n 0, 1) := od_42  (by decide +kernel)
theorem dX1_sails_1 : decode cX1_sails 1 = .ok (.getfield 40, 3) := od_180 (a := 0) (b := 40) (by decide +kernel) (by decide)
theorem dX1_sails_4 : decode cX1_sails 4 = .ok (.iload_n 1, 1) := od_27  (by decide +kernel)
theorem dX1_sails_5 : decode cX1_sails 5 = .ok (.invokevirtual 44, 3) := od_182 (a := 0) (b := 44) (by decide +kernel) (by decide)
theorem dX1_sails_8 : decode cX1_sails 8 = .ok (.ifCond .eq 12, 3) := od_153 (a := 0) (b := 12) (by decide +kernel) (by decide +kernel)
theorem dX1_sails_11 : decode cX1_sails 11 = .ok (.iload_n 1, 1) := od_27  (by decide +kernel)
theorem dX1_sails_12 : decode cX1_sails 12 = .ok (.iconst 3, 1) := od_6  (by decide +kernel)
theorem dX1_sails_13 : decode cX1_sails 13 = .ok (.if_icmp .ge 7, 3) := od_162 (a := 0) (b := 7) (by decide +kernel) (by decide +kernel)
theorem dX1_sails_16 : decode cX1_sails 16 = .ok (.iconst 1, 1) := od_4  (by decide +kernel)
theorem dX1_sails_17 : decode cX1_sails 17 = .ok (.goto 4, 3) := od_167 (a := 0) (b := 4) (by decide +kernel) (by decide +kernel)
theorem dX1_sails_20 : decode cX1_sails 20 = .ok (.iconst 0, 1) := od_3  (by decide +kernel)
theorem dX1_sails_21 : decode cX1_sails 21 = .ok (.ireturn, 1) := od_172  (by decide +kernel)
theorem gX1_findBest_J7_fill_d0a16 : GoodIn WALL (va_wsS RX1 68 yJ7_fill_d0a16 wqJ7_fill_d0a16) := wg_S wa_1350 wa_259 wa_199 wa_260
theorem gX1_findBest_J7_fill_bad5a : GoodIn WALL (va_wsS RX1 77 yJ7_fill_bad5a wqJ7_fill_bad5a) := wg_S wa_1351 wa_519 wa_199 wa_520
theorem gX1_findBest_X1_extend : GoodIn WALL (wsV RX1 89 RX1 yX1_extend wqX1_extend) := wg_V wa_1352 wa_1353 wa_1354 wa_31 wa_1355
theorem gX1_findBest_X1_addShip : GoodIn WALL (wsV RX1 93 RX1 yX1_addShip wqX1_addShip) := wg_V wa_1384 wa_1385 wa_1386 wa_31 wa_1387
theorem gX1_findBest_X1_isBetter : GoodIn WALL (wsV RX1 97 RX1 yX1_isBetter wqX1_isBetter) := wg_V wa_1392 wa_1393 wa_1394 wa_31 wa_1395
theorem gX1_findBest_X1_keepPlan : GoodIn WALL (wsV RX1 101 RX1 yX1_keepPlan wqX1_keepPlan) := wg_V wa_1403 wa_1404 wa_1405 wa_31 wa_1406
theorem dX1_findBest_0 : decode cX1_findBest 0 = .ok (.iconst 1, 1) := od_4  (by decide +kernel)
theorem dX1_findBest_1 : decode cX1_findBest 1 = .ok (.bipush 6, 2) := od_16 (a := 6) (by decide +kernel) (by decide +kernel)
theorem dX1_findBest_3 : decode cX1_findBest 3 = .ok (.aload_n 0, 1) := od_42  (by decide +kernel)
theorem dX1_findBest_4 : decode cX1_findBest 4 = .ok (.getfield 40, 3) := od_180 (a := 0) (b := 40) (by decide +kernel) (by decide)
theorem dX1_findBest_7 : decode cX1_findBest 7 = .ok (.getfield 50, 3) := od_180 (a := 0) (b := 50) (by decide +kernel) (by decide)
theorem dX1_findBest_10 : decode cX1_findBest 10 = .ok (.getfield 54, 3) := od_180 (a := 0) (b := 54) (by decide +kernel) (by decide)
theorem dX1_findBest_13 : decode cX1_findBest 13 = .ok (.invokestatic 60, 3) := od_184 (a := 0) (b := 60) (by decide +kernel) (by decide)
theorem dX1_findBest_16 : decode cX1_findBest 16 = .ok (.ishl, 1) := od_120  (by decide +kernel)
theorem dX1_findBest_17 : decode cX1_findBest 17 = .ok (.istore_n 2, 1) := od_61  (by decide +kernel)
theorem dX1_findBest_18 : decode cX1_findBest 18 = .ok (.aload_n 0, 1) := od_42  (by decide +kernel)
theorem dX1_findBest_19 : decode cX1_findBest 19 = .ok (.getfield 19, 3) := od_180 (a := 0) (b := 19) (by decide +kernel) (by decide)
theorem dX1_findBest_22 : decode cX1_findBest 22 = .ok (.ldc2_w 66, 3) := od_20 (a := 0) (b := 66) (by decide +kernel) (by decide)
theorem dX1_findBest_25 : decode cX1_findBest 25 = .ok (.invokestatic 68, 3) := od_184 (a := 0) (b := 68) (by decide +kernel) (by decide)
theorem dX1_findBest_28 : decode cX1_findBest 28 = .ok (.aload_n 0, 1) := od_42  (by decide +kernel)
theorem dX1_findBest_29 : decode cX1_findBest 29 = .ok (.getfield 19, 3) := od_180 (a := 0) (b := 19) (by decide +kernel) (by decide)
theorem dX1_findBest_32 : decode cX1_findBest 32 = .ok (.iconst 0, 1) := od_3  (by decide +kernel)
theorem dX1_findBest_33 : decode cX1_findBest 33 = .ok (.lconst 0, 1) := od_9  (by decide +kernel)
theorem dX1_findBest_34 : decode cX1_findBest 34 = .ok (.lastore, 1) := od_80  (by decide +kernel)
theorem dX1_findBest_35 : decode cX1_findBest 35 = .ok (.aload_n 0, 1) := od_42  (by decide +kernel)
theorem dX1_findBest_36 : decode cX1_findBest 36 = .ok (.getfield 22, 3) := od_180 (a := 0) (b := 22) (by decide +kernel) (by decide)
theorem dX1_findBest_39 : decode cX1_findBest 39 = .ok (.iconst 0, 1) := od_3  (by decide +kernel)
theorem dX1_findBest_40 : decode cX1_findBest 40 = .ok (.sipush 4095, 3) := od_17 (a := 15) (b := 255) (by decide +kernel) (by decide +kernel)
theorem dX1_findBest_43 : decode cX1_findBest 43 = .ok (.iastore, 1) := od_79  (by decide +kernel)
theorem dX1_findBest_44 : decode cX1_findBest 44 = .ok (.iconst 0, 1) := od_3  (by decide +kernel)
theorem dX1_findBest_45 : decode cX1_findBest 45 = .ok (.istore_n 3, 1) := od_62  (by decide +kernel)
theorem dX1_findBest_46 : decode cX1_findBest 46 = .ok (.iload_n 3, 1) := od_29  (by decide +kernel)
theorem dX1_findBest_47 : decode cX1_findBest 47 = .ok (.iconst 3, 1) := od_6  (by decide +kernel)
theorem dX1_findBest_48 : decode cX1_findBest 48 = .ok (.if_icmp .ge 88, 3) := od_162 (a := 0) (b := 88) (by decide +kernel) (by decide +kernel)
theorem dX1_findBest_51 : decode cX1_findBest 51 = .ok (.iload_n 3, 1) := od_29  (by decide +kernel)
theorem dX1_findBest_52 : decode cX1_findBest 52 = .ok (.aload_n 0, 1) := od_42  (by decide +kernel)
theorem dX1_findBest_53 : decode cX1_findBest 53 = .ok (.getfield 40, 3) := od_180 (a := 0) (b := 40) (by decide +kernel) (by decide)
theorem dX1_findBest_56 : decode cX1_findBest 56 = .ok (.getfield 74, 3) := od_180 (a := 0) (b := 74) (by decide +kernel) (by decide)
theorem dX1_findBest_59 : decode cX1_findBest 59 = .ok (.if_icmp .ge 77, 3) := od_162 (a := 0) (b := 77) (by decide +kernel) (by decide +kernel)
theorem dX1_findBest_62 : decode cX1_findBest 62 = .ok (.aload_n 0, 1) := od_42  (by decide +kernel)
theorem dX1_findBest_63 : decode cX1_findBest 63 = .ok (.getfield 11, 3) := od_180 (a := 0) (b := 11) (by decide +kernel) (by decide)
theorem dX1_findBest_66 : decode cX1_findBest 66 = .ok (.iload_n 3, 1) := od_29  (by decide +kernel)
theorem dX1_findBest_67 : decode cX1_findBest 67 = .ok (.bipush 64, 2) := od_16 (a := 64) (by decide +kernel) (by decide +kernel)
theorem dX1_findBest_69 : decode cX1_findBest 69 = .ok (.imul, 1) := od_104  (by decide +kernel)
theorem dX1_findBest_70 : decode cX1_findBest 70 = .ok (.iload_n 3, 1) := od_29  (by decide +kernel)
theorem dX1_findBest_71 : decode cX1_findBest 71 = .ok (.iconst 1, 1) := od_4  (by decide +kernel)
theorem dX1_findBest_72 : decode cX1_findBest 72 = .ok (.iadd, 1) := od_96  (by decide +kernel)
theorem dX1_findBest_73 : decode cX1_findBest 73 = .ok (.bipush 64, 2) := od_16 (a := 64) (by decide +kernel) (by decide +kernel)
theorem dX1_findBest_75 : decode cX1_findBest 75 = .ok (.imul, 1) := od_104  (by decide +kernel)
theorem dX1_findBest_76 : decode cX1_findBest 76 = .ok (.ldc2_w 66, 3) := od_20 (a := 0) (b := 66) (by decide +kernel) (by decide)
theorem dX1_findBest_79 : decode cX1_findBest 79 = .ok (.invokestatic 77, 3) := od_184 (a := 0) (b := 77) (by decide +kernel) (by decide)
theorem dX1_findBest_82 : decode cX1_findBest 82 = .ok (.aload_n 0, 1) := od_42  (by decide +kernel)
theorem dX1_findBest_83 : decode cX1_findBest 83 = .ok (.getfield 11, 3) := od_180 (a := 0) (b := 11) (by decide +kernel) (by decide)
theorem dX1_findBest_86 : decode cX1_findBest 86 = .ok (.iload_n 3, 1) := od_29  (by decide +kernel)
theorem dX1_findBest_87 : decode cX1_findBest 87 = .ok (.bipush 64, 2) := od_16 (a := 64) (by decide +kernel) (by decide +kernel)
theorem dX1_findBest_89 : decode cX1_findBest 89 = .ok (.imul, 1) := od_104  (by decide +kernel)
theorem dX1_findBest_90 : decode cX1_findBest 90 = .ok (.lconst 0, 1) := od_9  (by decide +kernel)
theorem dX1_findBest_91 : decode cX1_findBest 91 = .ok (.lastore, 1) := od_80  (by decide +kernel)
theorem dX1_findBest_92 : decode cX1_findBest 92 = .ok (.aload_n 0, 1) := od_42  (by decide +kernel)
theorem dX1_findBest_93 : decode cX1_findBest 93 = .ok (.getfield 15, 3) := od_180 (a := 0) (b := 15) (by decide +kernel) (by decide)
theorem dX1_findBest_96 : decode cX1_findBest 96 = .ok (.iload_n 3, 1) := od_29  (by decide +kernel)
theorem dX1_findBest_97 : decode cX1_findBest 97 = .ok (.bipush 64, 2) := od_16 (a := 64) (by decide +kernel) (by decide +kernel)
theorem dX1_findBest_99 : decode cX1_findBest 99 = .ok (.imul, 1) := od_104  (by decide +kernel)
theorem dX1_findBest_100 : decode cX1_findBest 100 = .ok (.iconst 0, 1) := od_3  (by decide +kernel)
theorem dX1_findBest_101 : decode cX1_findBest 101 = .ok (.iastore, 1) := od_79  (by decide +kernel)
theorem dX1_findBest_102 : decode cX1_findBest 102 = .ok (.aload_n 0, 1) := od_42  (by decide +kernel)
theorem dX1_findBest_103 : decode cX1_findBest 103 = .ok (.iload_n 3, 1) := od_29  (by decide +kernel)
theorem dX1_findBest_104 : decode cX1_findBest 104 = .ok (.iconst 0, 1) := od_3  (by decide +kernel)
theorem dX1_findBest_105 : decode cX1_findBest 105 = .ok (.iconst 0, 1) := od_3  (by decide +kernel)
theorem dX1_findBest_106 : decode cX1_findBest 106 = .ok (.aload_n 0, 1) := od_42  (by decide +kernel)
theorem dX1_findBest_107 : decode cX1_findBest 107 = .ok (.getfield 40, 3) := od_180 (a := 0) (b := 40) (by decide +kernel) (by decide)
theorem dX1_findBest_110 : decode cX1_findBest 110 = .ok (.getfield 80, 3) := od_180 (a := 0) (b := 80) (by decide +kernel) (by decide)
theorem dX1_findBest_113 : decode cX1_findBest 113 = .ok (.iload_n 3, 1) := od_29  (by decide +kernel)
theorem dX1_findBest_114 : decode cX1_findBest 114 = .ok (.aaload, 1) := od_50  (by decide +kernel)
theorem dX1_findBest_115 : decode cX1_findBest 115 = .ok (.getfield 84, 3) := od_180 (a := 0) (b := 84) (by decide +kernel) (by decide)
theorem dX1_findBest_118 : decode cX1_findBest 118 = .ok (.iload_n 1, 1) := od_27  (by decide +kernel)
theorem dX1_findBest_119 : decode cX1_findBest 119 = .ok (.lconst 0, 1) := od_9  (by decide +kernel)
theorem dX1_findBest_120 : decode cX1_findBest 120 = .ok (.iconst 0, 1) := od_3  (by decide +kernel)
theorem dX1_findBest_121 : decode cX1_findBest 121 = .ok (.invokevirtual 89, 3) := od_182 (a := 0) (b := 89) (by decide +kernel) (by decide)
theorem dX1_findBest_124 : decode cX1_findBest 124 = .ok (.aload_n 0, 1) := od_42  (by decide +kernel)
theorem dX1_findBest_125 : decode cX1_findBest 125 = .ok (.iload_n 3, 1) := od_29  (by decide +kernel)
theorem dX1_findBest_126 : decode cX1_findBest 126 = .ok (.iload_n 2, 1) := od_28  (by decide +kernel)
theorem dX1_findBest_127 : decode cX1_findBest 127 = .ok (.invokevirtual 93, 3) := od_182 (a := 0) (b := 93) (by decide +kernel) (by decide)
theorem dX1_findBest_130 : decode cX1_findBest 130 = .ok (.iinc 3 1, 3) := od_132 (a := 3) (b := 1) (by decide +kernel) (by decide +kernel)
theorem dX1_findBest_133 : decode cX1_findBest 133 = .ok (.goto (-87), 3) := od_167 (a := 255) (b := 169) (by decide +kernel) (by decide +kernel)
theorem dX1_findBest_136 : decode cX1_findBest 136 = .ok (.iconst 0, 1) := od_3  (by decide +kernel)
theorem dX1_findBest_137 : decode cX1_findBest 137 = .ok (.istore_n 3, 1) := od_62  (by decide +kernel)
theorem dX1_findBest_138 : decode cX1_findBest 138 = .ok (.iconst 1, 1) := od_4  (by decide +kernel)
theorem dX1_findBest_139 : decode cX1_findBest 139 = .ok (.istore 4, 2) := od_54 (n := 4) (by decide +kernel)
theorem dX1_findBest_141 : decode cX1_findBest 141 = .ok (.iload 4, 2) := od_21 (n := 4) (by decide +kernel)
theorem dX1_findBest_143 : decode cX1_findBest 143 = .ok (.iload_n 2, 1) := od_28  (by decide +kernel)
theorem dX1_findBest_144 : decode cX1_findBest 144 = .ok (.if_icmp .ge 22, 3) := od_162 (a := 0) (b := 22) (by decide +kernel) (by decide +kernel)
theorem dX1_findBest_147 : decode cX1_findBest 147 = .ok (.aload_n 0, 1) := od_42  (by decide +kernel)
theorem dX1_findBest_148 : decode cX1_findBest 148 = .ok (.iload 4, 2) := od_21 (n := 4) (by decide +kernel)
theorem dX1_findBest_150 : decode cX1_findBest 150 = .ok (.iload_n 3, 1) := od_29  (by decide +kernel)
theorem dX1_findBest_151 : decode cX1_findBest 151 = .ok (.invokevirtual 97, 3) := od_182 (a := 0) (b := 97) (by decide +kernel) (by decide)
theorem dX1_findBest_154 : decode cX1_findBest 154 = .ok (.ifCond .eq 6, 3) := od_153 (a := 0) (b := 6) (by decide +kernel) (by decide +kernel)
theorem dX1_findBest_157 : decode cX1_findBest 157 = .ok (.iload 4, 2) := od_21 (n := 4) (by decide +kernel)
theorem dX1_findBest_159 : decode cX1_findBest 159 = .ok (.istore_n 3, 1) := od_62  (by decide +kernel)
theorem dX1_findBest_160 : decode cX1_findBest 160 = .ok (.iinc 4 1, 3) := od_132 (a := 4) (b := 1) (by decide +kernel) (by decide +kernel)
theorem dX1_findBest_163 : decode cX1_findBest 163 = .ok (.goto (-22), 3) := od_167 (a := 255) (b := 234) (by decide +kernel) (by decide +kernel)
theorem dX1_findBest_166 : decode cX1_findBest 166 = .ok (.aload_n 0, 1) := od_42  (by decide +kernel)
theorem dX1_findBest_167 : decode cX1_findBest 167 = .ok (.aload_n 0, 1) := od_42  (by decide +kernel)
theorem dX1_findBest_168 : decode cX1_findBest 168 = .ok (.getfield 22, 3) := od_180 (a := 0) (b := 22) (by decide +kernel) (by decide)
theorem dX1_findBest_171 : decode cX1_findBest 171 = .ok (.iload_n 3, 1) := od_29  (by decide +kernel)
theorem dX1_findBest_172 : decode cX1_findBest 172 = .ok (.iaload, 1) := od_46  (by decide +kernel)
theorem dX1_findBest_173 : decode cX1_findBest 173 = .ok (.iload_n 1, 1) := od_27  (by decide +kernel)
theorem dX1_findBest_174 : decode cX1_findBest 174 = .ok (.invokevirtual 101, 3) := od_182 (a := 0) (b := 101) (by decide +kernel) (by decide)
theorem dX1_findBest_177 : decode cX1_findBest 177 = .ok (.aload_n 0, 1) := od_42  (by decide +kernel)
theorem dX1_findBest_178 : decode cX1_findBest 178 = .ok (.getfield 19, 3) := od_180 (a := 0) (b := 19) (by decide +kernel) (by decide)
theorem dX1_findBest_181 : decode cX1_findBest 181 = .ok (.iload_n 3, 1) := od_29  (by decide +kernel)
theorem dX1_findBest_182 : decode cX1_findBest 182 = .ok (.laload, 1) := od_47  (by decide +kernel)
theorem dX1_findBest_183 : decode cX1_findBest 183 = .ok (.lreturn, 1) := od_173  (by decide +kernel)
theorem gX1_extend_X1_reckon : GoodIn WALL (wsV RX1 104 RX1 yX1_reckon wqX1_reckon) := wg_V wa_1358 wa_1359 wa_1360 wa_31 wa_1361
theorem gX1_extend_X1_keepRow : GoodIn WALL (wsV RX1 112 RX1 yX1_keepRow wqX1_keepRow) := wg_V wa_1380 wa_1381 wa_1382 wa_31 wa_1383
theorem gX1_extend_X4_number : GoodIn WALL (wsV RX1 116 RX4 yX4_number wqX4_number) := wg_V wa_1368 wa_679 wa_680 wa_56 wa_681
theorem gX1_extend_X1_extend : GoodIn WALL (wsV RX1 89 RX1 yX1_extend wqX1_extend) := wg_V wa_1352 wa_1353 wa_1354 wa_31 wa_1355
theorem dX1_extend_0 : decode cX1_extend 0 = .ok (.iload_n 2, 1) := od_28  (by decide +kernel)
theorem dX1_extend_1 : decode cX1_extend 1 = .ok (.bipush 6, 2) := od_16 (a := 6) (by decide +kernel) (by decide +kernel)
theorem dX1_extend_3 : decode cX1_extend 3 = .ok (.if_icmp .lt 4, 3) := od_161 (a := 0) (b := 4) (by decide +kernel) (by decide +kernel)
theorem dX1_extend_6 : decode cX1_extend 6 = .ok (.return_, 1) := od_177  (by decide +kernel)
theorem dX1_extend_7 : decode cX1_extend 7 = .ok (.iconst 0, 1) := od_3  (by decide +kernel)
theorem dX1_extend_8 : decode cX1_extend 8 = .ok (.istore 9, 2) := od_54 (n := 9) (by decide +kernel)
theorem dX1_extend_10 : decode cX1_extend 10 = .ok (.iload 9, 2) := od_21 (n := 9) (by decide +kernel)
theorem dX1_extend_12 : decode cX1_extend 12 = .ok (.aload_n 0, 1) := od_42  (by decide +kernel)
theorem dX1_extend_13 : decode cX1_extend 13 = .ok (.getfield 40, 3) := od_180 (a := 0) (b := 40) (by decide +kernel) (by decide)
theorem dX1_extend_16 : decode cX1_extend 16 = .ok (.getfield 50, 3) := od_180 (a := 0) (b := 50) (by decide +kernel) (by decide)
theorem dX1_extend_19 : decode cX1_extend 19 = .ok (.getfield 54, 3) := od_180 (a := 0) (b := 54) (by decide +kernel) (by decide)
theorem dX1_extend_22 : decode cX1_extend 22 = .ok (.if_icmp .ge 115, 3) := od_162 (a := 0) (b := 115) (by decide +kernel) (by decide +kernel)
theorem dX1_extend_25 : decode cX1_extend 25 = .ok (.iload 9, 2) := od_21 (n := 9) (by decide +kernel)
theorem dX1_extend_27 : decode cX1_extend 27 = .ok (.bipush 6, 2) := od_16 (a := 6) (by decide +kernel) (by decide +kernel)
theorem dX1_extend_29 : decode cX1_extend 29 = .ok (.if_icmp .ge 108, 3) := od_162 (a := 0) (b := 108) (by decide +kernel) (by decide +kernel)
theorem dX1_extend_32 : decode cX1_extend 32 = .ok (.iload_n 3, 1) := od_29  (by decide +kernel)
theorem dX1_extend_33 : decode cX1_extend 33 = .ok (.iload 9, 2) := od_21 (n := 9) (by decide +kernel)
theorem dX1_extend_35 : decode cX1_extend 35 = .ok (.ishr, 1) := od_122  (by decide +kernel)
theorem dX1_extend_36 : decode cX1_extend 36 = .ok (.iconst 1, 1) := od_4  (by decide +kernel)
theorem dX1_extend_37 : decode cX1_extend 37 = .ok (.iand, 1) := od_126  (by decide +kernel)
theorem dX1_extend_38 : decode cX1_extend 38 = .ok (.ifCond .ne 93, 3) := od_154 (a := 0) (b := 93) (by decide +kernel) (by decide +kernel)
theorem dX1_extend_41 : decode cX1_extend 41 = .ok (.aload_n 0, 1) := od_42  (by decide +kernel)
theorem dX1_extend_42 : decode cX1_extend 42 = .ok (.iload_n 1, 1) := od_27  (by decide +kernel)
theorem dX1_extend_43 : decode cX1_extend 43 = .ok (.iload 9, 2) := od_21 (n := 9) (by decide +kernel)
theorem dX1_extend_45 : decode cX1_extend 45 = .ok (.iload 4, 2) := od_21 (n := 4) (by decide +kernel)
theorem dX1_extend_47 : decode cX1_extend 47 = .ok (.iload 5, 2) := od_21 (n := 5) (by decide +kernel)
theorem dX1_extend_49 : decode cX1_extend 49 = .ok (.invokevirtual 104, 3) := od_182 (a := 0) (b := 104) (by decide +kernel) (by decide)
theorem dX1_extend_52 : decode cX1_extend 52 = .ok (.ifCond .eq 79, 3) := od_153 (a := 0) (b := 79) (by decide +kernel) (by decide +kernel)
theorem dX1_extend_55 : decode cX1_extend 55 = .ok (.iload_n 3, 1) := od_29  (by decide +kernel)
theorem dX1_extend_56 : decode cX1_extend 56 = .ok (.iconst 1, 1) := od_4  (by decide +kernel)
theorem dX1_extend_57 : decode cX1_extend 57 = .ok (.iload 9, 2) := od_21 (n := 9) (by decide +kernel)
theorem dX1_extend_59 : decode cX1_extend 59 = .ok (.ishl, 1) := od_120  (by decide +kernel)
theorem dX1_extend_60 : decode cX1_extend 60 = .ok (.ior, 1) := od_128  (by decide +kernel)
theorem dX1_extend_61 : decode cX1_extend 61 = .ok (.istore 10, 2) := od_54 (n := 10) (by decide +kernel)
theorem dX1_extend_63 : decode cX1_extend 63 = .ok (.iload 8, 2) := od_21 (n := 8) (by decide +kernel)
theorem dX1_extend_65 : decode cX1_extend 65 = .ok (.iload_n 2, 1) := od_28  (by decide +kernel)
theorem dX1_extend_66 : decode cX1_extend 66 = .ok (.iconst 3, 1) := od_6  (by decide +kernel)
theorem dX1_extend_67 : decode cX1_extend 67 = .ok (.iconst 5, 1) := od_8  (by decide +kernel)
theorem dX1_extend_68 : decode cX1_extend 68 = .ok (.iload 9, 2) := od_21 (n := 9) (by decide +kernel)
theorem dX1_extend_70 : decode cX1_extend 70 = .ok (.isub, 1) := od_100  (by decide +kernel)
theorem dX1_extend_71 : decode cX1_extend 71 = .ok (.imul, 1) := od_104  (by decide +kernel)
theorem dX1_extend_72 : decode cX1_extend 72 = .ok (.ishl, 1) := od_120  (by decide +kernel)
theorem dX1_extend_73 : decode cX1_extend 73 = .ok (.ior, 1) := od_128  (by decide +kernel)
theorem dX1_extend_74 : decode cX1_extend 74 = .ok (.istore 11, 2) := od_54 (n := 11) (by decide +kernel)
theorem dX1_extend_76 : decode cX1_extend 76 = .ok (.lload 6, 2) := od_22 (n := 6) (by decide +kernel)
theorem dX1_extend_78 : decode cX1_extend 78 = .ok (.aload_n 0, 1) := od_42  (by decide +kernel)
theorem dX1_extend_79 : decode cX1_extend 79 = .ok (.getfield 108, 3) := od_180 (a := 0) (b := 108) (by decide +kernel) (by decide)
theorem dX1_extend_82 : decode cX1_extend 82 = .ok (.ladd, 1) := od_97  (by decide +kernel)
theorem dX1_extend_83 : decode cX1_extend 83 = .ok (.lstore 12, 2) := od_55 (n := 12) (by decide +kernel)
theorem dX1_extend_85 : decode cX1_extend 85 = .ok (.aload_n 0, 1) := od_42  (by decide +kernel)
theorem dX1_extend_86 : decode cX1_extend 86 = .ok (.iload_n 1, 1) := od_27  (by decide +kernel)
theorem dX1_extend_87 : decode cX1_extend 87 = .ok (.bipush 64, 2) := od_16 (a := 64) (by decide +kernel) (by decide +kernel)
theorem dX1_extend_89 : decode cX1_extend 89 = .ok (.imul, 1) := od_104  (by decide +kernel)
theorem dX1_extend_90 : decode cX1_extend 90 = .ok (.iload 10, 2) := od_21 (n := 10) (by decide +kernel)
theorem dX1_extend_92 : decode cX1_extend 92 = .ok (.iadd, 1) := od_96  (by decide +kernel)
theorem dX1_extend_93 : decode cX1_extend 93 = .ok (.lload 12, 2) := od_22 (n := 12) (by decide +kernel)
theorem dX1_extend_95 : decode cX1_extend 95 = .ok (.iload 11, 2) := od_21 (n := 11) (by decide +kernel)
theorem dX1_extend_97 : decode cX1_extend 97 = .ok (.invokevirtual 112, 3) := od_182 (a := 0) (b := 112) (by decide +kernel) (by decide)
theorem dX1_extend_100 : decode cX1_extend 100 = .ok (.aload_n 0, 1) := od_42  (by decide +kernel)
theorem dX1_extend_101 : decode cX1_extend 101 = .ok (.iload_n 1, 1) := od_27  (by decide +kernel)
theorem dX1_extend_102 : decode cX1_extend 102 = .ok (.iload_n 2, 1) := od_28  (by decide +kernel)
theorem dX1_extend_103 : decode cX1_extend 103 = .ok (.iconst 1, 1) := od_4  (by decide +kernel)
theorem dX1_extend_104 : decode cX1_extend 104 = .ok (.iadd, 1) := od_96  (by decide +kernel)
theorem dX1_extend_105 : decode cX1_extend 105 = .ok (.iload 10, 2) := od_21 (n := 10) (by decide +kernel)
theorem dX1_extend_107 : decode cX1_extend 107 = .ok (.aload_n 0, 1) := od_42  (by decide +kernel)
theorem dX1_extend_108 : decode cX1_extend 108 = .ok (.getfield 40, 3) := od_180 (a := 0) (b := 40) (by decide +kernel) (by decide)
theorem dX1_extend_111 : decode cX1_extend 111 = .ok (.getfield 50, 3) := od_180 (a := 0) (b := 50) (by decide +kernel) (by decide)
theorem dX1_extend_114 : decode cX1_extend 114 = .ok (.iload 9, 2) := od_21 (n := 9) (by decide +kernel)
theorem dX1_extend_116 : decode cX1_extend 116 = .ok (.iconst 1, 1) := od_4  (by decide +kernel)
theorem dX1_extend_117 : decode cX1_extend 117 = .ok (.invokevirtual 116, 3) := od_182 (a := 0) (b := 116) (by decide +kernel) (by decide)
theorem dX1_extend_120 : decode cX1_extend 120 = .ok (.aload_n 0, 1) := od_42  (by decide +kernel)
theorem dX1_extend_121 : decode cX1_extend 121 = .ok (.getfield 119, 3) := od_180 (a := 0) (b := 119) (by decide +kernel) (by decide)
theorem dX1_extend_124 : decode cX1_extend 124 = .ok (.lload 12, 2) := od_22 (n := 12) (by decide +kernel)
theorem dX1_extend_126 : decode cX1_extend 126 = .ok (.iload 11, 2) := od_21 (n := 11) (by decide +kernel)
theorem dX1_extend_128 : decode cX1_extend 128 = .ok (.invokevirtual 89, 3) := od_182 (a := 0) (b := 89) (by decide +kernel) (by decide)
theorem dX1_extend_131 : decode cX1_extend 131 = .ok (.iinc 9 1, 3) := od_132 (a := 9) (b := 1) (by decide +kernel) (by decide +kernel)
theorem dX1_extend_134 : decode cX1_extend 134 = .ok (.goto (-124), 3) := od_167 (a := 255) (b := 132) (by decide +kernel) (by decide +kernel)
theorem dX1_extend_137 : decode cX1_extend 137 = .ok (.return_, 1) := od_177  (by decide +kernel)
theorem dX1_keepRow_0 : decode cX1_keepRow 0 = .ok (.iload_n 1, 1) := od_27  (by decide +kernel)
theorem dX1_keepRow_1 : decode cX1_keepRow 1 = .ok (.ifCond .lt 12, 3) := od_155 (a := 0) (b := 12) (by decide +kernel) (by decide +kernel)
theorem dX1_keepRow_4 : decode cX1_keepRow 4 = .ok (.iload_n 1, 1) := od_27  (by decide +kernel)
theorem dX1_keepRow_5 : decode cX1_keepRow 5 = .ok (.aload_n 0, 1) := od_42  (by decide +kernel)
theorem dX1_keepRow_6 : decode cX1_keepRow 6 = .ok (.getfield 11, 3) := od_180 (a := 0) (b := 11) (by decide +kernel) (by decide)
theorem dX1_keepRow_9 : decode cX1_keepRow 9 = .ok (.arraylength, 1) := od_190  (by decide +kernel)
theorem dX1_keepRow_10 : decode cX1_keepRow 10 = .ok (.if_icmp .lt 4, 3) := od_161 (a := 0) (b := 4) (by decide +kernel) (by decide +kernel)
theorem dX1_keepRow_13 : decode cX1_keepRow 13 = .ok (.return_, 1) := od_177  (by decide +kernel)
theorem dX1_keepRow_14 : decode cX1_keepRow 14 = .ok (.lload_n 2, 1) := od_32  (by decide +kernel)
theorem dX1_keepRow_15 : decode cX1_keepRow 15 = .ok (.aload_n 0, 1) := od_42  (by decide +kernel)
theorem dX1_keepRow_16 : decode cX1_keepRow 16 = .ok (.getfield 11, 3) := od_180 (a := 0) (b := 11) (by decide +kernel) (by decide)
theorem dX1_keepRow_19 : decode cX1_keepRow 19 = .ok (.iload_n 1, 1) := od_27  (by decide +kernel)
theorem dX1_keepRow_20 : decode cX1_keepRow 20 = .ok (.laload, 1) := od_47  (by decide +kernel)
theorem dX1_keepRow_21 : decode cX1_keepRow 21 = .ok (.lcmp, 1) := od_148  (by decide +kernel)
theorem dX1_keepRow_22 : decode cX1_keepRow 22 = .ok (.ifCond .gt 25, 3) := od_157 (a := 0) (b := 25) (by decide +kernel) (by decide +kernel)
theorem dX1_keepRow_25 : decode cX1_keepRow 25 = .ok (.lload_n 2, 1) := od_32  (by decide +kernel)
theorem dX1_keepRow_26 : decode cX1_keepRow 26 = .ok (.aload_n 0, 1) := od_42  (by decide +kernel)
theorem dX1_keepRow_27 : decode cX1_keepRow 27 = .ok (.getfield 11, 3) := od_180 (a := 0) (b := 11) (by decide +kernel) (by decide)
theorem dX1_keepRow_30 : decode cX1_keepRow 30 = .ok (.iload_n 1, 1) := od_27  (by decide +kernel)
theorem dX1_keepRow_31 : decode cX1_keepRow 31 = .ok (.laload, 1) := od_47  (by decide +kernel)
theorem dX1_keepRow_32 : decode cX1_keepRow 32 = .ok (.lcmp, 1) := od_148  (by decide +kernel)
theorem dX1_keepRow_33 : decode cX1_keepRow 33 = .ok (.ifCond .ne 29, 3) := od_154 (a := 0) (b := 29) (by decide +kernel) (by decide +kernel)
theorem dX1_keepRow_36 : decode cX1_keepRow 36 = .ok (.iload 4, 2) := od_21 (n := 4) (by decide +kernel)
theorem dX1_keepRow_38 : decode cX1_keepRow 38 = .ok (.aload_n 0, 1) := od_42  (by decide +kernel)
theorem dX1_keepRow_39 : decode cX1_keepRow 39 = .ok (.getfield 15, 3) := od_180 (a := 0) (b := 15) (by decide +kernel) (by decide)
theorem dX1_keepRow_42 : decode cX1_keepRow 42 = .ok (.iload_n 1, 1) := od_27  (by decide +kernel)
theorem dX1_keepRow_43 : decode cX1_keepRow 43 = .ok (.iaload, 1) := od_46  (by decide +kernel)
theorem dX1_keepRow_44 : decode cX1_keepRow 44 = .ok (.if_icmp .ge 18, 3) := od_162 (a := 0) (b := 18) (by decide +kernel) (by decide +kernel)
theorem dX1_keepRow_47 : decode cX1_keepRow 47 = .ok (.aload_n 0, 1) := od_42  (by decide +kernel)
theorem dX1_keepRow_48 : decode cX1_keepRow 48 = .ok (.getfield 11, 3) := od_180 (a := 0) (b := 11) (by decide +kernel) (by decide)
theorem dX1_keepRow_51 : decode cX1_keepRow 51 = .ok (.iload_n 1, 1) := od_27  (by decide +kernel)
theorem dX1_keepRow_52 : decode cX1_keepRow 52 = .ok (.lload_n 2, 1) := od_32  (by decide +kernel)
theorem dX1_keepRow_53 : decode cX1_keepRow 53 = .ok (.lastore, 1) := od_80  (by decide +kernel)
theorem dX1_keepRow_54 : decode cX1_keepRow 54 = .ok (.aload_n 0, 1) := od_42  (by decide +kernel)
theorem dX1_keepRow_55 : decode cX1_keepRow 55 = .ok (.getfield 15, 3) := od_180 (a := 0) (b := 15) (by decide +kernel) (by decide)
theorem dX1_keepRow_58 : decode cX1_keepRow 58 = .ok (.iload_n 1, 1) := od_27  (by decide +kernel)
theorem dX1_keepRow_59 : decode cX1_keepRow 59 = .ok (.iload 4, 2) := od_21 (n := 4) (by decide +kernel)
theorem dX1_keepRow_61 : decode cX1_keepRow 61 = .ok (.iastore, 1) := od_79  (by decide +kernel)
theorem dX1_keepRow_62 : decode cX1_keepRow 62 = .ok (.return_, 1) := od_177  (by decide +kernel)
theorem gX1_addShip_X1_joinSets : GoodIn WALL (wsV RX1 122 RX1 yX1_joinSets wqX1_joinSets) := wg_V wa_1388 wa_1389 wa_1390 wa_31 wa_1391
theorem dX1_addShip_0 : decode cX1_addShip 0 = .ok (.iload_n 2, 1) := od_28  (by decide +kernel)
theorem dX1_addShip_1 : decode cX1_addShip 1 = .ok (.iconst 1, 1) := od_4  (by decide +kernel)
theorem dX1_addShip_2 : decode cX1_addShip 2 = .ok (.isub, 1) := od_100  (by decide +kernel)
theorem dX1_addShip_3 : decode cX1_addShip 3 = .ok (.istore_n 3, 1) := od_62  (by decide +kernel)
theorem dX1_addShip_4 : decode cX1_addShip 4 = .ok (.iload_n 3, 1) := od_29  (by decide +kernel)
theorem dX1_addShip_5 : decode cX1_addShip 5 = .ok (.ifCond .le 82, 3) := od_158 (a := 0) (b := 82) (by decide +kernel) (by decide +kernel)
theorem dX1_addShip_8 : decode cX1_addShip 8 = .ok (.iconst 1, 1) := od_4  (by decide +kernel)
theorem dX1_addShip_9 : decode cX1_addShip 9 = .ok (.istore 4, 2) := od_54 (n := 4) (by decide +kernel)
theorem dX1_addShip_11 : decode cX1_addShip 11 = .ok (.iload 4, 2) := od_21 (n := 4) (by decide +kernel)
theorem dX1_addShip_13 : decode cX1_addShip 13 = .ok (.iload_n 3, 1) := od_29  (by decide +kernel)
theorem dX1_addShip_14 : decode cX1_addShip 14 = .ok (.if_icmp .gt 67, 3) := od_163 (a := 0) (b := 67) (by decide +kernel) (by decide +kernel)
theorem dX1_addShip_17 : decode cX1_addShip 17 = .ok (.iload_n 3, 1) := od_29  (by decide +kernel)
theorem dX1_addShip_18 : decode cX1_addShip 18 = .ok (.iload 4, 2) := od_21 (n := 4) (by decide +kernel)
theorem dX1_addShip_20 : decode cX1_addShip 20 = .ok (.iconst (-1), 1) := od_2  (by decide +kernel)
theorem dX1_addShip_21 : decode cX1_addShip 21 = .ok (.ixor, 1) := od_130  (by decide +kernel)
theorem dX1_addShip_22 : decode cX1_addShip 22 = .ok (.iand, 1) := od_126  (by decide +kernel)
theorem dX1_addShip_23 : decode cX1_addShip 23 = .ok (.istore 5, 2) := od_54 (n := 5) (by decide +kernel)
theorem dX1_addShip_25 : decode cX1_addShip 25 = .ok (.iload 4, 2) := od_21 (n := 4) (by decide +kernel)
theorem dX1_addShip_27 : decode cX1_addShip 27 = .ok (.iload_n 3, 1) := od_29  (by decide +kernel)
theorem dX1_addShip_28 : decode cX1_addShip 28 = .ok (.iconst (-1), 1) := od_2  (by decide +kernel)
theorem dX1_addShip_29 : decode cX1_addShip 29 = .ok (.ixor, 1) := od_130  (by decide +kernel)
theorem dX1_addShip_30 : decode cX1_addShip 30 = .ok (.iand, 1) := od_126  (by decide +kernel)
theorem dX1_addShip_31 : decode cX1_addShip 31 = .ok (.ifCond .ne 44, 3) := od_154 (a := 0) (b := 44) (by decide +kernel) (by decide +kernel)
theorem dX1_addShip_34 : decode cX1_addShip 34 = .ok (.aload_n 0, 1) := od_42  (by decide +kernel)
theorem dX1_addShip_35 : decode cX1_addShip 35 = .ok (.getfield 11, 3) := od_180 (a := 0) (b := 11) (by decide +kernel) (by decide)
theorem dX1_addShip_38 : decode cX1_addShip 38 = .ok (.iload_n 1, 1) := od_27  (by decide +kernel)
theorem dX1_addShip_39 : decode cX1_addShip 39 = .ok (.bipush 64, 2) := od_16 (a := 64) (by decide +kernel) (by decide +kernel)
theorem dX1_addShip_41 : decode cX1_addShip 41 = .ok (.imul, 1) := od_104  (by decide +kernel)
theorem dX1_addShip_42 : decode cX1_addShip 42 = .ok (.iload 4, 2) := od_21 (n := 4) (by decide +kernel)
theorem dX1_addShip_44 : decode cX1_addShip 44 = .ok (.iadd, 1) := od_96  (by decide +kernel)
theorem dX1_addShip_45 : decode cX1_addShip 45 = .ok (.laload, 1) := od_47  (by decide +kernel)
theorem dX1_addShip_46 : decode cX1_addShip 46 = .ok (.ldc2_w 66, 3) := od_20 (a := 0) (b := 66) (by decide +kernel) (by decide)
theorem dX1_addShip_49 : decode cX1_addShip 49 = .ok (.lcmp, 1) := od_148  (by decide +kernel)
theorem dX1_addShip_50 : decode cX1_addShip 50 = .ok (.ifCond .eq 25, 3) := od_153 (a := 0) (b := 25) (by decide +kernel) (by decide +kernel)
theorem dX1_addShip_53 : decode cX1_addShip 53 = .ok (.aload_n 0, 1) := od_42  (by decide +kernel)
theorem dX1_addShip_54 : decode cX1_addShip 54 = .ok (.getfield 19, 3) := od_180 (a := 0) (b := 19) (by decide +kernel) (by decide)
theorem dX1_addShip_57 : decode cX1_addShip 57 = .ok (.iload 5, 2) := od_21 (n := 5) (by decide +kernel)
theorem dX1_addShip_59 : decode cX1_addShip 59 = .ok (.laload, 1) := od_47  (by decide +kernel)
theorem dX1_addShip_60 : decode cX1_addShip 60 = .ok (.ldc2_w 66, 3) := od_20 (a := 0) (b := 66) (by decide +kernel) (by decide)
theorem dX1_addShip_63 : decode cX1_addShip 63 = .ok (.lcmp, 1) := od_148  (by decide +kernel)
theorem dX1_addShip_64 : decode cX1_addShip 64 = .ok (.ifCond .eq 11, 3) := od_153 (a := 0) (b := 11) (by decide +kernel) (by decide +kernel)
theorem dX1_addShip_67 : decode cX1_addShip 67 = .ok (.aload_n 0, 1) := od_42  (by decide +kernel)
theorem dX1_addShip_68 : decode cX1_addShip 68 = .ok (.iload_n 1, 1) := od_27  (by decide +kernel)
theorem dX1_addShip_69 : decode cX1_addShip 69 = .ok (.iload_n 3, 1) := od_29  (by decide +kernel)
theorem dX1_addShip_70 : decode cX1_addShip 70 = .ok (.iload 4, 2) := od_21 (n := 4) (by decide +kernel)
theorem dX1_addShip_72 : decode cX1_addShip 72 = .ok (.invokevirtual 122, 3) := od_182 (a := 0) (b := 122) (by decide +kernel) (by decide)
theorem dX1_addShip_75 : decode cX1_addShip 75 = .ok (.iinc 4 1, 3) := od_132 (a := 4) (b := 1) (by decide +kernel) (by decide +kernel)
theorem dX1_addShip_78 : decode cX1_addShip 78 = .ok (.goto (-67), 3) := od_167 (a := 255) (b := 189) (by decide +kernel) (by decide +kernel)
theorem dX1_addShip_81 : decode cX1_addShip 81 = .ok (.iinc 3 (-1), 3) := od_132 (a := 3) (b := 255) (by decide +kernel) (by decide +kernel)
theorem dX1_addShip_84 : decode cX1_addShip 84 = .ok (.goto (-80), 3) := od_167 (a := 255) (b := 176) (by decide +kernel) (by decide +kernel)
theorem dX1_addShip_87 : decode cX1_addShip 87 = .ok (.return_, 1) := od_177  (by decide +kernel)
theorem dX1_joinSets_0 : decode cX1_joinSets 0 = .ok (.iload_n 2, 1) := od_28  (by decide +kernel)
theorem dX1_joinSets_1 : decode cX1_joinSets 1 = .ok (.iload_n 3, 1) := od_29  (by decide +kernel)
theorem dX1_joinSets_2 : decode cX1_joinSets 2 = .ok (.iconst (-1), 1) := od_2  (by decide +kernel)
theorem dX1_joinSets_3 : decode cX1_joinSets 3 = .ok (.ixor, 1) := od_130  (by decide +kernel)
theorem dX1_joinSets_4 : decode cX1_joinSets 4 = .ok (.iand, 1) := od_126  (by decide +kernel)
theorem dX1_joinSets_5 : decode cX1_joinSets 5 = .ok (.istore 4, 2) := od_54 (n := 4) (by decide +kernel)
theorem dX1_joinSets_7 : decode cX1_joinSets 7 = .ok (.aload_n 0, 1) := od_42  (by decide +kernel)
theorem dX1_joinSets_8 : decode cX1_joinSets 8 = .ok (.getfield 19, 3) := od_180 (a := 0) (b := 19) (by decide +kernel) (by decide)
theorem dX1_joinSets_11 : decode cX1_joinSets 11 = .ok (.iload 4, 2) := od_21 (n := 4) (by decide +kernel)
theorem dX1_joinSets_13 : decode cX1_joinSets 13 = .ok (.laload, 1) := od_47  (by decide +kernel)
theorem dX1_joinSets_14 : decode cX1_joinSets 14 = .ok (.aload_n 0, 1) := od_42  (by decide +kernel)
theorem dX1_joinSets_15 : decode cX1_joinSets 15 = .ok (.getfield 11, 3) := od_180 (a := 0) (b := 11) (by decide +kernel) (by decide)
theorem dX1_joinSets_18 : decode cX1_joinSets 18 = .ok (.iload_n 1, 1) := od_27  (by decide +kernel)
theorem dX1_joinSets_19 : decode cX1_joinSets 19 = .ok (.bipush 64, 2) := od_16 (a := 64) (by decide +kernel) (by decide +kernel)
theorem dX1_joinSets_21 : decode cX1_joinSets 21 = .ok (.imul, 1) := od_104  (by decide +kernel)
theorem dX1_joinSets_22 : decode cX1_joinSets 22 = .ok (.iload_n 3, 1) := od_29  (by decide +kernel)
theorem dX1_joinSets_23 : decode cX1_joinSets 23 = .ok (.iadd, 1) := od_96  (by decide +kernel)
theorem dX1_joinSets_24 : decode cX1_joinSets 24 = .ok (.laload, 1) := od_47  (by decide +kernel)
theorem dX1_joinSets_25 : decode cX1_joinSets 25 = .ok (.ladd, 1) := od_97  (by decide +kernel)
theorem dX1_joinSets_26 : decode cX1_joinSets 26 = .ok (.lstore 5, 2) := od_55 (n := 5) (by decide +kernel)
theorem dX1_joinSets_28 : decode cX1_joinSets 28 = .ok (.lload 5, 2) := od_22 (n := 5) (by decide +kernel)
theorem dX1_joinSets_30 : decode cX1_joinSets 30 = .ok (.aload_n 0, 1) := od_42  (by decide +kernel)
theorem dX1_joinSets_31 : decode cX1_joinSets 31 = .ok (.getfield 19, 3) := od_180 (a := 0) (b := 19) (by decide +kernel) (by decide)
theorem dX1_joinSets_34 : decode cX1_joinSets 34 = .ok (.iload_n 2, 1) := od_28  (by decide +kernel)
theorem dX1_joinSets_35 : decode cX1_joinSets 35 = .ok (.laload, 1) := od_47  (by decide +kernel)
theorem dX1_joinSets_36 : decode cX1_joinSets 36 = .ok (.lcmp, 1) := od_148  (by decide +kernel)
theorem dX1_joinSets_37 : decode cX1_joinSets 37 = .ok (.ifCond .ge 4, 3) := od_156 (a := 0) (b := 4) (by decide +kernel) (by decide +kernel)
theorem dX1_joinSets_40 : decode cX1_joinSets 40 = .ok (.return_, 1) := od_177  (by decide +kernel)
theorem dX1_joinSets_41 : decode cX1_joinSets 41 = .ok (.aload_n 0, 1) := od_42  (by decide +kernel)
theorem dX1_joinSets_42 : decode cX1_joinSets 42 = .ok (.getfield 22, 3) := od_180 (a := 0) (b := 22) (by decide +kernel) (by decide)
theorem dX1_joinSets_45 : decode cX1_joinSets 45 = .ok (.iload 4, 2) := od_21 (n := 4) (by decide +kernel)
theorem dX1_joinSets_47 : decode cX1_joinSets 47 = .ok (.iaload, 1) := od_46  (by decide +kernel)
theorem dX1_joinSets_48 : decode cX1_joinSets 48 = .ok (.istore 7, 2) := od_54 (n := 7) (by decide +kernel)
theorem dX1_joinSets_50 : decode cX1_joinSets 50 = .ok (.iconst 0, 1) := od_3  (by decide +kernel)
theorem dX1_joinSets_51 : decode cX1_joinSets 51 = .ok (.istore 8, 2) := od_54 (n := 8) (by decide +kernel)
theorem dX1_joinSets_53 : decode cX1_joinSets 53 = .ok (.iload 8, 2) := od_21 (n := 8) (by decide +kernel)
theorem dX1_joinSets_55 : decode cX1_joinSets 55 = .ok (.bipush 6, 2) := od_16 (a := 6) (by decide +kernel) (by decide +kernel)
theorem dX1_joinSets_57 : decode cX1_joinSets 57 = .ok (.if_icmp .ge 43, 3) := od_162 (a := 0) (b := 43) (by decide +kernel) (by decide +kernel)
theorem dX1_joinSets_60 : decode cX1_joinSets 60 = .ok (.iload_n 3, 1) := od_29  (by decide +kernel)
theorem dX1_joinSets_61 : decode cX1_joinSets 61 = .ok (.iload 8, 2) := od_21 (n := 8) (by decide +kernel)
theorem dX1_joinSets_63 : decode cX1_joinSets 63 = .ok (.ishr, 1) := od_122  (by decide +kernel)
theorem dX1_joinSets_64 : decode cX1_joinSets 64 = .ok (.iconst 1, 1) := od_4  (by decide +kernel)
theorem dX1_joinSets_65 : decode cX1_joinSets 65 = .ok (.iand, 1) := od_126  (by decide +kernel)
theorem dX1_joinSets_66 : decode cX1_joinSets 66 = .ok (.iconst 1, 1) := od_4  (by decide +kernel)
theorem dX1_joinSets_67 : decode cX1_joinSets 67 = .ok (.if_icmp .ne 27, 3) := od_160 (a := 0) (b := 27) (by decide +kernel) (by decide +kernel)
theorem dX1_joinSets_70 : decode cX1_joinSets 70 = .ok (.iconst 2, 1) := od_5  (by decide +kernel)
theorem dX1_joinSets_71 : decode cX1_joinSets 71 = .ok (.iconst 5, 1) := od_8  (by decide +kernel)
theorem dX1_joinSets_72 : decode cX1_joinSets 72 = .ok (.iload 8, 2) := od_21 (n := 8) (by decide +kernel)
theorem dX1_joinSets_74 : decode cX1_joinSets 74 = .ok (.isub, 1) := od_100  (by decide +kernel)
theorem dX1_joinSets_75 : decode cX1_joinSets 75 = .ok (.imul, 1) := od_104  (by decide +kernel)
theorem dX1_joinSets_76 : decode cX1_joinSets 76 = .ok (.istore 9, 2) := od_54 (n := 9) (by decide +kernel)
theorem dX1_joinSets_78 : decode cX1_joinSets 78 = .ok (.iload 7, 2) := od_21 (n := 7) (by decide +kernel)
theorem dX1_joinSets_80 : decode cX1_joinSets 80 = .ok (.iconst 3, 1) := od_6  (by decide +kernel)
theorem dX1_joinSets_81 : decode cX1_joinSets 81 = .ok (.iload 9, 2) := od_21 (n := 9) (by decide +kernel)
theorem dX1_joinSets_83 : decode cX1_joinSets 83 = .ok (.ishl, 1) := od_120  (by decide +kernel)
theorem dX1_joinSets_84 : decode cX1_joinSets 84 = .ok (.iconst (-1), 1) := od_2  (by decide +kernel)
theorem dX1_joinSets_85 : decode cX1_joinSets 85 = .ok (.ixor, 1) := od_130  (by decide +kernel)
theorem dX1_joinSets_86 : decode cX1_joinSets 86 = .ok (.iand, 1) := od_126  (by decide +kernel)
theorem dX1_joinSets_87 : decode cX1_joinSets 87 = .ok (.iload_n 1, 1) := od_27  (by decide +kernel)
theorem dX1_joinSets_88 : decode cX1_joinSets 88 = .ok (.iload 9, 2) := od_21 (n := 9) (by decide +kernel)
theorem dX1_joinSets_90 : decode cX1_joinSets 90 = .ok (.ishl, 1) := od_120  (by decide +kernel)
theorem dX1_joinSets_91 : decode cX1_joinSets 91 = .ok (.ior, 1) := od_128  (by decide +kernel)
theorem dX1_joinSets_92 : decode cX1_joinSets 92 = .ok (.istore 7, 2) := od_54 (n := 7) (by decide +kernel)
theorem dX1_joinSets_94 : decode cX1_joinSets 94 = .ok (.iinc 8 1, 3) := od_132 (a := 8) (b := 1) (by decide +kernel) (by decide +kernel)
theorem dX1_joinSets_97 : decode cX1_joinSets 97 = .ok (.goto (-44), 3) := od_167 (a := 255) (b := 212) (by decide +kernel) (by decide +kernel)
theorem dX1_joinSets_100 : decode cX1_joinSets 100 = .ok (.lload 5, 2) := od_22 (n := 5) (by decide +kernel)
theorem dX1_joinSets_102 : decode cX1_joinSets 102 = .ok (.aload_n 0, 1) := od_42  (by decide +kernel)
theorem dX1_joinSets_103 : decode cX1_joinSets 103 = .ok (.getfield 19, 3) := od_180 (a := 0) (b := 19) (by decide +kernel) (by decide)
theorem dX1_joinSets_106 : decode cX1_joinSets 106 = .ok (.iload_n 2, 1) := od_28  (by decide +kernel)
theorem dX1_joinSets_107 : decode cX1_joinSets 107 = .ok (.laload, 1) := od_47  (by decide +kernel)
theorem dX1_joinSets_108 : decode cX1_joinSets 108 = .ok (.lcmp, 1) := od_148  (by decide +kernel)
theorem dX1_joinSets_109 : decode cX1_joinSets 109 = .ok (.ifCond .gt 14, 3) := od_157 (a := 0) (b := 14) (by decide +kernel) (by decide +kernel)
theorem dX1_joinSets_112 : decode cX1_joinSets 112 = .ok (.iload 7, 2) := od_21 (n := 7) (by decide +kernel)
theorem dX1_joinSets_114 : decode cX1_joinSets 114 = .ok (.aload_n 0, 1) := od_42  (by decide +kernel)
theorem dX1_joinSets_115 : decode cX1_joinSets 115 = .ok (.getfield 22, 3) := od_180 (a := 0) (b := 22) (by decide +kernel) (by decide)
theorem dX1_joinSets_118 : decode cX1_joinSets 118 = .ok (.iload_n 2, 1) := od_28  (by decide +kernel)
theorem dX1_joinSets_119 : decode cX1_joinSets 119 = .ok (.iaload, 1) := od_46  (by decide +kernel)
theorem dX1_joinSets_120 : decode cX1_joinSets 120 = .ok (.if_icmp .ge 19, 3) := od_162 (a := 0) (b := 19) (by decide +kernel) (by decide +kernel)
theorem dX1_joinSets_123 : decode cX1_joinSets 123 = .ok (.aload_n 0, 1) := od_42  (by decide +kernel)
theorem dX1_joinSets_124 : decode cX1_joinSets 124 = .ok (.getfield 19, 3) := od_180 (a := 0) (b := 19) (by decide +kernel) (by decide)
theorem dX1_joinSets_127 : decode cX1_joinSets 127 = .ok (.iload_n 2, 1) := od_28  (by decide +kernel)
theorem dX1_joinSets_128 : decode cX1_joinSets 128 = .ok (.lload 5, 2) := od_22 (n := 5) (by decide +kernel)
theorem dX1_joinSets_130 : decode cX1_joinSets 130 = .ok (.lastore, 1) := od_80  (by decide +kernel)
theorem dX1_joinSets_131 : decode cX1_joinSets 131 = .ok (.aload_n 0, 1) := od_42  (by decide +kernel)
theorem dX1_joinSets_132 : decode cX1_joinSets 132 = .ok (.getfield 22, 3) := od_180 (a := 0) (b := 22) (by decide +kernel) (by decide)
theorem dX1_joinSets_135 : decode cX1_joinSets 135 = .ok (.iload_n 2, 1) := od_28  (by decide +kernel)
theorem dX1_joinSets_136 : decode cX1_joinSets 136 = .ok (.iload 7, 2) := od_21 (n := 7) (by decide +kernel)
theorem dX1_joinSets_138 : decode cX1_joinSets 138 = .ok (.iastore, 1) := od_79  (by decide +kernel)
theorem dX1_joinSets_139 : decode cX1_joinSets 139 = .ok (.return_, 1) := od_177  (by decide +kernel)
theorem gX1_isBetter_J6_bitCount_0f7a4 : GoodIn WALL (va_wsS RX1 126 yJ6_bitCount_0f7a4 wqJ6_bitCount_0f7a4) := wg_S wa_1396 wa_1397 wa_1398 wa_1399
theorem dX1_isBetter_0 : decode cX1_isBetter 0 = .ok (.aload_n 0, 1) := od_42  (by decide +kernel)
theorem dX1_isBetter_1 : decode cX1_isBetter 1 = .ok (.getfield 19, 3) := od_180 (a := 0) (b := 19) (by decide +kernel) (by decide)
theorem dX1_isBetter_4 : decode cX1_isBetter 4 = .ok (.iload_n 1, 1) := od_27  (by decide +kernel)
theorem dX1_isBetter_5 : decode cX1_isBetter 5 = .ok (.laload, 1) := od_47  (by decide +kernel)
theorem dX1_isBetter_6 : decode cX1_isBetter 6 = .ok (.aload_n 0, 1) := od_42  (by decide +kernel)
theorem dX1_isBetter_7 : decode cX1_isBetter 7 = .ok (.getfield 19, 3) := od_180 (a := 0) (b := 19) (by decide +kernel) (by decide)
theorem dX1_isBetter_10 : decode cX1_isBetter 10 = .ok (.iload_n 2, 1) := od_28  (by decide +kernel)
theorem dX1_isBetter_11 : decode cX1_isBetter 11 = .ok (.laload, 1) := od_47  (by decide +kernel)
theorem dX1_isBetter_12 : decode cX1_isBetter 12 = .ok (.lcmp, 1) := od_148  (by decide +kernel)
theorem dX1_isBetter_13 : decode cX1_isBetter 13 = .ok (.ifCond .eq 25, 3) := od_153 (a := 0) (b := 25) (by decide +kernel) (by decide +kernel)
theorem dX1_isBetter_16 : decode cX1_isBetter 16 = .ok (.aload_n 0, 1) := od_42  (by decide +kernel)
theorem dX1_isBetter_17 : decode cX1_isBetter 17 = .ok (.getfield 19, 3) := od_180 (a := 0) (b := 19) (by decide +kernel) (by decide)
theorem dX1_isBetter_20 : decode cX1_isBetter 20 = .ok (.iload_n 1, 1) := od_27  (by decide +kernel)
theorem dX1_isBetter_21 : decode cX1_isBetter 21 = .ok (.laload, 1) := od_47  (by decide +kernel)
theorem dX1_isBetter_22 : decode cX1_isBetter 22 = .ok (.aload_n 0, 1) := od_42  (by decide +kernel)
theorem dX1_isBetter_23 : decode cX1_isBetter 23 = .ok (.getfield 19, 3) := od_180 (a := 0) (b := 19) (by decide +kernel) (by decide)
theorem dX1_isBetter_26 : decode cX1_isBetter 26 = .ok (.iload_n 2, 1) := od_28  (by decide +kernel)
theorem dX1_isBetter_27 : decode cX1_isBetter 27 = .ok (.laload, 1) := od_47  (by decide +kernel)
theorem dX1_isBetter_28 : decode cX1_isBetter 28 = .ok (.lcmp, 1) := od_148  (by decide +kernel)
theorem dX1_isBetter_29 : decode cX1_isBetter 29 = .ok (.ifCond .le 7, 3) := od_158 (a := 0) (b := 7) (by decide +kernel) (by decide +kernel)
theorem dX1_isBetter_32 : decode cX1_isBetter 32 = .ok (.iconst 1, 1) := od_4  (by decide +kernel)
theorem dX1_isBetter_33 : decode cX1_isBetter 33 = .ok (.goto 4, 3) := od_167 (a := 0) (b := 4) (by decide +kernel) (by decide +kernel)
theorem dX1_isBetter_36 : decode cX1_isBetter 36 = .ok (.iconst 0, 1) := od_3  (by decide +kernel)
theorem dX1_isBetter_37 : decode cX1_isBetter 37 = .ok (.ireturn, 1) := od_172  (by decide +kernel)
theorem dX1_isBetter_38 : decode cX1_isBetter 38 = .ok (.iload_n 1, 1) := od_27  (by decide +kernel)
theorem dX1_isBetter_39 : decode cX1_isBetter 39 = .ok (.invokestatic 126, 3) := od_184 (a := 0) (b := 126) (by decide +kernel) (by decide)
theorem dX1_isBetter_42 : decode cX1_isBetter 42 = .ok (.iload_n 2, 1) := od_28  (by decide +kernel)
theorem dX1_isBetter_43 : decode cX1_isBetter 43 = .ok (.invokestatic 126, 3) := od_184 (a := 0) (b := 126) (by decide +kernel) (by decide)
theorem dX1_isBetter_46 : decode cX1_isBetter 46 = .ok (.isub, 1) := od_100  (by decide +kernel)
theorem dX1_isBetter_47 : decode cX1_isBetter 47 = .ok (.istore_n 3, 1) := od_62  (by decide +kernel)
theorem dX1_isBetter_48 : decode cX1_isBetter 48 = .ok (.iload_n 3, 1) := od_29  (by decide +kernel)
theorem dX1_isBetter_49 : decode cX1_isBetter 49 = .ok (.ifCond .eq 15, 3) := od_153 (a := 0) (b := 15) (by decide +kernel) (by decide +kernel)
theorem dX1_isBetter_52 : decode cX1_isBetter 52 = .ok (.iload_n 3, 1) := od_29  (by decide +kernel)
theorem dX1_isBetter_53 : decode cX1_isBetter 53 = .ok (.ifCond .ge 7, 3) := od_156 (a := 0) (b := 7) (by decide +kernel) (by decide +kernel)
theorem dX1_isBetter_56 : decode cX1_isBetter 56 = .ok (.iconst 1, 1) := od_4  (by decide +kernel)
theorem dX1_isBetter_57 : decode cX1_isBetter 57 = .ok (.goto 27, 3) := od_167 (a := 0) (b := 27) (by decide +kernel) (by decide +kernel)
theorem dX1_isBetter_60 : decode cX1_isBetter 60 = .ok (.iconst 0, 1) := od_3  (by decide +kernel)
theorem dX1_isBetter_61 : decode cX1_isBetter 61 = .ok (.goto 23, 3) := od_167 (a := 0) (b := 23) (by decide +kernel) (by decide +kernel)
theorem dX1_isBetter_64 : decode cX1_isBetter 64 = .ok (.aload_n 0, 1) := od_42  (by decide +kernel)
theorem dX1_isBetter_65 : decode cX1_isBetter 65 = .ok (.getfield 22, 3) := od_180 (a := 0) (b := 22) (by decide +kernel) (by decide)
theorem dX1_isBetter_68 : decode cX1_isBetter 68 = .ok (.iload_n 1, 1) := od_27  (by decide +kernel)
theorem dX1_isBetter_69 : decode cX1_isBetter 69 = .ok (.iaload, 1) := od_46  (by decide +kernel)
theorem dX1_isBetter_70 : decode cX1_isBetter 70 = .ok (.aload_n 0, 1) := od_42  (by decide +kernel)
theorem dX1_isBetter_71 : decode cX1_isBetter 71 = .ok (.getfield 22, 3) := od_180 (a := 0) (b := 22) (by decide +kernel) (by decide)
theorem dX1_isBetter_74 : decode cX1_isBetter 74 = .ok (.iload_n 2, 1) := od_28  (by decide +kernel)
theorem dX1_isBetter_75 : decode cX1_isBetter 75 = .ok (.iaload, 1) := od_46  (by decide +kernel)
theorem dX1_isBetter_76 : decode cX1_isBetter 76 = .ok (.if_icmp .ge 7, 3) := od_162 (a := 0) (b := 7) (by decide +kernel) (by decide +kernel)
theorem dX1_isBetter_79 : decode cX1_isBetter 79 = .ok (.iconst 1, 1) := od_4  (by decide +kernel)
theorem dX1_isBetter_80 : decode cX1_isBetter 80 = .ok (.goto 4, 3) := od_167 (a := 0) (b := 4) (by decide +kernel) (by decide +kernel)
theorem dX1_isBetter_83 : decode cX1_isBetter 83 = .ok (.iconst 0, 1) := od_3  (by decide +kernel)
theorem dX1_isBetter_84 : decode cX1_isBetter 84 = .ok (.ireturn, 1) := od_172  (by decide +kernel)
theorem gX1_keepPlan_X1_keepVoyage : GoodIn WALL (wsV RX1 135 RX1 yX1_keepVoyage wqX1_keepVoyage) := wg_V wa_1408 wa_1409 wa_1410 wa_31 wa_1411
theorem dX1_keepPlan_0 : decode cX1_keepPlan 0 = .ok (.aload_n 0, 1) := od_42  (by decide +kernel)
theorem dX1_keepPlan_1 : decode cX1_keepPlan 1 = .ok (.bipush 6, 2) := od_16 (a := 6) (by decide +kernel) (by decide +kernel)
theorem dX1_keepPlan_3 : decode cX1_keepPlan 3 = .ok (.aload_n 0, 1) := od_42  (by decide +kernel)
theorem dX1_keepPlan_4 : decode cX1_keepPlan 4 = .ok (.getfield 40, 3) := od_180 (a := 0) (b := 40) (by decide +kernel) (by decide)
theorem dX1_keepPlan_7 : decode cX1_keepPlan 7 = .ok (.getfield 50, 3) := od_180 (a := 0) (b := 50) (by decide +kernel) (by decide)
theorem dX1_keepPlan_10 : decode cX1_keepPlan 10 = .ok (.getfield 54, 3) := od_180 (a := 0) (b := 54) (by decide +kernel) (by decide)
theorem dX1_keepPlan_13 : decode cX1_keepPlan 13 = .ok (.invokestatic 60, 3) := od_184 (a := 0) (b := 60) (by decide +kernel) (by decide)
theorem dX1_keepPlan_16 : decode cX1_keepPlan 16 = .ok (.putfield 132, 3) := od_181 (a := 0) (b := 132) (by decide +kernel) (by decide)
theorem dX1_keepPlan_19 : decode cX1_keepPlan 19 = .ok (.iconst 0, 1) := od_3  (by decide +kernel)
theorem dX1_keepPlan_20 : decode cX1_keepPlan 20 = .ok (.istore_n 3, 1) := od_62  (by decide +kernel)
theorem dX1_keepPlan_21 : decode cX1_keepPlan 21 = .ok (.iload_n 3, 1) := od_29  (by decide +kernel)
theorem dX1_keepPlan_22 : decode cX1_keepPlan 22 = .ok (.aload_n 0, 1) := od_42  (by decide +kernel)
theorem dX1_keepPlan_23 : decode cX1_keepPlan 23 = .ok (.getfield 132, 3) := od_180 (a := 0) (b := 132) (by decide +kernel) (by decide)
theorem dX1_keepPlan_26 : decode cX1_keepPlan 26 = .ok (.if_icmp .ge 38, 3) := od_162 (a := 0) (b := 38) (by decide +kernel) (by decide +kernel)
theorem dX1_keepPlan_29 : decode cX1_keepPlan 29 = .ok (.iload_n 1, 1) := od_27  (by decide +kernel)
theorem dX1_keepPlan_30 : decode cX1_keepPlan 30 = .ok (.iconst 2, 1) := od_5  (by decide +kernel)
theorem dX1_keepPlan_31 : decode cX1_keepPlan 31 = .ok (.iconst 5, 1) := od_8  (by decide +kernel)
theorem dX1_keepPlan_32 : decode cX1_keepPlan 32 = .ok (.iload_n 3, 1) := od_29  (by decide +kernel)
theorem dX1_keepPlan_33 : decode cX1_keepPlan 33 = .ok (.isub, 1) := od_100  (by decide +kernel)
theorem dX1_keepPlan_34 : decode cX1_keepPlan 34 = .ok (.imul, 1) := od_104  (by decide +kernel)
theorem dX1_keepPlan_35 : decode cX1_keepPlan 35 = .ok (.ishr, 1) := od_122  (by decide +kernel)
theorem dX1_keepPlan_36 : decode cX1_keepPlan 36 = .ok (.iconst 3, 1) := od_6  (by decide +kernel)
theorem dX1_keepPlan_37 : decode cX1_keepPlan 37 = .ok (.iand, 1) := od_126  (by decide +kernel)
theorem dX1_keepPlan_38 : decode cX1_keepPlan 38 = .ok (.istore 4, 2) := od_54 (n := 4) (by decide +kernel)
theorem dX1_keepPlan_40 : decode cX1_keepPlan 40 = .ok (.aload_n 0, 1) := od_42  (by decide +kernel)
theorem dX1_keepPlan_41 : decode cX1_keepPlan 41 = .ok (.getfield 25, 3) := od_180 (a := 0) (b := 25) (by decide +kernel) (by decide)
theorem dX1_keepPlan_44 : decode cX1_keepPlan 44 = .ok (.iload_n 3, 1) := od_29  (by decide +kernel)
theorem dX1_keepPlan_45 : decode cX1_keepPlan 45 = .ok (.iload 4, 2) := od_21 (n := 4) (by decide +kernel)
theorem dX1_keepPlan_47 : decode cX1_keepPlan 47 = .ok (.iconst 3, 1) := od_6  (by decide +kernel)
theorem dX1_keepPlan_48 : decode cX1_keepPlan 48 = .ok (.if_icmp .ge 8, 3) := od_162 (a := 0) (b := 8) (by decide +kernel) (by decide +kernel)
theorem dX1_keepPlan_51 : decode cX1_keepPlan 51 = .ok (.iload 4, 2) := od_21 (n := 4) (by decide +kernel)
theorem dX1_keepPlan_53 : decode cX1_keepPlan 53 = .ok (.goto 4, 3) := od_167 (a := 0) (b := 4) (by decide +kernel) (by decide +kernel)
theorem dX1_keepPlan_56 : decode cX1_keepPlan 56 = .ok (.iconst (-1), 1) := od_2  (by decide +kernel)
theorem dX1_keepPlan_57 : decode cX1_keepPlan 57 = .ok (.iastore, 1) := od_79  (by decide +kernel)
theorem dX1_keepPlan_58 : decode cX1_keepPlan 58 = .ok (.iinc 3 1, 3) := od_132 (a := 3) (b := 1) (by decide +kernel) (by decide +kernel)
theorem dX1_keepPlan_61 : decode cX1_keepPlan 61 = .ok (.goto (-40), 3) := od_167 (a := 255) (b := 216) (by decide +kernel) (by decide +kernel)
theorem dX1_keepPlan_64 : decode cX1_keepPlan 64 = .ok (.iconst 0, 1) := od_3  (by decide +kernel)
theorem dX1_keepPlan_65 : decode cX1_keepPlan 65 = .ok (.istore_n 3, 1) := od_62  (by decide +kernel)
theorem dX1_keepPlan_66 : decode cX1_keepPlan 66 = .ok (.iload_n 3, 1) := od_29  (by decide +kernel)
theorem dX1_keepPlan_67 : decode cX1_keepPlan 67 = .ok (.iconst 3, 1) := od_6  (by decide +kernel)
theorem dX1_keepPlan_68 : decode cX1_keepPlan 68 = .ok (.if_icmp .ge 26, 3) := od_162 (a := 0) (b := 26) (by decide +kernel) (by decide +kernel)
theorem dX1_keepPlan_71 : decode cX1_keepPlan 71 = .ok (.iload_n 3, 1) := od_29  (by decide +kernel)
theorem dX1_keepPlan_72 : decode cX1_keepPlan 72 = .ok (.aload_n 0, 1) := od_42  (by decide +kernel)
theorem dX1_keepPlan_73 : decode cX1_keepPlan 73 = .ok (.getfield 40, 3) := od_180 (a := 0) (b := 40) (by decide +kernel) (by decide)
theorem dX1_keepPlan_76 : decode cX1_keepPlan 76 = .ok (.getfield 74, 3) := od_180 (a := 0) (b := 74) (by decide +kernel) (by decide)
theorem dX1_keepPlan_79 : decode cX1_keepPlan 79 = .ok (.if_icmp .ge 15, 3) := od_162 (a := 0) (b := 15) (by decide +kernel) (by decide +kernel)
theorem dX1_keepPlan_82 : decode cX1_keepPlan 82 = .ok (.aload_n 0, 1) := od_42  (by decide +kernel)
theorem dX1_keepPlan_83 : decode cX1_keepPlan 83 = .ok (.iload_n 3, 1) := od_29  (by decide +kernel)
theorem dX1_keepPlan_84 : decode cX1_keepPlan 84 = .ok (.iload_n 2, 1) := od_28  (by decide +kernel)
theorem dX1_keepPlan_85 : decode cX1_keepPlan 85 = .ok (.invokevirtual 135, 3) := od_182 (a := 0) (b := 135) (by decide +kernel) (by decide)
theorem dX1_keepPlan_88 : decode cX1_keepPlan 88 = .ok (.iinc 3 1, 3) := od_132 (a := 3) (b := 1) (by decide +kernel) (by decide +kernel)
theorem dX1_keepPlan_91 : decode cX1_keepPlan 91 = .ok (.goto (-25), 3) := od_167 (a := 255) (b := 231) (by decide +kernel) (by decide +kernel)
theorem dX1_keepPlan_94 : decode cX1_keepPlan 94 = .ok (.return_, 1) := od_177  (by decide +kernel)
theorem gX1_keepVoyage_X1_cargoAt : GoodIn WALL (wsV RX1 138 RX1 yX1_cargoAt wqX1_cargoAt) := wg_V wa_1412 wa_1413 wa_1414 wa_31 wa_1415
theorem gX1_keepVoyage_X1_reckon : GoodIn WALL (wsV RX1 104 RX1 yX1_reckon wqX1_reckon) := wg_V wa_1358 wa_1359 wa_1360 wa_31 wa_1361
theorem gX1_keepVoyage_X4_number : GoodIn WALL (wsV RX1 116 RX4 yX4_number wqX4_number) := wg_V wa_1368 wa_679 wa_680 wa_56 wa_681
theorem dX1_keepVoyage_0 : decode cX1_keepVoyage 0 = .ok (.iconst 0, 1) := od_3  (by decide +kernel)
theorem dX1_keepVoyage_1 : decode cX1_keepVoyage 1 = .ok (.istore_n 3, 1) := od_62  (by decide +kernel)
theorem dX1_keepVoyage_2 : decode cX1_keepVoyage 2 = .ok (.iconst 0, 1) := od_3  (by decide +kernel)
theorem dX1_keepVoyage_3 : decode cX1_keepVoyage 3 = .ok (.istore 4, 2) := od_54 (n := 4) (by decide +kernel)
theorem dX1_keepVoyage_5 : decode cX1_keepVoyage 5 = .ok (.iload 4, 2) := od_21 (n := 4) (by decide +kernel)
theorem dX1_keepVoyage_7 : decode cX1_keepVoyage 7 = .ok (.aload_n 0, 1) := od_42  (by decide +kernel)
theorem dX1_keepVoyage_8 : decode cX1_keepVoyage 8 = .ok (.getfield 132, 3) := od_180 (a := 0) (b := 132) (by decide +kernel) (by decide)
theorem dX1_keepVoyage_11 : decode cX1_keepVoyage 11 = .ok (.if_icmp .ge 31, 3) := od_162 (a := 0) (b := 31) (by decide +kernel) (by decide +kernel)
theorem dX1_keepVoyage_14 : decode cX1_keepVoyage 14 = .ok (.iload_n 3, 1) := od_29  (by decide +kernel)
theorem dX1_keepVoyage_15 : decode cX1_keepVoyage 15 = .ok (.aload_n 0, 1) := od_42  (by decide +kernel)
theorem dX1_keepVoyage_16 : decode cX1_keepVoyage 16 = .ok (.getfield 25, 3) := od_180 (a := 0) (b := 25) (by decide +kernel) (by decide)
theorem dX1_keepVoyage_19 : decode cX1_keepVoyage 19 = .ok (.iload 4, 2) := od_21 (n := 4) (by decide +kernel)
theorem dX1_keepVoyage_21 : decode cX1_keepVoyage 21 = .ok (.iaload, 1) := od_46  (by decide +kernel)
theorem dX1_keepVoyage_22 : decode cX1_keepVoyage 22 = .ok (.iload_n 1, 1) := od_27  (by decide +kernel)
theorem dX1_keepVoyage_23 : decode cX1_keepVoyage 23 = .ok (.if_icmp .ne 10, 3) := od_160 (a := 0) (b := 10) (by decide +kernel) (by decide +kernel)
theorem dX1_keepVoyage_26 : decode cX1_keepVoyage 26 = .ok (.iconst 1, 1) := od_4  (by decide +kernel)
theorem dX1_keepVoyage_27 : decode cX1_keepVoyage 27 = .ok (.iload 4, 2) := od_21 (n := 4) (by decide +kernel)
theorem dX1_keepVoyage_29 : decode cX1_keepVoyage 29 = .ok (.ishl, 1) := od_120  (by decide +kernel)
theorem dX1_keepVoyage_30 : decode cX1_keepVoyage 30 = .ok (.goto 4, 3) := od_167 (a := 0) (b := 4) (by decide +kernel) (by decide +kernel)
theorem dX1_keepVoyage_33 : decode cX1_keepVoyage 33 = .ok (.iconst 0, 1) := od_3  (by decide +kernel)
theorem dX1_keepVoyage_34 : decode cX1_keepVoyage 34 = .ok (.ior, 1) := od_128  (by decide +kernel)
theorem dX1_keepVoyage_35 : decode cX1_keepVoyage 35 = .ok (.istore_n 3, 1) := od_62  (by decide +kernel)
theorem dX1_keepVoyage_36 : decode cX1_keepVoyage 36 = .ok (.iinc 4 1, 3) := od_132 (a := 4) (b := 1) (by decide +kernel) (by decide +kernel)
theorem dX1_keepVoyage_39 : decode cX1_keepVoyage 39 = .ok (.goto (-34), 3) := od_167 (a := 255) (b := 222) (by decide +kernel) (by decide +kernel)
theorem dX1_keepVoyage_42 : decode cX1_keepVoyage 42 = .ok (.aload_n 0, 1) := od_42  (by decide +kernel)
theorem dX1_keepVoyage_43 : decode cX1_keepVoyage 43 = .ok (.getfield 15, 3) := od_180 (a := 0) (b := 15) (by decide +kernel) (by decide)
theorem dX1_keepVoyage_46 : decode cX1_keepVoyage 46 = .ok (.iload_n 1, 1) := od_27  (by decide +kernel)
theorem dX1_keepVoyage_47 : decode cX1_keepVoyage 47 = .ok (.bipush 64, 2) := od_16 (a := 64) (by decide +kernel) (by decide +kernel)
theorem dX1_keepVoyage_49 : decode cX1_keepVoyage 49 = .ok (.imul, 1) := od_104  (by decide +kernel)
theorem dX1_keepVoyage_50 : decode cX1_keepVoyage 50 = .ok (.iload_n 3, 1) := od_29  (by decide +kernel)
theorem dX1_keepVoyage_51 : decode cX1_keepVoyage 51 = .ok (.iadd, 1) := od_96  (by decide +kernel)
theorem dX1_keepVoyage_52 : decode cX1_keepVoyage 52 = .ok (.iaload, 1) := od_46  (by decide +kernel)
theorem dX1_keepVoyage_53 : decode cX1_keepVoyage 53 = .ok (.istore 4, 2) := od_54 (n := 4) (by decide +kernel)
theorem dX1_keepVoyage_55 : decode cX1_keepVoyage 55 = .ok (.aload_n 0, 1) := od_42  (by decide +kernel)
theorem dX1_keepVoyage_56 : decode cX1_keepVoyage 56 = .ok (.getfield 40, 3) := od_180 (a := 0) (b := 40) (by decide +kernel) (by decide)
theorem dX1_keepVoyage_59 : decode cX1_keepVoyage 59 = .ok (.getfield 80, 3) := od_180 (a := 0) (b := 80) (by decide +kernel) (by decide)
theorem dX1_keepVoyage_62 : decode cX1_keepVoyage 62 = .ok (.iload_n 1, 1) := od_27  (by decide +kernel)
theorem dX1_keepVoyage_63 : decode cX1_keepVoyage 63 = .ok (.aaload, 1) := od_50  (by decide +kernel)
theorem dX1_keepVoyage_64 : decode cX1_keepVoyage 64 = .ok (.getfield 84, 3) := od_180 (a := 0) (b := 84) (by decide +kernel) (by decide)
theorem dX1_keepVoyage_67 : decode cX1_keepVoyage 67 = .ok (.istore 5, 2) := od_54 (n := 5) (by decide +kernel)
theorem dX1_keepVoyage_69 : decode cX1_keepVoyage 69 = .ok (.iload_n 2, 1) := od_28  (by decide +kernel)
theorem dX1_keepVoyage_70 : decode cX1_keepVoyage 70 = .ok (.istore 6, 2) := od_54 (n := 6) (by decide +kernel)
theorem dX1_keepVoyage_72 : decode cX1_keepVoyage 72 = .ok (.iconst 0, 1) := od_3  (by decide +kernel)
theorem dX1_keepVoyage_73 : decode cX1_keepVoyage 73 = .ok (.istore 7, 2) := od_54 (n := 7) (by decide +kernel)
theorem dX1_keepVoyage_75 : decode cX1_keepVoyage 75 = .ok (.iload 7, 2) := od_21 (n := 7) (by decide +kernel)
theorem dX1_keepVoyage_77 : decode cX1_keepVoyage 77 = .ok (.aload_n 0, 1) := od_42  (by decide +kernel)
theorem dX1_keepVoyage_78 : decode cX1_keepVoyage 78 = .ok (.getfield 132, 3) := od_180 (a := 0) (b := 132) (by decide +kernel) (by decide)
theorem dX1_keepVoyage_81 : decode cX1_keepVoyage 81 = .ok (.if_icmp .ge 104, 3) := od_162 (a := 0) (b := 104) (by decide +kernel) (by decide +kernel)
theorem dX1_keepVoyage_84 : decode cX1_keepVoyage 84 = .ok (.aload_n 0, 1) := od_42  (by decide +kernel)
theorem dX1_keepVoyage_85 : decode cX1_keepVoyage 85 = .ok (.iload_n 3, 1) := od_29  (by decide +kernel)
theorem dX1_keepVoyage_86 : decode cX1_keepVoyage 86 = .ok (.iload 4, 2) := od_21 (n := 4) (by decide +kernel)
theorem dX1_keepVoyage_88 : decode cX1_keepVoyage 88 = .ok (.iload 7, 2) := od_21 (n := 7) (by decide +kernel)
theorem dX1_keepVoyage_90 : decode cX1_keepVoyage 90 = .ok (.invokevirtual 138, 3) := od_182 (a := 0) (b := 138) (by decide +kernel) (by decide)
theorem dX1_keepVoyage_93 : decode cX1_keepVoyage 93 = .ok (.istore 8, 2) := od_54 (n := 8) (by decide +kernel)
theorem dX1_keepVoyage_95 : decode cX1_keepVoyage 95 = .ok (.iload 8, 2) := od_21 (n := 8) (by decide +kernel)
theorem dX1_keepVoyage_97 : decode cX1_keepVoyage 97 = .ok (.iconst (-1), 1) := od_2  (by decide +kernel)
theorem dX1_keepVoyage_98 : decode cX1_keepVoyage 98 = .ok (.if_icmp .eq 17, 3) := od_159 (a := 0) (b := 17) (by decide +kernel) (by decide +kernel)
theorem dX1_keepVoyage_101 : decode cX1_keepVoyage 101 = .ok (.aload_n 0, 1) := od_42  (by decide +kernel)
theorem dX1_keepVoyage_102 : decode cX1_keepVoyage 102 = .ok (.iload_n 1, 1) := od_27  (by decide +kernel)
theorem dX1_keepVoyage_103 : decode cX1_keepVoyage 103 = .ok (.iload 8, 2) := od_21 (n := 8) (by decide +kernel)
theorem dX1_keepVoyage_105 : decode cX1_keepVoyage 105 = .ok (.iload 5, 2) := od_21 (n := 5) (by decide +kernel)
theorem dX1_keepVoyage_107 : decode cX1_keepVoyage 107 = .ok (.iload 6, 2) := od_21 (n := 6) (by decide +kernel)
theorem dX1_keepVoyage_109 : decode cX1_keepVoyage 109 = .ok (.invokevirtual 104, 3) := od_182 (a := 0) (b := 104) (by decide +kernel) (by decide)
theorem dX1_keepVoyage_112 : decode cX1_keepVoyage 112 = .ok (.ifCond .ne 4, 3) := od_154 (a := 0) (b := 4) (by decide +kernel) (by decide +kernel)
theorem dX1_keepVoyage_115 : decode cX1_keepVoyage 115 = .ok (.return_, 1) := od_177  (by decide +kernel)
theorem dX1_keepVoyage_116 : decode cX1_keepVoyage 116 = .ok (.aload_n 0, 1) := od_42  (by decide +kernel)
theorem dX1_keepVoyage_117 : decode cX1_keepVoyage 117 = .ok (.getfield 28, 3) := od_180 (a := 0) (b := 28) (by decide +kernel) (by decide)
theorem dX1_keepVoyage_120 : decode cX1_keepVoyage 120 = .ok (.iload 8, 2) := od_21 (n := 8) (by decide +kernel)
theorem dX1_keepVoyage_122 : decode cX1_keepVoyage 122 = .ok (.iload 7, 2) := od_21 (n := 7) (by decide +kernel)
theorem dX1_keepVoyage_124 : decode cX1_keepVoyage 124 = .ok (.iastore, 1) := od_79  (by decide +kernel)
theorem dX1_keepVoyage_125 : decode cX1_keepVoyage 125 = .ok (.aload_n 0, 1) := od_42  (by decide +kernel)
theorem dX1_keepVoyage_126 : decode cX1_keepVoyage 126 = .ok (.getfield 31, 3) := od_180 (a := 0) (b := 31) (by decide +kernel) (by decide)
theorem dX1_keepVoyage_129 : decode cX1_keepVoyage 129 = .ok (.iload 8, 2) := od_21 (n := 8) (by decide +kernel)
theorem dX1_keepVoyage_131 : decode cX1_keepVoyage 131 = .ok (.aload_n 0, 1) := od_42  (by decide +kernel)
theorem dX1_keepVoyage_132 : decode cX1_keepVoyage 132 = .ok (.getfield 142, 3) := od_180 (a := 0) (b := 142) (by decide +kernel) (by decide)
theorem dX1_keepVoyage_135 : decode cX1_keepVoyage 135 = .ok (.iastore, 1) := od_79  (by decide +kernel)
theorem dX1_keepVoyage_136 : decode cX1_keepVoyage 136 = .ok (.aload_n 0, 1) := od_42  (by decide +kernel)
theorem dX1_keepVoyage_137 : decode cX1_keepVoyage 137 = .ok (.getfield 34, 3) := od_180 (a := 0) (b := 34) (by decide +kernel) (by decide)
theorem dX1_keepVoyage_140 : decode cX1_keepVoyage 140 = .ok (.iload 8, 2) := od_21 (n := 8) (by decide +kernel)
theorem dX1_keepVoyage_142 : decode cX1_keepVoyage 142 = .ok (.aload_n 0, 1) := od_42  (by decide +kernel)
theorem dX1_keepVoyage_143 : decode cX1_keepVoyage 143 = .ok (.getfield 145, 3) := od_180 (a := 0) (b := 145) (by decide +kernel) (by decide)
theorem dX1_keepVoyage_146 : decode cX1_keepVoyage 146 = .ok (.iastore, 1) := od_79  (by decide +kernel)
theorem dX1_keepVoyage_147 : decode cX1_keepVoyage 147 = .ok (.aload_n 0, 1) := od_42  (by decide +kernel)
theorem dX1_keepVoyage_148 : decode cX1_keepVoyage 148 = .ok (.getfield 37, 3) := od_180 (a := 0) (b := 37) (by decide +kernel) (by decide)
theorem dX1_keepVoyage_151 : decode cX1_keepVoyage 151 = .ok (.iload 8, 2) := od_21 (n := 8) (by decide +kernel)
theorem dX1_keepVoyage_153 : decode cX1_keepVoyage 153 = .ok (.aload_n 0, 1) := od_42  (by decide +kernel)
theorem dX1_keepVoyage_154 : decode cX1_keepVoyage 154 = .ok (.getfield 108, 3) := od_180 (a := 0) (b := 108) (by decide +kernel) (by decide)
theorem dX1_keepVoyage_157 : decode cX1_keepVoyage 157 = .ok (.lastore, 1) := od_80  (by decide +kernel)
theorem dX1_keepVoyage_158 : decode cX1_keepVoyage 158 = .ok (.aload_n 0, 1) := od_42  (by decide +kernel)
theorem dX1_keepVoyage_159 : decode cX1_keepVoyage 159 = .ok (.getfield 40, 3) := od_180 (a := 0) (b := 40) (by decide +kernel) (by decide)
theorem dX1_keepVoyage_162 : decode cX1_keepVoyage 162 = .ok (.getfield 50, 3) := od_180 (a := 0) (b := 50) (by decide +kernel) (by decide)
theorem dX1_keepVoyage_165 : decode cX1_keepVoyage 165 = .ok (.iload 8, 2) := od_21 (n := 8) (by decide +kernel)
theorem dX1_keepVoyage_167 : decode cX1_keepVoyage 167 = .ok (.iconst 1, 1) := od_4  (by decide +kernel)
theorem dX1_keepVoyage_168 : decode cX1_keepVoyage 168 = .ok (.invokevirtual 116, 3) := od_182 (a := 0) (b := 116) (by decide +kernel) (by decide)
theorem dX1_keepVoyage_171 : decode cX1_keepVoyage 171 = .ok (.istore 5, 2) := od_54 (n := 5) (by decide +kernel)
theorem dX1_keepVoyage_173 : decode cX1_keepVoyage 173 = .ok (.aload_n 0, 1) := od_42  (by decide +kernel)
theorem dX1_keepVoyage_174 : decode cX1_keepVoyage 174 = .ok (.getfield 119, 3) := od_180 (a := 0) (b := 119) (by decide +kernel) (by decide)
theorem dX1_keepVoyage_177 : decode cX1_keepVoyage 177 = .ok (.istore 6, 2) := od_54 (n := 6) (by decide +kernel)
theorem dX1_keepVoyage_179 : decode cX1_keepVoyage 179 = .ok (.iinc 7 1, 3) := od_132 (a := 7) (b := 1) (by decide +kernel) (by decide +kernel)
theorem dX1_keepVoyage_182 : decode cX1_keepVoyage 182 = .ok (.goto (-107), 3) := od_167 (a := 255) (b := 149) (by decide +kernel) (by decide +kernel)
theorem dX1_keepVoyage_185 : decode cX1_keepVoyage 185 = .ok (.return_, 1) := od_177  (by decide +kernel)
theorem dX1_cargoAt_0 : decode cX1_cargoAt 0 = .ok (.iconst 0, 1) := od_3  (by decide +kernel)
theorem dX1_cargoAt_1 : decode cX1_cargoAt 1 = .ok (.istore 4, 2) := od_54 (n := 4) (by decide +kernel)
theorem dX1_cargoAt_3 : decode cX1_cargoAt 3 = .ok (.iload 4, 2) := od_21 (n := 4) (by decide +kernel)
theorem dX1_cargoAt_5 : decode cX1_cargoAt 5 = .ok (.aload_n 0, 1) := od_42  (by decide +kernel)
theorem dX1_cargoAt_6 : decode cX1_cargoAt 6 = .ok (.getfield 132, 3) := od_180 (a := 0) (b := 132) (by decide +kernel) (by decide)
theorem dX1_cargoAt_9 : decode cX1_cargoAt 9 = .ok (.if_icmp .ge 37, 3) := od_162 (a := 0) (b := 37) (by decide +kernel) (by decide +kernel)
theorem dX1_cargoAt_12 : decode cX1_cargoAt 12 = .ok (.iload_n 1, 1) := od_27  (by decide +kernel)
theorem dX1_cargoAt_13 : decode cX1_cargoAt 13 = .ok (.iload 4, 2) := od_21 (n := 4) (by decide +kernel)
theorem dX1_cargoAt_15 : decode cX1_cargoAt 15 = .ok (.ishr, 1) := od_122  (by decide +kernel)
theorem dX1_cargoAt_16 : decode cX1_cargoAt 16 = .ok (.iconst 1, 1) := od_4  (by decide +kernel)
theorem dX1_cargoAt_17 : decode cX1_cargoAt 17 = .ok (.iand, 1) := od_126  (by decide +kernel)
theorem dX1_cargoAt_18 : decode cX1_cargoAt 18 = .ok (.iconst 1, 1) := od_4  (by decide +kernel)
theorem dX1_cargoAt_19 : decode cX1_cargoAt 19 = .ok (.if_icmp .ne 21, 3) := od_160 (a := 0) (b := 21) (by decide +kernel) (by decide +kernel)
theorem dX1_cargoAt_22 : decode cX1_cargoAt 22 = .ok (.iload_n 2, 1) := od_28  (by decide +kernel)
theorem dX1_cargoAt_23 : decode cX1_cargoAt 23 = .ok (.iconst 3, 1) := od_6  (by decide +kernel)
theorem dX1_cargoAt_24 : decode cX1_cargoAt 24 = .ok (.iconst 5, 1) := od_8  (by decide +kernel)
theorem dX1_cargoAt_25 : decode cX1_cargoAt 25 = .ok (.iload 4, 2) := od_21 (n := 4) (by decide +kernel)
theorem dX1_cargoAt_27 : decode cX1_cargoAt 27 = .ok (.isub, 1) := od_100  (by decide +kernel)
theorem dX1_cargoAt_28 : decode cX1_cargoAt 28 = .ok (.imul, 1) := od_104  (by decide +kernel)
theorem dX1_cargoAt_29 : decode cX1_cargoAt 29 = .ok (.ishr, 1) := od_122  (by decide +kernel)
theorem dX1_cargoAt_30 : decode cX1_cargoAt 30 = .ok (.bipush 7, 2) := od_16 (a := 7) (by decide +kernel) (by decide +kernel)
theorem dX1_cargoAt_32 : decode cX1_cargoAt 32 = .ok (.iand, 1) := od_126  (by decide +kernel)
theorem dX1_cargoAt_33 : decode cX1_cargoAt 33 = .ok (.iload_n 3, 1) := od_29  (by decide +kernel)
theorem dX1_cargoAt_34 : decode cX1_cargoAt 34 = .ok (.if_icmp .ne 6, 3) := od_160 (a := 0) (b := 6) (by decide +kernel) (by decide +kernel)
theorem dX1_cargoAt_37 : decode cX1_cargoAt 37 = .ok (.iload 4, 2) := od_21 (n := 4) (by decide +kernel)
theorem dX1_cargoAt_39 : decode cX1_cargoAt 39 = .ok (.ireturn, 1) := od_172  (by decide +kernel)
theorem dX1_cargoAt_40 : decode cX1_cargoAt 40 = .ok (.iinc 4 1, 3) := od_132 (a := 4) (b := 1) (by decide +kernel) (by decide +kernel)
theorem dX1_cargoAt_43 : decode cX1_cargoAt 43 = .ok (.goto (-40), 3) := od_167 (a := 255) (b := 216) (by decide +kernel) (by decide +kernel)
theorem dX1_cargoAt_46 : decode cX1_cargoAt 46 = .ok (.iconst (-1), 1) := od_2  (by decide +kernel)
theorem dX1_cargoAt_47 : decode cX1_cargoAt 47 = .ok (.ireturn, 1) := od_172  (by decide +kernel)
theorem gX1_worthOfRow_X4_has : GoodIn WALL (wsV RX1 148 RX4 yX4_has wqX4_has) := wg_V wa_1482 wa_529 wa_530 wa_56 wa_531
theorem gX1_worthOfRow_X1_reckon : GoodIn WALL (wsV RX1 104 RX1 yX1_reckon wqX1_reckon) := wg_V wa_1358 wa_1359 wa_1360 wa_31 wa_1361
theorem gX1_worthOfRow_X4_number : GoodIn WALL (wsV RX1 116 RX4 yX4_number wqX4_number) := wg_V wa_1368 wa_679 wa_680 wa_56 wa_681
theorem dX1_worthOfRow_0 : decode cX1_worthOfRow 0 = .ok (.lconst 0, 1) := od_9  (by decide +kernel)
theorem dX1_worthOfRow_1 : decode cX1_worthOfRow 1 = .ok (.lstore 6, 2) := od_55 (n := 6) (by decide +kernel)
theorem dX1_worthOfRow_3 : decode cX1_worthOfRow 3 = .ok (.iconst 0, 1) := od_3  (by decide +kernel)
theorem dX1_worthOfRow_4 : decode cX1_worthOfRow 4 = .ok (.istore 8, 2) := od_54 (n := 8) (by decide +kernel)
theorem dX1_worthOfRow_6 : decode cX1_worthOfRow 6 = .ok (.aload_n 0, 1) := od_42  (by decide +kernel)
theorem dX1_worthOfRow_7 : decode cX1_worthOfRow 7 = .ok (.getfield 40, 3) := od_180 (a := 0) (b := 40) (by decide +kernel) (by decide)
theorem dX1_worthOfRow_10 : decode cX1_worthOfRow 10 = .ok (.getfield 80, 3) := od_180 (a := 0) (b := 80) (by decide +kernel) (by decide)
theorem dX1_worthOfRow_13 : decode cX1_worthOfRow 13 = .ok (.iload_n 1, 1) := od_27  (by decide +kernel)
theorem dX1_worthOfRow_14 : decode cX1_worthOfRow 14 = .ok (.aaload, 1) := od_50  (by decide +kernel)
theorem dX1_worthOfRow_15 : decode cX1_worthOfRow 15 = .ok (.getfield 84, 3) := od_180 (a := 0) (b := 84) (by decide +kernel) (by decide)
theorem dX1_worthOfRow_18 : decode cX1_worthOfRow 18 = .ok (.istore 9, 2) := od_54 (n := 9) (by decide +kernel)
theorem dX1_worthOfRow_20 : decode cX1_worthOfRow 20 = .ok (.iload 5, 2) := od_21 (n := 5) (by decide +kernel)
theorem dX1_worthOfRow_22 : decode cX1_worthOfRow 22 = .ok (.istore 10, 2) := od_54 (n := 10) (by decide +kernel)
theorem dX1_worthOfRow_24 : decode cX1_worthOfRow 24 = .ok (.iconst 0, 1) := od_3  (by decide +kernel)
theorem dX1_worthOfRow_25 : decode cX1_worthOfRow 25 = .ok (.istore 11, 2) := od_54 (n := 11) (by decide +kernel)
theorem dX1_worthOfRow_27 : decode cX1_worthOfRow 27 = .ok (.iload 11, 2) := od_21 (n := 11) (by decide +kernel)
theorem dX1_worthOfRow_29 : decode cX1_worthOfRow 29 = .ok (.iconst 3, 1) := od_6  (by decide +kernel)
theorem dX1_worthOfRow_30 : decode cX1_worthOfRow 30 = .ok (.if_icmp .ge 124, 3) := od_162 (a := 0) (b := 124) (by decide +kernel) (by decide +kernel)
theorem dX1_worthOfRow_33 : decode cX1_worthOfRow 33 = .ok (.iload 11, 2) := od_21 (n := 11) (by decide +kernel)
theorem dX1_worthOfRow_35 : decode cX1_worthOfRow 35 = .ok (.ifCond .ne 7, 3) := od_154 (a := 0) (b := 7) (by decide +kernel) (by decide +kernel)
theorem dX1_worthOfRow_38 : decode cX1_worthOfRow 38 = .ok (.iload_n 2, 1) := od_28  (by decide +kernel)
theorem dX1_worthOfRow_39 : decode cX1_worthOfRow 39 = .ok (.goto 15, 3) := od_167 (a := 0) (b := 15) (by decide +kernel) (by decide +kernel)
theorem dX1_worthOfRow_42 : decode cX1_worthOfRow 42 = .ok (.iload 11, 2) := od_21 (n := 11) (by decide +kernel)
theorem dX1_worthOfRow_44 : decode cX1_worthOfRow 44 = .ok (.iconst 1, 1) := od_4  (by decide +kernel)
theorem dX1_worthOfRow_45 : decode cX1_worthOfRow 45 = .ok (.if_icmp .ne 7, 3) := od_160 (a := 0) (b := 7) (by decide +kernel) (by decide +kernel)
theorem dX1_worthOfRow_48 : decode cX1_worthOfRow 48 = .ok (.iload_n 3, 1) := od_29  (by decide +kernel)
theorem dX1_worthOfRow_49 : decode cX1_worthOfRow 49 = .ok (.goto 5, 3) := od_167 (a := 0) (b := 5) (by decide +kernel) (by decide +kernel)
theorem dX1_worthOfRow_52 : decode cX1_worthOfRow 52 = .ok (.iload 4, 2) := od_21 (n := 4) (by decide +kernel)
theorem dX1_worthOfRow_54 : decode cX1_worthOfRow 54 = .ok (.istore 12, 2) := od_54 (n := 12) (by decide +kernel)
theorem dX1_worthOfRow_56 : decode cX1_worthOfRow 56 = .ok (.iload 12, 2) := od_21 (n := 12) (by decide +kernel)
theorem dX1_worthOfRow_58 : decode cX1_worthOfRow 58 = .ok (.iconst (-1), 1) := od_2  (by decide +kernel)
theorem dX1_worthOfRow_59 : decode cX1_worthOfRow 59 = .ok (.if_icmp .ne 6, 3) := od_160 (a := 0) (b := 6) (by decide +kernel) (by decide +kernel)
theorem dX1_worthOfRow_62 : decode cX1_worthOfRow 62 = .ok (.lload 6, 2) := od_22 (n := 6) (by decide +kernel)
theorem dX1_worthOfRow_64 : decode cX1_worthOfRow 64 = .ok (.lreturn, 1) := od_173  (by decide +kernel)
theorem dX1_worthOfRow_65 : decode cX1_worthOfRow 65 = .ok (.aload_n 0, 1) := od_42  (by decide +kernel)
theorem dX1_worthOfRow_66 : decode cX1_worthOfRow 66 = .ok (.getfield 40, 3) := od_180 (a := 0) (b := 40) (by decide +kernel) (by decide)
theorem dX1_worthOfRow_69 : decode cX1_worthOfRow 69 = .ok (.getfield 50, 3) := od_180 (a := 0) (b := 50) (by decide +kernel) (by decide)
theorem dX1_worthOfRow_72 : decode cX1_worthOfRow 72 = .ok (.iload 12, 2) := od_21 (n := 12) (by decide +kernel)
theorem dX1_worthOfRow_74 : decode cX1_worthOfRow 74 = .ok (.invokevirtual 148, 3) := od_182 (a := 0) (b := 148) (by decide +kernel) (by decide)
theorem dX1_worthOfRow_77 : decode cX1_worthOfRow 77 = .ok (.ifCond .eq 28, 3) := od_153 (a := 0) (b := 28) (by decide +kernel) (by decide +kernel)
theorem dX1_worthOfRow_80 : decode cX1_worthOfRow 80 = .ok (.iload 8, 2) := od_21 (n := 8) (by decide +kernel)
theorem dX1_worthOfRow_82 : decode cX1_worthOfRow 82 = .ok (.iload 12, 2) := od_21 (n := 12) (by decide +kernel)
theorem dX1_worthOfRow_84 : decode cX1_worthOfRow 84 = .ok (.ishr, 1) := od_122  (by decide +kernel)
theorem dX1_worthOfRow_85 : decode cX1_worthOfRow 85 = .ok (.iconst 1, 1) := od_4  (by decide +kernel)
theorem dX1_worthOfRow_86 : decode cX1_worthOfRow 86 = .ok (.iand, 1) := od_126  (by decide +kernel)
theorem dX1_worthOfRow_87 : decode cX1_worthOfRow 87 = .ok (.iconst 1, 1) := od_4  (by decide +kernel)
theorem dX1_worthOfRow_88 : decode cX1_worthOfRow 88 = .ok (.if_icmp .eq 17, 3) := od_159 (a := 0) (b := 17) (by decide +kernel) (by decide +kernel)
theorem dX1_worthOfRow_91 : decode cX1_worthOfRow 91 = .ok (.aload_n 0, 1) := od_42  (by decide +kernel)
theorem dX1_worthOfRow_92 : decode cX1_worthOfRow 92 = .ok (.iload_n 1, 1) := od_27  (by decide +kernel)
theorem dX1_worthOfRow_93 : decode cX1_worthOfRow 93 = .ok (.iload 12, 2) := od_21 (n := 12) (by decide +kernel)
theorem dX1_worthOfRow_95 : decode cX1_worthOfRow 95 = .ok (.iload 9, 2) := od_21 (n := 9) (by decide +kernel)
theorem dX1_worthOfRow_97 : decode cX1_worthOfRow 97 = .ok (.iload 10, 2) := od_21 (n := 10) (by decide +kernel)
theorem dX1_worthOfRow_99 : decode cX1_worthOfRow 99 = .ok (.invokevirtual 104, 3) := od_182 (a := 0) (b := 104) (by decide +kernel) (by decide)
theorem dX1_worthOfRow_102 : decode cX1_worthOfRow 102 = .ok (.ifCond .ne 7, 3) := od_154 (a := 0) (b := 7) (by decide +kernel) (by decide +kernel)
theorem dX1_worthOfRow_105 : decode cX1_worthOfRow 105 = .ok (.ldc2_w 66, 3) := od_20 (a := 0) (b := 66) (by decide +kernel) (by decide)
theorem dX1_worthOfRow_108 : decode cX1_worthOfRow 108 = .ok (.lreturn, 1) := od_173  (by decide +kernel)
theorem dX1_worthOfRow_109 : decode cX1_worthOfRow 109 = .ok (.iload 8, 2) := od_21 (n := 8) (by decide +kernel)
theorem dX1_worthOfRow_111 : decode cX1_worthOfRow 111 = .ok (.iconst 1, 1) := od_4  (by decide +kernel)
theorem dX1_worthOfRow_112 : decode cX1_worthOfRow 112 = .ok (.iload 12, 2) := od_21 (n := 12) (by decide +kernel)
theorem dX1_worthOfRow_114 : decode cX1_worthOfRow 114 = .ok (.ishl, 1) := od_120  (by decide +kernel)
theorem dX1_worthOfRow_115 : decode cX1_worthOfRow 115 = .ok (.ior, 1) := od_128  (by decide +kernel)
theorem dX1_worthOfRow_116 : decode cX1_worthOfRow 116 = .ok (.istore 8, 2) := od_54 (n := 8) (by decide +kernel)
theorem dX1_worthOfRow_118 : decode cX1_worthOfRow 118 = .ok (.lload 6, 2) := od_22 (n := 6) (by decide +kernel)
theorem dX1_worthOfRow_120 : decode cX1_worthOfRow 120 = .ok (.aload_n 0, 1) := od_42  (by decide +kernel)
theorem dX1_worthOfRow_121 : decode cX1_worthOfRow 121 = .ok (.getfield 108, 3) := od_180 (a := 0) (b := 108) (by decide +kernel) (by decide)
theorem dX1_worthOfRow_124 : decode cX1_worthOfRow 124 = .ok (.ladd, 1) := od_97  (by decide +kernel)
theorem dX1_worthOfRow_125 : decode cX1_worthOfRow 125 = .ok (.lstore 6, 2) := od_55 (n := 6) (by decide +kernel)
theorem dX1_worthOfRow_127 : decode cX1_worthOfRow 127 = .ok (.aload_n 0, 1) := od_42  (by decide +kernel)
theorem dX1_worthOfRow_128 : decode cX1_worthOfRow 128 = .ok (.getfield 40, 3) := od_180 (a := 0) (b := 40) (by decide +kernel) (by decide)
theorem dX1_worthOfRow_131 : decode cX1_worthOfRow 131 = .ok (.getfield 50, 3) := od_180 (a := 0) (b := 50) (by decide +kernel) (by decide)
theorem dX1_worthOfRow_134 : decode cX1_worthOfRow 134 = .ok (.iload 12, 2) := od_21 (n := 12) (by decide +kernel)
theorem dX1_worthOfRow_136 : decode cX1_worthOfRow 136 = .ok (.iconst 1, 1) := od_4  (by decide +kernel)
theorem dX1_worthOfRow_137 : decode cX1_worthOfRow 137 = .ok (.invokevirtual 116, 3) := od_182 (a := 0) (b := 116) (by decide +kernel) (by decide)
theorem dX1_worthOfRow_140 : decode cX1_worthOfRow 140 = .ok (.istore 9, 2) := od_54 (n := 9) (by decide +kernel)
theorem dX1_worthOfRow_142 : decode cX1_worthOfRow 142 = .ok (.aload_n 0, 1) := od_42  (by decide +kernel)
theorem dX1_worthOfRow_143 : decode cX1_worthOfRow 143 = .ok (.getfield 119, 3) := od_180 (a := 0) (b := 119) (by decide +kernel) (by decide)
theorem dX1_worthOfRow_146 : decode cX1_worthOfRow 146 = .ok (.istore 10, 2) := od_54 (n := 10) (by decide +kernel)
theorem dX1_worthOfRow_148 : decode cX1_worthOfRow 148 = .ok (.iinc 11 1, 3) := od_132 (a := 11) (b := 1) (by decide +kernel) (by decide +kernel)
theorem dX1_worthOfRow_151 : decode cX1_worthOfRow 151 = .ok (.goto (-124), 3) := od_167 (a := 255) (b := 132) (by decide +kernel) (by decide +kernel)
theorem dX1_worthOfRow_154 : decode cX1_worthOfRow 154 = .ok (.lload 6, 2) := od_22 (n := 6) (by decide +kernel)
theorem dX1_worthOfRow_156 : decode cX1_worthOfRow 156 = .ok (.lreturn, 1) := od_173  (by decide +kernel)
theorem gX1_reckon_X4_number : GoodIn WALL (wsV RX1 116 RX4 yX4_number wqX4_number) := wg_V wa_1368 wa_679 wa_680 wa_56 wa_681
theorem gX1_reckon_X10_hoursBetween : GoodIn WALL (wsV RX1 151 RX10 yX10_hoursBetween wqX10_hoursBetween) := wg_V wa_1369 wa_456 wa_457 wa_14 wa_458
theorem gX1_reckon_X7_top : GoodIn WALL (wsV RX1 158 RX7 yX7_top wqX7_top) := wg_V wa_1370 wa_489 wa_490 wa_95 wa_491
theorem gX1_reckon_X8_hoursFor : GoodIn WALL (wsV RX1 175 RX8 yX8_hoursFor wqX8_hoursFor) := wg_V wa_1371 wa_1372 wa_1373 wa_62 wa_1374
theorem gX1_reckon_X6_hourBehind : GoodIn WALL (wsV RX1 180 RX6 yX6_hourBehind wqX6_hourBehind) := wg_V wa_1375 wa_1376 wa_1377 wa_50 wa_1378
theorem gX1_reckon_X4_at : GoodIn WALL (wsV RX1 194 RX4 yX4_at wqX4_at) := wg_V wa_1379 wa_683 wa_684 wa_56 wa_685
theorem dX1_reckon_0 : decode cX1_reckon 0 = .ok (.aload_n 0, 1) := od_42  (by decide +kernel)
theorem dX1_reckon_1 : decode cX1_reckon 1 = .ok (.getfield 40, 3) := od_180 (a := 0) (b := 40) (by decide +kernel) (by decide)
theorem dX1_reckon_4 : decode cX1_reckon 4 = .ok (.getfield 50, 3) := od_180 (a := 0) (b := 50) (by decide +kernel) (by decide)
theorem dX1_reckon_7 : decode cX1_reckon 7 = .ok (.astore 5, 2) := od_58 (n := 5) (by decide +kernel)
theorem dX1_reckon_9 : decode cX1_reckon 9 = .ok (.aload 5, 2) := od_25 (n := 5) (by decide +kernel)
theorem dX1_reckon_11 : decode cX1_reckon 11 = .ok (.iload_n 2, 1) := od_28  (by decide +kernel)
theorem dX1_reckon_12 : decode cX1_reckon 12 = .ok (.iconst 0, 1) := od_3  (by decide +kernel)
theorem dX1_reckon_13 : decode cX1_reckon 13 = .ok (.invokevirtual 116, 3) := od_182 (a := 0) (b := 116) (by decide +kernel) (by decide)
theorem dX1_reckon_16 : decode cX1_reckon 16 = .ok (.istore 6, 2) := od_54 (n := 6) (by decide +kernel)
theorem dX1_reckon_18 : decode cX1_reckon 18 = .ok (.aload 5, 2) := od_25 (n := 5) (by decide +kernel)
theorem dX1_reckon_20 : decode cX1_reckon 20 = .ok (.iload_n 2, 1) := od_28  (by decide +kernel)
theorem dX1_reckon_21 : decode cX1_reckon 21 = .ok (.iconst 1, 1) := od_4  (by decide +kernel)
theorem dX1_reckon_22 : decode cX1_reckon 22 = .ok (.invokevirtual 116, 3) := od_182 (a := 0) (b := 116) (by decide +kernel) (by decide)
theorem dX1_reckon_25 : decode cX1_reckon 25 = .ok (.istore 7, 2) := od_54 (n := 7) (by decide +kernel)
theorem dX1_reckon_27 : decode cX1_reckon 27 = .ok (.aload 5, 2) := od_25 (n := 5) (by decide +kernel)
theorem dX1_reckon_29 : decode cX1_reckon 29 = .ok (.iload_n 2, 1) := od_28  (by decide +kernel)
theorem dX1_reckon_30 : decode cX1_reckon 30 = .ok (.bipush 6, 2) := od_16 (a := 6) (by decide +kernel) (by decide +kernel)
theorem dX1_reckon_32 : decode cX1_reckon 32 = .ok (.invokevirtual 116, 3) := od_182 (a := 0) (b := 116) (by decide +kernel) (by decide)
theorem dX1_reckon_35 : decode cX1_reckon 35 = .ok (.istore 8, 2) := od_54 (n := 8) (by decide +kernel)
theorem dX1_reckon_37 : decode cX1_reckon 37 = .ok (.aload_n 0, 1) := od_42  (by decide +kernel)
theorem dX1_reckon_38 : decode cX1_reckon 38 = .ok (.getfield 40, 3) := od_180 (a := 0) (b := 40) (by decide +kernel) (by decide)
theorem dX1_reckon_41 : decode cX1_reckon 41 = .ok (.iload_n 3, 1) := od_29  (by decide +kernel)
theorem dX1_reckon_42 : decode cX1_reckon 42 = .ok (.iload 6, 2) := od_21 (n := 6) (by decide +kernel)
theorem dX1_reckon_44 : decode cX1_reckon 44 = .ok (.invokevirtual 151, 3) := od_182 (a := 0) (b := 151) (by decide +kernel) (by decide)
theorem dX1_reckon_47 : decode cX1_reckon 47 = .ok (.istore 9, 2) := od_54 (n := 9) (by decide +kernel)
theorem dX1_reckon_49 : decode cX1_reckon 49 = .ok (.aload_n 0, 1) := od_42  (by decide +kernel)
theorem dX1_reckon_50 : decode cX1_reckon 50 = .ok (.getfield 40, 3) := od_180 (a := 0) (b := 40) (by decide +kernel) (by decide)
theorem dX1_reckon_53 : decode cX1_reckon 53 = .ok (.iload 6, 2) := od_21 (n := 6) (by decide +kernel)
theorem dX1_reckon_55 : decode cX1_reckon 55 = .ok (.iload 7, 2) := od_21 (n := 7) (by decide +kernel)
theorem dX1_reckon_57 : decode cX1_reckon 57 = .ok (.invokevirtual 151, 3) := od_182 (a := 0) (b := 151) (by decide +kernel) (by decide)
theorem dX1_reckon_60 : decode cX1_reckon 60 = .ok (.istore 10, 2) := od_54 (n := 10) (by decide +kernel)
theorem dX1_reckon_62 : decode cX1_reckon 62 = .ok (.iload 9, 2) := od_21 (n := 9) (by decide +kernel)
theorem dX1_reckon_64 : decode cX1_reckon 64 = .ok (.iconst (-1), 1) := od_2  (by decide +kernel)
theorem dX1_reckon_65 : decode cX1_reckon 65 = .ok (.if_icmp .eq 29, 3) := od_159 (a := 0) (b := 29) (by decide +kernel) (by decide +kernel)
theorem dX1_reckon_68 : decode cX1_reckon 68 = .ok (.iload 10, 2) := od_21 (n := 10) (by decide +kernel)
theorem dX1_reckon_70 : decode cX1_reckon 70 = .ok (.iconst (-1), 1) := od_2  (by decide +kernel)
theorem dX1_reckon_71 : decode cX1_reckon 71 = .ok (.if_icmp .eq 23, 3) := od_159 (a := 0) (b := 23) (by decide +kernel) (by decide +kernel)
theorem dX1_reckon_74 : decode cX1_reckon 74 = .ok (.iload 8, 2) := od_21 (n := 8) (by decide +kernel)
theorem dX1_reckon_76 : decode cX1_reckon 76 = .ok (.aload_n 0, 1) := od_42  (by decide +kernel)
theorem dX1_reckon_77 : decode cX1_reckon 77 = .ok (.getfield 40, 3) := od_180 (a := 0) (b := 40) (by decide +kernel) (by decide)
theorem dX1_reckon_80 : decode cX1_reckon 80 = .ok (.getfield 80, 3) := od_180 (a := 0) (b := 80) (by decide +kernel) (by decide)
theorem dX1_reckon_83 : decode cX1_reckon 83 = .ok (.iload_n 1, 1) := od_27  (by decide +kernel)
theorem dX1_reckon_84 : decode cX1_reckon 84 = .ok (.aaload, 1) := od_50  (by decide +kernel)
theorem dX1_reckon_85 : decode cX1_reckon 85 = .ok (.getfield 154, 3) := od_180 (a := 0) (b := 154) (by decide +kernel) (by decide)
theorem dX1_reckon_88 : decode cX1_reckon 88 = .ok (.invokevirtual 158, 3) := od_182 (a := 0) (b := 158) (by decide +kernel) (by decide)
theorem dX1_reckon_91 : decode cX1_reckon 91 = .ok (.if_icmp .le 5, 3) := od_164 (a := 0) (b := 5) (by decide +kernel) (by decide +kernel)
theorem dX1_reckon_94 : decode cX1_reckon 94 = .ok (.iconst 0, 1) := od_3  (by decide +kernel)
theorem dX1_reckon_95 : decode cX1_reckon 95 = .ok (.ireturn, 1) := od_172  (by decide +kernel)
theorem dX1_reckon_96 : decode cX1_reckon 96 = .ok (.aload_n 0, 1) := od_42  (by decide +kernel)
theorem dX1_reckon_97 : decode cX1_reckon 97 = .ok (.iload 4, 2) := od_21 (n := 4) (by decide +kernel)
theorem dX1_reckon_99 : decode cX1_reckon 99 = .ok (.iload 9, 2) := od_21 (n := 9) (by decide +kernel)
theorem dX1_reckon_101 : decode cX1_reckon 101 = .ok (.iadd, 1) := od_96  (by decide +kernel)
theorem dX1_reckon_102 : decode cX1_reckon 102 = .ok (.aload 5, 2) := od_25 (n := 5) (by decide +kernel)
theorem dX1_reckon_104 : decode cX1_reckon 104 = .ok (.iload_n 2, 1) := od_28  (by decide +kernel)
theorem dX1_reckon_105 : decode cX1_reckon 105 = .ok (.iconst 2, 1) := od_5  (by decide +kernel)
theorem dX1_reckon_106 : decode cX1_reckon 106 = .ok (.invokevirtual 116, 3) := od_182 (a := 0) (b := 116) (by decide +kernel) (by decide)
theorem dX1_reckon_109 : decode cX1_reckon 109 = .ok (.invokestatic 164, 3) := od_184 (a := 0) (b := 164) (by decide +kernel) (by decide)
theorem dX1_reckon_112 : decode cX1_reckon 112 = .ok (.putfield 142, 3) := od_181 (a := 0) (b := 142) (by decide +kernel) (by decide)
theorem dX1_reckon_115 : decode cX1_reckon 115 = .ok (.aload_n 0, 1) := od_42  (by decide +kernel)
theorem dX1_reckon_116 : decode cX1_reckon 116 = .ok (.getfield 142, 3) := od_180 (a := 0) (b := 142) (by decide +kernel) (by decide)
theorem dX1_reckon_119 : decode cX1_reckon 119 = .ok (.aload 5, 2) := od_25 (n := 5) (by decide +kernel)
theorem dX1_reckon_121 : decode cX1_reckon 121 = .ok (.iload_n 2, 1) := od_28  (by decide +kernel)
theorem dX1_reckon_122 : decode cX1_reckon 122 = .ok (.iconst 3, 1) := od_6  (by decide +kernel)
theorem dX1_reckon_123 : decode cX1_reckon 123 = .ok (.invokevirtual 116, 3) := od_182 (a := 0) (b := 116) (by decide +kernel) (by decide)
theorem dX1_reckon_126 : decode cX1_reckon 126 = .ok (.if_icmp .le 5, 3) := od_164 (a := 0) (b := 5) (by decide +kernel) (by decide +kernel)
theorem dX1_reckon_129 : decode cX1_reckon 129 = .ok (.iconst 0, 1) := od_3  (by decide +kernel)
theorem dX1_reckon_130 : decode cX1_reckon 130 = .ok (.ireturn, 1) := od_172  (by decide +kernel)
theorem dX1_reckon_131 : decode cX1_reckon 131 = .ok (.aload_n 0, 1) := od_42  (by decide +kernel)
theorem dX1_reckon_132 : decode cX1_reckon 132 = .ok (.getfield 40, 3) := od_180 (a := 0) (b := 40) (by decide +kernel) (by decide)
theorem dX1_reckon_135 : decode cX1_reckon 135 = .ok (.getfield 167, 3) := od_180 (a := 0) (b := 167) (by decide +kernel) (by decide)
theorem dX1_reckon_138 : decode cX1_reckon 138 = .ok (.iload 6, 2) := od_21 (n := 6) (by decide +kernel)
theorem dX1_reckon_140 : decode cX1_reckon 140 = .ok (.iload 6, 2) := od_21 (n := 6) (by decide +kernel)
theorem dX1_reckon_142 : decode cX1_reckon 142 = .ok (.aload_n 0, 1) := od_42  (by decide +kernel)
theorem dX1_reckon_143 : decode cX1_reckon 143 = .ok (.getfield 142, 3) := od_180 (a := 0) (b := 142) (by decide +kernel) (by decide)
theorem dX1_reckon_146 : decode cX1_reckon 146 = .ok (.aload_n 0, 1) := od_42  (by decide +kernel)
theorem dX1_reckon_147 : decode cX1_reckon 147 = .ok (.getfield 40, 3) := od_180 (a := 0) (b := 40) (by decide +kernel) (by decide)
theorem dX1_reckon_150 : decode cX1_reckon 150 = .ok (.getfield 171, 3) := od_180 (a := 0) (b := 171) (by decide +kernel) (by decide)
theorem dX1_reckon_153 : decode cX1_reckon 153 = .ok (.iload 6, 2) := od_21 (n := 6) (by decide +kernel)
theorem dX1_reckon_155 : decode cX1_reckon 155 = .ok (.aaload, 1) := od_50  (by decide +kernel)
theorem dX1_reckon_156 : decode cX1_reckon 156 = .ok (.iload 8, 2) := od_21 (n := 8) (by decide +kernel)
theorem dX1_reckon_158 : decode cX1_reckon 158 = .ok (.invokevirtual 175, 3) := od_182 (a := 0) (b := 175) (by decide +kernel) (by decide)
theorem dX1_reckon_161 : decode cX1_reckon 161 = .ok (.invokevirtual 180, 3) := od_182 (a := 0) (b := 180) (by decide +kernel) (by decide)
theorem dX1_reckon_164 : decode cX1_reckon 164 = .ok (.istore 11, 2) := od_54 (n := 11) (by decide +kernel)
theorem dX1_reckon_166 : decode cX1_reckon 166 = .ok (.iload 11, 2) := od_21 (n := 11) (by decide +kernel)
theorem dX1_reckon_168 : decode cX1_reckon 168 = .ok (.iconst (-1), 1) := od_2  (by decide +kernel)
theorem dX1_reckon_169 : decode cX1_reckon 169 = .ok (.if_icmp .ne 5, 3) := od_160 (a := 0) (b := 5) (by decide +kernel) (by decide +kernel)
theorem dX1_reckon_172 : decode cX1_reckon 172 = .ok (.iconst 0, 1) := od_3  (by decide +kernel)
theorem dX1_reckon_173 : decode cX1_reckon 173 = .ok (.ireturn, 1) := od_172  (by decide +kernel)
theorem dX1_reckon_174 : decode cX1_reckon 174 = .ok (.aload_n 0, 1) := od_42  (by decide +kernel)
theorem dX1_reckon_175 : decode cX1_reckon 175 = .ok (.iload 11, 2) := od_21 (n := 11) (by decide +kernel)
theorem dX1_reckon_177 : decode cX1_reckon 177 = .ok (.iload 10, 2) := od_21 (n := 10) (by decide +kernel)
theorem dX1_reckon_179 : decode cX1_reckon 179 = .ok (.iadd, 1) := od_96  (by decide +kernel)
theorem dX1_reckon_180 : decode cX1_reckon 180 = .ok (.aload 5, 2) := od_25 (n := 5) (by decide +kernel)
theorem dX1_reckon_182 : decode cX1_reckon 182 = .ok (.iload_n 2, 1) := od_28  (by decide +kernel)
theorem dX1_reckon_183 : decode cX1_reckon 183 = .ok (.iconst 4, 1) := od_7  (by decide +kernel)
theorem dX1_reckon_184 : decode cX1_reckon 184 = .ok (.invokevirtual 116, 3) := od_182 (a := 0) (b := 116) (by decide +kernel) (by decide)
theorem dX1_reckon_187 : decode cX1_reckon 187 = .ok (.invokestatic 164, 3) := od_184 (a := 0) (b := 164) (by decide +kernel) (by decide)
theorem dX1_reckon_190 : decode cX1_reckon 190 = .ok (.putfield 145, 3) := od_181 (a := 0) (b := 145) (by decide +kernel) (by decide)
theorem dX1_reckon_193 : decode cX1_reckon 193 = .ok (.aload_n 0, 1) := od_42  (by decide +kernel)
theorem dX1_reckon_194 : decode cX1_reckon 194 = .ok (.getfield 145, 3) := od_180 (a := 0) (b := 145) (by decide +kernel) (by decide)
theorem dX1_reckon_197 : decode cX1_reckon 197 = .ok (.aload 5, 2) := od_25 (n := 5) (by decide +kernel)
theorem dX1_reckon_199 : decode cX1_reckon 199 = .ok (.iload_n 2, 1) := od_28  (by decide +kernel)
theorem dX1_reckon_200 : decode cX1_reckon 200 = .ok (.iconst 5, 1) := od_8  (by decide +kernel)
theorem dX1_reckon_201 : decode cX1_reckon 201 = .ok (.invokevirtual 116, 3) := od_182 (a := 0) (b := 116) (by decide +kernel) (by decide)
theorem dX1_reckon_204 : decode cX1_reckon 204 = .ok (.if_icmp .le 5, 3) := od_164 (a := 0) (b := 5) (by decide +kernel) (by decide +kernel)
theorem dX1_reckon_207 : decode cX1_reckon 207 = .ok (.iconst 0, 1) := od_3  (by decide +kernel)
theorem dX1_reckon_208 : decode cX1_reckon 208 = .ok (.ireturn, 1) := od_172  (by decide +kernel)
theorem dX1_reckon_209 : decode cX1_reckon 209 = .ok (.aload_n 0, 1) := od_42  (by decide +kernel)
theorem dX1_reckon_210 : decode cX1_reckon 210 = .ok (.aload_n 0, 1) := od_42  (by decide +kernel)
theorem dX1_reckon_211 : decode cX1_reckon 211 = .ok (.getfield 40, 3) := od_180 (a := 0) (b := 40) (by decide +kernel) (by decide)
theorem dX1_reckon_214 : decode cX1_reckon 214 = .ok (.getfield 167, 3) := od_180 (a := 0) (b := 167) (by decide +kernel) (by decide)
theorem dX1_reckon_217 : decode cX1_reckon 217 = .ok (.iload 7, 2) := od_21 (n := 7) (by decide +kernel)
theorem dX1_reckon_219 : decode cX1_reckon 219 = .ok (.iload 7, 2) := od_21 (n := 7) (by decide +kernel)
theorem dX1_reckon_221 : decode cX1_reckon 221 = .ok (.aload_n 0, 1) := od_42  (by decide +kernel)
theorem dX1_reckon_222 : decode cX1_reckon 222 = .ok (.getfield 145, 3) := od_180 (a := 0) (b := 145) (by decide +kernel) (by decide)
theorem dX1_reckon_225 : decode cX1_reckon 225 = .ok (.aload_n 0, 1) := od_42  (by decide +kernel)
theorem dX1_reckon_226 : decode cX1_reckon 226 = .ok (.getfield 40, 3) := od_180 (a := 0) (b := 40) (by decide +kernel) (by decide)
theorem dX1_reckon_229 : decode cX1_reckon 229 = .ok (.getfield 171, 3) := od_180 (a := 0) (b := 171) (by decide +kernel) (by decide)
theorem dX1_reckon_232 : decode cX1_reckon 232 = .ok (.iload 7, 2) := od_21 (n := 7) (by decide +kernel)
theorem dX1_reckon_234 : decode cX1_reckon 234 = .ok (.aaload, 1) := od_50  (by decide +kernel)
theorem dX1_reckon_235 : decode cX1_reckon 235 = .ok (.iload 8, 2) := od_21 (n := 8) (by decide +kernel)
theorem dX1_reckon_237 : decode cX1_reckon 237 = .ok (.invokevirtual 175, 3) := od_182 (a := 0) (b := 175) (by decide +kernel) (by decide)
theorem dX1_reckon_240 : decode cX1_reckon 240 = .ok (.invokevirtual 180, 3) := od_182 (a := 0) (b := 180) (by decide +kernel) (by decide)
theorem dX1_reckon_243 : decode cX1_reckon 243 = .ok (.putfield 119, 3) := od_181 (a := 0) (b := 119) (by decide +kernel) (by decide)
theorem dX1_reckon_246 : decode cX1_reckon 246 = .ok (.iload 8, 2) := od_21 (n := 8) (by decide +kernel)
theorem dX1_reckon_248 : decode cX1_reckon 248 = .ok (.i2l, 1) := od_133  (by decide +kernel)
theorem dX1_reckon_249 : decode cX1_reckon 249 = .ok (.iload 8, 2) := od_21 (n := 8) (by decide +kernel)
theorem dX1_reckon_251 : decode cX1_reckon 251 = .ok (.i2l, 1) := od_133  (by decide +kernel)
theorem dX1_reckon_252 : decode cX1_reckon 252 = .ok (.aload_n 0, 1) := od_42  (by decide +kernel)
theorem dX1_reckon_253 : decode cX1_reckon 253 = .ok (.getfield 145, 3) := od_180 (a := 0) (b := 145) (by decide +kernel) (by decide)
theorem dX1_reckon_256 : decode cX1_reckon 256 = .ok (.aload_n 0, 1) := od_42  (by decide +kernel)
theorem dX1_reckon_257 : decode cX1_reckon 257 = .ok (.getfield 142, 3) := od_180 (a := 0) (b := 142) (by decide +kernel) (by decide)
theorem dX1_reckon_260 : decode cX1_reckon 260 = .ok (.isub, 1) := od_100  (by decide +kernel)
theorem dX1_reckon_261 : decode cX1_reckon 261 = .ok (.i2l, 1) := od_133  (by decide +kernel)
theorem dX1_reckon_262 : decode cX1_reckon 262 = .ok (.lmul, 1) := od_105  (by decide +kernel)
theorem dX1_reckon_263 : decode cX1_reckon 263 = .ok (.aload_n 0, 1) := od_42  (by decide +kernel)
theorem dX1_reckon_264 : decode cX1_reckon 264 = .ok (.getfield 40, 3) := od_180 (a := 0) (b := 40) (by decide +kernel) (by decide)
theorem dX1_reckon_267 : decode cX1_reckon 267 = .ok (.getfield 186, 3) := od_180 (a := 0) (b := 186) (by decide +kernel) (by decide)
theorem dX1_reckon_270 : decode cX1_reckon 270 = .ok (.i2l, 1) := od_133  (by decide +kernel)
theorem dX1_reckon_271 : decode cX1_reckon 271 = .ok (.lmul, 1) := od_105  (by decide +kernel)
theorem dX1_reckon_272 : decode cX1_reckon 272 = .ok (.ldc2_w 189, 3) := od_20 (a := 0) (b := 189) (by decide +kernel) (by decide)
theorem dX1_reckon_275 : decode cX1_reckon 275 = .ok (.ldiv, 1) := od_109  (by decide +kernel)
theorem dX1_reckon_276 : decode cX1_reckon 276 = .ok (.invokestatic 191, 3) := od_184 (a := 0) (b := 191) (by decide +kernel) (by decide)
theorem dX1_reckon_279 : decode cX1_reckon 279 = .ok (.lstore 12, 2) := od_55 (n := 12) (by decide +kernel)
theorem dX1_reckon_281 : decode cX1_reckon 281 = .ok (.aload_n 0, 1) := od_42  (by decide +kernel)
theorem dX1_reckon_282 : decode cX1_reckon 282 = .ok (.iload 8, 2) := od_21 (n := 8) (by decide +kernel)
theorem dX1_reckon_284 : decode cX1_reckon 284 = .ok (.i2l, 1) := od_133  (by decide +kernel)
theorem dX1_reckon_285 : decode cX1_reckon 285 = .ok (.lload 12, 2) := od_22 (n := 12) (by decide +kernel)
theorem dX1_reckon_287 : decode cX1_reckon 287 = .ok (.lsub, 1) := od_101  (by decide +kernel)
theorem dX1_reckon_288 : decode cX1_reckon 288 = .ok (.aload 5, 2) := od_25 (n := 5) (by decide +kernel)
theorem dX1_reckon_290 : decode cX1_reckon 290 = .ok (.iload_n 2, 1) := od_28  (by decide +kernel)
theorem dX1_reckon_291 : decode cX1_reckon 291 = .ok (.bipush 7, 2) := od_16 (a := 7) (by decide +kernel) (by decide +kernel)
theorem dX1_reckon_293 : decode cX1_reckon 293 = .ok (.invokevirtual 194, 3) := od_182 (a := 0) (b := 194) (by decide +kernel) (by decide)
theorem dX1_reckon_296 : decode cX1_reckon 296 = .ok (.lmul, 1) := od_105  (by decide +kernel)
theorem dX1_reckon_297 : decode cX1_reckon 297 = .ok (.ldc2_w 198, 3) := od_20 (a := 0) (b := 198) (by decide +kernel) (by decide)
theorem dX1_reckon_300 : decode cX1_reckon 300 = .ok (.aload_n 0, 1) := od_42  (by decide +kernel)
theorem dX1_reckon_301 : decode cX1_reckon 301 = .ok (.getfield 40, 3) := od_180 (a := 0) (b := 40) (by decide +kernel) (by decide)
theorem dX1_reckon_304 : decode cX1_reckon 304 = .ok (.getfield 80, 3) := od_180 (a := 0) (b := 80) (by decide +kernel) (by decide)
theorem dX1_reckon_307 : decode cX1_reckon 307 = .ok (.iload_n 1, 1) := od_27  (by decide +kernel)
theorem dX1_reckon_308 : decode cX1_reckon 308 = .ok (.aaload, 1) := od_50  (by decide +kernel)
theorem dX1_reckon_309 : decode cX1_reckon 309 = .ok (.getfield 200, 3) := od_180 (a := 0) (b := 200) (by decide +kernel) (by decide)
theorem dX1_reckon_312 : decode cX1_reckon 312 = .ok (.i2l, 1) := od_133  (by decide +kernel)
theorem dX1_reckon_313 : decode cX1_reckon 313 = .ok (.lmul, 1) := od_105  (by decide +kernel)
theorem dX1_reckon_314 : decode cX1_reckon 314 = .ok (.iload 9, 2) := od_21 (n := 9) (by decide +kernel)
theorem dX1_reckon_316 : decode cX1_reckon 316 = .ok (.iload 10, 2) := od_21 (n := 10) (by decide +kernel)
theorem dX1_reckon_318 : decode cX1_reckon 318 = .ok (.iadd, 1) := od_96  (by decide +kernel)
theorem dX1_reckon_319 : decode cX1_reckon 319 = .ok (.i2l, 1) := od_133  (by decide +kernel)
theorem dX1_reckon_320 : decode cX1_reckon 320 = .ok (.lmul, 1) := od_105  (by decide +kernel)
theorem dX1_reckon_321 : decode cX1_reckon 321 = .ok (.lsub, 1) := od_101  (by decide +kernel)
theorem dX1_reckon_322 : decode cX1_reckon 322 = .ok (.putfield 108, 3) := od_181 (a := 0) (b := 108) (by decide +kernel) (by decide)
theorem dX1_reckon_325 : decode cX1_reckon 325 = .ok (.aload_n 0, 1) := od_42  (by decide +kernel)
theorem dX1_reckon_326 : decode cX1_reckon 326 = .ok (.getfield 119, 3) := od_180 (a := 0) (b := 119) (by decide +kernel) (by decide)
theorem dX1_reckon_329 : decode cX1_reckon 329 = .ok (.iconst (-1), 1) := od_2  (by decide +kernel)
theorem dX1_reckon_330 : decode cX1_reckon 330 = .ok (.if_icmp .eq 7, 3) := od_159 (a := 0) (b := 7) (by decide +kernel) (by decide +kernel)
theorem dX1_reckon_333 : decode cX1_reckon 333 = .ok (.iconst 1, 1) := od_4  (by decide +kernel)
theorem dX1_reckon_334 : decode cX1_reckon 334 = .ok (.goto 4, 3) := od_167 (a := 0) (b := 4) (by decide +kernel) (by decide +kernel)
theorem dX1_reckon_337 : decode cX1_reckon 337 = .ok (.iconst 0, 1) := od_3  (by decide +kernel)
theorem dX1_reckon_338 : decode cX1_reckon 338 = .ok (.ireturn, 1) := od_172  (by decide +kernel)
theorem dJ6_bitCount_0f7a4_0 : decode cJ6_bitCount_0f7a4 0 = .ok (.iload_n 0, 1) := od_26  (by decide +kernel)
theorem dJ6_bitCount_0f7a4_1 : decode cJ6_bitCount_0f7a4 1 = .ok (.iload_n 0, 1) := od_26  (by decide +kernel)
theorem dJ6_bitCount_0f7a4_2 : decode cJ6_bitCount_0f7a4 2 = .ok (.iconst 1, 1) := od_4  (by decide +kernel)
theorem dJ6_bitCount_0f7a4_3 : decode cJ6_bitCount_0f7a4 3 = .ok (.iushr, 1) := od_124  (by decide +kernel)
theorem dJ6_bitCount_0f7a4_4 : decode cJ6_bitCount_0f7a4 4 = .ok (.ldc_w 265, 3) := od_19 (a := 1) (b := 9) (by decide +kernel) (by decide)
theorem dJ6_bitCount_0f7a4_7 : decode cJ6_bitCount_0f7a4 7 = .ok (.iand, 1) := od_126  (by decide +kernel)
theorem dJ6_bitCount_0f7a4_8 : decode cJ6_bitCount_0f7a4 8 = .ok (.isub, 1) := od_100  (by decide +kernel)
theorem dJ6_bitCount_0f7a4_9 : decode cJ6_bitCount_0f7a4 9 = .ok (.istore_n 0, 1) := od_59  (by decide +kernel)
theorem dJ6_bitCount_0f7a4_10 : decode cJ6_bitCount_0f7a4 10 = .ok (.iload_n 0, 1) := od_26  (by decide +kernel)
theorem dJ6_bitCount_0f7a4_11 : decode cJ6_bitCount_0f7a4 11 = .ok (.ldc_w 266, 3) := od_19 (a := 1) (b := 10) (by decide +kernel) (by decide)
theorem dJ6_bitCount_0f7a4_14 : decode cJ6_bitCount_0f7a4 14 = .ok (.iand, 1) := od_126  (by decide +kernel)
theorem dJ6_bitCount_0f7a4_15 : decode cJ6_bitCount_0f7a4 15 = .ok (.iload_n 0, 1) := od_26  (by decide +kernel)
theorem dJ6_bitCount_0f7a4_16 : decode cJ6_bitCount_0f7a4 16 = .ok (.iconst 2, 1) := od_5  (by decide +kernel)
theorem dJ6_bitCount_0f7a4_17 : decode cJ6_bitCount_0f7a4 17 = .ok (.iushr, 1) := od_124  (by decide +kernel)
theorem dJ6_bitCount_0f7a4_18 : decode cJ6_bitCount_0f7a4 18 = .ok (.ldc_w 266, 3) := od_19 (a := 1) (b := 10) (by decide +kernel) (by decide)
theorem dJ6_bitCount_0f7a4_21 : decode cJ6_bitCount_0f7a4 21 = .ok (.iand, 1) := od_126  (by decide +kernel)
theorem dJ6_bitCount_0f7a4_22 : decode cJ6_bitCount_0f7a4 22 = .ok (.iadd, 1) := od_96  (by decide +kernel)
theorem dJ6_bitCount_0f7a4_23 : decode cJ6_bitCount_0f7a4 23 = .ok (.istore_n 0, 1) := od_59  (by decide +kernel)
theorem dJ6_bitCount_0f7a4_24 : decode cJ6_bitCount_0f7a4 24 = .ok (.iload_n 0, 1) := od_26  (by decide +kernel)
theorem dJ6_bitCount_0f7a4_25 : decode cJ6_bitCount_0f7a4 25 = .ok (.iload_n 0, 1) := od_26  (by decide +kernel)
theorem dJ6_bitCount_0f7a4_26 : decode cJ6_bitCount_0f7a4 26 = .ok (.iconst 4, 1) := od_7  (by decide +kernel)
theorem dJ6_bitCount_0f7a4_27 : decode cJ6_bitCount_0f7a4 27 = .ok (.iushr, 1) := od_124  (by decide +kernel)
theorem dJ6_bitCount_0f7a4_28 : decode cJ6_bitCount_0f7a4 28 = .ok (.iadd, 1) := od_96  (by decide +kernel)
theorem dJ6_bitCount_0f7a4_29 : decode cJ6_bitCount_0f7a4 29 = .ok (.ldc_w 267, 3) := od_19 (a := 1) (b := 11) (by decide +kernel) (by decide)
theorem dJ6_bitCount_0f7a4_32 : decode cJ6_bitCount_0f7a4 32 = .ok (.iand, 1) := od_126  (by decide +kernel)
theorem dJ6_bitCount_0f7a4_33 : decode cJ6_bitCount_0f7a4 33 = .ok (.istore_n 0, 1) := od_59  (by decide +kernel)
theorem dJ6_bitCount_0f7a4_34 : decode cJ6_bitCount_0f7a4 34 = .ok (.iload_n 0, 1) := od_26  (by decide +kernel)
theorem dJ6_bitCount_0f7a4_35 : decode cJ6_bitCount_0f7a4 35 = .ok (.iload_n 0, 1) := od_26  (by decide +kernel)
theorem dJ6_bitCount_0f7a4_36 : decode cJ6_bitCount_0f7a4 36 = .ok (.bipush 8, 2) := od_16 (a := 8) (by decide +kernel) (by decide +kernel)
theorem dJ6_bitCount_0f7a4_38 : decode cJ6_bitCount_0f7a4 38 = .ok (.iushr, 1) := od_124  (by decide +kernel)
theorem dJ6_bitCount_0f7a4_39 : decode cJ6_bitCount_0f7a4 39 = .ok (.iadd, 1) := od_96  (by decide +kernel)
theorem dJ6_bitCount_0f7a4_40 : decode cJ6_bitCount_0f7a4 40 = .ok (.istore_n 0, 1) := od_59  (by decide +kernel)
theorem dJ6_bitCount_0f7a4_41 : decode cJ6_bitCount_0f7a4 41 = .ok (.iload_n 0, 1) := od_26  (by decide +kernel)
theorem dJ6_bitCount_0f7a4_42 : decode cJ6_bitCount_0f7a4 42 = .ok (.iload_n 0, 1) := od_26  (by decide +kernel)
theorem dJ6_bitCount_0f7a4_43 : decode cJ6_bitCount_0f7a4 43 = .ok (.bipush 16, 2) := od_16 (a := 16) (by decide +kernel) (by decide +kernel)
theorem dJ6_bitCount_0f7a4_45 : decode cJ6_bitCount_0f7a4 45 = .ok (.iushr, 1) := od_124  (by decide +kernel)
theorem dJ6_bitCount_0f7a4_46 : decode cJ6_bitCount_0f7a4 46 = .ok (.iadd, 1) := od_96  (by decide +kernel)
theorem dJ6_bitCount_0f7a4_47 : decode cJ6_bitCount_0f7a4 47 = .ok (.istore_n 0, 1) := od_59  (by decide +kernel)
theorem dJ6_bitCount_0f7a4_48 : decode cJ6_bitCount_0f7a4 48 = .ok (.iload_n 0, 1) := od_26  (by decide +kernel)
theorem dJ6_bitCount_0f7a4_49 : decode cJ6_bitCount_0f7a4 49 = .ok (.bipush 63, 2) := od_16 (a := 63) (by decide +kernel) (by decide +kernel)
theorem dJ6_bitCount_0f7a4_51 : decode cJ6_bitCount_0f7a4 51 = .ok (.iand, 1) := od_126  (by decide +kernel)
theorem dJ6_bitCount_0f7a4_52 : decode cJ6_bitCount_0f7a4 52 = .ok (.ireturn, 1) := od_172  (by decide +kernel)
end
section
set_option maxHeartbeats 4000000 in
set_option maxRecDepth 100000 in
theorem t_X1_sails (l : Launch) (dC : Nat → ClassId) (dI : Nat → Nat → Nat) (sz : Nat) (Ω : Nat → Nat → (Nat → Nat) → va_E → Prop) (κ : Nat → ClassId) (τ ν : Nat → Nat) (ρ : Nat → Nat → Nat) (L : List Nat) (f : Nat → va_E) (hG : tp_G τ ν ρ L) (hT : tp_T Ω κ τ ν ρ f) (h0 : Nat) (v : Int32) (ht_h0 : τ h0 = 2) : Met l yX1_sails wqX1_sails ({ frames := 3, cells := 0, slots := 0, locals := 800 }) (va_Pc [.ref h0, .int v] (pz_B dC dI (tp_K κ) (va_pl L f) sz)) (vp_Si (fun r => (0 ≤ r.toInt ∧ r.toInt ≤ 1) ∧ (r.toInt ≠ 0 → 0 ≤ v.toInt ∧ v.toInt ≤ 2))) 0 0 (fun _ => False) := by
  refine Met.ofW (cc := cX1_sails) (maxL := 2) (ret := some .boolean) (by decide) rfl ?_
  intro p e s m args below meth c s₁ B hml hv
  obtain ⟨rfl, hsz, hP, hK, hD0, hN⟩ := hv
  have hx := B.exec
  have hb := B.bytes
  have hr := B.returns
  have hts := fun (w : Cond) (h : w ∈ WALL) => atoms_spec (ws := wqX1_sails) B.pre w (List.mem_cons_of_mem _ h)
  have hown : s.vm.findClass RX1 = some m.cls := findClass_of_methodNamed B.named
  have hlocks := B.notSynchronized
  subst hsz
  have hD := hD0
  have hS : va_S (fun _ => True) s.heap s.heap [] := va_S.rf
  have hl := lv_entry ([.ref h0, .int v]) (n := 2) (Nat.le_of_ble_eq_true rfl)
  rw [lg_entry_eq]
  generalize (lg_sl ([.ref h0, .int v]) ++ List.replicate (2 - (lg_sl ([.ref h0, .int v])).length) Slot.unset).toArray = ls at hl ⊢
  have hl : lv_has ls 2 [(0, .ref h0), (1, .int v)] := hl
  refine lv_aload_n hx hb dX1_sails_0 rfl (lv_at hl 0 rfl) ?_
  refine tgk_2 hG ht_h0 (fun y1 y1l y2 y2n y3 y3n y4 y4n y5 y5n y6 y6n y7 y7n y8 y8n y9 y9n y10 y10n => ?_)
  refine tpk_2 hT ht_h0 (fun o11_x5 o11_x6 o11_x7 o11_x8 o11_x9 hf_o11 ro11_0 => ?_)
  refine tpk_pos (tp_in hG ht_h0 (by decide)) hf_o11 (fun q12 eq12 => ?_)
  refine va_get (D := (dC, dI)) (ci := 1) (v := .ref (ρ h0 0)) (C := RX1) (T := TX1) (N := 15) hx hb hts hfX1 hown hK hP q12 eq12 rfl 0 (by decide) (hts (.fieldLink RX1 40 "ColdShips$Planner" "world" "LColdShips$World;") wa_143) (fun _ h9 => h9) rfl dX1_sails_1 ?_
  refine lv_iload_n hx hb dX1_sails_4 rfl (lv_at hl 1 rfl) ?_
  refine tgk_11 hG y1 (fun y13 y13n y14 y14n y15 y16 y17 y18 y18m y18l y19 y19m y19l y20 y20m y20l y21 y21w y21m y21l y22 y22w y22m y22l y23 y23w y23m y23l y24 y24w y24m y24l => ?_)
  refine tpk_11 hT y1 (fun o25_x0 o25_x1 o25_x2 o25_x3 o25_x4 o25_x5 o25_x6 hf_o25 ro25_0 ro25_1 ro25_2 ro25_3 => ?_)
  refine tpk_pos (tp_in hG y1 (by decide)) hf_o25 (fun q26 eq26 => ?_)
  have ro25_0 := tp_hu ro25_0; have ro25_1 := tp_hu ro25_1; have ro25_2 := tp_hu ro25_2; have ro25_3 := tp_hu ro25_3
  refine pz_calli (va_runV (As := [.int v]) (rest := []) ⟨hx, hb, hml, hown, hts⟩ (t_X10_hasShip l dC dI _ Ω κ τ ν ρ L f hG hT (ρ h0 0) v y1 o25_x0 o25_x1 o25_x2 o25_x3 o25_x4 o25_x5 o25_x6 hf_o25) (cwV 1 hts gX1_sails_X10_hasShip rfl rfl rfl ⟨rfl, pd_X10_hasShip⟩ ⟨Nat.le_of_ble_eq_true rfl, Nat.le_of_ble_eq_true rfl⟩) ⟨pz_blind, va_recv hK hP (ci := 10) (q0 := q26) rfl eq26, pz_pre hP hK hD hN⟩ rfl rfl hl.1 rfl (lv_room (Nat.le_of_ble_eq_true rfl)) dX1_sails_5 ⟨Nat.le_of_ble_eq_true rfl, Nat.le_of_ble_eq_true rfl⟩) (fun r27 hw28 => ?_)
  obtain ⟨hw28r, hw28p⟩ := hw28
  refine lv_if_eq (tgt := 20) hx hb dX1_sails_8 (by decide) (fun c29 => ?_) (fun c29 => ?_)
  · have ic29 : r27.toInt = 0 := zi_eq rfl rfl c29
    clear hw28r ic29
    refine lv_iconst (v := 0) hx hb dX1_sails_20 (by decide) ?_
    exact W.zret (v := 0) hx hb hr rfl (fun t ht hW => ⟨0, rfl, ⟨(by first | decide | omega), (fun q => absurd rfl q)⟩, ht⟩) (fun _ h => by cases h) dX1_sails_21
  · have ic29 : r27.toInt ≠ 0 := zi_eqf rfl rfl c29
    have p30 : 0 ≤ v.toInt ∧ v.toInt < o25_x5.toInt := (tp_cond.yes hw28p) (by omega)
    clear hw28r ic29
    refine lv_iload_n hx hb dX1_sails_11 rfl (lv_at hl 1 rfl) ?_
    refine lv_iconst (v := 3) hx hb dX1_sails_12 (by decide) ?_
    refine lv_icmp_ge (tgt := 20) hx hb dX1_sails_13 (by decide) (fun c31 => ?_) (fun c31 => ?_)
    · have ic31 : v.toInt ≥ 3 := zi_ge rfl rfl c31
      refine lv_iconst (v := 0) hx hb dX1_sails_20 (by decide) ?_
      exact W.zret (v := 0) hx hb hr rfl (fun t ht hW => ⟨0, rfl, ⟨(by first | decide | omega), (fun q => absurd rfl q)⟩, ht⟩) (fun _ h => by cases h) dX1_sails_21
    · have ic31 : v.toInt < 3 := zi_gef rfl rfl c31
      refine lv_iconst (v := 1) hx hb dX1_sails_16 (by decide) ?_
      refine lv_goto (tgt := 21) hx hb dX1_sails_17 (by decide) ?_
      exact W.zret (v := 1) hx hb hr rfl (fun t ht hW => ⟨1, rfl, ⟨(by first | decide | omega), (fun _ => by omega)⟩, ht⟩) (fun _ h => by cases h) dX1_sails_21
set_option maxHeartbeats 4000000 in
set_option maxRecDepth 100000 in
theorem t_X1_reckon (l : Launch) (dC : Nat → ClassId) (dI : Nat → Nat → Nat) (sz : Nat) (Ω : Nat → Nat → (Nat → Nat) → va_E → Prop) (κ : Nat → ClassId) (τ ν : Nat → Nat) (ρ : Nat → Nat → Nat) (L : List Nat) (f : Nat → va_E) (hG : tp_G τ ν ρ L) (hT : tp_T Ω κ τ ν ρ f) (h0 : Nat) (v : Int32) (u : Int32) (a : Int32) (b : Int32) (ht_h0 : τ h0 = 2) (hr_v : 0 ≤ v.toInt ∧ v.toInt ≤ 5) : Met l yX1_reckon wqX1_reckon ({ frames := 4, cells := 0, slots := 0, locals := 1200 }) (va_Pc [.ref h0, .int v, .int u, .int a, .int b] (pz_B dC dI (tp_K κ) (va_pl L f) sz)) (va_Qi (fun (r : Int32) (f1 : Nat → va_E) => tp_T Ω κ τ ν ρ f1 ∧ tp_F τ [2] f f1 ∧ (0 ≤ r.toInt ∧ r.toInt ≤ 1) ∧ True) (fun (f1 : Nat → va_E) (t : State) => pz_E dC dI (tp_K κ) (va_A (va_pl L f) sz) (va_pl L f1) t) (va_A (va_pl L f) sz)) 0 0 (va_A (va_pl L f) sz) := by
  refine Met.ofW (cc := cX1_reckon) (maxL := 14) (ret := some .boolean) (by decide) rfl ?_
  intro p e s m args below meth c s₁ B hml hv
  obtain ⟨rfl, hsz, hP, hK, hD0, hN⟩ := hv
  have hx := B.exec
  have hb := B.bytes
  have hr := B.returns
  have hts := fun (w : Cond) (h : w ∈ WALL) => atoms_spec (ws := wqX1_reckon) B.pre w (List.mem_cons_of_mem _ h)
  have hown : s.vm.findClass RX1 = some m.cls := findClass_of_methodNamed B.named
  have hlocks := B.notSynchronized
  subst hsz
  have hD := hD0.self (sz := s.heap.size)
  generalize hAe : va_A (va_pl L f) s.heap.size = A at hD ⊢
  have hA : ∀ q : Nat, s.heap.size ≤ q → A q := fun q h => by rw [← hAe]; exact Or.inr h
  have hS : va_S A s.heap s.heap [] := va_S.rf
  have hR : tp_F τ [2] f f := tp_F.rf
  have hl := lv_entry ([.ref h0, .int v, .int u, .int a, .int b]) (n := 14) (Nat.le_of_ble_eq_true rfl)
  rw [lg_entry_eq]
  generalize (lg_sl ([.ref h0, .int v, .int u, .int a, .int b]) ++ List.replicate (14 - (lg_sl ([.ref h0, .int v, .int u, .int a, .int b])).length) Slot.unset).toArray = ls at hl ⊢
  have hl : lv_has ls 14 [(0, .ref h0), (1, .int v), (2, .int u), (3, .int a), (4, .int b)] := hl
  refine lv_aload_n hx hb dX1_reckon_0 rfl (lv_at hl 0 rfl) ?_
  refine tgk_2 hG ht_h0 (fun y1 y1l y2 y2n y3 y3n y4 y4n y5 y5n y6 y6n y7 y7n y8 y8n y9 y9n y10 y10n => ?_)
  refine tpk_2 hT ht_h0 (fun o11_x5 o11_x6 o11_x7 o11_x8 o11_x9 hf_o11 ro11_0 => ?_)
  refine tpk_pos (tp_in hG ht_h0 (by decide)) hf_o11 (fun q12 eq12 => ?_)
  refine va_get (D := (dC, dI)) (ci := 1) (v := .ref (ρ h0 0)) (C := RX1) (T := TX1) (N := 15) hx hb hts hfX1 hown hK hP q12 eq12 rfl 0 (by decide) (hts (.fieldLink RX1 40 "ColdShips$Planner" "world" "LColdShips$World;") wa_143) (fun _ h9 => h9) rfl dX1_reckon_1 ?_
  refine tgk_11 hG y1 (fun y13 y13n y14 y14n y15 y16 y17 y18 y18m y18l y19 y19m y19l y20 y20m y20l y21 y21w y21m y21l y22 y22w y22m y22l y23 y23w y23m y23l y24 y24w y24m y24l => ?_)
  refine tpk_11 hT y1 (fun o25_x0 o25_x1 o25_x2 o25_x3 o25_x4 o25_x5 o25_x6 hf_o25 ro25_0 ro25_1 ro25_2 ro25_3 => ?_)
  refine tpk_pos (tp_in hG y1 (by decide)) hf_o25 (fun q26 eq26 => ?_)
  refine va_getN (D := (dC, dI)) (ci := 10) (v := .ref (ρ (ρ h0 0) 18)) (C := RX10) (T := TX10) (N := 19) hx hb hts hfX10 hown hK hP q26 eq26 rfl 18 (by decide) (va_Nw.use rfl (hN.1 (.fieldLinkNest RX1 50 "ColdShips$World" "cargoes" "LColdShips$Rows;" "ColdShips") nzw_86)) (fun _ h9 => h9) rfl dX1_reckon_4 ?_
  refine lv_astore (lv' := [(5, .ref (ρ (ρ h0 0) 18)), (0, .ref h0), (1, .int v), (2, .int u), (3, .int a), (4, .int b)]) hx hb dX1_reckon_7 hl (by decide) rfl (fun ls hl => ?_)
  refine lv_aload hx hb dX1_reckon_9 (lv_at hl 0 rfl) ?_
  refine lv_iload_n hx hb dX1_reckon_11 rfl (lv_at hl 3 rfl) ?_
  refine lv_iconst (v := 0) hx hb dX1_reckon_12 (by decide) ?_
  refine tgk_5 hG y24 (fun y27 y27n y28a y28b y28c => ?_)
  refine tpk_5 hT y24 (fun o29_x0 o29_x2 hf_o29 ro29_0 ro29_1 => ?_)
  refine tpk_pos (tp_in hG y24 (by decide)) hf_o29 (fun q30 eq30 => ?_)
  refine pz_calli (va_runV (As := [.int u, .int 0]) (rest := []) ⟨hx, hb, hml, hown, hts⟩ (t_X4_number l dC dI _ Ω κ τ ν ρ L f hG hT (ρ (ρ h0 0) 18) u (0) y24) (cwV 2 hts gX1_reckon_X4_number rfl rfl rfl ⟨rfl, pd_X4_number⟩ ⟨Nat.le_of_ble_eq_true rfl, Nat.le_of_ble_eq_true rfl⟩) ⟨pz_blind, va_recv hK hP (ci := 4) (q0 := q30) rfl eq30, pz_pre hP hK hD hN⟩ rfl rfl hl.1 rfl (lv_room (Nat.le_of_ble_eq_true rfl)) dX1_reckon_13 ⟨Nat.le_of_ble_eq_true rfl, Nat.le_of_ble_eq_true rfl⟩) (fun r31 hw32 => ?_)
  obtain ⟨hw32r, hw32p⟩ := hw32
  refine lv_istore (lv' := [(6, .int r31), (5, .ref (ρ (ρ h0 0) 18)), (0, .ref h0), (1, .int v), (2, .int u), (3, .int a), (4, .int b)]) hx hb dX1_reckon_16 hl (by decide) rfl (fun ls hl => ?_)
  refine lv_aload hx hb dX1_reckon_18 (lv_at hl 1 rfl) ?_
  refine lv_iload_n hx hb dX1_reckon_20 rfl (lv_at hl 4 rfl) ?_
  refine lv_iconst (v := 1) hx hb dX1_reckon_21 (by decide) ?_
  refine pz_calli (va_runV (As := [.int u, .int 1]) (rest := []) ⟨hx, hb, hml, hown, hts⟩ (t_X4_number l dC dI _ Ω κ τ ν ρ L f hG hT (ρ (ρ h0 0) 18) u (1) y24) (cwV 2 hts gX1_reckon_X4_number rfl rfl rfl ⟨rfl, pd_X4_number⟩ ⟨Nat.le_of_ble_eq_true rfl, Nat.le_of_ble_eq_true rfl⟩) ⟨pz_blind, va_recv hK hP (ci := 4) (q0 := q30) rfl eq30, pz_pre hP hK hD hN⟩ rfl rfl hl.1 rfl (lv_room (Nat.le_of_ble_eq_true rfl)) dX1_reckon_22 ⟨Nat.le_of_ble_eq_true rfl, Nat.le_of_ble_eq_true rfl⟩) (fun r33 hw34 => ?_)
  obtain ⟨hw34r, hw34p⟩ := hw34
  refine lv_istore (lv' := [(7, .int r33), (6, .int r31), (5, .ref (ρ (ρ h0 0) 18)), (0, .ref h0), (1, .int v), (2, .int u), (3, .int a), (4, .int b)]) hx hb dX1_reckon_25 hl (by decide) rfl (fun ls hl => ?_)
  refine lv_aload hx hb dX1_reckon_27 (lv_at hl 2 rfl) ?_
  refine lv_iload_n hx hb dX1_reckon_29 rfl (lv_at hl 5 rfl) ?_
  refine lv_bipush (v := 6) hx hb dX1_reckon_30 (by decide) ?_
  refine pz_calli (va_runV (As := [.int u, .int 6]) (rest := []) ⟨hx, hb, hml, hown, hts⟩ (t_X4_number l dC dI _ Ω κ τ ν ρ L f hG hT (ρ (ρ h0 0) 18) u (6) y24) (cwV 2 hts gX1_reckon_X4_number rfl rfl rfl ⟨rfl, pd_X4_number⟩ ⟨Nat.le_of_ble_eq_true rfl, Nat.le_of_ble_eq_true rfl⟩) ⟨pz_blind, va_recv hK hP (ci := 4) (q0 := q30) rfl eq30, pz_pre hP hK hD hN⟩ rfl rfl hl.1 rfl (lv_room (Nat.le_of_ble_eq_true rfl)) dX1_reckon_32 ⟨Nat.le_of_ble_eq_true rfl, Nat.le_of_ble_eq_true rfl⟩) (fun r35 hw36 => ?_)
  obtain ⟨hw36r, hw36p⟩ := hw36
  refine lv_istore (lv' := [(8, .int r35), (7, .int r33), (6, .int r31), (5, .ref (ρ (ρ h0 0) 18)), (0, .ref h0), (1, .int v), (2, .int u), (3, .int a), (4, .int b)]) hx hb dX1_reckon_35 hl (by decide) rfl (fun ls hl => ?_)
  refine lv_aload_n hx hb dX1_reckon_37 rfl (lv_at hl 4 rfl) ?_
  refine va_get (D := (dC, dI)) (ci := 1) (v := .ref (ρ h0 0)) (C := RX1) (T := TX1) (N := 15) hx hb hts hfX1 hown hK hP q12 eq12 rfl 0 (by decide) (hts (.fieldLink RX1 40 "ColdShips$Planner" "world" "LColdShips$World;") wa_143) (fun _ h9 => h9) rfl dX1_reckon_38 ?_
  refine lv_iload_n hx hb dX1_reckon_41 rfl (lv_at hl 7 rfl) ?_
  refine lv_iload hx hb dX1_reckon_42 (lv_at hl 2 rfl) ?_
  have ro25_0 := tp_hu ro25_0; have ro25_1 := tp_hu ro25_1; have ro25_2 := tp_hu ro25_2; have ro25_3 := tp_hu ro25_3
  refine pz_calli (va_runV (As := [.int a, .int r31]) (rest := []) ⟨hx, hb, hml, hown, hts⟩ (t_X10_hoursBetween l dC dI _ Ω κ τ ν ρ L f hG hT (ρ h0 0) a r31 y1 o25_x0 o25_x1 o25_x2 o25_x3 o25_x4 o25_x5 o25_x6 hf_o25) (cwV 2 hts gX1_reckon_X10_hoursBetween rfl rfl rfl ⟨rfl, pd_X10_hoursBetween⟩ ⟨Nat.le_of_ble_eq_true rfl, Nat.le_of_ble_eq_true rfl⟩) ⟨pz_blind, va_recv hK hP (ci := 10) (q0 := q26) rfl eq26, pz_pre hP hK hD hN⟩ rfl rfl hl.1 rfl (lv_room (Nat.le_of_ble_eq_true rfl)) dX1_reckon_44 ⟨Nat.le_of_ble_eq_true rfl, Nat.le_of_ble_eq_true rfl⟩) (fun r37 hw38 => ?_)
  obtain ⟨hw38r, hw38p⟩ := hw38
  refine lv_istore (lv' := [(9, .int r37), (8, .int r35), (7, .int r33), (6, .int r31), (5, .ref (ρ (ρ h0 0) 18)), (0, .ref h0), (1, .int v), (2, .int u), (3, .int a), (4, .int b)]) hx hb dX1_reckon_47 hl (by decide) rfl (fun ls hl => ?_)
  refine lv_aload_n hx hb dX1_reckon_49 rfl (lv_at hl 5 rfl) ?_
  refine va_get (D := (dC, dI)) (ci := 1) (v := .ref (ρ h0 0)) (C := RX1) (T := TX1) (N := 15) hx hb hts hfX1 hown hK hP q12 eq12 rfl 0 (by decide) (hts (.fieldLink RX1 40 "ColdShips$Planner" "world" "LColdShips$World;") wa_143) (fun _ h9 => h9) rfl dX1_reckon_50 ?_
  refine lv_iload hx hb dX1_reckon_53 (lv_at hl 3 rfl) ?_
  refine lv_iload hx hb dX1_reckon_55 (lv_at hl 2 rfl) ?_
  refine pz_calli (va_runV (As := [.int r31, .int r33]) (rest := []) ⟨hx, hb, hml, hown, hts⟩ (t_X10_hoursBetween l dC dI _ Ω κ τ ν ρ L f hG hT (ρ h0 0) r31 r33 y1 o25_x0 o25_x1 o25_x2 o25_x3 o25_x4 o25_x5 o25_x6 hf_o25) (cwV 2 hts gX1_reckon_X10_hoursBetween rfl rfl rfl ⟨rfl, pd_X10_hoursBetween⟩ ⟨Nat.le_of_ble_eq_true rfl, Nat.le_of_ble_eq_true rfl⟩) ⟨pz_blind, va_recv hK hP (ci := 10) (q0 := q26) rfl eq26, pz_pre hP hK hD hN⟩ rfl rfl hl.1 rfl (lv_room (Nat.le_of_ble_eq_true rfl)) dX1_reckon_57 ⟨Nat.le_of_ble_eq_true rfl, Nat.le_of_ble_eq_true rfl⟩) (fun r39 hw40 => ?_)
  obtain ⟨hw40r, hw40p⟩ := hw40
  refine lv_istore (lv' := [(10, .int r39), (9, .int r37), (8, .int r35), (7, .int r33), (6, .int r31), (5, .ref (ρ (ρ h0 0) 18)), (0, .ref h0), (1, .int v), (2, .int u), (3, .int a), (4, .int b)]) hx hb dX1_reckon_60 hl (by decide) rfl (fun ls hl => ?_)
  refine lv_iload hx hb dX1_reckon_62 (lv_at hl 1 rfl) ?_
  refine lv_iconst (v := (-1)) hx hb dX1_reckon_64 (by decide) ?_
  refine lv_icmp_eq (tgt := 94) hx hb dX1_reckon_65 (by decide) (fun c41 => ?_) (fun c41 => ?_)
  · have ic41 : r37.toInt = (-1) := zi_eq rfl rfl c41
    refine lv_iconst (v := 0) hx hb dX1_reckon_94 (by decide) ?_
    exact W.zret (v := 0) hx hb hr rfl (fun t ht hW => ⟨⟨0, f, rfl, ⟨hT, hR, (by first | decide | omega), trivial⟩, by rw [ht]; exact hP, va_K.moved hW.alike hK, hD⟩, hS.F ht⟩) hS.2.2 dX1_reckon_95
  · have ic41 : r37.toInt ≠ (-1) := zi_eqf rfl rfl c41
    have p42 : 0 ≤ a.toInt ∧ a.toInt ≤ 5 ∧ 0 ≤ r31.toInt ∧ r31.toInt ≤ 5 := hw38p (by omega)
    refine lv_iload hx hb dX1_reckon_68 (lv_at hl 0 rfl) ?_
    refine lv_iconst (v := (-1)) hx hb dX1_reckon_70 (by decide) ?_
    refine lv_icmp_eq (tgt := 94) hx hb dX1_reckon_71 (by decide) (fun c43 => ?_) (fun c43 => ?_)
    · have ic43 : r39.toInt = (-1) := zi_eq rfl rfl c43
      refine lv_iconst (v := 0) hx hb dX1_reckon_94 (by decide) ?_
      exact W.zret (v := 0) hx hb hr rfl (fun t ht hW => ⟨⟨0, f, rfl, ⟨hT, hR, (by first | decide | omega), trivial⟩, by rw [ht]; exact hP, va_K.moved hW.alike hK, hD⟩, hS.F ht⟩) hS.2.2 dX1_reckon_95
    · have ic43 : r39.toInt ≠ (-1) := zi_eqf rfl rfl c43
      have p44 : 0 ≤ r31.toInt ∧ r31.toInt ≤ 5 ∧ 0 ≤ r33.toInt ∧ r33.toInt ≤ 5 := hw40p (by omega)
      refine lv_iload hx hb dX1_reckon_74 (lv_at hl 2 rfl) ?_
      refine lv_aload_n hx hb dX1_reckon_76 rfl (lv_at hl 6 rfl) ?_
      refine va_get (D := (dC, dI)) (ci := 1) (v := .ref (ρ h0 0)) (C := RX1) (T := TX1) (N := 15) hx hb hts hfX1 hown hK hP q12 eq12 rfl 0 (by decide) (hts (.fieldLink RX1 40 "ColdShips$Planner" "world" "LColdShips$World;") wa_143) (fun _ h9 => h9) rfl dX1_reckon_77 ?_
      refine va_getN (D := (dC, dI)) (ci := 10) (v := .ref (ρ (ρ h0 0) 10)) (C := RX10) (T := TX10) (N := 19) hx hb hts hfX10 hown hK hP q26 eq26 rfl 10 (by decide) (va_Nw.use rfl (hN.1 (.fieldLinkNest RX1 80 "ColdShips$World" "ships" "[LColdShips$Ship;" "ColdShips") nzw_70)) (fun _ h9 => h9) rfl dX1_reckon_80 ?_
      refine lv_iload_n hx hb dX1_reckon_83 rfl (lv_at hl 7 rfl) ?_
      refine tpk_25 hT y16 (fun g46 hf_o45 hf_o45e => ?_)
      refine tpk_pos (tp_in hG y16 (by decide)) hf_o45 (fun q47 eq47 => ?_)
      refine va_aldq hx hb hK hP q47 5 eq47 rfl (vp_in_iff.mpr ⟨by omega, by omega⟩) dX1_reckon_84 ?_
      obtain ⟨b48, hb49⟩ : ∃ b : Nat, b = ρ (ρ (ρ h0 0) 10) v.toNatClampNeg := ⟨_, rfl⟩
      have hb49t : τ b48 = 6 := by rw [hb49]; exact tpg_25 hG y16 _ (zi_cl (vp_in_iff.mpr ⟨by omega, by omega⟩))
      have hb49g : g46 v.toNatClampNeg = some b48 := by rw [hb49]; exact hf_o45e _ (zi_cl (vp_in_iff.mpr ⟨by omega, by omega⟩))
      refine W.eq (g2 := F0 m 85 ls (.ref b48 :: [.int r35])) (congrArg (fun o => F0 m 85 ls (va_rf o :: [.int r35])) hb49g) ?_
      refine tgk_6 hG hb49t (fun y50 y51 y51n y52 y52n y53 y53n y54 y54n y55 y55n y56 y56n => ?_)
      refine tpk_6 hT hb49t (fun o57_x1 o57_x2 o57_x3 o57_x4 o57_x5 o57_x6 o57_x10 o57_x11 o57_x12 o57_x14 hf_o57 ro57_0 ro57_1 ro57_2 => ?_)
      refine tpk_pos (tp_in hG hb49t (by decide)) hf_o57 (fun q58 eq58 => ?_)
      refine va_getN (D := (dC, dI)) (ci := 5) (v := .ref (ρ b48 0)) (C := RX5) (T := TX5) (N := 17) hx hb hts hfX5 hown hK hP q58 eq58 rfl 0 (by decide) (va_Nw.use rfl (hN.1 (.fieldLinkNest RX1 154 "ColdShips$Ship" "tank" "LColdShips$Tank;" "ColdShips") nzw_23)) (fun _ h9 => h9) rfl dX1_reckon_85 ?_
      refine tgk_8 hG y50 (fun y59 y59n y60 y60n y61 y61n => ?_)
      refine tpk_8 hT y50 (fun o62_x0 o62_x1 o62_x2 o62_x3 hf_o62 ro62_0 => ?_)
      refine tpk_pos (tp_in hG y50 (by decide)) hf_o62 (fun q63 eq63 => ?_)
      refine pz_calli (va_runV (As := []) (rest := [.int r35]) ⟨hx, hb, hml, hown, hts⟩ (t_X7_top l dC dI _ Ω κ τ ν ρ L f hG hT (ρ b48 0) y50) (cwV 0 hts gX1_reckon_X7_top rfl rfl rfl ⟨rfl, pd_X7_top⟩ ⟨Nat.le_of_ble_eq_true rfl, Nat.le_of_ble_eq_true rfl⟩) ⟨pz_blind, va_recv hK hP (ci := 7) (q0 := q63) rfl eq63, pz_pre hP hK hD hN⟩ rfl rfl hl.1 rfl (lv_room (Nat.le_of_ble_eq_true rfl)) dX1_reckon_88 ⟨Nat.le_of_ble_eq_true rfl, Nat.le_of_ble_eq_true rfl⟩) (fun r64 hw65 => ?_)
      obtain ⟨hw65r, hw65p⟩ := hw65
      refine lv_icmp_le (tgt := 96) hx hb dX1_reckon_91 (by decide) (fun c66 => ?_) (fun c66 => ?_)
      · have ic66 : r35.toInt ≤ r64.toInt := zi_le rfl rfl c66
        refine lv_aload_n hx hb dX1_reckon_96 rfl (lv_at hl 6 rfl) ?_
        refine lv_iload hx hb dX1_reckon_97 (lv_at hl 10 rfl) ?_
        refine lv_iload hx hb dX1_reckon_99 (lv_at hl 1 rfl) ?_
        refine lv_iadd hx hb dX1_reckon_101 ?_
        refine lv_topi (fun z67 ez67 => ?_)
        refine lv_aload hx hb dX1_reckon_102 (lv_at hl 5 rfl) ?_
        refine lv_iload_n hx hb dX1_reckon_104 rfl (lv_at hl 8 rfl) ?_
        refine lv_iconst (v := 2) hx hb dX1_reckon_105 (by decide) ?_
        refine pz_calli (va_runV (As := [.int u, .int 2]) (rest := [.int z67, .ref h0]) ⟨hx, hb, hml, hown, hts⟩ (t_X4_number l dC dI _ Ω κ τ ν ρ L f hG hT (ρ (ρ h0 0) 18) u (2) y24) (cwV 2 hts gX1_reckon_X4_number rfl rfl rfl ⟨rfl, pd_X4_number⟩ ⟨Nat.le_of_ble_eq_true rfl, Nat.le_of_ble_eq_true rfl⟩) ⟨pz_blind, va_recv hK hP (ci := 4) (q0 := q30) rfl eq30, pz_pre hP hK hD hN⟩ rfl rfl hl.1 rfl (lv_room (Nat.le_of_ble_eq_true rfl)) dX1_reckon_106 ⟨Nat.le_of_ble_eq_true rfl, Nat.le_of_ble_eq_true rfl⟩) (fun r68 hw69 => ?_)
        obtain ⟨hw69r, hw69p⟩ := hw69
        refine va_mmax hx hb (by rw [hml]; exact hl.1.symm) hown (hts (.methodLink RX1 164 Lib.Math.max.name) wa_1362) (hts (.static Lib.Math.max.name) wa_70) (hts (.initialized "java/lang/Math") wa_71) (hts (.code Lib.Math.max.name Lib.Math.max.code 2 (some .int)) wa_72) (Nat.le_of_ble_eq_true rfl) (Nat.le_of_ble_eq_true rfl) (Nat.le_of_ble_eq_true rfl) (Nat.le_of_ble_eq_true rfl) dX1_reckon_109 ?_
        refine lv_topi (fun z70 ez70 => ?_)
        have iz70 := zi_max ez70 (rfl : z67.toInt = _) (rfl : r68.toInt = _)
        refine va_put (D := (dC, dI)) (ci := 1) (v := .int z70) (ty := .int) (C := RX1) (T := TX1) (N := 15) hx hb hts hfX1 tyX1 tyX1_ok nmX1 hown hK hP hD hS q12 eq12 rfl 5 (by decide) (hts (.fieldLink RX1 142 "ColdShips$Planner" "loadAt" "I") wa_1363) (fun _ h9 => h9) rfl (tyX1_ok 5 (by decide)) rfl rfl (Nat.le_of_ble_eq_true rfl) dX1_reckon_112 (tp_k (.inr (1, [.ref (ρ h0 0), .ref (ρ h0 1), .ref (ρ h0 2), .ref (ρ h0 3), .ref (ρ h0 4), .int z70, .int o11_x6, .int o11_x7, .long o11_x8, .int o11_x9, .ref (ρ h0 10), .ref (ρ h0 11), .ref (ρ h0 12), .ref (ρ h0 13), .ref (ρ h0 14)])) hD (tp_in hG ht_h0 (by decide)) eq12 (fun f71 H locs hP hD hS g73 k72 => ?_))
        have hT := hT.up ht_h0 g73 k72 ⟨_, _, _, _, _, rfl, ro11_0⟩
        have hR := hR.up ht_h0 (by decide) k72
        refine lv_aload_n hx hb dX1_reckon_115 rfl (lv_at hl 6 rfl) ?_
        refine tpk_pos (tp_in hG ht_h0 (by decide)) g73 (fun q74 eq74 => ?_)
        refine va_get (D := (dC, dI)) (ci := 1) (v := .int z70) (C := RX1) (T := TX1) (N := 15) hx hb hts hfX1 hown hK hP q74 eq74 rfl 5 (by decide) (hts (.fieldLink RX1 142 "ColdShips$Planner" "loadAt" "I") wa_1363) (fun _ h9 => h9) rfl dX1_reckon_116 ?_
        refine lv_aload hx hb dX1_reckon_119 (lv_at hl 5 rfl) ?_
        refine lv_iload_n hx hb dX1_reckon_121 rfl (lv_at hl 8 rfl) ?_
        refine lv_iconst (v := 3) hx hb dX1_reckon_122 (by decide) ?_
        have hf_75 : f71 (ρ (ρ h0 0) 18) = .inr (4, [.int o29_x0, .ref (ρ (ρ (ρ h0 0) 18) 1), .int o29_x2]) := (k72 _ (tp_ne y24 ht_h0 (by decide))).trans hf_o29
        refine tpk_pos (tp_in hG y24 (by decide)) hf_75 (fun q76 eq76 => ?_)
        refine pz_calli (va_runV (As := [.int u, .int 3]) (rest := [.int z70]) ⟨hx, hb, hml, hown, hts⟩ (t_X4_number l dC dI _ Ω κ τ ν ρ L f71 hG hT (ρ (ρ h0 0) 18) u (3) y24) (cwV 2 hts gX1_reckon_X4_number rfl rfl rfl ⟨rfl, pd_X4_number⟩ ⟨Nat.le_of_ble_eq_true rfl, Nat.le_of_ble_eq_true rfl⟩) ⟨pz_blind, va_recv hK hP (ci := 4) (q0 := q76) rfl eq76, pz_pre hP hK hD hN⟩ rfl rfl hl.1 rfl (lv_room (Nat.le_of_ble_eq_true rfl)) dX1_reckon_123 ⟨Nat.le_of_ble_eq_true rfl, Nat.le_of_ble_eq_true rfl⟩) (fun r77 hw78 => ?_)
        obtain ⟨hw78r, hw78p⟩ := hw78
        refine lv_icmp_le (tgt := 131) hx hb dX1_reckon_126 (by decide) (fun c79 => ?_) (fun c79 => ?_)
        · have ic79 : z70.toInt ≤ r77.toInt := zi_le rfl rfl c79
          refine lv_aload_n hx hb dX1_reckon_131 rfl (lv_at hl 6 rfl) ?_
          refine va_get (D := (dC, dI)) (ci := 1) (v := .ref (ρ h0 0)) (C := RX1) (T := TX1) (N := 15) hx hb hts hfX1 hown hK hP q74 eq74 rfl 0 (by decide) (hts (.fieldLink RX1 40 "ColdShips$Planner" "world" "LColdShips$World;") wa_143) (fun _ h9 => h9) rfl dX1_reckon_132 ?_
          have hf_80 : f71 (ρ h0 0) = .inr (10, [.int o25_x0, .int o25_x1, .int o25_x2, .int o25_x3, .int o25_x4, .int o25_x5, .int o25_x6, .ref (ρ (ρ h0 0) 7), .ref (ρ (ρ h0 0) 8), .ref (ρ (ρ h0 0) 9), .ref (ρ (ρ h0 0) 10), .ref (ρ (ρ h0 0) 11), .ref (ρ (ρ h0 0) 12), .ref (ρ (ρ h0 0) 13), .ref (ρ (ρ h0 0) 14), .ref (ρ (ρ h0 0) 15), .ref (ρ (ρ h0 0) 16), .ref (ρ (ρ h0 0) 17), .ref (ρ (ρ h0 0) 18)]) := (k72 _ (tp_ne y1 ht_h0 (by decide))).trans hf_o25
          refine tpk_pos (tp_in hG y1 (by decide)) hf_80 (fun q81 eq81 => ?_)
          refine va_getN (D := (dC, dI)) (ci := 10) (v := .ref (ρ (ρ h0 0) 13)) (C := RX10) (T := TX10) (N := 19) hx hb hts hfX10 hown hK hP q81 eq81 rfl 13 (by decide) (va_Nw.use rfl (hN.1 (.fieldLinkNest RX1 167 "ColdShips$World" "breaks" "LColdShips$Spans;" "ColdShips") nzw_77)) (fun _ h9 => h9) rfl dX1_reckon_135 ?_
          refine lv_iload hx hb dX1_reckon_138 (lv_at hl 4 rfl) ?_
          refine lv_iload hx hb dX1_reckon_140 (lv_at hl 4 rfl) ?_
          refine lv_aload_n hx hb dX1_reckon_142 rfl (lv_at hl 6 rfl) ?_
          refine va_get (D := (dC, dI)) (ci := 1) (v := .int z70) (C := RX1) (T := TX1) (N := 15) hx hb hts hfX1 hown hK hP q74 eq74 rfl 5 (by decide) (hts (.fieldLink RX1 142 "ColdShips$Planner" "loadAt" "I") wa_1363) (fun _ h9 => h9) rfl dX1_reckon_143 ?_
          refine lv_aload_n hx hb dX1_reckon_146 rfl (lv_at hl 6 rfl) ?_
          refine va_get (D := (dC, dI)) (ci := 1) (v := .ref (ρ h0 0)) (C := RX1) (T := TX1) (N := 15) hx hb hts hfX1 hown hK hP q74 eq74 rfl 0 (by decide) (hts (.fieldLink RX1 40 "ColdShips$Planner" "world" "LColdShips$World;") wa_143) (fun _ h9 => h9) rfl dX1_reckon_147 ?_
          refine va_getN (D := (dC, dI)) (ci := 10) (v := .ref (ρ (ρ h0 0) 9)) (C := RX10) (T := TX10) (N := 19) hx hb hts hfX10 hown hK hP q81 eq81 rfl 9 (by decide) (va_Nw.use rfl (hN.1 (.fieldLinkNest RX1 171 "ColdShips$World" "terminals" "[LColdShips$Terminal;" "ColdShips") nzw_67)) (fun _ h9 => h9) rfl dX1_reckon_150 ?_
          refine lv_iload hx hb dX1_reckon_153 (lv_at hl 4 rfl) ?_
          refine tpk_24 hT y15 (fun g83 hf_o82 hf_o82e => ?_)
          refine tpk_pos (tp_in hG y15 (by decide)) hf_o82 (fun q84 eq84 => ?_)
          refine va_aldq hx hb hK hP q84 4 eq84 rfl (vp_in_iff.mpr ⟨by omega, by omega⟩) dX1_reckon_155 ?_
          obtain ⟨b85, hb86⟩ : ∃ b : Nat, b = ρ (ρ (ρ h0 0) 9) r31.toNatClampNeg := ⟨_, rfl⟩
          have hb86t : τ b85 = 9 := by rw [hb86]; exact tpg_24 hG y15 _ (zi_cl (vp_in_iff.mpr ⟨by omega, by omega⟩))
          have hb86g : g83 r31.toNatClampNeg = some b85 := by rw [hb86]; exact hf_o82e _ (zi_cl (vp_in_iff.mpr ⟨by omega, by omega⟩))
          refine W.eq (g2 := F0 m 156 ls (.ref b85 :: [.int z70, .int r31, .int r31, .ref (ρ (ρ h0 0) 13)])) (congrArg (fun o => F0 m 156 ls (va_rf o :: [.int z70, .int r31, .int r31, .ref (ρ (ρ h0 0) 13)])) hb86g) ?_
          refine lv_iload hx hb dX1_reckon_156 (lv_at hl 2 rfl) ?_
          refine tgk_9 hG hb86t (fun y87 y87n y88 y88n => ?_)
          refine tpk_9 hT hb86t (fun o89_x0 o89_x1 o89_x2 o89_x3 o89_x4 hf_o89 ro89_0 => ?_)
          refine tpk_pos (tp_in hG hb86t (by decide)) hf_o89 (fun q90 eq90 => ?_)
          refine pz_calli (va_runV (As := [.int r35]) (rest := [.int z70, .int r31, .int r31, .ref (ρ (ρ h0 0) 13)]) ⟨hx, hb, hml, hown, hts⟩ (t_X8_hoursFor l dC dI _ Ω κ τ ν ρ L f71 hG hT b85 r35 hb86t) (cwV 1 hts gX1_reckon_X8_hoursFor rfl rfl rfl ⟨rfl, pd_X8_hoursFor⟩ ⟨Nat.le_of_ble_eq_true rfl, Nat.le_of_ble_eq_true rfl⟩) ⟨pz_blind, va_recv hK hP (ci := 8) (q0 := q90) rfl eq90, pz_pre hP hK hD hN⟩ rfl rfl hl.1 rfl (lv_room (Nat.le_of_ble_eq_true rfl)) dX1_reckon_158 ⟨Nat.le_of_ble_eq_true rfl, Nat.le_of_ble_eq_true rfl⟩) (fun r91 hw92 => ?_)
          obtain ⟨hw92r, hw92p⟩ := hw92
          refine tgk_7 hG y19 (fun y93 y93n y94 y94n y95 y95n y96a y96b => ?_)
          refine tpk_7 hT y19 (fun o97_x3 hf_o97 ro97_0 => ?_)
          refine tpk_pos (tp_in hG y19 (by decide)) hf_o97 (fun q98 eq98 => ?_)
          have ro97_0 := tp_hu ro97_0
          refine pz_calli (va_runV (As := [.int r31, .int r31, .int z70, .int r91]) (rest := []) ⟨hx, hb, hml, hown, hts⟩ (t_X6_hourBehind l dC dI _ Ω κ τ ν ρ L f71 hG hT (ρ (ρ h0 0) 13) r31 r31 z70 r91 y19 o97_x3 hf_o97) (cwV 4 hts gX1_reckon_X6_hourBehind rfl rfl rfl ⟨rfl, pd_X6_hourBehind⟩ ⟨Nat.le_of_ble_eq_true rfl, Nat.le_of_ble_eq_true rfl⟩) ⟨pz_blind, va_recv hK hP (ci := 6) (q0 := q98) rfl eq98, pz_pre hP hK hD hN⟩ rfl rfl hl.1 rfl (lv_room (Nat.le_of_ble_eq_true rfl)) dX1_reckon_161 ⟨Nat.le_of_ble_eq_true rfl, Nat.le_of_ble_eq_true rfl⟩) (fun r99 hw100 => ?_)
          obtain ⟨hw100r, hw100p⟩ := hw100
          refine lv_istore (lv' := [(11, .int r99), (10, .int r39), (9, .int r37), (8, .int r35), (7, .int r33), (6, .int r31), (5, .ref (ρ (ρ h0 0) 18)), (0, .ref h0), (1, .int v), (2, .int u), (3, .int a), (4, .int b)]) hx hb dX1_reckon_164 hl (by decide) rfl (fun ls hl => ?_)
          refine lv_iload hx hb dX1_reckon_166 (lv_at hl 0 rfl) ?_
          refine lv_iconst (v := (-1)) hx hb dX1_reckon_168 (by decide) ?_
          refine lv_icmp_ne (tgt := 174) hx hb dX1_reckon_169 (by decide) (fun c101 => ?_) (fun c101 => ?_)
          · have ic101 : r99.toInt ≠ (-1) := zi_ne rfl rfl c101
            refine lv_aload_n hx hb dX1_reckon_174 rfl (lv_at hl 7 rfl) ?_
            refine lv_iload hx hb dX1_reckon_175 (lv_at hl 0 rfl) ?_
            refine lv_iload hx hb dX1_reckon_177 (lv_at hl 1 rfl) ?_
            refine lv_iadd hx hb dX1_reckon_179 ?_
            refine lv_topi (fun z102 ez102 => ?_)
            refine lv_aload hx hb dX1_reckon_180 (lv_at hl 6 rfl) ?_
            refine lv_iload_n hx hb dX1_reckon_182 rfl (lv_at hl 9 rfl) ?_
            refine lv_iconst (v := 4) hx hb dX1_reckon_183 (by decide) ?_
            refine pz_calli (va_runV (As := [.int u, .int 4]) (rest := [.int z102, .ref h0]) ⟨hx, hb, hml, hown, hts⟩ (t_X4_number l dC dI _ Ω κ τ ν ρ L f71 hG hT (ρ (ρ h0 0) 18) u (4) y24) (cwV 2 hts gX1_reckon_X4_number rfl rfl rfl ⟨rfl, pd_X4_number⟩ ⟨Nat.le_of_ble_eq_true rfl, Nat.le_of_ble_eq_true rfl⟩) ⟨pz_blind, va_recv hK hP (ci := 4) (q0 := q76) rfl eq76, pz_pre hP hK hD hN⟩ rfl rfl hl.1 rfl (lv_room (Nat.le_of_ble_eq_true rfl)) dX1_reckon_184 ⟨Nat.le_of_ble_eq_true rfl, Nat.le_of_ble_eq_true rfl⟩) (fun r103 hw104 => ?_)
            obtain ⟨hw104r, hw104p⟩ := hw104
            refine va_mmax hx hb (by rw [hml]; exact hl.1.symm) hown (hts (.methodLink RX1 164 Lib.Math.max.name) wa_1362) (hts (.static Lib.Math.max.name) wa_70) (hts (.initialized "java/lang/Math") wa_71) (hts (.code Lib.Math.max.name Lib.Math.max.code 2 (some .int)) wa_72) (Nat.le_of_ble_eq_true rfl) (Nat.le_of_ble_eq_true rfl) (Nat.le_of_ble_eq_true rfl) (Nat.le_of_ble_eq_true rfl) dX1_reckon_187 ?_
            refine lv_topi (fun z105 ez105 => ?_)
            have iz105 := zi_max ez105 (rfl : z102.toInt = _) (rfl : r103.toInt = _)
            refine va_put (D := (dC, dI)) (ci := 1) (v := .int z105) (ty := .int) (C := RX1) (T := TX1) (N := 15) hx hb hts hfX1 tyX1 tyX1_ok nmX1 hown hK hP hD hS q74 eq74 rfl 6 (by decide) (hts (.fieldLink RX1 145 "ColdShips$Planner" "landAt" "I") wa_1364) (fun _ h9 => h9) rfl (tyX1_ok 6 (by decide)) rfl rfl (Nat.le_of_ble_eq_true rfl) dX1_reckon_190 (tp_k (.inr (1, [.ref (ρ h0 0), .ref (ρ h0 1), .ref (ρ h0 2), .ref (ρ h0 3), .ref (ρ h0 4), .int z70, .int z105, .int o11_x7, .long o11_x8, .int o11_x9, .ref (ρ h0 10), .ref (ρ h0 11), .ref (ρ h0 12), .ref (ρ h0 13), .ref (ρ h0 14)])) hD (tp_in hG ht_h0 (by decide)) eq74 (fun f106 H locs hP hD hS g108 k107 => ?_))
            have hT := hT.up ht_h0 g108 k107 ⟨_, _, _, _, _, rfl, ro11_0⟩
            have hR := hR.up ht_h0 (by decide) k107
            refine lv_aload_n hx hb dX1_reckon_193 rfl (lv_at hl 7 rfl) ?_
            refine tpk_pos (tp_in hG ht_h0 (by decide)) g108 (fun q109 eq109 => ?_)
            refine va_get (D := (dC, dI)) (ci := 1) (v := .int z105) (C := RX1) (T := TX1) (N := 15) hx hb hts hfX1 hown hK hP q109 eq109 rfl 6 (by decide) (hts (.fieldLink RX1 145 "ColdShips$Planner" "landAt" "I") wa_1364) (fun _ h9 => h9) rfl dX1_reckon_194 ?_
            refine lv_aload hx hb dX1_reckon_197 (lv_at hl 6 rfl) ?_
            refine lv_iload_n hx hb dX1_reckon_199 rfl (lv_at hl 9 rfl) ?_
            refine lv_iconst (v := 5) hx hb dX1_reckon_200 (by decide) ?_
            have hf_110 : f106 (ρ (ρ h0 0) 18) = .inr (4, [.int o29_x0, .ref (ρ (ρ (ρ h0 0) 18) 1), .int o29_x2]) := (k107 _ (tp_ne y24 ht_h0 (by decide))).trans hf_75
            refine tpk_pos (tp_in hG y24 (by decide)) hf_110 (fun q111 eq111 => ?_)
            refine pz_calli (va_runV (As := [.int u, .int 5]) (rest := [.int z105]) ⟨hx, hb, hml, hown, hts⟩ (t_X4_number l dC dI _ Ω κ τ ν ρ L f106 hG hT (ρ (ρ h0 0) 18) u (5) y24) (cwV 2 hts gX1_reckon_X4_number rfl rfl rfl ⟨rfl, pd_X4_number⟩ ⟨Nat.le_of_ble_eq_true rfl, Nat.le_of_ble_eq_true rfl⟩) ⟨pz_blind, va_recv hK hP (ci := 4) (q0 := q111) rfl eq111, pz_pre hP hK hD hN⟩ rfl rfl hl.1 rfl (lv_room (Nat.le_of_ble_eq_true rfl)) dX1_reckon_201 ⟨Nat.le_of_ble_eq_true rfl, Nat.le_of_ble_eq_true rfl⟩) (fun r112 hw113 => ?_)
            obtain ⟨hw113r, hw113p⟩ := hw113
            refine lv_icmp_le (tgt := 209) hx hb dX1_reckon_204 (by decide) (fun c114 => ?_) (fun c114 => ?_)
            · have ic114 : z105.toInt ≤ r112.toInt := zi_le rfl rfl c114
              refine lv_aload_n hx hb dX1_reckon_209 rfl (lv_at hl 7 rfl) ?_
              refine lv_aload_n hx hb dX1_reckon_210 rfl (lv_at hl 7 rfl) ?_
              refine va_get (D := (dC, dI)) (ci := 1) (v := .ref (ρ h0 0)) (C := RX1) (T := TX1) (N := 15) hx hb hts hfX1 hown hK hP q109 eq109 rfl 0 (by decide) (hts (.fieldLink RX1 40 "ColdShips$Planner" "world" "LColdShips$World;") wa_143) (fun _ h9 => h9) rfl dX1_reckon_211 ?_
              have hf_115 : f106 (ρ h0 0) = .inr (10, [.int o25_x0, .int o25_x1, .int o25_x2, .int o25_x3, .int o25_x4, .int o25_x5, .int o25_x6, .ref (ρ (ρ h0 0) 7), .ref (ρ (ρ h0 0) 8), .ref (ρ (ρ h0 0) 9), .ref (ρ (ρ h0 0) 10), .ref (ρ (ρ h0 0) 11), .ref (ρ (ρ h0 0) 12), .ref (ρ (ρ h0 0) 13), .ref (ρ (ρ h0 0) 14), .ref (ρ (ρ h0 0) 15), .ref (ρ (ρ h0 0) 16), .ref (ρ (ρ h0 0) 17), .ref (ρ (ρ h0 0) 18)]) := (k107 _ (tp_ne y1 ht_h0 (by decide))).trans hf_80
              refine tpk_pos (tp_in hG y1 (by decide)) hf_115 (fun q116 eq116 => ?_)
              refine va_getN (D := (dC, dI)) (ci := 10) (v := .ref (ρ (ρ h0 0) 13)) (C := RX10) (T := TX10) (N := 19) hx hb hts hfX10 hown hK hP q116 eq116 rfl 13 (by decide) (va_Nw.use rfl (hN.1 (.fieldLinkNest RX1 167 "ColdShips$World" "breaks" "LColdShips$Spans;" "ColdShips") nzw_77)) (fun _ h9 => h9) rfl dX1_reckon_214 ?_
              refine lv_iload hx hb dX1_reckon_217 (lv_at hl 4 rfl) ?_
              refine lv_iload hx hb dX1_reckon_219 (lv_at hl 4 rfl) ?_
              refine lv_aload_n hx hb dX1_reckon_221 rfl (lv_at hl 7 rfl) ?_
              refine va_get (D := (dC, dI)) (ci := 1) (v := .int z105) (C := RX1) (T := TX1) (N := 15) hx hb hts hfX1 hown hK hP q109 eq109 rfl 6 (by decide) (hts (.fieldLink RX1 145 "ColdShips$Planner" "landAt" "I") wa_1364) (fun _ h9 => h9) rfl dX1_reckon_222 ?_
              refine lv_aload_n hx hb dX1_reckon_225 rfl (lv_at hl 7 rfl) ?_
              refine va_get (D := (dC, dI)) (ci := 1) (v := .ref (ρ h0 0)) (C := RX1) (T := TX1) (N := 15) hx hb hts hfX1 hown hK hP q109 eq109 rfl 0 (by decide) (hts (.fieldLink RX1 40 "ColdShips$Planner" "world" "LColdShips$World;") wa_143) (fun _ h9 => h9) rfl dX1_reckon_226 ?_
              refine va_getN (D := (dC, dI)) (ci := 10) (v := .ref (ρ (ρ h0 0) 9)) (C := RX10) (T := TX10) (N := 19) hx hb hts hfX10 hown hK hP q116 eq116 rfl 9 (by decide) (va_Nw.use rfl (hN.1 (.fieldLinkNest RX1 171 "ColdShips$World" "terminals" "[LColdShips$Terminal;" "ColdShips") nzw_67)) (fun _ h9 => h9) rfl dX1_reckon_229 ?_
              refine lv_iload hx hb dX1_reckon_232 (lv_at hl 4 rfl) ?_
              have hf_117 : f106 (ρ (ρ h0 0) 9) = .inl (κ 4, 6, .inr (.inr (.inr (.inr g83)))) := (k107 _ (tp_ne y15 ht_h0 (by decide))).trans hf_o82
              refine tpk_pos (tp_in hG y15 (by decide)) hf_117 (fun q118 eq118 => ?_)
              refine va_aldq hx hb hK hP q118 4 eq118 rfl (vp_in_iff.mpr ⟨by omega, by omega⟩) dX1_reckon_234 ?_
              obtain ⟨b119, hb120⟩ : ∃ b : Nat, b = ρ (ρ (ρ h0 0) 9) r33.toNatClampNeg := ⟨_, rfl⟩
              have hb120t : τ b119 = 9 := by rw [hb120]; exact tpg_24 hG y15 _ (zi_cl (vp_in_iff.mpr ⟨by omega, by omega⟩))
              have hb120g : g83 r33.toNatClampNeg = some b119 := by rw [hb120]; exact hf_o82e _ (zi_cl (vp_in_iff.mpr ⟨by omega, by omega⟩))
              refine W.eq (g2 := F0 m 235 ls (.ref b119 :: [.int z105, .int r33, .int r33, .ref (ρ (ρ h0 0) 13), .ref h0])) (congrArg (fun o => F0 m 235 ls (va_rf o :: [.int z105, .int r33, .int r33, .ref (ρ (ρ h0 0) 13), .ref h0])) hb120g) ?_
              refine lv_iload hx hb dX1_reckon_235 (lv_at hl 3 rfl) ?_
              refine tgk_9 hG hb120t (fun y121 y121n y122 y122n => ?_)
              refine tpk_9 hT hb120t (fun o123_x0 o123_x1 o123_x2 o123_x3 o123_x4 hf_o123 ro123_0 => ?_)
              refine tpk_pos (tp_in hG hb120t (by decide)) hf_o123 (fun q124 eq124 => ?_)
              refine pz_calli (va_runV (As := [.int r35]) (rest := [.int z105, .int r33, .int r33, .ref (ρ (ρ h0 0) 13), .ref h0]) ⟨hx, hb, hml, hown, hts⟩ (t_X8_hoursFor l dC dI _ Ω κ τ ν ρ L f106 hG hT b119 r35 hb120t) (cwV 1 hts gX1_reckon_X8_hoursFor rfl rfl rfl ⟨rfl, pd_X8_hoursFor⟩ ⟨Nat.le_of_ble_eq_true rfl, Nat.le_of_ble_eq_true rfl⟩) ⟨pz_blind, va_recv hK hP (ci := 8) (q0 := q124) rfl eq124, pz_pre hP hK hD hN⟩ rfl rfl hl.1 rfl (lv_room (Nat.le_of_ble_eq_true rfl)) dX1_reckon_237 ⟨Nat.le_of_ble_eq_true rfl, Nat.le_of_ble_eq_true rfl⟩) (fun r125 hw126 => ?_)
              obtain ⟨hw126r, hw126p⟩ := hw126
              have hf_127 : f106 (ρ (ρ h0 0) 13) = .inr (6, [.ref (ρ (ρ (ρ h0 0) 13) 0), .ref (ρ (ρ (ρ h0 0) 13) 1), .ref (ρ (ρ (ρ h0 0) 13) 2), .int o97_x3]) := (k107 _ (tp_ne y19 ht_h0 (by decide))).trans hf_o97
              refine tpk_pos (tp_in hG y19 (by decide)) hf_127 (fun q128 eq128 => ?_)
              refine pz_calli (va_runV (As := [.int r33, .int r33, .int z105, .int r125]) (rest := [.ref h0]) ⟨hx, hb, hml, hown, hts⟩ (t_X6_hourBehind l dC dI _ Ω κ τ ν ρ L f106 hG hT (ρ (ρ h0 0) 13) r33 r33 z105 r125 y19 o97_x3 hf_127) (cwV 4 hts gX1_reckon_X6_hourBehind rfl rfl rfl ⟨rfl, pd_X6_hourBehind⟩ ⟨Nat.le_of_ble_eq_true rfl, Nat.le_of_ble_eq_true rfl⟩) ⟨pz_blind, va_recv hK hP (ci := 6) (q0 := q128) rfl eq128, pz_pre hP hK hD hN⟩ rfl rfl hl.1 rfl (lv_room (Nat.le_of_ble_eq_true rfl)) dX1_reckon_240 ⟨Nat.le_of_ble_eq_true rfl, Nat.le_of_ble_eq_true rfl⟩) (fun r129 hw130 => ?_)
              obtain ⟨hw130r, hw130p⟩ := hw130
              refine va_put (D := (dC, dI)) (ci := 1) (v := .int r129) (ty := .int) (C := RX1) (T := TX1) (N := 15) hx hb hts hfX1 tyX1 tyX1_ok nmX1 hown hK hP hD hS q109 eq109 rfl 7 (by decide) (hts (.fieldLink RX1 119 "ColdShips$Planner" "freeAt" "I") wa_1357) (fun _ h9 => h9) rfl (tyX1_ok 7 (by decide)) rfl rfl (Nat.le_of_ble_eq_true rfl) dX1_reckon_243 (tp_k (.inr (1, [.ref (ρ h0 0), .ref (ρ h0 1), .ref (ρ h0 2), .ref (ρ h0 3), .ref (ρ h0 4), .int z70, .int z105, .int r129, .long o11_x8, .int o11_x9, .ref (ρ h0 10), .ref (ρ h0 11), .ref (ρ h0 12), .ref (ρ h0 13), .ref (ρ h0 14)])) hD (tp_in hG ht_h0 (by decide)) eq109 (fun f131 H locs hP hD hS g133 k132 => ?_))
              have hT := hT.up ht_h0 g133 k132 ⟨_, _, _, _, _, rfl, ro11_0⟩
              have hR := hR.up ht_h0 (by decide) k132
              refine lv_iload hx hb dX1_reckon_246 (lv_at hl 3 rfl) ?_
              refine lv_i2l hx hb dX1_reckon_248 rfl ?_
              refine lv_iload hx hb dX1_reckon_249 (lv_at hl 3 rfl) ?_
              refine lv_i2l hx hb dX1_reckon_251 rfl ?_
              refine lv_aload_n hx hb dX1_reckon_252 rfl (lv_at hl 7 rfl) ?_
              refine tpk_pos (tp_in hG ht_h0 (by decide)) g133 (fun q134 eq134 => ?_)
              refine va_get (D := (dC, dI)) (ci := 1) (v := .int z105) (C := RX1) (T := TX1) (N := 15) hx hb hts hfX1 hown hK hP q134 eq134 rfl 6 (by decide) (hts (.fieldLink RX1 145 "ColdShips$Planner" "landAt" "I") wa_1364) (fun _ h9 => h9) rfl dX1_reckon_253 ?_
              refine lv_aload_n hx hb dX1_reckon_256 rfl (lv_at hl 7 rfl) ?_
              refine va_get (D := (dC, dI)) (ci := 1) (v := .int z70) (C := RX1) (T := TX1) (N := 15) hx hb hts hfX1 hown hK hP q134 eq134 rfl 5 (by decide) (hts (.fieldLink RX1 142 "ColdShips$Planner" "loadAt" "I") wa_1363) (fun _ h9 => h9) rfl dX1_reckon_257 ?_
              refine lv_isub hx hb dX1_reckon_260 ?_
              refine lv_topi (fun z135 ez135 => ?_)
              refine lv_i2l hx hb dX1_reckon_261 rfl ?_
              refine lv_lmul hx hb dX1_reckon_262 ?_
              refine lv_topl (fun z136 ez136 => ?_)
              refine lv_aload_n hx hb dX1_reckon_263 rfl (lv_at hl 7 rfl) ?_
              refine va_get (D := (dC, dI)) (ci := 1) (v := .ref (ρ h0 0)) (C := RX1) (T := TX1) (N := 15) hx hb hts hfX1 hown hK hP q134 eq134 rfl 0 (by decide) (hts (.fieldLink RX1 40 "ColdShips$Planner" "world" "LColdShips$World;") wa_143) (fun _ h9 => h9) rfl dX1_reckon_264 ?_
              have hf_137 : f131 (ρ h0 0) = .inr (10, [.int o25_x0, .int o25_x1, .int o25_x2, .int o25_x3, .int o25_x4, .int o25_x5, .int o25_x6, .ref (ρ (ρ h0 0) 7), .ref (ρ (ρ h0 0) 8), .ref (ρ (ρ h0 0) 9), .ref (ρ (ρ h0 0) 10), .ref (ρ (ρ h0 0) 11), .ref (ρ (ρ h0 0) 12), .ref (ρ (ρ h0 0) 13), .ref (ρ (ρ h0 0) 14), .ref (ρ (ρ h0 0) 15), .ref (ρ (ρ h0 0) 16), .ref (ρ (ρ h0 0) 17), .ref (ρ (ρ h0 0) 18)]) := (k132 _ (tp_ne y1 ht_h0 (by decide))).trans hf_115
              refine tpk_pos (tp_in hG y1 (by decide)) hf_137 (fun q138 eq138 => ?_)
              refine va_getN (D := (dC, dI)) (ci := 10) (v := .int o25_x1) (C := RX10) (T := TX10) (N := 19) hx hb hts hfX10 hown hK hP q138 eq138 rfl 1 (by decide) (va_Nw.use rfl (hN.1 (.fieldLinkNest RX1 186 "ColdShips$World" "boils" "I" "ColdShips") nzw_52)) (fun _ h9 => h9) rfl dX1_reckon_267 ?_
              refine lv_i2l hx hb dX1_reckon_270 rfl ?_
              refine lv_lmul hx hb dX1_reckon_271 ?_
              refine lv_topl (fun z139 ez139 => ?_)
              refine lv_ldc2 (own := RX1) (v := 100000) hx hb hown (hts (.constantLong RX1 189 (100000)) wa_1365) dX1_reckon_272 ?_
              refine lv_ldiv hx hb dX1_reckon_275 (by decide) ?_
              refine lv_topl (fun z140 ez140 => ?_)
              refine va_mmin_long hx hb (by rw [hml]; exact hl.1.symm) hown (hts (.methodLink RX1 191 Lib.MathLoose.min_long.x) wa_1366) (hts (.static Lib.MathLoose.min_long.x) wa_437) (hts (.initialized "java/lang/Math") wa_71) (hts (.code Lib.MathLoose.min_long.x Lib.MathLoose.min_long.code 4 (some .long)) wa_438) (Nat.le_of_ble_eq_true rfl) (Nat.le_of_ble_eq_true rfl) (Nat.le_of_ble_eq_true rfl) (Nat.le_of_ble_eq_true rfl) dX1_reckon_276 ?_
              refine lv_topl (fun z141 ez141 => ?_)
              refine lv_lstore (lv' := [(12, .long z141), (11, .int r99), (10, .int r39), (9, .int r37), (8, .int r35), (7, .int r33), (6, .int r31), (5, .ref (ρ (ρ h0 0) 18)), (0, .ref h0), (1, .int v), (2, .int u), (3, .int a), (4, .int b)]) hx hb dX1_reckon_279 hl (by decide) rfl (fun ls hl => ?_)
              refine lv_aload_n hx hb dX1_reckon_281 rfl (lv_at hl 8 rfl) ?_
              refine lv_iload hx hb dX1_reckon_282 (lv_at hl 4 rfl) ?_
              refine lv_i2l hx hb dX1_reckon_284 rfl ?_
              refine lv_lload hx hb dX1_reckon_285 (lv_at hl 0 rfl) ?_
              refine lv_lsub hx hb dX1_reckon_287 ?_
              refine lv_topl (fun z142 ez142 => ?_)
              refine lv_aload hx hb dX1_reckon_288 (lv_at hl 7 rfl) ?_
              refine lv_iload_n hx hb dX1_reckon_290 rfl (lv_at hl 10 rfl) ?_
              refine lv_bipush (v := 7) hx hb dX1_reckon_291 (by decide) ?_
              have hf_143 : f131 (ρ (ρ h0 0) 18) = .inr (4, [.int o29_x0, .ref (ρ (ρ (ρ h0 0) 18) 1), .int o29_x2]) := (k132 _ (tp_ne y24 ht_h0 (by decide))).trans hf_110
              refine tpk_pos (tp_in hG y24 (by decide)) hf_143 (fun q144 eq144 => ?_)
              have ro29_0 := tp_hu ro29_0; have ro29_1 := tp_hu ro29_1
              refine pz_calll (va_runV (As := [.int u, .int 7]) (rest := [.long z142, .ref h0]) ⟨hx, hb, hml, hown, hts⟩ (t_X4_at l dC dI _ Ω κ τ ν ρ L f131 hG hT (ρ (ρ h0 0) 18) u (7) y24 o29_x0 o29_x2 hf_143) (cwV 2 hts gX1_reckon_X4_at rfl rfl rfl ⟨rfl, pd_X4_at⟩ ⟨Nat.le_of_ble_eq_true rfl, Nat.le_of_ble_eq_true rfl⟩) ⟨pz_blind, va_recv hK hP (ci := 4) (q0 := q144) rfl eq144, pz_pre hP hK hD hN⟩ rfl rfl hl.1 rfl (lv_room (Nat.le_of_ble_eq_true rfl)) dX1_reckon_293 ⟨Nat.le_of_ble_eq_true rfl, Nat.le_of_ble_eq_true rfl⟩) (fun r145 hw146 => ?_)
              obtain ⟨hw146r, hw146p⟩ := hw146
              refine lv_lmul hx hb dX1_reckon_296 ?_
              refine lv_topl (fun z147 ez147 => ?_)
              refine lv_ldc2 (own := RX1) (v := 100) hx hb hown (hts (.constantLong RX1 198 (100)) wa_1367) dX1_reckon_297 ?_
              refine lv_aload_n hx hb dX1_reckon_300 rfl (lv_at hl 8 rfl) ?_
              refine va_get (D := (dC, dI)) (ci := 1) (v := .ref (ρ h0 0)) (C := RX1) (T := TX1) (N := 15) hx hb hts hfX1 hown hK hP q134 eq134 rfl 0 (by decide) (hts (.fieldLink RX1 40 "ColdShips$Planner" "world" "LColdShips$World;") wa_143) (fun _ h9 => h9) rfl dX1_reckon_301 ?_
              refine va_getN (D := (dC, dI)) (ci := 10) (v := .ref (ρ (ρ h0 0) 10)) (C := RX10) (T := TX10) (N := 19) hx hb hts hfX10 hown hK hP q138 eq138 rfl 10 (by decide) (va_Nw.use rfl (hN.1 (.fieldLinkNest RX1 80 "ColdShips$World" "ships" "[LColdShips$Ship;" "ColdShips") nzw_70)) (fun _ h9 => h9) rfl dX1_reckon_304 ?_
              refine lv_iload_n hx hb dX1_reckon_307 rfl (lv_at hl 9 rfl) ?_
              have hf_148 : f71 (ρ (ρ h0 0) 10) = .inl (κ 5, 6, .inr (.inr (.inr (.inr g46)))) := (k72 _ (tp_ne y16 ht_h0 (by decide))).trans hf_o45
              have hf_149 : f106 (ρ (ρ h0 0) 10) = .inl (κ 5, 6, .inr (.inr (.inr (.inr g46)))) := (k107 _ (tp_ne y16 ht_h0 (by decide))).trans hf_148
              have hf_150 : f131 (ρ (ρ h0 0) 10) = .inl (κ 5, 6, .inr (.inr (.inr (.inr g46)))) := (k132 _ (tp_ne y16 ht_h0 (by decide))).trans hf_149
              refine tpk_pos (tp_in hG y16 (by decide)) hf_150 (fun q151 eq151 => ?_)
              refine va_aldq hx hb hK hP q151 5 eq151 rfl (vp_in_iff.mpr ⟨by omega, by omega⟩) dX1_reckon_308 ?_
              obtain ⟨b152, hb153⟩ : ∃ b : Nat, b = ρ (ρ (ρ h0 0) 10) v.toNatClampNeg := ⟨_, rfl⟩
              have hb153t : τ b152 = 6 := by rw [hb153]; exact tpg_25 hG y16 _ (zi_cl (vp_in_iff.mpr ⟨by omega, by omega⟩))
              have hb153g : g46 v.toNatClampNeg = some b152 := by rw [hb153]; exact hf_o45e _ (zi_cl (vp_in_iff.mpr ⟨by omega, by omega⟩))
              refine W.eq (g2 := F0 m 309 ls (.ref b152 :: [.long 100, .long z147, .ref h0])) (congrArg (fun o => F0 m 309 ls (va_rf o :: [.long 100, .long z147, .ref h0])) hb153g) ?_
              refine tgk_6 hG hb153t (fun y154 y155 y155n y156 y156n y157 y157n y158 y158n y159 y159n y160 y160n => ?_)
              refine tpk_6 hT hb153t (fun o161_x1 o161_x2 o161_x3 o161_x4 o161_x5 o161_x6 o161_x10 o161_x11 o161_x12 o161_x14 hf_o161 ro161_0 ro161_1 ro161_2 => ?_)
              refine tpk_pos (tp_in hG hb153t (by decide)) hf_o161 (fun q162 eq162 => ?_)
              refine va_getN (D := (dC, dI)) (ci := 5) (v := .int o161_x1) (C := RX5) (T := TX5) (N := 17) hx hb hts hfX5 hown hK hP q162 eq162 rfl 1 (by decide) (va_Nw.use rfl (hN.1 (.fieldLinkNest RX1 200 "ColdShips$Ship" "fuel" "I" "ColdShips") nzw_25)) (fun _ h9 => h9) rfl dX1_reckon_309 ?_
              refine lv_i2l hx hb dX1_reckon_312 rfl ?_
              refine lv_lmul hx hb dX1_reckon_313 ?_
              refine lv_topl (fun z163 ez163 => ?_)
              refine lv_iload hx hb dX1_reckon_314 (lv_at hl 3 rfl) ?_
              refine lv_iload hx hb dX1_reckon_316 (lv_at hl 2 rfl) ?_
              refine lv_iadd hx hb dX1_reckon_318 ?_
              refine lv_topi (fun z164 ez164 => ?_)
              refine lv_i2l hx hb dX1_reckon_319 rfl ?_
              refine lv_lmul hx hb dX1_reckon_320 ?_
              refine lv_topl (fun z165 ez165 => ?_)
              refine lv_lsub hx hb dX1_reckon_321 ?_
              refine lv_topl (fun z166 ez166 => ?_)
              refine va_put (D := (dC, dI)) (ci := 1) (v := .long z166) (ty := .long) (C := RX1) (T := TX1) (N := 15) hx hb hts hfX1 tyX1 tyX1_ok nmX1 hown hK hP hD hS q134 eq134 rfl 8 (by decide) (hts (.fieldLink RX1 108 "ColdShips$Planner" "worth" "J") wa_1356) (fun _ h9 => h9) rfl (tyX1_ok 8 (by decide)) rfl rfl (Nat.le_of_ble_eq_true rfl) dX1_reckon_322 (tp_k (.inr (1, [.ref (ρ h0 0), .ref (ρ h0 1), .ref (ρ h0 2), .ref (ρ h0 3), .ref (ρ h0 4), .int z70, .int z105, .int r129, .long z166, .int o11_x9, .ref (ρ h0 10), .ref (ρ h0 11), .ref (ρ h0 12), .ref (ρ h0 13), .ref (ρ h0 14)])) hD (tp_in hG ht_h0 (by decide)) eq134 (fun f167 H locs hP hD hS g169 k168 => ?_))
              have hT := hT.up ht_h0 g169 k168 ⟨_, _, _, _, _, rfl, ro11_0⟩
              have hR := hR.up ht_h0 (by decide) k168
              refine lv_aload_n hx hb dX1_reckon_325 rfl (lv_at hl 8 rfl) ?_
              refine tpk_pos (tp_in hG ht_h0 (by decide)) g169 (fun q170 eq170 => ?_)
              refine va_get (D := (dC, dI)) (ci := 1) (v := .int r129) (C := RX1) (T := TX1) (N := 15) hx hb hts hfX1 hown hK hP q170 eq170 rfl 7 (by decide) (hts (.fieldLink RX1 119 "ColdShips$Planner" "freeAt" "I") wa_1357) (fun _ h9 => h9) rfl dX1_reckon_326 ?_
              refine lv_iconst (v := (-1)) hx hb dX1_reckon_329 (by decide) ?_
              refine lv_icmp_eq (tgt := 337) hx hb dX1_reckon_330 (by decide) (fun c171 => ?_) (fun c171 => ?_)
              · have ic171 : r129.toInt = (-1) := zi_eq rfl rfl c171
                refine lv_iconst (v := 0) hx hb dX1_reckon_337 (by decide) ?_
                exact W.zret (v := 0) hx hb hr rfl (fun t ht hW => ⟨⟨0, f167, rfl, ⟨hT, hR, (by first | decide | omega), trivial⟩, by rw [ht]; exact hP, va_K.moved hW.alike hK, hD⟩, hS.F ht⟩) hS.2.2 dX1_reckon_338
              · have ic171 : r129.toInt ≠ (-1) := zi_eqf rfl rfl c171
                refine lv_iconst (v := 1) hx hb dX1_reckon_333 (by decide) ?_
                refine lv_goto (tgt := 338) hx hb dX1_reckon_334 (by decide) ?_
                exact W.zret (v := 1) hx hb hr rfl (fun t ht hW => ⟨⟨1, f167, rfl, ⟨hT, hR, (by first | decide | omega), trivial⟩, by rw [ht]; exact hP, va_K.moved hW.alike hK, hD⟩, hS.F ht⟩) hS.2.2 dX1_reckon_338
            · have ic114 : z105.toInt > r112.toInt := zi_lef rfl rfl c114
              refine lv_iconst (v := 0) hx hb dX1_reckon_207 (by decide) ?_
              exact W.zret (v := 0) hx hb hr rfl (fun t ht hW => ⟨⟨0, f106, rfl, ⟨hT, hR, (by first | decide | omega), trivial⟩, by rw [ht]; exact hP, va_K.moved hW.alike hK, hD⟩, hS.F ht⟩) hS.2.2 dX1_reckon_208
          · have ic101 : r99.toInt = (-1) := zi_nef rfl rfl c101
            refine lv_iconst (v := 0) hx hb dX1_reckon_172 (by decide) ?_
            exact W.zret (v := 0) hx hb hr rfl (fun t ht hW => ⟨⟨0, f71, rfl, ⟨hT, hR, (by first | decide | omega), trivial⟩, by rw [ht]; exact hP, va_K.moved hW.alike hK, hD⟩, hS.F ht⟩) hS.2.2 dX1_reckon_173
        · have ic79 : z70.toInt > r77.toInt := zi_lef rfl rfl c79
          refine lv_iconst (v := 0) hx hb dX1_reckon_129 (by decide) ?_
          exact W.zret (v := 0) hx hb hr rfl (fun t ht hW => ⟨⟨0, f71, rfl, ⟨hT, hR, (by first | decide | omega), trivial⟩, by rw [ht]; exact hP, va_K.moved hW.alike hK, hD⟩, hS.F ht⟩) hS.2.2 dX1_reckon_130
      · have ic66 : r35.toInt > r64.toInt := zi_lef rfl rfl c66
        refine lv_iconst (v := 0) hx hb dX1_reckon_94 (by decide) ?_
        exact W.zret (v := 0) hx hb hr rfl (fun t ht hW => ⟨⟨0, f, rfl, ⟨hT, hR, (by first | decide | omega), trivial⟩, by rw [ht]; exact hP, va_K.moved hW.alike hK, hD⟩, hS.F ht⟩) hS.2.2 dX1_reckon_95
set_option maxHeartbeats 4000000 in
set_option maxRecDepth 100000 in
theorem t_X1_keepRow (l : Launch) (dC : Nat → ClassId) (dI : Nat → Nat → Nat) (sz : Nat) (Ω : Nat → Nat → (Nat → Nat) → va_E → Prop) (κ : Nat → ClassId) (τ ν : Nat → Nat) (ρ : Nat → Nat → Nat) (L : List Nat) (f : Nat → va_E) (hG : tp_G τ ν ρ L) (hT : tp_T Ω κ τ ν ρ f) (h0 : Nat) (v : Int32) (x : Int64) (u : Int32) (ht_h0 : τ h0 = 2) : Met l yX1_keepRow wqX1_keepRow ({ frames := 2, cells := 0, slots := 0, locals := 400 }) (va_Pc [.ref h0, .int v, .long x, .int u] (pz_B dC dI (tp_K κ) (va_pl L f) sz)) (va_Qv (fun (f1 : Nat → va_E) => tp_T Ω κ τ ν ρ f1 ∧ tp_F τ [20, 21] f f1 ∧ True) (fun (f1 : Nat → va_E) (t : State) => pz_E dC dI (tp_K κ) (va_A (va_pl L f) sz) (va_pl L f1) t) (va_A (va_pl L f) sz)) 0 0 (va_A (va_pl L f) sz) := by
  refine Met.ofW (cc := cX1_keepRow) (maxL := 5) (ret := none) (by decide) rfl ?_
  intro p e s m args below meth c s₁ B hml hv
  obtain ⟨rfl, hsz, hP, hK, hD0, hN⟩ := hv
  have hx := B.exec
  have hb := B.bytes
  have hr := B.returns
  have hts := fun (w : Cond) (h : w ∈ WALL) => atoms_spec (ws := wqX1_keepRow) B.pre w (List.mem_cons_of_mem _ h)
  have hown : s.vm.findClass RX1 = some m.cls := findClass_of_methodNamed B.named
  have hlocks := B.notSynchronized
  subst hsz
  have hD := hD0.self (sz := s.heap.size)
  generalize hAe : va_A (va_pl L f) s.heap.size = A at hD ⊢
  have hA : ∀ q : Nat, s.heap.size ≤ q → A q := fun q h => by rw [← hAe]; exact Or.inr h
  have hS : va_S A s.heap s.heap [] := va_S.rf
  have hR : tp_F τ [20, 21] f f := tp_F.rf
  have hl := lv_entry ([.ref h0, .int v, .long x, .int u]) (n := 5) (Nat.le_of_ble_eq_true rfl)
  rw [lg_entry_eq]
  generalize (lg_sl ([.ref h0, .int v, .long x, .int u]) ++ List.replicate (5 - (lg_sl ([.ref h0, .int v, .long x, .int u])).length) Slot.unset).toArray = ls at hl ⊢
  have hl : lv_has ls 5 [(0, .ref h0), (1, .int v), (2, .long x), (4, .int u)] := hl
  refine lv_iload_n hx hb dX1_keepRow_0 rfl (lv_at hl 1 rfl) ?_
  refine lv_if_lt (tgt := 13) hx hb dX1_keepRow_1 (by decide) (fun c1 => ?_) (fun c1 => ?_)
  · have ic1 : v.toInt < 0 := zi_lt rfl rfl c1
    exact W.vret hx hb hr (fun t ht hW => ⟨⟨f, rfl, ⟨hT, hR, trivial⟩, by rw [ht]; exact hP, va_K.moved hW.alike hK, hD⟩, hS.F ht⟩) hS.2.2 dX1_keepRow_13
  · have ic1 : v.toInt ≥ 0 := zi_ltf rfl rfl c1
    refine lv_iload_n hx hb dX1_keepRow_4 rfl (lv_at hl 1 rfl) ?_
    refine lv_aload_n hx hb dX1_keepRow_5 rfl (lv_at hl 0 rfl) ?_
    refine tgk_2 hG ht_h0 (fun y2 y2l y3 y3n y4 y4n y5 y5n y6 y6n y7 y7n y8 y8n y9 y9n y10 y10n y11 y11n => ?_)
    refine tpk_2 hT ht_h0 (fun o12_x5 o12_x6 o12_x7 o12_x8 o12_x9 hf_o12 ro12_0 => ?_)
    refine tpk_pos (tp_in hG ht_h0 (by decide)) hf_o12 (fun q13 eq13 => ?_)
    refine va_get (D := (dC, dI)) (ci := 1) (v := .ref (ρ h0 1)) (C := RX1) (T := TX1) (N := 15) hx hb hts hfX1 hown hK hP q13 eq13 rfl 1 (by decide) (hts (.fieldLink RX1 11 "ColdShips$Planner" "rowWorths" "[J") wa_134) (fun _ h9 => h9) rfl dX1_keepRow_6 ?_
    refine tpk_21 hT y3 y3n (fun g15 hf_o14 => ?_)
    refine tpk_pos (tp_in hG y3 (by decide)) hf_o14 (fun q16 eq16 => ?_)
    refine va_alen hx hb hK hP q16 1 eq16 rfl (rfl : Int32.ofNat 192 = (192 : Int32)) dX1_keepRow_9 ?_
    refine lv_icmp_lt (tgt := 14) hx hb dX1_keepRow_10 (by decide) (fun c17 => ?_) (fun c17 => ?_)
    · have ic17 : v.toInt < 192 := zi_lt rfl rfl c17
      refine lv_lload_n hx hb dX1_keepRow_14 rfl (lv_at hl 2 rfl) ?_
      refine lv_aload_n hx hb dX1_keepRow_15 rfl (lv_at hl 0 rfl) ?_
      refine va_get (D := (dC, dI)) (ci := 1) (v := .ref (ρ h0 1)) (C := RX1) (T := TX1) (N := 15) hx hb hts hfX1 hown hK hP q13 eq13 rfl 1 (by decide) (hts (.fieldLink RX1 11 "ColdShips$Planner" "rowWorths" "[J") wa_134) (fun _ h9 => h9) rfl dX1_keepRow_16 ?_
      refine lv_iload_n hx hb dX1_keepRow_19 rfl (lv_at hl 1 rfl) ?_
      refine va_lald hx hb hK hP q16 1 eq16 rfl (vp_in_iff.mpr ⟨by omega, by omega⟩) dX1_keepRow_20 ?_
      refine lv_topl (fun z18 ez18 => ?_)
      refine tp_join 47 (fun H locs ls stk => stk = [] ∧ va_P (dC, dI) vwCl (va_pl L f) H ∧ va_D A (va_pl L f) ∧ va_S A s.heap H locs ∧ lv_has ls 5 [(0, .ref h0), (1, .int v), (2, .long x), (4, .int u)]) ?_ (fun hj19 => ?_)
      · intro H locs ls stk hI
        refine tn_5 hI (fun e90 hP hD hS hl => ?_)
        clear hI; subst e90
        refine lv_aload_n hx hb dX1_keepRow_47 rfl (lv_at hl 0 rfl) ?_
        refine va_get (D := (dC, dI)) (ci := 1) (v := .ref (ρ h0 1)) (C := RX1) (T := TX1) (N := 15) hx hb hts hfX1 hown hK hP q13 eq13 rfl 1 (by decide) (hts (.fieldLink RX1 11 "ColdShips$Planner" "rowWorths" "[J") wa_134) (fun _ h9 => h9) rfl dX1_keepRow_48 ?_
        refine lv_iload_n hx hb dX1_keepRow_51 rfl (lv_at hl 1 rfl) ?_
        refine lv_lload_n hx hb dX1_keepRow_52 rfl (lv_at hl 2 rfl) ?_
        refine va_last hx hb hK hP hD hS q16 1 eq16 rfl (vp_in_iff.mpr ⟨by omega, by omega⟩) dX1_keepRow_53 (tp_k (.inl (κ 1, 192, .inr (.inl (vp_updL g15 v.toNatClampNeg x)))) hD (tp_in hG y3 (by decide)) eq16 (fun f20 H locs hP hD hS g22 k21 => ?_))
        have hT := hT.up y3 g22 k21 (tp_o21 y3n)
        have hR := hR.up y3 (by decide) k21
        generalize (vp_updL g15 v.toNatClampNeg x) = g23 at g22
        refine lv_aload_n hx hb dX1_keepRow_54 rfl (lv_at hl 0 rfl) ?_
        have hf_24 : f20 h0 = .inr (1, [.ref (ρ h0 0), .ref (ρ h0 1), .ref (ρ h0 2), .ref (ρ h0 3), .ref (ρ h0 4), .int o12_x5, .int o12_x6, .int o12_x7, .long o12_x8, .int o12_x9, .ref (ρ h0 10), .ref (ρ h0 11), .ref (ρ h0 12), .ref (ρ h0 13), .ref (ρ h0 14)]) := (k21 _ (tp_ne ht_h0 y3 (by decide))).trans hf_o12
        refine tpk_pos (tp_in hG ht_h0 (by decide)) hf_24 (fun q25 eq25 => ?_)
        refine va_get (D := (dC, dI)) (ci := 1) (v := .ref (ρ h0 2)) (C := RX1) (T := TX1) (N := 15) hx hb hts hfX1 hown hK hP q25 eq25 rfl 2 (by decide) (hts (.fieldLink RX1 15 "ColdShips$Planner" "rowPlaces" "[I") wa_135) (fun _ h9 => h9) rfl dX1_keepRow_55 ?_
        refine lv_iload_n hx hb dX1_keepRow_58 rfl (lv_at hl 1 rfl) ?_
        refine lv_iload hx hb dX1_keepRow_59 (lv_at hl 3 rfl) ?_
        refine tpk_20 hT y4 y4n (fun g27 hf_o26 => ?_)
        refine tpk_pos (tp_in hG y4 (by decide)) hf_o26 (fun q28 eq28 => ?_)
        refine va_iast hx hb hK hP hD hS q28 0 eq28 rfl (vp_in_iff.mpr ⟨by omega, by omega⟩) dX1_keepRow_61 (tp_k (.inl (κ 0, 192, .inl (upd g27 v.toNatClampNeg u))) hD (tp_in hG y4 (by decide)) eq28 (fun f29 H locs hP hD hS g31 k30 => ?_))
        have hT := hT.up y4 g31 k30 (tp_o20 y4n)
        have hR := hR.up y4 (by decide) k30
        generalize (upd g27 v.toNatClampNeg u) = g32 at g31
        exact W.vret hx hb hr (fun t ht hW => ⟨⟨f29, rfl, ⟨hT, hR, trivial⟩, by rw [ht]; exact hP, va_K.moved hW.alike hK, hD⟩, hS.F ht⟩) hS.2.2 dX1_keepRow_62
      · refine W.lcmp hx hb dX1_keepRow_21 ?_
        refine lv_if_gt (tgt := 47) hx hb dX1_keepRow_22 (by decide) (fun c33 => ?_) (fun c33 => ?_)
        · have ic33 : x.toInt > z18.toInt := zl_gt rfl rfl c33
          exact hj19 _ _ _ _ ⟨rfl, hP, hD, hS, lv_sub hl [0, 1, 2, 3] rfl⟩
        · have ic33 : x.toInt ≤ z18.toInt := zl_gtf rfl rfl c33
          refine lv_lload_n hx hb dX1_keepRow_25 rfl (lv_at hl 2 rfl) ?_
          refine lv_aload_n hx hb dX1_keepRow_26 rfl (lv_at hl 0 rfl) ?_
          refine va_get (D := (dC, dI)) (ci := 1) (v := .ref (ρ h0 1)) (C := RX1) (T := TX1) (N := 15) hx hb hts hfX1 hown hK hP q13 eq13 rfl 1 (by decide) (hts (.fieldLink RX1 11 "ColdShips$Planner" "rowWorths" "[J") wa_134) (fun _ h9 => h9) rfl dX1_keepRow_27 ?_
          refine lv_iload_n hx hb dX1_keepRow_30 rfl (lv_at hl 1 rfl) ?_
          refine va_lald hx hb hK hP q16 1 eq16 rfl (vp_in_iff.mpr ⟨by omega, by omega⟩) dX1_keepRow_31 ?_
          refine lv_topl (fun z34 ez34 => ?_)
          refine W.lcmp hx hb dX1_keepRow_32 ?_
          refine lv_if_ne (tgt := 62) hx hb dX1_keepRow_33 (by decide) (fun c35 => ?_) (fun c35 => ?_)
          · have ic35 : x.toInt ≠ z34.toInt := zl_ne rfl rfl c35
            exact W.vret hx hb hr (fun t ht hW => ⟨⟨f, rfl, ⟨hT, hR, trivial⟩, by rw [ht]; exact hP, va_K.moved hW.alike hK, hD⟩, hS.F ht⟩) hS.2.2 dX1_keepRow_62
          · have ic35 : x.toInt = z34.toInt := zl_nef rfl rfl c35
            refine lv_iload hx hb dX1_keepRow_36 (lv_at hl 3 rfl) ?_
            refine lv_aload_n hx hb dX1_keepRow_38 rfl (lv_at hl 0 rfl) ?_
            refine va_get (D := (dC, dI)) (ci := 1) (v := .ref (ρ h0 2)) (C := RX1) (T := TX1) (N := 15) hx hb hts hfX1 hown hK hP q13 eq13 rfl 2 (by decide) (hts (.fieldLink RX1 15 "ColdShips$Planner" "rowPlaces" "[I") wa_135) (fun _ h9 => h9) rfl dX1_keepRow_39 ?_
            refine lv_iload_n hx hb dX1_keepRow_42 rfl (lv_at hl 1 rfl) ?_
            refine tpk_20 hT y4 y4n (fun g37 hf_o36 => ?_)
            refine tpk_pos (tp_in hG y4 (by decide)) hf_o36 (fun q38 eq38 => ?_)
            refine va_iald hx hb hK hP q38 0 eq38 rfl (vp_in_iff.mpr ⟨by omega, by omega⟩) dX1_keepRow_43 ?_
            refine lv_topi (fun z39 ez39 => ?_)
            refine lv_icmp_ge (tgt := 62) hx hb dX1_keepRow_44 (by decide) (fun c40 => ?_) (fun c40 => ?_)
            · have ic40 : u.toInt ≥ z39.toInt := zi_ge rfl rfl c40
              exact W.vret hx hb hr (fun t ht hW => ⟨⟨f, rfl, ⟨hT, hR, trivial⟩, by rw [ht]; exact hP, va_K.moved hW.alike hK, hD⟩, hS.F ht⟩) hS.2.2 dX1_keepRow_62
            · have ic40 : u.toInt < z39.toInt := zi_gef rfl rfl c40
              exact hj19 _ _ _ _ ⟨rfl, hP, hD, hS, lv_sub hl [0, 1, 2, 3] rfl⟩
    · have ic17 : v.toInt ≥ 192 := zi_ltf rfl rfl c17
      exact W.vret hx hb hr (fun t ht hW => ⟨⟨f, rfl, ⟨hT, hR, trivial⟩, by rw [ht]; exact hP, va_K.moved hW.alike hK, hD⟩, hS.F ht⟩) hS.2.2 dX1_keepRow_13
set_option maxHeartbeats 4000000 in
set_option maxRecDepth 100000 in
theorem t_X1_extend6 (l : Launch) (dC : Nat → ClassId) (dI : Nat → Nat → Nat) (sz : Nat) (Ω : Nat → Nat → (Nat → Nat) → va_E → Prop) (κ : Nat → ClassId) (τ ν : Nat → Nat) (ρ : Nat → Nat → Nat) (L : List Nat) (f : Nat → va_E) (hG : tp_G τ ν ρ L) (hT : tp_T Ω κ τ ν ρ f) (h0 : Nat) (v : Int32) (dd : Int32) (u : Int32) (a : Int32) (b : Int32) (x : Int64) (a6 : Int32) (ht_h0 : τ h0 = 2) (hr_v : 0 ≤ v.toInt ∧ v.toInt ≤ 2) (hr_dd : 6 ≤ dd.toInt ∧ dd.toInt ≤ 6) : Met l yX1_extend wqX1_extend ({ frames := 2, cells := 0, slots := 0, locals := 400 }) (va_Pc [.ref h0, .int v, .int dd, .int u, .int a, .int b, .long x, .int a6] (pz_B dC dI (tp_K κ) (va_pl L f) sz)) (va_Qv (fun (f1 : Nat → va_E) => tp_T Ω κ τ ν ρ f1 ∧ tp_F τ [2, 20, 21] f f1 ∧ True) (fun (f1 : Nat → va_E) (t : State) => pz_E dC dI (tp_K κ) (va_A (va_pl L f) sz) (va_pl L f1) t) (va_A (va_pl L f) sz)) 0 0 (va_A (va_pl L f) sz) := by
  refine Met.ofW (cc := cX1_extend) (maxL := 14) (ret := none) (by decide) rfl ?_
  intro p e s m args below meth c s₁ B hml hv
  obtain ⟨rfl, hsz, hP, hK, hD0, hN⟩ := hv
  have hx := B.exec
  have hb := B.bytes
  have hr := B.returns
  have hts := fun (w : Cond) (h : w ∈ WALL) => atoms_spec (ws := wqX1_extend) B.pre w (List.mem_cons_of_mem _ h)
  have hown : s.vm.findClass RX1 = some m.cls := findClass_of_methodNamed B.named
  have hlocks := B.notSynchronized
  subst hsz
  have hD := hD0.self (sz := s.heap.size)
  generalize hAe : va_A (va_pl L f) s.heap.size = A at hD ⊢
  have hA : ∀ q : Nat, s.heap.size ≤ q → A q := fun q h => by rw [← hAe]; exact Or.inr h
  have hS : va_S A s.heap s.heap [] := va_S.rf
  have hR : tp_F τ [2, 20, 21] f f := tp_F.rf
  have hl := lv_entry ([.ref h0, .int v, .int dd, .int u, .int a, .int b, .long x, .int a6]) (n := 14) (Nat.le_of_ble_eq_true rfl)
  rw [lg_entry_eq]
  generalize (lg_sl ([.ref h0, .int v, .int dd, .int u, .int a, .int b, .long x, .int a6]) ++ List.replicate (14 - (lg_sl ([.ref h0, .int v, .int dd, .int u, .int a, .int b, .long x, .int a6])).length) Slot.unset).toArray = ls at hl ⊢
  have hl : lv_has ls 14 [(0, .ref h0), (1, .int v), (2, .int dd), (3, .int u), (4, .int a), (5, .int b), (6, .long x), (8, .int a6)] := hl
  refine lv_iload_n hx hb dX1_extend_0 rfl (lv_at hl 2 rfl) ?_
  refine lv_bipush (v := 6) hx hb dX1_extend_1 (by decide) ?_
  refine lv_icmp_lt (tgt := 7) hx hb dX1_extend_3 (by decide) (fun c1 => ?_) (fun c1 => ?_)
  · have ic1 : dd.toInt < 6 := zi_lt rfl rfl c1
    exfalso; omega
  · have ic1 : dd.toInt ≥ 6 := zi_ltf rfl rfl c1
    exact W.vret hx hb hr (fun t ht hW => ⟨⟨f, rfl, ⟨hT, hR, trivial⟩, by rw [ht]; exact hP, va_K.moved hW.alike hK, hD⟩, hS.F ht⟩) hS.2.2 dX1_extend_6
set_option maxHeartbeats 4000000 in
set_option maxRecDepth 100000 in
theorem t_X1_extend5 (l : Launch) (dC : Nat → ClassId) (dI : Nat → Nat → Nat) (sz : Nat) (Ω : Nat → Nat → (Nat → Nat) → va_E → Prop) (κ : Nat → ClassId) (τ ν : Nat → Nat) (ρ : Nat → Nat → Nat) (L : List Nat) (f : Nat → va_E) (hG : tp_G τ ν ρ L) (hT : tp_T Ω κ τ ν ρ f) (h0 : Nat) (v : Int32) (dd : Int32) (u : Int32) (a : Int32) (b : Int32) (x : Int64) (a6 : Int32) (ht_h0 : τ h0 = 2) (hr_v : 0 ≤ v.toInt ∧ v.toInt ≤ 2) (hr_dd : 5 ≤ dd.toInt ∧ dd.toInt ≤ 5) : Met l yX1_extend wqX1_extend ({ frames := 5, cells := 0, slots := 0, locals := 1600 }) (va_Pc [.ref h0, .int v, .int dd, .int u, .int a, .int b, .long x, .int a6] (pz_B dC dI (tp_K κ) (va_pl L f) sz)) (va_Qv (fun (f1 : Nat → va_E) => tp_T Ω κ τ ν ρ f1 ∧ tp_F τ [2, 20, 21] f f1 ∧ True) (fun (f1 : Nat → va_E) (t : State) => pz_E dC dI (tp_K κ) (va_A (va_pl L f) sz) (va_pl L f1) t) (va_A (va_pl L f) sz)) 0 0 (va_A (va_pl L f) sz) := by
  refine Met.ofW (cc := cX1_extend) (maxL := 14) (ret := none) (by decide) rfl ?_
  intro p e s m args below meth c s₁ B hml hv
  obtain ⟨rfl, hsz, hP, hK, hD0, hN⟩ := hv
  have hx := B.exec
  have hb := B.bytes
  have hr := B.returns
  have hts := fun (w : Cond) (h : w ∈ WALL) => atoms_spec (ws := wqX1_extend) B.pre w (List.mem_cons_of_mem _ h)
  have hown : s.vm.findClass RX1 = some m.cls := findClass_of_methodNamed B.named
  have hlocks := B.notSynchronized
  subst hsz
  have hD := hD0.self (sz := s.heap.size)
  generalize hAe : va_A (va_pl L f) s.heap.size = A at hD ⊢
  have hA : ∀ q : Nat, s.heap.size ≤ q → A q := fun q h => by rw [← hAe]; exact Or.inr h
  have hS : va_S A s.heap s.heap [] := va_S.rf
  have hR : tp_F τ [2, 20, 21] f f := tp_F.rf
  have hl := lv_entry ([.ref h0, .int v, .int dd, .int u, .int a, .int b, .long x, .int a6]) (n := 14) (Nat.le_of_ble_eq_true rfl)
  rw [lg_entry_eq]
  generalize (lg_sl ([.ref h0, .int v, .int dd, .int u, .int a, .int b, .long x, .int a6]) ++ List.replicate (14 - (lg_sl ([.ref h0, .int v, .int dd, .int u, .int a, .int b, .long x, .int a6])).length) Slot.unset).toArray = ls at hl ⊢
  have hl : lv_has ls 14 [(0, .ref h0), (1, .int v), (2, .int dd), (3, .int u), (4, .int a), (5, .int b), (6, .long x), (8, .int a6)] := hl
  refine lv_iload_n hx hb dX1_extend_0 rfl (lv_at hl 2 rfl) ?_
  refine lv_bipush (v := 6) hx hb dX1_extend_1 (by decide) ?_
  refine lv_icmp_lt (tgt := 7) hx hb dX1_extend_3 (by decide) (fun c1 => ?_) (fun c1 => ?_)
  · have ic1 : dd.toInt < 6 := zi_lt rfl rfl c1
    refine lv_iconst (v := 0) hx hb dX1_extend_7 (by decide) ?_
    refine lv_istore (lv' := [(9, .int 0), (0, .ref h0), (1, .int v), (2, .int dd), (3, .int u), (4, .int a), (5, .int b), (6, .long x), (8, .int a6)]) hx hb dX1_extend_8 hl (by decide) rfl (fun ls hl => ?_)
    refine pz_loop (fun n0 H locs ls => ∃ f3 : Nat → va_E, ∃ w2 : Int32, n0 = (6 - (w2.toInt)).toNat ∧ tp_T Ω κ τ ν ρ f3 ∧ tp_F τ [2, 20, 21] f f3 ∧ (0 ≤ w2.toInt ∧ w2.toInt ≤ 6) ∧ va_P (dC, dI) vwCl (va_pl L f3) H ∧ va_D A (va_pl L f3) ∧ va_S A s.heap H locs ∧ lv_has ls 14 [(9, .int w2), (0, .ref h0), (1, .int v), (2, .int dd), (3, .int u), (4, .int a), (5, .int b), (6, .long x), (8, .int a6)]) ?_ _ _ _ _ ⟨f, 0, rfl, hT, hR, (by have : (0 : Int32).toInt = 0 := rfl; omega), hP, hD, hS, lv_sub hl [0, 1, 2, 3, 4, 5, 6, 7, 8] rfl⟩
    intro n0 H locs ls hI ih4
    refine Exists.elim hI (fun f3 hE90 => Exists.elim hE90 (fun w2 hE91 => tn_8 hE91 (fun hn5 hT hR rw2 hP hD hS hl => ?_)))
    clear hE91 hE90 hI
    refine lv_iload hx hb dX1_extend_10 (lv_at hl 0 rfl) ?_
    refine lv_aload_n hx hb dX1_extend_12 rfl (lv_at hl 1 rfl) ?_
    refine tgk_2 hG ht_h0 (fun y6 y6l y7 y7n y8 y8n y9 y9n y10 y10n y11 y11n y12 y12n y13 y13n y14 y14n y15 y15n => ?_)
    refine tpk_2 hT ht_h0 (fun o16_x5 o16_x6 o16_x7 o16_x8 o16_x9 hf_o16 ro16_0 => ?_)
    refine tpk_pos (tp_in hG ht_h0 (by decide)) hf_o16 (fun q17 eq17 => ?_)
    refine va_get (D := (dC, dI)) (ci := 1) (v := .ref (ρ h0 0)) (C := RX1) (T := TX1) (N := 15) hx hb hts hfX1 hown hK hP q17 eq17 rfl 0 (by decide) (hts (.fieldLink RX1 40 "ColdShips$Planner" "world" "LColdShips$World;") wa_143) (fun _ h9 => h9) rfl dX1_extend_13 ?_
    refine tgk_11 hG y6 (fun y18 y18n y19 y19n y20 y21 y22 y23 y23m y23l y24 y24m y24l y25 y25m y25l y26 y26w y26m y26l y27 y27w y27m y27l y28 y28w y28m y28l y29 y29w y29m y29l => ?_)
    refine tpk_11 hT y6 (fun o30_x0 o30_x1 o30_x2 o30_x3 o30_x4 o30_x5 o30_x6 hf_o30 ro30_0 ro30_1 ro30_2 ro30_3 => ?_)
    refine tpk_pos (tp_in hG y6 (by decide)) hf_o30 (fun q31 eq31 => ?_)
    refine va_getN (D := (dC, dI)) (ci := 10) (v := .ref (ρ (ρ h0 0) 18)) (C := RX10) (T := TX10) (N := 19) hx hb hts hfX10 hown hK hP q31 eq31 rfl 18 (by decide) (va_Nw.use rfl (hN.1 (.fieldLinkNest RX1 50 "ColdShips$World" "cargoes" "LColdShips$Rows;" "ColdShips") nzw_86)) (fun _ h9 => h9) rfl dX1_extend_16 ?_
    refine tgk_5 hG y29 (fun y32 y32n y33a y33b y33c => ?_)
    refine tpk_5 hT y29 (fun o34_x0 o34_x2 hf_o34 ro34_0 ro34_1 => ?_)
    refine tpk_pos (tp_in hG y29 (by decide)) hf_o34 (fun q35 eq35 => ?_)
    have ro34_1 := tp_hu ro34_1
    refine va_getN (D := (dC, dI)) (ci := 4) (v := .int o34_x2) (C := RX4) (T := TX4) (N := 3) hx hb hts hfX4 hown hK hP q35 eq35 rfl 2 (by decide) (va_Nw.use rfl (hN.1 (.fieldLinkNest RX1 54 "ColdShips$Rows" "size" "I" "ColdShips") nzw_1)) (fun _ h9 => h9) rfl dX1_extend_19 ?_
    refine lv_icmp_ge (tgt := 137) hx hb dX1_extend_22 (by decide) (fun c36 => ?_) (fun c36 => ?_)
    · have ic36 : w2.toInt ≥ o34_x2.toInt := zi_ge rfl rfl c36
      exact W.vret hx hb hr (fun t ht hW => ⟨⟨f3, rfl, ⟨hT, hR, trivial⟩, by rw [ht]; exact hP, va_K.moved hW.alike hK, hD⟩, hS.F ht⟩) hS.2.2 dX1_extend_137
    · have ic36 : w2.toInt < o34_x2.toInt := zi_gef rfl rfl c36
      refine lv_iload hx hb dX1_extend_25 (lv_at hl 0 rfl) ?_
      refine lv_bipush (v := 6) hx hb dX1_extend_27 (by decide) ?_
      refine lv_icmp_ge (tgt := 137) hx hb dX1_extend_29 (by decide) (fun c37 => ?_) (fun c37 => ?_)
      · have ic37 : w2.toInt ≥ 6 := zi_ge rfl rfl c37
        exact W.vret hx hb hr (fun t ht hW => ⟨⟨f3, rfl, ⟨hT, hR, trivial⟩, by rw [ht]; exact hP, va_K.moved hW.alike hK, hD⟩, hS.F ht⟩) hS.2.2 dX1_extend_137
      · have ic37 : w2.toInt < 6 := zi_gef rfl rfl c37
        refine lv_iload_n hx hb dX1_extend_32 rfl (lv_at hl 4 rfl) ?_
        refine lv_iload hx hb dX1_extend_33 (lv_at hl 0 rfl) ?_
        refine lv_ishr hx hb dX1_extend_35 ?_
        refine lv_topi (fun z38 ez38 => ?_)
        refine lv_iconst (v := 1) hx hb dX1_extend_36 (by decide) ?_
        refine lv_iand hx hb dX1_extend_37 ?_
        refine lv_topi (fun z39 ez39 => ?_)
        have iz39 : 0 ≤ z39.toInt ∧ z39.toInt ≤ 1 := zb_mask ez39 (by decide)
        refine lv_if_ne (tgt := 131) hx hb dX1_extend_38 (by decide) (fun c40 => ?_) (fun c40 => ?_)
        · have ic40 : z39.toInt ≠ 0 := zi_ne rfl rfl c40
          obtain ⟨z41, ez41⟩ : ∃ y : Int32, y = w2 + 1 := ⟨_, rfl⟩
          refine lv_iinc (v := z41) (lv' := [(9, .int z41), (0, .ref h0), (1, .int v), (2, .int dd), (3, .int u), (4, .int a), (5, .int b), (6, .long x), (8, .int a6)]) hx hb dX1_extend_131 hl (k := 0) rfl (by rw [ez41]; rfl) (by decide) rfl (fun ls hl => ?_)
          have iz41 : z41.toInt = w2.toInt + 1 := zi_add ez41 rfl rfl (by omega) (by omega)
          refine lv_goto (tgt := 10) hx hb dX1_extend_134 (by decide) ?_
          exact ih4 _ _ _ _ (by rw [hn5]; omega) ⟨f3, z41, rfl, hT, hR, (by omega), hP, hD, hS, lv_sub hl [0, 1, 2, 3, 4, 5, 6, 7, 8] rfl⟩
        · have ic40 : z39.toInt = 0 := zi_nef rfl rfl c40
          refine lv_aload_n hx hb dX1_extend_41 rfl (lv_at hl 1 rfl) ?_
          refine lv_iload_n hx hb dX1_extend_42 rfl (lv_at hl 2 rfl) ?_
          refine lv_iload hx hb dX1_extend_43 (lv_at hl 0 rfl) ?_
          refine lv_iload hx hb dX1_extend_45 (lv_at hl 5 rfl) ?_
          refine lv_iload hx hb dX1_extend_47 (lv_at hl 6 rfl) ?_
          have hFc := tp_fr hD hS hA
          refine va_calli (va_runV (As := [.int v, .int w2, .int a, .int b]) (rest := []) ⟨hx, hb, hml, hown, hts⟩ (t_X1_reckon l dC dI _ Ω κ τ ν ρ L f3 hG hT h0 v w2 a b ht_h0 (by first | decide | omega)) (cwV 4 hts gX1_extend_X1_reckon rfl rfl rfl ⟨rfl, pd_X1_reckon⟩ ⟨Nat.le_of_ble_eq_true rfl, Nat.le_of_ble_eq_true rfl⟩) ⟨pz_blind, va_recv hK hP (ci := 1) (q0 := q17) rfl eq17, pz_pre hP hK hD hN⟩ rfl rfl hl.1 rfl (lv_room (Nat.le_of_ble_eq_true rfl)) dX1_extend_49 ⟨Nat.le_of_ble_eq_true rfl, Nat.le_of_ble_eq_true rfl⟩) hS (fun q _ h => hFc q h) hFc (fun r42 f44 t H1 locs ht hvm hw43 hB hz1 hk1 hS => ?_)
          refine tn_4 hw43 (fun hT hF45 hw43r hw43p => ?_); clear hw43
          have hR := hR.then hF45 (by decide)
          have hP := hB.1; rw [ht] at hP; have hD := tp_ad f44 hD; clear hB hFc hz1 hk1; subst ht; generalize t.heap = H at hP hS ⊢
          refine lv_if_eq (tgt := 131) hx hb dX1_extend_52 (by decide) (fun c46 => ?_) (fun c46 => ?_)
          · have ic46 : r42.toInt = 0 := zi_eq rfl rfl c46
            obtain ⟨z47, ez47⟩ : ∃ y : Int32, y = w2 + 1 := ⟨_, rfl⟩
            refine lv_iinc (v := z47) (lv' := [(9, .int z47), (0, .ref h0), (1, .int v), (2, .int dd), (3, .int u), (4, .int a), (5, .int b), (6, .long x), (8, .int a6)]) hx hb dX1_extend_131 hl (k := 0) rfl (by rw [ez47]; rfl) (by decide) rfl (fun ls hl => ?_)
            have iz47 : z47.toInt = w2.toInt + 1 := zi_add ez47 rfl rfl (by omega) (by omega)
            refine lv_goto (tgt := 10) hx hb dX1_extend_134 (by decide) ?_
            exact ih4 _ _ _ _ (by rw [hn5]; omega) ⟨f44, z47, rfl, hT, hR, (by omega), hP, hD, hS, lv_sub hl [0, 1, 2, 3, 4, 5, 6, 7, 8] rfl⟩
          · have ic46 : r42.toInt ≠ 0 := zi_eqf rfl rfl c46
            refine lv_iload_n hx hb dX1_extend_55 rfl (lv_at hl 4 rfl) ?_
            refine lv_iconst (v := 1) hx hb dX1_extend_56 (by decide) ?_
            refine lv_iload hx hb dX1_extend_57 (lv_at hl 0 rfl) ?_
            refine lv_ishl hx hb dX1_extend_59 ?_
            refine lv_topi (fun z48 ez48 => ?_)
            have iz48 : 1 ≤ z48.toInt ∧ z48.toInt ≤ 32 := zb_shl5 ez48 rfl (by omega) (by omega)
            refine lv_ior hx hb dX1_extend_60 ?_
            refine lv_topi (fun z49 ez49 => ?_)
            refine lv_istore (lv' := [(10, .int z49), (9, .int w2), (0, .ref h0), (1, .int v), (2, .int dd), (3, .int u), (4, .int a), (5, .int b), (6, .long x), (8, .int a6)]) hx hb dX1_extend_61 hl (by decide) rfl (fun ls hl => ?_)
            refine lv_iload hx hb dX1_extend_63 (lv_at hl 9 rfl) ?_
            refine lv_iload_n hx hb dX1_extend_65 rfl (lv_at hl 4 rfl) ?_
            refine lv_iconst (v := 3) hx hb dX1_extend_66 (by decide) ?_
            refine lv_iconst (v := 5) hx hb dX1_extend_67 (by decide) ?_
            refine lv_iload hx hb dX1_extend_68 (lv_at hl 1 rfl) ?_
            refine lv_isub hx hb dX1_extend_70 ?_
            refine lv_topi (fun z50 ez50 => ?_)
            have iz50 : z50.toInt = 5 - w2.toInt := zi_sub ez50 rfl rfl (by omega) (by omega)
            refine lv_imul hx hb dX1_extend_71 ?_
            refine lv_topi (fun z51 ez51 => ?_)
            have iz51 : z51.toInt = 3 * z50.toInt := zi_mul ez51 rfl rfl (by omega) (by omega)
            refine lv_ishl hx hb dX1_extend_72 ?_
            refine lv_topi (fun z52 ez52 => ?_)
            refine lv_ior hx hb dX1_extend_73 ?_
            refine lv_topi (fun z53 ez53 => ?_)
            refine lv_istore (lv' := [(11, .int z53), (10, .int z49), (9, .int w2), (0, .ref h0), (1, .int v), (2, .int dd), (3, .int u), (4, .int a), (5, .int b), (6, .long x), (8, .int a6)]) hx hb dX1_extend_74 hl (by decide) rfl (fun ls hl => ?_)
            refine lv_lload hx hb dX1_extend_76 (lv_at hl 9 rfl) ?_
            refine lv_aload_n hx hb dX1_extend_78 rfl (lv_at hl 3 rfl) ?_
            refine tpk_2 hT ht_h0 (fun o54_x5 o54_x6 o54_x7 o54_x8 o54_x9 hf_o54 ro54_0 => ?_)
            refine tpk_pos (tp_in hG ht_h0 (by decide)) hf_o54 (fun q55 eq55 => ?_)
            refine va_get (D := (dC, dI)) (ci := 1) (v := .long o54_x8) (C := RX1) (T := TX1) (N := 15) hx hb hts hfX1 hown hK hP q55 eq55 rfl 8 (by decide) (hts (.fieldLink RX1 108 "ColdShips$Planner" "worth" "J") wa_1356) (fun _ h9 => h9) rfl dX1_extend_79 ?_
            refine lv_ladd hx hb dX1_extend_82 ?_
            refine lv_topl (fun z56 ez56 => ?_)
            refine lv_lstore (lv' := [(12, .long z56), (11, .int z53), (10, .int z49), (9, .int w2), (0, .ref h0), (1, .int v), (2, .int dd), (3, .int u), (4, .int a), (5, .int b), (6, .long x), (8, .int a6)]) hx hb dX1_extend_83 hl (by decide) rfl (fun ls hl => ?_)
            refine lv_aload_n hx hb dX1_extend_85 rfl (lv_at hl 4 rfl) ?_
            refine lv_iload_n hx hb dX1_extend_86 rfl (lv_at hl 5 rfl) ?_
            refine lv_bipush (v := 64) hx hb dX1_extend_87 (by decide) ?_
            refine lv_imul hx hb dX1_extend_89 ?_
            refine lv_topi (fun z57 ez57 => ?_)
            have iz57 : z57.toInt = v.toInt * 64 := zi_mul ez57 rfl rfl (by omega) (by omega)
            refine lv_iload hx hb dX1_extend_90 (lv_at hl 2 rfl) ?_
            refine lv_iadd hx hb dX1_extend_92 ?_
            refine lv_topi (fun z58 ez58 => ?_)
            refine lv_lload hx hb dX1_extend_93 (lv_at hl 0 rfl) ?_
            refine lv_iload hx hb dX1_extend_95 (lv_at hl 1 rfl) ?_
            have hFc := tp_fr hD hS hA
            refine va_callv (va_runV (As := [.int z58, .long z56, .int z53]) (rest := []) ⟨hx, hb, hml, hown, hts⟩ (t_X1_keepRow l dC dI _ Ω κ τ ν ρ L f44 hG hT h0 z58 z56 z53 ht_h0) (cwV 3 hts gX1_extend_X1_keepRow rfl rfl rfl ⟨rfl, pd_X1_keepRow⟩ ⟨Nat.le_of_ble_eq_true rfl, Nat.le_of_ble_eq_true rfl⟩) ⟨pz_blind, va_recv hK hP (ci := 1) (q0 := q55) rfl eq55, pz_pre hP hK hD hN⟩ rfl rfl hl.1 rfl (lv_room (Nat.le_of_ble_eq_true rfl)) dX1_extend_97 ⟨Nat.le_of_ble_eq_true rfl, Nat.le_of_ble_eq_true rfl⟩) hS (fun q _ h => hFc q h) hFc (fun f61 t H1 locs ht hvm hw60 hB hz1 hk1 hS => ?_)
            refine tn_3 hw60 (fun hT hF62 hw60p => ?_); clear hw60
            have hR := hR.then hF62 (by decide)
            have hP := hB.1; rw [ht] at hP; have hD := tp_ad f61 hD; clear hB hFc hz1 hk1; subst ht; generalize t.heap = H at hP hS ⊢
            refine lv_aload_n hx hb dX1_extend_100 rfl (lv_at hl 4 rfl) ?_
            refine lv_iload_n hx hb dX1_extend_101 rfl (lv_at hl 5 rfl) ?_
            refine lv_iload_n hx hb dX1_extend_102 rfl (lv_at hl 6 rfl) ?_
            refine lv_iconst (v := 1) hx hb dX1_extend_103 (by decide) ?_
            refine lv_iadd hx hb dX1_extend_104 ?_
            refine lv_topi (fun z63 ez63 => ?_)
            have iz63 : z63.toInt = dd.toInt + 1 := zi_add ez63 rfl rfl (by omega) (by omega)
            refine lv_iload hx hb dX1_extend_105 (lv_at hl 2 rfl) ?_
            refine lv_aload_n hx hb dX1_extend_107 rfl (lv_at hl 4 rfl) ?_
            have hf_64 : f61 h0 = .inr (1, [.ref (ρ h0 0), .ref (ρ h0 1), .ref (ρ h0 2), .ref (ρ h0 3), .ref (ρ h0 4), .int o54_x5, .int o54_x6, .int o54_x7, .long o54_x8, .int o54_x9, .ref (ρ h0 10), .ref (ρ h0 11), .ref (ρ h0 12), .ref (ρ h0 13), .ref (ρ h0 14)]) := (hF62 _ (by rw [ht_h0]; decide)).trans hf_o54
            refine tpk_pos (tp_in hG ht_h0 (by decide)) hf_64 (fun q65 eq65 => ?_)
            refine va_get (D := (dC, dI)) (ci := 1) (v := .ref (ρ h0 0)) (C := RX1) (T := TX1) (N := 15) hx hb hts hfX1 hown hK hP q65 eq65 rfl 0 (by decide) (hts (.fieldLink RX1 40 "ColdShips$Planner" "world" "LColdShips$World;") wa_143) (fun _ h9 => h9) rfl dX1_extend_108 ?_
            have hf_66 : f44 (ρ h0 0) = .inr (10, [.int o30_x0, .int o30_x1, .int o30_x2, .int o30_x3, .int o30_x4, .int o30_x5, .int o30_x6, .ref (ρ (ρ h0 0) 7), .ref (ρ (ρ h0 0) 8), .ref (ρ (ρ h0 0) 9), .ref (ρ (ρ h0 0) 10), .ref (ρ (ρ h0 0) 11), .ref (ρ (ρ h0 0) 12), .ref (ρ (ρ h0 0) 13), .ref (ρ (ρ h0 0) 14), .ref (ρ (ρ h0 0) 15), .ref (ρ (ρ h0 0) 16), .ref (ρ (ρ h0 0) 17), .ref (ρ (ρ h0 0) 18)]) := (hF45 _ (by rw [tp_iu y6]; decide)).trans hf_o30
            have hf_67 : f61 (ρ h0 0) = .inr (10, [.int o30_x0, .int o30_x1, .int o30_x2, .int o30_x3, .int o30_x4, .int o30_x5, .int o30_x6, .ref (ρ (ρ h0 0) 7), .ref (ρ (ρ h0 0) 8), .ref (ρ (ρ h0 0) 9), .ref (ρ (ρ h0 0) 10), .ref (ρ (ρ h0 0) 11), .ref (ρ (ρ h0 0) 12), .ref (ρ (ρ h0 0) 13), .ref (ρ (ρ h0 0) 14), .ref (ρ (ρ h0 0) 15), .ref (ρ (ρ h0 0) 16), .ref (ρ (ρ h0 0) 17), .ref (ρ (ρ h0 0) 18)]) := (hF62 _ (by rw [tp_iu y6]; decide)).trans hf_66
            refine tpk_pos (tp_in hG y6 (by decide)) hf_67 (fun q68 eq68 => ?_)
            refine va_getN (D := (dC, dI)) (ci := 10) (v := .ref (ρ (ρ h0 0) 18)) (C := RX10) (T := TX10) (N := 19) hx hb hts hfX10 hown hK hP q68 eq68 rfl 18 (by decide) (va_Nw.use rfl (hN.1 (.fieldLinkNest RX1 50 "ColdShips$World" "cargoes" "LColdShips$Rows;" "ColdShips") nzw_86)) (fun _ h9 => h9) rfl dX1_extend_111 ?_
            refine lv_iload hx hb dX1_extend_114 (lv_at hl 3 rfl) ?_
            refine lv_iconst (v := 1) hx hb dX1_extend_116 (by decide) ?_
            have hf_69 : f44 (ρ (ρ h0 0) 18) = .inr (4, [.int o34_x0, .ref (ρ (ρ (ρ h0 0) 18) 1), .int o34_x2]) := (hF45 _ (by rw [tp_iu y29]; decide)).trans hf_o34
            have hf_70 : f61 (ρ (ρ h0 0) 18) = .inr (4, [.int o34_x0, .ref (ρ (ρ (ρ h0 0) 18) 1), .int o34_x2]) := (hF62 _ (by rw [tp_iu y29]; decide)).trans hf_69
            refine tpk_pos (tp_in hG y29 (by decide)) hf_70 (fun q71 eq71 => ?_)
            refine pz_calli (va_runV (As := [.int w2, .int 1]) (rest := [.int z49, .int z63, .int v, .ref h0]) ⟨hx, hb, hml, hown, hts⟩ (t_X4_number l dC dI _ Ω κ τ ν ρ L f61 hG hT (ρ (ρ h0 0) 18) w2 (1) y29) (cwV 2 hts gX1_extend_X4_number rfl rfl rfl ⟨rfl, pd_X4_number⟩ ⟨Nat.le_of_ble_eq_true rfl, Nat.le_of_ble_eq_true rfl⟩) ⟨pz_blind, va_recv hK hP (ci := 4) (q0 := q71) rfl eq71, pz_pre hP hK hD hN⟩ rfl rfl hl.1 rfl (lv_room (Nat.le_of_ble_eq_true rfl)) dX1_extend_117 ⟨Nat.le_of_ble_eq_true rfl, Nat.le_of_ble_eq_true rfl⟩) (fun r72 hw73 => ?_)
            obtain ⟨hw73r, hw73p⟩ := hw73
            refine lv_aload_n hx hb dX1_extend_120 rfl (lv_at hl 4 rfl) ?_
            refine va_get (D := (dC, dI)) (ci := 1) (v := .int o54_x7) (C := RX1) (T := TX1) (N := 15) hx hb hts hfX1 hown hK hP q65 eq65 rfl 7 (by decide) (hts (.fieldLink RX1 119 "ColdShips$Planner" "freeAt" "I") wa_1357) (fun _ h9 => h9) rfl dX1_extend_121 ?_
            refine lv_lload hx hb dX1_extend_124 (lv_at hl 0 rfl) ?_
            refine lv_iload hx hb dX1_extend_126 (lv_at hl 1 rfl) ?_
            have hFc := tp_fr hD hS hA
            refine va_callv (va_runV (As := [.int v, .int z63, .int z49, .int r72, .int o54_x7, .long z56, .int z53]) (rest := []) ⟨hx, hb, hml, hown, hts⟩ (t_X1_extend6 l dC dI _ Ω κ τ ν ρ L f61 hG hT h0 v z63 z49 r72 o54_x7 z56 z53 ht_h0 (by first | decide | omega) (by first | decide | omega)) (cwV 7 hts gX1_extend_X1_extend rfl rfl rfl ⟨rfl, pd_X1_extend⟩ ⟨Nat.le_of_ble_eq_true rfl, Nat.le_of_ble_eq_true rfl⟩) ⟨pz_blind, va_recv hK hP (ci := 1) (q0 := q65) rfl eq65, pz_pre hP hK hD hN⟩ rfl rfl hl.1 rfl (lv_room (Nat.le_of_ble_eq_true rfl)) dX1_extend_128 ⟨Nat.le_of_ble_eq_true rfl, Nat.le_of_ble_eq_true rfl⟩) hS (fun q _ h => hFc q h) hFc (fun f76 t H1 locs ht hvm hw75 hB hz1 hk1 hS => ?_)
            refine tn_3 hw75 (fun hT hF77 hw75p => ?_); clear hw75
            have hR := hR.then hF77 (by decide)
            have hP := hB.1; rw [ht] at hP; have hD := tp_ad f76 hD; clear hB hFc hz1 hk1; subst ht; generalize t.heap = H at hP hS ⊢
            obtain ⟨z78, ez78⟩ : ∃ y : Int32, y = w2 + 1 := ⟨_, rfl⟩
            refine lv_iinc (v := z78) (lv' := [(9, .int z78), (12, .long z56), (11, .int z53), (10, .int z49), (0, .ref h0), (1, .int v), (2, .int dd), (3, .int u), (4, .int a), (5, .int b), (6, .long x), (8, .int a6)]) hx hb dX1_extend_131 hl (k := 3) rfl (by rw [ez78]; rfl) (by decide) rfl (fun ls hl => ?_)
            have iz78 : z78.toInt = w2.toInt + 1 := zi_add ez78 rfl rfl (by omega) (by omega)
            refine lv_goto (tgt := 10) hx hb dX1_extend_134 (by decide) ?_
            exact ih4 _ _ _ _ (by rw [hn5]; omega) ⟨f76, z78, rfl, hT, hR, (by omega), hP, hD, hS, lv_sub hl [0, 4, 5, 6, 7, 8, 9, 10, 11] rfl⟩
  · have ic1 : dd.toInt ≥ 6 := zi_ltf rfl rfl c1
    exfalso; omega
set_option maxHeartbeats 4000000 in
set_option maxRecDepth 100000 in
theorem t_X1_extend4 (l : Launch) (dC : Nat → ClassId) (dI : Nat → Nat → Nat) (sz : Nat) (Ω : Nat → Nat → (Nat → Nat) → va_E → Prop) (κ : Nat → ClassId) (τ ν : Nat → Nat) (ρ : Nat → Nat → Nat) (L : List Nat) (f : Nat → va_E) (hG : tp_G τ ν ρ L) (hT : tp_T Ω κ τ ν ρ f) (h0 : Nat) (v : Int32) (dd : Int32) (u : Int32) (a : Int32) (b : Int32) (x : Int64) (a6 : Int32) (ht_h0 : τ h0 = 2) (hr_v : 0 ≤ v.toInt ∧ v.toInt ≤ 2) (hr_dd : 4 ≤ dd.toInt ∧ dd.toInt ≤ 4) : Met l yX1_extend wqX1_extend ({ frames := 6, cells := 0, slots := 0, locals := 2000 }) (va_Pc [.ref h0, .int v, .int dd, .int u, .int a, .int b, .long x, .int a6] (pz_B dC dI (tp_K κ) (va_pl L f) sz)) (va_Qv (fun (f1 : Nat → va_E) => tp_T Ω κ τ ν ρ f1 ∧ tp_F τ [2, 20, 21] f f1 ∧ True) (fun (f1 : Nat → va_E) (t : State) => pz_E dC dI (tp_K κ) (va_A (va_pl L f) sz) (va_pl L f1) t) (va_A (va_pl L f) sz)) 0 0 (va_A (va_pl L f) sz) := by
  refine Met.ofW (cc := cX1_extend) (maxL := 14) (ret := none) (by decide) rfl ?_
  intro p e s m args below meth c s₁ B hml hv
  obtain ⟨rfl, hsz, hP, hK, hD0, hN⟩ := hv
  have hx := B.exec
  have hb := B.bytes
  have hr := B.returns
  have hts := fun (w : Cond) (h : w ∈ WALL) => atoms_spec (ws := wqX1_extend) B.pre w (List.mem_cons_of_mem _ h)
  have hown : s.vm.findClass RX1 = some m.cls := findClass_of_methodNamed B.named
  have hlocks := B.notSynchronized
  subst hsz
  have hD := hD0.self (sz := s.heap.size)
  generalize hAe : va_A (va_pl L f) s.heap.size = A at hD ⊢
  have hA : ∀ q : Nat, s.heap.size ≤ q → A q := fun q h => by rw [← hAe]; exact Or.inr h
  have hS : va_S A s.heap s.heap [] := va_S.rf
  have hR : tp_F τ [2, 20, 21] f f := tp_F.rf
  have hl := lv_entry ([.ref h0, .int v, .int dd, .int u, .int a, .int b, .long x, .int a6]) (n := 14) (Nat.le_of_ble_eq_true rfl)
  rw [lg_entry_eq]
  generalize (lg_sl ([.ref h0, .int v, .int dd, .int u, .int a, .int b, .long x, .int a6]) ++ List.replicate (14 - (lg_sl ([.ref h0, .int v, .int dd, .int u, .int a, .int b, .long x, .int a6])).length) Slot.unset).toArray = ls at hl ⊢
  have hl : lv_has ls 14 [(0, .ref h0), (1, .int v), (2, .int dd), (3, .int u), (4, .int a), (5, .int b), (6, .long x), (8, .int a6)] := hl
  refine lv_iload_n hx hb dX1_extend_0 rfl (lv_at hl 2 rfl) ?_
  refine lv_bipush (v := 6) hx hb dX1_extend_1 (by decide) ?_
  refine lv_icmp_lt (tgt := 7) hx hb dX1_extend_3 (by decide) (fun c1 => ?_) (fun c1 => ?_)
  · have ic1 : dd.toInt < 6 := zi_lt rfl rfl c1
    refine lv_iconst (v := 0) hx hb dX1_extend_7 (by decide) ?_
    refine lv_istore (lv' := [(9, .int 0), (0, .ref h0), (1, .int v), (2, .int dd), (3, .int u), (4, .int a), (5, .int b), (6, .long x), (8, .int a6)]) hx hb dX1_extend_8 hl (by decide) rfl (fun ls hl => ?_)
    refine pz_loop (fun n0 H locs ls => ∃ f3 : Nat → va_E, ∃ w2 : Int32, n0 = (6 - (w2.toInt)).toNat ∧ tp_T Ω κ τ ν ρ f3 ∧ tp_F τ [2, 20, 21] f f3 ∧ (0 ≤ w2.toInt ∧ w2.toInt ≤ 6) ∧ va_P (dC, dI) vwCl (va_pl L f3) H ∧ va_D A (va_pl L f3) ∧ va_S A s.heap H locs ∧ lv_has ls 14 [(9, .int w2), (0, .ref h0), (1, .int v), (2, .int dd), (3, .int u), (4, .int a), (5, .int b), (6, .long x), (8, .int a6)]) ?_ _ _ _ _ ⟨f, 0, rfl, hT, hR, (by have : (0 : Int32).toInt = 0 := rfl; omega), hP, hD, hS, lv_sub hl [0, 1, 2, 3, 4, 5, 6, 7, 8] rfl⟩
    intro n0 H locs ls hI ih4
    refine Exists.elim hI (fun f3 hE90 => Exists.elim hE90 (fun w2 hE91 => tn_8 hE91 (fun hn5 hT hR rw2 hP hD hS hl => ?_)))
    clear hE91 hE90 hI
    refine lv_iload hx hb dX1_extend_10 (lv_at hl 0 rfl) ?_
    refine lv_aload_n hx hb dX1_extend_12 rfl (lv_at hl 1 rfl) ?_
    refine tgk_2 hG ht_h0 (fun y6 y6l y7 y7n y8 y8n y9 y9n y10 y10n y11 y11n y12 y12n y13 y13n y14 y14n y15 y15n => ?_)
    refine tpk_2 hT ht_h0 (fun o16_x5 o16_x6 o16_x7 o16_x8 o16_x9 hf_o16 ro16_0 => ?_)
    refine tpk_pos (tp_in hG ht_h0 (by decide)) hf_o16 (fun q17 eq17 => ?_)
    refine va_get (D := (dC, dI)) (ci := 1) (v := .ref (ρ h0 0)) (C := RX1) (T := TX1) (N := 15) hx hb hts hfX1 hown hK hP q17 eq17 rfl 0 (by decide) (hts (.fieldLink RX1 40 "ColdShips$Planner" "world" "LColdShips$World;") wa_143) (fun _ h9 => h9) rfl dX1_extend_13 ?_
    refine tgk_11 hG y6 (fun y18 y18n y19 y19n y20 y21 y22 y23 y23m y23l y24 y24m y24l y25 y25m y25l y26 y26w y26m y26l y27 y27w y27m y27l y28 y28w y28m y28l y29 y29w y29m y29l => ?_)
    refine tpk_11 hT y6 (fun o30_x0 o30_x1 o30_x2 o30_x3 o30_x4 o30_x5 o30_x6 hf_o30 ro30_0 ro30_1 ro30_2 ro30_3 => ?_)
    refine tpk_pos (tp_in hG y6 (by decide)) hf_o30 (fun q31 eq31 => ?_)
    refine va_getN (D := (dC, dI)) (ci := 10) (v := .ref (ρ (ρ h0 0) 18)) (C := RX10) (T := TX10) (N := 19) hx hb hts hfX10 hown hK hP q31 eq31 rfl 18 (by decide) (va_Nw.use rfl (hN.1 (.fieldLinkNest RX1 50 "ColdShips$World" "cargoes" "LColdShips$Rows;" "ColdShips") nzw_86)) (fun _ h9 => h9) rfl dX1_extend_16 ?_
    refine tgk_5 hG y29 (fun y32 y32n y33a y33b y33c => ?_)
    refine tpk_5 hT y29 (fun o34_x0 o34_x2 hf_o34 ro34_0 ro34_1 => ?_)
    refine tpk_pos (tp_in hG y29 (by decide)) hf_o34 (fun q35 eq35 => ?_)
    have ro34_1 := tp_hu ro34_1
    refine va_getN (D := (dC, dI)) (ci := 4) (v := .int o34_x2) (C := RX4) (T := TX4) (N := 3) hx hb hts hfX4 hown hK hP q35 eq35 rfl 2 (by decide) (va_Nw.use rfl (hN.1 (.fieldLinkNest RX1 54 "ColdShips$Rows" "size" "I" "ColdShips") nzw_1)) (fun _ h9 => h9) rfl dX1_extend_19 ?_
    refine lv_icmp_ge (tgt := 137) hx hb dX1_extend_22 (by decide) (fun c36 => ?_) (fun c36 => ?_)
    · have ic36 : w2.toInt ≥ o34_x2.toInt := zi_ge rfl rfl c36
      exact W.vret hx hb hr (fun t ht hW => ⟨⟨f3, rfl, ⟨hT, hR, trivial⟩, by rw [ht]; exact hP, va_K.moved hW.alike hK, hD⟩, hS.F ht⟩) hS.2.2 dX1_extend_137
    · have ic36 : w2.toInt < o34_x2.toInt := zi_gef rfl rfl c36
      refine lv_iload hx hb dX1_extend_25 (lv_at hl 0 rfl) ?_
      refine lv_bipush (v := 6) hx hb dX1_extend_27 (by decide) ?_
      refine lv_icmp_ge (tgt := 137) hx hb dX1_extend_29 (by decide) (fun c37 => ?_) (fun c37 => ?_)
      · have ic37 : w2.toInt ≥ 6 := zi_ge rfl rfl c37
        exact W.vret hx hb hr (fun t ht hW => ⟨⟨f3, rfl, ⟨hT, hR, trivial⟩, by rw [ht]; exact hP, va_K.moved hW.alike hK, hD⟩, hS.F ht⟩) hS.2.2 dX1_extend_137
      · have ic37 : w2.toInt < 6 := zi_gef rfl rfl c37
        refine lv_iload_n hx hb dX1_extend_32 rfl (lv_at hl 4 rfl) ?_
        refine lv_iload hx hb dX1_extend_33 (lv_at hl 0 rfl) ?_
        refine lv_ishr hx hb dX1_extend_35 ?_
        refine lv_topi (fun z38 ez38 => ?_)
        refine lv_iconst (v := 1) hx hb dX1_extend_36 (by decide) ?_
        refine lv_iand hx hb dX1_extend_37 ?_
        refine lv_topi (fun z39 ez39 => ?_)
        have iz39 : 0 ≤ z39.toInt ∧ z39.toInt ≤ 1 := zb_mask ez39 (by decide)
        refine lv_if_ne (tgt := 131) hx hb dX1_extend_38 (by decide) (fun c40 => ?_) (fun c40 => ?_)
        · have ic40 : z39.toInt ≠ 0 := zi_ne rfl rfl c40
          obtain ⟨z41, ez41⟩ : ∃ y : Int32, y = w2 + 1 := ⟨_, rfl⟩
          refine lv_iinc (v := z41) (lv' := [(9, .int z41), (0, .ref h0), (1, .int v), (2, .int dd), (3, .int u), (4, .int a), (5, .int b), (6, .long x), (8, .int a6)]) hx hb dX1_extend_131 hl (k := 0) rfl (by rw [ez41]; rfl) (by decide) rfl (fun ls hl => ?_)
          have iz41 : z41.toInt = w2.toInt + 1 := zi_add ez41 rfl rfl (by omega) (by omega)
          refine lv_goto (tgt := 10) hx hb dX1_extend_134 (by decide) ?_
          exact ih4 _ _ _ _ (by rw [hn5]; omega) ⟨f3, z41, rfl, hT, hR, (by omega), hP, hD, hS, lv_sub hl [0, 1, 2, 3, 4, 5, 6, 7, 8] rfl⟩
        · have ic40 : z39.toInt = 0 := zi_nef rfl rfl c40
          refine lv_aload_n hx hb dX1_extend_41 rfl (lv_at hl 1 rfl) ?_
          refine lv_iload_n hx hb dX1_extend_42 rfl (lv_at hl 2 rfl) ?_
          refine lv_iload hx hb dX1_extend_43 (lv_at hl 0 rfl) ?_
          refine lv_iload hx hb dX1_extend_45 (lv_at hl 5 rfl) ?_
          refine lv_iload hx hb dX1_extend_47 (lv_at hl 6 rfl) ?_
          have hFc := tp_fr hD hS hA
          refine va_calli (va_runV (As := [.int v, .int w2, .int a, .int b]) (rest := []) ⟨hx, hb, hml, hown, hts⟩ (t_X1_reckon l dC dI _ Ω κ τ ν ρ L f3 hG hT h0 v w2 a b ht_h0 (by first | decide | omega)) (cwV 4 hts gX1_extend_X1_reckon rfl rfl rfl ⟨rfl, pd_X1_reckon⟩ ⟨Nat.le_of_ble_eq_true rfl, Nat.le_of_ble_eq_true rfl⟩) ⟨pz_blind, va_recv hK hP (ci := 1) (q0 := q17) rfl eq17, pz_pre hP hK hD hN⟩ rfl rfl hl.1 rfl (lv_room (Nat.le_of_ble_eq_true rfl)) dX1_extend_49 ⟨Nat.le_of_ble_eq_true rfl, Nat.le_of_ble_eq_true rfl⟩) hS (fun q _ h => hFc q h) hFc (fun r42 f44 t H1 locs ht hvm hw43 hB hz1 hk1 hS => ?_)
          refine tn_4 hw43 (fun hT hF45 hw43r hw43p => ?_); clear hw43
          have hR := hR.then hF45 (by decide)
          have hP := hB.1; rw [ht] at hP; have hD := tp_ad f44 hD; clear hB hFc hz1 hk1; subst ht; generalize t.heap = H at hP hS ⊢
          refine lv_if_eq (tgt := 131) hx hb dX1_extend_52 (by decide) (fun c46 => ?_) (fun c46 => ?_)
          · have ic46 : r42.toInt = 0 := zi_eq rfl rfl c46
            obtain ⟨z47, ez47⟩ : ∃ y : Int32, y = w2 + 1 := ⟨_, rfl⟩
            refine lv_iinc (v := z47) (lv' := [(9, .int z47), (0, .ref h0), (1, .int v), (2, .int dd), (3, .int u), (4, .int a), (5, .int b), (6, .long x), (8, .int a6)]) hx hb dX1_extend_131 hl (k := 0) rfl (by rw [ez47]; rfl) (by decide) rfl (fun ls hl => ?_)
            have iz47 : z47.toInt = w2.toInt + 1 := zi_add ez47 rfl rfl (by omega) (by omega)
            refine lv_goto (tgt := 10) hx hb dX1_extend_134 (by decide) ?_
            exact ih4 _ _ _ _ (by rw [hn5]; omega) ⟨f44, z47, rfl, hT, hR, (by omega), hP, hD, hS, lv_sub hl [0, 1, 2, 3, 4, 5, 6, 7, 8] rfl⟩
          · have ic46 : r42.toInt ≠ 0 := zi_eqf rfl rfl c46
            refine lv_iload_n hx hb dX1_extend_55 rfl (lv_at hl 4 rfl) ?_
            refine lv_iconst (v := 1) hx hb dX1_extend_56 (by decide) ?_
            refine lv_iload hx hb dX1_extend_57 (lv_at hl 0 rfl) ?_
            refine lv_ishl hx hb dX1_extend_59 ?_
            refine lv_topi (fun z48 ez48 => ?_)
            have iz48 : 1 ≤ z48.toInt ∧ z48.toInt ≤ 32 := zb_shl5 ez48 rfl (by omega) (by omega)
            refine lv_ior hx hb dX1_extend_60 ?_
            refine lv_topi (fun z49 ez49 => ?_)
            refine lv_istore (lv' := [(10, .int z49), (9, .int w2), (0, .ref h0), (1, .int v), (2, .int dd), (3, .int u), (4, .int a), (5, .int b), (6, .long x), (8, .int a6)]) hx hb dX1_extend_61 hl (by decide) rfl (fun ls hl => ?_)
            refine lv_iload hx hb dX1_extend_63 (lv_at hl 9 rfl) ?_
            refine lv_iload_n hx hb dX1_extend_65 rfl (lv_at hl 4 rfl) ?_
            refine lv_iconst (v := 3) hx hb dX1_extend_66 (by decide) ?_
            refine lv_iconst (v := 5) hx hb dX1_extend_67 (by decide) ?_
            refine lv_iload hx hb dX1_extend_68 (lv_at hl 1 rfl) ?_
            refine lv_isub hx hb dX1_extend_70 ?_
            refine lv_topi (fun z50 ez50 => ?_)
            have iz50 : z50.toInt = 5 - w2.toInt := zi_sub ez50 rfl rfl (by omega) (by omega)
            refine lv_imul hx hb dX1_extend_71 ?_
            refine lv_topi (fun z51 ez51 => ?_)
            have iz51 : z51.toInt = 3 * z50.toInt := zi_mul ez51 rfl rfl (by omega) (by omega)
            refine lv_ishl hx hb dX1_extend_72 ?_
            refine lv_topi (fun z52 ez52 => ?_)
            refine lv_ior hx hb dX1_extend_73 ?_
            refine lv_topi (fun z53 ez53 => ?_)
            refine lv_istore (lv' := [(11, .int z53), (10, .int z49), (9, .int w2), (0, .ref h0), (1, .int v), (2, .int dd), (3, .int u), (4, .int a), (5, .int b), (6, .long x), (8, .int a6)]) hx hb dX1_extend_74 hl (by decide) rfl (fun ls hl => ?_)
            refine lv_lload hx hb dX1_extend_76 (lv_at hl 9 rfl) ?_
            refine lv_aload_n hx hb dX1_extend_78 rfl (lv_at hl 3 rfl) ?_
            refine tpk_2 hT ht_h0 (fun o54_x5 o54_x6 o54_x7 o54_x8 o54_x9 hf_o54 ro54_0 => ?_)
            refine tpk_pos (tp_in hG ht_h0 (by decide)) hf_o54 (fun q55 eq55 => ?_)
            refine va_get (D := (dC, dI)) (ci := 1) (v := .long o54_x8) (C := RX1) (T := TX1) (N := 15) hx hb hts hfX1 hown hK hP q55 eq55 rfl 8 (by decide) (hts (.fieldLink RX1 108 "ColdShips$Planner" "worth" "J") wa_1356) (fun _ h9 => h9) rfl dX1_extend_79 ?_
            refine lv_ladd hx hb dX1_extend_82 ?_
            refine lv_topl (fun z56 ez56 => ?_)
            refine lv_lstore (lv' := [(12, .long z56), (11, .int z53), (10, .int z49), (9, .int w2), (0, .ref h0), (1, .int v), (2, .int dd), (3, .int u), (4, .int a), (5, .int b), (6, .long x), (8, .int a6)]) hx hb dX1_extend_83 hl (by decide) rfl (fun ls hl => ?_)
            refine lv_aload_n hx hb dX1_extend_85 rfl (lv_at hl 4 rfl) ?_
            refine lv_iload_n hx hb dX1_extend_86 rfl (lv_at hl 5 rfl) ?_
            refine lv_bipush (v := 64) hx hb dX1_extend_87 (by decide) ?_
            refine lv_imul hx hb dX1_extend_89 ?_
            refine lv_topi (fun z57 ez57 => ?_)
            have iz57 : z57.toInt = v.toInt * 64 := zi_mul ez57 rfl rfl (by omega) (by omega)
            refine lv_iload hx hb dX1_extend_90 (lv_at hl 2 rfl) ?_
            refine lv_iadd hx hb dX1_extend_92 ?_
            refine lv_topi (fun z58 ez58 => ?_)
            refine lv_lload hx hb dX1_extend_93 (lv_at hl 0 rfl) ?_
            refine lv_iload hx hb dX1_extend_95 (lv_at hl 1 rfl) ?_
            have hFc := tp_fr hD hS hA
            refine va_callv (va_runV (As := [.int z58, .long z56, .int z53]) (rest := []) ⟨hx, hb, hml, hown, hts⟩ (t_X1_keepRow l dC dI _ Ω κ τ ν ρ L f44 hG hT h0 z58 z56 z53 ht_h0) (cwV 3 hts gX1_extend_X1_keepRow rfl rfl rfl ⟨rfl, pd_X1_keepRow⟩ ⟨Nat.le_of_ble_eq_true rfl, Nat.le_of_ble_eq_true rfl⟩) ⟨pz_blind, va_recv hK hP (ci := 1) (q0 := q55) rfl eq55, pz_pre hP hK hD hN⟩ rfl rfl hl.1 rfl (lv_room (Nat.le_of_ble_eq_true rfl)) dX1_extend_97 ⟨Nat.le_of_ble_eq_true rfl, Nat.le_of_ble_eq_true rfl⟩) hS (fun q _ h => hFc q h) hFc (fun f61 t H1 locs ht hvm hw60 hB hz1 hk1 hS => ?_)
            refine tn_3 hw60 (fun hT hF62 hw60p => ?_); clear hw60
            have hR := hR.then hF62 (by decide)
            have hP := hB.1; rw [ht] at hP; have hD := tp_ad f61 hD; clear hB hFc hz1 hk1; subst ht; generalize t.heap = H at hP hS ⊢
            refine lv_aload_n hx hb dX1_extend_100 rfl (lv_at hl 4 rfl) ?_
            refine lv_iload_n hx hb dX1_extend_101 rfl (lv_at hl 5 rfl) ?_
            refine lv_iload_n hx hb dX1_extend_102 rfl (lv_at hl 6 rfl) ?_
            refine lv_iconst (v := 1) hx hb dX1_extend_103 (by decide) ?_
            refine lv_iadd hx hb dX1_extend_104 ?_
            refine lv_topi (fun z63 ez63 => ?_)
            have iz63 : z63.toInt = dd.toInt + 1 := zi_add ez63 rfl rfl (by omega) (by omega)
            refine lv_iload hx hb dX1_extend_105 (lv_at hl 2 rfl) ?_
            refine lv_aload_n hx hb dX1_extend_107 rfl (lv_at hl 4 rfl) ?_
            have hf_64 : f61 h0 = .inr (1, [.ref (ρ h0 0), .ref (ρ h0 1), .ref (ρ h0 2), .ref (ρ h0 3), .ref (ρ h0 4), .int o54_x5, .int o54_x6, .int o54_x7, .long o54_x8, .int o54_x9, .ref (ρ h0 10), .ref (ρ h0 11), .ref (ρ h0 12), .ref (ρ h0 13), .ref (ρ h0 14)]) := (hF62 _ (by rw [ht_h0]; decide)).trans hf_o54
            refine tpk_pos (tp_in hG ht_h0 (by decide)) hf_64 (fun q65 eq65 => ?_)
            refine va_get (D := (dC, dI)) (ci := 1) (v := .ref (ρ h0 0)) (C := RX1) (T := TX1) (N := 15) hx hb hts hfX1 hown hK hP q65 eq65 rfl 0 (by decide) (hts (.fieldLink RX1 40 "ColdShips$Planner" "world" "LColdShips$World;") wa_143) (fun _ h9 => h9) rfl dX1_extend_108 ?_
            have hf_66 : f44 (ρ h0 0) = .inr (10, [.int o30_x0, .int o30_x1, .int o30_x2, .int o30_x3, .int o30_x4, .int o30_x5, .int o30_x6, .ref (ρ (ρ h0 0) 7), .ref (ρ (ρ h0 0) 8), .ref (ρ (ρ h0 0) 9), .ref (ρ (ρ h0 0) 10), .ref (ρ (ρ h0 0) 11), .ref (ρ (ρ h0 0) 12), .ref (ρ (ρ h0 0) 13), .ref (ρ (ρ h0 0) 14), .ref (ρ (ρ h0 0) 15), .ref (ρ (ρ h0 0) 16), .ref (ρ (ρ h0 0) 17), .ref (ρ (ρ h0 0) 18)]) := (hF45 _ (by rw [tp_iu y6]; decide)).trans hf_o30
            have hf_67 : f61 (ρ h0 0) = .inr (10, [.int o30_x0, .int o30_x1, .int o30_x2, .int o30_x3, .int o30_x4, .int o30_x5, .int o30_x6, .ref (ρ (ρ h0 0) 7), .ref (ρ (ρ h0 0) 8), .ref (ρ (ρ h0 0) 9), .ref (ρ (ρ h0 0) 10), .ref (ρ (ρ h0 0) 11), .ref (ρ (ρ h0 0) 12), .ref (ρ (ρ h0 0) 13), .ref (ρ (ρ h0 0) 14), .ref (ρ (ρ h0 0) 15), .ref (ρ (ρ h0 0) 16), .ref (ρ (ρ h0 0) 17), .ref (ρ (ρ h0 0) 18)]) := (hF62 _ (by rw [tp_iu y6]; decide)).trans hf_66
            refine tpk_pos (tp_in hG y6 (by decide)) hf_67 (fun q68 eq68 => ?_)
            refine va_getN (D := (dC, dI)) (ci := 10) (v := .ref (ρ (ρ h0 0) 18)) (C := RX10) (T := TX10) (N := 19) hx hb hts hfX10 hown hK hP q68 eq68 rfl 18 (by decide) (va_Nw.use rfl (hN.1 (.fieldLinkNest RX1 50 "ColdShips$World" "cargoes" "LColdShips$Rows;" "ColdShips") nzw_86)) (fun _ h9 => h9) rfl dX1_extend_111 ?_
            refine lv_iload hx hb dX1_extend_114 (lv_at hl 3 rfl) ?_
            refine lv_iconst (v := 1) hx hb dX1_extend_116 (by decide) ?_
            have hf_69 : f44 (ρ (ρ h0 0) 18) = .inr (4, [.int o34_x0, .ref (ρ (ρ (ρ h0 0) 18) 1), .int o34_x2]) := (hF45 _ (by rw [tp_iu y29]; decide)).trans hf_o34
            have hf_70 : f61 (ρ (ρ h0 0) 18) = .inr (4, [.int o34_x0, .ref (ρ (ρ (ρ h0 0) 18) 1), .int o34_x2]) := (hF62 _ (by rw [tp_iu y29]; decide)).trans hf_69
            refine tpk_pos (tp_in hG y29 (by decide)) hf_70 (fun q71 eq71 => ?_)
            refine pz_calli (va_runV (As := [.int w2, .int 1]) (rest := [.int z49, .int z63, .int v, .ref h0]) ⟨hx, hb, hml, hown, hts⟩ (t_X4_number l dC dI _ Ω κ τ ν ρ L f61 hG hT (ρ (ρ h0 0) 18) w2 (1) y29) (cwV 2 hts gX1_extend_X4_number rfl rfl rfl ⟨rfl, pd_X4_number⟩ ⟨Nat.le_of_ble_eq_true rfl, Nat.le_of_ble_eq_true rfl⟩) ⟨pz_blind, va_recv hK hP (ci := 4) (q0 := q71) rfl eq71, pz_pre hP hK hD hN⟩ rfl rfl hl.1 rfl (lv_room (Nat.le_of_ble_eq_true rfl)) dX1_extend_117 ⟨Nat.le_of_ble_eq_true rfl, Nat.le_of_ble_eq_true rfl⟩) (fun r72 hw73 => ?_)
            obtain ⟨hw73r, hw73p⟩ := hw73
            refine lv_aload_n hx hb dX1_extend_120 rfl (lv_at hl 4 rfl) ?_
            refine va_get (D := (dC, dI)) (ci := 1) (v := .int o54_x7) (C := RX1) (T := TX1) (N := 15) hx hb hts hfX1 hown hK hP q65 eq65 rfl 7 (by decide) (hts (.fieldLink RX1 119 "ColdShips$Planner" "freeAt" "I") wa_1357) (fun _ h9 => h9) rfl dX1_extend_121 ?_
            refine lv_lload hx hb dX1_extend_124 (lv_at hl 0 rfl) ?_
            refine lv_iload hx hb dX1_extend_126 (lv_at hl 1 rfl) ?_
            have hFc := tp_fr hD hS hA
            refine va_callv (va_runV (As := [.int v, .int z63, .int z49, .int r72, .int o54_x7, .long z56, .int z53]) (rest := []) ⟨hx, hb, hml, hown, hts⟩ (t_X1_extend5 l dC dI _ Ω κ τ ν ρ L f61 hG hT h0 v z63 z49 r72 o54_x7 z56 z53 ht_h0 (by first | decide | omega) (by first | decide | omega)) (cwV 7 hts gX1_extend_X1_extend rfl rfl rfl ⟨rfl, pd_X1_extend⟩ ⟨Nat.le_of_ble_eq_true rfl, Nat.le_of_ble_eq_true rfl⟩) ⟨pz_blind, va_recv hK hP (ci := 1) (q0 := q65) rfl eq65, pz_pre hP hK hD hN⟩ rfl rfl hl.1 rfl (lv_room (Nat.le_of_ble_eq_true rfl)) dX1_extend_128 ⟨Nat.le_of_ble_eq_true rfl, Nat.le_of_ble_eq_true rfl⟩) hS (fun q _ h => hFc q h) hFc (fun f76 t H1 locs ht hvm hw75 hB hz1 hk1 hS => ?_)
            refine tn_3 hw75 (fun hT hF77 hw75p => ?_); clear hw75
            have hR := hR.then hF77 (by decide)
            have hP := hB.1; rw [ht] at hP; have hD := tp_ad f76 hD; clear hB hFc hz1 hk1; subst ht; generalize t.heap = H at hP hS ⊢
            obtain ⟨z78, ez78⟩ : ∃ y : Int32, y = w2 + 1 := ⟨_, rfl⟩
            refine lv_iinc (v := z78) (lv' := [(9, .int z78), (12, .long z56), (11, .int z53), (10, .int z49), (0, .ref h0), (1, .int v), (2, .int dd), (3, .int u), (4, .int a), (5, .int b), (6, .long x), (8, .int a6)]) hx hb dX1_extend_131 hl (k := 3) rfl (by rw [ez78]; rfl) (by decide) rfl (fun ls hl => ?_)
            have iz78 : z78.toInt = w2.toInt + 1 := zi_add ez78 rfl rfl (by omega) (by omega)
            refine lv_goto (tgt := 10) hx hb dX1_extend_134 (by decide) ?_
            exact ih4 _ _ _ _ (by rw [hn5]; omega) ⟨f76, z78, rfl, hT, hR, (by omega), hP, hD, hS, lv_sub hl [0, 4, 5, 6, 7, 8, 9, 10, 11] rfl⟩
  · have ic1 : dd.toInt ≥ 6 := zi_ltf rfl rfl c1
    exfalso; omega
set_option maxHeartbeats 4000000 in
set_option maxRecDepth 100000 in
theorem t_X1_extend3 (l : Launch) (dC : Nat → ClassId) (dI : Nat → Nat → Nat) (sz : Nat) (Ω : Nat → Nat → (Nat → Nat) → va_E → Prop) (κ : Nat → ClassId) (τ ν : Nat → Nat) (ρ : Nat → Nat → Nat) (L : List Nat) (f : Nat → va_E) (hG : tp_G τ ν ρ L) (hT : tp_T Ω κ τ ν ρ f) (h0 : Nat) (v : Int32) (dd : Int32) (u : Int32) (a : Int32) (b : Int32) (x : Int64) (a6 : Int32) (ht_h0 : τ h0 = 2) (hr_v : 0 ≤ v.toInt ∧ v.toInt ≤ 2) (hr_dd : 3 ≤ dd.toInt ∧ dd.toInt ≤ 3) : Met l yX1_extend wqX1_extend ({ frames := 7, cells := 0, slots := 0, locals := 2400 }) (va_Pc [.ref h0, .int v, .int dd, .int u, .int a, .int b, .long x, .int a6] (pz_B dC dI (tp_K κ) (va_pl L f) sz)) (va_Qv (fun (f1 : Nat → va_E) => tp_T Ω κ τ ν ρ f1 ∧ tp_F τ [2, 20, 21] f f1 ∧ True) (fun (f1 : Nat → va_E) (t : State) => pz_E dC dI (tp_K κ) (va_A (va_pl L f) sz) (va_pl L f1) t) (va_A (va_pl L f) sz)) 0 0 (va_A (va_pl L f) sz) := by
  refine Met.ofW (cc := cX1_extend) (maxL := 14) (ret := none) (by decide) rfl ?_
  intro p e s m args below meth c s₁ B hml hv
  obtain ⟨rfl, hsz, hP, hK, hD0, hN⟩ := hv
  have hx := B.exec
  have hb := B.bytes
  have hr := B.returns
  have hts := fun (w : Cond) (h : w ∈ WALL) => atoms_spec (ws := wqX1_extend) B.pre w (List.mem_cons_of_mem _ h)
  have hown : s.vm.findClass RX1 = some m.cls := findClass_of_methodNamed B.named
  have hlocks := B.notSynchronized
  subst hsz
  have hD := hD0.self (sz := s.heap.size)
  generalize hAe : va_A (va_pl L f) s.heap.size = A at hD ⊢
  have hA : ∀ q : Nat, s.heap.size ≤ q → A q := fun q h => by rw [← hAe]; exact Or.inr h
  have hS : va_S A s.heap s.heap [] := va_S.rf
  have hR : tp_F τ [2, 20, 21] f f := tp_F.rf
  have hl := lv_entry ([.ref h0, .int v, .int dd, .int u, .int a, .int b, .long x, .int a6]) (n := 14) (Nat.le_of_ble_eq_true rfl)
  rw [lg_entry_eq]
  generalize (lg_sl ([.ref h0, .int v, .int dd, .int u, .int a, .int b, .long x, .int a6]) ++ List.replicate (14 - (lg_sl ([.ref h0, .int v, .int dd, .int u, .int a, .int b, .long x, .int a6])).length) Slot.unset).toArray = ls at hl ⊢
  have hl : lv_has ls 14 [(0, .ref h0), (1, .int v), (2, .int dd), (3, .int u), (4, .int a), (5, .int b), (6, .long x), (8, .int a6)] := hl
  refine lv_iload_n hx hb dX1_extend_0 rfl (lv_at hl 2 rfl) ?_
  refine lv_bipush (v := 6) hx hb dX1_extend_1 (by decide) ?_
  refine lv_icmp_lt (tgt := 7) hx hb dX1_extend_3 (by decide) (fun c1 => ?_) (fun c1 => ?_)
  · have ic1 : dd.toInt < 6 := zi_lt rfl rfl c1
    refine lv_iconst (v := 0) hx hb dX1_extend_7 (by decide) ?_
    refine lv_istore (lv' := [(9, .int 0), (0, .ref h0), (1, .int v), (2, .int dd), (3, .int u), (4, .int a), (5, .int b), (6, .long x), (8, .int a6)]) hx hb dX1_extend_8 hl (by decide) rfl (fun ls hl => ?_)
    refine pz_loop (fun n0 H locs ls => ∃ f3 : Nat → va_E, ∃ w2 : Int32, n0 = (6 - (w2.toInt)).toNat ∧ tp_T Ω κ τ ν ρ f3 ∧ tp_F τ [2, 20, 21] f f3 ∧ (0 ≤ w2.toInt ∧ w2.toInt ≤ 6) ∧ va_P (dC, dI) vwCl (va_pl L f3) H ∧ va_D A (va_pl L f3) ∧ va_S A s.heap H locs ∧ lv_has ls 14 [(9, .int w2), (0, .ref h0), (1, .int v), (2, .int dd), (3, .int u), (4, .int a), (5, .int b), (6, .long x), (8, .int a6)]) ?_ _ _ _ _ ⟨f, 0, rfl, hT, hR, (by have : (0 : Int32).toInt = 0 := rfl; omega), hP, hD, hS, lv_sub hl [0, 1, 2, 3, 4, 5, 6, 7, 8] rfl⟩
    intro n0 H locs ls hI ih4
    refine Exists.elim hI (fun f3 hE90 => Exists.elim hE90 (fun w2 hE91 => tn_8 hE91 (fun hn5 hT hR rw2 hP hD hS hl => ?_)))
    clear hE91 hE90 hI
    refine lv_iload hx hb dX1_extend_10 (lv_at hl 0 rfl) ?_
    refine lv_aload_n hx hb dX1_extend_12 rfl (lv_at hl 1 rfl) ?_
    refine tgk_2 hG ht_h0 (fun y6 y6l y7 y7n y8 y8n y9 y9n y10 y10n y11 y11n y12 y12n y13 y13n y14 y14n y15 y15n => ?_)
    refine tpk_2 hT ht_h0 (fun o16_x5 o16_x6 o16_x7 o16_x8 o16_x9 hf_o16 ro16_0 => ?_)
    refine tpk_pos (tp_in hG ht_h0 (by decide)) hf_o16 (fun q17 eq17 => ?_)
    refine va_get (D := (dC, dI)) (ci := 1) (v := .ref (ρ h0 0)) (C := RX1) (T := TX1) (N := 15) hx hb hts hfX1 hown hK hP q17 eq17 rfl 0 (by decide) (hts (.fieldLink RX1 40 "ColdShips$Planner" "world" "LColdShips$World;") wa_143) (fun _ h9 => h9) rfl dX1_extend_13 ?_
    refine tgk_11 hG y6 (fun y18 y18n y19 y19n y20 y21 y22 y23 y23m y23l y24 y24m y24l y25 y25m y25l y26 y26w y26m y26l y27 y27w y27m y27l y28 y28w y28m y28l y29 y29w y29m y29l => ?_)
    refine tpk_11 hT y6 (fun o30_x0 o30_x1 o30_x2 o30_x3 o30_x4 o30_x5 o30_x6 hf_o30 ro30_0 ro30_1 ro30_2 ro30_3 => ?_)
    refine tpk_pos (tp_in hG y6 (by decide)) hf_o30 (fun q31 eq31 => ?_)
    refine va_getN (D := (dC, dI)) (ci := 10) (v := .ref (ρ (ρ h0 0) 18)) (C := RX10) (T := TX10) (N := 19) hx hb hts hfX10 hown hK hP q31 eq31 rfl 18 (by decide) (va_Nw.use rfl (hN.1 (.fieldLinkNest RX1 50 "ColdShips$World" "cargoes" "LColdShips$Rows;" "ColdShips") nzw_86)) (fun _ h9 => h9) rfl dX1_extend_16 ?_
    refine tgk_5 hG y29 (fun y32 y32n y33a y33b y33c => ?_)
    refine tpk_5 hT y29 (fun o34_x0 o34_x2 hf_o34 ro34_0 ro34_1 => ?_)
    refine tpk_pos (tp_in hG y29 (by decide)) hf_o34 (fun q35 eq35 => ?_)
    have ro34_1 := tp_hu ro34_1
    refine va_getN (D := (dC, dI)) (ci := 4) (v := .int o34_x2) (C := RX4) (T := TX4) (N := 3) hx hb hts hfX4 hown hK hP q35 eq35 rfl 2 (by decide) (va_Nw.use rfl (hN.1 (.fieldLinkNest RX1 54 "ColdShips$Rows" "size" "I" "ColdShips") nzw_1)) (fun _ h9 => h9) rfl dX1_extend_19 ?_
    refine lv_icmp_ge (tgt := 137) hx hb dX1_extend_22 (by decide) (fun c36 => ?_) (fun c36 => ?_)
    · have ic36 : w2.toInt ≥ o34_x2.toInt := zi_ge rfl rfl c36
      exact W.vret hx hb hr (fun t ht hW => ⟨⟨f3, rfl, ⟨hT, hR, trivial⟩, by rw [ht]; exact hP, va_K.moved hW.alike hK, hD⟩, hS.F ht⟩) hS.2.2 dX1_extend_137
    · have ic36 : w2.toInt < o34_x2.toInt := zi_gef rfl rfl c36
      refine lv_iload hx hb dX1_extend_25 (lv_at hl 0 rfl) ?_
      refine lv_bipush (v := 6) hx hb dX1_extend_27 (by decide) ?_
      refine lv_icmp_ge (tgt := 137) hx hb dX1_extend_29 (by decide) (fun c37 => ?_) (fun c37 => ?_)
      · have ic37 : w2.toInt ≥ 6 := zi_ge rfl rfl c37
        exact W.vret hx hb hr (fun t ht hW => ⟨⟨f3, rfl, ⟨hT, hR, trivial⟩, by rw [ht]; exact hP, va_K.moved hW.alike hK, hD⟩, hS.F ht⟩) hS.2.2 dX1_extend_137
      · have ic37 : w2.toInt < 6 := zi_gef rfl rfl c37
        refine lv_iload_n hx hb dX1_extend_32 rfl (lv_at hl 4 rfl) ?_
        refine lv_iload hx hb dX1_extend_33 (lv_at hl 0 rfl) ?_
        refine lv_ishr hx hb dX1_extend_35 ?_
        refine lv_topi (fun z38 ez38 => ?_)
        refine lv_iconst (v := 1) hx hb dX1_extend_36 (by decide) ?_
        refine lv_iand hx hb dX1_extend_37 ?_
        refine lv_topi (fun z39 ez39 => ?_)
        have iz39 : 0 ≤ z39.toInt ∧ z39.toInt ≤ 1 := zb_mask ez39 (by decide)
        refine lv_if_ne (tgt := 131) hx hb dX1_extend_38 (by decide) (fun c40 => ?_) (fun c40 => ?_)
        · have ic40 : z39.toInt ≠ 0 := zi_ne rfl rfl c40
          obtain ⟨z41, ez41⟩ : ∃ y : Int32, y = w2 + 1 := ⟨_, rfl⟩
          refine lv_iinc (v := z41) (lv' := [(9, .int z41), (0, .ref h0), (1, .int v), (2, .int dd), (3, .int u), (4, .int a), (5, .int b), (6, .long x), (8, .int a6)]) hx hb dX1_extend_131 hl (k := 0) rfl (by rw [ez41]; rfl) (by decide) rfl (fun ls hl => ?_)
          have iz41 : z41.toInt = w2.toInt + 1 := zi_add ez41 rfl rfl (by omega) (by omega)
          refine lv_goto (tgt := 10) hx hb dX1_extend_134 (by decide) ?_
          exact ih4 _ _ _ _ (by rw [hn5]; omega) ⟨f3, z41, rfl, hT, hR, (by omega), hP, hD, hS, lv_sub hl [0, 1, 2, 3, 4, 5, 6, 7, 8] rfl⟩
        · have ic40 : z39.toInt = 0 := zi_nef rfl rfl c40
          refine lv_aload_n hx hb dX1_extend_41 rfl (lv_at hl 1 rfl) ?_
          refine lv_iload_n hx hb dX1_extend_42 rfl (lv_at hl 2 rfl) ?_
          refine lv_iload hx hb dX1_extend_43 (lv_at hl 0 rfl) ?_
          refine lv_iload hx hb dX1_extend_45 (lv_at hl 5 rfl) ?_
          refine lv_iload hx hb dX1_extend_47 (lv_at hl 6 rfl) ?_
          have hFc := tp_fr hD hS hA
          refine va_calli (va_runV (As := [.int v, .int w2, .int a, .int b]) (rest := []) ⟨hx, hb, hml, hown, hts⟩ (t_X1_reckon l dC dI _ Ω κ τ ν ρ L f3 hG hT h0 v w2 a b ht_h0 (by first | decide | omega)) (cwV 4 hts gX1_extend_X1_reckon rfl rfl rfl ⟨rfl, pd_X1_reckon⟩ ⟨Nat.le_of_ble_eq_true rfl, Nat.le_of_ble_eq_true rfl⟩) ⟨pz_blind, va_recv hK hP (ci := 1) (q0 := q17) rfl eq17, pz_pre hP hK hD hN⟩ rfl rfl hl.1 rfl (lv_room (Nat.le_of_ble_eq_true rfl)) dX1_extend_49 ⟨Nat.le_of_ble_eq_true rfl, Nat.le_of_ble_eq_true rfl⟩) hS (fun q _ h => hFc q h) hFc (fun r42 f44 t H1 locs ht hvm hw43 hB hz1 hk1 hS => ?_)
          refine tn_4 hw43 (fun hT hF45 hw43r hw43p => ?_); clear hw43
          have hR := hR.then hF45 (by decide)
          have hP := hB.1; rw [ht] at hP; have hD := tp_ad f44 hD; clear hB hFc hz1 hk1; subst ht; generalize t.heap = H at hP hS ⊢
          refine lv_if_eq (tgt := 131) hx hb dX1_extend_52 (by decide) (fun c46 => ?_) (fun c46 => ?_)
          · have ic46 : r42.toInt = 0 := zi_eq rfl rfl c46
            obtain ⟨z47, ez47⟩ : ∃ y : Int32, y = w2 + 1 := ⟨_, rfl⟩
            refine lv_iinc (v := z47) (lv' := [(9, .int z47), (0, .ref h0), (1, .int v), (2, .int dd), (3, .int u), (4, .int a), (5, .int b), (6, .long x), (8, .int a6)]) hx hb dX1_extend_131 hl (k := 0) rfl (by rw [ez47]; rfl) (by decide) rfl (fun ls hl => ?_)
            have iz47 : z47.toInt = w2.toInt + 1 := zi_add ez47 rfl rfl (by omega) (by omega)
            refine lv_goto (tgt := 10) hx hb dX1_extend_134 (by decide) ?_
            exact ih4 _ _ _ _ (by rw [hn5]; omega) ⟨f44, z47, rfl, hT, hR, (by omega), hP, hD, hS, lv_sub hl [0, 1, 2, 3, 4, 5, 6, 7, 8] rfl⟩
          · have ic46 : r42.toInt ≠ 0 := zi_eqf rfl rfl c46
            refine lv_iload_n hx hb dX1_extend_55 rfl (lv_at hl 4 rfl) ?_
            refine lv_iconst (v := 1) hx hb dX1_extend_56 (by decide) ?_
            refine lv_iload hx hb dX1_extend_57 (lv_at hl 0 rfl) ?_
            refine lv_ishl hx hb dX1_extend_59 ?_
            refine lv_topi (fun z48 ez48 => ?_)
            have iz48 : 1 ≤ z48.toInt ∧ z48.toInt ≤ 32 := zb_shl5 ez48 rfl (by omega) (by omega)
            refine lv_ior hx hb dX1_extend_60 ?_
            refine lv_topi (fun z49 ez49 => ?_)
            refine lv_istore (lv' := [(10, .int z49), (9, .int w2), (0, .ref h0), (1, .int v), (2, .int dd), (3, .int u), (4, .int a), (5, .int b), (6, .long x), (8, .int a6)]) hx hb dX1_extend_61 hl (by decide) rfl (fun ls hl => ?_)
            refine lv_iload hx hb dX1_extend_63 (lv_at hl 9 rfl) ?_
            refine lv_iload_n hx hb dX1_extend_65 rfl (lv_at hl 4 rfl) ?_
            refine lv_iconst (v := 3) hx hb dX1_extend_66 (by decide) ?_
            refine lv_iconst (v := 5) hx hb dX1_extend_67 (by decide) ?_
            refine lv_iload hx hb dX1_extend_68 (lv_at hl 1 rfl) ?_
            refine lv_isub hx hb dX1_extend_70 ?_
            refine lv_topi (fun z50 ez50 => ?_)
            have iz50 : z50.toInt = 5 - w2.toInt := zi_sub ez50 rfl rfl (by omega) (by omega)
            refine lv_imul hx hb dX1_extend_71 ?_
            refine lv_topi (fun z51 ez51 => ?_)
            have iz51 : z51.toInt = 3 * z50.toInt := zi_mul ez51 rfl rfl (by omega) (by omega)
            refine lv_ishl hx hb dX1_extend_72 ?_
            refine lv_topi (fun z52 ez52 => ?_)
            refine lv_ior hx hb dX1_extend_73 ?_
            refine lv_topi (fun z53 ez53 => ?_)
            refine lv_istore (lv' := [(11, .int z53), (10, .int z49), (9, .int w2), (0, .ref h0), (1, .int v), (2, .int dd), (3, .int u), (4, .int a), (5, .int b), (6, .long x), (8, .int a6)]) hx hb dX1_extend_74 hl (by decide) rfl (fun ls hl => ?_)
            refine lv_lload hx hb dX1_extend_76 (lv_at hl 9 rfl) ?_
            refine lv_aload_n hx hb dX1_extend_78 rfl (lv_at hl 3 rfl) ?_
            refine tpk_2 hT ht_h0 (fun o54_x5 o54_x6 o54_x7 o54_x8 o54_x9 hf_o54 ro54_0 => ?_)
            refine tpk_pos (tp_in hG ht_h0 (by decide)) hf_o54 (fun q55 eq55 => ?_)
            refine va_get (D := (dC, dI)) (ci := 1) (v := .long o54_x8) (C := RX1) (T := TX1) (N := 15) hx hb hts hfX1 hown hK hP q55 eq55 rfl 8 (by decide) (hts (.fieldLink RX1 108 "ColdShips$Planner" "worth" "J") wa_1356) (fun _ h9 => h9) rfl dX1_extend_79 ?_
            refine lv_ladd hx hb dX1_extend_82 ?_
            refine lv_topl (fun z56 ez56 => ?_)
            refine lv_lstore (lv' := [(12, .long z56), (11, .int z53), (10, .int z49), (9, .int w2), (0, .ref h0), (1, .int v), (2, .int dd), (3, .int u), (4, .int a), (5, .int b), (6, .long x), (8, .int a6)]) hx hb dX1_extend_83 hl (by decide) rfl (fun ls hl => ?_)
            refine lv_aload_n hx hb dX1_extend_85 rfl (lv_at hl 4 rfl) ?_
            refine lv_iload_n hx hb dX1_extend_86 rfl (lv_at hl 5 rfl) ?_
            refine lv_bipush (v := 64) hx hb dX1_extend_87 (by decide) ?_
            refine lv_imul hx hb dX1_extend_89 ?_
            refine lv_topi (fun z57 ez57 => ?_)
            have iz57 : z57.toInt = v.toInt * 64 := zi_mul ez57 rfl rfl (by omega) (by omega)
            refine lv_iload hx hb dX1_extend_90 (lv_at hl 2 rfl) ?_
            refine lv_iadd hx hb dX1_extend_92 ?_
            refine lv_topi (fun z58 ez58 => ?_)
            refine lv_lload hx hb dX1_extend_93 (lv_at hl 0 rfl) ?_
            refine lv_iload hx hb dX1_extend_95 (lv_at hl 1 rfl) ?_
            have hFc := tp_fr hD hS hA
            refine va_callv (va_runV (As := [.int z58, .long z56, .int z53]) (rest := []) ⟨hx, hb, hml, hown, hts⟩ (t_X1_keepRow l dC dI _ Ω κ τ ν ρ L f44 hG hT h0 z58 z56 z53 ht_h0) (cwV 3 hts gX1_extend_X1_keepRow rfl rfl rfl ⟨rfl, pd_X1_keepRow⟩ ⟨Nat.le_of_ble_eq_true rfl, Nat.le_of_ble_eq_true rfl⟩) ⟨pz_blind, va_recv hK hP (ci := 1) (q0 := q55) rfl eq55, pz_pre hP hK hD hN⟩ rfl rfl hl.1 rfl (lv_room (Nat.le_of_ble_eq_true rfl)) dX1_extend_97 ⟨Nat.le_of_ble_eq_true rfl, Nat.le_of_ble_eq_true rfl⟩) hS (fun q _ h => hFc q h) hFc (fun f61 t H1 locs ht hvm hw60 hB hz1 hk1 hS => ?_)
            refine tn_3 hw60 (fun hT hF62 hw60p => ?_); clear hw60
            have hR := hR.then hF62 (by decide)
            have hP := hB.1; rw [ht] at hP; have hD := tp_ad f61 hD; clear hB hFc hz1 hk1; subst ht; generalize t.heap = H at hP hS ⊢
            refine lv_aload_n hx hb dX1_extend_100 rfl (lv_at hl 4 rfl) ?_
            refine lv_iload_n hx hb dX1_extend_101 rfl (lv_at hl 5 rfl) ?_
            refine lv_iload_n hx hb dX1_extend_102 rfl (lv_at hl 6 rfl) ?_
            refine lv_iconst (v := 1) hx hb dX1_extend_103 (by decide) ?_
            refine lv_iadd hx hb dX1_extend_104 ?_
            refine lv_topi (fun z63 ez63 => ?_)
            have iz63 : z63.toInt = dd.toInt + 1 := zi_add ez63 rfl rfl (by omega) (by omega)
            refine lv_iload hx hb dX1_extend_105 (lv_at hl 2 rfl) ?_
            refine lv_aload_n hx hb dX1_extend_107 rfl (lv_at hl 4 rfl) ?_
            have hf_64 : f61 h0 = .inr (1, [.ref (ρ h0 0), .ref (ρ h0 1), .ref (ρ h0 2), .ref (ρ h0 3), .ref (ρ h0 4), .int o54_x5, .int o54_x6, .int o54_x7, .long o54_x8, .int o54_x9, .ref (ρ h0 10), .ref (ρ h0 11), .ref (ρ h0 12), .ref (ρ h0 13), .ref (ρ h0 14)]) := (hF62 _ (by rw [ht_h0]; decide)).trans hf_o54
            refine tpk_pos (tp_in hG ht_h0 (by decide)) hf_64 (fun q65 eq65 => ?_)
            refine va_get (D := (dC, dI)) (ci := 1) (v := .ref (ρ h0 0)) (C := RX1) (T := TX1) (N := 15) hx hb hts hfX1 hown hK hP q65 eq65 rfl 0 (by decide) (hts (.fieldLink RX1 40 "ColdShips$Planner" "world" "LColdShips$World;") wa_143) (fun _ h9 => h9) rfl dX1_extend_108 ?_
            have hf_66 : f44 (ρ h0 0) = .inr (10, [.int o30_x0, .int o30_x1, .int o30_x2, .int o30_x3, .int o30_x4, .int o30_x5, .int o30_x6, .ref (ρ (ρ h0 0) 7), .ref (ρ (ρ h0 0) 8), .ref (ρ (ρ h0 0) 9), .ref (ρ (ρ h0 0) 10), .ref (ρ (ρ h0 0) 11), .ref (ρ (ρ h0 0) 12), .ref (ρ (ρ h0 0) 13), .ref (ρ (ρ h0 0) 14), .ref (ρ (ρ h0 0) 15), .ref (ρ (ρ h0 0) 16), .ref (ρ (ρ h0 0) 17), .ref (ρ (ρ h0 0) 18)]) := (hF45 _ (by rw [tp_iu y6]; decide)).trans hf_o30
            have hf_67 : f61 (ρ h0 0) = .inr (10, [.int o30_x0, .int o30_x1, .int o30_x2, .int o30_x3, .int o30_x4, .int o30_x5, .int o30_x6, .ref (ρ (ρ h0 0) 7), .ref (ρ (ρ h0 0) 8), .ref (ρ (ρ h0 0) 9), .ref (ρ (ρ h0 0) 10), .ref (ρ (ρ h0 0) 11), .ref (ρ (ρ h0 0) 12), .ref (ρ (ρ h0 0) 13), .ref (ρ (ρ h0 0) 14), .ref (ρ (ρ h0 0) 15), .ref (ρ (ρ h0 0) 16), .ref (ρ (ρ h0 0) 17), .ref (ρ (ρ h0 0) 18)]) := (hF62 _ (by rw [tp_iu y6]; decide)).trans hf_66
            refine tpk_pos (tp_in hG y6 (by decide)) hf_67 (fun q68 eq68 => ?_)
            refine va_getN (D := (dC, dI)) (ci := 10) (v := .ref (ρ (ρ h0 0) 18)) (C := RX10) (T := TX10) (N := 19) hx hb hts hfX10 hown hK hP q68 eq68 rfl 18 (by decide) (va_Nw.use rfl (hN.1 (.fieldLinkNest RX1 50 "ColdShips$World" "cargoes" "LColdShips$Rows;" "ColdShips") nzw_86)) (fun _ h9 => h9) rfl dX1_extend_111 ?_
            refine lv_iload hx hb dX1_extend_114 (lv_at hl 3 rfl) ?_
            refine lv_iconst (v := 1) hx hb dX1_extend_116 (by decide) ?_
            have hf_69 : f44 (ρ (ρ h0 0) 18) = .inr (4, [.int o34_x0, .ref (ρ (ρ (ρ h0 0) 18) 1), .int o34_x2]) := (hF45 _ (by rw [tp_iu y29]; decide)).trans hf_o34
            have hf_70 : f61 (ρ (ρ h0 0) 18) = .inr (4, [.int o34_x0, .ref (ρ (ρ (ρ h0 0) 18) 1), .int o34_x2]) := (hF62 _ (by rw [tp_iu y29]; decide)).trans hf_69
            refine tpk_pos (tp_in hG y29 (by decide)) hf_70 (fun q71 eq71 => ?_)
            refine pz_calli (va_runV (As := [.int w2, .int 1]) (rest := [.int z49, .int z63, .int v, .ref h0]) ⟨hx, hb, hml, hown, hts⟩ (t_X4_number l dC dI _ Ω κ τ ν ρ L f61 hG hT (ρ (ρ h0 0) 18) w2 (1) y29) (cwV 2 hts gX1_extend_X4_number rfl rfl rfl ⟨rfl, pd_X4_number⟩ ⟨Nat.le_of_ble_eq_true rfl, Nat.le_of_ble_eq_true rfl⟩) ⟨pz_blind, va_recv hK hP (ci := 4) (q0 := q71) rfl eq71, pz_pre hP hK hD hN⟩ rfl rfl hl.1 rfl (lv_room (Nat.le_of_ble_eq_true rfl)) dX1_extend_117 ⟨Nat.le_of_ble_eq_true rfl, Nat.le_of_ble_eq_true rfl⟩) (fun r72 hw73 => ?_)
            obtain ⟨hw73r, hw73p⟩ := hw73
            refine lv_aload_n hx hb dX1_extend_120 rfl (lv_at hl 4 rfl) ?_
            refine va_get (D := (dC, dI)) (ci := 1) (v := .int o54_x7) (C := RX1) (T := TX1) (N := 15) hx hb hts hfX1 hown hK hP q65 eq65 rfl 7 (by decide) (hts (.fieldLink RX1 119 "ColdShips$Planner" "freeAt" "I") wa_1357) (fun _ h9 => h9) rfl dX1_extend_121 ?_
            refine lv_lload hx hb dX1_extend_124 (lv_at hl 0 rfl) ?_
            refine lv_iload hx hb dX1_extend_126 (lv_at hl 1 rfl) ?_
            have hFc := tp_fr hD hS hA
            refine va_callv (va_runV (As := [.int v, .int z63, .int z49, .int r72, .int o54_x7, .long z56, .int z53]) (rest := []) ⟨hx, hb, hml, hown, hts⟩ (t_X1_extend4 l dC dI _ Ω κ τ ν ρ L f61 hG hT h0 v z63 z49 r72 o54_x7 z56 z53 ht_h0 (by first | decide | omega) (by first | decide | omega)) (cwV 7 hts gX1_extend_X1_extend rfl rfl rfl ⟨rfl, pd_X1_extend⟩ ⟨Nat.le_of_ble_eq_true rfl, Nat.le_of_ble_eq_true rfl⟩) ⟨pz_blind, va_recv hK hP (ci := 1) (q0 := q65) rfl eq65, pz_pre hP hK hD hN⟩ rfl rfl hl.1 rfl (lv_room (Nat.le_of_ble_eq_true rfl)) dX1_extend_128 ⟨Nat.le_of_ble_eq_true rfl, Nat.le_of_ble_eq_true rfl⟩) hS (fun q _ h => hFc q h) hFc (fun f76 t H1 locs ht hvm hw75 hB hz1 hk1 hS => ?_)
            refine tn_3 hw75 (fun hT hF77 hw75p => ?_); clear hw75
            have hR := hR.then hF77 (by decide)
            have hP := hB.1; rw [ht] at hP; have hD := tp_ad f76 hD; clear hB hFc hz1 hk1; subst ht; generalize t.heap = H at hP hS ⊢
            obtain ⟨z78, ez78⟩ : ∃ y : Int32, y = w2 + 1 := ⟨_, rfl⟩
            refine lv_iinc (v := z78) (lv' := [(9, .int z78), (12, .long z56), (11, .int z53), (10, .int z49), (0, .ref h0), (1, .int v), (2, .int dd), (3, .int u), (4, .int a), (5, .int b), (6, .long x), (8, .int a6)]) hx hb dX1_extend_131 hl (k := 3) rfl (by rw [ez78]; rfl) (by decide) rfl (fun ls hl => ?_)
            have iz78 : z78.toInt = w2.toInt + 1 := zi_add ez78 rfl rfl (by omega) (by omega)
            refine lv_goto (tgt := 10) hx hb dX1_extend_134 (by decide) ?_
            exact ih4 _ _ _ _ (by rw [hn5]; omega) ⟨f76, z78, rfl, hT, hR, (by omega), hP, hD, hS, lv_sub hl [0, 4, 5, 6, 7, 8, 9, 10, 11] rfl⟩
  · have ic1 : dd.toInt ≥ 6 := zi_ltf rfl rfl c1
    exfalso; omega
set_option maxHeartbeats 4000000 in
set_option maxRecDepth 100000 in
theorem t_X1_extend2 (l : Launch) (dC : Nat → ClassId) (dI : Nat → Nat → Nat) (sz : Nat) (Ω : Nat → Nat → (Nat → Nat) → va_E → Prop) (κ : Nat → ClassId) (τ ν : Nat → Nat) (ρ : Nat → Nat → Nat) (L : List Nat) (f : Nat → va_E) (hG : tp_G τ ν ρ L) (hT : tp_T Ω κ τ ν ρ f) (h0 : Nat) (v : Int32) (dd : Int32) (u : Int32) (a : Int32) (b : Int32) (x : Int64) (a6 : Int32) (ht_h0 : τ h0 = 2) (hr_v : 0 ≤ v.toInt ∧ v.toInt ≤ 2) (hr_dd : 2 ≤ dd.toInt ∧ dd.toInt ≤ 2) : Met l yX1_extend wqX1_extend ({ frames := 8, cells := 0, slots := 0, locals := 2800 }) (va_Pc [.ref h0, .int v, .int dd, .int u, .int a, .int b, .long x, .int a6] (pz_B dC dI (tp_K κ) (va_pl L f) sz)) (va_Qv (fun (f1 : Nat → va_E) => tp_T Ω κ τ ν ρ f1 ∧ tp_F τ [2, 20, 21] f f1 ∧ True) (fun (f1 : Nat → va_E) (t : State) => pz_E dC dI (tp_K κ) (va_A (va_pl L f) sz) (va_pl L f1) t) (va_A (va_pl L f) sz)) 0 0 (va_A (va_pl L f) sz) := by
  refine Met.ofW (cc := cX1_extend) (maxL := 14) (ret := none) (by decide) rfl ?_
  intro p e s m args below meth c s₁ B hml hv
  obtain ⟨rfl, hsz, hP, hK, hD0, hN⟩ := hv
  have hx := B.exec
  have hb := B.bytes
  have hr := B.returns
  have hts := fun (w : Cond) (h : w ∈ WALL) => atoms_spec (ws := wqX1_extend) B.pre w (List.mem_cons_of_mem _ h)
  have hown : s.vm.findClass RX1 = some m.cls := findClass_of_methodNamed B.named
  have hlocks := B.notSynchronized
  subst hsz
  have hD := hD0.self (sz := s.heap.size)
  generalize hAe : va_A (va_pl L f) s.heap.size = A at hD ⊢
  have hA : ∀ q : Nat, s.heap.size ≤ q → A q := fun q h => by rw [← hAe]; exact Or.inr h
  have hS : va_S A s.heap s.heap [] := va_S.rf
  have hR : tp_F τ [2, 20, 21] f f := tp_F.rf
  have hl := lv_entry ([.ref h0, .int v, .int dd, .int u, .int a, .int b, .long x, .int a6]) (n := 14) (Nat.le_of_ble_eq_true rfl)
  rw [lg_entry_eq]
  generalize (lg_sl ([.ref h0, .int v, .int dd, .int u, .int a, .int b, .long x, .int a6]) ++ List.replicate (14 - (lg_sl ([.ref h0, .int v, .int dd, .int u, .int a, .int b, .long x, .int a6])).length) Slot.unset).toArray = ls at hl ⊢
  have hl : lv_has ls 14 [(0, .ref h0), (1, .int v), (2, .int dd), (3, .int u), (4, .int a), (5, .int b), (6, .long x), (8, .int a6)] := hl
  refine lv_iload_n hx hb dX1_extend_0 rfl (lv_at hl 2 rfl) ?_
  refine lv_bipush (v := 6) hx hb dX1_extend_1 (by decide) ?_
  refine lv_icmp_lt (tgt := 7) hx hb dX1_extend_3 (by decide) (fun c1 => ?_) (fun c1 => ?_)
  · have ic1 : dd.toInt < 6 := zi_lt rfl rfl c1
    refine lv_iconst (v := 0) hx hb dX1_extend_7 (by decide) ?_
    refine lv_istore (lv' := [(9, .int 0), (0, .ref h0), (1, .int v), (2, .int dd), (3, .int u), (4, .int a), (5, .int b), (6, .long x), (8, .int a6)]) hx hb dX1_extend_8 hl (by decide) rfl (fun ls hl => ?_)
    refine pz_loop (fun n0 H locs ls => ∃ f3 : Nat → va_E, ∃ w2 : Int32, n0 = (6 - (w2.toInt)).toNat ∧ tp_T Ω κ τ ν ρ f3 ∧ tp_F τ [2, 20, 21] f f3 ∧ (0 ≤ w2.toInt ∧ w2.toInt ≤ 6) ∧ va_P (dC, dI) vwCl (va_pl L f3) H ∧ va_D A (va_pl L f3) ∧ va_S A s.heap H locs ∧ lv_has ls 14 [(9, .int w2), (0, .ref h0), (1, .int v), (2, .int dd), (3, .int u), (4, .int a), (5, .int b), (6, .long x), (8, .int a6)]) ?_ _ _ _ _ ⟨f, 0, rfl, hT, hR, (by have : (0 : Int32).toInt = 0 := rfl; omega), hP, hD, hS, lv_sub hl [0, 1, 2, 3, 4, 5, 6, 7, 8] rfl⟩
    intro n0 H locs ls hI ih4
    refine Exists.elim hI (fun f3 hE90 => Exists.elim hE90 (fun w2 hE91 => tn_8 hE91 (fun hn5 hT hR rw2 hP hD hS hl => ?_)))
    clear hE91 hE90 hI
    refine lv_iload hx hb dX1_extend_10 (lv_at hl 0 rfl) ?_
    refine lv_aload_n hx hb dX1_extend_12 rfl (lv_at hl 1 rfl) ?_
    refine tgk_2 hG ht_h0 (fun y6 y6l y7 y7n y8 y8n y9 y9n y10 y10n y11 y11n y12 y12n y13 y13n y14 y14n y15 y15n => ?_)
    refine tpk_2 hT ht_h0 (fun o16_x5 o16_x6 o16_x7 o16_x8 o16_x9 hf_o16 ro16_0 => ?_)
    refine tpk_pos (tp_in hG ht_h0 (by decide)) hf_o16 (fun q17 eq17 => ?_)
    refine va_get (D := (dC, dI)) (ci := 1) (v := .ref (ρ h0 0)) (C := RX1) (T := TX1) (N := 15) hx hb hts hfX1 hown hK hP q17 eq17 rfl 0 (by decide) (hts (.fieldLink RX1 40 "ColdShips$Planner" "world" "LColdShips$World;") wa_143) (fun _ h9 => h9) rfl dX1_extend_13 ?_
    refine tgk_11 hG y6 (fun y18 y18n y19 y19n y20 y21 y22 y23 y23m y23l y24 y24m y24l y25 y25m y25l y26 y26w y26m y26l y27 y27w y27m y27l y28 y28w y28m y28l y29 y29w y29m y29l => ?_)
    refine tpk_11 hT y6 (fun o30_x0 o30_x1 o30_x2 o30_x3 o30_x4 o30_x5 o30_x6 hf_o30 ro30_0 ro30_1 ro30_2 ro30_3 => ?_)
    refine tpk_pos (tp_in hG y6 (by decide)) hf_o30 (fun q31 eq31 => ?_)
    refine va_getN (D := (dC, dI)) (ci := 10) (v := .ref (ρ (ρ h0 0) 18)) (C := RX10) (T := TX10) (N := 19) hx hb hts hfX10 hown hK hP q31 eq31 rfl 18 (by decide) (va_Nw.use rfl (hN.1 (.fieldLinkNest RX1 50 "ColdShips$World" "cargoes" "LColdShips$Rows;" "ColdShips") nzw_86)) (fun _ h9 => h9) rfl dX1_extend_16 ?_
    refine tgk_5 hG y29 (fun y32 y32n y33a y33b y33c => ?_)
    refine tpk_5 hT y29 (fun o34_x0 o34_x2 hf_o34 ro34_0 ro34_1 => ?_)
    refine tpk_pos (tp_in hG y29 (by decide)) hf_o34 (fun q35 eq35 => ?_)
    have ro34_1 := tp_hu ro34_1
    refine va_getN (D := (dC, dI)) (ci := 4) (v := .int o34_x2) (C := RX4) (T := TX4) (N := 3) hx hb hts hfX4 hown hK hP q35 eq35 rfl 2 (by decide) (va_Nw.use rfl (hN.1 (.fieldLinkNest RX1 54 "ColdShips$Rows" "size" "I" "ColdShips") nzw_1)) (fun _ h9 => h9) rfl dX1_extend_19 ?_
    refine lv_icmp_ge (tgt := 137) hx hb dX1_extend_22 (by decide) (fun c36 => ?_) (fun c36 => ?_)
    · have ic36 : w2.toInt ≥ o34_x2.toInt := zi_ge rfl rfl c36
      exact W.vret hx hb hr (fun t ht hW => ⟨⟨f3, rfl, ⟨hT, hR, trivial⟩, by rw [ht]; exact hP, va_K.moved hW.alike hK, hD⟩, hS.F ht⟩) hS.2.2 dX1_extend_137
    · have ic36 : w2.toInt < o34_x2.toInt := zi_gef rfl rfl c36
      refine lv_iload hx hb dX1_extend_25 (lv_at hl 0 rfl) ?_
      refine lv_bipush (v := 6) hx hb dX1_extend_27 (by decide) ?_
      refine lv_icmp_ge (tgt := 137) hx hb dX1_extend_29 (by decide) (fun c37 => ?_) (fun c37 => ?_)
      · have ic37 : w2.toInt ≥ 6 := zi_ge rfl rfl c37
        exact W.vret hx hb hr (fun t ht hW => ⟨⟨f3, rfl, ⟨hT, hR, trivial⟩, by rw [ht]; exact hP, va_K.moved hW.alike hK, hD⟩, hS.F ht⟩) hS.2.2 dX1_extend_137
      · have ic37 : w2.toInt < 6 := zi_gef rfl rfl c37
        refine lv_iload_n hx hb dX1_extend_32 rfl (lv_at hl 4 rfl) ?_
        refine lv_iload hx hb dX1_extend_33 (lv_at hl 0 rfl) ?_
        refine lv_ishr hx hb dX1_extend_35 ?_
        refine lv_topi (fun z38 ez38 => ?_)
        refine lv_iconst (v := 1) hx hb dX1_extend_36 (by decide) ?_
        refine lv_iand hx hb dX1_extend_37 ?_
        refine lv_topi (fun z39 ez39 => ?_)
        have iz39 : 0 ≤ z39.toInt ∧ z39.toInt ≤ 1 := zb_mask ez39 (by decide)
        refine lv_if_ne (tgt := 131) hx hb dX1_extend_38 (by decide) (fun c40 => ?_) (fun c40 => ?_)
        · have ic40 : z39.toInt ≠ 0 := zi_ne rfl rfl c40
          obtain ⟨z41, ez41⟩ : ∃ y : Int32, y = w2 + 1 := ⟨_, rfl⟩
          refine lv_iinc (v := z41) (lv' := [(9, .int z41), (0, .ref h0), (1, .int v), (2, .int dd), (3, .int u), (4, .int a), (5, .int b), (6, .long x), (8, .int a6)]) hx hb dX1_extend_131 hl (k := 0) rfl (by rw [ez41]; rfl) (by decide) rfl (fun ls hl => ?_)
          have iz41 : z41.toInt = w2.toInt + 1 := zi_add ez41 rfl rfl (by omega) (by omega)
          refine lv_goto (tgt := 10) hx hb dX1_extend_134 (by decide) ?_
          exact ih4 _ _ _ _ (by rw [hn5]; omega) ⟨f3, z41, rfl, hT, hR, (by omega), hP, hD, hS, lv_sub hl [0, 1, 2, 3, 4, 5, 6, 7, 8] rfl⟩
        · have ic40 : z39.toInt = 0 := zi_nef rfl rfl c40
          refine lv_aload_n hx hb dX1_extend_41 rfl (lv_at hl 1 rfl) ?_
          refine lv_iload_n hx hb dX1_extend_42 rfl (lv_at hl 2 rfl) ?_
          refine lv_iload hx hb dX1_extend_43 (lv_at hl 0 rfl) ?_
          refine lv_iload hx hb dX1_extend_45 (lv_at hl 5 rfl) ?_
          refine lv_iload hx hb dX1_extend_47 (lv_at hl 6 rfl) ?_
          have hFc := tp_fr hD hS hA
          refine va_calli (va_runV (As := [.int v, .int w2, .int a, .int b]) (rest := []) ⟨hx, hb, hml, hown, hts⟩ (t_X1_reckon l dC dI _ Ω κ τ ν ρ L f3 hG hT h0 v w2 a b ht_h0 (by first | decide | omega)) (cwV 4 hts gX1_extend_X1_reckon rfl rfl rfl ⟨rfl, pd_X1_reckon⟩ ⟨Nat.le_of_ble_eq_true rfl, Nat.le_of_ble_eq_true rfl⟩) ⟨pz_blind, va_recv hK hP (ci := 1) (q0 := q17) rfl eq17, pz_pre hP hK hD hN⟩ rfl rfl hl.1 rfl (lv_room (Nat.le_of_ble_eq_true rfl)) dX1_extend_49 ⟨Nat.le_of_ble_eq_true rfl, Nat.le_of_ble_eq_true rfl⟩) hS (fun q _ h => hFc q h) hFc (fun r42 f44 t H1 locs ht hvm hw43 hB hz1 hk1 hS => ?_)
          refine tn_4 hw43 (fun hT hF45 hw43r hw43p => ?_); clear hw43
          have hR := hR.then hF45 (by decide)
          have hP := hB.1; rw [ht] at hP; have hD := tp_ad f44 hD; clear hB hFc hz1 hk1; subst ht; generalize t.heap = H at hP hS ⊢
          refine lv_if_eq (tgt := 131) hx hb dX1_extend_52 (by decide) (fun c46 => ?_) (fun c46 => ?_)
          · have ic46 : r42.toInt = 0 := zi_eq rfl rfl c46
            obtain ⟨z47, ez47⟩ : ∃ y : Int32, y = w2 + 1 := ⟨_, rfl⟩
            refine lv_iinc (v := z47) (lv' := [(9, .int z47), (0, .ref h0), (1, .int v), (2, .int dd), (3, .int u), (4, .int a), (5, .int b), (6, .long x), (8, .int a6)]) hx hb dX1_extend_131 hl (k := 0) rfl (by rw [ez47]; rfl) (by decide) rfl (fun ls hl => ?_)
            have iz47 : z47.toInt = w2.toInt + 1 := zi_add ez47 rfl rfl (by omega) (by omega)
            refine lv_goto (tgt := 10) hx hb dX1_extend_134 (by decide) ?_
            exact ih4 _ _ _ _ (by rw [hn5]; omega) ⟨f44, z47, rfl, hT, hR, (by omega), hP, hD, hS, lv_sub hl [0, 1, 2, 3, 4, 5, 6, 7, 8] rfl⟩
          · have ic46 : r42.toInt ≠ 0 := zi_eqf rfl rfl c46
            refine lv_iload_n hx hb dX1_extend_55 rfl (lv_at hl 4 rfl) ?_
            refine lv_iconst (v := 1) hx hb dX1_extend_56 (by decide) ?_
            refine lv_iload hx hb dX1_extend_57 (lv_at hl 0 rfl) ?_
            refine lv_ishl hx hb dX1_extend_59 ?_
            refine lv_topi (fun z48 ez48 => ?_)
            have iz48 : 1 ≤ z48.toInt ∧ z48.toInt ≤ 32 := zb_shl5 ez48 rfl (by omega) (by omega)
            refine lv_ior hx hb dX1_extend_60 ?_
            refine lv_topi (fun z49 ez49 => ?_)
            refine lv_istore (lv' := [(10, .int z49), (9, .int w2), (0, .ref h0), (1, .int v), (2, .int dd), (3, .int u), (4, .int a), (5, .int b), (6, .long x), (8, .int a6)]) hx hb dX1_extend_61 hl (by decide) rfl (fun ls hl => ?_)
            refine lv_iload hx hb dX1_extend_63 (lv_at hl 9 rfl) ?_
            refine lv_iload_n hx hb dX1_extend_65 rfl (lv_at hl 4 rfl) ?_
            refine lv_iconst (v := 3) hx hb dX1_extend_66 (by decide) ?_
            refine lv_iconst (v := 5) hx hb dX1_extend_67 (by decide) ?_
            refine lv_iload hx hb dX1_extend_68 (lv_at hl 1 rfl) ?_
            refine lv_isub hx hb dX1_extend_70 ?_
            refine lv_topi (fun z50 ez50 => ?_)
            have iz50 : z50.toInt = 5 - w2.toInt := zi_sub ez50 rfl rfl (by omega) (by omega)
            refine lv_imul hx hb dX1_extend_71 ?_
            refine lv_topi (fun z51 ez51 => ?_)
            have iz51 : z51.toInt = 3 * z50.toInt := zi_mul ez51 rfl rfl (by omega) (by omega)
            refine lv_ishl hx hb dX1_extend_72 ?_
            refine lv_topi (fun z52 ez52 => ?_)
            refine lv_ior hx hb dX1_extend_73 ?_
            refine lv_topi (fun z53 ez53 => ?_)
            refine lv_istore (lv' := [(11, .int z53), (10, .int z49), (9, .int w2), (0, .ref h0), (1, .int v), (2, .int dd), (3, .int u), (4, .int a), (5, .int b), (6, .long x), (8, .int a6)]) hx hb dX1_extend_74 hl (by decide) rfl (fun ls hl => ?_)
            refine lv_lload hx hb dX1_extend_76 (lv_at hl 9 rfl) ?_
            refine lv_aload_n hx hb dX1_extend_78 rfl (lv_at hl 3 rfl) ?_
            refine tpk_2 hT ht_h0 (fun o54_x5 o54_x6 o54_x7 o54_x8 o54_x9 hf_o54 ro54_0 => ?_)
            refine tpk_pos (tp_in hG ht_h0 (by decide)) hf_o54 (fun q55 eq55 => ?_)
            refine va_get (D := (dC, dI)) (ci := 1) (v := .long o54_x8) (C := RX1) (T := TX1) (N := 15) hx hb hts hfX1 hown hK hP q55 eq55 rfl 8 (by decide) (hts (.fieldLink RX1 108 "ColdShips$Planner" "worth" "J") wa_1356) (fun _ h9 => h9) rfl dX1_extend_79 ?_
            refine lv_ladd hx hb dX1_extend_82 ?_
            refine lv_topl (fun z56 ez56 => ?_)
            refine lv_lstore (lv' := [(12, .long z56), (11, .int z53), (10, .int z49), (9, .int w2), (0, .ref h0), (1, .int v), (2, .int dd), (3, .int u), (4, .int a), (5, .int b), (6, .long x), (8, .int a6)]) hx hb dX1_extend_83 hl (by decide) rfl (fun ls hl => ?_)
            refine lv_aload_n hx hb dX1_extend_85 rfl (lv_at hl 4 rfl) ?_
            refine lv_iload_n hx hb dX1_extend_86 rfl (lv_at hl 5 rfl) ?_
            refine lv_bipush (v := 64) hx hb dX1_extend_87 (by decide) ?_
            refine lv_imul hx hb dX1_extend_89 ?_
            refine lv_topi (fun z57 ez57 => ?_)
            have iz57 : z57.toInt = v.toInt * 64 := zi_mul ez57 rfl rfl (by omega) (by omega)
            refine lv_iload hx hb dX1_extend_90 (lv_at hl 2 rfl) ?_
            refine lv_iadd hx hb dX1_extend_92 ?_
            refine lv_topi (fun z58 ez58 => ?_)
            refine lv_lload hx hb dX1_extend_93 (lv_at hl 0 rfl) ?_
            refine lv_iload hx hb dX1_extend_95 (lv_at hl 1 rfl) ?_
            have hFc := tp_fr hD hS hA
            refine va_callv (va_runV (As := [.int z58, .long z56, .int z53]) (rest := []) ⟨hx, hb, hml, hown, hts⟩ (t_X1_keepRow l dC dI _ Ω κ τ ν ρ L f44 hG hT h0 z58 z56 z53 ht_h0) (cwV 3 hts gX1_extend_X1_keepRow rfl rfl rfl ⟨rfl, pd_X1_keepRow⟩ ⟨Nat.le_of_ble_eq_true rfl, Nat.le_of_ble_eq_true rfl⟩) ⟨pz_blind, va_recv hK hP (ci := 1) (q0 := q55) rfl eq55, pz_pre hP hK hD hN⟩ rfl rfl hl.1 rfl (lv_room (Nat.le_of_ble_eq_true rfl)) dX1_extend_97 ⟨Nat.le_of_ble_eq_true rfl, Nat.le_of_ble_eq_true rfl⟩) hS (fun q _ h => hFc q h) hFc (fun f61 t H1 locs ht hvm hw60 hB hz1 hk1 hS => ?_)
            refine tn_3 hw60 (fun hT hF62 hw60p => ?_); clear hw60
            have hR := hR.then hF62 (by decide)
            have hP := hB.1; rw [ht] at hP; have hD := tp_ad f61 hD; clear hB hFc hz1 hk1; subst ht; generalize t.heap = H at hP hS ⊢
            refine lv_aload_n hx hb dX1_extend_100 rfl (lv_at hl 4 rfl) ?_
            refine lv_iload_n hx hb dX1_extend_101 rfl (lv_at hl 5 rfl) ?_
            refine lv_iload_n hx hb dX1_extend_102 rfl (lv_at hl 6 rfl) ?_
            refine lv_iconst (v := 1) hx hb dX1_extend_103 (by decide) ?_
            refine lv_iadd hx hb dX1_extend_104 ?_
            refine lv_topi (fun z63 ez63 => ?_)
            have iz63 : z63.toInt = dd.toInt + 1 := zi_add ez63 rfl rfl (by omega) (by omega)
            refine lv_iload hx hb dX1_extend_105 (lv_at hl 2 rfl) ?_
            refine lv_aload_n hx hb dX1_extend_107 rfl (lv_at hl 4 rfl) ?_
            have hf_64 : f61 h0 = .inr (1, [.ref (ρ h0 0), .ref (ρ h0 1), .ref (ρ h0 2), .ref (ρ h0 3), .ref (ρ h0 4), .int o54_x5, .int o54_x6, .int o54_x7, .long o54_x8, .int o54_x9, .ref (ρ h0 10), .ref (ρ h0 11), .ref (ρ h0 12), .ref (ρ h0 13), .ref (ρ h0 14)]) := (hF62 _ (by rw [ht_h0]; decide)).trans hf_o54
            refine tpk_pos (tp_in hG ht_h0 (by decide)) hf_64 (fun q65 eq65 => ?_)
            refine va_get (D := (dC, dI)) (ci := 1) (v := .ref (ρ h0 0)) (C := RX1) (T := TX1) (N := 15) hx hb hts hfX1 hown hK hP q65 eq65 rfl 0 (by decide) (hts (.fieldLink RX1 40 "ColdShips$Planner" "world" "LColdShips$World;") wa_143) (fun _ h9 => h9) rfl dX1_extend_108 ?_
            have hf_66 : f44 (ρ h0 0) = .inr (10, [.int o30_x0, .int o30_x1, .int o30_x2, .int o30_x3, .int o30_x4, .int o30_x5, .int o30_x6, .ref (ρ (ρ h0 0) 7), .ref (ρ (ρ h0 0) 8), .ref (ρ (ρ h0 0) 9), .ref (ρ (ρ h0 0) 10), .ref (ρ (ρ h0 0) 11), .ref (ρ (ρ h0 0) 12), .ref (ρ (ρ h0 0) 13), .ref (ρ (ρ h0 0) 14), .ref (ρ (ρ h0 0) 15), .ref (ρ (ρ h0 0) 16), .ref (ρ (ρ h0 0) 17), .ref (ρ (ρ h0 0) 18)]) := (hF45 _ (by rw [tp_iu y6]; decide)).trans hf_o30
            have hf_67 : f61 (ρ h0 0) = .inr (10, [.int o30_x0, .int o30_x1, .int o30_x2, .int o30_x3, .int o30_x4, .int o30_x5, .int o30_x6, .ref (ρ (ρ h0 0) 7), .ref (ρ (ρ h0 0) 8), .ref (ρ (ρ h0 0) 9), .ref (ρ (ρ h0 0) 10), .ref (ρ (ρ h0 0) 11), .ref (ρ (ρ h0 0) 12), .ref (ρ (ρ h0 0) 13), .ref (ρ (ρ h0 0) 14), .ref (ρ (ρ h0 0) 15), .ref (ρ (ρ h0 0) 16), .ref (ρ (ρ h0 0) 17), .ref (ρ (ρ h0 0) 18)]) := (hF62 _ (by rw [tp_iu y6]; decide)).trans hf_66
            refine tpk_pos (tp_in hG y6 (by decide)) hf_67 (fun q68 eq68 => ?_)
            refine va_getN (D := (dC, dI)) (ci := 10) (v := .ref (ρ (ρ h0 0) 18)) (C := RX10) (T := TX10) (N := 19) hx hb hts hfX10 hown hK hP q68 eq68 rfl 18 (by decide) (va_Nw.use rfl (hN.1 (.fieldLinkNest RX1 50 "ColdShips$World" "cargoes" "LColdShips$Rows;" "ColdShips") nzw_86)) (fun _ h9 => h9) rfl dX1_extend_111 ?_
            refine lv_iload hx hb dX1_extend_114 (lv_at hl 3 rfl) ?_
            refine lv_iconst (v := 1) hx hb dX1_extend_116 (by decide) ?_
            have hf_69 : f44 (ρ (ρ h0 0) 18) = .inr (4, [.int o34_x0, .ref (ρ (ρ (ρ h0 0) 18) 1), .int o34_x2]) := (hF45 _ (by rw [tp_iu y29]; decide)).trans hf_o34
            have hf_70 : f61 (ρ (ρ h0 0) 18) = .inr (4, [.int o34_x0, .ref (ρ (ρ (ρ h0 0) 18) 1), .int o34_x2]) := (hF62 _ (by rw [tp_iu y29]; decide)).trans hf_69
            refine tpk_pos (tp_in hG y29 (by decide)) hf_70 (fun q71 eq71 => ?_)
            refine pz_calli (va_runV (As := [.int w2, .int 1]) (rest := [.int z49, .int z63, .int v, .ref h0]) ⟨hx, hb, hml, hown, hts⟩ (t_X4_number l dC dI _ Ω κ τ ν ρ L f61 hG hT (ρ (ρ h0 0) 18) w2 (1) y29) (cwV 2 hts gX1_extend_X4_number rfl rfl rfl ⟨rfl, pd_X4_number⟩ ⟨Nat.le_of_ble_eq_true rfl, Nat.le_of_ble_eq_true rfl⟩) ⟨pz_blind, va_recv hK hP (ci := 4) (q0 := q71) rfl eq71, pz_pre hP hK hD hN⟩ rfl rfl hl.1 rfl (lv_room (Nat.le_of_ble_eq_true rfl)) dX1_extend_117 ⟨Nat.le_of_ble_eq_true rfl, Nat.le_of_ble_eq_true rfl⟩) (fun r72 hw73 => ?_)
            obtain ⟨hw73r, hw73p⟩ := hw73
            refine lv_aload_n hx hb dX1_extend_120 rfl (lv_at hl 4 rfl) ?_
            refine va_get (D := (dC, dI)) (ci := 1) (v := .int o54_x7) (C := RX1) (T := TX1) (N := 15) hx hb hts hfX1 hown hK hP q65 eq65 rfl 7 (by decide) (hts (.fieldLink RX1 119 "ColdShips$Planner" "freeAt" "I") wa_1357) (fun _ h9 => h9) rfl dX1_extend_121 ?_
            refine lv_lload hx hb dX1_extend_124 (lv_at hl 0 rfl) ?_
            refine lv_iload hx hb dX1_extend_126 (lv_at hl 1 rfl) ?_
            have hFc := tp_fr hD hS hA
            refine va_callv (va_runV (As := [.int v, .int z63, .int z49, .int r72, .int o54_x7, .long z56, .int z53]) (rest := []) ⟨hx, hb, hml, hown, hts⟩ (t_X1_extend3 l dC dI _ Ω κ τ ν ρ L f61 hG hT h0 v z63 z49 r72 o54_x7 z56 z53 ht_h0 (by first | decide | omega) (by first | decide | omega)) (cwV 7 hts gX1_extend_X1_extend rfl rfl rfl ⟨rfl, pd_X1_extend⟩ ⟨Nat.le_of_ble_eq_true rfl, Nat.le_of_ble_eq_true rfl⟩) ⟨pz_blind, va_recv hK hP (ci := 1) (q0 := q65) rfl eq65, pz_pre hP hK hD hN⟩ rfl rfl hl.1 rfl (lv_room (Nat.le_of_ble_eq_true rfl)) dX1_extend_128 ⟨Nat.le_of_ble_eq_true rfl, Nat.le_of_ble_eq_true rfl⟩) hS (fun q _ h => hFc q h) hFc (fun f76 t H1 locs ht hvm hw75 hB hz1 hk1 hS => ?_)
            refine tn_3 hw75 (fun hT hF77 hw75p => ?_); clear hw75
            have hR := hR.then hF77 (by decide)
            have hP := hB.1; rw [ht] at hP; have hD := tp_ad f76 hD; clear hB hFc hz1 hk1; subst ht; generalize t.heap = H at hP hS ⊢
            obtain ⟨z78, ez78⟩ : ∃ y : Int32, y = w2 + 1 := ⟨_, rfl⟩
            refine lv_iinc (v := z78) (lv' := [(9, .int z78), (12, .long z56), (11, .int z53), (10, .int z49), (0, .ref h0), (1, .int v), (2, .int dd), (3, .int u), (4, .int a), (5, .int b), (6, .long x), (8, .int a6)]) hx hb dX1_extend_131 hl (k := 3) rfl (by rw [ez78]; rfl) (by decide) rfl (fun ls hl => ?_)
            have iz78 : z78.toInt = w2.toInt + 1 := zi_add ez78 rfl rfl (by omega) (by omega)
            refine lv_goto (tgt := 10) hx hb dX1_extend_134 (by decide) ?_
            exact ih4 _ _ _ _ (by rw [hn5]; omega) ⟨f76, z78, rfl, hT, hR, (by omega), hP, hD, hS, lv_sub hl [0, 4, 5, 6, 7, 8, 9, 10, 11] rfl⟩
  · have ic1 : dd.toInt ≥ 6 := zi_ltf rfl rfl c1
    exfalso; omega
set_option maxHeartbeats 4000000 in
set_option maxRecDepth 100000 in
theorem t_X1_extend1 (l : Launch) (dC : Nat → ClassId) (dI : Nat → Nat → Nat) (sz : Nat) (Ω : Nat → Nat → (Nat → Nat) → va_E → Prop) (κ : Nat → ClassId) (τ ν : Nat → Nat) (ρ : Nat → Nat → Nat) (L : List Nat) (f : Nat → va_E) (hG : tp_G τ ν ρ L) (hT : tp_T Ω κ τ ν ρ f) (h0 : Nat) (v : Int32) (dd : Int32) (u : Int32) (a : Int32) (b : Int32) (x : Int64) (a6 : Int32) (ht_h0 : τ h0 = 2) (hr_v : 0 ≤ v.toInt ∧ v.toInt ≤ 2) (hr_dd : 1 ≤ dd.toInt ∧ dd.toInt ≤ 1) : Met l yX1_extend wqX1_extend ({ frames := 9, cells := 0, slots := 0, locals := 3200 }) (va_Pc [.ref h0, .int v, .int dd, .int u, .int a, .int b, .long x, .int a6] (pz_B dC dI (tp_K κ) (va_pl L f) sz)) (va_Qv (fun (f1 : Nat → va_E) => tp_T Ω κ τ ν ρ f1 ∧ tp_F τ [2, 20, 21] f f1 ∧ True) (fun (f1 : Nat → va_E) (t : State) => pz_E dC dI (tp_K κ) (va_A (va_pl L f) sz) (va_pl L f1) t) (va_A (va_pl L f) sz)) 0 0 (va_A (va_pl L f) sz) := by
  refine Met.ofW (cc := cX1_extend) (maxL := 14) (ret := none) (by decide) rfl ?_
  intro p e s m args below meth c s₁ B hml hv
  obtain ⟨rfl, hsz, hP, hK, hD0, hN⟩ := hv
  have hx := B.exec
  have hb := B.bytes
  have hr := B.returns
  have hts := fun (w : Cond) (h : w ∈ WALL) => atoms_spec (ws := wqX1_extend) B.pre w (List.mem_cons_of_mem _ h)
  have hown : s.vm.findClass RX1 = some m.cls := findClass_of_methodNamed B.named
  have hlocks := B.notSynchronized
  subst hsz
  have hD := hD0.self (sz := s.heap.size)
  generalize hAe : va_A (va_pl L f) s.heap.size = A at hD ⊢
  have hA : ∀ q : Nat, s.heap.size ≤ q → A q := fun q h => by rw [← hAe]; exact Or.inr h
  have hS : va_S A s.heap s.heap [] := va_S.rf
  have hR : tp_F τ [2, 20, 21] f f := tp_F.rf
  have hl := lv_entry ([.ref h0, .int v, .int dd, .int u, .int a, .int b, .long x, .int a6]) (n := 14) (Nat.le_of_ble_eq_true rfl)
  rw [lg_entry_eq]
  generalize (lg_sl ([.ref h0, .int v, .int dd, .int u, .int a, .int b, .long x, .int a6]) ++ List.replicate (14 - (lg_sl ([.ref h0, .int v, .int dd, .int u, .int a, .int b, .long x, .int a6])).length) Slot.unset).toArray = ls at hl ⊢
  have hl : lv_has ls 14 [(0, .ref h0), (1, .int v), (2, .int dd), (3, .int u), (4, .int a), (5, .int b), (6, .long x), (8, .int a6)] := hl
  refine lv_iload_n hx hb dX1_extend_0 rfl (lv_at hl 2 rfl) ?_
  refine lv_bipush (v := 6) hx hb dX1_extend_1 (by decide) ?_
  refine lv_icmp_lt (tgt := 7) hx hb dX1_extend_3 (by decide) (fun c1 => ?_) (fun c1 => ?_)
  · have ic1 : dd.toInt < 6 := zi_lt rfl rfl c1
    refine lv_iconst (v := 0) hx hb dX1_extend_7 (by decide) ?_
    refine lv_istore (lv' := [(9, .int 0), (0, .ref h0), (1, .int v), (2, .int dd), (3, .int u), (4, .int a), (5, .int b), (6, .long x), (8, .int a6)]) hx hb dX1_extend_8 hl (by decide) rfl (fun ls hl => ?_)
    refine pz_loop (fun n0 H locs ls => ∃ f3 : Nat → va_E, ∃ w2 : Int32, n0 = (6 - (w2.toInt)).toNat ∧ tp_T Ω κ τ ν ρ f3 ∧ tp_F τ [2, 20, 21] f f3 ∧ (0 ≤ w2.toInt ∧ w2.toInt ≤ 6) ∧ va_P (dC, dI) vwCl (va_pl L f3) H ∧ va_D A (va_pl L f3) ∧ va_S A s.heap H locs ∧ lv_has ls 14 [(9, .int w2), (0, .ref h0), (1, .int v), (2, .int dd), (3, .int u), (4, .int a), (5, .int b), (6, .long x), (8, .int a6)]) ?_ _ _ _ _ ⟨f, 0, rfl, hT, hR, (by have : (0 : Int32).toInt = 0 := rfl; omega), hP, hD, hS, lv_sub hl [0, 1, 2, 3, 4, 5, 6, 7, 8] rfl⟩
    intro n0 H locs ls hI ih4
    refine Exists.elim hI (fun f3 hE90 => Exists.elim hE90 (fun w2 hE91 => tn_8 hE91 (fun hn5 hT hR rw2 hP hD hS hl => ?_)))
    clear hE91 hE90 hI
    refine lv_iload hx hb dX1_extend_10 (lv_at hl 0 rfl) ?_
    refine lv_aload_n hx hb dX1_extend_12 rfl (lv_at hl 1 rfl) ?_
    refine tgk_2 hG ht_h0 (fun y6 y6l y7 y7n y8 y8n y9 y9n y10 y10n y11 y11n y12 y12n y13 y13n y14 y14n y15 y15n => ?_)
    refine tpk_2 hT ht_h0 (fun o16_x5 o16_x6 o16_x7 o16_x8 o16_x9 hf_o16 ro16_0 => ?_)
    refine tpk_pos (tp_in hG ht_h0 (by decide)) hf_o16 (fun q17 eq17 => ?_)
    refine va_get (D := (dC, dI)) (ci := 1) (v := .ref (ρ h0 0)) (C := RX1) (T := TX1) (N := 15) hx hb hts hfX1 hown hK hP q17 eq17 rfl 0 (by decide) (hts (.fieldLink RX1 40 "ColdShips$Planner" "world" "LColdShips$World;") wa_143) (fun _ h9 => h9) rfl dX1_extend_13 ?_
    refine tgk_11 hG y6 (fun y18 y18n y19 y19n y20 y21 y22 y23 y23m y23l y24 y24m y24l y25 y25m y25l y26 y26w y26m y26l y27 y27w y27m y27l y28 y28w y28m y28l y29 y29w y29m y29l => ?_)
    refine tpk_11 hT y6 (fun o30_x0 o30_x1 o30_x2 o30_x3 o30_x4 o30_x5 o30_x6 hf_o30 ro30_0 ro30_1 ro30_2 ro30_3 => ?_)
    refine tpk_pos (tp_in hG y6 (by decide)) hf_o30 (fun q31 eq31 => ?_)
    refine va_getN (D := (dC, dI)) (ci := 10) (v := .ref (ρ (ρ h0 0) 18)) (C := RX10) (T := TX10) (N := 19) hx hb hts hfX10 hown hK hP q31 eq31 rfl 18 (by decide) (va_Nw.use rfl (hN.1 (.fieldLinkNest RX1 50 "ColdShips$World" "cargoes" "LColdShips$Rows;" "ColdShips") nzw_86)) (fun _ h9 => h9) rfl dX1_extend_16 ?_
    refine tgk_5 hG y29 (fun y32 y32n y33a y33b y33c => ?_)
    refine tpk_5 hT y29 (fun o34_x0 o34_x2 hf_o34 ro34_0 ro34_1 => ?_)
    refine tpk_pos (tp_in hG y29 (by decide)) hf_o34 (fun q35 eq35 => ?_)
    have ro34_1 := tp_hu ro34_1
    refine va_getN (D := (dC, dI)) (ci := 4) (v := .int o34_x2) (C := RX4) (T := TX4) (N := 3) hx hb hts hfX4 hown hK hP q35 eq35 rfl 2 (by decide) (va_Nw.use rfl (hN.1 (.fieldLinkNest RX1 54 "ColdShips$Rows" "size" "I" "ColdShips") nzw_1)) (fun _ h9 => h9) rfl dX1_extend_19 ?_
    refine lv_icmp_ge (tgt := 137) hx hb dX1_extend_22 (by decide) (fun c36 => ?_) (fun c36 => ?_)
    · have ic36 : w2.toInt ≥ o34_x2.toInt := zi_ge rfl rfl c36
      exact W.vret hx hb hr (fun t ht hW => ⟨⟨f3, rfl, ⟨hT, hR, trivial⟩, by rw [ht]; exact hP, va_K.moved hW.alike hK, hD⟩, hS.F ht⟩) hS.2.2 dX1_extend_137
    · have ic36 : w2.toInt < o34_x2.toInt := zi_gef rfl rfl c36
      refine lv_iload hx hb dX1_extend_25 (lv_at hl 0 rfl) ?_
      refine lv_bipush (v := 6) hx hb dX1_extend_27 (by decide) ?_
      refine lv_icmp_ge (tgt := 137) hx hb dX1_extend_29 (by decide) (fun c37 => ?_) (fun c37 => ?_)
      · have ic37 : w2.toInt ≥ 6 := zi_ge rfl rfl c37
        exact W.vret hx hb hr (fun t ht hW => ⟨⟨f3, rfl, ⟨hT, hR, trivial⟩, by rw [ht]; exact hP, va_K.moved hW.alike hK, hD⟩, hS.F ht⟩) hS.2.2 dX1_extend_137
      · have ic37 : w2.toInt < 6 := zi_gef rfl rfl c37
        refine lv_iload_n hx hb dX1_extend_32 rfl (lv_at hl 4 rfl) ?_
        refine lv_iload hx hb dX1_extend_33 (lv_at hl 0 rfl) ?_
        refine lv_ishr hx hb dX1_extend_35 ?_
        refine lv_topi (fun z38 ez38 => ?_)
        refine lv_iconst (v := 1) hx hb dX1_extend_36 (by decide) ?_
        refine lv_iand hx hb dX1_extend_37 ?_
        refine lv_topi (fun z39 ez39 => ?_)
        have iz39 : 0 ≤ z39.toInt ∧ z39.toInt ≤ 1 := zb_mask ez39 (by decide)
        refine lv_if_ne (tgt := 131) hx hb dX1_extend_38 (by decide) (fun c40 => ?_) (fun c40 => ?_)
        · have ic40 : z39.toInt ≠ 0 := zi_ne rfl rfl c40
          obtain ⟨z41, ez41⟩ : ∃ y : Int32, y = w2 + 1 := ⟨_, rfl⟩
          refine lv_iinc (v := z41) (lv' := [(9, .int z41), (0, .ref h0), (1, .int v), (2, .int dd), (3, .int u), (4, .int a), (5, .int b), (6, .long x), (8, .int a6)]) hx hb dX1_extend_131 hl (k := 0) rfl (by rw [ez41]; rfl) (by decide) rfl (fun ls hl => ?_)
          have iz41 : z41.toInt = w2.toInt + 1 := zi_add ez41 rfl rfl (by omega) (by omega)
          refine lv_goto (tgt := 10) hx hb dX1_extend_134 (by decide) ?_
          exact ih4 _ _ _ _ (by rw [hn5]; omega) ⟨f3, z41, rfl, hT, hR, (by omega), hP, hD, hS, lv_sub hl [0, 1, 2, 3, 4, 5, 6, 7, 8] rfl⟩
        · have ic40 : z39.toInt = 0 := zi_nef rfl rfl c40
          refine lv_aload_n hx hb dX1_extend_41 rfl (lv_at hl 1 rfl) ?_
          refine lv_iload_n hx hb dX1_extend_42 rfl (lv_at hl 2 rfl) ?_
          refine lv_iload hx hb dX1_extend_43 (lv_at hl 0 rfl) ?_
          refine lv_iload hx hb dX1_extend_45 (lv_at hl 5 rfl) ?_
          refine lv_iload hx hb dX1_extend_47 (lv_at hl 6 rfl) ?_
          have hFc := tp_fr hD hS hA
          refine va_calli (va_runV (As := [.int v, .int w2, .int a, .int b]) (rest := []) ⟨hx, hb, hml, hown, hts⟩ (t_X1_reckon l dC dI _ Ω κ τ ν ρ L f3 hG hT h0 v w2 a b ht_h0 (by first | decide | omega)) (cwV 4 hts gX1_extend_X1_reckon rfl rfl rfl ⟨rfl, pd_X1_reckon⟩ ⟨Nat.le_of_ble_eq_true rfl, Nat.le_of_ble_eq_true rfl⟩) ⟨pz_blind, va_recv hK hP (ci := 1) (q0 := q17) rfl eq17, pz_pre hP hK hD hN⟩ rfl rfl hl.1 rfl (lv_room (Nat.le_of_ble_eq_true rfl)) dX1_extend_49 ⟨Nat.le_of_ble_eq_true rfl, Nat.le_of_ble_eq_true rfl⟩) hS (fun q _ h => hFc q h) hFc (fun r42 f44 t H1 locs ht hvm hw43 hB hz1 hk1 hS => ?_)
          refine tn_4 hw43 (fun hT hF45 hw43r hw43p => ?_); clear hw43
          have hR := hR.then hF45 (by decide)
          have hP := hB.1; rw [ht] at hP; have hD := tp_ad f44 hD; clear hB hFc hz1 hk1; subst ht; generalize t.heap = H at hP hS ⊢
          refine lv_if_eq (tgt := 131) hx hb dX1_extend_52 (by decide) (fun c46 => ?_) (fun c46 => ?_)
          · have ic46 : r42.toInt = 0 := zi_eq rfl rfl c46
            obtain ⟨z47, ez47⟩ : ∃ y : Int32, y = w2 + 1 := ⟨_, rfl⟩
            refine lv_iinc (v := z47) (lv' := [(9, .int z47), (0, .ref h0), (1, .int v), (2, .int dd), (3, .int u), (4, .int a), (5, .int b), (6, .long x), (8, .int a6)]) hx hb dX1_extend_131 hl (k := 0) rfl (by rw [ez47]; rfl) (by decide) rfl (fun ls hl => ?_)
            have iz47 : z47.toInt = w2.toInt + 1 := zi_add ez47 rfl rfl (by omega) (by omega)
            refine lv_goto (tgt := 10) hx hb dX1_extend_134 (by decide) ?_
            exact ih4 _ _ _ _ (by rw [hn5]; omega) ⟨f44, z47, rfl, hT, hR, (by omega), hP, hD, hS, lv_sub hl [0, 1, 2, 3, 4, 5, 6, 7, 8] rfl⟩
          · have ic46 : r42.toInt ≠ 0 := zi_eqf rfl rfl c46
            refine lv_iload_n hx hb dX1_extend_55 rfl (lv_at hl 4 rfl) ?_
            refine lv_iconst (v := 1) hx hb dX1_extend_56 (by decide) ?_
            refine lv_iload hx hb dX1_extend_57 (lv_at hl 0 rfl) ?_
            refine lv_ishl hx hb dX1_extend_59 ?_
            refine lv_topi (fun z48 ez48 => ?_)
            have iz48 : 1 ≤ z48.toInt ∧ z48.toInt ≤ 32 := zb_shl5 ez48 rfl (by omega) (by omega)
            refine lv_ior hx hb dX1_extend_60 ?_
            refine lv_topi (fun z49 ez49 => ?_)
            refine lv_istore (lv' := [(10, .int z49), (9, .int w2), (0, .ref h0), (1, .int v), (2, .int dd), (3, .int u), (4, .int a), (5, .int b), (6, .long x), (8, .int a6)]) hx hb dX1_extend_61 hl (by decide) rfl (fun ls hl => ?_)
            refine lv_iload hx hb dX1_extend_63 (lv_at hl 9 rfl) ?_
            refine lv_iload_n hx hb dX1_extend_65 rfl (lv_at hl 4 rfl) ?_
            refine lv_iconst (v := 3) hx hb dX1_extend_66 (by decide) ?_
            refine lv_iconst (v := 5) hx hb dX1_extend_67 (by decide) ?_
            refine lv_iload hx hb dX1_extend_68 (lv_at hl 1 rfl) ?_
            refine lv_isub hx hb dX1_extend_70 ?_
            refine lv_topi (fun z50 ez50 => ?_)
            have iz50 : z50.toInt = 5 - w2.toInt := zi_sub ez50 rfl rfl (by omega) (by omega)
            refine lv_imul hx hb dX1_extend_71 ?_
            refine lv_topi (fun z51 ez51 => ?_)
            have iz51 : z51.toInt = 3 * z50.toInt := zi_mul ez51 rfl rfl (by omega) (by omega)
            refine lv_ishl hx hb dX1_extend_72 ?_
            refine lv_topi (fun z52 ez52 => ?_)
            refine lv_ior hx hb dX1_extend_73 ?_
            refine lv_topi (fun z53 ez53 => ?_)
            refine lv_istore (lv' := [(11, .int z53), (10, .int z49), (9, .int w2), (0, .ref h0), (1, .int v), (2, .int dd), (3, .int u), (4, .int a), (5, .int b), (6, .long x), (8, .int a6)]) hx hb dX1_extend_74 hl (by decide) rfl (fun ls hl => ?_)
            refine lv_lload hx hb dX1_extend_76 (lv_at hl 9 rfl) ?_
            refine lv_aload_n hx hb dX1_extend_78 rfl (lv_at hl 3 rfl) ?_
            refine tpk_2 hT ht_h0 (fun o54_x5 o54_x6 o54_x7 o54_x8 o54_x9 hf_o54 ro54_0 => ?_)
            refine tpk_pos (tp_in hG ht_h0 (by decide)) hf_o54 (fun q55 eq55 => ?_)
            refine va_get (D := (dC, dI)) (ci := 1) (v := .long o54_x8) (C := RX1) (T := TX1) (N := 15) hx hb hts hfX1 hown hK hP q55 eq55 rfl 8 (by decide) (hts (.fieldLink RX1 108 "ColdShips$Planner" "worth" "J") wa_1356) (fun _ h9 => h9) rfl dX1_extend_79 ?_
            refine lv_ladd hx hb dX1_extend_82 ?_
            refine lv_topl (fun z56 ez56 => ?_)
            refine lv_lstore (lv' := [(12, .long z56), (11, .int z53), (10, .int z49), (9, .int w2), (0, .ref h0), (1, .int v), (2, .int dd), (3, .int u), (4, .int a), (5, .int b), (6, .long x), (8, .int a6)]) hx hb dX1_extend_83 hl (by decide) rfl (fun ls hl => ?_)
            refine lv_aload_n hx hb dX1_extend_85 rfl (lv_at hl 4 rfl) ?_
            refine lv_iload_n hx hb dX1_extend_86 rfl (lv_at hl 5 rfl) ?_
            refine lv_bipush (v := 64) hx hb dX1_extend_87 (by decide) ?_
            refine lv_imul hx hb dX1_extend_89 ?_
            refine lv_topi (fun z57 ez57 => ?_)
            have iz57 : z57.toInt = v.toInt * 64 := zi_mul ez57 rfl rfl (by omega) (by omega)
            refine lv_iload hx hb dX1_extend_90 (lv_at hl 2 rfl) ?_
            refine lv_iadd hx hb dX1_extend_92 ?_
            refine lv_topi (fun z58 ez58 => ?_)
            refine lv_lload hx hb dX1_extend_93 (lv_at hl 0 rfl) ?_
            refine lv_iload hx hb dX1_extend_95 (lv_at hl 1 rfl) ?_
            have hFc := tp_fr hD hS hA
            refine va_callv (va_runV (As := [.int z58, .long z56, .int z53]) (rest := []) ⟨hx, hb, hml, hown, hts⟩ (t_X1_keepRow l dC dI _ Ω κ τ ν ρ L f44 hG hT h0 z58 z56 z53 ht_h0) (cwV 3 hts gX1_extend_X1_keepRow rfl rfl rfl ⟨rfl, pd_X1_keepRow⟩ ⟨Nat.le_of_ble_eq_true rfl, Nat.le_of_ble_eq_true rfl⟩) ⟨pz_blind, va_recv hK hP (ci := 1) (q0 := q55) rfl eq55, pz_pre hP hK hD hN⟩ rfl rfl hl.1 rfl (lv_room (Nat.le_of_ble_eq_true rfl)) dX1_extend_97 ⟨Nat.le_of_ble_eq_true rfl, Nat.le_of_ble_eq_true rfl⟩) hS (fun q _ h => hFc q h) hFc (fun f61 t H1 locs ht hvm hw60 hB hz1 hk1 hS => ?_)
            refine tn_3 hw60 (fun hT hF62 hw60p => ?_); clear hw60
            have hR := hR.then hF62 (by decide)
            have hP := hB.1; rw [ht] at hP; have hD := tp_ad f61 hD; clear hB hFc hz1 hk1; subst ht; generalize t.heap = H at hP hS ⊢
            refine lv_aload_n hx hb dX1_extend_100 rfl (lv_at hl 4 rfl) ?_
            refine lv_iload_n hx hb dX1_extend_101 rfl (lv_at hl 5 rfl) ?_
            refine lv_iload_n hx hb dX1_extend_102 rfl (lv_at hl 6 rfl) ?_
            refine lv_iconst (v := 1) hx hb dX1_extend_103 (by decide) ?_
            refine lv_iadd hx hb dX1_extend_104 ?_
            refine lv_topi (fun z63 ez63 => ?_)
            have iz63 : z63.toInt = dd.toInt + 1 := zi_add ez63 rfl rfl (by omega) (by omega)
            refine lv_iload hx hb dX1_extend_105 (lv_at hl 2 rfl) ?_
            refine lv_aload_n hx hb dX1_extend_107 rfl (lv_at hl 4 rfl) ?_
            have hf_64 : f61 h0 = .inr (1, [.ref (ρ h0 0), .ref (ρ h0 1), .ref (ρ h0 2), .ref (ρ h0 3), .ref (ρ h0 4), .int o54_x5, .int o54_x6, .int o54_x7, .long o54_x8, .int o54_x9, .ref (ρ h0 10), .ref (ρ h0 11), .ref (ρ h0 12), .ref (ρ h0 13), .ref (ρ h0 14)]) := (hF62 _ (by rw [ht_h0]; decide)).trans hf_o54
            refine tpk_pos (tp_in hG ht_h0 (by decide)) hf_64 (fun q65 eq65 => ?_)
            refine va_get (D := (dC, dI)) (ci := 1) (v := .ref (ρ h0 0)) (C := RX1) (T := TX1) (N := 15) hx hb hts hfX1 hown hK hP q65 eq65 rfl 0 (by decide) (hts (.fieldLink RX1 40 "ColdShips$Planner" "world" "LColdShips$World;") wa_143) (fun _ h9 => h9) rfl dX1_extend_108 ?_
            have hf_66 : f44 (ρ h0 0) = .inr (10, [.int o30_x0, .int o30_x1, .int o30_x2, .int o30_x3, .int o30_x4, .int o30_x5, .int o30_x6, .ref (ρ (ρ h0 0) 7), .ref (ρ (ρ h0 0) 8), .ref (ρ (ρ h0 0) 9), .ref (ρ (ρ h0 0) 10), .ref (ρ (ρ h0 0) 11), .ref (ρ (ρ h0 0) 12), .ref (ρ (ρ h0 0) 13), .ref (ρ (ρ h0 0) 14), .ref (ρ (ρ h0 0) 15), .ref (ρ (ρ h0 0) 16), .ref (ρ (ρ h0 0) 17), .ref (ρ (ρ h0 0) 18)]) := (hF45 _ (by rw [tp_iu y6]; decide)).trans hf_o30
            have hf_67 : f61 (ρ h0 0) = .inr (10, [.int o30_x0, .int o30_x1, .int o30_x2, .int o30_x3, .int o30_x4, .int o30_x5, .int o30_x6, .ref (ρ (ρ h0 0) 7), .ref (ρ (ρ h0 0) 8), .ref (ρ (ρ h0 0) 9), .ref (ρ (ρ h0 0) 10), .ref (ρ (ρ h0 0) 11), .ref (ρ (ρ h0 0) 12), .ref (ρ (ρ h0 0) 13), .ref (ρ (ρ h0 0) 14), .ref (ρ (ρ h0 0) 15), .ref (ρ (ρ h0 0) 16), .ref (ρ (ρ h0 0) 17), .ref (ρ (ρ h0 0) 18)]) := (hF62 _ (by rw [tp_iu y6]; decide)).trans hf_66
            refine tpk_pos (tp_in hG y6 (by decide)) hf_67 (fun q68 eq68 => ?_)
            refine va_getN (D := (dC, dI)) (ci := 10) (v := .ref (ρ (ρ h0 0) 18)) (C := RX10) (T := TX10) (N := 19) hx hb hts hfX10 hown hK hP q68 eq68 rfl 18 (by decide) (va_Nw.use rfl (hN.1 (.fieldLinkNest RX1 50 "ColdShips$World" "cargoes" "LColdShips$Rows;" "ColdShips") nzw_86)) (fun _ h9 => h9) rfl dX1_extend_111 ?_
            refine lv_iload hx hb dX1_extend_114 (lv_at hl 3 rfl) ?_
            refine lv_iconst (v := 1) hx hb dX1_extend_116 (by decide) ?_
            have hf_69 : f44 (ρ (ρ h0 0) 18) = .inr (4, [.int o34_x0, .ref (ρ (ρ (ρ h0 0) 18) 1), .int o34_x2]) := (hF45 _ (by rw [tp_iu y29]; decide)).trans hf_o34
            have hf_70 : f61 (ρ (ρ h0 0) 18) = .inr (4, [.int o34_x0, .ref (ρ (ρ (ρ h0 0) 18) 1), .int o34_x2]) := (hF62 _ (by rw [tp_iu y29]; decide)).trans hf_69
            refine tpk_pos (tp_in hG y29 (by decide)) hf_70 (fun q71 eq71 => ?_)
            refine pz_calli (va_runV (As := [.int w2, .int 1]) (rest := [.int z49, .int z63, .int v, .ref h0]) ⟨hx, hb, hml, hown, hts⟩ (t_X4_number l dC dI _ Ω κ τ ν ρ L f61 hG hT (ρ (ρ h0 0) 18) w2 (1) y29) (cwV 2 hts gX1_extend_X4_number rfl rfl rfl ⟨rfl, pd_X4_number⟩ ⟨Nat.le_of_ble_eq_true rfl, Nat.le_of_ble_eq_true rfl⟩) ⟨pz_blind, va_recv hK hP (ci := 4) (q0 := q71) rfl eq71, pz_pre hP hK hD hN⟩ rfl rfl hl.1 rfl (lv_room (Nat.le_of_ble_eq_true rfl)) dX1_extend_117 ⟨Nat.le_of_ble_eq_true rfl, Nat.le_of_ble_eq_true rfl⟩) (fun r72 hw73 => ?_)
            obtain ⟨hw73r, hw73p⟩ := hw73
            refine lv_aload_n hx hb dX1_extend_120 rfl (lv_at hl 4 rfl) ?_
            refine va_get (D := (dC, dI)) (ci := 1) (v := .int o54_x7) (C := RX1) (T := TX1) (N := 15) hx hb hts hfX1 hown hK hP q65 eq65 rfl 7 (by decide) (hts (.fieldLink RX1 119 "ColdShips$Planner" "freeAt" "I") wa_1357) (fun _ h9 => h9) rfl dX1_extend_121 ?_
            refine lv_lload hx hb dX1_extend_124 (lv_at hl 0 rfl) ?_
            refine lv_iload hx hb dX1_extend_126 (lv_at hl 1 rfl) ?_
            have hFc := tp_fr hD hS hA
            refine va_callv (va_runV (As := [.int v, .int z63, .int z49, .int r72, .int o54_x7, .long z56, .int z53]) (rest := []) ⟨hx, hb, hml, hown, hts⟩ (t_X1_extend2 l dC dI _ Ω κ τ ν ρ L f61 hG hT h0 v z63 z49 r72 o54_x7 z56 z53 ht_h0 (by first | decide | omega) (by first | decide | omega)) (cwV 7 hts gX1_extend_X1_extend rfl rfl rfl ⟨rfl, pd_X1_extend⟩ ⟨Nat.le_of_ble_eq_true rfl, Nat.le_of_ble_eq_true rfl⟩) ⟨pz_blind, va_recv hK hP (ci := 1) (q0 := q65) rfl eq65, pz_pre hP hK hD hN⟩ rfl rfl hl.1 rfl (lv_room (Nat.le_of_ble_eq_true rfl)) dX1_extend_128 ⟨Nat.le_of_ble_eq_true rfl, Nat.le_of_ble_eq_true rfl⟩) hS (fun q _ h => hFc q h) hFc (fun f76 t H1 locs ht hvm hw75 hB hz1 hk1 hS => ?_)
            refine tn_3 hw75 (fun hT hF77 hw75p => ?_); clear hw75
            have hR := hR.then hF77 (by decide)
            have hP := hB.1; rw [ht] at hP; have hD := tp_ad f76 hD; clear hB hFc hz1 hk1; subst ht; generalize t.heap = H at hP hS ⊢
            obtain ⟨z78, ez78⟩ : ∃ y : Int32, y = w2 + 1 := ⟨_, rfl⟩
            refine lv_iinc (v := z78) (lv' := [(9, .int z78), (12, .long z56), (11, .int z53), (10, .int z49), (0, .ref h0), (1, .int v), (2, .int dd), (3, .int u), (4, .int a), (5, .int b), (6, .long x), (8, .int a6)]) hx hb dX1_extend_131 hl (k := 3) rfl (by rw [ez78]; rfl) (by decide) rfl (fun ls hl => ?_)
            have iz78 : z78.toInt = w2.toInt + 1 := zi_add ez78 rfl rfl (by omega) (by omega)
            refine lv_goto (tgt := 10) hx hb dX1_extend_134 (by decide) ?_
            exact ih4 _ _ _ _ (by rw [hn5]; omega) ⟨f76, z78, rfl, hT, hR, (by omega), hP, hD, hS, lv_sub hl [0, 4, 5, 6, 7, 8, 9, 10, 11] rfl⟩
  · have ic1 : dd.toInt ≥ 6 := zi_ltf rfl rfl c1
    exfalso; omega
end
