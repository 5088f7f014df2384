set_option maxHeartbeats 4000000 in
set_option maxRecDepth 100000 in
theorem t_X3_push (l : Launch) (dC : Nat → ClassId) (dI : Nat → Nat → Nat) (sz : Nat) (Ω : Nat → (Nat → Nat) → va_E → Prop) (κ : Nat → ClassId) (τ ν : Nat → Nat) (ρ : Nat → Nat → Nat) (L : List Nat) (f : Nat → va_E) (hG : tp_G τ ν ρ L) (hT : tp_T Ω κ τ ν ρ f) (h0 : Nat) (v : Int64) (ht_h0 : τ h0 = 4) : Met l yX3_push wqX3_push ({ frames := 2, cells := 0, slots := 0, locals := 400 }) (va_Pc [.ref h0, .long v] (pz_B dC dI (tp_K κ) (va_pl L f) sz)) (va_Qv (fun (f1 : Nat → va_E) => tp_T Ω κ τ ν ρ f1 ∧ tp_F τ [4, 21] f f1 ∧ True) (fun (f1 : Nat → va_E) (t : State) => pz_E dC dI (tp_K κ) (va_A (va_pl L f) sz) (va_pl L f1) t) (va_A (va_pl L f) sz)) 0 0 (va_A (va_pl L f) sz) := by
  refine Met.ofW (cc := cX3_push) (maxL := 3) (ret := none) (by decide) rfl ?_
  intro p e s m args below meth c s₁ B hml hv
  obtain ⟨rfl, hsz, hP, hK, hD0, hN⟩ := hv
  have hx := B.exec
  have hb := B.bytes
  have hr := B.returns
  have hts := fun (w : Cond) (h : w ∈ WALL) => atoms_spec (ws := wqX3_push) B.pre w (List.mem_cons_of_mem _ h)
  have hown : s.vm.findClass RX3 = some m.cls := findClass_of_methodNamed B.named
  have hlocks := B.notSynchronized
  subst hsz
  have hD := hD0.self (sz := s.heap.size)
  generalize hAe : va_A (va_pl L f) s.heap.size = A at hD ⊢
  have hA : ∀ q : Nat, s.heap.size ≤ q → A q := fun q h => by rw [← hAe]; exact Or.inr h
  have hS : va_S A s.heap s.heap [] := va_S.rf
  have hR : tp_F τ [4, 21] f f := tp_F.rf
  have hl := lv_entry ([.ref h0, .long v]) (n := 3) (Nat.le_of_ble_eq_true rfl)
  rw [lg_entry_eq]
  generalize (lg_sl ([.ref h0, .long v]) ++ List.replicate (3 - (lg_sl ([.ref h0, .long v])).length) Slot.unset).toArray = ls at hl ⊢
  have hl : lv_has ls 3 [(0, .ref h0), (1, .long v)] := hl
  refine lv_aload_n hx hb dX3_push_0 rfl (lv_at hl 0 rfl) ?_
  refine tgk_4 hG ht_h0 (fun y1 y2 y2n y3 y3n => ?_)
  refine tpk_4 hT ht_h0 (fun o4_x3 o4_x4 o4_x5 hf_o4 ro4_0 => ?_)
  refine tpk_pos (tp_in hG ht_h0 (by decide)) hf_o4 (fun q5 eq5 => ?_)
  refine va_get (D := (dC, dI)) (ci := 3) (v := .int o4_x3) (C := RX3) (T := TX3) (N := 6) hx hb hts hfX3 hown hK hP q5 eq5 rfl 3 (by decide) (hts (.fieldLink RX3 97 "ColdShips$Reckoner" "depth" "I") wa_1162) (fun _ h9 => h9) rfl dX3_push_1 ?_
  refine lv_aload_n hx hb dX3_push_4 rfl (lv_at hl 0 rfl) ?_
  refine va_get (D := (dC, dI)) (ci := 3) (v := .ref (ρ h0 2)) (C := RX3) (T := TX3) (N := 6) hx hb hts hfX3 hown hK hP q5 eq5 rfl 2 (by decide) (hts (.fieldLink RX3 15 "ColdShips$Reckoner" "stack" "[J") wa_128) (fun _ h9 => h9) rfl dX3_push_5 ?_
  refine tpk_21 hT y3 y3n (fun g7 hf_o6 => ?_)
  refine tpk_pos (tp_in hG y3 (by decide)) hf_o6 (fun q8 eq8 => ?_)
  refine va_alen hx hb hK hP q8 1 eq8 rfl (rfl : Int32.ofNat 64 = (64 : Int32)) dX3_push_8 ?_
  refine lv_icmp_ge (tgt := 32) hx hb dX3_push_9 (by decide) (fun c9 => ?_) (fun c9 => ?_)
  · have ic9 : o4_x3.toInt ≥ 64 := zi_ge rfl rfl c9
    exact W.vret hx hb hr (fun t ht hW => ⟨⟨f, rfl, ⟨hT, hR, trivial⟩, by rw [ht]; exact hP, va_K.moved hW.alike hK, hD⟩, hS.F ht⟩) hS.2.2 dX3_push_32
  · have ic9 : o4_x3.toInt < 64 := zi_gef rfl rfl c9
    refine lv_aload_n hx hb dX3_push_12 rfl (lv_at hl 0 rfl) ?_
    refine va_get (D := (dC, dI)) (ci := 3) (v := .ref (ρ h0 2)) (C := RX3) (T := TX3) (N := 6) hx hb hts hfX3 hown hK hP q5 eq5 rfl 2 (by decide) (hts (.fieldLink RX3 15 "ColdShips$Reckoner" "stack" "[J") wa_128) (fun _ h9 => h9) rfl dX3_push_13 ?_
    refine lv_aload_n hx hb dX3_push_16 rfl (lv_at hl 0 rfl) ?_
    refine va_get (D := (dC, dI)) (ci := 3) (v := .int o4_x3) (C := RX3) (T := TX3) (N := 6) hx hb hts hfX3 hown hK hP q5 eq5 rfl 3 (by decide) (hts (.fieldLink RX3 97 "ColdShips$Reckoner" "depth" "I") wa_1162) (fun _ h9 => h9) rfl dX3_push_17 ?_
    refine lv_lload_n hx hb dX3_push_20 rfl (lv_at hl 1 rfl) ?_
    refine va_last hx hb hK hP hD hS q8 1 eq8 rfl (vp_in_iff.mpr ⟨by omega, by omega⟩) dX3_push_21 (tp_k (.inl (κ 1, 64, .inr (.inl (vp_updL g7 o4_x3.toNatClampNeg v)))) hD (tp_in hG y3 (by decide)) eq8 (fun f10 H locs hP hD hS g12 k11 => ?_))
    have hT := hT.up y3 g12 k11 (tp_o21 y3n)
    have hR := hR.up y3 (by decide) k11
    generalize (vp_updL g7 o4_x3.toNatClampNeg v) = g13 at g12
    refine lv_aload_n hx hb dX3_push_22 rfl (lv_at hl 0 rfl) ?_
    refine lv_dup hx hb dX3_push_23 rfl ?_
    have hf_14 : f10 h0 = .inr (3, [.ref (ρ h0 0), .ref (ρ h0 1), .ref (ρ h0 2), .int o4_x3, .long o4_x4, .long o4_x5]) := (k11 _ (tp_ne ht_h0 y3 (by decide))).trans hf_o4
    refine tpk_pos (tp_in hG ht_h0 (by decide)) hf_14 (fun q15 eq15 => ?_)
    refine va_get (D := (dC, dI)) (ci := 3) (v := .int o4_x3) (C := RX3) (T := TX3) (N := 6) hx hb hts hfX3 hown hK hP q15 eq15 rfl 3 (by decide) (hts (.fieldLink RX3 97 "ColdShips$Reckoner" "depth" "I") wa_1162) (fun _ h9 => h9) rfl dX3_push_24 ?_
    refine lv_iconst (v := 1) hx hb dX3_push_27 (by decide) ?_
    refine lv_iadd hx hb dX3_push_28 ?_
    refine lv_topi (fun z16 ez16 => ?_)
    have iz16 : z16.toInt = o4_x3.toInt + 1 := zi_add ez16 rfl rfl (by omega) (by omega)
    refine va_put (D := (dC, dI)) (ci := 3) (v := .int z16) (ty := .int) (C := RX3) (T := TX3) (N := 6) hx hb hts hfX3 tyX3 tyX3_ok nmX3 hown hK hP hD hS q15 eq15 rfl 3 (by decide) (hts (.fieldLink RX3 97 "ColdShips$Reckoner" "depth" "I") wa_1162) (fun _ h9 => h9) rfl (tyX3_ok 3 (by decide)) rfl rfl (Nat.le_of_ble_eq_true rfl) dX3_push_29 (tp_k (.inr (3, [.ref (ρ h0 0), .ref (ρ h0 1), .ref (ρ h0 2), .int z16, .long o4_x4, .long o4_x5])) hD (tp_in hG ht_h0 (by decide)) eq15 (fun f17 H locs hP hD hS g19 k18 => ?_))
    have hT := hT.up ht_h0 g19 k18 ⟨_, _, _, rfl, (by first | decide | omega | (omega))⟩
    have hR := hR.up ht_h0 (by decide) k18
    exact W.vret hx hb hr (fun t ht hW => ⟨⟨f17, rfl, ⟨hT, hR, trivial⟩, by rw [ht]; exact hP, va_K.moved hW.alike hK, hD⟩, hS.F ht⟩) hS.2.2 dX3_push_32
set_option maxHeartbeats 4000000 in
set_option maxRecDepth 100000 in
theorem t_X3_pop (l : Launch) (dC : Nat → ClassId) (dI : Nat → Nat → Nat) (sz : Nat) (Ω : Nat → (Nat → Nat) → va_E → Prop) (κ : Nat → ClassId) (τ ν : Nat → Nat) (ρ : Nat → Nat → Nat) (L : List Nat) (f : Nat → va_E) (hG : tp_G τ ν ρ L) (hT : tp_T Ω κ τ ν ρ f) (h0 : Nat) (ht_h0 : τ h0 = 4) : Met l yX3_pop wqX3_pop ({ frames := 2, cells := 0, slots := 0, locals := 400 }) (va_Pc [.ref h0] (pz_B dC dI (tp_K κ) (va_pl L f) sz)) (va_Ql (fun (r : Int64) (f1 : Nat → va_E) => tp_T Ω κ τ ν ρ f1 ∧ tp_F τ [4] f f1 ∧ True ∧ True) (fun (f1 : Nat → va_E) (t : State) => pz_E dC dI (tp_K κ) (va_A (va_pl L f) sz) (va_pl L f1) t) (va_A (va_pl L f) sz)) 0 0 (va_A (va_pl L f) sz) := by
  refine Met.ofW (cc := cX3_pop) (maxL := 1) (ret := some .long) (by decide) rfl ?_
  intro p e s m args below meth c s₁ B hml hv
  obtain ⟨rfl, hsz, hP, hK, hD0, hN⟩ := hv
  have hx := B.exec
  have hb := B.bytes
  have hr := B.returns
  have hts := fun (w : Cond) (h : w ∈ WALL) => atoms_spec (ws := wqX3_pop) B.pre w (List.mem_cons_of_mem _ h)
  have hown : s.vm.findClass RX3 = some m.cls := findClass_of_methodNamed B.named
  have hlocks := B.notSynchronized
  subst hsz
  have hD := hD0.self (sz := s.heap.size)
  generalize hAe : va_A (va_pl L f) s.heap.size = A at hD ⊢
  have hA : ∀ q : Nat, s.heap.size ≤ q → A q := fun q h => by rw [← hAe]; exact Or.inr h
  have hS : va_S A s.heap s.heap [] := va_S.rf
  have hR : tp_F τ [4] f f := tp_F.rf
  have hl := lv_entry ([.ref h0]) (n := 1) (Nat.le_of_ble_eq_true rfl)
  rw [lg_entry_eq]
  generalize (lg_sl ([.ref h0]) ++ List.replicate (1 - (lg_sl ([.ref h0])).length) Slot.unset).toArray = ls at hl ⊢
  have hl : lv_has ls 1 [(0, .ref h0)] := hl
  refine lv_aload_n hx hb dX3_pop_0 rfl (lv_at hl 0 rfl) ?_
  refine tgk_4 hG ht_h0 (fun y1 y2 y2n y3 y3n => ?_)
  refine tpk_4 hT ht_h0 (fun o4_x3 o4_x4 o4_x5 hf_o4 ro4_0 => ?_)
  refine tpk_pos (tp_in hG ht_h0 (by decide)) hf_o4 (fun q5 eq5 => ?_)
  refine va_get (D := (dC, dI)) (ci := 3) (v := .int o4_x3) (C := RX3) (T := TX3) (N := 6) hx hb hts hfX3 hown hK hP q5 eq5 rfl 3 (by decide) (hts (.fieldLink RX3 97 "ColdShips$Reckoner" "depth" "I") wa_1162) (fun _ h9 => h9) rfl dX3_pop_1 ?_
  refine lv_if_ne (tgt := 9) hx hb dX3_pop_4 (by decide) (fun c6 => ?_) (fun c6 => ?_)
  · have ic6 : o4_x3.toInt ≠ 0 := zi_ne rfl rfl c6
    refine lv_aload_n hx hb dX3_pop_9 rfl (lv_at hl 0 rfl) ?_
    refine lv_dup hx hb dX3_pop_10 rfl ?_
    refine va_get (D := (dC, dI)) (ci := 3) (v := .int o4_x3) (C := RX3) (T := TX3) (N := 6) hx hb hts hfX3 hown hK hP q5 eq5 rfl 3 (by decide) (hts (.fieldLink RX3 97 "ColdShips$Reckoner" "depth" "I") wa_1162) (fun _ h9 => h9) rfl dX3_pop_11 ?_
    refine lv_iconst (v := 1) hx hb dX3_pop_14 (by decide) ?_
    refine lv_isub hx hb dX3_pop_15 ?_
    refine lv_topi (fun z7 ez7 => ?_)
    have iz7 : z7.toInt = o4_x3.toInt - 1 := zi_sub ez7 rfl rfl (by omega) (by omega)
    refine va_put (D := (dC, dI)) (ci := 3) (v := .int z7) (ty := .int) (C := RX3) (T := TX3) (N := 6) hx hb hts hfX3 tyX3 tyX3_ok nmX3 hown hK hP hD hS q5 eq5 rfl 3 (by decide) (hts (.fieldLink RX3 97 "ColdShips$Reckoner" "depth" "I") wa_1162) (fun _ h9 => h9) rfl (tyX3_ok 3 (by decide)) rfl rfl (Nat.le_of_ble_eq_true rfl) dX3_pop_16 (tp_k (.inr (3, [.ref (ρ h0 0), .ref (ρ h0 1), .ref (ρ h0 2), .int z7, .long o4_x4, .long o4_x5])) hD (tp_in hG ht_h0 (by decide)) eq5 (fun f8 H locs hP hD hS g10 k9 => ?_))
    have hT := hT.up ht_h0 g10 k9 ⟨_, _, _, rfl, (by first | decide | omega | (omega))⟩
    have hR := hR.up ht_h0 (by decide) k9
    refine lv_aload_n hx hb dX3_pop_19 rfl (lv_at hl 0 rfl) ?_
    refine tpk_pos (tp_in hG ht_h0 (by decide)) g10 (fun q11 eq11 => ?_)
    refine va_get (D := (dC, dI)) (ci := 3) (v := .ref (ρ h0 2)) (C := RX3) (T := TX3) (N := 6) hx hb hts hfX3 hown hK hP q11 eq11 rfl 2 (by decide) (hts (.fieldLink RX3 15 "ColdShips$Reckoner" "stack" "[J") wa_128) (fun _ h9 => h9) rfl dX3_pop_20 ?_
    refine lv_aload_n hx hb dX3_pop_23 rfl (lv_at hl 0 rfl) ?_
    refine va_get (D := (dC, dI)) (ci := 3) (v := .int z7) (C := RX3) (T := TX3) (N := 6) hx hb hts hfX3 hown hK hP q11 eq11 rfl 3 (by decide) (hts (.fieldLink RX3 97 "ColdShips$Reckoner" "depth" "I") wa_1162) (fun _ h9 => h9) rfl dX3_pop_24 ?_
    refine tpk_21 hT y3 y3n (fun g13 hf_o12 => ?_)
    refine tpk_pos (tp_in hG y3 (by decide)) hf_o12 (fun q14 eq14 => ?_)
    refine va_lald hx hb hK hP q14 1 eq14 rfl (vp_in_iff.mpr ⟨by omega, by omega⟩) dX3_pop_27 ?_
    refine lv_topl (fun z15 ez15 => ?_)
    exact W.lret (v := z15) hx hb hr (fun t ht hW => ⟨⟨z15, f8, rfl, ⟨hT, hR, trivial, trivial⟩, by rw [ht]; exact hP, va_K.moved hW.alike hK, hD⟩, hS.F ht⟩) hS.2.2 dX3_pop_28
  · have ic6 : o4_x3.toInt = 0 := zi_nef rfl rfl c6
    refine lv_lconst (v := 0) hx hb dX3_pop_7 (by decide) ?_
    exact W.lret (v := 0) hx hb hr (fun t ht hW => ⟨⟨0, f, rfl, ⟨hT, hR, trivial, trivial⟩, by rw [ht]; exact hP, va_K.moved hW.alike hK, hD⟩, hS.F ht⟩) hS.2.2 dX3_pop_8
set_option maxHeartbeats 4000000 in
set_option maxRecDepth 100000 in
theorem t_X3_pushSum (l : Launch) (dC : Nat → ClassId) (dI : Nat → Nat → Nat) (sz : Nat) (Ω : Nat → (Nat → Nat) → va_E → Prop) (κ : Nat → ClassId) (τ ν : Nat → Nat) (ρ : Nat → Nat → Nat) (L : List Nat) (f : Nat → va_E) (hG : tp_G τ ν ρ L) (hT : tp_T Ω κ τ ν ρ f) (h0 : Nat) (v : Int64) (ht_h0 : τ h0 = 4) : Met l yX3_pushSum wqX3_pushSum ({ frames := 3, cells := 0, slots := 0, locals := 800 }) (va_Pc [.ref h0, .long v] (pz_B dC dI (tp_K κ) (va_pl L f) sz)) (va_Qi (fun (r : Int32) (f1 : Nat → va_E) => tp_T Ω κ τ ν ρ f1 ∧ tp_F τ [4, 21] f f1 ∧ (0 ≤ r.toInt ∧ r.toInt ≤ 1) ∧ True) (fun (f1 : Nat → va_E) (t : State) => pz_E dC dI (tp_K κ) (va_A (va_pl L f) sz) (va_pl L f1) t) (va_A (va_pl L f) sz)) 0 0 (va_A (va_pl L f) sz) := by
  refine Met.ofW (cc := cX3_pushSum) (maxL := 3) (ret := some .boolean) (by decide) rfl ?_
  intro p e s m args below meth c s₁ B hml hv
  obtain ⟨rfl, hsz, hP, hK, hD0, hN⟩ := hv
  have hx := B.exec
  have hb := B.bytes
  have hr := B.returns
  have hts := fun (w : Cond) (h : w ∈ WALL) => atoms_spec (ws := wqX3_pushSum) B.pre w (List.mem_cons_of_mem _ h)
  have hown : s.vm.findClass RX3 = some m.cls := findClass_of_methodNamed B.named
  have hlocks := B.notSynchronized
  subst hsz
  have hD := hD0.self (sz := s.heap.size)
  generalize hAe : va_A (va_pl L f) s.heap.size = A at hD ⊢
  have hA : ∀ q : Nat, s.heap.size ≤ q → A q := fun q h => by rw [← hAe]; exact Or.inr h
  have hS : va_S A s.heap s.heap [] := va_S.rf
  have hR : tp_F τ [4, 21] f f := tp_F.rf
  have hl := lv_entry ([.ref h0, .long v]) (n := 3) (Nat.le_of_ble_eq_true rfl)
  rw [lg_entry_eq]
  generalize (lg_sl ([.ref h0, .long v]) ++ List.replicate (3 - (lg_sl ([.ref h0, .long v])).length) Slot.unset).toArray = ls at hl ⊢
  have hl : lv_has ls 3 [(0, .ref h0), (1, .long v)] := hl
  refine lv_aload_n hx hb dX3_pushSum_0 rfl (lv_at hl 0 rfl) ?_
  refine lv_lload_n hx hb dX3_pushSum_1 rfl (lv_at hl 1 rfl) ?_
  refine tgk_4 hG ht_h0 (fun y1 y2 y2n y3 y3n => ?_)
  refine tpk_4 hT ht_h0 (fun o4_x3 o4_x4 o4_x5 hf_o4 ro4_0 => ?_)
  refine tpk_pos (tp_in hG ht_h0 (by decide)) hf_o4 (fun q5 eq5 => ?_)
  have hFc := tp_fr hD hS hA
  refine va_callv (va_runV (As := [.long v]) (rest := []) ⟨hx, hb, hml, hown, hts⟩ (t_X3_push l dC dI _ Ω κ τ ν ρ L f hG hT h0 v ht_h0) (cwV 1 hts gX3_pushSum_X3_push rfl rfl rfl ⟨rfl, pd_X3_push⟩ ⟨Nat.le_of_ble_eq_true rfl, Nat.le_of_ble_eq_true rfl⟩) ⟨pz_blind, va_recv hK hP (ci := 3) (q0 := q5) rfl eq5, pz_pre hP hK hD hN⟩ rfl rfl hl.1 rfl (lv_room (Nat.le_of_ble_eq_true rfl)) dX3_pushSum_2 ⟨Nat.le_of_ble_eq_true rfl, Nat.le_of_ble_eq_true rfl⟩) hS (fun q _ h => hFc q h) hFc (fun f8 t H1 locs ht hvm hw7 hB hz1 hk1 hS => ?_)
  refine tn_3 hw7 (fun hT hF9 hw7p => ?_); clear hw7
  have hR := hR.then hF9 (by decide)
  have hP := hB.1; rw [ht] at hP; have hD := tp_ad f8 hD; clear hB hFc hz1 hk1; subst ht; generalize t.heap = H at hP hS ⊢
  refine lv_lload_n hx hb dX3_pushSum_5 rfl (lv_at hl 1 rfl) ?_
  refine va_mabs_long hx hb (by rw [hml]; exact hl.1.symm) hown (hts (.methodLink RX3 119 Lib.MathLoose.abs_long.x) wa_1176) (hts (.static Lib.MathLoose.abs_long.x) wa_1177) (hts (.initialized "java/lang/Math") wa_71) (hts (.code Lib.MathLoose.abs_long.x Lib.MathLoose.abs_long.code 2 (some .long)) wa_1178) (Nat.le_of_ble_eq_true rfl) (Nat.le_of_ble_eq_true rfl) (Nat.le_of_ble_eq_true rfl) (Nat.le_of_ble_eq_true rfl) dX3_pushSum_6 ?_
  refine lv_topl (fun z10 ez10 => ?_)
  refine lv_ldc2 (own := RX3) (v := 1000000000000) hx hb hown (hts (.constantLong RX3 123 (1000000000000)) wa_1179) dX3_pushSum_9 ?_
  refine W.lcmp hx hb dX3_pushSum_12 ?_
  refine lv_if_gt (tgt := 20) hx hb dX3_pushSum_13 (by decide) (fun c11 => ?_) (fun c11 => ?_)
  · have ic11 : z10.toInt > 1000000000000 := zl_gt rfl rfl c11
    refine lv_iconst (v := 0) hx hb dX3_pushSum_20 (by decide) ?_
    exact W.zret (v := 0) hx hb hr rfl (fun t ht hW => ⟨⟨0, f8, rfl, ⟨hT, hR, (by first | decide | omega), trivial⟩, by rw [ht]; exact hP, va_K.moved hW.alike hK, hD⟩, hS.F ht⟩) hS.2.2 dX3_pushSum_21
  · have ic11 : z10.toInt ≤ 1000000000000 := zl_gtf rfl rfl c11
    refine lv_iconst (v := 1) hx hb dX3_pushSum_16 (by decide) ?_
    refine lv_goto (tgt := 21) hx hb dX3_pushSum_17 (by decide) ?_
    exact W.zret (v := 1) hx hb hr rfl (fun t ht hW => ⟨⟨1, f8, rfl, ⟨hT, hR, (by first | decide | omega), trivial⟩, by rw [ht]; exact hP, va_K.moved hW.alike hK, hD⟩, hS.F ht⟩) hS.2.2 dX3_pushSum_21
set_option maxHeartbeats 4000000 in
set_option maxRecDepth 100000 in
theorem t_X3_combine (l : Launch) (dC : Nat → ClassId) (dI : Nat → Nat → Nat) (sz : Nat) (Ω : Nat → (Nat → Nat) → va_E → Prop) (κ : Nat → ClassId) (τ ν : Nat → Nat) (ρ : Nat → Nat → Nat) (L : List Nat) (f : Nat → va_E) (hG : tp_G τ ν ρ L) (hT : tp_T Ω κ τ ν ρ f) (h0 : Nat) (v : Int32) (ht_h0 : τ h0 = 4) : Met l yX3_combine wqX3_combine ({ frames := 4, cells := 0, slots := 0, locals := 1200 }) (va_Pc [.ref h0, .int v] (pz_B dC dI (tp_K κ) (va_pl L f) sz)) (va_Qi (fun (r : Int32) (f1 : Nat → va_E) => tp_T Ω κ τ ν ρ f1 ∧ tp_F τ [4, 21] f f1 ∧ (0 ≤ r.toInt ∧ r.toInt ≤ 1) ∧ True) (fun (f1 : Nat → va_E) (t : State) => pz_E dC dI (tp_K κ) (va_A (va_pl L f) sz) (va_pl L f1) t) (va_A (va_pl L f) sz)) 0 0 (va_A (va_pl L f) sz) := by
  refine Met.ofW (cc := cX3_combine) (maxL := 6) (ret := some .boolean) (by decide) rfl ?_
  intro p e s m args below meth c s₁ B hml hv
  obtain ⟨rfl, hsz, hP, hK, hD0, hN⟩ := hv
  have hx := B.exec
  have hb := B.bytes
  have hr := B.returns
  have hts := fun (w : Cond) (h : w ∈ WALL) => atoms_spec (ws := wqX3_combine) B.pre w (List.mem_cons_of_mem _ h)
  have hown : s.vm.findClass RX3 = some m.cls := findClass_of_methodNamed B.named
  have hlocks := B.notSynchronized
  subst hsz
  have hD := hD0.self (sz := s.heap.size)
  generalize hAe : va_A (va_pl L f) s.heap.size = A at hD ⊢
  have hA : ∀ q : Nat, s.heap.size ≤ q → A q := fun q h => by rw [← hAe]; exact Or.inr h
  have hS : va_S A s.heap s.heap [] := va_S.rf
  have hR : tp_F τ [4, 21] f f := tp_F.rf
  have hl := lv_entry ([.ref h0, .int v]) (n := 6) (Nat.le_of_ble_eq_true rfl)
  rw [lg_entry_eq]
  generalize (lg_sl ([.ref h0, .int v]) ++ List.replicate (6 - (lg_sl ([.ref h0, .int v])).length) Slot.unset).toArray = ls at hl ⊢
  have hl : lv_has ls 6 [(0, .ref h0), (1, .int v)] := hl
  refine lv_aload_n hx hb dX3_combine_0 rfl (lv_at hl 0 rfl) ?_
  refine tgk_4 hG ht_h0 (fun y1 y2 y2n y3 y3n => ?_)
  refine tpk_4 hT ht_h0 (fun o4_x3 o4_x4 o4_x5 hf_o4 ro4_0 => ?_)
  refine tpk_pos (tp_in hG ht_h0 (by decide)) hf_o4 (fun q5 eq5 => ?_)
  have hFc := tp_fr hD hS hA
  refine va_calll (va_runV (As := []) (rest := []) ⟨hx, hb, hml, hown, hts⟩ (t_X3_pop l dC dI _ Ω κ τ ν ρ L f hG hT h0 ht_h0) (cwV 0 hts gX3_combine_X3_pop rfl rfl rfl ⟨rfl, pd_X3_pop⟩ ⟨Nat.le_of_ble_eq_true rfl, Nat.le_of_ble_eq_true rfl⟩) ⟨pz_blind, va_recv hK hP (ci := 3) (q0 := q5) rfl eq5, pz_pre hP hK hD hN⟩ rfl rfl hl.1 rfl (lv_room (Nat.le_of_ble_eq_true rfl)) dX3_combine_1 ⟨Nat.le_of_ble_eq_true rfl, Nat.le_of_ble_eq_true rfl⟩) hS (fun q _ h => hFc q h) hFc (fun r6 f8 t H1 locs ht hvm hw7 hB hz1 hk1 hS => ?_)
  refine tn_4 hw7 (fun hT hF9 hw7r hw7p => ?_); clear hw7
  have hR := hR.then hF9 (by decide)
  have hP := hB.1; rw [ht] at hP; have hD := tp_ad f8 hD; clear hB hFc hz1 hk1; subst ht; generalize t.heap = H at hP hS ⊢
  refine lv_lstore_n (lv' := [(2, .long r6), (0, .ref h0), (1, .int v)]) hx hb dX3_combine_4 rfl hl (by decide) rfl (fun ls hl => ?_)
  refine lv_aload_n hx hb dX3_combine_5 rfl (lv_at hl 1 rfl) ?_
  refine tpk_4 hT ht_h0 (fun o10_x3 o10_x4 o10_x5 hf_o10 ro10_0 => ?_)
  refine tpk_pos (tp_in hG ht_h0 (by decide)) hf_o10 (fun q11 eq11 => ?_)
  have hFc := tp_fr hD hS hA
  refine va_calll (va_runV (As := []) (rest := []) ⟨hx, hb, hml, hown, hts⟩ (t_X3_pop l dC dI _ Ω κ τ ν ρ L f8 hG hT h0 ht_h0) (cwV 0 hts gX3_combine_X3_pop rfl rfl rfl ⟨rfl, pd_X3_pop⟩ ⟨Nat.le_of_ble_eq_true rfl, Nat.le_of_ble_eq_true rfl⟩) ⟨pz_blind, va_recv hK hP (ci := 3) (q0 := q11) rfl eq11, pz_pre hP hK hD hN⟩ rfl rfl hl.1 rfl (lv_room (Nat.le_of_ble_eq_true rfl)) dX3_combine_6 ⟨Nat.le_of_ble_eq_true rfl, Nat.le_of_ble_eq_true rfl⟩) hS (fun q _ h => hFc q h) hFc (fun r12 f14 t H1 locs ht hvm hw13 hB hz1 hk1 hS => ?_)
  refine tn_4 hw13 (fun hT hF15 hw13r hw13p => ?_); clear hw13
  have hR := hR.then hF15 (by decide)
  have hP := hB.1; rw [ht] at hP; have hD := tp_ad f14 hD; clear hB hFc hz1 hk1; subst ht; generalize t.heap = H at hP hS ⊢
  refine lv_lstore (lv' := [(4, .long r12), (2, .long r6), (0, .ref h0), (1, .int v)]) hx hb dX3_combine_9 hl (by decide) rfl (fun ls hl => ?_)
  refine lv_iload_n hx hb dX3_combine_11 rfl (lv_at hl 3 rfl) ?_
  rcases zi_sw v (-16) (-11) with h16 | h16
  · refine lv_tableOut (tgt := 167) hx hb dX3_combine_12 h16 (by decide) ?_
    refine lv_aload_n hx hb dX3_combine_167 rfl (lv_at hl 2 rfl) ?_
    refine lv_lload hx hb dX3_combine_168 (lv_at hl 0 rfl) ?_
    refine lv_lload_n hx hb dX3_combine_170 rfl (lv_at hl 1 rfl) ?_
    refine W.lcmp hx hb dX3_combine_171 ?_
    refine lv_if_ne (tgt := 179) hx hb dX3_combine_172 (by decide) (fun c17 => ?_) (fun c17 => ?_)
    · have ic17 : r12.toInt ≠ r6.toInt := zl_ne rfl rfl c17
      refine lv_lconst (v := 0) hx hb dX3_combine_179 (by decide) ?_
      refine tpk_4 hT ht_h0 (fun o18_x3 o18_x4 o18_x5 hf_o18 ro18_0 => ?_)
      refine tpk_pos (tp_in hG ht_h0 (by decide)) hf_o18 (fun q19 eq19 => ?_)
      have hFc := tp_fr hD hS hA
      refine va_calli (va_runV (As := [.long 0]) (rest := []) ⟨hx, hb, hml, hown, hts⟩ (t_X3_pushSum l dC dI _ Ω κ τ ν ρ L f14 hG hT h0 (0) ht_h0) (cwV 1 hts gX3_combine_X3_pushSum rfl rfl rfl ⟨rfl, pd_X3_pushSum⟩ ⟨Nat.le_of_ble_eq_true rfl, Nat.le_of_ble_eq_true rfl⟩) ⟨pz_blind, va_recv hK hP (ci := 3) (q0 := q19) rfl eq19, pz_pre hP hK hD hN⟩ rfl rfl hl.1 rfl (lv_room (Nat.le_of_ble_eq_true rfl)) dX3_combine_180 ⟨Nat.le_of_ble_eq_true rfl, Nat.le_of_ble_eq_true rfl⟩) hS (fun q _ h => hFc q h) hFc (fun r20 f22 t H1 locs ht hvm hw21 hB hz1 hk1 hS => ?_)
      refine tn_4 hw21 (fun hT hF23 hw21r hw21p => ?_); clear hw21
      have hR := hR.then hF23 (by decide)
      have hP := hB.1; rw [ht] at hP; have hD := tp_ad f22 hD; clear hB hFc hz1 hk1; subst ht; generalize t.heap = H at hP hS ⊢
      exact W.zret (v := r20) hx hb hr (zi_narZ (by omega) (by omega)) (fun t ht hW => ⟨⟨r20, f22, rfl, ⟨hT, hR, (by first | decide | omega), trivial⟩, by rw [ht]; exact hP, va_K.moved hW.alike hK, hD⟩, hS.F ht⟩) hS.2.2 dX3_combine_183
    · have ic17 : r12.toInt = r6.toInt := zl_nef rfl rfl c17
      refine lv_lconst (v := 1) hx hb dX3_combine_175 (by decide) ?_
      refine lv_goto (tgt := 180) hx hb dX3_combine_176 (by decide) ?_
      refine tpk_4 hT ht_h0 (fun o24_x3 o24_x4 o24_x5 hf_o24 ro24_0 => ?_)
      refine tpk_pos (tp_in hG ht_h0 (by decide)) hf_o24 (fun q25 eq25 => ?_)
      have hFc := tp_fr hD hS hA
      refine va_calli (va_runV (As := [.long 1]) (rest := []) ⟨hx, hb, hml, hown, hts⟩ (t_X3_pushSum l dC dI _ Ω κ τ ν ρ L f14 hG hT h0 (1) ht_h0) (cwV 1 hts gX3_combine_X3_pushSum rfl rfl rfl ⟨rfl, pd_X3_pushSum⟩ ⟨Nat.le_of_ble_eq_true rfl, Nat.le_of_ble_eq_true rfl⟩) ⟨pz_blind, va_recv hK hP (ci := 3) (q0 := q25) rfl eq25, pz_pre hP hK hD hN⟩ rfl rfl hl.1 rfl (lv_room (Nat.le_of_ble_eq_true rfl)) dX3_combine_180 ⟨Nat.le_of_ble_eq_true rfl, Nat.le_of_ble_eq_true rfl⟩) hS (fun q _ h => hFc q h) hFc (fun r26 f28 t H1 locs ht hvm hw27 hB hz1 hk1 hS => ?_)
      refine tn_4 hw27 (fun hT hF29 hw27r hw27p => ?_); clear hw27
      have hR := hR.then hF29 (by decide)
      have hP := hB.1; rw [ht] at hP; have hD := tp_ad f28 hD; clear hB hFc hz1 hk1; subst ht; generalize t.heap = H at hP hS ⊢
      exact W.zret (v := r26) hx hb hr (zi_narZ (by omega) (by omega)) (fun t ht hW => ⟨⟨r26, f28, rfl, ⟨hT, hR, (by first | decide | omega), trivial⟩, by rw [ht]; exact hP, va_K.moved hW.alike hK, hD⟩, hS.F ht⟩) hS.2.2 dX3_combine_183
  · rcases (show v.toInt = (-16) ∨ v.toInt = (-15) ∨ v.toInt = (-14) ∨ v.toInt = (-13) ∨ v.toInt = (-12) ∨ v.toInt = (-11) by omega) with h16k | h16k | h16k | h16k | h16k | h16k
    · refine lv_tableIn (tgt := 150) hx hb dX3_combine_12 (by omega) (by omega) (by rw [h16k]; rfl) (by decide) ?_
      refine lv_aload_n hx hb dX3_combine_150 rfl (lv_at hl 2 rfl) ?_
      refine lv_lload hx hb dX3_combine_151 (lv_at hl 0 rfl) ?_
      refine lv_lload_n hx hb dX3_combine_153 rfl (lv_at hl 1 rfl) ?_
      refine W.lcmp hx hb dX3_combine_154 ?_
      refine lv_if_le (tgt := 162) hx hb dX3_combine_155 (by decide) (fun c30 => ?_) (fun c30 => ?_)
      · have ic30 : r12.toInt ≤ r6.toInt := zl_le rfl rfl c30
        refine lv_lconst (v := 0) hx hb dX3_combine_162 (by decide) ?_
        refine tpk_4 hT ht_h0 (fun o31_x3 o31_x4 o31_x5 hf_o31 ro31_0 => ?_)
        refine tpk_pos (tp_in hG ht_h0 (by decide)) hf_o31 (fun q32 eq32 => ?_)
        have hFc := tp_fr hD hS hA
        refine va_calli (va_runV (As := [.long 0]) (rest := []) ⟨hx, hb, hml, hown, hts⟩ (t_X3_pushSum l dC dI _ Ω κ τ ν ρ L f14 hG hT h0 (0) ht_h0) (cwV 1 hts gX3_combine_X3_pushSum rfl rfl rfl ⟨rfl, pd_X3_pushSum⟩ ⟨Nat.le_of_ble_eq_true rfl, Nat.le_of_ble_eq_true rfl⟩) ⟨pz_blind, va_recv hK hP (ci := 3) (q0 := q32) rfl eq32, pz_pre hP hK hD hN⟩ rfl rfl hl.1 rfl (lv_room (Nat.le_of_ble_eq_true rfl)) dX3_combine_163 ⟨Nat.le_of_ble_eq_true rfl, Nat.le_of_ble_eq_true rfl⟩) hS (fun q _ h => hFc q h) hFc (fun r33 f35 t H1 locs ht hvm hw34 hB hz1 hk1 hS => ?_)
        refine tn_4 hw34 (fun hT hF36 hw34r hw34p => ?_); clear hw34
        have hR := hR.then hF36 (by decide)
        have hP := hB.1; rw [ht] at hP; have hD := tp_ad f35 hD; clear hB hFc hz1 hk1; subst ht; generalize t.heap = H at hP hS ⊢
        exact W.zret (v := r33) hx hb hr (zi_narZ (by omega) (by omega)) (fun t ht hW => ⟨⟨r33, f35, rfl, ⟨hT, hR, (by first | decide | omega), trivial⟩, by rw [ht]; exact hP, va_K.moved hW.alike hK, hD⟩, hS.F ht⟩) hS.2.2 dX3_combine_166
      · have ic30 : r12.toInt > r6.toInt := zl_lef rfl rfl c30
        refine lv_lconst (v := 1) hx hb dX3_combine_158 (by decide) ?_
        refine lv_goto (tgt := 163) hx hb dX3_combine_159 (by decide) ?_
        refine tpk_4 hT ht_h0 (fun o37_x3 o37_x4 o37_x5 hf_o37 ro37_0 => ?_)
        refine tpk_pos (tp_in hG ht_h0 (by decide)) hf_o37 (fun q38 eq38 => ?_)
        have hFc := tp_fr hD hS hA
        refine va_calli (va_runV (As := [.long 1]) (rest := []) ⟨hx, hb, hml, hown, hts⟩ (t_X3_pushSum l dC dI _ Ω κ τ ν ρ L f14 hG hT h0 (1) ht_h0) (cwV 1 hts gX3_combine_X3_pushSum rfl rfl rfl ⟨rfl, pd_X3_pushSum⟩ ⟨Nat.le_of_ble_eq_true rfl, Nat.le_of_ble_eq_true rfl⟩) ⟨pz_blind, va_recv hK hP (ci := 3) (q0 := q38) rfl eq38, pz_pre hP hK hD hN⟩ rfl rfl hl.1 rfl (lv_room (Nat.le_of_ble_eq_true rfl)) dX3_combine_163 ⟨Nat.le_of_ble_eq_true rfl, Nat.le_of_ble_eq_true rfl⟩) hS (fun q _ h => hFc q h) hFc (fun r39 f41 t H1 locs ht hvm hw40 hB hz1 hk1 hS => ?_)
        refine tn_4 hw40 (fun hT hF42 hw40r hw40p => ?_); clear hw40
        have hR := hR.then hF42 (by decide)
        have hP := hB.1; rw [ht] at hP; have hD := tp_ad f41 hD; clear hB hFc hz1 hk1; subst ht; generalize t.heap = H at hP hS ⊢
        exact W.zret (v := r39) hx hb hr (zi_narZ (by omega) (by omega)) (fun t ht hW => ⟨⟨r39, f41, rfl, ⟨hT, hR, (by first | decide | omega), trivial⟩, by rw [ht]; exact hP, va_K.moved hW.alike hK, hD⟩, hS.F ht⟩) hS.2.2 dX3_combine_166
    · refine lv_tableIn (tgt := 133) hx hb dX3_combine_12 (by omega) (by omega) (by rw [h16k]; rfl) (by decide) ?_
      refine lv_aload_n hx hb dX3_combine_133 rfl (lv_at hl 2 rfl) ?_
      refine lv_lload hx hb dX3_combine_134 (lv_at hl 0 rfl) ?_
      refine lv_lload_n hx hb dX3_combine_136 rfl (lv_at hl 1 rfl) ?_
      refine W.lcmp hx hb dX3_combine_137 ?_
      refine lv_if_ge (tgt := 145) hx hb dX3_combine_138 (by decide) (fun c43 => ?_) (fun c43 => ?_)
      · have ic43 : r12.toInt ≥ r6.toInt := zl_ge rfl rfl c43
        refine lv_lconst (v := 0) hx hb dX3_combine_145 (by decide) ?_
        refine tpk_4 hT ht_h0 (fun o44_x3 o44_x4 o44_x5 hf_o44 ro44_0 => ?_)
        refine tpk_pos (tp_in hG ht_h0 (by decide)) hf_o44 (fun q45 eq45 => ?_)
        have hFc := tp_fr hD hS hA
        refine va_calli (va_runV (As := [.long 0]) (rest := []) ⟨hx, hb, hml, hown, hts⟩ (t_X3_pushSum l dC dI _ Ω κ τ ν ρ L f14 hG hT h0 (0) ht_h0) (cwV 1 hts gX3_combine_X3_pushSum rfl rfl rfl ⟨rfl, pd_X3_pushSum⟩ ⟨Nat.le_of_ble_eq_true rfl, Nat.le_of_ble_eq_true rfl⟩) ⟨pz_blind, va_recv hK hP (ci := 3) (q0 := q45) rfl eq45, pz_pre hP hK hD hN⟩ rfl rfl hl.1 rfl (lv_room (Nat.le_of_ble_eq_true rfl)) dX3_combine_146 ⟨Nat.le_of_ble_eq_true rfl, Nat.le_of_ble_eq_true rfl⟩) hS (fun q _ h => hFc q h) hFc (fun r46 f48 t H1 locs ht hvm hw47 hB hz1 hk1 hS => ?_)
        refine tn_4 hw47 (fun hT hF49 hw47r hw47p => ?_); clear hw47
        have hR := hR.then hF49 (by decide)
        have hP := hB.1; rw [ht] at hP; have hD := tp_ad f48 hD; clear hB hFc hz1 hk1; subst ht; generalize t.heap = H at hP hS ⊢
        exact W.zret (v := r46) hx hb hr (zi_narZ (by omega) (by omega)) (fun t ht hW => ⟨⟨r46, f48, rfl, ⟨hT, hR, (by first | decide | omega), trivial⟩, by rw [ht]; exact hP, va_K.moved hW.alike hK, hD⟩, hS.F ht⟩) hS.2.2 dX3_combine_149
      · have ic43 : r12.toInt < r6.toInt := zl_gef rfl rfl c43
        refine lv_lconst (v := 1) hx hb dX3_combine_141 (by decide) ?_
        refine lv_goto (tgt := 146) hx hb dX3_combine_142 (by decide) ?_
        refine tpk_4 hT ht_h0 (fun o50_x3 o50_x4 o50_x5 hf_o50 ro50_0 => ?_)
        refine tpk_pos (tp_in hG ht_h0 (by decide)) hf_o50 (fun q51 eq51 => ?_)
        have hFc := tp_fr hD hS hA
        refine va_calli (va_runV (As := [.long 1]) (rest := []) ⟨hx, hb, hml, hown, hts⟩ (t_X3_pushSum l dC dI _ Ω κ τ ν ρ L f14 hG hT h0 (1) ht_h0) (cwV 1 hts gX3_combine_X3_pushSum rfl rfl rfl ⟨rfl, pd_X3_pushSum⟩ ⟨Nat.le_of_ble_eq_true rfl, Nat.le_of_ble_eq_true rfl⟩) ⟨pz_blind, va_recv hK hP (ci := 3) (q0 := q51) rfl eq51, pz_pre hP hK hD hN⟩ rfl rfl hl.1 rfl (lv_room (Nat.le_of_ble_eq_true rfl)) dX3_combine_146 ⟨Nat.le_of_ble_eq_true rfl, Nat.le_of_ble_eq_true rfl⟩) hS (fun q _ h => hFc q h) hFc (fun r52 f54 t H1 locs ht hvm hw53 hB hz1 hk1 hS => ?_)
        refine tn_4 hw53 (fun hT hF55 hw53r hw53p => ?_); clear hw53
        have hR := hR.then hF55 (by decide)
        have hP := hB.1; rw [ht] at hP; have hD := tp_ad f54 hD; clear hB hFc hz1 hk1; subst ht; generalize t.heap = H at hP hS ⊢
        exact W.zret (v := r52) hx hb hr (zi_narZ (by omega) (by omega)) (fun t ht hW => ⟨⟨r52, f54, rfl, ⟨hT, hR, (by first | decide | omega), trivial⟩, by rw [ht]; exact hP, va_K.moved hW.alike hK, hD⟩, hS.F ht⟩) hS.2.2 dX3_combine_149
    · refine lv_tableIn (tgt := 110) hx hb dX3_combine_12 (by omega) (by omega) (by rw [h16k]; rfl) (by decide) ?_
      refine lv_lload_n hx hb dX3_combine_110 rfl (lv_at hl 1 rfl) ?_
      refine lv_lconst (v := 0) hx hb dX3_combine_111 (by decide) ?_
      refine W.lcmp hx hb dX3_combine_112 ?_
      refine lv_if_eq (tgt := 131) hx hb dX3_combine_113 (by decide) (fun c56 => ?_) (fun c56 => ?_)
      · have ic56 : r6.toInt = 0 := zl_eq rfl rfl c56
        refine lv_iconst (v := 0) hx hb dX3_combine_131 (by decide) ?_
        exact W.zret (v := 0) hx hb hr rfl (fun t ht hW => ⟨⟨0, f14, rfl, ⟨hT, hR, (by first | decide | omega), trivial⟩, by rw [ht]; exact hP, va_K.moved hW.alike hK, hD⟩, hS.F ht⟩) hS.2.2 dX3_combine_132
      · have ic56 : r6.toInt ≠ 0 := zl_eqf rfl rfl c56
        refine lv_aload_n hx hb dX3_combine_116 rfl (lv_at hl 2 rfl) ?_
        refine lv_lload hx hb dX3_combine_117 (lv_at hl 0 rfl) ?_
        refine lv_lload_n hx hb dX3_combine_119 rfl (lv_at hl 1 rfl) ?_
        refine lv_ldiv hx hb dX3_combine_120 (zl_nz (by omega) rfl) ?_
        refine lv_topl (fun z57 ez57 => ?_)
        refine tpk_4 hT ht_h0 (fun o58_x3 o58_x4 o58_x5 hf_o58 ro58_0 => ?_)
        refine tpk_pos (tp_in hG ht_h0 (by decide)) hf_o58 (fun q59 eq59 => ?_)
        have hFc := tp_fr hD hS hA
        refine va_calli (va_runV (As := [.long z57]) (rest := []) ⟨hx, hb, hml, hown, hts⟩ (t_X3_pushSum l dC dI _ Ω κ τ ν ρ L f14 hG hT h0 z57 ht_h0) (cwV 1 hts gX3_combine_X3_pushSum rfl rfl rfl ⟨rfl, pd_X3_pushSum⟩ ⟨Nat.le_of_ble_eq_true rfl, Nat.le_of_ble_eq_true rfl⟩) ⟨pz_blind, va_recv hK hP (ci := 3) (q0 := q59) rfl eq59, pz_pre hP hK hD hN⟩ rfl rfl hl.1 rfl (lv_room (Nat.le_of_ble_eq_true rfl)) dX3_combine_121 ⟨Nat.le_of_ble_eq_true rfl, Nat.le_of_ble_eq_true rfl⟩) hS (fun q _ h => hFc q h) hFc (fun r60 f62 t H1 locs ht hvm hw61 hB hz1 hk1 hS => ?_)
        refine tn_4 hw61 (fun hT hF63 hw61r hw61p => ?_); clear hw61
        have hR := hR.then hF63 (by decide)
        have hP := hB.1; rw [ht] at hP; have hD := tp_ad f62 hD; clear hB hFc hz1 hk1; subst ht; generalize t.heap = H at hP hS ⊢
        refine lv_if_eq (tgt := 131) hx hb dX3_combine_124 (by decide) (fun c64 => ?_) (fun c64 => ?_)
        · have ic64 : r60.toInt = 0 := zi_eq rfl rfl c64
          refine lv_iconst (v := 0) hx hb dX3_combine_131 (by decide) ?_
          exact W.zret (v := 0) hx hb hr rfl (fun t ht hW => ⟨⟨0, f62, rfl, ⟨hT, hR, (by first | decide | omega), trivial⟩, by rw [ht]; exact hP, va_K.moved hW.alike hK, hD⟩, hS.F ht⟩) hS.2.2 dX3_combine_132
        · have ic64 : r60.toInt ≠ 0 := zi_eqf rfl rfl c64
          refine lv_iconst (v := 1) hx hb dX3_combine_127 (by decide) ?_
          refine lv_goto (tgt := 132) hx hb dX3_combine_128 (by decide) ?_
          exact W.zret (v := 1) hx hb hr rfl (fun t ht hW => ⟨⟨1, f62, rfl, ⟨hT, hR, (by first | decide | omega), trivial⟩, by rw [ht]; exact hP, va_K.moved hW.alike hK, hD⟩, hS.F ht⟩) hS.2.2 dX3_combine_132
    · refine lv_tableIn (tgt := 70) hx hb dX3_combine_12 (by omega) (by omega) (by rw [h16k]; rfl) (by decide) ?_
      refine lv_lload_n hx hb dX3_combine_70 rfl (lv_at hl 1 rfl) ?_
      refine lv_lconst (v := 0) hx hb dX3_combine_71 (by decide) ?_
      refine tp_join 93 (fun H locs ls stk => stk = [] ∧ va_P (dC, dI) vwCl (va_pl L f14) H ∧ va_D A (va_pl L f14) ∧ va_S A s.heap H locs ∧ lv_has ls 6 [(4, .long r12), (2, .long r6), (0, .ref h0), (1, .int v)]) ?_ (fun hj65 => ?_)
      · intro H locs ls stk hI
        refine tn_5 hI (fun e90 hP hD hS hl => ?_)
        clear hI; subst e90
        refine lv_aload_n hx hb dX3_combine_93 rfl (lv_at hl 2 rfl) ?_
        refine lv_lload hx hb dX3_combine_94 (lv_at hl 0 rfl) ?_
        refine lv_lload_n hx hb dX3_combine_96 rfl (lv_at hl 1 rfl) ?_
        refine lv_lmul hx hb dX3_combine_97 ?_
        refine lv_topl (fun z66 ez66 => ?_)
        refine tpk_4 hT ht_h0 (fun o67_x3 o67_x4 o67_x5 hf_o67 ro67_0 => ?_)
        refine tpk_pos (tp_in hG ht_h0 (by decide)) hf_o67 (fun q68 eq68 => ?_)
        have hFc := tp_fr hD hS hA
        refine va_calli (va_runV (As := [.long z66]) (rest := []) ⟨hx, hb, hml, hown, hts⟩ (t_X3_pushSum l dC dI _ Ω κ τ ν ρ L f14 hG hT h0 z66 ht_h0) (cwV 1 hts gX3_combine_X3_pushSum rfl rfl rfl ⟨rfl, pd_X3_pushSum⟩ ⟨Nat.le_of_ble_eq_true rfl, Nat.le_of_ble_eq_true rfl⟩) ⟨pz_blind, va_recv hK hP (ci := 3) (q0 := q68) rfl eq68, pz_pre hP hK hD hN⟩ rfl rfl hl.1 rfl (lv_room (Nat.le_of_ble_eq_true rfl)) dX3_combine_98 ⟨Nat.le_of_ble_eq_true rfl, Nat.le_of_ble_eq_true rfl⟩) hS (fun q _ h => hFc q h) hFc (fun r69 f71 t H1 locs ht hvm hw70 hB hz1 hk1 hS => ?_)
        refine tn_4 hw70 (fun hT hF72 hw70r hw70p => ?_); clear hw70
        have hR := hR.then hF72 (by decide)
        have hP := hB.1; rw [ht] at hP; have hD := tp_ad f71 hD; clear hB hFc hz1 hk1; subst ht; generalize t.heap = H at hP hS ⊢
        refine lv_if_eq (tgt := 108) hx hb dX3_combine_101 (by decide) (fun c73 => ?_) (fun c73 => ?_)
        · have ic73 : r69.toInt = 0 := zi_eq rfl rfl c73
          refine lv_iconst (v := 0) hx hb dX3_combine_108 (by decide) ?_
          exact W.zret (v := 0) hx hb hr rfl (fun t ht hW => ⟨⟨0, f71, rfl, ⟨hT, hR, (by first | decide | omega), trivial⟩, by rw [ht]; exact hP, va_K.moved hW.alike hK, hD⟩, hS.F ht⟩) hS.2.2 dX3_combine_109
        · have ic73 : r69.toInt ≠ 0 := zi_eqf rfl rfl c73
          refine lv_iconst (v := 1) hx hb dX3_combine_104 (by decide) ?_
          refine lv_goto (tgt := 109) hx hb dX3_combine_105 (by decide) ?_
          exact W.zret (v := 1) hx hb hr rfl (fun t ht hW => ⟨⟨1, f71, rfl, ⟨hT, hR, (by first | decide | omega), trivial⟩, by rw [ht]; exact hP, va_K.moved hW.alike hK, hD⟩, hS.F ht⟩) hS.2.2 dX3_combine_109
      · refine W.lcmp hx hb dX3_combine_72 ?_
        refine lv_if_eq (tgt := 93) hx hb dX3_combine_73 (by decide) (fun c74 => ?_) (fun c74 => ?_)
        · have ic74 : r6.toInt = 0 := zl_eq rfl rfl c74
          exact hj65 _ _ _ _ ⟨rfl, hP, hD, hS, lv_sub hl [0, 1, 2, 3] rfl⟩
        · have ic74 : r6.toInt ≠ 0 := zl_eqf rfl rfl c74
          refine lv_lload hx hb dX3_combine_76 (lv_at hl 0 rfl) ?_
          refine va_mabs_long hx hb (by rw [hml]; exact hl.1.symm) hown (hts (.methodLink RX3 119 Lib.MathLoose.abs_long.x) wa_1176) (hts (.static Lib.MathLoose.abs_long.x) wa_1177) (hts (.initialized "java/lang/Math") wa_71) (hts (.code Lib.MathLoose.abs_long.x Lib.MathLoose.abs_long.code 2 (some .long)) wa_1178) (Nat.le_of_ble_eq_true rfl) (Nat.le_of_ble_eq_true rfl) (Nat.le_of_ble_eq_true rfl) (Nat.le_of_ble_eq_true rfl) dX3_combine_78 ?_
          refine lv_topl (fun z75 ez75 => ?_)
          refine lv_ldc2 (own := RX3) (v := 1000000000000) hx hb hown (hts (.constantLong RX3 123 (1000000000000)) wa_1179) dX3_combine_81 ?_
          refine lv_lload_n hx hb dX3_combine_84 rfl (lv_at hl 1 rfl) ?_
          refine va_mabs_long hx hb (by rw [hml]; exact hl.1.symm) hown (hts (.methodLink RX3 119 Lib.MathLoose.abs_long.x) wa_1176) (hts (.static Lib.MathLoose.abs_long.x) wa_1177) (hts (.initialized "java/lang/Math") wa_71) (hts (.code Lib.MathLoose.abs_long.x Lib.MathLoose.abs_long.code 2 (some .long)) wa_1178) (Nat.le_of_ble_eq_true rfl) (Nat.le_of_ble_eq_true rfl) (Nat.le_of_ble_eq_true rfl) (Nat.le_of_ble_eq_true rfl) dX3_combine_85 ?_
          refine lv_topl (fun z76 ez76 => ?_)
          refine lv_ldiv hx hb dX3_combine_88 (zl_absnz ez76 (by omega)) ?_
          refine lv_topl (fun z77 ez77 => ?_)
          refine W.lcmp hx hb dX3_combine_89 ?_
          refine lv_if_gt (tgt := 108) hx hb dX3_combine_90 (by decide) (fun c78 => ?_) (fun c78 => ?_)
          · have ic78 : z75.toInt > z77.toInt := zl_gt rfl rfl c78
            refine lv_iconst (v := 0) hx hb dX3_combine_108 (by decide) ?_
            exact W.zret (v := 0) hx hb hr rfl (fun t ht hW => ⟨⟨0, f14, rfl, ⟨hT, hR, (by first | decide | omega), trivial⟩, by rw [ht]; exact hP, va_K.moved hW.alike hK, hD⟩, hS.F ht⟩) hS.2.2 dX3_combine_109
          · have ic78 : z75.toInt ≤ z77.toInt := zl_gtf rfl rfl c78
            exact hj65 _ _ _ _ ⟨rfl, hP, hD, hS, lv_sub hl [0, 1, 2, 3] rfl⟩
    · refine lv_tableIn (tgt := 61) hx hb dX3_combine_12 (by omega) (by omega) (by rw [h16k]; rfl) (by decide) ?_
      refine lv_aload_n hx hb dX3_combine_61 rfl (lv_at hl 2 rfl) ?_
      refine lv_lload hx hb dX3_combine_62 (lv_at hl 0 rfl) ?_
      refine lv_lload_n hx hb dX3_combine_64 rfl (lv_at hl 1 rfl) ?_
      refine lv_lsub hx hb dX3_combine_65 ?_
      refine lv_topl (fun z79 ez79 => ?_)
      refine tpk_4 hT ht_h0 (fun o80_x3 o80_x4 o80_x5 hf_o80 ro80_0 => ?_)
      refine tpk_pos (tp_in hG ht_h0 (by decide)) hf_o80 (fun q81 eq81 => ?_)
      have hFc := tp_fr hD hS hA
      refine va_calli (va_runV (As := [.long z79]) (rest := []) ⟨hx, hb, hml, hown, hts⟩ (t_X3_pushSum l dC dI _ Ω κ τ ν ρ L f14 hG hT h0 z79 ht_h0) (cwV 1 hts gX3_combine_X3_pushSum rfl rfl rfl ⟨rfl, pd_X3_pushSum⟩ ⟨Nat.le_of_ble_eq_true rfl, Nat.le_of_ble_eq_true rfl⟩) ⟨pz_blind, va_recv hK hP (ci := 3) (q0 := q81) rfl eq81, pz_pre hP hK hD hN⟩ rfl rfl hl.1 rfl (lv_room (Nat.le_of_ble_eq_true rfl)) dX3_combine_66 ⟨Nat.le_of_ble_eq_true rfl, Nat.le_of_ble_eq_true rfl⟩) hS (fun q _ h => hFc q h) hFc (fun r82 f84 t H1 locs ht hvm hw83 hB hz1 hk1 hS => ?_)
      refine tn_4 hw83 (fun hT hF85 hw83r hw83p => ?_); clear hw83
      have hR := hR.then hF85 (by decide)
      have hP := hB.1; rw [ht] at hP; have hD := tp_ad f84 hD; clear hB hFc hz1 hk1; subst ht; generalize t.heap = H at hP hS ⊢
      exact W.zret (v := r82) hx hb hr (zi_narZ (by omega) (by omega)) (fun t ht hW => ⟨⟨r82, f84, rfl, ⟨hT, hR, (by first | decide | omega), trivial⟩, by rw [ht]; exact hP, va_K.moved hW.alike hK, hD⟩, hS.F ht⟩) hS.2.2 dX3_combine_69
    · refine lv_tableIn (tgt := 52) hx hb dX3_combine_12 (by omega) (by omega) (by rw [h16k]; rfl) (by decide) ?_
      refine lv_aload_n hx hb dX3_combine_52 rfl (lv_at hl 2 rfl) ?_
      refine lv_lload hx hb dX3_combine_53 (lv_at hl 0 rfl) ?_
      refine lv_lload_n hx hb dX3_combine_55 rfl (lv_at hl 1 rfl) ?_
      refine lv_ladd hx hb dX3_combine_56 ?_
      refine lv_topl (fun z86 ez86 => ?_)
      refine tpk_4 hT ht_h0 (fun o87_x3 o87_x4 o87_x5 hf_o87 ro87_0 => ?_)
      refine tpk_pos (tp_in hG ht_h0 (by decide)) hf_o87 (fun q88 eq88 => ?_)
      have hFc := tp_fr hD hS hA
      refine va_calli (va_runV (As := [.long z86]) (rest := []) ⟨hx, hb, hml, hown, hts⟩ (t_X3_pushSum l dC dI _ Ω κ τ ν ρ L f14 hG hT h0 z86 ht_h0) (cwV 1 hts gX3_combine_X3_pushSum rfl rfl rfl ⟨rfl, pd_X3_pushSum⟩ ⟨Nat.le_of_ble_eq_true rfl, Nat.le_of_ble_eq_true rfl⟩) ⟨pz_blind, va_recv hK hP (ci := 3) (q0 := q88) rfl eq88, pz_pre hP hK hD hN⟩ rfl rfl hl.1 rfl (lv_room (Nat.le_of_ble_eq_true rfl)) dX3_combine_57 ⟨Nat.le_of_ble_eq_true rfl, Nat.le_of_ble_eq_true rfl⟩) hS (fun q _ h => hFc q h) hFc (fun r89 f91 t H1 locs ht hvm hw90 hB hz1 hk1 hS => ?_)
      refine tn_4 hw90 (fun hT hF92 hw90r hw90p => ?_); clear hw90
      have hR := hR.then hF92 (by decide)
      have hP := hB.1; rw [ht] at hP; have hD := tp_ad f91 hD; clear hB hFc hz1 hk1; subst ht; generalize t.heap = H at hP hS ⊢
      exact W.zret (v := r89) hx hb hr (zi_narZ (by omega) (by omega)) (fun t ht hW => ⟨⟨r89, f91, rfl, ⟨hT, hR, (by first | decide | omega), trivial⟩, by rw [ht]; exact hP, va_K.moved hW.alike hK, hD⟩, hS.F ht⟩) hS.2.2 dX3_combine_60
set_option maxHeartbeats 4000000 in
set_option maxRecDepth 100000 in
theorem t_X3_runClause (l : Launch) (dC : Nat → ClassId) (dI : Nat → Nat → Nat) (sz : Nat) (Ω : Nat → (Nat → Nat) → va_E → Prop) (κ : Nat → ClassId) (τ ν : Nat → Nat) (ρ : Nat → Nat → Nat) (L : List Nat) (f : Nat → va_E) (hG : tp_G τ ν ρ L) (hT : tp_T Ω κ τ ν ρ f) (h0 : Nat) (h1 : Nat) (v : Int32) (u : Int32) (ht_h0 : τ h0 = 4) (ht_h1 : τ h1 = 28) (hn : ν h1 ≤ 400) : Met l yX3_runClause wqX3_runClause ({ frames := 5, cells := 0, slots := 0, locals := 1600 }) (va_Pc [.ref h0, .ref h1, .int v, .int u] (pz_B dC dI (tp_K κ) (va_pl L f) sz)) (va_Qv (fun (f1 : Nat → va_E) => tp_T Ω κ τ ν ρ f1 ∧ tp_F τ [4, 21] f f1 ∧ True) (fun (f1 : Nat → va_E) (t : State) => pz_E dC dI (tp_K κ) (va_A (va_pl L f) sz) (va_pl L f1) t) (va_A (va_pl L f) sz)) 0 0 (va_A (va_pl L f) sz) := by
  refine Met.ofW (cc := cX3_runClause) (maxL := 9) (ret := none) (by decide) rfl ?_
  intro p e s m args below meth c s₁ B hml hv
  obtain ⟨rfl, hsz, hP, hK, hD0, hN⟩ := hv
  have hx := B.exec
  have hb := B.bytes
  have hr := B.returns
  have hts := fun (w : Cond) (h : w ∈ WALL) => atoms_spec (ws := wqX3_runClause) B.pre w (List.mem_cons_of_mem _ h)
  have hown : s.vm.findClass RX3 = some m.cls := findClass_of_methodNamed B.named
  have hlocks := B.notSynchronized
  subst hsz
  have hD := hD0.self (sz := s.heap.size)
  generalize hAe : va_A (va_pl L f) s.heap.size = A at hD ⊢
  have hA : ∀ q : Nat, s.heap.size ≤ q → A q := fun q h => by rw [← hAe]; exact Or.inr h
  have hS : va_S A s.heap s.heap [] := va_S.rf
  have hR : tp_F τ [4, 21] f f := tp_F.rf
  have hl := lv_entry ([.ref h0, .ref h1, .int v, .int u]) (n := 9) (Nat.le_of_ble_eq_true rfl)
  rw [lg_entry_eq]
  generalize (lg_sl ([.ref h0, .ref h1, .int v, .int u]) ++ List.replicate (9 - (lg_sl ([.ref h0, .ref h1, .int v, .int u])).length) Slot.unset).toArray = ls at hl ⊢
  have hl : lv_has ls 9 [(0, .ref h0), (1, .ref h1), (2, .int v), (3, .int u)] := hl
  refine lv_aload_n hx hb dX3_runClause_0 rfl (lv_at hl 0 rfl) ?_
  refine lv_iconst (v := 0) hx hb dX3_runClause_1 (by decide) ?_
  refine tgk_4 hG ht_h0 (fun y1 y2 y2n y3 y3n => ?_)
  refine tpk_4 hT ht_h0 (fun o4_x3 o4_x4 o4_x5 hf_o4 ro4_0 => ?_)
  refine tpk_pos (tp_in hG ht_h0 (by decide)) hf_o4 (fun q5 eq5 => ?_)
  refine va_put (D := (dC, dI)) (ci := 3) (v := .int 0) (ty := .int) (C := RX3) (T := TX3) (N := 6) hx hb hts hfX3 tyX3 tyX3_ok nmX3 hown hK hP hD hS q5 eq5 rfl 3 (by decide) (hts (.fieldLink RX3 97 "ColdShips$Reckoner" "depth" "I") wa_1162) (fun _ h9 => h9) rfl (tyX3_ok 3 (by decide)) rfl rfl (Nat.le_of_ble_eq_true rfl) dX3_runClause_2 (tp_k (.inr (3, [.ref (ρ h0 0), .ref (ρ h0 1), .ref (ρ h0 2), .int 0, .long o4_x4, .long o4_x5])) hD (tp_in hG ht_h0 (by decide)) eq5 (fun f6 H locs hP hD hS g8 k7 => ?_))
  have hT := hT.up ht_h0 g8 k7 ⟨_, _, _, rfl, (by first | decide | omega | (have : (0 : Int32).toInt = 0 := rfl; omega))⟩
  have hR := hR.up ht_h0 (by decide) k7
  refine lv_iload_n hx hb dX3_runClause_5 rfl (lv_at hl 3 rfl) ?_
  refine lv_aload_n hx hb dX3_runClause_6 rfl (lv_at hl 1 rfl) ?_
  refine tpk_28 hT ht_h1 rfl (fun g10 hf_o9 hf_o9e => ?_)
  refine tpk_pos (tp_in hG ht_h1 (by decide)) hf_o9 (fun q11 eq11 => ?_)
  obtain ⟨z12, ez12⟩ : ∃ y : Int32, y = Int32.ofNat (ν h1) := ⟨_, rfl⟩
  have iz12 : z12.toInt = ((ν h1) : Int) := zi_ofNat ez12 (by omega)
  refine va_alen hx hb hK hP q11 0 eq11 rfl ez12.symm dX3_runClause_7 ?_
  refine va_mmin hx hb (by rw [hml]; exact hl.1.symm) hown (hts (.methodLink RX3 100 Lib.Math.min.name) wa_1163) (hts (.static Lib.Math.min.name) wa_434) (hts (.initialized "java/lang/Math") wa_71) (hts (.code Lib.Math.min.name Lib.Math.min.code 2 (some .int)) wa_435) (Nat.le_of_ble_eq_true rfl) (Nat.le_of_ble_eq_true rfl) (Nat.le_of_ble_eq_true rfl) (Nat.le_of_ble_eq_true rfl) dX3_runClause_8 ?_
  refine lv_topi (fun z13 ez13 => ?_)
  have iz13 := zi_min ez13 (rfl : u.toInt = _) (rfl : z12.toInt = _)
  refine lv_istore (lv' := [(4, .int z13), (0, .ref h0), (1, .ref h1), (2, .int v), (3, .int u)]) hx hb dX3_runClause_11 hl (by decide) rfl (fun ls hl => ?_)
  refine lv_iconst (v := 0) hx hb dX3_runClause_13 (by decide) ?_
  refine lv_iload_n hx hb dX3_runClause_14 rfl (lv_at hl 3 rfl) ?_
  refine va_mmax hx hb (by rw [hml]; exact hl.1.symm) hown (hts (.methodLink RX3 89 Lib.Math.max.name) wa_1140) (hts (.static Lib.Math.max.name) wa_70) (hts (.initialized "java/lang/Math") wa_71) (hts (.code Lib.Math.max.name Lib.Math.max.code 2 (some .int)) wa_72) (Nat.le_of_ble_eq_true rfl) (Nat.le_of_ble_eq_true rfl) (Nat.le_of_ble_eq_true rfl) (Nat.le_of_ble_eq_true rfl) dX3_runClause_15 ?_
  refine lv_topi (fun z14 ez14 => ?_)
  have iz14 := zi_max ez14 (show (0 : Int32).toInt = 0 from rfl) (rfl : v.toInt = _)
  refine lv_istore (lv' := [(5, .int z14), (4, .int z13), (0, .ref h0), (1, .ref h1), (2, .int v), (3, .int u)]) hx hb dX3_runClause_18 hl (by decide) rfl (fun ls hl => ?_)
  refine pz_loop (fun n0 H locs ls => ∃ f16 : Nat → va_E, ∃ w15 : Int32, n0 = ((z13.toInt) - (w15.toInt)).toNat ∧ tp_T Ω κ τ ν ρ f16 ∧ tp_F τ [4, 21] f f16 ∧ (0 ≤ w15.toInt) ∧ va_P (dC, dI) vwCl (va_pl L f16) H ∧ va_D A (va_pl L f16) ∧ va_S A s.heap H locs ∧ lv_has ls 9 [(5, .int w15), (4, .int z13), (0, .ref h0), (1, .ref h1), (2, .int v), (3, .int u)]) ?_ _ _ _ _ ⟨f6, z14, rfl, hT, hR, (by omega), hP, hD, hS, lv_sub hl [0, 1, 2, 3, 4, 5] rfl⟩
  intro n0 H locs ls hI ih17
  refine Exists.elim hI (fun f16 hE90 => Exists.elim hE90 (fun w15 hE91 => tn_8 hE91 (fun hn18 hT hR rw15 hP hD hS hl => ?_)))
  clear hE91 hE90 hI
  refine lv_iload hx hb dX3_runClause_20 (lv_at hl 0 rfl) ?_
  refine lv_iload hx hb dX3_runClause_22 (lv_at hl 1 rfl) ?_
  refine lv_icmp_ge (tgt := 292) hx hb dX3_runClause_24 (by decide) (fun c19 => ?_) (fun c19 => ?_)
  · have ic19 : w15.toInt ≥ z13.toInt := zi_ge rfl rfl c19
    exact W.vret hx hb hr (fun t ht hW => ⟨⟨f16, rfl, ⟨hT, hR, trivial⟩, by rw [ht]; exact hP, va_K.moved hW.alike hK, hD⟩, hS.F ht⟩) hS.2.2 dX3_runClause_292
  · have ic19 : w15.toInt < z13.toInt := zi_gef rfl rfl c19
    refine lv_aload_n hx hb dX3_runClause_27 rfl (lv_at hl 3 rfl) ?_
    refine lv_iload hx hb dX3_runClause_28 (lv_at hl 0 rfl) ?_
    refine tpk_28 hT ht_h1 rfl (fun g21 hf_o20 hf_o20e => ?_)
    refine tpk_pos (tp_in hG ht_h1 (by decide)) hf_o20 (fun q22 eq22 => ?_)
    refine va_iald hx hb hK hP q22 0 eq22 rfl (vp_in_iff.mpr ⟨by omega, by omega⟩) dX3_runClause_30 ?_
    refine lv_topi (fun z23 ez23 => ?_)
    have iz23 : -1000 ≤ z23.toInt ∧ z23.toInt ≤ 100001 := by rw [ez23]; exact hf_o20e _
    refine lv_istore (lv' := [(6, .int z23), (5, .int w15), (4, .int z13), (0, .ref h0), (1, .ref h1), (2, .int v), (3, .int u)]) hx hb dX3_runClause_31 hl (by decide) rfl (fun ls hl => ?_)
    refine lv_iload hx hb dX3_runClause_33 (lv_at hl 0 rfl) ?_
    refine lv_if_lt (tgt := 48) hx hb dX3_runClause_35 (by decide) (fun c24 => ?_) (fun c24 => ?_)
    · have ic24 : z23.toInt < 0 := zi_lt rfl rfl c24
      refine lv_iload hx hb dX3_runClause_48 (lv_at hl 0 rfl) ?_
      refine lv_bipush (v := (-8)) hx hb dX3_runClause_50 (by decide) ?_
      refine lv_icmp_lt (tgt := 71) hx hb dX3_runClause_52 (by decide) (fun c25 => ?_) (fun c25 => ?_)
      · have ic25 : z23.toInt < (-8) := zi_lt rfl rfl c25
        refine lv_iload hx hb dX3_runClause_71 (lv_at hl 0 rfl) ?_
        refine lv_bipush (v := (-19)) hx hb dX3_runClause_73 (by decide) ?_
        refine tp_join 85 (fun H locs ls stk => stk = [] ∧ va_P (dC, dI) vwCl (va_pl L f16) H ∧ va_D A (va_pl L f16) ∧ va_S A s.heap H locs ∧ lv_has ls 9 [(6, .int z23), (5, .int w15), (4, .int z13), (0, .ref h0), (1, .ref h1), (2, .int v), (3, .int u)]) ?_ (fun hj26 => ?_)
        · intro H locs ls stk hI
          refine tn_5 hI (fun e90 hP hD hS hl => ?_)
          clear hI; subst e90
          refine lv_aload_n hx hb dX3_runClause_85 rfl (lv_at hl 3 rfl) ?_
          refine tpk_4 hT ht_h0 (fun o27_x3 o27_x4 o27_x5 hf_o27 ro27_0 => ?_)
          refine tpk_pos (tp_in hG ht_h0 (by decide)) hf_o27 (fun q28 eq28 => ?_)
          have hFc := tp_fr hD hS hA
          refine va_calll (va_runV (As := []) (rest := []) ⟨hx, hb, hml, hown, hts⟩ (t_X3_pop l dC dI _ Ω κ τ ν ρ L f16 hG hT h0 ht_h0) (cwV 0 hts gX3_runClause_X3_pop rfl rfl rfl ⟨rfl, pd_X3_pop⟩ ⟨Nat.le_of_ble_eq_true rfl, Nat.le_of_ble_eq_true rfl⟩) ⟨pz_blind, va_recv hK hP (ci := 3) (q0 := q28) rfl eq28, pz_pre hP hK hD hN⟩ rfl rfl hl.1 rfl (lv_room (Nat.le_of_ble_eq_true rfl)) dX3_runClause_86 ⟨Nat.le_of_ble_eq_true rfl, Nat.le_of_ble_eq_true rfl⟩) hS (fun q _ h => hFc q h) hFc (fun r29 f31 t H1 locs ht hvm hw30 hB hz1 hk1 hS => ?_)
          refine tn_4 hw30 (fun hT hF32 hw30r hw30p => ?_); clear hw30
          have hR := hR.then hF32 (by decide)
          have hP := hB.1; rw [ht] at hP; have hD := tp_ad f31 hD; clear hB hFc hz1 hk1; subst ht; generalize t.heap = H at hP hS ⊢
          refine lv_lconst (v := 0) hx hb dX3_runClause_89 (by decide) ?_
          refine tp_join 99 (fun H locs ls stk => ∃ w33 : Int32, stk = [.int w33] ∧ (0 ≤ w33.toInt ∧ w33.toInt ≤ 1) ∧ va_P (dC, dI) vwCl (va_pl L f31) H ∧ va_D A (va_pl L f31) ∧ va_S A s.heap H locs ∧ lv_has ls 9 [(6, .int z23), (5, .int w15), (4, .int z13), (0, .ref h0), (1, .ref h1), (2, .int v), (3, .int u)]) ?_ (fun hj34 => ?_)
          · intro H locs ls stk hI
            refine Exists.elim hI (fun w33 hE90 => tn_6 hE90 (fun e90 rw33 hP hD hS hl => ?_))
            clear hE90 hI; subst e90
            refine lv_istore (lv' := [(7, .int w33), (6, .int z23), (5, .int w15), (4, .int z13), (0, .ref h0), (1, .ref h1), (2, .int v), (3, .int u)]) hx hb dX3_runClause_99 hl (by decide) rfl (fun ls hl => ?_)
            refine lv_iload hx hb dX3_runClause_101 (lv_at hl 0 rfl) ?_
            refine lv_iload hx hb dX3_runClause_103 (lv_at hl 1 rfl) ?_
            refine lv_bipush (v := (-19)) hx hb dX3_runClause_105 (by decide) ?_
            refine tp_join 115 (fun H locs ls stk => ∃ w35 : Int32, stk = [.int w35, .int w33] ∧ (0 ≤ w35.toInt ∧ w35.toInt ≤ 1) ∧ va_P (dC, dI) vwCl (va_pl L f31) H ∧ va_D A (va_pl L f31) ∧ va_S A s.heap H locs ∧ lv_has ls 9 [(7, .int w33), (6, .int z23), (5, .int w15), (4, .int z13), (0, .ref h0), (1, .ref h1), (2, .int v), (3, .int u)]) ?_ (fun hj36 => ?_)
            · intro H locs ls stk hI
              refine Exists.elim hI (fun w35 hE90 => tn_6 hE90 (fun e90 rw35 hP hD hS hl => ?_))
              clear hE90 hI; subst e90
              refine tp_join 123 (fun H locs ls stk => ∃ w37 : Int32, stk = [.int w37] ∧ (0 ≤ w37.toInt ∧ w37.toInt ≤ 1) ∧ va_P (dC, dI) vwCl (va_pl L f31) H ∧ va_D A (va_pl L f31) ∧ va_S A s.heap H locs ∧ lv_has ls 9 [(7, .int w33), (6, .int z23), (5, .int w15), (4, .int z13), (0, .ref h0), (1, .ref h1), (2, .int v), (3, .int u)]) ?_ (fun hj38 => ?_)
              · intro H locs ls stk hI
                refine Exists.elim hI (fun w37 hE90 => tn_6 hE90 (fun e90 rw37 hP hD hS hl => ?_))
                clear hE90 hI; subst e90
                refine lv_istore (lv' := [(8, .int w37), (7, .int w33), (6, .int z23), (5, .int w15), (4, .int z13), (0, .ref h0), (1, .ref h1), (2, .int v), (3, .int u)]) hx hb dX3_runClause_123 hl (by decide) rfl (fun ls hl => ?_)
                refine lv_iload hx hb dX3_runClause_125 (lv_at hl 0 rfl) ?_
                refine tp_join 144 (fun H locs ls stk => ∃ f40 : Nat → va_E, stk = [] ∧ tp_T Ω κ τ ν ρ f40 ∧ tp_F τ [4, 21] f f40 ∧ va_P (dC, dI) vwCl (va_pl L f40) H ∧ va_D A (va_pl L f40) ∧ va_S A s.heap H locs ∧ lv_has ls 9 [(8, .int w37), (7, .int w33), (6, .int z23), (5, .int w15), (4, .int z13), (0, .ref h0), (1, .ref h1), (2, .int v), (3, .int u)]) ?_ (fun hj39 => ?_)
                · intro H locs ls stk hI
                  refine Exists.elim hI (fun f40 hE90 => tn_7 hE90 (fun e90 hT hR hP hD hS hl => ?_))
                  clear hE90 hI; subst e90
                  refine lv_iload hx hb dX3_runClause_144 (lv_at hl 0 rfl) ?_
                  refine lv_if_eq (tgt := 176) hx hb dX3_runClause_146 (by decide) (fun c41 => ?_) (fun c41 => ?_)
                  · have ic41 : w37.toInt = 0 := zi_eq rfl rfl c41
                    refine lv_iload hx hb dX3_runClause_176 (lv_at hl 3 rfl) ?_
                    refine lv_iconst (v := 1) hx hb dX3_runClause_178 (by decide) ?_
                    refine lv_iadd hx hb dX3_runClause_179 ?_
                    refine lv_topi (fun z42 ez42 => ?_)
                    have iz42 : z42.toInt = w15.toInt + 1 := zi_add ez42 rfl rfl (by omega) (by omega)
                    refine lv_istore (lv' := [(5, .int z42), (8, .int w37), (7, .int w33), (6, .int z23), (4, .int z13), (0, .ref h0), (1, .ref h1), (2, .int v), (3, .int u)]) hx hb dX3_runClause_180 hl (by decide) rfl (fun ls hl => ?_)
                    refine lv_goto (tgt := 286) hx hb dX3_runClause_182 (by decide) ?_
                    obtain ⟨z43, ez43⟩ : ∃ y : Int32, y = z42 + 1 := ⟨_, rfl⟩
                    refine lv_iinc (v := z43) (lv' := [(5, .int z43), (8, .int w37), (7, .int w33), (6, .int z23), (4, .int z13), (0, .ref h0), (1, .ref h1), (2, .int v), (3, .int u)]) hx hb dX3_runClause_286 hl (k := 0) rfl (by rw [ez43]; rfl) (by decide) rfl (fun ls hl => ?_)
                    have iz43 : z43.toInt = z42.toInt + 1 := zi_add ez43 rfl rfl (by omega) (by omega)
                    refine lv_goto (tgt := 20) hx hb dX3_runClause_289 (by decide) ?_
                    exact ih17 _ _ _ _ (by rw [hn18]; omega) ⟨f40, z43, rfl, hT, hR, (by omega), hP, hD, hS, lv_sub hl [0, 4, 5, 6, 7, 8] rfl⟩
                  · have ic41 : w37.toInt ≠ 0 := zi_eqf rfl rfl c41
                    refine lv_iload hx hb dX3_runClause_149 (lv_at hl 3 rfl) ?_
                    refine lv_iconst (v := 1) hx hb dX3_runClause_151 (by decide) ?_
                    refine lv_iadd hx hb dX3_runClause_152 ?_
                    refine lv_topi (fun z44 ez44 => ?_)
                    have iz44 : z44.toInt = w15.toInt + 1 := zi_add ez44 rfl rfl (by omega) (by omega)
                    refine lv_iload hx hb dX3_runClause_153 (lv_at hl 4 rfl) ?_
                    refine lv_icmp_ge (tgt := 176) hx hb dX3_runClause_155 (by decide) (fun c45 => ?_) (fun c45 => ?_)
                    · have ic45 : z44.toInt ≥ z13.toInt := zi_ge rfl rfl c45
                      refine lv_iload hx hb dX3_runClause_176 (lv_at hl 3 rfl) ?_
                      refine lv_iconst (v := 1) hx hb dX3_runClause_178 (by decide) ?_
                      refine lv_iadd hx hb dX3_runClause_179 ?_
                      refine lv_topi (fun z46 ez46 => ?_)
                      have iz46 : z46.toInt = w15.toInt + 1 := zi_add ez46 rfl rfl (by omega) (by omega)
                      refine lv_istore (lv' := [(5, .int z46), (8, .int w37), (7, .int w33), (6, .int z23), (4, .int z13), (0, .ref h0), (1, .ref h1), (2, .int v), (3, .int u)]) hx hb dX3_runClause_180 hl (by decide) rfl (fun ls hl => ?_)
                      refine lv_goto (tgt := 286) hx hb dX3_runClause_182 (by decide) ?_
                      obtain ⟨z47, ez47⟩ : ∃ y : Int32, y = z46 + 1 := ⟨_, rfl⟩
                      refine lv_iinc (v := z47) (lv' := [(5, .int z47), (8, .int w37), (7, .int w33), (6, .int z23), (4, .int z13), (0, .ref h0), (1, .ref h1), (2, .int v), (3, .int u)]) hx hb dX3_runClause_286 hl (k := 0) rfl (by rw [ez47]; rfl) (by decide) rfl (fun ls hl => ?_)
                      have iz47 : z47.toInt = z46.toInt + 1 := zi_add ez47 rfl rfl (by omega) (by omega)
                      refine lv_goto (tgt := 20) hx hb dX3_runClause_289 (by decide) ?_
                      exact ih17 _ _ _ _ (by rw [hn18]; omega) ⟨f40, z47, rfl, hT, hR, (by omega), hP, hD, hS, lv_sub hl [0, 4, 5, 6, 7, 8] rfl⟩
                    · have ic45 : z44.toInt < z13.toInt := zi_gef rfl rfl c45
                      refine lv_iload hx hb dX3_runClause_158 (lv_at hl 3 rfl) ?_
                      refine lv_iconst (v := 1) hx hb dX3_runClause_160 (by decide) ?_
                      refine lv_iadd hx hb dX3_runClause_161 ?_
                      refine lv_topi (fun z48 ez48 => ?_)
                      have iz48 : z48.toInt = w15.toInt + 1 := zi_add ez48 rfl rfl (by omega) (by omega)
                      refine lv_aload_n hx hb dX3_runClause_162 rfl (lv_at hl 6 rfl) ?_
                      refine lv_iload hx hb dX3_runClause_163 (lv_at hl 3 rfl) ?_
                      refine lv_iconst (v := 1) hx hb dX3_runClause_165 (by decide) ?_
                      refine lv_iadd hx hb dX3_runClause_166 ?_
                      refine lv_topi (fun z49 ez49 => ?_)
                      have iz49 : z49.toInt = w15.toInt + 1 := zi_add ez49 rfl rfl (by omega) (by omega)
                      refine tpk_28 hT ht_h1 rfl (fun g51 hf_o50 hf_o50e => ?_)
                      refine tpk_pos (tp_in hG ht_h1 (by decide)) hf_o50 (fun q52 eq52 => ?_)
                      refine va_iald hx hb hK hP q52 0 eq52 rfl (vp_in_iff.mpr ⟨by omega, by omega⟩) dX3_runClause_167 ?_
                      refine lv_topi (fun z53 ez53 => ?_)
                      have iz53 : -1000 ≤ z53.toInt ∧ z53.toInt ≤ 100001 := by rw [ez53]; exact hf_o50e _
                      refine lv_iconst (v := 1) hx hb dX3_runClause_168 (by decide) ?_
                      refine lv_isub hx hb dX3_runClause_169 ?_
                      refine lv_topi (fun z54 ez54 => ?_)
                      have iz54 : z54.toInt = z53.toInt - 1 := zi_sub ez54 rfl rfl (by omega) (by omega)
                      refine va_mmax hx hb (by rw [hml]; exact hl.1.symm) hown (hts (.methodLink RX3 89 Lib.Math.max.name) wa_1140) (hts (.static Lib.Math.max.name) wa_70) (hts (.initialized "java/lang/Math") wa_71) (hts (.code Lib.Math.max.name Lib.Math.max.code 2 (some .int)) wa_72) (Nat.le_of_ble_eq_true rfl) (Nat.le_of_ble_eq_true rfl) (Nat.le_of_ble_eq_true rfl) (Nat.le_of_ble_eq_true rfl) dX3_runClause_170 ?_
                      refine lv_topi (fun z55 ez55 => ?_)
                      have iz55 := zi_max ez55 (rfl : z48.toInt = _) (rfl : z54.toInt = _)
                      refine lv_goto (tgt := 180) hx hb dX3_runClause_173 (by decide) ?_
                      refine lv_istore (lv' := [(5, .int z55), (8, .int w37), (7, .int w33), (6, .int z23), (4, .int z13), (0, .ref h0), (1, .ref h1), (2, .int v), (3, .int u)]) hx hb dX3_runClause_180 hl (by decide) rfl (fun ls hl => ?_)
                      refine lv_goto (tgt := 286) hx hb dX3_runClause_182 (by decide) ?_
                      obtain ⟨z56, ez56⟩ : ∃ y : Int32, y = z55 + 1 := ⟨_, rfl⟩
                      refine lv_iinc (v := z56) (lv' := [(5, .int z56), (8, .int w37), (7, .int w33), (6, .int z23), (4, .int z13), (0, .ref h0), (1, .ref h1), (2, .int v), (3, .int u)]) hx hb dX3_runClause_286 hl (k := 0) rfl (by rw [ez56]; rfl) (by decide) rfl (fun ls hl => ?_)
                      have iz56 : z56.toInt = z55.toInt + 1 := zi_add ez56 rfl rfl (by omega) (by omega)
                      refine lv_goto (tgt := 20) hx hb dX3_runClause_289 (by decide) ?_
                      exact ih17 _ _ _ _ (by rw [hn18]; omega) ⟨f40, z56, rfl, hT, hR, (by omega), hP, hD, hS, lv_sub hl [0, 4, 5, 6, 7, 8] rfl⟩
                · refine lv_if_eq (tgt := 144) hx hb dX3_runClause_127 (by decide) (fun c57 => ?_) (fun c57 => ?_)
                  · have ic57 : w37.toInt = 0 := zi_eq rfl rfl c57
                    exact hj39 _ _ _ _ ⟨f31, rfl, hT, hR, hP, hD, hS, lv_sub hl [0, 1, 2, 3, 4, 5, 6, 7, 8] rfl⟩
                  · have ic57 : w37.toInt ≠ 0 := zi_eqf rfl rfl c57
                    refine lv_aload_n hx hb dX3_runClause_130 rfl (lv_at hl 5 rfl) ?_
                    refine lv_iload hx hb dX3_runClause_131 (lv_at hl 1 rfl) ?_
                    refine lv_if_eq (tgt := 140) hx hb dX3_runClause_133 (by decide) (fun c58 => ?_) (fun c58 => ?_)
                    · have ic58 : w33.toInt = 0 := zi_eq rfl rfl c58
                      refine lv_lconst (v := 0) hx hb dX3_runClause_140 (by decide) ?_
                      refine tpk_4 hT ht_h0 (fun o59_x3 o59_x4 o59_x5 hf_o59 ro59_0 => ?_)
                      refine tpk_pos (tp_in hG ht_h0 (by decide)) hf_o59 (fun q60 eq60 => ?_)
                      have hFc := tp_fr hD hS hA
                      refine va_callv (va_runV (As := [.long 0]) (rest := []) ⟨hx, hb, hml, hown, hts⟩ (t_X3_push l dC dI _ Ω κ τ ν ρ L f31 hG hT h0 (0) ht_h0) (cwV 1 hts gX3_runClause_X3_push rfl rfl rfl ⟨rfl, pd_X3_push⟩ ⟨Nat.le_of_ble_eq_true rfl, Nat.le_of_ble_eq_true rfl⟩) ⟨pz_blind, va_recv hK hP (ci := 3) (q0 := q60) rfl eq60, pz_pre hP hK hD hN⟩ rfl rfl hl.1 rfl (lv_room (Nat.le_of_ble_eq_true rfl)) dX3_runClause_141 ⟨Nat.le_of_ble_eq_true rfl, Nat.le_of_ble_eq_true rfl⟩) hS (fun q _ h => hFc q h) hFc (fun f63 t H1 locs ht hvm hw62 hB hz1 hk1 hS => ?_)
                      refine tn_3 hw62 (fun hT hF64 hw62p => ?_); clear hw62
                      have hR := hR.then hF64 (by decide)
                      have hP := hB.1; rw [ht] at hP; have hD := tp_ad f63 hD; clear hB hFc hz1 hk1; subst ht; generalize t.heap = H at hP hS ⊢
                      exact hj39 _ _ _ _ ⟨f63, rfl, hT, hR, hP, hD, hS, lv_sub hl [0, 1, 2, 3, 4, 5, 6, 7, 8] rfl⟩
                    · have ic58 : w33.toInt ≠ 0 := zi_eqf rfl rfl c58
                      refine lv_lconst (v := 1) hx hb dX3_runClause_136 (by decide) ?_
                      refine lv_goto (tgt := 141) hx hb dX3_runClause_137 (by decide) ?_
                      refine tpk_4 hT ht_h0 (fun o65_x3 o65_x4 o65_x5 hf_o65 ro65_0 => ?_)
                      refine tpk_pos (tp_in hG ht_h0 (by decide)) hf_o65 (fun q66 eq66 => ?_)
                      have hFc := tp_fr hD hS hA
                      refine va_callv (va_runV (As := [.long 1]) (rest := []) ⟨hx, hb, hml, hown, hts⟩ (t_X3_push l dC dI _ Ω κ τ ν ρ L f31 hG hT h0 (1) ht_h0) (cwV 1 hts gX3_runClause_X3_push rfl rfl rfl ⟨rfl, pd_X3_push⟩ ⟨Nat.le_of_ble_eq_true rfl, Nat.le_of_ble_eq_true rfl⟩) ⟨pz_blind, va_recv hK hP (ci := 3) (q0 := q66) rfl eq66, pz_pre hP hK hD hN⟩ rfl rfl hl.1 rfl (lv_room (Nat.le_of_ble_eq_true rfl)) dX3_runClause_141 ⟨Nat.le_of_ble_eq_true rfl, Nat.le_of_ble_eq_true rfl⟩) hS (fun q _ h => hFc q h) hFc (fun f69 t H1 locs ht hvm hw68 hB hz1 hk1 hS => ?_)
                      refine tn_3 hw68 (fun hT hF70 hw68p => ?_); clear hw68
                      have hR := hR.then hF70 (by decide)
                      have hP := hB.1; rw [ht] at hP; have hD := tp_ad f69 hD; clear hB hFc hz1 hk1; subst ht; generalize t.heap = H at hP hS ⊢
                      exact hj39 _ _ _ _ ⟨f69, rfl, hT, hR, hP, hD, hS, lv_sub hl [0, 1, 2, 3, 4, 5, 6, 7, 8] rfl⟩
              · refine lv_icmp_ne (tgt := 122) hx hb dX3_runClause_115 (by decide) (fun c71 => ?_) (fun c71 => ?_)
                · have ic71 : w33.toInt ≠ w35.toInt := zi_ne rfl rfl c71
                  refine lv_iconst (v := 0) hx hb dX3_runClause_122 (by decide) ?_
                  exact hj38 _ _ _ _ ⟨0, rfl, (by have : (0 : Int32).toInt = 0 := rfl; omega), hP, hD, hS, lv_sub hl [0, 1, 2, 3, 4, 5, 6, 7] rfl⟩
                · have ic71 : w33.toInt = w35.toInt := zi_nef rfl rfl c71
                  refine lv_iconst (v := 1) hx hb dX3_runClause_118 (by decide) ?_
                  refine lv_goto (tgt := 123) hx hb dX3_runClause_119 (by decide) ?_
                  exact hj38 _ _ _ _ ⟨1, rfl, (by have : (1 : Int32).toInt = 1 := rfl; omega), hP, hD, hS, lv_sub hl [0, 1, 2, 3, 4, 5, 6, 7] rfl⟩
            · refine lv_icmp_ne (tgt := 114) hx hb dX3_runClause_107 (by decide) (fun c72 => ?_) (fun c72 => ?_)
              · have ic72 : z23.toInt ≠ (-19) := zi_ne rfl rfl c72
                refine lv_iconst (v := 0) hx hb dX3_runClause_114 (by decide) ?_
                exact hj36 _ _ _ _ ⟨0, rfl, (by have : (0 : Int32).toInt = 0 := rfl; omega), hP, hD, hS, lv_sub hl [0, 1, 2, 3, 4, 5, 6, 7] rfl⟩
              · have ic72 : z23.toInt = (-19) := zi_nef rfl rfl c72
                refine lv_iconst (v := 1) hx hb dX3_runClause_110 (by decide) ?_
                refine lv_goto (tgt := 115) hx hb dX3_runClause_111 (by decide) ?_
                exact hj36 _ _ _ _ ⟨1, rfl, (by have : (1 : Int32).toInt = 1 := rfl; omega), hP, hD, hS, lv_sub hl [0, 1, 2, 3, 4, 5, 6, 7] rfl⟩
          · refine W.lcmp hx hb dX3_runClause_90 ?_
            refine lv_if_eq (tgt := 98) hx hb dX3_runClause_91 (by decide) (fun c73 => ?_) (fun c73 => ?_)
            · have ic73 : r29.toInt = 0 := zl_eq rfl rfl c73
              refine lv_iconst (v := 0) hx hb dX3_runClause_98 (by decide) ?_
              exact hj34 _ _ _ _ ⟨0, rfl, (by have : (0 : Int32).toInt = 0 := rfl; omega), hP, hD, hS, lv_sub hl [0, 1, 2, 3, 4, 5, 6] rfl⟩
            · have ic73 : r29.toInt ≠ 0 := zl_eqf rfl rfl c73
              refine lv_iconst (v := 1) hx hb dX3_runClause_94 (by decide) ?_
              refine lv_goto (tgt := 99) hx hb dX3_runClause_95 (by decide) ?_
              exact hj34 _ _ _ _ ⟨1, rfl, (by have : (1 : Int32).toInt = 1 := rfl; omega), hP, hD, hS, lv_sub hl [0, 1, 2, 3, 4, 5, 6] rfl⟩
        · refine lv_icmp_eq (tgt := 85) hx hb dX3_runClause_75 (by decide) (fun c74 => ?_) (fun c74 => ?_)
          · have ic74 : z23.toInt = (-19) := zi_eq rfl rfl c74
            exact hj26 _ _ _ _ ⟨rfl, hP, hD, hS, lv_sub hl [0, 1, 2, 3, 4, 5, 6] rfl⟩
          · have ic74 : z23.toInt ≠ (-19) := zi_eqf rfl rfl c74
            refine lv_iload hx hb dX3_runClause_78 (lv_at hl 0 rfl) ?_
            refine lv_bipush (v := (-20)) hx hb dX3_runClause_80 (by decide) ?_
            refine lv_icmp_ne (tgt := 185) hx hb dX3_runClause_82 (by decide) (fun c75 => ?_) (fun c75 => ?_)
            · have ic75 : z23.toInt ≠ (-20) := zi_ne rfl rfl c75
              refine lv_iload hx hb dX3_runClause_185 (lv_at hl 0 rfl) ?_
              refine lv_bipush (v := (-18)) hx hb dX3_runClause_187 (by decide) ?_
              refine lv_icmp_ne (tgt := 213) hx hb dX3_runClause_189 (by decide) (fun c76 => ?_) (fun c76 => ?_)
              · have ic76 : z23.toInt ≠ (-18) := zi_ne rfl rfl c76
                refine lv_iload hx hb dX3_runClause_213 (lv_at hl 0 rfl) ?_
                refine lv_bipush (v := (-21)) hx hb dX3_runClause_215 (by decide) ?_
                refine lv_icmp_ne (tgt := 230) hx hb dX3_runClause_217 (by decide) (fun c77 => ?_) (fun c77 => ?_)
                · have ic77 : z23.toInt ≠ (-21) := zi_ne rfl rfl c77
                  refine lv_iload hx hb dX3_runClause_230 (lv_at hl 0 rfl) ?_
                  refine lv_bipush (v := (-22)) hx hb dX3_runClause_232 (by decide) ?_
                  refine lv_icmp_ne (tgt := 253) hx hb dX3_runClause_234 (by decide) (fun c78 => ?_) (fun c78 => ?_)
                  · have ic78 : z23.toInt ≠ (-22) := zi_ne rfl rfl c78
                    refine lv_iload hx hb dX3_runClause_253 (lv_at hl 0 rfl) ?_
                    refine lv_bipush (v := (-23)) hx hb dX3_runClause_255 (by decide) ?_
                    refine lv_icmp_ne (tgt := 276) hx hb dX3_runClause_257 (by decide) (fun c79 => ?_) (fun c79 => ?_)
                    · have ic79 : z23.toInt ≠ (-23) := zi_ne rfl rfl c79
                      refine lv_aload_n hx hb dX3_runClause_276 rfl (lv_at hl 3 rfl) ?_
                      refine lv_iload hx hb dX3_runClause_277 (lv_at hl 0 rfl) ?_
                      refine tpk_4 hT ht_h0 (fun o80_x3 o80_x4 o80_x5 hf_o80 ro80_0 => ?_)
                      refine tpk_pos (tp_in hG ht_h0 (by decide)) hf_o80 (fun q81 eq81 => ?_)
                      have hFc := tp_fr hD hS hA
                      refine va_calli (va_runV (As := [.int z23]) (rest := []) ⟨hx, hb, hml, hown, hts⟩ (t_X3_combine l dC dI _ Ω κ τ ν ρ L f16 hG hT h0 z23 ht_h0) (cwV 1 hts gX3_runClause_X3_combine rfl rfl rfl ⟨rfl, pd_X3_combine⟩ ⟨Nat.le_of_ble_eq_true rfl, Nat.le_of_ble_eq_true rfl⟩) ⟨pz_blind, va_recv hK hP (ci := 3) (q0 := q81) rfl eq81, pz_pre hP hK hD hN⟩ rfl rfl hl.1 rfl (lv_room (Nat.le_of_ble_eq_true rfl)) dX3_runClause_279 ⟨Nat.le_of_ble_eq_true rfl, Nat.le_of_ble_eq_true rfl⟩) hS (fun q _ h => hFc q h) hFc (fun r82 f84 t H1 locs ht hvm hw83 hB hz1 hk1 hS => ?_)
                      refine tn_4 hw83 (fun hT hF85 hw83r hw83p => ?_); clear hw83
                      have hR := hR.then hF85 (by decide)
                      have hP := hB.1; rw [ht] at hP; have hD := tp_ad f84 hD; clear hB hFc hz1 hk1; subst ht; generalize t.heap = H at hP hS ⊢
                      refine lv_if_ne (tgt := 286) hx hb dX3_runClause_282 (by decide) (fun c86 => ?_) (fun c86 => ?_)
                      · have ic86 : r82.toInt ≠ 0 := zi_ne rfl rfl c86
                        obtain ⟨z87, ez87⟩ : ∃ y : Int32, y = w15 + 1 := ⟨_, rfl⟩
                        refine lv_iinc (v := z87) (lv' := [(5, .int z87), (6, .int z23), (4, .int z13), (0, .ref h0), (1, .ref h1), (2, .int v), (3, .int u)]) hx hb dX3_runClause_286 hl (k := 1) rfl (by rw [ez87]; rfl) (by decide) rfl (fun ls hl => ?_)
                        have iz87 : z87.toInt = w15.toInt + 1 := zi_add ez87 rfl rfl (by omega) (by omega)
                        refine lv_goto (tgt := 20) hx hb dX3_runClause_289 (by decide) ?_
                        exact ih17 _ _ _ _ (by rw [hn18]; omega) ⟨f84, z87, rfl, hT, hR, (by omega), hP, hD, hS, lv_sub hl [0, 2, 3, 4, 5, 6] rfl⟩
                      · have ic86 : r82.toInt = 0 := zi_nef rfl rfl c86
                        exact W.vret hx hb hr (fun t ht hW => ⟨⟨f84, rfl, ⟨hT, hR, trivial⟩, by rw [ht]; exact hP, va_K.moved hW.alike hK, hD⟩, hS.F ht⟩) hS.2.2 dX3_runClause_285
                    · have ic79 : z23.toInt = (-23) := zi_nef rfl rfl c79
                      refine lv_aload_n hx hb dX3_runClause_260 rfl (lv_at hl 3 rfl) ?_
                      refine lv_dup hx hb dX3_runClause_261 rfl ?_
                      refine tpk_4 hT ht_h0 (fun o88_x3 o88_x4 o88_x5 hf_o88 ro88_0 => ?_)
                      refine tpk_pos (tp_in hG ht_h0 (by decide)) hf_o88 (fun q89 eq89 => ?_)
                      refine va_get (D := (dC, dI)) (ci := 3) (v := .long o88_x5) (C := RX3) (T := TX3) (N := 6) hx hb hts hfX3 hown hK hP q89 eq89 rfl 5 (by decide) (hts (.fieldLink RX3 26 "ColdShips$Reckoner" "fines" "J") wa_1135) (fun _ h9 => h9) rfl dX3_runClause_262 ?_
                      refine lv_aload_n hx hb dX3_runClause_265 rfl (lv_at hl 3 rfl) ?_
                      have hFc := tp_fr hD hS hA
                      refine va_calll (va_runV (As := []) (rest := [.long o88_x5, .ref h0]) ⟨hx, hb, hml, hown, hts⟩ (t_X3_pop l dC dI _ Ω κ τ ν ρ L f16 hG hT h0 ht_h0) (cwV 0 hts gX3_runClause_X3_pop rfl rfl rfl ⟨rfl, pd_X3_pop⟩ ⟨Nat.le_of_ble_eq_true rfl, Nat.le_of_ble_eq_true rfl⟩) ⟨pz_blind, va_recv hK hP (ci := 3) (q0 := q89) rfl eq89, pz_pre hP hK hD hN⟩ rfl rfl hl.1 rfl (lv_room (Nat.le_of_ble_eq_true rfl)) dX3_runClause_266 ⟨Nat.le_of_ble_eq_true rfl, Nat.le_of_ble_eq_true rfl⟩) hS (fun q _ h => hFc q h) hFc (fun r90 f92 t H1 locs ht hvm hw91 hB hz1 hk1 hS => ?_)
                      refine tn_4 hw91 (fun hT hF93 hw91r hw91p => ?_); clear hw91
                      have hR := hR.then hF93 (by decide)
                      have hP := hB.1; rw [ht] at hP; have hD := tp_ad f92 hD; clear hB hFc hz1 hk1; subst ht; generalize t.heap = H at hP hS ⊢
                      refine lv_ladd hx hb dX3_runClause_269 ?_
                      refine lv_topl (fun z94 ez94 => ?_)
                      refine tpk_4 hT ht_h0 (fun o95_x3 o95_x4 o95_x5 hf_o95 ro95_0 => ?_)
                      refine tpk_pos (tp_in hG ht_h0 (by decide)) hf_o95 (fun q96 eq96 => ?_)
                      refine va_put (D := (dC, dI)) (ci := 3) (v := .long z94) (ty := .long) (C := RX3) (T := TX3) (N := 6) hx hb hts hfX3 tyX3 tyX3_ok nmX3 hown hK hP hD hS q96 eq96 rfl 5 (by decide) (hts (.fieldLink RX3 26 "ColdShips$Reckoner" "fines" "J") wa_1135) (fun _ h9 => h9) rfl (tyX3_ok 5 (by decide)) rfl rfl (Nat.le_of_ble_eq_true rfl) dX3_runClause_270 (tp_k (.inr (3, [.ref (ρ h0 0), .ref (ρ h0 1), .ref (ρ h0 2), .int o95_x3, .long o95_x4, .long z94])) hD (tp_in hG ht_h0 (by decide)) eq96 (fun f97 H locs hP hD hS g99 k98 => ?_))
                      have hT := hT.up ht_h0 g99 k98 ⟨_, _, _, rfl, (by first | decide | omega | (omega))⟩
                      have hR := hR.up ht_h0 (by decide) k98
                      refine lv_goto (tgt := 286) hx hb dX3_runClause_273 (by decide) ?_
                      obtain ⟨z100, ez100⟩ : ∃ y : Int32, y = w15 + 1 := ⟨_, rfl⟩
                      refine lv_iinc (v := z100) (lv' := [(5, .int z100), (6, .int z23), (4, .int z13), (0, .ref h0), (1, .ref h1), (2, .int v), (3, .int u)]) hx hb dX3_runClause_286 hl (k := 1) rfl (by rw [ez100]; rfl) (by decide) rfl (fun ls hl => ?_)
                      have iz100 : z100.toInt = w15.toInt + 1 := zi_add ez100 rfl rfl (by omega) (by omega)
                      refine lv_goto (tgt := 20) hx hb dX3_runClause_289 (by decide) ?_
                      exact ih17 _ _ _ _ (by rw [hn18]; omega) ⟨f97, z100, rfl, hT, hR, (by omega), hP, hD, hS, lv_sub hl [0, 2, 3, 4, 5, 6] rfl⟩
                  · have ic78 : z23.toInt = (-22) := zi_nef rfl rfl c78
                    refine lv_aload_n hx hb dX3_runClause_237 rfl (lv_at hl 3 rfl) ?_
                    refine lv_dup hx hb dX3_runClause_238 rfl ?_
                    refine tpk_4 hT ht_h0 (fun o101_x3 o101_x4 o101_x5 hf_o101 ro101_0 => ?_)
                    refine tpk_pos (tp_in hG ht_h0 (by decide)) hf_o101 (fun q102 eq102 => ?_)
                    refine va_get (D := (dC, dI)) (ci := 3) (v := .long o101_x4) (C := RX3) (T := TX3) (N := 6) hx hb hts hfX3 hown hK hP q102 eq102 rfl 4 (by decide) (hts (.fieldLink RX3 22 "ColdShips$Reckoner" "pays" "J") wa_1134) (fun _ h9 => h9) rfl dX3_runClause_239 ?_
                    refine lv_aload_n hx hb dX3_runClause_242 rfl (lv_at hl 3 rfl) ?_
                    have hFc := tp_fr hD hS hA
                    refine va_calll (va_runV (As := []) (rest := [.long o101_x4, .ref h0]) ⟨hx, hb, hml, hown, hts⟩ (t_X3_pop l dC dI _ Ω κ τ ν ρ L f16 hG hT h0 ht_h0) (cwV 0 hts gX3_runClause_X3_pop rfl rfl rfl ⟨rfl, pd_X3_pop⟩ ⟨Nat.le_of_ble_eq_true rfl, Nat.le_of_ble_eq_true rfl⟩) ⟨pz_blind, va_recv hK hP (ci := 3) (q0 := q102) rfl eq102, pz_pre hP hK hD hN⟩ rfl rfl hl.1 rfl (lv_room (Nat.le_of_ble_eq_true rfl)) dX3_runClause_243 ⟨Nat.le_of_ble_eq_true rfl, Nat.le_of_ble_eq_true rfl⟩) hS (fun q _ h => hFc q h) hFc (fun r103 f105 t H1 locs ht hvm hw104 hB hz1 hk1 hS => ?_)
                    refine tn_4 hw104 (fun hT hF106 hw104r hw104p => ?_); clear hw104
                    have hR := hR.then hF106 (by decide)
                    have hP := hB.1; rw [ht] at hP; have hD := tp_ad f105 hD; clear hB hFc hz1 hk1; subst ht; generalize t.heap = H at hP hS ⊢
                    refine lv_ladd hx hb dX3_runClause_246 ?_
                    refine lv_topl (fun z107 ez107 => ?_)
                    refine tpk_4 hT ht_h0 (fun o108_x3 o108_x4 o108_x5 hf_o108 ro108_0 => ?_)
                    refine tpk_pos (tp_in hG ht_h0 (by decide)) hf_o108 (fun q109 eq109 => ?_)
                    refine va_put (D := (dC, dI)) (ci := 3) (v := .long z107) (ty := .long) (C := RX3) (T := TX3) (N := 6) hx hb hts hfX3 tyX3 tyX3_ok nmX3 hown hK hP hD hS q109 eq109 rfl 4 (by decide) (hts (.fieldLink RX3 22 "ColdShips$Reckoner" "pays" "J") wa_1134) (fun _ h9 => h9) rfl (tyX3_ok 4 (by decide)) rfl rfl (Nat.le_of_ble_eq_true rfl) dX3_runClause_247 (tp_k (.inr (3, [.ref (ρ h0 0), .ref (ρ h0 1), .ref (ρ h0 2), .int o108_x3, .long z107, .long o108_x5])) hD (tp_in hG ht_h0 (by decide)) eq109 (fun f110 H locs hP hD hS g112 k111 => ?_))
                    have hT := hT.up ht_h0 g112 k111 ⟨_, _, _, rfl, (by first | decide | omega | (omega))⟩
                    have hR := hR.up ht_h0 (by decide) k111
                    refine lv_goto (tgt := 286) hx hb dX3_runClause_250 (by decide) ?_
                    obtain ⟨z113, ez113⟩ : ∃ y : Int32, y = w15 + 1 := ⟨_, rfl⟩
                    refine lv_iinc (v := z113) (lv' := [(5, .int z113), (6, .int z23), (4, .int z13), (0, .ref h0), (1, .ref h1), (2, .int v), (3, .int u)]) hx hb dX3_runClause_286 hl (k := 1) rfl (by rw [ez113]; rfl) (by decide) rfl (fun ls hl => ?_)
                    have iz113 : z113.toInt = w15.toInt + 1 := zi_add ez113 rfl rfl (by omega) (by omega)
                    refine lv_goto (tgt := 20) hx hb dX3_runClause_289 (by decide) ?_
                    exact ih17 _ _ _ _ (by rw [hn18]; omega) ⟨f110, z113, rfl, hT, hR, (by omega), hP, hD, hS, lv_sub hl [0, 2, 3, 4, 5, 6] rfl⟩
                · have ic77 : z23.toInt = (-21) := zi_nef rfl rfl c77
                  refine lv_aload_n hx hb dX3_runClause_220 rfl (lv_at hl 3 rfl) ?_
                  refine tpk_4 hT ht_h0 (fun o114_x3 o114_x4 o114_x5 hf_o114 ro114_0 => ?_)
                  refine tpk_pos (tp_in hG ht_h0 (by decide)) hf_o114 (fun q115 eq115 => ?_)
                  have hFc := tp_fr hD hS hA
                  refine va_calll (va_runV (As := []) (rest := []) ⟨hx, hb, hml, hown, hts⟩ (t_X3_pop l dC dI _ Ω κ τ ν ρ L f16 hG hT h0 ht_h0) (cwV 0 hts gX3_runClause_X3_pop rfl rfl rfl ⟨rfl, pd_X3_pop⟩ ⟨Nat.le_of_ble_eq_true rfl, Nat.le_of_ble_eq_true rfl⟩) ⟨pz_blind, va_recv hK hP (ci := 3) (q0 := q115) rfl eq115, pz_pre hP hK hD hN⟩ rfl rfl hl.1 rfl (lv_room (Nat.le_of_ble_eq_true rfl)) dX3_runClause_221 ⟨Nat.le_of_ble_eq_true rfl, Nat.le_of_ble_eq_true rfl⟩) hS (fun q _ h => hFc q h) hFc (fun r116 f118 t H1 locs ht hvm hw117 hB hz1 hk1 hS => ?_)
                  refine tn_4 hw117 (fun hT hF119 hw117r hw117p => ?_); clear hw117
                  have hR := hR.then hF119 (by decide)
                  have hP := hB.1; rw [ht] at hP; have hD := tp_ad f118 hD; clear hB hFc hz1 hk1; subst ht; generalize t.heap = H at hP hS ⊢
                  refine lv_lconst (v := 0) hx hb dX3_runClause_224 (by decide) ?_
                  refine W.lcmp hx hb dX3_runClause_225 ?_
                  refine lv_if_ne (tgt := 286) hx hb dX3_runClause_226 (by decide) (fun c120 => ?_) (fun c120 => ?_)
                  · have ic120 : r116.toInt ≠ 0 := zl_ne rfl rfl c120
                    obtain ⟨z121, ez121⟩ : ∃ y : Int32, y = w15 + 1 := ⟨_, rfl⟩
                    refine lv_iinc (v := z121) (lv' := [(5, .int z121), (6, .int z23), (4, .int z13), (0, .ref h0), (1, .ref h1), (2, .int v), (3, .int u)]) hx hb dX3_runClause_286 hl (k := 1) rfl (by rw [ez121]; rfl) (by decide) rfl (fun ls hl => ?_)
                    have iz121 : z121.toInt = w15.toInt + 1 := zi_add ez121 rfl rfl (by omega) (by omega)
                    refine lv_goto (tgt := 20) hx hb dX3_runClause_289 (by decide) ?_
                    exact ih17 _ _ _ _ (by rw [hn18]; omega) ⟨f118, z121, rfl, hT, hR, (by omega), hP, hD, hS, lv_sub hl [0, 2, 3, 4, 5, 6] rfl⟩
                  · have ic120 : r116.toInt = 0 := zl_nef rfl rfl c120
                    exact W.vret hx hb hr (fun t ht hW => ⟨⟨f118, rfl, ⟨hT, hR, trivial⟩, by rw [ht]; exact hP, va_K.moved hW.alike hK, hD⟩, hS.F ht⟩) hS.2.2 dX3_runClause_229
              · have ic76 : z23.toInt = (-18) := zi_nef rfl rfl c76
                refine lv_aload_n hx hb dX3_runClause_192 rfl (lv_at hl 3 rfl) ?_
                refine lv_aload_n hx hb dX3_runClause_193 rfl (lv_at hl 3 rfl) ?_
                refine tpk_4 hT ht_h0 (fun o122_x3 o122_x4 o122_x5 hf_o122 ro122_0 => ?_)
                refine tpk_pos (tp_in hG ht_h0 (by decide)) hf_o122 (fun q123 eq123 => ?_)
                have hFc := tp_fr hD hS hA
                refine va_calll (va_runV (As := []) (rest := [.ref h0]) ⟨hx, hb, hml, hown, hts⟩ (t_X3_pop l dC dI _ Ω κ τ ν ρ L f16 hG hT h0 ht_h0) (cwV 0 hts gX3_runClause_X3_pop rfl rfl rfl ⟨rfl, pd_X3_pop⟩ ⟨Nat.le_of_ble_eq_true rfl, Nat.le_of_ble_eq_true rfl⟩) ⟨pz_blind, va_recv hK hP (ci := 3) (q0 := q123) rfl eq123, pz_pre hP hK hD hN⟩ rfl rfl hl.1 rfl (lv_room (Nat.le_of_ble_eq_true rfl)) dX3_runClause_194 ⟨Nat.le_of_ble_eq_true rfl, Nat.le_of_ble_eq_true rfl⟩) hS (fun q _ h => hFc q h) hFc (fun r124 f126 t H1 locs ht hvm hw125 hB hz1 hk1 hS => ?_)
                refine tn_4 hw125 (fun hT hF127 hw125r hw125p => ?_); clear hw125
                have hR := hR.then hF127 (by decide)
                have hP := hB.1; rw [ht] at hP; have hD := tp_ad f126 hD; clear hB hFc hz1 hk1; subst ht; generalize t.heap = H at hP hS ⊢
                refine lv_lconst (v := 0) hx hb dX3_runClause_197 (by decide) ?_
                refine W.lcmp hx hb dX3_runClause_198 ?_
                refine lv_if_ne (tgt := 206) hx hb dX3_runClause_199 (by decide) (fun c128 => ?_) (fun c128 => ?_)
                · have ic128 : r124.toInt ≠ 0 := zl_ne rfl rfl c128
                  refine lv_lconst (v := 0) hx hb dX3_runClause_206 (by decide) ?_
                  refine tpk_4 hT ht_h0 (fun o129_x3 o129_x4 o129_x5 hf_o129 ro129_0 => ?_)
                  refine tpk_pos (tp_in hG ht_h0 (by decide)) hf_o129 (fun q130 eq130 => ?_)
                  have hFc := tp_fr hD hS hA
                  refine va_callv (va_runV (As := [.long 0]) (rest := []) ⟨hx, hb, hml, hown, hts⟩ (t_X3_push l dC dI _ Ω κ τ ν ρ L f126 hG hT h0 (0) ht_h0) (cwV 1 hts gX3_runClause_X3_push rfl rfl rfl ⟨rfl, pd_X3_push⟩ ⟨Nat.le_of_ble_eq_true rfl, Nat.le_of_ble_eq_true rfl⟩) ⟨pz_blind, va_recv hK hP (ci := 3) (q0 := q130) rfl eq130, pz_pre hP hK hD hN⟩ rfl rfl hl.1 rfl (lv_room (Nat.le_of_ble_eq_true rfl)) dX3_runClause_207 ⟨Nat.le_of_ble_eq_true rfl, Nat.le_of_ble_eq_true rfl⟩) hS (fun q _ h => hFc q h) hFc (fun f133 t H1 locs ht hvm hw132 hB hz1 hk1 hS => ?_)
                  refine tn_3 hw132 (fun hT hF134 hw132p => ?_); clear hw132
                  have hR := hR.then hF134 (by decide)
                  have hP := hB.1; rw [ht] at hP; have hD := tp_ad f133 hD; clear hB hFc hz1 hk1; subst ht; generalize t.heap = H at hP hS ⊢
                  refine lv_goto (tgt := 286) hx hb dX3_runClause_210 (by decide) ?_
                  obtain ⟨z135, ez135⟩ : ∃ y : Int32, y = w15 + 1 := ⟨_, rfl⟩
                  refine lv_iinc (v := z135) (lv' := [(5, .int z135), (6, .int z23), (4, .int z13), (0, .ref h0), (1, .ref h1), (2, .int v), (3, .int u)]) hx hb dX3_runClause_286 hl (k := 1) rfl (by rw [ez135]; rfl) (by decide) rfl (fun ls hl => ?_)
                  have iz135 : z135.toInt = w15.toInt + 1 := zi_add ez135 rfl rfl (by omega) (by omega)
                  refine lv_goto (tgt := 20) hx hb dX3_runClause_289 (by decide) ?_
                  exact ih17 _ _ _ _ (by rw [hn18]; omega) ⟨f133, z135, rfl, hT, hR, (by omega), hP, hD, hS, lv_sub hl [0, 2, 3, 4, 5, 6] rfl⟩
                · have ic128 : r124.toInt = 0 := zl_nef rfl rfl c128
                  refine lv_lconst (v := 1) hx hb dX3_runClause_202 (by decide) ?_
                  refine lv_goto (tgt := 207) hx hb dX3_runClause_203 (by decide) ?_
                  refine tpk_4 hT ht_h0 (fun o136_x3 o136_x4 o136_x5 hf_o136 ro136_0 => ?_)
                  refine tpk_pos (tp_in hG ht_h0 (by decide)) hf_o136 (fun q137 eq137 => ?_)
                  have hFc := tp_fr hD hS hA
                  refine va_callv (va_runV (As := [.long 1]) (rest := []) ⟨hx, hb, hml, hown, hts⟩ (t_X3_push l dC dI _ Ω κ τ ν ρ L f126 hG hT h0 (1) ht_h0) (cwV 1 hts gX3_runClause_X3_push rfl rfl rfl ⟨rfl, pd_X3_push⟩ ⟨Nat.le_of_ble_eq_true rfl, Nat.le_of_ble_eq_true rfl⟩) ⟨pz_blind, va_recv hK hP (ci := 3) (q0 := q137) rfl eq137, pz_pre hP hK hD hN⟩ rfl rfl hl.1 rfl (lv_room (Nat.le_of_ble_eq_true rfl)) dX3_runClause_207 ⟨Nat.le_of_ble_eq_true rfl, Nat.le_of_ble_eq_true rfl⟩) hS (fun q _ h => hFc q h) hFc (fun f140 t H1 locs ht hvm hw139 hB hz1 hk1 hS => ?_)
                  refine tn_3 hw139 (fun hT hF141 hw139p => ?_); clear hw139
                  have hR := hR.then hF141 (by decide)
                  have hP := hB.1; rw [ht] at hP; have hD := tp_ad f140 hD; clear hB hFc hz1 hk1; subst ht; generalize t.heap = H at hP hS ⊢
                  refine lv_goto (tgt := 286) hx hb dX3_runClause_210 (by decide) ?_
                  obtain ⟨z142, ez142⟩ : ∃ y : Int32, y = w15 + 1 := ⟨_, rfl⟩
                  refine lv_iinc (v := z142) (lv' := [(5, .int z142), (6, .int z23), (4, .int z13), (0, .ref h0), (1, .ref h1), (2, .int v), (3, .int u)]) hx hb dX3_runClause_286 hl (k := 1) rfl (by rw [ez142]; rfl) (by decide) rfl (fun ls hl => ?_)
                  have iz142 : z142.toInt = w15.toInt + 1 := zi_add ez142 rfl rfl (by omega) (by omega)
                  refine lv_goto (tgt := 20) hx hb dX3_runClause_289 (by decide) ?_
                  exact ih17 _ _ _ _ (by rw [hn18]; omega) ⟨f140, z142, rfl, hT, hR, (by omega), hP, hD, hS, lv_sub hl [0, 2, 3, 4, 5, 6] rfl⟩
            · have ic75 : z23.toInt = (-20) := zi_nef rfl rfl c75
              exact hj26 _ _ _ _ ⟨rfl, hP, hD, hS, lv_sub hl [0, 1, 2, 3, 4, 5, 6] rfl⟩
      · have ic25 : z23.toInt ≥ (-8) := zi_ltf rfl rfl c25
        refine lv_aload_n hx hb dX3_runClause_55 rfl (lv_at hl 3 rfl) ?_
        refine lv_aload_n hx hb dX3_runClause_56 rfl (lv_at hl 3 rfl) ?_
        refine tpk_4 hT ht_h0 (fun o143_x3 o143_x4 o143_x5 hf_o143 ro143_0 => ?_)
        refine tpk_pos (tp_in hG ht_h0 (by decide)) hf_o143 (fun q144 eq144 => ?_)
        refine va_get (D := (dC, dI)) (ci := 3) (v := .ref (ρ h0 1)) (C := RX3) (T := TX3) (N := 6) hx hb hts hfX3 hown hK hP q144 eq144 rfl 1 (by decide) (hts (.fieldLink RX3 9 "ColdShips$Reckoner" "facts" "[J") wa_127) (fun _ h9 => h9) rfl dX3_runClause_57 ?_
        refine lv_iconst (v := (-1)) hx hb dX3_runClause_60 (by decide) ?_
        refine lv_iload hx hb dX3_runClause_61 (lv_at hl 0 rfl) ?_
        refine lv_isub hx hb dX3_runClause_63 ?_
        refine lv_topi (fun z145 ez145 => ?_)
        have iz145 : z145.toInt = (-1) - z23.toInt := zi_sub ez145 rfl rfl (by omega) (by omega)
        refine tpk_21 hT y2 y2n (fun g147 hf_o146 => ?_)
        refine tpk_pos (tp_in hG y2 (by decide)) hf_o146 (fun q148 eq148 => ?_)
        refine va_lald hx hb hK hP q148 1 eq148 rfl (vp_in_iff.mpr ⟨by omega, by omega⟩) dX3_runClause_64 ?_
        refine lv_topl (fun z149 ez149 => ?_)
        have hFc := tp_fr hD hS hA
        refine va_callv (va_runV (As := [.long z149]) (rest := []) ⟨hx, hb, hml, hown, hts⟩ (t_X3_push l dC dI _ Ω κ τ ν ρ L f16 hG hT h0 z149 ht_h0) (cwV 1 hts gX3_runClause_X3_push rfl rfl rfl ⟨rfl, pd_X3_push⟩ ⟨Nat.le_of_ble_eq_true rfl, Nat.le_of_ble_eq_true rfl⟩) ⟨pz_blind, va_recv hK hP (ci := 3) (q0 := q144) rfl eq144, pz_pre hP hK hD hN⟩ rfl rfl hl.1 rfl (lv_room (Nat.le_of_ble_eq_true rfl)) dX3_runClause_65 ⟨Nat.le_of_ble_eq_true rfl, Nat.le_of_ble_eq_true rfl⟩) hS (fun q _ h => hFc q h) hFc (fun f152 t H1 locs ht hvm hw151 hB hz1 hk1 hS => ?_)
        refine tn_3 hw151 (fun hT hF153 hw151p => ?_); clear hw151
        have hR := hR.then hF153 (by decide)
        have hP := hB.1; rw [ht] at hP; have hD := tp_ad f152 hD; clear hB hFc hz1 hk1; subst ht; generalize t.heap = H at hP hS ⊢
        refine lv_goto (tgt := 286) hx hb dX3_runClause_68 (by decide) ?_
        obtain ⟨z154, ez154⟩ : ∃ y : Int32, y = w15 + 1 := ⟨_, rfl⟩
        refine lv_iinc (v := z154) (lv' := [(5, .int z154), (6, .int z23), (4, .int z13), (0, .ref h0), (1, .ref h1), (2, .int v), (3, .int u)]) hx hb dX3_runClause_286 hl (k := 1) rfl (by rw [ez154]; rfl) (by decide) rfl (fun ls hl => ?_)
        have iz154 : z154.toInt = w15.toInt + 1 := zi_add ez154 rfl rfl (by omega) (by omega)
        refine lv_goto (tgt := 20) hx hb dX3_runClause_289 (by decide) ?_
        exact ih17 _ _ _ _ (by rw [hn18]; omega) ⟨f152, z154, rfl, hT, hR, (by omega), hP, hD, hS, lv_sub hl [0, 2, 3, 4, 5, 6] rfl⟩
    · have ic24 : z23.toInt ≥ 0 := zi_ltf rfl rfl c24
      refine lv_aload_n hx hb dX3_runClause_38 rfl (lv_at hl 3 rfl) ?_
      refine lv_iload hx hb dX3_runClause_39 (lv_at hl 0 rfl) ?_
      refine lv_i2l hx hb dX3_runClause_41 rfl ?_
      refine tpk_4 hT ht_h0 (fun o155_x3 o155_x4 o155_x5 hf_o155 ro155_0 => ?_)
      refine tpk_pos (tp_in hG ht_h0 (by decide)) hf_o155 (fun q156 eq156 => ?_)
      have hFc := tp_fr hD hS hA
      refine va_callv (va_runV (As := [.long z23.toInt64]) (rest := []) ⟨hx, hb, hml, hown, hts⟩ (t_X3_push l dC dI _ Ω κ τ ν ρ L f16 hG hT h0 z23.toInt64 ht_h0) (cwV 1 hts gX3_runClause_X3_push rfl rfl rfl ⟨rfl, pd_X3_push⟩ ⟨Nat.le_of_ble_eq_true rfl, Nat.le_of_ble_eq_true rfl⟩) ⟨pz_blind, va_recv hK hP (ci := 3) (q0 := q156) rfl eq156, pz_pre hP hK hD hN⟩ rfl rfl hl.1 rfl (lv_room (Nat.le_of_ble_eq_true rfl)) dX3_runClause_42 ⟨Nat.le_of_ble_eq_true rfl, Nat.le_of_ble_eq_true rfl⟩) hS (fun q _ h => hFc q h) hFc (fun f159 t H1 locs ht hvm hw158 hB hz1 hk1 hS => ?_)
      refine tn_3 hw158 (fun hT hF160 hw158p => ?_); clear hw158
      have hR := hR.then hF160 (by decide)
      have hP := hB.1; rw [ht] at hP; have hD := tp_ad f159 hD; clear hB hFc hz1 hk1; subst ht; generalize t.heap = H at hP hS ⊢
      refine lv_goto (tgt := 286) hx hb dX3_runClause_45 (by decide) ?_
      obtain ⟨z161, ez161⟩ : ∃ y : Int32, y = w15 + 1 := ⟨_, rfl⟩
      refine lv_iinc (v := z161) (lv' := [(5, .int z161), (6, .int z23), (4, .int z13), (0, .ref h0), (1, .ref h1), (2, .int v), (3, .int u)]) hx hb dX3_runClause_286 hl (k := 1) rfl (by rw [ez161]; rfl) (by decide) rfl (fun ls hl => ?_)
      have iz161 : z161.toInt = w15.toInt + 1 := zi_add ez161 rfl rfl (by omega) (by omega)
      refine lv_goto (tgt := 20) hx hb dX3_runClause_289 (by decide) ?_
      exact ih17 _ _ _ _ (by rw [hn18]; omega) ⟨f159, z161, rfl, hT, hR, (by omega), hP, hD, hS, lv_sub hl [0, 2, 3, 4, 5, 6] rfl⟩
set_option maxHeartbeats 4000000 in
set_option maxRecDepth 100000 in
theorem t_X3_findFacts (l : Launch) (dC : Nat → ClassId) (dI : Nat → Nat → Nat) (sz : Nat) (Ω : Nat → (Nat → Nat) → va_E → Prop) (κ : Nat → ClassId) (τ ν : Nat → Nat) (ρ : Nat → Nat → Nat) (L : List Nat) (f : Nat → va_E) (hG : tp_G τ ν ρ L) (hT : tp_T Ω κ τ ν ρ f) (h0 : Nat) (v : Int32) (h1 : Nat) (u : Int32) (ht_h0 : τ h0 = 4) (ht_h1 : τ h1 = 1) : Met l yX3_findFacts wqX3_findFacts ({ frames := 4, cells := 0, slots := 0, locals := 1200 }) (va_Pc [.ref h0, .int v, .ref h1, .int u] (pz_B dC dI (tp_K κ) (va_pl L f) sz)) (va_Qv (fun (f1 : Nat → va_E) => tp_T Ω κ τ ν ρ f1 ∧ tp_F τ [21] f f1 ∧ True) (fun (f1 : Nat → va_E) (t : State) => pz_E dC dI (tp_K κ) (va_A (va_pl L f) sz) (va_pl L f1) t) (va_A (va_pl L f) sz)) 0 0 (va_A (va_pl L f) sz) := by
  refine Met.ofW (cc := cX3_findFacts) (maxL := 7) (ret := none) (by decide) rfl ?_
  intro p e s m args below meth c s₁ B hml hv
  obtain ⟨rfl, hsz, hP, hK, hD0, hN⟩ := hv
  have hx := B.exec
  have hb := B.bytes
  have hr := B.returns
  have hts := fun (w : Cond) (h : w ∈ WALL) => atoms_spec (ws := wqX3_findFacts) B.pre w (List.mem_cons_of_mem _ h)
  have hown : s.vm.findClass RX3 = some m.cls := findClass_of_methodNamed B.named
  have hlocks := B.notSynchronized
  subst hsz
  have hD := hD0.self (sz := s.heap.size)
  generalize hAe : va_A (va_pl L f) s.heap.size = A at hD ⊢
  have hA : ∀ q : Nat, s.heap.size ≤ q → A q := fun q h => by rw [← hAe]; exact Or.inr h
  have hS : va_S A s.heap s.heap [] := va_S.rf
  have hR : tp_F τ [21] f f := tp_F.rf
  have hl := lv_entry ([.ref h0, .int v, .ref h1, .int u]) (n := 7) (Nat.le_of_ble_eq_true rfl)
  rw [lg_entry_eq]
  generalize (lg_sl ([.ref h0, .int v, .ref h1, .int u]) ++ List.replicate (7 - (lg_sl ([.ref h0, .int v, .ref h1, .int u])).length) Slot.unset).toArray = ls at hl ⊢
  have hl : lv_has ls 7 [(0, .ref h0), (1, .int v), (2, .ref h1), (3, .int u)] := hl
  refine lv_aload_n hx hb dX3_findFacts_0 rfl (lv_at hl 0 rfl) ?_
  refine tgk_4 hG ht_h0 (fun y1 y2 y2n y3 y3n => ?_)
  refine tpk_4 hT ht_h0 (fun o4_x3 o4_x4 o4_x5 hf_o4 ro4_0 => ?_)
  refine tpk_pos (tp_in hG ht_h0 (by decide)) hf_o4 (fun q5 eq5 => ?_)
  refine va_get (D := (dC, dI)) (ci := 3) (v := .ref (ρ h0 0)) (C := RX3) (T := TX3) (N := 6) hx hb hts hfX3 hown hK hP q5 eq5 rfl 0 (by decide) (hts (.fieldLink RX3 18 "ColdShips$Reckoner" "world" "LColdShips$World;") wa_129) (fun _ h9 => h9) rfl dX3_findFacts_1 ?_
  refine tgk_11 hG y1 (fun y6 y6n y7 y7n y8 y9 y10 y11 y12 y13 y14 y14w y14m y15 y15w y15m y16 y16w y16m y17 y17w y17m => ?_)
  refine tpk_11 hT y1 (fun o18_x0 o18_x1 o18_x2 o18_x3 o18_x4 o18_x5 o18_x6 hf_o18 ro18_0 ro18_1 ro18_2 ro18_3 => ?_)
  refine tpk_pos (tp_in hG y1 (by decide)) hf_o18 (fun q19 eq19 => ?_)
  refine va_getN (D := (dC, dI)) (ci := 10) (v := .ref (ρ (ρ h0 0) 17)) (C := RX10) (T := TX10) (N := 19) hx hb hts hfX10 hown hK hP q19 eq19 rfl 17 (by decide) (va_Nw.use rfl (hN.1 (.fieldLinkNest RX3 46 "ColdShips$World" "landings" "LColdShips$Rows;" "ColdShips") nzw_83)) (fun _ h9 => h9) rfl dX3_findFacts_4 ?_
  refine lv_iload_n hx hb dX3_findFacts_7 rfl (lv_at hl 1 rfl) ?_
  refine lv_iconst (v := 2) hx hb dX3_findFacts_8 (by decide) ?_
  refine tgk_5 hG y16 (fun y20 y20n y21a y21b y21c => ?_)
  refine tpk_5 hT y16 (fun o22_x0 o22_x2 hf_o22 ro22_0 ro22_1 => ?_)
  refine tpk_pos (tp_in hG y16 (by decide)) hf_o22 (fun q23 eq23 => ?_)
  refine pz_calli (va_runV (As := [.int v, .int 2]) (rest := []) ⟨hx, hb, hml, hown, hts⟩ (t_X4_number l dC dI _ Ω κ τ ν ρ L f hG hT (ρ (ρ h0 0) 17) v (2) y16) (cwV 2 hts gX3_findFacts_X4_number rfl rfl rfl ⟨rfl, pd_X4_number⟩ ⟨Nat.le_of_ble_eq_true rfl, Nat.le_of_ble_eq_true rfl⟩) ⟨pz_blind, va_recv hK hP (ci := 4) (q0 := q23) rfl eq23, pz_pre hP hK hD hN⟩ rfl rfl hl.1 rfl (lv_room (Nat.le_of_ble_eq_true rfl)) dX3_findFacts_9 ⟨Nat.le_of_ble_eq_true rfl, Nat.le_of_ble_eq_true rfl⟩) (fun r24 hw25 => ?_)
  obtain ⟨hw25r, hw25p⟩ := hw25
  refine lv_istore (lv' := [(4, .int r24), (0, .ref h0), (1, .int v), (2, .ref h1), (3, .int u)]) hx hb dX3_findFacts_12 hl (by decide) rfl (fun ls hl => ?_)
  refine lv_aload_n hx hb dX3_findFacts_14 rfl (lv_at hl 1 rfl) ?_
  refine va_get (D := (dC, dI)) (ci := 3) (v := .ref (ρ h0 0)) (C := RX3) (T := TX3) (N := 6) hx hb hts hfX3 hown hK hP q5 eq5 rfl 0 (by decide) (hts (.fieldLink RX3 18 "ColdShips$Reckoner" "world" "LColdShips$World;") wa_129) (fun _ h9 => h9) rfl dX3_findFacts_15 ?_
  refine va_getN (D := (dC, dI)) (ci := 10) (v := .ref (ρ (ρ h0 0) 17)) (C := RX10) (T := TX10) (N := 19) hx hb hts hfX10 hown hK hP q19 eq19 rfl 17 (by decide) (va_Nw.use rfl (hN.1 (.fieldLinkNest RX3 46 "ColdShips$World" "landings" "LColdShips$Rows;" "ColdShips") nzw_83)) (fun _ h9 => h9) rfl dX3_findFacts_18 ?_
  refine lv_iload_n hx hb dX3_findFacts_21 rfl (lv_at hl 2 rfl) ?_
  refine lv_iconst (v := 3) hx hb dX3_findFacts_22 (by decide) ?_
  refine pz_calli (va_runV (As := [.int v, .int 3]) (rest := []) ⟨hx, hb, hml, hown, hts⟩ (t_X4_number l dC dI _ Ω κ τ ν ρ L f hG hT (ρ (ρ h0 0) 17) v (3) y16) (cwV 2 hts gX3_findFacts_X4_number rfl rfl rfl ⟨rfl, pd_X4_number⟩ ⟨Nat.le_of_ble_eq_true rfl, Nat.le_of_ble_eq_true rfl⟩) ⟨pz_blind, va_recv hK hP (ci := 4) (q0 := q23) rfl eq23, pz_pre hP hK hD hN⟩ rfl rfl hl.1 rfl (lv_room (Nat.le_of_ble_eq_true rfl)) dX3_findFacts_23 ⟨Nat.le_of_ble_eq_true rfl, Nat.le_of_ble_eq_true rfl⟩) (fun r26 hw27 => ?_)
  obtain ⟨hw27r, hw27p⟩ := hw27
  refine lv_istore (lv' := [(5, .int r26), (4, .int r24), (0, .ref h0), (1, .int v), (2, .ref h1), (3, .int u)]) hx hb dX3_findFacts_26 hl (by decide) rfl (fun ls hl => ?_)
  refine lv_aload_n hx hb dX3_findFacts_28 rfl (lv_at hl 4 rfl) ?_
  refine tgk_1 hG ht_h1 (fun y28 y28n y29 y29n => ?_)
  refine tpk_1 hT ht_h1 (fun o30_x2 o30_x3 o30_x4 hf_o30 => ?_)
  refine tpk_pos (tp_in hG ht_h1 (by decide)) hf_o30 (fun q31 eq31 => ?_)
  refine va_getN (D := (dC, dI)) (ci := 0) (v := .int o30_x4) (C := RX0) (T := TX0) (N := 5) hx hb hts hfX0 hown hK hP q31 eq31 rfl 4 (by decide) (va_Nw.use rfl (hN.1 (.fieldLinkNest RX3 58 "ColdShips$Contract" "place" "I" "ColdShips") nzw_103)) (fun _ h9 => h9) rfl dX3_findFacts_29 ?_
  refine lv_aload_n hx hb dX3_findFacts_32 rfl (lv_at hl 2 rfl) ?_
  refine va_get (D := (dC, dI)) (ci := 3) (v := .ref (ρ h0 0)) (C := RX3) (T := TX3) (N := 6) hx hb hts hfX3 hown hK hP q5 eq5 rfl 0 (by decide) (hts (.fieldLink RX3 18 "ColdShips$Reckoner" "world" "LColdShips$World;") wa_129) (fun _ h9 => h9) rfl dX3_findFacts_33 ?_
  refine va_getN (D := (dC, dI)) (ci := 10) (v := .ref (ρ (ρ h0 0) 17)) (C := RX10) (T := TX10) (N := 19) hx hb hts hfX10 hown hK hP q19 eq19 rfl 17 (by decide) (va_Nw.use rfl (hN.1 (.fieldLinkNest RX3 46 "ColdShips$World" "landings" "LColdShips$Rows;" "ColdShips") nzw_83)) (fun _ h9 => h9) rfl dX3_findFacts_36 ?_
  refine lv_iload_n hx hb dX3_findFacts_39 rfl (lv_at hl 3 rfl) ?_
  refine lv_iconst (v := 1) hx hb dX3_findFacts_40 (by decide) ?_
  refine pz_calli (va_runV (As := [.int v, .int 1]) (rest := [.int o30_x4]) ⟨hx, hb, hml, hown, hts⟩ (t_X4_number l dC dI _ Ω κ τ ν ρ L f hG hT (ρ (ρ h0 0) 17) v (1) y16) (cwV 2 hts gX3_findFacts_X4_number rfl rfl rfl ⟨rfl, pd_X4_number⟩ ⟨Nat.le_of_ble_eq_true rfl, Nat.le_of_ble_eq_true rfl⟩) ⟨pz_blind, va_recv hK hP (ci := 4) (q0 := q23) rfl eq23, pz_pre hP hK hD hN⟩ rfl rfl hl.1 rfl (lv_room (Nat.le_of_ble_eq_true rfl)) dX3_findFacts_41 ⟨Nat.le_of_ble_eq_true rfl, Nat.le_of_ble_eq_true rfl⟩) (fun r32 hw33 => ?_)
  obtain ⟨hw33r, hw33p⟩ := hw33
  refine tp_join 52 (fun H locs ls stk => ∃ w34 : Int32, stk = [.int w34] ∧ (0 ≤ w34.toInt ∧ w34.toInt ≤ 1) ∧ va_P (dC, dI) vwCl (va_pl L f) H ∧ va_D A (va_pl L f) ∧ va_S A s.heap H locs ∧ lv_has ls 7 [(5, .int r26), (4, .int r24), (0, .ref h0), (1, .int v), (2, .ref h1), (3, .int u)]) ?_ (fun hj35 => ?_)
  · intro H locs ls stk hI
    refine Exists.elim hI (fun w34 hE90 => tn_6 hE90 (fun e90 rw34 hP hD hS hl => ?_))
    clear hE90 hI; subst e90
    refine lv_istore (lv' := [(6, .int w34), (5, .int r26), (4, .int r24), (0, .ref h0), (1, .int v), (2, .ref h1), (3, .int u)]) hx hb dX3_findFacts_52 hl (by decide) rfl (fun ls hl => ?_)
    refine lv_aload_n hx hb dX3_findFacts_54 rfl (lv_at hl 3 rfl) ?_
    refine va_get (D := (dC, dI)) (ci := 3) (v := .ref (ρ h0 1)) (C := RX3) (T := TX3) (N := 6) hx hb hts hfX3 hown hK hP q5 eq5 rfl 1 (by decide) (hts (.fieldLink RX3 9 "ColdShips$Reckoner" "facts" "[J") wa_127) (fun _ h9 => h9) rfl dX3_findFacts_55 ?_
    refine lv_iconst (v := 0) hx hb dX3_findFacts_58 (by decide) ?_
    refine lv_aload_n hx hb dX3_findFacts_59 rfl (lv_at hl 3 rfl) ?_
    refine va_get (D := (dC, dI)) (ci := 3) (v := .ref (ρ h0 0)) (C := RX3) (T := TX3) (N := 6) hx hb hts hfX3 hown hK hP q5 eq5 rfl 0 (by decide) (hts (.fieldLink RX3 18 "ColdShips$Reckoner" "world" "LColdShips$World;") wa_129) (fun _ h9 => h9) rfl dX3_findFacts_60 ?_
    refine va_getN (D := (dC, dI)) (ci := 10) (v := .ref (ρ (ρ h0 0) 17)) (C := RX10) (T := TX10) (N := 19) hx hb hts hfX10 hown hK hP q19 eq19 rfl 17 (by decide) (va_Nw.use rfl (hN.1 (.fieldLinkNest RX3 46 "ColdShips$World" "landings" "LColdShips$Rows;" "ColdShips") nzw_83)) (fun _ h9 => h9) rfl dX3_findFacts_63 ?_
    refine lv_iload_n hx hb dX3_findFacts_66 rfl (lv_at hl 4 rfl) ?_
    refine lv_iconst (v := 4) hx hb dX3_findFacts_67 (by decide) ?_
    refine pz_calll (va_runV (As := [.int v, .int 4]) (rest := [.int 0, .ref (ρ h0 1)]) ⟨hx, hb, hml, hown, hts⟩ (t_X4_at l dC dI _ Ω κ τ ν ρ L f hG hT (ρ (ρ h0 0) 17) v (4) y16 o22_x0 o22_x2 hf_o22) (cwV 2 hts gX3_findFacts_X4_at rfl rfl rfl ⟨rfl, pd_X4_at⟩ ⟨Nat.le_of_ble_eq_true rfl, Nat.le_of_ble_eq_true rfl⟩) ⟨pz_blind, va_recv hK hP (ci := 4) (q0 := q23) rfl eq23, pz_pre hP hK hD hN⟩ rfl rfl hl.1 rfl (lv_room (Nat.le_of_ble_eq_true rfl)) dX3_findFacts_68 ⟨Nat.le_of_ble_eq_true rfl, Nat.le_of_ble_eq_true rfl⟩) (fun r36 hw37 => ?_)
    obtain ⟨hw37r, hw37p⟩ := hw37
    refine tpk_21 hT y2 y2n (fun g39 hf_o38 => ?_)
    refine tpk_pos (tp_in hG y2 (by decide)) hf_o38 (fun q40 eq40 => ?_)
    refine va_last hx hb hK hP hD hS q40 1 eq40 rfl (vp_in_iff.mpr ⟨by decide, by decide⟩) dX3_findFacts_71 (tp_k (.inl (κ 1, 8, .inr (.inl (vp_updL g39 (0 : Int32).toNatClampNeg r36)))) hD (tp_in hG y2 (by decide)) eq40 (fun f41 H locs hP hD hS g43 k42 => ?_))
    have hT := hT.up y2 g43 k42 (tp_o21 y2n)
    have hR := hR.up y2 (by decide) k42
    generalize (vp_updL g39 (0 : Int32).toNatClampNeg r36) = g44 at g43
    refine lv_aload_n hx hb dX3_findFacts_72 rfl (lv_at hl 3 rfl) ?_
    have hf_45 : f41 h0 = .inr (3, [.ref (ρ h0 0), .ref (ρ h0 1), .ref (ρ h0 2), .int o4_x3, .long o4_x4, .long o4_x5]) := (k42 _ (tp_ne ht_h0 y2 (by decide))).trans hf_o4
    refine tpk_pos (tp_in hG ht_h0 (by decide)) hf_45 (fun q46 eq46 => ?_)
    refine va_get (D := (dC, dI)) (ci := 3) (v := .ref (ρ h0 1)) (C := RX3) (T := TX3) (N := 6) hx hb hts hfX3 hown hK hP q46 eq46 rfl 1 (by decide) (hts (.fieldLink RX3 9 "ColdShips$Reckoner" "facts" "[J") wa_127) (fun _ h9 => h9) rfl dX3_findFacts_73 ?_
    refine lv_iconst (v := 1) hx hb dX3_findFacts_76 (by decide) ?_
    refine lv_aload_n hx hb dX3_findFacts_77 rfl (lv_at hl 3 rfl) ?_
    refine va_get (D := (dC, dI)) (ci := 3) (v := .ref (ρ h0 0)) (C := RX3) (T := TX3) (N := 6) hx hb hts hfX3 hown hK hP q46 eq46 rfl 0 (by decide) (hts (.fieldLink RX3 18 "ColdShips$Reckoner" "world" "LColdShips$World;") wa_129) (fun _ h9 => h9) rfl dX3_findFacts_78 ?_
    refine lv_iload_n hx hb dX3_findFacts_81 rfl (lv_at hl 4 rfl) ?_
    have hf_47 : f41 (ρ h0 0) = .inr (10, [.int o18_x0, .int o18_x1, .int o18_x2, .int o18_x3, .int o18_x4, .int o18_x5, .int o18_x6, .ref (ρ (ρ h0 0) 7), .ref (ρ (ρ h0 0) 8), .ref (ρ (ρ h0 0) 9), .ref (ρ (ρ h0 0) 10), .ref (ρ (ρ h0 0) 11), .ref (ρ (ρ h0 0) 12), .ref (ρ (ρ h0 0) 13), .ref (ρ (ρ h0 0) 14), .ref (ρ (ρ h0 0) 15), .ref (ρ (ρ h0 0) 16), .ref (ρ (ρ h0 0) 17), .ref (ρ (ρ h0 0) 18)]) := (k42 _ (tp_ne y1 y2 (by decide))).trans hf_o18
    refine tpk_pos (tp_in hG y1 (by decide)) hf_47 (fun q48 eq48 => ?_)
    refine pz_calll (va_runV (As := [.int v]) (rest := [.int 1, .ref (ρ h0 1)]) ⟨hx, hb, hml, hown, hts⟩ (t_X10_billedOf l dC dI _ Ω κ τ ν ρ L f41 hG hT (ρ h0 0) v y1) (cwV 1 hts gX3_findFacts_X10_billedOf rfl rfl rfl ⟨rfl, pd_X10_billedOf⟩ ⟨Nat.le_of_ble_eq_true rfl, Nat.le_of_ble_eq_true rfl⟩) ⟨pz_blind, va_recv hK hP (ci := 10) (q0 := q48) rfl eq48, pz_pre hP hK hD hN⟩ rfl rfl hl.1 rfl (lv_room (Nat.le_of_ble_eq_true rfl)) dX3_findFacts_82 ⟨Nat.le_of_ble_eq_true rfl, Nat.le_of_ble_eq_true rfl⟩) (fun r49 hw50 => ?_)
    obtain ⟨hw50r, hw50p⟩ := hw50
    refine tpk_pos (tp_in hG y2 (by decide)) g43 (fun q51 eq51 => ?_)
    refine va_last hx hb hK hP hD hS q51 1 eq51 rfl (vp_in_iff.mpr ⟨by decide, by decide⟩) dX3_findFacts_85 (tp_k (.inl (κ 1, 8, .inr (.inl (vp_updL g44 (1 : Int32).toNatClampNeg r49)))) hD (tp_in hG y2 (by decide)) eq51 (fun f52 H locs hP hD hS g54 k53 => ?_))
    have hT := hT.up y2 g54 k53 (tp_o21 y2n)
    have hR := hR.up y2 (by decide) k53
    generalize (vp_updL g44 (1 : Int32).toNatClampNeg r49) = g55 at g54
    refine lv_aload_n hx hb dX3_findFacts_86 rfl (lv_at hl 3 rfl) ?_
    have hf_56 : f52 h0 = .inr (3, [.ref (ρ h0 0), .ref (ρ h0 1), .ref (ρ h0 2), .int o4_x3, .long o4_x4, .long o4_x5]) := (k53 _ (tp_ne ht_h0 y2 (by decide))).trans hf_45
    refine tpk_pos (tp_in hG ht_h0 (by decide)) hf_56 (fun q57 eq57 => ?_)
    refine va_get (D := (dC, dI)) (ci := 3) (v := .ref (ρ h0 1)) (C := RX3) (T := TX3) (N := 6) hx hb hts hfX3 hown hK hP q57 eq57 rfl 1 (by decide) (hts (.fieldLink RX3 9 "ColdShips$Reckoner" "facts" "[J") wa_127) (fun _ h9 => h9) rfl dX3_findFacts_87 ?_
    refine lv_iconst (v := 2) hx hb dX3_findFacts_90 (by decide) ?_
    refine lv_aload_n hx hb dX3_findFacts_91 rfl (lv_at hl 3 rfl) ?_
    refine va_get (D := (dC, dI)) (ci := 3) (v := .ref (ρ h0 0)) (C := RX3) (T := TX3) (N := 6) hx hb hts hfX3 hown hK hP q57 eq57 rfl 0 (by decide) (hts (.fieldLink RX3 18 "ColdShips$Reckoner" "world" "LColdShips$World;") wa_129) (fun _ h9 => h9) rfl dX3_findFacts_92 ?_
    refine lv_iload_n hx hb dX3_findFacts_95 rfl (lv_at hl 4 rfl) ?_
    have hf_58 : f52 (ρ h0 0) = .inr (10, [.int o18_x0, .int o18_x1, .int o18_x2, .int o18_x3, .int o18_x4, .int o18_x5, .int o18_x6, .ref (ρ (ρ h0 0) 7), .ref (ρ (ρ h0 0) 8), .ref (ρ (ρ h0 0) 9), .ref (ρ (ρ h0 0) 10), .ref (ρ (ρ h0 0) 11), .ref (ρ (ρ h0 0) 12), .ref (ρ (ρ h0 0) 13), .ref (ρ (ρ h0 0) 14), .ref (ρ (ρ h0 0) 15), .ref (ρ (ρ h0 0) 16), .ref (ρ (ρ h0 0) 17), .ref (ρ (ρ h0 0) 18)]) := (k53 _ (tp_ne y1 y2 (by decide))).trans hf_47
    refine tpk_pos (tp_in hG y1 (by decide)) hf_58 (fun q59 eq59 => ?_)
    refine pz_calll (va_runV (As := [.int v]) (rest := [.int 2, .ref (ρ h0 1)]) ⟨hx, hb, hml, hown, hts⟩ (t_X10_heatOf l dC dI _ Ω κ τ ν ρ L f52 hG hT (ρ h0 0) v y1) (cwV 1 hts gX3_findFacts_X10_heatOf rfl rfl rfl ⟨rfl, pd_X10_heatOf⟩ ⟨Nat.le_of_ble_eq_true rfl, Nat.le_of_ble_eq_true rfl⟩) ⟨pz_blind, va_recv hK hP (ci := 10) (q0 := q59) rfl eq59, pz_pre hP hK hD hN⟩ rfl rfl hl.1 rfl (lv_room (Nat.le_of_ble_eq_true rfl)) dX3_findFacts_96 ⟨Nat.le_of_ble_eq_true rfl, Nat.le_of_ble_eq_true rfl⟩) (fun r60 hw61 => ?_)
    obtain ⟨hw61r, hw61p⟩ := hw61
    refine tpk_pos (tp_in hG y2 (by decide)) g54 (fun q62 eq62 => ?_)
    refine va_last hx hb hK hP hD hS q62 1 eq62 rfl (vp_in_iff.mpr ⟨by decide, by decide⟩) dX3_findFacts_99 (tp_k (.inl (κ 1, 8, .inr (.inl (vp_updL g55 (2 : Int32).toNatClampNeg r60)))) hD (tp_in hG y2 (by decide)) eq62 (fun f63 H locs hP hD hS g65 k64 => ?_))
    have hT := hT.up y2 g65 k64 (tp_o21 y2n)
    have hR := hR.up y2 (by decide) k64
    generalize (vp_updL g55 (2 : Int32).toNatClampNeg r60) = g66 at g65
    refine lv_aload_n hx hb dX3_findFacts_100 rfl (lv_at hl 3 rfl) ?_
    have hf_67 : f63 h0 = .inr (3, [.ref (ρ h0 0), .ref (ρ h0 1), .ref (ρ h0 2), .int o4_x3, .long o4_x4, .long o4_x5]) := (k64 _ (tp_ne ht_h0 y2 (by decide))).trans hf_56
    refine tpk_pos (tp_in hG ht_h0 (by decide)) hf_67 (fun q68 eq68 => ?_)
    refine va_get (D := (dC, dI)) (ci := 3) (v := .ref (ρ h0 1)) (C := RX3) (T := TX3) (N := 6) hx hb hts hfX3 hown hK hP q68 eq68 rfl 1 (by decide) (hts (.fieldLink RX3 9 "ColdShips$Reckoner" "facts" "[J") wa_127) (fun _ h9 => h9) rfl dX3_findFacts_101 ?_
    refine lv_iconst (v := 3) hx hb dX3_findFacts_104 (by decide) ?_
    refine lv_aload_n hx hb dX3_findFacts_105 rfl (lv_at hl 3 rfl) ?_
    refine va_get (D := (dC, dI)) (ci := 3) (v := .ref (ρ h0 0)) (C := RX3) (T := TX3) (N := 6) hx hb hts hfX3 hown hK hP q68 eq68 rfl 0 (by decide) (hts (.fieldLink RX3 18 "ColdShips$Reckoner" "world" "LColdShips$World;") wa_129) (fun _ h9 => h9) rfl dX3_findFacts_106 ?_
    have hf_69 : f63 (ρ h0 0) = .inr (10, [.int o18_x0, .int o18_x1, .int o18_x2, .int o18_x3, .int o18_x4, .int o18_x5, .int o18_x6, .ref (ρ (ρ h0 0) 7), .ref (ρ (ρ h0 0) 8), .ref (ρ (ρ h0 0) 9), .ref (ρ (ρ h0 0) 10), .ref (ρ (ρ h0 0) 11), .ref (ρ (ρ h0 0) 12), .ref (ρ (ρ h0 0) 13), .ref (ρ (ρ h0 0) 14), .ref (ρ (ρ h0 0) 15), .ref (ρ (ρ h0 0) 16), .ref (ρ (ρ h0 0) 17), .ref (ρ (ρ h0 0) 18)]) := (k64 _ (tp_ne y1 y2 (by decide))).trans hf_58
    refine tpk_pos (tp_in hG y1 (by decide)) hf_69 (fun q70 eq70 => ?_)
    refine va_getN (D := (dC, dI)) (ci := 10) (v := .ref (ρ (ρ h0 0) 14)) (C := RX10) (T := TX10) (N := 19) hx hb hts hfX10 hown hK hP q70 eq70 rfl 14 (by decide) (va_Nw.use rfl (hN.1 (.fieldLinkNest RX3 73 "ColdShips$World" "forces" "LColdShips$Spans;" "ColdShips") nzw_78)) (fun _ h9 => h9) rfl dX3_findFacts_109 ?_
    refine lv_iconst (v := 0) hx hb dX3_findFacts_112 (by decide) ?_
    refine lv_iload_n hx hb dX3_findFacts_113 rfl (lv_at hl 6 rfl) ?_
    refine lv_aload_n hx hb dX3_findFacts_114 rfl (lv_at hl 5 rfl) ?_
    have hf_71 : f41 h1 = .inr (0, [.ref (ρ h1 0), .ref (ρ h1 1), .int o30_x2, .int o30_x3, .int o30_x4]) := (k42 _ (tp_ne ht_h1 y2 (by decide))).trans hf_o30
    have hf_72 : f52 h1 = .inr (0, [.ref (ρ h1 0), .ref (ρ h1 1), .int o30_x2, .int o30_x3, .int o30_x4]) := (k53 _ (tp_ne ht_h1 y2 (by decide))).trans hf_71
    have hf_73 : f63 h1 = .inr (0, [.ref (ρ h1 0), .ref (ρ h1 1), .int o30_x2, .int o30_x3, .int o30_x4]) := (k64 _ (tp_ne ht_h1 y2 (by decide))).trans hf_72
    refine tpk_pos (tp_in hG ht_h1 (by decide)) hf_73 (fun q74 eq74 => ?_)
    refine va_getN (D := (dC, dI)) (ci := 0) (v := .int o30_x3) (C := RX0) (T := TX0) (N := 5) hx hb hts hfX0 hown hK hP q74 eq74 rfl 3 (by decide) (va_Nw.use rfl (hN.1 (.fieldLinkNest RX3 77 "ColdShips$Contract" "windowTo" "I" "ColdShips") nzw_102)) (fun _ h9 => h9) rfl dX3_findFacts_115 ?_
    refine lv_iconst (v := 1) hx hb dX3_findFacts_118 (by decide) ?_
    refine lv_iadd hx hb dX3_findFacts_119 ?_
    refine lv_topi (fun z75 ez75 => ?_)
    refine lv_iload hx hb dX3_findFacts_120 (lv_at hl 1 rfl) ?_
    refine tgk_7 hG y13 (fun y76 y76n y77 y77n y78 y78n => ?_)
    refine tpk_7 hT y13 (fun o79_x3 hf_o79 ro79_0 => ?_)
    refine tpk_pos (tp_in hG y13 (by decide)) hf_o79 (fun q80 eq80 => ?_)
    refine pz_calli (va_runV (As := [.int 0, .int u, .int z75, .int r26]) (rest := [.int 3, .ref (ρ h0 1)]) ⟨hx, hb, hml, hown, hts⟩ (t_X6_freeHours l dC dI _ Ω κ τ ν ρ L f63 hG hT (ρ (ρ h0 0) 14) (0) u z75 r26 y13 o79_x3 hf_o79) (cwV 4 hts gX3_findFacts_X6_freeHours rfl rfl rfl ⟨rfl, pd_X6_freeHours⟩ ⟨Nat.le_of_ble_eq_true rfl, Nat.le_of_ble_eq_true rfl⟩) ⟨pz_blind, va_recv hK hP (ci := 6) (q0 := q80) rfl eq80, pz_pre hP hK hD hN⟩ rfl rfl hl.1 rfl (lv_room (Nat.le_of_ble_eq_true rfl)) dX3_findFacts_122 ⟨Nat.le_of_ble_eq_true rfl, Nat.le_of_ble_eq_true rfl⟩) (fun r81 hw82 => ?_)
    obtain ⟨hw82r, hw82p⟩ := hw82
    refine lv_i2l hx hb dX3_findFacts_125 rfl ?_
    refine tpk_pos (tp_in hG y2 (by decide)) g65 (fun q83 eq83 => ?_)
    refine va_last hx hb hK hP hD hS q83 1 eq83 rfl (vp_in_iff.mpr ⟨by decide, by decide⟩) dX3_findFacts_126 (tp_k (.inl (κ 1, 8, .inr (.inl (vp_updL g66 (3 : Int32).toNatClampNeg r81.toInt64)))) hD (tp_in hG y2 (by decide)) eq83 (fun f84 H locs hP hD hS g86 k85 => ?_))
    have hT := hT.up y2 g86 k85 (tp_o21 y2n)
    have hR := hR.up y2 (by decide) k85
    generalize (vp_updL g66 (3 : Int32).toNatClampNeg r81.toInt64) = g87 at g86
    refine lv_aload_n hx hb dX3_findFacts_127 rfl (lv_at hl 3 rfl) ?_
    have hf_88 : f84 h0 = .inr (3, [.ref (ρ h0 0), .ref (ρ h0 1), .ref (ρ h0 2), .int o4_x3, .long o4_x4, .long o4_x5]) := (k85 _ (tp_ne ht_h0 y2 (by decide))).trans hf_67
    refine tpk_pos (tp_in hG ht_h0 (by decide)) hf_88 (fun q89 eq89 => ?_)
    refine va_get (D := (dC, dI)) (ci := 3) (v := .ref (ρ h0 1)) (C := RX3) (T := TX3) (N := 6) hx hb hts hfX3 hown hK hP q89 eq89 rfl 1 (by decide) (hts (.fieldLink RX3 9 "ColdShips$Reckoner" "facts" "[J") wa_127) (fun _ h9 => h9) rfl dX3_findFacts_128 ?_
    refine lv_iconst (v := 4) hx hb dX3_findFacts_131 (by decide) ?_
    refine lv_iconst (v := 0) hx hb dX3_findFacts_132 (by decide) ?_
    refine lv_aload_n hx hb dX3_findFacts_133 rfl (lv_at hl 5 rfl) ?_
    have hf_90 : f84 h1 = .inr (0, [.ref (ρ h1 0), .ref (ρ h1 1), .int o30_x2, .int o30_x3, .int o30_x4]) := (k85 _ (tp_ne ht_h1 y2 (by decide))).trans hf_73
    refine tpk_pos (tp_in hG ht_h1 (by decide)) hf_90 (fun q91 eq91 => ?_)
    refine va_getN (D := (dC, dI)) (ci := 0) (v := .int o30_x2) (C := RX0) (T := TX0) (N := 5) hx hb hts hfX0 hown hK hP q91 eq91 rfl 2 (by decide) (va_Nw.use rfl (hN.1 (.fieldLinkNest RX3 86 "ColdShips$Contract" "windowFrom" "I" "ColdShips") nzw_101)) (fun _ h9 => h9) rfl dX3_findFacts_134 ?_
    refine lv_iload hx hb dX3_findFacts_137 (lv_at hl 2 rfl) ?_
    refine lv_isub hx hb dX3_findFacts_139 ?_
    refine lv_topi (fun z92 ez92 => ?_)
    refine va_mmax hx hb (by rw [hml]; exact hl.1.symm) hown (hts (.methodLink RX3 89 Lib.Math.max.name) wa_1140) (hts (.static Lib.Math.max.name) wa_70) (hts (.initialized "java/lang/Math") wa_71) (hts (.code Lib.Math.max.name Lib.Math.max.code 2 (some .int)) wa_72) (Nat.le_of_ble_eq_true rfl) (Nat.le_of_ble_eq_true rfl) (Nat.le_of_ble_eq_true rfl) (Nat.le_of_ble_eq_true rfl) dX3_findFacts_140 ?_
    refine lv_topi (fun z93 ez93 => ?_)
    have iz93 := zi_max ez93 (show (0 : Int32).toInt = 0 from rfl) (rfl : z92.toInt = _)
    refine lv_i2l hx hb dX3_findFacts_143 rfl ?_
    refine tpk_pos (tp_in hG y2 (by decide)) g86 (fun q94 eq94 => ?_)
    refine va_last hx hb hK hP hD hS q94 1 eq94 rfl (vp_in_iff.mpr ⟨by decide, by decide⟩) dX3_findFacts_144 (tp_k (.inl (κ 1, 8, .inr (.inl (vp_updL g87 (4 : Int32).toNatClampNeg z93.toInt64)))) hD (tp_in hG y2 (by decide)) eq94 (fun f95 H locs hP hD hS g97 k96 => ?_))
    have hT := hT.up y2 g97 k96 (tp_o21 y2n)
    have hR := hR.up y2 (by decide) k96
    generalize (vp_updL g87 (4 : Int32).toNatClampNeg z93.toInt64) = g98 at g97
    refine lv_aload_n hx hb dX3_findFacts_145 rfl (lv_at hl 3 rfl) ?_
    have hf_99 : f95 h0 = .inr (3, [.ref (ρ h0 0), .ref (ρ h0 1), .ref (ρ h0 2), .int o4_x3, .long o4_x4, .long o4_x5]) := (k96 _ (tp_ne ht_h0 y2 (by decide))).trans hf_88
    refine tpk_pos (tp_in hG ht_h0 (by decide)) hf_99 (fun q100 eq100 => ?_)
    refine va_get (D := (dC, dI)) (ci := 3) (v := .ref (ρ h0 1)) (C := RX3) (T := TX3) (N := 6) hx hb hts hfX3 hown hK hP q100 eq100 rfl 1 (by decide) (hts (.fieldLink RX3 9 "ColdShips$Reckoner" "facts" "[J") wa_127) (fun _ h9 => h9) rfl dX3_findFacts_146 ?_
    refine lv_iconst (v := 5) hx hb dX3_findFacts_149 (by decide) ?_
    refine lv_aload_n hx hb dX3_findFacts_150 rfl (lv_at hl 3 rfl) ?_
    refine va_get (D := (dC, dI)) (ci := 3) (v := .ref (ρ h0 0)) (C := RX3) (T := TX3) (N := 6) hx hb hts hfX3 hown hK hP q100 eq100 rfl 0 (by decide) (hts (.fieldLink RX3 18 "ColdShips$Reckoner" "world" "LColdShips$World;") wa_129) (fun _ h9 => h9) rfl dX3_findFacts_151 ?_
    refine lv_iload_n hx hb dX3_findFacts_154 rfl (lv_at hl 4 rfl) ?_
    refine lv_iload_n hx hb dX3_findFacts_155 rfl (lv_at hl 6 rfl) ?_
    have hf_101 : f84 (ρ h0 0) = .inr (10, [.int o18_x0, .int o18_x1, .int o18_x2, .int o18_x3, .int o18_x4, .int o18_x5, .int o18_x6, .ref (ρ (ρ h0 0) 7), .ref (ρ (ρ h0 0) 8), .ref (ρ (ρ h0 0) 9), .ref (ρ (ρ h0 0) 10), .ref (ρ (ρ h0 0) 11), .ref (ρ (ρ h0 0) 12), .ref (ρ (ρ h0 0) 13), .ref (ρ (ρ h0 0) 14), .ref (ρ (ρ h0 0) 15), .ref (ρ (ρ h0 0) 16), .ref (ρ (ρ h0 0) 17), .ref (ρ (ρ h0 0) 18)]) := (k85 _ (tp_ne y1 y2 (by decide))).trans hf_69
    have hf_102 : f95 (ρ h0 0) = .inr (10, [.int o18_x0, .int o18_x1, .int o18_x2, .int o18_x3, .int o18_x4, .int o18_x5, .int o18_x6, .ref (ρ (ρ h0 0) 7), .ref (ρ (ρ h0 0) 8), .ref (ρ (ρ h0 0) 9), .ref (ρ (ρ h0 0) 10), .ref (ρ (ρ h0 0) 11), .ref (ρ (ρ h0 0) 12), .ref (ρ (ρ h0 0) 13), .ref (ρ (ρ h0 0) 14), .ref (ρ (ρ h0 0) 15), .ref (ρ (ρ h0 0) 16), .ref (ρ (ρ h0 0) 17), .ref (ρ (ρ h0 0) 18)]) := (k96 _ (tp_ne y1 y2 (by decide))).trans hf_101
    refine tpk_pos (tp_in hG y1 (by decide)) hf_102 (fun q103 eq103 => ?_)
    refine pz_calll (va_runV (As := [.int v, .int u]) (rest := [.int 5, .ref (ρ h0 1)]) ⟨hx, hb, hml, hown, hts⟩ (t_X10_priceOf l dC dI _ Ω κ τ ν ρ L f95 hG hT (ρ h0 0) v u y1) (cwV 2 hts gX3_findFacts_X10_priceOf rfl rfl rfl ⟨rfl, pd_X10_priceOf⟩ ⟨Nat.le_of_ble_eq_true rfl, Nat.le_of_ble_eq_true rfl⟩) ⟨pz_blind, va_recv hK hP (ci := 10) (q0 := q103) rfl eq103, pz_pre hP hK hD hN⟩ rfl rfl hl.1 rfl (lv_room (Nat.le_of_ble_eq_true rfl)) dX3_findFacts_156 ⟨Nat.le_of_ble_eq_true rfl, Nat.le_of_ble_eq_true rfl⟩) (fun r104 hw105 => ?_)
    obtain ⟨hw105r, hw105p⟩ := hw105
    refine tpk_pos (tp_in hG y2 (by decide)) g97 (fun q106 eq106 => ?_)
    refine va_last hx hb hK hP hD hS q106 1 eq106 rfl (vp_in_iff.mpr ⟨by decide, by decide⟩) dX3_findFacts_159 (tp_k (.inl (κ 1, 8, .inr (.inl (vp_updL g98 (5 : Int32).toNatClampNeg r104)))) hD (tp_in hG y2 (by decide)) eq106 (fun f107 H locs hP hD hS g109 k108 => ?_))
    have hT := hT.up y2 g109 k108 (tp_o21 y2n)
    have hR := hR.up y2 (by decide) k108
    generalize (vp_updL g98 (5 : Int32).toNatClampNeg r104) = g110 at g109
    refine lv_aload_n hx hb dX3_findFacts_160 rfl (lv_at hl 3 rfl) ?_
    have hf_111 : f107 h0 = .inr (3, [.ref (ρ h0 0), .ref (ρ h0 1), .ref (ρ h0 2), .int o4_x3, .long o4_x4, .long o4_x5]) := (k108 _ (tp_ne ht_h0 y2 (by decide))).trans hf_99
    refine tpk_pos (tp_in hG ht_h0 (by decide)) hf_111 (fun q112 eq112 => ?_)
    refine va_get (D := (dC, dI)) (ci := 3) (v := .ref (ρ h0 1)) (C := RX3) (T := TX3) (N := 6) hx hb hts hfX3 hown hK hP q112 eq112 rfl 1 (by decide) (hts (.fieldLink RX3 9 "ColdShips$Reckoner" "facts" "[J") wa_127) (fun _ h9 => h9) rfl dX3_findFacts_161 ?_
    refine lv_bipush (v := 6) hx hb dX3_findFacts_164 (by decide) ?_
    refine lv_iload hx hb dX3_findFacts_166 (lv_at hl 1 rfl) ?_
    refine lv_iload hx hb dX3_findFacts_168 (lv_at hl 2 rfl) ?_
    refine lv_isub hx hb dX3_findFacts_170 ?_
    refine lv_topi (fun z113 ez113 => ?_)
    refine lv_iconst (v := 1) hx hb dX3_findFacts_171 (by decide) ?_
    refine lv_iadd hx hb dX3_findFacts_172 ?_
    refine lv_topi (fun z114 ez114 => ?_)
    refine lv_i2l hx hb dX3_findFacts_173 rfl ?_
    refine tpk_pos (tp_in hG y2 (by decide)) g109 (fun q115 eq115 => ?_)
    refine va_last hx hb hK hP hD hS q115 1 eq115 rfl (vp_in_iff.mpr ⟨by decide, by decide⟩) dX3_findFacts_174 (tp_k (.inl (κ 1, 8, .inr (.inl (vp_updL g110 (6 : Int32).toNatClampNeg z114.toInt64)))) hD (tp_in hG y2 (by decide)) eq115 (fun f116 H locs hP hD hS g118 k117 => ?_))
    have hT := hT.up y2 g118 k117 (tp_o21 y2n)
    have hR := hR.up y2 (by decide) k117
    generalize (vp_updL g110 (6 : Int32).toNatClampNeg z114.toInt64) = g119 at g118
    refine lv_aload_n hx hb dX3_findFacts_175 rfl (lv_at hl 3 rfl) ?_
    have hf_120 : f116 h0 = .inr (3, [.ref (ρ h0 0), .ref (ρ h0 1), .ref (ρ h0 2), .int o4_x3, .long o4_x4, .long o4_x5]) := (k117 _ (tp_ne ht_h0 y2 (by decide))).trans hf_111
    refine tpk_pos (tp_in hG ht_h0 (by decide)) hf_120 (fun q121 eq121 => ?_)
    refine va_get (D := (dC, dI)) (ci := 3) (v := .ref (ρ h0 1)) (C := RX3) (T := TX3) (N := 6) hx hb hts hfX3 hown hK hP q121 eq121 rfl 1 (by decide) (hts (.fieldLink RX3 9 "ColdShips$Reckoner" "facts" "[J") wa_127) (fun _ h9 => h9) rfl dX3_findFacts_176 ?_
    refine lv_bipush (v := 7) hx hb dX3_findFacts_179 (by decide) ?_
    refine lv_iload hx hb dX3_findFacts_181 (lv_at hl 0 rfl) ?_
    refine lv_if_eq (tgt := 190) hx hb dX3_findFacts_183 (by decide) (fun c122 => ?_) (fun c122 => ?_)
    · have ic122 : w34.toInt = 0 := zi_eq rfl rfl c122
      refine lv_lconst (v := 0) hx hb dX3_findFacts_190 (by decide) ?_
      refine tpk_pos (tp_in hG y2 (by decide)) g118 (fun q123 eq123 => ?_)
      refine va_last hx hb hK hP hD hS q123 1 eq123 rfl (vp_in_iff.mpr ⟨by decide, by decide⟩) dX3_findFacts_191 (tp_k (.inl (κ 1, 8, .inr (.inl (vp_updL g119 (7 : Int32).toNatClampNeg (0 : Int64))))) hD (tp_in hG y2 (by decide)) eq123 (fun f124 H locs hP hD hS g126 k125 => ?_))
      have hT := hT.up y2 g126 k125 (tp_o21 y2n)
      have hR := hR.up y2 (by decide) k125
      generalize (vp_updL g119 (7 : Int32).toNatClampNeg (0 : Int64)) = g127 at g126
      exact W.vret hx hb hr (fun t ht hW => ⟨⟨f124, rfl, ⟨hT, hR, trivial⟩, by rw [ht]; exact hP, va_K.moved hW.alike hK, hD⟩, hS.F ht⟩) hS.2.2 dX3_findFacts_192
    · have ic122 : w34.toInt ≠ 0 := zi_eqf rfl rfl c122
      refine lv_lconst (v := 1) hx hb dX3_findFacts_186 (by decide) ?_
      refine lv_goto (tgt := 191) hx hb dX3_findFacts_187 (by decide) ?_
      refine tpk_pos (tp_in hG y2 (by decide)) g118 (fun q128 eq128 => ?_)
      refine va_last hx hb hK hP hD hS q128 1 eq128 rfl (vp_in_iff.mpr ⟨by decide, by decide⟩) dX3_findFacts_191 (tp_k (.inl (κ 1, 8, .inr (.inl (vp_updL g119 (7 : Int32).toNatClampNeg (1 : Int64))))) hD (tp_in hG y2 (by decide)) eq128 (fun f129 H locs hP hD hS g131 k130 => ?_))
      have hT := hT.up y2 g131 k130 (tp_o21 y2n)
      have hR := hR.up y2 (by decide) k130
      generalize (vp_updL g119 (7 : Int32).toNatClampNeg (1 : Int64)) = g132 at g131
      exact W.vret hx hb hr (fun t ht hW => ⟨⟨f129, rfl, ⟨hT, hR, trivial⟩, by rw [ht]; exact hP, va_K.moved hW.alike hK, hD⟩, hS.F ht⟩) hS.2.2 dX3_findFacts_192
  · refine lv_icmp_eq (tgt := 51) hx hb dX3_findFacts_44 (by decide) (fun c133 => ?_) (fun c133 => ?_)
    · have ic133 : o30_x4.toInt = r32.toInt := zi_eq rfl rfl c133
      refine lv_iconst (v := 0) hx hb dX3_findFacts_51 (by decide) ?_
      exact hj35 _ _ _ _ ⟨0, rfl, (by have : (0 : Int32).toInt = 0 := rfl; omega), hP, hD, hS, lv_sub hl [0, 1, 2, 3, 4, 5] rfl⟩
    · have ic133 : o30_x4.toInt ≠ r32.toInt := zi_eqf rfl rfl c133
      refine lv_iconst (v := 1) hx hb dX3_findFacts_47 (by decide) ?_
      refine lv_goto (tgt := 52) hx hb dX3_findFacts_48 (by decide) ?_
      exact hj35 _ _ _ _ ⟨1, rfl, (by have : (1 : Int32).toInt = 1 := rfl; omega), hP, hD, hS, lv_sub hl [0, 1, 2, 3, 4, 5] rfl⟩
set_option maxHeartbeats 4000000 in
set_option maxRecDepth 100000 in
theorem t_X3_reckon (l : Launch) (dC : Nat → ClassId) (dI : Nat → Nat → Nat) (sz : Nat) (Ω : Nat → (Nat → Nat) → va_E → Prop) (κ : Nat → ClassId) (τ ν : Nat → Nat) (ρ : Nat → Nat → Nat) (L : List Nat) (f : Nat → va_E) (hG : tp_G τ ν ρ L) (hT : tp_T Ω κ τ ν ρ f) (h0 : Nat) (v : Int32) (h1 : Nat) (u : Int32) (ht_h0 : τ h0 = 4) (ht_h1 : τ h1 = 1) : Met l yX3_reckon wqX3_reckon ({ frames := 6, cells := 0, slots := 0, locals := 2000 }) (va_Pc [.ref h0, .int v, .ref h1, .int u] (pz_B dC dI (tp_K κ) (va_pl L f) sz)) (va_Qv (fun (f1 : Nat → va_E) => tp_T Ω κ τ ν ρ f1 ∧ tp_F τ [4, 21] f f1 ∧ True) (fun (f1 : Nat → va_E) (t : State) => pz_E dC dI (tp_K κ) (va_A (va_pl L f) sz) (va_pl L f1) t) (va_A (va_pl L f) sz)) 0 0 (va_A (va_pl L f) sz) := by
  refine Met.ofW (cc := cX3_reckon) (maxL := 5) (ret := none) (by decide) rfl ?_
  intro p e s m args below meth c s₁ B hml hv
  obtain ⟨rfl, hsz, hP, hK, hD0, hN⟩ := hv
  have hx := B.exec
  have hb := B.bytes
  have hr := B.returns
  have hts := fun (w : Cond) (h : w ∈ WALL) => atoms_spec (ws := wqX3_reckon) B.pre w (List.mem_cons_of_mem _ h)
  have hown : s.vm.findClass RX3 = some m.cls := findClass_of_methodNamed B.named
  have hlocks := B.notSynchronized
  subst hsz
  have hD := hD0.self (sz := s.heap.size)
  generalize hAe : va_A (va_pl L f) s.heap.size = A at hD ⊢
  have hA : ∀ q : Nat, s.heap.size ≤ q → A q := fun q h => by rw [← hAe]; exact Or.inr h
  have hS : va_S A s.heap s.heap [] := va_S.rf
  have hR : tp_F τ [4, 21] f f := tp_F.rf
  have hl := lv_entry ([.ref h0, .int v, .ref h1, .int u]) (n := 5) (Nat.le_of_ble_eq_true rfl)
  rw [lg_entry_eq]
  generalize (lg_sl ([.ref h0, .int v, .ref h1, .int u]) ++ List.replicate (5 - (lg_sl ([.ref h0, .int v, .ref h1, .int u])).length) Slot.unset).toArray = ls at hl ⊢
  have hl : lv_has ls 5 [(0, .ref h0), (1, .int v), (2, .ref h1), (3, .int u)] := hl
  refine lv_aload_n hx hb dX3_reckon_0 rfl (lv_at hl 0 rfl) ?_
  refine lv_lconst (v := 0) hx hb dX3_reckon_1 (by decide) ?_
  refine tgk_4 hG ht_h0 (fun y1 y2 y2n y3 y3n => ?_)
  refine tpk_4 hT ht_h0 (fun o4_x3 o4_x4 o4_x5 hf_o4 ro4_0 => ?_)
  refine tpk_pos (tp_in hG ht_h0 (by decide)) hf_o4 (fun q5 eq5 => ?_)
  refine va_put (D := (dC, dI)) (ci := 3) (v := .long 0) (ty := .long) (C := RX3) (T := TX3) (N := 6) hx hb hts hfX3 tyX3 tyX3_ok nmX3 hown hK hP hD hS q5 eq5 rfl 4 (by decide) (hts (.fieldLink RX3 22 "ColdShips$Reckoner" "pays" "J") wa_1134) (fun _ h9 => h9) rfl (tyX3_ok 4 (by decide)) rfl rfl (Nat.le_of_ble_eq_true rfl) dX3_reckon_2 (tp_k (.inr (3, [.ref (ρ h0 0), .ref (ρ h0 1), .ref (ρ h0 2), .int o4_x3, .long 0, .long o4_x5])) hD (tp_in hG ht_h0 (by decide)) eq5 (fun f6 H locs hP hD hS g8 k7 => ?_))
  have hT := hT.up ht_h0 g8 k7 ⟨_, _, _, rfl, (by first | decide | omega | (omega))⟩
  have hR := hR.up ht_h0 (by decide) k7
  refine lv_aload_n hx hb dX3_reckon_5 rfl (lv_at hl 0 rfl) ?_
  refine lv_lconst (v := 0) hx hb dX3_reckon_6 (by decide) ?_
  refine tpk_pos (tp_in hG ht_h0 (by decide)) g8 (fun q9 eq9 => ?_)
  refine va_put (D := (dC, dI)) (ci := 3) (v := .long 0) (ty := .long) (C := RX3) (T := TX3) (N := 6) hx hb hts hfX3 tyX3 tyX3_ok nmX3 hown hK hP hD hS q9 eq9 rfl 5 (by decide) (hts (.fieldLink RX3 26 "ColdShips$Reckoner" "fines" "J") wa_1135) (fun _ h9 => h9) rfl (tyX3_ok 5 (by decide)) rfl rfl (Nat.le_of_ble_eq_true rfl) dX3_reckon_7 (tp_k (.inr (3, [.ref (ρ h0 0), .ref (ρ h0 1), .ref (ρ h0 2), .int o4_x3, .long 0, .long 0])) hD (tp_in hG ht_h0 (by decide)) eq9 (fun f10 H locs hP hD hS g12 k11 => ?_))
  have hT := hT.up ht_h0 g12 k11 ⟨_, _, _, rfl, (by first | decide | omega | (omega))⟩
  have hR := hR.up ht_h0 (by decide) k11
  refine lv_aload_n hx hb dX3_reckon_10 rfl (lv_at hl 0 rfl) ?_
  refine lv_iload_n hx hb dX3_reckon_11 rfl (lv_at hl 1 rfl) ?_
  refine lv_aload_n hx hb dX3_reckon_12 rfl (lv_at hl 2 rfl) ?_
  refine lv_iload_n hx hb dX3_reckon_13 rfl (lv_at hl 3 rfl) ?_
  refine tpk_pos (tp_in hG ht_h0 (by decide)) g12 (fun q13 eq13 => ?_)
  have hFc := tp_fr hD hS hA
  refine va_callv (va_runV (As := [.int v, .ref h1, .int u]) (rest := []) ⟨hx, hb, hml, hown, hts⟩ (t_X3_findFacts l dC dI _ Ω κ τ ν ρ L f10 hG hT h0 v h1 u ht_h0 ht_h1) (cwV 3 hts gX3_reckon_X3_findFacts rfl rfl rfl ⟨rfl, pd_X3_findFacts⟩ ⟨Nat.le_of_ble_eq_true rfl, Nat.le_of_ble_eq_true rfl⟩) ⟨pz_blind, va_recv hK hP (ci := 3) (q0 := q13) rfl eq13, pz_pre hP hK hD hN⟩ rfl rfl hl.1 rfl (lv_room (Nat.le_of_ble_eq_true rfl)) dX3_reckon_14 ⟨Nat.le_of_ble_eq_true rfl, Nat.le_of_ble_eq_true rfl⟩) hS (fun q _ h => hFc q h) hFc (fun f16 t H1 locs ht hvm hw15 hB hz1 hk1 hS => ?_)
  refine tn_3 hw15 (fun hT hF17 hw15p => ?_); clear hw15
  have hR := hR.then hF17 (by decide)
  have hP := hB.1; rw [ht] at hP; have hD := tp_ad f16 hD; clear hB hFc hz1 hk1; subst ht; generalize t.heap = H at hP hS ⊢
  refine lv_iconst (v := 0) hx hb dX3_reckon_17 (by decide) ?_
  refine lv_istore (lv' := [(4, .int 0), (0, .ref h0), (1, .int v), (2, .ref h1), (3, .int u)]) hx hb dX3_reckon_18 hl (by decide) rfl (fun ls hl => ?_)
  refine pz_loop (fun n0 H locs ls => ∃ f19 : Nat → va_E, ∃ w18 : Int32, n0 = (13 - (w18.toInt)).toNat ∧ tp_T Ω κ τ ν ρ f19 ∧ tp_F τ [4, 21] f f19 ∧ (0 ≤ w18.toInt ∧ w18.toInt ≤ 13) ∧ va_P (dC, dI) vwCl (va_pl L f19) H ∧ va_D A (va_pl L f19) ∧ va_S A s.heap H locs ∧ lv_has ls 5 [(4, .int w18), (0, .ref h0), (1, .int v), (2, .ref h1), (3, .int u)]) ?_ _ _ _ _ ⟨f16, 0, rfl, hT, hR, (by have : (0 : Int32).toInt = 0 := rfl; omega), hP, hD, hS, lv_sub hl [0, 1, 2, 3, 4] rfl⟩
  intro n0 H locs ls hI ih20
  refine Exists.elim hI (fun f19 hE90 => Exists.elim hE90 (fun w18 hE91 => tn_8 hE91 (fun hn21 hT hR rw18 hP hD hS hl => ?_)))
  clear hE91 hE90 hI
  refine lv_iload hx hb dX3_reckon_20 (lv_at hl 0 rfl) ?_
  refine lv_iconst (v := 1) hx hb dX3_reckon_22 (by decide) ?_
  refine lv_iadd hx hb dX3_reckon_23 ?_
  refine lv_topi (fun z22 ez22 => ?_)
  have iz22 : z22.toInt = w18.toInt + 1 := zi_add ez22 rfl rfl (by omega) (by omega)
  refine lv_aload_n hx hb dX3_reckon_24 rfl (lv_at hl 3 rfl) ?_
  refine tgk_1 hG ht_h1 (fun y23 y23n y24 y24n => ?_)
  refine tpk_1 hT ht_h1 (fun o25_x2 o25_x3 o25_x4 hf_o25 => ?_)
  refine tpk_pos (tp_in hG ht_h1 (by decide)) hf_o25 (fun q26 eq26 => ?_)
  refine va_getN (D := (dC, dI)) (ci := 0) (v := .ref (ρ h1 1)) (C := RX0) (T := TX0) (N := 5) hx hb hts hfX0 hown hK hP q26 eq26 rfl 1 (by decide) (va_Nw.use rfl (hN.1 (.fieldLinkNest RX3 33 "ColdShips$Contract" "starts" "[I" "ColdShips") nzw_100)) (fun _ h9 => h9) rfl dX3_reckon_25 ?_
  refine tpk_20 hT y24 rfl (fun g28 hf_o27 => ?_)
  refine tpk_pos (tp_in hG y24 (by decide)) hf_o27 (fun q29 eq29 => ?_)
  obtain ⟨z30, ez30⟩ : ∃ y : Int32, y = Int32.ofNat (ν (ρ h1 1)) := ⟨_, rfl⟩
  have iz30 : z30.toInt = ((ν (ρ h1 1)) : Int) := zi_ofNat ez30 (by omega)
  refine va_alen hx hb hK hP q29 0 eq29 rfl ez30.symm dX3_reckon_28 ?_
  refine lv_icmp_ge (tgt := 62) hx hb dX3_reckon_29 (by decide) (fun c31 => ?_) (fun c31 => ?_)
  · have ic31 : z22.toInt ≥ z30.toInt := zi_ge rfl rfl c31
    exact W.vret hx hb hr (fun t ht hW => ⟨⟨f19, rfl, ⟨hT, hR, trivial⟩, by rw [ht]; exact hP, va_K.moved hW.alike hK, hD⟩, hS.F ht⟩) hS.2.2 dX3_reckon_62
  · have ic31 : z22.toInt < z30.toInt := zi_gef rfl rfl c31
    refine lv_aload_n hx hb dX3_reckon_32 rfl (lv_at hl 1 rfl) ?_
    refine lv_aload_n hx hb dX3_reckon_33 rfl (lv_at hl 3 rfl) ?_
    refine va_getN (D := (dC, dI)) (ci := 0) (v := .ref (ρ h1 0)) (C := RX0) (T := TX0) (N := 5) hx hb hts hfX0 hown hK hP q26 eq26 rfl 0 (by decide) (va_Nw.use rfl (hN.1 (.fieldLinkNest RX3 39 "ColdShips$Contract" "code" "[I" "ColdShips") nzw_99)) (fun _ h9 => h9) rfl dX3_reckon_34 ?_
    refine lv_aload_n hx hb dX3_reckon_37 rfl (lv_at hl 3 rfl) ?_
    refine va_getN (D := (dC, dI)) (ci := 0) (v := .ref (ρ h1 1)) (C := RX0) (T := TX0) (N := 5) hx hb hts hfX0 hown hK hP q26 eq26 rfl 1 (by decide) (va_Nw.use rfl (hN.1 (.fieldLinkNest RX3 33 "ColdShips$Contract" "starts" "[I" "ColdShips") nzw_100)) (fun _ h9 => h9) rfl dX3_reckon_38 ?_
    refine lv_iload hx hb dX3_reckon_41 (lv_at hl 0 rfl) ?_
    refine va_iald hx hb hK hP q29 0 eq29 rfl (vp_in_iff.mpr ⟨by omega, by omega⟩) dX3_reckon_43 ?_
    refine lv_topi (fun z32 ez32 => ?_)
    refine lv_aload_n hx hb dX3_reckon_44 rfl (lv_at hl 3 rfl) ?_
    refine va_getN (D := (dC, dI)) (ci := 0) (v := .ref (ρ h1 1)) (C := RX0) (T := TX0) (N := 5) hx hb hts hfX0 hown hK hP q26 eq26 rfl 1 (by decide) (va_Nw.use rfl (hN.1 (.fieldLinkNest RX3 33 "ColdShips$Contract" "starts" "[I" "ColdShips") nzw_100)) (fun _ h9 => h9) rfl dX3_reckon_45 ?_
    refine lv_iload hx hb dX3_reckon_48 (lv_at hl 0 rfl) ?_
    refine lv_iconst (v := 1) hx hb dX3_reckon_50 (by decide) ?_
    refine lv_iadd hx hb dX3_reckon_51 ?_
    refine lv_topi (fun z33 ez33 => ?_)
    have iz33 : z33.toInt = w18.toInt + 1 := zi_add ez33 rfl rfl (by omega) (by omega)
    refine va_iald hx hb hK hP q29 0 eq29 rfl (vp_in_iff.mpr ⟨by omega, by omega⟩) dX3_reckon_52 ?_
    refine lv_topi (fun z34 ez34 => ?_)
    refine tpk_4 hT ht_h0 (fun o35_x3 o35_x4 o35_x5 hf_o35 ro35_0 => ?_)
    refine tpk_pos (tp_in hG ht_h0 (by decide)) hf_o35 (fun q36 eq36 => ?_)
    have hFc := tp_fr hD hS hA
    refine va_callv (va_runV (As := [.ref (ρ h1 0), .int z32, .int z34]) (rest := []) ⟨hx, hb, hml, hown, hts⟩ (t_X3_runClause l dC dI _ Ω κ τ ν ρ L f19 hG hT h0 (ρ h1 0) z32 z34 ht_h0 y23 (by omega)) (cwV 3 hts gX3_reckon_X3_runClause rfl rfl rfl ⟨rfl, pd_X3_runClause⟩ ⟨Nat.le_of_ble_eq_true rfl, Nat.le_of_ble_eq_true rfl⟩) ⟨pz_blind, va_recv hK hP (ci := 3) (q0 := q36) rfl eq36, pz_pre hP hK hD hN⟩ rfl rfl hl.1 rfl (lv_room (Nat.le_of_ble_eq_true rfl)) dX3_reckon_53 ⟨Nat.le_of_ble_eq_true rfl, Nat.le_of_ble_eq_true rfl⟩) hS (fun q _ h => hFc q h) hFc (fun f39 t H1 locs ht hvm hw38 hB hz1 hk1 hS => ?_)
    refine tn_3 hw38 (fun hT hF40 hw38p => ?_); clear hw38
    have hR := hR.then hF40 (by decide)
    have hP := hB.1; rw [ht] at hP; have hD := tp_ad f39 hD; clear hB hFc hz1 hk1; subst ht; generalize t.heap = H at hP hS ⊢
    obtain ⟨z41, ez41⟩ : ∃ y : Int32, y = w18 + 1 := ⟨_, rfl⟩
    refine lv_iinc (v := z41) (lv' := [(4, .int z41), (0, .ref h0), (1, .int v), (2, .ref h1), (3, .int u)]) hx hb dX3_reckon_56 hl (k := 0) rfl (by rw [ez41]; rfl) (by decide) rfl (fun ls hl => ?_)
    have iz41 : z41.toInt = w18.toInt + 1 := zi_add ez41 rfl rfl (by omega) (by omega)
    refine lv_goto (tgt := 20) hx hb dX3_reckon_59 (by decide) ?_
    exact ih20 _ _ _ _ (by rw [hn21]; omega) ⟨f39, z41, rfl, hT, hR, (by omega), hP, hD, hS, lv_sub hl [0, 1, 2, 3, 4] rfl⟩
set_option maxHeartbeats 4000000 in
set_option maxRecDepth 100000 in
theorem t_X3_tonsRead (l : Launch) (dC : Nat → ClassId) (dI : Nat → Nat → Nat) (sz : Nat) (Ω : Nat → (Nat → Nat) → va_E → Prop) (κ : Nat → ClassId) (τ ν : Nat → Nat) (ρ : Nat → Nat → Nat) (L : List Nat) (f : Nat → va_E) (hG : tp_G τ ν ρ L) (hT : tp_T Ω κ τ ν ρ f) (h0 : Nat) (v : Int32) (u : Int32) (a : Int32) (ht_h0 : τ h0 = 4) : Met l yX3_tonsRead wqX3_tonsRead ({ frames := 4, cells := 0, slots := 0, locals := 1200 }) (va_Pc [.ref h0, .int v, .int u, .int a] (pz_B dC dI (tp_K κ) (va_pl L f) sz)) (vp_Sl (fun r => True ∧ True)) 0 0 (fun _ => False) := by
  refine Met.ofW (cc := cX3_tonsRead) (maxL := 7) (ret := some .long) (by decide) rfl ?_
  intro p e s m args below meth c s₁ B hml hv
  obtain ⟨rfl, hsz, hP, hK, hD0, hN⟩ := hv
  have hx := B.exec
  have hb := B.bytes
  have hr := B.returns
  have hts := fun (w : Cond) (h : w ∈ WALL) => atoms_spec (ws := wqX3_tonsRead) B.pre w (List.mem_cons_of_mem _ h)
  have hown : s.vm.findClass RX3 = some m.cls := findClass_of_methodNamed B.named
  have hlocks := B.notSynchronized
  subst hsz
  have hD := hD0
  have hS : va_S (fun _ => True) s.heap s.heap [] := va_S.rf
  have hl := lv_entry ([.ref h0, .int v, .int u, .int a]) (n := 7) (Nat.le_of_ble_eq_true rfl)
  rw [lg_entry_eq]
  generalize (lg_sl ([.ref h0, .int v, .int u, .int a]) ++ List.replicate (7 - (lg_sl ([.ref h0, .int v, .int u, .int a])).length) Slot.unset).toArray = ls at hl ⊢
  have hl : lv_has ls 7 [(0, .ref h0), (1, .int v), (2, .int u), (3, .int a)] := hl
  refine lv_aload_n hx hb dX3_tonsRead_0 rfl (lv_at hl 0 rfl) ?_
  refine tgk_4 hG ht_h0 (fun y1 y2 y2n y3 y3n => ?_)
  refine tpk_4 hT ht_h0 (fun o4_x3 o4_x4 o4_x5 hf_o4 ro4_0 => ?_)
  refine tpk_pos (tp_in hG ht_h0 (by decide)) hf_o4 (fun q5 eq5 => ?_)
  refine va_get (D := (dC, dI)) (ci := 3) (v := .ref (ρ h0 0)) (C := RX3) (T := TX3) (N := 6) hx hb hts hfX3 hown hK hP q5 eq5 rfl 0 (by decide) (hts (.fieldLink RX3 18 "ColdShips$Reckoner" "world" "LColdShips$World;") wa_129) (fun _ h9 => h9) rfl dX3_tonsRead_1 ?_
  refine tgk_11 hG y1 (fun y6 y6n y7 y7n y8 y9 y10 y11 y12 y13 y14 y14w y14m y15 y15w y15m y16 y16w y16m y17 y17w y17m => ?_)
  refine tpk_11 hT y1 (fun o18_x0 o18_x1 o18_x2 o18_x3 o18_x4 o18_x5 o18_x6 hf_o18 ro18_0 ro18_1 ro18_2 ro18_3 => ?_)
  refine tpk_pos (tp_in hG y1 (by decide)) hf_o18 (fun q19 eq19 => ?_)
  refine va_getN (D := (dC, dI)) (ci := 10) (v := .ref (ρ (ρ h0 0) 17)) (C := RX10) (T := TX10) (N := 19) hx hb hts hfX10 hown hK hP q19 eq19 rfl 17 (by decide) (va_Nw.use rfl (hN.1 (.fieldLinkNest RX3 46 "ColdShips$World" "landings" "LColdShips$Rows;" "ColdShips") nzw_83)) (fun _ h9 => h9) rfl dX3_tonsRead_4 ?_
  refine lv_iload_n hx hb dX3_tonsRead_7 rfl (lv_at hl 1 rfl) ?_
  refine lv_iconst (v := 0) hx hb dX3_tonsRead_8 (by decide) ?_
  refine tgk_5 hG y16 (fun y20 y20n y21a y21b y21c => ?_)
  refine tpk_5 hT y16 (fun o22_x0 o22_x2 hf_o22 ro22_0 ro22_1 => ?_)
  refine tpk_pos (tp_in hG y16 (by decide)) hf_o22 (fun q23 eq23 => ?_)
  refine pz_calli (va_runV (As := [.int v, .int 0]) (rest := []) ⟨hx, hb, hml, hown, hts⟩ (t_X4_number l dC dI _ Ω κ τ ν ρ L f hG hT (ρ (ρ h0 0) 17) v (0) y16) (cwV 2 hts gX3_tonsRead_X4_number rfl rfl rfl ⟨rfl, pd_X4_number⟩ ⟨Nat.le_of_ble_eq_true rfl, Nat.le_of_ble_eq_true rfl⟩) ⟨pz_blind, va_recv hK hP (ci := 4) (q0 := q23) rfl eq23, pz_pre hP hK hD hN⟩ rfl rfl hl.1 rfl (lv_room (Nat.le_of_ble_eq_true rfl)) dX3_tonsRead_9 ⟨Nat.le_of_ble_eq_true rfl, Nat.le_of_ble_eq_true rfl⟩) (fun r24 hw25 => ?_)
  obtain ⟨hw25r, hw25p⟩ := hw25
  refine lv_istore (lv' := [(4, .int r24), (0, .ref h0), (1, .int v), (2, .int u), (3, .int a)]) hx hb dX3_tonsRead_12 hl (by decide) rfl (fun ls hl => ?_)
  refine lv_aload_n hx hb dX3_tonsRead_14 rfl (lv_at hl 1 rfl) ?_
  refine va_get (D := (dC, dI)) (ci := 3) (v := .ref (ρ h0 0)) (C := RX3) (T := TX3) (N := 6) hx hb hts hfX3 hown hK hP q5 eq5 rfl 0 (by decide) (hts (.fieldLink RX3 18 "ColdShips$Reckoner" "world" "LColdShips$World;") wa_129) (fun _ h9 => h9) rfl dX3_tonsRead_15 ?_
  refine lv_iload hx hb dX3_tonsRead_18 (lv_at hl 0 rfl) ?_
  refine pz_calli (va_runV (As := [.int r24]) (rest := []) ⟨hx, hb, hml, hown, hts⟩ (t_X10_hasShip l dC dI _ Ω κ τ ν ρ L f hG hT (ρ h0 0) r24 y1 o18_x0 o18_x1 o18_x2 o18_x3 o18_x4 o18_x5 o18_x6 hf_o18) (cwV 1 hts gX3_tonsRead_X10_hasShip rfl rfl rfl ⟨rfl, pd_X10_hasShip⟩ ⟨Nat.le_of_ble_eq_true rfl, Nat.le_of_ble_eq_true rfl⟩) ⟨pz_blind, va_recv hK hP (ci := 10) (q0 := q19) rfl eq19, pz_pre hP hK hD hN⟩ rfl rfl hl.1 rfl (lv_room (Nat.le_of_ble_eq_true rfl)) dX3_tonsRead_20 ⟨Nat.le_of_ble_eq_true rfl, Nat.le_of_ble_eq_true rfl⟩) (fun r26 hw27 => ?_)
  obtain ⟨hw27r, hw27p⟩ := hw27
  refine lv_if_eq (tgt := 42) hx hb dX3_tonsRead_23 (by decide) (fun c28 => ?_) (fun c28 => ?_)
  · have ic28 : r26.toInt = 0 := zi_eq rfl rfl c28
    refine lv_ldc2 (own := RX3) (v := (-2000000000000000)) hx hb hown (hts (.constantLong RX3 138 (-2000000000000000)) wa_1288) dX3_tonsRead_42 ?_
    exact W.lret (v := (-2000000000000000)) hx hb hr (fun t ht hW => ⟨(-2000000000000000), rfl, ⟨trivial, trivial⟩, ht⟩) (fun _ h => by cases h) dX3_tonsRead_45
  · have ic28 : r26.toInt ≠ 0 := zi_eqf rfl rfl c28
    have p29 : 0 ≤ r24.toInt ∧ r24.toInt < o18_x5.toInt := (tp_cond.yes hw27p) (by omega)
    refine lv_aload_n hx hb dX3_tonsRead_26 rfl (lv_at hl 1 rfl) ?_
    refine va_get (D := (dC, dI)) (ci := 3) (v := .ref (ρ h0 0)) (C := RX3) (T := TX3) (N := 6) hx hb hts hfX3 hown hK hP q5 eq5 rfl 0 (by decide) (hts (.fieldLink RX3 18 "ColdShips$Reckoner" "world" "LColdShips$World;") wa_129) (fun _ h9 => h9) rfl dX3_tonsRead_27 ?_
    refine va_getN (D := (dC, dI)) (ci := 10) (v := .ref (ρ (ρ h0 0) 10)) (C := RX10) (T := TX10) (N := 19) hx hb hts hfX10 hown hK hP q19 eq19 rfl 10 (by decide) (va_Nw.use rfl (hN.1 (.fieldLinkNest RX3 128 "ColdShips$World" "ships" "[LColdShips$Ship;" "ColdShips") nzw_71)) (fun _ h9 => h9) rfl dX3_tonsRead_30 ?_
    refine lv_iload hx hb dX3_tonsRead_33 (lv_at hl 0 rfl) ?_
    refine tpk_25 hT y9 (fun g31 hf_o30 hf_o30e => ?_)
    refine tpk_pos (tp_in hG y9 (by decide)) hf_o30 (fun q32 eq32 => ?_)
    refine va_aldq hx hb hK hP q32 5 eq32 rfl (vp_in_iff.mpr ⟨by omega, by omega⟩) dX3_tonsRead_35 ?_
    obtain ⟨b33, hb34⟩ : ∃ b : Nat, b = ρ (ρ (ρ h0 0) 10) r24.toNatClampNeg := ⟨_, rfl⟩
    have hb34t : τ b33 = 6 := by rw [hb34]; exact tpg_25 hG y9 _ (zi_cl (vp_in_iff.mpr ⟨by omega, by omega⟩))
    have hb34g : g31 r24.toNatClampNeg = some b33 := by rw [hb34]; exact hf_o30e _ (zi_cl (vp_in_iff.mpr ⟨by omega, by omega⟩))
    refine W.eq (g2 := F0 m 36 ls (.ref b33 :: [])) (congrArg (fun o => F0 m 36 ls (va_rf o :: [])) hb34g) ?_
    refine tgk_6 hG hb34t (fun y35 y36 y36n y37 y37n y38 y38n y39 y39n y40 y40n y41 y41n => ?_)
    refine tpk_6 hT hb34t (fun o42_x1 o42_x2 o42_x3 o42_x4 o42_x5 o42_x6 o42_x10 o42_x11 o42_x12 o42_x14 hf_o42 ro42_0 ro42_1 ro42_2 => ?_)
    refine tpk_pos (tp_in hG hb34t (by decide)) hf_o42 (fun q43 eq43 => ?_)
    refine pz_calli (va_runV (As := []) (rest := []) ⟨hx, hb, hml, hown, hts⟩ (t_X5_gaugeCounts l dC dI _ Ω κ τ ν ρ L f hG hT b33 hb34t) (cwV 0 hts gX3_tonsRead_X5_gaugeCounts rfl rfl rfl ⟨rfl, pd_X5_gaugeCounts⟩ ⟨Nat.le_of_ble_eq_true rfl, Nat.le_of_ble_eq_true rfl⟩) ⟨pz_blind, va_recv hK hP (ci := 5) (q0 := q43) rfl eq43, pz_pre hP hK hD hN⟩ rfl rfl hl.1 rfl (lv_room (Nat.le_of_ble_eq_true rfl)) dX3_tonsRead_36 ⟨Nat.le_of_ble_eq_true rfl, Nat.le_of_ble_eq_true rfl⟩) (fun r44 hw45 => ?_)
    obtain ⟨hw45r, hw45p⟩ := hw45
    refine lv_if_ne (tgt := 46) hx hb dX3_tonsRead_39 (by decide) (fun c46 => ?_) (fun c46 => ?_)
    · have ic46 : r44.toInt ≠ 0 := zi_ne rfl rfl c46
      refine lv_aload_n hx hb dX3_tonsRead_46 rfl (lv_at hl 1 rfl) ?_
      refine va_get (D := (dC, dI)) (ci := 3) (v := .ref (ρ h0 0)) (C := RX3) (T := TX3) (N := 6) hx hb hts hfX3 hown hK hP q5 eq5 rfl 0 (by decide) (hts (.fieldLink RX3 18 "ColdShips$Reckoner" "world" "LColdShips$World;") wa_129) (fun _ h9 => h9) rfl dX3_tonsRead_47 ?_
      refine va_getN (D := (dC, dI)) (ci := 10) (v := .ref (ρ (ρ h0 0) 16)) (C := RX10) (T := TX10) (N := 19) hx hb hts hfX10 hown hK hP q19 eq19 rfl 16 (by decide) (va_Nw.use rfl (hN.1 (.fieldLinkNest RX3 140 "ColdShips$World" "readings" "LColdShips$Rows;" "ColdShips") nzw_81)) (fun _ h9 => h9) rfl dX3_tonsRead_50 ?_
      refine tgk_5 hG y15 (fun y47 y47n y48a y48b y48c => ?_)
      refine tpk_5 hT y15 (fun o49_x0 o49_x2 hf_o49 ro49_0 ro49_1 => ?_)
      refine tpk_pos (tp_in hG y15 (by decide)) hf_o49 (fun q50 eq50 => ?_)
      refine va_getN (D := (dC, dI)) (ci := 4) (v := .int o49_x2) (C := RX4) (T := TX4) (N := 3) hx hb hts hfX4 hown hK hP q50 eq50 rfl 2 (by decide) (va_Nw.use rfl (hN.1 (.fieldLinkNest RX3 143 "ColdShips$Rows" "size" "I" "ColdShips") nzw_3)) (fun _ h9 => h9) rfl dX3_tonsRead_53 ?_
      refine lv_iconst (v := 1) hx hb dX3_tonsRead_56 (by decide) ?_
      refine lv_isub hx hb dX3_tonsRead_57 ?_
      refine lv_topi (fun z51 ez51 => ?_)
      have iz51 : z51.toInt = o49_x2.toInt - 1 := zi_sub ez51 rfl rfl (by omega) (by omega)
      refine lv_istore (lv' := [(5, .int z51), (4, .int r24), (0, .ref h0), (1, .int v), (2, .int u), (3, .int a)]) hx hb dX3_tonsRead_58 hl (by decide) rfl (fun ls hl => ?_)
      refine pz_loop (fun n0 H locs ls => ∃ w52 : Int32, n0 = ((w52.toInt) + 1).toNat ∧ ((-1) ≤ w52.toInt ∧ w52.toInt ≤ 59) ∧ H = s.heap ∧ locs = [] ∧ lv_has ls 7 [(5, .int w52), (4, .int r24), (0, .ref h0), (1, .int v), (2, .int u), (3, .int a)]) ?_ _ _ _ _ ⟨z51, rfl, (by omega), rfl, rfl, lv_sub hl [0, 1, 2, 3, 4, 5] rfl⟩
      intro n0 H locs ls hI ih53
      refine Exists.elim hI (fun w52 hE90 => tn_5 hE90 (fun hn54 rw52 e92 e93 hl => ?_))
      clear hE90 hI; subst e92; subst e93
      refine lv_iload hx hb dX3_tonsRead_60 (lv_at hl 0 rfl) ?_
      refine lv_if_lt (tgt := 187) hx hb dX3_tonsRead_62 (by decide) (fun c55 => ?_) (fun c55 => ?_)
      · have ic55 : w52.toInt < 0 := zi_lt rfl rfl c55
        refine lv_ldc2 (own := RX3) (v := (-2000000000000000)) hx hb hown (hts (.constantLong RX3 138 (-2000000000000000)) wa_1288) dX3_tonsRead_187 ?_
        exact W.lret (v := (-2000000000000000)) hx hb hr (fun t ht hW => ⟨(-2000000000000000), rfl, ⟨trivial, trivial⟩, ht⟩) (fun _ h => by cases h) dX3_tonsRead_190
      · have ic55 : w52.toInt ≥ 0 := zi_ltf rfl rfl c55
        refine lv_aload_n hx hb dX3_tonsRead_65 rfl (lv_at hl 2 rfl) ?_
        refine va_get (D := (dC, dI)) (ci := 3) (v := .ref (ρ h0 0)) (C := RX3) (T := TX3) (N := 6) hx hb hts hfX3 hown hK hP q5 eq5 rfl 0 (by decide) (hts (.fieldLink RX3 18 "ColdShips$Reckoner" "world" "LColdShips$World;") wa_129) (fun _ h9 => h9) rfl dX3_tonsRead_66 ?_
        refine va_getN (D := (dC, dI)) (ci := 10) (v := .ref (ρ (ρ h0 0) 16)) (C := RX10) (T := TX10) (N := 19) hx hb hts hfX10 hown hK hP q19 eq19 rfl 16 (by decide) (va_Nw.use rfl (hN.1 (.fieldLinkNest RX3 140 "ColdShips$World" "readings" "LColdShips$Rows;" "ColdShips") nzw_81)) (fun _ h9 => h9) rfl dX3_tonsRead_69 ?_
        refine lv_iload hx hb dX3_tonsRead_72 (lv_at hl 0 rfl) ?_
        refine lv_iconst (v := 0) hx hb dX3_tonsRead_74 (by decide) ?_
        refine pz_calll (va_runV (As := [.int w52, .int 0]) (rest := []) ⟨hx, hb, hml, hown, hts⟩ (t_X4_at l dC dI _ Ω κ τ ν ρ L f hG hT (ρ (ρ h0 0) 16) w52 (0) y15 o49_x0 o49_x2 hf_o49) (cwV 2 hts gX3_tonsRead_X4_at rfl rfl rfl ⟨rfl, pd_X4_at⟩ ⟨Nat.le_of_ble_eq_true rfl, Nat.le_of_ble_eq_true rfl⟩) ⟨pz_blind, va_recv hK hP (ci := 4) (q0 := q50) rfl eq50, pz_pre hP hK hD hN⟩ rfl rfl hl.1 rfl (lv_room (Nat.le_of_ble_eq_true rfl)) dX3_tonsRead_75 ⟨Nat.le_of_ble_eq_true rfl, Nat.le_of_ble_eq_true rfl⟩) (fun r56 hw57 => ?_)
        obtain ⟨hw57r, hw57p⟩ := hw57
        refine lv_iload_n hx hb dX3_tonsRead_78 rfl (lv_at hl 3 rfl) ?_
        refine lv_i2l hx hb dX3_tonsRead_79 rfl ?_
        refine W.lcmp hx hb dX3_tonsRead_80 ?_
        refine lv_if_ne (tgt := 181) hx hb dX3_tonsRead_81 (by decide) (fun c58 => ?_) (fun c58 => ?_)
        · have ic58 : r56.toInt ≠ v.toInt := zl_ne rfl (Int32.toInt_toInt64 v) c58
          obtain ⟨z59, ez59⟩ : ∃ y : Int32, y = w52 + (-1) := ⟨_, rfl⟩
          refine lv_iinc (v := z59) (lv' := [(5, .int z59), (4, .int r24), (0, .ref h0), (1, .int v), (2, .int u), (3, .int a)]) hx hb dX3_tonsRead_181 hl (k := 0) rfl (by rw [ez59]; rfl) (by decide) rfl (fun ls hl => ?_)
          have iz59 : z59.toInt = w52.toInt + (-1) := zi_add ez59 rfl rfl (by omega) (by omega)
          refine lv_goto (tgt := 60) hx hb dX3_tonsRead_184 (by decide) ?_
          exact ih53 _ _ _ _ (by rw [hn54]; omega) ⟨z59, rfl, (by omega), rfl, rfl, lv_sub hl [0, 1, 2, 3, 4, 5] rfl⟩
        · have ic58 : r56.toInt = v.toInt := zl_nef rfl (Int32.toInt_toInt64 v) c58
          refine lv_aload_n hx hb dX3_tonsRead_84 rfl (lv_at hl 2 rfl) ?_
          refine va_get (D := (dC, dI)) (ci := 3) (v := .ref (ρ h0 0)) (C := RX3) (T := TX3) (N := 6) hx hb hts hfX3 hown hK hP q5 eq5 rfl 0 (by decide) (hts (.fieldLink RX3 18 "ColdShips$Reckoner" "world" "LColdShips$World;") wa_129) (fun _ h9 => h9) rfl dX3_tonsRead_85 ?_
          refine va_getN (D := (dC, dI)) (ci := 10) (v := .ref (ρ (ρ h0 0) 16)) (C := RX10) (T := TX10) (N := 19) hx hb hts hfX10 hown hK hP q19 eq19 rfl 16 (by decide) (va_Nw.use rfl (hN.1 (.fieldLinkNest RX3 140 "ColdShips$World" "readings" "LColdShips$Rows;" "ColdShips") nzw_81)) (fun _ h9 => h9) rfl dX3_tonsRead_88 ?_
          refine lv_iload hx hb dX3_tonsRead_91 (lv_at hl 0 rfl) ?_
          refine lv_iconst (v := 1) hx hb dX3_tonsRead_93 (by decide) ?_
          refine pz_calll (va_runV (As := [.int w52, .int 1]) (rest := []) ⟨hx, hb, hml, hown, hts⟩ (t_X4_at l dC dI _ Ω κ τ ν ρ L f hG hT (ρ (ρ h0 0) 16) w52 (1) y15 o49_x0 o49_x2 hf_o49) (cwV 2 hts gX3_tonsRead_X4_at rfl rfl rfl ⟨rfl, pd_X4_at⟩ ⟨Nat.le_of_ble_eq_true rfl, Nat.le_of_ble_eq_true rfl⟩) ⟨pz_blind, va_recv hK hP (ci := 4) (q0 := q50) rfl eq50, pz_pre hP hK hD hN⟩ rfl rfl hl.1 rfl (lv_room (Nat.le_of_ble_eq_true rfl)) dX3_tonsRead_94 ⟨Nat.le_of_ble_eq_true rfl, Nat.le_of_ble_eq_true rfl⟩) (fun r60 hw61 => ?_)
          obtain ⟨hw61r, hw61p⟩ := hw61
          refine lv_iload_n hx hb dX3_tonsRead_97 rfl (lv_at hl 4 rfl) ?_
          refine lv_i2l hx hb dX3_tonsRead_98 rfl ?_
          refine W.lcmp hx hb dX3_tonsRead_99 ?_
          refine lv_if_ne (tgt := 181) hx hb dX3_tonsRead_100 (by decide) (fun c62 => ?_) (fun c62 => ?_)
          · have ic62 : r60.toInt ≠ u.toInt := zl_ne rfl (Int32.toInt_toInt64 u) c62
            obtain ⟨z63, ez63⟩ : ∃ y : Int32, y = w52 + (-1) := ⟨_, rfl⟩
            refine lv_iinc (v := z63) (lv' := [(5, .int z63), (4, .int r24), (0, .ref h0), (1, .int v), (2, .int u), (3, .int a)]) hx hb dX3_tonsRead_181 hl (k := 0) rfl (by rw [ez63]; rfl) (by decide) rfl (fun ls hl => ?_)
            have iz63 : z63.toInt = w52.toInt + (-1) := zi_add ez63 rfl rfl (by omega) (by omega)
            refine lv_goto (tgt := 60) hx hb dX3_tonsRead_184 (by decide) ?_
            exact ih53 _ _ _ _ (by rw [hn54]; omega) ⟨z63, rfl, (by omega), rfl, rfl, lv_sub hl [0, 1, 2, 3, 4, 5] rfl⟩
          · have ic62 : r60.toInt = u.toInt := zl_nef rfl (Int32.toInt_toInt64 u) c62
            refine lv_aload_n hx hb dX3_tonsRead_103 rfl (lv_at hl 2 rfl) ?_
            refine va_get (D := (dC, dI)) (ci := 3) (v := .ref (ρ h0 0)) (C := RX3) (T := TX3) (N := 6) hx hb hts hfX3 hown hK hP q5 eq5 rfl 0 (by decide) (hts (.fieldLink RX3 18 "ColdShips$Reckoner" "world" "LColdShips$World;") wa_129) (fun _ h9 => h9) rfl dX3_tonsRead_104 ?_
            refine va_getN (D := (dC, dI)) (ci := 10) (v := .ref (ρ (ρ h0 0) 16)) (C := RX10) (T := TX10) (N := 19) hx hb hts hfX10 hown hK hP q19 eq19 rfl 16 (by decide) (va_Nw.use rfl (hN.1 (.fieldLinkNest RX3 140 "ColdShips$World" "readings" "LColdShips$Rows;" "ColdShips") nzw_81)) (fun _ h9 => h9) rfl dX3_tonsRead_107 ?_
            refine lv_iload hx hb dX3_tonsRead_110 (lv_at hl 0 rfl) ?_
            refine lv_iconst (v := 4) hx hb dX3_tonsRead_112 (by decide) ?_
            refine pz_calll (va_runV (As := [.int w52, .int 4]) (rest := []) ⟨hx, hb, hml, hown, hts⟩ (t_X4_at l dC dI _ Ω κ τ ν ρ L f hG hT (ρ (ρ h0 0) 16) w52 (4) y15 o49_x0 o49_x2 hf_o49) (cwV 2 hts gX3_tonsRead_X4_at rfl rfl rfl ⟨rfl, pd_X4_at⟩ ⟨Nat.le_of_ble_eq_true rfl, Nat.le_of_ble_eq_true rfl⟩) ⟨pz_blind, va_recv hK hP (ci := 4) (q0 := q50) rfl eq50, pz_pre hP hK hD hN⟩ rfl rfl hl.1 rfl (lv_room (Nat.le_of_ble_eq_true rfl)) dX3_tonsRead_113 ⟨Nat.le_of_ble_eq_true rfl, Nat.le_of_ble_eq_true rfl⟩) (fun r64 hw65 => ?_)
            obtain ⟨hw65r, hw65p⟩ := hw65
            refine lv_iload_n hx hb dX3_tonsRead_116 rfl (lv_at hl 5 rfl) ?_
            refine lv_i2l hx hb dX3_tonsRead_117 rfl ?_
            refine W.lcmp hx hb dX3_tonsRead_118 ?_
            refine lv_if_gt (tgt := 181) hx hb dX3_tonsRead_119 (by decide) (fun c66 => ?_) (fun c66 => ?_)
            · have ic66 : r64.toInt > a.toInt := zl_gt rfl (Int32.toInt_toInt64 a) c66
              obtain ⟨z67, ez67⟩ : ∃ y : Int32, y = w52 + (-1) := ⟨_, rfl⟩
              refine lv_iinc (v := z67) (lv' := [(5, .int z67), (4, .int r24), (0, .ref h0), (1, .int v), (2, .int u), (3, .int a)]) hx hb dX3_tonsRead_181 hl (k := 0) rfl (by rw [ez67]; rfl) (by decide) rfl (fun ls hl => ?_)
              have iz67 : z67.toInt = w52.toInt + (-1) := zi_add ez67 rfl rfl (by omega) (by omega)
              refine lv_goto (tgt := 60) hx hb dX3_tonsRead_184 (by decide) ?_
              exact ih53 _ _ _ _ (by rw [hn54]; omega) ⟨z67, rfl, (by omega), rfl, rfl, lv_sub hl [0, 1, 2, 3, 4, 5] rfl⟩
            · have ic66 : r64.toInt ≤ a.toInt := zl_gtf rfl (Int32.toInt_toInt64 a) c66
              refine lv_aload_n hx hb dX3_tonsRead_122 rfl (lv_at hl 2 rfl) ?_
              refine va_get (D := (dC, dI)) (ci := 3) (v := .ref (ρ h0 0)) (C := RX3) (T := TX3) (N := 6) hx hb hts hfX3 hown hK hP q5 eq5 rfl 0 (by decide) (hts (.fieldLink RX3 18 "ColdShips$Reckoner" "world" "LColdShips$World;") wa_129) (fun _ h9 => h9) rfl dX3_tonsRead_123 ?_
              refine va_getN (D := (dC, dI)) (ci := 10) (v := .ref (ρ (ρ h0 0) 16)) (C := RX10) (T := TX10) (N := 19) hx hb hts hfX10 hown hK hP q19 eq19 rfl 16 (by decide) (va_Nw.use rfl (hN.1 (.fieldLinkNest RX3 140 "ColdShips$World" "readings" "LColdShips$Rows;" "ColdShips") nzw_81)) (fun _ h9 => h9) rfl dX3_tonsRead_126 ?_
              refine lv_iload hx hb dX3_tonsRead_129 (lv_at hl 0 rfl) ?_
              refine lv_iconst (v := 2) hx hb dX3_tonsRead_131 (by decide) ?_
              refine pz_calli (va_runV (As := [.int w52, .int 2]) (rest := []) ⟨hx, hb, hml, hown, hts⟩ (t_X4_number l dC dI _ Ω κ τ ν ρ L f hG hT (ρ (ρ h0 0) 16) w52 (2) y15) (cwV 2 hts gX3_tonsRead_X4_number rfl rfl rfl ⟨rfl, pd_X4_number⟩ ⟨Nat.le_of_ble_eq_true rfl, Nat.le_of_ble_eq_true rfl⟩) ⟨pz_blind, va_recv hK hP (ci := 4) (q0 := q50) rfl eq50, pz_pre hP hK hD hN⟩ rfl rfl hl.1 rfl (lv_room (Nat.le_of_ble_eq_true rfl)) dX3_tonsRead_132 ⟨Nat.le_of_ble_eq_true rfl, Nat.le_of_ble_eq_true rfl⟩) (fun r68 hw69 => ?_)
              obtain ⟨hw69r, hw69p⟩ := hw69
              refine lv_aload_n hx hb dX3_tonsRead_135 rfl (lv_at hl 2 rfl) ?_
              refine va_get (D := (dC, dI)) (ci := 3) (v := .ref (ρ h0 0)) (C := RX3) (T := TX3) (N := 6) hx hb hts hfX3 hown hK hP q5 eq5 rfl 0 (by decide) (hts (.fieldLink RX3 18 "ColdShips$Reckoner" "world" "LColdShips$World;") wa_129) (fun _ h9 => h9) rfl dX3_tonsRead_136 ?_
              refine va_getN (D := (dC, dI)) (ci := 10) (v := .ref (ρ (ρ h0 0) 16)) (C := RX10) (T := TX10) (N := 19) hx hb hts hfX10 hown hK hP q19 eq19 rfl 16 (by decide) (va_Nw.use rfl (hN.1 (.fieldLinkNest RX3 140 "ColdShips$World" "readings" "LColdShips$Rows;" "ColdShips") nzw_81)) (fun _ h9 => h9) rfl dX3_tonsRead_139 ?_
              refine lv_iload hx hb dX3_tonsRead_142 (lv_at hl 0 rfl) ?_
              refine lv_iconst (v := 3) hx hb dX3_tonsRead_144 (by decide) ?_
              refine pz_calli (va_runV (As := [.int w52, .int 3]) (rest := [.int r68]) ⟨hx, hb, hml, hown, hts⟩ (t_X4_number l dC dI _ Ω κ τ ν ρ L f hG hT (ρ (ρ h0 0) 16) w52 (3) y15) (cwV 2 hts gX3_tonsRead_X4_number rfl rfl rfl ⟨rfl, pd_X4_number⟩ ⟨Nat.le_of_ble_eq_true rfl, Nat.le_of_ble_eq_true rfl⟩) ⟨pz_blind, va_recv hK hP (ci := 4) (q0 := q50) rfl eq50, pz_pre hP hK hD hN⟩ rfl rfl hl.1 rfl (lv_room (Nat.le_of_ble_eq_true rfl)) dX3_tonsRead_145 ⟨Nat.le_of_ble_eq_true rfl, Nat.le_of_ble_eq_true rfl⟩) (fun r70 hw71 => ?_)
              obtain ⟨hw71r, hw71p⟩ := hw71
              refine lv_aload_n hx hb dX3_tonsRead_148 rfl (lv_at hl 2 rfl) ?_
              refine va_get (D := (dC, dI)) (ci := 3) (v := .ref (ρ h0 0)) (C := RX3) (T := TX3) (N := 6) hx hb hts hfX3 hown hK hP q5 eq5 rfl 0 (by decide) (hts (.fieldLink RX3 18 "ColdShips$Reckoner" "world" "LColdShips$World;") wa_129) (fun _ h9 => h9) rfl dX3_tonsRead_149 ?_
              refine va_getN (D := (dC, dI)) (ci := 10) (v := .ref (ρ (ρ h0 0) 10)) (C := RX10) (T := TX10) (N := 19) hx hb hts hfX10 hown hK hP q19 eq19 rfl 10 (by decide) (va_Nw.use rfl (hN.1 (.fieldLinkNest RX3 128 "ColdShips$World" "ships" "[LColdShips$Ship;" "ColdShips") nzw_71)) (fun _ h9 => h9) rfl dX3_tonsRead_152 ?_
              refine lv_iload hx hb dX3_tonsRead_155 (lv_at hl 1 rfl) ?_
              refine va_aldq hx hb hK hP q32 5 eq32 rfl (vp_in_iff.mpr ⟨by omega, by omega⟩) dX3_tonsRead_157 ?_
              obtain ⟨b72, hb73⟩ : ∃ b : Nat, b = ρ (ρ (ρ h0 0) 10) r24.toNatClampNeg := ⟨_, rfl⟩
              have hb73t : τ b72 = 6 := by rw [hb73]; exact tpg_25 hG y9 _ (zi_cl (vp_in_iff.mpr ⟨by omega, by omega⟩))
              have hb73g : g31 r24.toNatClampNeg = some b72 := by rw [hb73]; exact hf_o30e _ (zi_cl (vp_in_iff.mpr ⟨by omega, by omega⟩))
              refine W.eq (g2 := F0 m 158 ls (.ref b72 :: [.int r70, .int r68])) (congrArg (fun o => F0 m 158 ls (va_rf o :: [.int r70, .int r68])) hb73g) ?_
              refine tgk_6 hG hb73t (fun y74 y75 y75n y76 y76n y77 y77n y78 y78n y79 y79n y80 y80n => ?_)
              refine tpk_6 hT hb73t (fun o81_x1 o81_x2 o81_x3 o81_x4 o81_x5 o81_x6 o81_x10 o81_x11 o81_x12 o81_x14 hf_o81 ro81_0 ro81_1 ro81_2 => ?_)
              refine tpk_pos (tp_in hG hb73t (by decide)) hf_o81 (fun q82 eq82 => ?_)
              refine va_getN (D := (dC, dI)) (ci := 5) (v := .int o81_x14) (C := RX5) (T := TX5) (N := 17) hx hb hts hfX5 hown hK hP q82 eq82 rfl 14 (by decide) (va_Nw.use rfl (hN.1 (.fieldLinkNest RX3 146 "ColdShips$Ship" "list" "I" "ColdShips") nzw_44)) (fun _ h9 => h9) rfl dX3_tonsRead_158 ?_
              refine lv_imul hx hb dX3_tonsRead_161 ?_
              refine lv_topi (fun z83 ez83 => ?_)
              refine lv_isub hx hb dX3_tonsRead_162 ?_
              refine lv_topi (fun z84 ez84 => ?_)
              refine lv_istore (lv' := [(6, .int z84), (5, .int w52), (4, .int r24), (0, .ref h0), (1, .int v), (2, .int u), (3, .int a)]) hx hb dX3_tonsRead_163 hl (by decide) rfl (fun ls hl => ?_)
              refine lv_aload_n hx hb dX3_tonsRead_165 rfl (lv_at hl 3 rfl) ?_
              refine va_get (D := (dC, dI)) (ci := 3) (v := .ref (ρ h0 0)) (C := RX3) (T := TX3) (N := 6) hx hb hts hfX3 hown hK hP q5 eq5 rfl 0 (by decide) (hts (.fieldLink RX3 18 "ColdShips$Reckoner" "world" "LColdShips$World;") wa_129) (fun _ h9 => h9) rfl dX3_tonsRead_166 ?_
              refine va_getN (D := (dC, dI)) (ci := 10) (v := .ref (ρ (ρ h0 0) 10)) (C := RX10) (T := TX10) (N := 19) hx hb hts hfX10 hown hK hP q19 eq19 rfl 10 (by decide) (va_Nw.use rfl (hN.1 (.fieldLinkNest RX3 128 "ColdShips$World" "ships" "[LColdShips$Ship;" "ColdShips") nzw_71)) (fun _ h9 => h9) rfl dX3_tonsRead_169 ?_
              refine lv_iload hx hb dX3_tonsRead_172 (lv_at hl 2 rfl) ?_
              refine va_aldq hx hb hK hP q32 5 eq32 rfl (vp_in_iff.mpr ⟨by omega, by omega⟩) dX3_tonsRead_174 ?_
              obtain ⟨b85, hb86⟩ : ∃ b : Nat, b = ρ (ρ (ρ h0 0) 10) r24.toNatClampNeg := ⟨_, rfl⟩
              have hb86t : τ b85 = 6 := by rw [hb86]; exact tpg_25 hG y9 _ (zi_cl (vp_in_iff.mpr ⟨by omega, by omega⟩))
              have hb86g : g31 r24.toNatClampNeg = some b85 := by rw [hb86]; exact hf_o30e _ (zi_cl (vp_in_iff.mpr ⟨by omega, by omega⟩))
              refine W.eq (g2 := F0 m 175 ls (.ref b85 :: [])) (congrArg (fun o => F0 m 175 ls (va_rf o :: [])) hb86g) ?_
              refine lv_iload hx hb dX3_tonsRead_175 (lv_at hl 0 rfl) ?_
              refine tgk_6 hG hb86t (fun y87 y88 y88n y89 y89n y90 y90n y91 y91n y92 y92n y93 y93n => ?_)
              refine tpk_6 hT hb86t (fun o94_x1 o94_x2 o94_x3 o94_x4 o94_x5 o94_x6 o94_x10 o94_x11 o94_x12 o94_x14 hf_o94 ro94_0 ro94_1 ro94_2 => ?_)
              refine tpk_pos (tp_in hG hb86t (by decide)) hf_o94 (fun q95 eq95 => ?_)
              refine pz_calll (va_runV (As := [.int z84]) (rest := []) ⟨hx, hb, hml, hown, hts⟩ (t_X5_tonsAt l dC dI _ Ω κ τ ν ρ L f hG hT b85 z84 hb86t) (cwV 1 hts gX3_tonsRead_X5_tonsAt rfl rfl rfl ⟨rfl, pd_X5_tonsAt⟩ ⟨Nat.le_of_ble_eq_true rfl, Nat.le_of_ble_eq_true rfl⟩) ⟨pz_blind, va_recv hK hP (ci := 5) (q0 := q95) rfl eq95, pz_pre hP hK hD hN⟩ rfl rfl hl.1 rfl (lv_room (Nat.le_of_ble_eq_true rfl)) dX3_tonsRead_177 ⟨Nat.le_of_ble_eq_true rfl, Nat.le_of_ble_eq_true rfl⟩) (fun r96 hw97 => ?_)
              obtain ⟨hw97r, hw97p⟩ := hw97
              exact W.lret (v := r96) hx hb hr (fun t ht hW => ⟨r96, rfl, ⟨trivial, trivial⟩, ht⟩) (fun _ h => by cases h) dX3_tonsRead_180
    · have ic46 : r44.toInt = 0 := zi_nef rfl rfl c46
      refine lv_ldc2 (own := RX3) (v := (-2000000000000000)) hx hb hown (hts (.constantLong RX3 138 (-2000000000000000)) wa_1288) dX3_tonsRead_42 ?_
      exact W.lret (v := (-2000000000000000)) hx hb hr (fun t ht hW => ⟨(-2000000000000000), rfl, ⟨trivial, trivial⟩, ht⟩) (fun _ h => by cases h) dX3_tonsRead_45
set_option maxHeartbeats 4000000 in
set_option maxRecDepth 100000 in
theorem t_X3_tonsGauged (l : Launch) (dC : Nat → ClassId) (dI : Nat → Nat → Nat) (sz : Nat) (Ω : Nat → (Nat → Nat) → va_E → Prop) (κ : Nat → ClassId) (τ ν : Nat → Nat) (ρ : Nat → Nat → Nat) (L : List Nat) (f : Nat → va_E) (hG : tp_G τ ν ρ L) (hT : tp_T Ω κ τ ν ρ f) (h0 : Nat) (v : Int32) (u : Int32) (ht_h0 : τ h0 = 4) : Met l yX3_tonsGauged wqX3_tonsGauged ({ frames := 5, cells := 0, slots := 0, locals := 1600 }) (va_Pc [.ref h0, .int v, .int u] (pz_B dC dI (tp_K κ) (va_pl L f) sz)) (vp_Sl (fun r => True ∧ True)) 0 0 (fun _ => False) := by
  refine Met.ofW (cc := cX3_tonsGauged) (maxL := 7) (ret := some .long) (by decide) rfl ?_
  intro p e s m args below meth c s₁ B hml hv
  obtain ⟨rfl, hsz, hP, hK, hD0, hN⟩ := hv
  have hx := B.exec
  have hb := B.bytes
  have hr := B.returns
  have hts := fun (w : Cond) (h : w ∈ WALL) => atoms_spec (ws := wqX3_tonsGauged) B.pre w (List.mem_cons_of_mem _ h)
  have hown : s.vm.findClass RX3 = some m.cls := findClass_of_methodNamed B.named
  have hlocks := B.notSynchronized
  subst hsz
  have hD := hD0
  have hS : va_S (fun _ => True) s.heap s.heap [] := va_S.rf
  have hl := lv_entry ([.ref h0, .int v, .int u]) (n := 7) (Nat.le_of_ble_eq_true rfl)
  rw [lg_entry_eq]
  generalize (lg_sl ([.ref h0, .int v, .int u]) ++ List.replicate (7 - (lg_sl ([.ref h0, .int v, .int u])).length) Slot.unset).toArray = ls at hl ⊢
  have hl : lv_has ls 7 [(0, .ref h0), (1, .int v), (2, .int u)] := hl
  refine lv_aload_n hx hb dX3_tonsGauged_0 rfl (lv_at hl 0 rfl) ?_
  refine lv_iload_n hx hb dX3_tonsGauged_1 rfl (lv_at hl 1 rfl) ?_
  refine lv_iconst (v := 0) hx hb dX3_tonsGauged_2 (by decide) ?_
  refine lv_iload_n hx hb dX3_tonsGauged_3 rfl (lv_at hl 2 rfl) ?_
  refine tgk_4 hG ht_h0 (fun y1 y2 y2n y3 y3n => ?_)
  refine tpk_4 hT ht_h0 (fun o4_x3 o4_x4 o4_x5 hf_o4 ro4_0 => ?_)
  refine tpk_pos (tp_in hG ht_h0 (by decide)) hf_o4 (fun q5 eq5 => ?_)
  refine pz_calll (va_runV (As := [.int v, .int 0, .int u]) (rest := []) ⟨hx, hb, hml, hown, hts⟩ (t_X3_tonsRead l dC dI _ Ω κ τ ν ρ L f hG hT h0 v (0) u ht_h0) (cwV 3 hts gX3_tonsGauged_X3_tonsRead rfl rfl rfl ⟨rfl, pd_X3_tonsRead⟩ ⟨Nat.le_of_ble_eq_true rfl, Nat.le_of_ble_eq_true rfl⟩) ⟨pz_blind, va_recv hK hP (ci := 3) (q0 := q5) rfl eq5, pz_pre hP hK hD hN⟩ rfl rfl hl.1 rfl (lv_room (Nat.le_of_ble_eq_true rfl)) dX3_tonsGauged_4 ⟨Nat.le_of_ble_eq_true rfl, Nat.le_of_ble_eq_true rfl⟩) (fun r6 hw7 => ?_)
  obtain ⟨hw7r, hw7p⟩ := hw7
  refine lv_lstore_n (lv' := [(3, .long r6), (0, .ref h0), (1, .int v), (2, .int u)]) hx hb dX3_tonsGauged_7 rfl hl (by decide) rfl (fun ls hl => ?_)
  refine lv_aload_n hx hb dX3_tonsGauged_8 rfl (lv_at hl 1 rfl) ?_
  refine lv_iload_n hx hb dX3_tonsGauged_9 rfl (lv_at hl 2 rfl) ?_
  refine lv_iconst (v := 1) hx hb dX3_tonsGauged_10 (by decide) ?_
  refine lv_iload_n hx hb dX3_tonsGauged_11 rfl (lv_at hl 3 rfl) ?_
  refine pz_calll (va_runV (As := [.int v, .int 1, .int u]) (rest := []) ⟨hx, hb, hml, hown, hts⟩ (t_X3_tonsRead l dC dI _ Ω κ τ ν ρ L f hG hT h0 v (1) u ht_h0) (cwV 3 hts gX3_tonsGauged_X3_tonsRead rfl rfl rfl ⟨rfl, pd_X3_tonsRead⟩ ⟨Nat.le_of_ble_eq_true rfl, Nat.le_of_ble_eq_true rfl⟩) ⟨pz_blind, va_recv hK hP (ci := 3) (q0 := q5) rfl eq5, pz_pre hP hK hD hN⟩ rfl rfl hl.1 rfl (lv_room (Nat.le_of_ble_eq_true rfl)) dX3_tonsGauged_12 ⟨Nat.le_of_ble_eq_true rfl, Nat.le_of_ble_eq_true rfl⟩) (fun r8 hw9 => ?_)
  obtain ⟨hw9r, hw9p⟩ := hw9
  refine lv_lstore (lv' := [(5, .long r8), (3, .long r6), (0, .ref h0), (1, .int v), (2, .int u)]) hx hb dX3_tonsGauged_15 hl (by decide) rfl (fun ls hl => ?_)
  refine lv_lload_n hx hb dX3_tonsGauged_17 rfl (lv_at hl 1 rfl) ?_
  refine lv_ldc2 (own := RX3) (v := (-2000000000000000)) hx hb hown (hts (.constantLong RX3 138 (-2000000000000000)) wa_1288) dX3_tonsGauged_18 ?_
  refine W.lcmp hx hb dX3_tonsGauged_21 ?_
  refine lv_if_eq (tgt := 34) hx hb dX3_tonsGauged_22 (by decide) (fun c10 => ?_) (fun c10 => ?_)
  · have ic10 : r6.toInt = (-2000000000000000) := zl_eq rfl rfl c10
    refine lv_ldc2 (own := RX3) (v := (-2000000000000000)) hx hb hown (hts (.constantLong RX3 138 (-2000000000000000)) wa_1288) dX3_tonsGauged_34 ?_
    refine lv_goto (tgt := 44) hx hb dX3_tonsGauged_37 (by decide) ?_
    exact W.lret (v := (-2000000000000000)) hx hb hr (fun t ht hW => ⟨(-2000000000000000), rfl, ⟨trivial, trivial⟩, ht⟩) (fun _ h => by cases h) dX3_tonsGauged_44
  · have ic10 : r6.toInt ≠ (-2000000000000000) := zl_eqf rfl rfl c10
    refine lv_lload hx hb dX3_tonsGauged_25 (lv_at hl 0 rfl) ?_
    refine lv_ldc2 (own := RX3) (v := (-2000000000000000)) hx hb hown (hts (.constantLong RX3 138 (-2000000000000000)) wa_1288) dX3_tonsGauged_27 ?_
    refine W.lcmp hx hb dX3_tonsGauged_30 ?_
    refine lv_if_ne (tgt := 40) hx hb dX3_tonsGauged_31 (by decide) (fun c11 => ?_) (fun c11 => ?_)
    · have ic11 : r8.toInt ≠ (-2000000000000000) := zl_ne rfl rfl c11
      refine lv_lload_n hx hb dX3_tonsGauged_40 rfl (lv_at hl 1 rfl) ?_
      refine lv_lload hx hb dX3_tonsGauged_41 (lv_at hl 0 rfl) ?_
      refine lv_lsub hx hb dX3_tonsGauged_43 ?_
      refine lv_topl (fun z12 ez12 => ?_)
      exact W.lret (v := z12) hx hb hr (fun t ht hW => ⟨z12, rfl, ⟨trivial, trivial⟩, ht⟩) (fun _ h => by cases h) dX3_tonsGauged_44
    · have ic11 : r8.toInt = (-2000000000000000) := zl_nef rfl rfl c11
      refine lv_ldc2 (own := RX3) (v := (-2000000000000000)) hx hb hown (hts (.constantLong RX3 138 (-2000000000000000)) wa_1288) dX3_tonsGauged_34 ?_
      refine lv_goto (tgt := 44) hx hb dX3_tonsGauged_37 (by decide) ?_
      exact W.lret (v := (-2000000000000000)) hx hb hr (fun t ht hW => ⟨(-2000000000000000), rfl, ⟨trivial, trivial⟩, ht⟩) (fun _ h => by cases h) dX3_tonsGauged_44
