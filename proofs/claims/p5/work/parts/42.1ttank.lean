set_option maxHeartbeats 4000000 in
set_option maxRecDepth 100000 in
theorem t_J7_fill_53178 (l : Launch) (dC : Nat → ClassId) (dI : Nat → Nat → Nat) (sz : Nat) (Ω : Nat → (Nat → Nat) → va_E → Prop) (κ : Nat → ClassId) (τ ν : Nat → Nat) (ρ : Nat → Nat → Nat) (L : List Nat) (f : Nat → va_E) (hG : tp_G τ ν ρ L) (hT : tp_T Ω κ τ ν ρ f) (h0 : Nat) (v : Int32) (ht_h0 : τ h0 = 20) (hn : ν h0 ≤ 1000) : Met l yJ7_fill_53178 wqJ7_fill_53178 ({ frames := 2, cells := 0, slots := 0, locals := 400 }) (va_Pc [.ref h0, .int v] (pz_B dC dI (tp_K κ) (va_pl L f) sz)) (va_Qv (fun (f1 : Nat → va_E) => tp_T Ω κ τ ν ρ f1 ∧ tp_F τ [20] f f1 ∧ True) (fun (f1 : Nat → va_E) (t : State) => pz_E dC dI (tp_K κ) (va_A (va_pl L f) sz) (va_pl L f1) t) (va_A (va_pl L f) sz)) 0 0 (va_A (va_pl L f) sz) := by
  refine Met.ofW (cc := cJ7_fill_53178) (maxL := 4) (ret := none) (by decide) rfl ?_
  intro p e s m args below meth c s₁ B hml hv
  obtain ⟨rfl, hsz, hP, hK, hD0, hN⟩ := hv
  have hx := B.exec
  have hb := B.bytes
  have hr := B.returns
  have hts := fun (w : Cond) (h : w ∈ WALL) => atoms_spec (ws := wqJ7_fill_53178) B.pre w (List.mem_cons_of_mem _ h)
  have hown : s.vm.findClass RJ7 = some m.cls := findClass_of_methodNamed B.named
  have hlocks := B.notSynchronized
  subst hsz
  have hD := hD0.self (sz := s.heap.size)
  generalize hAe : va_A (va_pl L f) s.heap.size = A at hD ⊢
  have hA : ∀ q : Nat, s.heap.size ≤ q → A q := fun q h => by rw [← hAe]; exact Or.inr h
  have hS : va_S A s.heap s.heap [] := va_S.rf
  have hR : tp_F τ [20] f f := tp_F.rf
  have hl := lv_entry ([.ref h0, .int v]) (n := 4) (Nat.le_of_ble_eq_true rfl)
  rw [lg_entry_eq]
  generalize (lg_sl ([.ref h0, .int v]) ++ List.replicate (4 - (lg_sl ([.ref h0, .int v])).length) Slot.unset).toArray = ls at hl ⊢
  have hl : lv_has ls 4 [(0, .ref h0), (1, .int v)] := hl
  refine lv_iconst (v := 0) hx hb dJ7_fill_53178_0 (by decide) ?_
  refine lv_istore_n (lv' := [(2, .int 0), (0, .ref h0), (1, .int v)]) hx hb dJ7_fill_53178_1 rfl hl (by decide) rfl (fun ls hl => ?_)
  refine lv_aload_n hx hb dJ7_fill_53178_2 rfl (lv_at hl 1 rfl) ?_
  refine tpk_20 hT ht_h0 rfl (fun g2 hf_o1 => ?_)
  refine tpk_pos (tp_in hG ht_h0 (by decide)) hf_o1 (fun q3 eq3 => ?_)
  obtain ⟨z4, ez4⟩ : ∃ y : Int32, y = Int32.ofNat (ν h0) := ⟨_, rfl⟩
  have iz4 : z4.toInt = ((ν h0) : Int) := zi_ofNat ez4 (by omega)
  refine va_alen hx hb hK hP q3 0 eq3 rfl ez4.symm dJ7_fill_53178_3 ?_
  refine lv_istore_n (lv' := [(3, .int z4), (2, .int 0), (0, .ref h0), (1, .int v)]) hx hb dJ7_fill_53178_4 rfl hl (by decide) rfl (fun ls hl => ?_)
  refine pz_loop (fun n0 H locs ls => ∃ f7 : Nat → va_E, ∃ w5 : Int32, n0 = ((z4.toInt) - (w5.toInt)).toNat ∧ tp_T Ω κ τ ν ρ f7 ∧ tp_F τ [20] f f7 ∧ (0 ≤ w5.toInt ∧ w5.toInt ≤ 1000) ∧ ((w5.toInt) ≤ (z4.toInt)) ∧ va_P (dC, dI) vwCl (va_pl L f7) H ∧ va_D A (va_pl L f7) ∧ va_S A s.heap H locs ∧ lv_has ls 4 [(3, .int z4), (2, .int w5), (0, .ref h0), (1, .int v)]) ?_ _ _ _ _ ⟨f, 0, rfl, hT, hR, (by have : (0 : Int32).toInt = 0 := rfl; omega), (by have : (0 : Int32).toInt = 0 := rfl; omega), hP, hD, hS, lv_sub hl [0, 1, 2, 3] rfl⟩
  intro n0 H locs ls hI ih8
  refine Exists.elim hI (fun f7 hE90 => Exists.elim hE90 (fun w5 hE91 => tn_9 hE91 (fun hn9 hT hR rw5 k6 hP hD hS hl => ?_)))
  clear hE91 hE90 hI
  refine lv_iload_n hx hb dJ7_fill_53178_5 rfl (lv_at hl 1 rfl) ?_
  refine lv_iload_n hx hb dJ7_fill_53178_6 rfl (lv_at hl 0 rfl) ?_
  refine lv_icmp_ge (tgt := 20) hx hb dJ7_fill_53178_7 (by decide) (fun c10 => ?_) (fun c10 => ?_)
  · have ic10 : w5.toInt ≥ z4.toInt := zi_ge rfl rfl c10
    exact W.vret hx hb hr (fun t ht hW => ⟨⟨f7, rfl, ⟨hT, hR, trivial⟩, by rw [ht]; exact hP, va_K.moved hW.alike hK, hD⟩, hS.F ht⟩) hS.2.2 dJ7_fill_53178_20
  · have ic10 : w5.toInt < z4.toInt := zi_gef rfl rfl c10
    refine lv_aload_n hx hb dJ7_fill_53178_10 rfl (lv_at hl 2 rfl) ?_
    refine lv_iload_n hx hb dJ7_fill_53178_11 rfl (lv_at hl 1 rfl) ?_
    refine lv_iload_n hx hb dJ7_fill_53178_12 rfl (lv_at hl 3 rfl) ?_
    refine tpk_20 hT ht_h0 rfl (fun g12 hf_o11 => ?_)
    refine tpk_pos (tp_in hG ht_h0 (by decide)) hf_o11 (fun q13 eq13 => ?_)
    refine va_iast hx hb hK hP hD hS q13 0 eq13 rfl (vp_in_iff.mpr ⟨by omega, by omega⟩) dJ7_fill_53178_13 (tp_k (.inl (κ 0, (ν h0), .inl (upd g12 w5.toNatClampNeg v))) hD (tp_in hG ht_h0 (by decide)) eq13 (fun f14 H locs hP hD hS g16 k15 => ?_))
    have hT := hT.up ht_h0 g16 k15 (tp_o20 rfl)
    have hR := hR.up ht_h0 (by decide) k15
    generalize (upd g12 w5.toNatClampNeg v) = g17 at g16
    obtain ⟨z18, ez18⟩ : ∃ y : Int32, y = w5 + 1 := ⟨_, rfl⟩
    refine lv_iinc (v := z18) (lv' := [(2, .int z18), (3, .int z4), (0, .ref h0), (1, .int v)]) hx hb dJ7_fill_53178_14 hl (k := 1) rfl (by rw [ez18]; rfl) (by decide) rfl (fun ls hl => ?_)
    have iz18 : z18.toInt = w5.toInt + 1 := zi_add ez18 rfl rfl (by omega) (by omega)
    refine lv_goto (tgt := 5) hx hb dJ7_fill_53178_17 (by decide) ?_
    exact ih8 _ _ _ _ (by rw [hn9]; omega) ⟨f14, z18, rfl, hT, hR, (by omega), (by omega), hP, hD, hS, lv_sub hl [1, 0, 2, 3] rfl⟩
set_option maxHeartbeats 4000000 in
set_option maxRecDepth 100000 in
theorem t_J7_fill_d0a16 (l : Launch) (dC : Nat → ClassId) (dI : Nat → Nat → Nat) (sz : Nat) (Ω : Nat → (Nat → Nat) → va_E → Prop) (κ : Nat → ClassId) (τ ν : Nat → Nat) (ρ : Nat → Nat → Nat) (L : List Nat) (f : Nat → va_E) (hG : tp_G τ ν ρ L) (hT : tp_T Ω κ τ ν ρ f) (h0 : Nat) (v : Int64) (ht_h0 : τ h0 = 21) (hn : ν h0 ≤ 1000) : Met l yJ7_fill_d0a16 wqJ7_fill_d0a16 ({ frames := 2, cells := 0, slots := 0, locals := 400 }) (va_Pc [.ref h0, .long v] (pz_B dC dI (tp_K κ) (va_pl L f) sz)) (va_Qv (fun (f1 : Nat → va_E) => tp_T Ω κ τ ν ρ f1 ∧ tp_F τ [21] f f1 ∧ True) (fun (f1 : Nat → va_E) (t : State) => pz_E dC dI (tp_K κ) (va_A (va_pl L f) sz) (va_pl L f1) t) (va_A (va_pl L f) sz)) 0 0 (va_A (va_pl L f) sz) := by
  refine Met.ofW (cc := cJ7_fill_d0a16) (maxL := 5) (ret := none) (by decide) rfl ?_
  intro p e s m args below meth c s₁ B hml hv
  obtain ⟨rfl, hsz, hP, hK, hD0, hN⟩ := hv
  have hx := B.exec
  have hb := B.bytes
  have hr := B.returns
  have hts := fun (w : Cond) (h : w ∈ WALL) => atoms_spec (ws := wqJ7_fill_d0a16) B.pre w (List.mem_cons_of_mem _ h)
  have hown : s.vm.findClass RJ7 = some m.cls := findClass_of_methodNamed B.named
  have hlocks := B.notSynchronized
  subst hsz
  have hD := hD0.self (sz := s.heap.size)
  generalize hAe : va_A (va_pl L f) s.heap.size = A at hD ⊢
  have hA : ∀ q : Nat, s.heap.size ≤ q → A q := fun q h => by rw [← hAe]; exact Or.inr h
  have hS : va_S A s.heap s.heap [] := va_S.rf
  have hR : tp_F τ [21] f f := tp_F.rf
  have hl := lv_entry ([.ref h0, .long v]) (n := 5) (Nat.le_of_ble_eq_true rfl)
  rw [lg_entry_eq]
  generalize (lg_sl ([.ref h0, .long v]) ++ List.replicate (5 - (lg_sl ([.ref h0, .long v])).length) Slot.unset).toArray = ls at hl ⊢
  have hl : lv_has ls 5 [(0, .ref h0), (1, .long v)] := hl
  refine lv_iconst (v := 0) hx hb dJ7_fill_d0a16_0 (by decide) ?_
  refine lv_istore_n (lv' := [(3, .int 0), (0, .ref h0), (1, .long v)]) hx hb dJ7_fill_d0a16_1 rfl hl (by decide) rfl (fun ls hl => ?_)
  refine lv_aload_n hx hb dJ7_fill_d0a16_2 rfl (lv_at hl 1 rfl) ?_
  refine tpk_21 hT ht_h0 rfl (fun g2 hf_o1 => ?_)
  refine tpk_pos (tp_in hG ht_h0 (by decide)) hf_o1 (fun q3 eq3 => ?_)
  obtain ⟨z4, ez4⟩ : ∃ y : Int32, y = Int32.ofNat (ν h0) := ⟨_, rfl⟩
  have iz4 : z4.toInt = ((ν h0) : Int) := zi_ofNat ez4 (by omega)
  refine va_alen hx hb hK hP q3 1 eq3 rfl ez4.symm dJ7_fill_d0a16_3 ?_
  refine lv_istore (lv' := [(4, .int z4), (3, .int 0), (0, .ref h0), (1, .long v)]) hx hb dJ7_fill_d0a16_4 hl (by decide) rfl (fun ls hl => ?_)
  refine pz_loop (fun n0 H locs ls => ∃ f7 : Nat → va_E, ∃ w5 : Int32, n0 = ((z4.toInt) - (w5.toInt)).toNat ∧ tp_T Ω κ τ ν ρ f7 ∧ tp_F τ [21] f f7 ∧ (0 ≤ w5.toInt ∧ w5.toInt ≤ 1000) ∧ ((w5.toInt) ≤ (z4.toInt)) ∧ va_P (dC, dI) vwCl (va_pl L f7) H ∧ va_D A (va_pl L f7) ∧ va_S A s.heap H locs ∧ lv_has ls 5 [(4, .int z4), (3, .int w5), (0, .ref h0), (1, .long v)]) ?_ _ _ _ _ ⟨f, 0, rfl, hT, hR, (by have : (0 : Int32).toInt = 0 := rfl; omega), (by have : (0 : Int32).toInt = 0 := rfl; omega), hP, hD, hS, lv_sub hl [0, 1, 2, 3] rfl⟩
  intro n0 H locs ls hI ih8
  refine Exists.elim hI (fun f7 hE90 => Exists.elim hE90 (fun w5 hE91 => tn_9 hE91 (fun hn9 hT hR rw5 k6 hP hD hS hl => ?_)))
  clear hE91 hE90 hI
  refine lv_iload_n hx hb dJ7_fill_d0a16_6 rfl (lv_at hl 1 rfl) ?_
  refine lv_iload hx hb dJ7_fill_d0a16_7 (lv_at hl 0 rfl) ?_
  refine lv_icmp_ge (tgt := 22) hx hb dJ7_fill_d0a16_9 (by decide) (fun c10 => ?_) (fun c10 => ?_)
  · have ic10 : w5.toInt ≥ z4.toInt := zi_ge rfl rfl c10
    exact W.vret hx hb hr (fun t ht hW => ⟨⟨f7, rfl, ⟨hT, hR, trivial⟩, by rw [ht]; exact hP, va_K.moved hW.alike hK, hD⟩, hS.F ht⟩) hS.2.2 dJ7_fill_d0a16_22
  · have ic10 : w5.toInt < z4.toInt := zi_gef rfl rfl c10
    refine lv_aload_n hx hb dJ7_fill_d0a16_12 rfl (lv_at hl 2 rfl) ?_
    refine lv_iload_n hx hb dJ7_fill_d0a16_13 rfl (lv_at hl 1 rfl) ?_
    refine lv_lload_n hx hb dJ7_fill_d0a16_14 rfl (lv_at hl 3 rfl) ?_
    refine tpk_21 hT ht_h0 rfl (fun g12 hf_o11 => ?_)
    refine tpk_pos (tp_in hG ht_h0 (by decide)) hf_o11 (fun q13 eq13 => ?_)
    refine va_last hx hb hK hP hD hS q13 1 eq13 rfl (vp_in_iff.mpr ⟨by omega, by omega⟩) dJ7_fill_d0a16_15 (tp_k (.inl (κ 1, (ν h0), .inr (.inl (vp_updL g12 w5.toNatClampNeg v)))) hD (tp_in hG ht_h0 (by decide)) eq13 (fun f14 H locs hP hD hS g16 k15 => ?_))
    have hT := hT.up ht_h0 g16 k15 (tp_o21 rfl)
    have hR := hR.up ht_h0 (by decide) k15
    generalize (vp_updL g12 w5.toNatClampNeg v) = g17 at g16
    obtain ⟨z18, ez18⟩ : ∃ y : Int32, y = w5 + 1 := ⟨_, rfl⟩
    refine lv_iinc (v := z18) (lv' := [(3, .int z18), (4, .int z4), (0, .ref h0), (1, .long v)]) hx hb dJ7_fill_d0a16_16 hl (k := 1) rfl (by rw [ez18]; rfl) (by decide) rfl (fun ls hl => ?_)
    have iz18 : z18.toInt = w5.toInt + 1 := zi_add ez18 rfl rfl (by omega) (by omega)
    refine lv_goto (tgt := 6) hx hb dJ7_fill_d0a16_19 (by decide) ?_
    exact ih8 _ _ _ _ (by rw [hn9]; omega) ⟨f14, z18, rfl, hT, hR, (by omega), (by omega), hP, hD, hS, lv_sub hl [1, 0, 2, 3] rfl⟩
set_option maxHeartbeats 4000000 in
set_option maxRecDepth 100000 in
theorem t_X7_heel (l : Launch) (dC : Nat → ClassId) (dI : Nat → Nat → Nat) (sz : Nat) (Ω : Nat → (Nat → Nat) → va_E → Prop) (κ : Nat → ClassId) (τ ν : Nat → Nat) (ρ : Nat → Nat → Nat) (L : List Nat) (f : Nat → va_E) (hG : tp_G τ ν ρ L) (hT : tp_T Ω κ τ ν ρ f) (h0 : Nat) (ht_h0 : τ h0 = 8) : Met l yX7_heel wqX7_heel ({ frames := 2, cells := 0, slots := 0, locals := 400 }) (va_Pc [.ref h0] (pz_B dC dI (tp_K κ) (va_pl L f) sz)) (vp_Si (fun r => True ∧ True)) 0 0 (fun _ => False) := by
  refine Met.ofW (cc := cX7_heel) (maxL := 1) (ret := some .int) (by decide) rfl ?_
  intro p e s m args below meth c s₁ B hml hv
  obtain ⟨rfl, hsz, hP, hK, hD0, hN⟩ := hv
  have hx := B.exec
  have hb := B.bytes
  have hr := B.returns
  have hts := fun (w : Cond) (h : w ∈ WALL) => atoms_spec (ws := wqX7_heel) B.pre w (List.mem_cons_of_mem _ h)
  have hown : s.vm.findClass RX7 = some m.cls := findClass_of_methodNamed B.named
  have hlocks := B.notSynchronized
  subst hsz
  have hD := hD0
  have hS : va_S (fun _ => True) s.heap s.heap [] := va_S.rf
  have hl := lv_entry ([.ref h0]) (n := 1) (Nat.le_of_ble_eq_true rfl)
  rw [lg_entry_eq]
  generalize (lg_sl ([.ref h0]) ++ List.replicate (1 - (lg_sl ([.ref h0])).length) Slot.unset).toArray = ls at hl ⊢
  have hl : lv_has ls 1 [(0, .ref h0)] := hl
  refine lv_aload_n hx hb dX7_heel_0 rfl (lv_at hl 0 rfl) ?_
  refine tgk_8 hG ht_h0 (fun y1 y1n y2 y2n y3 y3n => ?_)
  refine tpk_8 hT ht_h0 (fun o4_x0 o4_x1 o4_x2 o4_x3 hf_o4 ro4_0 => ?_)
  refine tpk_pos (tp_in hG ht_h0 (by decide)) hf_o4 (fun q5 eq5 => ?_)
  refine va_get (D := (dC, dI)) (ci := 7) (v := .int o4_x0) (C := RX7) (T := TX7) (N := 7) hx hb hts hfX7 hown hK hP q5 eq5 rfl 0 (by decide) (hts (.fieldLink RX7 9 "ColdShips$Tank" "cap" "I") wa_106) (fun _ h9 => h9) rfl dX7_heel_1 ?_
  refine lv_iconst (v := 2) hx hb dX7_heel_4 (by decide) ?_
  refine lv_imul hx hb dX7_heel_5 ?_
  refine lv_topi (fun z6 ez6 => ?_)
  refine lv_bipush (v := 100) hx hb dX7_heel_6 (by decide) ?_
  refine lv_idiv hx hb dX7_heel_8 (by decide) ?_
  refine lv_topi (fun z7 ez7 => ?_)
  exact W.iret (v := z7) hx hb hr (fun t ht hW => ⟨z7, rfl, ⟨trivial, trivial⟩, ht⟩) (fun _ h => by cases h) dX7_heel_9
set_option maxHeartbeats 4000000 in
set_option maxRecDepth 100000 in
theorem t_X7_top (l : Launch) (dC : Nat → ClassId) (dI : Nat → Nat → Nat) (sz : Nat) (Ω : Nat → (Nat → Nat) → va_E → Prop) (κ : Nat → ClassId) (τ ν : Nat → Nat) (ρ : Nat → Nat → Nat) (L : List Nat) (f : Nat → va_E) (hG : tp_G τ ν ρ L) (hT : tp_T Ω κ τ ν ρ f) (h0 : Nat) (ht_h0 : τ h0 = 8) : Met l yX7_top wqX7_top ({ frames := 2, cells := 0, slots := 0, locals := 400 }) (va_Pc [.ref h0] (pz_B dC dI (tp_K κ) (va_pl L f) sz)) (vp_Si (fun r => True ∧ True)) 0 0 (fun _ => False) := by
  refine Met.ofW (cc := cX7_top) (maxL := 1) (ret := some .int) (by decide) rfl ?_
  intro p e s m args below meth c s₁ B hml hv
  obtain ⟨rfl, hsz, hP, hK, hD0, hN⟩ := hv
  have hx := B.exec
  have hb := B.bytes
  have hr := B.returns
  have hts := fun (w : Cond) (h : w ∈ WALL) => atoms_spec (ws := wqX7_top) B.pre w (List.mem_cons_of_mem _ h)
  have hown : s.vm.findClass RX7 = some m.cls := findClass_of_methodNamed B.named
  have hlocks := B.notSynchronized
  subst hsz
  have hD := hD0
  have hS : va_S (fun _ => True) s.heap s.heap [] := va_S.rf
  have hl := lv_entry ([.ref h0]) (n := 1) (Nat.le_of_ble_eq_true rfl)
  rw [lg_entry_eq]
  generalize (lg_sl ([.ref h0]) ++ List.replicate (1 - (lg_sl ([.ref h0])).length) Slot.unset).toArray = ls at hl ⊢
  have hl : lv_has ls 1 [(0, .ref h0)] := hl
  refine lv_aload_n hx hb dX7_top_0 rfl (lv_at hl 0 rfl) ?_
  refine tgk_8 hG ht_h0 (fun y1 y1n y2 y2n y3 y3n => ?_)
  refine tpk_8 hT ht_h0 (fun o4_x0 o4_x1 o4_x2 o4_x3 hf_o4 ro4_0 => ?_)
  refine tpk_pos (tp_in hG ht_h0 (by decide)) hf_o4 (fun q5 eq5 => ?_)
  refine va_get (D := (dC, dI)) (ci := 7) (v := .int o4_x0) (C := RX7) (T := TX7) (N := 7) hx hb hts hfX7 hown hK hP q5 eq5 rfl 0 (by decide) (hts (.fieldLink RX7 9 "ColdShips$Tank" "cap" "I") wa_106) (fun _ h9 => h9) rfl dX7_top_1 ?_
  refine lv_bipush (v := 98) hx hb dX7_top_4 (by decide) ?_
  refine lv_imul hx hb dX7_top_6 ?_
  refine lv_topi (fun z6 ez6 => ?_)
  refine lv_bipush (v := 100) hx hb dX7_top_7 (by decide) ?_
  refine lv_idiv hx hb dX7_top_9 (by decide) ?_
  refine lv_topi (fun z7 ez7 => ?_)
  exact W.iret (v := z7) hx hb hr (fun t ht hW => ⟨z7, rfl, ⟨trivial, trivial⟩, ht⟩) (fun _ h => by cases h) dX7_top_10
set_option maxHeartbeats 4000000 in
set_option maxRecDepth 100000 in
theorem t_X7_draft (l : Launch) (dC : Nat → ClassId) (dI : Nat → Nat → Nat) (sz : Nat) (Ω : Nat → (Nat → Nat) → va_E → Prop) (κ : Nat → ClassId) (τ ν : Nat → Nat) (ρ : Nat → Nat → Nat) (L : List Nat) (f : Nat → va_E) (hG : tp_G τ ν ρ L) (hT : tp_T Ω κ τ ν ρ f) (h0 : Nat) (ht_h0 : τ h0 = 8) : Met l yX7_draft wqX7_draft ({ frames := 2, cells := 0, slots := 0, locals := 400 }) (va_Pc [.ref h0] (pz_B dC dI (tp_K κ) (va_pl L f) sz)) (vp_Si (fun r => True ∧ True)) 0 0 (fun _ => False) := by
  refine Met.ofW (cc := cX7_draft) (maxL := 1) (ret := some .int) (by decide) rfl ?_
  intro p e s m args below meth c s₁ B hml hv
  obtain ⟨rfl, hsz, hP, hK, hD0, hN⟩ := hv
  have hx := B.exec
  have hb := B.bytes
  have hr := B.returns
  have hts := fun (w : Cond) (h : w ∈ WALL) => atoms_spec (ws := wqX7_draft) B.pre w (List.mem_cons_of_mem _ h)
  have hown : s.vm.findClass RX7 = some m.cls := findClass_of_methodNamed B.named
  have hlocks := B.notSynchronized
  subst hsz
  have hD := hD0
  have hS : va_S (fun _ => True) s.heap s.heap [] := va_S.rf
  have hl := lv_entry ([.ref h0]) (n := 1) (Nat.le_of_ble_eq_true rfl)
  rw [lg_entry_eq]
  generalize (lg_sl ([.ref h0]) ++ List.replicate (1 - (lg_sl ([.ref h0])).length) Slot.unset).toArray = ls at hl ⊢
  have hl : lv_has ls 1 [(0, .ref h0)] := hl
  refine lv_bipush (v := 8) hx hb dX7_draft_0 (by decide) ?_
  refine lv_bipush (v := 8) hx hb dX7_draft_2 (by decide) ?_
  refine lv_aload_n hx hb dX7_draft_4 rfl (lv_at hl 0 rfl) ?_
  refine tgk_8 hG ht_h0 (fun y1 y1n y2 y2n y3 y3n => ?_)
  refine tpk_8 hT ht_h0 (fun o4_x0 o4_x1 o4_x2 o4_x3 hf_o4 ro4_0 => ?_)
  refine tpk_pos (tp_in hG ht_h0 (by decide)) hf_o4 (fun q5 eq5 => ?_)
  refine va_get (D := (dC, dI)) (ci := 7) (v := .int o4_x1) (C := RX7) (T := TX7) (N := 7) hx hb hts hfX7 hown hK hP q5 eq5 rfl 1 (by decide) (hts (.fieldLink RX7 32 "ColdShips$Tank" "gas" "I") wa_254) (fun _ h9 => h9) rfl dX7_draft_5 ?_
  refine lv_imul hx hb dX7_draft_8 ?_
  refine lv_topi (fun z6 ez6 => ?_)
  refine lv_aload_n hx hb dX7_draft_9 rfl (lv_at hl 0 rfl) ?_
  refine va_get (D := (dC, dI)) (ci := 7) (v := .int o4_x0) (C := RX7) (T := TX7) (N := 7) hx hb hts hfX7 hown hK hP q5 eq5 rfl 0 (by decide) (hts (.fieldLink RX7 9 "ColdShips$Tank" "cap" "I") wa_106) (fun _ h9 => h9) rfl dX7_draft_10 ?_
  refine lv_idiv hx hb dX7_draft_13 (zi_nz (by omega) rfl) ?_
  refine lv_topi (fun z7 ez7 => ?_)
  refine lv_iadd hx hb dX7_draft_14 ?_
  refine lv_topi (fun z8 ez8 => ?_)
  exact W.iret (v := z8) hx hb hr (fun t ht hW => ⟨z8, rfl, ⟨trivial, trivial⟩, ht⟩) (fun _ h => by cases h) dX7_draft_15
set_option maxHeartbeats 4000000 in
set_option maxRecDepth 100000 in
theorem t_X7_space (l : Launch) (dC : Nat → ClassId) (dI : Nat → Nat → Nat) (sz : Nat) (Ω : Nat → (Nat → Nat) → va_E → Prop) (κ : Nat → ClassId) (τ ν : Nat → Nat) (ρ : Nat → Nat → Nat) (L : List Nat) (f : Nat → va_E) (hG : tp_G τ ν ρ L) (hT : tp_T Ω κ τ ν ρ f) (h0 : Nat) (ht_h0 : τ h0 = 8) : Met l yX7_space wqX7_space ({ frames := 2, cells := 0, slots := 0, locals := 400 }) (va_Pc [.ref h0] (pz_B dC dI (tp_K κ) (va_pl L f) sz)) (vp_Si (fun r => (1 ≤ r.toInt) ∧ True)) 0 0 (fun _ => False) := by
  refine Met.ofW (cc := cX7_space) (maxL := 1) (ret := some .int) (by decide) rfl ?_
  intro p e s m args below meth c s₁ B hml hv
  obtain ⟨rfl, hsz, hP, hK, hD0, hN⟩ := hv
  have hx := B.exec
  have hb := B.bytes
  have hr := B.returns
  have hts := fun (w : Cond) (h : w ∈ WALL) => atoms_spec (ws := wqX7_space) B.pre w (List.mem_cons_of_mem _ h)
  have hown : s.vm.findClass RX7 = some m.cls := findClass_of_methodNamed B.named
  have hlocks := B.notSynchronized
  subst hsz
  have hD := hD0
  have hS : va_S (fun _ => True) s.heap s.heap [] := va_S.rf
  have hl := lv_entry ([.ref h0]) (n := 1) (Nat.le_of_ble_eq_true rfl)
  rw [lg_entry_eq]
  generalize (lg_sl ([.ref h0]) ++ List.replicate (1 - (lg_sl ([.ref h0])).length) Slot.unset).toArray = ls at hl ⊢
  have hl : lv_has ls 1 [(0, .ref h0)] := hl
  refine lv_iconst (v := 1) hx hb dX7_space_0 (by decide) ?_
  refine lv_aload_n hx hb dX7_space_1 rfl (lv_at hl 0 rfl) ?_
  refine tgk_8 hG ht_h0 (fun y1 y1n y2 y2n y3 y3n => ?_)
  refine tpk_8 hT ht_h0 (fun o4_x0 o4_x1 o4_x2 o4_x3 hf_o4 ro4_0 => ?_)
  refine tpk_pos (tp_in hG ht_h0 (by decide)) hf_o4 (fun q5 eq5 => ?_)
  refine va_get (D := (dC, dI)) (ci := 7) (v := .int o4_x0) (C := RX7) (T := TX7) (N := 7) hx hb hts hfX7 hown hK hP q5 eq5 rfl 0 (by decide) (hts (.fieldLink RX7 9 "ColdShips$Tank" "cap" "I") wa_106) (fun _ h9 => h9) rfl dX7_space_2 ?_
  refine lv_aload_n hx hb dX7_space_5 rfl (lv_at hl 0 rfl) ?_
  refine va_get (D := (dC, dI)) (ci := 7) (v := .int o4_x1) (C := RX7) (T := TX7) (N := 7) hx hb hts hfX7 hown hK hP q5 eq5 rfl 1 (by decide) (hts (.fieldLink RX7 32 "ColdShips$Tank" "gas" "I") wa_254) (fun _ h9 => h9) rfl dX7_space_6 ?_
  refine lv_isub hx hb dX7_space_9 ?_
  refine lv_topi (fun z6 ez6 => ?_)
  refine lv_aload_n hx hb dX7_space_10 rfl (lv_at hl 0 rfl) ?_
  refine va_get (D := (dC, dI)) (ci := 7) (v := .int o4_x0) (C := RX7) (T := TX7) (N := 7) hx hb hts hfX7 hown hK hP q5 eq5 rfl 0 (by decide) (hts (.fieldLink RX7 9 "ColdShips$Tank" "cap" "I") wa_106) (fun _ h9 => h9) rfl dX7_space_11 ?_
  refine lv_bipush (v := 100) hx hb dX7_space_14 (by decide) ?_
  refine lv_idiv hx hb dX7_space_16 (by decide) ?_
  refine lv_topi (fun z7 ez7 => ?_)
  have iz7 : z7.toInt = o4_x0.toInt / 100 := zi_div ez7 rfl (show (100 : Int32).toInt = 100 from rfl) (by omega) (by omega)
  refine lv_iadd hx hb dX7_space_17 ?_
  refine lv_topi (fun z8 ez8 => ?_)
  refine va_mmax hx hb (by rw [hml]; exact hl.1.symm) hown (hts (.methodLink RX7 26 Lib.Math.max.name) wa_253) (hts (.static Lib.Math.max.name) wa_70) (hts (.initialized "java/lang/Math") wa_71) (hts (.code Lib.Math.max.name Lib.Math.max.code 2 (some .int)) wa_72) (Nat.le_of_ble_eq_true rfl) (Nat.le_of_ble_eq_true rfl) (Nat.le_of_ble_eq_true rfl) (Nat.le_of_ble_eq_true rfl) dX7_space_18 ?_
  refine lv_topi (fun z9 ez9 => ?_)
  have iz9 := zi_max ez9 (show (1 : Int32).toInt = 1 from rfl) (rfl : z8.toInt = _)
  exact W.iret (v := z9) hx hb hr (fun t ht hW => ⟨z9, rfl, ⟨(by first | decide | omega), trivial⟩, ht⟩) (fun _ h => by cases h) dX7_space_21
set_option maxHeartbeats 4000000 in
set_option maxRecDepth 100000 in
theorem t_X7_press (l : Launch) (dC : Nat → ClassId) (dI : Nat → Nat → Nat) (sz : Nat) (Ω : Nat → (Nat → Nat) → va_E → Prop) (κ : Nat → ClassId) (τ ν : Nat → Nat) (ρ : Nat → Nat → Nat) (L : List Nat) (f : Nat → va_E) (hG : tp_G τ ν ρ L) (hT : tp_T Ω κ τ ν ρ f) (h0 : Nat) (ht_h0 : τ h0 = 8) : Met l yX7_press wqX7_press ({ frames := 3, cells := 0, slots := 0, locals := 800 }) (va_Pc [.ref h0] (pz_B dC dI (tp_K κ) (va_pl L f) sz)) (vp_Si (fun r => True ∧ True)) 0 0 (fun _ => False) := by
  refine Met.ofW (cc := cX7_press) (maxL := 1) (ret := some .int) (by decide) rfl ?_
  intro p e s m args below meth c s₁ B hml hv
  obtain ⟨rfl, hsz, hP, hK, hD0, hN⟩ := hv
  have hx := B.exec
  have hb := B.bytes
  have hr := B.returns
  have hts := fun (w : Cond) (h : w ∈ WALL) => atoms_spec (ws := wqX7_press) B.pre w (List.mem_cons_of_mem _ h)
  have hown : s.vm.findClass RX7 = some m.cls := findClass_of_methodNamed B.named
  have hlocks := B.notSynchronized
  subst hsz
  have hD := hD0
  have hS : va_S (fun _ => True) s.heap s.heap [] := va_S.rf
  have hl := lv_entry ([.ref h0]) (n := 1) (Nat.le_of_ble_eq_true rfl)
  rw [lg_entry_eq]
  generalize (lg_sl ([.ref h0]) ++ List.replicate (1 - (lg_sl ([.ref h0])).length) Slot.unset).toArray = ls at hl ⊢
  have hl : lv_has ls 1 [(0, .ref h0)] := hl
  refine lv_aload_n hx hb dX7_press_0 rfl (lv_at hl 0 rfl) ?_
  refine tgk_8 hG ht_h0 (fun y1 y1n y2 y2n y3 y3n => ?_)
  refine tpk_8 hT ht_h0 (fun o4_x0 o4_x1 o4_x2 o4_x3 hf_o4 ro4_0 => ?_)
  refine tpk_pos (tp_in hG ht_h0 (by decide)) hf_o4 (fun q5 eq5 => ?_)
  refine va_get (D := (dC, dI)) (ci := 7) (v := .int o4_x2) (C := RX7) (T := TX7) (N := 7) hx hb hts hfX7 hown hK hP q5 eq5 rfl 2 (by decide) (hts (.fieldLink RX7 35 "ColdShips$Tank" "vapor" "I") wa_255) (fun _ h9 => h9) rfl dX7_press_1 ?_
  refine lv_i2l hx hb dX7_press_4 rfl ?_
  refine lv_ldc2 (own := RX7) (v := 1000) hx hb hown (hts (.constantLong RX7 47 (1000)) wa_537) dX7_press_5 ?_
  refine lv_lmul hx hb dX7_press_8 ?_
  refine lv_topl (fun z6 ez6 => ?_)
  refine lv_aload_n hx hb dX7_press_9 rfl (lv_at hl 0 rfl) ?_
  refine pz_calli (va_runV (As := []) (rest := [.long z6]) ⟨hx, hb, hml, hown, hts⟩ (t_X7_space l dC dI _ Ω κ τ ν ρ L f hG hT h0 ht_h0) (cwV 0 hts gX7_press_X7_space rfl rfl rfl ⟨rfl, pd_X7_space⟩ ⟨Nat.le_of_ble_eq_true rfl, Nat.le_of_ble_eq_true rfl⟩) ⟨pz_blind, va_recv hK hP (ci := 7) (q0 := q5) rfl eq5, pz_pre hP hK hD hN⟩ rfl rfl hl.1 rfl (lv_room (Nat.le_of_ble_eq_true rfl)) dX7_press_10 ⟨Nat.le_of_ble_eq_true rfl, Nat.le_of_ble_eq_true rfl⟩) (fun r7 hw8 => ?_)
  obtain ⟨hw8r, hw8p⟩ := hw8
  refine lv_i2l hx hb dX7_press_13 rfl ?_
  refine lv_ldiv hx hb dX7_press_14 (zl_nz (by omega) (Int32.toInt_toInt64 r7)) ?_
  refine lv_topl (fun z9 ez9 => ?_)
  refine lv_l2i hx hb dX7_press_15 rfl ?_
  refine lv_topi (fun z10 ez10 => ?_)
  exact W.iret (v := z10) hx hb hr (fun t ht hW => ⟨z10, rfl, ⟨trivial, trivial⟩, ht⟩) (fun _ h => by cases h) dX7_press_16
set_option maxHeartbeats 4000000 in
set_option maxRecDepth 100000 in
theorem t_X7_begin (l : Launch) (dC : Nat → ClassId) (dI : Nat → Nat → Nat) (sz : Nat) (Ω : Nat → (Nat → Nat) → va_E → Prop) (κ : Nat → ClassId) (τ ν : Nat → Nat) (ρ : Nat → Nat → Nat) (L : List Nat) (f : Nat → va_E) (hG : tp_G τ ν ρ L) (hT : tp_T Ω κ τ ν ρ f) (h0 : Nat) (v : Int32) (ht_h0 : τ h0 = 8) : Met l yX7_begin wqX7_begin ({ frames := 3, cells := 0, slots := 0, locals := 800 }) (va_Pc [.ref h0, .int v] (pz_B dC dI (tp_K κ) (va_pl L f) sz)) (va_Qv (fun (f1 : Nat → va_E) => tp_T Ω κ τ ν ρ f1 ∧ tp_F τ [8, 20] f f1 ∧ True) (fun (f1 : Nat → va_E) (t : State) => pz_E dC dI (tp_K κ) (va_A (va_pl L f) sz) (va_pl L f1) t) (va_A (va_pl L f) sz)) 0 0 (va_A (va_pl L f) sz) := by
  refine Met.ofW (cc := cX7_begin) (maxL := 2) (ret := none) (by decide) rfl ?_
  intro p e s m args below meth c s₁ B hml hv
  obtain ⟨rfl, hsz, hP, hK, hD0, hN⟩ := hv
  have hx := B.exec
  have hb := B.bytes
  have hr := B.returns
  have hts := fun (w : Cond) (h : w ∈ WALL) => atoms_spec (ws := wqX7_begin) B.pre w (List.mem_cons_of_mem _ h)
  have hown : s.vm.findClass RX7 = some m.cls := findClass_of_methodNamed B.named
  have hlocks := B.notSynchronized
  subst hsz
  have hD := hD0.self (sz := s.heap.size)
  generalize hAe : va_A (va_pl L f) s.heap.size = A at hD ⊢
  have hA : ∀ q : Nat, s.heap.size ≤ q → A q := fun q h => by rw [← hAe]; exact Or.inr h
  have hS : va_S A s.heap s.heap [] := va_S.rf
  have hR : tp_F τ [8, 20] f f := tp_F.rf
  have hl := lv_entry ([.ref h0, .int v]) (n := 2) (Nat.le_of_ble_eq_true rfl)
  rw [lg_entry_eq]
  generalize (lg_sl ([.ref h0, .int v]) ++ List.replicate (2 - (lg_sl ([.ref h0, .int v])).length) Slot.unset).toArray = ls at hl ⊢
  have hl : lv_has ls 2 [(0, .ref h0), (1, .int v)] := hl
  refine lv_aload_n hx hb dX7_begin_0 rfl (lv_at hl 0 rfl) ?_
  refine lv_sipush (v := 1000) hx hb dX7_begin_1 (by decide) ?_
  refine lv_iload_n hx hb dX7_begin_4 rfl (lv_at hl 1 rfl) ?_
  refine va_mmax hx hb (by rw [hml]; exact hl.1.symm) hown (hts (.methodLink RX7 26 Lib.Math.max.name) wa_253) (hts (.static Lib.Math.max.name) wa_70) (hts (.initialized "java/lang/Math") wa_71) (hts (.code Lib.Math.max.name Lib.Math.max.code 2 (some .int)) wa_72) (Nat.le_of_ble_eq_true rfl) (Nat.le_of_ble_eq_true rfl) (Nat.le_of_ble_eq_true rfl) (Nat.le_of_ble_eq_true rfl) dX7_begin_5 ?_
  refine lv_topi (fun z1 ez1 => ?_)
  have iz1 := zi_max ez1 (show (1000 : Int32).toInt = 1000 from rfl) (rfl : v.toInt = _)
  refine tgk_8 hG ht_h0 (fun y2 y2n y3 y3n y4 y4n => ?_)
  refine tpk_8 hT ht_h0 (fun o5_x0 o5_x1 o5_x2 o5_x3 hf_o5 ro5_0 => ?_)
  refine tpk_pos (tp_in hG ht_h0 (by decide)) hf_o5 (fun q6 eq6 => ?_)
  refine va_put (D := (dC, dI)) (ci := 7) (v := .int z1) (ty := .int) (C := RX7) (T := TX7) (N := 7) hx hb hts hfX7 tyX7 tyX7_ok nmX7 hown hK hP hD hS q6 eq6 rfl 0 (by decide) (hts (.fieldLink RX7 9 "ColdShips$Tank" "cap" "I") wa_106) (fun _ h9 => h9) rfl (tyX7_ok 0 (by decide)) rfl rfl (Nat.le_of_ble_eq_true rfl) dX7_begin_8 (tp_k (.inr (7, [.int z1, .int o5_x1, .int o5_x2, .int o5_x3, .ref (ρ h0 4), .ref (ρ h0 5), .ref (ρ h0 6)])) hD (tp_in hG ht_h0 (by decide)) eq6 (fun f7 H locs hP hD hS g9 k8 => ?_))
  have hT := hT.up ht_h0 g9 k8 ⟨_, _, _, _, rfl, (by first | decide | omega | (omega))⟩
  have hR := hR.up ht_h0 (by decide) k8
  refine lv_aload_n hx hb dX7_begin_11 rfl (lv_at hl 0 rfl) ?_
  refine lv_iconst (v := 0) hx hb dX7_begin_12 (by decide) ?_
  refine tpk_pos (tp_in hG ht_h0 (by decide)) g9 (fun q10 eq10 => ?_)
  refine va_put (D := (dC, dI)) (ci := 7) (v := .int 0) (ty := .int) (C := RX7) (T := TX7) (N := 7) hx hb hts hfX7 tyX7 tyX7_ok nmX7 hown hK hP hD hS q10 eq10 rfl 1 (by decide) (hts (.fieldLink RX7 32 "ColdShips$Tank" "gas" "I") wa_254) (fun _ h9 => h9) rfl (tyX7_ok 1 (by decide)) rfl rfl (Nat.le_of_ble_eq_true rfl) dX7_begin_13 (tp_k (.inr (7, [.int z1, .int 0, .int o5_x2, .int o5_x3, .ref (ρ h0 4), .ref (ρ h0 5), .ref (ρ h0 6)])) hD (tp_in hG ht_h0 (by decide)) eq10 (fun f11 H locs hP hD hS g13 k12 => ?_))
  have hT := hT.up ht_h0 g13 k12 ⟨_, _, _, _, rfl, (by first | decide | omega | (have : (0 : Int32).toInt = 0 := rfl; omega))⟩
  have hR := hR.up ht_h0 (by decide) k12
  refine lv_aload_n hx hb dX7_begin_16 rfl (lv_at hl 0 rfl) ?_
  refine lv_iconst (v := 0) hx hb dX7_begin_17 (by decide) ?_
  refine tpk_pos (tp_in hG ht_h0 (by decide)) g13 (fun q14 eq14 => ?_)
  refine va_put (D := (dC, dI)) (ci := 7) (v := .int 0) (ty := .int) (C := RX7) (T := TX7) (N := 7) hx hb hts hfX7 tyX7 tyX7_ok nmX7 hown hK hP hD hS q14 eq14 rfl 2 (by decide) (hts (.fieldLink RX7 35 "ColdShips$Tank" "vapor" "I") wa_255) (fun _ h9 => h9) rfl (tyX7_ok 2 (by decide)) rfl rfl (Nat.le_of_ble_eq_true rfl) dX7_begin_18 (tp_k (.inr (7, [.int z1, .int 0, .int 0, .int o5_x3, .ref (ρ h0 4), .ref (ρ h0 5), .ref (ρ h0 6)])) hD (tp_in hG ht_h0 (by decide)) eq14 (fun f15 H locs hP hD hS g17 k16 => ?_))
  have hT := hT.up ht_h0 g17 k16 ⟨_, _, _, _, rfl, (by first | decide | omega | (have : (0 : Int32).toInt = 0 := rfl; have : (0 : Int32).toInt = 0 := rfl; omega))⟩
  have hR := hR.up ht_h0 (by decide) k16
  refine lv_aload_n hx hb dX7_begin_21 rfl (lv_at hl 0 rfl) ?_
  refine lv_sipush (v := 1800) hx hb dX7_begin_22 (by decide) ?_
  refine tpk_pos (tp_in hG ht_h0 (by decide)) g17 (fun q18 eq18 => ?_)
  refine va_put (D := (dC, dI)) (ci := 7) (v := .int 1800) (ty := .int) (C := RX7) (T := TX7) (N := 7) hx hb hts hfX7 tyX7 tyX7_ok nmX7 hown hK hP hD hS q18 eq18 rfl 3 (by decide) (hts (.fieldLink RX7 38 "ColdShips$Tank" "warm" "I") wa_256) (fun _ h9 => h9) rfl (tyX7_ok 3 (by decide)) rfl rfl (Nat.le_of_ble_eq_true rfl) dX7_begin_25 (tp_k (.inr (7, [.int z1, .int 0, .int 0, .int 1800, .ref (ρ h0 4), .ref (ρ h0 5), .ref (ρ h0 6)])) hD (tp_in hG ht_h0 (by decide)) eq18 (fun f19 H locs hP hD hS g21 k20 => ?_))
  have hT := hT.up ht_h0 g21 k20 ⟨_, _, _, _, rfl, (by first | decide | omega | (have : (0 : Int32).toInt = 0 := rfl; have : (0 : Int32).toInt = 0 := rfl; have : (1800 : Int32).toInt = 1800 := rfl; omega))⟩
  have hR := hR.up ht_h0 (by decide) k20
  refine lv_aload_n hx hb dX7_begin_28 rfl (lv_at hl 0 rfl) ?_
  refine tpk_pos (tp_in hG ht_h0 (by decide)) g21 (fun q22 eq22 => ?_)
  refine va_get (D := (dC, dI)) (ci := 7) (v := .ref (ρ h0 4)) (C := RX7) (T := TX7) (N := 7) hx hb hts hfX7 hown hK hP q22 eq22 rfl 4 (by decide) (hts (.fieldLink RX7 15 "ColdShips$Tank" "parts" "[I") wa_107) (fun _ h9 => h9) rfl dX7_begin_29 ?_
  refine lv_iconst (v := 0) hx hb dX7_begin_32 (by decide) ?_
  have hFc := tp_fr hD hS hA
  refine va_callv (va_runS (As := [.ref (ρ h0 4), .int 0]) (rest := []) ⟨hx, hb, hml, hown, hts⟩ (t_J7_fill_53178 l dC dI _ Ω κ τ ν ρ L f19 hG hT (ρ h0 4) (0) y2 (by first | omega | (have : (0 : Int32).toInt = 0 := rfl; omega))) (va_cwS 2 hts gX7_begin_J7_fill_53178 rfl rfl rfl pd_J7_fill_53178 ⟨Nat.le_of_ble_eq_true rfl, Nat.le_of_ble_eq_true rfl⟩) ⟨pz_blind, pz_pre hP hK hD hN⟩ rfl rfl hl.1 rfl (lv_room (Nat.le_of_ble_eq_true rfl)) dX7_begin_33 ⟨Nat.le_of_ble_eq_true rfl, Nat.le_of_ble_eq_true rfl⟩) hS (fun q _ h => hFc q h) hFc (fun f25 t H1 locs ht hvm hw24 hB hz1 hk1 hS => ?_)
  refine tn_3 hw24 (fun hT hF26 hw24p => ?_); clear hw24
  have hR := hR.then hF26 (by decide)
  have hP := hB.1; rw [ht] at hP; have hD := tp_ad f25 hD; clear hB hFc hz1 hk1; subst ht; generalize t.heap = H at hP hS ⊢
  exact W.vret hx hb hr (fun t ht hW => ⟨⟨f25, rfl, ⟨hT, hR, trivial⟩, by rw [ht]; exact hP, va_K.moved hW.alike hK, hD⟩, hS.F ht⟩) hS.2.2 dX7_begin_36
set_option maxHeartbeats 4000000 in
set_option maxRecDepth 100000 in
theorem t_X7_giveByRests (l : Launch) (dC : Nat → ClassId) (dI : Nat → Nat → Nat) (sz : Nat) (Ω : Nat → (Nat → Nat) → va_E → Prop) (κ : Nat → ClassId) (τ ν : Nat → Nat) (ρ : Nat → Nat → Nat) (L : List Nat) (f : Nat → va_E) (hG : tp_G τ ν ρ L) (hT : tp_T Ω κ τ ν ρ f) (h0 : Nat) (v : Int32) (ht_h0 : τ h0 = 8) : Met l yX7_giveByRests wqX7_giveByRests ({ frames := 2, cells := 0, slots := 0, locals := 400 }) (va_Pc [.ref h0, .int v] (pz_B dC dI (tp_K κ) (va_pl L f) sz)) (va_Qv (fun (f1 : Nat → va_E) => tp_T Ω κ τ ν ρ f1 ∧ tp_F τ [20, 21] f f1 ∧ True) (fun (f1 : Nat → va_E) (t : State) => pz_E dC dI (tp_K κ) (va_A (va_pl L f) sz) (va_pl L f1) t) (va_A (va_pl L f) sz)) 0 0 (va_A (va_pl L f) sz) := by
  refine Met.ofW (cc := cX7_giveByRests) (maxL := 5) (ret := none) (by decide) rfl ?_
  intro p e s m args below meth c s₁ B hml hv
  obtain ⟨rfl, hsz, hP, hK, hD0, hN⟩ := hv
  have hx := B.exec
  have hb := B.bytes
  have hr := B.returns
  have hts := fun (w : Cond) (h : w ∈ WALL) => atoms_spec (ws := wqX7_giveByRests) B.pre w (List.mem_cons_of_mem _ h)
  have hown : s.vm.findClass RX7 = some m.cls := findClass_of_methodNamed B.named
  have hlocks := B.notSynchronized
  subst hsz
  have hD := hD0.self (sz := s.heap.size)
  generalize hAe : va_A (va_pl L f) s.heap.size = A at hD ⊢
  have hA : ∀ q : Nat, s.heap.size ≤ q → A q := fun q h => by rw [← hAe]; exact Or.inr h
  have hS : va_S A s.heap s.heap [] := va_S.rf
  have hR : tp_F τ [20, 21] f f := tp_F.rf
  have hl := lv_entry ([.ref h0, .int v]) (n := 5) (Nat.le_of_ble_eq_true rfl)
  rw [lg_entry_eq]
  generalize (lg_sl ([.ref h0, .int v]) ++ List.replicate (5 - (lg_sl ([.ref h0, .int v])).length) Slot.unset).toArray = ls at hl ⊢
  have hl : lv_has ls 5 [(0, .ref h0), (1, .int v)] := hl
  refine lv_iconst (v := 0) hx hb dX7_giveByRests_0 (by decide) ?_
  refine lv_istore_n (lv' := [(2, .int 0), (0, .ref h0), (1, .int v)]) hx hb dX7_giveByRests_1 rfl hl (by decide) rfl (fun ls hl => ?_)
  refine pz_loop (fun n0 H locs ls => ∃ f2 : Nat → va_E, ∃ w1 : Int32, n0 = (6 - (w1.toInt)).toNat ∧ tp_T Ω κ τ ν ρ f2 ∧ tp_F τ [20, 21] f f2 ∧ (0 ≤ w1.toInt ∧ w1.toInt ≤ 6) ∧ va_P (dC, dI) vwCl (va_pl L f2) H ∧ va_D A (va_pl L f2) ∧ va_S A s.heap H locs ∧ lv_has ls 5 [(2, .int w1), (0, .ref h0), (1, .int v)]) ?_ _ _ _ _ ⟨f, 0, rfl, hT, hR, (by have : (0 : Int32).toInt = 0 := rfl; omega), hP, hD, hS, lv_sub hl [0, 1, 2] rfl⟩
  intro n0 H locs ls hI ih3
  refine Exists.elim hI (fun f2 hE90 => Exists.elim hE90 (fun w1 hE91 => tn_8 hE91 (fun hn4 hT hR rw1 hP hD hS hl => ?_)))
  clear hE91 hE90 hI
  refine lv_iload_n hx hb dX7_giveByRests_2 rfl (lv_at hl 0 rfl) ?_
  refine lv_iload_n hx hb dX7_giveByRests_3 rfl (lv_at hl 2 rfl) ?_
  refine lv_icmp_ge (tgt := 76) hx hb dX7_giveByRests_4 (by decide) (fun c5 => ?_) (fun c5 => ?_)
  · have ic5 : w1.toInt ≥ v.toInt := zi_ge rfl rfl c5
    exact W.vret hx hb hr (fun t ht hW => ⟨⟨f2, rfl, ⟨hT, hR, trivial⟩, by rw [ht]; exact hP, va_K.moved hW.alike hK, hD⟩, hS.F ht⟩) hS.2.2 dX7_giveByRests_76
  · have ic5 : w1.toInt < v.toInt := zi_gef rfl rfl c5
    refine lv_iload_n hx hb dX7_giveByRests_7 rfl (lv_at hl 0 rfl) ?_
    refine lv_bipush (v := 6) hx hb dX7_giveByRests_8 (by decide) ?_
    refine lv_icmp_ge (tgt := 76) hx hb dX7_giveByRests_10 (by decide) (fun c6 => ?_) (fun c6 => ?_)
    · have ic6 : w1.toInt ≥ 6 := zi_ge rfl rfl c6
      exact W.vret hx hb hr (fun t ht hW => ⟨⟨f2, rfl, ⟨hT, hR, trivial⟩, by rw [ht]; exact hP, va_K.moved hW.alike hK, hD⟩, hS.F ht⟩) hS.2.2 dX7_giveByRests_76
    · have ic6 : w1.toInt < 6 := zi_gef rfl rfl c6
      refine lv_iconst (v := 0) hx hb dX7_giveByRests_13 (by decide) ?_
      refine lv_istore_n (lv' := [(3, .int 0), (2, .int w1), (0, .ref h0), (1, .int v)]) hx hb dX7_giveByRests_14 rfl hl (by decide) rfl (fun ls hl => ?_)
      refine lv_iconst (v := 1) hx hb dX7_giveByRests_15 (by decide) ?_
      refine lv_istore (lv' := [(4, .int 1), (3, .int 0), (2, .int w1), (0, .ref h0), (1, .int v)]) hx hb dX7_giveByRests_16 hl (by decide) rfl (fun ls hl => ?_)
      refine pz_loop (fun n0 H locs ls => ∃ w7 : Int32, ∃ w8 : Int32, n0 = (6 - (w7.toInt)).toNat ∧ (1 ≤ w7.toInt ∧ w7.toInt ≤ 6) ∧ (0 ≤ w8.toInt ∧ w8.toInt ≤ 5) ∧ va_P (dC, dI) vwCl (va_pl L f2) H ∧ va_D A (va_pl L f2) ∧ va_S A s.heap H locs ∧ lv_has ls 5 [(4, .int w7), (3, .int w8), (2, .int w1), (0, .ref h0), (1, .int v)]) ?_ _ _ _ _ ⟨1, 0, rfl, (by have : (1 : Int32).toInt = 1 := rfl; have : (0 : Int32).toInt = 0 := rfl; omega), (by have : (1 : Int32).toInt = 1 := rfl; have : (0 : Int32).toInt = 0 := rfl; omega), hP, hD, hS, lv_sub hl [0, 1, 2, 3, 4] rfl⟩
      intro n0 H locs ls hI ih9
      refine Exists.elim hI (fun w7 hE90 => Exists.elim hE90 (fun w8 hE91 => tn_7 hE91 (fun hn10 rw7 rw8 hP hD hS hl => ?_)))
      clear hE91 hE90 hI
      refine lv_iload hx hb dX7_giveByRests_18 (lv_at hl 0 rfl) ?_
      refine lv_bipush (v := 6) hx hb dX7_giveByRests_20 (by decide) ?_
      refine lv_icmp_ge (tgt := 51) hx hb dX7_giveByRests_22 (by decide) (fun c11 => ?_) (fun c11 => ?_)
      · have ic11 : w7.toInt ≥ 6 := zi_ge rfl rfl c11
        refine lv_aload_n hx hb dX7_giveByRests_51 rfl (lv_at hl 3 rfl) ?_
        refine tgk_8 hG ht_h0 (fun y12 y12n y13 y13n y14 y14n => ?_)
        refine tpk_8 hT ht_h0 (fun o15_x0 o15_x1 o15_x2 o15_x3 hf_o15 ro15_0 => ?_)
        refine tpk_pos (tp_in hG ht_h0 (by decide)) hf_o15 (fun q16 eq16 => ?_)
        refine va_get (D := (dC, dI)) (ci := 7) (v := .ref (ρ h0 5)) (C := RX7) (T := TX7) (N := 7) hx hb hts hfX7 hown hK hP q16 eq16 rfl 5 (by decide) (hts (.fieldLink RX7 19 "ColdShips$Tank" "given" "[I") wa_108) (fun _ h9 => h9) rfl dX7_giveByRests_52 ?_
        refine lv_iload_n hx hb dX7_giveByRests_55 rfl (lv_at hl 1 rfl) ?_
        refine lv_dup2_11 hx hb dX7_giveByRests_56 rfl rfl ?_
        refine tpk_20 hT y13 y13n (fun g18 hf_o17 => ?_)
        refine tpk_pos (tp_in hG y13 (by decide)) hf_o17 (fun q19 eq19 => ?_)
        refine va_iald hx hb hK hP q19 0 eq19 rfl (vp_in_iff.mpr ⟨by omega, by omega⟩) dX7_giveByRests_57 ?_
        refine lv_topi (fun z20 ez20 => ?_)
        refine lv_iconst (v := 1) hx hb dX7_giveByRests_58 (by decide) ?_
        refine lv_iadd hx hb dX7_giveByRests_59 ?_
        refine lv_topi (fun z21 ez21 => ?_)
        refine va_iast hx hb hK hP hD hS q19 0 eq19 rfl (vp_in_iff.mpr ⟨by omega, by omega⟩) dX7_giveByRests_60 (tp_k (.inl (κ 0, 6, .inl (upd g18 w8.toNatClampNeg z21))) hD (tp_in hG y13 (by decide)) eq19 (fun f22 H locs hP hD hS g24 k23 => ?_))
        have hT := hT.up y13 g24 k23 (tp_o20 y13n)
        have hR := hR.up y13 (by decide) k23
        generalize (upd g18 w8.toNatClampNeg z21) = g25 at g24
        refine lv_aload_n hx hb dX7_giveByRests_61 rfl (lv_at hl 3 rfl) ?_
        have hf_26 : f22 h0 = .inr (7, [.int o15_x0, .int o15_x1, .int o15_x2, .int o15_x3, .ref (ρ h0 4), .ref (ρ h0 5), .ref (ρ h0 6)]) := (k23 _ (tp_ne ht_h0 y13 (by decide))).trans hf_o15
        refine tpk_pos (tp_in hG ht_h0 (by decide)) hf_26 (fun q27 eq27 => ?_)
        refine va_get (D := (dC, dI)) (ci := 7) (v := .ref (ρ h0 6)) (C := RX7) (T := TX7) (N := 7) hx hb hts hfX7 hown hK hP q27 eq27 rfl 6 (by decide) (hts (.fieldLink RX7 22 "ColdShips$Tank" "rests" "[J") wa_109) (fun _ h9 => h9) rfl dX7_giveByRests_62 ?_
        refine lv_iload_n hx hb dX7_giveByRests_65 rfl (lv_at hl 1 rfl) ?_
        refine lv_ldc2 (own := RX7) (v := (-1)) hx hb hown (hts (.constantLong RX7 80 (-1)) wa_428) dX7_giveByRests_66 ?_
        refine tpk_21 hT y14 y14n (fun g29 hf_o28 => ?_)
        refine tpk_pos (tp_in hG y14 (by decide)) hf_o28 (fun q30 eq30 => ?_)
        refine va_last hx hb hK hP hD hS q30 1 eq30 rfl (vp_in_iff.mpr ⟨by omega, by omega⟩) dX7_giveByRests_69 (tp_k (.inl (κ 1, 6, .inr (.inl (vp_updL g29 w8.toNatClampNeg ((-1) : Int64))))) hD (tp_in hG y14 (by decide)) eq30 (fun f31 H locs hP hD hS g33 k32 => ?_))
        have hT := hT.up y14 g33 k32 (tp_o21 y14n)
        have hR := hR.up y14 (by decide) k32
        generalize (vp_updL g29 w8.toNatClampNeg ((-1) : Int64)) = g34 at g33
        obtain ⟨z35, ez35⟩ : ∃ y : Int32, y = w1 + 1 := ⟨_, rfl⟩
        refine lv_iinc (v := z35) (lv' := [(2, .int z35), (4, .int w7), (3, .int w8), (0, .ref h0), (1, .int v)]) hx hb dX7_giveByRests_70 hl (k := 2) rfl (by rw [ez35]; rfl) (by decide) rfl (fun ls hl => ?_)
        have iz35 : z35.toInt = w1.toInt + 1 := zi_add ez35 rfl rfl (by omega) (by omega)
        refine lv_goto (tgt := 2) hx hb dX7_giveByRests_73 (by decide) ?_
        exact ih3 _ _ _ _ (by rw [hn4]; omega) ⟨f31, z35, rfl, hT, hR, (by omega), hP, hD, hS, lv_sub hl [0, 3, 4] rfl⟩
      · have ic11 : w7.toInt < 6 := zi_gef rfl rfl c11
        refine lv_aload_n hx hb dX7_giveByRests_25 rfl (lv_at hl 3 rfl) ?_
        refine tgk_8 hG ht_h0 (fun y36 y36n y37 y37n y38 y38n => ?_)
        refine tpk_8 hT ht_h0 (fun o39_x0 o39_x1 o39_x2 o39_x3 hf_o39 ro39_0 => ?_)
        refine tpk_pos (tp_in hG ht_h0 (by decide)) hf_o39 (fun q40 eq40 => ?_)
        refine va_get (D := (dC, dI)) (ci := 7) (v := .ref (ρ h0 6)) (C := RX7) (T := TX7) (N := 7) hx hb hts hfX7 hown hK hP q40 eq40 rfl 6 (by decide) (hts (.fieldLink RX7 22 "ColdShips$Tank" "rests" "[J") wa_109) (fun _ h9 => h9) rfl dX7_giveByRests_26 ?_
        refine lv_iload hx hb dX7_giveByRests_29 (lv_at hl 0 rfl) ?_
        refine tpk_21 hT y38 y38n (fun g42 hf_o41 => ?_)
        refine tpk_pos (tp_in hG y38 (by decide)) hf_o41 (fun q43 eq43 => ?_)
        refine va_lald hx hb hK hP q43 1 eq43 rfl (vp_in_iff.mpr ⟨by omega, by omega⟩) dX7_giveByRests_31 ?_
        refine lv_topl (fun z44 ez44 => ?_)
        refine lv_aload_n hx hb dX7_giveByRests_32 rfl (lv_at hl 3 rfl) ?_
        refine va_get (D := (dC, dI)) (ci := 7) (v := .ref (ρ h0 6)) (C := RX7) (T := TX7) (N := 7) hx hb hts hfX7 hown hK hP q40 eq40 rfl 6 (by decide) (hts (.fieldLink RX7 22 "ColdShips$Tank" "rests" "[J") wa_109) (fun _ h9 => h9) rfl dX7_giveByRests_33 ?_
        refine lv_iload_n hx hb dX7_giveByRests_36 rfl (lv_at hl 1 rfl) ?_
        refine va_lald hx hb hK hP q43 1 eq43 rfl (vp_in_iff.mpr ⟨by omega, by omega⟩) dX7_giveByRests_37 ?_
        refine lv_topl (fun z45 ez45 => ?_)
        refine W.lcmp hx hb dX7_giveByRests_38 ?_
        refine lv_if_le (tgt := 45) hx hb dX7_giveByRests_39 (by decide) (fun c46 => ?_) (fun c46 => ?_)
        · have ic46 : z44.toInt ≤ z45.toInt := zl_le rfl rfl c46
          obtain ⟨z47, ez47⟩ : ∃ y : Int32, y = w7 + 1 := ⟨_, rfl⟩
          refine lv_iinc (v := z47) (lv' := [(4, .int z47), (3, .int w8), (2, .int w1), (0, .ref h0), (1, .int v)]) hx hb dX7_giveByRests_45 hl (k := 0) rfl (by rw [ez47]; rfl) (by decide) rfl (fun ls hl => ?_)
          have iz47 : z47.toInt = w7.toInt + 1 := zi_add ez47 rfl rfl (by omega) (by omega)
          refine lv_goto (tgt := 18) hx hb dX7_giveByRests_48 (by decide) ?_
          exact ih9 _ _ _ _ (by rw [hn10]; omega) ⟨z47, w8, rfl, (by omega), (by omega), hP, hD, hS, lv_sub hl [0, 1, 2, 3, 4] rfl⟩
        · have ic46 : z44.toInt > z45.toInt := zl_lef rfl rfl c46
          refine lv_iload hx hb dX7_giveByRests_42 (lv_at hl 0 rfl) ?_
          refine lv_istore_n (lv' := [(3, .int w7), (4, .int w7), (2, .int w1), (0, .ref h0), (1, .int v)]) hx hb dX7_giveByRests_44 rfl hl (by decide) rfl (fun ls hl => ?_)
          obtain ⟨z48, ez48⟩ : ∃ y : Int32, y = w7 + 1 := ⟨_, rfl⟩
          refine lv_iinc (v := z48) (lv' := [(4, .int z48), (3, .int w7), (2, .int w1), (0, .ref h0), (1, .int v)]) hx hb dX7_giveByRests_45 hl (k := 1) rfl (by rw [ez48]; rfl) (by decide) rfl (fun ls hl => ?_)
          have iz48 : z48.toInt = w7.toInt + 1 := zi_add ez48 rfl rfl (by omega) (by omega)
          refine lv_goto (tgt := 18) hx hb dX7_giveByRests_48 (by decide) ?_
          exact ih9 _ _ _ _ (by rw [hn10]; omega) ⟨z48, w7, rfl, (by omega), (by omega), hP, hD, hS, lv_sub hl [0, 1, 2, 3, 4] rfl⟩
set_option maxHeartbeats 4000000 in
set_option maxRecDepth 100000 in
theorem t_X7_takeGas (l : Launch) (dC : Nat → ClassId) (dI : Nat → Nat → Nat) (sz : Nat) (Ω : Nat → (Nat → Nat) → va_E → Prop) (κ : Nat → ClassId) (τ ν : Nat → Nat) (ρ : Nat → Nat → Nat) (L : List Nat) (f : Nat → va_E) (hG : tp_G τ ν ρ L) (hT : tp_T Ω κ τ ν ρ f) (h0 : Nat) (v : Int32) (ht_h0 : τ h0 = 8) : Met l yX7_takeGas wqX7_takeGas ({ frames := 3, cells := 0, slots := 0, locals := 800 }) (va_Pc [.ref h0, .int v] (pz_B dC dI (tp_K κ) (va_pl L f) sz)) (va_Qv (fun (f1 : Nat → va_E) => tp_T Ω κ τ ν ρ f1 ∧ tp_F τ [8, 20, 21] f f1 ∧ True) (fun (f1 : Nat → va_E) (t : State) => pz_E dC dI (tp_K κ) (va_A (va_pl L f) sz) (va_pl L f1) t) (va_A (va_pl L f) sz)) 0 0 (va_A (va_pl L f) sz) := by
  refine Met.ofW (cc := cX7_takeGas) (maxL := 6) (ret := none) (by decide) rfl ?_
  intro p e s m args below meth c s₁ B hml hv
  obtain ⟨rfl, hsz, hP, hK, hD0, hN⟩ := hv
  have hx := B.exec
  have hb := B.bytes
  have hr := B.returns
  have hts := fun (w : Cond) (h : w ∈ WALL) => atoms_spec (ws := wqX7_takeGas) B.pre w (List.mem_cons_of_mem _ h)
  have hown : s.vm.findClass RX7 = some m.cls := findClass_of_methodNamed B.named
  have hlocks := B.notSynchronized
  subst hsz
  have hD := hD0.self (sz := s.heap.size)
  generalize hAe : va_A (va_pl L f) s.heap.size = A at hD ⊢
  have hA : ∀ q : Nat, s.heap.size ≤ q → A q := fun q h => by rw [← hAe]; exact Or.inr h
  have hS : va_S A s.heap s.heap [] := va_S.rf
  have hR : tp_F τ [8, 20, 21] f f := tp_F.rf
  have hl := lv_entry ([.ref h0, .int v]) (n := 6) (Nat.le_of_ble_eq_true rfl)
  rw [lg_entry_eq]
  generalize (lg_sl ([.ref h0, .int v]) ++ List.replicate (6 - (lg_sl ([.ref h0, .int v])).length) Slot.unset).toArray = ls at hl ⊢
  have hl : lv_has ls 6 [(0, .ref h0), (1, .int v)] := hl
  refine lv_iload_n hx hb dX7_takeGas_0 rfl (lv_at hl 1 rfl) ?_
  refine lv_if_le (tgt := 12) hx hb dX7_takeGas_1 (by decide) (fun c1 => ?_) (fun c1 => ?_)
  · have ic1 : v.toInt ≤ 0 := zi_le rfl rfl c1
    exact W.vret hx hb hr (fun t ht hW => ⟨⟨f, rfl, ⟨hT, hR, trivial⟩, by rw [ht]; exact hP, va_K.moved hW.alike hK, hD⟩, hS.F ht⟩) hS.2.2 dX7_takeGas_12
  · have ic1 : v.toInt > 0 := zi_lef rfl rfl c1
    refine lv_iload_n hx hb dX7_takeGas_4 rfl (lv_at hl 1 rfl) ?_
    refine lv_aload_n hx hb dX7_takeGas_5 rfl (lv_at hl 0 rfl) ?_
    refine tgk_8 hG ht_h0 (fun y2 y2n y3 y3n y4 y4n => ?_)
    refine tpk_8 hT ht_h0 (fun o5_x0 o5_x1 o5_x2 o5_x3 hf_o5 ro5_0 => ?_)
    refine tpk_pos (tp_in hG ht_h0 (by decide)) hf_o5 (fun q6 eq6 => ?_)
    refine va_get (D := (dC, dI)) (ci := 7) (v := .int o5_x1) (C := RX7) (T := TX7) (N := 7) hx hb hts hfX7 hown hK hP q6 eq6 rfl 1 (by decide) (hts (.fieldLink RX7 32 "ColdShips$Tank" "gas" "I") wa_254) (fun _ h9 => h9) rfl dX7_takeGas_6 ?_
    refine lv_icmp_le (tgt := 13) hx hb dX7_takeGas_9 (by decide) (fun c7 => ?_) (fun c7 => ?_)
    · have ic7 : v.toInt ≤ o5_x1.toInt := zi_le rfl rfl c7
      refine lv_iload_n hx hb dX7_takeGas_13 rfl (lv_at hl 1 rfl) ?_
      refine lv_istore_n (lv' := [(2, .int v), (0, .ref h0), (1, .int v)]) hx hb dX7_takeGas_14 rfl hl (by decide) rfl (fun ls hl => ?_)
      refine lv_iconst (v := 0) hx hb dX7_takeGas_15 (by decide) ?_
      refine lv_istore_n (lv' := [(3, .int 0), (2, .int v), (0, .ref h0), (1, .int v)]) hx hb dX7_takeGas_16 rfl hl (by decide) rfl (fun ls hl => ?_)
      refine pz_loop (fun n0 H locs ls => ∃ f11 : Nat → va_E, ∃ w8 : Int32, ∃ w9 : Int32, n0 = (6 - (w8.toInt)).toNat ∧ tp_T Ω κ τ ν ρ f11 ∧ tp_F τ [8, 20, 21] f f11 ∧ f11 h0 = .inr (7, [.int o5_x0, .int o5_x1, .int o5_x2, .int o5_x3, .ref (ρ h0 4), .ref (ρ h0 5), .ref (ρ h0 6)]) ∧ (0 ≤ w8.toInt ∧ w8.toInt ≤ 6) ∧ va_P (dC, dI) vwCl (va_pl L f11) H ∧ va_D A (va_pl L f11) ∧ va_S A s.heap H locs ∧ lv_has ls 6 [(3, .int w8), (2, .int w9), (0, .ref h0), (1, .int v)]) ?_ _ _ _ _ ⟨f, 0, v, rfl, hT, hR, hf_o5, (by have : (0 : Int32).toInt = 0 := rfl; omega), hP, hD, hS, lv_sub hl [0, 1, 2, 3] rfl⟩
      intro n0 H locs ls hI ih12
      refine Exists.elim hI (fun f11 hE90 => Exists.elim hE90 (fun w8 hE91 => Exists.elim hE91 (fun w9 hE92 => tn_9 hE92 (fun hn13 hT hR hk10k rw8 hP hD hS hl => ?_))))
      clear hE92 hE91 hE90 hI
      refine lv_iload_n hx hb dX7_takeGas_17 rfl (lv_at hl 0 rfl) ?_
      refine lv_bipush (v := 6) hx hb dX7_takeGas_18 (by decide) ?_
      refine lv_icmp_ge (tgt := 79) hx hb dX7_takeGas_20 (by decide) (fun c14 => ?_) (fun c14 => ?_)
      · have ic14 : w8.toInt ≥ 6 := zi_ge rfl rfl c14
        refine lv_aload_n hx hb dX7_takeGas_79 rfl (lv_at hl 2 rfl) ?_
        refine lv_iload_n hx hb dX7_takeGas_80 rfl (lv_at hl 1 rfl) ?_
        refine tpk_pos (tp_in hG ht_h0 (by decide)) hk10k (fun q15 eq15 => ?_)
        have hFc := tp_fr hD hS hA
        refine va_callv (va_runV (As := [.int w9]) (rest := []) ⟨hx, hb, hml, hown, hts⟩ (t_X7_giveByRests l dC dI _ Ω κ τ ν ρ L f11 hG hT h0 w9 ht_h0) (cwV 1 hts gX7_takeGas_X7_giveByRests rfl rfl rfl ⟨rfl, pd_X7_giveByRests⟩ ⟨Nat.le_of_ble_eq_true rfl, Nat.le_of_ble_eq_true rfl⟩) ⟨pz_blind, va_recv hK hP (ci := 7) (q0 := q15) rfl eq15, pz_pre hP hK hD hN⟩ rfl rfl hl.1 rfl (lv_room (Nat.le_of_ble_eq_true rfl)) dX7_takeGas_81 ⟨Nat.le_of_ble_eq_true rfl, Nat.le_of_ble_eq_true rfl⟩) hS (fun q _ h => hFc q h) hFc (fun f18 t H1 locs ht hvm hw17 hB hz1 hk1 hS => ?_)
        refine tn_3 hw17 (fun hT hF19 hw17p => ?_); clear hw17
        have hR := hR.then hF19 (by decide)
        have hP := hB.1; rw [ht] at hP; have hD := tp_ad f18 hD; clear hB hFc hz1 hk1; subst ht; generalize t.heap = H at hP hS ⊢
        refine lv_iconst (v := 0) hx hb dX7_takeGas_84 (by decide) ?_
        refine lv_istore_n (lv' := [(3, .int 0), (2, .int w9), (0, .ref h0), (1, .int v)]) hx hb dX7_takeGas_85 rfl hl (by decide) rfl (fun ls hl => ?_)
        refine pz_loop (fun n0 H locs ls => ∃ f21 : Nat → va_E, ∃ w20 : Int32, n0 = (6 - (w20.toInt)).toNat ∧ tp_T Ω κ τ ν ρ f21 ∧ tp_F τ [8, 20, 21] f f21 ∧ (0 ≤ w20.toInt ∧ w20.toInt ≤ 6) ∧ va_P (dC, dI) vwCl (va_pl L f21) H ∧ va_D A (va_pl L f21) ∧ va_S A s.heap H locs ∧ lv_has ls 6 [(3, .int w20), (2, .int w9), (0, .ref h0), (1, .int v)]) ?_ _ _ _ _ ⟨f18, 0, rfl, hT, hR, (by have : (0 : Int32).toInt = 0 := rfl; omega), hP, hD, hS, lv_sub hl [0, 1, 2, 3] rfl⟩
        intro n0 H locs ls hI ih22
        refine Exists.elim hI (fun f21 hE90 => Exists.elim hE90 (fun w20 hE91 => tn_8 hE91 (fun hn23 hT hR rw20 hP hD hS hl => ?_)))
        clear hE91 hE90 hI
        refine lv_iload_n hx hb dX7_takeGas_86 rfl (lv_at hl 0 rfl) ?_
        refine lv_bipush (v := 6) hx hb dX7_takeGas_87 (by decide) ?_
        refine lv_icmp_ge (tgt := 113) hx hb dX7_takeGas_89 (by decide) (fun c24 => ?_) (fun c24 => ?_)
        · have ic24 : w20.toInt ≥ 6 := zi_ge rfl rfl c24
          refine lv_aload_n hx hb dX7_takeGas_113 rfl (lv_at hl 2 rfl) ?_
          refine lv_dup hx hb dX7_takeGas_114 rfl ?_
          refine tpk_8 hT ht_h0 (fun o25_x0 o25_x1 o25_x2 o25_x3 hf_o25 ro25_0 => ?_)
          refine tpk_pos (tp_in hG ht_h0 (by decide)) hf_o25 (fun q26 eq26 => ?_)
          refine va_get (D := (dC, dI)) (ci := 7) (v := .int o25_x1) (C := RX7) (T := TX7) (N := 7) hx hb hts hfX7 hown hK hP q26 eq26 rfl 1 (by decide) (hts (.fieldLink RX7 32 "ColdShips$Tank" "gas" "I") wa_254) (fun _ h9 => h9) rfl dX7_takeGas_115 ?_
          refine lv_iload_n hx hb dX7_takeGas_118 rfl (lv_at hl 3 rfl) ?_
          refine lv_isub hx hb dX7_takeGas_119 ?_
          refine lv_topi (fun z27 ez27 => ?_)
          refine va_put (D := (dC, dI)) (ci := 7) (v := .int z27) (ty := .int) (C := RX7) (T := TX7) (N := 7) hx hb hts hfX7 tyX7 tyX7_ok nmX7 hown hK hP hD hS q26 eq26 rfl 1 (by decide) (hts (.fieldLink RX7 32 "ColdShips$Tank" "gas" "I") wa_254) (fun _ h9 => h9) rfl (tyX7_ok 1 (by decide)) rfl rfl (Nat.le_of_ble_eq_true rfl) dX7_takeGas_120 (tp_k (.inr (7, [.int o25_x0, .int z27, .int o25_x2, .int o25_x3, .ref (ρ h0 4), .ref (ρ h0 5), .ref (ρ h0 6)])) hD (tp_in hG ht_h0 (by decide)) eq26 (fun f28 H locs hP hD hS g30 k29 => ?_))
          have hT := hT.up ht_h0 g30 k29 ⟨_, _, _, _, rfl, (by first | decide | omega | (omega))⟩
          have hR := hR.up ht_h0 (by decide) k29
          exact W.vret hx hb hr (fun t ht hW => ⟨⟨f28, rfl, ⟨hT, hR, trivial⟩, by rw [ht]; exact hP, va_K.moved hW.alike hK, hD⟩, hS.F ht⟩) hS.2.2 dX7_takeGas_123
        · have ic24 : w20.toInt < 6 := zi_gef rfl rfl c24
          refine lv_aload_n hx hb dX7_takeGas_92 rfl (lv_at hl 2 rfl) ?_
          refine tpk_8 hT ht_h0 (fun o31_x0 o31_x1 o31_x2 o31_x3 hf_o31 ro31_0 => ?_)
          refine tpk_pos (tp_in hG ht_h0 (by decide)) hf_o31 (fun q32 eq32 => ?_)
          refine va_get (D := (dC, dI)) (ci := 7) (v := .ref (ρ h0 4)) (C := RX7) (T := TX7) (N := 7) hx hb hts hfX7 hown hK hP q32 eq32 rfl 4 (by decide) (hts (.fieldLink RX7 15 "ColdShips$Tank" "parts" "[I") wa_107) (fun _ h9 => h9) rfl dX7_takeGas_93 ?_
          refine lv_iload_n hx hb dX7_takeGas_96 rfl (lv_at hl 0 rfl) ?_
          refine lv_dup2_11 hx hb dX7_takeGas_97 rfl rfl ?_
          refine tpk_20 hT y2 y2n (fun g34 hf_o33 => ?_)
          refine tpk_pos (tp_in hG y2 (by decide)) hf_o33 (fun q35 eq35 => ?_)
          refine va_iald hx hb hK hP q35 0 eq35 rfl (vp_in_iff.mpr ⟨by omega, by omega⟩) dX7_takeGas_98 ?_
          refine lv_topi (fun z36 ez36 => ?_)
          refine lv_aload_n hx hb dX7_takeGas_99 rfl (lv_at hl 2 rfl) ?_
          refine va_get (D := (dC, dI)) (ci := 7) (v := .ref (ρ h0 5)) (C := RX7) (T := TX7) (N := 7) hx hb hts hfX7 hown hK hP q32 eq32 rfl 5 (by decide) (hts (.fieldLink RX7 19 "ColdShips$Tank" "given" "[I") wa_108) (fun _ h9 => h9) rfl dX7_takeGas_100 ?_
          refine lv_iload_n hx hb dX7_takeGas_103 rfl (lv_at hl 0 rfl) ?_
          refine tpk_20 hT y3 y3n (fun g38 hf_o37 => ?_)
          refine tpk_pos (tp_in hG y3 (by decide)) hf_o37 (fun q39 eq39 => ?_)
          refine va_iald hx hb hK hP q39 0 eq39 rfl (vp_in_iff.mpr ⟨by omega, by omega⟩) dX7_takeGas_104 ?_
          refine lv_topi (fun z40 ez40 => ?_)
          refine lv_isub hx hb dX7_takeGas_105 ?_
          refine lv_topi (fun z41 ez41 => ?_)
          refine va_iast hx hb hK hP hD hS q35 0 eq35 rfl (vp_in_iff.mpr ⟨by omega, by omega⟩) dX7_takeGas_106 (tp_k (.inl (κ 0, 6, .inl (upd g34 w20.toNatClampNeg z41))) hD (tp_in hG y2 (by decide)) eq35 (fun f42 H locs hP hD hS g44 k43 => ?_))
          have hT := hT.up y2 g44 k43 (tp_o20 y2n)
          have hR := hR.up y2 (by decide) k43
          generalize (upd g34 w20.toNatClampNeg z41) = g45 at g44
          obtain ⟨z46, ez46⟩ : ∃ y : Int32, y = w20 + 1 := ⟨_, rfl⟩
          refine lv_iinc (v := z46) (lv' := [(3, .int z46), (2, .int w9), (0, .ref h0), (1, .int v)]) hx hb dX7_takeGas_107 hl (k := 0) rfl (by rw [ez46]; rfl) (by decide) rfl (fun ls hl => ?_)
          have iz46 : z46.toInt = w20.toInt + 1 := zi_add ez46 rfl rfl (by omega) (by omega)
          refine lv_goto (tgt := 86) hx hb dX7_takeGas_110 (by decide) ?_
          exact ih22 _ _ _ _ (by rw [hn23]; omega) ⟨f42, z46, rfl, hT, hR, (by omega), hP, hD, hS, lv_sub hl [0, 1, 2, 3] rfl⟩
      · have ic14 : w8.toInt < 6 := zi_gef rfl rfl c14
        refine lv_iload_n hx hb dX7_takeGas_23 rfl (lv_at hl 3 rfl) ?_
        refine lv_i2l hx hb dX7_takeGas_24 rfl ?_
        refine lv_aload_n hx hb dX7_takeGas_25 rfl (lv_at hl 2 rfl) ?_
        refine tpk_pos (tp_in hG ht_h0 (by decide)) hk10k (fun q47 eq47 => ?_)
        refine va_get (D := (dC, dI)) (ci := 7) (v := .ref (ρ h0 4)) (C := RX7) (T := TX7) (N := 7) hx hb hts hfX7 hown hK hP q47 eq47 rfl 4 (by decide) (hts (.fieldLink RX7 15 "ColdShips$Tank" "parts" "[I") wa_107) (fun _ h9 => h9) rfl dX7_takeGas_26 ?_
        refine lv_iload_n hx hb dX7_takeGas_29 rfl (lv_at hl 0 rfl) ?_
        refine tpk_20 hT y2 y2n (fun g49 hf_o48 => ?_)
        refine tpk_pos (tp_in hG y2 (by decide)) hf_o48 (fun q50 eq50 => ?_)
        refine va_iald hx hb hK hP q50 0 eq50 rfl (vp_in_iff.mpr ⟨by omega, by omega⟩) dX7_takeGas_30 ?_
        refine lv_topi (fun z51 ez51 => ?_)
        refine lv_i2l hx hb dX7_takeGas_31 rfl ?_
        refine lv_lmul hx hb dX7_takeGas_32 ?_
        refine lv_topl (fun z52 ez52 => ?_)
        refine lv_lstore (lv' := [(4, .long z52), (3, .int w8), (2, .int w9), (0, .ref h0), (1, .int v)]) hx hb dX7_takeGas_33 hl (by decide) rfl (fun ls hl => ?_)
        refine lv_aload_n hx hb dX7_takeGas_35 rfl (lv_at hl 3 rfl) ?_
        refine va_get (D := (dC, dI)) (ci := 7) (v := .ref (ρ h0 5)) (C := RX7) (T := TX7) (N := 7) hx hb hts hfX7 hown hK hP q47 eq47 rfl 5 (by decide) (hts (.fieldLink RX7 19 "ColdShips$Tank" "given" "[I") wa_108) (fun _ h9 => h9) rfl dX7_takeGas_36 ?_
        refine lv_iload_n hx hb dX7_takeGas_39 rfl (lv_at hl 1 rfl) ?_
        refine lv_lload hx hb dX7_takeGas_40 (lv_at hl 0 rfl) ?_
        refine lv_aload_n hx hb dX7_takeGas_42 rfl (lv_at hl 3 rfl) ?_
        refine va_get (D := (dC, dI)) (ci := 7) (v := .int o5_x1) (C := RX7) (T := TX7) (N := 7) hx hb hts hfX7 hown hK hP q47 eq47 rfl 1 (by decide) (hts (.fieldLink RX7 32 "ColdShips$Tank" "gas" "I") wa_254) (fun _ h9 => h9) rfl dX7_takeGas_43 ?_
        refine lv_i2l hx hb dX7_takeGas_46 rfl ?_
        refine lv_ldiv hx hb dX7_takeGas_47 (zl_nz (by omega) (Int32.toInt_toInt64 o5_x1)) ?_
        refine lv_topl (fun z53 ez53 => ?_)
        refine lv_l2i hx hb dX7_takeGas_48 rfl ?_
        refine lv_topi (fun z54 ez54 => ?_)
        refine tpk_20 hT y3 y3n (fun g56 hf_o55 => ?_)
        refine tpk_pos (tp_in hG y3 (by decide)) hf_o55 (fun q57 eq57 => ?_)
        refine va_iast hx hb hK hP hD hS q57 0 eq57 rfl (vp_in_iff.mpr ⟨by omega, by omega⟩) dX7_takeGas_49 (tp_k (.inl (κ 0, 6, .inl (upd g56 w8.toNatClampNeg z54))) hD (tp_in hG y3 (by decide)) eq57 (fun f58 H locs hP hD hS g60 k59 => ?_))
        have hT := hT.up y3 g60 k59 (tp_o20 y3n)
        have hR := hR.up y3 (by decide) k59
        generalize (upd g56 w8.toNatClampNeg z54) = g61 at g60
        refine lv_aload_n hx hb dX7_takeGas_50 rfl (lv_at hl 3 rfl) ?_
        have hf_62 : f58 h0 = .inr (7, [.int o5_x0, .int o5_x1, .int o5_x2, .int o5_x3, .ref (ρ h0 4), .ref (ρ h0 5), .ref (ρ h0 6)]) := (k59 _ (tp_ne ht_h0 y3 (by decide))).trans hk10k
        refine tpk_pos (tp_in hG ht_h0 (by decide)) hf_62 (fun q63 eq63 => ?_)
        refine va_get (D := (dC, dI)) (ci := 7) (v := .ref (ρ h0 6)) (C := RX7) (T := TX7) (N := 7) hx hb hts hfX7 hown hK hP q63 eq63 rfl 6 (by decide) (hts (.fieldLink RX7 22 "ColdShips$Tank" "rests" "[J") wa_109) (fun _ h9 => h9) rfl dX7_takeGas_51 ?_
        refine lv_iload_n hx hb dX7_takeGas_54 rfl (lv_at hl 1 rfl) ?_
        refine lv_lload hx hb dX7_takeGas_55 (lv_at hl 0 rfl) ?_
        refine lv_aload_n hx hb dX7_takeGas_57 rfl (lv_at hl 3 rfl) ?_
        refine va_get (D := (dC, dI)) (ci := 7) (v := .int o5_x1) (C := RX7) (T := TX7) (N := 7) hx hb hts hfX7 hown hK hP q63 eq63 rfl 1 (by decide) (hts (.fieldLink RX7 32 "ColdShips$Tank" "gas" "I") wa_254) (fun _ h9 => h9) rfl dX7_takeGas_58 ?_
        refine lv_i2l hx hb dX7_takeGas_61 rfl ?_
        refine lv_lrem hx hb dX7_takeGas_62 (zl_nz (by omega) (Int32.toInt_toInt64 o5_x1)) ?_
        refine lv_topl (fun z64 ez64 => ?_)
        refine tpk_21 hT y4 y4n (fun g66 hf_o65 => ?_)
        refine tpk_pos (tp_in hG y4 (by decide)) hf_o65 (fun q67 eq67 => ?_)
        refine va_last hx hb hK hP hD hS q67 1 eq67 rfl (vp_in_iff.mpr ⟨by omega, by omega⟩) dX7_takeGas_63 (tp_k (.inl (κ 1, 6, .inr (.inl (vp_updL g66 w8.toNatClampNeg z64)))) hD (tp_in hG y4 (by decide)) eq67 (fun f68 H locs hP hD hS g70 k69 => ?_))
        have hT := hT.up y4 g70 k69 (tp_o21 y4n)
        have hR := hR.up y4 (by decide) k69
        generalize (vp_updL g66 w8.toNatClampNeg z64) = g71 at g70
        refine lv_iload_n hx hb dX7_takeGas_64 rfl (lv_at hl 2 rfl) ?_
        refine lv_aload_n hx hb dX7_takeGas_65 rfl (lv_at hl 3 rfl) ?_
        have hf_72 : f68 h0 = .inr (7, [.int o5_x0, .int o5_x1, .int o5_x2, .int o5_x3, .ref (ρ h0 4), .ref (ρ h0 5), .ref (ρ h0 6)]) := (k69 _ (tp_ne ht_h0 y4 (by decide))).trans hf_62
        refine tpk_pos (tp_in hG ht_h0 (by decide)) hf_72 (fun q73 eq73 => ?_)
        refine va_get (D := (dC, dI)) (ci := 7) (v := .ref (ρ h0 5)) (C := RX7) (T := TX7) (N := 7) hx hb hts hfX7 hown hK hP q73 eq73 rfl 5 (by decide) (hts (.fieldLink RX7 19 "ColdShips$Tank" "given" "[I") wa_108) (fun _ h9 => h9) rfl dX7_takeGas_66 ?_
        refine lv_iload_n hx hb dX7_takeGas_69 rfl (lv_at hl 1 rfl) ?_
        have hf_74 : f68 (ρ h0 5) = .inl (κ 0, 6, .inl g61) := (k69 _ (tp_ne y3 y4 (by decide))).trans g60
        refine tpk_pos (tp_in hG y3 (by decide)) hf_74 (fun q75 eq75 => ?_)
        refine va_iald hx hb hK hP q75 0 eq75 rfl (vp_in_iff.mpr ⟨by omega, by omega⟩) dX7_takeGas_70 ?_
        refine lv_topi (fun z76 ez76 => ?_)
        refine lv_isub hx hb dX7_takeGas_71 ?_
        refine lv_topi (fun z77 ez77 => ?_)
        refine lv_istore_n (lv' := [(2, .int z77), (4, .long z52), (3, .int w8), (0, .ref h0), (1, .int v)]) hx hb dX7_takeGas_72 rfl hl (by decide) rfl (fun ls hl => ?_)
        obtain ⟨z78, ez78⟩ : ∃ y : Int32, y = w8 + 1 := ⟨_, rfl⟩
        refine lv_iinc (v := z78) (lv' := [(3, .int z78), (2, .int z77), (4, .long z52), (0, .ref h0), (1, .int v)]) hx hb dX7_takeGas_73 hl (k := 2) rfl (by rw [ez78]; rfl) (by decide) rfl (fun ls hl => ?_)
        have iz78 : z78.toInt = w8.toInt + 1 := zi_add ez78 rfl rfl (by omega) (by omega)
        refine lv_goto (tgt := 17) hx hb dX7_takeGas_76 (by decide) ?_
        exact ih12 _ _ _ _ (by rw [hn13]; omega) ⟨f68, z78, z77, rfl, hT, hR, hf_72, (by omega), hP, hD, hS, lv_sub hl [0, 1, 3, 4] rfl⟩
    · have ic7 : v.toInt > o5_x1.toInt := zi_lef rfl rfl c7
      exact W.vret hx hb hr (fun t ht hW => ⟨⟨f, rfl, ⟨hT, hR, trivial⟩, by rw [ht]; exact hP, va_K.moved hW.alike hK, hD⟩, hS.F ht⟩) hS.2.2 dX7_takeGas_12
set_option maxHeartbeats 4000000 in
set_option maxRecDepth 100000 in
theorem t_X7_evaporate (l : Launch) (dC : Nat → ClassId) (dI : Nat → Nat → Nat) (sz : Nat) (Ω : Nat → (Nat → Nat) → va_E → Prop) (κ : Nat → ClassId) (τ ν : Nat → Nat) (ρ : Nat → Nat → Nat) (L : List Nat) (f : Nat → va_E) (hG : tp_G τ ν ρ L) (hT : tp_T Ω κ τ ν ρ f) (h0 : Nat) (v : Int32) (ht_h0 : τ h0 = 8) : Met l yX7_evaporate wqX7_evaporate ({ frames := 4, cells := 0, slots := 0, locals := 1200 }) (va_Pc [.ref h0, .int v] (pz_B dC dI (tp_K κ) (va_pl L f) sz)) (va_Qv (fun (f1 : Nat → va_E) => tp_T Ω κ τ ν ρ f1 ∧ tp_F τ [8, 20, 21] f f1 ∧ True) (fun (f1 : Nat → va_E) (t : State) => pz_E dC dI (tp_K κ) (va_A (va_pl L f) sz) (va_pl L f1) t) (va_A (va_pl L f) sz)) 0 0 (va_A (va_pl L f) sz) := by
  refine Met.ofW (cc := cX7_evaporate) (maxL := 2) (ret := none) (by decide) rfl ?_
  intro p e s m args below meth c s₁ B hml hv
  obtain ⟨rfl, hsz, hP, hK, hD0, hN⟩ := hv
  have hx := B.exec
  have hb := B.bytes
  have hr := B.returns
  have hts := fun (w : Cond) (h : w ∈ WALL) => atoms_spec (ws := wqX7_evaporate) B.pre w (List.mem_cons_of_mem _ h)
  have hown : s.vm.findClass RX7 = some m.cls := findClass_of_methodNamed B.named
  have hlocks := B.notSynchronized
  subst hsz
  have hD := hD0.self (sz := s.heap.size)
  generalize hAe : va_A (va_pl L f) s.heap.size = A at hD ⊢
  have hA : ∀ q : Nat, s.heap.size ≤ q → A q := fun q h => by rw [← hAe]; exact Or.inr h
  have hS : va_S A s.heap s.heap [] := va_S.rf
  have hR : tp_F τ [8, 20, 21] f f := tp_F.rf
  have hl := lv_entry ([.ref h0, .int v]) (n := 2) (Nat.le_of_ble_eq_true rfl)
  rw [lg_entry_eq]
  generalize (lg_sl ([.ref h0, .int v]) ++ List.replicate (2 - (lg_sl ([.ref h0, .int v])).length) Slot.unset).toArray = ls at hl ⊢
  have hl : lv_has ls 2 [(0, .ref h0), (1, .int v)] := hl
  refine lv_aload_n hx hb dX7_evaporate_0 rfl (lv_at hl 0 rfl) ?_
  refine lv_iload_n hx hb dX7_evaporate_1 rfl (lv_at hl 1 rfl) ?_
  refine tgk_8 hG ht_h0 (fun y1 y1n y2 y2n y3 y3n => ?_)
  refine tpk_8 hT ht_h0 (fun o4_x0 o4_x1 o4_x2 o4_x3 hf_o4 ro4_0 => ?_)
  refine tpk_pos (tp_in hG ht_h0 (by decide)) hf_o4 (fun q5 eq5 => ?_)
  have hFc := tp_fr hD hS hA
  refine va_callv (va_runV (As := [.int v]) (rest := []) ⟨hx, hb, hml, hown, hts⟩ (t_X7_takeGas l dC dI _ Ω κ τ ν ρ L f hG hT h0 v ht_h0) (cwV 1 hts gX7_evaporate_X7_takeGas rfl rfl rfl ⟨rfl, pd_X7_takeGas⟩ ⟨Nat.le_of_ble_eq_true rfl, Nat.le_of_ble_eq_true rfl⟩) ⟨pz_blind, va_recv hK hP (ci := 7) (q0 := q5) rfl eq5, pz_pre hP hK hD hN⟩ rfl rfl hl.1 rfl (lv_room (Nat.le_of_ble_eq_true rfl)) dX7_evaporate_2 ⟨Nat.le_of_ble_eq_true rfl, Nat.le_of_ble_eq_true rfl⟩) hS (fun q _ h => hFc q h) hFc (fun f8 t H1 locs ht hvm hw7 hB hz1 hk1 hS => ?_)
  refine tn_3 hw7 (fun hT hF9 hw7p => ?_); clear hw7
  have hR := hR.then hF9 (by decide)
  have hP := hB.1; rw [ht] at hP; have hD := tp_ad f8 hD; clear hB hFc hz1 hk1; subst ht; generalize t.heap = H at hP hS ⊢
  refine lv_aload_n hx hb dX7_evaporate_5 rfl (lv_at hl 0 rfl) ?_
  refine lv_dup hx hb dX7_evaporate_6 rfl ?_
  refine tpk_8 hT ht_h0 (fun o10_x0 o10_x1 o10_x2 o10_x3 hf_o10 ro10_0 => ?_)
  refine tpk_pos (tp_in hG ht_h0 (by decide)) hf_o10 (fun q11 eq11 => ?_)
  refine va_get (D := (dC, dI)) (ci := 7) (v := .int o10_x2) (C := RX7) (T := TX7) (N := 7) hx hb hts hfX7 hown hK hP q11 eq11 rfl 2 (by decide) (hts (.fieldLink RX7 35 "ColdShips$Tank" "vapor" "I") wa_255) (fun _ h9 => h9) rfl dX7_evaporate_7 ?_
  refine lv_iload_n hx hb dX7_evaporate_10 rfl (lv_at hl 1 rfl) ?_
  refine lv_iadd hx hb dX7_evaporate_11 ?_
  refine lv_topi (fun z12 ez12 => ?_)
  refine va_put (D := (dC, dI)) (ci := 7) (v := .int z12) (ty := .int) (C := RX7) (T := TX7) (N := 7) hx hb hts hfX7 tyX7 tyX7_ok nmX7 hown hK hP hD hS q11 eq11 rfl 2 (by decide) (hts (.fieldLink RX7 35 "ColdShips$Tank" "vapor" "I") wa_255) (fun _ h9 => h9) rfl (tyX7_ok 2 (by decide)) rfl rfl (Nat.le_of_ble_eq_true rfl) dX7_evaporate_12 (tp_k (.inr (7, [.int o10_x0, .int o10_x1, .int z12, .int o10_x3, .ref (ρ h0 4), .ref (ρ h0 5), .ref (ρ h0 6)])) hD (tp_in hG ht_h0 (by decide)) eq11 (fun f13 H locs hP hD hS g15 k14 => ?_))
  have hT := hT.up ht_h0 g15 k14 ⟨_, _, _, _, rfl, (by first | decide | omega | (omega))⟩
  have hR := hR.up ht_h0 (by decide) k14
  exact W.vret hx hb hr (fun t ht hW => ⟨⟨f13, rfl, ⟨hT, hR, trivial⟩, by rw [ht]; exact hP, va_K.moved hW.alike hK, hD⟩, hS.F ht⟩) hS.2.2 dX7_evaporate_15
set_option maxHeartbeats 4000000 in
set_option maxRecDepth 100000 in
theorem t_X7_boil (l : Launch) (dC : Nat → ClassId) (dI : Nat → Nat → Nat) (sz : Nat) (Ω : Nat → (Nat → Nat) → va_E → Prop) (κ : Nat → ClassId) (τ ν : Nat → Nat) (ρ : Nat → Nat → Nat) (L : List Nat) (f : Nat → va_E) (hG : tp_G τ ν ρ L) (hT : tp_T Ω κ τ ν ρ f) (h0 : Nat) (v : Int32) (ht_h0 : τ h0 = 8) : Met l yX7_boil wqX7_boil ({ frames := 5, cells := 0, slots := 0, locals := 1600 }) (va_Pc [.ref h0, .int v] (pz_B dC dI (tp_K κ) (va_pl L f) sz)) (va_Qv (fun (f1 : Nat → va_E) => tp_T Ω κ τ ν ρ f1 ∧ tp_F τ [8, 20, 21] f f1 ∧ True) (fun (f1 : Nat → va_E) (t : State) => pz_E dC dI (tp_K κ) (va_A (va_pl L f) sz) (va_pl L f1) t) (va_A (va_pl L f) sz)) 0 0 (va_A (va_pl L f) sz) := by
  refine Met.ofW (cc := cX7_boil) (maxL := 2) (ret := none) (by decide) rfl ?_
  intro p e s m args below meth c s₁ B hml hv
  obtain ⟨rfl, hsz, hP, hK, hD0, hN⟩ := hv
  have hx := B.exec
  have hb := B.bytes
  have hr := B.returns
  have hts := fun (w : Cond) (h : w ∈ WALL) => atoms_spec (ws := wqX7_boil) B.pre w (List.mem_cons_of_mem _ h)
  have hown : s.vm.findClass RX7 = some m.cls := findClass_of_methodNamed B.named
  have hlocks := B.notSynchronized
  subst hsz
  have hD := hD0.self (sz := s.heap.size)
  generalize hAe : va_A (va_pl L f) s.heap.size = A at hD ⊢
  have hA : ∀ q : Nat, s.heap.size ≤ q → A q := fun q h => by rw [← hAe]; exact Or.inr h
  have hS : va_S A s.heap s.heap [] := va_S.rf
  have hR : tp_F τ [8, 20, 21] f f := tp_F.rf
  have hl := lv_entry ([.ref h0, .int v]) (n := 2) (Nat.le_of_ble_eq_true rfl)
  rw [lg_entry_eq]
  generalize (lg_sl ([.ref h0, .int v]) ++ List.replicate (2 - (lg_sl ([.ref h0, .int v])).length) Slot.unset).toArray = ls at hl ⊢
  have hl : lv_has ls 2 [(0, .ref h0), (1, .int v)] := hl
  refine lv_aload_n hx hb dX7_boil_0 rfl (lv_at hl 0 rfl) ?_
  refine lv_aload_n hx hb dX7_boil_1 rfl (lv_at hl 0 rfl) ?_
  refine tgk_8 hG ht_h0 (fun y1 y1n y2 y2n y3 y3n => ?_)
  refine tpk_8 hT ht_h0 (fun o4_x0 o4_x1 o4_x2 o4_x3 hf_o4 ro4_0 => ?_)
  refine tpk_pos (tp_in hG ht_h0 (by decide)) hf_o4 (fun q5 eq5 => ?_)
  refine va_get (D := (dC, dI)) (ci := 7) (v := .int o4_x1) (C := RX7) (T := TX7) (N := 7) hx hb hts hfX7 hown hK hP q5 eq5 rfl 1 (by decide) (hts (.fieldLink RX7 32 "ColdShips$Tank" "gas" "I") wa_254) (fun _ h9 => h9) rfl dX7_boil_2 ?_
  refine lv_i2l hx hb dX7_boil_5 rfl ?_
  refine lv_iload_n hx hb dX7_boil_6 rfl (lv_at hl 1 rfl) ?_
  refine lv_i2l hx hb dX7_boil_7 rfl ?_
  refine lv_lmul hx hb dX7_boil_8 ?_
  refine lv_topl (fun z6 ez6 => ?_)
  refine lv_ldc2 (own := RX7) (v := 100000) hx hb hown (hts (.constantLong RX7 53 (100000)) wa_415) dX7_boil_9 ?_
  refine lv_ldiv hx hb dX7_boil_12 (by decide) ?_
  refine lv_topl (fun z7 ez7 => ?_)
  refine lv_l2i hx hb dX7_boil_13 rfl ?_
  refine lv_topi (fun z8 ez8 => ?_)
  have hFc := tp_fr hD hS hA
  refine va_callv (va_runV (As := [.int z8]) (rest := []) ⟨hx, hb, hml, hown, hts⟩ (t_X7_evaporate l dC dI _ Ω κ τ ν ρ L f hG hT h0 z8 ht_h0) (cwV 1 hts gX7_boil_X7_evaporate rfl rfl rfl ⟨rfl, pd_X7_evaporate⟩ ⟨Nat.le_of_ble_eq_true rfl, Nat.le_of_ble_eq_true rfl⟩) ⟨pz_blind, va_recv hK hP (ci := 7) (q0 := q5) rfl eq5, pz_pre hP hK hD hN⟩ rfl rfl hl.1 rfl (lv_room (Nat.le_of_ble_eq_true rfl)) dX7_boil_14 ⟨Nat.le_of_ble_eq_true rfl, Nat.le_of_ble_eq_true rfl⟩) hS (fun q _ h => hFc q h) hFc (fun f11 t H1 locs ht hvm hw10 hB hz1 hk1 hS => ?_)
  refine tn_3 hw10 (fun hT hF12 hw10p => ?_); clear hw10
  have hR := hR.then hF12 (by decide)
  have hP := hB.1; rw [ht] at hP; have hD := tp_ad f11 hD; clear hB hFc hz1 hk1; subst ht; generalize t.heap = H at hP hS ⊢
  exact W.vret hx hb hr (fun t ht hW => ⟨⟨f11, rfl, ⟨hT, hR, trivial⟩, by rw [ht]; exact hP, va_K.moved hW.alike hK, hD⟩, hS.F ht⟩) hS.2.2 dX7_boil_17
set_option maxHeartbeats 4000000 in
set_option maxRecDepth 100000 in
theorem t_X7_warmOrCool (l : Launch) (dC : Nat → ClassId) (dI : Nat → Nat → Nat) (sz : Nat) (Ω : Nat → (Nat → Nat) → va_E → Prop) (κ : Nat → ClassId) (τ ν : Nat → Nat) (ρ : Nat → Nat → Nat) (L : List Nat) (f : Nat → va_E) (hG : tp_G τ ν ρ L) (hT : tp_T Ω κ τ ν ρ f) (h0 : Nat) (ht_h0 : τ h0 = 8) : Met l yX7_warmOrCool wqX7_warmOrCool ({ frames := 5, cells := 0, slots := 0, locals := 1600 }) (va_Pc [.ref h0] (pz_B dC dI (tp_K κ) (va_pl L f) sz)) (va_Qv (fun (f1 : Nat → va_E) => tp_T Ω κ τ ν ρ f1 ∧ tp_F τ [8, 20, 21] f f1 ∧ True) (fun (f1 : Nat → va_E) (t : State) => pz_E dC dI (tp_K κ) (va_A (va_pl L f) sz) (va_pl L f1) t) (va_A (va_pl L f) sz)) 0 0 (va_A (va_pl L f) sz) := by
  refine Met.ofW (cc := cX7_warmOrCool) (maxL := 2) (ret := none) (by decide) rfl ?_
  intro p e s m args below meth c s₁ B hml hv
  obtain ⟨rfl, hsz, hP, hK, hD0, hN⟩ := hv
  have hx := B.exec
  have hb := B.bytes
  have hr := B.returns
  have hts := fun (w : Cond) (h : w ∈ WALL) => atoms_spec (ws := wqX7_warmOrCool) B.pre w (List.mem_cons_of_mem _ h)
  have hown : s.vm.findClass RX7 = some m.cls := findClass_of_methodNamed B.named
  have hlocks := B.notSynchronized
  subst hsz
  have hD := hD0.self (sz := s.heap.size)
  generalize hAe : va_A (va_pl L f) s.heap.size = A at hD ⊢
  have hA : ∀ q : Nat, s.heap.size ≤ q → A q := fun q h => by rw [← hAe]; exact Or.inr h
  have hS : va_S A s.heap s.heap [] := va_S.rf
  have hR : tp_F τ [8, 20, 21] f f := tp_F.rf
  have hl := lv_entry ([.ref h0]) (n := 2) (Nat.le_of_ble_eq_true rfl)
  rw [lg_entry_eq]
  generalize (lg_sl ([.ref h0]) ++ List.replicate (2 - (lg_sl ([.ref h0])).length) Slot.unset).toArray = ls at hl ⊢
  have hl : lv_has ls 2 [(0, .ref h0)] := hl
  refine lv_aload_n hx hb dX7_warmOrCool_0 rfl (lv_at hl 0 rfl) ?_
  refine tgk_8 hG ht_h0 (fun y1 y1n y2 y2n y3 y3n => ?_)
  refine tpk_8 hT ht_h0 (fun o4_x0 o4_x1 o4_x2 o4_x3 hf_o4 ro4_0 => ?_)
  refine tpk_pos (tp_in hG ht_h0 (by decide)) hf_o4 (fun q5 eq5 => ?_)
  refine va_get (D := (dC, dI)) (ci := 7) (v := .int o4_x1) (C := RX7) (T := TX7) (N := 7) hx hb hts hfX7 hown hK hP q5 eq5 rfl 1 (by decide) (hts (.fieldLink RX7 32 "ColdShips$Tank" "gas" "I") wa_254) (fun _ h9 => h9) rfl dX7_warmOrCool_1 ?_
  refine lv_aload_n hx hb dX7_warmOrCool_4 rfl (lv_at hl 0 rfl) ?_
  refine pz_calli (va_runV (As := []) (rest := [.int o4_x1]) ⟨hx, hb, hml, hown, hts⟩ (t_X7_heel l dC dI _ Ω κ τ ν ρ L f hG hT h0 ht_h0) (cwV 0 hts gX7_warmOrCool_X7_heel rfl rfl rfl ⟨rfl, pd_X7_heel⟩ ⟨Nat.le_of_ble_eq_true rfl, Nat.le_of_ble_eq_true rfl⟩) ⟨pz_blind, va_recv hK hP (ci := 7) (q0 := q5) rfl eq5, pz_pre hP hK hD hN⟩ rfl rfl hl.1 rfl (lv_room (Nat.le_of_ble_eq_true rfl)) dX7_warmOrCool_5 ⟨Nat.le_of_ble_eq_true rfl, Nat.le_of_ble_eq_true rfl⟩) (fun r6 hw7 => ?_)
  obtain ⟨hw7r, hw7p⟩ := hw7
  refine lv_icmp_ge (tgt := 30) hx hb dX7_warmOrCool_8 (by decide) (fun c8 => ?_) (fun c8 => ?_)
  · have ic8 : o4_x1.toInt ≥ r6.toInt := zi_ge rfl rfl c8
    refine lv_aload_n hx hb dX7_warmOrCool_30 rfl (lv_at hl 0 rfl) ?_
    refine va_get (D := (dC, dI)) (ci := 7) (v := .int o4_x3) (C := RX7) (T := TX7) (N := 7) hx hb hts hfX7 hown hK hP q5 eq5 rfl 3 (by decide) (hts (.fieldLink RX7 38 "ColdShips$Tank" "warm" "I") wa_256) (fun _ h9 => h9) rfl dX7_warmOrCool_31 ?_
    refine lv_if_le (tgt := 82) hx hb dX7_warmOrCool_34 (by decide) (fun c9 => ?_) (fun c9 => ?_)
    · have ic9 : o4_x3.toInt ≤ 0 := zi_le rfl rfl c9
      exact W.vret hx hb hr (fun t ht hW => ⟨⟨f, rfl, ⟨hT, hR, trivial⟩, by rw [ht]; exact hP, va_K.moved hW.alike hK, hD⟩, hS.F ht⟩) hS.2.2 dX7_warmOrCool_82
    · have ic9 : o4_x3.toInt > 0 := zi_lef rfl rfl c9
      refine lv_bipush (v := 20) hx hb dX7_warmOrCool_37 (by decide) ?_
      refine lv_aload_n hx hb dX7_warmOrCool_39 rfl (lv_at hl 0 rfl) ?_
      refine va_get (D := (dC, dI)) (ci := 7) (v := .int o4_x3) (C := RX7) (T := TX7) (N := 7) hx hb hts hfX7 hown hK hP q5 eq5 rfl 3 (by decide) (hts (.fieldLink RX7 38 "ColdShips$Tank" "warm" "I") wa_256) (fun _ h9 => h9) rfl dX7_warmOrCool_40 ?_
      refine va_mmin hx hb (by rw [hml]; exact hl.1.symm) hown (hts (.methodLink RX7 62 Lib.Math.min.name) wa_433) (hts (.static Lib.Math.min.name) wa_434) (hts (.initialized "java/lang/Math") wa_71) (hts (.code Lib.Math.min.name Lib.Math.min.code 2 (some .int)) wa_435) (Nat.le_of_ble_eq_true rfl) (Nat.le_of_ble_eq_true rfl) (Nat.le_of_ble_eq_true rfl) (Nat.le_of_ble_eq_true rfl) dX7_warmOrCool_43 ?_
      refine lv_topi (fun z10 ez10 => ?_)
      have iz10 := zi_min ez10 (show (20 : Int32).toInt = 20 from rfl) (rfl : o4_x3.toInt = _)
      refine lv_istore_n (lv' := [(1, .int z10), (0, .ref h0)]) hx hb dX7_warmOrCool_46 rfl hl (by decide) rfl (fun ls hl => ?_)
      refine lv_aload_n hx hb dX7_warmOrCool_47 rfl (lv_at hl 1 rfl) ?_
      refine lv_dup hx hb dX7_warmOrCool_48 rfl ?_
      refine va_get (D := (dC, dI)) (ci := 7) (v := .int o4_x3) (C := RX7) (T := TX7) (N := 7) hx hb hts hfX7 hown hK hP q5 eq5 rfl 3 (by decide) (hts (.fieldLink RX7 38 "ColdShips$Tank" "warm" "I") wa_256) (fun _ h9 => h9) rfl dX7_warmOrCool_49 ?_
      refine lv_iload_n hx hb dX7_warmOrCool_52 rfl (lv_at hl 0 rfl) ?_
      refine lv_isub hx hb dX7_warmOrCool_53 ?_
      refine lv_topi (fun z11 ez11 => ?_)
      have := zi_bd o4_x3
      have iz11 : z11.toInt = o4_x3.toInt - z10.toInt := zi_sub ez11 rfl rfl (by omega) (by omega)
      refine va_put (D := (dC, dI)) (ci := 7) (v := .int z11) (ty := .int) (C := RX7) (T := TX7) (N := 7) hx hb hts hfX7 tyX7 tyX7_ok nmX7 hown hK hP hD hS q5 eq5 rfl 3 (by decide) (hts (.fieldLink RX7 38 "ColdShips$Tank" "warm" "I") wa_256) (fun _ h9 => h9) rfl (tyX7_ok 3 (by decide)) rfl rfl (Nat.le_of_ble_eq_true rfl) dX7_warmOrCool_54 (tp_k (.inr (7, [.int o4_x0, .int o4_x1, .int o4_x2, .int z11, .ref (ρ h0 4), .ref (ρ h0 5), .ref (ρ h0 6)])) hD (tp_in hG ht_h0 (by decide)) eq5 (fun f12 H locs hP hD hS g14 k13 => ?_))
      have hT := hT.up ht_h0 g14 k13 ⟨_, _, _, _, rfl, (by first | decide | omega | (omega))⟩
      have hR := hR.up ht_h0 (by decide) k13
      refine lv_aload_n hx hb dX7_warmOrCool_57 rfl (lv_at hl 1 rfl) ?_
      refine lv_aload_n hx hb dX7_warmOrCool_58 rfl (lv_at hl 1 rfl) ?_
      refine tpk_pos (tp_in hG ht_h0 (by decide)) g14 (fun q15 eq15 => ?_)
      refine va_get (D := (dC, dI)) (ci := 7) (v := .int o4_x1) (C := RX7) (T := TX7) (N := 7) hx hb hts hfX7 hown hK hP q15 eq15 rfl 1 (by decide) (hts (.fieldLink RX7 32 "ColdShips$Tank" "gas" "I") wa_254) (fun _ h9 => h9) rfl dX7_warmOrCool_59 ?_
      refine lv_i2l hx hb dX7_warmOrCool_62 rfl ?_
      refine lv_iload_n hx hb dX7_warmOrCool_63 rfl (lv_at hl 0 rfl) ?_
      refine lv_i2l hx hb dX7_warmOrCool_64 rfl ?_
      refine lv_aload_n hx hb dX7_warmOrCool_65 rfl (lv_at hl 1 rfl) ?_
      refine va_get (D := (dC, dI)) (ci := 7) (v := .int o4_x0) (C := RX7) (T := TX7) (N := 7) hx hb hts hfX7 hown hK hP q15 eq15 rfl 0 (by decide) (hts (.fieldLink RX7 9 "ColdShips$Tank" "cap" "I") wa_106) (fun _ h9 => h9) rfl dX7_warmOrCool_66 ?_
      refine lv_i2l hx hb dX7_warmOrCool_69 rfl ?_
      refine lv_lmul hx hb dX7_warmOrCool_70 ?_
      refine lv_topl (fun z16 ez16 => ?_)
      refine lv_ldc2 (own := RX7) (v := 100000) hx hb hown (hts (.constantLong RX7 53 (100000)) wa_415) dX7_warmOrCool_71 ?_
      refine lv_ldiv hx hb dX7_warmOrCool_74 (by decide) ?_
      refine lv_topl (fun z17 ez17 => ?_)
      refine va_mmin_long hx hb (by rw [hml]; exact hl.1.symm) hown (hts (.methodLink RX7 65 Lib.MathLoose.min_long.x) wa_436) (hts (.static Lib.MathLoose.min_long.x) wa_437) (hts (.initialized "java/lang/Math") wa_71) (hts (.code Lib.MathLoose.min_long.x Lib.MathLoose.min_long.code 4 (some .long)) wa_438) (Nat.le_of_ble_eq_true rfl) (Nat.le_of_ble_eq_true rfl) (Nat.le_of_ble_eq_true rfl) (Nat.le_of_ble_eq_true rfl) dX7_warmOrCool_75 ?_
      refine lv_topl (fun z18 ez18 => ?_)
      refine lv_l2i hx hb dX7_warmOrCool_78 rfl ?_
      refine lv_topi (fun z19 ez19 => ?_)
      have hFc := tp_fr hD hS hA
      refine va_callv (va_runV (As := [.int z19]) (rest := []) ⟨hx, hb, hml, hown, hts⟩ (t_X7_evaporate l dC dI _ Ω κ τ ν ρ L f12 hG hT h0 z19 ht_h0) (cwV 1 hts gX7_warmOrCool_X7_evaporate rfl rfl rfl ⟨rfl, pd_X7_evaporate⟩ ⟨Nat.le_of_ble_eq_true rfl, Nat.le_of_ble_eq_true rfl⟩) ⟨pz_blind, va_recv hK hP (ci := 7) (q0 := q15) rfl eq15, pz_pre hP hK hD hN⟩ rfl rfl hl.1 rfl (lv_room (Nat.le_of_ble_eq_true rfl)) dX7_warmOrCool_79 ⟨Nat.le_of_ble_eq_true rfl, Nat.le_of_ble_eq_true rfl⟩) hS (fun q _ h => hFc q h) hFc (fun f22 t H1 locs ht hvm hw21 hB hz1 hk1 hS => ?_)
      refine tn_3 hw21 (fun hT hF23 hw21p => ?_); clear hw21
      have hR := hR.then hF23 (by decide)
      have hP := hB.1; rw [ht] at hP; have hD := tp_ad f22 hD; clear hB hFc hz1 hk1; subst ht; generalize t.heap = H at hP hS ⊢
      exact W.vret hx hb hr (fun t ht hW => ⟨⟨f22, rfl, ⟨hT, hR, trivial⟩, by rw [ht]; exact hP, va_K.moved hW.alike hK, hD⟩, hS.F ht⟩) hS.2.2 dX7_warmOrCool_82
  · have ic8 : o4_x1.toInt < r6.toInt := zi_gef rfl rfl c8
    refine lv_aload_n hx hb dX7_warmOrCool_11 rfl (lv_at hl 0 rfl) ?_
    refine lv_sipush (v := 1800) hx hb dX7_warmOrCool_12 (by decide) ?_
    refine lv_aload_n hx hb dX7_warmOrCool_15 rfl (lv_at hl 0 rfl) ?_
    refine va_get (D := (dC, dI)) (ci := 7) (v := .int o4_x3) (C := RX7) (T := TX7) (N := 7) hx hb hts hfX7 hown hK hP q5 eq5 rfl 3 (by decide) (hts (.fieldLink RX7 38 "ColdShips$Tank" "warm" "I") wa_256) (fun _ h9 => h9) rfl dX7_warmOrCool_16 ?_
    refine lv_iconst (v := 5) hx hb dX7_warmOrCool_19 (by decide) ?_
    refine lv_iadd hx hb dX7_warmOrCool_20 ?_
    refine lv_topi (fun z24 ez24 => ?_)
    refine va_mmin hx hb (by rw [hml]; exact hl.1.symm) hown (hts (.methodLink RX7 62 Lib.Math.min.name) wa_433) (hts (.static Lib.Math.min.name) wa_434) (hts (.initialized "java/lang/Math") wa_71) (hts (.code Lib.Math.min.name Lib.Math.min.code 2 (some .int)) wa_435) (Nat.le_of_ble_eq_true rfl) (Nat.le_of_ble_eq_true rfl) (Nat.le_of_ble_eq_true rfl) (Nat.le_of_ble_eq_true rfl) dX7_warmOrCool_21 ?_
    refine lv_topi (fun z25 ez25 => ?_)
    have iz25 := zi_min ez25 (show (1800 : Int32).toInt = 1800 from rfl) (rfl : z24.toInt = _)
    refine va_put (D := (dC, dI)) (ci := 7) (v := .int z25) (ty := .int) (C := RX7) (T := TX7) (N := 7) hx hb hts hfX7 tyX7 tyX7_ok nmX7 hown hK hP hD hS q5 eq5 rfl 3 (by decide) (hts (.fieldLink RX7 38 "ColdShips$Tank" "warm" "I") wa_256) (fun _ h9 => h9) rfl (tyX7_ok 3 (by decide)) rfl rfl (Nat.le_of_ble_eq_true rfl) dX7_warmOrCool_24 (tp_k (.inr (7, [.int o4_x0, .int o4_x1, .int o4_x2, .int z25, .ref (ρ h0 4), .ref (ρ h0 5), .ref (ρ h0 6)])) hD (tp_in hG ht_h0 (by decide)) eq5 (fun f26 H locs hP hD hS g28 k27 => ?_))
    have hT := hT.up ht_h0 g28 k27 ⟨_, _, _, _, rfl, (by first | decide | omega | (omega))⟩
    have hR := hR.up ht_h0 (by decide) k27
    refine lv_goto (tgt := 82) hx hb dX7_warmOrCool_27 (by decide) ?_
    exact W.vret hx hb hr (fun t ht hW => ⟨⟨f26, rfl, ⟨hT, hR, trivial⟩, by rw [ht]; exact hP, va_K.moved hW.alike hK, hD⟩, hS.F ht⟩) hS.2.2 dX7_warmOrCool_82
set_option maxHeartbeats 4000000 in
set_option maxRecDepth 100000 in
theorem t_X7_burn (l : Launch) (dC : Nat → ClassId) (dI : Nat → Nat → Nat) (sz : Nat) (Ω : Nat → (Nat → Nat) → va_E → Prop) (κ : Nat → ClassId) (τ ν : Nat → Nat) (ρ : Nat → Nat → Nat) (L : List Nat) (f : Nat → va_E) (hG : tp_G τ ν ρ L) (hT : tp_T Ω κ τ ν ρ f) (h0 : Nat) (v : Int32) (ht_h0 : τ h0 = 8) : Met l yX7_burn wqX7_burn ({ frames := 4, cells := 0, slots := 0, locals := 1200 }) (va_Pc [.ref h0, .int v] (pz_B dC dI (tp_K κ) (va_pl L f) sz)) (va_Qi (fun (r : Int32) (f1 : Nat → va_E) => tp_T Ω κ τ ν ρ f1 ∧ tp_F τ [8, 20, 21] f f1 ∧ True ∧ True) (fun (f1 : Nat → va_E) (t : State) => pz_E dC dI (tp_K κ) (va_A (va_pl L f) sz) (va_pl L f1) t) (va_A (va_pl L f) sz)) 0 0 (va_A (va_pl L f) sz) := by
  refine Met.ofW (cc := cX7_burn) (maxL := 4) (ret := some .int) (by decide) rfl ?_
  intro p e s m args below meth c s₁ B hml hv
  obtain ⟨rfl, hsz, hP, hK, hD0, hN⟩ := hv
  have hx := B.exec
  have hb := B.bytes
  have hr := B.returns
  have hts := fun (w : Cond) (h : w ∈ WALL) => atoms_spec (ws := wqX7_burn) B.pre w (List.mem_cons_of_mem _ h)
  have hown : s.vm.findClass RX7 = some m.cls := findClass_of_methodNamed B.named
  have hlocks := B.notSynchronized
  subst hsz
  have hD := hD0.self (sz := s.heap.size)
  generalize hAe : va_A (va_pl L f) s.heap.size = A at hD ⊢
  have hA : ∀ q : Nat, s.heap.size ≤ q → A q := fun q h => by rw [← hAe]; exact Or.inr h
  have hS : va_S A s.heap s.heap [] := va_S.rf
  have hR : tp_F τ [8, 20, 21] f f := tp_F.rf
  have hl := lv_entry ([.ref h0, .int v]) (n := 4) (Nat.le_of_ble_eq_true rfl)
  rw [lg_entry_eq]
  generalize (lg_sl ([.ref h0, .int v]) ++ List.replicate (4 - (lg_sl ([.ref h0, .int v])).length) Slot.unset).toArray = ls at hl ⊢
  have hl : lv_has ls 4 [(0, .ref h0), (1, .int v)] := hl
  refine lv_iload_n hx hb dX7_burn_0 rfl (lv_at hl 1 rfl) ?_
  refine lv_aload_n hx hb dX7_burn_1 rfl (lv_at hl 0 rfl) ?_
  refine tgk_8 hG ht_h0 (fun y1 y1n y2 y2n y3 y3n => ?_)
  refine tpk_8 hT ht_h0 (fun o4_x0 o4_x1 o4_x2 o4_x3 hf_o4 ro4_0 => ?_)
  refine tpk_pos (tp_in hG ht_h0 (by decide)) hf_o4 (fun q5 eq5 => ?_)
  refine va_get (D := (dC, dI)) (ci := 7) (v := .int o4_x2) (C := RX7) (T := TX7) (N := 7) hx hb hts hfX7 hown hK hP q5 eq5 rfl 2 (by decide) (hts (.fieldLink RX7 35 "ColdShips$Tank" "vapor" "I") wa_255) (fun _ h9 => h9) rfl dX7_burn_2 ?_
  refine va_mmin hx hb (by rw [hml]; exact hl.1.symm) hown (hts (.methodLink RX7 62 Lib.Math.min.name) wa_433) (hts (.static Lib.Math.min.name) wa_434) (hts (.initialized "java/lang/Math") wa_71) (hts (.code Lib.Math.min.name Lib.Math.min.code 2 (some .int)) wa_435) (Nat.le_of_ble_eq_true rfl) (Nat.le_of_ble_eq_true rfl) (Nat.le_of_ble_eq_true rfl) (Nat.le_of_ble_eq_true rfl) dX7_burn_5 ?_
  refine lv_topi (fun z6 ez6 => ?_)
  have iz6 := zi_min ez6 (rfl : v.toInt = _) (rfl : o4_x2.toInt = _)
  refine lv_istore_n (lv' := [(2, .int z6), (0, .ref h0), (1, .int v)]) hx hb dX7_burn_8 rfl hl (by decide) rfl (fun ls hl => ?_)
  refine lv_aload_n hx hb dX7_burn_9 rfl (lv_at hl 1 rfl) ?_
  refine lv_dup hx hb dX7_burn_10 rfl ?_
  refine va_get (D := (dC, dI)) (ci := 7) (v := .int o4_x2) (C := RX7) (T := TX7) (N := 7) hx hb hts hfX7 hown hK hP q5 eq5 rfl 2 (by decide) (hts (.fieldLink RX7 35 "ColdShips$Tank" "vapor" "I") wa_255) (fun _ h9 => h9) rfl dX7_burn_11 ?_
  refine lv_iload_n hx hb dX7_burn_14 rfl (lv_at hl 0 rfl) ?_
  refine lv_isub hx hb dX7_burn_15 ?_
  refine lv_topi (fun z7 ez7 => ?_)
  refine va_put (D := (dC, dI)) (ci := 7) (v := .int z7) (ty := .int) (C := RX7) (T := TX7) (N := 7) hx hb hts hfX7 tyX7 tyX7_ok nmX7 hown hK hP hD hS q5 eq5 rfl 2 (by decide) (hts (.fieldLink RX7 35 "ColdShips$Tank" "vapor" "I") wa_255) (fun _ h9 => h9) rfl (tyX7_ok 2 (by decide)) rfl rfl (Nat.le_of_ble_eq_true rfl) dX7_burn_16 (tp_k (.inr (7, [.int o4_x0, .int o4_x1, .int z7, .int o4_x3, .ref (ρ h0 4), .ref (ρ h0 5), .ref (ρ h0 6)])) hD (tp_in hG ht_h0 (by decide)) eq5 (fun f8 H locs hP hD hS g10 k9 => ?_))
  have hT := hT.up ht_h0 g10 k9 ⟨_, _, _, _, rfl, (by first | decide | omega | (omega))⟩
  have hR := hR.up ht_h0 (by decide) k9
  refine lv_iload_n hx hb dX7_burn_19 rfl (lv_at hl 2 rfl) ?_
  refine lv_iload_n hx hb dX7_burn_20 rfl (lv_at hl 0 rfl) ?_
  refine lv_isub hx hb dX7_burn_21 ?_
  refine lv_topi (fun z11 ez11 => ?_)
  refine lv_aload_n hx hb dX7_burn_22 rfl (lv_at hl 1 rfl) ?_
  refine tpk_pos (tp_in hG ht_h0 (by decide)) g10 (fun q12 eq12 => ?_)
  refine va_get (D := (dC, dI)) (ci := 7) (v := .int o4_x1) (C := RX7) (T := TX7) (N := 7) hx hb hts hfX7 hown hK hP q12 eq12 rfl 1 (by decide) (hts (.fieldLink RX7 32 "ColdShips$Tank" "gas" "I") wa_254) (fun _ h9 => h9) rfl dX7_burn_23 ?_
  refine va_mmin hx hb (by rw [hml]; exact hl.1.symm) hown (hts (.methodLink RX7 62 Lib.Math.min.name) wa_433) (hts (.static Lib.Math.min.name) wa_434) (hts (.initialized "java/lang/Math") wa_71) (hts (.code Lib.Math.min.name Lib.Math.min.code 2 (some .int)) wa_435) (Nat.le_of_ble_eq_true rfl) (Nat.le_of_ble_eq_true rfl) (Nat.le_of_ble_eq_true rfl) (Nat.le_of_ble_eq_true rfl) dX7_burn_26 ?_
  refine lv_topi (fun z13 ez13 => ?_)
  have iz13 := zi_min ez13 (rfl : z11.toInt = _) (rfl : o4_x1.toInt = _)
  refine lv_istore_n (lv' := [(3, .int z13), (2, .int z6), (0, .ref h0), (1, .int v)]) hx hb dX7_burn_29 rfl hl (by decide) rfl (fun ls hl => ?_)
  refine lv_aload_n hx hb dX7_burn_30 rfl (lv_at hl 2 rfl) ?_
  refine lv_iload_n hx hb dX7_burn_31 rfl (lv_at hl 0 rfl) ?_
  have hFc := tp_fr hD hS hA
  refine va_callv (va_runV (As := [.int z13]) (rest := []) ⟨hx, hb, hml, hown, hts⟩ (t_X7_takeGas l dC dI _ Ω κ τ ν ρ L f8 hG hT h0 z13 ht_h0) (cwV 1 hts gX7_burn_X7_takeGas rfl rfl rfl ⟨rfl, pd_X7_takeGas⟩ ⟨Nat.le_of_ble_eq_true rfl, Nat.le_of_ble_eq_true rfl⟩) ⟨pz_blind, va_recv hK hP (ci := 7) (q0 := q12) rfl eq12, pz_pre hP hK hD hN⟩ rfl rfl hl.1 rfl (lv_room (Nat.le_of_ble_eq_true rfl)) dX7_burn_32 ⟨Nat.le_of_ble_eq_true rfl, Nat.le_of_ble_eq_true rfl⟩) hS (fun q _ h => hFc q h) hFc (fun f16 t H1 locs ht hvm hw15 hB hz1 hk1 hS => ?_)
  refine tn_3 hw15 (fun hT hF17 hw15p => ?_); clear hw15
  have hR := hR.then hF17 (by decide)
  have hP := hB.1; rw [ht] at hP; have hD := tp_ad f16 hD; clear hB hFc hz1 hk1; subst ht; generalize t.heap = H at hP hS ⊢
  refine lv_iload_n hx hb dX7_burn_35 rfl (lv_at hl 1 rfl) ?_
  refine lv_iload_n hx hb dX7_burn_36 rfl (lv_at hl 0 rfl) ?_
  refine lv_iadd hx hb dX7_burn_37 ?_
  refine lv_topi (fun z18 ez18 => ?_)
  exact W.iret (v := z18) hx hb hr (fun t ht hW => ⟨⟨z18, f16, rfl, ⟨hT, hR, trivial, trivial⟩, by rw [ht]; exact hP, va_K.moved hW.alike hK, hD⟩, hS.F ht⟩) hS.2.2 dX7_burn_38
set_option maxHeartbeats 4000000 in
set_option maxRecDepth 100000 in
theorem t_X7_fill (l : Launch) (dC : Nat → ClassId) (dI : Nat → Nat → Nat) (sz : Nat) (Ω : Nat → (Nat → Nat) → va_E → Prop) (κ : Nat → ClassId) (τ ν : Nat → Nat) (ρ : Nat → Nat → Nat) (L : List Nat) (f : Nat → va_E) (hG : tp_G τ ν ρ L) (hT : tp_T Ω κ τ ν ρ f) (h0 : Nat) (t : Int32) (v : Int32) (ht_h0 : τ h0 = 8) (hr_t : 0 ≤ t.toInt ∧ t.toInt ≤ 5) : Met l yX7_fill wqX7_fill ({ frames := 2, cells := 0, slots := 0, locals := 400 }) (va_Pc [.ref h0, .int t, .int v] (pz_B dC dI (tp_K κ) (va_pl L f) sz)) (va_Qv (fun (f1 : Nat → va_E) => tp_T Ω κ τ ν ρ f1 ∧ tp_F τ [8, 20] f f1 ∧ True) (fun (f1 : Nat → va_E) (t : State) => pz_E dC dI (tp_K κ) (va_A (va_pl L f) sz) (va_pl L f1) t) (va_A (va_pl L f) sz)) 0 0 (va_A (va_pl L f) sz) := by
  refine Met.ofW (cc := cX7_fill) (maxL := 3) (ret := none) (by decide) rfl ?_
  intro p e s m args below meth c s₁ B hml hv
  obtain ⟨rfl, hsz, hP, hK, hD0, hN⟩ := hv
  have hx := B.exec
  have hb := B.bytes
  have hr := B.returns
  have hts := fun (w : Cond) (h : w ∈ WALL) => atoms_spec (ws := wqX7_fill) B.pre w (List.mem_cons_of_mem _ h)
  have hown : s.vm.findClass RX7 = some m.cls := findClass_of_methodNamed B.named
  have hlocks := B.notSynchronized
  subst hsz
  have hD := hD0.self (sz := s.heap.size)
  generalize hAe : va_A (va_pl L f) s.heap.size = A at hD ⊢
  have hA : ∀ q : Nat, s.heap.size ≤ q → A q := fun q h => by rw [← hAe]; exact Or.inr h
  have hS : va_S A s.heap s.heap [] := va_S.rf
  have hR : tp_F τ [8, 20] f f := tp_F.rf
  have hl := lv_entry ([.ref h0, .int t, .int v]) (n := 3) (Nat.le_of_ble_eq_true rfl)
  rw [lg_entry_eq]
  generalize (lg_sl ([.ref h0, .int t, .int v]) ++ List.replicate (3 - (lg_sl ([.ref h0, .int t, .int v])).length) Slot.unset).toArray = ls at hl ⊢
  have hl : lv_has ls 3 [(0, .ref h0), (1, .int t), (2, .int v)] := hl
  refine lv_aload_n hx hb dX7_fill_0 rfl (lv_at hl 0 rfl) ?_
  refine lv_dup hx hb dX7_fill_1 rfl ?_
  refine tgk_8 hG ht_h0 (fun y1 y1n y2 y2n y3 y3n => ?_)
  refine tpk_8 hT ht_h0 (fun o4_x0 o4_x1 o4_x2 o4_x3 hf_o4 ro4_0 => ?_)
  refine tpk_pos (tp_in hG ht_h0 (by decide)) hf_o4 (fun q5 eq5 => ?_)
  refine va_get (D := (dC, dI)) (ci := 7) (v := .int o4_x1) (C := RX7) (T := TX7) (N := 7) hx hb hts hfX7 hown hK hP q5 eq5 rfl 1 (by decide) (hts (.fieldLink RX7 32 "ColdShips$Tank" "gas" "I") wa_254) (fun _ h9 => h9) rfl dX7_fill_2 ?_
  refine lv_iload_n hx hb dX7_fill_5 rfl (lv_at hl 2 rfl) ?_
  refine lv_iadd hx hb dX7_fill_6 ?_
  refine lv_topi (fun z6 ez6 => ?_)
  refine va_put (D := (dC, dI)) (ci := 7) (v := .int z6) (ty := .int) (C := RX7) (T := TX7) (N := 7) hx hb hts hfX7 tyX7 tyX7_ok nmX7 hown hK hP hD hS q5 eq5 rfl 1 (by decide) (hts (.fieldLink RX7 32 "ColdShips$Tank" "gas" "I") wa_254) (fun _ h9 => h9) rfl (tyX7_ok 1 (by decide)) rfl rfl (Nat.le_of_ble_eq_true rfl) dX7_fill_7 (tp_k (.inr (7, [.int o4_x0, .int z6, .int o4_x2, .int o4_x3, .ref (ρ h0 4), .ref (ρ h0 5), .ref (ρ h0 6)])) hD (tp_in hG ht_h0 (by decide)) eq5 (fun f7 H locs hP hD hS g9 k8 => ?_))
  have hT := hT.up ht_h0 g9 k8 ⟨_, _, _, _, rfl, (by first | decide | omega | (omega))⟩
  have hR := hR.up ht_h0 (by decide) k8
  refine lv_aload_n hx hb dX7_fill_10 rfl (lv_at hl 0 rfl) ?_
  refine tpk_pos (tp_in hG ht_h0 (by decide)) g9 (fun q10 eq10 => ?_)
  refine va_get (D := (dC, dI)) (ci := 7) (v := .ref (ρ h0 4)) (C := RX7) (T := TX7) (N := 7) hx hb hts hfX7 hown hK hP q10 eq10 rfl 4 (by decide) (hts (.fieldLink RX7 15 "ColdShips$Tank" "parts" "[I") wa_107) (fun _ h9 => h9) rfl dX7_fill_11 ?_
  refine lv_iload_n hx hb dX7_fill_14 rfl (lv_at hl 1 rfl) ?_
  refine lv_dup2_11 hx hb dX7_fill_15 rfl rfl ?_
  refine tpk_20 hT y1 y1n (fun g12 hf_o11 => ?_)
  refine tpk_pos (tp_in hG y1 (by decide)) hf_o11 (fun q13 eq13 => ?_)
  refine va_iald hx hb hK hP q13 0 eq13 rfl (vp_in_iff.mpr ⟨by omega, by omega⟩) dX7_fill_16 ?_
  refine lv_topi (fun z14 ez14 => ?_)
  refine lv_iload_n hx hb dX7_fill_17 rfl (lv_at hl 2 rfl) ?_
  refine lv_iadd hx hb dX7_fill_18 ?_
  refine lv_topi (fun z15 ez15 => ?_)
  refine va_iast hx hb hK hP hD hS q13 0 eq13 rfl (vp_in_iff.mpr ⟨by omega, by omega⟩) dX7_fill_19 (tp_k (.inl (κ 0, 6, .inl (upd g12 t.toNatClampNeg z15))) hD (tp_in hG y1 (by decide)) eq13 (fun f16 H locs hP hD hS g18 k17 => ?_))
  have hT := hT.up y1 g18 k17 (tp_o20 y1n)
  have hR := hR.up y1 (by decide) k17
  generalize (upd g12 t.toNatClampNeg z15) = g19 at g18
  exact W.vret hx hb hr (fun t ht hW => ⟨⟨f16, rfl, ⟨hT, hR, trivial⟩, by rw [ht]; exact hP, va_K.moved hW.alike hK, hD⟩, hS.F ht⟩) hS.2.2 dX7_fill_20
set_option maxHeartbeats 4000000 in
set_option maxRecDepth 100000 in
theorem t_X7_vent (l : Launch) (dC : Nat → ClassId) (dI : Nat → Nat → Nat) (sz : Nat) (Ω : Nat → (Nat → Nat) → va_E → Prop) (κ : Nat → ClassId) (τ ν : Nat → Nat) (ρ : Nat → Nat → Nat) (L : List Nat) (f : Nat → va_E) (hG : tp_G τ ν ρ L) (hT : tp_T Ω κ τ ν ρ f) (h0 : Nat) (v : Int32) (ht_h0 : τ h0 = 8) : Met l yX7_vent wqX7_vent ({ frames := 3, cells := 0, slots := 0, locals := 800 }) (va_Pc [.ref h0, .int v] (pz_B dC dI (tp_K κ) (va_pl L f) sz)) (va_Qi (fun (r : Int32) (f1 : Nat → va_E) => tp_T Ω κ τ ν ρ f1 ∧ tp_F τ [8] f f1 ∧ True ∧ True) (fun (f1 : Nat → va_E) (t : State) => pz_E dC dI (tp_K κ) (va_A (va_pl L f) sz) (va_pl L f1) t) (va_A (va_pl L f) sz)) 0 0 (va_A (va_pl L f) sz) := by
  refine Met.ofW (cc := cX7_vent) (maxL := 4) (ret := some .int) (by decide) rfl ?_
  intro p e s m args below meth c s₁ B hml hv
  obtain ⟨rfl, hsz, hP, hK, hD0, hN⟩ := hv
  have hx := B.exec
  have hb := B.bytes
  have hr := B.returns
  have hts := fun (w : Cond) (h : w ∈ WALL) => atoms_spec (ws := wqX7_vent) B.pre w (List.mem_cons_of_mem _ h)
  have hown : s.vm.findClass RX7 = some m.cls := findClass_of_methodNamed B.named
  have hlocks := B.notSynchronized
  subst hsz
  have hD := hD0.self (sz := s.heap.size)
  generalize hAe : va_A (va_pl L f) s.heap.size = A at hD ⊢
  have hA : ∀ q : Nat, s.heap.size ≤ q → A q := fun q h => by rw [← hAe]; exact Or.inr h
  have hS : va_S A s.heap s.heap [] := va_S.rf
  have hR : tp_F τ [8] f f := tp_F.rf
  have hl := lv_entry ([.ref h0, .int v]) (n := 4) (Nat.le_of_ble_eq_true rfl)
  rw [lg_entry_eq]
  generalize (lg_sl ([.ref h0, .int v]) ++ List.replicate (4 - (lg_sl ([.ref h0, .int v])).length) Slot.unset).toArray = ls at hl ⊢
  have hl : lv_has ls 4 [(0, .ref h0), (1, .int v)] := hl
  refine lv_iload_n hx hb dX7_vent_0 rfl (lv_at hl 1 rfl) ?_
  refine lv_i2l hx hb dX7_vent_1 rfl ?_
  refine lv_lconst (v := 1) hx hb dX7_vent_2 (by decide) ?_
  refine lv_ladd hx hb dX7_vent_3 ?_
  refine lv_topl (fun z1 ez1 => ?_)
  refine lv_aload_n hx hb dX7_vent_4 rfl (lv_at hl 0 rfl) ?_
  refine tgk_8 hG ht_h0 (fun y2 y2n y3 y3n y4 y4n => ?_)
  refine tpk_8 hT ht_h0 (fun o5_x0 o5_x1 o5_x2 o5_x3 hf_o5 ro5_0 => ?_)
  refine tpk_pos (tp_in hG ht_h0 (by decide)) hf_o5 (fun q6 eq6 => ?_)
  refine pz_calli (va_runV (As := []) (rest := [.long z1]) ⟨hx, hb, hml, hown, hts⟩ (t_X7_space l dC dI _ Ω κ τ ν ρ L f hG hT h0 ht_h0) (cwV 0 hts gX7_vent_X7_space rfl rfl rfl ⟨rfl, pd_X7_space⟩ ⟨Nat.le_of_ble_eq_true rfl, Nat.le_of_ble_eq_true rfl⟩) ⟨pz_blind, va_recv hK hP (ci := 7) (q0 := q6) rfl eq6, pz_pre hP hK hD hN⟩ rfl rfl hl.1 rfl (lv_room (Nat.le_of_ble_eq_true rfl)) dX7_vent_5 ⟨Nat.le_of_ble_eq_true rfl, Nat.le_of_ble_eq_true rfl⟩) (fun r7 hw8 => ?_)
  obtain ⟨hw8r, hw8p⟩ := hw8
  refine lv_i2l hx hb dX7_vent_8 rfl ?_
  refine lv_lmul hx hb dX7_vent_9 ?_
  refine lv_topl (fun z9 ez9 => ?_)
  refine lv_lconst (v := 1) hx hb dX7_vent_10 (by decide) ?_
  refine lv_lsub hx hb dX7_vent_11 ?_
  refine lv_topl (fun z10 ez10 => ?_)
  refine lv_ldc2 (own := RX7) (v := 1000) hx hb hown (hts (.constantLong RX7 47 (1000)) wa_537) dX7_vent_12 ?_
  refine lv_ldiv hx hb dX7_vent_15 (by decide) ?_
  refine lv_topl (fun z11 ez11 => ?_)
  refine lv_l2i hx hb dX7_vent_16 rfl ?_
  refine lv_topi (fun z12 ez12 => ?_)
  refine lv_istore_n (lv' := [(2, .int z12), (0, .ref h0), (1, .int v)]) hx hb dX7_vent_17 rfl hl (by decide) rfl (fun ls hl => ?_)
  refine lv_iconst (v := 0) hx hb dX7_vent_18 (by decide) ?_
  refine lv_aload_n hx hb dX7_vent_19 rfl (lv_at hl 1 rfl) ?_
  refine va_get (D := (dC, dI)) (ci := 7) (v := .int o5_x2) (C := RX7) (T := TX7) (N := 7) hx hb hts hfX7 hown hK hP q6 eq6 rfl 2 (by decide) (hts (.fieldLink RX7 35 "ColdShips$Tank" "vapor" "I") wa_255) (fun _ h9 => h9) rfl dX7_vent_20 ?_
  refine lv_iload_n hx hb dX7_vent_23 rfl (lv_at hl 0 rfl) ?_
  refine lv_isub hx hb dX7_vent_24 ?_
  refine lv_topi (fun z13 ez13 => ?_)
  refine va_mmax hx hb (by rw [hml]; exact hl.1.symm) hown (hts (.methodLink RX7 26 Lib.Math.max.name) wa_253) (hts (.static Lib.Math.max.name) wa_70) (hts (.initialized "java/lang/Math") wa_71) (hts (.code Lib.Math.max.name Lib.Math.max.code 2 (some .int)) wa_72) (Nat.le_of_ble_eq_true rfl) (Nat.le_of_ble_eq_true rfl) (Nat.le_of_ble_eq_true rfl) (Nat.le_of_ble_eq_true rfl) dX7_vent_25 ?_
  refine lv_topi (fun z14 ez14 => ?_)
  have iz14 := zi_max ez14 (show (0 : Int32).toInt = 0 from rfl) (rfl : z13.toInt = _)
  refine lv_istore_n (lv' := [(3, .int z14), (2, .int z12), (0, .ref h0), (1, .int v)]) hx hb dX7_vent_28 rfl hl (by decide) rfl (fun ls hl => ?_)
  refine lv_aload_n hx hb dX7_vent_29 rfl (lv_at hl 2 rfl) ?_
  refine lv_dup hx hb dX7_vent_30 rfl ?_
  refine va_get (D := (dC, dI)) (ci := 7) (v := .int o5_x2) (C := RX7) (T := TX7) (N := 7) hx hb hts hfX7 hown hK hP q6 eq6 rfl 2 (by decide) (hts (.fieldLink RX7 35 "ColdShips$Tank" "vapor" "I") wa_255) (fun _ h9 => h9) rfl dX7_vent_31 ?_
  refine lv_iload_n hx hb dX7_vent_34 rfl (lv_at hl 0 rfl) ?_
  refine lv_isub hx hb dX7_vent_35 ?_
  refine lv_topi (fun z15 ez15 => ?_)
  refine va_put (D := (dC, dI)) (ci := 7) (v := .int z15) (ty := .int) (C := RX7) (T := TX7) (N := 7) hx hb hts hfX7 tyX7 tyX7_ok nmX7 hown hK hP hD hS q6 eq6 rfl 2 (by decide) (hts (.fieldLink RX7 35 "ColdShips$Tank" "vapor" "I") wa_255) (fun _ h9 => h9) rfl (tyX7_ok 2 (by decide)) rfl rfl (Nat.le_of_ble_eq_true rfl) dX7_vent_36 (tp_k (.inr (7, [.int o5_x0, .int o5_x1, .int z15, .int o5_x3, .ref (ρ h0 4), .ref (ρ h0 5), .ref (ρ h0 6)])) hD (tp_in hG ht_h0 (by decide)) eq6 (fun f16 H locs hP hD hS g18 k17 => ?_))
  have hT := hT.up ht_h0 g18 k17 ⟨_, _, _, _, rfl, (by first | decide | omega | (omega))⟩
  have hR := hR.up ht_h0 (by decide) k17
  refine lv_iload_n hx hb dX7_vent_39 rfl (lv_at hl 0 rfl) ?_
  exact W.iret (v := z14) hx hb hr (fun t ht hW => ⟨⟨z14, f16, rfl, ⟨hT, hR, trivial, trivial⟩, by rw [ht]; exact hP, va_K.moved hW.alike hK, hD⟩, hS.F ht⟩) hS.2.2 dX7_vent_40
set_option maxHeartbeats 4000000 in
set_option maxRecDepth 100000 in
theorem t_X7_copyFrom (l : Launch) (dC : Nat → ClassId) (dI : Nat → Nat → Nat) (sz : Nat) (Ω : Nat → (Nat → Nat) → va_E → Prop) (κ : Nat → ClassId) (τ ν : Nat → Nat) (ρ : Nat → Nat → Nat) (L : List Nat) (f : Nat → va_E) (hG : tp_G τ ν ρ L) (hT : tp_T Ω κ τ ν ρ f) (h0 : Nat) (h1 : Nat) (ht_h0 : τ h0 = 8) (ht_h1 : τ h1 = 8) : Met l yX7_copyFrom wqX7_copyFrom ({ frames := 2, cells := 0, slots := 0, locals := 400 }) (va_Pc [.ref h0, .ref h1] (pz_B dC dI (tp_K κ) (va_pl L f) sz)) (va_Qv (fun (f1 : Nat → va_E) => tp_T Ω κ τ ν ρ f1 ∧ tp_F τ [8, 20] f f1 ∧ True) (fun (f1 : Nat → va_E) (t : State) => pz_E dC dI (tp_K κ) (va_A (va_pl L f) sz) (va_pl L f1) t) (va_A (va_pl L f) sz)) 0 0 (va_A (va_pl L f) sz) := by
  refine Met.ofW (cc := cX7_copyFrom) (maxL := 2) (ret := none) (by decide) rfl ?_
  intro p e s m args below meth c s₁ B hml hv
  obtain ⟨rfl, hsz, hP, hK, hD0, hN⟩ := hv
  have hx := B.exec
  have hb := B.bytes
  have hr := B.returns
  have hts := fun (w : Cond) (h : w ∈ WALL) => atoms_spec (ws := wqX7_copyFrom) B.pre w (List.mem_cons_of_mem _ h)
  have hown : s.vm.findClass RX7 = some m.cls := findClass_of_methodNamed B.named
  have hlocks := B.notSynchronized
  subst hsz
  have hD := hD0.self (sz := s.heap.size)
  generalize hAe : va_A (va_pl L f) s.heap.size = A at hD ⊢
  have hA : ∀ q : Nat, s.heap.size ≤ q → A q := fun q h => by rw [← hAe]; exact Or.inr h
  have hS : va_S A s.heap s.heap [] := va_S.rf
  have hR : tp_F τ [8, 20] f f := tp_F.rf
  have hl := lv_entry ([.ref h0, .ref h1]) (n := 2) (Nat.le_of_ble_eq_true rfl)
  rw [lg_entry_eq]
  generalize (lg_sl ([.ref h0, .ref h1]) ++ List.replicate (2 - (lg_sl ([.ref h0, .ref h1])).length) Slot.unset).toArray = ls at hl ⊢
  have hl : lv_has ls 2 [(0, .ref h0), (1, .ref h1)] := hl
  refine lv_aload_n hx hb dX7_copyFrom_0 rfl (lv_at hl 0 rfl) ?_
  refine lv_aload_n hx hb dX7_copyFrom_1 rfl (lv_at hl 1 rfl) ?_
  refine tgk_8 hG ht_h1 (fun y1 y1n y2 y2n y3 y3n => ?_)
  refine tpk_8 hT ht_h1 (fun o4_x0 o4_x1 o4_x2 o4_x3 hf_o4 ro4_0 => ?_)
  refine tpk_pos (tp_in hG ht_h1 (by decide)) hf_o4 (fun q5 eq5 => ?_)
  refine va_get (D := (dC, dI)) (ci := 7) (v := .int o4_x0) (C := RX7) (T := TX7) (N := 7) hx hb hts hfX7 hown hK hP q5 eq5 rfl 0 (by decide) (hts (.fieldLink RX7 9 "ColdShips$Tank" "cap" "I") wa_106) (fun _ h9 => h9) rfl dX7_copyFrom_2 ?_
  refine tgk_8 hG ht_h0 (fun y6 y6n y7 y7n y8 y8n => ?_)
  refine tpk_8 hT ht_h0 (fun o9_x0 o9_x1 o9_x2 o9_x3 hf_o9 ro9_0 => ?_)
  refine tpk_pos (tp_in hG ht_h0 (by decide)) hf_o9 (fun q10 eq10 => ?_)
  refine va_put (D := (dC, dI)) (ci := 7) (v := .int o4_x0) (ty := .int) (C := RX7) (T := TX7) (N := 7) hx hb hts hfX7 tyX7 tyX7_ok nmX7 hown hK hP hD hS q10 eq10 rfl 0 (by decide) (hts (.fieldLink RX7 9 "ColdShips$Tank" "cap" "I") wa_106) (fun _ h9 => h9) rfl (tyX7_ok 0 (by decide)) rfl rfl (Nat.le_of_ble_eq_true rfl) dX7_copyFrom_5 (tp_k (.inr (7, [.int o4_x0, .int o9_x1, .int o9_x2, .int o9_x3, .ref (ρ h0 4), .ref (ρ h0 5), .ref (ρ h0 6)])) hD (tp_in hG ht_h0 (by decide)) eq10 (fun f11 H locs hP hD hS g13 k12 => ?_))
  have hT := hT.up ht_h0 g13 k12 ⟨_, _, _, _, rfl, (by first | decide | omega | (omega))⟩
  have hR := hR.up ht_h0 (by decide) k12
  refine lv_aload_n hx hb dX7_copyFrom_8 rfl (lv_at hl 0 rfl) ?_
  refine lv_aload_n hx hb dX7_copyFrom_9 rfl (lv_at hl 1 rfl) ?_
  refine tpk_8 hT ht_h1 (fun o14_x0 o14_x1 o14_x2 o14_x3 hf_o14 ro14_0 => ?_)
  refine tpk_pos (tp_in hG ht_h1 (by decide)) hf_o14 (fun q15 eq15 => ?_)
  refine va_get (D := (dC, dI)) (ci := 7) (v := .int o14_x1) (C := RX7) (T := TX7) (N := 7) hx hb hts hfX7 hown hK hP q15 eq15 rfl 1 (by decide) (hts (.fieldLink RX7 32 "ColdShips$Tank" "gas" "I") wa_254) (fun _ h9 => h9) rfl dX7_copyFrom_10 ?_
  refine tpk_pos (tp_in hG ht_h0 (by decide)) g13 (fun q16 eq16 => ?_)
  refine va_put (D := (dC, dI)) (ci := 7) (v := .int o14_x1) (ty := .int) (C := RX7) (T := TX7) (N := 7) hx hb hts hfX7 tyX7 tyX7_ok nmX7 hown hK hP hD hS q16 eq16 rfl 1 (by decide) (hts (.fieldLink RX7 32 "ColdShips$Tank" "gas" "I") wa_254) (fun _ h9 => h9) rfl (tyX7_ok 1 (by decide)) rfl rfl (Nat.le_of_ble_eq_true rfl) dX7_copyFrom_13 (tp_k (.inr (7, [.int o4_x0, .int o14_x1, .int o9_x2, .int o9_x3, .ref (ρ h0 4), .ref (ρ h0 5), .ref (ρ h0 6)])) hD (tp_in hG ht_h0 (by decide)) eq16 (fun f17 H locs hP hD hS g19 k18 => ?_))
  have hT := hT.up ht_h0 g19 k18 ⟨_, _, _, _, rfl, (by first | decide | omega | (omega))⟩
  have hR := hR.up ht_h0 (by decide) k18
  refine lv_aload_n hx hb dX7_copyFrom_16 rfl (lv_at hl 0 rfl) ?_
  refine lv_aload_n hx hb dX7_copyFrom_17 rfl (lv_at hl 1 rfl) ?_
  refine tpk_8 hT ht_h1 (fun o20_x0 o20_x1 o20_x2 o20_x3 hf_o20 ro20_0 => ?_)
  refine tpk_pos (tp_in hG ht_h1 (by decide)) hf_o20 (fun q21 eq21 => ?_)
  refine va_get (D := (dC, dI)) (ci := 7) (v := .int o20_x2) (C := RX7) (T := TX7) (N := 7) hx hb hts hfX7 hown hK hP q21 eq21 rfl 2 (by decide) (hts (.fieldLink RX7 35 "ColdShips$Tank" "vapor" "I") wa_255) (fun _ h9 => h9) rfl dX7_copyFrom_18 ?_
  refine tpk_pos (tp_in hG ht_h0 (by decide)) g19 (fun q22 eq22 => ?_)
  refine va_put (D := (dC, dI)) (ci := 7) (v := .int o20_x2) (ty := .int) (C := RX7) (T := TX7) (N := 7) hx hb hts hfX7 tyX7 tyX7_ok nmX7 hown hK hP hD hS q22 eq22 rfl 2 (by decide) (hts (.fieldLink RX7 35 "ColdShips$Tank" "vapor" "I") wa_255) (fun _ h9 => h9) rfl (tyX7_ok 2 (by decide)) rfl rfl (Nat.le_of_ble_eq_true rfl) dX7_copyFrom_21 (tp_k (.inr (7, [.int o4_x0, .int o14_x1, .int o20_x2, .int o9_x3, .ref (ρ h0 4), .ref (ρ h0 5), .ref (ρ h0 6)])) hD (tp_in hG ht_h0 (by decide)) eq22 (fun f23 H locs hP hD hS g25 k24 => ?_))
  have hT := hT.up ht_h0 g25 k24 ⟨_, _, _, _, rfl, (by first | decide | omega | (omega))⟩
  have hR := hR.up ht_h0 (by decide) k24
  refine lv_aload_n hx hb dX7_copyFrom_24 rfl (lv_at hl 0 rfl) ?_
  refine lv_aload_n hx hb dX7_copyFrom_25 rfl (lv_at hl 1 rfl) ?_
  refine tpk_8 hT ht_h1 (fun o26_x0 o26_x1 o26_x2 o26_x3 hf_o26 ro26_0 => ?_)
  refine tpk_pos (tp_in hG ht_h1 (by decide)) hf_o26 (fun q27 eq27 => ?_)
  refine va_get (D := (dC, dI)) (ci := 7) (v := .int o26_x3) (C := RX7) (T := TX7) (N := 7) hx hb hts hfX7 hown hK hP q27 eq27 rfl 3 (by decide) (hts (.fieldLink RX7 38 "ColdShips$Tank" "warm" "I") wa_256) (fun _ h9 => h9) rfl dX7_copyFrom_26 ?_
  refine tpk_pos (tp_in hG ht_h0 (by decide)) g25 (fun q28 eq28 => ?_)
  refine va_put (D := (dC, dI)) (ci := 7) (v := .int o26_x3) (ty := .int) (C := RX7) (T := TX7) (N := 7) hx hb hts hfX7 tyX7 tyX7_ok nmX7 hown hK hP hD hS q28 eq28 rfl 3 (by decide) (hts (.fieldLink RX7 38 "ColdShips$Tank" "warm" "I") wa_256) (fun _ h9 => h9) rfl (tyX7_ok 3 (by decide)) rfl rfl (Nat.le_of_ble_eq_true rfl) dX7_copyFrom_29 (tp_k (.inr (7, [.int o4_x0, .int o14_x1, .int o20_x2, .int o26_x3, .ref (ρ h0 4), .ref (ρ h0 5), .ref (ρ h0 6)])) hD (tp_in hG ht_h0 (by decide)) eq28 (fun f29 H locs hP hD hS g31 k30 => ?_))
  have hT := hT.up ht_h0 g31 k30 ⟨_, _, _, _, rfl, (by first | decide | omega | (omega))⟩
  have hR := hR.up ht_h0 (by decide) k30
  refine lv_aload_n hx hb dX7_copyFrom_32 rfl (lv_at hl 1 rfl) ?_
  refine tpk_8 hT ht_h1 (fun o32_x0 o32_x1 o32_x2 o32_x3 hf_o32 ro32_0 => ?_)
  refine tpk_pos (tp_in hG ht_h1 (by decide)) hf_o32 (fun q33 eq33 => ?_)
  refine va_get (D := (dC, dI)) (ci := 7) (v := .ref (ρ h1 4)) (C := RX7) (T := TX7) (N := 7) hx hb hts hfX7 hown hK hP q33 eq33 rfl 4 (by decide) (hts (.fieldLink RX7 15 "ColdShips$Tank" "parts" "[I") wa_107) (fun _ h9 => h9) rfl dX7_copyFrom_33 ?_
  refine lv_iconst (v := 0) hx hb dX7_copyFrom_36 (by decide) ?_
  refine lv_aload_n hx hb dX7_copyFrom_37 rfl (lv_at hl 0 rfl) ?_
  refine tpk_pos (tp_in hG ht_h0 (by decide)) g31 (fun q34 eq34 => ?_)
  refine va_get (D := (dC, dI)) (ci := 7) (v := .ref (ρ h0 4)) (C := RX7) (T := TX7) (N := 7) hx hb hts hfX7 hown hK hP q34 eq34 rfl 4 (by decide) (hts (.fieldLink RX7 15 "ColdShips$Tank" "parts" "[I") wa_107) (fun _ h9 => h9) rfl dX7_copyFrom_38 ?_
  refine lv_iconst (v := 0) hx hb dX7_copyFrom_41 (by decide) ?_
  refine lv_bipush (v := 6) hx hb dX7_copyFrom_42 (by decide) ?_
  refine tpk_20 hT y1 y1n (fun g36 hf_o35 => ?_)
  refine tpk_20 hT y6 y6n (fun g38 hf_o37 => ?_)
  refine tpk_pos (tp_in hG y1 (by decide)) hf_o35 (fun q39 eq39 => ?_)
  refine tpk_pos (tp_in hG y6 (by decide)) hf_o37 (fun q40 eq40 => ?_)
  refine va_copyi hx hb (by rw [hml]; exact hl.1.symm) hown (hts (.methodLink RX7 74 arraycopyName) wa_1511) (hts (.native arraycopyName) wa_465) (hts (.static arraycopyName) wa_466) (hts (.initialized "java/lang/System") wa_467) hK hP hD hS q39 q40 0 0 eq39 eq40 rfl rfl rfl (by decide) (by decide) (by decide) (by decide) (by decide) (fun _ _ => rfl) (Nat.le_of_ble_eq_true rfl) (Nat.le_of_ble_eq_true rfl) dX7_copyFrom_44 (tp_k (.inl (κ 0, 6, .inl (va_cpy g36 g38 (0 : Int32).toNatClampNeg (0 : Int32).toNatClampNeg (6 : Int32).toNatClampNeg))) hD (tp_in hG y6 (by decide)) eq40 (fun f41 H locs hP hD hS g43 k42 => ?_))
  have hT := hT.up y6 g43 k42 (tp_o20 y6n)
  have hR := hR.up y6 (by decide) k42
  generalize (va_cpy g36 g38 (0 : Int32).toNatClampNeg (0 : Int32).toNatClampNeg (6 : Int32).toNatClampNeg) = g44 at g43
  exact W.vret hx hb hr (fun t ht hW => ⟨⟨f41, rfl, ⟨hT, hR, trivial⟩, by rw [ht]; exact hP, va_K.moved hW.alike hK, hD⟩, hS.F ht⟩) hS.2.2 dX7_copyFrom_47
