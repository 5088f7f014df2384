set_option maxHeartbeats 4000000 in
set_option maxRecDepth 100000 in
theorem c_fill_i6 (l : Launch) (dC : Nat → ClassId) (dI : Nat → Nat → Nat) (sz : Nat) (ha : Nat) (v : Int32) (kA : ClassId) (f0 : Nat → Int32)  : Met l yJ7_fill_53178 wsJ7_fill_53178 ({ frames := 2, cells := 0, slots := 0, locals := 400 }) (va_Pc [.ref ha, .int v] (pz_B dC dI [(kA, .int)] [(ha, .inl (kA, 6, .inl f0))] sz)) (va_Qv (fun (_ : Unit) => True) (fun (_ : Unit) (t : State) => ∃ g : Nat → Int32, pz_E dC dI [(kA, .int)] (va_A [(ha, .inl (kA, 6, .inl f0))] sz) [(ha, .inl (kA, 6, .inl g))] t) (va_A [(ha, .inl (kA, 6, .inl f0))] sz)) 0 0 (va_A [(ha, .inl (kA, 6, .inl f0))] sz) := by
  refine Met.ofW (cc := cJ7_fill_53178) (maxL := 4) (ret := none) (by decide) rfl ?_
  intro p e s m args below meth c s₁ B hml hv
  obtain ⟨rfl, hsz, hP, hK, hD0, hN⟩ := hv
  have hx := B.exec
  have hb := B.bytes
  have hr := B.returns
  have hts := atoms_spec (ws := wsJ7_fill_53178) B.pre
  have hown : s.vm.findClass RJ7 = some m.cls := findClass_of_methodNamed B.named
  have hlocks := B.notSynchronized
  subst hsz
  have hD := hD0.self (sz := s.heap.size)
  generalize hAe : va_A [(ha, .inl (kA, 6, .inl f0))] s.heap.size = A at hD ⊢
  have hA : ∀ q : Nat, s.heap.size ≤ q → A q := fun q h => by rw [← hAe]; exact Or.inr h
  have hS : va_S A s.heap s.heap [] := va_S.rf
  have hl := lv_entry ([.ref ha, .int v]) (n := 4) (Nat.le_of_ble_eq_true rfl)
  rw [lg_entry_eq]
  generalize (lg_sl ([.ref ha, .int v]) ++ List.replicate (4 - (lg_sl ([.ref ha, .int v])).length) Slot.unset).toArray = ls at hl ⊢
  have hl : lv_has ls 4 [(0, .ref ha), (1, .int v)] := hl
  refine lv_iconst (v := 0) hx hb dJ7_fill_53178_0 (by decide) ?_
  refine lv_istore_n (lv' := [(2, .int 0), (0, .ref ha), (1, .int v)]) hx hb dJ7_fill_53178_1 rfl hl (by decide) rfl (fun ls hl => ?_)
  refine lv_aload_n hx hb dJ7_fill_53178_2 rfl (lv_at hl 1 rfl) ?_
  refine va_alen hx hb hK hP 0 0 rfl rfl (rfl : Int32.ofNat 6 = (6 : Int32)) dJ7_fill_53178_3 ?_
  refine lv_istore_n (lv' := [(3, .int 6), (2, .int 0), (0, .ref ha), (1, .int v)]) hx hb dJ7_fill_53178_4 rfl hl (by decide) rfl (fun ls hl => ?_)
  refine pz_loop (fun n0 H locs ls => ∃ i : Int32, ∃ f : Nat → Int32, n0 = (6 - i.toInt).toNat ∧ (0 ≤ i.toInt ∧ i.toInt ≤ 6) ∧ va_P (dC, dI) vwCl [(ha, .inl (kA, 6, .inl f))] H ∧ va_D A [(ha, .inl (kA, 6, .inl f))] ∧ va_S A s.heap H locs ∧ lv_has ls 4 [(0, .ref ha), (1, .int v), (2, .int i), (3, .int 6)]) ?_ _ _ _ _ ⟨0, f0,  rfl, (by first | decide | omega),  hP.sub [0] rfl, hD.sub [0] (by decide) rfl, hS, lv_sub hl [2, 3, 1, 0] rfl⟩
  intro n0 H locs ls hI ih
  obtain ⟨i, f,  hn0, hi,  hP, hD, hS, hl⟩ := hI
  refine lv_iload_n hx hb dJ7_fill_53178_5 rfl (lv_at hl 2 rfl) ?_
  refine lv_iload_n hx hb dJ7_fill_53178_6 rfl (lv_at hl 3 rfl) ?_
  refine lv_icmp_ge (tgt := 20) hx hb dJ7_fill_53178_7 (by decide) (fun c1 => ?_) (fun c1 => ?_)
  · have ic1 : i.toInt ≥ 6 := zi_ge rfl rfl c1
    have hP9 := hP.sub (ws' := [(ha, .inl (kA, 6, .inl f))]) [0] rfl
    have hD9 := hD.sub (ws' := [(ha, .inl (kA, 6, .inl f))]) [0] (by decide +kernel) rfl
    have hK9 := hK.sub (tys' := [(kA, .int)]) [0] rfl
    exact W.vret hx hb hr (fun t ht hW => ⟨⟨(), rfl, trivial, ⟨f, by rw [ht]; exact hP9, va_K.moved hW.alike hK9, hD9⟩⟩, hS.F ht⟩) hS.2.2 dJ7_fill_53178_20
  · have ic1 : i.toInt < 6 := zi_gef rfl rfl c1
    refine lv_aload_n hx hb dJ7_fill_53178_10 rfl (lv_at hl 0 rfl) ?_
    refine lv_iload_n hx hb dJ7_fill_53178_11 rfl (lv_at hl 2 rfl) ?_
    refine lv_iload_n hx hb dJ7_fill_53178_12 rfl (lv_at hl 1 rfl) ?_
    refine va_iast hx hb hK hP hD hS 0 0 rfl rfl (vp_in_iff.mpr ⟨by omega, by omega⟩) dJ7_fill_53178_13 (fun H locs hP hD hS => ?_)
    have hP : va_P (dC, dI) vwCl [(ha, .inl (kA, 6, .inl (upd f i.toNatClampNeg v)))] H := hP
    have hD : va_D A [(ha, .inl (kA, 6, .inl (upd f i.toNatClampNeg v)))] := hD
    obtain ⟨z2, ez2⟩ : ∃ y : Int32, y = i + 1 := ⟨_, rfl⟩
    refine lv_iinc (v := z2) (lv' := [(2, .int z2), (0, .ref ha), (1, .int v), (3, .int 6)]) hx hb dJ7_fill_53178_14 hl (k := 2) rfl (by rw [ez2]; rfl) (by decide) rfl (fun ls hl => ?_)
    have iz2 : z2.toInt = i.toInt + 1 := zi_add ez2 rfl (show (1 : Int32).toInt = 1 from rfl) (by omega) (by omega)
    refine lv_goto (tgt := 5) hx hb dJ7_fill_53178_17 (by decide) ?_
    exact ih _ _ _ _ (by rw [hn0]; omega) ⟨z2, (upd f i.toNatClampNeg v),  rfl, (by first | decide | omega),  hP.sub [0] rfl, hD.sub [0] (by decide) rfl, hS, lv_sub hl [1, 2, 0, 3] rfl⟩
set_option maxHeartbeats 4000000 in
set_option maxRecDepth 100000 in
theorem c_fill_l64 (l : Launch) (dC : Nat → ClassId) (dI : Nat → Nat → Nat) (sz : Nat) (ha : Nat) (v : Int64) (kA : ClassId) (f0 : Nat → Int64)  : Met l yJ7_fill_d0a16 wsJ7_fill_d0a16 ({ frames := 2, cells := 0, slots := 0, locals := 400 }) (va_Pc [.ref ha, .long v] (pz_B dC dI [(kA, .long)] [(ha, .inl (kA, 64, .inr (.inl f0)))] sz)) (va_Qv (fun (_ : Unit) => True) (fun (_ : Unit) (t : State) => ∃ g : Nat → Int64, pz_E dC dI [(kA, .long)] (va_A [(ha, .inl (kA, 64, .inr (.inl f0)))] sz) [(ha, .inl (kA, 64, .inr (.inl g)))] t) (va_A [(ha, .inl (kA, 64, .inr (.inl f0)))] sz)) 0 0 (va_A [(ha, .inl (kA, 64, .inr (.inl f0)))] sz) := by
  refine Met.ofW (cc := cJ7_fill_d0a16) (maxL := 5) (ret := none) (by decide) rfl ?_
  intro p e s m args below meth c s₁ B hml hv
  obtain ⟨rfl, hsz, hP, hK, hD0, hN⟩ := hv
  have hx := B.exec
  have hb := B.bytes
  have hr := B.returns
  have hts := atoms_spec (ws := wsJ7_fill_d0a16) B.pre
  have hown : s.vm.findClass RJ7 = some m.cls := findClass_of_methodNamed B.named
  have hlocks := B.notSynchronized
  subst hsz
  have hD := hD0.self (sz := s.heap.size)
  generalize hAe : va_A [(ha, .inl (kA, 64, .inr (.inl f0)))] s.heap.size = A at hD ⊢
  have hA : ∀ q : Nat, s.heap.size ≤ q → A q := fun q h => by rw [← hAe]; exact Or.inr h
  have hS : va_S A s.heap s.heap [] := va_S.rf
  have hl := lv_entry ([.ref ha, .long v]) (n := 5) (Nat.le_of_ble_eq_true rfl)
  rw [lg_entry_eq]
  generalize (lg_sl ([.ref ha, .long v]) ++ List.replicate (5 - (lg_sl ([.ref ha, .long v])).length) Slot.unset).toArray = ls at hl ⊢
  have hl : lv_has ls 5 [(0, .ref ha), (1, .long v)] := hl
  refine lv_iconst (v := 0) hx hb dJ7_fill_d0a16_0 (by decide) ?_
  refine lv_istore_n (lv' := [(3, .int 0), (0, .ref ha), (1, .long v)]) hx hb dJ7_fill_d0a16_1 rfl hl (by decide) rfl (fun ls hl => ?_)
  refine lv_aload_n hx hb dJ7_fill_d0a16_2 rfl (lv_at hl 1 rfl) ?_
  refine va_alen hx hb hK hP 0 0 rfl rfl (rfl : Int32.ofNat 64 = (64 : Int32)) dJ7_fill_d0a16_3 ?_
  refine lv_istore (lv' := [(4, .int 64), (3, .int 0), (0, .ref ha), (1, .long v)]) hx hb dJ7_fill_d0a16_4 hl (by decide) rfl (fun ls hl => ?_)
  refine pz_loop (fun n0 H locs ls => ∃ i : Int32, ∃ f : Nat → Int64, n0 = (64 - i.toInt).toNat ∧ (0 ≤ i.toInt ∧ i.toInt ≤ 64) ∧ va_P (dC, dI) vwCl [(ha, .inl (kA, 64, .inr (.inl f)))] H ∧ va_D A [(ha, .inl (kA, 64, .inr (.inl f)))] ∧ va_S A s.heap H locs ∧ lv_has ls 5 [(0, .ref ha), (1, .long v), (3, .int i), (4, .int 64)]) ?_ _ _ _ _ ⟨0, f0,  rfl, (by first | decide | omega),  hP.sub [0] rfl, hD.sub [0] (by decide) rfl, hS, lv_sub hl [2, 3, 1, 0] rfl⟩
  intro n0 H locs ls hI ih
  obtain ⟨i, f,  hn0, hi,  hP, hD, hS, hl⟩ := hI
  refine lv_iload_n hx hb dJ7_fill_d0a16_6 rfl (lv_at hl 2 rfl) ?_
  refine lv_iload hx hb dJ7_fill_d0a16_7 (lv_at hl 3 rfl) ?_
  refine lv_icmp_ge (tgt := 22) hx hb dJ7_fill_d0a16_9 (by decide) (fun c1 => ?_) (fun c1 => ?_)
  · have ic1 : i.toInt ≥ 64 := zi_ge rfl rfl c1
    have hP9 := hP.sub (ws' := [(ha, .inl (kA, 64, .inr (.inl f)))]) [0] rfl
    have hD9 := hD.sub (ws' := [(ha, .inl (kA, 64, .inr (.inl f)))]) [0] (by decide +kernel) rfl
    have hK9 := hK.sub (tys' := [(kA, .long)]) [0] rfl
    exact W.vret hx hb hr (fun t ht hW => ⟨⟨(), rfl, trivial, ⟨f, by rw [ht]; exact hP9, va_K.moved hW.alike hK9, hD9⟩⟩, hS.F ht⟩) hS.2.2 dJ7_fill_d0a16_22
  · have ic1 : i.toInt < 64 := zi_gef rfl rfl c1
    refine lv_aload_n hx hb dJ7_fill_d0a16_12 rfl (lv_at hl 0 rfl) ?_
    refine lv_iload_n hx hb dJ7_fill_d0a16_13 rfl (lv_at hl 2 rfl) ?_
    refine lv_lload_n hx hb dJ7_fill_d0a16_14 rfl (lv_at hl 1 rfl) ?_
    refine va_last hx hb hK hP hD hS 0 0 rfl rfl (vp_in_iff.mpr ⟨by omega, by omega⟩) dJ7_fill_d0a16_15 (fun H locs hP hD hS => ?_)
    have hP : va_P (dC, dI) vwCl [(ha, .inl (kA, 64, .inr (.inl (vp_updL f i.toNatClampNeg v))))] H := hP
    have hD : va_D A [(ha, .inl (kA, 64, .inr (.inl (vp_updL f i.toNatClampNeg v))))] := hD
    obtain ⟨z2, ez2⟩ : ∃ y : Int32, y = i + 1 := ⟨_, rfl⟩
    refine lv_iinc (v := z2) (lv' := [(3, .int z2), (0, .ref ha), (1, .long v), (4, .int 64)]) hx hb dJ7_fill_d0a16_16 hl (k := 2) rfl (by rw [ez2]; rfl) (by decide) rfl (fun ls hl => ?_)
    have iz2 : z2.toInt = i.toInt + 1 := zi_add ez2 rfl (show (1 : Int32).toInt = 1 from rfl) (by omega) (by omega)
    refine lv_goto (tgt := 6) hx hb dJ7_fill_d0a16_19 (by decide) ?_
    exact ih _ _ _ _ (by rw [hn0]; omega) ⟨z2, (vp_updL f i.toNatClampNeg v),  rfl, (by first | decide | omega),  hP.sub [0] rfl, hD.sub [0] (by decide) rfl, hS, lv_sub hl [1, 2, 0, 3] rfl⟩
set_option maxHeartbeats 4000000 in
set_option maxRecDepth 100000 in
theorem c_rangeCheck (l : Launch) (dC : Nat → ClassId) (dI : Nat → Nat → Nat) (sz : Nat)  : Met l yJ7_rangeCheck_23922 wsJ7_rangeCheck_23922 ({ frames := 2, cells := 0, slots := 0, locals := 400 }) (va_Pc [.int 180, .int 0, .int 3] (pz_B dC dI [] [] sz)) (va_Qv (fun (_ : Unit) => True) (fun (_ : Unit) (_ : State) => True) (va_A [] sz)) 0 0 (va_A [] sz) := by
  refine Met.ofW (cc := cJ7_rangeCheck_23922) (maxL := 3) (ret := none) (by decide) rfl ?_
  intro p e s m args below meth c s₁ B hml hv
  obtain ⟨rfl, hsz, hP, hK, hD0, hN⟩ := hv
  have hx := B.exec
  have hb := B.bytes
  have hr := B.returns
  have hts := atoms_spec (ws := wsJ7_rangeCheck_23922) B.pre
  have hown : s.vm.findClass RJ7 = some m.cls := findClass_of_methodNamed B.named
  have hlocks := B.notSynchronized
  subst hsz
  have hD := hD0.self (sz := s.heap.size)
  generalize hAe : va_A [] s.heap.size = A at hD ⊢
  have hA : ∀ q : Nat, s.heap.size ≤ q → A q := fun q h => by rw [← hAe]; exact Or.inr h
  have hS : va_S A s.heap s.heap [] := va_S.rf
  have hl := lv_entry ([.int 180, .int 0, .int 3]) (n := 3) (Nat.le_of_ble_eq_true rfl)
  rw [lg_entry_eq]
  generalize (lg_sl ([.int 180, .int 0, .int 3]) ++ List.replicate (3 - (lg_sl ([.int 180, .int 0, .int 3])).length) Slot.unset).toArray = ls at hl ⊢
  have hl : lv_has ls 3 [(0, .int 180), (1, .int 0), (2, .int 3)] := hl
  refine lv_iload_n hx hb dJ7_rangeCheck_23922_0 rfl (lv_at hl 1 rfl) ?_
  refine lv_iload_n hx hb dJ7_rangeCheck_23922_1 rfl (lv_at hl 2 rfl) ?_
  refine lv_icmp_le (tgt := 46) hx hb dJ7_rangeCheck_23922_2 (by decide) (fun _ => ?_) (fun c9 => absurd c9 (by decide))
  refine lv_iload_n hx hb dJ7_rangeCheck_23922_46 rfl (lv_at hl 1 rfl) ?_
  refine lv_if_ge (tgt := 59) hx hb dJ7_rangeCheck_23922_47 (by decide) (fun _ => ?_) (fun c9 => absurd c9 (by decide))
  refine lv_iload_n hx hb dJ7_rangeCheck_23922_59 rfl (lv_at hl 2 rfl) ?_
  refine lv_iload_n hx hb dJ7_rangeCheck_23922_60 rfl (lv_at hl 0 rfl) ?_
  refine lv_icmp_le (tgt := 73) hx hb dJ7_rangeCheck_23922_61 (by decide) (fun _ => ?_) (fun c9 => absurd c9 (by decide))
  exact W.vret hx hb hr (fun t ht hW => ⟨⟨(), rfl, trivial, trivial⟩, hS.F ht⟩) hS.2.2 dJ7_rangeCheck_23922_73
set_option maxHeartbeats 4000000 in
set_option maxRecDepth 100000 in
theorem c_fill_lr (l : Launch) (dC : Nat → ClassId) (dI : Nat → Nat → Nat) (sz : Nat) (ha : Nat) (v : Int64) (kA : ClassId) (f0 : Nat → Int64)  : Met l yJ7_fill_bad5a wsJ7_fill_bad5a ({ frames := 3, cells := 0, slots := 0, locals := 800 }) (va_Pc [.ref ha, .int 0, .int 3, .long v] (pz_B dC dI [(kA, .long)] [(ha, .inl (kA, 180, .inr (.inl f0)))] sz)) (va_Qv (fun (_ : Unit) => True) (fun (_ : Unit) (t : State) => ∃ g : Nat → Int64, pz_E dC dI [(kA, .long)] (va_A [(ha, .inl (kA, 180, .inr (.inl f0)))] sz) [(ha, .inl (kA, 180, .inr (.inl g)))] t) (va_A [(ha, .inl (kA, 180, .inr (.inl f0)))] sz)) 0 0 (va_A [(ha, .inl (kA, 180, .inr (.inl f0)))] sz) := by
  refine Met.ofW (cc := cJ7_fill_bad5a) (maxL := 6) (ret := none) (by decide) rfl ?_
  intro p e s m args below meth c s₁ B hml hv
  obtain ⟨rfl, hsz, hP, hK, hD0, hN⟩ := hv
  have hx := B.exec
  have hb := B.bytes
  have hr := B.returns
  have hts := atoms_spec (ws := wsJ7_fill_bad5a) B.pre
  have hown : s.vm.findClass RJ7 = some m.cls := findClass_of_methodNamed B.named
  have hlocks := B.notSynchronized
  subst hsz
  have hD := hD0.self (sz := s.heap.size)
  generalize hAe : va_A [(ha, .inl (kA, 180, .inr (.inl f0)))] s.heap.size = A at hD ⊢
  have hA : ∀ q : Nat, s.heap.size ≤ q → A q := fun q h => by rw [← hAe]; exact Or.inr h
  have hS : va_S A s.heap s.heap [] := va_S.rf
  have hl := lv_entry ([.ref ha, .int 0, .int 3, .long v]) (n := 6) (Nat.le_of_ble_eq_true rfl)
  rw [lg_entry_eq]
  generalize (lg_sl ([.ref ha, .int 0, .int 3, .long v]) ++ List.replicate (6 - (lg_sl ([.ref ha, .int 0, .int 3, .long v])).length) Slot.unset).toArray = ls at hl ⊢
  have hl : lv_has ls 6 [(0, .ref ha), (1, .int 0), (2, .int 3), (3, .long v)] := hl
  refine lv_aload_n hx hb dJ7_fill_bad5a_0 rfl (lv_at hl 0 rfl) ?_
  refine va_alen hx hb hK hP 0 0 rfl rfl (rfl : Int32.ofNat 180 = (180 : Int32)) dJ7_fill_bad5a_1 ?_
  refine lv_iload_n hx hb dJ7_fill_bad5a_2 rfl (lv_at hl 1 rfl) ?_
  refine lv_iload_n hx hb dJ7_fill_bad5a_3 rfl (lv_at hl 2 rfl) ?_
  have hPc := hP.sub (ws' := []) [] rfl
  have hDc := hD.sub (ws' := []) [] (by decide +kernel) rfl
  have hKc := hK.sub (tys' := []) [] rfl
  have hFc := va_free (wc := []) hD hS hA [] rfl
  refine va_callv (va_runS (As := [.int 180, .int 0, .int 3]) (rest := []) ⟨hx, hb, hml, hown, hts⟩ (c_rangeCheck l dC dI _ ) (va_cwS 3 hts gJ7_fill_bad5a_J7_rangeCheck_23922 rfl rfl rfl (by decide +kernel) ⟨Nat.le_of_ble_eq_true rfl, Nat.le_of_ble_eq_true rfl⟩) ⟨pz_blind, pz_pre hPc hKc hDc hN⟩ rfl rfl hl.1 rfl (lv_room (Nat.le_of_ble_eq_true rfl)) dJ7_fill_bad5a_4 ⟨Nat.le_of_ble_eq_true rfl, Nat.le_of_ble_eq_true rfl⟩) hS (fun q _ h => hFc q h) hFc (fun u t H1 locs ht hvm hw hB hz1 hk1 hS => ?_)
  obtain ⟨hP, hD⟩ := va_join (wr := [(ha, .inl (kA, 180, .inr (.inl f0)))]) (w1 := []) hP hD [] [0] rfl rfl (by decide +kernel) (by decide +kernel) hk1 hFc pz_P0 pz_D0
  generalize H1 = H at hP hS ⊢
  have hP : va_P (dC, dI) vwCl [(ha, .inl (kA, 180, .inr (.inl f0)))] H := hP
  have hD : va_D A [(ha, .inl (kA, 180, .inr (.inl f0)))] := hD
  have hK : va_K (dC, dI) vwCl [(kA, .long)] s := hK
  refine lv_iload_n hx hb dJ7_fill_bad5a_7 rfl (lv_at hl 1 rfl) ?_
  refine lv_istore (lv' := [(5, .int 0), (0, .ref ha), (1, .int 0), (2, .int 3), (3, .long v)]) hx hb dJ7_fill_bad5a_8 hl (by decide) rfl (fun ls hl => ?_)
  refine lv_iload hx hb dJ7_fill_bad5a_10 (lv_at hl 0 rfl) ?_
  refine lv_iload_n hx hb dJ7_fill_bad5a_12 rfl (lv_at hl 3 rfl) ?_
  refine lv_icmp_ge (tgt := 27) hx hb dJ7_fill_bad5a_13 (by decide) (fun c9 => absurd c9 (by decide)) (fun _ => ?_)
  refine lv_aload_n hx hb dJ7_fill_bad5a_16 rfl (lv_at hl 1 rfl) ?_
  refine lv_iload hx hb dJ7_fill_bad5a_17 (lv_at hl 0 rfl) ?_
  refine lv_lload_n hx hb dJ7_fill_bad5a_19 rfl (lv_at hl 4 rfl) ?_
  refine va_last hx hb hK hP hD hS 0 0 rfl rfl (vp_in_iff.mpr ⟨by decide, by decide⟩) dJ7_fill_bad5a_20 (fun H locs hP hD hS => ?_)
  have hP : va_P (dC, dI) vwCl [(ha, .inl (kA, 180, .inr (.inl (vp_updL f0 0 v))))] H := hP
  have hD : va_D A [(ha, .inl (kA, 180, .inr (.inl (vp_updL f0 0 v))))] := hD
  generalize (vp_updL f0 0 v) = g2 at hP hD
  refine lv_iinc (v := 1) (lv' := [(5, .int 1), (0, .ref ha), (1, .int 0), (2, .int 3), (3, .long v)]) hx hb dJ7_fill_bad5a_21 hl (k := 0) rfl (by decide) (by decide) rfl (fun ls hl => ?_)
  refine lv_goto (tgt := 10) hx hb dJ7_fill_bad5a_24 (by decide) ?_
  refine lv_iload hx hb dJ7_fill_bad5a_10 (lv_at hl 0 rfl) ?_
  refine lv_iload_n hx hb dJ7_fill_bad5a_12 rfl (lv_at hl 3 rfl) ?_
  refine lv_icmp_ge (tgt := 27) hx hb dJ7_fill_bad5a_13 (by decide) (fun c9 => absurd c9 (by decide)) (fun _ => ?_)
  refine lv_aload_n hx hb dJ7_fill_bad5a_16 rfl (lv_at hl 1 rfl) ?_
  refine lv_iload hx hb dJ7_fill_bad5a_17 (lv_at hl 0 rfl) ?_
  refine lv_lload_n hx hb dJ7_fill_bad5a_19 rfl (lv_at hl 4 rfl) ?_
  refine va_last hx hb hK hP hD hS 0 0 rfl rfl (vp_in_iff.mpr ⟨by decide, by decide⟩) dJ7_fill_bad5a_20 (fun H locs hP hD hS => ?_)
  have hP : va_P (dC, dI) vwCl [(ha, .inl (kA, 180, .inr (.inl (vp_updL g2 1 v))))] H := hP
  have hD : va_D A [(ha, .inl (kA, 180, .inr (.inl (vp_updL g2 1 v))))] := hD
  generalize (vp_updL g2 1 v) = g3 at hP hD
  refine lv_iinc (v := 2) (lv' := [(5, .int 2), (0, .ref ha), (1, .int 0), (2, .int 3), (3, .long v)]) hx hb dJ7_fill_bad5a_21 hl (k := 0) rfl (by decide) (by decide) rfl (fun ls hl => ?_)
  refine lv_goto (tgt := 10) hx hb dJ7_fill_bad5a_24 (by decide) ?_
  refine lv_iload hx hb dJ7_fill_bad5a_10 (lv_at hl 0 rfl) ?_
  refine lv_iload_n hx hb dJ7_fill_bad5a_12 rfl (lv_at hl 3 rfl) ?_
  refine lv_icmp_ge (tgt := 27) hx hb dJ7_fill_bad5a_13 (by decide) (fun c9 => absurd c9 (by decide)) (fun _ => ?_)
  refine lv_aload_n hx hb dJ7_fill_bad5a_16 rfl (lv_at hl 1 rfl) ?_
  refine lv_iload hx hb dJ7_fill_bad5a_17 (lv_at hl 0 rfl) ?_
  refine lv_lload_n hx hb dJ7_fill_bad5a_19 rfl (lv_at hl 4 rfl) ?_
  refine va_last hx hb hK hP hD hS 0 0 rfl rfl (vp_in_iff.mpr ⟨by decide, by decide⟩) dJ7_fill_bad5a_20 (fun H locs hP hD hS => ?_)
  have hP : va_P (dC, dI) vwCl [(ha, .inl (kA, 180, .inr (.inl (vp_updL g3 2 v))))] H := hP
  have hD : va_D A [(ha, .inl (kA, 180, .inr (.inl (vp_updL g3 2 v))))] := hD
  generalize (vp_updL g3 2 v) = g4 at hP hD
  refine lv_iinc (v := 3) (lv' := [(5, .int 3), (0, .ref ha), (1, .int 0), (2, .int 3), (3, .long v)]) hx hb dJ7_fill_bad5a_21 hl (k := 0) rfl (by decide) (by decide) rfl (fun ls hl => ?_)
  refine lv_goto (tgt := 10) hx hb dJ7_fill_bad5a_24 (by decide) ?_
  refine lv_iload hx hb dJ7_fill_bad5a_10 (lv_at hl 0 rfl) ?_
  refine lv_iload_n hx hb dJ7_fill_bad5a_12 rfl (lv_at hl 3 rfl) ?_
  refine lv_icmp_ge (tgt := 27) hx hb dJ7_fill_bad5a_13 (by decide) (fun _ => ?_) (fun c9 => absurd c9 (by decide))
  have hP9 := hP.sub (ws' := [(ha, .inl (kA, 180, .inr (.inl g4)))]) [0] rfl
  have hD9 := hD.sub (ws' := [(ha, .inl (kA, 180, .inr (.inl g4)))]) [0] (by decide +kernel) rfl
  have hK9 := hK.sub (tys' := [(kA, .long)]) [0] rfl
  exact W.vret hx hb hr (fun t ht hW => ⟨⟨(), rfl, trivial, ⟨g4, by rw [ht]; exact hP9, va_K.moved hW.alike hK9, hD9⟩⟩, hS.F ht⟩) hS.2.2 dJ7_fill_bad5a_27
set_option maxHeartbeats 4000000 in
set_option maxRecDepth 100000 in
theorem c_X8_begin (l : Launch) (dC : Nat → ClassId) (dI : Nat → Nat → Nat) (sz : Nat) (t0 : Nat) (xa : Int32) (xb : Int32) (xc : Int32) (xd : Int32) (t_0 : Int32) (t_1 : Int32) (t_2 : Int32) (t_3 : Int32) (t_4 : Int32) (twh : Nat) (twf : Nat) (kW : ClassId) (fW : Nat → Int32)  : Met l yX8_begin wsX8_begin ({ frames := 3, cells := 0, slots := 0, locals := 800 }) (va_Pc [.ref t0, .int xa, .int xb, .int xc, .int xd] (pz_B dC dI [(kW, .int)] [(t0, .inr (8, [.int t_0, .int t_1, .int t_2, .int t_3, .int t_4, .ref twh, .ref twf])), (twh, .inl (kW, 6, .inl fW))] sz)) (va_Qv (fun (_ : Unit) => True) (fun (_ : Unit) (_ : State) => True) (va_A [(t0, .inr (8, [.int t_0, .int t_1, .int t_2, .int t_3, .int t_4, .ref twh, .ref twf])), (twh, .inl (kW, 6, .inl fW))] sz)) 0 0 (va_A [(t0, .inr (8, [.int t_0, .int t_1, .int t_2, .int t_3, .int t_4, .ref twh, .ref twf])), (twh, .inl (kW, 6, .inl fW))] sz) := by
  refine Met.ofW (cc := cX8_begin) (maxL := 5) (ret := none) (by decide) rfl ?_
  intro p e s m args below meth c s₁ B hml hv
  obtain ⟨rfl, hsz, hP, hK, hD0, hN⟩ := hv
  have hx := B.exec
  have hb := B.bytes
  have hr := B.returns
  have hts := atoms_spec (ws := wsX8_begin) B.pre
  have hown : s.vm.findClass RX8 = some m.cls := findClass_of_methodNamed B.named
  have hlocks := B.notSynchronized
  subst hsz
  have hD := hD0.self (sz := s.heap.size)
  generalize hAe : va_A [(t0, .inr (8, [.int t_0, .int t_1, .int t_2, .int t_3, .int t_4, .ref twh, .ref twf])), (twh, .inl (kW, 6, .inl fW))] s.heap.size = A at hD ⊢
  have hA : ∀ q : Nat, s.heap.size ≤ q → A q := fun q h => by rw [← hAe]; exact Or.inr h
  have hS : va_S A s.heap s.heap [] := va_S.rf
  have hl := lv_entry ([.ref t0, .int xa, .int xb, .int xc, .int xd]) (n := 5) (Nat.le_of_ble_eq_true rfl)
  rw [lg_entry_eq]
  generalize (lg_sl ([.ref t0, .int xa, .int xb, .int xc, .int xd]) ++ List.replicate (5 - (lg_sl ([.ref t0, .int xa, .int xb, .int xc, .int xd])).length) Slot.unset).toArray = ls at hl ⊢
  have hl : lv_has ls 5 [(0, .ref t0), (1, .int xa), (2, .int xb), (3, .int xc), (4, .int xd)] := hl
  have hfX8 : ∀ w ∈ wsX80, w ∈ wsX8_begin := fun w h => List.mem_cons_of_mem _ (List.mem_append_right _ h)
  refine lv_aload_n hx hb dX8_begin_0 rfl (lv_at hl 0 rfl) ?_
  refine lv_iload_n hx hb dX8_begin_1 rfl (lv_at hl 1 rfl) ?_
  refine va_put (D := (dC, dI)) (ci := 8) (v := .int xa) (ty := .int) (C := RX8) (T := TX8) (N := 7) hx hb hts hfX8 tyX8 tyX8_ok nmX8 hown hK hP hD hS 0 rfl rfl 0 (by decide) (hts (.fieldLink RX8 22 "ColdShips$Terminal" "store" "I") (by decide +kernel)) (fun _ h9 => h9) rfl (by decide +kernel) rfl rfl (Nat.le_of_ble_eq_true rfl) dX8_begin_2 (fun H locs hP hD hS => ?_)
  have hP : va_P (dC, dI) vwCl [(t0, .inr (8, [.int xa, .int t_1, .int t_2, .int t_3, .int t_4, .ref twh, .ref twf])), (twh, .inl (kW, 6, .inl fW))] H := hP
  have hD : va_D A [(t0, .inr (8, [.int xa, .int t_1, .int t_2, .int t_3, .int t_4, .ref twh, .ref twf])), (twh, .inl (kW, 6, .inl fW))] := hD
  refine lv_aload_n hx hb dX8_begin_5 rfl (lv_at hl 0 rfl) ?_
  refine lv_iload_n hx hb dX8_begin_6 rfl (lv_at hl 2 rfl) ?_
  refine va_put (D := (dC, dI)) (ci := 8) (v := .int xb) (ty := .int) (C := RX8) (T := TX8) (N := 7) hx hb hts hfX8 tyX8 tyX8_ok nmX8 hown hK hP hD hS 0 rfl rfl 1 (by decide) (hts (.fieldLink RX8 25 "ColdShips$Terminal" "cap" "I") (by decide +kernel)) (fun _ h9 => h9) rfl (by decide +kernel) rfl rfl (Nat.le_of_ble_eq_true rfl) dX8_begin_7 (fun H locs hP hD hS => ?_)
  have hP : va_P (dC, dI) vwCl [(t0, .inr (8, [.int xa, .int xb, .int t_2, .int t_3, .int t_4, .ref twh, .ref twf])), (twh, .inl (kW, 6, .inl fW))] H := hP
  have hD : va_D A [(t0, .inr (8, [.int xa, .int xb, .int t_2, .int t_3, .int t_4, .ref twh, .ref twf])), (twh, .inl (kW, 6, .inl fW))] := hD
  refine lv_aload_n hx hb dX8_begin_10 rfl (lv_at hl 0 rfl) ?_
  refine lv_iconst (v := 1) hx hb dX8_begin_11 (by decide) ?_
  refine lv_iload_n hx hb dX8_begin_12 rfl (lv_at hl 3 rfl) ?_
  refine va_mmax hx hb (by rw [hml]; exact hl.1.symm) hown (hts (.methodLink RX8 28 Lib.Math.max.name) (by decide +kernel)) (hts (.static Lib.Math.max.name) (by decide +kernel)) (hts (.initialized "java/lang/Math") (by decide +kernel)) (hts (.code Lib.Math.max.name Lib.Math.max.code 2 (some .int)) (by decide +kernel)) (Nat.le_of_ble_eq_true rfl) (Nat.le_of_ble_eq_true rfl) (Nat.le_of_ble_eq_true rfl) (Nat.le_of_ble_eq_true rfl) dX8_begin_13 ?_
  refine lv_topi (fun z1 ez1 => ?_)
  refine va_put (D := (dC, dI)) (ci := 8) (v := .int z1) (ty := .int) (C := RX8) (T := TX8) (N := 7) hx hb hts hfX8 tyX8 tyX8_ok nmX8 hown hK hP hD hS 0 rfl rfl 2 (by decide) (hts (.fieldLink RX8 9 "ColdShips$Terminal" "rate" "I") (by decide +kernel)) (fun _ h9 => h9) rfl (by decide +kernel) rfl rfl (Nat.le_of_ble_eq_true rfl) dX8_begin_16 (fun H locs hP hD hS => ?_)
  have hP : va_P (dC, dI) vwCl [(t0, .inr (8, [.int xa, .int xb, .int z1, .int t_3, .int t_4, .ref twh, .ref twf])), (twh, .inl (kW, 6, .inl fW))] H := hP
  have hD : va_D A [(t0, .inr (8, [.int xa, .int xb, .int z1, .int t_3, .int t_4, .ref twh, .ref twf])), (twh, .inl (kW, 6, .inl fW))] := hD
  refine lv_aload_n hx hb dX8_begin_19 rfl (lv_at hl 0 rfl) ?_
  refine lv_iload hx hb dX8_begin_20 (lv_at hl 4 rfl) ?_
  refine va_put (D := (dC, dI)) (ci := 8) (v := .int xd) (ty := .int) (C := RX8) (T := TX8) (N := 7) hx hb hts hfX8 tyX8 tyX8_ok nmX8 hown hK hP hD hS 0 rfl rfl 3 (by decide) (hts (.fieldLink RX8 34 "ColdShips$Terminal" "depth" "I") (by decide +kernel)) (fun _ h9 => h9) rfl (by decide +kernel) rfl rfl (Nat.le_of_ble_eq_true rfl) dX8_begin_22 (fun H locs hP hD hS => ?_)
  have hP : va_P (dC, dI) vwCl [(t0, .inr (8, [.int xa, .int xb, .int z1, .int xd, .int t_4, .ref twh, .ref twf])), (twh, .inl (kW, 6, .inl fW))] H := hP
  have hD : va_D A [(t0, .inr (8, [.int xa, .int xb, .int z1, .int xd, .int t_4, .ref twh, .ref twf])), (twh, .inl (kW, 6, .inl fW))] := hD
  refine lv_aload_n hx hb dX8_begin_25 rfl (lv_at hl 0 rfl) ?_
  refine lv_sipush (v := 1000) hx hb dX8_begin_26 (by decide) ?_
  refine va_put (D := (dC, dI)) (ci := 8) (v := .int 1000) (ty := .int) (C := RX8) (T := TX8) (N := 7) hx hb hts hfX8 tyX8 tyX8_ok nmX8 hown hK hP hD hS 0 rfl rfl 4 (by decide) (hts (.fieldLink RX8 37 "ColdShips$Terminal" "heat" "I") (by decide +kernel)) (fun _ h9 => h9) rfl (by decide +kernel) rfl rfl (Nat.le_of_ble_eq_true rfl) dX8_begin_29 (fun H locs hP hD hS => ?_)
  have hP : va_P (dC, dI) vwCl [(t0, .inr (8, [.int xa, .int xb, .int z1, .int xd, .int 1000, .ref twh, .ref twf])), (twh, .inl (kW, 6, .inl fW))] H := hP
  have hD : va_D A [(t0, .inr (8, [.int xa, .int xb, .int z1, .int xd, .int 1000, .ref twh, .ref twf])), (twh, .inl (kW, 6, .inl fW))] := hD
  refine lv_aload_n hx hb dX8_begin_32 rfl (lv_at hl 0 rfl) ?_
  refine va_get (D := (dC, dI)) (ci := 8) (v := .ref twh) (C := RX8) (T := TX8) (N := 7) hx hb hts hfX8 hown hK hP 0 rfl rfl 5 (by decide) (hts (.fieldLink RX8 15 "ColdShips$Terminal" "wayHours" "[I") (by decide +kernel)) (fun _ h9 => h9) rfl dX8_begin_33 ?_
  refine lv_iconst (v := 0) hx hb dX8_begin_36 (by decide) ?_
  have hPc := hP.sub (ws' := [(twh, .inl (kW, 6, .inl fW))]) [1] rfl
  have hDc := hD.sub (ws' := [(twh, .inl (kW, 6, .inl fW))]) [1] (by decide +kernel) rfl
  have hKc := hK.sub (tys' := [(kW, .int)]) [0] rfl
  have hFc := va_free (wc := [(twh, .inl (kW, 6, .inl fW))]) hD hS hA [1] rfl
  refine va_callv (va_runS (As := [.ref twh, .int 0]) (rest := []) ⟨hx, hb, hml, hown, hts⟩ (c_fill_i6 l dC dI _ twh 0 kW fW) (va_cwS 2 hts gX8_begin_J7_fill_53178 rfl rfl rfl (by decide +kernel) ⟨Nat.le_of_ble_eq_true rfl, Nat.le_of_ble_eq_true rfl⟩) ⟨pz_blind, pz_pre hPc hKc hDc hN⟩ rfl rfl hl.1 rfl (lv_room (Nat.le_of_ble_eq_true rfl)) dX8_begin_37 ⟨Nat.le_of_ble_eq_true rfl, Nat.le_of_ble_eq_true rfl⟩) hS (fun q _ h => hFc q h) hFc (fun u t H1 locs ht hvm hw hB hz1 hk1 hS => ?_)
  obtain ⟨g_3, hP1, hK1, hD1⟩ := hB
  rw [ht] at hP1
  have hK1 := va_K.moved hvm.symm hK1
  obtain ⟨hP, hD⟩ := va_join (wr := [(t0, .inr (8, [.int xa, .int xb, .int z1, .int xd, .int 1000, .ref twh, .ref twf]))]) (w1 := [(twh, .inl (kW, 6, .inl g_3))]) hP hD [1] [0] rfl rfl (by decide +kernel) (by decide +kernel) hk1 hFc hP1 hD1
  have hK := hK.app hK1
  generalize H1 = H at hP hS ⊢
  have hP : va_P (dC, dI) vwCl [(t0, .inr (8, [.int xa, .int xb, .int z1, .int xd, .int 1000, .ref twh, .ref twf])), (twh, .inl (kW, 6, .inl g_3))] H := hP
  have hD : va_D A [(t0, .inr (8, [.int xa, .int xb, .int z1, .int xd, .int 1000, .ref twh, .ref twf])), (twh, .inl (kW, 6, .inl g_3))] := hD
  have hK : va_K (dC, dI) vwCl [(kW, .int), (kW, .int)] s := hK
  exact W.vret hx hb hr (fun t ht hW => ⟨⟨(), rfl, trivial, trivial⟩, hS.F ht⟩) hS.2.2 dX8_begin_40
set_option maxHeartbeats 4000000 in
set_option maxRecDepth 100000 in
theorem c_X11_terminal (l : Launch) (dC : Nat → ClassId) (dI : Nat → Nat → Nat) (sz : Nat) (h0 : Nat) (xa : Int32) (xb : Int32) (xc : Int32) (xd : Int32) (wd : Nat) (im : Nat) (wa : Nat) (re : Nat) (rk : Nat) (pl : Nat) (fz : Int32) (bo : Int32) (li : Int32) (og : Int32) (tdA : Nat) (seA : Nat) (teA : Nat) (shA : Nat) (coA : Nat) (slS : Nat) (brS : Nat) (foS : Nat) (prR : Nat) (rdR : Nat) (laR : Nat) (caR : Nat) (kTe : ClassId) (fTe : Nat → Option Nat) (t0 : Nat) (t_0 : Int32) (t_1 : Int32) (t_2 : Int32) (t_3 : Int32) (t_4 : Int32) (twh : Nat) (twf : Nat) (kW : ClassId) (fW : Nat → Int32) (hE_te : fTe 0 = some t0) : Met l yX11_terminal wsX11_terminal ({ frames := 7, cells := 0, slots := 0, locals := 2400 }) (va_Pc [.ref h0, .int xa, .int xb, .int xc, .int xd] (pz_B dC dI [(kTe, .object RX8), (kW, .int)] [(h0, .inr (11, [.ref wd, .ref im, .ref wa, .ref re, .ref rk, .ref pl, .int fz])), (wd, .inr (10, [.int 0, .int bo, .int li, .int og, .int 0, .int 0, .int 0, .ref tdA, .ref seA, .ref teA, .ref shA, .ref coA, .ref slS, .ref brS, .ref foS, .ref prR, .ref rdR, .ref laR, .ref caR])), (teA, .inl (kTe, 6, .inr (.inr (.inr (.inr fTe))))), (t0, .inr (8, [.int t_0, .int t_1, .int t_2, .int t_3, .int t_4, .ref twh, .ref twf])), (twh, .inl (kW, 6, .inl fW))] sz)) (va_Qi (fun (r : Int32) (_ : Unit) => r = F_terminal xa xb xc xd) (fun (_ : Unit) (_ : State) => True) (va_A [(h0, .inr (11, [.ref wd, .ref im, .ref wa, .ref re, .ref rk, .ref pl, .int fz])), (wd, .inr (10, [.int 0, .int bo, .int li, .int og, .int 0, .int 0, .int 0, .ref tdA, .ref seA, .ref teA, .ref shA, .ref coA, .ref slS, .ref brS, .ref foS, .ref prR, .ref rdR, .ref laR, .ref caR])), (teA, .inl (kTe, 6, .inr (.inr (.inr (.inr fTe))))), (t0, .inr (8, [.int t_0, .int t_1, .int t_2, .int t_3, .int t_4, .ref twh, .ref twf])), (twh, .inl (kW, 6, .inl fW))] sz)) 0 0 (va_A [(h0, .inr (11, [.ref wd, .ref im, .ref wa, .ref re, .ref rk, .ref pl, .int fz])), (wd, .inr (10, [.int 0, .int bo, .int li, .int og, .int 0, .int 0, .int 0, .ref tdA, .ref seA, .ref teA, .ref shA, .ref coA, .ref slS, .ref brS, .ref foS, .ref prR, .ref rdR, .ref laR, .ref caR])), (teA, .inl (kTe, 6, .inr (.inr (.inr (.inr fTe))))), (t0, .inr (8, [.int t_0, .int t_1, .int t_2, .int t_3, .int t_4, .ref twh, .ref twf])), (twh, .inl (kW, 6, .inl fW))] sz) := by
  refine Met.ofW (cc := cX11_terminal) (maxL := 6) (ret := some .int) (by decide) rfl ?_
  intro p e s m args below meth c s₁ B hml hv
  obtain ⟨rfl, hsz, hP, hK, hD0, hN⟩ := hv
  have hx := B.exec
  have hb := B.bytes
  have hr := B.returns
  have hts := atoms_spec (ws := wsX11_terminal) B.pre
  have hown : s.vm.findClass RX11 = some m.cls := findClass_of_methodNamed B.named
  have hlocks := B.notSynchronized
  subst hsz
  have hD := hD0.self (sz := s.heap.size)
  generalize hAe : va_A [(h0, .inr (11, [.ref wd, .ref im, .ref wa, .ref re, .ref rk, .ref pl, .int fz])), (wd, .inr (10, [.int 0, .int bo, .int li, .int og, .int 0, .int 0, .int 0, .ref tdA, .ref seA, .ref teA, .ref shA, .ref coA, .ref slS, .ref brS, .ref foS, .ref prR, .ref rdR, .ref laR, .ref caR])), (teA, .inl (kTe, 6, .inr (.inr (.inr (.inr fTe))))), (t0, .inr (8, [.int t_0, .int t_1, .int t_2, .int t_3, .int t_4, .ref twh, .ref twf])), (twh, .inl (kW, 6, .inl fW))] s.heap.size = A at hD ⊢
  have hA : ∀ q : Nat, s.heap.size ≤ q → A q := fun q h => by rw [← hAe]; exact Or.inr h
  have hS : va_S A s.heap s.heap [] := va_S.rf
  have hl := lv_entry ([.ref h0, .int xa, .int xb, .int xc, .int xd]) (n := 6) (Nat.le_of_ble_eq_true rfl)
  rw [lg_entry_eq]
  generalize (lg_sl ([.ref h0, .int xa, .int xb, .int xc, .int xd]) ++ List.replicate (6 - (lg_sl ([.ref h0, .int xa, .int xb, .int xc, .int xd])).length) Slot.unset).toArray = ls at hl ⊢
  have hl : lv_has ls 6 [(0, .ref h0), (1, .int xa), (2, .int xb), (3, .int xc), (4, .int xd)] := hl
  have hfX11 : ∀ w ∈ wsX110, w ∈ wsX11_terminal := fun w h => List.mem_cons_of_mem _ (List.mem_append_left _ (List.mem_append_left _ (List.mem_append_right _ h)))
  have hfX10 : ∀ w ∈ wsX100, w ∈ wsX11_terminal := fun w h => List.mem_cons_of_mem _ (List.mem_append_left _ (List.mem_append_right _ h))
  have hfX8 : ∀ w ∈ wsX80, w ∈ wsX11_terminal := fun w h => List.mem_cons_of_mem _ (List.mem_append_right _ h)
  refine lv_iload_n hx hb dX11_terminal_0 rfl (lv_at hl 2 rfl) ?_
  refine lv_iconst (v := 0) hx hb dX11_terminal_1 (by decide) ?_
  refine lv_ldc (own := RX11) (v := 500000) hx hb hown (hts (.constant RX11 50 (500000)) (by decide +kernel)) dX11_terminal_2 ?_
  have hPc := hP.sub (ws' := []) [] rfl
  have hDc := hD.sub (ws' := []) [] (by decide +kernel) rfl
  have hKc := hK.sub (tys' := []) [] rfl
  refine pz_calli (va_runS (As := [.int xb, .int 0, .int 500000]) (rest := []) ⟨hx, hb, hml, hown, hts⟩ (c_X11_within l dC dI _ xb 0 500000 (xb.toInt) (0) (500000) rfl rfl rfl) (va_cwS 3 hts gX11_terminal_X11_within rfl rfl rfl (by decide +kernel) ⟨Nat.le_of_ble_eq_true rfl, Nat.le_of_ble_eq_true rfl⟩) ⟨pz_blind, pz_pre hPc hKc hDc hN⟩ rfl rfl hl.1 rfl (lv_room (Nat.le_of_ble_eq_true rfl)) dX11_terminal_4 ⟨Nat.le_of_ble_eq_true rfl, Nat.le_of_ble_eq_true rfl⟩) (fun r1 hw => ?_)
  rcases hw with ⟨rfl, h2⟩ | ⟨rfl, h2⟩
  · refine lv_if_eq (tgt := 41) hx hb dX11_terminal_7 (by decide) (fun c9 => absurd c9 (by decide)) (fun _ => ?_)
    refine lv_iload_n hx hb dX11_terminal_10 rfl (lv_at hl 1 rfl) ?_
    refine lv_iconst (v := 0) hx hb dX11_terminal_11 (by decide) ?_
    refine lv_iload_n hx hb dX11_terminal_12 rfl (lv_at hl 2 rfl) ?_
    have hPc := hP.sub (ws' := []) [] rfl
    have hDc := hD.sub (ws' := []) [] (by decide +kernel) rfl
    have hKc := hK.sub (tys' := []) [] rfl
    refine pz_calli (va_runS (As := [.int xa, .int 0, .int xb]) (rest := []) ⟨hx, hb, hml, hown, hts⟩ (c_X11_within l dC dI _ xa 0 xb (xa.toInt) (0) (xb.toInt) rfl rfl rfl) (va_cwS 3 hts gX11_terminal_X11_within rfl rfl rfl (by decide +kernel) ⟨Nat.le_of_ble_eq_true rfl, Nat.le_of_ble_eq_true rfl⟩) ⟨pz_blind, pz_pre hPc hKc hDc hN⟩ rfl rfl hl.1 rfl (lv_room (Nat.le_of_ble_eq_true rfl)) dX11_terminal_13 ⟨Nat.le_of_ble_eq_true rfl, Nat.le_of_ble_eq_true rfl⟩) (fun r3 hw => ?_)
    rcases hw with ⟨rfl, h4⟩ | ⟨rfl, h4⟩
    · refine lv_if_eq (tgt := 41) hx hb dX11_terminal_16 (by decide) (fun c9 => absurd c9 (by decide)) (fun _ => ?_)
      refine lv_iload_n hx hb dX11_terminal_19 rfl (lv_at hl 3 rfl) ?_
      refine lv_iconst (v := 1) hx hb dX11_terminal_20 (by decide) ?_
      refine lv_sipush (v := 10000) hx hb dX11_terminal_21 (by decide) ?_
      have hPc := hP.sub (ws' := []) [] rfl
      have hDc := hD.sub (ws' := []) [] (by decide +kernel) rfl
      have hKc := hK.sub (tys' := []) [] rfl
      refine pz_calli (va_runS (As := [.int xc, .int 1, .int 10000]) (rest := []) ⟨hx, hb, hml, hown, hts⟩ (c_X11_within l dC dI _ xc 1 10000 (xc.toInt) (1) (10000) rfl rfl rfl) (va_cwS 3 hts gX11_terminal_X11_within rfl rfl rfl (by decide +kernel) ⟨Nat.le_of_ble_eq_true rfl, Nat.le_of_ble_eq_true rfl⟩) ⟨pz_blind, pz_pre hPc hKc hDc hN⟩ rfl rfl hl.1 rfl (lv_room (Nat.le_of_ble_eq_true rfl)) dX11_terminal_24 ⟨Nat.le_of_ble_eq_true rfl, Nat.le_of_ble_eq_true rfl⟩) (fun r5 hw => ?_)
      rcases hw with ⟨rfl, h6⟩ | ⟨rfl, h6⟩
      · refine lv_if_eq (tgt := 41) hx hb dX11_terminal_27 (by decide) (fun c9 => absurd c9 (by decide)) (fun _ => ?_)
        refine lv_iload hx hb dX11_terminal_30 (lv_at hl 4 rfl) ?_
        refine lv_iconst (v := 0) hx hb dX11_terminal_32 (by decide) ?_
        refine lv_bipush (v := 30) hx hb dX11_terminal_33 (by decide) ?_
        have hPc := hP.sub (ws' := []) [] rfl
        have hDc := hD.sub (ws' := []) [] (by decide +kernel) rfl
        have hKc := hK.sub (tys' := []) [] rfl
        refine pz_calli (va_runS (As := [.int xd, .int 0, .int 30]) (rest := []) ⟨hx, hb, hml, hown, hts⟩ (c_X11_within l dC dI _ xd 0 30 (xd.toInt) (0) (30) rfl rfl rfl) (va_cwS 3 hts gX11_terminal_X11_within rfl rfl rfl (by decide +kernel) ⟨Nat.le_of_ble_eq_true rfl, Nat.le_of_ble_eq_true rfl⟩) ⟨pz_blind, pz_pre hPc hKc hDc hN⟩ rfl rfl hl.1 rfl (lv_room (Nat.le_of_ble_eq_true rfl)) dX11_terminal_35 ⟨Nat.le_of_ble_eq_true rfl, Nat.le_of_ble_eq_true rfl⟩) (fun r7 hw => ?_)
        rcases hw with ⟨rfl, h8⟩ | ⟨rfl, h8⟩
        · refine lv_if_ne (tgt := 47) hx hb dX11_terminal_38 (by decide) (fun _ => ?_) (fun c9 => absurd c9 (by decide))
          refine lv_aload_n hx hb dX11_terminal_47 rfl (lv_at hl 0 rfl) ?_
          refine va_get (D := (dC, dI)) (ci := 11) (v := .ref wd) (C := RX11) (T := TX11) (N := 7) hx hb hts hfX11 hown hK hP 0 rfl rfl 0 (by decide) (hts (.fieldLink RX11 10 "ColdShips" "world" "LColdShips$World;") (by decide +kernel)) (fun _ h9 => h9) rfl dX11_terminal_48 ?_
          refine va_getN (D := (dC, dI)) (ci := 10) (v := .int 0) (C := RX10) (T := TX10) (N := 19) hx hb hts hfX10 hown hK hP 1 rfl rfl 4 (by decide) (va_Nw.use rfl (hN.1 (.fieldLinkNest RX11 59 "ColdShips$World" "terminalCount" "I" "ColdShips") (by decide +kernel))) (fun _ h9 => h9) rfl dX11_terminal_51 ?_
          refine lv_bipush (v := 6) hx hb dX11_terminal_54 (by decide) ?_
          refine lv_icmp_lt (tgt := 66) hx hb dX11_terminal_56 (by decide) (fun _ => ?_) (fun c9 => absurd c9 (by decide))
          refine lv_aload_n hx hb dX11_terminal_66 rfl (lv_at hl 0 rfl) ?_
          refine va_get (D := (dC, dI)) (ci := 11) (v := .ref wd) (C := RX11) (T := TX11) (N := 7) hx hb hts hfX11 hown hK hP 0 rfl rfl 0 (by decide) (hts (.fieldLink RX11 10 "ColdShips" "world" "LColdShips$World;") (by decide +kernel)) (fun _ h9 => h9) rfl dX11_terminal_67 ?_
          refine va_getN (D := (dC, dI)) (ci := 10) (v := .int 0) (C := RX10) (T := TX10) (N := 19) hx hb hts hfX10 hown hK hP 1 rfl rfl 4 (by decide) (va_Nw.use rfl (hN.1 (.fieldLinkNest RX11 59 "ColdShips$World" "terminalCount" "I" "ColdShips") (by decide +kernel))) (fun _ h9 => h9) rfl dX11_terminal_70 ?_
          refine lv_istore (lv' := [(5, .int 0), (0, .ref h0), (1, .int xa), (2, .int xb), (3, .int xc), (4, .int xd)]) hx hb dX11_terminal_73 hl (by decide) rfl (fun ls hl => ?_)
          refine lv_aload_n hx hb dX11_terminal_75 rfl (lv_at hl 1 rfl) ?_
          refine va_get (D := (dC, dI)) (ci := 11) (v := .ref wd) (C := RX11) (T := TX11) (N := 7) hx hb hts hfX11 hown hK hP 0 rfl rfl 0 (by decide) (hts (.fieldLink RX11 10 "ColdShips" "world" "LColdShips$World;") (by decide +kernel)) (fun _ h9 => h9) rfl dX11_terminal_76 ?_
          refine va_getN (D := (dC, dI)) (ci := 10) (v := .ref teA) (C := RX10) (T := TX10) (N := 19) hx hb hts hfX10 hown hK hP 1 rfl rfl 9 (by decide) (va_Nw.use rfl (hN.1 (.fieldLinkNest RX11 63 "ColdShips$World" "terminals" "[LColdShips$Terminal;" "ColdShips") (by decide +kernel))) (fun _ h9 => h9) rfl dX11_terminal_79 ?_
          refine lv_iload hx hb dX11_terminal_82 (lv_at hl 0 rfl) ?_
          refine va_aldq hx hb hK hP 2 0 rfl rfl (vp_in_iff.mpr ⟨by decide, by decide⟩) dX11_terminal_84 ?_
          refine W.eq (g2 := F0 m 85 ls (.ref t0 :: [])) (congrArg (fun o => F0 m 85 ls (va_rf o :: [])) hE_te) ?_
          refine lv_iload_n hx hb dX11_terminal_85 rfl (lv_at hl 2 rfl) ?_
          refine lv_iload_n hx hb dX11_terminal_86 rfl (lv_at hl 3 rfl) ?_
          refine lv_iload_n hx hb dX11_terminal_87 rfl (lv_at hl 4 rfl) ?_
          refine lv_iload hx hb dX11_terminal_88 (lv_at hl 5 rfl) ?_
          have hPc := hP.sub (ws' := [(t0, .inr (8, [.int t_0, .int t_1, .int t_2, .int t_3, .int t_4, .ref twh, .ref twf])), (twh, .inl (kW, 6, .inl fW))]) [3, 4] rfl
          have hDc := hD.sub (ws' := [(t0, .inr (8, [.int t_0, .int t_1, .int t_2, .int t_3, .int t_4, .ref twh, .ref twf])), (twh, .inl (kW, 6, .inl fW))]) [3, 4] (by decide +kernel) rfl
          have hKc := hK.sub (tys' := [(kW, .int)]) [1] rfl
          have hFc := va_free (wc := [(t0, .inr (8, [.int t_0, .int t_1, .int t_2, .int t_3, .int t_4, .ref twh, .ref twf])), (twh, .inl (kW, 6, .inl fW))]) hD hS hA [3, 4] rfl
          refine va_callv (va_runV (As := [.int xa, .int xb, .int xc, .int xd]) (rest := []) ⟨hx, hb, hml, hown, hts⟩ (c_X8_begin l dC dI _ t0 xa xb xc xd t_0 t_1 t_2 t_3 t_4 twh twf kW fW) (cwV 4 hts gX11_terminal_X8_begin rfl rfl rfl (by decide +kernel) ⟨Nat.le_of_ble_eq_true rfl, Nat.le_of_ble_eq_true rfl⟩) ⟨pz_blind, va_recv hKc hPc (ci := 8) (q0 := 0) rfl rfl, pz_pre hPc hKc hDc hN⟩ rfl rfl hl.1 rfl (lv_room (Nat.le_of_ble_eq_true rfl)) dX11_terminal_90 ⟨Nat.le_of_ble_eq_true rfl, Nat.le_of_ble_eq_true rfl⟩) hS (fun q _ h => hFc q h) hFc (fun u t H1 locs ht hvm hw hB hz1 hk1 hS => ?_)
          obtain ⟨hP, hD⟩ := va_join (wr := [(h0, .inr (11, [.ref wd, .ref im, .ref wa, .ref re, .ref rk, .ref pl, .int fz])), (wd, .inr (10, [.int 0, .int bo, .int li, .int og, .int 0, .int 0, .int 0, .ref tdA, .ref seA, .ref teA, .ref shA, .ref coA, .ref slS, .ref brS, .ref foS, .ref prR, .ref rdR, .ref laR, .ref caR])), (teA, .inl (kTe, 6, .inr (.inr (.inr (.inr fTe)))))]) (w1 := []) hP hD [3, 4] [0, 1, 2] rfl rfl (by decide +kernel) (by decide +kernel) hk1 hFc pz_P0 pz_D0
          generalize H1 = H at hP hS ⊢
          have hP : va_P (dC, dI) vwCl [(h0, .inr (11, [.ref wd, .ref im, .ref wa, .ref re, .ref rk, .ref pl, .int fz])), (wd, .inr (10, [.int 0, .int bo, .int li, .int og, .int 0, .int 0, .int 0, .ref tdA, .ref seA, .ref teA, .ref shA, .ref coA, .ref slS, .ref brS, .ref foS, .ref prR, .ref rdR, .ref laR, .ref caR])), (teA, .inl (kTe, 6, .inr (.inr (.inr (.inr fTe)))))] H := hP
          have hD : va_D A [(h0, .inr (11, [.ref wd, .ref im, .ref wa, .ref re, .ref rk, .ref pl, .int fz])), (wd, .inr (10, [.int 0, .int bo, .int li, .int og, .int 0, .int 0, .int 0, .ref tdA, .ref seA, .ref teA, .ref shA, .ref coA, .ref slS, .ref brS, .ref foS, .ref prR, .ref rdR, .ref laR, .ref caR])), (teA, .inl (kTe, 6, .inr (.inr (.inr (.inr fTe)))))] := hD
          have hK : va_K (dC, dI) vwCl [(kTe, .object RX8), (kW, .int)] s := hK
          refine lv_aload_n hx hb dX11_terminal_93 rfl (lv_at hl 1 rfl) ?_
          refine va_get (D := (dC, dI)) (ci := 11) (v := .ref wd) (C := RX11) (T := TX11) (N := 7) hx hb hts hfX11 hown hK hP 0 rfl rfl 0 (by decide) (hts (.fieldLink RX11 10 "ColdShips" "world" "LColdShips$World;") (by decide +kernel)) (fun _ h9 => h9) rfl dX11_terminal_94 ?_
          refine lv_dup hx hb dX11_terminal_97 rfl ?_
          refine va_getN (D := (dC, dI)) (ci := 10) (v := .int 0) (C := RX10) (T := TX10) (N := 19) hx hb hts hfX10 hown hK hP 1 rfl rfl 4 (by decide) (va_Nw.use rfl (hN.1 (.fieldLinkNest RX11 59 "ColdShips$World" "terminalCount" "I" "ColdShips") (by decide +kernel))) (fun _ h9 => h9) rfl dX11_terminal_98 ?_
          refine lv_iconst (v := 1) hx hb dX11_terminal_101 (by decide) ?_
          refine lv_iadd hx hb dX11_terminal_102 ?_
          refine lv_topi (fun z10 ez10 => ?_)
          obtain rfl : z10 = 1 := ez10.trans (by first | rfl | decide)
          refine va_putN (D := (dC, dI)) (ci := 10) (v := .int 1) (ty := .int) (C := RX10) (T := TX10) (N := 19) hx hb hts hfX10 tyX10 tyX10_ok nmX10 hown hK hP hD hS 1 rfl rfl 4 (by decide) (va_Nw.use rfl (hN.1 (.fieldLinkNest RX11 59 "ColdShips$World" "terminalCount" "I" "ColdShips") (by decide +kernel))) (fun _ h9 => h9) rfl (by decide +kernel) rfl rfl (Nat.le_of_ble_eq_true rfl) dX11_terminal_103 (fun H locs hP hD hS => ?_)
          have hP : va_P (dC, dI) vwCl [(h0, .inr (11, [.ref wd, .ref im, .ref wa, .ref re, .ref rk, .ref pl, .int fz])), (wd, .inr (10, [.int 0, .int bo, .int li, .int og, .int 1, .int 0, .int 0, .ref tdA, .ref seA, .ref teA, .ref shA, .ref coA, .ref slS, .ref brS, .ref foS, .ref prR, .ref rdR, .ref laR, .ref caR])), (teA, .inl (kTe, 6, .inr (.inr (.inr (.inr fTe)))))] H := hP
          have hD : va_D A [(h0, .inr (11, [.ref wd, .ref im, .ref wa, .ref re, .ref rk, .ref pl, .int fz])), (wd, .inr (10, [.int 0, .int bo, .int li, .int og, .int 1, .int 0, .int 0, .ref tdA, .ref seA, .ref teA, .ref shA, .ref coA, .ref slS, .ref brS, .ref foS, .ref prR, .ref rdR, .ref laR, .ref caR])), (teA, .inl (kTe, 6, .inr (.inr (.inr (.inr fTe)))))] := hD
          refine lv_aload_n hx hb dX11_terminal_106 rfl (lv_at hl 1 rfl) ?_
          refine lv_iload hx hb dX11_terminal_107 (lv_at hl 0 rfl) ?_
          have hPc := hP.sub (ws' := [(h0, .inr (11, [.ref wd, .ref im, .ref wa, .ref re, .ref rk, .ref pl, .int fz]))]) [0] rfl
          have hDc := hD.sub (ws' := [(h0, .inr (11, [.ref wd, .ref im, .ref wa, .ref re, .ref rk, .ref pl, .int fz]))]) [0] (by decide +kernel) rfl
          have hKc := hK.sub (tys' := []) [] rfl
          have hFc := va_free (wc := [(h0, .inr (11, [.ref wd, .ref im, .ref wa, .ref re, .ref rk, .ref pl, .int fz]))]) hD hS hA [0] rfl
          refine va_calli (va_runV (As := [.int 0]) (rest := []) ⟨hx, hb, hml, hown, hts⟩ (c_X11_accept l dC dI _ h0 wd im wa re rk pl fz 0) (cwV 1 hts gX11_terminal_X11_accept rfl rfl rfl (by decide +kernel) ⟨Nat.le_of_ble_eq_true rfl, Nat.le_of_ble_eq_true rfl⟩) ⟨pz_blind, va_recv hKc hPc (ci := 11) (q0 := 0) rfl rfl, pz_pre hPc hKc hDc hN⟩ rfl rfl hl.1 rfl (lv_room (Nat.le_of_ble_eq_true rfl)) dX11_terminal_109 ⟨Nat.le_of_ble_eq_true rfl, Nat.le_of_ble_eq_true rfl⟩) hS (fun q _ h => hFc q h) hFc (fun r11 u t H1 locs ht hvm hw hB hz1 hk1 hS => ?_)
          obtain ⟨hP, hD⟩ := va_join (wr := [(wd, .inr (10, [.int 0, .int bo, .int li, .int og, .int 1, .int 0, .int 0, .ref tdA, .ref seA, .ref teA, .ref shA, .ref coA, .ref slS, .ref brS, .ref foS, .ref prR, .ref rdR, .ref laR, .ref caR])), (teA, .inl (kTe, 6, .inr (.inr (.inr (.inr fTe)))))]) (w1 := []) hP hD [0] [1, 2] rfl rfl (by decide +kernel) (by decide +kernel) hk1 hFc pz_P0 pz_D0
          generalize H1 = H at hP hS ⊢
          have hP : va_P (dC, dI) vwCl [(wd, .inr (10, [.int 0, .int bo, .int li, .int og, .int 1, .int 0, .int 0, .ref tdA, .ref seA, .ref teA, .ref shA, .ref coA, .ref slS, .ref brS, .ref foS, .ref prR, .ref rdR, .ref laR, .ref caR])), (teA, .inl (kTe, 6, .inr (.inr (.inr (.inr fTe)))))] H := hP
          have hD : va_D A [(wd, .inr (10, [.int 0, .int bo, .int li, .int og, .int 1, .int 0, .int 0, .ref tdA, .ref seA, .ref teA, .ref shA, .ref coA, .ref slS, .ref brS, .ref foS, .ref prR, .ref rdR, .ref laR, .ref caR])), (teA, .inl (kTe, 6, .inr (.inr (.inr (.inr fTe)))))] := hD
          have hK : va_K (dC, dI) vwCl [(kTe, .object RX8), (kW, .int)] s := hK
          obtain rfl : 0 = r11 := hw.symm
          exact W.iret (v := 0) hx hb hr (fun t ht hW => ⟨⟨0, (), rfl, (by unfold F_terminal; (repeat' split) <;> first | rfl | (exfalso; omega) | (refine Int32.toInt_inj.mp ?_; show _ = (0 : Int); omega)), trivial⟩, hS.F ht⟩) hS.2.2 dX11_terminal_112
        · refine lv_if_ne (tgt := 47) hx hb dX11_terminal_38 (by decide) (fun c9 => absurd c9 (by decide)) (fun _ => ?_)
          refine lv_aload_n hx hb dX11_terminal_41 rfl (lv_at hl 0 rfl) ?_
          refine lv_iconst (v := (-1)) hx hb dX11_terminal_42 (by decide) ?_
          have hPc := hP.sub (ws' := [(h0, .inr (11, [.ref wd, .ref im, .ref wa, .ref re, .ref rk, .ref pl, .int fz]))]) [0] rfl
          have hDc := hD.sub (ws' := [(h0, .inr (11, [.ref wd, .ref im, .ref wa, .ref re, .ref rk, .ref pl, .int fz]))]) [0] (by decide +kernel) rfl
          have hKc := hK.sub (tys' := []) [] rfl
          have hFc := va_free (wc := [(h0, .inr (11, [.ref wd, .ref im, .ref wa, .ref re, .ref rk, .ref pl, .int fz]))]) hD hS hA [0] rfl
          refine va_calli (va_runV (As := [.int (-1)]) (rest := []) ⟨hx, hb, hml, hown, hts⟩ (c_X11_refuse l dC dI _ h0 wd im wa re rk pl fz (-1)) (cwV 1 hts gX11_terminal_X11_refuse rfl rfl rfl (by decide +kernel) ⟨Nat.le_of_ble_eq_true rfl, Nat.le_of_ble_eq_true rfl⟩) ⟨pz_blind, va_recv hKc hPc (ci := 11) (q0 := 0) rfl rfl, pz_pre hPc hKc hDc hN⟩ rfl rfl hl.1 rfl (lv_room (Nat.le_of_ble_eq_true rfl)) dX11_terminal_43 ⟨Nat.le_of_ble_eq_true rfl, Nat.le_of_ble_eq_true rfl⟩) hS (fun q _ h => hFc q h) hFc (fun r12 u t H1 locs ht hvm hw hB hz1 hk1 hS => ?_)
          obtain ⟨hP, hD⟩ := va_join (wr := [(wd, .inr (10, [.int 0, .int bo, .int li, .int og, .int 0, .int 0, .int 0, .ref tdA, .ref seA, .ref teA, .ref shA, .ref coA, .ref slS, .ref brS, .ref foS, .ref prR, .ref rdR, .ref laR, .ref caR])), (teA, .inl (kTe, 6, .inr (.inr (.inr (.inr fTe))))), (t0, .inr (8, [.int t_0, .int t_1, .int t_2, .int t_3, .int t_4, .ref twh, .ref twf])), (twh, .inl (kW, 6, .inl fW))]) (w1 := []) hP hD [0] [1, 2, 3, 4] rfl rfl (by decide +kernel) (by decide +kernel) hk1 hFc pz_P0 pz_D0
          generalize H1 = H at hP hS ⊢
          have hP : va_P (dC, dI) vwCl [(wd, .inr (10, [.int 0, .int bo, .int li, .int og, .int 0, .int 0, .int 0, .ref tdA, .ref seA, .ref teA, .ref shA, .ref coA, .ref slS, .ref brS, .ref foS, .ref prR, .ref rdR, .ref laR, .ref caR])), (teA, .inl (kTe, 6, .inr (.inr (.inr (.inr fTe))))), (t0, .inr (8, [.int t_0, .int t_1, .int t_2, .int t_3, .int t_4, .ref twh, .ref twf])), (twh, .inl (kW, 6, .inl fW))] H := hP
          have hD : va_D A [(wd, .inr (10, [.int 0, .int bo, .int li, .int og, .int 0, .int 0, .int 0, .ref tdA, .ref seA, .ref teA, .ref shA, .ref coA, .ref slS, .ref brS, .ref foS, .ref prR, .ref rdR, .ref laR, .ref caR])), (teA, .inl (kTe, 6, .inr (.inr (.inr (.inr fTe))))), (t0, .inr (8, [.int t_0, .int t_1, .int t_2, .int t_3, .int t_4, .ref twh, .ref twf])), (twh, .inl (kW, 6, .inl fW))] := hD
          have hK : va_K (dC, dI) vwCl [(kTe, .object RX8), (kW, .int)] s := hK
          obtain rfl : (-1) = r12 := hw.symm
          exact W.iret (v := (-1)) hx hb hr (fun t ht hW => ⟨⟨(-1), (), rfl, (by unfold F_terminal; (repeat' split) <;> first | rfl | (exfalso; omega) | (refine Int32.toInt_inj.mp ?_; show _ = (0 : Int); omega)), trivial⟩, hS.F ht⟩) hS.2.2 dX11_terminal_46
      · refine lv_if_eq (tgt := 41) hx hb dX11_terminal_27 (by decide) (fun _ => ?_) (fun c9 => absurd c9 (by decide))
        refine lv_aload_n hx hb dX11_terminal_41 rfl (lv_at hl 0 rfl) ?_
        refine lv_iconst (v := (-1)) hx hb dX11_terminal_42 (by decide) ?_
        have hPc := hP.sub (ws' := [(h0, .inr (11, [.ref wd, .ref im, .ref wa, .ref re, .ref rk, .ref pl, .int fz]))]) [0] rfl
        have hDc := hD.sub (ws' := [(h0, .inr (11, [.ref wd, .ref im, .ref wa, .ref re, .ref rk, .ref pl, .int fz]))]) [0] (by decide +kernel) rfl
        have hKc := hK.sub (tys' := []) [] rfl
        have hFc := va_free (wc := [(h0, .inr (11, [.ref wd, .ref im, .ref wa, .ref re, .ref rk, .ref pl, .int fz]))]) hD hS hA [0] rfl
        refine va_calli (va_runV (As := [.int (-1)]) (rest := []) ⟨hx, hb, hml, hown, hts⟩ (c_X11_refuse l dC dI _ h0 wd im wa re rk pl fz (-1)) (cwV 1 hts gX11_terminal_X11_refuse rfl rfl rfl (by decide +kernel) ⟨Nat.le_of_ble_eq_true rfl, Nat.le_of_ble_eq_true rfl⟩) ⟨pz_blind, va_recv hKc hPc (ci := 11) (q0 := 0) rfl rfl, pz_pre hPc hKc hDc hN⟩ rfl rfl hl.1 rfl (lv_room (Nat.le_of_ble_eq_true rfl)) dX11_terminal_43 ⟨Nat.le_of_ble_eq_true rfl, Nat.le_of_ble_eq_true rfl⟩) hS (fun q _ h => hFc q h) hFc (fun r13 u t H1 locs ht hvm hw hB hz1 hk1 hS => ?_)
        obtain ⟨hP, hD⟩ := va_join (wr := [(wd, .inr (10, [.int 0, .int bo, .int li, .int og, .int 0, .int 0, .int 0, .ref tdA, .ref seA, .ref teA, .ref shA, .ref coA, .ref slS, .ref brS, .ref foS, .ref prR, .ref rdR, .ref laR, .ref caR])), (teA, .inl (kTe, 6, .inr (.inr (.inr (.inr fTe))))), (t0, .inr (8, [.int t_0, .int t_1, .int t_2, .int t_3, .int t_4, .ref twh, .ref twf])), (twh, .inl (kW, 6, .inl fW))]) (w1 := []) hP hD [0] [1, 2, 3, 4] rfl rfl (by decide +kernel) (by decide +kernel) hk1 hFc pz_P0 pz_D0
        generalize H1 = H at hP hS ⊢
        have hP : va_P (dC, dI) vwCl [(wd, .inr (10, [.int 0, .int bo, .int li, .int og, .int 0, .int 0, .int 0, .ref tdA, .ref seA, .ref teA, .ref shA, .ref coA, .ref slS, .ref brS, .ref foS, .ref prR, .ref rdR, .ref laR, .ref caR])), (teA, .inl (kTe, 6, .inr (.inr (.inr (.inr fTe))))), (t0, .inr (8, [.int t_0, .int t_1, .int t_2, .int t_3, .int t_4, .ref twh, .ref twf])), (twh, .inl (kW, 6, .inl fW))] H := hP
        have hD : va_D A [(wd, .inr (10, [.int 0, .int bo, .int li, .int og, .int 0, .int 0, .int 0, .ref tdA, .ref seA, .ref teA, .ref shA, .ref coA, .ref slS, .ref brS, .ref foS, .ref prR, .ref rdR, .ref laR, .ref caR])), (teA, .inl (kTe, 6, .inr (.inr (.inr (.inr fTe))))), (t0, .inr (8, [.int t_0, .int t_1, .int t_2, .int t_3, .int t_4, .ref twh, .ref twf])), (twh, .inl (kW, 6, .inl fW))] := hD
        have hK : va_K (dC, dI) vwCl [(kTe, .object RX8), (kW, .int)] s := hK
        obtain rfl : (-1) = r13 := hw.symm
        exact W.iret (v := (-1)) hx hb hr (fun t ht hW => ⟨⟨(-1), (), rfl, (by unfold F_terminal; (repeat' split) <;> first | rfl | (exfalso; omega) | (refine Int32.toInt_inj.mp ?_; show _ = (0 : Int); omega)), trivial⟩, hS.F ht⟩) hS.2.2 dX11_terminal_46
    · refine lv_if_eq (tgt := 41) hx hb dX11_terminal_16 (by decide) (fun _ => ?_) (fun c9 => absurd c9 (by decide))
      refine lv_aload_n hx hb dX11_terminal_41 rfl (lv_at hl 0 rfl) ?_
      refine lv_iconst (v := (-1)) hx hb dX11_terminal_42 (by decide) ?_
      have hPc := hP.sub (ws' := [(h0, .inr (11, [.ref wd, .ref im, .ref wa, .ref re, .ref rk, .ref pl, .int fz]))]) [0] rfl
      have hDc := hD.sub (ws' := [(h0, .inr (11, [.ref wd, .ref im, .ref wa, .ref re, .ref rk, .ref pl, .int fz]))]) [0] (by decide +kernel) rfl
      have hKc := hK.sub (tys' := []) [] rfl
      have hFc := va_free (wc := [(h0, .inr (11, [.ref wd, .ref im, .ref wa, .ref re, .ref rk, .ref pl, .int fz]))]) hD hS hA [0] rfl
      refine va_calli (va_runV (As := [.int (-1)]) (rest := []) ⟨hx, hb, hml, hown, hts⟩ (c_X11_refuse l dC dI _ h0 wd im wa re rk pl fz (-1)) (cwV 1 hts gX11_terminal_X11_refuse rfl rfl rfl (by decide +kernel) ⟨Nat.le_of_ble_eq_true rfl, Nat.le_of_ble_eq_true rfl⟩) ⟨pz_blind, va_recv hKc hPc (ci := 11) (q0 := 0) rfl rfl, pz_pre hPc hKc hDc hN⟩ rfl rfl hl.1 rfl (lv_room (Nat.le_of_ble_eq_true rfl)) dX11_terminal_43 ⟨Nat.le_of_ble_eq_true rfl, Nat.le_of_ble_eq_true rfl⟩) hS (fun q _ h => hFc q h) hFc (fun r14 u t H1 locs ht hvm hw hB hz1 hk1 hS => ?_)
      obtain ⟨hP, hD⟩ := va_join (wr := [(wd, .inr (10, [.int 0, .int bo, .int li, .int og, .int 0, .int 0, .int 0, .ref tdA, .ref seA, .ref teA, .ref shA, .ref coA, .ref slS, .ref brS, .ref foS, .ref prR, .ref rdR, .ref laR, .ref caR])), (teA, .inl (kTe, 6, .inr (.inr (.inr (.inr fTe))))), (t0, .inr (8, [.int t_0, .int t_1, .int t_2, .int t_3, .int t_4, .ref twh, .ref twf])), (twh, .inl (kW, 6, .inl fW))]) (w1 := []) hP hD [0] [1, 2, 3, 4] rfl rfl (by decide +kernel) (by decide +kernel) hk1 hFc pz_P0 pz_D0
      generalize H1 = H at hP hS ⊢
      have hP : va_P (dC, dI) vwCl [(wd, .inr (10, [.int 0, .int bo, .int li, .int og, .int 0, .int 0, .int 0, .ref tdA, .ref seA, .ref teA, .ref shA, .ref coA, .ref slS, .ref brS, .ref foS, .ref prR, .ref rdR, .ref laR, .ref caR])), (teA, .inl (kTe, 6, .inr (.inr (.inr (.inr fTe))))), (t0, .inr (8, [.int t_0, .int t_1, .int t_2, .int t_3, .int t_4, .ref twh, .ref twf])), (twh, .inl (kW, 6, .inl fW))] H := hP
      have hD : va_D A [(wd, .inr (10, [.int 0, .int bo, .int li, .int og, .int 0, .int 0, .int 0, .ref tdA, .ref seA, .ref teA, .ref shA, .ref coA, .ref slS, .ref brS, .ref foS, .ref prR, .ref rdR, .ref laR, .ref caR])), (teA, .inl (kTe, 6, .inr (.inr (.inr (.inr fTe))))), (t0, .inr (8, [.int t_0, .int t_1, .int t_2, .int t_3, .int t_4, .ref twh, .ref twf])), (twh, .inl (kW, 6, .inl fW))] := hD
      have hK : va_K (dC, dI) vwCl [(kTe, .object RX8), (kW, .int)] s := hK
      obtain rfl : (-1) = r14 := hw.symm
      exact W.iret (v := (-1)) hx hb hr (fun t ht hW => ⟨⟨(-1), (), rfl, (by unfold F_terminal; (repeat' split) <;> first | rfl | (exfalso; omega) | (refine Int32.toInt_inj.mp ?_; show _ = (0 : Int); omega)), trivial⟩, hS.F ht⟩) hS.2.2 dX11_terminal_46
  · refine lv_if_eq (tgt := 41) hx hb dX11_terminal_7 (by decide) (fun _ => ?_) (fun c9 => absurd c9 (by decide))
    refine lv_aload_n hx hb dX11_terminal_41 rfl (lv_at hl 0 rfl) ?_
    refine lv_iconst (v := (-1)) hx hb dX11_terminal_42 (by decide) ?_
    have hPc := hP.sub (ws' := [(h0, .inr (11, [.ref wd, .ref im, .ref wa, .ref re, .ref rk, .ref pl, .int fz]))]) [0] rfl
    have hDc := hD.sub (ws' := [(h0, .inr (11, [.ref wd, .ref im, .ref wa, .ref re, .ref rk, .ref pl, .int fz]))]) [0] (by decide +kernel) rfl
    have hKc := hK.sub (tys' := []) [] rfl
    have hFc := va_free (wc := [(h0, .inr (11, [.ref wd, .ref im, .ref wa, .ref re, .ref rk, .ref pl, .int fz]))]) hD hS hA [0] rfl
    refine va_calli (va_runV (As := [.int (-1)]) (rest := []) ⟨hx, hb, hml, hown, hts⟩ (c_X11_refuse l dC dI _ h0 wd im wa re rk pl fz (-1)) (cwV 1 hts gX11_terminal_X11_refuse rfl rfl rfl (by decide +kernel) ⟨Nat.le_of_ble_eq_true rfl, Nat.le_of_ble_eq_true rfl⟩) ⟨pz_blind, va_recv hKc hPc (ci := 11) (q0 := 0) rfl rfl, pz_pre hPc hKc hDc hN⟩ rfl rfl hl.1 rfl (lv_room (Nat.le_of_ble_eq_true rfl)) dX11_terminal_43 ⟨Nat.le_of_ble_eq_true rfl, Nat.le_of_ble_eq_true rfl⟩) hS (fun q _ h => hFc q h) hFc (fun r15 u t H1 locs ht hvm hw hB hz1 hk1 hS => ?_)
    obtain ⟨hP, hD⟩ := va_join (wr := [(wd, .inr (10, [.int 0, .int bo, .int li, .int og, .int 0, .int 0, .int 0, .ref tdA, .ref seA, .ref teA, .ref shA, .ref coA, .ref slS, .ref brS, .ref foS, .ref prR, .ref rdR, .ref laR, .ref caR])), (teA, .inl (kTe, 6, .inr (.inr (.inr (.inr fTe))))), (t0, .inr (8, [.int t_0, .int t_1, .int t_2, .int t_3, .int t_4, .ref twh, .ref twf])), (twh, .inl (kW, 6, .inl fW))]) (w1 := []) hP hD [0] [1, 2, 3, 4] rfl rfl (by decide +kernel) (by decide +kernel) hk1 hFc pz_P0 pz_D0
    generalize H1 = H at hP hS ⊢
    have hP : va_P (dC, dI) vwCl [(wd, .inr (10, [.int 0, .int bo, .int li, .int og, .int 0, .int 0, .int 0, .ref tdA, .ref seA, .ref teA, .ref shA, .ref coA, .ref slS, .ref brS, .ref foS, .ref prR, .ref rdR, .ref laR, .ref caR])), (teA, .inl (kTe, 6, .inr (.inr (.inr (.inr fTe))))), (t0, .inr (8, [.int t_0, .int t_1, .int t_2, .int t_3, .int t_4, .ref twh, .ref twf])), (twh, .inl (kW, 6, .inl fW))] H := hP
    have hD : va_D A [(wd, .inr (10, [.int 0, .int bo, .int li, .int og, .int 0, .int 0, .int 0, .ref tdA, .ref seA, .ref teA, .ref shA, .ref coA, .ref slS, .ref brS, .ref foS, .ref prR, .ref rdR, .ref laR, .ref caR])), (teA, .inl (kTe, 6, .inr (.inr (.inr (.inr fTe))))), (t0, .inr (8, [.int t_0, .int t_1, .int t_2, .int t_3, .int t_4, .ref twh, .ref twf])), (twh, .inl (kW, 6, .inl fW))] := hD
    have hK : va_K (dC, dI) vwCl [(kTe, .object RX8), (kW, .int)] s := hK
    obtain rfl : (-1) = r15 := hw.symm
    exact W.iret (v := (-1)) hx hb hr (fun t ht hW => ⟨⟨(-1), (), rfl, (by unfold F_terminal; (repeat' split) <;> first | rfl | (exfalso; omega) | (refine Int32.toInt_inj.mp ?_; show _ = (0 : Int); omega)), trivial⟩, hS.F ht⟩) hS.2.2 dX11_terminal_46
set_option maxHeartbeats 4000000 in
set_option maxRecDepth 100000 in
theorem c_addRow (l : Launch) (dC : Nat → ClassId) (dI : Nat → Nat → Nat) (sz : Nat) (prR : Nat) (prc : Nat) (kP : ClassId) (fP : Nat → Int64)  : Met l yX4_addRow wsX4_addRow ({ frames := 4, cells := 0, slots := 0, locals := 1200 }) (va_Pc [.ref prR] (pz_B dC dI [(kP, .long)] [(prR, .inr (4, [.int 3, .ref prc, .int 0])), (prc, .inl (kP, 180, .inr (.inl fP)))] sz)) (va_Qi (fun (r : Int32) (_ : Unit) => r = 0) (fun (_ : Unit) (t : State) => ∃ g : Nat → Int64, pz_E dC dI [(kP, .long)] (va_A [(prR, .inr (4, [.int 3, .ref prc, .int 0])), (prc, .inl (kP, 180, .inr (.inl fP)))] sz) [(prR, .inr (4, [.int 3, .ref prc, .int 1])), (prc, .inl (kP, 180, .inr (.inl g)))] t) (va_A [(prR, .inr (4, [.int 3, .ref prc, .int 0])), (prc, .inl (kP, 180, .inr (.inl fP)))] sz)) 0 0 (va_A [(prR, .inr (4, [.int 3, .ref prc, .int 0])), (prc, .inl (kP, 180, .inr (.inl fP)))] sz) := by
  refine Met.ofW (cc := cX4_addRow) (maxL := 2) (ret := some .int) (by decide) rfl ?_
  intro p e s m args below meth c s₁ B hml hv
  obtain ⟨rfl, hsz, hP, hK, hD0, hN⟩ := hv
  have hx := B.exec
  have hb := B.bytes
  have hr := B.returns
  have hts := atoms_spec (ws := wsX4_addRow) B.pre
  have hown : s.vm.findClass RX4 = some m.cls := findClass_of_methodNamed B.named
  have hlocks := B.notSynchronized
  subst hsz
  have hD := hD0.self (sz := s.heap.size)
  generalize hAe : va_A [(prR, .inr (4, [.int 3, .ref prc, .int 0])), (prc, .inl (kP, 180, .inr (.inl fP)))] s.heap.size = A at hD ⊢
  have hA : ∀ q : Nat, s.heap.size ≤ q → A q := fun q h => by rw [← hAe]; exact Or.inr h
  have hS : va_S A s.heap s.heap [] := va_S.rf
  have hl := lv_entry ([.ref prR]) (n := 2) (Nat.le_of_ble_eq_true rfl)
  rw [lg_entry_eq]
  generalize (lg_sl ([.ref prR]) ++ List.replicate (2 - (lg_sl ([.ref prR])).length) Slot.unset).toArray = ls at hl ⊢
  have hl : lv_has ls 2 [(0, .ref prR)] := hl
  have hfX4 : ∀ w ∈ wsX40, w ∈ wsX4_addRow := fun w h => List.mem_cons_of_mem _ (List.mem_append_right _ h)
  refine lv_aload_n hx hb dX4_addRow_0 rfl (lv_at hl 0 rfl) ?_
  refine va_get (D := (dC, dI)) (ci := 4) (v := .int 0) (C := RX4) (T := TX4) (N := 3) hx hb hts hfX4 hown hK hP 0 rfl rfl 2 (by decide) (hts (.fieldLink RX4 25 "ColdShips$Rows" "size" "I") (by decide +kernel)) (fun _ h9 => h9) rfl dX4_addRow_1 ?_
  refine lv_aload_n hx hb dX4_addRow_4 rfl (lv_at hl 0 rfl) ?_
  refine va_get (D := (dC, dI)) (ci := 4) (v := .int 3) (C := RX4) (T := TX4) (N := 3) hx hb hts hfX4 hown hK hP 0 rfl rfl 0 (by decide) (hts (.fieldLink RX4 15 "ColdShips$Rows" "width" "I") (by decide +kernel)) (fun _ h9 => h9) rfl dX4_addRow_5 ?_
  refine lv_imul hx hb dX4_addRow_8 ?_
  refine lv_topi (fun z1 ez1 => ?_)
  obtain rfl : z1 = 0 := ez1.trans (by first | rfl | decide)
  refine lv_istore_n (lv' := [(1, .int 0), (0, .ref prR)]) hx hb dX4_addRow_9 rfl hl (by decide) rfl (fun ls hl => ?_)
  refine lv_iload_n hx hb dX4_addRow_10 rfl (lv_at hl 0 rfl) ?_
  refine lv_aload_n hx hb dX4_addRow_11 rfl (lv_at hl 1 rfl) ?_
  refine va_get (D := (dC, dI)) (ci := 4) (v := .int 3) (C := RX4) (T := TX4) (N := 3) hx hb hts hfX4 hown hK hP 0 rfl rfl 0 (by decide) (hts (.fieldLink RX4 15 "ColdShips$Rows" "width" "I") (by decide +kernel)) (fun _ h9 => h9) rfl dX4_addRow_12 ?_
  refine lv_iadd hx hb dX4_addRow_15 ?_
  refine lv_topi (fun z2 ez2 => ?_)
  obtain rfl : z2 = 3 := ez2.trans (by first | rfl | decide)
  refine lv_aload_n hx hb dX4_addRow_16 rfl (lv_at hl 1 rfl) ?_
  refine va_get (D := (dC, dI)) (ci := 4) (v := .ref prc) (C := RX4) (T := TX4) (N := 3) hx hb hts hfX4 hown hK hP 0 rfl rfl 1 (by decide) (hts (.fieldLink RX4 21 "ColdShips$Rows" "cells" "[J") (by decide +kernel)) (fun _ h9 => h9) rfl dX4_addRow_17 ?_
  refine va_alen hx hb hK hP 1 0 rfl rfl (rfl : Int32.ofNat 180 = (180 : Int32)) dX4_addRow_20 ?_
  refine lv_icmp_le (tgt := 26) hx hb dX4_addRow_21 (by decide) (fun _ => ?_) (fun c9 => absurd c9 (by decide))
  refine lv_aload_n hx hb dX4_addRow_26 rfl (lv_at hl 1 rfl) ?_
  refine va_get (D := (dC, dI)) (ci := 4) (v := .ref prc) (C := RX4) (T := TX4) (N := 3) hx hb hts hfX4 hown hK hP 0 rfl rfl 1 (by decide) (hts (.fieldLink RX4 21 "ColdShips$Rows" "cells" "[J") (by decide +kernel)) (fun _ h9 => h9) rfl dX4_addRow_27 ?_
  refine lv_iload_n hx hb dX4_addRow_30 rfl (lv_at hl 0 rfl) ?_
  refine lv_iload_n hx hb dX4_addRow_31 rfl (lv_at hl 0 rfl) ?_
  refine lv_aload_n hx hb dX4_addRow_32 rfl (lv_at hl 1 rfl) ?_
  refine va_get (D := (dC, dI)) (ci := 4) (v := .int 3) (C := RX4) (T := TX4) (N := 3) hx hb hts hfX4 hown hK hP 0 rfl rfl 0 (by decide) (hts (.fieldLink RX4 15 "ColdShips$Rows" "width" "I") (by decide +kernel)) (fun _ h9 => h9) rfl dX4_addRow_33 ?_
  refine lv_iadd hx hb dX4_addRow_36 ?_
  refine lv_topi (fun z3 ez3 => ?_)
  obtain rfl : z3 = 3 := ez3.trans (by first | rfl | decide)
  refine lv_lconst (v := 0) hx hb dX4_addRow_37 (by decide) ?_
  have hPc := hP.sub (ws' := [(prc, .inl (kP, 180, .inr (.inl fP)))]) [1] rfl
  have hDc := hD.sub (ws' := [(prc, .inl (kP, 180, .inr (.inl fP)))]) [1] (by decide +kernel) rfl
  have hKc := hK.sub (tys' := [(kP, .long)]) [0] rfl
  have hFc := va_free (wc := [(prc, .inl (kP, 180, .inr (.inl fP)))]) hD hS hA [1] rfl
  refine va_callv (va_runS (As := [.ref prc, .int 0, .int 3, .long 0]) (rest := []) ⟨hx, hb, hml, hown, hts⟩ (c_fill_lr l dC dI _ prc 0 kP fP) (va_cwS 4 hts gX4_addRow_J7_fill_bad5a rfl rfl rfl (by decide +kernel) ⟨Nat.le_of_ble_eq_true rfl, Nat.le_of_ble_eq_true rfl⟩) ⟨pz_blind, pz_pre hPc hKc hDc hN⟩ rfl rfl hl.1 rfl (lv_room (Nat.le_of_ble_eq_true rfl)) dX4_addRow_38 ⟨Nat.le_of_ble_eq_true rfl, Nat.le_of_ble_eq_true rfl⟩) hS (fun q _ h => hFc q h) hFc (fun u t H1 locs ht hvm hw hB hz1 hk1 hS => ?_)
  obtain ⟨g_5, hP1, hK1, hD1⟩ := hB
  rw [ht] at hP1
  have hK1 := va_K.moved hvm.symm hK1
  obtain ⟨hP, hD⟩ := va_join (wr := [(prR, .inr (4, [.int 3, .ref prc, .int 0]))]) (w1 := [(prc, .inl (kP, 180, .inr (.inl g_5)))]) hP hD [1] [0] rfl rfl (by decide +kernel) (by decide +kernel) hk1 hFc hP1 hD1
  have hK := hK.app hK1
  generalize H1 = H at hP hS ⊢
  have hP : va_P (dC, dI) vwCl [(prR, .inr (4, [.int 3, .ref prc, .int 0])), (prc, .inl (kP, 180, .inr (.inl g_5)))] H := hP
  have hD : va_D A [(prR, .inr (4, [.int 3, .ref prc, .int 0])), (prc, .inl (kP, 180, .inr (.inl g_5)))] := hD
  have hK : va_K (dC, dI) vwCl [(kP, .long), (kP, .long)] s := hK
  refine lv_aload_n hx hb dX4_addRow_41 rfl (lv_at hl 1 rfl) ?_
  refine lv_dup hx hb dX4_addRow_42 rfl ?_
  refine va_get (D := (dC, dI)) (ci := 4) (v := .int 0) (C := RX4) (T := TX4) (N := 3) hx hb hts hfX4 hown hK hP 0 rfl rfl 2 (by decide) (hts (.fieldLink RX4 25 "ColdShips$Rows" "size" "I") (by decide +kernel)) (fun _ h9 => h9) rfl dX4_addRow_43 ?_
  refine lv_dup_x1 hx hb dX4_addRow_46 rfl rfl ?_
  refine lv_iconst (v := 1) hx hb dX4_addRow_47 (by decide) ?_
  refine lv_iadd hx hb dX4_addRow_48 ?_
  refine lv_topi (fun z7 ez7 => ?_)
  obtain rfl : z7 = 1 := ez7.trans (by first | rfl | decide)
  refine va_put (D := (dC, dI)) (ci := 4) (v := .int 1) (ty := .int) (C := RX4) (T := TX4) (N := 3) hx hb hts hfX4 tyX4 tyX4_ok nmX4 hown hK hP hD hS 0 rfl rfl 2 (by decide) (hts (.fieldLink RX4 25 "ColdShips$Rows" "size" "I") (by decide +kernel)) (fun _ h9 => h9) rfl (by decide +kernel) rfl rfl (Nat.le_of_ble_eq_true rfl) dX4_addRow_49 (fun H locs hP hD hS => ?_)
  have hP : va_P (dC, dI) vwCl [(prR, .inr (4, [.int 3, .ref prc, .int 1])), (prc, .inl (kP, 180, .inr (.inl g_5)))] H := hP
  have hD : va_D A [(prR, .inr (4, [.int 3, .ref prc, .int 1])), (prc, .inl (kP, 180, .inr (.inl g_5)))] := hD
  have hP9 := hP.sub (ws' := [(prR, .inr (4, [.int 3, .ref prc, .int 1])), (prc, .inl (kP, 180, .inr (.inl g_5)))]) [0, 1] rfl
  have hD9 := hD.sub (ws' := [(prR, .inr (4, [.int 3, .ref prc, .int 1])), (prc, .inl (kP, 180, .inr (.inl g_5)))]) [0, 1] (by decide +kernel) rfl
  have hK9 := hK.sub (tys' := [(kP, .long)]) [0] rfl
  exact W.iret (v := 0) hx hb hr (fun t ht hW => ⟨⟨0, (), rfl, rfl, ⟨g_5, by rw [ht]; exact hP9, va_K.moved hW.alike hK9, hD9⟩⟩, hS.F ht⟩) hS.2.2 dX4_addRow_52
set_option maxHeartbeats 4000000 in
set_option maxRecDepth 100000 in
theorem c_has1 (l : Launch) (dC : Nat → ClassId) (dI : Nat → Nat → Nat) (sz : Nat) (prR : Nat) (prc : Nat)  : Met l yX4_has wsX4_has ({ frames := 2, cells := 0, slots := 0, locals := 400 }) (va_Pc [.ref prR, .int 0] (pz_B dC dI [] [(prR, .inr (4, [.int 3, .ref prc, .int 1]))] sz)) (vp_Si (fun r => r = 1)) 0 0 (fun _ => False) := by
  refine Met.ofW (cc := cX4_has) (maxL := 2) (ret := some .boolean) (by decide) rfl ?_
  intro p e s m args below meth c s₁ B hml hv
  obtain ⟨rfl, hsz, hP, hK, hD0, hN⟩ := hv
  have hx := B.exec
  have hb := B.bytes
  have hr := B.returns
  have hts := atoms_spec (ws := wsX4_has) B.pre
  have hown : s.vm.findClass RX4 = some m.cls := findClass_of_methodNamed B.named
  have hlocks := B.notSynchronized
  subst hsz
  have hD := hD0
  have hS : va_S (fun _ => True) s.heap s.heap [] := va_S.rf
  have hl := lv_entry ([.ref prR, .int 0]) (n := 2) (Nat.le_of_ble_eq_true rfl)
  rw [lg_entry_eq]
  generalize (lg_sl ([.ref prR, .int 0]) ++ List.replicate (2 - (lg_sl ([.ref prR, .int 0])).length) Slot.unset).toArray = ls at hl ⊢
  have hl : lv_has ls 2 [(0, .ref prR), (1, .int 0)] := hl
  have hfX4 : ∀ w ∈ wsX40, w ∈ wsX4_has := fun w h => List.mem_cons_of_mem _ (List.mem_append_right _ h)
  refine lv_iload_n hx hb dX4_has_0 rfl (lv_at hl 1 rfl) ?_
  refine lv_if_lt (tgt := 16) hx hb dX4_has_1 (by decide) (fun c9 => absurd c9 (by decide)) (fun _ => ?_)
  refine lv_iload_n hx hb dX4_has_4 rfl (lv_at hl 1 rfl) ?_
  refine lv_aload_n hx hb dX4_has_5 rfl (lv_at hl 0 rfl) ?_
  refine va_get (D := (dC, dI)) (ci := 4) (v := .int 1) (C := RX4) (T := TX4) (N := 3) hx hb hts hfX4 hown hK hP 0 rfl rfl 2 (by decide) (hts (.fieldLink RX4 25 "ColdShips$Rows" "size" "I") (by decide +kernel)) (fun _ h9 => h9) rfl dX4_has_6 ?_
  refine lv_icmp_ge (tgt := 16) hx hb dX4_has_9 (by decide) (fun c9 => absurd c9 (by decide)) (fun _ => ?_)
  refine lv_iconst (v := 1) hx hb dX4_has_12 (by decide) ?_
  refine lv_goto (tgt := 17) hx hb dX4_has_13 (by decide) ?_
  exact W.zret (v := 1) hx hb hr rfl (fun t ht hW => ⟨1, rfl, rfl, ht⟩) (fun _ h => by cases h) dX4_has_17
set_option maxHeartbeats 4000000 in
set_option maxRecDepth 100000 in
theorem c_set0 (l : Launch) (dC : Nat → ClassId) (dI : Nat → Nat → Nat) (sz : Nat) (prR : Nat) (v : Int64) (prc : Nat) (kP : ClassId) (fP : Nat → Int64)  : Met l yX4_set wsX4_set ({ frames := 3, cells := 0, slots := 0, locals := 800 }) (va_Pc [.ref prR, .int 0, .int 0, .long v] (pz_B dC dI [(kP, .long)] [(prR, .inr (4, [.int 3, .ref prc, .int 1])), (prc, .inl (kP, 180, .inr (.inl fP)))] sz)) (va_Qv (fun (_ : Unit) => True) (fun (_ : Unit) (t : State) => ∃ g : Nat → Int64, pz_E dC dI [(kP, .long)] (va_A [(prR, .inr (4, [.int 3, .ref prc, .int 1])), (prc, .inl (kP, 180, .inr (.inl fP)))] sz) [(prR, .inr (4, [.int 3, .ref prc, .int 1])), (prc, .inl (kP, 180, .inr (.inl g)))] t) (va_A [(prR, .inr (4, [.int 3, .ref prc, .int 1])), (prc, .inl (kP, 180, .inr (.inl fP)))] sz)) 0 0 (va_A [(prR, .inr (4, [.int 3, .ref prc, .int 1])), (prc, .inl (kP, 180, .inr (.inl fP)))] sz) := by
  refine Met.ofW (cc := cX4_set) (maxL := 5) (ret := none) (by decide) rfl ?_
  intro p e s m args below meth c s₁ B hml hv
  obtain ⟨rfl, hsz, hP, hK, hD0, hN⟩ := hv
  have hx := B.exec
  have hb := B.bytes
  have hr := B.returns
  have hts := atoms_spec (ws := wsX4_set) B.pre
  have hown : s.vm.findClass RX4 = some m.cls := findClass_of_methodNamed B.named
  have hlocks := B.notSynchronized
  subst hsz
  have hD := hD0.self (sz := s.heap.size)
  generalize hAe : va_A [(prR, .inr (4, [.int 3, .ref prc, .int 1])), (prc, .inl (kP, 180, .inr (.inl fP)))] s.heap.size = A at hD ⊢
  have hA : ∀ q : Nat, s.heap.size ≤ q → A q := fun q h => by rw [← hAe]; exact Or.inr h
  have hS : va_S A s.heap s.heap [] := va_S.rf
  have hl := lv_entry ([.ref prR, .int 0, .int 0, .long v]) (n := 5) (Nat.le_of_ble_eq_true rfl)
  rw [lg_entry_eq]
  generalize (lg_sl ([.ref prR, .int 0, .int 0, .long v]) ++ List.replicate (5 - (lg_sl ([.ref prR, .int 0, .int 0, .long v])).length) Slot.unset).toArray = ls at hl ⊢
  have hl : lv_has ls 5 [(0, .ref prR), (1, .int 0), (2, .int 0), (3, .long v)] := hl
  have hfX4 : ∀ w ∈ wsX40, w ∈ wsX4_set := fun w h => List.mem_cons_of_mem _ (List.mem_append_right _ h)
  refine lv_aload_n hx hb dX4_set_0 rfl (lv_at hl 0 rfl) ?_
  refine lv_iload_n hx hb dX4_set_1 rfl (lv_at hl 1 rfl) ?_
  have hPc := hP.sub (ws' := [(prR, .inr (4, [.int 3, .ref prc, .int 1]))]) [0] rfl
  have hDc := hD.sub (ws' := [(prR, .inr (4, [.int 3, .ref prc, .int 1]))]) [0] (by decide +kernel) rfl
  have hKc := hK.sub (tys' := []) [] rfl
  refine pz_calli (va_runV (As := [.int 0]) (rest := []) ⟨hx, hb, hml, hown, hts⟩ (c_has1 l dC dI _ prR prc) (cwV 1 hts gX4_set_X4_has rfl rfl rfl (by decide +kernel) ⟨Nat.le_of_ble_eq_true rfl, Nat.le_of_ble_eq_true rfl⟩) ⟨pz_blind, va_recv hKc hPc (ci := 4) (q0 := 0) rfl rfl, pz_pre hPc hKc hDc hN⟩ rfl rfl hl.1 rfl (lv_room (Nat.le_of_ble_eq_true rfl)) dX4_set_2 ⟨Nat.le_of_ble_eq_true rfl, Nat.le_of_ble_eq_true rfl⟩) (fun r1 hw => ?_)
  obtain rfl : 1 = r1 := hw.symm
  refine lv_if_eq (tgt := 34) hx hb dX4_set_5 (by decide) (fun c9 => absurd c9 (by decide)) (fun _ => ?_)
  refine lv_iload_n hx hb dX4_set_8 rfl (lv_at hl 2 rfl) ?_
  refine lv_if_lt (tgt := 34) hx hb dX4_set_9 (by decide) (fun c9 => absurd c9 (by decide)) (fun _ => ?_)
  refine lv_iload_n hx hb dX4_set_12 rfl (lv_at hl 2 rfl) ?_
  refine lv_aload_n hx hb dX4_set_13 rfl (lv_at hl 0 rfl) ?_
  refine va_get (D := (dC, dI)) (ci := 4) (v := .int 3) (C := RX4) (T := TX4) (N := 3) hx hb hts hfX4 hown hK hP 0 rfl rfl 0 (by decide) (hts (.fieldLink RX4 15 "ColdShips$Rows" "width" "I") (by decide +kernel)) (fun _ h9 => h9) rfl dX4_set_14 ?_
  refine lv_icmp_ge (tgt := 34) hx hb dX4_set_17 (by decide) (fun c9 => absurd c9 (by decide)) (fun _ => ?_)
  refine lv_aload_n hx hb dX4_set_20 rfl (lv_at hl 0 rfl) ?_
  refine va_get (D := (dC, dI)) (ci := 4) (v := .ref prc) (C := RX4) (T := TX4) (N := 3) hx hb hts hfX4 hown hK hP 0 rfl rfl 1 (by decide) (hts (.fieldLink RX4 21 "ColdShips$Rows" "cells" "[J") (by decide +kernel)) (fun _ h9 => h9) rfl dX4_set_21 ?_
  refine lv_iload_n hx hb dX4_set_24 rfl (lv_at hl 1 rfl) ?_
  refine lv_aload_n hx hb dX4_set_25 rfl (lv_at hl 0 rfl) ?_
  refine va_get (D := (dC, dI)) (ci := 4) (v := .int 3) (C := RX4) (T := TX4) (N := 3) hx hb hts hfX4 hown hK hP 0 rfl rfl 0 (by decide) (hts (.fieldLink RX4 15 "ColdShips$Rows" "width" "I") (by decide +kernel)) (fun _ h9 => h9) rfl dX4_set_26 ?_
  refine lv_imul hx hb dX4_set_29 ?_
  refine lv_topi (fun z2 ez2 => ?_)
  obtain rfl : z2 = 0 := ez2.trans (by first | rfl | decide)
  refine lv_iload_n hx hb dX4_set_30 rfl (lv_at hl 2 rfl) ?_
  refine lv_iadd hx hb dX4_set_31 ?_
  refine lv_topi (fun z3 ez3 => ?_)
  obtain rfl : z3 = 0 := ez3.trans (by first | rfl | decide)
  refine lv_lload_n hx hb dX4_set_32 rfl (lv_at hl 3 rfl) ?_
  refine va_last hx hb hK hP hD hS 1 0 rfl rfl (vp_in_iff.mpr ⟨by decide, by decide⟩) dX4_set_33 (fun H locs hP hD hS => ?_)
  have hP : va_P (dC, dI) vwCl [(prR, .inr (4, [.int 3, .ref prc, .int 1])), (prc, .inl (kP, 180, .inr (.inl (vp_updL fP 0 v))))] H := hP
  have hD : va_D A [(prR, .inr (4, [.int 3, .ref prc, .int 1])), (prc, .inl (kP, 180, .inr (.inl (vp_updL fP 0 v))))] := hD
  generalize (vp_updL fP 0 v) = g4 at hP hD
  have hP9 := hP.sub (ws' := [(prR, .inr (4, [.int 3, .ref prc, .int 1])), (prc, .inl (kP, 180, .inr (.inl g4)))]) [0, 1] rfl
  have hD9 := hD.sub (ws' := [(prR, .inr (4, [.int 3, .ref prc, .int 1])), (prc, .inl (kP, 180, .inr (.inl g4)))]) [0, 1] (by decide +kernel) rfl
  have hK9 := hK.sub (tys' := [(kP, .long)]) [0] rfl
  exact W.vret hx hb hr (fun t ht hW => ⟨⟨(), rfl, trivial, ⟨g4, by rw [ht]; exact hP9, va_K.moved hW.alike hK9, hD9⟩⟩, hS.F ht⟩) hS.2.2 dX4_set_34
set_option maxHeartbeats 4000000 in
set_option maxRecDepth 100000 in
theorem c_set1 (l : Launch) (dC : Nat → ClassId) (dI : Nat → Nat → Nat) (sz : Nat) (prR : Nat) (v : Int64) (prc : Nat) (kP : ClassId) (fP : Nat → Int64)  : Met l yX4_set wsX4_set ({ frames := 3, cells := 0, slots := 0, locals := 800 }) (va_Pc [.ref prR, .int 0, .int 1, .long v] (pz_B dC dI [(kP, .long)] [(prR, .inr (4, [.int 3, .ref prc, .int 1])), (prc, .inl (kP, 180, .inr (.inl fP)))] sz)) (va_Qv (fun (_ : Unit) => True) (fun (_ : Unit) (t : State) => ∃ g : Nat → Int64, pz_E dC dI [(kP, .long)] (va_A [(prR, .inr (4, [.int 3, .ref prc, .int 1])), (prc, .inl (kP, 180, .inr (.inl fP)))] sz) [(prR, .inr (4, [.int 3, .ref prc, .int 1])), (prc, .inl (kP, 180, .inr (.inl g)))] t) (va_A [(prR, .inr (4, [.int 3, .ref prc, .int 1])), (prc, .inl (kP, 180, .inr (.inl fP)))] sz)) 0 0 (va_A [(prR, .inr (4, [.int 3, .ref prc, .int 1])), (prc, .inl (kP, 180, .inr (.inl fP)))] sz) := by
  refine Met.ofW (cc := cX4_set) (maxL := 5) (ret := none) (by decide) rfl ?_
  intro p e s m args below meth c s₁ B hml hv
  obtain ⟨rfl, hsz, hP, hK, hD0, hN⟩ := hv
  have hx := B.exec
  have hb := B.bytes
  have hr := B.returns
  have hts := atoms_spec (ws := wsX4_set) B.pre
  have hown : s.vm.findClass RX4 = some m.cls := findClass_of_methodNamed B.named
  have hlocks := B.notSynchronized
  subst hsz
  have hD := hD0.self (sz := s.heap.size)
  generalize hAe : va_A [(prR, .inr (4, [.int 3, .ref prc, .int 1])), (prc, .inl (kP, 180, .inr (.inl fP)))] s.heap.size = A at hD ⊢
  have hA : ∀ q : Nat, s.heap.size ≤ q → A q := fun q h => by rw [← hAe]; exact Or.inr h
  have hS : va_S A s.heap s.heap [] := va_S.rf
  have hl := lv_entry ([.ref prR, .int 0, .int 1, .long v]) (n := 5) (Nat.le_of_ble_eq_true rfl)
  rw [lg_entry_eq]
  generalize (lg_sl ([.ref prR, .int 0, .int 1, .long v]) ++ List.replicate (5 - (lg_sl ([.ref prR, .int 0, .int 1, .long v])).length) Slot.unset).toArray = ls at hl ⊢
  have hl : lv_has ls 5 [(0, .ref prR), (1, .int 0), (2, .int 1), (3, .long v)] := hl
  have hfX4 : ∀ w ∈ wsX40, w ∈ wsX4_set := fun w h => List.mem_cons_of_mem _ (List.mem_append_right _ h)
  refine lv_aload_n hx hb dX4_set_0 rfl (lv_at hl 0 rfl) ?_
  refine lv_iload_n hx hb dX4_set_1 rfl (lv_at hl 1 rfl) ?_
  have hPc := hP.sub (ws' := [(prR, .inr (4, [.int 3, .ref prc, .int 1]))]) [0] rfl
  have hDc := hD.sub (ws' := [(prR, .inr (4, [.int 3, .ref prc, .int 1]))]) [0] (by decide +kernel) rfl
  have hKc := hK.sub (tys' := []) [] rfl
  refine pz_calli (va_runV (As := [.int 0]) (rest := []) ⟨hx, hb, hml, hown, hts⟩ (c_has1 l dC dI _ prR prc) (cwV 1 hts gX4_set_X4_has rfl rfl rfl (by decide +kernel) ⟨Nat.le_of_ble_eq_true rfl, Nat.le_of_ble_eq_true rfl⟩) ⟨pz_blind, va_recv hKc hPc (ci := 4) (q0 := 0) rfl rfl, pz_pre hPc hKc hDc hN⟩ rfl rfl hl.1 rfl (lv_room (Nat.le_of_ble_eq_true rfl)) dX4_set_2 ⟨Nat.le_of_ble_eq_true rfl, Nat.le_of_ble_eq_true rfl⟩) (fun r1 hw => ?_)
  obtain rfl : 1 = r1 := hw.symm
  refine lv_if_eq (tgt := 34) hx hb dX4_set_5 (by decide) (fun c9 => absurd c9 (by decide)) (fun _ => ?_)
  refine lv_iload_n hx hb dX4_set_8 rfl (lv_at hl 2 rfl) ?_
  refine lv_if_lt (tgt := 34) hx hb dX4_set_9 (by decide) (fun c9 => absurd c9 (by decide)) (fun _ => ?_)
  refine lv_iload_n hx hb dX4_set_12 rfl (lv_at hl 2 rfl) ?_
  refine lv_aload_n hx hb dX4_set_13 rfl (lv_at hl 0 rfl) ?_
  refine va_get (D := (dC, dI)) (ci := 4) (v := .int 3) (C := RX4) (T := TX4) (N := 3) hx hb hts hfX4 hown hK hP 0 rfl rfl 0 (by decide) (hts (.fieldLink RX4 15 "ColdShips$Rows" "width" "I") (by decide +kernel)) (fun _ h9 => h9) rfl dX4_set_14 ?_
  refine lv_icmp_ge (tgt := 34) hx hb dX4_set_17 (by decide) (fun c9 => absurd c9 (by decide)) (fun _ => ?_)
  refine lv_aload_n hx hb dX4_set_20 rfl (lv_at hl 0 rfl) ?_
  refine va_get (D := (dC, dI)) (ci := 4) (v := .ref prc) (C := RX4) (T := TX4) (N := 3) hx hb hts hfX4 hown hK hP 0 rfl rfl 1 (by decide) (hts (.fieldLink RX4 21 "ColdShips$Rows" "cells" "[J") (by decide +kernel)) (fun _ h9 => h9) rfl dX4_set_21 ?_
  refine lv_iload_n hx hb dX4_set_24 rfl (lv_at hl 1 rfl) ?_
  refine lv_aload_n hx hb dX4_set_25 rfl (lv_at hl 0 rfl) ?_
  refine va_get (D := (dC, dI)) (ci := 4) (v := .int 3) (C := RX4) (T := TX4) (N := 3) hx hb hts hfX4 hown hK hP 0 rfl rfl 0 (by decide) (hts (.fieldLink RX4 15 "ColdShips$Rows" "width" "I") (by decide +kernel)) (fun _ h9 => h9) rfl dX4_set_26 ?_
  refine lv_imul hx hb dX4_set_29 ?_
  refine lv_topi (fun z2 ez2 => ?_)
  obtain rfl : z2 = 0 := ez2.trans (by first | rfl | decide)
  refine lv_iload_n hx hb dX4_set_30 rfl (lv_at hl 2 rfl) ?_
  refine lv_iadd hx hb dX4_set_31 ?_
  refine lv_topi (fun z3 ez3 => ?_)
  obtain rfl : z3 = 1 := ez3.trans (by first | rfl | decide)
  refine lv_lload_n hx hb dX4_set_32 rfl (lv_at hl 3 rfl) ?_
  refine va_last hx hb hK hP hD hS 1 0 rfl rfl (vp_in_iff.mpr ⟨by decide, by decide⟩) dX4_set_33 (fun H locs hP hD hS => ?_)
  have hP : va_P (dC, dI) vwCl [(prR, .inr (4, [.int 3, .ref prc, .int 1])), (prc, .inl (kP, 180, .inr (.inl (vp_updL fP 1 v))))] H := hP
  have hD : va_D A [(prR, .inr (4, [.int 3, .ref prc, .int 1])), (prc, .inl (kP, 180, .inr (.inl (vp_updL fP 1 v))))] := hD
  generalize (vp_updL fP 1 v) = g4 at hP hD
  have hP9 := hP.sub (ws' := [(prR, .inr (4, [.int 3, .ref prc, .int 1])), (prc, .inl (kP, 180, .inr (.inl g4)))]) [0, 1] rfl
  have hD9 := hD.sub (ws' := [(prR, .inr (4, [.int 3, .ref prc, .int 1])), (prc, .inl (kP, 180, .inr (.inl g4)))]) [0, 1] (by decide +kernel) rfl
  have hK9 := hK.sub (tys' := [(kP, .long)]) [0] rfl
  exact W.vret hx hb hr (fun t ht hW => ⟨⟨(), rfl, trivial, ⟨g4, by rw [ht]; exact hP9, va_K.moved hW.alike hK9, hD9⟩⟩, hS.F ht⟩) hS.2.2 dX4_set_34
set_option maxHeartbeats 4000000 in
set_option maxRecDepth 100000 in
theorem c_set2 (l : Launch) (dC : Nat → ClassId) (dI : Nat → Nat → Nat) (sz : Nat) (prR : Nat) (v : Int64) (prc : Nat) (kP : ClassId) (fP : Nat → Int64)  : Met l yX4_set wsX4_set ({ frames := 3, cells := 0, slots := 0, locals := 800 }) (va_Pc [.ref prR, .int 0, .int 2, .long v] (pz_B dC dI [(kP, .long)] [(prR, .inr (4, [.int 3, .ref prc, .int 1])), (prc, .inl (kP, 180, .inr (.inl fP)))] sz)) (va_Qv (fun (_ : Unit) => True) (fun (_ : Unit) (t : State) => ∃ g : Nat → Int64, pz_E dC dI [(kP, .long)] (va_A [(prR, .inr (4, [.int 3, .ref prc, .int 1])), (prc, .inl (kP, 180, .inr (.inl fP)))] sz) [(prR, .inr (4, [.int 3, .ref prc, .int 1])), (prc, .inl (kP, 180, .inr (.inl g)))] t) (va_A [(prR, .inr (4, [.int 3, .ref prc, .int 1])), (prc, .inl (kP, 180, .inr (.inl fP)))] sz)) 0 0 (va_A [(prR, .inr (4, [.int 3, .ref prc, .int 1])), (prc, .inl (kP, 180, .inr (.inl fP)))] sz) := by
  refine Met.ofW (cc := cX4_set) (maxL := 5) (ret := none) (by decide) rfl ?_
  intro p e s m args below meth c s₁ B hml hv
  obtain ⟨rfl, hsz, hP, hK, hD0, hN⟩ := hv
  have hx := B.exec
  have hb := B.bytes
  have hr := B.returns
  have hts := atoms_spec (ws := wsX4_set) B.pre
  have hown : s.vm.findClass RX4 = some m.cls := findClass_of_methodNamed B.named
  have hlocks := B.notSynchronized
  subst hsz
  have hD := hD0.self (sz := s.heap.size)
  generalize hAe : va_A [(prR, .inr (4, [.int 3, .ref prc, .int 1])), (prc, .inl (kP, 180, .inr (.inl fP)))] s.heap.size = A at hD ⊢
  have hA : ∀ q : Nat, s.heap.size ≤ q → A q := fun q h => by rw [← hAe]; exact Or.inr h
  have hS : va_S A s.heap s.heap [] := va_S.rf
  have hl := lv_entry ([.ref prR, .int 0, .int 2, .long v]) (n := 5) (Nat.le_of_ble_eq_true rfl)
  rw [lg_entry_eq]
  generalize (lg_sl ([.ref prR, .int 0, .int 2, .long v]) ++ List.replicate (5 - (lg_sl ([.ref prR, .int 0, .int 2, .long v])).length) Slot.unset).toArray = ls at hl ⊢
  have hl : lv_has ls 5 [(0, .ref prR), (1, .int 0), (2, .int 2), (3, .long v)] := hl
  have hfX4 : ∀ w ∈ wsX40, w ∈ wsX4_set := fun w h => List.mem_cons_of_mem _ (List.mem_append_right _ h)
  refine lv_aload_n hx hb dX4_set_0 rfl (lv_at hl 0 rfl) ?_
  refine lv_iload_n hx hb dX4_set_1 rfl (lv_at hl 1 rfl) ?_
  have hPc := hP.sub (ws' := [(prR, .inr (4, [.int 3, .ref prc, .int 1]))]) [0] rfl
  have hDc := hD.sub (ws' := [(prR, .inr (4, [.int 3, .ref prc, .int 1]))]) [0] (by decide +kernel) rfl
  have hKc := hK.sub (tys' := []) [] rfl
  refine pz_calli (va_runV (As := [.int 0]) (rest := []) ⟨hx, hb, hml, hown, hts⟩ (c_has1 l dC dI _ prR prc) (cwV 1 hts gX4_set_X4_has rfl rfl rfl (by decide +kernel) ⟨Nat.le_of_ble_eq_true rfl, Nat.le_of_ble_eq_true rfl⟩) ⟨pz_blind, va_recv hKc hPc (ci := 4) (q0 := 0) rfl rfl, pz_pre hPc hKc hDc hN⟩ rfl rfl hl.1 rfl (lv_room (Nat.le_of_ble_eq_true rfl)) dX4_set_2 ⟨Nat.le_of_ble_eq_true rfl, Nat.le_of_ble_eq_true rfl⟩) (fun r1 hw => ?_)
  obtain rfl : 1 = r1 := hw.symm
  refine lv_if_eq (tgt := 34) hx hb dX4_set_5 (by decide) (fun c9 => absurd c9 (by decide)) (fun _ => ?_)
  refine lv_iload_n hx hb dX4_set_8 rfl (lv_at hl 2 rfl) ?_
  refine lv_if_lt (tgt := 34) hx hb dX4_set_9 (by decide) (fun c9 => absurd c9 (by decide)) (fun _ => ?_)
  refine lv_iload_n hx hb dX4_set_12 rfl (lv_at hl 2 rfl) ?_
  refine lv_aload_n hx hb dX4_set_13 rfl (lv_at hl 0 rfl) ?_
  refine va_get (D := (dC, dI)) (ci := 4) (v := .int 3) (C := RX4) (T := TX4) (N := 3) hx hb hts hfX4 hown hK hP 0 rfl rfl 0 (by decide) (hts (.fieldLink RX4 15 "ColdShips$Rows" "width" "I") (by decide +kernel)) (fun _ h9 => h9) rfl dX4_set_14 ?_
  refine lv_icmp_ge (tgt := 34) hx hb dX4_set_17 (by decide) (fun c9 => absurd c9 (by decide)) (fun _ => ?_)
  refine lv_aload_n hx hb dX4_set_20 rfl (lv_at hl 0 rfl) ?_
  refine va_get (D := (dC, dI)) (ci := 4) (v := .ref prc) (C := RX4) (T := TX4) (N := 3) hx hb hts hfX4 hown hK hP 0 rfl rfl 1 (by decide) (hts (.fieldLink RX4 21 "ColdShips$Rows" "cells" "[J") (by decide +kernel)) (fun _ h9 => h9) rfl dX4_set_21 ?_
  refine lv_iload_n hx hb dX4_set_24 rfl (lv_at hl 1 rfl) ?_
  refine lv_aload_n hx hb dX4_set_25 rfl (lv_at hl 0 rfl) ?_
  refine va_get (D := (dC, dI)) (ci := 4) (v := .int 3) (C := RX4) (T := TX4) (N := 3) hx hb hts hfX4 hown hK hP 0 rfl rfl 0 (by decide) (hts (.fieldLink RX4 15 "ColdShips$Rows" "width" "I") (by decide +kernel)) (fun _ h9 => h9) rfl dX4_set_26 ?_
  refine lv_imul hx hb dX4_set_29 ?_
  refine lv_topi (fun z2 ez2 => ?_)
  obtain rfl : z2 = 0 := ez2.trans (by first | rfl | decide)
  refine lv_iload_n hx hb dX4_set_30 rfl (lv_at hl 2 rfl) ?_
  refine lv_iadd hx hb dX4_set_31 ?_
  refine lv_topi (fun z3 ez3 => ?_)
  obtain rfl : z3 = 2 := ez3.trans (by first | rfl | decide)
  refine lv_lload_n hx hb dX4_set_32 rfl (lv_at hl 3 rfl) ?_
  refine va_last hx hb hK hP hD hS 1 0 rfl rfl (vp_in_iff.mpr ⟨by decide, by decide⟩) dX4_set_33 (fun H locs hP hD hS => ?_)
  have hP : va_P (dC, dI) vwCl [(prR, .inr (4, [.int 3, .ref prc, .int 1])), (prc, .inl (kP, 180, .inr (.inl (vp_updL fP 2 v))))] H := hP
  have hD : va_D A [(prR, .inr (4, [.int 3, .ref prc, .int 1])), (prc, .inl (kP, 180, .inr (.inl (vp_updL fP 2 v))))] := hD
  generalize (vp_updL fP 2 v) = g4 at hP hD
  have hP9 := hP.sub (ws' := [(prR, .inr (4, [.int 3, .ref prc, .int 1])), (prc, .inl (kP, 180, .inr (.inl g4)))]) [0, 1] rfl
  have hD9 := hD.sub (ws' := [(prR, .inr (4, [.int 3, .ref prc, .int 1])), (prc, .inl (kP, 180, .inr (.inl g4)))]) [0, 1] (by decide +kernel) rfl
  have hK9 := hK.sub (tys' := [(kP, .long)]) [0] rfl
  exact W.vret hx hb hr (fun t ht hW => ⟨⟨(), rfl, trivial, ⟨g4, by rw [ht]; exact hP9, va_K.moved hW.alike hK9, hD9⟩⟩, hS.F ht⟩) hS.2.2 dX4_set_34
set_option maxHeartbeats 4000000 in
set_option maxRecDepth 100000 in
theorem c_X11_price (l : Launch) (dC : Nat → ClassId) (dI : Nat → Nat → Nat) (sz : Nat) (h0 : Nat) (xa : Int32) (xb : Int32) (xc : Int32) (wd : Nat) (im : Nat) (wa : Nat) (re : Nat) (rk : Nat) (pl : Nat) (fz : Int32) (bo : Int32) (li : Int32) (og : Int32) (tdA : Nat) (seA : Nat) (teA : Nat) (shA : Nat) (coA : Nat) (slS : Nat) (brS : Nat) (foS : Nat) (prR : Nat) (rdR : Nat) (laR : Nat) (caR : Nat) (prc : Nat) (kP : ClassId) (fP : Nat → Int64)  : Met l yX11_price wsX11_price ({ frames := 7, cells := 0, slots := 0, locals := 2400 }) (va_Pc [.ref h0, .int xa, .int xb, .int xc] (pz_B dC dI [(kP, .long)] [(h0, .inr (11, [.ref wd, .ref im, .ref wa, .ref re, .ref rk, .ref pl, .int fz])), (wd, .inr (10, [.int 0, .int bo, .int li, .int og, .int 0, .int 0, .int 0, .ref tdA, .ref seA, .ref teA, .ref shA, .ref coA, .ref slS, .ref brS, .ref foS, .ref prR, .ref rdR, .ref laR, .ref caR])), (prR, .inr (4, [.int 3, .ref prc, .int 0])), (prc, .inl (kP, 180, .inr (.inl fP)))] sz)) (va_Qi (fun (r : Int32) (_ : Unit) => r = F_price xa xb xc) (fun (_ : Unit) (_ : State) => True) (va_A [(h0, .inr (11, [.ref wd, .ref im, .ref wa, .ref re, .ref rk, .ref pl, .int fz])), (wd, .inr (10, [.int 0, .int bo, .int li, .int og, .int 0, .int 0, .int 0, .ref tdA, .ref seA, .ref teA, .ref shA, .ref coA, .ref slS, .ref brS, .ref foS, .ref prR, .ref rdR, .ref laR, .ref caR])), (prR, .inr (4, [.int 3, .ref prc, .int 0])), (prc, .inl (kP, 180, .inr (.inl fP)))] sz)) 0 0 (va_A [(h0, .inr (11, [.ref wd, .ref im, .ref wa, .ref re, .ref rk, .ref pl, .int fz])), (wd, .inr (10, [.int 0, .int bo, .int li, .int og, .int 0, .int 0, .int 0, .ref tdA, .ref seA, .ref teA, .ref shA, .ref coA, .ref slS, .ref brS, .ref foS, .ref prR, .ref rdR, .ref laR, .ref caR])), (prR, .inr (4, [.int 3, .ref prc, .int 0])), (prc, .inl (kP, 180, .inr (.inl fP)))] sz) := by
  refine Met.ofW (cc := cX11_price) (maxL := 5) (ret := some .int) (by decide) rfl ?_
  intro p e s m args below meth c s₁ B hml hv
  obtain ⟨rfl, hsz, hP, hK, hD0, hN⟩ := hv
  have hx := B.exec
  have hb := B.bytes
  have hr := B.returns
  have hts := atoms_spec (ws := wsX11_price) B.pre
  have hown : s.vm.findClass RX11 = some m.cls := findClass_of_methodNamed B.named
  have hlocks := B.notSynchronized
  subst hsz
  have hD := hD0.self (sz := s.heap.size)
  generalize hAe : va_A [(h0, .inr (11, [.ref wd, .ref im, .ref wa, .ref re, .ref rk, .ref pl, .int fz])), (wd, .inr (10, [.int 0, .int bo, .int li, .int og, .int 0, .int 0, .int 0, .ref tdA, .ref seA, .ref teA, .ref shA, .ref coA, .ref slS, .ref brS, .ref foS, .ref prR, .ref rdR, .ref laR, .ref caR])), (prR, .inr (4, [.int 3, .ref prc, .int 0])), (prc, .inl (kP, 180, .inr (.inl fP)))] s.heap.size = A at hD ⊢
  have hA : ∀ q : Nat, s.heap.size ≤ q → A q := fun q h => by rw [← hAe]; exact Or.inr h
  have hS : va_S A s.heap s.heap [] := va_S.rf
  have hl := lv_entry ([.ref h0, .int xa, .int xb, .int xc]) (n := 5) (Nat.le_of_ble_eq_true rfl)
  rw [lg_entry_eq]
  generalize (lg_sl ([.ref h0, .int xa, .int xb, .int xc]) ++ List.replicate (5 - (lg_sl ([.ref h0, .int xa, .int xb, .int xc])).length) Slot.unset).toArray = ls at hl ⊢
  have hl : lv_has ls 5 [(0, .ref h0), (1, .int xa), (2, .int xb), (3, .int xc)] := hl
  have hfX11 : ∀ w ∈ wsX110, w ∈ wsX11_price := fun w h => List.mem_cons_of_mem _ (List.mem_append_left _ (List.mem_append_left _ (List.mem_append_right _ h)))
  have hfX10 : ∀ w ∈ wsX100, w ∈ wsX11_price := fun w h => List.mem_cons_of_mem _ (List.mem_append_left _ (List.mem_append_right _ h))
  have hfX4 : ∀ w ∈ wsX40, w ∈ wsX11_price := fun w h => List.mem_cons_of_mem _ (List.mem_append_right _ h)
  refine lv_iload_n hx hb dX11_price_0 rfl (lv_at hl 1 rfl) ?_
  refine lv_iconst (v := 0) hx hb dX11_price_1 (by decide) ?_
  refine lv_bipush (v := 99) hx hb dX11_price_2 (by decide) ?_
  have hPc := hP.sub (ws' := []) [] rfl
  have hDc := hD.sub (ws' := []) [] (by decide +kernel) rfl
  have hKc := hK.sub (tys' := []) [] rfl
  refine pz_calli (va_runS (As := [.int xa, .int 0, .int 99]) (rest := []) ⟨hx, hb, hml, hown, hts⟩ (c_X11_within l dC dI _ xa 0 99 (xa.toInt) (0) (99) rfl rfl rfl) (va_cwS 3 hts gX11_price_X11_within rfl rfl rfl (by decide +kernel) ⟨Nat.le_of_ble_eq_true rfl, Nat.le_of_ble_eq_true rfl⟩) ⟨pz_blind, pz_pre hPc hKc hDc hN⟩ rfl rfl hl.1 rfl (lv_room (Nat.le_of_ble_eq_true rfl)) dX11_price_4 ⟨Nat.le_of_ble_eq_true rfl, Nat.le_of_ble_eq_true rfl⟩) (fun r1 hw => ?_)
  rcases hw with ⟨rfl, h2⟩ | ⟨rfl, h2⟩
  · refine lv_if_eq (tgt := 28) hx hb dX11_price_7 (by decide) (fun c9 => absurd c9 (by decide)) (fun _ => ?_)
    refine lv_iload_n hx hb dX11_price_10 rfl (lv_at hl 2 rfl) ?_
    refine lv_iconst (v := 0) hx hb dX11_price_11 (by decide) ?_
    refine lv_sipush (v := 10000) hx hb dX11_price_12 (by decide) ?_
    have hPc := hP.sub (ws' := []) [] rfl
    have hDc := hD.sub (ws' := []) [] (by decide +kernel) rfl
    have hKc := hK.sub (tys' := []) [] rfl
    refine pz_calli (va_runS (As := [.int xb, .int 0, .int 10000]) (rest := []) ⟨hx, hb, hml, hown, hts⟩ (c_X11_within l dC dI _ xb 0 10000 (xb.toInt) (0) (10000) rfl rfl rfl) (va_cwS 3 hts gX11_price_X11_within rfl rfl rfl (by decide +kernel) ⟨Nat.le_of_ble_eq_true rfl, Nat.le_of_ble_eq_true rfl⟩) ⟨pz_blind, pz_pre hPc hKc hDc hN⟩ rfl rfl hl.1 rfl (lv_room (Nat.le_of_ble_eq_true rfl)) dX11_price_15 ⟨Nat.le_of_ble_eq_true rfl, Nat.le_of_ble_eq_true rfl⟩) (fun r3 hw => ?_)
    rcases hw with ⟨rfl, h4⟩ | ⟨rfl, h4⟩
    · refine lv_if_eq (tgt := 28) hx hb dX11_price_18 (by decide) (fun c9 => absurd c9 (by decide)) (fun _ => ?_)
      refine lv_iload_n hx hb dX11_price_21 rfl (lv_at hl 3 rfl) ?_
      have hPc := hP.sub (ws' := []) [] rfl
      have hDc := hD.sub (ws' := []) [] (by decide +kernel) rfl
      have hKc := hK.sub (tys' := []) [] rfl
      refine pz_calli (va_runS (As := [.int xc]) (rest := []) ⟨hx, hb, hml, hown, hts⟩ (c_X11_isHour l dC dI _ xc (xc.toInt) rfl) (va_cwS 1 hts gX11_price_X11_isHour rfl rfl rfl (by decide +kernel) ⟨Nat.le_of_ble_eq_true rfl, Nat.le_of_ble_eq_true rfl⟩) ⟨pz_blind, pz_pre hPc hKc hDc hN⟩ rfl rfl hl.1 rfl (lv_room (Nat.le_of_ble_eq_true rfl)) dX11_price_22 ⟨Nat.le_of_ble_eq_true rfl, Nat.le_of_ble_eq_true rfl⟩) (fun r5 hw => ?_)
      rcases hw with ⟨rfl, h6⟩ | ⟨rfl, h6⟩
      · refine lv_if_ne (tgt := 34) hx hb dX11_price_25 (by decide) (fun _ => ?_) (fun c9 => absurd c9 (by decide))
        refine lv_aload_n hx hb dX11_price_34 rfl (lv_at hl 0 rfl) ?_
        refine va_get (D := (dC, dI)) (ci := 11) (v := .ref wd) (C := RX11) (T := TX11) (N := 7) hx hb hts hfX11 hown hK hP 0 rfl rfl 0 (by decide) (hts (.fieldLink RX11 10 "ColdShips" "world" "LColdShips$World;") (by decide +kernel)) (fun _ h9 => h9) rfl dX11_price_35 ?_
        refine va_getN (D := (dC, dI)) (ci := 10) (v := .ref prR) (C := RX10) (T := TX10) (N := 19) hx hb hts hfX10 hown hK hP 1 rfl rfl 15 (by decide) (va_Nw.use rfl (hN.1 (.fieldLinkNest RX11 232 "ColdShips$World" "prices" "LColdShips$Rows;" "ColdShips") (by decide +kernel))) (fun _ h9 => h9) rfl dX11_price_38 ?_
        have hPc := hP.sub (ws' := [(prR, .inr (4, [.int 3, .ref prc, .int 0])), (prc, .inl (kP, 180, .inr (.inl fP)))]) [2, 3] rfl
        have hDc := hD.sub (ws' := [(prR, .inr (4, [.int 3, .ref prc, .int 0])), (prc, .inl (kP, 180, .inr (.inl fP)))]) [2, 3] (by decide +kernel) rfl
        have hKc := hK.sub (tys' := [(kP, .long)]) [0] rfl
        have hFc := va_free (wc := [(prR, .inr (4, [.int 3, .ref prc, .int 0])), (prc, .inl (kP, 180, .inr (.inl fP)))]) hD hS hA [2, 3] rfl
        refine va_calli (va_runV (As := []) (rest := []) ⟨hx, hb, hml, hown, hts⟩ (c_addRow l dC dI _ prR prc kP fP) (cwV 0 hts gX11_price_X4_addRow rfl rfl rfl (by decide +kernel) ⟨Nat.le_of_ble_eq_true rfl, Nat.le_of_ble_eq_true rfl⟩) ⟨pz_blind, va_recv hKc hPc (ci := 4) (q0 := 0) rfl rfl, pz_pre hPc hKc hDc hN⟩ rfl rfl hl.1 rfl (lv_room (Nat.le_of_ble_eq_true rfl)) dX11_price_41 ⟨Nat.le_of_ble_eq_true rfl, Nat.le_of_ble_eq_true rfl⟩) hS (fun q _ h => hFc q h) hFc (fun r7 u t H1 locs ht hvm hw hB hz1 hk1 hS => ?_)
        obtain ⟨g_8, hP1, hK1, hD1⟩ := hB
        rw [ht] at hP1
        have hK1 := va_K.moved hvm.symm hK1
        obtain ⟨hP, hD⟩ := va_join (wr := [(h0, .inr (11, [.ref wd, .ref im, .ref wa, .ref re, .ref rk, .ref pl, .int fz])), (wd, .inr (10, [.int 0, .int bo, .int li, .int og, .int 0, .int 0, .int 0, .ref tdA, .ref seA, .ref teA, .ref shA, .ref coA, .ref slS, .ref brS, .ref foS, .ref prR, .ref rdR, .ref laR, .ref caR]))]) (w1 := [(prR, .inr (4, [.int 3, .ref prc, .int 1])), (prc, .inl (kP, 180, .inr (.inl g_8)))]) hP hD [2, 3] [0, 1] rfl rfl (by decide +kernel) (by decide +kernel) hk1 hFc hP1 hD1
        have hK := hK.app hK1
        generalize H1 = H at hP hS ⊢
        have hP : va_P (dC, dI) vwCl [(h0, .inr (11, [.ref wd, .ref im, .ref wa, .ref re, .ref rk, .ref pl, .int fz])), (wd, .inr (10, [.int 0, .int bo, .int li, .int og, .int 0, .int 0, .int 0, .ref tdA, .ref seA, .ref teA, .ref shA, .ref coA, .ref slS, .ref brS, .ref foS, .ref prR, .ref rdR, .ref laR, .ref caR])), (prR, .inr (4, [.int 3, .ref prc, .int 1])), (prc, .inl (kP, 180, .inr (.inl g_8)))] H := hP
        have hD : va_D A [(h0, .inr (11, [.ref wd, .ref im, .ref wa, .ref re, .ref rk, .ref pl, .int fz])), (wd, .inr (10, [.int 0, .int bo, .int li, .int og, .int 0, .int 0, .int 0, .ref tdA, .ref seA, .ref teA, .ref shA, .ref coA, .ref slS, .ref brS, .ref foS, .ref prR, .ref rdR, .ref laR, .ref caR])), (prR, .inr (4, [.int 3, .ref prc, .int 1])), (prc, .inl (kP, 180, .inr (.inl g_8)))] := hD
        have hK : va_K (dC, dI) vwCl [(kP, .long), (kP, .long)] s := hK
        obtain rfl : 0 = r7 := hw.symm
        refine lv_istore (lv' := [(4, .int 0), (0, .ref h0), (1, .int xa), (2, .int xb), (3, .int xc)]) hx hb dX11_price_44 hl (by decide) rfl (fun ls hl => ?_)
        refine lv_iload hx hb dX11_price_46 (lv_at hl 0 rfl) ?_
        refine lv_iconst (v := (-1)) hx hb dX11_price_48 (by decide) ?_
        refine lv_icmp_ne (tgt := 59) hx hb dX11_price_49 (by decide) (fun _ => ?_) (fun c9 => absurd c9 (by decide))
        refine lv_aload_n hx hb dX11_price_59 rfl (lv_at hl 1 rfl) ?_
        refine va_get (D := (dC, dI)) (ci := 11) (v := .ref wd) (C := RX11) (T := TX11) (N := 7) hx hb hts hfX11 hown hK hP 0 rfl rfl 0 (by decide) (hts (.fieldLink RX11 10 "ColdShips" "world" "LColdShips$World;") (by decide +kernel)) (fun _ h9 => h9) rfl dX11_price_60 ?_
        refine va_getN (D := (dC, dI)) (ci := 10) (v := .ref prR) (C := RX10) (T := TX10) (N := 19) hx hb hts hfX10 hown hK hP 1 rfl rfl 15 (by decide) (va_Nw.use rfl (hN.1 (.fieldLinkNest RX11 232 "ColdShips$World" "prices" "LColdShips$Rows;" "ColdShips") (by decide +kernel))) (fun _ h9 => h9) rfl dX11_price_63 ?_
        refine lv_iload hx hb dX11_price_66 (lv_at hl 0 rfl) ?_
        refine lv_iconst (v := 0) hx hb dX11_price_68 (by decide) ?_
        refine lv_iload_n hx hb dX11_price_69 rfl (lv_at hl 2 rfl) ?_
        refine lv_i2l hx hb dX11_price_70 rfl ?_
        have hPc := hP.sub (ws' := [(prR, .inr (4, [.int 3, .ref prc, .int 1])), (prc, .inl (kP, 180, .inr (.inl g_8)))]) [2, 3] rfl
        have hDc := hD.sub (ws' := [(prR, .inr (4, [.int 3, .ref prc, .int 1])), (prc, .inl (kP, 180, .inr (.inl g_8)))]) [2, 3] (by decide +kernel) rfl
        have hKc := hK.sub (tys' := [(kP, .long)]) [0] rfl
        have hFc := va_free (wc := [(prR, .inr (4, [.int 3, .ref prc, .int 1])), (prc, .inl (kP, 180, .inr (.inl g_8)))]) hD hS hA [2, 3] rfl
        refine va_callv (va_runV (As := [.int 0, .int 0, .long xa.toInt64]) (rest := []) ⟨hx, hb, hml, hown, hts⟩ (c_set0 l dC dI _ prR xa.toInt64 prc kP g_8) (cwV 3 hts gX11_price_X4_set rfl rfl rfl (by decide +kernel) ⟨Nat.le_of_ble_eq_true rfl, Nat.le_of_ble_eq_true rfl⟩) ⟨pz_blind, va_recv hKc hPc (ci := 4) (q0 := 0) rfl rfl, pz_pre hPc hKc hDc hN⟩ rfl rfl hl.1 rfl (lv_room (Nat.le_of_ble_eq_true rfl)) dX11_price_71 ⟨Nat.le_of_ble_eq_true rfl, Nat.le_of_ble_eq_true rfl⟩) hS (fun q _ h => hFc q h) hFc (fun u t H1 locs ht hvm hw hB hz1 hk1 hS => ?_)
        obtain ⟨g_11, hP1, hK1, hD1⟩ := hB
        rw [ht] at hP1
        have hK1 := va_K.moved hvm.symm hK1
        obtain ⟨hP, hD⟩ := va_join (wr := [(h0, .inr (11, [.ref wd, .ref im, .ref wa, .ref re, .ref rk, .ref pl, .int fz])), (wd, .inr (10, [.int 0, .int bo, .int li, .int og, .int 0, .int 0, .int 0, .ref tdA, .ref seA, .ref teA, .ref shA, .ref coA, .ref slS, .ref brS, .ref foS, .ref prR, .ref rdR, .ref laR, .ref caR]))]) (w1 := [(prR, .inr (4, [.int 3, .ref prc, .int 1])), (prc, .inl (kP, 180, .inr (.inl g_11)))]) hP hD [2, 3] [0, 1] rfl rfl (by decide +kernel) (by decide +kernel) hk1 hFc hP1 hD1
        have hK := hK.app hK1
        generalize H1 = H at hP hS ⊢
        have hP : va_P (dC, dI) vwCl [(h0, .inr (11, [.ref wd, .ref im, .ref wa, .ref re, .ref rk, .ref pl, .int fz])), (wd, .inr (10, [.int 0, .int bo, .int li, .int og, .int 0, .int 0, .int 0, .ref tdA, .ref seA, .ref teA, .ref shA, .ref coA, .ref slS, .ref brS, .ref foS, .ref prR, .ref rdR, .ref laR, .ref caR])), (prR, .inr (4, [.int 3, .ref prc, .int 1])), (prc, .inl (kP, 180, .inr (.inl g_11)))] H := hP
        have hD : va_D A [(h0, .inr (11, [.ref wd, .ref im, .ref wa, .ref re, .ref rk, .ref pl, .int fz])), (wd, .inr (10, [.int 0, .int bo, .int li, .int og, .int 0, .int 0, .int 0, .ref tdA, .ref seA, .ref teA, .ref shA, .ref coA, .ref slS, .ref brS, .ref foS, .ref prR, .ref rdR, .ref laR, .ref caR])), (prR, .inr (4, [.int 3, .ref prc, .int 1])), (prc, .inl (kP, 180, .inr (.inl g_11)))] := hD
        have hK : va_K (dC, dI) vwCl [(kP, .long), (kP, .long), (kP, .long)] s := hK
        refine lv_aload_n hx hb dX11_price_74 rfl (lv_at hl 1 rfl) ?_
        refine va_get (D := (dC, dI)) (ci := 11) (v := .ref wd) (C := RX11) (T := TX11) (N := 7) hx hb hts hfX11 hown hK hP 0 rfl rfl 0 (by decide) (hts (.fieldLink RX11 10 "ColdShips" "world" "LColdShips$World;") (by decide +kernel)) (fun _ h9 => h9) rfl dX11_price_75 ?_
        refine va_getN (D := (dC, dI)) (ci := 10) (v := .ref prR) (C := RX10) (T := TX10) (N := 19) hx hb hts hfX10 hown hK hP 1 rfl rfl 15 (by decide) (va_Nw.use rfl (hN.1 (.fieldLinkNest RX11 232 "ColdShips$World" "prices" "LColdShips$Rows;" "ColdShips") (by decide +kernel))) (fun _ h9 => h9) rfl dX11_price_78 ?_
        refine lv_iload hx hb dX11_price_81 (lv_at hl 0 rfl) ?_
        refine lv_iconst (v := 1) hx hb dX11_price_83 (by decide) ?_
        refine lv_iload_n hx hb dX11_price_84 rfl (lv_at hl 3 rfl) ?_
        refine lv_i2l hx hb dX11_price_85 rfl ?_
        have hPc := hP.sub (ws' := [(prR, .inr (4, [.int 3, .ref prc, .int 1])), (prc, .inl (kP, 180, .inr (.inl g_11)))]) [2, 3] rfl
        have hDc := hD.sub (ws' := [(prR, .inr (4, [.int 3, .ref prc, .int 1])), (prc, .inl (kP, 180, .inr (.inl g_11)))]) [2, 3] (by decide +kernel) rfl
        have hKc := hK.sub (tys' := [(kP, .long)]) [0] rfl
        have hFc := va_free (wc := [(prR, .inr (4, [.int 3, .ref prc, .int 1])), (prc, .inl (kP, 180, .inr (.inl g_11)))]) hD hS hA [2, 3] rfl
        refine va_callv (va_runV (As := [.int 0, .int 1, .long xb.toInt64]) (rest := []) ⟨hx, hb, hml, hown, hts⟩ (c_set1 l dC dI _ prR xb.toInt64 prc kP g_11) (cwV 3 hts gX11_price_X4_set rfl rfl rfl (by decide +kernel) ⟨Nat.le_of_ble_eq_true rfl, Nat.le_of_ble_eq_true rfl⟩) ⟨pz_blind, va_recv hKc hPc (ci := 4) (q0 := 0) rfl rfl, pz_pre hPc hKc hDc hN⟩ rfl rfl hl.1 rfl (lv_room (Nat.le_of_ble_eq_true rfl)) dX11_price_86 ⟨Nat.le_of_ble_eq_true rfl, Nat.le_of_ble_eq_true rfl⟩) hS (fun q _ h => hFc q h) hFc (fun u t H1 locs ht hvm hw hB hz1 hk1 hS => ?_)
        obtain ⟨g_14, hP1, hK1, hD1⟩ := hB
        rw [ht] at hP1
        have hK1 := va_K.moved hvm.symm hK1
        obtain ⟨hP, hD⟩ := va_join (wr := [(h0, .inr (11, [.ref wd, .ref im, .ref wa, .ref re, .ref rk, .ref pl, .int fz])), (wd, .inr (10, [.int 0, .int bo, .int li, .int og, .int 0, .int 0, .int 0, .ref tdA, .ref seA, .ref teA, .ref shA, .ref coA, .ref slS, .ref brS, .ref foS, .ref prR, .ref rdR, .ref laR, .ref caR]))]) (w1 := [(prR, .inr (4, [.int 3, .ref prc, .int 1])), (prc, .inl (kP, 180, .inr (.inl g_14)))]) hP hD [2, 3] [0, 1] rfl rfl (by decide +kernel) (by decide +kernel) hk1 hFc hP1 hD1
        have hK := hK.app hK1
        generalize H1 = H at hP hS ⊢
        have hP : va_P (dC, dI) vwCl [(h0, .inr (11, [.ref wd, .ref im, .ref wa, .ref re, .ref rk, .ref pl, .int fz])), (wd, .inr (10, [.int 0, .int bo, .int li, .int og, .int 0, .int 0, .int 0, .ref tdA, .ref seA, .ref teA, .ref shA, .ref coA, .ref slS, .ref brS, .ref foS, .ref prR, .ref rdR, .ref laR, .ref caR])), (prR, .inr (4, [.int 3, .ref prc, .int 1])), (prc, .inl (kP, 180, .inr (.inl g_14)))] H := hP
        have hD : va_D A [(h0, .inr (11, [.ref wd, .ref im, .ref wa, .ref re, .ref rk, .ref pl, .int fz])), (wd, .inr (10, [.int 0, .int bo, .int li, .int og, .int 0, .int 0, .int 0, .ref tdA, .ref seA, .ref teA, .ref shA, .ref coA, .ref slS, .ref brS, .ref foS, .ref prR, .ref rdR, .ref laR, .ref caR])), (prR, .inr (4, [.int 3, .ref prc, .int 1])), (prc, .inl (kP, 180, .inr (.inl g_14)))] := hD
        have hK : va_K (dC, dI) vwCl [(kP, .long), (kP, .long), (kP, .long), (kP, .long)] s := hK
        refine lv_aload_n hx hb dX11_price_89 rfl (lv_at hl 1 rfl) ?_
        refine va_get (D := (dC, dI)) (ci := 11) (v := .ref wd) (C := RX11) (T := TX11) (N := 7) hx hb hts hfX11 hown hK hP 0 rfl rfl 0 (by decide) (hts (.fieldLink RX11 10 "ColdShips" "world" "LColdShips$World;") (by decide +kernel)) (fun _ h9 => h9) rfl dX11_price_90 ?_
        refine va_getN (D := (dC, dI)) (ci := 10) (v := .ref prR) (C := RX10) (T := TX10) (N := 19) hx hb hts hfX10 hown hK hP 1 rfl rfl 15 (by decide) (va_Nw.use rfl (hN.1 (.fieldLinkNest RX11 232 "ColdShips$World" "prices" "LColdShips$Rows;" "ColdShips") (by decide +kernel))) (fun _ h9 => h9) rfl dX11_price_93 ?_
        refine lv_iload hx hb dX11_price_96 (lv_at hl 0 rfl) ?_
        refine lv_iconst (v := 2) hx hb dX11_price_98 (by decide) ?_
        refine lv_iload_n hx hb dX11_price_99 rfl (lv_at hl 4 rfl) ?_
        refine lv_i2l hx hb dX11_price_100 rfl ?_
        have hPc := hP.sub (ws' := [(prR, .inr (4, [.int 3, .ref prc, .int 1])), (prc, .inl (kP, 180, .inr (.inl g_14)))]) [2, 3] rfl
        have hDc := hD.sub (ws' := [(prR, .inr (4, [.int 3, .ref prc, .int 1])), (prc, .inl (kP, 180, .inr (.inl g_14)))]) [2, 3] (by decide +kernel) rfl
        have hKc := hK.sub (tys' := [(kP, .long)]) [0] rfl
        have hFc := va_free (wc := [(prR, .inr (4, [.int 3, .ref prc, .int 1])), (prc, .inl (kP, 180, .inr (.inl g_14)))]) hD hS hA [2, 3] rfl
        refine va_callv (va_runV (As := [.int 0, .int 2, .long xc.toInt64]) (rest := []) ⟨hx, hb, hml, hown, hts⟩ (c_set2 l dC dI _ prR xc.toInt64 prc kP g_14) (cwV 3 hts gX11_price_X4_set rfl rfl rfl (by decide +kernel) ⟨Nat.le_of_ble_eq_true rfl, Nat.le_of_ble_eq_true rfl⟩) ⟨pz_blind, va_recv hKc hPc (ci := 4) (q0 := 0) rfl rfl, pz_pre hPc hKc hDc hN⟩ rfl rfl hl.1 rfl (lv_room (Nat.le_of_ble_eq_true rfl)) dX11_price_101 ⟨Nat.le_of_ble_eq_true rfl, Nat.le_of_ble_eq_true rfl⟩) hS (fun q _ h => hFc q h) hFc (fun u t H1 locs ht hvm hw hB hz1 hk1 hS => ?_)
        obtain ⟨g_17, hP1, hK1, hD1⟩ := hB
        rw [ht] at hP1
        have hK1 := va_K.moved hvm.symm hK1
        obtain ⟨hP, hD⟩ := va_join (wr := [(h0, .inr (11, [.ref wd, .ref im, .ref wa, .ref re, .ref rk, .ref pl, .int fz])), (wd, .inr (10, [.int 0, .int bo, .int li, .int og, .int 0, .int 0, .int 0, .ref tdA, .ref seA, .ref teA, .ref shA, .ref coA, .ref slS, .ref brS, .ref foS, .ref prR, .ref rdR, .ref laR, .ref caR]))]) (w1 := [(prR, .inr (4, [.int 3, .ref prc, .int 1])), (prc, .inl (kP, 180, .inr (.inl g_17)))]) hP hD [2, 3] [0, 1] rfl rfl (by decide +kernel) (by decide +kernel) hk1 hFc hP1 hD1
        have hK := hK.app hK1
        generalize H1 = H at hP hS ⊢
        have hP : va_P (dC, dI) vwCl [(h0, .inr (11, [.ref wd, .ref im, .ref wa, .ref re, .ref rk, .ref pl, .int fz])), (wd, .inr (10, [.int 0, .int bo, .int li, .int og, .int 0, .int 0, .int 0, .ref tdA, .ref seA, .ref teA, .ref shA, .ref coA, .ref slS, .ref brS, .ref foS, .ref prR, .ref rdR, .ref laR, .ref caR])), (prR, .inr (4, [.int 3, .ref prc, .int 1])), (prc, .inl (kP, 180, .inr (.inl g_17)))] H := hP
        have hD : va_D A [(h0, .inr (11, [.ref wd, .ref im, .ref wa, .ref re, .ref rk, .ref pl, .int fz])), (wd, .inr (10, [.int 0, .int bo, .int li, .int og, .int 0, .int 0, .int 0, .ref tdA, .ref seA, .ref teA, .ref shA, .ref coA, .ref slS, .ref brS, .ref foS, .ref prR, .ref rdR, .ref laR, .ref caR])), (prR, .inr (4, [.int 3, .ref prc, .int 1])), (prc, .inl (kP, 180, .inr (.inl g_17)))] := hD
        have hK : va_K (dC, dI) vwCl [(kP, .long), (kP, .long), (kP, .long), (kP, .long), (kP, .long)] s := hK
        refine lv_aload_n hx hb dX11_price_104 rfl (lv_at hl 1 rfl) ?_
        refine lv_aload_n hx hb dX11_price_105 rfl (lv_at hl 1 rfl) ?_
        refine va_get (D := (dC, dI)) (ci := 11) (v := .ref wd) (C := RX11) (T := TX11) (N := 7) hx hb hts hfX11 hown hK hP 0 rfl rfl 0 (by decide) (hts (.fieldLink RX11 10 "ColdShips" "world" "LColdShips$World;") (by decide +kernel)) (fun _ h9 => h9) rfl dX11_price_106 ?_
        refine va_getN (D := (dC, dI)) (ci := 10) (v := .ref prR) (C := RX10) (T := TX10) (N := 19) hx hb hts hfX10 hown hK hP 1 rfl rfl 15 (by decide) (va_Nw.use rfl (hN.1 (.fieldLinkNest RX11 232 "ColdShips$World" "prices" "LColdShips$Rows;" "ColdShips") (by decide +kernel))) (fun _ h9 => h9) rfl dX11_price_109 ?_
        refine va_getN (D := (dC, dI)) (ci := 4) (v := .int 1) (C := RX4) (T := TX4) (N := 3) hx hb hts hfX4 hown hK hP 2 rfl rfl 2 (by decide) (va_Nw.use rfl (hN.1 (.fieldLinkNest RX11 242 "ColdShips$Rows" "size" "I" "ColdShips") (by decide +kernel))) (fun _ h9 => h9) rfl dX11_price_112 ?_
        have hPc := hP.sub (ws' := [(h0, .inr (11, [.ref wd, .ref im, .ref wa, .ref re, .ref rk, .ref pl, .int fz]))]) [0] rfl
        have hDc := hD.sub (ws' := [(h0, .inr (11, [.ref wd, .ref im, .ref wa, .ref re, .ref rk, .ref pl, .int fz]))]) [0] (by decide +kernel) rfl
        have hKc := hK.sub (tys' := []) [] rfl
        have hFc := va_free (wc := [(h0, .inr (11, [.ref wd, .ref im, .ref wa, .ref re, .ref rk, .ref pl, .int fz]))]) hD hS hA [0] rfl
        refine va_calli (va_runV (As := [.int 1]) (rest := []) ⟨hx, hb, hml, hown, hts⟩ (c_X11_accept l dC dI _ h0 wd im wa re rk pl fz 1) (cwV 1 hts gX11_price_X11_accept rfl rfl rfl (by decide +kernel) ⟨Nat.le_of_ble_eq_true rfl, Nat.le_of_ble_eq_true rfl⟩) ⟨pz_blind, va_recv hKc hPc (ci := 11) (q0 := 0) rfl rfl, pz_pre hPc hKc hDc hN⟩ rfl rfl hl.1 rfl (lv_room (Nat.le_of_ble_eq_true rfl)) dX11_price_115 ⟨Nat.le_of_ble_eq_true rfl, Nat.le_of_ble_eq_true rfl⟩) hS (fun q _ h => hFc q h) hFc (fun r19 u t H1 locs ht hvm hw hB hz1 hk1 hS => ?_)
        obtain ⟨hP, hD⟩ := va_join (wr := [(wd, .inr (10, [.int 0, .int bo, .int li, .int og, .int 0, .int 0, .int 0, .ref tdA, .ref seA, .ref teA, .ref shA, .ref coA, .ref slS, .ref brS, .ref foS, .ref prR, .ref rdR, .ref laR, .ref caR])), (prR, .inr (4, [.int 3, .ref prc, .int 1])), (prc, .inl (kP, 180, .inr (.inl g_17)))]) (w1 := []) hP hD [0] [1, 2, 3] rfl rfl (by decide +kernel) (by decide +kernel) hk1 hFc pz_P0 pz_D0
        generalize H1 = H at hP hS ⊢
        have hP : va_P (dC, dI) vwCl [(wd, .inr (10, [.int 0, .int bo, .int li, .int og, .int 0, .int 0, .int 0, .ref tdA, .ref seA, .ref teA, .ref shA, .ref coA, .ref slS, .ref brS, .ref foS, .ref prR, .ref rdR, .ref laR, .ref caR])), (prR, .inr (4, [.int 3, .ref prc, .int 1])), (prc, .inl (kP, 180, .inr (.inl g_17)))] H := hP
        have hD : va_D A [(wd, .inr (10, [.int 0, .int bo, .int li, .int og, .int 0, .int 0, .int 0, .ref tdA, .ref seA, .ref teA, .ref shA, .ref coA, .ref slS, .ref brS, .ref foS, .ref prR, .ref rdR, .ref laR, .ref caR])), (prR, .inr (4, [.int 3, .ref prc, .int 1])), (prc, .inl (kP, 180, .inr (.inl g_17)))] := hD
        have hK : va_K (dC, dI) vwCl [(kP, .long), (kP, .long), (kP, .long), (kP, .long), (kP, .long)] s := hK
        obtain rfl : 1 = r19 := hw.symm
        exact W.iret (v := 1) hx hb hr (fun t ht hW => ⟨⟨1, (), rfl, (by unfold F_price; (repeat' split) <;> first | rfl | (exfalso; omega) | (refine Int32.toInt_inj.mp ?_; show _ = (0 : Int); omega)), trivial⟩, hS.F ht⟩) hS.2.2 dX11_price_118
      · refine lv_if_ne (tgt := 34) hx hb dX11_price_25 (by decide) (fun c9 => absurd c9 (by decide)) (fun _ => ?_)
        refine lv_aload_n hx hb dX11_price_28 rfl (lv_at hl 0 rfl) ?_
        refine lv_iconst (v := (-1)) hx hb dX11_price_29 (by decide) ?_
        have hPc := hP.sub (ws' := [(h0, .inr (11, [.ref wd, .ref im, .ref wa, .ref re, .ref rk, .ref pl, .int fz]))]) [0] rfl
        have hDc := hD.sub (ws' := [(h0, .inr (11, [.ref wd, .ref im, .ref wa, .ref re, .ref rk, .ref pl, .int fz]))]) [0] (by decide +kernel) rfl
        have hKc := hK.sub (tys' := []) [] rfl
        have hFc := va_free (wc := [(h0, .inr (11, [.ref wd, .ref im, .ref wa, .ref re, .ref rk, .ref pl, .int fz]))]) hD hS hA [0] rfl
        refine va_calli (va_runV (As := [.int (-1)]) (rest := []) ⟨hx, hb, hml, hown, hts⟩ (c_X11_refuse l dC dI _ h0 wd im wa re rk pl fz (-1)) (cwV 1 hts gX11_price_X11_refuse rfl rfl rfl (by decide +kernel) ⟨Nat.le_of_ble_eq_true rfl, Nat.le_of_ble_eq_true rfl⟩) ⟨pz_blind, va_recv hKc hPc (ci := 11) (q0 := 0) rfl rfl, pz_pre hPc hKc hDc hN⟩ rfl rfl hl.1 rfl (lv_room (Nat.le_of_ble_eq_true rfl)) dX11_price_30 ⟨Nat.le_of_ble_eq_true rfl, Nat.le_of_ble_eq_true rfl⟩) hS (fun q _ h => hFc q h) hFc (fun r20 u t H1 locs ht hvm hw hB hz1 hk1 hS => ?_)
        obtain ⟨hP, hD⟩ := va_join (wr := [(wd, .inr (10, [.int 0, .int bo, .int li, .int og, .int 0, .int 0, .int 0, .ref tdA, .ref seA, .ref teA, .ref shA, .ref coA, .ref slS, .ref brS, .ref foS, .ref prR, .ref rdR, .ref laR, .ref caR])), (prR, .inr (4, [.int 3, .ref prc, .int 0])), (prc, .inl (kP, 180, .inr (.inl fP)))]) (w1 := []) hP hD [0] [1, 2, 3] rfl rfl (by decide +kernel) (by decide +kernel) hk1 hFc pz_P0 pz_D0
        generalize H1 = H at hP hS ⊢
        have hP : va_P (dC, dI) vwCl [(wd, .inr (10, [.int 0, .int bo, .int li, .int og, .int 0, .int 0, .int 0, .ref tdA, .ref seA, .ref teA, .ref shA, .ref coA, .ref slS, .ref brS, .ref foS, .ref prR, .ref rdR, .ref laR, .ref caR])), (prR, .inr (4, [.int 3, .ref prc, .int 0])), (prc, .inl (kP, 180, .inr (.inl fP)))] H := hP
        have hD : va_D A [(wd, .inr (10, [.int 0, .int bo, .int li, .int og, .int 0, .int 0, .int 0, .ref tdA, .ref seA, .ref teA, .ref shA, .ref coA, .ref slS, .ref brS, .ref foS, .ref prR, .ref rdR, .ref laR, .ref caR])), (prR, .inr (4, [.int 3, .ref prc, .int 0])), (prc, .inl (kP, 180, .inr (.inl fP)))] := hD
        have hK : va_K (dC, dI) vwCl [(kP, .long)] s := hK
        obtain rfl : (-1) = r20 := hw.symm
        exact W.iret (v := (-1)) hx hb hr (fun t ht hW => ⟨⟨(-1), (), rfl, (by unfold F_price; (repeat' split) <;> first | rfl | (exfalso; omega) | (refine Int32.toInt_inj.mp ?_; show _ = (0 : Int); omega)), trivial⟩, hS.F ht⟩) hS.2.2 dX11_price_33
    · refine lv_if_eq (tgt := 28) hx hb dX11_price_18 (by decide) (fun _ => ?_) (fun c9 => absurd c9 (by decide))
      refine lv_aload_n hx hb dX11_price_28 rfl (lv_at hl 0 rfl) ?_
      refine lv_iconst (v := (-1)) hx hb dX11_price_29 (by decide) ?_
      have hPc := hP.sub (ws' := [(h0, .inr (11, [.ref wd, .ref im, .ref wa, .ref re, .ref rk, .ref pl, .int fz]))]) [0] rfl
      have hDc := hD.sub (ws' := [(h0, .inr (11, [.ref wd, .ref im, .ref wa, .ref re, .ref rk, .ref pl, .int fz]))]) [0] (by decide +kernel) rfl
      have hKc := hK.sub (tys' := []) [] rfl
      have hFc := va_free (wc := [(h0, .inr (11, [.ref wd, .ref im, .ref wa, .ref re, .ref rk, .ref pl, .int fz]))]) hD hS hA [0] rfl
      refine va_calli (va_runV (As := [.int (-1)]) (rest := []) ⟨hx, hb, hml, hown, hts⟩ (c_X11_refuse l dC dI _ h0 wd im wa re rk pl fz (-1)) (cwV 1 hts gX11_price_X11_refuse rfl rfl rfl (by decide +kernel) ⟨Nat.le_of_ble_eq_true rfl, Nat.le_of_ble_eq_true rfl⟩) ⟨pz_blind, va_recv hKc hPc (ci := 11) (q0 := 0) rfl rfl, pz_pre hPc hKc hDc hN⟩ rfl rfl hl.1 rfl (lv_room (Nat.le_of_ble_eq_true rfl)) dX11_price_30 ⟨Nat.le_of_ble_eq_true rfl, Nat.le_of_ble_eq_true rfl⟩) hS (fun q _ h => hFc q h) hFc (fun r21 u t H1 locs ht hvm hw hB hz1 hk1 hS => ?_)
      obtain ⟨hP, hD⟩ := va_join (wr := [(wd, .inr (10, [.int 0, .int bo, .int li, .int og, .int 0, .int 0, .int 0, .ref tdA, .ref seA, .ref teA, .ref shA, .ref coA, .ref slS, .ref brS, .ref foS, .ref prR, .ref rdR, .ref laR, .ref caR])), (prR, .inr (4, [.int 3, .ref prc, .int 0])), (prc, .inl (kP, 180, .inr (.inl fP)))]) (w1 := []) hP hD [0] [1, 2, 3] rfl rfl (by decide +kernel) (by decide +kernel) hk1 hFc pz_P0 pz_D0
      generalize H1 = H at hP hS ⊢
      have hP : va_P (dC, dI) vwCl [(wd, .inr (10, [.int 0, .int bo, .int li, .int og, .int 0, .int 0, .int 0, .ref tdA, .ref seA, .ref teA, .ref shA, .ref coA, .ref slS, .ref brS, .ref foS, .ref prR, .ref rdR, .ref laR, .ref caR])), (prR, .inr (4, [.int 3, .ref prc, .int 0])), (prc, .inl (kP, 180, .inr (.inl fP)))] H := hP
      have hD : va_D A [(wd, .inr (10, [.int 0, .int bo, .int li, .int og, .int 0, .int 0, .int 0, .ref tdA, .ref seA, .ref teA, .ref shA, .ref coA, .ref slS, .ref brS, .ref foS, .ref prR, .ref rdR, .ref laR, .ref caR])), (prR, .inr (4, [.int 3, .ref prc, .int 0])), (prc, .inl (kP, 180, .inr (.inl fP)))] := hD
      have hK : va_K (dC, dI) vwCl [(kP, .long)] s := hK
      obtain rfl : (-1) = r21 := hw.symm
      exact W.iret (v := (-1)) hx hb hr (fun t ht hW => ⟨⟨(-1), (), rfl, (by unfold F_price; (repeat' split) <;> first | rfl | (exfalso; omega) | (refine Int32.toInt_inj.mp ?_; show _ = (0 : Int); omega)), trivial⟩, hS.F ht⟩) hS.2.2 dX11_price_33
  · refine lv_if_eq (tgt := 28) hx hb dX11_price_7 (by decide) (fun _ => ?_) (fun c9 => absurd c9 (by decide))
    refine lv_aload_n hx hb dX11_price_28 rfl (lv_at hl 0 rfl) ?_
    refine lv_iconst (v := (-1)) hx hb dX11_price_29 (by decide) ?_
    have hPc := hP.sub (ws' := [(h0, .inr (11, [.ref wd, .ref im, .ref wa, .ref re, .ref rk, .ref pl, .int fz]))]) [0] rfl
    have hDc := hD.sub (ws' := [(h0, .inr (11, [.ref wd, .ref im, .ref wa, .ref re, .ref rk, .ref pl, .int fz]))]) [0] (by decide +kernel) rfl
    have hKc := hK.sub (tys' := []) [] rfl
    have hFc := va_free (wc := [(h0, .inr (11, [.ref wd, .ref im, .ref wa, .ref re, .ref rk, .ref pl, .int fz]))]) hD hS hA [0] rfl
    refine va_calli (va_runV (As := [.int (-1)]) (rest := []) ⟨hx, hb, hml, hown, hts⟩ (c_X11_refuse l dC dI _ h0 wd im wa re rk pl fz (-1)) (cwV 1 hts gX11_price_X11_refuse rfl rfl rfl (by decide +kernel) ⟨Nat.le_of_ble_eq_true rfl, Nat.le_of_ble_eq_true rfl⟩) ⟨pz_blind, va_recv hKc hPc (ci := 11) (q0 := 0) rfl rfl, pz_pre hPc hKc hDc hN⟩ rfl rfl hl.1 rfl (lv_room (Nat.le_of_ble_eq_true rfl)) dX11_price_30 ⟨Nat.le_of_ble_eq_true rfl, Nat.le_of_ble_eq_true rfl⟩) hS (fun q _ h => hFc q h) hFc (fun r22 u t H1 locs ht hvm hw hB hz1 hk1 hS => ?_)
    obtain ⟨hP, hD⟩ := va_join (wr := [(wd, .inr (10, [.int 0, .int bo, .int li, .int og, .int 0, .int 0, .int 0, .ref tdA, .ref seA, .ref teA, .ref shA, .ref coA, .ref slS, .ref brS, .ref foS, .ref prR, .ref rdR, .ref laR, .ref caR])), (prR, .inr (4, [.int 3, .ref prc, .int 0])), (prc, .inl (kP, 180, .inr (.inl fP)))]) (w1 := []) hP hD [0] [1, 2, 3] rfl rfl (by decide +kernel) (by decide +kernel) hk1 hFc pz_P0 pz_D0
    generalize H1 = H at hP hS ⊢
    have hP : va_P (dC, dI) vwCl [(wd, .inr (10, [.int 0, .int bo, .int li, .int og, .int 0, .int 0, .int 0, .ref tdA, .ref seA, .ref teA, .ref shA, .ref coA, .ref slS, .ref brS, .ref foS, .ref prR, .ref rdR, .ref laR, .ref caR])), (prR, .inr (4, [.int 3, .ref prc, .int 0])), (prc, .inl (kP, 180, .inr (.inl fP)))] H := hP
    have hD : va_D A [(wd, .inr (10, [.int 0, .int bo, .int li, .int og, .int 0, .int 0, .int 0, .ref tdA, .ref seA, .ref teA, .ref shA, .ref coA, .ref slS, .ref brS, .ref foS, .ref prR, .ref rdR, .ref laR, .ref caR])), (prR, .inr (4, [.int 3, .ref prc, .int 0])), (prc, .inl (kP, 180, .inr (.inl fP)))] := hD
    have hK : va_K (dC, dI) vwCl [(kP, .long)] s := hK
    obtain rfl : (-1) = r22 := hw.symm
    exact W.iret (v := (-1)) hx hb hr (fun t ht hW => ⟨⟨(-1), (), rfl, (by unfold F_price; (repeat' split) <;> first | rfl | (exfalso; omega) | (refine Int32.toInt_inj.mp ?_; show _ = (0 : Int); omega)), trivial⟩, hS.F ht⟩) hS.2.2 dX11_price_33
set_option maxHeartbeats 4000000 in
set_option maxRecDepth 100000 in
theorem c_X6_add (l : Launch) (dC : Nat → ClassId) (dI : Nat → Nat → Nat) (sz : Nat) (foS : Nat) (v1 : Int32) (v2 : Int32) (v3 : Int32) (foo : Nat) (fob : Nat) (foe : Nat) (k1 : ClassId) (f1 : Nat → Int32) (k2 : ClassId) (f2 : Nat → Int32) (k3 : ClassId) (f3 : Nat → Int32)  : Met l yX6_add wsX6_add ({ frames := 3, cells := 0, slots := 0, locals := 800 }) (va_Pc [.ref foS, .int v1, .int v2, .int v3] (pz_B dC dI [(k1, .int), (k2, .int), (k3, .int)] [(foS, .inr (6, [.ref foo, .ref fob, .ref foe, .int 0])), (foo, .inl (k1, 20, .inl f1)), (fob, .inl (k2, 20, .inl f2)), (foe, .inl (k3, 20, .inl f3))] sz)) (va_Qi (fun (r : Int32) (_ : Unit) => r = 1) (fun (_ : Unit) (_ : State) => True) (va_A [(foS, .inr (6, [.ref foo, .ref fob, .ref foe, .int 0])), (foo, .inl (k1, 20, .inl f1)), (fob, .inl (k2, 20, .inl f2)), (foe, .inl (k3, 20, .inl f3))] sz)) 0 0 (va_A [(foS, .inr (6, [.ref foo, .ref fob, .ref foe, .int 0])), (foo, .inl (k1, 20, .inl f1)), (fob, .inl (k2, 20, .inl f2)), (foe, .inl (k3, 20, .inl f3))] sz) := by
  refine Met.ofW (cc := cX6_add) (maxL := 5) (ret := some .int) (by decide) rfl ?_
  intro p e s m args below meth c s₁ B hml hv
  obtain ⟨rfl, hsz, hP, hK, hD0, hN⟩ := hv
  have hx := B.exec
  have hb := B.bytes
  have hr := B.returns
  have hts := atoms_spec (ws := wsX6_add) B.pre
  have hown : s.vm.findClass RX6 = some m.cls := findClass_of_methodNamed B.named
  have hlocks := B.notSynchronized
  subst hsz
  have hD := hD0.self (sz := s.heap.size)
  generalize hAe : va_A [(foS, .inr (6, [.ref foo, .ref fob, .ref foe, .int 0])), (foo, .inl (k1, 20, .inl f1)), (fob, .inl (k2, 20, .inl f2)), (foe, .inl (k3, 20, .inl f3))] s.heap.size = A at hD ⊢
  have hA : ∀ q : Nat, s.heap.size ≤ q → A q := fun q h => by rw [← hAe]; exact Or.inr h
  have hS : va_S A s.heap s.heap [] := va_S.rf
  have hl := lv_entry ([.ref foS, .int v1, .int v2, .int v3]) (n := 5) (Nat.le_of_ble_eq_true rfl)
  rw [lg_entry_eq]
  generalize (lg_sl ([.ref foS, .int v1, .int v2, .int v3]) ++ List.replicate (5 - (lg_sl ([.ref foS, .int v1, .int v2, .int v3])).length) Slot.unset).toArray = ls at hl ⊢
  have hl : lv_has ls 5 [(0, .ref foS), (1, .int v1), (2, .int v2), (3, .int v3)] := hl
  have hfX6 : ∀ w ∈ wsX60, w ∈ wsX6_add := fun w h => List.mem_cons_of_mem _ (List.mem_append_right _ h)
  refine lv_aload_n hx hb dX6_add_0 rfl (lv_at hl 0 rfl) ?_
  refine va_get (D := (dC, dI)) (ci := 6) (v := .int 0) (C := RX6) (T := TX6) (N := 4) hx hb hts hfX6 hown hK hP 0 rfl rfl 3 (by decide) (hts (.fieldLink RX6 27 "ColdShips$Spans" "size" "I") (by decide +kernel)) (fun _ h9 => h9) rfl dX6_add_1 ?_
  refine lv_aload_n hx hb dX6_add_4 rfl (lv_at hl 0 rfl) ?_
  refine va_get (D := (dC, dI)) (ci := 6) (v := .ref foo) (C := RX6) (T := TX6) (N := 4) hx hb hts hfX6 hown hK hP 0 rfl rfl 0 (by decide) (hts (.fieldLink RX6 15 "ColdShips$Spans" "owners" "[I") (by decide +kernel)) (fun _ h9 => h9) rfl dX6_add_5 ?_
  refine va_alen hx hb hK hP 1 0 rfl rfl (rfl : Int32.ofNat 20 = (20 : Int32)) dX6_add_8 ?_
  refine lv_icmp_lt (tgt := 14) hx hb dX6_add_9 (by decide) (fun _ => ?_) (fun c9 => absurd c9 (by decide))
  refine lv_aload_n hx hb dX6_add_14 rfl (lv_at hl 0 rfl) ?_
  refine va_get (D := (dC, dI)) (ci := 6) (v := .int 0) (C := RX6) (T := TX6) (N := 4) hx hb hts hfX6 hown hK hP 0 rfl rfl 3 (by decide) (hts (.fieldLink RX6 27 "ColdShips$Spans" "size" "I") (by decide +kernel)) (fun _ h9 => h9) rfl dX6_add_15 ?_
  refine lv_istore (lv' := [(4, .int 0), (0, .ref foS), (1, .int v1), (2, .int v2), (3, .int v3)]) hx hb dX6_add_18 hl (by decide) rfl (fun ls hl => ?_)
  refine lv_iload hx hb dX6_add_20 (lv_at hl 0 rfl) ?_
  refine lv_if_le (tgt := 92) hx hb dX6_add_22 (by decide) (fun _ => ?_) (fun c9 => absurd c9 (by decide))
  refine lv_aload_n hx hb dX6_add_92 rfl (lv_at hl 1 rfl) ?_
  refine va_get (D := (dC, dI)) (ci := 6) (v := .ref foo) (C := RX6) (T := TX6) (N := 4) hx hb hts hfX6 hown hK hP 0 rfl rfl 0 (by decide) (hts (.fieldLink RX6 15 "ColdShips$Spans" "owners" "[I") (by decide +kernel)) (fun _ h9 => h9) rfl dX6_add_93 ?_
  refine lv_iload hx hb dX6_add_96 (lv_at hl 0 rfl) ?_
  refine lv_iload_n hx hb dX6_add_98 rfl (lv_at hl 2 rfl) ?_
  refine va_iast hx hb hK hP hD hS 1 0 rfl rfl (vp_in_iff.mpr ⟨by decide, by decide⟩) dX6_add_99 (fun H locs hP hD hS => ?_)
  have hP : va_P (dC, dI) vwCl [(foS, .inr (6, [.ref foo, .ref fob, .ref foe, .int 0])), (foo, .inl (k1, 20, .inl (upd f1 0 v1))), (fob, .inl (k2, 20, .inl f2)), (foe, .inl (k3, 20, .inl f3))] H := hP
  have hD : va_D A [(foS, .inr (6, [.ref foo, .ref fob, .ref foe, .int 0])), (foo, .inl (k1, 20, .inl (upd f1 0 v1))), (fob, .inl (k2, 20, .inl f2)), (foe, .inl (k3, 20, .inl f3))] := hD
  refine lv_aload_n hx hb dX6_add_100 rfl (lv_at hl 1 rfl) ?_
  refine va_get (D := (dC, dI)) (ci := 6) (v := .ref fob) (C := RX6) (T := TX6) (N := 4) hx hb hts hfX6 hown hK hP 0 rfl rfl 1 (by decide) (hts (.fieldLink RX6 21 "ColdShips$Spans" "begins" "[I") (by decide +kernel)) (fun _ h9 => h9) rfl dX6_add_101 ?_
  refine lv_iload hx hb dX6_add_104 (lv_at hl 0 rfl) ?_
  refine lv_iload_n hx hb dX6_add_106 rfl (lv_at hl 3 rfl) ?_
  refine va_iast hx hb hK hP hD hS 2 1 rfl rfl (vp_in_iff.mpr ⟨by decide, by decide⟩) dX6_add_107 (fun H locs hP hD hS => ?_)
  have hP : va_P (dC, dI) vwCl [(foS, .inr (6, [.ref foo, .ref fob, .ref foe, .int 0])), (foo, .inl (k1, 20, .inl (upd f1 0 v1))), (fob, .inl (k2, 20, .inl (upd f2 0 v2))), (foe, .inl (k3, 20, .inl f3))] H := hP
  have hD : va_D A [(foS, .inr (6, [.ref foo, .ref fob, .ref foe, .int 0])), (foo, .inl (k1, 20, .inl (upd f1 0 v1))), (fob, .inl (k2, 20, .inl (upd f2 0 v2))), (foe, .inl (k3, 20, .inl f3))] := hD
  refine lv_aload_n hx hb dX6_add_108 rfl (lv_at hl 1 rfl) ?_
  refine va_get (D := (dC, dI)) (ci := 6) (v := .ref foe) (C := RX6) (T := TX6) (N := 4) hx hb hts hfX6 hown hK hP 0 rfl rfl 2 (by decide) (hts (.fieldLink RX6 24 "ColdShips$Spans" "ends" "[I") (by decide +kernel)) (fun _ h9 => h9) rfl dX6_add_109 ?_
  refine lv_iload hx hb dX6_add_112 (lv_at hl 0 rfl) ?_
  refine lv_iload_n hx hb dX6_add_114 rfl (lv_at hl 4 rfl) ?_
  refine va_iast hx hb hK hP hD hS 3 2 rfl rfl (vp_in_iff.mpr ⟨by decide, by decide⟩) dX6_add_115 (fun H locs hP hD hS => ?_)
  have hP : va_P (dC, dI) vwCl [(foS, .inr (6, [.ref foo, .ref fob, .ref foe, .int 0])), (foo, .inl (k1, 20, .inl (upd f1 0 v1))), (fob, .inl (k2, 20, .inl (upd f2 0 v2))), (foe, .inl (k3, 20, .inl (upd f3 0 v3)))] H := hP
  have hD : va_D A [(foS, .inr (6, [.ref foo, .ref fob, .ref foe, .int 0])), (foo, .inl (k1, 20, .inl (upd f1 0 v1))), (fob, .inl (k2, 20, .inl (upd f2 0 v2))), (foe, .inl (k3, 20, .inl (upd f3 0 v3)))] := hD
  refine lv_aload_n hx hb dX6_add_116 rfl (lv_at hl 1 rfl) ?_
  refine lv_dup hx hb dX6_add_117 rfl ?_
  refine va_get (D := (dC, dI)) (ci := 6) (v := .int 0) (C := RX6) (T := TX6) (N := 4) hx hb hts hfX6 hown hK hP 0 rfl rfl 3 (by decide) (hts (.fieldLink RX6 27 "ColdShips$Spans" "size" "I") (by decide +kernel)) (fun _ h9 => h9) rfl dX6_add_118 ?_
  refine lv_iconst (v := 1) hx hb dX6_add_121 (by decide) ?_
  refine lv_iadd hx hb dX6_add_122 ?_
  refine lv_topi (fun z1 ez1 => ?_)
  obtain rfl : z1 = 1 := ez1.trans (by first | rfl | decide)
  refine va_put (D := (dC, dI)) (ci := 6) (v := .int 1) (ty := .int) (C := RX6) (T := TX6) (N := 4) hx hb hts hfX6 tyX6 tyX6_ok nmX6 hown hK hP hD hS 0 rfl rfl 3 (by decide) (hts (.fieldLink RX6 27 "ColdShips$Spans" "size" "I") (by decide +kernel)) (fun _ h9 => h9) rfl (by decide +kernel) rfl rfl (Nat.le_of_ble_eq_true rfl) dX6_add_123 (fun H locs hP hD hS => ?_)
  have hP : va_P (dC, dI) vwCl [(foS, .inr (6, [.ref foo, .ref fob, .ref foe, .int 1])), (foo, .inl (k1, 20, .inl (upd f1 0 v1))), (fob, .inl (k2, 20, .inl (upd f2 0 v2))), (foe, .inl (k3, 20, .inl (upd f3 0 v3)))] H := hP
  have hD : va_D A [(foS, .inr (6, [.ref foo, .ref fob, .ref foe, .int 1])), (foo, .inl (k1, 20, .inl (upd f1 0 v1))), (fob, .inl (k2, 20, .inl (upd f2 0 v2))), (foe, .inl (k3, 20, .inl (upd f3 0 v3)))] := hD
  refine lv_aload_n hx hb dX6_add_126 rfl (lv_at hl 1 rfl) ?_
  refine va_get (D := (dC, dI)) (ci := 6) (v := .int 1) (C := RX6) (T := TX6) (N := 4) hx hb hts hfX6 hown hK hP 0 rfl rfl 3 (by decide) (hts (.fieldLink RX6 27 "ColdShips$Spans" "size" "I") (by decide +kernel)) (fun _ h9 => h9) rfl dX6_add_127 ?_
  exact W.iret (v := 1) hx hb hr (fun t ht hW => ⟨⟨1, (), rfl, rfl, trivial⟩, hS.F ht⟩) hS.2.2 dX6_add_130
set_option maxHeartbeats 4000000 in
set_option maxRecDepth 100000 in
theorem c_X11_acceptOrFull (l : Launch) (dC : Nat → ClassId) (dI : Nat → Nat → Nat) (sz : Nat) (h0 : Nat) (wd : Nat) (im : Nat) (wa : Nat) (re : Nat) (rk : Nat) (pl : Nat) (fz : Int32)  : Met l yX11_acceptOrFull wsX11_acceptOrFull ({ frames := 3, cells := 0, slots := 0, locals := 800 }) (va_Pc [.ref h0, .int 1] (pz_B dC dI [] [(h0, .inr (11, [.ref wd, .ref im, .ref wa, .ref re, .ref rk, .ref pl, .int fz]))] sz)) (va_Qi (fun (r : Int32) (_ : Unit) => r = 1) (fun (_ : Unit) (_ : State) => True) (va_A [(h0, .inr (11, [.ref wd, .ref im, .ref wa, .ref re, .ref rk, .ref pl, .int fz]))] sz)) 0 0 (va_A [(h0, .inr (11, [.ref wd, .ref im, .ref wa, .ref re, .ref rk, .ref pl, .int fz]))] sz) := by
  refine Met.ofW (cc := cX11_acceptOrFull) (maxL := 2) (ret := some .int) (by decide) rfl ?_
  intro p e s m args below meth c s₁ B hml hv
  obtain ⟨rfl, hsz, hP, hK, hD0, hN⟩ := hv
  have hx := B.exec
  have hb := B.bytes
  have hr := B.returns
  have hts := atoms_spec (ws := wsX11_acceptOrFull) B.pre
  have hown : s.vm.findClass RX11 = some m.cls := findClass_of_methodNamed B.named
  have hlocks := B.notSynchronized
  subst hsz
  have hD := hD0.self (sz := s.heap.size)
  generalize hAe : va_A [(h0, .inr (11, [.ref wd, .ref im, .ref wa, .ref re, .ref rk, .ref pl, .int fz]))] s.heap.size = A at hD ⊢
  have hA : ∀ q : Nat, s.heap.size ≤ q → A q := fun q h => by rw [← hAe]; exact Or.inr h
  have hS : va_S A s.heap s.heap [] := va_S.rf
  have hl := lv_entry ([.ref h0, .int 1]) (n := 2) (Nat.le_of_ble_eq_true rfl)
  rw [lg_entry_eq]
  generalize (lg_sl ([.ref h0, .int 1]) ++ List.replicate (2 - (lg_sl ([.ref h0, .int 1])).length) Slot.unset).toArray = ls at hl ⊢
  have hl : lv_has ls 2 [(0, .ref h0), (1, .int 1)] := hl
  have hfX11 : ∀ w ∈ wsX110, w ∈ wsX11_acceptOrFull := fun w h => List.mem_cons_of_mem _ (List.mem_append_right _ h)
  refine lv_iload_n hx hb dX11_acceptOrFull_0 rfl (lv_at hl 1 rfl) ?_
  refine lv_iconst (v := (-1)) hx hb dX11_acceptOrFull_1 (by decide) ?_
  refine lv_icmp_ne (tgt := 14) hx hb dX11_acceptOrFull_2 (by decide) (fun _ => ?_) (fun c9 => absurd c9 (by decide))
  refine lv_aload_n hx hb dX11_acceptOrFull_14 rfl (lv_at hl 0 rfl) ?_
  refine lv_iload_n hx hb dX11_acceptOrFull_15 rfl (lv_at hl 1 rfl) ?_
  have hPc := hP.sub (ws' := [(h0, .inr (11, [.ref wd, .ref im, .ref wa, .ref re, .ref rk, .ref pl, .int fz]))]) [0] rfl
  have hDc := hD.sub (ws' := [(h0, .inr (11, [.ref wd, .ref im, .ref wa, .ref re, .ref rk, .ref pl, .int fz]))]) [0] (by decide +kernel) rfl
  have hKc := hK.sub (tys' := []) [] rfl
  have hFc := va_free (wc := [(h0, .inr (11, [.ref wd, .ref im, .ref wa, .ref re, .ref rk, .ref pl, .int fz]))]) hD hS hA [0] rfl
  refine va_calli (va_runV (As := [.int 1]) (rest := []) ⟨hx, hb, hml, hown, hts⟩ (c_X11_accept l dC dI _ h0 wd im wa re rk pl fz 1) (cwV 1 hts gX11_acceptOrFull_X11_accept rfl rfl rfl (by decide +kernel) ⟨Nat.le_of_ble_eq_true rfl, Nat.le_of_ble_eq_true rfl⟩) ⟨pz_blind, va_recv hKc hPc (ci := 11) (q0 := 0) rfl rfl, pz_pre hPc hKc hDc hN⟩ rfl rfl hl.1 rfl (lv_room (Nat.le_of_ble_eq_true rfl)) dX11_acceptOrFull_16 ⟨Nat.le_of_ble_eq_true rfl, Nat.le_of_ble_eq_true rfl⟩) hS (fun q _ h => hFc q h) hFc (fun r1 u t H1 locs ht hvm hw hB hz1 hk1 hS => ?_)
  obtain ⟨hP, hD⟩ := va_join (wr := []) (w1 := []) hP hD [0] [] rfl rfl (by decide +kernel) (by decide +kernel) hk1 hFc pz_P0 pz_D0
  generalize H1 = H at hP hS ⊢
  have hP : va_P (dC, dI) vwCl [] H := hP
  have hD : va_D A [] := hD
  have hK : va_K (dC, dI) vwCl [] s := hK
  obtain rfl : 1 = r1 := hw.symm
  exact W.iret (v := 1) hx hb hr (fun t ht hW => ⟨⟨1, (), rfl, rfl, trivial⟩, hS.F ht⟩) hS.2.2 dX11_acceptOrFull_19
set_option maxHeartbeats 4000000 in
set_option maxRecDepth 100000 in
theorem c_X11_force (l : Launch) (dC : Nat → ClassId) (dI : Nat → Nat → Nat) (sz : Nat) (h0 : Nat) (xa : Int32) (xb : Int32) (xc : Int32) (wd : Nat) (im : Nat) (wa : Nat) (re : Nat) (rk : Nat) (pl : Nat) (fz : Int32) (bo : Int32) (li : Int32) (og : Int32) (tdA : Nat) (seA : Nat) (teA : Nat) (shA : Nat) (coA : Nat) (slS : Nat) (brS : Nat) (foS : Nat) (prR : Nat) (rdR : Nat) (laR : Nat) (caR : Nat) (foo : Nat) (fob : Nat) (foe : Nat) (k1 : ClassId) (f1 : Nat → Int32) (k2 : ClassId) (f2 : Nat → Int32) (k3 : ClassId) (f3 : Nat → Int32)  : Met l yX11_force wsX11_force ({ frames := 7, cells := 0, slots := 0, locals := 2400 }) (va_Pc [.ref h0, .int xa, .int xb, .int xc] (pz_B dC dI [(k1, .int), (k2, .int), (k3, .int)] [(h0, .inr (11, [.ref wd, .ref im, .ref wa, .ref re, .ref rk, .ref pl, .int fz])), (wd, .inr (10, [.int 0, .int bo, .int li, .int og, .int 0, .int 0, .int 0, .ref tdA, .ref seA, .ref teA, .ref shA, .ref coA, .ref slS, .ref brS, .ref foS, .ref prR, .ref rdR, .ref laR, .ref caR])), (foS, .inr (6, [.ref foo, .ref fob, .ref foe, .int 0])), (foo, .inl (k1, 20, .inl f1)), (fob, .inl (k2, 20, .inl f2)), (foe, .inl (k3, 20, .inl f3))] sz)) (va_Qi (fun (r : Int32) (_ : Unit) => r = F_force xa xb xc) (fun (_ : Unit) (_ : State) => True) (va_A [(h0, .inr (11, [.ref wd, .ref im, .ref wa, .ref re, .ref rk, .ref pl, .int fz])), (wd, .inr (10, [.int 0, .int bo, .int li, .int og, .int 0, .int 0, .int 0, .ref tdA, .ref seA, .ref teA, .ref shA, .ref coA, .ref slS, .ref brS, .ref foS, .ref prR, .ref rdR, .ref laR, .ref caR])), (foS, .inr (6, [.ref foo, .ref fob, .ref foe, .int 0])), (foo, .inl (k1, 20, .inl f1)), (fob, .inl (k2, 20, .inl f2)), (foe, .inl (k3, 20, .inl f3))] sz)) 0 0 (va_A [(h0, .inr (11, [.ref wd, .ref im, .ref wa, .ref re, .ref rk, .ref pl, .int fz])), (wd, .inr (10, [.int 0, .int bo, .int li, .int og, .int 0, .int 0, .int 0, .ref tdA, .ref seA, .ref teA, .ref shA, .ref coA, .ref slS, .ref brS, .ref foS, .ref prR, .ref rdR, .ref laR, .ref caR])), (foS, .inr (6, [.ref foo, .ref fob, .ref foe, .int 0])), (foo, .inl (k1, 20, .inl f1)), (fob, .inl (k2, 20, .inl f2)), (foe, .inl (k3, 20, .inl f3))] sz) := by
  refine Met.ofW (cc := cX11_force) (maxL := 4) (ret := some .int) (by decide) rfl ?_
  intro p e s m args below meth c s₁ B hml hv
  obtain ⟨rfl, hsz, hP, hK, hD0, hN⟩ := hv
  have hx := B.exec
  have hb := B.bytes
  have hr := B.returns
  have hts := atoms_spec (ws := wsX11_force) B.pre
  have hown : s.vm.findClass RX11 = some m.cls := findClass_of_methodNamed B.named
  have hlocks := B.notSynchronized
  subst hsz
  have hD := hD0.self (sz := s.heap.size)
  generalize hAe : va_A [(h0, .inr (11, [.ref wd, .ref im, .ref wa, .ref re, .ref rk, .ref pl, .int fz])), (wd, .inr (10, [.int 0, .int bo, .int li, .int og, .int 0, .int 0, .int 0, .ref tdA, .ref seA, .ref teA, .ref shA, .ref coA, .ref slS, .ref brS, .ref foS, .ref prR, .ref rdR, .ref laR, .ref caR])), (foS, .inr (6, [.ref foo, .ref fob, .ref foe, .int 0])), (foo, .inl (k1, 20, .inl f1)), (fob, .inl (k2, 20, .inl f2)), (foe, .inl (k3, 20, .inl f3))] s.heap.size = A at hD ⊢
  have hA : ∀ q : Nat, s.heap.size ≤ q → A q := fun q h => by rw [← hAe]; exact Or.inr h
  have hS : va_S A s.heap s.heap [] := va_S.rf
  have hl := lv_entry ([.ref h0, .int xa, .int xb, .int xc]) (n := 4) (Nat.le_of_ble_eq_true rfl)
  rw [lg_entry_eq]
  generalize (lg_sl ([.ref h0, .int xa, .int xb, .int xc]) ++ List.replicate (4 - (lg_sl ([.ref h0, .int xa, .int xb, .int xc])).length) Slot.unset).toArray = ls at hl ⊢
  have hl : lv_has ls 4 [(0, .ref h0), (1, .int xa), (2, .int xb), (3, .int xc)] := hl
  have hfX11 : ∀ w ∈ wsX110, w ∈ wsX11_force := fun w h => List.mem_cons_of_mem _ (List.mem_append_left _ (List.mem_append_left _ (List.mem_append_right _ h)))
  have hfX10 : ∀ w ∈ wsX100, w ∈ wsX11_force := fun w h => List.mem_cons_of_mem _ (List.mem_append_left _ (List.mem_append_right _ h))
  have hfX6 : ∀ w ∈ wsX60, w ∈ wsX11_force := fun w h => List.mem_cons_of_mem _ (List.mem_append_right _ h)
  refine lv_iload_n hx hb dX11_force_0 rfl (lv_at hl 1 rfl) ?_
  refine lv_iload_n hx hb dX11_force_1 rfl (lv_at hl 2 rfl) ?_
  have hPc := hP.sub (ws' := []) [] rfl
  have hDc := hD.sub (ws' := []) [] (by decide +kernel) rfl
  have hKc := hK.sub (tys' := []) [] rfl
  refine pz_calli (va_runS (As := [.int xa, .int xb]) (rest := []) ⟨hx, hb, hml, hown, hts⟩ (c_X11_isSpan l dC dI _ xa xb (xa.toInt) (xb.toInt) rfl rfl) (va_cwS 2 hts gX11_force_X11_isSpan rfl rfl rfl (by decide +kernel) ⟨Nat.le_of_ble_eq_true rfl, Nat.le_of_ble_eq_true rfl⟩) ⟨pz_blind, pz_pre hPc hKc hDc hN⟩ rfl rfl hl.1 rfl (lv_room (Nat.le_of_ble_eq_true rfl)) dX11_force_2 ⟨Nat.le_of_ble_eq_true rfl, Nat.le_of_ble_eq_true rfl⟩) (fun r1 hw => ?_)
  rcases hw with ⟨rfl, h2⟩ | ⟨rfl, h2⟩
  · refine lv_if_eq (tgt := 15) hx hb dX11_force_5 (by decide) (fun c9 => absurd c9 (by decide)) (fun _ => ?_)
    refine lv_iload_n hx hb dX11_force_8 rfl (lv_at hl 3 rfl) ?_
    have hPc := hP.sub (ws' := []) [] rfl
    have hDc := hD.sub (ws' := []) [] (by decide +kernel) rfl
    have hKc := hK.sub (tys' := []) [] rfl
    refine pz_calli (va_runS (As := [.int xc]) (rest := []) ⟨hx, hb, hml, hown, hts⟩ (c_X11_isHour l dC dI _ xc (xc.toInt) rfl) (va_cwS 1 hts gX11_force_X11_isHour rfl rfl rfl (by decide +kernel) ⟨Nat.le_of_ble_eq_true rfl, Nat.le_of_ble_eq_true rfl⟩) ⟨pz_blind, pz_pre hPc hKc hDc hN⟩ rfl rfl hl.1 rfl (lv_room (Nat.le_of_ble_eq_true rfl)) dX11_force_9 ⟨Nat.le_of_ble_eq_true rfl, Nat.le_of_ble_eq_true rfl⟩) (fun r3 hw => ?_)
    rcases hw with ⟨rfl, h4⟩ | ⟨rfl, h4⟩
    · refine lv_if_ne (tgt := 21) hx hb dX11_force_12 (by decide) (fun _ => ?_) (fun c9 => absurd c9 (by decide))
      refine lv_aload_n hx hb dX11_force_21 rfl (lv_at hl 0 rfl) ?_
      refine lv_aload_n hx hb dX11_force_22 rfl (lv_at hl 0 rfl) ?_
      refine va_get (D := (dC, dI)) (ci := 11) (v := .ref wd) (C := RX11) (T := TX11) (N := 7) hx hb hts hfX11 hown hK hP 0 rfl rfl 0 (by decide) (hts (.fieldLink RX11 10 "ColdShips" "world" "LColdShips$World;") (by decide +kernel)) (fun _ h9 => h9) rfl dX11_force_23 ?_
      refine va_getN (D := (dC, dI)) (ci := 10) (v := .ref foS) (C := RX10) (T := TX10) (N := 19) hx hb hts hfX10 hown hK hP 1 rfl rfl 14 (by decide) (va_Nw.use rfl (hN.1 (.fieldLinkNest RX11 245 "ColdShips$World" "forces" "LColdShips$Spans;" "ColdShips") (by decide +kernel))) (fun _ h9 => h9) rfl dX11_force_26 ?_
      refine lv_iload_n hx hb dX11_force_29 rfl (lv_at hl 3 rfl) ?_
      refine lv_iload_n hx hb dX11_force_30 rfl (lv_at hl 1 rfl) ?_
      refine lv_iload_n hx hb dX11_force_31 rfl (lv_at hl 2 rfl) ?_
      have hPc := hP.sub (ws' := [(foS, .inr (6, [.ref foo, .ref fob, .ref foe, .int 0])), (foo, .inl (k1, 20, .inl f1)), (fob, .inl (k2, 20, .inl f2)), (foe, .inl (k3, 20, .inl f3))]) [2, 3, 4, 5] rfl
      have hDc := hD.sub (ws' := [(foS, .inr (6, [.ref foo, .ref fob, .ref foe, .int 0])), (foo, .inl (k1, 20, .inl f1)), (fob, .inl (k2, 20, .inl f2)), (foe, .inl (k3, 20, .inl f3))]) [2, 3, 4, 5] (by decide +kernel) rfl
      have hKc := hK.sub (tys' := [(k1, .int), (k2, .int), (k3, .int)]) [0, 1, 2] rfl
      have hFc := va_free (wc := [(foS, .inr (6, [.ref foo, .ref fob, .ref foe, .int 0])), (foo, .inl (k1, 20, .inl f1)), (fob, .inl (k2, 20, .inl f2)), (foe, .inl (k3, 20, .inl f3))]) hD hS hA [2, 3, 4, 5] rfl
      refine va_calli (va_runV (As := [.int xc, .int xa, .int xb]) (rest := [.ref h0]) ⟨hx, hb, hml, hown, hts⟩ (c_X6_add l dC dI _ foS xc xa xb foo fob foe k1 f1 k2 f2 k3 f3) (cwV 3 hts gX11_force_X6_add rfl rfl rfl (by decide +kernel) ⟨Nat.le_of_ble_eq_true rfl, Nat.le_of_ble_eq_true rfl⟩) ⟨pz_blind, va_recv hKc hPc (ci := 6) (q0 := 0) rfl rfl, pz_pre hPc hKc hDc hN⟩ rfl rfl hl.1 rfl (lv_room (Nat.le_of_ble_eq_true rfl)) dX11_force_32 ⟨Nat.le_of_ble_eq_true rfl, Nat.le_of_ble_eq_true rfl⟩) hS (fun q _ h => hFc q h) hFc (fun r5 u t H1 locs ht hvm hw hB hz1 hk1 hS => ?_)
      obtain ⟨hP, hD⟩ := va_join (wr := [(h0, .inr (11, [.ref wd, .ref im, .ref wa, .ref re, .ref rk, .ref pl, .int fz])), (wd, .inr (10, [.int 0, .int bo, .int li, .int og, .int 0, .int 0, .int 0, .ref tdA, .ref seA, .ref teA, .ref shA, .ref coA, .ref slS, .ref brS, .ref foS, .ref prR, .ref rdR, .ref laR, .ref caR]))]) (w1 := []) hP hD [2, 3, 4, 5] [0, 1] rfl rfl (by decide +kernel) (by decide +kernel) hk1 hFc pz_P0 pz_D0
      generalize H1 = H at hP hS ⊢
      have hP : va_P (dC, dI) vwCl [(h0, .inr (11, [.ref wd, .ref im, .ref wa, .ref re, .ref rk, .ref pl, .int fz])), (wd, .inr (10, [.int 0, .int bo, .int li, .int og, .int 0, .int 0, .int 0, .ref tdA, .ref seA, .ref teA, .ref shA, .ref coA, .ref slS, .ref brS, .ref foS, .ref prR, .ref rdR, .ref laR, .ref caR]))] H := hP
      have hD : va_D A [(h0, .inr (11, [.ref wd, .ref im, .ref wa, .ref re, .ref rk, .ref pl, .int fz])), (wd, .inr (10, [.int 0, .int bo, .int li, .int og, .int 0, .int 0, .int 0, .ref tdA, .ref seA, .ref teA, .ref shA, .ref coA, .ref slS, .ref brS, .ref foS, .ref prR, .ref rdR, .ref laR, .ref caR]))] := hD
      have hK : va_K (dC, dI) vwCl [(k1, .int), (k2, .int), (k3, .int)] s := hK
      obtain rfl : 1 = r5 := hw.symm
      have hPc := hP.sub (ws' := [(h0, .inr (11, [.ref wd, .ref im, .ref wa, .ref re, .ref rk, .ref pl, .int fz]))]) [0] rfl
      have hDc := hD.sub (ws' := [(h0, .inr (11, [.ref wd, .ref im, .ref wa, .ref re, .ref rk, .ref pl, .int fz]))]) [0] (by decide +kernel) rfl
      have hKc := hK.sub (tys' := []) [] rfl
      have hFc := va_free (wc := [(h0, .inr (11, [.ref wd, .ref im, .ref wa, .ref re, .ref rk, .ref pl, .int fz]))]) hD hS hA [0] rfl
      refine va_calli (va_runV (As := [.int 1]) (rest := []) ⟨hx, hb, hml, hown, hts⟩ (c_X11_acceptOrFull l dC dI _ h0 wd im wa re rk pl fz) (cwV 1 hts gX11_force_X11_acceptOrFull rfl rfl rfl (by decide +kernel) ⟨Nat.le_of_ble_eq_true rfl, Nat.le_of_ble_eq_true rfl⟩) ⟨pz_blind, va_recv hKc hPc (ci := 11) (q0 := 0) rfl rfl, pz_pre hPc hKc hDc hN⟩ rfl rfl hl.1 rfl (lv_room (Nat.le_of_ble_eq_true rfl)) dX11_force_35 ⟨Nat.le_of_ble_eq_true rfl, Nat.le_of_ble_eq_true rfl⟩) hS (fun q _ h => hFc q h) hFc (fun r6 u t H1 locs ht hvm hw hB hz1 hk1 hS => ?_)
      obtain ⟨hP, hD⟩ := va_join (wr := [(wd, .inr (10, [.int 0, .int bo, .int li, .int og, .int 0, .int 0, .int 0, .ref tdA, .ref seA, .ref teA, .ref shA, .ref coA, .ref slS, .ref brS, .ref foS, .ref prR, .ref rdR, .ref laR, .ref caR]))]) (w1 := []) hP hD [0] [1] rfl rfl (by decide +kernel) (by decide +kernel) hk1 hFc pz_P0 pz_D0
      generalize H1 = H at hP hS ⊢
      have hP : va_P (dC, dI) vwCl [(wd, .inr (10, [.int 0, .int bo, .int li, .int og, .int 0, .int 0, .int 0, .ref tdA, .ref seA, .ref teA, .ref shA, .ref coA, .ref slS, .ref brS, .ref foS, .ref prR, .ref rdR, .ref laR, .ref caR]))] H := hP
      have hD : va_D A [(wd, .inr (10, [.int 0, .int bo, .int li, .int og, .int 0, .int 0, .int 0, .ref tdA, .ref seA, .ref teA, .ref shA, .ref coA, .ref slS, .ref brS, .ref foS, .ref prR, .ref rdR, .ref laR, .ref caR]))] := hD
      have hK : va_K (dC, dI) vwCl [(k1, .int), (k2, .int), (k3, .int)] s := hK
      obtain rfl : 1 = r6 := hw.symm
      exact W.iret (v := 1) hx hb hr (fun t ht hW => ⟨⟨1, (), rfl, (by unfold F_force; (repeat' split) <;> first | rfl | (exfalso; omega) | (refine Int32.toInt_inj.mp ?_; show _ = (0 : Int); omega)), trivial⟩, hS.F ht⟩) hS.2.2 dX11_force_38
    · refine lv_if_ne (tgt := 21) hx hb dX11_force_12 (by decide) (fun c9 => absurd c9 (by decide)) (fun _ => ?_)
      refine lv_aload_n hx hb dX11_force_15 rfl (lv_at hl 0 rfl) ?_
      refine lv_iconst (v := (-1)) hx hb dX11_force_16 (by decide) ?_
      have hPc := hP.sub (ws' := [(h0, .inr (11, [.ref wd, .ref im, .ref wa, .ref re, .ref rk, .ref pl, .int fz]))]) [0] rfl
      have hDc := hD.sub (ws' := [(h0, .inr (11, [.ref wd, .ref im, .ref wa, .ref re, .ref rk, .ref pl, .int fz]))]) [0] (by decide +kernel) rfl
      have hKc := hK.sub (tys' := []) [] rfl
      have hFc := va_free (wc := [(h0, .inr (11, [.ref wd, .ref im, .ref wa, .ref re, .ref rk, .ref pl, .int fz]))]) hD hS hA [0] rfl
      refine va_calli (va_runV (As := [.int (-1)]) (rest := []) ⟨hx, hb, hml, hown, hts⟩ (c_X11_refuse l dC dI _ h0 wd im wa re rk pl fz (-1)) (cwV 1 hts gX11_force_X11_refuse rfl rfl rfl (by decide +kernel) ⟨Nat.le_of_ble_eq_true rfl, Nat.le_of_ble_eq_true rfl⟩) ⟨pz_blind, va_recv hKc hPc (ci := 11) (q0 := 0) rfl rfl, pz_pre hPc hKc hDc hN⟩ rfl rfl hl.1 rfl (lv_room (Nat.le_of_ble_eq_true rfl)) dX11_force_17 ⟨Nat.le_of_ble_eq_true rfl, Nat.le_of_ble_eq_true rfl⟩) hS (fun q _ h => hFc q h) hFc (fun r7 u t H1 locs ht hvm hw hB hz1 hk1 hS => ?_)
      obtain ⟨hP, hD⟩ := va_join (wr := [(wd, .inr (10, [.int 0, .int bo, .int li, .int og, .int 0, .int 0, .int 0, .ref tdA, .ref seA, .ref teA, .ref shA, .ref coA, .ref slS, .ref brS, .ref foS, .ref prR, .ref rdR, .ref laR, .ref caR])), (foS, .inr (6, [.ref foo, .ref fob, .ref foe, .int 0])), (foo, .inl (k1, 20, .inl f1)), (fob, .inl (k2, 20, .inl f2)), (foe, .inl (k3, 20, .inl f3))]) (w1 := []) hP hD [0] [1, 2, 3, 4, 5] rfl rfl (by decide +kernel) (by decide +kernel) hk1 hFc pz_P0 pz_D0
      generalize H1 = H at hP hS ⊢
      have hP : va_P (dC, dI) vwCl [(wd, .inr (10, [.int 0, .int bo, .int li, .int og, .int 0, .int 0, .int 0, .ref tdA, .ref seA, .ref teA, .ref shA, .ref coA, .ref slS, .ref brS, .ref foS, .ref prR, .ref rdR, .ref laR, .ref caR])), (foS, .inr (6, [.ref foo, .ref fob, .ref foe, .int 0])), (foo, .inl (k1, 20, .inl f1)), (fob, .inl (k2, 20, .inl f2)), (foe, .inl (k3, 20, .inl f3))] H := hP
      have hD : va_D A [(wd, .inr (10, [.int 0, .int bo, .int li, .int og, .int 0, .int 0, .int 0, .ref tdA, .ref seA, .ref teA, .ref shA, .ref coA, .ref slS, .ref brS, .ref foS, .ref prR, .ref rdR, .ref laR, .ref caR])), (foS, .inr (6, [.ref foo, .ref fob, .ref foe, .int 0])), (foo, .inl (k1, 20, .inl f1)), (fob, .inl (k2, 20, .inl f2)), (foe, .inl (k3, 20, .inl f3))] := hD
      have hK : va_K (dC, dI) vwCl [(k1, .int), (k2, .int), (k3, .int)] s := hK
      obtain rfl : (-1) = r7 := hw.symm
      exact W.iret (v := (-1)) hx hb hr (fun t ht hW => ⟨⟨(-1), (), rfl, (by unfold F_force; (repeat' split) <;> first | rfl | (exfalso; omega) | (refine Int32.toInt_inj.mp ?_; show _ = (0 : Int); omega)), trivial⟩, hS.F ht⟩) hS.2.2 dX11_force_20
  · refine lv_if_eq (tgt := 15) hx hb dX11_force_5 (by decide) (fun _ => ?_) (fun c9 => absurd c9 (by decide))
    refine lv_aload_n hx hb dX11_force_15 rfl (lv_at hl 0 rfl) ?_
    refine lv_iconst (v := (-1)) hx hb dX11_force_16 (by decide) ?_
    have hPc := hP.sub (ws' := [(h0, .inr (11, [.ref wd, .ref im, .ref wa, .ref re, .ref rk, .ref pl, .int fz]))]) [0] rfl
    have hDc := hD.sub (ws' := [(h0, .inr (11, [.ref wd, .ref im, .ref wa, .ref re, .ref rk, .ref pl, .int fz]))]) [0] (by decide +kernel) rfl
    have hKc := hK.sub (tys' := []) [] rfl
    have hFc := va_free (wc := [(h0, .inr (11, [.ref wd, .ref im, .ref wa, .ref re, .ref rk, .ref pl, .int fz]))]) hD hS hA [0] rfl
    refine va_calli (va_runV (As := [.int (-1)]) (rest := []) ⟨hx, hb, hml, hown, hts⟩ (c_X11_refuse l dC dI _ h0 wd im wa re rk pl fz (-1)) (cwV 1 hts gX11_force_X11_refuse rfl rfl rfl (by decide +kernel) ⟨Nat.le_of_ble_eq_true rfl, Nat.le_of_ble_eq_true rfl⟩) ⟨pz_blind, va_recv hKc hPc (ci := 11) (q0 := 0) rfl rfl, pz_pre hPc hKc hDc hN⟩ rfl rfl hl.1 rfl (lv_room (Nat.le_of_ble_eq_true rfl)) dX11_force_17 ⟨Nat.le_of_ble_eq_true rfl, Nat.le_of_ble_eq_true rfl⟩) hS (fun q _ h => hFc q h) hFc (fun r8 u t H1 locs ht hvm hw hB hz1 hk1 hS => ?_)
    obtain ⟨hP, hD⟩ := va_join (wr := [(wd, .inr (10, [.int 0, .int bo, .int li, .int og, .int 0, .int 0, .int 0, .ref tdA, .ref seA, .ref teA, .ref shA, .ref coA, .ref slS, .ref brS, .ref foS, .ref prR, .ref rdR, .ref laR, .ref caR])), (foS, .inr (6, [.ref foo, .ref fob, .ref foe, .int 0])), (foo, .inl (k1, 20, .inl f1)), (fob, .inl (k2, 20, .inl f2)), (foe, .inl (k3, 20, .inl f3))]) (w1 := []) hP hD [0] [1, 2, 3, 4, 5] rfl rfl (by decide +kernel) (by decide +kernel) hk1 hFc pz_P0 pz_D0
    generalize H1 = H at hP hS ⊢
    have hP : va_P (dC, dI) vwCl [(wd, .inr (10, [.int 0, .int bo, .int li, .int og, .int 0, .int 0, .int 0, .ref tdA, .ref seA, .ref teA, .ref shA, .ref coA, .ref slS, .ref brS, .ref foS, .ref prR, .ref rdR, .ref laR, .ref caR])), (foS, .inr (6, [.ref foo, .ref fob, .ref foe, .int 0])), (foo, .inl (k1, 20, .inl f1)), (fob, .inl (k2, 20, .inl f2)), (foe, .inl (k3, 20, .inl f3))] H := hP
    have hD : va_D A [(wd, .inr (10, [.int 0, .int bo, .int li, .int og, .int 0, .int 0, .int 0, .ref tdA, .ref seA, .ref teA, .ref shA, .ref coA, .ref slS, .ref brS, .ref foS, .ref prR, .ref rdR, .ref laR, .ref caR])), (foS, .inr (6, [.ref foo, .ref fob, .ref foe, .int 0])), (foo, .inl (k1, 20, .inl f1)), (fob, .inl (k2, 20, .inl f2)), (foe, .inl (k3, 20, .inl f3))] := hD
    have hK : va_K (dC, dI) vwCl [(k1, .int), (k2, .int), (k3, .int)] s := hK
    obtain rfl : (-1) = r8 := hw.symm
    exact W.iret (v := (-1)) hx hb hr (fun t ht hW => ⟨⟨(-1), (), rfl, (by unfold F_force; (repeat' split) <;> first | rfl | (exfalso; omega) | (refine Int32.toInt_inj.mp ?_; show _ = (0 : Int); omega)), trivial⟩, hS.F ht⟩) hS.2.2 dX11_force_20
set_option maxHeartbeats 4000000 in
set_option maxRecDepth 100000 in
theorem c_addFour0 (l : Launch) (dC : Nat → ClassId) (dI : Nat → Nat → Nat) (sz : Nat) (re : Nat) (v : Int32) (rtp : Nat) (r3 : Int32) (r4 : Int32) (r5 : Int32) (r6 : Int32) (rcd : Nat) (r8 : Int32) (rst : Nat) (r10 : Int32) (r11 : Int32) (r12 : Int32) (r13 : Int32) (r14 : Int32) (r15 : Int32) (kC : ClassId) (fT : Nat → Int32)  : Met l yX2_addFour wsX2_addFour ({ frames := 3, cells := 0, slots := 0, locals := 800 }) (va_Pc [.ref re, .int v] (pz_B dC dI [(kC, .char)] [(re, .inr (2, [.ref rtp, .int 0, .int (-1), .int r3, .int r4, .int r5, .int r6, .ref rcd, .int r8, .ref rst, .int r10, .int r11, .int r12, .int r13, .int r14, .int r15])), (rtp, .inl (kC, 400, .inl fT))] sz)) (va_Qv (fun (_ : Unit) => True) (fun (_ : Unit) (t : State) => ∃ g : Nat → Int32, pz_E dC dI [(kC, .char)] (va_A [(re, .inr (2, [.ref rtp, .int 0, .int (-1), .int r3, .int r4, .int r5, .int r6, .ref rcd, .int r8, .ref rst, .int r10, .int r11, .int r12, .int r13, .int r14, .int r15])), (rtp, .inl (kC, 400, .inl fT))] sz) [(re, .inr (2, [.ref rtp, .int 4, .int (-1), .int r3, .int r4, .int r5, .int r6, .ref rcd, .int r8, .ref rst, .int r10, .int r11, .int r12, .int r13, .int r14, .int r15])), (rtp, .inl (kC, 400, .inl g))] t) (va_A [(re, .inr (2, [.ref rtp, .int 0, .int (-1), .int r3, .int r4, .int r5, .int r6, .ref rcd, .int r8, .ref rst, .int r10, .int r11, .int r12, .int r13, .int r14, .int r15])), (rtp, .inl (kC, 400, .inl fT))] sz)) 0 0 (va_A [(re, .inr (2, [.ref rtp, .int 0, .int (-1), .int r3, .int r4, .int r5, .int r6, .ref rcd, .int r8, .ref rst, .int r10, .int r11, .int r12, .int r13, .int r14, .int r15])), (rtp, .inl (kC, 400, .inl fT))] sz) := by
  refine Met.ofW (cc := cX2_addFour) (maxL := 3) (ret := none) (by decide) rfl ?_
  intro p e s m args below meth c s₁ B hml hv
  obtain ⟨rfl, hsz, hP, hK, hD0, hN⟩ := hv
  have hx := B.exec
  have hb := B.bytes
  have hr := B.returns
  have hts := atoms_spec (ws := wsX2_addFour) B.pre
  have hown : s.vm.findClass RX2 = some m.cls := findClass_of_methodNamed B.named
  have hlocks := B.notSynchronized
  subst hsz
  have hD := hD0.self (sz := s.heap.size)
  generalize hAe : va_A [(re, .inr (2, [.ref rtp, .int 0, .int (-1), .int r3, .int r4, .int r5, .int r6, .ref rcd, .int r8, .ref rst, .int r10, .int r11, .int r12, .int r13, .int r14, .int r15])), (rtp, .inl (kC, 400, .inl fT))] s.heap.size = A at hD ⊢
  have hA : ∀ q : Nat, s.heap.size ≤ q → A q := fun q h => by rw [← hAe]; exact Or.inr h
  have hS : va_S A s.heap s.heap [] := va_S.rf
  have hl := lv_entry ([.ref re, .int v]) (n := 3) (Nat.le_of_ble_eq_true rfl)
  rw [lg_entry_eq]
  generalize (lg_sl ([.ref re, .int v]) ++ List.replicate (3 - (lg_sl ([.ref re, .int v])).length) Slot.unset).toArray = ls at hl ⊢
  have hl : lv_has ls 3 [(0, .ref re), (1, .int v)] := hl
  have hfX2 : ∀ w ∈ wsX20, w ∈ wsX2_addFour := fun w h => List.mem_cons_of_mem _ (List.mem_append_right _ h)
  refine lv_bipush (v := 24) hx hb dX2_addFour_0 (by decide) ?_
  refine lv_istore_n (lv' := [(2, .int 24), (0, .ref re), (1, .int v)]) hx hb dX2_addFour_2 rfl hl (by decide) rfl (fun ls hl => ?_)
  refine lv_iload_n hx hb dX2_addFour_3 rfl (lv_at hl 0 rfl) ?_
  refine lv_if_lt (tgt := 50) hx hb dX2_addFour_4 (by decide) (fun c9 => absurd c9 (by decide)) (fun _ => ?_)
  refine lv_aload_n hx hb dX2_addFour_7 rfl (lv_at hl 1 rfl) ?_
  refine va_get (D := (dC, dI)) (ci := 2) (v := .int 0) (C := RX2) (T := TX2) (N := 16) hx hb hts hfX2 hown hK hP 0 rfl rfl 1 (by decide) (hts (.fieldLink RX2 26 "ColdShips$Reader" "size" "I") (by decide +kernel)) (fun _ h9 => h9) rfl dX2_addFour_8 ?_
  refine lv_sipush (v := 400) hx hb dX2_addFour_11 (by decide) ?_
  refine lv_icmp_ge (tgt := 50) hx hb dX2_addFour_14 (by decide) (fun c9 => absurd c9 (by decide)) (fun _ => ?_)
  refine lv_aload_n hx hb dX2_addFour_17 rfl (lv_at hl 1 rfl) ?_
  refine va_get (D := (dC, dI)) (ci := 2) (v := .ref rtp) (C := RX2) (T := TX2) (N := 16) hx hb hts hfX2 hown hK hP 0 rfl rfl 0 (by decide) (hts (.fieldLink RX2 11 "ColdShips$Reader" "tape" "[C") (by decide +kernel)) (fun _ h9 => h9) rfl dX2_addFour_18 ?_
  refine lv_aload_n hx hb dX2_addFour_21 rfl (lv_at hl 1 rfl) ?_
  refine va_get (D := (dC, dI)) (ci := 2) (v := .int 0) (C := RX2) (T := TX2) (N := 16) hx hb hts hfX2 hown hK hP 0 rfl rfl 1 (by decide) (hts (.fieldLink RX2 26 "ColdShips$Reader" "size" "I") (by decide +kernel)) (fun _ h9 => h9) rfl dX2_addFour_22 ?_
  refine lv_iload_n hx hb dX2_addFour_25 rfl (lv_at hl 2 rfl) ?_
  refine lv_iload_n hx hb dX2_addFour_26 rfl (lv_at hl 0 rfl) ?_
  refine lv_iushr hx hb dX2_addFour_27 rfl ?_
  refine lv_topi (fun z1 ez1 => ?_)
  refine lv_sipush (v := 255) hx hb dX2_addFour_28 (by decide) ?_
  refine lv_iand hx hb dX2_addFour_31 ?_
  refine lv_topi (fun z2 ez2 => ?_)
  refine lv_i2c hx hb dX2_addFour_32 rfl ?_
  refine lv_topi (fun z3 ez3 => ?_)
  refine va_cast hx hb hK hP hD hS 1 0 rfl rfl (vp_in_iff.mpr ⟨by decide, by decide⟩) dX2_addFour_33 (fun H locs hP hD hS => ?_)
  have hP : va_P (dC, dI) vwCl [(re, .inr (2, [.ref rtp, .int 0, .int (-1), .int r3, .int r4, .int r5, .int r6, .ref rcd, .int r8, .ref rst, .int r10, .int r11, .int r12, .int r13, .int r14, .int r15])), (rtp, .inl (kC, 400, .inl (upd fT 0 (vp_nar .char z3))))] H := hP
  have hD : va_D A [(re, .inr (2, [.ref rtp, .int 0, .int (-1), .int r3, .int r4, .int r5, .int r6, .ref rcd, .int r8, .ref rst, .int r10, .int r11, .int r12, .int r13, .int r14, .int r15])), (rtp, .inl (kC, 400, .inl (upd fT 0 (vp_nar .char z3))))] := hD
  generalize (upd fT 0 (vp_nar .char z3)) = g4 at hP hD
  refine lv_aload_n hx hb dX2_addFour_34 rfl (lv_at hl 1 rfl) ?_
  refine lv_dup hx hb dX2_addFour_35 rfl ?_
  refine va_get (D := (dC, dI)) (ci := 2) (v := .int 0) (C := RX2) (T := TX2) (N := 16) hx hb hts hfX2 hown hK hP 0 rfl rfl 1 (by decide) (hts (.fieldLink RX2 26 "ColdShips$Reader" "size" "I") (by decide +kernel)) (fun _ h9 => h9) rfl dX2_addFour_36 ?_
  refine lv_iconst (v := 1) hx hb dX2_addFour_39 (by decide) ?_
  refine lv_iadd hx hb dX2_addFour_40 ?_
  refine lv_topi (fun z5 ez5 => ?_)
  obtain rfl : z5 = 1 := ez5.trans (by first | rfl | decide)
  refine va_put (D := (dC, dI)) (ci := 2) (v := .int 1) (ty := .int) (C := RX2) (T := TX2) (N := 16) hx hb hts hfX2 tyX2 tyX2_ok nmX2 hown hK hP hD hS 0 rfl rfl 1 (by decide) (hts (.fieldLink RX2 26 "ColdShips$Reader" "size" "I") (by decide +kernel)) (fun _ h9 => h9) rfl (by decide +kernel) rfl rfl (Nat.le_of_ble_eq_true rfl) dX2_addFour_41 (fun H locs hP hD hS => ?_)
  have hP : va_P (dC, dI) vwCl [(re, .inr (2, [.ref rtp, .int 1, .int (-1), .int r3, .int r4, .int r5, .int r6, .ref rcd, .int r8, .ref rst, .int r10, .int r11, .int r12, .int r13, .int r14, .int r15])), (rtp, .inl (kC, 400, .inl g4))] H := hP
  have hD : va_D A [(re, .inr (2, [.ref rtp, .int 1, .int (-1), .int r3, .int r4, .int r5, .int r6, .ref rcd, .int r8, .ref rst, .int r10, .int r11, .int r12, .int r13, .int r14, .int r15])), (rtp, .inl (kC, 400, .inl g4))] := hD
  refine lv_iinc (v := 16) (lv' := [(2, .int 16), (0, .ref re), (1, .int v)]) hx hb dX2_addFour_44 hl (k := 0) rfl (by decide) (by decide) rfl (fun ls hl => ?_)
  refine lv_goto (tgt := 3) hx hb dX2_addFour_47 (by decide) ?_
  refine lv_iload_n hx hb dX2_addFour_3 rfl (lv_at hl 0 rfl) ?_
  refine lv_if_lt (tgt := 50) hx hb dX2_addFour_4 (by decide) (fun c9 => absurd c9 (by decide)) (fun _ => ?_)
  refine lv_aload_n hx hb dX2_addFour_7 rfl (lv_at hl 1 rfl) ?_
  refine va_get (D := (dC, dI)) (ci := 2) (v := .int 1) (C := RX2) (T := TX2) (N := 16) hx hb hts hfX2 hown hK hP 0 rfl rfl 1 (by decide) (hts (.fieldLink RX2 26 "ColdShips$Reader" "size" "I") (by decide +kernel)) (fun _ h9 => h9) rfl dX2_addFour_8 ?_
  refine lv_sipush (v := 400) hx hb dX2_addFour_11 (by decide) ?_
  refine lv_icmp_ge (tgt := 50) hx hb dX2_addFour_14 (by decide) (fun c9 => absurd c9 (by decide)) (fun _ => ?_)
  refine lv_aload_n hx hb dX2_addFour_17 rfl (lv_at hl 1 rfl) ?_
  refine va_get (D := (dC, dI)) (ci := 2) (v := .ref rtp) (C := RX2) (T := TX2) (N := 16) hx hb hts hfX2 hown hK hP 0 rfl rfl 0 (by decide) (hts (.fieldLink RX2 11 "ColdShips$Reader" "tape" "[C") (by decide +kernel)) (fun _ h9 => h9) rfl dX2_addFour_18 ?_
  refine lv_aload_n hx hb dX2_addFour_21 rfl (lv_at hl 1 rfl) ?_
  refine va_get (D := (dC, dI)) (ci := 2) (v := .int 1) (C := RX2) (T := TX2) (N := 16) hx hb hts hfX2 hown hK hP 0 rfl rfl 1 (by decide) (hts (.fieldLink RX2 26 "ColdShips$Reader" "size" "I") (by decide +kernel)) (fun _ h9 => h9) rfl dX2_addFour_22 ?_
  refine lv_iload_n hx hb dX2_addFour_25 rfl (lv_at hl 2 rfl) ?_
  refine lv_iload_n hx hb dX2_addFour_26 rfl (lv_at hl 0 rfl) ?_
  refine lv_iushr hx hb dX2_addFour_27 rfl ?_
  refine lv_topi (fun z6 ez6 => ?_)
  refine lv_sipush (v := 255) hx hb dX2_addFour_28 (by decide) ?_
  refine lv_iand hx hb dX2_addFour_31 ?_
  refine lv_topi (fun z7 ez7 => ?_)
  refine lv_i2c hx hb dX2_addFour_32 rfl ?_
  refine lv_topi (fun z8 ez8 => ?_)
  refine va_cast hx hb hK hP hD hS 1 0 rfl rfl (vp_in_iff.mpr ⟨by decide, by decide⟩) dX2_addFour_33 (fun H locs hP hD hS => ?_)
  have hP : va_P (dC, dI) vwCl [(re, .inr (2, [.ref rtp, .int 1, .int (-1), .int r3, .int r4, .int r5, .int r6, .ref rcd, .int r8, .ref rst, .int r10, .int r11, .int r12, .int r13, .int r14, .int r15])), (rtp, .inl (kC, 400, .inl (upd g4 1 (vp_nar .char z8))))] H := hP
  have hD : va_D A [(re, .inr (2, [.ref rtp, .int 1, .int (-1), .int r3, .int r4, .int r5, .int r6, .ref rcd, .int r8, .ref rst, .int r10, .int r11, .int r12, .int r13, .int r14, .int r15])), (rtp, .inl (kC, 400, .inl (upd g4 1 (vp_nar .char z8))))] := hD
  generalize (upd g4 1 (vp_nar .char z8)) = g9 at hP hD
  refine lv_aload_n hx hb dX2_addFour_34 rfl (lv_at hl 1 rfl) ?_
  refine lv_dup hx hb dX2_addFour_35 rfl ?_
  refine va_get (D := (dC, dI)) (ci := 2) (v := .int 1) (C := RX2) (T := TX2) (N := 16) hx hb hts hfX2 hown hK hP 0 rfl rfl 1 (by decide) (hts (.fieldLink RX2 26 "ColdShips$Reader" "size" "I") (by decide +kernel)) (fun _ h9 => h9) rfl dX2_addFour_36 ?_
  refine lv_iconst (v := 1) hx hb dX2_addFour_39 (by decide) ?_
  refine lv_iadd hx hb dX2_addFour_40 ?_
  refine lv_topi (fun z10 ez10 => ?_)
  obtain rfl : z10 = 2 := ez10.trans (by first | rfl | decide)
  refine va_put (D := (dC, dI)) (ci := 2) (v := .int 2) (ty := .int) (C := RX2) (T := TX2) (N := 16) hx hb hts hfX2 tyX2 tyX2_ok nmX2 hown hK hP hD hS 0 rfl rfl 1 (by decide) (hts (.fieldLink RX2 26 "ColdShips$Reader" "size" "I") (by decide +kernel)) (fun _ h9 => h9) rfl (by decide +kernel) rfl rfl (Nat.le_of_ble_eq_true rfl) dX2_addFour_41 (fun H locs hP hD hS => ?_)
  have hP : va_P (dC, dI) vwCl [(re, .inr (2, [.ref rtp, .int 2, .int (-1), .int r3, .int r4, .int r5, .int r6, .ref rcd, .int r8, .ref rst, .int r10, .int r11, .int r12, .int r13, .int r14, .int r15])), (rtp, .inl (kC, 400, .inl g9))] H := hP
  have hD : va_D A [(re, .inr (2, [.ref rtp, .int 2, .int (-1), .int r3, .int r4, .int r5, .int r6, .ref rcd, .int r8, .ref rst, .int r10, .int r11, .int r12, .int r13, .int r14, .int r15])), (rtp, .inl (kC, 400, .inl g9))] := hD
  refine lv_iinc (v := 8) (lv' := [(2, .int 8), (0, .ref re), (1, .int v)]) hx hb dX2_addFour_44 hl (k := 0) rfl (by decide) (by decide) rfl (fun ls hl => ?_)
  refine lv_goto (tgt := 3) hx hb dX2_addFour_47 (by decide) ?_
  refine lv_iload_n hx hb dX2_addFour_3 rfl (lv_at hl 0 rfl) ?_
  refine lv_if_lt (tgt := 50) hx hb dX2_addFour_4 (by decide) (fun c9 => absurd c9 (by decide)) (fun _ => ?_)
  refine lv_aload_n hx hb dX2_addFour_7 rfl (lv_at hl 1 rfl) ?_
  refine va_get (D := (dC, dI)) (ci := 2) (v := .int 2) (C := RX2) (T := TX2) (N := 16) hx hb hts hfX2 hown hK hP 0 rfl rfl 1 (by decide) (hts (.fieldLink RX2 26 "ColdShips$Reader" "size" "I") (by decide +kernel)) (fun _ h9 => h9) rfl dX2_addFour_8 ?_
  refine lv_sipush (v := 400) hx hb dX2_addFour_11 (by decide) ?_
  refine lv_icmp_ge (tgt := 50) hx hb dX2_addFour_14 (by decide) (fun c9 => absurd c9 (by decide)) (fun _ => ?_)
  refine lv_aload_n hx hb dX2_addFour_17 rfl (lv_at hl 1 rfl) ?_
  refine va_get (D := (dC, dI)) (ci := 2) (v := .ref rtp) (C := RX2) (T := TX2) (N := 16) hx hb hts hfX2 hown hK hP 0 rfl rfl 0 (by decide) (hts (.fieldLink RX2 11 "ColdShips$Reader" "tape" "[C") (by decide +kernel)) (fun _ h9 => h9) rfl dX2_addFour_18 ?_
  refine lv_aload_n hx hb dX2_addFour_21 rfl (lv_at hl 1 rfl) ?_
  refine va_get (D := (dC, dI)) (ci := 2) (v := .int 2) (C := RX2) (T := TX2) (N := 16) hx hb hts hfX2 hown hK hP 0 rfl rfl 1 (by decide) (hts (.fieldLink RX2 26 "ColdShips$Reader" "size" "I") (by decide +kernel)) (fun _ h9 => h9) rfl dX2_addFour_22 ?_
  refine lv_iload_n hx hb dX2_addFour_25 rfl (lv_at hl 2 rfl) ?_
  refine lv_iload_n hx hb dX2_addFour_26 rfl (lv_at hl 0 rfl) ?_
  refine lv_iushr hx hb dX2_addFour_27 rfl ?_
  refine lv_topi (fun z11 ez11 => ?_)
  refine lv_sipush (v := 255) hx hb dX2_addFour_28 (by decide) ?_
  refine lv_iand hx hb dX2_addFour_31 ?_
  refine lv_topi (fun z12 ez12 => ?_)
  refine lv_i2c hx hb dX2_addFour_32 rfl ?_
  refine lv_topi (fun z13 ez13 => ?_)
  refine va_cast hx hb hK hP hD hS 1 0 rfl rfl (vp_in_iff.mpr ⟨by decide, by decide⟩) dX2_addFour_33 (fun H locs hP hD hS => ?_)
  have hP : va_P (dC, dI) vwCl [(re, .inr (2, [.ref rtp, .int 2, .int (-1), .int r3, .int r4, .int r5, .int r6, .ref rcd, .int r8, .ref rst, .int r10, .int r11, .int r12, .int r13, .int r14, .int r15])), (rtp, .inl (kC, 400, .inl (upd g9 2 (vp_nar .char z13))))] H := hP
  have hD : va_D A [(re, .inr (2, [.ref rtp, .int 2, .int (-1), .int r3, .int r4, .int r5, .int r6, .ref rcd, .int r8, .ref rst, .int r10, .int r11, .int r12, .int r13, .int r14, .int r15])), (rtp, .inl (kC, 400, .inl (upd g9 2 (vp_nar .char z13))))] := hD
  generalize (upd g9 2 (vp_nar .char z13)) = g14 at hP hD
  refine lv_aload_n hx hb dX2_addFour_34 rfl (lv_at hl 1 rfl) ?_
  refine lv_dup hx hb dX2_addFour_35 rfl ?_
  refine va_get (D := (dC, dI)) (ci := 2) (v := .int 2) (C := RX2) (T := TX2) (N := 16) hx hb hts hfX2 hown hK hP 0 rfl rfl 1 (by decide) (hts (.fieldLink RX2 26 "ColdShips$Reader" "size" "I") (by decide +kernel)) (fun _ h9 => h9) rfl dX2_addFour_36 ?_
  refine lv_iconst (v := 1) hx hb dX2_addFour_39 (by decide) ?_
  refine lv_iadd hx hb dX2_addFour_40 ?_
  refine lv_topi (fun z15 ez15 => ?_)
  obtain rfl : z15 = 3 := ez15.trans (by first | rfl | decide)
  refine va_put (D := (dC, dI)) (ci := 2) (v := .int 3) (ty := .int) (C := RX2) (T := TX2) (N := 16) hx hb hts hfX2 tyX2 tyX2_ok nmX2 hown hK hP hD hS 0 rfl rfl 1 (by decide) (hts (.fieldLink RX2 26 "ColdShips$Reader" "size" "I") (by decide +kernel)) (fun _ h9 => h9) rfl (by decide +kernel) rfl rfl (Nat.le_of_ble_eq_true rfl) dX2_addFour_41 (fun H locs hP hD hS => ?_)
  have hP : va_P (dC, dI) vwCl [(re, .inr (2, [.ref rtp, .int 3, .int (-1), .int r3, .int r4, .int r5, .int r6, .ref rcd, .int r8, .ref rst, .int r10, .int r11, .int r12, .int r13, .int r14, .int r15])), (rtp, .inl (kC, 400, .inl g14))] H := hP
  have hD : va_D A [(re, .inr (2, [.ref rtp, .int 3, .int (-1), .int r3, .int r4, .int r5, .int r6, .ref rcd, .int r8, .ref rst, .int r10, .int r11, .int r12, .int r13, .int r14, .int r15])), (rtp, .inl (kC, 400, .inl g14))] := hD
  refine lv_iinc (v := 0) (lv' := [(2, .int 0), (0, .ref re), (1, .int v)]) hx hb dX2_addFour_44 hl (k := 0) rfl (by decide) (by decide) rfl (fun ls hl => ?_)
  refine lv_goto (tgt := 3) hx hb dX2_addFour_47 (by decide) ?_
  refine lv_iload_n hx hb dX2_addFour_3 rfl (lv_at hl 0 rfl) ?_
  refine lv_if_lt (tgt := 50) hx hb dX2_addFour_4 (by decide) (fun c9 => absurd c9 (by decide)) (fun _ => ?_)
  refine lv_aload_n hx hb dX2_addFour_7 rfl (lv_at hl 1 rfl) ?_
  refine va_get (D := (dC, dI)) (ci := 2) (v := .int 3) (C := RX2) (T := TX2) (N := 16) hx hb hts hfX2 hown hK hP 0 rfl rfl 1 (by decide) (hts (.fieldLink RX2 26 "ColdShips$Reader" "size" "I") (by decide +kernel)) (fun _ h9 => h9) rfl dX2_addFour_8 ?_
  refine lv_sipush (v := 400) hx hb dX2_addFour_11 (by decide) ?_
  refine lv_icmp_ge (tgt := 50) hx hb dX2_addFour_14 (by decide) (fun c9 => absurd c9 (by decide)) (fun _ => ?_)
  refine lv_aload_n hx hb dX2_addFour_17 rfl (lv_at hl 1 rfl) ?_
  refine va_get (D := (dC, dI)) (ci := 2) (v := .ref rtp) (C := RX2) (T := TX2) (N := 16) hx hb hts hfX2 hown hK hP 0 rfl rfl 0 (by decide) (hts (.fieldLink RX2 11 "ColdShips$Reader" "tape" "[C") (by decide +kernel)) (fun _ h9 => h9) rfl dX2_addFour_18 ?_
  refine lv_aload_n hx hb dX2_addFour_21 rfl (lv_at hl 1 rfl) ?_
  refine va_get (D := (dC, dI)) (ci := 2) (v := .int 3) (C := RX2) (T := TX2) (N := 16) hx hb hts hfX2 hown hK hP 0 rfl rfl 1 (by decide) (hts (.fieldLink RX2 26 "ColdShips$Reader" "size" "I") (by decide +kernel)) (fun _ h9 => h9) rfl dX2_addFour_22 ?_
  refine lv_iload_n hx hb dX2_addFour_25 rfl (lv_at hl 2 rfl) ?_
  refine lv_iload_n hx hb dX2_addFour_26 rfl (lv_at hl 0 rfl) ?_
  refine lv_iushr hx hb dX2_addFour_27 rfl ?_
  refine lv_topi (fun z16 ez16 => ?_)
  refine lv_sipush (v := 255) hx hb dX2_addFour_28 (by decide) ?_
  refine lv_iand hx hb dX2_addFour_31 ?_
  refine lv_topi (fun z17 ez17 => ?_)
  refine lv_i2c hx hb dX2_addFour_32 rfl ?_
  refine lv_topi (fun z18 ez18 => ?_)
  refine va_cast hx hb hK hP hD hS 1 0 rfl rfl (vp_in_iff.mpr ⟨by decide, by decide⟩) dX2_addFour_33 (fun H locs hP hD hS => ?_)
  have hP : va_P (dC, dI) vwCl [(re, .inr (2, [.ref rtp, .int 3, .int (-1), .int r3, .int r4, .int r5, .int r6, .ref rcd, .int r8, .ref rst, .int r10, .int r11, .int r12, .int r13, .int r14, .int r15])), (rtp, .inl (kC, 400, .inl (upd g14 3 (vp_nar .char z18))))] H := hP
  have hD : va_D A [(re, .inr (2, [.ref rtp, .int 3, .int (-1), .int r3, .int r4, .int r5, .int r6, .ref rcd, .int r8, .ref rst, .int r10, .int r11, .int r12, .int r13, .int r14, .int r15])), (rtp, .inl (kC, 400, .inl (upd g14 3 (vp_nar .char z18))))] := hD
  generalize (upd g14 3 (vp_nar .char z18)) = g19 at hP hD
  refine lv_aload_n hx hb dX2_addFour_34 rfl (lv_at hl 1 rfl) ?_
  refine lv_dup hx hb dX2_addFour_35 rfl ?_
  refine va_get (D := (dC, dI)) (ci := 2) (v := .int 3) (C := RX2) (T := TX2) (N := 16) hx hb hts hfX2 hown hK hP 0 rfl rfl 1 (by decide) (hts (.fieldLink RX2 26 "ColdShips$Reader" "size" "I") (by decide +kernel)) (fun _ h9 => h9) rfl dX2_addFour_36 ?_
  refine lv_iconst (v := 1) hx hb dX2_addFour_39 (by decide) ?_
  refine lv_iadd hx hb dX2_addFour_40 ?_
  refine lv_topi (fun z20 ez20 => ?_)
  obtain rfl : z20 = 4 := ez20.trans (by first | rfl | decide)
  refine va_put (D := (dC, dI)) (ci := 2) (v := .int 4) (ty := .int) (C := RX2) (T := TX2) (N := 16) hx hb hts hfX2 tyX2 tyX2_ok nmX2 hown hK hP hD hS 0 rfl rfl 1 (by decide) (hts (.fieldLink RX2 26 "ColdShips$Reader" "size" "I") (by decide +kernel)) (fun _ h9 => h9) rfl (by decide +kernel) rfl rfl (Nat.le_of_ble_eq_true rfl) dX2_addFour_41 (fun H locs hP hD hS => ?_)
  have hP : va_P (dC, dI) vwCl [(re, .inr (2, [.ref rtp, .int 4, .int (-1), .int r3, .int r4, .int r5, .int r6, .ref rcd, .int r8, .ref rst, .int r10, .int r11, .int r12, .int r13, .int r14, .int r15])), (rtp, .inl (kC, 400, .inl g19))] H := hP
  have hD : va_D A [(re, .inr (2, [.ref rtp, .int 4, .int (-1), .int r3, .int r4, .int r5, .int r6, .ref rcd, .int r8, .ref rst, .int r10, .int r11, .int r12, .int r13, .int r14, .int r15])), (rtp, .inl (kC, 400, .inl g19))] := hD
  refine lv_iinc (v := (-8)) (lv' := [(2, .int (-8)), (0, .ref re), (1, .int v)]) hx hb dX2_addFour_44 hl (k := 0) rfl (by decide) (by decide) rfl (fun ls hl => ?_)
  refine lv_goto (tgt := 3) hx hb dX2_addFour_47 (by decide) ?_
  refine lv_iload_n hx hb dX2_addFour_3 rfl (lv_at hl 0 rfl) ?_
  refine lv_if_lt (tgt := 50) hx hb dX2_addFour_4 (by decide) (fun _ => ?_) (fun c9 => absurd c9 (by decide))
  have hP9 := hP.sub (ws' := [(re, .inr (2, [.ref rtp, .int 4, .int (-1), .int r3, .int r4, .int r5, .int r6, .ref rcd, .int r8, .ref rst, .int r10, .int r11, .int r12, .int r13, .int r14, .int r15])), (rtp, .inl (kC, 400, .inl g19))]) [0, 1] rfl
  have hD9 := hD.sub (ws' := [(re, .inr (2, [.ref rtp, .int 4, .int (-1), .int r3, .int r4, .int r5, .int r6, .ref rcd, .int r8, .ref rst, .int r10, .int r11, .int r12, .int r13, .int r14, .int r15])), (rtp, .inl (kC, 400, .inl g19))]) [0, 1] (by decide +kernel) rfl
  have hK9 := hK.sub (tys' := [(kC, .char)]) [0] rfl
  exact W.vret hx hb hr (fun t ht hW => ⟨⟨(), rfl, trivial, ⟨g19, by rw [ht]; exact hP9, va_K.moved hW.alike hK9, hD9⟩⟩, hS.F ht⟩) hS.2.2 dX2_addFour_50
set_option maxHeartbeats 4000000 in
set_option maxRecDepth 100000 in
theorem c_addFour1 (l : Launch) (dC : Nat → ClassId) (dI : Nat → Nat → Nat) (sz : Nat) (re : Nat) (v : Int32) (rtp : Nat) (r3 : Int32) (r4 : Int32) (r5 : Int32) (r6 : Int32) (rcd : Nat) (r8 : Int32) (rst : Nat) (r10 : Int32) (r11 : Int32) (r12 : Int32) (r13 : Int32) (r14 : Int32) (r15 : Int32) (kC : ClassId) (fT : Nat → Int32)  : Met l yX2_addFour wsX2_addFour ({ frames := 3, cells := 0, slots := 0, locals := 800 }) (va_Pc [.ref re, .int v] (pz_B dC dI [(kC, .char)] [(re, .inr (2, [.ref rtp, .int 4, .int (-1), .int r3, .int r4, .int r5, .int r6, .ref rcd, .int r8, .ref rst, .int r10, .int r11, .int r12, .int r13, .int r14, .int r15])), (rtp, .inl (kC, 400, .inl fT))] sz)) (va_Qv (fun (_ : Unit) => True) (fun (_ : Unit) (t : State) => ∃ g : Nat → Int32, pz_E dC dI [(kC, .char)] (va_A [(re, .inr (2, [.ref rtp, .int 4, .int (-1), .int r3, .int r4, .int r5, .int r6, .ref rcd, .int r8, .ref rst, .int r10, .int r11, .int r12, .int r13, .int r14, .int r15])), (rtp, .inl (kC, 400, .inl fT))] sz) [(re, .inr (2, [.ref rtp, .int 8, .int (-1), .int r3, .int r4, .int r5, .int r6, .ref rcd, .int r8, .ref rst, .int r10, .int r11, .int r12, .int r13, .int r14, .int r15])), (rtp, .inl (kC, 400, .inl g))] t) (va_A [(re, .inr (2, [.ref rtp, .int 4, .int (-1), .int r3, .int r4, .int r5, .int r6, .ref rcd, .int r8, .ref rst, .int r10, .int r11, .int r12, .int r13, .int r14, .int r15])), (rtp, .inl (kC, 400, .inl fT))] sz)) 0 0 (va_A [(re, .inr (2, [.ref rtp, .int 4, .int (-1), .int r3, .int r4, .int r5, .int r6, .ref rcd, .int r8, .ref rst, .int r10, .int r11, .int r12, .int r13, .int r14, .int r15])), (rtp, .inl (kC, 400, .inl fT))] sz) := by
  refine Met.ofW (cc := cX2_addFour) (maxL := 3) (ret := none) (by decide) rfl ?_
  intro p e s m args below meth c s₁ B hml hv
  obtain ⟨rfl, hsz, hP, hK, hD0, hN⟩ := hv
  have hx := B.exec
  have hb := B.bytes
  have hr := B.returns
  have hts := atoms_spec (ws := wsX2_addFour) B.pre
  have hown : s.vm.findClass RX2 = some m.cls := findClass_of_methodNamed B.named
  have hlocks := B.notSynchronized
  subst hsz
  have hD := hD0.self (sz := s.heap.size)
  generalize hAe : va_A [(re, .inr (2, [.ref rtp, .int 4, .int (-1), .int r3, .int r4, .int r5, .int r6, .ref rcd, .int r8, .ref rst, .int r10, .int r11, .int r12, .int r13, .int r14, .int r15])), (rtp, .inl (kC, 400, .inl fT))] s.heap.size = A at hD ⊢
  have hA : ∀ q : Nat, s.heap.size ≤ q → A q := fun q h => by rw [← hAe]; exact Or.inr h
  have hS : va_S A s.heap s.heap [] := va_S.rf
  have hl := lv_entry ([.ref re, .int v]) (n := 3) (Nat.le_of_ble_eq_true rfl)
  rw [lg_entry_eq]
  generalize (lg_sl ([.ref re, .int v]) ++ List.replicate (3 - (lg_sl ([.ref re, .int v])).length) Slot.unset).toArray = ls at hl ⊢
  have hl : lv_has ls 3 [(0, .ref re), (1, .int v)] := hl
  have hfX2 : ∀ w ∈ wsX20, w ∈ wsX2_addFour := fun w h => List.mem_cons_of_mem _ (List.mem_append_right _ h)
  refine lv_bipush (v := 24) hx hb dX2_addFour_0 (by decide) ?_
  refine lv_istore_n (lv' := [(2, .int 24), (0, .ref re), (1, .int v)]) hx hb dX2_addFour_2 rfl hl (by decide) rfl (fun ls hl => ?_)
  refine lv_iload_n hx hb dX2_addFour_3 rfl (lv_at hl 0 rfl) ?_
  refine lv_if_lt (tgt := 50) hx hb dX2_addFour_4 (by decide) (fun c9 => absurd c9 (by decide)) (fun _ => ?_)
  refine lv_aload_n hx hb dX2_addFour_7 rfl (lv_at hl 1 rfl) ?_
  refine va_get (D := (dC, dI)) (ci := 2) (v := .int 4) (C := RX2) (T := TX2) (N := 16) hx hb hts hfX2 hown hK hP 0 rfl rfl 1 (by decide) (hts (.fieldLink RX2 26 "ColdShips$Reader" "size" "I") (by decide +kernel)) (fun _ h9 => h9) rfl dX2_addFour_8 ?_
  refine lv_sipush (v := 400) hx hb dX2_addFour_11 (by decide) ?_
  refine lv_icmp_ge (tgt := 50) hx hb dX2_addFour_14 (by decide) (fun c9 => absurd c9 (by decide)) (fun _ => ?_)
  refine lv_aload_n hx hb dX2_addFour_17 rfl (lv_at hl 1 rfl) ?_
  refine va_get (D := (dC, dI)) (ci := 2) (v := .ref rtp) (C := RX2) (T := TX2) (N := 16) hx hb hts hfX2 hown hK hP 0 rfl rfl 0 (by decide) (hts (.fieldLink RX2 11 "ColdShips$Reader" "tape" "[C") (by decide +kernel)) (fun _ h9 => h9) rfl dX2_addFour_18 ?_
  refine lv_aload_n hx hb dX2_addFour_21 rfl (lv_at hl 1 rfl) ?_
  refine va_get (D := (dC, dI)) (ci := 2) (v := .int 4) (C := RX2) (T := TX2) (N := 16) hx hb hts hfX2 hown hK hP 0 rfl rfl 1 (by decide) (hts (.fieldLink RX2 26 "ColdShips$Reader" "size" "I") (by decide +kernel)) (fun _ h9 => h9) rfl dX2_addFour_22 ?_
  refine lv_iload_n hx hb dX2_addFour_25 rfl (lv_at hl 2 rfl) ?_
  refine lv_iload_n hx hb dX2_addFour_26 rfl (lv_at hl 0 rfl) ?_
  refine lv_iushr hx hb dX2_addFour_27 rfl ?_
  refine lv_topi (fun z1 ez1 => ?_)
  refine lv_sipush (v := 255) hx hb dX2_addFour_28 (by decide) ?_
  refine lv_iand hx hb dX2_addFour_31 ?_
  refine lv_topi (fun z2 ez2 => ?_)
  refine lv_i2c hx hb dX2_addFour_32 rfl ?_
  refine lv_topi (fun z3 ez3 => ?_)
  refine va_cast hx hb hK hP hD hS 1 0 rfl rfl (vp_in_iff.mpr ⟨by decide, by decide⟩) dX2_addFour_33 (fun H locs hP hD hS => ?_)
  have hP : va_P (dC, dI) vwCl [(re, .inr (2, [.ref rtp, .int 4, .int (-1), .int r3, .int r4, .int r5, .int r6, .ref rcd, .int r8, .ref rst, .int r10, .int r11, .int r12, .int r13, .int r14, .int r15])), (rtp, .inl (kC, 400, .inl (upd fT 4 (vp_nar .char z3))))] H := hP
  have hD : va_D A [(re, .inr (2, [.ref rtp, .int 4, .int (-1), .int r3, .int r4, .int r5, .int r6, .ref rcd, .int r8, .ref rst, .int r10, .int r11, .int r12, .int r13, .int r14, .int r15])), (rtp, .inl (kC, 400, .inl (upd fT 4 (vp_nar .char z3))))] := hD
  generalize (upd fT 4 (vp_nar .char z3)) = g4 at hP hD
  refine lv_aload_n hx hb dX2_addFour_34 rfl (lv_at hl 1 rfl) ?_
  refine lv_dup hx hb dX2_addFour_35 rfl ?_
  refine va_get (D := (dC, dI)) (ci := 2) (v := .int 4) (C := RX2) (T := TX2) (N := 16) hx hb hts hfX2 hown hK hP 0 rfl rfl 1 (by decide) (hts (.fieldLink RX2 26 "ColdShips$Reader" "size" "I") (by decide +kernel)) (fun _ h9 => h9) rfl dX2_addFour_36 ?_
  refine lv_iconst (v := 1) hx hb dX2_addFour_39 (by decide) ?_
  refine lv_iadd hx hb dX2_addFour_40 ?_
  refine lv_topi (fun z5 ez5 => ?_)
  obtain rfl : z5 = 5 := ez5.trans (by first | rfl | decide)
  refine va_put (D := (dC, dI)) (ci := 2) (v := .int 5) (ty := .int) (C := RX2) (T := TX2) (N := 16) hx hb hts hfX2 tyX2 tyX2_ok nmX2 hown hK hP hD hS 0 rfl rfl 1 (by decide) (hts (.fieldLink RX2 26 "ColdShips$Reader" "size" "I") (by decide +kernel)) (fun _ h9 => h9) rfl (by decide +kernel) rfl rfl (Nat.le_of_ble_eq_true rfl) dX2_addFour_41 (fun H locs hP hD hS => ?_)
  have hP : va_P (dC, dI) vwCl [(re, .inr (2, [.ref rtp, .int 5, .int (-1), .int r3, .int r4, .int r5, .int r6, .ref rcd, .int r8, .ref rst, .int r10, .int r11, .int r12, .int r13, .int r14, .int r15])), (rtp, .inl (kC, 400, .inl g4))] H := hP
  have hD : va_D A [(re, .inr (2, [.ref rtp, .int 5, .int (-1), .int r3, .int r4, .int r5, .int r6, .ref rcd, .int r8, .ref rst, .int r10, .int r11, .int r12, .int r13, .int r14, .int r15])), (rtp, .inl (kC, 400, .inl g4))] := hD
  refine lv_iinc (v := 16) (lv' := [(2, .int 16), (0, .ref re), (1, .int v)]) hx hb dX2_addFour_44 hl (k := 0) rfl (by decide) (by decide) rfl (fun ls hl => ?_)
  refine lv_goto (tgt := 3) hx hb dX2_addFour_47 (by decide) ?_
  refine lv_iload_n hx hb dX2_addFour_3 rfl (lv_at hl 0 rfl) ?_
  refine lv_if_lt (tgt := 50) hx hb dX2_addFour_4 (by decide) (fun c9 => absurd c9 (by decide)) (fun _ => ?_)
  refine lv_aload_n hx hb dX2_addFour_7 rfl (lv_at hl 1 rfl) ?_
  refine va_get (D := (dC, dI)) (ci := 2) (v := .int 5) (C := RX2) (T := TX2) (N := 16) hx hb hts hfX2 hown hK hP 0 rfl rfl 1 (by decide) (hts (.fieldLink RX2 26 "ColdShips$Reader" "size" "I") (by decide +kernel)) (fun _ h9 => h9) rfl dX2_addFour_8 ?_
  refine lv_sipush (v := 400) hx hb dX2_addFour_11 (by decide) ?_
  refine lv_icmp_ge (tgt := 50) hx hb dX2_addFour_14 (by decide) (fun c9 => absurd c9 (by decide)) (fun _ => ?_)
  refine lv_aload_n hx hb dX2_addFour_17 rfl (lv_at hl 1 rfl) ?_
  refine va_get (D := (dC, dI)) (ci := 2) (v := .ref rtp) (C := RX2) (T := TX2) (N := 16) hx hb hts hfX2 hown hK hP 0 rfl rfl 0 (by decide) (hts (.fieldLink RX2 11 "ColdShips$Reader" "tape" "[C") (by decide +kernel)) (fun _ h9 => h9) rfl dX2_addFour_18 ?_
  refine lv_aload_n hx hb dX2_addFour_21 rfl (lv_at hl 1 rfl) ?_
  refine va_get (D := (dC, dI)) (ci := 2) (v := .int 5) (C := RX2) (T := TX2) (N := 16) hx hb hts hfX2 hown hK hP 0 rfl rfl 1 (by decide) (hts (.fieldLink RX2 26 "ColdShips$Reader" "size" "I") (by decide +kernel)) (fun _ h9 => h9) rfl dX2_addFour_22 ?_
  refine lv_iload_n hx hb dX2_addFour_25 rfl (lv_at hl 2 rfl) ?_
  refine lv_iload_n hx hb dX2_addFour_26 rfl (lv_at hl 0 rfl) ?_
  refine lv_iushr hx hb dX2_addFour_27 rfl ?_
  refine lv_topi (fun z6 ez6 => ?_)
  refine lv_sipush (v := 255) hx hb dX2_addFour_28 (by decide) ?_
  refine lv_iand hx hb dX2_addFour_31 ?_
  refine lv_topi (fun z7 ez7 => ?_)
  refine lv_i2c hx hb dX2_addFour_32 rfl ?_
  refine lv_topi (fun z8 ez8 => ?_)
  refine va_cast hx hb hK hP hD hS 1 0 rfl rfl (vp_in_iff.mpr ⟨by decide, by decide⟩) dX2_addFour_33 (fun H locs hP hD hS => ?_)
  have hP : va_P (dC, dI) vwCl [(re, .inr (2, [.ref rtp, .int 5, .int (-1), .int r3, .int r4, .int r5, .int r6, .ref rcd, .int r8, .ref rst, .int r10, .int r11, .int r12, .int r13, .int r14, .int r15])), (rtp, .inl (kC, 400, .inl (upd g4 5 (vp_nar .char z8))))] H := hP
  have hD : va_D A [(re, .inr (2, [.ref rtp, .int 5, .int (-1), .int r3, .int r4, .int r5, .int r6, .ref rcd, .int r8, .ref rst, .int r10, .int r11, .int r12, .int r13, .int r14, .int r15])), (rtp, .inl (kC, 400, .inl (upd g4 5 (vp_nar .char z8))))] := hD
  generalize (upd g4 5 (vp_nar .char z8)) = g9 at hP hD
  refine lv_aload_n hx hb dX2_addFour_34 rfl (lv_at hl 1 rfl) ?_
  refine lv_dup hx hb dX2_addFour_35 rfl ?_
  refine va_get (D := (dC, dI)) (ci := 2) (v := .int 5) (C := RX2) (T := TX2) (N := 16) hx hb hts hfX2 hown hK hP 0 rfl rfl 1 (by decide) (hts (.fieldLink RX2 26 "ColdShips$Reader" "size" "I") (by decide +kernel)) (fun _ h9 => h9) rfl dX2_addFour_36 ?_
  refine lv_iconst (v := 1) hx hb dX2_addFour_39 (by decide) ?_
  refine lv_iadd hx hb dX2_addFour_40 ?_
  refine lv_topi (fun z10 ez10 => ?_)
  obtain rfl : z10 = 6 := ez10.trans (by first | rfl | decide)
  refine va_put (D := (dC, dI)) (ci := 2) (v := .int 6) (ty := .int) (C := RX2) (T := TX2) (N := 16) hx hb hts hfX2 tyX2 tyX2_ok nmX2 hown hK hP hD hS 0 rfl rfl 1 (by decide) (hts (.fieldLink RX2 26 "ColdShips$Reader" "size" "I") (by decide +kernel)) (fun _ h9 => h9) rfl (by decide +kernel) rfl rfl (Nat.le_of_ble_eq_true rfl) dX2_addFour_41 (fun H locs hP hD hS => ?_)
  have hP : va_P (dC, dI) vwCl [(re, .inr (2, [.ref rtp, .int 6, .int (-1), .int r3, .int r4, .int r5, .int r6, .ref rcd, .int r8, .ref rst, .int r10, .int r11, .int r12, .int r13, .int r14, .int r15])), (rtp, .inl (kC, 400, .inl g9))] H := hP
  have hD : va_D A [(re, .inr (2, [.ref rtp, .int 6, .int (-1), .int r3, .int r4, .int r5, .int r6, .ref rcd, .int r8, .ref rst, .int r10, .int r11, .int r12, .int r13, .int r14, .int r15])), (rtp, .inl (kC, 400, .inl g9))] := hD
  refine lv_iinc (v := 8) (lv' := [(2, .int 8), (0, .ref re), (1, .int v)]) hx hb dX2_addFour_44 hl (k := 0) rfl (by decide) (by decide) rfl (fun ls hl => ?_)
  refine lv_goto (tgt := 3) hx hb dX2_addFour_47 (by decide) ?_
  refine lv_iload_n hx hb dX2_addFour_3 rfl (lv_at hl 0 rfl) ?_
  refine lv_if_lt (tgt := 50) hx hb dX2_addFour_4 (by decide) (fun c9 => absurd c9 (by decide)) (fun _ => ?_)
  refine lv_aload_n hx hb dX2_addFour_7 rfl (lv_at hl 1 rfl) ?_
  refine va_get (D := (dC, dI)) (ci := 2) (v := .int 6) (C := RX2) (T := TX2) (N := 16) hx hb hts hfX2 hown hK hP 0 rfl rfl 1 (by decide) (hts (.fieldLink RX2 26 "ColdShips$Reader" "size" "I") (by decide +kernel)) (fun _ h9 => h9) rfl dX2_addFour_8 ?_
  refine lv_sipush (v := 400) hx hb dX2_addFour_11 (by decide) ?_
  refine lv_icmp_ge (tgt := 50) hx hb dX2_addFour_14 (by decide) (fun c9 => absurd c9 (by decide)) (fun _ => ?_)
  refine lv_aload_n hx hb dX2_addFour_17 rfl (lv_at hl 1 rfl) ?_
  refine va_get (D := (dC, dI)) (ci := 2) (v := .ref rtp) (C := RX2) (T := TX2) (N := 16) hx hb hts hfX2 hown hK hP 0 rfl rfl 0 (by decide) (hts (.fieldLink RX2 11 "ColdShips$Reader" "tape" "[C") (by decide +kernel)) (fun _ h9 => h9) rfl dX2_addFour_18 ?_
  refine lv_aload_n hx hb dX2_addFour_21 rfl (lv_at hl 1 rfl) ?_
  refine va_get (D := (dC, dI)) (ci := 2) (v := .int 6) (C := RX2) (T := TX2) (N := 16) hx hb hts hfX2 hown hK hP 0 rfl rfl 1 (by decide) (hts (.fieldLink RX2 26 "ColdShips$Reader" "size" "I") (by decide +kernel)) (fun _ h9 => h9) rfl dX2_addFour_22 ?_
  refine lv_iload_n hx hb dX2_addFour_25 rfl (lv_at hl 2 rfl) ?_
  refine lv_iload_n hx hb dX2_addFour_26 rfl (lv_at hl 0 rfl) ?_
  refine lv_iushr hx hb dX2_addFour_27 rfl ?_
  refine lv_topi (fun z11 ez11 => ?_)
  refine lv_sipush (v := 255) hx hb dX2_addFour_28 (by decide) ?_
  refine lv_iand hx hb dX2_addFour_31 ?_
  refine lv_topi (fun z12 ez12 => ?_)
  refine lv_i2c hx hb dX2_addFour_32 rfl ?_
  refine lv_topi (fun z13 ez13 => ?_)
  refine va_cast hx hb hK hP hD hS 1 0 rfl rfl (vp_in_iff.mpr ⟨by decide, by decide⟩) dX2_addFour_33 (fun H locs hP hD hS => ?_)
  have hP : va_P (dC, dI) vwCl [(re, .inr (2, [.ref rtp, .int 6, .int (-1), .int r3, .int r4, .int r5, .int r6, .ref rcd, .int r8, .ref rst, .int r10, .int r11, .int r12, .int r13, .int r14, .int r15])), (rtp, .inl (kC, 400, .inl (upd g9 6 (vp_nar .char z13))))] H := hP
  have hD : va_D A [(re, .inr (2, [.ref rtp, .int 6, .int (-1), .int r3, .int r4, .int r5, .int r6, .ref rcd, .int r8, .ref rst, .int r10, .int r11, .int r12, .int r13, .int r14, .int r15])), (rtp, .inl (kC, 400, .inl (upd g9 6 (vp_nar .char z13))))] := hD
  generalize (upd g9 6 (vp_nar .char z13)) = g14 at hP hD
  refine lv_aload_n hx hb dX2_addFour_34 rfl (lv_at hl 1 rfl) ?_
  refine lv_dup hx hb dX2_addFour_35 rfl ?_
  refine va_get (D := (dC, dI)) (ci := 2) (v := .int 6) (C := RX2) (T := TX2) (N := 16) hx hb hts hfX2 hown hK hP 0 rfl rfl 1 (by decide) (hts (.fieldLink RX2 26 "ColdShips$Reader" "size" "I") (by decide +kernel)) (fun _ h9 => h9) rfl dX2_addFour_36 ?_
  refine lv_iconst (v := 1) hx hb dX2_addFour_39 (by decide) ?_
  refine lv_iadd hx hb dX2_addFour_40 ?_
  refine lv_topi (fun z15 ez15 => ?_)
  obtain rfl : z15 = 7 := ez15.trans (by first | rfl | decide)
  refine va_put (D := (dC, dI)) (ci := 2) (v := .int 7) (ty := .int) (C := RX2) (T := TX2) (N := 16) hx hb hts hfX2 tyX2 tyX2_ok nmX2 hown hK hP hD hS 0 rfl rfl 1 (by decide) (hts (.fieldLink RX2 26 "ColdShips$Reader" "size" "I") (by decide +kernel)) (fun _ h9 => h9) rfl (by decide +kernel) rfl rfl (Nat.le_of_ble_eq_true rfl) dX2_addFour_41 (fun H locs hP hD hS => ?_)
  have hP : va_P (dC, dI) vwCl [(re, .inr (2, [.ref rtp, .int 7, .int (-1), .int r3, .int r4, .int r5, .int r6, .ref rcd, .int r8, .ref rst, .int r10, .int r11, .int r12, .int r13, .int r14, .int r15])), (rtp, .inl (kC, 400, .inl g14))] H := hP
  have hD : va_D A [(re, .inr (2, [.ref rtp, .int 7, .int (-1), .int r3, .int r4, .int r5, .int r6, .ref rcd, .int r8, .ref rst, .int r10, .int r11, .int r12, .int r13, .int r14, .int r15])), (rtp, .inl (kC, 400, .inl g14))] := hD
  refine lv_iinc (v := 0) (lv' := [(2, .int 0), (0, .ref re), (1, .int v)]) hx hb dX2_addFour_44 hl (k := 0) rfl (by decide) (by decide) rfl (fun ls hl => ?_)
  refine lv_goto (tgt := 3) hx hb dX2_addFour_47 (by decide) ?_
  refine lv_iload_n hx hb dX2_addFour_3 rfl (lv_at hl 0 rfl) ?_
  refine lv_if_lt (tgt := 50) hx hb dX2_addFour_4 (by decide) (fun c9 => absurd c9 (by decide)) (fun _ => ?_)
  refine lv_aload_n hx hb dX2_addFour_7 rfl (lv_at hl 1 rfl) ?_
  refine va_get (D := (dC, dI)) (ci := 2) (v := .int 7) (C := RX2) (T := TX2) (N := 16) hx hb hts hfX2 hown hK hP 0 rfl rfl 1 (by decide) (hts (.fieldLink RX2 26 "ColdShips$Reader" "size" "I") (by decide +kernel)) (fun _ h9 => h9) rfl dX2_addFour_8 ?_
  refine lv_sipush (v := 400) hx hb dX2_addFour_11 (by decide) ?_
  refine lv_icmp_ge (tgt := 50) hx hb dX2_addFour_14 (by decide) (fun c9 => absurd c9 (by decide)) (fun _ => ?_)
  refine lv_aload_n hx hb dX2_addFour_17 rfl (lv_at hl 1 rfl) ?_
  refine va_get (D := (dC, dI)) (ci := 2) (v := .ref rtp) (C := RX2) (T := TX2) (N := 16) hx hb hts hfX2 hown hK hP 0 rfl rfl 0 (by decide) (hts (.fieldLink RX2 11 "ColdShips$Reader" "tape" "[C") (by decide +kernel)) (fun _ h9 => h9) rfl dX2_addFour_18 ?_
  refine lv_aload_n hx hb dX2_addFour_21 rfl (lv_at hl 1 rfl) ?_
  refine va_get (D := (dC, dI)) (ci := 2) (v := .int 7) (C := RX2) (T := TX2) (N := 16) hx hb hts hfX2 hown hK hP 0 rfl rfl 1 (by decide) (hts (.fieldLink RX2 26 "ColdShips$Reader" "size" "I") (by decide +kernel)) (fun _ h9 => h9) rfl dX2_addFour_22 ?_
  refine lv_iload_n hx hb dX2_addFour_25 rfl (lv_at hl 2 rfl) ?_
  refine lv_iload_n hx hb dX2_addFour_26 rfl (lv_at hl 0 rfl) ?_
  refine lv_iushr hx hb dX2_addFour_27 rfl ?_
  refine lv_topi (fun z16 ez16 => ?_)
  refine lv_sipush (v := 255) hx hb dX2_addFour_28 (by decide) ?_
  refine lv_iand hx hb dX2_addFour_31 ?_
  refine lv_topi (fun z17 ez17 => ?_)
  refine lv_i2c hx hb dX2_addFour_32 rfl ?_
  refine lv_topi (fun z18 ez18 => ?_)
  refine va_cast hx hb hK hP hD hS 1 0 rfl rfl (vp_in_iff.mpr ⟨by decide, by decide⟩) dX2_addFour_33 (fun H locs hP hD hS => ?_)
  have hP : va_P (dC, dI) vwCl [(re, .inr (2, [.ref rtp, .int 7, .int (-1), .int r3, .int r4, .int r5, .int r6, .ref rcd, .int r8, .ref rst, .int r10, .int r11, .int r12, .int r13, .int r14, .int r15])), (rtp, .inl (kC, 400, .inl (upd g14 7 (vp_nar .char z18))))] H := hP
  have hD : va_D A [(re, .inr (2, [.ref rtp, .int 7, .int (-1), .int r3, .int r4, .int r5, .int r6, .ref rcd, .int r8, .ref rst, .int r10, .int r11, .int r12, .int r13, .int r14, .int r15])), (rtp, .inl (kC, 400, .inl (upd g14 7 (vp_nar .char z18))))] := hD
  generalize (upd g14 7 (vp_nar .char z18)) = g19 at hP hD
  refine lv_aload_n hx hb dX2_addFour_34 rfl (lv_at hl 1 rfl) ?_
  refine lv_dup hx hb dX2_addFour_35 rfl ?_
  refine va_get (D := (dC, dI)) (ci := 2) (v := .int 7) (C := RX2) (T := TX2) (N := 16) hx hb hts hfX2 hown hK hP 0 rfl rfl 1 (by decide) (hts (.fieldLink RX2 26 "ColdShips$Reader" "size" "I") (by decide +kernel)) (fun _ h9 => h9) rfl dX2_addFour_36 ?_
  refine lv_iconst (v := 1) hx hb dX2_addFour_39 (by decide) ?_
  refine lv_iadd hx hb dX2_addFour_40 ?_
  refine lv_topi (fun z20 ez20 => ?_)
  obtain rfl : z20 = 8 := ez20.trans (by first | rfl | decide)
  refine va_put (D := (dC, dI)) (ci := 2) (v := .int 8) (ty := .int) (C := RX2) (T := TX2) (N := 16) hx hb hts hfX2 tyX2 tyX2_ok nmX2 hown hK hP hD hS 0 rfl rfl 1 (by decide) (hts (.fieldLink RX2 26 "ColdShips$Reader" "size" "I") (by decide +kernel)) (fun _ h9 => h9) rfl (by decide +kernel) rfl rfl (Nat.le_of_ble_eq_true rfl) dX2_addFour_41 (fun H locs hP hD hS => ?_)
  have hP : va_P (dC, dI) vwCl [(re, .inr (2, [.ref rtp, .int 8, .int (-1), .int r3, .int r4, .int r5, .int r6, .ref rcd, .int r8, .ref rst, .int r10, .int r11, .int r12, .int r13, .int r14, .int r15])), (rtp, .inl (kC, 400, .inl g19))] H := hP
  have hD : va_D A [(re, .inr (2, [.ref rtp, .int 8, .int (-1), .int r3, .int r4, .int r5, .int r6, .ref rcd, .int r8, .ref rst, .int r10, .int r11, .int r12, .int r13, .int r14, .int r15])), (rtp, .inl (kC, 400, .inl g19))] := hD
  refine lv_iinc (v := (-8)) (lv' := [(2, .int (-8)), (0, .ref re), (1, .int v)]) hx hb dX2_addFour_44 hl (k := 0) rfl (by decide) (by decide) rfl (fun ls hl => ?_)
  refine lv_goto (tgt := 3) hx hb dX2_addFour_47 (by decide) ?_
  refine lv_iload_n hx hb dX2_addFour_3 rfl (lv_at hl 0 rfl) ?_
  refine lv_if_lt (tgt := 50) hx hb dX2_addFour_4 (by decide) (fun _ => ?_) (fun c9 => absurd c9 (by decide))
  have hP9 := hP.sub (ws' := [(re, .inr (2, [.ref rtp, .int 8, .int (-1), .int r3, .int r4, .int r5, .int r6, .ref rcd, .int r8, .ref rst, .int r10, .int r11, .int r12, .int r13, .int r14, .int r15])), (rtp, .inl (kC, 400, .inl g19))]) [0, 1] rfl
  have hD9 := hD.sub (ws' := [(re, .inr (2, [.ref rtp, .int 8, .int (-1), .int r3, .int r4, .int r5, .int r6, .ref rcd, .int r8, .ref rst, .int r10, .int r11, .int r12, .int r13, .int r14, .int r15])), (rtp, .inl (kC, 400, .inl g19))]) [0, 1] (by decide +kernel) rfl
  have hK9 := hK.sub (tys' := [(kC, .char)]) [0] rfl
  exact W.vret hx hb hr (fun t ht hW => ⟨⟨(), rfl, trivial, ⟨g19, by rw [ht]; exact hP9, va_K.moved hW.alike hK9, hD9⟩⟩, hS.F ht⟩) hS.2.2 dX2_addFour_50
set_option maxHeartbeats 4000000 in
set_option maxRecDepth 100000 in
theorem c_addFour2 (l : Launch) (dC : Nat → ClassId) (dI : Nat → Nat → Nat) (sz : Nat) (re : Nat) (v : Int32) (rtp : Nat) (r3 : Int32) (r4 : Int32) (r5 : Int32) (r6 : Int32) (rcd : Nat) (r8 : Int32) (rst : Nat) (r10 : Int32) (r11 : Int32) (r12 : Int32) (r13 : Int32) (r14 : Int32) (r15 : Int32) (kC : ClassId) (fT : Nat → Int32)  : Met l yX2_addFour wsX2_addFour ({ frames := 3, cells := 0, slots := 0, locals := 800 }) (va_Pc [.ref re, .int v] (pz_B dC dI [(kC, .char)] [(re, .inr (2, [.ref rtp, .int 8, .int (-1), .int r3, .int r4, .int r5, .int r6, .ref rcd, .int r8, .ref rst, .int r10, .int r11, .int r12, .int r13, .int r14, .int r15])), (rtp, .inl (kC, 400, .inl fT))] sz)) (va_Qv (fun (_ : Unit) => True) (fun (_ : Unit) (t : State) => ∃ g : Nat → Int32, pz_E dC dI [(kC, .char)] (va_A [(re, .inr (2, [.ref rtp, .int 8, .int (-1), .int r3, .int r4, .int r5, .int r6, .ref rcd, .int r8, .ref rst, .int r10, .int r11, .int r12, .int r13, .int r14, .int r15])), (rtp, .inl (kC, 400, .inl fT))] sz) [(re, .inr (2, [.ref rtp, .int 12, .int (-1), .int r3, .int r4, .int r5, .int r6, .ref rcd, .int r8, .ref rst, .int r10, .int r11, .int r12, .int r13, .int r14, .int r15])), (rtp, .inl (kC, 400, .inl g))] t) (va_A [(re, .inr (2, [.ref rtp, .int 8, .int (-1), .int r3, .int r4, .int r5, .int r6, .ref rcd, .int r8, .ref rst, .int r10, .int r11, .int r12, .int r13, .int r14, .int r15])), (rtp, .inl (kC, 400, .inl fT))] sz)) 0 0 (va_A [(re, .inr (2, [.ref rtp, .int 8, .int (-1), .int r3, .int r4, .int r5, .int r6, .ref rcd, .int r8, .ref rst, .int r10, .int r11, .int r12, .int r13, .int r14, .int r15])), (rtp, .inl (kC, 400, .inl fT))] sz) := by
  refine Met.ofW (cc := cX2_addFour) (maxL := 3) (ret := none) (by decide) rfl ?_
  intro p e s m args below meth c s₁ B hml hv
  obtain ⟨rfl, hsz, hP, hK, hD0, hN⟩ := hv
  have hx := B.exec
  have hb := B.bytes
  have hr := B.returns
  have hts := atoms_spec (ws := wsX2_addFour) B.pre
  have hown : s.vm.findClass RX2 = some m.cls := findClass_of_methodNamed B.named
  have hlocks := B.notSynchronized
  subst hsz
  have hD := hD0.self (sz := s.heap.size)
  generalize hAe : va_A [(re, .inr (2, [.ref rtp, .int 8, .int (-1), .int r3, .int r4, .int r5, .int r6, .ref rcd, .int r8, .ref rst, .int r10, .int r11, .int r12, .int r13, .int r14, .int r15])), (rtp, .inl (kC, 400, .inl fT))] s.heap.size = A at hD ⊢
  have hA : ∀ q : Nat, s.heap.size ≤ q → A q := fun q h => by rw [← hAe]; exact Or.inr h
  have hS : va_S A s.heap s.heap [] := va_S.rf
  have hl := lv_entry ([.ref re, .int v]) (n := 3) (Nat.le_of_ble_eq_true rfl)
  rw [lg_entry_eq]
  generalize (lg_sl ([.ref re, .int v]) ++ List.replicate (3 - (lg_sl ([.ref re, .int v])).length) Slot.unset).toArray = ls at hl ⊢
  have hl : lv_has ls 3 [(0, .ref re), (1, .int v)] := hl
  have hfX2 : ∀ w ∈ wsX20, w ∈ wsX2_addFour := fun w h => List.mem_cons_of_mem _ (List.mem_append_right _ h)
  refine lv_bipush (v := 24) hx hb dX2_addFour_0 (by decide) ?_
  refine lv_istore_n (lv' := [(2, .int 24), (0, .ref re), (1, .int v)]) hx hb dX2_addFour_2 rfl hl (by decide) rfl (fun ls hl => ?_)
  refine lv_iload_n hx hb dX2_addFour_3 rfl (lv_at hl 0 rfl) ?_
  refine lv_if_lt (tgt := 50) hx hb dX2_addFour_4 (by decide) (fun c9 => absurd c9 (by decide)) (fun _ => ?_)
  refine lv_aload_n hx hb dX2_addFour_7 rfl (lv_at hl 1 rfl) ?_
  refine va_get (D := (dC, dI)) (ci := 2) (v := .int 8) (C := RX2) (T := TX2) (N := 16) hx hb hts hfX2 hown hK hP 0 rfl rfl 1 (by decide) (hts (.fieldLink RX2 26 "ColdShips$Reader" "size" "I") (by decide +kernel)) (fun _ h9 => h9) rfl dX2_addFour_8 ?_
  refine lv_sipush (v := 400) hx hb dX2_addFour_11 (by decide) ?_
  refine lv_icmp_ge (tgt := 50) hx hb dX2_addFour_14 (by decide) (fun c9 => absurd c9 (by decide)) (fun _ => ?_)
  refine lv_aload_n hx hb dX2_addFour_17 rfl (lv_at hl 1 rfl) ?_
  refine va_get (D := (dC, dI)) (ci := 2) (v := .ref rtp) (C := RX2) (T := TX2) (N := 16) hx hb hts hfX2 hown hK hP 0 rfl rfl 0 (by decide) (hts (.fieldLink RX2 11 "ColdShips$Reader" "tape" "[C") (by decide +kernel)) (fun _ h9 => h9) rfl dX2_addFour_18 ?_
  refine lv_aload_n hx hb dX2_addFour_21 rfl (lv_at hl 1 rfl) ?_
  refine va_get (D := (dC, dI)) (ci := 2) (v := .int 8) (C := RX2) (T := TX2) (N := 16) hx hb hts hfX2 hown hK hP 0 rfl rfl 1 (by decide) (hts (.fieldLink RX2 26 "ColdShips$Reader" "size" "I") (by decide +kernel)) (fun _ h9 => h9) rfl dX2_addFour_22 ?_
  refine lv_iload_n hx hb dX2_addFour_25 rfl (lv_at hl 2 rfl) ?_
  refine lv_iload_n hx hb dX2_addFour_26 rfl (lv_at hl 0 rfl) ?_
  refine lv_iushr hx hb dX2_addFour_27 rfl ?_
  refine lv_topi (fun z1 ez1 => ?_)
  refine lv_sipush (v := 255) hx hb dX2_addFour_28 (by decide) ?_
  refine lv_iand hx hb dX2_addFour_31 ?_
  refine lv_topi (fun z2 ez2 => ?_)
  refine lv_i2c hx hb dX2_addFour_32 rfl ?_
  refine lv_topi (fun z3 ez3 => ?_)
  refine va_cast hx hb hK hP hD hS 1 0 rfl rfl (vp_in_iff.mpr ⟨by decide, by decide⟩) dX2_addFour_33 (fun H locs hP hD hS => ?_)
  have hP : va_P (dC, dI) vwCl [(re, .inr (2, [.ref rtp, .int 8, .int (-1), .int r3, .int r4, .int r5, .int r6, .ref rcd, .int r8, .ref rst, .int r10, .int r11, .int r12, .int r13, .int r14, .int r15])), (rtp, .inl (kC, 400, .inl (upd fT 8 (vp_nar .char z3))))] H := hP
  have hD : va_D A [(re, .inr (2, [.ref rtp, .int 8, .int (-1), .int r3, .int r4, .int r5, .int r6, .ref rcd, .int r8, .ref rst, .int r10, .int r11, .int r12, .int r13, .int r14, .int r15])), (rtp, .inl (kC, 400, .inl (upd fT 8 (vp_nar .char z3))))] := hD
  generalize (upd fT 8 (vp_nar .char z3)) = g4 at hP hD
  refine lv_aload_n hx hb dX2_addFour_34 rfl (lv_at hl 1 rfl) ?_
  refine lv_dup hx hb dX2_addFour_35 rfl ?_
  refine va_get (D := (dC, dI)) (ci := 2) (v := .int 8) (C := RX2) (T := TX2) (N := 16) hx hb hts hfX2 hown hK hP 0 rfl rfl 1 (by decide) (hts (.fieldLink RX2 26 "ColdShips$Reader" "size" "I") (by decide +kernel)) (fun _ h9 => h9) rfl dX2_addFour_36 ?_
  refine lv_iconst (v := 1) hx hb dX2_addFour_39 (by decide) ?_
  refine lv_iadd hx hb dX2_addFour_40 ?_
  refine lv_topi (fun z5 ez5 => ?_)
  obtain rfl : z5 = 9 := ez5.trans (by first | rfl | decide)
  refine va_put (D := (dC, dI)) (ci := 2) (v := .int 9) (ty := .int) (C := RX2) (T := TX2) (N := 16) hx hb hts hfX2 tyX2 tyX2_ok nmX2 hown hK hP hD hS 0 rfl rfl 1 (by decide) (hts (.fieldLink RX2 26 "ColdShips$Reader" "size" "I") (by decide +kernel)) (fun _ h9 => h9) rfl (by decide +kernel) rfl rfl (Nat.le_of_ble_eq_true rfl) dX2_addFour_41 (fun H locs hP hD hS => ?_)
  have hP : va_P (dC, dI) vwCl [(re, .inr (2, [.ref rtp, .int 9, .int (-1), .int r3, .int r4, .int r5, .int r6, .ref rcd, .int r8, .ref rst, .int r10, .int r11, .int r12, .int r13, .int r14, .int r15])), (rtp, .inl (kC, 400, .inl g4))] H := hP
  have hD : va_D A [(re, .inr (2, [.ref rtp, .int 9, .int (-1), .int r3, .int r4, .int r5, .int r6, .ref rcd, .int r8, .ref rst, .int r10, .int r11, .int r12, .int r13, .int r14, .int r15])), (rtp, .inl (kC, 400, .inl g4))] := hD
  refine lv_iinc (v := 16) (lv' := [(2, .int 16), (0, .ref re), (1, .int v)]) hx hb dX2_addFour_44 hl (k := 0) rfl (by decide) (by decide) rfl (fun ls hl => ?_)
  refine lv_goto (tgt := 3) hx hb dX2_addFour_47 (by decide) ?_
  refine lv_iload_n hx hb dX2_addFour_3 rfl (lv_at hl 0 rfl) ?_
  refine lv_if_lt (tgt := 50) hx hb dX2_addFour_4 (by decide) (fun c9 => absurd c9 (by decide)) (fun _ => ?_)
  refine lv_aload_n hx hb dX2_addFour_7 rfl (lv_at hl 1 rfl) ?_
  refine va_get (D := (dC, dI)) (ci := 2) (v := .int 9) (C := RX2) (T := TX2) (N := 16) hx hb hts hfX2 hown hK hP 0 rfl rfl 1 (by decide) (hts (.fieldLink RX2 26 "ColdShips$Reader" "size" "I") (by decide +kernel)) (fun _ h9 => h9) rfl dX2_addFour_8 ?_
  refine lv_sipush (v := 400) hx hb dX2_addFour_11 (by decide) ?_
  refine lv_icmp_ge (tgt := 50) hx hb dX2_addFour_14 (by decide) (fun c9 => absurd c9 (by decide)) (fun _ => ?_)
  refine lv_aload_n hx hb dX2_addFour_17 rfl (lv_at hl 1 rfl) ?_
  refine va_get (D := (dC, dI)) (ci := 2) (v := .ref rtp) (C := RX2) (T := TX2) (N := 16) hx hb hts hfX2 hown hK hP 0 rfl rfl 0 (by decide) (hts (.fieldLink RX2 11 "ColdShips$Reader" "tape" "[C") (by decide +kernel)) (fun _ h9 => h9) rfl dX2_addFour_18 ?_
  refine lv_aload_n hx hb dX2_addFour_21 rfl (lv_at hl 1 rfl) ?_
  refine va_get (D := (dC, dI)) (ci := 2) (v := .int 9) (C := RX2) (T := TX2) (N := 16) hx hb hts hfX2 hown hK hP 0 rfl rfl 1 (by decide) (hts (.fieldLink RX2 26 "ColdShips$Reader" "size" "I") (by decide +kernel)) (fun _ h9 => h9) rfl dX2_addFour_22 ?_
  refine lv_iload_n hx hb dX2_addFour_25 rfl (lv_at hl 2 rfl) ?_
  refine lv_iload_n hx hb dX2_addFour_26 rfl (lv_at hl 0 rfl) ?_
  refine lv_iushr hx hb dX2_addFour_27 rfl ?_
  refine lv_topi (fun z6 ez6 => ?_)
  refine lv_sipush (v := 255) hx hb dX2_addFour_28 (by decide) ?_
  refine lv_iand hx hb dX2_addFour_31 ?_
  refine lv_topi (fun z7 ez7 => ?_)
  refine lv_i2c hx hb dX2_addFour_32 rfl ?_
  refine lv_topi (fun z8 ez8 => ?_)
  refine va_cast hx hb hK hP hD hS 1 0 rfl rfl (vp_in_iff.mpr ⟨by decide, by decide⟩) dX2_addFour_33 (fun H locs hP hD hS => ?_)
  have hP : va_P (dC, dI) vwCl [(re, .inr (2, [.ref rtp, .int 9, .int (-1), .int r3, .int r4, .int r5, .int r6, .ref rcd, .int r8, .ref rst, .int r10, .int r11, .int r12, .int r13, .int r14, .int r15])), (rtp, .inl (kC, 400, .inl (upd g4 9 (vp_nar .char z8))))] H := hP
  have hD : va_D A [(re, .inr (2, [.ref rtp, .int 9, .int (-1), .int r3, .int r4, .int r5, .int r6, .ref rcd, .int r8, .ref rst, .int r10, .int r11, .int r12, .int r13, .int r14, .int r15])), (rtp, .inl (kC, 400, .inl (upd g4 9 (vp_nar .char z8))))] := hD
  generalize (upd g4 9 (vp_nar .char z8)) = g9 at hP hD
  refine lv_aload_n hx hb dX2_addFour_34 rfl (lv_at hl 1 rfl) ?_
  refine lv_dup hx hb dX2_addFour_35 rfl ?_
  refine va_get (D := (dC, dI)) (ci := 2) (v := .int 9) (C := RX2) (T := TX2) (N := 16) hx hb hts hfX2 hown hK hP 0 rfl rfl 1 (by decide) (hts (.fieldLink RX2 26 "ColdShips$Reader" "size" "I") (by decide +kernel)) (fun _ h9 => h9) rfl dX2_addFour_36 ?_
  refine lv_iconst (v := 1) hx hb dX2_addFour_39 (by decide) ?_
  refine lv_iadd hx hb dX2_addFour_40 ?_
  refine lv_topi (fun z10 ez10 => ?_)
  obtain rfl : z10 = 10 := ez10.trans (by first | rfl | decide)
  refine va_put (D := (dC, dI)) (ci := 2) (v := .int 10) (ty := .int) (C := RX2) (T := TX2) (N := 16) hx hb hts hfX2 tyX2 tyX2_ok nmX2 hown hK hP hD hS 0 rfl rfl 1 (by decide) (hts (.fieldLink RX2 26 "ColdShips$Reader" "size" "I") (by decide +kernel)) (fun _ h9 => h9) rfl (by decide +kernel) rfl rfl (Nat.le_of_ble_eq_true rfl) dX2_addFour_41 (fun H locs hP hD hS => ?_)
  have hP : va_P (dC, dI) vwCl [(re, .inr (2, [.ref rtp, .int 10, .int (-1), .int r3, .int r4, .int r5, .int r6, .ref rcd, .int r8, .ref rst, .int r10, .int r11, .int r12, .int r13, .int r14, .int r15])), (rtp, .inl (kC, 400, .inl g9))] H := hP
  have hD : va_D A [(re, .inr (2, [.ref rtp, .int 10, .int (-1), .int r3, .int r4, .int r5, .int r6, .ref rcd, .int r8, .ref rst, .int r10, .int r11, .int r12, .int r13, .int r14, .int r15])), (rtp, .inl (kC, 400, .inl g9))] := hD
  refine lv_iinc (v := 8) (lv' := [(2, .int 8), (0, .ref re), (1, .int v)]) hx hb dX2_addFour_44 hl (k := 0) rfl (by decide) (by decide) rfl (fun ls hl => ?_)
  refine lv_goto (tgt := 3) hx hb dX2_addFour_47 (by decide) ?_
  refine lv_iload_n hx hb dX2_addFour_3 rfl (lv_at hl 0 rfl) ?_
  refine lv_if_lt (tgt := 50) hx hb dX2_addFour_4 (by decide) (fun c9 => absurd c9 (by decide)) (fun _ => ?_)
  refine lv_aload_n hx hb dX2_addFour_7 rfl (lv_at hl 1 rfl) ?_
  refine va_get (D := (dC, dI)) (ci := 2) (v := .int 10) (C := RX2) (T := TX2) (N := 16) hx hb hts hfX2 hown hK hP 0 rfl rfl 1 (by decide) (hts (.fieldLink RX2 26 "ColdShips$Reader" "size" "I") (by decide +kernel)) (fun _ h9 => h9) rfl dX2_addFour_8 ?_
  refine lv_sipush (v := 400) hx hb dX2_addFour_11 (by decide) ?_
  refine lv_icmp_ge (tgt := 50) hx hb dX2_addFour_14 (by decide) (fun c9 => absurd c9 (by decide)) (fun _ => ?_)
  refine lv_aload_n hx hb dX2_addFour_17 rfl (lv_at hl 1 rfl) ?_
  refine va_get (D := (dC, dI)) (ci := 2) (v := .ref rtp) (C := RX2) (T := TX2) (N := 16) hx hb hts hfX2 hown hK hP 0 rfl rfl 0 (by decide) (hts (.fieldLink RX2 11 "ColdShips$Reader" "tape" "[C") (by decide +kernel)) (fun _ h9 => h9) rfl dX2_addFour_18 ?_
  refine lv_aload_n hx hb dX2_addFour_21 rfl (lv_at hl 1 rfl) ?_
  refine va_get (D := (dC, dI)) (ci := 2) (v := .int 10) (C := RX2) (T := TX2) (N := 16) hx hb hts hfX2 hown hK hP 0 rfl rfl 1 (by decide) (hts (.fieldLink RX2 26 "ColdShips$Reader" "size" "I") (by decide +kernel)) (fun _ h9 => h9) rfl dX2_addFour_22 ?_
  refine lv_iload_n hx hb dX2_addFour_25 rfl (lv_at hl 2 rfl) ?_
  refine lv_iload_n hx hb dX2_addFour_26 rfl (lv_at hl 0 rfl) ?_
  refine lv_iushr hx hb dX2_addFour_27 rfl ?_
  refine lv_topi (fun z11 ez11 => ?_)
  refine lv_sipush (v := 255) hx hb dX2_addFour_28 (by decide) ?_
  refine lv_iand hx hb dX2_addFour_31 ?_
  refine lv_topi (fun z12 ez12 => ?_)
  refine lv_i2c hx hb dX2_addFour_32 rfl ?_
  refine lv_topi (fun z13 ez13 => ?_)
  refine va_cast hx hb hK hP hD hS 1 0 rfl rfl (vp_in_iff.mpr ⟨by decide, by decide⟩) dX2_addFour_33 (fun H locs hP hD hS => ?_)
  have hP : va_P (dC, dI) vwCl [(re, .inr (2, [.ref rtp, .int 10, .int (-1), .int r3, .int r4, .int r5, .int r6, .ref rcd, .int r8, .ref rst, .int r10, .int r11, .int r12, .int r13, .int r14, .int r15])), (rtp, .inl (kC, 400, .inl (upd g9 10 (vp_nar .char z13))))] H := hP
  have hD : va_D A [(re, .inr (2, [.ref rtp, .int 10, .int (-1), .int r3, .int r4, .int r5, .int r6, .ref rcd, .int r8, .ref rst, .int r10, .int r11, .int r12, .int r13, .int r14, .int r15])), (rtp, .inl (kC, 400, .inl (upd g9 10 (vp_nar .char z13))))] := hD
  generalize (upd g9 10 (vp_nar .char z13)) = g14 at hP hD
  refine lv_aload_n hx hb dX2_addFour_34 rfl (lv_at hl 1 rfl) ?_
  refine lv_dup hx hb dX2_addFour_35 rfl ?_
  refine va_get (D := (dC, dI)) (ci := 2) (v := .int 10) (C := RX2) (T := TX2) (N := 16) hx hb hts hfX2 hown hK hP 0 rfl rfl 1 (by decide) (hts (.fieldLink RX2 26 "ColdShips$Reader" "size" "I") (by decide +kernel)) (fun _ h9 => h9) rfl dX2_addFour_36 ?_
  refine lv_iconst (v := 1) hx hb dX2_addFour_39 (by decide) ?_
  refine lv_iadd hx hb dX2_addFour_40 ?_
  refine lv_topi (fun z15 ez15 => ?_)
  obtain rfl : z15 = 11 := ez15.trans (by first | rfl | decide)
  refine va_put (D := (dC, dI)) (ci := 2) (v := .int 11) (ty := .int) (C := RX2) (T := TX2) (N := 16) hx hb hts hfX2 tyX2 tyX2_ok nmX2 hown hK hP hD hS 0 rfl rfl 1 (by decide) (hts (.fieldLink RX2 26 "ColdShips$Reader" "size" "I") (by decide +kernel)) (fun _ h9 => h9) rfl (by decide +kernel) rfl rfl (Nat.le_of_ble_eq_true rfl) dX2_addFour_41 (fun H locs hP hD hS => ?_)
  have hP : va_P (dC, dI) vwCl [(re, .inr (2, [.ref rtp, .int 11, .int (-1), .int r3, .int r4, .int r5, .int r6, .ref rcd, .int r8, .ref rst, .int r10, .int r11, .int r12, .int r13, .int r14, .int r15])), (rtp, .inl (kC, 400, .inl g14))] H := hP
  have hD : va_D A [(re, .inr (2, [.ref rtp, .int 11, .int (-1), .int r3, .int r4, .int r5, .int r6, .ref rcd, .int r8, .ref rst, .int r10, .int r11, .int r12, .int r13, .int r14, .int r15])), (rtp, .inl (kC, 400, .inl g14))] := hD
  refine lv_iinc (v := 0) (lv' := [(2, .int 0), (0, .ref re), (1, .int v)]) hx hb dX2_addFour_44 hl (k := 0) rfl (by decide) (by decide) rfl (fun ls hl => ?_)
  refine lv_goto (tgt := 3) hx hb dX2_addFour_47 (by decide) ?_
  refine lv_iload_n hx hb dX2_addFour_3 rfl (lv_at hl 0 rfl) ?_
  refine lv_if_lt (tgt := 50) hx hb dX2_addFour_4 (by decide) (fun c9 => absurd c9 (by decide)) (fun _ => ?_)
  refine lv_aload_n hx hb dX2_addFour_7 rfl (lv_at hl 1 rfl) ?_
  refine va_get (D := (dC, dI)) (ci := 2) (v := .int 11) (C := RX2) (T := TX2) (N := 16) hx hb hts hfX2 hown hK hP 0 rfl rfl 1 (by decide) (hts (.fieldLink RX2 26 "ColdShips$Reader" "size" "I") (by decide +kernel)) (fun _ h9 => h9) rfl dX2_addFour_8 ?_
  refine lv_sipush (v := 400) hx hb dX2_addFour_11 (by decide) ?_
  refine lv_icmp_ge (tgt := 50) hx hb dX2_addFour_14 (by decide) (fun c9 => absurd c9 (by decide)) (fun _ => ?_)
  refine lv_aload_n hx hb dX2_addFour_17 rfl (lv_at hl 1 rfl) ?_
  refine va_get (D := (dC, dI)) (ci := 2) (v := .ref rtp) (C := RX2) (T := TX2) (N := 16) hx hb hts hfX2 hown hK hP 0 rfl rfl 0 (by decide) (hts (.fieldLink RX2 11 "ColdShips$Reader" "tape" "[C") (by decide +kernel)) (fun _ h9 => h9) rfl dX2_addFour_18 ?_
  refine lv_aload_n hx hb dX2_addFour_21 rfl (lv_at hl 1 rfl) ?_
  refine va_get (D := (dC, dI)) (ci := 2) (v := .int 11) (C := RX2) (T := TX2) (N := 16) hx hb hts hfX2 hown hK hP 0 rfl rfl 1 (by decide) (hts (.fieldLink RX2 26 "ColdShips$Reader" "size" "I") (by decide +kernel)) (fun _ h9 => h9) rfl dX2_addFour_22 ?_
  refine lv_iload_n hx hb dX2_addFour_25 rfl (lv_at hl 2 rfl) ?_
  refine lv_iload_n hx hb dX2_addFour_26 rfl (lv_at hl 0 rfl) ?_
  refine lv_iushr hx hb dX2_addFour_27 rfl ?_
  refine lv_topi (fun z16 ez16 => ?_)
  refine lv_sipush (v := 255) hx hb dX2_addFour_28 (by decide) ?_
  refine lv_iand hx hb dX2_addFour_31 ?_
  refine lv_topi (fun z17 ez17 => ?_)
  refine lv_i2c hx hb dX2_addFour_32 rfl ?_
  refine lv_topi (fun z18 ez18 => ?_)
  refine va_cast hx hb hK hP hD hS 1 0 rfl rfl (vp_in_iff.mpr ⟨by decide, by decide⟩) dX2_addFour_33 (fun H locs hP hD hS => ?_)
  have hP : va_P (dC, dI) vwCl [(re, .inr (2, [.ref rtp, .int 11, .int (-1), .int r3, .int r4, .int r5, .int r6, .ref rcd, .int r8, .ref rst, .int r10, .int r11, .int r12, .int r13, .int r14, .int r15])), (rtp, .inl (kC, 400, .inl (upd g14 11 (vp_nar .char z18))))] H := hP
  have hD : va_D A [(re, .inr (2, [.ref rtp, .int 11, .int (-1), .int r3, .int r4, .int r5, .int r6, .ref rcd, .int r8, .ref rst, .int r10, .int r11, .int r12, .int r13, .int r14, .int r15])), (rtp, .inl (kC, 400, .inl (upd g14 11 (vp_nar .char z18))))] := hD
  generalize (upd g14 11 (vp_nar .char z18)) = g19 at hP hD
  refine lv_aload_n hx hb dX2_addFour_34 rfl (lv_at hl 1 rfl) ?_
  refine lv_dup hx hb dX2_addFour_35 rfl ?_
  refine va_get (D := (dC, dI)) (ci := 2) (v := .int 11) (C := RX2) (T := TX2) (N := 16) hx hb hts hfX2 hown hK hP 0 rfl rfl 1 (by decide) (hts (.fieldLink RX2 26 "ColdShips$Reader" "size" "I") (by decide +kernel)) (fun _ h9 => h9) rfl dX2_addFour_36 ?_
  refine lv_iconst (v := 1) hx hb dX2_addFour_39 (by decide) ?_
  refine lv_iadd hx hb dX2_addFour_40 ?_
  refine lv_topi (fun z20 ez20 => ?_)
  obtain rfl : z20 = 12 := ez20.trans (by first | rfl | decide)
  refine va_put (D := (dC, dI)) (ci := 2) (v := .int 12) (ty := .int) (C := RX2) (T := TX2) (N := 16) hx hb hts hfX2 tyX2 tyX2_ok nmX2 hown hK hP hD hS 0 rfl rfl 1 (by decide) (hts (.fieldLink RX2 26 "ColdShips$Reader" "size" "I") (by decide +kernel)) (fun _ h9 => h9) rfl (by decide +kernel) rfl rfl (Nat.le_of_ble_eq_true rfl) dX2_addFour_41 (fun H locs hP hD hS => ?_)
  have hP : va_P (dC, dI) vwCl [(re, .inr (2, [.ref rtp, .int 12, .int (-1), .int r3, .int r4, .int r5, .int r6, .ref rcd, .int r8, .ref rst, .int r10, .int r11, .int r12, .int r13, .int r14, .int r15])), (rtp, .inl (kC, 400, .inl g19))] H := hP
  have hD : va_D A [(re, .inr (2, [.ref rtp, .int 12, .int (-1), .int r3, .int r4, .int r5, .int r6, .ref rcd, .int r8, .ref rst, .int r10, .int r11, .int r12, .int r13, .int r14, .int r15])), (rtp, .inl (kC, 400, .inl g19))] := hD
  refine lv_iinc (v := (-8)) (lv' := [(2, .int (-8)), (0, .ref re), (1, .int v)]) hx hb dX2_addFour_44 hl (k := 0) rfl (by decide) (by decide) rfl (fun ls hl => ?_)
  refine lv_goto (tgt := 3) hx hb dX2_addFour_47 (by decide) ?_
  refine lv_iload_n hx hb dX2_addFour_3 rfl (lv_at hl 0 rfl) ?_
  refine lv_if_lt (tgt := 50) hx hb dX2_addFour_4 (by decide) (fun _ => ?_) (fun c9 => absurd c9 (by decide))
  have hP9 := hP.sub (ws' := [(re, .inr (2, [.ref rtp, .int 12, .int (-1), .int r3, .int r4, .int r5, .int r6, .ref rcd, .int r8, .ref rst, .int r10, .int r11, .int r12, .int r13, .int r14, .int r15])), (rtp, .inl (kC, 400, .inl g19))]) [0, 1] rfl
  have hD9 := hD.sub (ws' := [(re, .inr (2, [.ref rtp, .int 12, .int (-1), .int r3, .int r4, .int r5, .int r6, .ref rcd, .int r8, .ref rst, .int r10, .int r11, .int r12, .int r13, .int r14, .int r15])), (rtp, .inl (kC, 400, .inl g19))]) [0, 1] (by decide +kernel) rfl
  have hK9 := hK.sub (tys' := [(kC, .char)]) [0] rfl
  exact W.vret hx hb hr (fun t ht hW => ⟨⟨(), rfl, trivial, ⟨g19, by rw [ht]; exact hP9, va_K.moved hW.alike hK9, hD9⟩⟩, hS.F ht⟩) hS.2.2 dX2_addFour_50
set_option maxHeartbeats 4000000 in
set_option maxRecDepth 100000 in
theorem c_addFour3 (l : Launch) (dC : Nat → ClassId) (dI : Nat → Nat → Nat) (sz : Nat) (re : Nat) (v : Int32) (rtp : Nat) (r3 : Int32) (r4 : Int32) (r5 : Int32) (r6 : Int32) (rcd : Nat) (r8 : Int32) (rst : Nat) (r10 : Int32) (r11 : Int32) (r12 : Int32) (r13 : Int32) (r14 : Int32) (r15 : Int32) (kC : ClassId) (fT : Nat → Int32)  : Met l yX2_addFour wsX2_addFour ({ frames := 3, cells := 0, slots := 0, locals := 800 }) (va_Pc [.ref re, .int v] (pz_B dC dI [(kC, .char)] [(re, .inr (2, [.ref rtp, .int 12, .int (-1), .int r3, .int r4, .int r5, .int r6, .ref rcd, .int r8, .ref rst, .int r10, .int r11, .int r12, .int r13, .int r14, .int r15])), (rtp, .inl (kC, 400, .inl fT))] sz)) (va_Qv (fun (_ : Unit) => True) (fun (_ : Unit) (t : State) => ∃ g : Nat → Int32, pz_E dC dI [(kC, .char)] (va_A [(re, .inr (2, [.ref rtp, .int 12, .int (-1), .int r3, .int r4, .int r5, .int r6, .ref rcd, .int r8, .ref rst, .int r10, .int r11, .int r12, .int r13, .int r14, .int r15])), (rtp, .inl (kC, 400, .inl fT))] sz) [(re, .inr (2, [.ref rtp, .int 16, .int (-1), .int r3, .int r4, .int r5, .int r6, .ref rcd, .int r8, .ref rst, .int r10, .int r11, .int r12, .int r13, .int r14, .int r15])), (rtp, .inl (kC, 400, .inl g))] t) (va_A [(re, .inr (2, [.ref rtp, .int 12, .int (-1), .int r3, .int r4, .int r5, .int r6, .ref rcd, .int r8, .ref rst, .int r10, .int r11, .int r12, .int r13, .int r14, .int r15])), (rtp, .inl (kC, 400, .inl fT))] sz)) 0 0 (va_A [(re, .inr (2, [.ref rtp, .int 12, .int (-1), .int r3, .int r4, .int r5, .int r6, .ref rcd, .int r8, .ref rst, .int r10, .int r11, .int r12, .int r13, .int r14, .int r15])), (rtp, .inl (kC, 400, .inl fT))] sz) := by
  refine Met.ofW (cc := cX2_addFour) (maxL := 3) (ret := none) (by decide) rfl ?_
  intro p e s m args below meth c s₁ B hml hv
  obtain ⟨rfl, hsz, hP, hK, hD0, hN⟩ := hv
  have hx := B.exec
  have hb := B.bytes
  have hr := B.returns
  have hts := atoms_spec (ws := wsX2_addFour) B.pre
  have hown : s.vm.findClass RX2 = some m.cls := findClass_of_methodNamed B.named
  have hlocks := B.notSynchronized
  subst hsz
  have hD := hD0.self (sz := s.heap.size)
  generalize hAe : va_A [(re, .inr (2, [.ref rtp, .int 12, .int (-1), .int r3, .int r4, .int r5, .int r6, .ref rcd, .int r8, .ref rst, .int r10, .int r11, .int r12, .int r13, .int r14, .int r15])), (rtp, .inl (kC, 400, .inl fT))] s.heap.size = A at hD ⊢
  have hA : ∀ q : Nat, s.heap.size ≤ q → A q := fun q h => by rw [← hAe]; exact Or.inr h
  have hS : va_S A s.heap s.heap [] := va_S.rf
  have hl := lv_entry ([.ref re, .int v]) (n := 3) (Nat.le_of_ble_eq_true rfl)
  rw [lg_entry_eq]
  generalize (lg_sl ([.ref re, .int v]) ++ List.replicate (3 - (lg_sl ([.ref re, .int v])).length) Slot.unset).toArray = ls at hl ⊢
  have hl : lv_has ls 3 [(0, .ref re), (1, .int v)] := hl
  have hfX2 : ∀ w ∈ wsX20, w ∈ wsX2_addFour := fun w h => List.mem_cons_of_mem _ (List.mem_append_right _ h)
  refine lv_bipush (v := 24) hx hb dX2_addFour_0 (by decide) ?_
  refine lv_istore_n (lv' := [(2, .int 24), (0, .ref re), (1, .int v)]) hx hb dX2_addFour_2 rfl hl (by decide) rfl (fun ls hl => ?_)
  refine lv_iload_n hx hb dX2_addFour_3 rfl (lv_at hl 0 rfl) ?_
  refine lv_if_lt (tgt := 50) hx hb dX2_addFour_4 (by decide) (fun c9 => absurd c9 (by decide)) (fun _ => ?_)
  refine lv_aload_n hx hb dX2_addFour_7 rfl (lv_at hl 1 rfl) ?_
  refine va_get (D := (dC, dI)) (ci := 2) (v := .int 12) (C := RX2) (T := TX2) (N := 16) hx hb hts hfX2 hown hK hP 0 rfl rfl 1 (by decide) (hts (.fieldLink RX2 26 "ColdShips$Reader" "size" "I") (by decide +kernel)) (fun _ h9 => h9) rfl dX2_addFour_8 ?_
  refine lv_sipush (v := 400) hx hb dX2_addFour_11 (by decide) ?_
  refine lv_icmp_ge (tgt := 50) hx hb dX2_addFour_14 (by decide) (fun c9 => absurd c9 (by decide)) (fun _ => ?_)
  refine lv_aload_n hx hb dX2_addFour_17 rfl (lv_at hl 1 rfl) ?_
  refine va_get (D := (dC, dI)) (ci := 2) (v := .ref rtp) (C := RX2) (T := TX2) (N := 16) hx hb hts hfX2 hown hK hP 0 rfl rfl 0 (by decide) (hts (.fieldLink RX2 11 "ColdShips$Reader" "tape" "[C") (by decide +kernel)) (fun _ h9 => h9) rfl dX2_addFour_18 ?_
  refine lv_aload_n hx hb dX2_addFour_21 rfl (lv_at hl 1 rfl) ?_
  refine va_get (D := (dC, dI)) (ci := 2) (v := .int 12) (C := RX2) (T := TX2) (N := 16) hx hb hts hfX2 hown hK hP 0 rfl rfl 1 (by decide) (hts (.fieldLink RX2 26 "ColdShips$Reader" "size" "I") (by decide +kernel)) (fun _ h9 => h9) rfl dX2_addFour_22 ?_
  refine lv_iload_n hx hb dX2_addFour_25 rfl (lv_at hl 2 rfl) ?_
  refine lv_iload_n hx hb dX2_addFour_26 rfl (lv_at hl 0 rfl) ?_
  refine lv_iushr hx hb dX2_addFour_27 rfl ?_
  refine lv_topi (fun z1 ez1 => ?_)
  refine lv_sipush (v := 255) hx hb dX2_addFour_28 (by decide) ?_
  refine lv_iand hx hb dX2_addFour_31 ?_
  refine lv_topi (fun z2 ez2 => ?_)
  refine lv_i2c hx hb dX2_addFour_32 rfl ?_
  refine lv_topi (fun z3 ez3 => ?_)
  refine va_cast hx hb hK hP hD hS 1 0 rfl rfl (vp_in_iff.mpr ⟨by decide, by decide⟩) dX2_addFour_33 (fun H locs hP hD hS => ?_)
  have hP : va_P (dC, dI) vwCl [(re, .inr (2, [.ref rtp, .int 12, .int (-1), .int r3, .int r4, .int r5, .int r6, .ref rcd, .int r8, .ref rst, .int r10, .int r11, .int r12, .int r13, .int r14, .int r15])), (rtp, .inl (kC, 400, .inl (upd fT 12 (vp_nar .char z3))))] H := hP
  have hD : va_D A [(re, .inr (2, [.ref rtp, .int 12, .int (-1), .int r3, .int r4, .int r5, .int r6, .ref rcd, .int r8, .ref rst, .int r10, .int r11, .int r12, .int r13, .int r14, .int r15])), (rtp, .inl (kC, 400, .inl (upd fT 12 (vp_nar .char z3))))] := hD
  generalize (upd fT 12 (vp_nar .char z3)) = g4 at hP hD
  refine lv_aload_n hx hb dX2_addFour_34 rfl (lv_at hl 1 rfl) ?_
  refine lv_dup hx hb dX2_addFour_35 rfl ?_
  refine va_get (D := (dC, dI)) (ci := 2) (v := .int 12) (C := RX2) (T := TX2) (N := 16) hx hb hts hfX2 hown hK hP 0 rfl rfl 1 (by decide) (hts (.fieldLink RX2 26 "ColdShips$Reader" "size" "I") (by decide +kernel)) (fun _ h9 => h9) rfl dX2_addFour_36 ?_
  refine lv_iconst (v := 1) hx hb dX2_addFour_39 (by decide) ?_
  refine lv_iadd hx hb dX2_addFour_40 ?_
  refine lv_topi (fun z5 ez5 => ?_)
  obtain rfl : z5 = 13 := ez5.trans (by first | rfl | decide)
  refine va_put (D := (dC, dI)) (ci := 2) (v := .int 13) (ty := .int) (C := RX2) (T := TX2) (N := 16) hx hb hts hfX2 tyX2 tyX2_ok nmX2 hown hK hP hD hS 0 rfl rfl 1 (by decide) (hts (.fieldLink RX2 26 "ColdShips$Reader" "size" "I") (by decide +kernel)) (fun _ h9 => h9) rfl (by decide +kernel) rfl rfl (Nat.le_of_ble_eq_true rfl) dX2_addFour_41 (fun H locs hP hD hS => ?_)
  have hP : va_P (dC, dI) vwCl [(re, .inr (2, [.ref rtp, .int 13, .int (-1), .int r3, .int r4, .int r5, .int r6, .ref rcd, .int r8, .ref rst, .int r10, .int r11, .int r12, .int r13, .int r14, .int r15])), (rtp, .inl (kC, 400, .inl g4))] H := hP
  have hD : va_D A [(re, .inr (2, [.ref rtp, .int 13, .int (-1), .int r3, .int r4, .int r5, .int r6, .ref rcd, .int r8, .ref rst, .int r10, .int r11, .int r12, .int r13, .int r14, .int r15])), (rtp, .inl (kC, 400, .inl g4))] := hD
  refine lv_iinc (v := 16) (lv' := [(2, .int 16), (0, .ref re), (1, .int v)]) hx hb dX2_addFour_44 hl (k := 0) rfl (by decide) (by decide) rfl (fun ls hl => ?_)
  refine lv_goto (tgt := 3) hx hb dX2_addFour_47 (by decide) ?_
  refine lv_iload_n hx hb dX2_addFour_3 rfl (lv_at hl 0 rfl) ?_
  refine lv_if_lt (tgt := 50) hx hb dX2_addFour_4 (by decide) (fun c9 => absurd c9 (by decide)) (fun _ => ?_)
  refine lv_aload_n hx hb dX2_addFour_7 rfl (lv_at hl 1 rfl) ?_
  refine va_get (D := (dC, dI)) (ci := 2) (v := .int 13) (C := RX2) (T := TX2) (N := 16) hx hb hts hfX2 hown hK hP 0 rfl rfl 1 (by decide) (hts (.fieldLink RX2 26 "ColdShips$Reader" "size" "I") (by decide +kernel)) (fun _ h9 => h9) rfl dX2_addFour_8 ?_
  refine lv_sipush (v := 400) hx hb dX2_addFour_11 (by decide) ?_
  refine lv_icmp_ge (tgt := 50) hx hb dX2_addFour_14 (by decide) (fun c9 => absurd c9 (by decide)) (fun _ => ?_)
  refine lv_aload_n hx hb dX2_addFour_17 rfl (lv_at hl 1 rfl) ?_
  refine va_get (D := (dC, dI)) (ci := 2) (v := .ref rtp) (C := RX2) (T := TX2) (N := 16) hx hb hts hfX2 hown hK hP 0 rfl rfl 0 (by decide) (hts (.fieldLink RX2 11 "ColdShips$Reader" "tape" "[C") (by decide +kernel)) (fun _ h9 => h9) rfl dX2_addFour_18 ?_
  refine lv_aload_n hx hb dX2_addFour_21 rfl (lv_at hl 1 rfl) ?_
  refine va_get (D := (dC, dI)) (ci := 2) (v := .int 13) (C := RX2) (T := TX2) (N := 16) hx hb hts hfX2 hown hK hP 0 rfl rfl 1 (by decide) (hts (.fieldLink RX2 26 "ColdShips$Reader" "size" "I") (by decide +kernel)) (fun _ h9 => h9) rfl dX2_addFour_22 ?_
  refine lv_iload_n hx hb dX2_addFour_25 rfl (lv_at hl 2 rfl) ?_
  refine lv_iload_n hx hb dX2_addFour_26 rfl (lv_at hl 0 rfl) ?_
  refine lv_iushr hx hb dX2_addFour_27 rfl ?_
  refine lv_topi (fun z6 ez6 => ?_)
  refine lv_sipush (v := 255) hx hb dX2_addFour_28 (by decide) ?_
  refine lv_iand hx hb dX2_addFour_31 ?_
  refine lv_topi (fun z7 ez7 => ?_)
  refine lv_i2c hx hb dX2_addFour_32 rfl ?_
  refine lv_topi (fun z8 ez8 => ?_)
  refine va_cast hx hb hK hP hD hS 1 0 rfl rfl (vp_in_iff.mpr ⟨by decide, by decide⟩) dX2_addFour_33 (fun H locs hP hD hS => ?_)
  have hP : va_P (dC, dI) vwCl [(re, .inr (2, [.ref rtp, .int 13, .int (-1), .int r3, .int r4, .int r5, .int r6, .ref rcd, .int r8, .ref rst, .int r10, .int r11, .int r12, .int r13, .int r14, .int r15])), (rtp, .inl (kC, 400, .inl (upd g4 13 (vp_nar .char z8))))] H := hP
  have hD : va_D A [(re, .inr (2, [.ref rtp, .int 13, .int (-1), .int r3, .int r4, .int r5, .int r6, .ref rcd, .int r8, .ref rst, .int r10, .int r11, .int r12, .int r13, .int r14, .int r15])), (rtp, .inl (kC, 400, .inl (upd g4 13 (vp_nar .char z8))))] := hD
  generalize (upd g4 13 (vp_nar .char z8)) = g9 at hP hD
  refine lv_aload_n hx hb dX2_addFour_34 rfl (lv_at hl 1 rfl) ?_
  refine lv_dup hx hb dX2_addFour_35 rfl ?_
  refine va_get (D := (dC, dI)) (ci := 2) (v := .int 13) (C := RX2) (T := TX2) (N := 16) hx hb hts hfX2 hown hK hP 0 rfl rfl 1 (by decide) (hts (.fieldLink RX2 26 "ColdShips$Reader" "size" "I") (by decide +kernel)) (fun _ h9 => h9) rfl dX2_addFour_36 ?_
  refine lv_iconst (v := 1) hx hb dX2_addFour_39 (by decide) ?_
  refine lv_iadd hx hb dX2_addFour_40 ?_
  refine lv_topi (fun z10 ez10 => ?_)
  obtain rfl : z10 = 14 := ez10.trans (by first | rfl | decide)
  refine va_put (D := (dC, dI)) (ci := 2) (v := .int 14) (ty := .int) (C := RX2) (T := TX2) (N := 16) hx hb hts hfX2 tyX2 tyX2_ok nmX2 hown hK hP hD hS 0 rfl rfl 1 (by decide) (hts (.fieldLink RX2 26 "ColdShips$Reader" "size" "I") (by decide +kernel)) (fun _ h9 => h9) rfl (by decide +kernel) rfl rfl (Nat.le_of_ble_eq_true rfl) dX2_addFour_41 (fun H locs hP hD hS => ?_)
  have hP : va_P (dC, dI) vwCl [(re, .inr (2, [.ref rtp, .int 14, .int (-1), .int r3, .int r4, .int r5, .int r6, .ref rcd, .int r8, .ref rst, .int r10, .int r11, .int r12, .int r13, .int r14, .int r15])), (rtp, .inl (kC, 400, .inl g9))] H := hP
  have hD : va_D A [(re, .inr (2, [.ref rtp, .int 14, .int (-1), .int r3, .int r4, .int r5, .int r6, .ref rcd, .int r8, .ref rst, .int r10, .int r11, .int r12, .int r13, .int r14, .int r15])), (rtp, .inl (kC, 400, .inl g9))] := hD
  refine lv_iinc (v := 8) (lv' := [(2, .int 8), (0, .ref re), (1, .int v)]) hx hb dX2_addFour_44 hl (k := 0) rfl (by decide) (by decide) rfl (fun ls hl => ?_)
  refine lv_goto (tgt := 3) hx hb dX2_addFour_47 (by decide) ?_
  refine lv_iload_n hx hb dX2_addFour_3 rfl (lv_at hl 0 rfl) ?_
  refine lv_if_lt (tgt := 50) hx hb dX2_addFour_4 (by decide) (fun c9 => absurd c9 (by decide)) (fun _ => ?_)
  refine lv_aload_n hx hb dX2_addFour_7 rfl (lv_at hl 1 rfl) ?_
  refine va_get (D := (dC, dI)) (ci := 2) (v := .int 14) (C := RX2) (T := TX2) (N := 16) hx hb hts hfX2 hown hK hP 0 rfl rfl 1 (by decide) (hts (.fieldLink RX2 26 "ColdShips$Reader" "size" "I") (by decide +kernel)) (fun _ h9 => h9) rfl dX2_addFour_8 ?_
  refine lv_sipush (v := 400) hx hb dX2_addFour_11 (by decide) ?_
  refine lv_icmp_ge (tgt := 50) hx hb dX2_addFour_14 (by decide) (fun c9 => absurd c9 (by decide)) (fun _ => ?_)
  refine lv_aload_n hx hb dX2_addFour_17 rfl (lv_at hl 1 rfl) ?_
  refine va_get (D := (dC, dI)) (ci := 2) (v := .ref rtp) (C := RX2) (T := TX2) (N := 16) hx hb hts hfX2 hown hK hP 0 rfl rfl 0 (by decide) (hts (.fieldLink RX2 11 "ColdShips$Reader" "tape" "[C") (by decide +kernel)) (fun _ h9 => h9) rfl dX2_addFour_18 ?_
  refine lv_aload_n hx hb dX2_addFour_21 rfl (lv_at hl 1 rfl) ?_
  refine va_get (D := (dC, dI)) (ci := 2) (v := .int 14) (C := RX2) (T := TX2) (N := 16) hx hb hts hfX2 hown hK hP 0 rfl rfl 1 (by decide) (hts (.fieldLink RX2 26 "ColdShips$Reader" "size" "I") (by decide +kernel)) (fun _ h9 => h9) rfl dX2_addFour_22 ?_
  refine lv_iload_n hx hb dX2_addFour_25 rfl (lv_at hl 2 rfl) ?_
  refine lv_iload_n hx hb dX2_addFour_26 rfl (lv_at hl 0 rfl) ?_
  refine lv_iushr hx hb dX2_addFour_27 rfl ?_
  refine lv_topi (fun z11 ez11 => ?_)
  refine lv_sipush (v := 255) hx hb dX2_addFour_28 (by decide) ?_
  refine lv_iand hx hb dX2_addFour_31 ?_
  refine lv_topi (fun z12 ez12 => ?_)
  refine lv_i2c hx hb dX2_addFour_32 rfl ?_
  refine lv_topi (fun z13 ez13 => ?_)
  refine va_cast hx hb hK hP hD hS 1 0 rfl rfl (vp_in_iff.mpr ⟨by decide, by decide⟩) dX2_addFour_33 (fun H locs hP hD hS => ?_)
  have hP : va_P (dC, dI) vwCl [(re, .inr (2, [.ref rtp, .int 14, .int (-1), .int r3, .int r4, .int r5, .int r6, .ref rcd, .int r8, .ref rst, .int r10, .int r11, .int r12, .int r13, .int r14, .int r15])), (rtp, .inl (kC, 400, .inl (upd g9 14 (vp_nar .char z13))))] H := hP
  have hD : va_D A [(re, .inr (2, [.ref rtp, .int 14, .int (-1), .int r3, .int r4, .int r5, .int r6, .ref rcd, .int r8, .ref rst, .int r10, .int r11, .int r12, .int r13, .int r14, .int r15])), (rtp, .inl (kC, 400, .inl (upd g9 14 (vp_nar .char z13))))] := hD
  generalize (upd g9 14 (vp_nar .char z13)) = g14 at hP hD
  refine lv_aload_n hx hb dX2_addFour_34 rfl (lv_at hl 1 rfl) ?_
  refine lv_dup hx hb dX2_addFour_35 rfl ?_
  refine va_get (D := (dC, dI)) (ci := 2) (v := .int 14) (C := RX2) (T := TX2) (N := 16) hx hb hts hfX2 hown hK hP 0 rfl rfl 1 (by decide) (hts (.fieldLink RX2 26 "ColdShips$Reader" "size" "I") (by decide +kernel)) (fun _ h9 => h9) rfl dX2_addFour_36 ?_
  refine lv_iconst (v := 1) hx hb dX2_addFour_39 (by decide) ?_
  refine lv_iadd hx hb dX2_addFour_40 ?_
  refine lv_topi (fun z15 ez15 => ?_)
  obtain rfl : z15 = 15 := ez15.trans (by first | rfl | decide)
  refine va_put (D := (dC, dI)) (ci := 2) (v := .int 15) (ty := .int) (C := RX2) (T := TX2) (N := 16) hx hb hts hfX2 tyX2 tyX2_ok nmX2 hown hK hP hD hS 0 rfl rfl 1 (by decide) (hts (.fieldLink RX2 26 "ColdShips$Reader" "size" "I") (by decide +kernel)) (fun _ h9 => h9) rfl (by decide +kernel) rfl rfl (Nat.le_of_ble_eq_true rfl) dX2_addFour_41 (fun H locs hP hD hS => ?_)
  have hP : va_P (dC, dI) vwCl [(re, .inr (2, [.ref rtp, .int 15, .int (-1), .int r3, .int r4, .int r5, .int r6, .ref rcd, .int r8, .ref rst, .int r10, .int r11, .int r12, .int r13, .int r14, .int r15])), (rtp, .inl (kC, 400, .inl g14))] H := hP
  have hD : va_D A [(re, .inr (2, [.ref rtp, .int 15, .int (-1), .int r3, .int r4, .int r5, .int r6, .ref rcd, .int r8, .ref rst, .int r10, .int r11, .int r12, .int r13, .int r14, .int r15])), (rtp, .inl (kC, 400, .inl g14))] := hD
  refine lv_iinc (v := 0) (lv' := [(2, .int 0), (0, .ref re), (1, .int v)]) hx hb dX2_addFour_44 hl (k := 0) rfl (by decide) (by decide) rfl (fun ls hl => ?_)
  refine lv_goto (tgt := 3) hx hb dX2_addFour_47 (by decide) ?_
  refine lv_iload_n hx hb dX2_addFour_3 rfl (lv_at hl 0 rfl) ?_
  refine lv_if_lt (tgt := 50) hx hb dX2_addFour_4 (by decide) (fun c9 => absurd c9 (by decide)) (fun _ => ?_)
  refine lv_aload_n hx hb dX2_addFour_7 rfl (lv_at hl 1 rfl) ?_
  refine va_get (D := (dC, dI)) (ci := 2) (v := .int 15) (C := RX2) (T := TX2) (N := 16) hx hb hts hfX2 hown hK hP 0 rfl rfl 1 (by decide) (hts (.fieldLink RX2 26 "ColdShips$Reader" "size" "I") (by decide +kernel)) (fun _ h9 => h9) rfl dX2_addFour_8 ?_
  refine lv_sipush (v := 400) hx hb dX2_addFour_11 (by decide) ?_
  refine lv_icmp_ge (tgt := 50) hx hb dX2_addFour_14 (by decide) (fun c9 => absurd c9 (by decide)) (fun _ => ?_)
  refine lv_aload_n hx hb dX2_addFour_17 rfl (lv_at hl 1 rfl) ?_
  refine va_get (D := (dC, dI)) (ci := 2) (v := .ref rtp) (C := RX2) (T := TX2) (N := 16) hx hb hts hfX2 hown hK hP 0 rfl rfl 0 (by decide) (hts (.fieldLink RX2 11 "ColdShips$Reader" "tape" "[C") (by decide +kernel)) (fun _ h9 => h9) rfl dX2_addFour_18 ?_
  refine lv_aload_n hx hb dX2_addFour_21 rfl (lv_at hl 1 rfl) ?_
  refine va_get (D := (dC, dI)) (ci := 2) (v := .int 15) (C := RX2) (T := TX2) (N := 16) hx hb hts hfX2 hown hK hP 0 rfl rfl 1 (by decide) (hts (.fieldLink RX2 26 "ColdShips$Reader" "size" "I") (by decide +kernel)) (fun _ h9 => h9) rfl dX2_addFour_22 ?_
  refine lv_iload_n hx hb dX2_addFour_25 rfl (lv_at hl 2 rfl) ?_
  refine lv_iload_n hx hb dX2_addFour_26 rfl (lv_at hl 0 rfl) ?_
  refine lv_iushr hx hb dX2_addFour_27 rfl ?_
  refine lv_topi (fun z16 ez16 => ?_)
  refine lv_sipush (v := 255) hx hb dX2_addFour_28 (by decide) ?_
  refine lv_iand hx hb dX2_addFour_31 ?_
  refine lv_topi (fun z17 ez17 => ?_)
  refine lv_i2c hx hb dX2_addFour_32 rfl ?_
  refine lv_topi (fun z18 ez18 => ?_)
  refine va_cast hx hb hK hP hD hS 1 0 rfl rfl (vp_in_iff.mpr ⟨by decide, by decide⟩) dX2_addFour_33 (fun H locs hP hD hS => ?_)
  have hP : va_P (dC, dI) vwCl [(re, .inr (2, [.ref rtp, .int 15, .int (-1), .int r3, .int r4, .int r5, .int r6, .ref rcd, .int r8, .ref rst, .int r10, .int r11, .int r12, .int r13, .int r14, .int r15])), (rtp, .inl (kC, 400, .inl (upd g14 15 (vp_nar .char z18))))] H := hP
  have hD : va_D A [(re, .inr (2, [.ref rtp, .int 15, .int (-1), .int r3, .int r4, .int r5, .int r6, .ref rcd, .int r8, .ref rst, .int r10, .int r11, .int r12, .int r13, .int r14, .int r15])), (rtp, .inl (kC, 400, .inl (upd g14 15 (vp_nar .char z18))))] := hD
  generalize (upd g14 15 (vp_nar .char z18)) = g19 at hP hD
  refine lv_aload_n hx hb dX2_addFour_34 rfl (lv_at hl 1 rfl) ?_
  refine lv_dup hx hb dX2_addFour_35 rfl ?_
  refine va_get (D := (dC, dI)) (ci := 2) (v := .int 15) (C := RX2) (T := TX2) (N := 16) hx hb hts hfX2 hown hK hP 0 rfl rfl 1 (by decide) (hts (.fieldLink RX2 26 "ColdShips$Reader" "size" "I") (by decide +kernel)) (fun _ h9 => h9) rfl dX2_addFour_36 ?_
  refine lv_iconst (v := 1) hx hb dX2_addFour_39 (by decide) ?_
  refine lv_iadd hx hb dX2_addFour_40 ?_
  refine lv_topi (fun z20 ez20 => ?_)
  obtain rfl : z20 = 16 := ez20.trans (by first | rfl | decide)
  refine va_put (D := (dC, dI)) (ci := 2) (v := .int 16) (ty := .int) (C := RX2) (T := TX2) (N := 16) hx hb hts hfX2 tyX2 tyX2_ok nmX2 hown hK hP hD hS 0 rfl rfl 1 (by decide) (hts (.fieldLink RX2 26 "ColdShips$Reader" "size" "I") (by decide +kernel)) (fun _ h9 => h9) rfl (by decide +kernel) rfl rfl (Nat.le_of_ble_eq_true rfl) dX2_addFour_41 (fun H locs hP hD hS => ?_)
  have hP : va_P (dC, dI) vwCl [(re, .inr (2, [.ref rtp, .int 16, .int (-1), .int r3, .int r4, .int r5, .int r6, .ref rcd, .int r8, .ref rst, .int r10, .int r11, .int r12, .int r13, .int r14, .int r15])), (rtp, .inl (kC, 400, .inl g19))] H := hP
  have hD : va_D A [(re, .inr (2, [.ref rtp, .int 16, .int (-1), .int r3, .int r4, .int r5, .int r6, .ref rcd, .int r8, .ref rst, .int r10, .int r11, .int r12, .int r13, .int r14, .int r15])), (rtp, .inl (kC, 400, .inl g19))] := hD
  refine lv_iinc (v := (-8)) (lv' := [(2, .int (-8)), (0, .ref re), (1, .int v)]) hx hb dX2_addFour_44 hl (k := 0) rfl (by decide) (by decide) rfl (fun ls hl => ?_)
  refine lv_goto (tgt := 3) hx hb dX2_addFour_47 (by decide) ?_
  refine lv_iload_n hx hb dX2_addFour_3 rfl (lv_at hl 0 rfl) ?_
  refine lv_if_lt (tgt := 50) hx hb dX2_addFour_4 (by decide) (fun _ => ?_) (fun c9 => absurd c9 (by decide))
  have hP9 := hP.sub (ws' := [(re, .inr (2, [.ref rtp, .int 16, .int (-1), .int r3, .int r4, .int r5, .int r6, .ref rcd, .int r8, .ref rst, .int r10, .int r11, .int r12, .int r13, .int r14, .int r15])), (rtp, .inl (kC, 400, .inl g19))]) [0, 1] rfl
  have hD9 := hD.sub (ws' := [(re, .inr (2, [.ref rtp, .int 16, .int (-1), .int r3, .int r4, .int r5, .int r6, .ref rcd, .int r8, .ref rst, .int r10, .int r11, .int r12, .int r13, .int r14, .int r15])), (rtp, .inl (kC, 400, .inl g19))]) [0, 1] (by decide +kernel) rfl
  have hK9 := hK.sub (tys' := [(kC, .char)]) [0] rfl
  exact W.vret hx hb hr (fun t ht hW => ⟨⟨(), rfl, trivial, ⟨g19, by rw [ht]; exact hP9, va_K.moved hW.alike hK9, hD9⟩⟩, hS.F ht⟩) hS.2.2 dX2_addFour_50
set_option maxHeartbeats 4000000 in
set_option maxRecDepth 100000 in
theorem c_addFour4 (l : Launch) (dC : Nat → ClassId) (dI : Nat → Nat → Nat) (sz : Nat) (re : Nat) (v : Int32) (rtp : Nat) (r3 : Int32) (r4 : Int32) (r5 : Int32) (r6 : Int32) (rcd : Nat) (r8 : Int32) (rst : Nat) (r10 : Int32) (r11 : Int32) (r12 : Int32) (r13 : Int32) (r14 : Int32) (r15 : Int32) (kC : ClassId) (fT : Nat → Int32)  : Met l yX2_addFour wsX2_addFour ({ frames := 3, cells := 0, slots := 0, locals := 800 }) (va_Pc [.ref re, .int v] (pz_B dC dI [(kC, .char)] [(re, .inr (2, [.ref rtp, .int 16, .int (-1), .int r3, .int r4, .int r5, .int r6, .ref rcd, .int r8, .ref rst, .int r10, .int r11, .int r12, .int r13, .int r14, .int r15])), (rtp, .inl (kC, 400, .inl fT))] sz)) (va_Qv (fun (_ : Unit) => True) (fun (_ : Unit) (t : State) => ∃ g : Nat → Int32, pz_E dC dI [(kC, .char)] (va_A [(re, .inr (2, [.ref rtp, .int 16, .int (-1), .int r3, .int r4, .int r5, .int r6, .ref rcd, .int r8, .ref rst, .int r10, .int r11, .int r12, .int r13, .int r14, .int r15])), (rtp, .inl (kC, 400, .inl fT))] sz) [(re, .inr (2, [.ref rtp, .int 20, .int (-1), .int r3, .int r4, .int r5, .int r6, .ref rcd, .int r8, .ref rst, .int r10, .int r11, .int r12, .int r13, .int r14, .int r15])), (rtp, .inl (kC, 400, .inl g))] t) (va_A [(re, .inr (2, [.ref rtp, .int 16, .int (-1), .int r3, .int r4, .int r5, .int r6, .ref rcd, .int r8, .ref rst, .int r10, .int r11, .int r12, .int r13, .int r14, .int r15])), (rtp, .inl (kC, 400, .inl fT))] sz)) 0 0 (va_A [(re, .inr (2, [.ref rtp, .int 16, .int (-1), .int r3, .int r4, .int r5, .int r6, .ref rcd, .int r8, .ref rst, .int r10, .int r11, .int r12, .int r13, .int r14, .int r15])), (rtp, .inl (kC, 400, .inl fT))] sz) := by
  refine Met.ofW (cc := cX2_addFour) (maxL := 3) (ret := none) (by decide) rfl ?_
  intro p e s m args below meth c s₁ B hml hv
  obtain ⟨rfl, hsz, hP, hK, hD0, hN⟩ := hv
  have hx := B.exec
  have hb := B.bytes
  have hr := B.returns
  have hts := atoms_spec (ws := wsX2_addFour) B.pre
  have hown : s.vm.findClass RX2 = some m.cls := findClass_of_methodNamed B.named
  have hlocks := B.notSynchronized
  subst hsz
  have hD := hD0.self (sz := s.heap.size)
  generalize hAe : va_A [(re, .inr (2, [.ref rtp, .int 16, .int (-1), .int r3, .int r4, .int r5, .int r6, .ref rcd, .int r8, .ref rst, .int r10, .int r11, .int r12, .int r13, .int r14, .int r15])), (rtp, .inl (kC, 400, .inl fT))] s.heap.size = A at hD ⊢
  have hA : ∀ q : Nat, s.heap.size ≤ q → A q := fun q h => by rw [← hAe]; exact Or.inr h
  have hS : va_S A s.heap s.heap [] := va_S.rf
  have hl := lv_entry ([.ref re, .int v]) (n := 3) (Nat.le_of_ble_eq_true rfl)
  rw [lg_entry_eq]
  generalize (lg_sl ([.ref re, .int v]) ++ List.replicate (3 - (lg_sl ([.ref re, .int v])).length) Slot.unset).toArray = ls at hl ⊢
  have hl : lv_has ls 3 [(0, .ref re), (1, .int v)] := hl
  have hfX2 : ∀ w ∈ wsX20, w ∈ wsX2_addFour := fun w h => List.mem_cons_of_mem _ (List.mem_append_right _ h)
  refine lv_bipush (v := 24) hx hb dX2_addFour_0 (by decide) ?_
  refine lv_istore_n (lv' := [(2, .int 24), (0, .ref re), (1, .int v)]) hx hb dX2_addFour_2 rfl hl (by decide) rfl (fun ls hl => ?_)
  refine lv_iload_n hx hb dX2_addFour_3 rfl (lv_at hl 0 rfl) ?_
  refine lv_if_lt (tgt := 50) hx hb dX2_addFour_4 (by decide) (fun c9 => absurd c9 (by decide)) (fun _ => ?_)
  refine lv_aload_n hx hb dX2_addFour_7 rfl (lv_at hl 1 rfl) ?_
  refine va_get (D := (dC, dI)) (ci := 2) (v := .int 16) (C := RX2) (T := TX2) (N := 16) hx hb hts hfX2 hown hK hP 0 rfl rfl 1 (by decide) (hts (.fieldLink RX2 26 "ColdShips$Reader" "size" "I") (by decide +kernel)) (fun _ h9 => h9) rfl dX2_addFour_8 ?_
  refine lv_sipush (v := 400) hx hb dX2_addFour_11 (by decide) ?_
  refine lv_icmp_ge (tgt := 50) hx hb dX2_addFour_14 (by decide) (fun c9 => absurd c9 (by decide)) (fun _ => ?_)
  refine lv_aload_n hx hb dX2_addFour_17 rfl (lv_at hl 1 rfl) ?_
  refine va_get (D := (dC, dI)) (ci := 2) (v := .ref rtp) (C := RX2) (T := TX2) (N := 16) hx hb hts hfX2 hown hK hP 0 rfl rfl 0 (by decide) (hts (.fieldLink RX2 11 "ColdShips$Reader" "tape" "[C") (by decide +kernel)) (fun _ h9 => h9) rfl dX2_addFour_18 ?_
  refine lv_aload_n hx hb dX2_addFour_21 rfl (lv_at hl 1 rfl) ?_
  refine va_get (D := (dC, dI)) (ci := 2) (v := .int 16) (C := RX2) (T := TX2) (N := 16) hx hb hts hfX2 hown hK hP 0 rfl rfl 1 (by decide) (hts (.fieldLink RX2 26 "ColdShips$Reader" "size" "I") (by decide +kernel)) (fun _ h9 => h9) rfl dX2_addFour_22 ?_
  refine lv_iload_n hx hb dX2_addFour_25 rfl (lv_at hl 2 rfl) ?_
  refine lv_iload_n hx hb dX2_addFour_26 rfl (lv_at hl 0 rfl) ?_
  refine lv_iushr hx hb dX2_addFour_27 rfl ?_
  refine lv_topi (fun z1 ez1 => ?_)
  refine lv_sipush (v := 255) hx hb dX2_addFour_28 (by decide) ?_
  refine lv_iand hx hb dX2_addFour_31 ?_
  refine lv_topi (fun z2 ez2 => ?_)
  refine lv_i2c hx hb dX2_addFour_32 rfl ?_
  refine lv_topi (fun z3 ez3 => ?_)
  refine va_cast hx hb hK hP hD hS 1 0 rfl rfl (vp_in_iff.mpr ⟨by decide, by decide⟩) dX2_addFour_33 (fun H locs hP hD hS => ?_)
  have hP : va_P (dC, dI) vwCl [(re, .inr (2, [.ref rtp, .int 16, .int (-1), .int r3, .int r4, .int r5, .int r6, .ref rcd, .int r8, .ref rst, .int r10, .int r11, .int r12, .int r13, .int r14, .int r15])), (rtp, .inl (kC, 400, .inl (upd fT 16 (vp_nar .char z3))))] H := hP
  have hD : va_D A [(re, .inr (2, [.ref rtp, .int 16, .int (-1), .int r3, .int r4, .int r5, .int r6, .ref rcd, .int r8, .ref rst, .int r10, .int r11, .int r12, .int r13, .int r14, .int r15])), (rtp, .inl (kC, 400, .inl (upd fT 16 (vp_nar .char z3))))] := hD
  generalize (upd fT 16 (vp_nar .char z3)) = g4 at hP hD
  refine lv_aload_n hx hb dX2_addFour_34 rfl (lv_at hl 1 rfl) ?_
  refine lv_dup hx hb dX2_addFour_35 rfl ?_
  refine va_get (D := (dC, dI)) (ci := 2) (v := .int 16) (C := RX2) (T := TX2) (N := 16) hx hb hts hfX2 hown hK hP 0 rfl rfl 1 (by decide) (hts (.fieldLink RX2 26 "ColdShips$Reader" "size" "I") (by decide +kernel)) (fun _ h9 => h9) rfl dX2_addFour_36 ?_
  refine lv_iconst (v := 1) hx hb dX2_addFour_39 (by decide) ?_
  refine lv_iadd hx hb dX2_addFour_40 ?_
  refine lv_topi (fun z5 ez5 => ?_)
  obtain rfl : z5 = 17 := ez5.trans (by first | rfl | decide)
  refine va_put (D := (dC, dI)) (ci := 2) (v := .int 17) (ty := .int) (C := RX2) (T := TX2) (N := 16) hx hb hts hfX2 tyX2 tyX2_ok nmX2 hown hK hP hD hS 0 rfl rfl 1 (by decide) (hts (.fieldLink RX2 26 "ColdShips$Reader" "size" "I") (by decide +kernel)) (fun _ h9 => h9) rfl (by decide +kernel) rfl rfl (Nat.le_of_ble_eq_true rfl) dX2_addFour_41 (fun H locs hP hD hS => ?_)
  have hP : va_P (dC, dI) vwCl [(re, .inr (2, [.ref rtp, .int 17, .int (-1), .int r3, .int r4, .int r5, .int r6, .ref rcd, .int r8, .ref rst, .int r10, .int r11, .int r12, .int r13, .int r14, .int r15])), (rtp, .inl (kC, 400, .inl g4))] H := hP
  have hD : va_D A [(re, .inr (2, [.ref rtp, .int 17, .int (-1), .int r3, .int r4, .int r5, .int r6, .ref rcd, .int r8, .ref rst, .int r10, .int r11, .int r12, .int r13, .int r14, .int r15])), (rtp, .inl (kC, 400, .inl g4))] := hD
  refine lv_iinc (v := 16) (lv' := [(2, .int 16), (0, .ref re), (1, .int v)]) hx hb dX2_addFour_44 hl (k := 0) rfl (by decide) (by decide) rfl (fun ls hl => ?_)
  refine lv_goto (tgt := 3) hx hb dX2_addFour_47 (by decide) ?_
  refine lv_iload_n hx hb dX2_addFour_3 rfl (lv_at hl 0 rfl) ?_
  refine lv_if_lt (tgt := 50) hx hb dX2_addFour_4 (by decide) (fun c9 => absurd c9 (by decide)) (fun _ => ?_)
  refine lv_aload_n hx hb dX2_addFour_7 rfl (lv_at hl 1 rfl) ?_
  refine va_get (D := (dC, dI)) (ci := 2) (v := .int 17) (C := RX2) (T := TX2) (N := 16) hx hb hts hfX2 hown hK hP 0 rfl rfl 1 (by decide) (hts (.fieldLink RX2 26 "ColdShips$Reader" "size" "I") (by decide +kernel)) (fun _ h9 => h9) rfl dX2_addFour_8 ?_
  refine lv_sipush (v := 400) hx hb dX2_addFour_11 (by decide) ?_
  refine lv_icmp_ge (tgt := 50) hx hb dX2_addFour_14 (by decide) (fun c9 => absurd c9 (by decide)) (fun _ => ?_)
  refine lv_aload_n hx hb dX2_addFour_17 rfl (lv_at hl 1 rfl) ?_
  refine va_get (D := (dC, dI)) (ci := 2) (v := .ref rtp) (C := RX2) (T := TX2) (N := 16) hx hb hts hfX2 hown hK hP 0 rfl rfl 0 (by decide) (hts (.fieldLink RX2 11 "ColdShips$Reader" "tape" "[C") (by decide +kernel)) (fun _ h9 => h9) rfl dX2_addFour_18 ?_
  refine lv_aload_n hx hb dX2_addFour_21 rfl (lv_at hl 1 rfl) ?_
  refine va_get (D := (dC, dI)) (ci := 2) (v := .int 17) (C := RX2) (T := TX2) (N := 16) hx hb hts hfX2 hown hK hP 0 rfl rfl 1 (by decide) (hts (.fieldLink RX2 26 "ColdShips$Reader" "size" "I") (by decide +kernel)) (fun _ h9 => h9) rfl dX2_addFour_22 ?_
  refine lv_iload_n hx hb dX2_addFour_25 rfl (lv_at hl 2 rfl) ?_
  refine lv_iload_n hx hb dX2_addFour_26 rfl (lv_at hl 0 rfl) ?_
  refine lv_iushr hx hb dX2_addFour_27 rfl ?_
  refine lv_topi (fun z6 ez6 => ?_)
  refine lv_sipush (v := 255) hx hb dX2_addFour_28 (by decide) ?_
  refine lv_iand hx hb dX2_addFour_31 ?_
  refine lv_topi (fun z7 ez7 => ?_)
  refine lv_i2c hx hb dX2_addFour_32 rfl ?_
  refine lv_topi (fun z8 ez8 => ?_)
  refine va_cast hx hb hK hP hD hS 1 0 rfl rfl (vp_in_iff.mpr ⟨by decide, by decide⟩) dX2_addFour_33 (fun H locs hP hD hS => ?_)
  have hP : va_P (dC, dI) vwCl [(re, .inr (2, [.ref rtp, .int 17, .int (-1), .int r3, .int r4, .int r5, .int r6, .ref rcd, .int r8, .ref rst, .int r10, .int r11, .int r12, .int r13, .int r14, .int r15])), (rtp, .inl (kC, 400, .inl (upd g4 17 (vp_nar .char z8))))] H := hP
  have hD : va_D A [(re, .inr (2, [.ref rtp, .int 17, .int (-1), .int r3, .int r4, .int r5, .int r6, .ref rcd, .int r8, .ref rst, .int r10, .int r11, .int r12, .int r13, .int r14, .int r15])), (rtp, .inl (kC, 400, .inl (upd g4 17 (vp_nar .char z8))))] := hD
  generalize (upd g4 17 (vp_nar .char z8)) = g9 at hP hD
  refine lv_aload_n hx hb dX2_addFour_34 rfl (lv_at hl 1 rfl) ?_
  refine lv_dup hx hb dX2_addFour_35 rfl ?_
  refine va_get (D := (dC, dI)) (ci := 2) (v := .int 17) (C := RX2) (T := TX2) (N := 16) hx hb hts hfX2 hown hK hP 0 rfl rfl 1 (by decide) (hts (.fieldLink RX2 26 "ColdShips$Reader" "size" "I") (by decide +kernel)) (fun _ h9 => h9) rfl dX2_addFour_36 ?_
  refine lv_iconst (v := 1) hx hb dX2_addFour_39 (by decide) ?_
  refine lv_iadd hx hb dX2_addFour_40 ?_
  refine lv_topi (fun z10 ez10 => ?_)
  obtain rfl : z10 = 18 := ez10.trans (by first | rfl | decide)
  refine va_put (D := (dC, dI)) (ci := 2) (v := .int 18) (ty := .int) (C := RX2) (T := TX2) (N := 16) hx hb hts hfX2 tyX2 tyX2_ok nmX2 hown hK hP hD hS 0 rfl rfl 1 (by decide) (hts (.fieldLink RX2 26 "ColdShips$Reader" "size" "I") (by decide +kernel)) (fun _ h9 => h9) rfl (by decide +kernel) rfl rfl (Nat.le_of_ble_eq_true rfl) dX2_addFour_41 (fun H locs hP hD hS => ?_)
  have hP : va_P (dC, dI) vwCl [(re, .inr (2, [.ref rtp, .int 18, .int (-1), .int r3, .int r4, .int r5, .int r6, .ref rcd, .int r8, .ref rst, .int r10, .int r11, .int r12, .int r13, .int r14, .int r15])), (rtp, .inl (kC, 400, .inl g9))] H := hP
  have hD : va_D A [(re, .inr (2, [.ref rtp, .int 18, .int (-1), .int r3, .int r4, .int r5, .int r6, .ref rcd, .int r8, .ref rst, .int r10, .int r11, .int r12, .int r13, .int r14, .int r15])), (rtp, .inl (kC, 400, .inl g9))] := hD
  refine lv_iinc (v := 8) (lv' := [(2, .int 8), (0, .ref re), (1, .int v)]) hx hb dX2_addFour_44 hl (k := 0) rfl (by decide) (by decide) rfl (fun ls hl => ?_)
  refine lv_goto (tgt := 3) hx hb dX2_addFour_47 (by decide) ?_
  refine lv_iload_n hx hb dX2_addFour_3 rfl (lv_at hl 0 rfl) ?_
  refine lv_if_lt (tgt := 50) hx hb dX2_addFour_4 (by decide) (fun c9 => absurd c9 (by decide)) (fun _ => ?_)
  refine lv_aload_n hx hb dX2_addFour_7 rfl (lv_at hl 1 rfl) ?_
  refine va_get (D := (dC, dI)) (ci := 2) (v := .int 18) (C := RX2) (T := TX2) (N := 16) hx hb hts hfX2 hown hK hP 0 rfl rfl 1 (by decide) (hts (.fieldLink RX2 26 "ColdShips$Reader" "size" "I") (by decide +kernel)) (fun _ h9 => h9) rfl dX2_addFour_8 ?_
  refine lv_sipush (v := 400) hx hb dX2_addFour_11 (by decide) ?_
  refine lv_icmp_ge (tgt := 50) hx hb dX2_addFour_14 (by decide) (fun c9 => absurd c9 (by decide)) (fun _ => ?_)
  refine lv_aload_n hx hb dX2_addFour_17 rfl (lv_at hl 1 rfl) ?_
  refine va_get (D := (dC, dI)) (ci := 2) (v := .ref rtp) (C := RX2) (T := TX2) (N := 16) hx hb hts hfX2 hown hK hP 0 rfl rfl 0 (by decide) (hts (.fieldLink RX2 11 "ColdShips$Reader" "tape" "[C") (by decide +kernel)) (fun _ h9 => h9) rfl dX2_addFour_18 ?_
  refine lv_aload_n hx hb dX2_addFour_21 rfl (lv_at hl 1 rfl) ?_
  refine va_get (D := (dC, dI)) (ci := 2) (v := .int 18) (C := RX2) (T := TX2) (N := 16) hx hb hts hfX2 hown hK hP 0 rfl rfl 1 (by decide) (hts (.fieldLink RX2 26 "ColdShips$Reader" "size" "I") (by decide +kernel)) (fun _ h9 => h9) rfl dX2_addFour_22 ?_
  refine lv_iload_n hx hb dX2_addFour_25 rfl (lv_at hl 2 rfl) ?_
  refine lv_iload_n hx hb dX2_addFour_26 rfl (lv_at hl 0 rfl) ?_
  refine lv_iushr hx hb dX2_addFour_27 rfl ?_
  refine lv_topi (fun z11 ez11 => ?_)
  refine lv_sipush (v := 255) hx hb dX2_addFour_28 (by decide) ?_
  refine lv_iand hx hb dX2_addFour_31 ?_
  refine lv_topi (fun z12 ez12 => ?_)
  refine lv_i2c hx hb dX2_addFour_32 rfl ?_
  refine lv_topi (fun z13 ez13 => ?_)
  refine va_cast hx hb hK hP hD hS 1 0 rfl rfl (vp_in_iff.mpr ⟨by decide, by decide⟩) dX2_addFour_33 (fun H locs hP hD hS => ?_)
  have hP : va_P (dC, dI) vwCl [(re, .inr (2, [.ref rtp, .int 18, .int (-1), .int r3, .int r4, .int r5, .int r6, .ref rcd, .int r8, .ref rst, .int r10, .int r11, .int r12, .int r13, .int r14, .int r15])), (rtp, .inl (kC, 400, .inl (upd g9 18 (vp_nar .char z13))))] H := hP
  have hD : va_D A [(re, .inr (2, [.ref rtp, .int 18, .int (-1), .int r3, .int r4, .int r5, .int r6, .ref rcd, .int r8, .ref rst, .int r10, .int r11, .int r12, .int r13, .int r14, .int r15])), (rtp, .inl (kC, 400, .inl (upd g9 18 (vp_nar .char z13))))] := hD
  generalize (upd g9 18 (vp_nar .char z13)) = g14 at hP hD
  refine lv_aload_n hx hb dX2_addFour_34 rfl (lv_at hl 1 rfl) ?_
  refine lv_dup hx hb dX2_addFour_35 rfl ?_
  refine va_get (D := (dC, dI)) (ci := 2) (v := .int 18) (C := RX2) (T := TX2) (N := 16) hx hb hts hfX2 hown hK hP 0 rfl rfl 1 (by decide) (hts (.fieldLink RX2 26 "ColdShips$Reader" "size" "I") (by decide +kernel)) (fun _ h9 => h9) rfl dX2_addFour_36 ?_
  refine lv_iconst (v := 1) hx hb dX2_addFour_39 (by decide) ?_
  refine lv_iadd hx hb dX2_addFour_40 ?_
  refine lv_topi (fun z15 ez15 => ?_)
  obtain rfl : z15 = 19 := ez15.trans (by first | rfl | decide)
  refine va_put (D := (dC, dI)) (ci := 2) (v := .int 19) (ty := .int) (C := RX2) (T := TX2) (N := 16) hx hb hts hfX2 tyX2 tyX2_ok nmX2 hown hK hP hD hS 0 rfl rfl 1 (by decide) (hts (.fieldLink RX2 26 "ColdShips$Reader" "size" "I") (by decide +kernel)) (fun _ h9 => h9) rfl (by decide +kernel) rfl rfl (Nat.le_of_ble_eq_true rfl) dX2_addFour_41 (fun H locs hP hD hS => ?_)
  have hP : va_P (dC, dI) vwCl [(re, .inr (2, [.ref rtp, .int 19, .int (-1), .int r3, .int r4, .int r5, .int r6, .ref rcd, .int r8, .ref rst, .int r10, .int r11, .int r12, .int r13, .int r14, .int r15])), (rtp, .inl (kC, 400, .inl g14))] H := hP
  have hD : va_D A [(re, .inr (2, [.ref rtp, .int 19, .int (-1), .int r3, .int r4, .int r5, .int r6, .ref rcd, .int r8, .ref rst, .int r10, .int r11, .int r12, .int r13, .int r14, .int r15])), (rtp, .inl (kC, 400, .inl g14))] := hD
  refine lv_iinc (v := 0) (lv' := [(2, .int 0), (0, .ref re), (1, .int v)]) hx hb dX2_addFour_44 hl (k := 0) rfl (by decide) (by decide) rfl (fun ls hl => ?_)
  refine lv_goto (tgt := 3) hx hb dX2_addFour_47 (by decide) ?_
  refine lv_iload_n hx hb dX2_addFour_3 rfl (lv_at hl 0 rfl) ?_
  refine lv_if_lt (tgt := 50) hx hb dX2_addFour_4 (by decide) (fun c9 => absurd c9 (by decide)) (fun _ => ?_)
  refine lv_aload_n hx hb dX2_addFour_7 rfl (lv_at hl 1 rfl) ?_
  refine va_get (D := (dC, dI)) (ci := 2) (v := .int 19) (C := RX2) (T := TX2) (N := 16) hx hb hts hfX2 hown hK hP 0 rfl rfl 1 (by decide) (hts (.fieldLink RX2 26 "ColdShips$Reader" "size" "I") (by decide +kernel)) (fun _ h9 => h9) rfl dX2_addFour_8 ?_
  refine lv_sipush (v := 400) hx hb dX2_addFour_11 (by decide) ?_
  refine lv_icmp_ge (tgt := 50) hx hb dX2_addFour_14 (by decide) (fun c9 => absurd c9 (by decide)) (fun _ => ?_)
  refine lv_aload_n hx hb dX2_addFour_17 rfl (lv_at hl 1 rfl) ?_
  refine va_get (D := (dC, dI)) (ci := 2) (v := .ref rtp) (C := RX2) (T := TX2) (N := 16) hx hb hts hfX2 hown hK hP 0 rfl rfl 0 (by decide) (hts (.fieldLink RX2 11 "ColdShips$Reader" "tape" "[C") (by decide +kernel)) (fun _ h9 => h9) rfl dX2_addFour_18 ?_
  refine lv_aload_n hx hb dX2_addFour_21 rfl (lv_at hl 1 rfl) ?_
  refine va_get (D := (dC, dI)) (ci := 2) (v := .int 19) (C := RX2) (T := TX2) (N := 16) hx hb hts hfX2 hown hK hP 0 rfl rfl 1 (by decide) (hts (.fieldLink RX2 26 "ColdShips$Reader" "size" "I") (by decide +kernel)) (fun _ h9 => h9) rfl dX2_addFour_22 ?_
  refine lv_iload_n hx hb dX2_addFour_25 rfl (lv_at hl 2 rfl) ?_
  refine lv_iload_n hx hb dX2_addFour_26 rfl (lv_at hl 0 rfl) ?_
  refine lv_iushr hx hb dX2_addFour_27 rfl ?_
  refine lv_topi (fun z16 ez16 => ?_)
  refine lv_sipush (v := 255) hx hb dX2_addFour_28 (by decide) ?_
  refine lv_iand hx hb dX2_addFour_31 ?_
  refine lv_topi (fun z17 ez17 => ?_)
  refine lv_i2c hx hb dX2_addFour_32 rfl ?_
  refine lv_topi (fun z18 ez18 => ?_)
  refine va_cast hx hb hK hP hD hS 1 0 rfl rfl (vp_in_iff.mpr ⟨by decide, by decide⟩) dX2_addFour_33 (fun H locs hP hD hS => ?_)
  have hP : va_P (dC, dI) vwCl [(re, .inr (2, [.ref rtp, .int 19, .int (-1), .int r3, .int r4, .int r5, .int r6, .ref rcd, .int r8, .ref rst, .int r10, .int r11, .int r12, .int r13, .int r14, .int r15])), (rtp, .inl (kC, 400, .inl (upd g14 19 (vp_nar .char z18))))] H := hP
  have hD : va_D A [(re, .inr (2, [.ref rtp, .int 19, .int (-1), .int r3, .int r4, .int r5, .int r6, .ref rcd, .int r8, .ref rst, .int r10, .int r11, .int r12, .int r13, .int r14, .int r15])), (rtp, .inl (kC, 400, .inl (upd g14 19 (vp_nar .char z18))))] := hD
  generalize (upd g14 19 (vp_nar .char z18)) = g19 at hP hD
  refine lv_aload_n hx hb dX2_addFour_34 rfl (lv_at hl 1 rfl) ?_
  refine lv_dup hx hb dX2_addFour_35 rfl ?_
  refine va_get (D := (dC, dI)) (ci := 2) (v := .int 19) (C := RX2) (T := TX2) (N := 16) hx hb hts hfX2 hown hK hP 0 rfl rfl 1 (by decide) (hts (.fieldLink RX2 26 "ColdShips$Reader" "size" "I") (by decide +kernel)) (fun _ h9 => h9) rfl dX2_addFour_36 ?_
  refine lv_iconst (v := 1) hx hb dX2_addFour_39 (by decide) ?_
  refine lv_iadd hx hb dX2_addFour_40 ?_
  refine lv_topi (fun z20 ez20 => ?_)
  obtain rfl : z20 = 20 := ez20.trans (by first | rfl | decide)
  refine va_put (D := (dC, dI)) (ci := 2) (v := .int 20) (ty := .int) (C := RX2) (T := TX2) (N := 16) hx hb hts hfX2 tyX2 tyX2_ok nmX2 hown hK hP hD hS 0 rfl rfl 1 (by decide) (hts (.fieldLink RX2 26 "ColdShips$Reader" "size" "I") (by decide +kernel)) (fun _ h9 => h9) rfl (by decide +kernel) rfl rfl (Nat.le_of_ble_eq_true rfl) dX2_addFour_41 (fun H locs hP hD hS => ?_)
  have hP : va_P (dC, dI) vwCl [(re, .inr (2, [.ref rtp, .int 20, .int (-1), .int r3, .int r4, .int r5, .int r6, .ref rcd, .int r8, .ref rst, .int r10, .int r11, .int r12, .int r13, .int r14, .int r15])), (rtp, .inl (kC, 400, .inl g19))] H := hP
  have hD : va_D A [(re, .inr (2, [.ref rtp, .int 20, .int (-1), .int r3, .int r4, .int r5, .int r6, .ref rcd, .int r8, .ref rst, .int r10, .int r11, .int r12, .int r13, .int r14, .int r15])), (rtp, .inl (kC, 400, .inl g19))] := hD
  refine lv_iinc (v := (-8)) (lv' := [(2, .int (-8)), (0, .ref re), (1, .int v)]) hx hb dX2_addFour_44 hl (k := 0) rfl (by decide) (by decide) rfl (fun ls hl => ?_)
  refine lv_goto (tgt := 3) hx hb dX2_addFour_47 (by decide) ?_
  refine lv_iload_n hx hb dX2_addFour_3 rfl (lv_at hl 0 rfl) ?_
  refine lv_if_lt (tgt := 50) hx hb dX2_addFour_4 (by decide) (fun _ => ?_) (fun c9 => absurd c9 (by decide))
  have hP9 := hP.sub (ws' := [(re, .inr (2, [.ref rtp, .int 20, .int (-1), .int r3, .int r4, .int r5, .int r6, .ref rcd, .int r8, .ref rst, .int r10, .int r11, .int r12, .int r13, .int r14, .int r15])), (rtp, .inl (kC, 400, .inl g19))]) [0, 1] rfl
  have hD9 := hD.sub (ws' := [(re, .inr (2, [.ref rtp, .int 20, .int (-1), .int r3, .int r4, .int r5, .int r6, .ref rcd, .int r8, .ref rst, .int r10, .int r11, .int r12, .int r13, .int r14, .int r15])), (rtp, .inl (kC, 400, .inl g19))]) [0, 1] (by decide +kernel) rfl
  have hK9 := hK.sub (tys' := [(kC, .char)]) [0] rfl
  exact W.vret hx hb hr (fun t ht hW => ⟨⟨(), rfl, trivial, ⟨g19, by rw [ht]; exact hP9, va_K.moved hW.alike hK9, hD9⟩⟩, hS.F ht⟩) hS.2.2 dX2_addFour_50
set_option maxHeartbeats 4000000 in
set_option maxRecDepth 100000 in
theorem c_X2_hasRoom (l : Launch) (dC : Nat → ClassId) (dI : Nat → Nat → Nat) (sz : Nat) (re : Nat) (rtp : Nat) (r3 : Int32) (r4 : Int32) (r5 : Int32) (r6 : Int32) (rcd : Nat) (r8 : Int32) (rst : Nat) (r10 : Int32) (r11 : Int32) (r12 : Int32) (r13 : Int32) (r14 : Int32) (r15 : Int32)  : Met l yX2_hasRoom wsX2_hasRoom ({ frames := 2, cells := 0, slots := 0, locals := 400 }) (va_Pc [.ref re] (pz_B dC dI [] [(re, .inr (2, [.ref rtp, .int 0, .int (-1), .int r3, .int r4, .int r5, .int r6, .ref rcd, .int r8, .ref rst, .int r10, .int r11, .int r12, .int r13, .int r14, .int r15]))] sz)) (vp_Si (fun r => r = 1)) 0 0 (fun _ => False) := by
  refine Met.ofW (cc := cX2_hasRoom) (maxL := 1) (ret := some .boolean) (by decide) rfl ?_
  intro p e s m args below meth c s₁ B hml hv
  obtain ⟨rfl, hsz, hP, hK, hD0, hN⟩ := hv
  have hx := B.exec
  have hb := B.bytes
  have hr := B.returns
  have hts := atoms_spec (ws := wsX2_hasRoom) B.pre
  have hown : s.vm.findClass RX2 = some m.cls := findClass_of_methodNamed B.named
  have hlocks := B.notSynchronized
  subst hsz
  have hD := hD0
  have hS : va_S (fun _ => True) s.heap s.heap [] := va_S.rf
  have hl := lv_entry ([.ref re]) (n := 1) (Nat.le_of_ble_eq_true rfl)
  rw [lg_entry_eq]
  generalize (lg_sl ([.ref re]) ++ List.replicate (1 - (lg_sl ([.ref re])).length) Slot.unset).toArray = ls at hl ⊢
  have hl : lv_has ls 1 [(0, .ref re)] := hl
  have hfX2 : ∀ w ∈ wsX20, w ∈ wsX2_hasRoom := fun w h => List.mem_cons_of_mem _ (List.mem_append_right _ h)
  refine lv_aload_n hx hb dX2_hasRoom_0 rfl (lv_at hl 0 rfl) ?_
  refine va_get (D := (dC, dI)) (ci := 2) (v := .int 0) (C := RX2) (T := TX2) (N := 16) hx hb hts hfX2 hown hK hP 0 rfl rfl 1 (by decide) (hts (.fieldLink RX2 26 "ColdShips$Reader" "size" "I") (by decide +kernel)) (fun _ h9 => h9) rfl dX2_hasRoom_1 ?_
  refine lv_bipush (v := 20) hx hb dX2_hasRoom_4 (by decide) ?_
  refine lv_iadd hx hb dX2_hasRoom_6 ?_
  refine lv_topi (fun z1 ez1 => ?_)
  obtain rfl : z1 = 20 := ez1.trans (by first | rfl | decide)
  refine lv_sipush (v := 400) hx hb dX2_hasRoom_7 (by decide) ?_
  refine lv_icmp_gt (tgt := 17) hx hb dX2_hasRoom_10 (by decide) (fun c9 => absurd c9 (by decide)) (fun _ => ?_)
  refine lv_iconst (v := 1) hx hb dX2_hasRoom_13 (by decide) ?_
  refine lv_goto (tgt := 18) hx hb dX2_hasRoom_14 (by decide) ?_
  exact W.zret (v := 1) hx hb hr rfl (fun t ht hW => ⟨1, rfl, rfl, ht⟩) (fun _ h => by cases h) dX2_hasRoom_18
set_option maxHeartbeats 4000000 in
set_option maxRecDepth 100000 in
theorem c_X11_feed (l : Launch) (dC : Nat → ClassId) (dI : Nat → Nat → Nat) (sz : Nat) (h0 : Nat) (xa : Int32) (xb : Int32) (xc : Int32) (xd : Int32) (xe : Int32) (wd : Nat) (im : Nat) (wa : Nat) (re : Nat) (rk : Nat) (pl : Nat) (fz : Int32) (rtp : Nat) (r3 : Int32) (r4 : Int32) (r5 : Int32) (r6 : Int32) (rcd : Nat) (r8 : Int32) (rst : Nat) (r10 : Int32) (r11 : Int32) (r12 : Int32) (r13 : Int32) (r14 : Int32) (r15 : Int32) (kC : ClassId) (fT : Nat → Int32)  : Met l yX11_feed wsX11_feed ({ frames := 7, cells := 0, slots := 0, locals := 2400 }) (va_Pc [.ref h0, .int xa, .int xb, .int xc, .int xd, .int xe] (pz_B dC dI [(kC, .char)] [(h0, .inr (11, [.ref wd, .ref im, .ref wa, .ref re, .ref rk, .ref pl, .int fz])), (re, .inr (2, [.ref rtp, .int 0, .int (-1), .int r3, .int r4, .int r5, .int r6, .ref rcd, .int r8, .ref rst, .int r10, .int r11, .int r12, .int r13, .int r14, .int r15])), (rtp, .inl (kC, 400, .inl fT))] sz)) (va_Qi (fun (r : Int32) (_ : Unit) => r = F_feed xa xb xc xd xe) (fun (_ : Unit) (_ : State) => True) (va_A [(h0, .inr (11, [.ref wd, .ref im, .ref wa, .ref re, .ref rk, .ref pl, .int fz])), (re, .inr (2, [.ref rtp, .int 0, .int (-1), .int r3, .int r4, .int r5, .int r6, .ref rcd, .int r8, .ref rst, .int r10, .int r11, .int r12, .int r13, .int r14, .int r15])), (rtp, .inl (kC, 400, .inl fT))] sz)) 0 0 (va_A [(h0, .inr (11, [.ref wd, .ref im, .ref wa, .ref re, .ref rk, .ref pl, .int fz])), (re, .inr (2, [.ref rtp, .int 0, .int (-1), .int r3, .int r4, .int r5, .int r6, .ref rcd, .int r8, .ref rst, .int r10, .int r11, .int r12, .int r13, .int r14, .int r15])), (rtp, .inl (kC, 400, .inl fT))] sz) := by
  refine Met.ofW (cc := cX11_feed) (maxL := 6) (ret := some .int) (by decide) rfl ?_
  intro p e s m args below meth c s₁ B hml hv
  obtain ⟨rfl, hsz, hP, hK, hD0, hN⟩ := hv
  have hx := B.exec
  have hb := B.bytes
  have hr := B.returns
  have hts := atoms_spec (ws := wsX11_feed) B.pre
  have hown : s.vm.findClass RX11 = some m.cls := findClass_of_methodNamed B.named
  have hlocks := B.notSynchronized
  subst hsz
  have hD := hD0.self (sz := s.heap.size)
  generalize hAe : va_A [(h0, .inr (11, [.ref wd, .ref im, .ref wa, .ref re, .ref rk, .ref pl, .int fz])), (re, .inr (2, [.ref rtp, .int 0, .int (-1), .int r3, .int r4, .int r5, .int r6, .ref rcd, .int r8, .ref rst, .int r10, .int r11, .int r12, .int r13, .int r14, .int r15])), (rtp, .inl (kC, 400, .inl fT))] s.heap.size = A at hD ⊢
  have hA : ∀ q : Nat, s.heap.size ≤ q → A q := fun q h => by rw [← hAe]; exact Or.inr h
  have hS : va_S A s.heap s.heap [] := va_S.rf
  have hl := lv_entry ([.ref h0, .int xa, .int xb, .int xc, .int xd, .int xe]) (n := 6) (Nat.le_of_ble_eq_true rfl)
  rw [lg_entry_eq]
  generalize (lg_sl ([.ref h0, .int xa, .int xb, .int xc, .int xd, .int xe]) ++ List.replicate (6 - (lg_sl ([.ref h0, .int xa, .int xb, .int xc, .int xd, .int xe])).length) Slot.unset).toArray = ls at hl ⊢
  have hl : lv_has ls 6 [(0, .ref h0), (1, .int xa), (2, .int xb), (3, .int xc), (4, .int xd), (5, .int xe)] := hl
  have hfX11 : ∀ w ∈ wsX110, w ∈ wsX11_feed := fun w h => List.mem_cons_of_mem _ (List.mem_append_left _ (List.mem_append_right _ h))
  have hfX2 : ∀ w ∈ wsX20, w ∈ wsX11_feed := fun w h => List.mem_cons_of_mem _ (List.mem_append_right _ h)
  refine lv_aload_n hx hb dX11_feed_0 rfl (lv_at hl 0 rfl) ?_
  refine va_get (D := (dC, dI)) (ci := 11) (v := .ref re) (C := RX11) (T := TX11) (N := 7) hx hb hts hfX11 hown hK hP 0 rfl rfl 3 (by decide) (hts (.fieldLink RX11 32 "ColdShips" "reader" "LColdShips$Reader;") (by decide +kernel)) (fun _ h9 => h9) rfl dX11_feed_1 ?_
  have hPc := hP.sub (ws' := [(re, .inr (2, [.ref rtp, .int 0, .int (-1), .int r3, .int r4, .int r5, .int r6, .ref rcd, .int r8, .ref rst, .int r10, .int r11, .int r12, .int r13, .int r14, .int r15]))]) [1] rfl
  have hDc := hD.sub (ws' := [(re, .inr (2, [.ref rtp, .int 0, .int (-1), .int r3, .int r4, .int r5, .int r6, .ref rcd, .int r8, .ref rst, .int r10, .int r11, .int r12, .int r13, .int r14, .int r15]))]) [1] (by decide +kernel) rfl
  have hKc := hK.sub (tys' := []) [] rfl
  refine pz_calli (va_runV (As := []) (rest := []) ⟨hx, hb, hml, hown, hts⟩ (c_X2_hasRoom l dC dI _ re rtp r3 r4 r5 r6 rcd r8 rst r10 r11 r12 r13 r14 r15) (cwV 0 hts gX11_feed_X2_hasRoom rfl rfl rfl (by decide +kernel) ⟨Nat.le_of_ble_eq_true rfl, Nat.le_of_ble_eq_true rfl⟩) ⟨pz_blind, va_recv hKc hPc (ci := 2) (q0 := 0) rfl rfl, pz_pre hPc hKc hDc hN⟩ rfl rfl hl.1 rfl (lv_room (Nat.le_of_ble_eq_true rfl)) dX11_feed_4 ⟨Nat.le_of_ble_eq_true rfl, Nat.le_of_ble_eq_true rfl⟩) (fun r1 hw => ?_)
  obtain rfl : 1 = r1 := hw.symm
  refine lv_if_ne (tgt := 12) hx hb dX11_feed_7 (by decide) (fun _ => ?_) (fun c9 => absurd c9 (by decide))
  refine lv_aload_n hx hb dX11_feed_12 rfl (lv_at hl 0 rfl) ?_
  refine va_get (D := (dC, dI)) (ci := 11) (v := .ref re) (C := RX11) (T := TX11) (N := 7) hx hb hts hfX11 hown hK hP 0 rfl rfl 3 (by decide) (hts (.fieldLink RX11 32 "ColdShips" "reader" "LColdShips$Reader;") (by decide +kernel)) (fun _ h9 => h9) rfl dX11_feed_13 ?_
  refine lv_iload_n hx hb dX11_feed_16 rfl (lv_at hl 1 rfl) ?_
  have hPc := hP.sub (ws' := [(re, .inr (2, [.ref rtp, .int 0, .int (-1), .int r3, .int r4, .int r5, .int r6, .ref rcd, .int r8, .ref rst, .int r10, .int r11, .int r12, .int r13, .int r14, .int r15])), (rtp, .inl (kC, 400, .inl fT))]) [1, 2] rfl
  have hDc := hD.sub (ws' := [(re, .inr (2, [.ref rtp, .int 0, .int (-1), .int r3, .int r4, .int r5, .int r6, .ref rcd, .int r8, .ref rst, .int r10, .int r11, .int r12, .int r13, .int r14, .int r15])), (rtp, .inl (kC, 400, .inl fT))]) [1, 2] (by decide +kernel) rfl
  have hKc := hK.sub (tys' := [(kC, .char)]) [0] rfl
  have hFc := va_free (wc := [(re, .inr (2, [.ref rtp, .int 0, .int (-1), .int r3, .int r4, .int r5, .int r6, .ref rcd, .int r8, .ref rst, .int r10, .int r11, .int r12, .int r13, .int r14, .int r15])), (rtp, .inl (kC, 400, .inl fT))]) hD hS hA [1, 2] rfl
  refine va_callv (va_runV (As := [.int xa]) (rest := []) ⟨hx, hb, hml, hown, hts⟩ (c_addFour0 l dC dI _ re xa rtp r3 r4 r5 r6 rcd r8 rst r10 r11 r12 r13 r14 r15 kC fT) (cwV 1 hts gX11_feed_X2_addFour rfl rfl rfl (by decide +kernel) ⟨Nat.le_of_ble_eq_true rfl, Nat.le_of_ble_eq_true rfl⟩) ⟨pz_blind, va_recv hKc hPc (ci := 2) (q0 := 0) rfl rfl, pz_pre hPc hKc hDc hN⟩ rfl rfl hl.1 rfl (lv_room (Nat.le_of_ble_eq_true rfl)) dX11_feed_17 ⟨Nat.le_of_ble_eq_true rfl, Nat.le_of_ble_eq_true rfl⟩) hS (fun q _ h => hFc q h) hFc (fun u t H1 locs ht hvm hw hB hz1 hk1 hS => ?_)
  obtain ⟨g_3, hP1, hK1, hD1⟩ := hB
  rw [ht] at hP1
  have hK1 := va_K.moved hvm.symm hK1
  obtain ⟨hP, hD⟩ := va_join (wr := [(h0, .inr (11, [.ref wd, .ref im, .ref wa, .ref re, .ref rk, .ref pl, .int fz]))]) (w1 := [(re, .inr (2, [.ref rtp, .int 4, .int (-1), .int r3, .int r4, .int r5, .int r6, .ref rcd, .int r8, .ref rst, .int r10, .int r11, .int r12, .int r13, .int r14, .int r15])), (rtp, .inl (kC, 400, .inl g_3))]) hP hD [1, 2] [0] rfl rfl (by decide +kernel) (by decide +kernel) hk1 hFc hP1 hD1
  have hK := hK.app hK1
  generalize H1 = H at hP hS ⊢
  have hP : va_P (dC, dI) vwCl [(h0, .inr (11, [.ref wd, .ref im, .ref wa, .ref re, .ref rk, .ref pl, .int fz])), (re, .inr (2, [.ref rtp, .int 4, .int (-1), .int r3, .int r4, .int r5, .int r6, .ref rcd, .int r8, .ref rst, .int r10, .int r11, .int r12, .int r13, .int r14, .int r15])), (rtp, .inl (kC, 400, .inl g_3))] H := hP
  have hD : va_D A [(h0, .inr (11, [.ref wd, .ref im, .ref wa, .ref re, .ref rk, .ref pl, .int fz])), (re, .inr (2, [.ref rtp, .int 4, .int (-1), .int r3, .int r4, .int r5, .int r6, .ref rcd, .int r8, .ref rst, .int r10, .int r11, .int r12, .int r13, .int r14, .int r15])), (rtp, .inl (kC, 400, .inl g_3))] := hD
  have hK : va_K (dC, dI) vwCl [(kC, .char), (kC, .char)] s := hK
  refine lv_aload_n hx hb dX11_feed_20 rfl (lv_at hl 0 rfl) ?_
  refine va_get (D := (dC, dI)) (ci := 11) (v := .ref re) (C := RX11) (T := TX11) (N := 7) hx hb hts hfX11 hown hK hP 0 rfl rfl 3 (by decide) (hts (.fieldLink RX11 32 "ColdShips" "reader" "LColdShips$Reader;") (by decide +kernel)) (fun _ h9 => h9) rfl dX11_feed_21 ?_
  refine lv_iload_n hx hb dX11_feed_24 rfl (lv_at hl 2 rfl) ?_
  have hPc := hP.sub (ws' := [(re, .inr (2, [.ref rtp, .int 4, .int (-1), .int r3, .int r4, .int r5, .int r6, .ref rcd, .int r8, .ref rst, .int r10, .int r11, .int r12, .int r13, .int r14, .int r15])), (rtp, .inl (kC, 400, .inl g_3))]) [1, 2] rfl
  have hDc := hD.sub (ws' := [(re, .inr (2, [.ref rtp, .int 4, .int (-1), .int r3, .int r4, .int r5, .int r6, .ref rcd, .int r8, .ref rst, .int r10, .int r11, .int r12, .int r13, .int r14, .int r15])), (rtp, .inl (kC, 400, .inl g_3))]) [1, 2] (by decide +kernel) rfl
  have hKc := hK.sub (tys' := [(kC, .char)]) [0] rfl
  have hFc := va_free (wc := [(re, .inr (2, [.ref rtp, .int 4, .int (-1), .int r3, .int r4, .int r5, .int r6, .ref rcd, .int r8, .ref rst, .int r10, .int r11, .int r12, .int r13, .int r14, .int r15])), (rtp, .inl (kC, 400, .inl g_3))]) hD hS hA [1, 2] rfl
  refine va_callv (va_runV (As := [.int xb]) (rest := []) ⟨hx, hb, hml, hown, hts⟩ (c_addFour1 l dC dI _ re xb rtp r3 r4 r5 r6 rcd r8 rst r10 r11 r12 r13 r14 r15 kC g_3) (cwV 1 hts gX11_feed_X2_addFour rfl rfl rfl (by decide +kernel) ⟨Nat.le_of_ble_eq_true rfl, Nat.le_of_ble_eq_true rfl⟩) ⟨pz_blind, va_recv hKc hPc (ci := 2) (q0 := 0) rfl rfl, pz_pre hPc hKc hDc hN⟩ rfl rfl hl.1 rfl (lv_room (Nat.le_of_ble_eq_true rfl)) dX11_feed_25 ⟨Nat.le_of_ble_eq_true rfl, Nat.le_of_ble_eq_true rfl⟩) hS (fun q _ h => hFc q h) hFc (fun u t H1 locs ht hvm hw hB hz1 hk1 hS => ?_)
  obtain ⟨g_6, hP1, hK1, hD1⟩ := hB
  rw [ht] at hP1
  have hK1 := va_K.moved hvm.symm hK1
  obtain ⟨hP, hD⟩ := va_join (wr := [(h0, .inr (11, [.ref wd, .ref im, .ref wa, .ref re, .ref rk, .ref pl, .int fz]))]) (w1 := [(re, .inr (2, [.ref rtp, .int 8, .int (-1), .int r3, .int r4, .int r5, .int r6, .ref rcd, .int r8, .ref rst, .int r10, .int r11, .int r12, .int r13, .int r14, .int r15])), (rtp, .inl (kC, 400, .inl g_6))]) hP hD [1, 2] [0] rfl rfl (by decide +kernel) (by decide +kernel) hk1 hFc hP1 hD1
  have hK := hK.app hK1
  generalize H1 = H at hP hS ⊢
  have hP : va_P (dC, dI) vwCl [(h0, .inr (11, [.ref wd, .ref im, .ref wa, .ref re, .ref rk, .ref pl, .int fz])), (re, .inr (2, [.ref rtp, .int 8, .int (-1), .int r3, .int r4, .int r5, .int r6, .ref rcd, .int r8, .ref rst, .int r10, .int r11, .int r12, .int r13, .int r14, .int r15])), (rtp, .inl (kC, 400, .inl g_6))] H := hP
  have hD : va_D A [(h0, .inr (11, [.ref wd, .ref im, .ref wa, .ref re, .ref rk, .ref pl, .int fz])), (re, .inr (2, [.ref rtp, .int 8, .int (-1), .int r3, .int r4, .int r5, .int r6, .ref rcd, .int r8, .ref rst, .int r10, .int r11, .int r12, .int r13, .int r14, .int r15])), (rtp, .inl (kC, 400, .inl g_6))] := hD
  have hK : va_K (dC, dI) vwCl [(kC, .char), (kC, .char), (kC, .char)] s := hK
  refine lv_aload_n hx hb dX11_feed_28 rfl (lv_at hl 0 rfl) ?_
  refine va_get (D := (dC, dI)) (ci := 11) (v := .ref re) (C := RX11) (T := TX11) (N := 7) hx hb hts hfX11 hown hK hP 0 rfl rfl 3 (by decide) (hts (.fieldLink RX11 32 "ColdShips" "reader" "LColdShips$Reader;") (by decide +kernel)) (fun _ h9 => h9) rfl dX11_feed_29 ?_
  refine lv_iload_n hx hb dX11_feed_32 rfl (lv_at hl 3 rfl) ?_
  have hPc := hP.sub (ws' := [(re, .inr (2, [.ref rtp, .int 8, .int (-1), .int r3, .int r4, .int r5, .int r6, .ref rcd, .int r8, .ref rst, .int r10, .int r11, .int r12, .int r13, .int r14, .int r15])), (rtp, .inl (kC, 400, .inl g_6))]) [1, 2] rfl
  have hDc := hD.sub (ws' := [(re, .inr (2, [.ref rtp, .int 8, .int (-1), .int r3, .int r4, .int r5, .int r6, .ref rcd, .int r8, .ref rst, .int r10, .int r11, .int r12, .int r13, .int r14, .int r15])), (rtp, .inl (kC, 400, .inl g_6))]) [1, 2] (by decide +kernel) rfl
  have hKc := hK.sub (tys' := [(kC, .char)]) [0] rfl
  have hFc := va_free (wc := [(re, .inr (2, [.ref rtp, .int 8, .int (-1), .int r3, .int r4, .int r5, .int r6, .ref rcd, .int r8, .ref rst, .int r10, .int r11, .int r12, .int r13, .int r14, .int r15])), (rtp, .inl (kC, 400, .inl g_6))]) hD hS hA [1, 2] rfl
  refine va_callv (va_runV (As := [.int xc]) (rest := []) ⟨hx, hb, hml, hown, hts⟩ (c_addFour2 l dC dI _ re xc rtp r3 r4 r5 r6 rcd r8 rst r10 r11 r12 r13 r14 r15 kC g_6) (cwV 1 hts gX11_feed_X2_addFour rfl rfl rfl (by decide +kernel) ⟨Nat.le_of_ble_eq_true rfl, Nat.le_of_ble_eq_true rfl⟩) ⟨pz_blind, va_recv hKc hPc (ci := 2) (q0 := 0) rfl rfl, pz_pre hPc hKc hDc hN⟩ rfl rfl hl.1 rfl (lv_room (Nat.le_of_ble_eq_true rfl)) dX11_feed_33 ⟨Nat.le_of_ble_eq_true rfl, Nat.le_of_ble_eq_true rfl⟩) hS (fun q _ h => hFc q h) hFc (fun u t H1 locs ht hvm hw hB hz1 hk1 hS => ?_)
  obtain ⟨g_9, hP1, hK1, hD1⟩ := hB
  rw [ht] at hP1
  have hK1 := va_K.moved hvm.symm hK1
  obtain ⟨hP, hD⟩ := va_join (wr := [(h0, .inr (11, [.ref wd, .ref im, .ref wa, .ref re, .ref rk, .ref pl, .int fz]))]) (w1 := [(re, .inr (2, [.ref rtp, .int 12, .int (-1), .int r3, .int r4, .int r5, .int r6, .ref rcd, .int r8, .ref rst, .int r10, .int r11, .int r12, .int r13, .int r14, .int r15])), (rtp, .inl (kC, 400, .inl g_9))]) hP hD [1, 2] [0] rfl rfl (by decide +kernel) (by decide +kernel) hk1 hFc hP1 hD1
  have hK := hK.app hK1
  generalize H1 = H at hP hS ⊢
  have hP : va_P (dC, dI) vwCl [(h0, .inr (11, [.ref wd, .ref im, .ref wa, .ref re, .ref rk, .ref pl, .int fz])), (re, .inr (2, [.ref rtp, .int 12, .int (-1), .int r3, .int r4, .int r5, .int r6, .ref rcd, .int r8, .ref rst, .int r10, .int r11, .int r12, .int r13, .int r14, .int r15])), (rtp, .inl (kC, 400, .inl g_9))] H := hP
  have hD : va_D A [(h0, .inr (11, [.ref wd, .ref im, .ref wa, .ref re, .ref rk, .ref pl, .int fz])), (re, .inr (2, [.ref rtp, .int 12, .int (-1), .int r3, .int r4, .int r5, .int r6, .ref rcd, .int r8, .ref rst, .int r10, .int r11, .int r12, .int r13, .int r14, .int r15])), (rtp, .inl (kC, 400, .inl g_9))] := hD
  have hK : va_K (dC, dI) vwCl [(kC, .char), (kC, .char), (kC, .char), (kC, .char)] s := hK
  refine lv_aload_n hx hb dX11_feed_36 rfl (lv_at hl 0 rfl) ?_
  refine va_get (D := (dC, dI)) (ci := 11) (v := .ref re) (C := RX11) (T := TX11) (N := 7) hx hb hts hfX11 hown hK hP 0 rfl rfl 3 (by decide) (hts (.fieldLink RX11 32 "ColdShips" "reader" "LColdShips$Reader;") (by decide +kernel)) (fun _ h9 => h9) rfl dX11_feed_37 ?_
  refine lv_iload hx hb dX11_feed_40 (lv_at hl 4 rfl) ?_
  have hPc := hP.sub (ws' := [(re, .inr (2, [.ref rtp, .int 12, .int (-1), .int r3, .int r4, .int r5, .int r6, .ref rcd, .int r8, .ref rst, .int r10, .int r11, .int r12, .int r13, .int r14, .int r15])), (rtp, .inl (kC, 400, .inl g_9))]) [1, 2] rfl
  have hDc := hD.sub (ws' := [(re, .inr (2, [.ref rtp, .int 12, .int (-1), .int r3, .int r4, .int r5, .int r6, .ref rcd, .int r8, .ref rst, .int r10, .int r11, .int r12, .int r13, .int r14, .int r15])), (rtp, .inl (kC, 400, .inl g_9))]) [1, 2] (by decide +kernel) rfl
  have hKc := hK.sub (tys' := [(kC, .char)]) [0] rfl
  have hFc := va_free (wc := [(re, .inr (2, [.ref rtp, .int 12, .int (-1), .int r3, .int r4, .int r5, .int r6, .ref rcd, .int r8, .ref rst, .int r10, .int r11, .int r12, .int r13, .int r14, .int r15])), (rtp, .inl (kC, 400, .inl g_9))]) hD hS hA [1, 2] rfl
  refine va_callv (va_runV (As := [.int xd]) (rest := []) ⟨hx, hb, hml, hown, hts⟩ (c_addFour3 l dC dI _ re xd rtp r3 r4 r5 r6 rcd r8 rst r10 r11 r12 r13 r14 r15 kC g_9) (cwV 1 hts gX11_feed_X2_addFour rfl rfl rfl (by decide +kernel) ⟨Nat.le_of_ble_eq_true rfl, Nat.le_of_ble_eq_true rfl⟩) ⟨pz_blind, va_recv hKc hPc (ci := 2) (q0 := 0) rfl rfl, pz_pre hPc hKc hDc hN⟩ rfl rfl hl.1 rfl (lv_room (Nat.le_of_ble_eq_true rfl)) dX11_feed_42 ⟨Nat.le_of_ble_eq_true rfl, Nat.le_of_ble_eq_true rfl⟩) hS (fun q _ h => hFc q h) hFc (fun u t H1 locs ht hvm hw hB hz1 hk1 hS => ?_)
  obtain ⟨g_12, hP1, hK1, hD1⟩ := hB
  rw [ht] at hP1
  have hK1 := va_K.moved hvm.symm hK1
  obtain ⟨hP, hD⟩ := va_join (wr := [(h0, .inr (11, [.ref wd, .ref im, .ref wa, .ref re, .ref rk, .ref pl, .int fz]))]) (w1 := [(re, .inr (2, [.ref rtp, .int 16, .int (-1), .int r3, .int r4, .int r5, .int r6, .ref rcd, .int r8, .ref rst, .int r10, .int r11, .int r12, .int r13, .int r14, .int r15])), (rtp, .inl (kC, 400, .inl g_12))]) hP hD [1, 2] [0] rfl rfl (by decide +kernel) (by decide +kernel) hk1 hFc hP1 hD1
  have hK := hK.app hK1
  generalize H1 = H at hP hS ⊢
  have hP : va_P (dC, dI) vwCl [(h0, .inr (11, [.ref wd, .ref im, .ref wa, .ref re, .ref rk, .ref pl, .int fz])), (re, .inr (2, [.ref rtp, .int 16, .int (-1), .int r3, .int r4, .int r5, .int r6, .ref rcd, .int r8, .ref rst, .int r10, .int r11, .int r12, .int r13, .int r14, .int r15])), (rtp, .inl (kC, 400, .inl g_12))] H := hP
  have hD : va_D A [(h0, .inr (11, [.ref wd, .ref im, .ref wa, .ref re, .ref rk, .ref pl, .int fz])), (re, .inr (2, [.ref rtp, .int 16, .int (-1), .int r3, .int r4, .int r5, .int r6, .ref rcd, .int r8, .ref rst, .int r10, .int r11, .int r12, .int r13, .int r14, .int r15])), (rtp, .inl (kC, 400, .inl g_12))] := hD
  have hK : va_K (dC, dI) vwCl [(kC, .char), (kC, .char), (kC, .char), (kC, .char), (kC, .char)] s := hK
  refine lv_aload_n hx hb dX11_feed_45 rfl (lv_at hl 0 rfl) ?_
  refine va_get (D := (dC, dI)) (ci := 11) (v := .ref re) (C := RX11) (T := TX11) (N := 7) hx hb hts hfX11 hown hK hP 0 rfl rfl 3 (by decide) (hts (.fieldLink RX11 32 "ColdShips" "reader" "LColdShips$Reader;") (by decide +kernel)) (fun _ h9 => h9) rfl dX11_feed_46 ?_
  refine lv_iload hx hb dX11_feed_49 (lv_at hl 5 rfl) ?_
  have hPc := hP.sub (ws' := [(re, .inr (2, [.ref rtp, .int 16, .int (-1), .int r3, .int r4, .int r5, .int r6, .ref rcd, .int r8, .ref rst, .int r10, .int r11, .int r12, .int r13, .int r14, .int r15])), (rtp, .inl (kC, 400, .inl g_12))]) [1, 2] rfl
  have hDc := hD.sub (ws' := [(re, .inr (2, [.ref rtp, .int 16, .int (-1), .int r3, .int r4, .int r5, .int r6, .ref rcd, .int r8, .ref rst, .int r10, .int r11, .int r12, .int r13, .int r14, .int r15])), (rtp, .inl (kC, 400, .inl g_12))]) [1, 2] (by decide +kernel) rfl
  have hKc := hK.sub (tys' := [(kC, .char)]) [0] rfl
  have hFc := va_free (wc := [(re, .inr (2, [.ref rtp, .int 16, .int (-1), .int r3, .int r4, .int r5, .int r6, .ref rcd, .int r8, .ref rst, .int r10, .int r11, .int r12, .int r13, .int r14, .int r15])), (rtp, .inl (kC, 400, .inl g_12))]) hD hS hA [1, 2] rfl
  refine va_callv (va_runV (As := [.int xe]) (rest := []) ⟨hx, hb, hml, hown, hts⟩ (c_addFour4 l dC dI _ re xe rtp r3 r4 r5 r6 rcd r8 rst r10 r11 r12 r13 r14 r15 kC g_12) (cwV 1 hts gX11_feed_X2_addFour rfl rfl rfl (by decide +kernel) ⟨Nat.le_of_ble_eq_true rfl, Nat.le_of_ble_eq_true rfl⟩) ⟨pz_blind, va_recv hKc hPc (ci := 2) (q0 := 0) rfl rfl, pz_pre hPc hKc hDc hN⟩ rfl rfl hl.1 rfl (lv_room (Nat.le_of_ble_eq_true rfl)) dX11_feed_51 ⟨Nat.le_of_ble_eq_true rfl, Nat.le_of_ble_eq_true rfl⟩) hS (fun q _ h => hFc q h) hFc (fun u t H1 locs ht hvm hw hB hz1 hk1 hS => ?_)
  obtain ⟨g_15, hP1, hK1, hD1⟩ := hB
  rw [ht] at hP1
  have hK1 := va_K.moved hvm.symm hK1
  obtain ⟨hP, hD⟩ := va_join (wr := [(h0, .inr (11, [.ref wd, .ref im, .ref wa, .ref re, .ref rk, .ref pl, .int fz]))]) (w1 := [(re, .inr (2, [.ref rtp, .int 20, .int (-1), .int r3, .int r4, .int r5, .int r6, .ref rcd, .int r8, .ref rst, .int r10, .int r11, .int r12, .int r13, .int r14, .int r15])), (rtp, .inl (kC, 400, .inl g_15))]) hP hD [1, 2] [0] rfl rfl (by decide +kernel) (by decide +kernel) hk1 hFc hP1 hD1
  have hK := hK.app hK1
  generalize H1 = H at hP hS ⊢
  have hP : va_P (dC, dI) vwCl [(h0, .inr (11, [.ref wd, .ref im, .ref wa, .ref re, .ref rk, .ref pl, .int fz])), (re, .inr (2, [.ref rtp, .int 20, .int (-1), .int r3, .int r4, .int r5, .int r6, .ref rcd, .int r8, .ref rst, .int r10, .int r11, .int r12, .int r13, .int r14, .int r15])), (rtp, .inl (kC, 400, .inl g_15))] H := hP
  have hD : va_D A [(h0, .inr (11, [.ref wd, .ref im, .ref wa, .ref re, .ref rk, .ref pl, .int fz])), (re, .inr (2, [.ref rtp, .int 20, .int (-1), .int r3, .int r4, .int r5, .int r6, .ref rcd, .int r8, .ref rst, .int r10, .int r11, .int r12, .int r13, .int r14, .int r15])), (rtp, .inl (kC, 400, .inl g_15))] := hD
  have hK : va_K (dC, dI) vwCl [(kC, .char), (kC, .char), (kC, .char), (kC, .char), (kC, .char), (kC, .char)] s := hK
  refine lv_aload_n hx hb dX11_feed_54 rfl (lv_at hl 0 rfl) ?_
  refine va_get (D := (dC, dI)) (ci := 11) (v := .ref re) (C := RX11) (T := TX11) (N := 7) hx hb hts hfX11 hown hK hP 0 rfl rfl 3 (by decide) (hts (.fieldLink RX11 32 "ColdShips" "reader" "LColdShips$Reader;") (by decide +kernel)) (fun _ h9 => h9) rfl dX11_feed_55 ?_
  refine va_getN (D := (dC, dI)) (ci := 2) (v := .int 20) (C := RX2) (T := TX2) (N := 16) hx hb hts hfX2 hown hK hP 1 rfl rfl 1 (by decide) (va_Nw.use rfl (hN.1 (.fieldLinkNest RX11 260 "ColdShips$Reader" "size" "I" "ColdShips") (by decide +kernel))) (fun _ h9 => h9) rfl dX11_feed_58 ?_
  exact W.iret (v := 20) hx hb hr (fun t ht hW => ⟨⟨20, (), rfl, (by unfold F_feed; (repeat' split) <;> first | rfl | (exfalso; omega) | (refine Int32.toInt_inj.mp ?_; show _ = (0 : Int); omega)), trivial⟩, hS.F ht⟩) hS.2.2 dX11_feed_61
set_option maxHeartbeats 4000000 in
set_option maxRecDepth 100000 in
theorem c_X2_isWord (l : Launch) (dC : Nat → ClassId) (dI : Nat → Nat → Nat) (sz : Nat) (re : Nat) (qs : Nat) (rtp : Nat) (r6 : Int32) (rcd : Nat) (r8 : Int32) (rst : Nat) (r10 : Int32) (r11 : Int32) (r12 : Int32) (r13 : Int32) (r14 : Int32) (r15 : Int32)  : Met l yX2_isWord wsX2_isWord ({ frames := 2, cells := 0, slots := 0, locals := 400 }) (va_Pc [.ref re, .ref qs] (pz_B dC dI [] [(re, .inr (2, [.ref rtp, .int 0, .int (-1), .int 0, .int 0, .int 0, .int r6, .ref rcd, .int r8, .ref rst, .int r10, .int r11, .int r12, .int r13, .int r14, .int r15]))] sz)) (vp_Si (fun r => r = 0)) 0 0 (fun _ => False) := by
  refine Met.ofW (cc := cX2_isWord) (maxL := 3) (ret := some .boolean) (by decide) rfl ?_
  intro p e s m args below meth c s₁ B hml hv
  obtain ⟨rfl, hsz, hP, hK, hD0, hN⟩ := hv
  have hx := B.exec
  have hb := B.bytes
  have hr := B.returns
  have hts := atoms_spec (ws := wsX2_isWord) B.pre
  have hown : s.vm.findClass RX2 = some m.cls := findClass_of_methodNamed B.named
  have hlocks := B.notSynchronized
  subst hsz
  have hD := hD0
  have hS : va_S (fun _ => True) s.heap s.heap [] := va_S.rf
  have hl := lv_entry ([.ref re, .ref qs]) (n := 3) (Nat.le_of_ble_eq_true rfl)
  rw [lg_entry_eq]
  generalize (lg_sl ([.ref re, .ref qs]) ++ List.replicate (3 - (lg_sl ([.ref re, .ref qs])).length) Slot.unset).toArray = ls at hl ⊢
  have hl : lv_has ls 3 [(0, .ref re), (1, .ref qs)] := hl
  have hfX2 : ∀ w ∈ wsX20, w ∈ wsX2_isWord := fun w h => List.mem_cons_of_mem _ (List.mem_append_right _ h)
  refine lv_aload_n hx hb dX2_isWord_0 rfl (lv_at hl 0 rfl) ?_
  refine va_get (D := (dC, dI)) (ci := 2) (v := .int 0) (C := RX2) (T := TX2) (N := 16) hx hb hts hfX2 hown hK hP 0 rfl rfl 4 (by decide) (hts (.fieldLink RX2 77 "ColdShips$Reader" "kind" "I") (by decide +kernel)) (fun _ h9 => h9) rfl dX2_isWord_1 ?_
  refine lv_iconst (v := 1) hx hb dX2_isWord_4 (by decide) ?_
  refine lv_icmp_ne (tgt := 24) hx hb dX2_isWord_5 (by decide) (fun _ => ?_) (fun c9 => absurd c9 (by decide))
  refine lv_iconst (v := 0) hx hb dX2_isWord_24 (by decide) ?_
  exact W.zret (v := 0) hx hb hr rfl (fun t ht hW => ⟨0, rfl, rfl, ht⟩) (fun _ h => by cases h) dX2_isWord_25
set_option maxHeartbeats 4000000 in
set_option maxRecDepth 100000 in
theorem c_X2_passWord (l : Launch) (dC : Nat → ClassId) (dI : Nat → Nat → Nat) (sz : Nat) (re : Nat) (qs : Nat) (rtp : Nat) (r6 : Int32) (rcd : Nat) (r8 : Int32) (rst : Nat) (r10 : Int32) (r11 : Int32) (r12 : Int32) (r13 : Int32) (r14 : Int32) (r15 : Int32)  : Met l yX2_passWord wsX2_passWord ({ frames := 3, cells := 0, slots := 0, locals := 800 }) (va_Pc [.ref re, .ref qs] (pz_B dC dI [] [(re, .inr (2, [.ref rtp, .int 0, .int (-1), .int 0, .int 0, .int 0, .int r6, .ref rcd, .int r8, .ref rst, .int r10, .int r11, .int r12, .int r13, .int r14, .int r15]))] sz)) (vp_Si (fun r => r = 0)) 0 0 (fun _ => False) := by
  refine Met.ofW (cc := cX2_passWord) (maxL := 3) (ret := some .boolean) (by decide) rfl ?_
  intro p e s m args below meth c s₁ B hml hv
  obtain ⟨rfl, hsz, hP, hK, hD0, hN⟩ := hv
  have hx := B.exec
  have hb := B.bytes
  have hr := B.returns
  have hts := atoms_spec (ws := wsX2_passWord) B.pre
  have hown : s.vm.findClass RX2 = some m.cls := findClass_of_methodNamed B.named
  have hlocks := B.notSynchronized
  subst hsz
  have hD := hD0
  have hS : va_S (fun _ => True) s.heap s.heap [] := va_S.rf
  have hl := lv_entry ([.ref re, .ref qs]) (n := 3) (Nat.le_of_ble_eq_true rfl)
  rw [lg_entry_eq]
  generalize (lg_sl ([.ref re, .ref qs]) ++ List.replicate (3 - (lg_sl ([.ref re, .ref qs])).length) Slot.unset).toArray = ls at hl ⊢
  have hl : lv_has ls 3 [(0, .ref re), (1, .ref qs)] := hl
  have hfX2 : ∀ w ∈ wsX20, w ∈ wsX2_passWord := fun w h => List.mem_cons_of_mem _ (List.mem_append_right _ h)
  refine lv_aload_n hx hb dX2_passWord_0 rfl (lv_at hl 0 rfl) ?_
  refine lv_aload_n hx hb dX2_passWord_1 rfl (lv_at hl 1 rfl) ?_
  have hPc := hP.sub (ws' := [(re, .inr (2, [.ref rtp, .int 0, .int (-1), .int 0, .int 0, .int 0, .int r6, .ref rcd, .int r8, .ref rst, .int r10, .int r11, .int r12, .int r13, .int r14, .int r15]))]) [0] rfl
  have hDc := hD.sub (ws' := [(re, .inr (2, [.ref rtp, .int 0, .int (-1), .int 0, .int 0, .int 0, .int r6, .ref rcd, .int r8, .ref rst, .int r10, .int r11, .int r12, .int r13, .int r14, .int r15]))]) [0] (by decide +kernel) rfl
  have hKc := hK.sub (tys' := []) [] rfl
  refine pz_calli (va_runV (As := [.ref qs]) (rest := []) ⟨hx, hb, hml, hown, hts⟩ (c_X2_isWord l dC dI _ re qs rtp r6 rcd r8 rst r10 r11 r12 r13 r14 r15) (cwV 1 hts gX2_passWord_X2_isWord rfl rfl rfl (by decide +kernel) ⟨Nat.le_of_ble_eq_true rfl, Nat.le_of_ble_eq_true rfl⟩) ⟨pz_blind, va_recv hKc hPc (ci := 2) (q0 := 0) rfl rfl, pz_pre hPc hKc hDc hN⟩ rfl rfl hl.1 rfl (lv_room (Nat.le_of_ble_eq_true rfl)) dX2_passWord_2 ⟨Nat.le_of_ble_eq_true rfl, Nat.le_of_ble_eq_true rfl⟩) (fun r1 hw => ?_)
  obtain rfl : 0 = r1 := hw.symm
  refine lv_istore_n (lv' := [(2, .int 0), (0, .ref re), (1, .ref qs)]) hx hb dX2_passWord_5 rfl hl (by decide) rfl (fun ls hl => ?_)
  refine lv_iload_n hx hb dX2_passWord_6 rfl (lv_at hl 0 rfl) ?_
  refine lv_if_eq (tgt := 14) hx hb dX2_passWord_7 (by decide) (fun _ => ?_) (fun c9 => absurd c9 (by decide))
  refine lv_iload_n hx hb dX2_passWord_14 rfl (lv_at hl 0 rfl) ?_
  exact W.zret (v := 0) hx hb hr rfl (fun t ht hW => ⟨0, rfl, rfl, ht⟩) (fun _ h => by cases h) dX2_passWord_15
set_option maxHeartbeats 4000000 in
set_option maxRecDepth 100000 in
theorem c_X2_advance (l : Launch) (dC : Nat → ClassId) (dI : Nat → Nat → Nat) (sz : Nat) (re : Nat) (rtp : Nat) (r3 : Int32) (r4 : Int32) (r6 : Int32) (rcd : Nat) (r8 : Int32) (rst : Nat) (r10 : Int32) (r11 : Int32) (r12 : Int32) (r13 : Int32) (r14 : Int32) (r15 : Int32)  : Met l yX2_advance wsX2_advance ({ frames := 3, cells := 0, slots := 0, locals := 800 }) (va_Pc [.ref re] (pz_B dC dI [] [(re, .inr (2, [.ref rtp, .int 0, .int (-1), .int r3, .int r4, .int 0, .int r6, .ref rcd, .int r8, .ref rst, .int r10, .int r11, .int r12, .int r13, .int r14, .int r15]))] sz)) (va_Qv (fun (_ : Unit) => True) (fun (_ : Unit) (t : State) => pz_E dC dI [] (va_A [(re, .inr (2, [.ref rtp, .int 0, .int (-1), .int r3, .int r4, .int 0, .int r6, .ref rcd, .int r8, .ref rst, .int r10, .int r11, .int r12, .int r13, .int r14, .int r15]))] sz) [(re, .inr (2, [.ref rtp, .int 0, .int (-1), .int 0, .int 0, .int 0, .int r6, .ref rcd, .int r8, .ref rst, .int r10, .int r11, .int r12, .int r13, .int r14, .int r15]))] t) (va_A [(re, .inr (2, [.ref rtp, .int 0, .int (-1), .int r3, .int r4, .int 0, .int r6, .ref rcd, .int r8, .ref rst, .int r10, .int r11, .int r12, .int r13, .int r14, .int r15]))] sz)) 0 0 (va_A [(re, .inr (2, [.ref rtp, .int 0, .int (-1), .int r3, .int r4, .int 0, .int r6, .ref rcd, .int r8, .ref rst, .int r10, .int r11, .int r12, .int r13, .int r14, .int r15]))] sz) := by
  refine Met.ofW (cc := cX2_advance) (maxL := 1) (ret := none) (by decide) rfl ?_
  intro p e s m args below meth c s₁ B hml hv
  obtain ⟨rfl, hsz, hP, hK, hD0, hN⟩ := hv
  have hx := B.exec
  have hb := B.bytes
  have hr := B.returns
  have hts := atoms_spec (ws := wsX2_advance) B.pre
  have hown : s.vm.findClass RX2 = some m.cls := findClass_of_methodNamed B.named
  have hlocks := B.notSynchronized
  subst hsz
  have hD := hD0.self (sz := s.heap.size)
  generalize hAe : va_A [(re, .inr (2, [.ref rtp, .int 0, .int (-1), .int r3, .int r4, .int 0, .int r6, .ref rcd, .int r8, .ref rst, .int r10, .int r11, .int r12, .int r13, .int r14, .int r15]))] s.heap.size = A at hD ⊢
  have hA : ∀ q : Nat, s.heap.size ≤ q → A q := fun q h => by rw [← hAe]; exact Or.inr h
  have hS : va_S A s.heap s.heap [] := va_S.rf
  have hl := lv_entry ([.ref re]) (n := 1) (Nat.le_of_ble_eq_true rfl)
  rw [lg_entry_eq]
  generalize (lg_sl ([.ref re]) ++ List.replicate (1 - (lg_sl ([.ref re])).length) Slot.unset).toArray = ls at hl ⊢
  have hl : lv_has ls 1 [(0, .ref re)] := hl
  have hfX2 : ∀ w ∈ wsX20, w ∈ wsX2_advance := fun w h => List.mem_cons_of_mem _ (List.mem_append_right _ h)
  refine lv_aload_n hx hb dX2_advance_0 rfl (lv_at hl 0 rfl) ?_
  refine lv_aload_n hx hb dX2_advance_1 rfl (lv_at hl 0 rfl) ?_
  refine va_get (D := (dC, dI)) (ci := 2) (v := .int 0) (C := RX2) (T := TX2) (N := 16) hx hb hts hfX2 hown hK hP 0 rfl rfl 5 (by decide) (hts (.fieldLink RX2 29 "ColdShips$Reader" "behind" "I") (by decide +kernel)) (fun _ h9 => h9) rfl dX2_advance_2 ?_
  refine va_put (D := (dC, dI)) (ci := 2) (v := .int 0) (ty := .int) (C := RX2) (T := TX2) (N := 16) hx hb hts hfX2 tyX2 tyX2_ok nmX2 hown hK hP hD hS 0 rfl rfl 3 (by decide) (hts (.fieldLink RX2 60 "ColdShips$Reader" "place" "I") (by decide +kernel)) (fun _ h9 => h9) rfl (by decide +kernel) rfl rfl (Nat.le_of_ble_eq_true rfl) dX2_advance_5 (fun H locs hP hD hS => ?_)
  have hP : va_P (dC, dI) vwCl [(re, .inr (2, [.ref rtp, .int 0, .int (-1), .int 0, .int r4, .int 0, .int r6, .ref rcd, .int r8, .ref rst, .int r10, .int r11, .int r12, .int r13, .int r14, .int r15]))] H := hP
  have hD : va_D A [(re, .inr (2, [.ref rtp, .int 0, .int (-1), .int 0, .int r4, .int 0, .int r6, .ref rcd, .int r8, .ref rst, .int r10, .int r11, .int r12, .int r13, .int r14, .int r15]))] := hD
  refine lv_aload_n hx hb dX2_advance_8 rfl (lv_at hl 0 rfl) ?_
  refine va_get (D := (dC, dI)) (ci := 2) (v := .int 0) (C := RX2) (T := TX2) (N := 16) hx hb hts hfX2 hown hK hP 0 rfl rfl 3 (by decide) (hts (.fieldLink RX2 60 "ColdShips$Reader" "place" "I") (by decide +kernel)) (fun _ h9 => h9) rfl dX2_advance_9 ?_
  refine lv_aload_n hx hb dX2_advance_12 rfl (lv_at hl 0 rfl) ?_
  refine va_get (D := (dC, dI)) (ci := 2) (v := .int 0) (C := RX2) (T := TX2) (N := 16) hx hb hts hfX2 hown hK hP 0 rfl rfl 1 (by decide) (hts (.fieldLink RX2 26 "ColdShips$Reader" "size" "I") (by decide +kernel)) (fun _ h9 => h9) rfl dX2_advance_13 ?_
  refine lv_icmp_ge (tgt := 46) hx hb dX2_advance_16 (by decide) (fun _ => ?_) (fun c9 => absurd c9 (by decide))
  refine lv_aload_n hx hb dX2_advance_46 rfl (lv_at hl 0 rfl) ?_
  refine lv_aload_n hx hb dX2_advance_47 rfl (lv_at hl 0 rfl) ?_
  refine va_get (D := (dC, dI)) (ci := 2) (v := .int 0) (C := RX2) (T := TX2) (N := 16) hx hb hts hfX2 hown hK hP 0 rfl rfl 3 (by decide) (hts (.fieldLink RX2 60 "ColdShips$Reader" "place" "I") (by decide +kernel)) (fun _ h9 => h9) rfl dX2_advance_48 ?_
  refine va_put (D := (dC, dI)) (ci := 2) (v := .int 0) (ty := .int) (C := RX2) (T := TX2) (N := 16) hx hb hts hfX2 tyX2 tyX2_ok nmX2 hown hK hP hD hS 0 rfl rfl 5 (by decide) (hts (.fieldLink RX2 29 "ColdShips$Reader" "behind" "I") (by decide +kernel)) (fun _ h9 => h9) rfl (by decide +kernel) rfl rfl (Nat.le_of_ble_eq_true rfl) dX2_advance_51 (fun H locs hP hD hS => ?_)
  have hP : va_P (dC, dI) vwCl [(re, .inr (2, [.ref rtp, .int 0, .int (-1), .int 0, .int r4, .int 0, .int r6, .ref rcd, .int r8, .ref rst, .int r10, .int r11, .int r12, .int r13, .int r14, .int r15]))] H := hP
  have hD : va_D A [(re, .inr (2, [.ref rtp, .int 0, .int (-1), .int 0, .int r4, .int 0, .int r6, .ref rcd, .int r8, .ref rst, .int r10, .int r11, .int r12, .int r13, .int r14, .int r15]))] := hD
  refine lv_aload_n hx hb dX2_advance_54 rfl (lv_at hl 0 rfl) ?_
  refine va_get (D := (dC, dI)) (ci := 2) (v := .int 0) (C := RX2) (T := TX2) (N := 16) hx hb hts hfX2 hown hK hP 0 rfl rfl 3 (by decide) (hts (.fieldLink RX2 60 "ColdShips$Reader" "place" "I") (by decide +kernel)) (fun _ h9 => h9) rfl dX2_advance_55 ?_
  refine lv_aload_n hx hb dX2_advance_58 rfl (lv_at hl 0 rfl) ?_
  refine va_get (D := (dC, dI)) (ci := 2) (v := .int 0) (C := RX2) (T := TX2) (N := 16) hx hb hts hfX2 hown hK hP 0 rfl rfl 1 (by decide) (hts (.fieldLink RX2 26 "ColdShips$Reader" "size" "I") (by decide +kernel)) (fun _ h9 => h9) rfl dX2_advance_59 ?_
  refine lv_icmp_lt (tgt := 73) hx hb dX2_advance_62 (by decide) (fun c9 => absurd c9 (by decide)) (fun _ => ?_)
  refine lv_aload_n hx hb dX2_advance_65 rfl (lv_at hl 0 rfl) ?_
  refine lv_iconst (v := 0) hx hb dX2_advance_66 (by decide) ?_
  refine va_put (D := (dC, dI)) (ci := 2) (v := .int 0) (ty := .int) (C := RX2) (T := TX2) (N := 16) hx hb hts hfX2 tyX2 tyX2_ok nmX2 hown hK hP hD hS 0 rfl rfl 4 (by decide) (hts (.fieldLink RX2 77 "ColdShips$Reader" "kind" "I") (by decide +kernel)) (fun _ h9 => h9) rfl (by decide +kernel) rfl rfl (Nat.le_of_ble_eq_true rfl) dX2_advance_67 (fun H locs hP hD hS => ?_)
  have hP : va_P (dC, dI) vwCl [(re, .inr (2, [.ref rtp, .int 0, .int (-1), .int 0, .int 0, .int 0, .int r6, .ref rcd, .int r8, .ref rst, .int r10, .int r11, .int r12, .int r13, .int r14, .int r15]))] H := hP
  have hD : va_D A [(re, .inr (2, [.ref rtp, .int 0, .int (-1), .int 0, .int 0, .int 0, .int r6, .ref rcd, .int r8, .ref rst, .int r10, .int r11, .int r12, .int r13, .int r14, .int r15]))] := hD
  refine lv_goto (tgt := 240) hx hb dX2_advance_70 (by decide) ?_
  have hP9 := hP.sub (ws' := [(re, .inr (2, [.ref rtp, .int 0, .int (-1), .int 0, .int 0, .int 0, .int r6, .ref rcd, .int r8, .ref rst, .int r10, .int r11, .int r12, .int r13, .int r14, .int r15]))]) [0] rfl
  have hD9 := hD.sub (ws' := [(re, .inr (2, [.ref rtp, .int 0, .int (-1), .int 0, .int 0, .int 0, .int r6, .ref rcd, .int r8, .ref rst, .int r10, .int r11, .int r12, .int r13, .int r14, .int r15]))]) [0] (by decide +kernel) rfl
  have hK9 := hK.sub (tys' := []) [] rfl
  exact W.vret hx hb hr (fun t ht hW => ⟨⟨(), rfl, trivial, ⟨by rw [ht]; exact hP9, va_K.moved hW.alike hK9, hD9⟩⟩, hS.F ht⟩) hS.2.2 dX2_advance_240
set_option maxHeartbeats 4000000 in
set_option maxRecDepth 100000 in
theorem c_X2_readClause (l : Launch) (dC : Nat → ClassId) (dI : Nat → Nat → Nat) (sz : Nat) (re : Nat) (rtp : Nat) (r6 : Int32) (rcd : Nat) (r8 : Int32) (rst : Nat) (r10 : Int32) (r11 : Int32) (r12 : Int32) (r13 : Int32) (r14 : Int32) (r15 : Int32)  : Met l yX2_readClause wsX2_readClause ({ frames := 4, cells := 0, slots := 0, locals := 1200 }) (va_Pc [.ref re] (pz_B dC dI [] [(re, .inr (2, [.ref rtp, .int 0, .int (-1), .int 0, .int 0, .int 0, .int r6, .ref rcd, .int r8, .ref rst, .int r10, .int r11, .int r12, .int r13, .int r14, .int r15]))] sz)) (vp_Si (fun r => r = 0)) 0 0 (fun _ => False) := by
  refine Met.ofW (cc := cX2_readClause) (maxL := 1) (ret := some .boolean) (by decide) rfl ?_
  intro p e s m args below meth c s₁ B hml hv
  obtain ⟨rfl, hsz, hP, hK, hD0, hN⟩ := hv
  have hx := B.exec
  have hb := B.bytes
  have hr := B.returns
  have hts := atoms_spec (ws := wsX2_readClause) B.pre
  have hown : s.vm.findClass RX2 = some m.cls := findClass_of_methodNamed B.named
  have hlocks := B.notSynchronized
  subst hsz
  have hD := hD0
  have hS : va_S (fun _ => True) s.heap s.heap [] := va_S.rf
  have hl := lv_entry ([.ref re]) (n := 1) (Nat.le_of_ble_eq_true rfl)
  rw [lg_entry_eq]
  generalize (lg_sl ([.ref re]) ++ List.replicate (1 - (lg_sl ([.ref re])).length) Slot.unset).toArray = ls at hl ⊢
  have hl : lv_has ls 1 [(0, .ref re)] := hl
  have hfX2 : ∀ w ∈ wsX20, w ∈ wsX2_readClause := fun w h => List.mem_cons_of_mem _ (List.mem_append_right _ h)
  refine lv_aload_n hx hb dX2_readClause_0 rfl (lv_at hl 0 rfl) ?_
  obtain ⟨q1, hsq1⟩ := hN.2.2.2.2.2 (84, "window") (by decide)
  refine va_ldcS hx hb hown hsq1 dX2_readClause_1 ?_
  have hPc := hP.sub (ws' := [(re, .inr (2, [.ref rtp, .int 0, .int (-1), .int 0, .int 0, .int 0, .int r6, .ref rcd, .int r8, .ref rst, .int r10, .int r11, .int r12, .int r13, .int r14, .int r15]))]) [0] rfl
  have hDc := hD.sub (ws' := [(re, .inr (2, [.ref rtp, .int 0, .int (-1), .int 0, .int 0, .int 0, .int r6, .ref rcd, .int r8, .ref rst, .int r10, .int r11, .int r12, .int r13, .int r14, .int r15]))]) [0] (by decide +kernel) rfl
  have hKc := hK.sub (tys' := []) [] rfl
  refine pz_calli (va_runV (As := [.ref q1]) (rest := []) ⟨hx, hb, hml, hown, hts⟩ (c_X2_passWord l dC dI _ re q1 rtp r6 rcd r8 rst r10 r11 r12 r13 r14 r15) (cwV 1 hts gX2_readClause_X2_passWord rfl rfl rfl (by decide +kernel) ⟨Nat.le_of_ble_eq_true rfl, Nat.le_of_ble_eq_true rfl⟩) ⟨pz_blind, va_recv hKc hPc (ci := 2) (q0 := 0) rfl rfl, pz_pre hPc hKc hDc hN⟩ rfl rfl hl.1 rfl (lv_room (Nat.le_of_ble_eq_true rfl)) dX2_readClause_3 ⟨Nat.le_of_ble_eq_true rfl, Nat.le_of_ble_eq_true rfl⟩) (fun r2 hw => ?_)
  obtain rfl : 0 = r2 := hw.symm
  refine lv_if_eq (tgt := 14) hx hb dX2_readClause_6 (by decide) (fun _ => ?_) (fun c9 => absurd c9 (by decide))
  refine lv_aload_n hx hb dX2_readClause_14 rfl (lv_at hl 0 rfl) ?_
  obtain ⟨q3, hsq3⟩ := hN.2.2.2.2.2 (93, "at") (by decide)
  refine va_ldcS hx hb hown hsq3 dX2_readClause_15 ?_
  have hPc := hP.sub (ws' := [(re, .inr (2, [.ref rtp, .int 0, .int (-1), .int 0, .int 0, .int 0, .int r6, .ref rcd, .int r8, .ref rst, .int r10, .int r11, .int r12, .int r13, .int r14, .int r15]))]) [0] rfl
  have hDc := hD.sub (ws' := [(re, .inr (2, [.ref rtp, .int 0, .int (-1), .int 0, .int 0, .int 0, .int r6, .ref rcd, .int r8, .ref rst, .int r10, .int r11, .int r12, .int r13, .int r14, .int r15]))]) [0] (by decide +kernel) rfl
  have hKc := hK.sub (tys' := []) [] rfl
  refine pz_calli (va_runV (As := [.ref q3]) (rest := []) ⟨hx, hb, hml, hown, hts⟩ (c_X2_passWord l dC dI _ re q3 rtp r6 rcd r8 rst r10 r11 r12 r13 r14 r15) (cwV 1 hts gX2_readClause_X2_passWord rfl rfl rfl (by decide +kernel) ⟨Nat.le_of_ble_eq_true rfl, Nat.le_of_ble_eq_true rfl⟩) ⟨pz_blind, va_recv hKc hPc (ci := 2) (q0 := 0) rfl rfl, pz_pre hPc hKc hDc hN⟩ rfl rfl hl.1 rfl (lv_room (Nat.le_of_ble_eq_true rfl)) dX2_readClause_17 ⟨Nat.le_of_ble_eq_true rfl, Nat.le_of_ble_eq_true rfl⟩) (fun r4 hw => ?_)
  obtain rfl : 0 = r4 := hw.symm
  refine lv_if_eq (tgt := 48) hx hb dX2_readClause_20 (by decide) (fun _ => ?_) (fun c9 => absurd c9 (by decide))
  refine lv_aload_n hx hb dX2_readClause_48 rfl (lv_at hl 0 rfl) ?_
  obtain ⟨q5, hsq5⟩ := hN.2.2.2.2.2 (102, "pay") (by decide)
  refine va_ldcS hx hb hown hsq5 dX2_readClause_49 ?_
  have hPc := hP.sub (ws' := [(re, .inr (2, [.ref rtp, .int 0, .int (-1), .int 0, .int 0, .int 0, .int r6, .ref rcd, .int r8, .ref rst, .int r10, .int r11, .int r12, .int r13, .int r14, .int r15]))]) [0] rfl
  have hDc := hD.sub (ws' := [(re, .inr (2, [.ref rtp, .int 0, .int (-1), .int 0, .int 0, .int 0, .int r6, .ref rcd, .int r8, .ref rst, .int r10, .int r11, .int r12, .int r13, .int r14, .int r15]))]) [0] (by decide +kernel) rfl
  have hKc := hK.sub (tys' := []) [] rfl
  refine pz_calli (va_runV (As := [.ref q5]) (rest := []) ⟨hx, hb, hml, hown, hts⟩ (c_X2_passWord l dC dI _ re q5 rtp r6 rcd r8 rst r10 r11 r12 r13 r14 r15) (cwV 1 hts gX2_readClause_X2_passWord rfl rfl rfl (by decide +kernel) ⟨Nat.le_of_ble_eq_true rfl, Nat.le_of_ble_eq_true rfl⟩) ⟨pz_blind, va_recv hKc hPc (ci := 2) (q0 := 0) rfl rfl, pz_pre hPc hKc hDc hN⟩ rfl rfl hl.1 rfl (lv_room (Nat.le_of_ble_eq_true rfl)) dX2_readClause_51 ⟨Nat.le_of_ble_eq_true rfl, Nat.le_of_ble_eq_true rfl⟩) (fun r6 hw => ?_)
  obtain rfl : 0 = r6 := hw.symm
  refine lv_if_eq (tgt := 64) hx hb dX2_readClause_54 (by decide) (fun _ => ?_) (fun c9 => absurd c9 (by decide))
  refine lv_aload_n hx hb dX2_readClause_64 rfl (lv_at hl 0 rfl) ?_
  obtain ⟨q7, hsq7⟩ := hN.2.2.2.2.2 (108, "fine") (by decide)
  refine va_ldcS hx hb hown hsq7 dX2_readClause_65 ?_
  have hPc := hP.sub (ws' := [(re, .inr (2, [.ref rtp, .int 0, .int (-1), .int 0, .int 0, .int 0, .int r6, .ref rcd, .int r8, .ref rst, .int r10, .int r11, .int r12, .int r13, .int r14, .int r15]))]) [0] rfl
  have hDc := hD.sub (ws' := [(re, .inr (2, [.ref rtp, .int 0, .int (-1), .int 0, .int 0, .int 0, .int r6, .ref rcd, .int r8, .ref rst, .int r10, .int r11, .int r12, .int r13, .int r14, .int r15]))]) [0] (by decide +kernel) rfl
  have hKc := hK.sub (tys' := []) [] rfl
  refine pz_calli (va_runV (As := [.ref q7]) (rest := []) ⟨hx, hb, hml, hown, hts⟩ (c_X2_passWord l dC dI _ re q7 rtp r6 rcd r8 rst r10 r11 r12 r13 r14 r15) (cwV 1 hts gX2_readClause_X2_passWord rfl rfl rfl (by decide +kernel) ⟨Nat.le_of_ble_eq_true rfl, Nat.le_of_ble_eq_true rfl⟩) ⟨pz_blind, va_recv hKc hPc (ci := 2) (q0 := 0) rfl rfl, pz_pre hPc hKc hDc hN⟩ rfl rfl hl.1 rfl (lv_room (Nat.le_of_ble_eq_true rfl)) dX2_readClause_67 ⟨Nat.le_of_ble_eq_true rfl, Nat.le_of_ble_eq_true rfl⟩) (fun r8 hw => ?_)
  obtain rfl : 0 = r8 := hw.symm
  refine lv_if_eq (tgt := 86) hx hb dX2_readClause_70 (by decide) (fun _ => ?_) (fun c9 => absurd c9 (by decide))
  refine lv_iconst (v := 0) hx hb dX2_readClause_86 (by decide) ?_
  exact W.zret (v := 0) hx hb hr rfl (fun t ht hW => ⟨0, rfl, rfl, ht⟩) (fun _ h => by cases h) dX2_readClause_87
set_option maxHeartbeats 4000000 in
set_option maxRecDepth 100000 in
theorem c_X2_readClauses (l : Launch) (dC : Nat → ClassId) (dI : Nat → Nat → Nat) (sz : Nat) (re : Nat) (rtp : Nat) (r6 : Int32) (rcd : Nat) (r8 : Int32) (rst : Nat) (r10 : Int32) (r11 : Int32) (r12 : Int32) (r13 : Int32) (r14 : Int32) (r15 : Int32)  : Met l yX2_readClauses wsX2_readClauses ({ frames := 5, cells := 0, slots := 0, locals := 1600 }) (va_Pc [.ref re] (pz_B dC dI [] [(re, .inr (2, [.ref rtp, .int 0, .int (-1), .int 0, .int 0, .int 0, .int r6, .ref rcd, .int r8, .ref rst, .int r10, .int r11, .int r12, .int r13, .int r14, .int r15]))] sz)) (vp_Si (fun r => r = 0)) 0 0 (fun _ => False) := by
  refine Met.ofW (cc := cX2_readClauses) (maxL := 2) (ret := some .boolean) (by decide) rfl ?_
  intro p e s m args below meth c s₁ B hml hv
  obtain ⟨rfl, hsz, hP, hK, hD0, hN⟩ := hv
  have hx := B.exec
  have hb := B.bytes
  have hr := B.returns
  have hts := atoms_spec (ws := wsX2_readClauses) B.pre
  have hown : s.vm.findClass RX2 = some m.cls := findClass_of_methodNamed B.named
  have hlocks := B.notSynchronized
  subst hsz
  have hD := hD0
  have hS : va_S (fun _ => True) s.heap s.heap [] := va_S.rf
  have hl := lv_entry ([.ref re]) (n := 2) (Nat.le_of_ble_eq_true rfl)
  rw [lg_entry_eq]
  generalize (lg_sl ([.ref re]) ++ List.replicate (2 - (lg_sl ([.ref re])).length) Slot.unset).toArray = ls at hl ⊢
  have hl : lv_has ls 2 [(0, .ref re)] := hl
  have hfX2 : ∀ w ∈ wsX20, w ∈ wsX2_readClauses := fun w h => List.mem_cons_of_mem _ (List.mem_append_right _ h)
  refine lv_iconst (v := 0) hx hb dX2_readClauses_0 (by decide) ?_
  refine lv_istore_n (lv' := [(1, .int 0), (0, .ref re)]) hx hb dX2_readClauses_1 rfl hl (by decide) rfl (fun ls hl => ?_)
  refine lv_iload_n hx hb dX2_readClauses_2 rfl (lv_at hl 0 rfl) ?_
  refine lv_bipush (v := 12) hx hb dX2_readClauses_3 (by decide) ?_
  refine lv_icmp_ge (tgt := 43) hx hb dX2_readClauses_5 (by decide) (fun c9 => absurd c9 (by decide)) (fun _ => ?_)
  refine lv_aload_n hx hb dX2_readClauses_8 rfl (lv_at hl 1 rfl) ?_
  have hPc := hP.sub (ws' := [(re, .inr (2, [.ref rtp, .int 0, .int (-1), .int 0, .int 0, .int 0, .int r6, .ref rcd, .int r8, .ref rst, .int r10, .int r11, .int r12, .int r13, .int r14, .int r15]))]) [0] rfl
  have hDc := hD.sub (ws' := [(re, .inr (2, [.ref rtp, .int 0, .int (-1), .int 0, .int 0, .int 0, .int r6, .ref rcd, .int r8, .ref rst, .int r10, .int r11, .int r12, .int r13, .int r14, .int r15]))]) [0] (by decide +kernel) rfl
  have hKc := hK.sub (tys' := []) [] rfl
  refine pz_calli (va_runV (As := []) (rest := []) ⟨hx, hb, hml, hown, hts⟩ (c_X2_readClause l dC dI _ re rtp r6 rcd r8 rst r10 r11 r12 r13 r14 r15) (cwV 0 hts gX2_readClauses_X2_readClause rfl rfl rfl (by decide +kernel) ⟨Nat.le_of_ble_eq_true rfl, Nat.le_of_ble_eq_true rfl⟩) ⟨pz_blind, va_recv hKc hPc (ci := 2) (q0 := 0) rfl rfl, pz_pre hPc hKc hDc hN⟩ rfl rfl hl.1 rfl (lv_room (Nat.le_of_ble_eq_true rfl)) dX2_readClauses_9 ⟨Nat.le_of_ble_eq_true rfl, Nat.le_of_ble_eq_true rfl⟩) (fun r1 hw => ?_)
  obtain rfl : 0 = r1 := hw.symm
  refine lv_if_ne (tgt := 17) hx hb dX2_readClauses_12 (by decide) (fun c9 => absurd c9 (by decide)) (fun _ => ?_)
  refine lv_iconst (v := 0) hx hb dX2_readClauses_15 (by decide) ?_
  exact W.zret (v := 0) hx hb hr rfl (fun t ht hW => ⟨0, rfl, rfl, ht⟩) (fun _ h => by cases h) dX2_readClauses_16
set_option maxHeartbeats 4000000 in
set_option maxRecDepth 100000 in
theorem c_X2_readTape (l : Launch) (dC : Nat → ClassId) (dI : Nat → Nat → Nat) (sz : Nat) (re : Nat) (rtp : Nat) (r3 : Int32) (r4 : Int32) (r5 : Int32) (r6 : Int32) (rcd : Nat) (r8 : Int32) (rst : Nat) (r10 : Int32) (r11 : Int32) (r12 : Int32) (r13 : Int32) (r14 : Int32) (r15 : Int32)  : Met l yX2_readTape wsX2_readTape ({ frames := 6, cells := 0, slots := 0, locals := 2000 }) (va_Pc [.ref re] (pz_B dC dI [] [(re, .inr (2, [.ref rtp, .int 0, .int (-1), .int r3, .int r4, .int r5, .int r6, .ref rcd, .int r8, .ref rst, .int r10, .int r11, .int r12, .int r13, .int r14, .int r15]))] sz)) (pz_Qn (fun (_ : Unit) (t : State) => pz_E dC dI [] (va_A [(re, .inr (2, [.ref rtp, .int 0, .int (-1), .int r3, .int r4, .int r5, .int r6, .ref rcd, .int r8, .ref rst, .int r10, .int r11, .int r12, .int r13, .int r14, .int r15]))] sz) [(re, .inr (2, [.ref rtp, .int 0, .int 0, .int 0, .int 0, .int 0, .int r6, .ref rcd, .int 0, .ref rst, .int 0, .int 0, .int 0, .int 0, .int 2399, .int (-1)]))] t) (va_A [(re, .inr (2, [.ref rtp, .int 0, .int (-1), .int r3, .int r4, .int r5, .int r6, .ref rcd, .int r8, .ref rst, .int r10, .int r11, .int r12, .int r13, .int r14, .int r15]))] sz)) 0 0 (va_A [(re, .inr (2, [.ref rtp, .int 0, .int (-1), .int r3, .int r4, .int r5, .int r6, .ref rcd, .int r8, .ref rst, .int r10, .int r11, .int r12, .int r13, .int r14, .int r15]))] sz) := by
  refine Met.ofW (cc := cX2_readTape) (maxL := 2) (ret := some (.object "ColdShips$Contract")) (by decide) rfl ?_
  intro p e s m args below meth c s₁ B hml hv
  obtain ⟨rfl, hsz, hP, hK, hD0, hN⟩ := hv
  have hx := B.exec
  have hb := B.bytes
  have hr := B.returns
  have hts := atoms_spec (ws := wsX2_readTape) B.pre
  have hown : s.vm.findClass RX2 = some m.cls := findClass_of_methodNamed B.named
  have hlocks := B.notSynchronized
  subst hsz
  have hD := hD0.self (sz := s.heap.size)
  generalize hAe : va_A [(re, .inr (2, [.ref rtp, .int 0, .int (-1), .int r3, .int r4, .int r5, .int r6, .ref rcd, .int r8, .ref rst, .int r10, .int r11, .int r12, .int r13, .int r14, .int r15]))] s.heap.size = A at hD ⊢
  have hA : ∀ q : Nat, s.heap.size ≤ q → A q := fun q h => by rw [← hAe]; exact Or.inr h
  have hS : va_S A s.heap s.heap [] := va_S.rf
  have hl := lv_entry ([.ref re]) (n := 2) (Nat.le_of_ble_eq_true rfl)
  rw [lg_entry_eq]
  generalize (lg_sl ([.ref re]) ++ List.replicate (2 - (lg_sl ([.ref re])).length) Slot.unset).toArray = ls at hl ⊢
  have hl : lv_has ls 2 [(0, .ref re)] := hl
  have hfX2 : ∀ w ∈ wsX20, w ∈ wsX2_readTape := fun w h => List.mem_cons_of_mem _ (List.mem_append_left _ (List.mem_append_right _ h))
  have hfX0 : ∀ w ∈ wsX00, w ∈ wsX2_readTape := fun w h => List.mem_cons_of_mem _ (List.mem_append_right _ h)
  refine lv_aload_n hx hb dX2_readTape_0 rfl (lv_at hl 0 rfl) ?_
  refine lv_iconst (v := 0) hx hb dX2_readTape_1 (by decide) ?_
  refine va_put (D := (dC, dI)) (ci := 2) (v := .int 0) (ty := .int) (C := RX2) (T := TX2) (N := 16) hx hb hts hfX2 tyX2 tyX2_ok nmX2 hown hK hP hD hS 0 rfl rfl 5 (by decide) (hts (.fieldLink RX2 29 "ColdShips$Reader" "behind" "I") (by decide +kernel)) (fun _ h9 => h9) rfl (by decide +kernel) rfl rfl (Nat.le_of_ble_eq_true rfl) dX2_readTape_2 (fun H locs hP hD hS => ?_)
  have hP : va_P (dC, dI) vwCl [(re, .inr (2, [.ref rtp, .int 0, .int (-1), .int r3, .int r4, .int 0, .int r6, .ref rcd, .int r8, .ref rst, .int r10, .int r11, .int r12, .int r13, .int r14, .int r15]))] H := hP
  have hD : va_D A [(re, .inr (2, [.ref rtp, .int 0, .int (-1), .int r3, .int r4, .int 0, .int r6, .ref rcd, .int r8, .ref rst, .int r10, .int r11, .int r12, .int r13, .int r14, .int r15]))] := hD
  refine lv_aload_n hx hb dX2_readTape_5 rfl (lv_at hl 0 rfl) ?_
  refine lv_iconst (v := 0) hx hb dX2_readTape_6 (by decide) ?_
  refine va_put (D := (dC, dI)) (ci := 2) (v := .int 0) (ty := .int) (C := RX2) (T := TX2) (N := 16) hx hb hts hfX2 tyX2 tyX2_ok nmX2 hown hK hP hD hS 0 rfl rfl 8 (by decide) (hts (.fieldLink RX2 32 "ColdShips$Reader" "cells" "I") (by decide +kernel)) (fun _ h9 => h9) rfl (by decide +kernel) rfl rfl (Nat.le_of_ble_eq_true rfl) dX2_readTape_7 (fun H locs hP hD hS => ?_)
  have hP : va_P (dC, dI) vwCl [(re, .inr (2, [.ref rtp, .int 0, .int (-1), .int r3, .int r4, .int 0, .int r6, .ref rcd, .int 0, .ref rst, .int r10, .int r11, .int r12, .int r13, .int r14, .int r15]))] H := hP
  have hD : va_D A [(re, .inr (2, [.ref rtp, .int 0, .int (-1), .int r3, .int r4, .int 0, .int r6, .ref rcd, .int 0, .ref rst, .int r10, .int r11, .int r12, .int r13, .int r14, .int r15]))] := hD
  refine lv_aload_n hx hb dX2_readTape_10 rfl (lv_at hl 0 rfl) ?_
  refine lv_iconst (v := 0) hx hb dX2_readTape_11 (by decide) ?_
  refine va_put (D := (dC, dI)) (ci := 2) (v := .int 0) (ty := .int) (C := RX2) (T := TX2) (N := 16) hx hb hts hfX2 tyX2 tyX2_ok nmX2 hown hK hP hD hS 0 rfl rfl 10 (by decide) (hts (.fieldLink RX2 35 "ColdShips$Reader" "sums" "I") (by decide +kernel)) (fun _ h9 => h9) rfl (by decide +kernel) rfl rfl (Nat.le_of_ble_eq_true rfl) dX2_readTape_12 (fun H locs hP hD hS => ?_)
  have hP : va_P (dC, dI) vwCl [(re, .inr (2, [.ref rtp, .int 0, .int (-1), .int r3, .int r4, .int 0, .int r6, .ref rcd, .int 0, .ref rst, .int 0, .int r11, .int r12, .int r13, .int r14, .int r15]))] H := hP
  have hD : va_D A [(re, .inr (2, [.ref rtp, .int 0, .int (-1), .int r3, .int r4, .int 0, .int r6, .ref rcd, .int 0, .ref rst, .int 0, .int r11, .int r12, .int r13, .int r14, .int r15]))] := hD
  refine lv_aload_n hx hb dX2_readTape_15 rfl (lv_at hl 0 rfl) ?_
  refine lv_iconst (v := 0) hx hb dX2_readTape_16 (by decide) ?_
  refine va_put (D := (dC, dI)) (ci := 2) (v := .int 0) (ty := .int) (C := RX2) (T := TX2) (N := 16) hx hb hts hfX2 tyX2 tyX2_ok nmX2 hown hK hP hD hS 0 rfl rfl 11 (by decide) (hts (.fieldLink RX2 38 "ColdShips$Reader" "leaves" "I") (by decide +kernel)) (fun _ h9 => h9) rfl (by decide +kernel) rfl rfl (Nat.le_of_ble_eq_true rfl) dX2_readTape_17 (fun H locs hP hD hS => ?_)
  have hP : va_P (dC, dI) vwCl [(re, .inr (2, [.ref rtp, .int 0, .int (-1), .int r3, .int r4, .int 0, .int r6, .ref rcd, .int 0, .ref rst, .int 0, .int 0, .int r12, .int r13, .int r14, .int r15]))] H := hP
  have hD : va_D A [(re, .inr (2, [.ref rtp, .int 0, .int (-1), .int r3, .int r4, .int 0, .int r6, .ref rcd, .int 0, .ref rst, .int 0, .int 0, .int r12, .int r13, .int r14, .int r15]))] := hD
  refine lv_aload_n hx hb dX2_readTape_20 rfl (lv_at hl 0 rfl) ?_
  refine lv_iconst (v := 0) hx hb dX2_readTape_21 (by decide) ?_
  refine va_put (D := (dC, dI)) (ci := 2) (v := .int 0) (ty := .int) (C := RX2) (T := TX2) (N := 16) hx hb hts hfX2 tyX2 tyX2_ok nmX2 hown hK hP hD hS 0 rfl rfl 12 (by decide) (hts (.fieldLink RX2 41 "ColdShips$Reader" "brackets" "I") (by decide +kernel)) (fun _ h9 => h9) rfl (by decide +kernel) rfl rfl (Nat.le_of_ble_eq_true rfl) dX2_readTape_22 (fun H locs hP hD hS => ?_)
  have hP : va_P (dC, dI) vwCl [(re, .inr (2, [.ref rtp, .int 0, .int (-1), .int r3, .int r4, .int 0, .int r6, .ref rcd, .int 0, .ref rst, .int 0, .int 0, .int 0, .int r13, .int r14, .int r15]))] H := hP
  have hD : va_D A [(re, .inr (2, [.ref rtp, .int 0, .int (-1), .int r3, .int r4, .int 0, .int r6, .ref rcd, .int 0, .ref rst, .int 0, .int 0, .int 0, .int r13, .int r14, .int r15]))] := hD
  refine lv_aload_n hx hb dX2_readTape_25 rfl (lv_at hl 0 rfl) ?_
  refine lv_iconst (v := 0) hx hb dX2_readTape_26 (by decide) ?_
  refine va_put (D := (dC, dI)) (ci := 2) (v := .int 0) (ty := .int) (C := RX2) (T := TX2) (N := 16) hx hb hts hfX2 tyX2 tyX2_ok nmX2 hown hK hP hD hS 0 rfl rfl 13 (by decide) (hts (.fieldLink RX2 44 "ColdShips$Reader" "windowFrom" "I") (by decide +kernel)) (fun _ h9 => h9) rfl (by decide +kernel) rfl rfl (Nat.le_of_ble_eq_true rfl) dX2_readTape_27 (fun H locs hP hD hS => ?_)
  have hP : va_P (dC, dI) vwCl [(re, .inr (2, [.ref rtp, .int 0, .int (-1), .int r3, .int r4, .int 0, .int r6, .ref rcd, .int 0, .ref rst, .int 0, .int 0, .int 0, .int 0, .int r14, .int r15]))] H := hP
  have hD : va_D A [(re, .inr (2, [.ref rtp, .int 0, .int (-1), .int r3, .int r4, .int 0, .int r6, .ref rcd, .int 0, .ref rst, .int 0, .int 0, .int 0, .int 0, .int r14, .int r15]))] := hD
  refine lv_aload_n hx hb dX2_readTape_30 rfl (lv_at hl 0 rfl) ?_
  refine lv_sipush (v := 2399) hx hb dX2_readTape_31 (by decide) ?_
  refine va_put (D := (dC, dI)) (ci := 2) (v := .int 2399) (ty := .int) (C := RX2) (T := TX2) (N := 16) hx hb hts hfX2 tyX2 tyX2_ok nmX2 hown hK hP hD hS 0 rfl rfl 14 (by decide) (hts (.fieldLink RX2 47 "ColdShips$Reader" "windowTo" "I") (by decide +kernel)) (fun _ h9 => h9) rfl (by decide +kernel) rfl rfl (Nat.le_of_ble_eq_true rfl) dX2_readTape_34 (fun H locs hP hD hS => ?_)
  have hP : va_P (dC, dI) vwCl [(re, .inr (2, [.ref rtp, .int 0, .int (-1), .int r3, .int r4, .int 0, .int r6, .ref rcd, .int 0, .ref rst, .int 0, .int 0, .int 0, .int 0, .int 2399, .int r15]))] H := hP
  have hD : va_D A [(re, .inr (2, [.ref rtp, .int 0, .int (-1), .int r3, .int r4, .int 0, .int r6, .ref rcd, .int 0, .ref rst, .int 0, .int 0, .int 0, .int 0, .int 2399, .int r15]))] := hD
  refine lv_aload_n hx hb dX2_readTape_37 rfl (lv_at hl 0 rfl) ?_
  refine lv_iconst (v := (-1)) hx hb dX2_readTape_38 (by decide) ?_
  refine va_put (D := (dC, dI)) (ci := 2) (v := .int (-1)) (ty := .int) (C := RX2) (T := TX2) (N := 16) hx hb hts hfX2 tyX2 tyX2_ok nmX2 hown hK hP hD hS 0 rfl rfl 15 (by decide) (hts (.fieldLink RX2 50 "ColdShips$Reader" "wantedPlace" "I") (by decide +kernel)) (fun _ h9 => h9) rfl (by decide +kernel) rfl rfl (Nat.le_of_ble_eq_true rfl) dX2_readTape_39 (fun H locs hP hD hS => ?_)
  have hP : va_P (dC, dI) vwCl [(re, .inr (2, [.ref rtp, .int 0, .int (-1), .int r3, .int r4, .int 0, .int r6, .ref rcd, .int 0, .ref rst, .int 0, .int 0, .int 0, .int 0, .int 2399, .int (-1)]))] H := hP
  have hD : va_D A [(re, .inr (2, [.ref rtp, .int 0, .int (-1), .int r3, .int r4, .int 0, .int r6, .ref rcd, .int 0, .ref rst, .int 0, .int 0, .int 0, .int 0, .int 2399, .int (-1)]))] := hD
  refine lv_aload_n hx hb dX2_readTape_42 rfl (lv_at hl 0 rfl) ?_
  have hPc := hP.sub (ws' := [(re, .inr (2, [.ref rtp, .int 0, .int (-1), .int r3, .int r4, .int 0, .int r6, .ref rcd, .int 0, .ref rst, .int 0, .int 0, .int 0, .int 0, .int 2399, .int (-1)]))]) [0] rfl
  have hDc := hD.sub (ws' := [(re, .inr (2, [.ref rtp, .int 0, .int (-1), .int r3, .int r4, .int 0, .int r6, .ref rcd, .int 0, .ref rst, .int 0, .int 0, .int 0, .int 0, .int 2399, .int (-1)]))]) [0] (by decide +kernel) rfl
  have hKc := hK.sub (tys' := []) [] rfl
  have hFc := va_free (wc := [(re, .inr (2, [.ref rtp, .int 0, .int (-1), .int r3, .int r4, .int 0, .int r6, .ref rcd, .int 0, .ref rst, .int 0, .int 0, .int 0, .int 0, .int 2399, .int (-1)]))]) hD hS hA [0] rfl
  refine va_callv (va_runV (As := []) (rest := []) ⟨hx, hb, hml, hown, hts⟩ (c_X2_advance l dC dI _ re rtp r3 r4 r6 rcd 0 rst 0 0 0 0 2399 (-1)) (cwV 0 hts gX2_readTape_X2_advance rfl rfl rfl (by decide +kernel) ⟨Nat.le_of_ble_eq_true rfl, Nat.le_of_ble_eq_true rfl⟩) ⟨pz_blind, va_recv hKc hPc (ci := 2) (q0 := 0) rfl rfl, pz_pre hPc hKc hDc hN⟩ rfl rfl hl.1 rfl (lv_room (Nat.le_of_ble_eq_true rfl)) dX2_readTape_43 ⟨Nat.le_of_ble_eq_true rfl, Nat.le_of_ble_eq_true rfl⟩) hS (fun q _ h => hFc q h) hFc (fun u t H1 locs ht hvm hw hB hz1 hk1 hS => ?_)
  obtain ⟨hP1, hK1, hD1⟩ := hB
  rw [ht] at hP1
  have hK1 := va_K.moved hvm.symm hK1
  obtain ⟨hP, hD⟩ := va_join (wr := []) (w1 := [(re, .inr (2, [.ref rtp, .int 0, .int (-1), .int 0, .int 0, .int 0, .int r6, .ref rcd, .int 0, .ref rst, .int 0, .int 0, .int 0, .int 0, .int 2399, .int (-1)]))]) hP hD [0] [] rfl rfl (by decide +kernel) (by decide +kernel) hk1 hFc hP1 hD1
  have hK := hK.app hK1
  generalize H1 = H at hP hS ⊢
  have hP : va_P (dC, dI) vwCl [(re, .inr (2, [.ref rtp, .int 0, .int (-1), .int 0, .int 0, .int 0, .int r6, .ref rcd, .int 0, .ref rst, .int 0, .int 0, .int 0, .int 0, .int 2399, .int (-1)]))] H := hP
  have hD : va_D A [(re, .inr (2, [.ref rtp, .int 0, .int (-1), .int 0, .int 0, .int 0, .int r6, .ref rcd, .int 0, .ref rst, .int 0, .int 0, .int 0, .int 0, .int 2399, .int (-1)]))] := hD
  have hK : va_K (dC, dI) vwCl [] s := hK
  refine lv_aload_n hx hb dX2_readTape_46 rfl (lv_at hl 0 rfl) ?_
  have hPc := hP.sub (ws' := [(re, .inr (2, [.ref rtp, .int 0, .int (-1), .int 0, .int 0, .int 0, .int r6, .ref rcd, .int 0, .ref rst, .int 0, .int 0, .int 0, .int 0, .int 2399, .int (-1)]))]) [0] rfl
  have hDc := hD.sub (ws' := [(re, .inr (2, [.ref rtp, .int 0, .int (-1), .int 0, .int 0, .int 0, .int r6, .ref rcd, .int 0, .ref rst, .int 0, .int 0, .int 0, .int 0, .int 2399, .int (-1)]))]) [0] (by decide +kernel) rfl
  have hKc := hK.sub (tys' := []) [] rfl
  refine pz_calli (va_runV (As := []) (rest := []) ⟨hx, hb, hml, hown, hts⟩ (c_X2_readClauses l dC dI _ re rtp r6 rcd 0 rst 0 0 0 0 2399 (-1)) (cwV 0 hts gX2_readTape_X2_readClauses rfl rfl rfl (by decide +kernel) ⟨Nat.le_of_ble_eq_true rfl, Nat.le_of_ble_eq_true rfl⟩) ⟨pz_blind, va_recv hKc hPc (ci := 2) (q0 := 0) rfl rfl, pz_pre hPc hKc hDc hN⟩ rfl rfl hl.1 rfl (lv_room (Nat.le_of_ble_eq_true rfl)) dX2_readTape_47 ⟨Nat.le_of_ble_eq_true rfl, Nat.le_of_ble_eq_true rfl⟩) (fun r3 hw => ?_)
  obtain rfl : 0 = r3 := hw.symm
  refine lv_istore_n (lv' := [(1, .int 0), (0, .ref re)]) hx hb dX2_readTape_50 rfl hl (by decide) rfl (fun ls hl => ?_)
  refine lv_aload_n hx hb dX2_readTape_51 rfl (lv_at hl 1 rfl) ?_
  refine lv_iload_n hx hb dX2_readTape_52 rfl (lv_at hl 0 rfl) ?_
  refine lv_if_eq (tgt := 60) hx hb dX2_readTape_53 (by decide) (fun _ => ?_) (fun c9 => absurd c9 (by decide))
  refine lv_aload_n hx hb dX2_readTape_60 rfl (lv_at hl 1 rfl) ?_
  refine va_get (D := (dC, dI)) (ci := 2) (v := .int 0) (C := RX2) (T := TX2) (N := 16) hx hb hts hfX2 hown hK hP 0 rfl rfl 3 (by decide) (hts (.fieldLink RX2 60 "ColdShips$Reader" "place" "I") (by decide +kernel)) (fun _ h9 => h9) rfl dX2_readTape_61 ?_
  refine va_put (D := (dC, dI)) (ci := 2) (v := .int 0) (ty := .int) (C := RX2) (T := TX2) (N := 16) hx hb hts hfX2 tyX2 tyX2_ok nmX2 hown hK hP hD hS 0 rfl rfl 2 (by decide) (hts (.fieldLink RX2 15 "ColdShips$Reader" "faultAt" "I") (by decide +kernel)) (fun _ h9 => h9) rfl (by decide +kernel) rfl rfl (Nat.le_of_ble_eq_true rfl) dX2_readTape_64 (fun H locs hP hD hS => ?_)
  have hP : va_P (dC, dI) vwCl [(re, .inr (2, [.ref rtp, .int 0, .int 0, .int 0, .int 0, .int 0, .int r6, .ref rcd, .int 0, .ref rst, .int 0, .int 0, .int 0, .int 0, .int 2399, .int (-1)]))] H := hP
  have hD : va_D A [(re, .inr (2, [.ref rtp, .int 0, .int 0, .int 0, .int 0, .int 0, .int r6, .ref rcd, .int 0, .ref rst, .int 0, .int 0, .int 0, .int 0, .int 2399, .int (-1)]))] := hD
  refine lv_iload_n hx hb dX2_readTape_67 rfl (lv_at hl 0 rfl) ?_
  refine lv_if_ne (tgt := 73) hx hb dX2_readTape_68 (by decide) (fun c9 => absurd c9 (by decide)) (fun _ => ?_)
  refine lv_null hx hb dX2_readTape_71 ?_
  have hP9 := hP.sub (ws' := [(re, .inr (2, [.ref rtp, .int 0, .int 0, .int 0, .int 0, .int 0, .int r6, .ref rcd, .int 0, .ref rst, .int 0, .int 0, .int 0, .int 0, .int 2399, .int (-1)]))]) [0] rfl
  have hD9 := hD.sub (ws' := [(re, .inr (2, [.ref rtp, .int 0, .int 0, .int 0, .int 0, .int 0, .int r6, .ref rcd, .int 0, .ref rst, .int 0, .int 0, .int 0, .int 0, .int 2399, .int (-1)]))]) [0] (by decide +kernel) rfl
  have hK9 := hK.sub (tys' := []) [] rfl
  exact W.aret (v := .null) hx hb hr (Or.inl ⟨_, rfl⟩) (Or.inl rfl) (fun t ht hW => ⟨⟨rfl, ⟨by rw [ht]; exact hP9, va_K.moved hW.alike hK9, hD9⟩⟩, hS.F ht⟩) hS.2.2 dX2_readTape_72
set_option maxHeartbeats 4000000 in
set_option maxRecDepth 100000 in
theorem c_X2_emptyTape (l : Launch) (dC : Nat → ClassId) (dI : Nat → Nat → Nat) (sz : Nat) (re : Nat) (rtp : Nat) (r6 : Int32) (rcd : Nat) (rst : Nat)  : Met l yX2_emptyTape wsX2_emptyTape ({ frames := 2, cells := 0, slots := 0, locals := 400 }) (va_Pc [.ref re] (pz_B dC dI [] [(re, .inr (2, [.ref rtp, .int 0, .int 0, .int 0, .int 0, .int 0, .int r6, .ref rcd, .int 0, .ref rst, .int 0, .int 0, .int 0, .int 0, .int 2399, .int (-1)]))] sz)) (va_Qv (fun (_ : Unit) => True) (fun (_ : Unit) (_ : State) => True) (va_A [(re, .inr (2, [.ref rtp, .int 0, .int 0, .int 0, .int 0, .int 0, .int r6, .ref rcd, .int 0, .ref rst, .int 0, .int 0, .int 0, .int 0, .int 2399, .int (-1)]))] sz)) 0 0 (va_A [(re, .inr (2, [.ref rtp, .int 0, .int 0, .int 0, .int 0, .int 0, .int r6, .ref rcd, .int 0, .ref rst, .int 0, .int 0, .int 0, .int 0, .int 2399, .int (-1)]))] sz) := by
  refine Met.ofW (cc := cX2_emptyTape) (maxL := 1) (ret := none) (by decide) rfl ?_
  intro p e s m args below meth c s₁ B hml hv
  obtain ⟨rfl, hsz, hP, hK, hD0, hN⟩ := hv
  have hx := B.exec
  have hb := B.bytes
  have hr := B.returns
  have hts := atoms_spec (ws := wsX2_emptyTape) B.pre
  have hown : s.vm.findClass RX2 = some m.cls := findClass_of_methodNamed B.named
  have hlocks := B.notSynchronized
  subst hsz
  have hD := hD0.self (sz := s.heap.size)
  generalize hAe : va_A [(re, .inr (2, [.ref rtp, .int 0, .int 0, .int 0, .int 0, .int 0, .int r6, .ref rcd, .int 0, .ref rst, .int 0, .int 0, .int 0, .int 0, .int 2399, .int (-1)]))] s.heap.size = A at hD ⊢
  have hA : ∀ q : Nat, s.heap.size ≤ q → A q := fun q h => by rw [← hAe]; exact Or.inr h
  have hS : va_S A s.heap s.heap [] := va_S.rf
  have hl := lv_entry ([.ref re]) (n := 1) (Nat.le_of_ble_eq_true rfl)
  rw [lg_entry_eq]
  generalize (lg_sl ([.ref re]) ++ List.replicate (1 - (lg_sl ([.ref re])).length) Slot.unset).toArray = ls at hl ⊢
  have hl : lv_has ls 1 [(0, .ref re)] := hl
  have hfX2 : ∀ w ∈ wsX20, w ∈ wsX2_emptyTape := fun w h => List.mem_cons_of_mem _ (List.mem_append_right _ h)
  refine lv_aload_n hx hb dX2_emptyTape_0 rfl (lv_at hl 0 rfl) ?_
  refine lv_iconst (v := 0) hx hb dX2_emptyTape_1 (by decide) ?_
  refine va_put (D := (dC, dI)) (ci := 2) (v := .int 0) (ty := .int) (C := RX2) (T := TX2) (N := 16) hx hb hts hfX2 tyX2 tyX2_ok nmX2 hown hK hP hD hS 0 rfl rfl 1 (by decide) (hts (.fieldLink RX2 26 "ColdShips$Reader" "size" "I") (by decide +kernel)) (fun _ h9 => h9) rfl (by decide +kernel) rfl rfl (Nat.le_of_ble_eq_true rfl) dX2_emptyTape_2 (fun H locs hP hD hS => ?_)
  have hP : va_P (dC, dI) vwCl [(re, .inr (2, [.ref rtp, .int 0, .int 0, .int 0, .int 0, .int 0, .int r6, .ref rcd, .int 0, .ref rst, .int 0, .int 0, .int 0, .int 0, .int 2399, .int (-1)]))] H := hP
  have hD : va_D A [(re, .inr (2, [.ref rtp, .int 0, .int 0, .int 0, .int 0, .int 0, .int r6, .ref rcd, .int 0, .ref rst, .int 0, .int 0, .int 0, .int 0, .int 2399, .int (-1)]))] := hD
  exact W.vret hx hb hr (fun t ht hW => ⟨⟨(), rfl, trivial, trivial⟩, hS.F ht⟩) hS.2.2 dX2_emptyTape_5
set_option maxHeartbeats 4000000 in
set_option maxRecDepth 100000 in
theorem c_X11_contract (l : Launch) (dC : Nat → ClassId) (dI : Nat → Nat → Nat) (sz : Nat) (h0 : Nat) (wd : Nat) (im : Nat) (wa : Nat) (re : Nat) (rk : Nat) (pl : Nat) (fz : Int32) (bo : Int32) (li : Int32) (og : Int32) (tdA : Nat) (seA : Nat) (teA : Nat) (shA : Nat) (coA : Nat) (slS : Nat) (brS : Nat) (foS : Nat) (prR : Nat) (rdR : Nat) (laR : Nat) (caR : Nat) (rtp : Nat) (r3 : Int32) (r4 : Int32) (r5 : Int32) (r6 : Int32) (rcd : Nat) (r8 : Int32) (rst : Nat) (r10 : Int32) (r11 : Int32) (r12 : Int32) (r13 : Int32) (r14 : Int32) (r15 : Int32)  : Met l yX11_contract wsX11_contract ({ frames := 7, cells := 0, slots := 0, locals := 2400 }) (va_Pc [.ref h0] (pz_B dC dI [] [(h0, .inr (11, [.ref wd, .ref im, .ref wa, .ref re, .ref rk, .ref pl, .int fz])), (wd, .inr (10, [.int 0, .int bo, .int li, .int og, .int 0, .int 0, .int 0, .ref tdA, .ref seA, .ref teA, .ref shA, .ref coA, .ref slS, .ref brS, .ref foS, .ref prR, .ref rdR, .ref laR, .ref caR])), (re, .inr (2, [.ref rtp, .int 0, .int (-1), .int r3, .int r4, .int r5, .int r6, .ref rcd, .int r8, .ref rst, .int r10, .int r11, .int r12, .int r13, .int r14, .int r15]))] sz)) (va_Qi (fun (r : Int32) (_ : Unit) => r = F_contract) (fun (_ : Unit) (_ : State) => True) (va_A [(h0, .inr (11, [.ref wd, .ref im, .ref wa, .ref re, .ref rk, .ref pl, .int fz])), (wd, .inr (10, [.int 0, .int bo, .int li, .int og, .int 0, .int 0, .int 0, .ref tdA, .ref seA, .ref teA, .ref shA, .ref coA, .ref slS, .ref brS, .ref foS, .ref prR, .ref rdR, .ref laR, .ref caR])), (re, .inr (2, [.ref rtp, .int 0, .int (-1), .int r3, .int r4, .int r5, .int r6, .ref rcd, .int r8, .ref rst, .int r10, .int r11, .int r12, .int r13, .int r14, .int r15]))] sz)) 0 0 (va_A [(h0, .inr (11, [.ref wd, .ref im, .ref wa, .ref re, .ref rk, .ref pl, .int fz])), (wd, .inr (10, [.int 0, .int bo, .int li, .int og, .int 0, .int 0, .int 0, .ref tdA, .ref seA, .ref teA, .ref shA, .ref coA, .ref slS, .ref brS, .ref foS, .ref prR, .ref rdR, .ref laR, .ref caR])), (re, .inr (2, [.ref rtp, .int 0, .int (-1), .int r3, .int r4, .int r5, .int r6, .ref rcd, .int r8, .ref rst, .int r10, .int r11, .int r12, .int r13, .int r14, .int r15]))] sz) := by
  refine Met.ofW (cc := cX11_contract) (maxL := 4) (ret := some .int) (by decide) rfl ?_
  intro p e s m args below meth c s₁ B hml hv
  obtain ⟨rfl, hsz, hP, hK, hD0, hN⟩ := hv
  have hx := B.exec
  have hb := B.bytes
  have hr := B.returns
  have hts := atoms_spec (ws := wsX11_contract) B.pre
  have hown : s.vm.findClass RX11 = some m.cls := findClass_of_methodNamed B.named
  have hlocks := B.notSynchronized
  subst hsz
  have hD := hD0.self (sz := s.heap.size)
  generalize hAe : va_A [(h0, .inr (11, [.ref wd, .ref im, .ref wa, .ref re, .ref rk, .ref pl, .int fz])), (wd, .inr (10, [.int 0, .int bo, .int li, .int og, .int 0, .int 0, .int 0, .ref tdA, .ref seA, .ref teA, .ref shA, .ref coA, .ref slS, .ref brS, .ref foS, .ref prR, .ref rdR, .ref laR, .ref caR])), (re, .inr (2, [.ref rtp, .int 0, .int (-1), .int r3, .int r4, .int r5, .int r6, .ref rcd, .int r8, .ref rst, .int r10, .int r11, .int r12, .int r13, .int r14, .int r15]))] s.heap.size = A at hD ⊢
  have hA : ∀ q : Nat, s.heap.size ≤ q → A q := fun q h => by rw [← hAe]; exact Or.inr h
  have hS : va_S A s.heap s.heap [] := va_S.rf
  have hl := lv_entry ([.ref h0]) (n := 4) (Nat.le_of_ble_eq_true rfl)
  rw [lg_entry_eq]
  generalize (lg_sl ([.ref h0]) ++ List.replicate (4 - (lg_sl ([.ref h0])).length) Slot.unset).toArray = ls at hl ⊢
  have hl : lv_has ls 4 [(0, .ref h0)] := hl
  have hfX11 : ∀ w ∈ wsX110, w ∈ wsX11_contract := fun w h => List.mem_cons_of_mem _ (List.mem_append_left _ (List.mem_append_left _ (List.mem_append_left _ (List.mem_append_right _ h))))
  have hfX10 : ∀ w ∈ wsX100, w ∈ wsX11_contract := fun w h => List.mem_cons_of_mem _ (List.mem_append_left _ (List.mem_append_left _ (List.mem_append_right _ h)))
  have hfX2 : ∀ w ∈ wsX20, w ∈ wsX11_contract := fun w h => List.mem_cons_of_mem _ (List.mem_append_left _ (List.mem_append_right _ h))
  have hfX0 : ∀ w ∈ wsX00, w ∈ wsX11_contract := fun w h => List.mem_cons_of_mem _ (List.mem_append_right _ h)
  refine lv_aload_n hx hb dX11_contract_0 rfl (lv_at hl 0 rfl) ?_
  refine va_get (D := (dC, dI)) (ci := 11) (v := .ref wd) (C := RX11) (T := TX11) (N := 7) hx hb hts hfX11 hown hK hP 0 rfl rfl 0 (by decide) (hts (.fieldLink RX11 10 "ColdShips" "world" "LColdShips$World;") (by decide +kernel)) (fun _ h9 => h9) rfl dX11_contract_1 ?_
  refine va_getN (D := (dC, dI)) (ci := 10) (v := .int 0) (C := RX10) (T := TX10) (N := 19) hx hb hts hfX10 hown hK hP 1 rfl rfl 6 (by decide) (va_Nw.use rfl (hN.1 (.fieldLinkNest RX11 261 "ColdShips$World" "contractCount" "I" "ColdShips") (by decide +kernel))) (fun _ h9 => h9) rfl dX11_contract_4 ?_
  refine lv_bipush (v := 12) hx hb dX11_contract_7 (by decide) ?_
  refine lv_icmp_ge (tgt := 16) hx hb dX11_contract_9 (by decide) (fun c9 => absurd c9 (by decide)) (fun _ => ?_)
  refine lv_iconst (v := 1) hx hb dX11_contract_12 (by decide) ?_
  refine lv_goto (tgt := 17) hx hb dX11_contract_13 (by decide) ?_
  refine lv_istore_n (lv' := [(1, .int 1), (0, .ref h0)]) hx hb dX11_contract_17 rfl hl (by decide) rfl (fun ls hl => ?_)
  refine lv_iload_n hx hb dX11_contract_18 rfl (lv_at hl 0 rfl) ?_
  refine lv_if_eq (tgt := 32) hx hb dX11_contract_19 (by decide) (fun c9 => absurd c9 (by decide)) (fun _ => ?_)
  refine lv_aload_n hx hb dX11_contract_22 rfl (lv_at hl 1 rfl) ?_
  refine va_get (D := (dC, dI)) (ci := 11) (v := .ref re) (C := RX11) (T := TX11) (N := 7) hx hb hts hfX11 hown hK hP 0 rfl rfl 3 (by decide) (hts (.fieldLink RX11 32 "ColdShips" "reader" "LColdShips$Reader;") (by decide +kernel)) (fun _ h9 => h9) rfl dX11_contract_23 ?_
  have hPc := hP.sub (ws' := [(re, .inr (2, [.ref rtp, .int 0, .int (-1), .int r3, .int r4, .int r5, .int r6, .ref rcd, .int r8, .ref rst, .int r10, .int r11, .int r12, .int r13, .int r14, .int r15]))]) [2] rfl
  have hDc := hD.sub (ws' := [(re, .inr (2, [.ref rtp, .int 0, .int (-1), .int r3, .int r4, .int r5, .int r6, .ref rcd, .int r8, .ref rst, .int r10, .int r11, .int r12, .int r13, .int r14, .int r15]))]) [2] (by decide +kernel) rfl
  have hKc := hK.sub (tys' := []) [] rfl
  have hFc := va_free (wc := [(re, .inr (2, [.ref rtp, .int 0, .int (-1), .int r3, .int r4, .int r5, .int r6, .ref rcd, .int r8, .ref rst, .int r10, .int r11, .int r12, .int r13, .int r14, .int r15]))]) hD hS hA [2] rfl
  refine pz_calln (va_runV (As := []) (rest := []) ⟨hx, hb, hml, hown, hts⟩ (c_X2_readTape l dC dI _ re rtp r3 r4 r5 r6 rcd r8 rst r10 r11 r12 r13 r14 r15) (cwV 0 hts gX11_contract_X2_readTape rfl rfl rfl (by decide +kernel) ⟨Nat.le_of_ble_eq_true rfl, Nat.le_of_ble_eq_true rfl⟩) ⟨pz_blind, va_recv hKc hPc (ci := 2) (q0 := 0) rfl rfl, pz_pre hPc hKc hDc hN⟩ rfl rfl hl.1 rfl (lv_room (Nat.le_of_ble_eq_true rfl)) dX11_contract_26 ⟨Nat.le_of_ble_eq_true rfl, Nat.le_of_ble_eq_true rfl⟩) hS (fun q _ h => hFc q h) hFc (fun t H1 locs ht hvm hB hz1 hk1 hS => ?_)
  obtain ⟨hP1, hK1, hD1⟩ := hB
  rw [ht] at hP1
  have hK1 := va_K.moved hvm.symm hK1
  obtain ⟨hP, hD⟩ := va_join (wr := [(h0, .inr (11, [.ref wd, .ref im, .ref wa, .ref re, .ref rk, .ref pl, .int fz])), (wd, .inr (10, [.int 0, .int bo, .int li, .int og, .int 0, .int 0, .int 0, .ref tdA, .ref seA, .ref teA, .ref shA, .ref coA, .ref slS, .ref brS, .ref foS, .ref prR, .ref rdR, .ref laR, .ref caR]))]) (w1 := [(re, .inr (2, [.ref rtp, .int 0, .int 0, .int 0, .int 0, .int 0, .int r6, .ref rcd, .int 0, .ref rst, .int 0, .int 0, .int 0, .int 0, .int 2399, .int (-1)]))]) hP hD [2] [0, 1] rfl rfl (by decide +kernel) (by decide +kernel) hk1 hFc hP1 hD1
  have hK := hK.app hK1
  generalize H1 = H at hP hS ⊢
  have hP : va_P (dC, dI) vwCl [(h0, .inr (11, [.ref wd, .ref im, .ref wa, .ref re, .ref rk, .ref pl, .int fz])), (wd, .inr (10, [.int 0, .int bo, .int li, .int og, .int 0, .int 0, .int 0, .ref tdA, .ref seA, .ref teA, .ref shA, .ref coA, .ref slS, .ref brS, .ref foS, .ref prR, .ref rdR, .ref laR, .ref caR])), (re, .inr (2, [.ref rtp, .int 0, .int 0, .int 0, .int 0, .int 0, .int r6, .ref rcd, .int 0, .ref rst, .int 0, .int 0, .int 0, .int 0, .int 2399, .int (-1)]))] H := hP
  have hD : va_D A [(h0, .inr (11, [.ref wd, .ref im, .ref wa, .ref re, .ref rk, .ref pl, .int fz])), (wd, .inr (10, [.int 0, .int bo, .int li, .int og, .int 0, .int 0, .int 0, .ref tdA, .ref seA, .ref teA, .ref shA, .ref coA, .ref slS, .ref brS, .ref foS, .ref prR, .ref rdR, .ref laR, .ref caR])), (re, .inr (2, [.ref rtp, .int 0, .int 0, .int 0, .int 0, .int 0, .int r6, .ref rcd, .int 0, .ref rst, .int 0, .int 0, .int 0, .int 0, .int 2399, .int (-1)]))] := hD
  have hK : va_K (dC, dI) vwCl [] s := hK
  refine lv_goto (tgt := 33) hx hb dX11_contract_29 (by decide) ?_
  refine lv_astore_nN (lv' := [(2, .null), (1, .int 1), (0, .ref h0)]) hx hb dX11_contract_33 rfl hl (by decide) rfl (fun ls hl => ?_)
  refine lv_aload_n hx hb dX11_contract_34 rfl (lv_at hl 2 rfl) ?_
  refine va_get (D := (dC, dI)) (ci := 11) (v := .ref re) (C := RX11) (T := TX11) (N := 7) hx hb hts hfX11 hown hK hP 0 rfl rfl 3 (by decide) (hts (.fieldLink RX11 32 "ColdShips" "reader" "LColdShips$Reader;") (by decide +kernel)) (fun _ h9 => h9) rfl dX11_contract_35 ?_
  have hPc := hP.sub (ws' := [(re, .inr (2, [.ref rtp, .int 0, .int 0, .int 0, .int 0, .int 0, .int r6, .ref rcd, .int 0, .ref rst, .int 0, .int 0, .int 0, .int 0, .int 2399, .int (-1)]))]) [2] rfl
  have hDc := hD.sub (ws' := [(re, .inr (2, [.ref rtp, .int 0, .int 0, .int 0, .int 0, .int 0, .int r6, .ref rcd, .int 0, .ref rst, .int 0, .int 0, .int 0, .int 0, .int 2399, .int (-1)]))]) [2] (by decide +kernel) rfl
  have hKc := hK.sub (tys' := []) [] rfl
  have hFc := va_free (wc := [(re, .inr (2, [.ref rtp, .int 0, .int 0, .int 0, .int 0, .int 0, .int r6, .ref rcd, .int 0, .ref rst, .int 0, .int 0, .int 0, .int 0, .int 2399, .int (-1)]))]) hD hS hA [2] rfl
  refine va_callv (va_runV (As := []) (rest := []) ⟨hx, hb, hml, hown, hts⟩ (c_X2_emptyTape l dC dI _ re rtp r6 rcd rst) (cwV 0 hts gX11_contract_X2_emptyTape rfl rfl rfl (by decide +kernel) ⟨Nat.le_of_ble_eq_true rfl, Nat.le_of_ble_eq_true rfl⟩) ⟨pz_blind, va_recv hKc hPc (ci := 2) (q0 := 0) rfl rfl, pz_pre hPc hKc hDc hN⟩ rfl rfl hl.1 rfl (lv_room (Nat.le_of_ble_eq_true rfl)) dX11_contract_38 ⟨Nat.le_of_ble_eq_true rfl, Nat.le_of_ble_eq_true rfl⟩) hS (fun q _ h => hFc q h) hFc (fun u t H1 locs ht hvm hw hB hz1 hk1 hS => ?_)
  obtain ⟨hP, hD⟩ := va_join (wr := [(h0, .inr (11, [.ref wd, .ref im, .ref wa, .ref re, .ref rk, .ref pl, .int fz])), (wd, .inr (10, [.int 0, .int bo, .int li, .int og, .int 0, .int 0, .int 0, .ref tdA, .ref seA, .ref teA, .ref shA, .ref coA, .ref slS, .ref brS, .ref foS, .ref prR, .ref rdR, .ref laR, .ref caR]))]) (w1 := []) hP hD [2] [0, 1] rfl rfl (by decide +kernel) (by decide +kernel) hk1 hFc pz_P0 pz_D0
  generalize H1 = H at hP hS ⊢
  have hP : va_P (dC, dI) vwCl [(h0, .inr (11, [.ref wd, .ref im, .ref wa, .ref re, .ref rk, .ref pl, .int fz])), (wd, .inr (10, [.int 0, .int bo, .int li, .int og, .int 0, .int 0, .int 0, .ref tdA, .ref seA, .ref teA, .ref shA, .ref coA, .ref slS, .ref brS, .ref foS, .ref prR, .ref rdR, .ref laR, .ref caR]))] H := hP
  have hD : va_D A [(h0, .inr (11, [.ref wd, .ref im, .ref wa, .ref re, .ref rk, .ref pl, .int fz])), (wd, .inr (10, [.int 0, .int bo, .int li, .int og, .int 0, .int 0, .int 0, .ref tdA, .ref seA, .ref teA, .ref shA, .ref coA, .ref slS, .ref brS, .ref foS, .ref prR, .ref rdR, .ref laR, .ref caR]))] := hD
  have hK : va_K (dC, dI) vwCl [] s := hK
  refine lv_aload_nN hx hb dX11_contract_41 rfl (lv_at hl 0 rfl) ?_
  refine lv_ifnonnullN hx hb dX11_contract_42 ?_
  refine lv_aload_n hx hb dX11_contract_45 rfl (lv_at hl 2 rfl) ?_
  refine lv_iload_n hx hb dX11_contract_46 rfl (lv_at hl 1 rfl) ?_
  refine lv_if_eq (tgt := 55) hx hb dX11_contract_47 (by decide) (fun c9 => absurd c9 (by decide)) (fun _ => ?_)
  refine lv_bipush (v := (-6)) hx hb dX11_contract_50 (by decide) ?_
  refine lv_goto (tgt := 57) hx hb dX11_contract_52 (by decide) ?_
  have hPc := hP.sub (ws' := [(h0, .inr (11, [.ref wd, .ref im, .ref wa, .ref re, .ref rk, .ref pl, .int fz]))]) [0] rfl
  have hDc := hD.sub (ws' := [(h0, .inr (11, [.ref wd, .ref im, .ref wa, .ref re, .ref rk, .ref pl, .int fz]))]) [0] (by decide +kernel) rfl
  have hKc := hK.sub (tys' := []) [] rfl
  have hFc := va_free (wc := [(h0, .inr (11, [.ref wd, .ref im, .ref wa, .ref re, .ref rk, .ref pl, .int fz]))]) hD hS hA [0] rfl
  refine va_calli (va_runV (As := [.int (-6)]) (rest := []) ⟨hx, hb, hml, hown, hts⟩ (c_X11_refuse l dC dI _ h0 wd im wa re rk pl fz (-6)) (cwV 1 hts gX11_contract_X11_refuse rfl rfl rfl (by decide +kernel) ⟨Nat.le_of_ble_eq_true rfl, Nat.le_of_ble_eq_true rfl⟩) ⟨pz_blind, va_recv hKc hPc (ci := 11) (q0 := 0) rfl rfl, pz_pre hPc hKc hDc hN⟩ rfl rfl hl.1 rfl (lv_room (Nat.le_of_ble_eq_true rfl)) dX11_contract_57 ⟨Nat.le_of_ble_eq_true rfl, Nat.le_of_ble_eq_true rfl⟩) hS (fun q _ h => hFc q h) hFc (fun r4 u t H1 locs ht hvm hw hB hz1 hk1 hS => ?_)
  obtain ⟨hP, hD⟩ := va_join (wr := [(wd, .inr (10, [.int 0, .int bo, .int li, .int og, .int 0, .int 0, .int 0, .ref tdA, .ref seA, .ref teA, .ref shA, .ref coA, .ref slS, .ref brS, .ref foS, .ref prR, .ref rdR, .ref laR, .ref caR]))]) (w1 := []) hP hD [0] [1] rfl rfl (by decide +kernel) (by decide +kernel) hk1 hFc pz_P0 pz_D0
  generalize H1 = H at hP hS ⊢
  have hP : va_P (dC, dI) vwCl [(wd, .inr (10, [.int 0, .int bo, .int li, .int og, .int 0, .int 0, .int 0, .ref tdA, .ref seA, .ref teA, .ref shA, .ref coA, .ref slS, .ref brS, .ref foS, .ref prR, .ref rdR, .ref laR, .ref caR]))] H := hP
  have hD : va_D A [(wd, .inr (10, [.int 0, .int bo, .int li, .int og, .int 0, .int 0, .int 0, .ref tdA, .ref seA, .ref teA, .ref shA, .ref coA, .ref slS, .ref brS, .ref foS, .ref prR, .ref rdR, .ref laR, .ref caR]))] := hD
  have hK : va_K (dC, dI) vwCl [] s := hK
  obtain rfl : (-6) = r4 := hw.symm
  exact W.iret (v := (-6)) hx hb hr (fun t ht hW => ⟨⟨(-6), (), rfl, (by unfold F_contract; (repeat' split) <;> first | rfl | (exfalso; omega) | (refine Int32.toInt_inj.mp ?_; show _ = (0 : Int); omega)), trivial⟩, hS.F ht⟩) hS.2.2 dX11_contract_60
set_option maxHeartbeats 4000000 in
set_option maxRecDepth 100000 in
theorem c_X9_passHour (l : Launch) (dC : Nat → ClassId) (dI : Nat → Nat → Nat) (sz : Nat) (wa : Nat) (wd : Nat) (wh : Int32) (we : Int32) (wt : Int32) (now : Int32) (bo : Int32) (li : Int32) (og : Int32) (tdA : Nat) (seA : Nat) (teA : Nat) (shA : Nat) (coA : Nat) (slS : Nat) (brS : Nat) (foS : Nat) (prR : Nat) (rdR : Nat) (laR : Nat) (caR : Nat) (kS : ClassId) (fS : Nat → Int32) (hnow : 0 ≤ now.toInt ∧ now.toInt ≤ 2398) : Met l yX9_passHour wsX9_passHour ({ frames := 4, cells := 0, slots := 0, locals := 1200 }) (va_Pc [.ref wa] (pz_B dC dI [(kS, .int)] [(wa, .inr (9, [.ref wd, .int wh, .int we, .int wt])), (wd, .inr (10, [.int now, .int bo, .int li, .int og, .int 0, .int 0, .int 0, .ref tdA, .ref seA, .ref teA, .ref shA, .ref coA, .ref slS, .ref brS, .ref foS, .ref prR, .ref rdR, .ref laR, .ref caR])), (seA, .inl (kS, 100, .inl fS))] sz)) (va_Qv (fun (_ : Unit) => True) (fun (_ : Unit) (t : State) => ∃ wh1 : Int32, ∃ we1 : Int32, ∃ wt1 : Int32, ∃ now1 : Int32, (now1.toInt = now.toInt + 1) ∧ pz_E dC dI [(kS, .int)] (va_A [(wa, .inr (9, [.ref wd, .int wh, .int we, .int wt])), (wd, .inr (10, [.int now, .int bo, .int li, .int og, .int 0, .int 0, .int 0, .ref tdA, .ref seA, .ref teA, .ref shA, .ref coA, .ref slS, .ref brS, .ref foS, .ref prR, .ref rdR, .ref laR, .ref caR])), (seA, .inl (kS, 100, .inl fS))] sz) [(wa, .inr (9, [.ref wd, .int wh1, .int we1, .int wt1])), (wd, .inr (10, [.int now1, .int bo, .int li, .int og, .int 0, .int 0, .int 0, .ref tdA, .ref seA, .ref teA, .ref shA, .ref coA, .ref slS, .ref brS, .ref foS, .ref prR, .ref rdR, .ref laR, .ref caR])), (seA, .inl (kS, 100, .inl fS))] t) (va_A [(wa, .inr (9, [.ref wd, .int wh, .int we, .int wt])), (wd, .inr (10, [.int now, .int bo, .int li, .int og, .int 0, .int 0, .int 0, .ref tdA, .ref seA, .ref teA, .ref shA, .ref coA, .ref slS, .ref brS, .ref foS, .ref prR, .ref rdR, .ref laR, .ref caR])), (seA, .inl (kS, 100, .inl fS))] sz)) 0 0 (va_A [(wa, .inr (9, [.ref wd, .int wh, .int we, .int wt])), (wd, .inr (10, [.int now, .int bo, .int li, .int og, .int 0, .int 0, .int 0, .ref tdA, .ref seA, .ref teA, .ref shA, .ref coA, .ref slS, .ref brS, .ref foS, .ref prR, .ref rdR, .ref laR, .ref caR])), (seA, .inl (kS, 100, .inl fS))] sz) := by
  refine Met.ofW (cc := cX9_passHour) (maxL := 2) (ret := none) (by decide) rfl ?_
  intro p e s m args below meth c s₁ B hml hv
  obtain ⟨rfl, hsz, hP, hK, hD0, hN⟩ := hv
  have hx := B.exec
  have hb := B.bytes
  have hr := B.returns
  have hts := atoms_spec (ws := wsX9_passHour) B.pre
  have hown : s.vm.findClass RX9 = some m.cls := findClass_of_methodNamed B.named
  have hlocks := B.notSynchronized
  subst hsz
  have hD := hD0.self (sz := s.heap.size)
  generalize hAe : va_A [(wa, .inr (9, [.ref wd, .int wh, .int we, .int wt])), (wd, .inr (10, [.int now, .int bo, .int li, .int og, .int 0, .int 0, .int 0, .ref tdA, .ref seA, .ref teA, .ref shA, .ref coA, .ref slS, .ref brS, .ref foS, .ref prR, .ref rdR, .ref laR, .ref caR])), (seA, .inl (kS, 100, .inl fS))] s.heap.size = A at hD ⊢
  have hA : ∀ q : Nat, s.heap.size ≤ q → A q := fun q h => by rw [← hAe]; exact Or.inr h
  have hS : va_S A s.heap s.heap [] := va_S.rf
  have hl := lv_entry ([.ref wa]) (n := 2) (Nat.le_of_ble_eq_true rfl)
  rw [lg_entry_eq]
  generalize (lg_sl ([.ref wa]) ++ List.replicate (2 - (lg_sl ([.ref wa])).length) Slot.unset).toArray = ls at hl ⊢
  have hl : lv_has ls 2 [(0, .ref wa)] := hl
  have hfX9 : ∀ w ∈ wsX90, w ∈ wsX9_passHour := fun w h => List.mem_cons_of_mem _ (List.mem_append_left _ (List.mem_append_left _ (List.mem_append_left _ (List.mem_append_left _ (List.mem_append_left _ (List.mem_append_left _ (List.mem_append_right _ h)))))))
  have hfX10 : ∀ w ∈ wsX100, w ∈ wsX9_passHour := fun w h => List.mem_cons_of_mem _ (List.mem_append_left _ (List.mem_append_left _ (List.mem_append_left _ (List.mem_append_left _ (List.mem_append_left _ (List.mem_append_right _ h))))))
  have hfX5 : ∀ w ∈ wsX50, w ∈ wsX9_passHour := fun w h => List.mem_cons_of_mem _ (List.mem_append_left _ (List.mem_append_left _ (List.mem_append_left _ (List.mem_append_left _ (List.mem_append_right _ h)))))
  have hfX7 : ∀ w ∈ wsX70, w ∈ wsX9_passHour := fun w h => List.mem_cons_of_mem _ (List.mem_append_left _ (List.mem_append_left _ (List.mem_append_left _ (List.mem_append_right _ h))))
  have hfX8 : ∀ w ∈ wsX80, w ∈ wsX9_passHour := fun w h => List.mem_cons_of_mem _ (List.mem_append_left _ (List.mem_append_left _ (List.mem_append_right _ h)))
  have hfX6 : ∀ w ∈ wsX60, w ∈ wsX9_passHour := fun w h => List.mem_cons_of_mem _ (List.mem_append_left _ (List.mem_append_right _ h))
  have hfX4 : ∀ w ∈ wsX40, w ∈ wsX9_passHour := fun w h => List.mem_cons_of_mem _ (List.mem_append_right _ h)
  refine lv_aload_n hx hb dX9_passHour_0 rfl (lv_at hl 0 rfl) ?_
  refine va_get (D := (dC, dI)) (ci := 9) (v := .ref wd) (C := RX9) (T := TX9) (N := 4) hx hb hts hfX9 hown hK hP 0 rfl rfl 0 (by decide) (hts (.fieldLink RX9 9 "ColdShips$Watch" "world" "LColdShips$World;") (by decide +kernel)) (fun _ h9 => h9) rfl dX9_passHour_1 ?_
  refine va_getN (D := (dC, dI)) (ci := 10) (v := .int now) (C := RX10) (T := TX10) (N := 19) hx hb hts hfX10 hown hK hP 1 rfl rfl 0 (by decide) (va_Nw.use rfl (hN.1 (.fieldLinkNest RX9 15 "ColdShips$World" "now" "I" "ColdShips") (by decide +kernel))) (fun _ h9 => h9) rfl dX9_passHour_4 ?_
  have hPc := hP.sub (ws' := []) [] rfl
  have hDc := hD.sub (ws' := []) [] (by decide +kernel) rfl
  have hKc := hK.sub (tys' := []) [] rfl
  refine pz_calli (va_runSN (As := [.int now]) (rest := []) ⟨hx, hb, hml, hown, hts⟩ (c_X11_isHour l dC dI _ now (now.toInt) rfl) ⟨(va_cnB (host := "ColdShips") 1 hts ggX9_passHour_X11_isHour rfl rfl rfl (hN.1 (.methodLinkNest RX9 21 yX11_isHour "ColdShips") (by decide +kernel)) (hts (.initialized RX11) (by decide +kernel)) (by decide +kernel) ⟨Nat.le_of_ble_eq_true rfl, Nat.le_of_ble_eq_true rfl⟩), (hts (.static yX11_isHour) (by decide +kernel)), trivial⟩ ⟨pz_blind, pz_pre hPc hKc hDc hN⟩ rfl rfl hl.1 rfl (lv_room (Nat.le_of_ble_eq_true rfl)) dX9_passHour_7 ⟨Nat.le_of_ble_eq_true rfl, Nat.le_of_ble_eq_true rfl⟩) (fun r1 hw => ?_)
  rcases hw with ⟨rfl, h2⟩ | ⟨rfl, h2⟩
  · refine lv_if_ne (tgt := 14) hx hb dX9_passHour_10 (by decide) (fun _ => ?_) (fun c9 => absurd c9 (by decide))
    refine lv_aload_n hx hb dX9_passHour_14 rfl (lv_at hl 0 rfl) ?_
    refine lv_aload_n hx hb dX9_passHour_15 rfl (lv_at hl 0 rfl) ?_
    refine va_get (D := (dC, dI)) (ci := 9) (v := .ref wd) (C := RX9) (T := TX9) (N := 4) hx hb hts hfX9 hown hK hP 0 rfl rfl 0 (by decide) (hts (.fieldLink RX9 9 "ColdShips$Watch" "world" "LColdShips$World;") (by decide +kernel)) (fun _ h9 => h9) rfl dX9_passHour_16 ?_
    refine va_getN (D := (dC, dI)) (ci := 10) (v := .int now) (C := RX10) (T := TX10) (N := 19) hx hb hts hfX10 hown hK hP 1 rfl rfl 0 (by decide) (va_Nw.use rfl (hN.1 (.fieldLinkNest RX9 15 "ColdShips$World" "now" "I" "ColdShips") (by decide +kernel))) (fun _ h9 => h9) rfl dX9_passHour_19 ?_
    refine va_put (D := (dC, dI)) (ci := 9) (v := .int now) (ty := .int) (C := RX9) (T := TX9) (N := 4) hx hb hts hfX9 tyX9 tyX9_ok nmX9 hown hK hP hD hS 0 rfl rfl 1 (by decide) (hts (.fieldLink RX9 25 "ColdShips$Watch" "hour" "I") (by decide +kernel)) (fun _ h9 => h9) rfl (by decide +kernel) rfl rfl (Nat.le_of_ble_eq_true rfl) dX9_passHour_22 (fun H locs hP hD hS => ?_)
    have hP : va_P (dC, dI) vwCl [(wa, .inr (9, [.ref wd, .int now, .int we, .int wt])), (wd, .inr (10, [.int now, .int bo, .int li, .int og, .int 0, .int 0, .int 0, .ref tdA, .ref seA, .ref teA, .ref shA, .ref coA, .ref slS, .ref brS, .ref foS, .ref prR, .ref rdR, .ref laR, .ref caR])), (seA, .inl (kS, 100, .inl fS))] H := hP
    have hD : va_D A [(wa, .inr (9, [.ref wd, .int now, .int we, .int wt])), (wd, .inr (10, [.int now, .int bo, .int li, .int og, .int 0, .int 0, .int 0, .ref tdA, .ref seA, .ref teA, .ref shA, .ref coA, .ref slS, .ref brS, .ref foS, .ref prR, .ref rdR, .ref laR, .ref caR])), (seA, .inl (kS, 100, .inl fS))] := hD
    refine lv_aload_n hx hb dX9_passHour_25 rfl (lv_at hl 0 rfl) ?_
    refine lv_aload_n hx hb dX9_passHour_26 rfl (lv_at hl 0 rfl) ?_
    refine va_get (D := (dC, dI)) (ci := 9) (v := .ref wd) (C := RX9) (T := TX9) (N := 4) hx hb hts hfX9 hown hK hP 0 rfl rfl 0 (by decide) (hts (.fieldLink RX9 9 "ColdShips$Watch" "world" "LColdShips$World;") (by decide +kernel)) (fun _ h9 => h9) rfl dX9_passHour_27 ?_
    refine va_getN (D := (dC, dI)) (ci := 10) (v := .ref seA) (C := RX10) (T := TX10) (N := 19) hx hb hts hfX10 hown hK hP 1 rfl rfl 8 (by decide) (va_Nw.use rfl (hN.1 (.fieldLinkNest RX9 28 "ColdShips$World" "seas" "[I" "ColdShips") (by decide +kernel))) (fun _ h9 => h9) rfl dX9_passHour_30 ?_
    refine lv_aload_n hx hb dX9_passHour_33 rfl (lv_at hl 0 rfl) ?_
    refine va_get (D := (dC, dI)) (ci := 9) (v := .int now) (C := RX9) (T := TX9) (N := 4) hx hb hts hfX9 hown hK hP 0 rfl rfl 1 (by decide) (hts (.fieldLink RX9 25 "ColdShips$Watch" "hour" "I") (by decide +kernel)) (fun _ h9 => h9) rfl dX9_passHour_34 ?_
    refine lv_bipush (v := 24) hx hb dX9_passHour_37 (by decide) ?_
    refine lv_idiv hx hb dX9_passHour_39 (by decide) ?_
    refine lv_topi (fun z3 ez3 => ?_)
    have iz3 : z3.toInt = now.toInt / 24 := zi_div ez3 rfl (show (24 : Int32).toInt = 24 from rfl) (by omega) (by omega)
    refine va_iald hx hb hK hP 2 0 rfl rfl (vp_in_iff.mpr ⟨by omega, by omega⟩) dX9_passHour_40 ?_
    refine lv_topi (fun z4 ez4 => ?_)
    refine va_put (D := (dC, dI)) (ci := 9) (v := .int z4) (ty := .int) (C := RX9) (T := TX9) (N := 4) hx hb hts hfX9 tyX9 tyX9_ok nmX9 hown hK hP hD hS 0 rfl rfl 2 (by decide) (hts (.fieldLink RX9 32 "ColdShips$Watch" "sea" "I") (by decide +kernel)) (fun _ h9 => h9) rfl (by decide +kernel) rfl rfl (Nat.le_of_ble_eq_true rfl) dX9_passHour_41 (fun H locs hP hD hS => ?_)
    have hP : va_P (dC, dI) vwCl [(wa, .inr (9, [.ref wd, .int now, .int z4, .int wt])), (wd, .inr (10, [.int now, .int bo, .int li, .int og, .int 0, .int 0, .int 0, .ref tdA, .ref seA, .ref teA, .ref shA, .ref coA, .ref slS, .ref brS, .ref foS, .ref prR, .ref rdR, .ref laR, .ref caR])), (seA, .inl (kS, 100, .inl fS))] H := hP
    have hD : va_D A [(wa, .inr (9, [.ref wd, .int now, .int z4, .int wt])), (wd, .inr (10, [.int now, .int bo, .int li, .int og, .int 0, .int 0, .int 0, .ref tdA, .ref seA, .ref teA, .ref shA, .ref coA, .ref slS, .ref brS, .ref foS, .ref prR, .ref rdR, .ref laR, .ref caR])), (seA, .inl (kS, 100, .inl fS))] := hD
    refine lv_aload_n hx hb dX9_passHour_44 rfl (lv_at hl 0 rfl) ?_
    refine lv_iconst (v := 0) hx hb dX9_passHour_45 (by decide) ?_
    refine va_put (D := (dC, dI)) (ci := 9) (v := .int 0) (ty := .boolean) (C := RX9) (T := TX9) (N := 4) hx hb hts hfX9 tyX9 tyX9_ok nmX9 hown hK hP hD hS 0 rfl rfl 3 (by decide) (hts (.fieldLink RX9 35 "ColdShips$Watch" "turnTaken" "Z") (by decide +kernel)) (fun _ h9 => h9) rfl (by decide +kernel) rfl rfl (Nat.le_of_ble_eq_true rfl) dX9_passHour_46 (fun H locs hP hD hS => ?_)
    have hP : va_P (dC, dI) vwCl [(wa, .inr (9, [.ref wd, .int now, .int z4, .int 0])), (wd, .inr (10, [.int now, .int bo, .int li, .int og, .int 0, .int 0, .int 0, .ref tdA, .ref seA, .ref teA, .ref shA, .ref coA, .ref slS, .ref brS, .ref foS, .ref prR, .ref rdR, .ref laR, .ref caR])), (seA, .inl (kS, 100, .inl fS))] H := hP
    have hD : va_D A [(wa, .inr (9, [.ref wd, .int now, .int z4, .int 0])), (wd, .inr (10, [.int now, .int bo, .int li, .int og, .int 0, .int 0, .int 0, .ref tdA, .ref seA, .ref teA, .ref shA, .ref coA, .ref slS, .ref brS, .ref foS, .ref prR, .ref rdR, .ref laR, .ref caR])), (seA, .inl (kS, 100, .inl fS))] := hD
    refine lv_iconst (v := 0) hx hb dX9_passHour_49 (by decide) ?_
    refine lv_istore_n (lv' := [(1, .int 0), (0, .ref wa)]) hx hb dX9_passHour_50 rfl hl (by decide) rfl (fun ls hl => ?_)
    refine lv_iload_n hx hb dX9_passHour_51 rfl (lv_at hl 0 rfl) ?_
    refine lv_aload_n hx hb dX9_passHour_52 rfl (lv_at hl 1 rfl) ?_
    refine va_get (D := (dC, dI)) (ci := 9) (v := .ref wd) (C := RX9) (T := TX9) (N := 4) hx hb hts hfX9 hown hK hP 0 rfl rfl 0 (by decide) (hts (.fieldLink RX9 9 "ColdShips$Watch" "world" "LColdShips$World;") (by decide +kernel)) (fun _ h9 => h9) rfl dX9_passHour_53 ?_
    refine va_getN (D := (dC, dI)) (ci := 10) (v := .int 0) (C := RX10) (T := TX10) (N := 19) hx hb hts hfX10 hown hK hP 1 rfl rfl 5 (by decide) (va_Nw.use rfl (hN.1 (.fieldLinkNest RX9 39 "ColdShips$World" "shipCount" "I" "ColdShips") (by decide +kernel))) (fun _ h9 => h9) rfl dX9_passHour_56 ?_
    refine lv_icmp_ge (tgt := 73) hx hb dX9_passHour_59 (by decide) (fun _ => ?_) (fun c9 => absurd c9 (by decide))
    refine lv_aload_n hx hb dX9_passHour_73 rfl (lv_at hl 1 rfl) ?_
    refine va_get (D := (dC, dI)) (ci := 9) (v := .ref wd) (C := RX9) (T := TX9) (N := 4) hx hb hts hfX9 hown hK hP 0 rfl rfl 0 (by decide) (hts (.fieldLink RX9 9 "ColdShips$Watch" "world" "LColdShips$World;") (by decide +kernel)) (fun _ h9 => h9) rfl dX9_passHour_74 ?_
    refine lv_dup hx hb dX9_passHour_77 rfl ?_
    refine va_getN (D := (dC, dI)) (ci := 10) (v := .int now) (C := RX10) (T := TX10) (N := 19) hx hb hts hfX10 hown hK hP 1 rfl rfl 0 (by decide) (va_Nw.use rfl (hN.1 (.fieldLinkNest RX9 15 "ColdShips$World" "now" "I" "ColdShips") (by decide +kernel))) (fun _ h9 => h9) rfl dX9_passHour_78 ?_
    refine lv_iconst (v := 1) hx hb dX9_passHour_81 (by decide) ?_
    refine lv_iadd hx hb dX9_passHour_82 ?_
    refine lv_topi (fun z5 ez5 => ?_)
    have iz5 : z5.toInt = now.toInt + 1 := zi_add ez5 rfl rfl (by omega) (by omega)
    refine va_putN (D := (dC, dI)) (ci := 10) (v := .int z5) (ty := .int) (C := RX10) (T := TX10) (N := 19) hx hb hts hfX10 tyX10 tyX10_ok nmX10 hown hK hP hD hS 1 rfl rfl 0 (by decide) (va_Nw.use rfl (hN.1 (.fieldLinkNest RX9 15 "ColdShips$World" "now" "I" "ColdShips") (by decide +kernel))) (fun _ h9 => h9) rfl (by decide +kernel) rfl rfl (Nat.le_of_ble_eq_true rfl) dX9_passHour_83 (fun H locs hP hD hS => ?_)
    have hP : va_P (dC, dI) vwCl [(wa, .inr (9, [.ref wd, .int now, .int z4, .int 0])), (wd, .inr (10, [.int z5, .int bo, .int li, .int og, .int 0, .int 0, .int 0, .ref tdA, .ref seA, .ref teA, .ref shA, .ref coA, .ref slS, .ref brS, .ref foS, .ref prR, .ref rdR, .ref laR, .ref caR])), (seA, .inl (kS, 100, .inl fS))] H := hP
    have hD : va_D A [(wa, .inr (9, [.ref wd, .int now, .int z4, .int 0])), (wd, .inr (10, [.int z5, .int bo, .int li, .int og, .int 0, .int 0, .int 0, .ref tdA, .ref seA, .ref teA, .ref shA, .ref coA, .ref slS, .ref brS, .ref foS, .ref prR, .ref rdR, .ref laR, .ref caR])), (seA, .inl (kS, 100, .inl fS))] := hD
    have hP9 := hP.sub (ws' := [(wa, .inr (9, [.ref wd, .int now, .int z4, .int 0])), (wd, .inr (10, [.int z5, .int bo, .int li, .int og, .int 0, .int 0, .int 0, .ref tdA, .ref seA, .ref teA, .ref shA, .ref coA, .ref slS, .ref brS, .ref foS, .ref prR, .ref rdR, .ref laR, .ref caR])), (seA, .inl (kS, 100, .inl fS))]) [0, 1, 2] rfl
    have hD9 := hD.sub (ws' := [(wa, .inr (9, [.ref wd, .int now, .int z4, .int 0])), (wd, .inr (10, [.int z5, .int bo, .int li, .int og, .int 0, .int 0, .int 0, .ref tdA, .ref seA, .ref teA, .ref shA, .ref coA, .ref slS, .ref brS, .ref foS, .ref prR, .ref rdR, .ref laR, .ref caR])), (seA, .inl (kS, 100, .inl fS))]) [0, 1, 2] (by decide +kernel) rfl
    have hK9 := hK.sub (tys' := [(kS, .int)]) [0] rfl
    exact W.vret hx hb hr (fun t ht hW => ⟨⟨(), rfl, trivial, ⟨now, z4, 0, z5, (by first | rfl | decide | omega), by rw [ht]; exact hP9, va_K.moved hW.alike hK9, hD9⟩⟩, hS.F ht⟩) hS.2.2 dX9_passHour_86
  · exfalso; omega
set_option maxHeartbeats 4000000 in
set_option maxRecDepth 100000 in
theorem c_X11_go (l : Launch) (dC : Nat → ClassId) (dI : Nat → Nat → Nat) (sz : Nat) (h0 : Nat) (xa : Int32) (wd : Nat) (im : Nat) (wa : Nat) (re : Nat) (rk : Nat) (pl : Nat) (fz : Int32) (wh : Int32) (we : Int32) (wt : Int32) (bo : Int32) (li : Int32) (og : Int32) (tdA : Nat) (seA : Nat) (teA : Nat) (shA : Nat) (coA : Nat) (slS : Nat) (brS : Nat) (foS : Nat) (prR : Nat) (rdR : Nat) (laR : Nat) (caR : Nat) (kS : ClassId) (fS : Nat → Int32)  : Met l yX11_go wsX11_go ({ frames := 7, cells := 0, slots := 0, locals := 2400 }) (va_Pc [.ref h0, .int xa] (pz_B dC dI [(kS, .int)] [(h0, .inr (11, [.ref wd, .ref im, .ref wa, .ref re, .ref rk, .ref pl, .int fz])), (wa, .inr (9, [.ref wd, .int wh, .int we, .int wt])), (wd, .inr (10, [.int 0, .int bo, .int li, .int og, .int 0, .int 0, .int 0, .ref tdA, .ref seA, .ref teA, .ref shA, .ref coA, .ref slS, .ref brS, .ref foS, .ref prR, .ref rdR, .ref laR, .ref caR])), (seA, .inl (kS, 100, .inl fS))] sz)) (va_Qi (fun (r : Int32) (_ : Unit) => r = F_go xa) (fun (_ : Unit) (_ : State) => True) (va_A [(h0, .inr (11, [.ref wd, .ref im, .ref wa, .ref re, .ref rk, .ref pl, .int fz])), (wa, .inr (9, [.ref wd, .int wh, .int we, .int wt])), (wd, .inr (10, [.int 0, .int bo, .int li, .int og, .int 0, .int 0, .int 0, .ref tdA, .ref seA, .ref teA, .ref shA, .ref coA, .ref slS, .ref brS, .ref foS, .ref prR, .ref rdR, .ref laR, .ref caR])), (seA, .inl (kS, 100, .inl fS))] sz)) 0 0 (va_A [(h0, .inr (11, [.ref wd, .ref im, .ref wa, .ref re, .ref rk, .ref pl, .int fz])), (wa, .inr (9, [.ref wd, .int wh, .int we, .int wt])), (wd, .inr (10, [.int 0, .int bo, .int li, .int og, .int 0, .int 0, .int 0, .ref tdA, .ref seA, .ref teA, .ref shA, .ref coA, .ref slS, .ref brS, .ref foS, .ref prR, .ref rdR, .ref laR, .ref caR])), (seA, .inl (kS, 100, .inl fS))] sz) := by
  refine Met.ofW (cc := cX11_go) (maxL := 3) (ret := some .int) (by decide) rfl ?_
  intro p e s m args below meth c s₁ B hml hv
  obtain ⟨rfl, hsz, hP, hK, hD0, hN⟩ := hv
  have hx := B.exec
  have hb := B.bytes
  have hr := B.returns
  have hts := atoms_spec (ws := wsX11_go) B.pre
  have hown : s.vm.findClass RX11 = some m.cls := findClass_of_methodNamed B.named
  have hlocks := B.notSynchronized
  subst hsz
  have hD := hD0.self (sz := s.heap.size)
  generalize hAe : va_A [(h0, .inr (11, [.ref wd, .ref im, .ref wa, .ref re, .ref rk, .ref pl, .int fz])), (wa, .inr (9, [.ref wd, .int wh, .int we, .int wt])), (wd, .inr (10, [.int 0, .int bo, .int li, .int og, .int 0, .int 0, .int 0, .ref tdA, .ref seA, .ref teA, .ref shA, .ref coA, .ref slS, .ref brS, .ref foS, .ref prR, .ref rdR, .ref laR, .ref caR])), (seA, .inl (kS, 100, .inl fS))] s.heap.size = A at hD ⊢
  have hA : ∀ q : Nat, s.heap.size ≤ q → A q := fun q h => by rw [← hAe]; exact Or.inr h
  have hS : va_S A s.heap s.heap [] := va_S.rf
  have hl := lv_entry ([.ref h0, .int xa]) (n := 3) (Nat.le_of_ble_eq_true rfl)
  rw [lg_entry_eq]
  generalize (lg_sl ([.ref h0, .int xa]) ++ List.replicate (3 - (lg_sl ([.ref h0, .int xa])).length) Slot.unset).toArray = ls at hl ⊢
  have hl : lv_has ls 3 [(0, .ref h0), (1, .int xa)] := hl
  have hfX11 : ∀ w ∈ wsX110, w ∈ wsX11_go := fun w h => List.mem_cons_of_mem _ (List.mem_append_left _ (List.mem_append_left _ (List.mem_append_left _ (List.mem_append_left _ (List.mem_append_left _ (List.mem_append_left _ (List.mem_append_left _ (List.mem_append_right _ h))))))))
  have hfX10 : ∀ w ∈ wsX100, w ∈ wsX11_go := fun w h => List.mem_cons_of_mem _ (List.mem_append_left _ (List.mem_append_left _ (List.mem_append_left _ (List.mem_append_left _ (List.mem_append_left _ (List.mem_append_left _ (List.mem_append_right _ h)))))))
  have hfX9 : ∀ w ∈ wsX90, w ∈ wsX11_go := fun w h => List.mem_cons_of_mem _ (List.mem_append_left _ (List.mem_append_left _ (List.mem_append_left _ (List.mem_append_left _ (List.mem_append_left _ (List.mem_append_right _ h))))))
  have hfX5 : ∀ w ∈ wsX50, w ∈ wsX11_go := fun w h => List.mem_cons_of_mem _ (List.mem_append_left _ (List.mem_append_left _ (List.mem_append_left _ (List.mem_append_left _ (List.mem_append_right _ h)))))
  have hfX7 : ∀ w ∈ wsX70, w ∈ wsX11_go := fun w h => List.mem_cons_of_mem _ (List.mem_append_left _ (List.mem_append_left _ (List.mem_append_left _ (List.mem_append_right _ h))))
  have hfX8 : ∀ w ∈ wsX80, w ∈ wsX11_go := fun w h => List.mem_cons_of_mem _ (List.mem_append_left _ (List.mem_append_left _ (List.mem_append_right _ h)))
  have hfX6 : ∀ w ∈ wsX60, w ∈ wsX11_go := fun w h => List.mem_cons_of_mem _ (List.mem_append_left _ (List.mem_append_right _ h))
  have hfX4 : ∀ w ∈ wsX40, w ∈ wsX11_go := fun w h => List.mem_cons_of_mem _ (List.mem_append_right _ h)
  refine lv_iload_n hx hb dX11_go_0 rfl (lv_at hl 1 rfl) ?_
  refine lv_iconst (v := 1) hx hb dX11_go_1 (by decide) ?_
  refine lv_sipush (v := 480) hx hb dX11_go_2 (by decide) ?_
  have hPc := hP.sub (ws' := []) [] rfl
  have hDc := hD.sub (ws' := []) [] (by decide +kernel) rfl
  have hKc := hK.sub (tys' := []) [] rfl
  refine pz_calli (va_runS (As := [.int xa, .int 1, .int 480]) (rest := []) ⟨hx, hb, hml, hown, hts⟩ (c_X11_within l dC dI _ xa 1 480 (xa.toInt) (1) (480) rfl rfl rfl) (va_cwS 3 hts gX11_go_X11_within rfl rfl rfl (by decide +kernel) ⟨Nat.le_of_ble_eq_true rfl, Nat.le_of_ble_eq_true rfl⟩) ⟨pz_blind, pz_pre hPc hKc hDc hN⟩ rfl rfl hl.1 rfl (lv_room (Nat.le_of_ble_eq_true rfl)) dX11_go_5 ⟨Nat.le_of_ble_eq_true rfl, Nat.le_of_ble_eq_true rfl⟩) (fun r1 hw => ?_)
  rcases hw with ⟨rfl, h2⟩ | ⟨rfl, h2⟩
  · refine lv_if_eq (tgt := 26) hx hb dX11_go_8 (by decide) (fun c9 => absurd c9 (by decide)) (fun _ => ?_)
    refine lv_aload_n hx hb dX11_go_11 rfl (lv_at hl 0 rfl) ?_
    refine va_get (D := (dC, dI)) (ci := 11) (v := .ref wd) (C := RX11) (T := TX11) (N := 7) hx hb hts hfX11 hown hK hP 0 rfl rfl 0 (by decide) (hts (.fieldLink RX11 10 "ColdShips" "world" "LColdShips$World;") (by decide +kernel)) (fun _ h9 => h9) rfl dX11_go_12 ?_
    refine va_getN (D := (dC, dI)) (ci := 10) (v := .int 0) (C := RX10) (T := TX10) (N := 19) hx hb hts hfX10 hown hK hP 2 rfl rfl 0 (by decide) (va_Nw.use rfl (hN.1 (.fieldLinkNest RX11 154 "ColdShips$World" "now" "I" "ColdShips") (by decide +kernel))) (fun _ h9 => h9) rfl dX11_go_15 ?_
    refine lv_iload_n hx hb dX11_go_18 rfl (lv_at hl 1 rfl) ?_
    refine lv_iadd hx hb dX11_go_19 ?_
    refine lv_topi (fun z3 ez3 => ?_)
    have iz3 : z3.toInt = 0 + xa.toInt := zi_add ez3 rfl rfl (by omega) (by omega)
    refine lv_sipush (v := 2399) hx hb dX11_go_20 (by decide) ?_
    refine lv_icmp_le (tgt := 32) hx hb dX11_go_23 (by decide) (fun c4 => ?_) (fun c4 => ?_)
    · have ic4 : z3.toInt ≤ 2399 := zi_le rfl rfl c4
      refine lv_iconst (v := 0) hx hb dX11_go_32 (by decide) ?_
      refine lv_istore_n (lv' := [(2, .int 0), (0, .ref h0), (1, .int xa)]) hx hb dX11_go_33 rfl hl (by decide) rfl (fun ls hl => ?_)
      refine pz_loop (fun n0 H locs ls => ∃ i : Int32, ∃ now : Int32, ∃ wh : Int32, ∃ we : Int32, ∃ wt : Int32, n0 = (xa.toInt - i.toInt).toNat ∧ (0 ≤ i.toInt ∧ i.toInt ≤ xa.toInt ∧ now.toInt = i.toInt) ∧ va_P (dC, dI) vwCl [(h0, .inr (11, [.ref wd, .ref im, .ref wa, .ref re, .ref rk, .ref pl, .int fz])), (wa, .inr (9, [.ref wd, .int wh, .int we, .int wt])), (wd, .inr (10, [.int now, .int bo, .int li, .int og, .int 0, .int 0, .int 0, .ref tdA, .ref seA, .ref teA, .ref shA, .ref coA, .ref slS, .ref brS, .ref foS, .ref prR, .ref rdR, .ref laR, .ref caR])), (seA, .inl (kS, 100, .inl fS))] H ∧ va_D A [(h0, .inr (11, [.ref wd, .ref im, .ref wa, .ref re, .ref rk, .ref pl, .int fz])), (wa, .inr (9, [.ref wd, .int wh, .int we, .int wt])), (wd, .inr (10, [.int now, .int bo, .int li, .int og, .int 0, .int 0, .int 0, .ref tdA, .ref seA, .ref teA, .ref shA, .ref coA, .ref slS, .ref brS, .ref foS, .ref prR, .ref rdR, .ref laR, .ref caR])), (seA, .inl (kS, 100, .inl fS))] ∧ va_S A s.heap H locs ∧ lv_has ls 3 [(0, .ref h0), (1, .int xa), (2, .int i)]) ?_ _ _ _ _ ⟨0, 0, wh, we, wt,  rfl, ⟨by decide, by show (0 : Int) ≤ _; omega, rfl⟩,  hP.sub [0, 1, 2, 3] rfl, hD.sub [0, 1, 2, 3] (by decide) rfl, hS, lv_sub hl [1, 2, 0] rfl⟩
      intro n0 H locs ls hI ih
      obtain ⟨i, now, wh, we, wt,  hn0, hi,  hP, hD, hS, hl⟩ := hI
      refine lv_iload_n hx hb dX11_go_34 rfl (lv_at hl 2 rfl) ?_
      refine lv_iload_n hx hb dX11_go_35 rfl (lv_at hl 1 rfl) ?_
      refine lv_icmp_ge (tgt := 52) hx hb dX11_go_36 (by decide) (fun c5 => ?_) (fun c5 => ?_)
      · have ic5 : i.toInt ≥ xa.toInt := zi_ge rfl rfl c5
        refine lv_aload_n hx hb dX11_go_52 rfl (lv_at hl 0 rfl) ?_
        refine lv_aload_n hx hb dX11_go_53 rfl (lv_at hl 0 rfl) ?_
        refine va_get (D := (dC, dI)) (ci := 11) (v := .ref wd) (C := RX11) (T := TX11) (N := 7) hx hb hts hfX11 hown hK hP 0 rfl rfl 0 (by decide) (hts (.fieldLink RX11 10 "ColdShips" "world" "LColdShips$World;") (by decide +kernel)) (fun _ h9 => h9) rfl dX11_go_54 ?_
        refine va_getN (D := (dC, dI)) (ci := 10) (v := .int now) (C := RX10) (T := TX10) (N := 19) hx hb hts hfX10 hown hK hP 2 rfl rfl 0 (by decide) (va_Nw.use rfl (hN.1 (.fieldLinkNest RX11 154 "ColdShips$World" "now" "I" "ColdShips") (by decide +kernel))) (fun _ h9 => h9) rfl dX11_go_57 ?_
        have hPc := hP.sub (ws' := [(h0, .inr (11, [.ref wd, .ref im, .ref wa, .ref re, .ref rk, .ref pl, .int fz]))]) [0] rfl
        have hDc := hD.sub (ws' := [(h0, .inr (11, [.ref wd, .ref im, .ref wa, .ref re, .ref rk, .ref pl, .int fz]))]) [0] (by decide +kernel) rfl
        have hKc := hK.sub (tys' := []) [] rfl
        have hFc := va_free (wc := [(h0, .inr (11, [.ref wd, .ref im, .ref wa, .ref re, .ref rk, .ref pl, .int fz]))]) hD hS hA [0] rfl
        refine va_calli (va_runV (As := [.int now]) (rest := []) ⟨hx, hb, hml, hown, hts⟩ (c_X11_accept l dC dI _ h0 wd im wa re rk pl fz now) (cwV 1 hts gX11_go_X11_accept rfl rfl rfl (by decide +kernel) ⟨Nat.le_of_ble_eq_true rfl, Nat.le_of_ble_eq_true rfl⟩) ⟨pz_blind, va_recv hKc hPc (ci := 11) (q0 := 0) rfl rfl, pz_pre hPc hKc hDc hN⟩ rfl rfl hl.1 rfl (lv_room (Nat.le_of_ble_eq_true rfl)) dX11_go_60 ⟨Nat.le_of_ble_eq_true rfl, Nat.le_of_ble_eq_true rfl⟩) hS (fun q _ h => hFc q h) hFc (fun r6 u t H1 locs ht hvm hw hB hz1 hk1 hS => ?_)
        obtain ⟨hP, hD⟩ := va_join (wr := [(wa, .inr (9, [.ref wd, .int wh, .int we, .int wt])), (wd, .inr (10, [.int now, .int bo, .int li, .int og, .int 0, .int 0, .int 0, .ref tdA, .ref seA, .ref teA, .ref shA, .ref coA, .ref slS, .ref brS, .ref foS, .ref prR, .ref rdR, .ref laR, .ref caR])), (seA, .inl (kS, 100, .inl fS))]) (w1 := []) hP hD [0] [1, 2, 3] rfl rfl (by decide +kernel) (by decide +kernel) hk1 hFc pz_P0 pz_D0
        generalize H1 = H at hP hS ⊢
        have hP : va_P (dC, dI) vwCl [(wa, .inr (9, [.ref wd, .int wh, .int we, .int wt])), (wd, .inr (10, [.int now, .int bo, .int li, .int og, .int 0, .int 0, .int 0, .ref tdA, .ref seA, .ref teA, .ref shA, .ref coA, .ref slS, .ref brS, .ref foS, .ref prR, .ref rdR, .ref laR, .ref caR])), (seA, .inl (kS, 100, .inl fS))] H := hP
        have hD : va_D A [(wa, .inr (9, [.ref wd, .int wh, .int we, .int wt])), (wd, .inr (10, [.int now, .int bo, .int li, .int og, .int 0, .int 0, .int 0, .ref tdA, .ref seA, .ref teA, .ref shA, .ref coA, .ref slS, .ref brS, .ref foS, .ref prR, .ref rdR, .ref laR, .ref caR])), (seA, .inl (kS, 100, .inl fS))] := hD
        have hK : va_K (dC, dI) vwCl [(kS, .int)] s := hK
        obtain rfl : now = r6 := hw.symm
        exact W.iret (v := now) hx hb hr (fun t ht hW => ⟨⟨now, (), rfl, (by unfold F_go; (repeat' split) <;> first | rfl | (exfalso; omega) | exact Int32.toInt_inj.mp (by omega)), trivial⟩, hS.F ht⟩) hS.2.2 dX11_go_63
      · have ic5 : i.toInt < xa.toInt := zi_gef rfl rfl c5
        refine lv_aload_n hx hb dX11_go_39 rfl (lv_at hl 0 rfl) ?_
        refine va_get (D := (dC, dI)) (ci := 11) (v := .ref wa) (C := RX11) (T := TX11) (N := 7) hx hb hts hfX11 hown hK hP 0 rfl rfl 2 (by decide) (hts (.fieldLink RX11 25 "ColdShips" "watch" "LColdShips$Watch;") (by decide +kernel)) (fun _ h9 => h9) rfl dX11_go_40 ?_
        have hPc := hP.sub (ws' := [(wa, .inr (9, [.ref wd, .int wh, .int we, .int wt])), (wd, .inr (10, [.int now, .int bo, .int li, .int og, .int 0, .int 0, .int 0, .ref tdA, .ref seA, .ref teA, .ref shA, .ref coA, .ref slS, .ref brS, .ref foS, .ref prR, .ref rdR, .ref laR, .ref caR])), (seA, .inl (kS, 100, .inl fS))]) [1, 2, 3] rfl
        have hDc := hD.sub (ws' := [(wa, .inr (9, [.ref wd, .int wh, .int we, .int wt])), (wd, .inr (10, [.int now, .int bo, .int li, .int og, .int 0, .int 0, .int 0, .ref tdA, .ref seA, .ref teA, .ref shA, .ref coA, .ref slS, .ref brS, .ref foS, .ref prR, .ref rdR, .ref laR, .ref caR])), (seA, .inl (kS, 100, .inl fS))]) [1, 2, 3] (by decide +kernel) rfl
        have hKc := hK.sub (tys' := [(kS, .int)]) [0] rfl
        have hFc := va_free (wc := [(wa, .inr (9, [.ref wd, .int wh, .int we, .int wt])), (wd, .inr (10, [.int now, .int bo, .int li, .int og, .int 0, .int 0, .int 0, .ref tdA, .ref seA, .ref teA, .ref shA, .ref coA, .ref slS, .ref brS, .ref foS, .ref prR, .ref rdR, .ref laR, .ref caR])), (seA, .inl (kS, 100, .inl fS))]) hD hS hA [1, 2, 3] rfl
        refine va_callv (va_runV (As := []) (rest := []) ⟨hx, hb, hml, hown, hts⟩ (c_X9_passHour l dC dI _ wa wd wh we wt now bo li og tdA seA teA shA coA slS brS foS prR rdR laR caR kS fS (by first | decide | omega)) (cwV 0 hts gX11_go_X9_passHour rfl rfl rfl (by decide +kernel) ⟨Nat.le_of_ble_eq_true rfl, Nat.le_of_ble_eq_true rfl⟩) ⟨pz_blind, va_recv hKc hPc (ci := 9) (q0 := 0) rfl rfl, pz_pre hPc hKc hDc hN⟩ rfl rfl hl.1 rfl (lv_room (Nat.le_of_ble_eq_true rfl)) dX11_go_43 ⟨Nat.le_of_ble_eq_true rfl, Nat.le_of_ble_eq_true rfl⟩) hS (fun q _ h => hFc q h) hFc (fun u t H1 locs ht hvm hw hB hz1 hk1 hS => ?_)
        obtain ⟨wh_8, we_9, wt_10, now_11, h12, hP1, hK1, hD1⟩ := hB
        rw [ht] at hP1
        have hK1 := va_K.moved hvm.symm hK1
        obtain ⟨hP, hD⟩ := va_join (wr := [(h0, .inr (11, [.ref wd, .ref im, .ref wa, .ref re, .ref rk, .ref pl, .int fz]))]) (w1 := [(wa, .inr (9, [.ref wd, .int wh_8, .int we_9, .int wt_10])), (wd, .inr (10, [.int now_11, .int bo, .int li, .int og, .int 0, .int 0, .int 0, .ref tdA, .ref seA, .ref teA, .ref shA, .ref coA, .ref slS, .ref brS, .ref foS, .ref prR, .ref rdR, .ref laR, .ref caR])), (seA, .inl (kS, 100, .inl fS))]) hP hD [1, 2, 3] [0] rfl rfl (by decide +kernel) (by decide +kernel) hk1 hFc hP1 hD1
        have hK := hK.app hK1
        generalize H1 = H at hP hS ⊢
        have hP : va_P (dC, dI) vwCl [(h0, .inr (11, [.ref wd, .ref im, .ref wa, .ref re, .ref rk, .ref pl, .int fz])), (wa, .inr (9, [.ref wd, .int wh_8, .int we_9, .int wt_10])), (wd, .inr (10, [.int now_11, .int bo, .int li, .int og, .int 0, .int 0, .int 0, .ref tdA, .ref seA, .ref teA, .ref shA, .ref coA, .ref slS, .ref brS, .ref foS, .ref prR, .ref rdR, .ref laR, .ref caR])), (seA, .inl (kS, 100, .inl fS))] H := hP
        have hD : va_D A [(h0, .inr (11, [.ref wd, .ref im, .ref wa, .ref re, .ref rk, .ref pl, .int fz])), (wa, .inr (9, [.ref wd, .int wh_8, .int we_9, .int wt_10])), (wd, .inr (10, [.int now_11, .int bo, .int li, .int og, .int 0, .int 0, .int 0, .ref tdA, .ref seA, .ref teA, .ref shA, .ref coA, .ref slS, .ref brS, .ref foS, .ref prR, .ref rdR, .ref laR, .ref caR])), (seA, .inl (kS, 100, .inl fS))] := hD
        have hK : va_K (dC, dI) vwCl [(kS, .int), (kS, .int)] s := hK
        obtain ⟨z13, ez13⟩ : ∃ y : Int32, y = i + 1 := ⟨_, rfl⟩
        refine lv_iinc (v := z13) (lv' := [(2, .int z13), (0, .ref h0), (1, .int xa)]) hx hb dX11_go_46 hl (k := 2) rfl (by rw [ez13]; rfl) (by decide) rfl (fun ls hl => ?_)
        have iz13 : z13.toInt = i.toInt + 1 := zi_add ez13 rfl (show (1 : Int32).toInt = 1 from rfl) (by omega) (by omega)
        refine lv_goto (tgt := 34) hx hb dX11_go_49 (by decide) ?_
        exact ih _ _ _ _ (by rw [hn0]; omega) ⟨z13, now_11, wh_8, we_9, wt_10,  rfl, (by omega),  hP.sub [0, 1, 2, 3] rfl, hD.sub [0, 1, 2, 3] (by decide) rfl, hS, lv_sub hl [1, 2, 0] rfl⟩
    · have ic4 : z3.toInt > 2399 := zi_lef rfl rfl c4
      refine lv_aload_n hx hb dX11_go_26 rfl (lv_at hl 0 rfl) ?_
      refine lv_iconst (v := (-1)) hx hb dX11_go_27 (by decide) ?_
      have hPc := hP.sub (ws' := [(h0, .inr (11, [.ref wd, .ref im, .ref wa, .ref re, .ref rk, .ref pl, .int fz]))]) [0] rfl
      have hDc := hD.sub (ws' := [(h0, .inr (11, [.ref wd, .ref im, .ref wa, .ref re, .ref rk, .ref pl, .int fz]))]) [0] (by decide +kernel) rfl
      have hKc := hK.sub (tys' := []) [] rfl
      have hFc := va_free (wc := [(h0, .inr (11, [.ref wd, .ref im, .ref wa, .ref re, .ref rk, .ref pl, .int fz]))]) hD hS hA [0] rfl
      refine va_calli (va_runV (As := [.int (-1)]) (rest := []) ⟨hx, hb, hml, hown, hts⟩ (c_X11_refuse l dC dI _ h0 wd im wa re rk pl fz (-1)) (cwV 1 hts gX11_go_X11_refuse rfl rfl rfl (by decide +kernel) ⟨Nat.le_of_ble_eq_true rfl, Nat.le_of_ble_eq_true rfl⟩) ⟨pz_blind, va_recv hKc hPc (ci := 11) (q0 := 0) rfl rfl, pz_pre hPc hKc hDc hN⟩ rfl rfl hl.1 rfl (lv_room (Nat.le_of_ble_eq_true rfl)) dX11_go_28 ⟨Nat.le_of_ble_eq_true rfl, Nat.le_of_ble_eq_true rfl⟩) hS (fun q _ h => hFc q h) hFc (fun r14 u t H1 locs ht hvm hw hB hz1 hk1 hS => ?_)
      obtain ⟨hP, hD⟩ := va_join (wr := [(wa, .inr (9, [.ref wd, .int wh, .int we, .int wt])), (wd, .inr (10, [.int 0, .int bo, .int li, .int og, .int 0, .int 0, .int 0, .ref tdA, .ref seA, .ref teA, .ref shA, .ref coA, .ref slS, .ref brS, .ref foS, .ref prR, .ref rdR, .ref laR, .ref caR])), (seA, .inl (kS, 100, .inl fS))]) (w1 := []) hP hD [0] [1, 2, 3] rfl rfl (by decide +kernel) (by decide +kernel) hk1 hFc pz_P0 pz_D0
      generalize H1 = H at hP hS ⊢
      have hP : va_P (dC, dI) vwCl [(wa, .inr (9, [.ref wd, .int wh, .int we, .int wt])), (wd, .inr (10, [.int 0, .int bo, .int li, .int og, .int 0, .int 0, .int 0, .ref tdA, .ref seA, .ref teA, .ref shA, .ref coA, .ref slS, .ref brS, .ref foS, .ref prR, .ref rdR, .ref laR, .ref caR])), (seA, .inl (kS, 100, .inl fS))] H := hP
      have hD : va_D A [(wa, .inr (9, [.ref wd, .int wh, .int we, .int wt])), (wd, .inr (10, [.int 0, .int bo, .int li, .int og, .int 0, .int 0, .int 0, .ref tdA, .ref seA, .ref teA, .ref shA, .ref coA, .ref slS, .ref brS, .ref foS, .ref prR, .ref rdR, .ref laR, .ref caR])), (seA, .inl (kS, 100, .inl fS))] := hD
      have hK : va_K (dC, dI) vwCl [(kS, .int)] s := hK
      obtain rfl : (-1) = r14 := hw.symm
      exact W.iret (v := (-1)) hx hb hr (fun t ht hW => ⟨⟨(-1), (), rfl, (by unfold F_go; (repeat' split) <;> first | rfl | (exfalso; omega) | exact Int32.toInt_inj.mp (by omega)), trivial⟩, hS.F ht⟩) hS.2.2 dX11_go_31
  · refine lv_if_eq (tgt := 26) hx hb dX11_go_8 (by decide) (fun _ => ?_) (fun c9 => absurd c9 (by decide))
    refine lv_aload_n hx hb dX11_go_26 rfl (lv_at hl 0 rfl) ?_
    refine lv_iconst (v := (-1)) hx hb dX11_go_27 (by decide) ?_
    have hPc := hP.sub (ws' := [(h0, .inr (11, [.ref wd, .ref im, .ref wa, .ref re, .ref rk, .ref pl, .int fz]))]) [0] rfl
    have hDc := hD.sub (ws' := [(h0, .inr (11, [.ref wd, .ref im, .ref wa, .ref re, .ref rk, .ref pl, .int fz]))]) [0] (by decide +kernel) rfl
    have hKc := hK.sub (tys' := []) [] rfl
    have hFc := va_free (wc := [(h0, .inr (11, [.ref wd, .ref im, .ref wa, .ref re, .ref rk, .ref pl, .int fz]))]) hD hS hA [0] rfl
    refine va_calli (va_runV (As := [.int (-1)]) (rest := []) ⟨hx, hb, hml, hown, hts⟩ (c_X11_refuse l dC dI _ h0 wd im wa re rk pl fz (-1)) (cwV 1 hts gX11_go_X11_refuse rfl rfl rfl (by decide +kernel) ⟨Nat.le_of_ble_eq_true rfl, Nat.le_of_ble_eq_true rfl⟩) ⟨pz_blind, va_recv hKc hPc (ci := 11) (q0 := 0) rfl rfl, pz_pre hPc hKc hDc hN⟩ rfl rfl hl.1 rfl (lv_room (Nat.le_of_ble_eq_true rfl)) dX11_go_28 ⟨Nat.le_of_ble_eq_true rfl, Nat.le_of_ble_eq_true rfl⟩) hS (fun q _ h => hFc q h) hFc (fun r15 u t H1 locs ht hvm hw hB hz1 hk1 hS => ?_)
    obtain ⟨hP, hD⟩ := va_join (wr := [(wa, .inr (9, [.ref wd, .int wh, .int we, .int wt])), (wd, .inr (10, [.int 0, .int bo, .int li, .int og, .int 0, .int 0, .int 0, .ref tdA, .ref seA, .ref teA, .ref shA, .ref coA, .ref slS, .ref brS, .ref foS, .ref prR, .ref rdR, .ref laR, .ref caR])), (seA, .inl (kS, 100, .inl fS))]) (w1 := []) hP hD [0] [1, 2, 3] rfl rfl (by decide +kernel) (by decide +kernel) hk1 hFc pz_P0 pz_D0
    generalize H1 = H at hP hS ⊢
    have hP : va_P (dC, dI) vwCl [(wa, .inr (9, [.ref wd, .int wh, .int we, .int wt])), (wd, .inr (10, [.int 0, .int bo, .int li, .int og, .int 0, .int 0, .int 0, .ref tdA, .ref seA, .ref teA, .ref shA, .ref coA, .ref slS, .ref brS, .ref foS, .ref prR, .ref rdR, .ref laR, .ref caR])), (seA, .inl (kS, 100, .inl fS))] H := hP
    have hD : va_D A [(wa, .inr (9, [.ref wd, .int wh, .int we, .int wt])), (wd, .inr (10, [.int 0, .int bo, .int li, .int og, .int 0, .int 0, .int 0, .ref tdA, .ref seA, .ref teA, .ref shA, .ref coA, .ref slS, .ref brS, .ref foS, .ref prR, .ref rdR, .ref laR, .ref caR])), (seA, .inl (kS, 100, .inl fS))] := hD
    have hK : va_K (dC, dI) vwCl [(kS, .int)] s := hK
    obtain rfl : (-1) = r15 := hw.symm
    exact W.iret (v := (-1)) hx hb hr (fun t ht hW => ⟨⟨(-1), (), rfl, (by unfold F_go; (repeat' split) <;> first | rfl | (exfalso; omega) | exact Int32.toInt_inj.mp (by omega)), trivial⟩, hS.F ht⟩) hS.2.2 dX11_go_31
set_option maxHeartbeats 4000000 in
set_option maxRecDepth 100000 in
theorem c_X1_keepPlan (l : Launch) (dC : Nat → ClassId) (dI : Nat → Nat → Nat) (sz : Nat) (pl : Nat) (v : Int32) (u : Int32) (wd : Nat) (pp0 : Nat) (pp1 : Nat) (plw : Nat) (pls : Nat) (pi0 : Int32) (pi1 : Int32) (pi2 : Int32) (pw : Int64) (pn : Int32) (pq0 : Nat) (pq1 : Nat) (pq2 : Nat) (pq3 : Nat) (pq4 : Nat) (bo : Int32) (li : Int32) (og : Int32) (tdA : Nat) (seA : Nat) (teA : Nat) (shA : Nat) (coA : Nat) (slS : Nat) (brS : Nat) (foS : Nat) (prR : Nat) (rdR : Nat) (laR : Nat) (caR : Nat) (caw : Int32) (caxc : Nat)  : Met l yX1_keepPlan wsX1_keepPlan ({ frames := 3, cells := 0, slots := 0, locals := 800 }) (va_Pc [.ref pl, .int v, .int u] (pz_B dC dI [] [(pl, .inr (1, [.ref wd, .ref pp0, .ref pp1, .ref plw, .ref pls, .int pi0, .int pi1, .int pi2, .long pw, .int pn, .ref pq0, .ref pq1, .ref pq2, .ref pq3, .ref pq4])), (wd, .inr (10, [.int 0, .int bo, .int li, .int og, .int 0, .int 0, .int 0, .ref tdA, .ref seA, .ref teA, .ref shA, .ref coA, .ref slS, .ref brS, .ref foS, .ref prR, .ref rdR, .ref laR, .ref caR])), (caR, .inr (4, [.int caw, .ref caxc, .int 0]))] sz)) (va_Qv (fun (_ : Unit) => True) (fun (_ : Unit) (t : State) => pz_E dC dI [] (va_A [(pl, .inr (1, [.ref wd, .ref pp0, .ref pp1, .ref plw, .ref pls, .int pi0, .int pi1, .int pi2, .long pw, .int pn, .ref pq0, .ref pq1, .ref pq2, .ref pq3, .ref pq4])), (wd, .inr (10, [.int 0, .int bo, .int li, .int og, .int 0, .int 0, .int 0, .ref tdA, .ref seA, .ref teA, .ref shA, .ref coA, .ref slS, .ref brS, .ref foS, .ref prR, .ref rdR, .ref laR, .ref caR])), (caR, .inr (4, [.int caw, .ref caxc, .int 0]))] sz) [(pl, .inr (1, [.ref wd, .ref pp0, .ref pp1, .ref plw, .ref pls, .int pi0, .int pi1, .int pi2, .long pw, .int 0, .ref pq0, .ref pq1, .ref pq2, .ref pq3, .ref pq4])), (wd, .inr (10, [.int 0, .int bo, .int li, .int og, .int 0, .int 0, .int 0, .ref tdA, .ref seA, .ref teA, .ref shA, .ref coA, .ref slS, .ref brS, .ref foS, .ref prR, .ref rdR, .ref laR, .ref caR])), (caR, .inr (4, [.int caw, .ref caxc, .int 0]))] t) (va_A [(pl, .inr (1, [.ref wd, .ref pp0, .ref pp1, .ref plw, .ref pls, .int pi0, .int pi1, .int pi2, .long pw, .int pn, .ref pq0, .ref pq1, .ref pq2, .ref pq3, .ref pq4])), (wd, .inr (10, [.int 0, .int bo, .int li, .int og, .int 0, .int 0, .int 0, .ref tdA, .ref seA, .ref teA, .ref shA, .ref coA, .ref slS, .ref brS, .ref foS, .ref prR, .ref rdR, .ref laR, .ref caR])), (caR, .inr (4, [.int caw, .ref caxc, .int 0]))] sz)) 0 0 (va_A [(pl, .inr (1, [.ref wd, .ref pp0, .ref pp1, .ref plw, .ref pls, .int pi0, .int pi1, .int pi2, .long pw, .int pn, .ref pq0, .ref pq1, .ref pq2, .ref pq3, .ref pq4])), (wd, .inr (10, [.int 0, .int bo, .int li, .int og, .int 0, .int 0, .int 0, .ref tdA, .ref seA, .ref teA, .ref shA, .ref coA, .ref slS, .ref brS, .ref foS, .ref prR, .ref rdR, .ref laR, .ref caR])), (caR, .inr (4, [.int caw, .ref caxc, .int 0]))] sz) := by
  refine Met.ofW (cc := cX1_keepPlan) (maxL := 5) (ret := none) (by decide) rfl ?_
  intro p e s m args below meth c s₁ B hml hv
  obtain ⟨rfl, hsz, hP, hK, hD0, hN⟩ := hv
  have hx := B.exec
  have hb := B.bytes
  have hr := B.returns
  have hts := atoms_spec (ws := wsX1_keepPlan) B.pre
  have hown : s.vm.findClass RX1 = some m.cls := findClass_of_methodNamed B.named
  have hlocks := B.notSynchronized
  subst hsz
  have hD := hD0.self (sz := s.heap.size)
  generalize hAe : va_A [(pl, .inr (1, [.ref wd, .ref pp0, .ref pp1, .ref plw, .ref pls, .int pi0, .int pi1, .int pi2, .long pw, .int pn, .ref pq0, .ref pq1, .ref pq2, .ref pq3, .ref pq4])), (wd, .inr (10, [.int 0, .int bo, .int li, .int og, .int 0, .int 0, .int 0, .ref tdA, .ref seA, .ref teA, .ref shA, .ref coA, .ref slS, .ref brS, .ref foS, .ref prR, .ref rdR, .ref laR, .ref caR])), (caR, .inr (4, [.int caw, .ref caxc, .int 0]))] s.heap.size = A at hD ⊢
  have hA : ∀ q : Nat, s.heap.size ≤ q → A q := fun q h => by rw [← hAe]; exact Or.inr h
  have hS : va_S A s.heap s.heap [] := va_S.rf
  have hl := lv_entry ([.ref pl, .int v, .int u]) (n := 5) (Nat.le_of_ble_eq_true rfl)
  rw [lg_entry_eq]
  generalize (lg_sl ([.ref pl, .int v, .int u]) ++ List.replicate (5 - (lg_sl ([.ref pl, .int v, .int u])).length) Slot.unset).toArray = ls at hl ⊢
  have hl : lv_has ls 5 [(0, .ref pl), (1, .int v), (2, .int u)] := hl
  have hfX1 : ∀ w ∈ wsX10, w ∈ wsX1_keepPlan := fun w h => List.mem_cons_of_mem _ (List.mem_append_left _ (List.mem_append_left _ (List.mem_append_left _ (List.mem_append_left _ (List.mem_append_left _ (List.mem_append_left _ (List.mem_append_right _ h)))))))
  have hfX10 : ∀ w ∈ wsX100, w ∈ wsX1_keepPlan := fun w h => List.mem_cons_of_mem _ (List.mem_append_left _ (List.mem_append_left _ (List.mem_append_left _ (List.mem_append_left _ (List.mem_append_left _ (List.mem_append_right _ h))))))
  have hfX4 : ∀ w ∈ wsX40, w ∈ wsX1_keepPlan := fun w h => List.mem_cons_of_mem _ (List.mem_append_left _ (List.mem_append_left _ (List.mem_append_left _ (List.mem_append_left _ (List.mem_append_right _ h)))))
  have hfX5 : ∀ w ∈ wsX50, w ∈ wsX1_keepPlan := fun w h => List.mem_cons_of_mem _ (List.mem_append_left _ (List.mem_append_left _ (List.mem_append_left _ (List.mem_append_right _ h))))
  have hfX8 : ∀ w ∈ wsX80, w ∈ wsX1_keepPlan := fun w h => List.mem_cons_of_mem _ (List.mem_append_left _ (List.mem_append_left _ (List.mem_append_right _ h)))
  have hfX7 : ∀ w ∈ wsX70, w ∈ wsX1_keepPlan := fun w h => List.mem_cons_of_mem _ (List.mem_append_left _ (List.mem_append_right _ h))
  have hfX6 : ∀ w ∈ wsX60, w ∈ wsX1_keepPlan := fun w h => List.mem_cons_of_mem _ (List.mem_append_right _ h)
  refine lv_aload_n hx hb dX1_keepPlan_0 rfl (lv_at hl 0 rfl) ?_
  refine lv_bipush (v := 6) hx hb dX1_keepPlan_1 (by decide) ?_
  refine lv_aload_n hx hb dX1_keepPlan_3 rfl (lv_at hl 0 rfl) ?_
  refine va_get (D := (dC, dI)) (ci := 1) (v := .ref wd) (C := RX1) (T := TX1) (N := 15) hx hb hts hfX1 hown hK hP 0 rfl rfl 0 (by decide) (hts (.fieldLink RX1 40 "ColdShips$Planner" "world" "LColdShips$World;") (by decide +kernel)) (fun _ h9 => h9) rfl dX1_keepPlan_4 ?_
  refine va_getN (D := (dC, dI)) (ci := 10) (v := .ref caR) (C := RX10) (T := TX10) (N := 19) hx hb hts hfX10 hown hK hP 1 rfl rfl 18 (by decide) (va_Nw.use rfl (hN.1 (.fieldLinkNest RX1 50 "ColdShips$World" "cargoes" "LColdShips$Rows;" "ColdShips") (by decide +kernel))) (fun _ h9 => h9) rfl dX1_keepPlan_7 ?_
  refine va_getN (D := (dC, dI)) (ci := 4) (v := .int 0) (C := RX4) (T := TX4) (N := 3) hx hb hts hfX4 hown hK hP 2 rfl rfl 2 (by decide) (va_Nw.use rfl (hN.1 (.fieldLinkNest RX1 54 "ColdShips$Rows" "size" "I" "ColdShips") (by decide +kernel))) (fun _ h9 => h9) rfl dX1_keepPlan_10 ?_
  refine va_mmin hx hb (by rw [hml]; exact hl.1.symm) hown (hts (.methodLink RX1 60 Lib.Math.min.name) (by decide +kernel)) (hts (.static Lib.Math.min.name) (by decide +kernel)) (hts (.initialized "java/lang/Math") (by decide +kernel)) (hts (.code Lib.Math.min.name Lib.Math.min.code 2 (some .int)) (by decide +kernel)) (Nat.le_of_ble_eq_true rfl) (Nat.le_of_ble_eq_true rfl) (Nat.le_of_ble_eq_true rfl) (Nat.le_of_ble_eq_true rfl) dX1_keepPlan_13 ?_
  refine lv_topi (fun z1 ez1 => ?_)
  obtain rfl : z1 = 0 := ez1.trans (by first | rfl | decide)
  refine va_put (D := (dC, dI)) (ci := 1) (v := .int 0) (ty := .int) (C := RX1) (T := TX1) (N := 15) hx hb hts hfX1 tyX1 tyX1_ok nmX1 hown hK hP hD hS 0 rfl rfl 9 (by decide) (hts (.fieldLink RX1 132 "ColdShips$Planner" "planned" "I") (by decide +kernel)) (fun _ h9 => h9) rfl (by decide +kernel) rfl rfl (Nat.le_of_ble_eq_true rfl) dX1_keepPlan_16 (fun H locs hP hD hS => ?_)
  have hP : va_P (dC, dI) vwCl [(pl, .inr (1, [.ref wd, .ref pp0, .ref pp1, .ref plw, .ref pls, .int pi0, .int pi1, .int pi2, .long pw, .int 0, .ref pq0, .ref pq1, .ref pq2, .ref pq3, .ref pq4])), (wd, .inr (10, [.int 0, .int bo, .int li, .int og, .int 0, .int 0, .int 0, .ref tdA, .ref seA, .ref teA, .ref shA, .ref coA, .ref slS, .ref brS, .ref foS, .ref prR, .ref rdR, .ref laR, .ref caR])), (caR, .inr (4, [.int caw, .ref caxc, .int 0]))] H := hP
  have hD : va_D A [(pl, .inr (1, [.ref wd, .ref pp0, .ref pp1, .ref plw, .ref pls, .int pi0, .int pi1, .int pi2, .long pw, .int 0, .ref pq0, .ref pq1, .ref pq2, .ref pq3, .ref pq4])), (wd, .inr (10, [.int 0, .int bo, .int li, .int og, .int 0, .int 0, .int 0, .ref tdA, .ref seA, .ref teA, .ref shA, .ref coA, .ref slS, .ref brS, .ref foS, .ref prR, .ref rdR, .ref laR, .ref caR])), (caR, .inr (4, [.int caw, .ref caxc, .int 0]))] := hD
  refine lv_iconst (v := 0) hx hb dX1_keepPlan_19 (by decide) ?_
  refine lv_istore_n (lv' := [(3, .int 0), (0, .ref pl), (1, .int v), (2, .int u)]) hx hb dX1_keepPlan_20 rfl hl (by decide) rfl (fun ls hl => ?_)
  refine lv_iload_n hx hb dX1_keepPlan_21 rfl (lv_at hl 0 rfl) ?_
  refine lv_aload_n hx hb dX1_keepPlan_22 rfl (lv_at hl 1 rfl) ?_
  refine va_get (D := (dC, dI)) (ci := 1) (v := .int 0) (C := RX1) (T := TX1) (N := 15) hx hb hts hfX1 hown hK hP 0 rfl rfl 9 (by decide) (hts (.fieldLink RX1 132 "ColdShips$Planner" "planned" "I") (by decide +kernel)) (fun _ h9 => h9) rfl dX1_keepPlan_23 ?_
  refine lv_icmp_ge (tgt := 64) hx hb dX1_keepPlan_26 (by decide) (fun _ => ?_) (fun c9 => absurd c9 (by decide))
  refine lv_iconst (v := 0) hx hb dX1_keepPlan_64 (by decide) ?_
  refine lv_istore_n (lv' := [(3, .int 0), (0, .ref pl), (1, .int v), (2, .int u)]) hx hb dX1_keepPlan_65 rfl hl (by decide) rfl (fun ls hl => ?_)
  refine lv_iload_n hx hb dX1_keepPlan_66 rfl (lv_at hl 0 rfl) ?_
  refine lv_iconst (v := 3) hx hb dX1_keepPlan_67 (by decide) ?_
  refine lv_icmp_ge (tgt := 94) hx hb dX1_keepPlan_68 (by decide) (fun c9 => absurd c9 (by decide)) (fun _ => ?_)
  refine lv_iload_n hx hb dX1_keepPlan_71 rfl (lv_at hl 0 rfl) ?_
  refine lv_aload_n hx hb dX1_keepPlan_72 rfl (lv_at hl 1 rfl) ?_
  refine va_get (D := (dC, dI)) (ci := 1) (v := .ref wd) (C := RX1) (T := TX1) (N := 15) hx hb hts hfX1 hown hK hP 0 rfl rfl 0 (by decide) (hts (.fieldLink RX1 40 "ColdShips$Planner" "world" "LColdShips$World;") (by decide +kernel)) (fun _ h9 => h9) rfl dX1_keepPlan_73 ?_
  refine va_getN (D := (dC, dI)) (ci := 10) (v := .int 0) (C := RX10) (T := TX10) (N := 19) hx hb hts hfX10 hown hK hP 1 rfl rfl 5 (by decide) (va_Nw.use rfl (hN.1 (.fieldLinkNest RX1 74 "ColdShips$World" "shipCount" "I" "ColdShips") (by decide +kernel))) (fun _ h9 => h9) rfl dX1_keepPlan_76 ?_
  refine lv_icmp_ge (tgt := 94) hx hb dX1_keepPlan_79 (by decide) (fun _ => ?_) (fun c9 => absurd c9 (by decide))
  have hP9 := hP.sub (ws' := [(pl, .inr (1, [.ref wd, .ref pp0, .ref pp1, .ref plw, .ref pls, .int pi0, .int pi1, .int pi2, .long pw, .int 0, .ref pq0, .ref pq1, .ref pq2, .ref pq3, .ref pq4])), (wd, .inr (10, [.int 0, .int bo, .int li, .int og, .int 0, .int 0, .int 0, .ref tdA, .ref seA, .ref teA, .ref shA, .ref coA, .ref slS, .ref brS, .ref foS, .ref prR, .ref rdR, .ref laR, .ref caR])), (caR, .inr (4, [.int caw, .ref caxc, .int 0]))]) [0, 1, 2] rfl
  have hD9 := hD.sub (ws' := [(pl, .inr (1, [.ref wd, .ref pp0, .ref pp1, .ref plw, .ref pls, .int pi0, .int pi1, .int pi2, .long pw, .int 0, .ref pq0, .ref pq1, .ref pq2, .ref pq3, .ref pq4])), (wd, .inr (10, [.int 0, .int bo, .int li, .int og, .int 0, .int 0, .int 0, .ref tdA, .ref seA, .ref teA, .ref shA, .ref coA, .ref slS, .ref brS, .ref foS, .ref prR, .ref rdR, .ref laR, .ref caR])), (caR, .inr (4, [.int caw, .ref caxc, .int 0]))]) [0, 1, 2] (by decide +kernel) rfl
  have hK9 := hK.sub (tys' := []) [] rfl
  exact W.vret hx hb hr (fun t ht hW => ⟨⟨(), rfl, trivial, ⟨by rw [ht]; exact hP9, va_K.moved hW.alike hK9, hD9⟩⟩, hS.F ht⟩) hS.2.2 dX1_keepPlan_94
set_option maxHeartbeats 4000000 in
set_option maxRecDepth 100000 in
theorem c_X1_findBest (l : Launch) (dC : Nat → ClassId) (dI : Nat → Nat → Nat) (sz : Nat) (pl : Nat) (v : Int32) (wd : Nat) (pp0 : Nat) (pp1 : Nat) (plw : Nat) (pls : Nat) (pi0 : Int32) (pi1 : Int32) (pi2 : Int32) (pw : Int64) (pn : Int32) (pq0 : Nat) (pq1 : Nat) (pq2 : Nat) (pq3 : Nat) (pq4 : Nat) (bo : Int32) (li : Int32) (og : Int32) (tdA : Nat) (seA : Nat) (teA : Nat) (shA : Nat) (coA : Nat) (slS : Nat) (brS : Nat) (foS : Nat) (prR : Nat) (rdR : Nat) (laR : Nat) (caR : Nat) (caw : Int32) (caxc : Nat) (kL : ClassId) (f1 : Nat → Int64) (kN : ClassId) (f2 : Nat → Int32)  : Met l yX1_findBest wsX1_findBest ({ frames := 4, cells := 0, slots := 0, locals := 1200 }) (va_Pc [.ref pl, .int v] (pz_B dC dI [(kL, .long), (kN, .int)] [(pl, .inr (1, [.ref wd, .ref pp0, .ref pp1, .ref plw, .ref pls, .int pi0, .int pi1, .int pi2, .long pw, .int pn, .ref pq0, .ref pq1, .ref pq2, .ref pq3, .ref pq4])), (wd, .inr (10, [.int 0, .int bo, .int li, .int og, .int 0, .int 0, .int 0, .ref tdA, .ref seA, .ref teA, .ref shA, .ref coA, .ref slS, .ref brS, .ref foS, .ref prR, .ref rdR, .ref laR, .ref caR])), (caR, .inr (4, [.int caw, .ref caxc, .int 0])), (plw, .inl (kL, 64, .inr (.inl f1))), (pls, .inl (kN, 64, .inl f2))] sz)) (va_Ql (fun (r : Int64) (_ : Unit) => r = 0) (fun (_ : Unit) (_ : State) => True) (va_A [(pl, .inr (1, [.ref wd, .ref pp0, .ref pp1, .ref plw, .ref pls, .int pi0, .int pi1, .int pi2, .long pw, .int pn, .ref pq0, .ref pq1, .ref pq2, .ref pq3, .ref pq4])), (wd, .inr (10, [.int 0, .int bo, .int li, .int og, .int 0, .int 0, .int 0, .ref tdA, .ref seA, .ref teA, .ref shA, .ref coA, .ref slS, .ref brS, .ref foS, .ref prR, .ref rdR, .ref laR, .ref caR])), (caR, .inr (4, [.int caw, .ref caxc, .int 0])), (plw, .inl (kL, 64, .inr (.inl f1))), (pls, .inl (kN, 64, .inl f2))] sz)) 0 0 (va_A [(pl, .inr (1, [.ref wd, .ref pp0, .ref pp1, .ref plw, .ref pls, .int pi0, .int pi1, .int pi2, .long pw, .int pn, .ref pq0, .ref pq1, .ref pq2, .ref pq3, .ref pq4])), (wd, .inr (10, [.int 0, .int bo, .int li, .int og, .int 0, .int 0, .int 0, .ref tdA, .ref seA, .ref teA, .ref shA, .ref coA, .ref slS, .ref brS, .ref foS, .ref prR, .ref rdR, .ref laR, .ref caR])), (caR, .inr (4, [.int caw, .ref caxc, .int 0])), (plw, .inl (kL, 64, .inr (.inl f1))), (pls, .inl (kN, 64, .inl f2))] sz) := by
  refine Met.ofW (cc := cX1_findBest) (maxL := 5) (ret := some .long) (by decide) rfl ?_
  intro p e s m args below meth c s₁ B hml hv
  obtain ⟨rfl, hsz, hP, hK, hD0, hN⟩ := hv
  have hx := B.exec
  have hb := B.bytes
  have hr := B.returns
  have hts := atoms_spec (ws := wsX1_findBest) B.pre
  have hown : s.vm.findClass RX1 = some m.cls := findClass_of_methodNamed B.named
  have hlocks := B.notSynchronized
  subst hsz
  have hD := hD0.self (sz := s.heap.size)
  generalize hAe : va_A [(pl, .inr (1, [.ref wd, .ref pp0, .ref pp1, .ref plw, .ref pls, .int pi0, .int pi1, .int pi2, .long pw, .int pn, .ref pq0, .ref pq1, .ref pq2, .ref pq3, .ref pq4])), (wd, .inr (10, [.int 0, .int bo, .int li, .int og, .int 0, .int 0, .int 0, .ref tdA, .ref seA, .ref teA, .ref shA, .ref coA, .ref slS, .ref brS, .ref foS, .ref prR, .ref rdR, .ref laR, .ref caR])), (caR, .inr (4, [.int caw, .ref caxc, .int 0])), (plw, .inl (kL, 64, .inr (.inl f1))), (pls, .inl (kN, 64, .inl f2))] s.heap.size = A at hD ⊢
  have hA : ∀ q : Nat, s.heap.size ≤ q → A q := fun q h => by rw [← hAe]; exact Or.inr h
  have hS : va_S A s.heap s.heap [] := va_S.rf
  have hl := lv_entry ([.ref pl, .int v]) (n := 5) (Nat.le_of_ble_eq_true rfl)
  rw [lg_entry_eq]
  generalize (lg_sl ([.ref pl, .int v]) ++ List.replicate (5 - (lg_sl ([.ref pl, .int v])).length) Slot.unset).toArray = ls at hl ⊢
  have hl : lv_has ls 5 [(0, .ref pl), (1, .int v)] := hl
  have hfX1 : ∀ w ∈ wsX10, w ∈ wsX1_findBest := fun w h => List.mem_cons_of_mem _ (List.mem_append_left _ (List.mem_append_left _ (List.mem_append_left _ (List.mem_append_left _ (List.mem_append_left _ (List.mem_append_left _ (List.mem_append_right _ h)))))))
  have hfX10 : ∀ w ∈ wsX100, w ∈ wsX1_findBest := fun w h => List.mem_cons_of_mem _ (List.mem_append_left _ (List.mem_append_left _ (List.mem_append_left _ (List.mem_append_left _ (List.mem_append_left _ (List.mem_append_right _ h))))))
  have hfX4 : ∀ w ∈ wsX40, w ∈ wsX1_findBest := fun w h => List.mem_cons_of_mem _ (List.mem_append_left _ (List.mem_append_left _ (List.mem_append_left _ (List.mem_append_left _ (List.mem_append_right _ h)))))
  have hfX5 : ∀ w ∈ wsX50, w ∈ wsX1_findBest := fun w h => List.mem_cons_of_mem _ (List.mem_append_left _ (List.mem_append_left _ (List.mem_append_left _ (List.mem_append_right _ h))))
  have hfX8 : ∀ w ∈ wsX80, w ∈ wsX1_findBest := fun w h => List.mem_cons_of_mem _ (List.mem_append_left _ (List.mem_append_left _ (List.mem_append_right _ h)))
  have hfX7 : ∀ w ∈ wsX70, w ∈ wsX1_findBest := fun w h => List.mem_cons_of_mem _ (List.mem_append_left _ (List.mem_append_right _ h))
  have hfX6 : ∀ w ∈ wsX60, w ∈ wsX1_findBest := fun w h => List.mem_cons_of_mem _ (List.mem_append_right _ h)
  refine lv_iconst (v := 1) hx hb dX1_findBest_0 (by decide) ?_
  refine lv_bipush (v := 6) hx hb dX1_findBest_1 (by decide) ?_
  refine lv_aload_n hx hb dX1_findBest_3 rfl (lv_at hl 0 rfl) ?_
  refine va_get (D := (dC, dI)) (ci := 1) (v := .ref wd) (C := RX1) (T := TX1) (N := 15) hx hb hts hfX1 hown hK hP 0 rfl rfl 0 (by decide) (hts (.fieldLink RX1 40 "ColdShips$Planner" "world" "LColdShips$World;") (by decide +kernel)) (fun _ h9 => h9) rfl dX1_findBest_4 ?_
  refine va_getN (D := (dC, dI)) (ci := 10) (v := .ref caR) (C := RX10) (T := TX10) (N := 19) hx hb hts hfX10 hown hK hP 1 rfl rfl 18 (by decide) (va_Nw.use rfl (hN.1 (.fieldLinkNest RX1 50 "ColdShips$World" "cargoes" "LColdShips$Rows;" "ColdShips") (by decide +kernel))) (fun _ h9 => h9) rfl dX1_findBest_7 ?_
  refine va_getN (D := (dC, dI)) (ci := 4) (v := .int 0) (C := RX4) (T := TX4) (N := 3) hx hb hts hfX4 hown hK hP 2 rfl rfl 2 (by decide) (va_Nw.use rfl (hN.1 (.fieldLinkNest RX1 54 "ColdShips$Rows" "size" "I" "ColdShips") (by decide +kernel))) (fun _ h9 => h9) rfl dX1_findBest_10 ?_
  refine va_mmin hx hb (by rw [hml]; exact hl.1.symm) hown (hts (.methodLink RX1 60 Lib.Math.min.name) (by decide +kernel)) (hts (.static Lib.Math.min.name) (by decide +kernel)) (hts (.initialized "java/lang/Math") (by decide +kernel)) (hts (.code Lib.Math.min.name Lib.Math.min.code 2 (some .int)) (by decide +kernel)) (Nat.le_of_ble_eq_true rfl) (Nat.le_of_ble_eq_true rfl) (Nat.le_of_ble_eq_true rfl) (Nat.le_of_ble_eq_true rfl) dX1_findBest_13 ?_
  refine lv_topi (fun z1 ez1 => ?_)
  obtain rfl : z1 = 0 := ez1.trans (by first | rfl | decide)
  refine lv_ishl hx hb dX1_findBest_16 ?_
  refine lv_topi (fun z2 ez2 => ?_)
  obtain rfl : z2 = 1 := ez2.trans (by first | rfl | decide)
  refine lv_istore_n (lv' := [(2, .int 1), (0, .ref pl), (1, .int v)]) hx hb dX1_findBest_17 rfl hl (by decide) rfl (fun ls hl => ?_)
  refine lv_aload_n hx hb dX1_findBest_18 rfl (lv_at hl 1 rfl) ?_
  refine va_get (D := (dC, dI)) (ci := 1) (v := .ref plw) (C := RX1) (T := TX1) (N := 15) hx hb hts hfX1 hown hK hP 0 rfl rfl 3 (by decide) (hts (.fieldLink RX1 19 "ColdShips$Planner" "setWorths" "[J") (by decide +kernel)) (fun _ h9 => h9) rfl dX1_findBest_19 ?_
  refine lv_ldc2 (own := RX1) (v := (-2000000000000000)) hx hb hown (hts (.constantLong RX1 66 (-2000000000000000)) (by decide +kernel)) dX1_findBest_22 ?_
  have hPc := hP.sub (ws' := [(plw, .inl (kL, 64, .inr (.inl f1)))]) [3] rfl
  have hDc := hD.sub (ws' := [(plw, .inl (kL, 64, .inr (.inl f1)))]) [3] (by decide +kernel) rfl
  have hKc := hK.sub (tys' := [(kL, .long)]) [0] rfl
  have hFc := va_free (wc := [(plw, .inl (kL, 64, .inr (.inl f1)))]) hD hS hA [3] rfl
  refine va_callv (va_runS (As := [.ref plw, .long (-2000000000000000)]) (rest := []) ⟨hx, hb, hml, hown, hts⟩ (c_fill_l64 l dC dI _ plw (-2000000000000000) kL f1) (va_cwS 2 hts gX1_findBest_J7_fill_d0a16 rfl rfl rfl (by decide +kernel) ⟨Nat.le_of_ble_eq_true rfl, Nat.le_of_ble_eq_true rfl⟩) ⟨pz_blind, pz_pre hPc hKc hDc hN⟩ rfl rfl hl.1 rfl (lv_room (Nat.le_of_ble_eq_true rfl)) dX1_findBest_25 ⟨Nat.le_of_ble_eq_true rfl, Nat.le_of_ble_eq_true rfl⟩) hS (fun q _ h => hFc q h) hFc (fun u t H1 locs ht hvm hw hB hz1 hk1 hS => ?_)
  obtain ⟨g_4, hP1, hK1, hD1⟩ := hB
  rw [ht] at hP1
  have hK1 := va_K.moved hvm.symm hK1
  obtain ⟨hP, hD⟩ := va_join (wr := [(pl, .inr (1, [.ref wd, .ref pp0, .ref pp1, .ref plw, .ref pls, .int pi0, .int pi1, .int pi2, .long pw, .int pn, .ref pq0, .ref pq1, .ref pq2, .ref pq3, .ref pq4])), (wd, .inr (10, [.int 0, .int bo, .int li, .int og, .int 0, .int 0, .int 0, .ref tdA, .ref seA, .ref teA, .ref shA, .ref coA, .ref slS, .ref brS, .ref foS, .ref prR, .ref rdR, .ref laR, .ref caR])), (caR, .inr (4, [.int caw, .ref caxc, .int 0])), (pls, .inl (kN, 64, .inl f2))]) (w1 := [(plw, .inl (kL, 64, .inr (.inl g_4)))]) hP hD [3] [0, 1, 2, 4] rfl rfl (by decide +kernel) (by decide +kernel) hk1 hFc hP1 hD1
  have hK := hK.app hK1
  generalize H1 = H at hP hS ⊢
  have hP : va_P (dC, dI) vwCl [(pl, .inr (1, [.ref wd, .ref pp0, .ref pp1, .ref plw, .ref pls, .int pi0, .int pi1, .int pi2, .long pw, .int pn, .ref pq0, .ref pq1, .ref pq2, .ref pq3, .ref pq4])), (wd, .inr (10, [.int 0, .int bo, .int li, .int og, .int 0, .int 0, .int 0, .ref tdA, .ref seA, .ref teA, .ref shA, .ref coA, .ref slS, .ref brS, .ref foS, .ref prR, .ref rdR, .ref laR, .ref caR])), (caR, .inr (4, [.int caw, .ref caxc, .int 0])), (pls, .inl (kN, 64, .inl f2)), (plw, .inl (kL, 64, .inr (.inl g_4)))] H := hP
  have hD : va_D A [(pl, .inr (1, [.ref wd, .ref pp0, .ref pp1, .ref plw, .ref pls, .int pi0, .int pi1, .int pi2, .long pw, .int pn, .ref pq0, .ref pq1, .ref pq2, .ref pq3, .ref pq4])), (wd, .inr (10, [.int 0, .int bo, .int li, .int og, .int 0, .int 0, .int 0, .ref tdA, .ref seA, .ref teA, .ref shA, .ref coA, .ref slS, .ref brS, .ref foS, .ref prR, .ref rdR, .ref laR, .ref caR])), (caR, .inr (4, [.int caw, .ref caxc, .int 0])), (pls, .inl (kN, 64, .inl f2)), (plw, .inl (kL, 64, .inr (.inl g_4)))] := hD
  have hK : va_K (dC, dI) vwCl [(kL, .long), (kN, .int), (kL, .long)] s := hK
  refine lv_aload_n hx hb dX1_findBest_28 rfl (lv_at hl 1 rfl) ?_
  refine va_get (D := (dC, dI)) (ci := 1) (v := .ref plw) (C := RX1) (T := TX1) (N := 15) hx hb hts hfX1 hown hK hP 0 rfl rfl 3 (by decide) (hts (.fieldLink RX1 19 "ColdShips$Planner" "setWorths" "[J") (by decide +kernel)) (fun _ h9 => h9) rfl dX1_findBest_29 ?_
  refine lv_iconst (v := 0) hx hb dX1_findBest_32 (by decide) ?_
  refine lv_lconst (v := 0) hx hb dX1_findBest_33 (by decide) ?_
  refine va_last hx hb hK hP hD hS 4 0 rfl rfl (vp_in_iff.mpr ⟨by decide, by decide⟩) dX1_findBest_34 (fun H locs hP hD hS => ?_)
  have hP : va_P (dC, dI) vwCl [(pl, .inr (1, [.ref wd, .ref pp0, .ref pp1, .ref plw, .ref pls, .int pi0, .int pi1, .int pi2, .long pw, .int pn, .ref pq0, .ref pq1, .ref pq2, .ref pq3, .ref pq4])), (wd, .inr (10, [.int 0, .int bo, .int li, .int og, .int 0, .int 0, .int 0, .ref tdA, .ref seA, .ref teA, .ref shA, .ref coA, .ref slS, .ref brS, .ref foS, .ref prR, .ref rdR, .ref laR, .ref caR])), (caR, .inr (4, [.int caw, .ref caxc, .int 0])), (pls, .inl (kN, 64, .inl f2)), (plw, .inl (kL, 64, .inr (.inl (vp_updL g_4 0 0))))] H := hP
  have hD : va_D A [(pl, .inr (1, [.ref wd, .ref pp0, .ref pp1, .ref plw, .ref pls, .int pi0, .int pi1, .int pi2, .long pw, .int pn, .ref pq0, .ref pq1, .ref pq2, .ref pq3, .ref pq4])), (wd, .inr (10, [.int 0, .int bo, .int li, .int og, .int 0, .int 0, .int 0, .ref tdA, .ref seA, .ref teA, .ref shA, .ref coA, .ref slS, .ref brS, .ref foS, .ref prR, .ref rdR, .ref laR, .ref caR])), (caR, .inr (4, [.int caw, .ref caxc, .int 0])), (pls, .inl (kN, 64, .inl f2)), (plw, .inl (kL, 64, .inr (.inl (vp_updL g_4 0 0))))] := hD
  refine lv_aload_n hx hb dX1_findBest_35 rfl (lv_at hl 1 rfl) ?_
  refine va_get (D := (dC, dI)) (ci := 1) (v := .ref pls) (C := RX1) (T := TX1) (N := 15) hx hb hts hfX1 hown hK hP 0 rfl rfl 4 (by decide) (hts (.fieldLink RX1 22 "ColdShips$Planner" "setShips" "[I") (by decide +kernel)) (fun _ h9 => h9) rfl dX1_findBest_36 ?_
  refine lv_iconst (v := 0) hx hb dX1_findBest_39 (by decide) ?_
  refine lv_sipush (v := 4095) hx hb dX1_findBest_40 (by decide) ?_
  refine va_iast hx hb hK hP hD hS 3 1 rfl rfl (vp_in_iff.mpr ⟨by decide, by decide⟩) dX1_findBest_43 (fun H locs hP hD hS => ?_)
  have hP : va_P (dC, dI) vwCl [(pl, .inr (1, [.ref wd, .ref pp0, .ref pp1, .ref plw, .ref pls, .int pi0, .int pi1, .int pi2, .long pw, .int pn, .ref pq0, .ref pq1, .ref pq2, .ref pq3, .ref pq4])), (wd, .inr (10, [.int 0, .int bo, .int li, .int og, .int 0, .int 0, .int 0, .ref tdA, .ref seA, .ref teA, .ref shA, .ref coA, .ref slS, .ref brS, .ref foS, .ref prR, .ref rdR, .ref laR, .ref caR])), (caR, .inr (4, [.int caw, .ref caxc, .int 0])), (pls, .inl (kN, 64, .inl (upd f2 0 4095))), (plw, .inl (kL, 64, .inr (.inl (vp_updL g_4 0 0))))] H := hP
  have hD : va_D A [(pl, .inr (1, [.ref wd, .ref pp0, .ref pp1, .ref plw, .ref pls, .int pi0, .int pi1, .int pi2, .long pw, .int pn, .ref pq0, .ref pq1, .ref pq2, .ref pq3, .ref pq4])), (wd, .inr (10, [.int 0, .int bo, .int li, .int og, .int 0, .int 0, .int 0, .ref tdA, .ref seA, .ref teA, .ref shA, .ref coA, .ref slS, .ref brS, .ref foS, .ref prR, .ref rdR, .ref laR, .ref caR])), (caR, .inr (4, [.int caw, .ref caxc, .int 0])), (pls, .inl (kN, 64, .inl (upd f2 0 4095))), (plw, .inl (kL, 64, .inr (.inl (vp_updL g_4 0 0))))] := hD
  refine lv_iconst (v := 0) hx hb dX1_findBest_44 (by decide) ?_
  refine lv_istore_n (lv' := [(3, .int 0), (2, .int 1), (0, .ref pl), (1, .int v)]) hx hb dX1_findBest_45 rfl hl (by decide) rfl (fun ls hl => ?_)
  refine lv_iload_n hx hb dX1_findBest_46 rfl (lv_at hl 0 rfl) ?_
  refine lv_iconst (v := 3) hx hb dX1_findBest_47 (by decide) ?_
  refine lv_icmp_ge (tgt := 136) hx hb dX1_findBest_48 (by decide) (fun c9 => absurd c9 (by decide)) (fun _ => ?_)
  refine lv_iload_n hx hb dX1_findBest_51 rfl (lv_at hl 0 rfl) ?_
  refine lv_aload_n hx hb dX1_findBest_52 rfl (lv_at hl 2 rfl) ?_
  refine va_get (D := (dC, dI)) (ci := 1) (v := .ref wd) (C := RX1) (T := TX1) (N := 15) hx hb hts hfX1 hown hK hP 0 rfl rfl 0 (by decide) (hts (.fieldLink RX1 40 "ColdShips$Planner" "world" "LColdShips$World;") (by decide +kernel)) (fun _ h9 => h9) rfl dX1_findBest_53 ?_
  refine va_getN (D := (dC, dI)) (ci := 10) (v := .int 0) (C := RX10) (T := TX10) (N := 19) hx hb hts hfX10 hown hK hP 1 rfl rfl 5 (by decide) (va_Nw.use rfl (hN.1 (.fieldLinkNest RX1 74 "ColdShips$World" "shipCount" "I" "ColdShips") (by decide +kernel))) (fun _ h9 => h9) rfl dX1_findBest_56 ?_
  refine lv_icmp_ge (tgt := 136) hx hb dX1_findBest_59 (by decide) (fun _ => ?_) (fun c9 => absurd c9 (by decide))
  refine lv_iconst (v := 0) hx hb dX1_findBest_136 (by decide) ?_
  refine lv_istore_n (lv' := [(3, .int 0), (2, .int 1), (0, .ref pl), (1, .int v)]) hx hb dX1_findBest_137 rfl hl (by decide) rfl (fun ls hl => ?_)
  refine lv_iconst (v := 1) hx hb dX1_findBest_138 (by decide) ?_
  refine lv_istore (lv' := [(4, .int 1), (3, .int 0), (2, .int 1), (0, .ref pl), (1, .int v)]) hx hb dX1_findBest_139 hl (by decide) rfl (fun ls hl => ?_)
  refine lv_iload hx hb dX1_findBest_141 (lv_at hl 0 rfl) ?_
  refine lv_iload_n hx hb dX1_findBest_143 rfl (lv_at hl 2 rfl) ?_
  refine lv_icmp_ge (tgt := 166) hx hb dX1_findBest_144 (by decide) (fun _ => ?_) (fun c9 => absurd c9 (by decide))
  refine lv_aload_n hx hb dX1_findBest_166 rfl (lv_at hl 3 rfl) ?_
  refine lv_aload_n hx hb dX1_findBest_167 rfl (lv_at hl 3 rfl) ?_
  refine va_get (D := (dC, dI)) (ci := 1) (v := .ref pls) (C := RX1) (T := TX1) (N := 15) hx hb hts hfX1 hown hK hP 0 rfl rfl 4 (by decide) (hts (.fieldLink RX1 22 "ColdShips$Planner" "setShips" "[I") (by decide +kernel)) (fun _ h9 => h9) rfl dX1_findBest_168 ?_
  refine lv_iload_n hx hb dX1_findBest_171 rfl (lv_at hl 1 rfl) ?_
  refine va_iald hx hb hK hP 3 1 rfl rfl (vp_in_iff.mpr ⟨by decide, by decide⟩) dX1_findBest_172 ?_
  refine lv_topi (fun z6 ez6 => ?_)
  obtain rfl : z6 = 4095 := ez6.trans (by first | rfl | decide)
  refine lv_iload_n hx hb dX1_findBest_173 rfl (lv_at hl 4 rfl) ?_
  have hPc := hP.sub (ws' := [(pl, .inr (1, [.ref wd, .ref pp0, .ref pp1, .ref plw, .ref pls, .int pi0, .int pi1, .int pi2, .long pw, .int pn, .ref pq0, .ref pq1, .ref pq2, .ref pq3, .ref pq4])), (wd, .inr (10, [.int 0, .int bo, .int li, .int og, .int 0, .int 0, .int 0, .ref tdA, .ref seA, .ref teA, .ref shA, .ref coA, .ref slS, .ref brS, .ref foS, .ref prR, .ref rdR, .ref laR, .ref caR])), (caR, .inr (4, [.int caw, .ref caxc, .int 0]))]) [0, 1, 2] rfl
  have hDc := hD.sub (ws' := [(pl, .inr (1, [.ref wd, .ref pp0, .ref pp1, .ref plw, .ref pls, .int pi0, .int pi1, .int pi2, .long pw, .int pn, .ref pq0, .ref pq1, .ref pq2, .ref pq3, .ref pq4])), (wd, .inr (10, [.int 0, .int bo, .int li, .int og, .int 0, .int 0, .int 0, .ref tdA, .ref seA, .ref teA, .ref shA, .ref coA, .ref slS, .ref brS, .ref foS, .ref prR, .ref rdR, .ref laR, .ref caR])), (caR, .inr (4, [.int caw, .ref caxc, .int 0]))]) [0, 1, 2] (by decide +kernel) rfl
  have hKc := hK.sub (tys' := []) [] rfl
  have hFc := va_free (wc := [(pl, .inr (1, [.ref wd, .ref pp0, .ref pp1, .ref plw, .ref pls, .int pi0, .int pi1, .int pi2, .long pw, .int pn, .ref pq0, .ref pq1, .ref pq2, .ref pq3, .ref pq4])), (wd, .inr (10, [.int 0, .int bo, .int li, .int og, .int 0, .int 0, .int 0, .ref tdA, .ref seA, .ref teA, .ref shA, .ref coA, .ref slS, .ref brS, .ref foS, .ref prR, .ref rdR, .ref laR, .ref caR])), (caR, .inr (4, [.int caw, .ref caxc, .int 0]))]) hD hS hA [0, 1, 2] rfl
  refine va_callv (va_runV (As := [.int 4095, .int v]) (rest := []) ⟨hx, hb, hml, hown, hts⟩ (c_X1_keepPlan l dC dI _ pl 4095 v wd pp0 pp1 plw pls pi0 pi1 pi2 pw pn pq0 pq1 pq2 pq3 pq4 bo li og tdA seA teA shA coA slS brS foS prR rdR laR caR caw caxc) (cwV 2 hts gX1_findBest_X1_keepPlan rfl rfl rfl (by decide +kernel) ⟨Nat.le_of_ble_eq_true rfl, Nat.le_of_ble_eq_true rfl⟩) ⟨pz_blind, va_recv hKc hPc (ci := 1) (q0 := 0) rfl rfl, pz_pre hPc hKc hDc hN⟩ rfl rfl hl.1 rfl (lv_room (Nat.le_of_ble_eq_true rfl)) dX1_findBest_174 ⟨Nat.le_of_ble_eq_true rfl, Nat.le_of_ble_eq_true rfl⟩) hS (fun q _ h => hFc q h) hFc (fun u t H1 locs ht hvm hw hB hz1 hk1 hS => ?_)
  obtain ⟨hP1, hK1, hD1⟩ := hB
  rw [ht] at hP1
  have hK1 := va_K.moved hvm.symm hK1
  obtain ⟨hP, hD⟩ := va_join (wr := [(pls, .inl (kN, 64, .inl (upd f2 0 4095))), (plw, .inl (kL, 64, .inr (.inl (vp_updL g_4 0 0))))]) (w1 := [(pl, .inr (1, [.ref wd, .ref pp0, .ref pp1, .ref plw, .ref pls, .int pi0, .int pi1, .int pi2, .long pw, .int 0, .ref pq0, .ref pq1, .ref pq2, .ref pq3, .ref pq4])), (wd, .inr (10, [.int 0, .int bo, .int li, .int og, .int 0, .int 0, .int 0, .ref tdA, .ref seA, .ref teA, .ref shA, .ref coA, .ref slS, .ref brS, .ref foS, .ref prR, .ref rdR, .ref laR, .ref caR])), (caR, .inr (4, [.int caw, .ref caxc, .int 0]))]) hP hD [0, 1, 2] [3, 4] rfl rfl (by decide +kernel) (by decide +kernel) hk1 hFc hP1 hD1
  have hK := hK.app hK1
  generalize H1 = H at hP hS ⊢
  have hP : va_P (dC, dI) vwCl [(pls, .inl (kN, 64, .inl (upd f2 0 4095))), (plw, .inl (kL, 64, .inr (.inl (vp_updL g_4 0 0)))), (pl, .inr (1, [.ref wd, .ref pp0, .ref pp1, .ref plw, .ref pls, .int pi0, .int pi1, .int pi2, .long pw, .int 0, .ref pq0, .ref pq1, .ref pq2, .ref pq3, .ref pq4])), (wd, .inr (10, [.int 0, .int bo, .int li, .int og, .int 0, .int 0, .int 0, .ref tdA, .ref seA, .ref teA, .ref shA, .ref coA, .ref slS, .ref brS, .ref foS, .ref prR, .ref rdR, .ref laR, .ref caR])), (caR, .inr (4, [.int caw, .ref caxc, .int 0]))] H := hP
  have hD : va_D A [(pls, .inl (kN, 64, .inl (upd f2 0 4095))), (plw, .inl (kL, 64, .inr (.inl (vp_updL g_4 0 0)))), (pl, .inr (1, [.ref wd, .ref pp0, .ref pp1, .ref plw, .ref pls, .int pi0, .int pi1, .int pi2, .long pw, .int 0, .ref pq0, .ref pq1, .ref pq2, .ref pq3, .ref pq4])), (wd, .inr (10, [.int 0, .int bo, .int li, .int og, .int 0, .int 0, .int 0, .ref tdA, .ref seA, .ref teA, .ref shA, .ref coA, .ref slS, .ref brS, .ref foS, .ref prR, .ref rdR, .ref laR, .ref caR])), (caR, .inr (4, [.int caw, .ref caxc, .int 0]))] := hD
  have hK : va_K (dC, dI) vwCl [(kL, .long), (kN, .int), (kL, .long)] s := hK
  refine lv_aload_n hx hb dX1_findBest_177 rfl (lv_at hl 3 rfl) ?_
  refine va_get (D := (dC, dI)) (ci := 1) (v := .ref plw) (C := RX1) (T := TX1) (N := 15) hx hb hts hfX1 hown hK hP 2 rfl rfl 3 (by decide) (hts (.fieldLink RX1 19 "ColdShips$Planner" "setWorths" "[J") (by decide +kernel)) (fun _ h9 => h9) rfl dX1_findBest_178 ?_
  refine lv_iload_n hx hb dX1_findBest_181 rfl (lv_at hl 1 rfl) ?_
  refine va_lald hx hb hK hP 1 0 rfl rfl (vp_in_iff.mpr ⟨by decide, by decide⟩) dX1_findBest_182 ?_
  refine lv_topl (fun z9 ez9 => ?_)
  obtain rfl : z9 = 0 := ez9.trans (by first | rfl | decide)
  exact W.lret (v := 0) hx hb hr (fun t ht hW => ⟨⟨0, (), rfl, rfl, trivial⟩, hS.F ht⟩) hS.2.2 dX1_findBest_183
set_option maxHeartbeats 4000000 in
set_option maxRecDepth 100000 in
theorem c_X11_best (l : Launch) (dC : Nat → ClassId) (dI : Nat → Nat → Nat) (sz : Nat) (h0 : Nat) (xa : Int32) (wd : Nat) (im : Nat) (wa : Nat) (re : Nat) (rk : Nat) (pl : Nat) (fz : Int32) (pp0 : Nat) (pp1 : Nat) (plw : Nat) (pls : Nat) (pi0 : Int32) (pi1 : Int32) (pi2 : Int32) (pw : Int64) (pq0 : Nat) (pq1 : Nat) (pq2 : Nat) (pq3 : Nat) (pq4 : Nat) (bo : Int32) (li : Int32) (og : Int32) (tdA : Nat) (seA : Nat) (teA : Nat) (shA : Nat) (coA : Nat) (slS : Nat) (brS : Nat) (foS : Nat) (prR : Nat) (rdR : Nat) (laR : Nat) (caR : Nat) (caw : Int32) (caxc : Nat) (kL : ClassId) (f1 : Nat → Int64) (kN : ClassId) (f2 : Nat → Int32)  : Met l yX11_best wsX11_best ({ frames := 7, cells := 0, slots := 0, locals := 2400 }) (va_Pc [.ref h0, .int xa] (pz_B dC dI [(kL, .long), (kN, .int)] [(h0, .inr (11, [.ref wd, .ref im, .ref wa, .ref re, .ref rk, .ref pl, .int fz])), (pl, .inr (1, [.ref wd, .ref pp0, .ref pp1, .ref plw, .ref pls, .int pi0, .int pi1, .int pi2, .long pw, .int 0, .ref pq0, .ref pq1, .ref pq2, .ref pq3, .ref pq4])), (wd, .inr (10, [.int 0, .int bo, .int li, .int og, .int 0, .int 0, .int 0, .ref tdA, .ref seA, .ref teA, .ref shA, .ref coA, .ref slS, .ref brS, .ref foS, .ref prR, .ref rdR, .ref laR, .ref caR])), (caR, .inr (4, [.int caw, .ref caxc, .int 0])), (plw, .inl (kL, 64, .inr (.inl f1))), (pls, .inl (kN, 64, .inl f2))] sz)) (va_Ql (fun (r : Int64) (_ : Unit) => r = F_best xa) (fun (_ : Unit) (_ : State) => True) (va_A [(h0, .inr (11, [.ref wd, .ref im, .ref wa, .ref re, .ref rk, .ref pl, .int fz])), (pl, .inr (1, [.ref wd, .ref pp0, .ref pp1, .ref plw, .ref pls, .int pi0, .int pi1, .int pi2, .long pw, .int 0, .ref pq0, .ref pq1, .ref pq2, .ref pq3, .ref pq4])), (wd, .inr (10, [.int 0, .int bo, .int li, .int og, .int 0, .int 0, .int 0, .ref tdA, .ref seA, .ref teA, .ref shA, .ref coA, .ref slS, .ref brS, .ref foS, .ref prR, .ref rdR, .ref laR, .ref caR])), (caR, .inr (4, [.int caw, .ref caxc, .int 0])), (plw, .inl (kL, 64, .inr (.inl f1))), (pls, .inl (kN, 64, .inl f2))] sz)) 0 0 (va_A [(h0, .inr (11, [.ref wd, .ref im, .ref wa, .ref re, .ref rk, .ref pl, .int fz])), (pl, .inr (1, [.ref wd, .ref pp0, .ref pp1, .ref plw, .ref pls, .int pi0, .int pi1, .int pi2, .long pw, .int 0, .ref pq0, .ref pq1, .ref pq2, .ref pq3, .ref pq4])), (wd, .inr (10, [.int 0, .int bo, .int li, .int og, .int 0, .int 0, .int 0, .ref tdA, .ref seA, .ref teA, .ref shA, .ref coA, .ref slS, .ref brS, .ref foS, .ref prR, .ref rdR, .ref laR, .ref caR])), (caR, .inr (4, [.int caw, .ref caxc, .int 0])), (plw, .inl (kL, 64, .inr (.inl f1))), (pls, .inl (kN, 64, .inl f2))] sz) := by
  refine Met.ofW (cc := cX11_best) (maxL := 2) (ret := some .long) (by decide) rfl ?_
  intro p e s m args below meth c s₁ B hml hv
  obtain ⟨rfl, hsz, hP, hK, hD0, hN⟩ := hv
  have hx := B.exec
  have hb := B.bytes
  have hr := B.returns
  have hts := atoms_spec (ws := wsX11_best) B.pre
  have hown : s.vm.findClass RX11 = some m.cls := findClass_of_methodNamed B.named
  have hlocks := B.notSynchronized
  subst hsz
  have hD := hD0.self (sz := s.heap.size)
  generalize hAe : va_A [(h0, .inr (11, [.ref wd, .ref im, .ref wa, .ref re, .ref rk, .ref pl, .int fz])), (pl, .inr (1, [.ref wd, .ref pp0, .ref pp1, .ref plw, .ref pls, .int pi0, .int pi1, .int pi2, .long pw, .int 0, .ref pq0, .ref pq1, .ref pq2, .ref pq3, .ref pq4])), (wd, .inr (10, [.int 0, .int bo, .int li, .int og, .int 0, .int 0, .int 0, .ref tdA, .ref seA, .ref teA, .ref shA, .ref coA, .ref slS, .ref brS, .ref foS, .ref prR, .ref rdR, .ref laR, .ref caR])), (caR, .inr (4, [.int caw, .ref caxc, .int 0])), (plw, .inl (kL, 64, .inr (.inl f1))), (pls, .inl (kN, 64, .inl f2))] s.heap.size = A at hD ⊢
  have hA : ∀ q : Nat, s.heap.size ≤ q → A q := fun q h => by rw [← hAe]; exact Or.inr h
  have hS : va_S A s.heap s.heap [] := va_S.rf
  have hl := lv_entry ([.ref h0, .int xa]) (n := 2) (Nat.le_of_ble_eq_true rfl)
  rw [lg_entry_eq]
  generalize (lg_sl ([.ref h0, .int xa]) ++ List.replicate (2 - (lg_sl ([.ref h0, .int xa])).length) Slot.unset).toArray = ls at hl ⊢
  have hl : lv_has ls 2 [(0, .ref h0), (1, .int xa)] := hl
  have hfX11 : ∀ w ∈ wsX110, w ∈ wsX11_best := fun w h => List.mem_cons_of_mem _ (List.mem_append_left _ (List.mem_append_left _ (List.mem_append_left _ (List.mem_append_left _ (List.mem_append_left _ (List.mem_append_left _ (List.mem_append_left _ (List.mem_append_right _ h))))))))
  have hfX1 : ∀ w ∈ wsX10, w ∈ wsX11_best := fun w h => List.mem_cons_of_mem _ (List.mem_append_left _ (List.mem_append_left _ (List.mem_append_left _ (List.mem_append_left _ (List.mem_append_left _ (List.mem_append_left _ (List.mem_append_right _ h)))))))
  have hfX10 : ∀ w ∈ wsX100, w ∈ wsX11_best := fun w h => List.mem_cons_of_mem _ (List.mem_append_left _ (List.mem_append_left _ (List.mem_append_left _ (List.mem_append_left _ (List.mem_append_left _ (List.mem_append_right _ h))))))
  have hfX4 : ∀ w ∈ wsX40, w ∈ wsX11_best := fun w h => List.mem_cons_of_mem _ (List.mem_append_left _ (List.mem_append_left _ (List.mem_append_left _ (List.mem_append_left _ (List.mem_append_right _ h)))))
  have hfX5 : ∀ w ∈ wsX50, w ∈ wsX11_best := fun w h => List.mem_cons_of_mem _ (List.mem_append_left _ (List.mem_append_left _ (List.mem_append_left _ (List.mem_append_right _ h))))
  have hfX8 : ∀ w ∈ wsX80, w ∈ wsX11_best := fun w h => List.mem_cons_of_mem _ (List.mem_append_left _ (List.mem_append_left _ (List.mem_append_right _ h)))
  have hfX7 : ∀ w ∈ wsX70, w ∈ wsX11_best := fun w h => List.mem_cons_of_mem _ (List.mem_append_left _ (List.mem_append_right _ h))
  have hfX6 : ∀ w ∈ wsX60, w ∈ wsX11_best := fun w h => List.mem_cons_of_mem _ (List.mem_append_right _ h)
  refine lv_iload_n hx hb dX11_best_0 rfl (lv_at hl 1 rfl) ?_
  have hPc := hP.sub (ws' := []) [] rfl
  have hDc := hD.sub (ws' := []) [] (by decide +kernel) rfl
  have hKc := hK.sub (tys' := []) [] rfl
  refine pz_calli (va_runS (As := [.int xa]) (rest := []) ⟨hx, hb, hml, hown, hts⟩ (c_X11_isHour l dC dI _ xa (xa.toInt) rfl) (va_cwS 1 hts gX11_best_X11_isHour rfl rfl rfl (by decide +kernel) ⟨Nat.le_of_ble_eq_true rfl, Nat.le_of_ble_eq_true rfl⟩) ⟨pz_blind, pz_pre hPc hKc hDc hN⟩ rfl rfl hl.1 rfl (lv_room (Nat.le_of_ble_eq_true rfl)) dX11_best_1 ⟨Nat.le_of_ble_eq_true rfl, Nat.le_of_ble_eq_true rfl⟩) (fun r1 hw => ?_)
  rcases hw with ⟨rfl, h2⟩ | ⟨rfl, h2⟩
  · refine lv_if_eq (tgt := 18) hx hb dX11_best_4 (by decide) (fun c9 => absurd c9 (by decide)) (fun _ => ?_)
    refine lv_aload_n hx hb dX11_best_7 rfl (lv_at hl 0 rfl) ?_
    refine va_get (D := (dC, dI)) (ci := 11) (v := .ref pl) (C := RX11) (T := TX11) (N := 7) hx hb hts hfX11 hown hK hP 0 rfl rfl 5 (by decide) (hts (.fieldLink RX11 46 "ColdShips" "planner" "LColdShips$Planner;") (by decide +kernel)) (fun _ h9 => h9) rfl dX11_best_8 ?_
    refine lv_iload_n hx hb dX11_best_11 rfl (lv_at hl 1 rfl) ?_
    have hPc := hP.sub (ws' := [(pl, .inr (1, [.ref wd, .ref pp0, .ref pp1, .ref plw, .ref pls, .int pi0, .int pi1, .int pi2, .long pw, .int 0, .ref pq0, .ref pq1, .ref pq2, .ref pq3, .ref pq4])), (wd, .inr (10, [.int 0, .int bo, .int li, .int og, .int 0, .int 0, .int 0, .ref tdA, .ref seA, .ref teA, .ref shA, .ref coA, .ref slS, .ref brS, .ref foS, .ref prR, .ref rdR, .ref laR, .ref caR])), (caR, .inr (4, [.int caw, .ref caxc, .int 0])), (plw, .inl (kL, 64, .inr (.inl f1))), (pls, .inl (kN, 64, .inl f2))]) [1, 2, 3, 4, 5] rfl
    have hDc := hD.sub (ws' := [(pl, .inr (1, [.ref wd, .ref pp0, .ref pp1, .ref plw, .ref pls, .int pi0, .int pi1, .int pi2, .long pw, .int 0, .ref pq0, .ref pq1, .ref pq2, .ref pq3, .ref pq4])), (wd, .inr (10, [.int 0, .int bo, .int li, .int og, .int 0, .int 0, .int 0, .ref tdA, .ref seA, .ref teA, .ref shA, .ref coA, .ref slS, .ref brS, .ref foS, .ref prR, .ref rdR, .ref laR, .ref caR])), (caR, .inr (4, [.int caw, .ref caxc, .int 0])), (plw, .inl (kL, 64, .inr (.inl f1))), (pls, .inl (kN, 64, .inl f2))]) [1, 2, 3, 4, 5] (by decide +kernel) rfl
    have hKc := hK.sub (tys' := [(kL, .long), (kN, .int)]) [0, 1] rfl
    have hFc := va_free (wc := [(pl, .inr (1, [.ref wd, .ref pp0, .ref pp1, .ref plw, .ref pls, .int pi0, .int pi1, .int pi2, .long pw, .int 0, .ref pq0, .ref pq1, .ref pq2, .ref pq3, .ref pq4])), (wd, .inr (10, [.int 0, .int bo, .int li, .int og, .int 0, .int 0, .int 0, .ref tdA, .ref seA, .ref teA, .ref shA, .ref coA, .ref slS, .ref brS, .ref foS, .ref prR, .ref rdR, .ref laR, .ref caR])), (caR, .inr (4, [.int caw, .ref caxc, .int 0])), (plw, .inl (kL, 64, .inr (.inl f1))), (pls, .inl (kN, 64, .inl f2))]) hD hS hA [1, 2, 3, 4, 5] rfl
    refine va_calll (va_runV (As := [.int xa]) (rest := []) ⟨hx, hb, hml, hown, hts⟩ (c_X1_findBest l dC dI _ pl xa wd pp0 pp1 plw pls pi0 pi1 pi2 pw 0 pq0 pq1 pq2 pq3 pq4 bo li og tdA seA teA shA coA slS brS foS prR rdR laR caR caw caxc kL f1 kN f2) (cwV 1 hts gX11_best_X1_findBest rfl rfl rfl (by decide +kernel) ⟨Nat.le_of_ble_eq_true rfl, Nat.le_of_ble_eq_true rfl⟩) ⟨pz_blind, va_recv hKc hPc (ci := 1) (q0 := 0) rfl rfl, pz_pre hPc hKc hDc hN⟩ rfl rfl hl.1 rfl (lv_room (Nat.le_of_ble_eq_true rfl)) dX11_best_12 ⟨Nat.le_of_ble_eq_true rfl, Nat.le_of_ble_eq_true rfl⟩) hS (fun q _ h => hFc q h) hFc (fun r3 u t H1 locs ht hvm hw hB hz1 hk1 hS => ?_)
    obtain ⟨hP, hD⟩ := va_join (wr := [(h0, .inr (11, [.ref wd, .ref im, .ref wa, .ref re, .ref rk, .ref pl, .int fz]))]) (w1 := []) hP hD [1, 2, 3, 4, 5] [0] rfl rfl (by decide +kernel) (by decide +kernel) hk1 hFc pz_P0 pz_D0
    generalize H1 = H at hP hS ⊢
    have hP : va_P (dC, dI) vwCl [(h0, .inr (11, [.ref wd, .ref im, .ref wa, .ref re, .ref rk, .ref pl, .int fz]))] H := hP
    have hD : va_D A [(h0, .inr (11, [.ref wd, .ref im, .ref wa, .ref re, .ref rk, .ref pl, .int fz]))] := hD
    have hK : va_K (dC, dI) vwCl [(kL, .long), (kN, .int)] s := hK
    obtain rfl : 0 = r3 := hw.symm
    refine lv_goto (tgt := 21) hx hb dX11_best_15 (by decide) ?_
    exact W.lret (v := 0) hx hb hr (fun t ht hW => ⟨⟨0, (), rfl, (by unfold F_best; (repeat' split) <;> first | rfl | (exfalso; omega) | (refine Int32.toInt_inj.mp ?_; show _ = (0 : Int); omega)), trivial⟩, hS.F ht⟩) hS.2.2 dX11_best_21
  · refine lv_if_eq (tgt := 18) hx hb dX11_best_4 (by decide) (fun _ => ?_) (fun c9 => absurd c9 (by decide))
    refine lv_ldc2 (own := RX11) (v := (-1)) hx hb hown (hts (.constantLong RX11 198 (-1)) (by decide +kernel)) dX11_best_18 ?_
    exact W.lret (v := (-1)) hx hb hr (fun t ht hW => ⟨⟨(-1), (), rfl, (by unfold F_best; (repeat' split) <;> first | rfl | (exfalso; omega) | (refine Int32.toInt_inj.mp ?_; show _ = (0 : Int); omega)), trivial⟩, hS.F ht⟩) hS.2.2 dX11_best_21
