set_option maxHeartbeats 4000000 in
set_option maxRecDepth 100000 in
theorem t_J7_rangeCheck_23922 (l : Launch) (dC : Nat → ClassId) (dI : Nat → Nat → Nat) (sz : Nat) (n : Int32) (v : Int32) (u : Int32) (Z_n : Int) (Z_v : Int) (Z_u : Int) (h1 : 0 ≤ Z_v ∧ Z_v ≤ Z_u ∧ Z_u ≤ Z_n) (hZ_n : n.toInt = Z_n) (hZ_v : v.toInt = Z_v) (hZ_u : u.toInt = Z_u) : Met l yJ7_rangeCheck_23922 wqJ7_rangeCheck_23922 ({ frames := 2, cells := 0, slots := 0, locals := 400 }) (va_Pc [.int n, .int v, .int u] (pz_B dC dI [] [] sz)) (va_Sv (fun _ => True)) 0 0 (fun _ => False) := by
  refine Met.ofW (cc := cJ7_rangeCheck_23922) (maxL := 3) (ret := none) (by decide) rfl ?_
  intro p e s m args below meth c s₁ B hml hv
  obtain ⟨rfl, hsz, hP, hK, hD0, hN⟩ := hv
  have hx := B.exec
  have hb := B.bytes
  have hr := B.returns
  have hts := fun (w : Cond) (h : w ∈ WALL) => atoms_spec (ws := wqJ7_rangeCheck_23922) B.pre w (List.mem_cons_of_mem _ h)
  have hown : s.vm.findClass RJ7 = some m.cls := findClass_of_methodNamed B.named
  have hlocks := B.notSynchronized
  subst hsz
  have hD := hD0
  have hS : va_S (fun _ => True) s.heap s.heap [] := va_S.rf
  have hl := lv_entry ([.int n, .int v, .int u]) (n := 3) (Nat.le_of_ble_eq_true rfl)
  rw [lg_entry_eq]
  generalize (lg_sl ([.int n, .int v, .int u]) ++ List.replicate (3 - (lg_sl ([.int n, .int v, .int u])).length) Slot.unset).toArray = ls at hl ⊢
  have hl : lv_has ls 3 [(0, .int n), (1, .int v), (2, .int u)] := hl
  refine lv_iload_n hx hb dJ7_rangeCheck_23922_0 rfl (lv_at hl 1 rfl) ?_
  refine lv_iload_n hx hb dJ7_rangeCheck_23922_1 rfl (lv_at hl 2 rfl) ?_
  refine lv_icmp_le (tgt := 46) hx hb dJ7_rangeCheck_23922_2 (by decide) (fun c1 => ?_) (fun c1 => ?_)
  · have ic1 : Z_v ≤ Z_u := zi_le hZ_v hZ_u c1
    refine lv_iload_n hx hb dJ7_rangeCheck_23922_46 rfl (lv_at hl 1 rfl) ?_
    refine lv_if_ge (tgt := 59) hx hb dJ7_rangeCheck_23922_47 (by decide) (fun c2 => ?_) (fun c2 => ?_)
    · have ic2 : Z_v ≥ 0 := zi_ge hZ_v rfl c2
      refine lv_iload_n hx hb dJ7_rangeCheck_23922_59 rfl (lv_at hl 2 rfl) ?_
      refine lv_iload_n hx hb dJ7_rangeCheck_23922_60 rfl (lv_at hl 0 rfl) ?_
      refine lv_icmp_le (tgt := 73) hx hb dJ7_rangeCheck_23922_61 (by decide) (fun c3 => ?_) (fun c3 => ?_)
      · have ic3 : Z_u ≤ Z_n := zi_le hZ_u hZ_n c3
        exact W.vret hx hb hr (fun t ht hW => ⟨rfl, trivial, ht⟩) (fun _ h => by cases h) dJ7_rangeCheck_23922_73
      · have ic3 : Z_u > Z_n := zi_lef hZ_u hZ_n c3
        exfalso; omega
    · have ic2 : Z_v < 0 := zi_gef hZ_v rfl c2
      exfalso; omega
  · have ic1 : Z_v > Z_u := zi_lef hZ_v hZ_u c1
    exfalso; omega
set_option maxHeartbeats 4000000 in
set_option maxRecDepth 100000 in
theorem t_J7_fill_bad5a (l : Launch) (dC : Nat → ClassId) (dI : Nat → Nat → Nat) (sz : Nat) (Ω : Nat → (Nat → Nat) → va_E → Prop) (κ : Nat → ClassId) (τ ν : Nat → Nat) (ρ : Nat → Nat → Nat) (L : List Nat) (f : Nat → va_E) (hG : tp_G τ ν ρ L) (hT : tp_T Ω κ τ ν ρ f) (h0 : Nat) (v : Int32) (u : Int32) (x : Int64) (ht_h0 : τ h0 = 21) (hn : 0 ≤ v.toInt ∧ v.toInt ≤ u.toInt ∧ u.toInt ≤ (ν h0 : Int) ∧ ν h0 ≤ 1000) : Met l yJ7_fill_bad5a wqJ7_fill_bad5a ({ frames := 3, cells := 0, slots := 0, locals := 800 }) (va_Pc [.ref h0, .int v, .int u, .long x] (pz_B dC dI (tp_K κ) (va_pl L f) sz)) (va_Qv (fun (f1 : Nat → va_E) => tp_T Ω κ τ ν ρ f1 ∧ tp_F τ [21] f f1 ∧ True) (fun (f1 : Nat → va_E) (t : State) => pz_E dC dI (tp_K κ) (va_A (va_pl L f) sz) (va_pl L f1) t) (va_A (va_pl L f) sz)) 0 0 (va_A (va_pl L f) sz) := by
  refine Met.ofW (cc := cJ7_fill_bad5a) (maxL := 6) (ret := none) (by decide) rfl ?_
  intro p e s m args below meth c s₁ B hml hv
  obtain ⟨rfl, hsz, hP, hK, hD0, hN⟩ := hv
  have hx := B.exec
  have hb := B.bytes
  have hr := B.returns
  have hts := fun (w : Cond) (h : w ∈ WALL) => atoms_spec (ws := wqJ7_fill_bad5a) B.pre w (List.mem_cons_of_mem _ h)
  have hown : s.vm.findClass RJ7 = some m.cls := findClass_of_methodNamed B.named
  have hlocks := B.notSynchronized
  subst hsz
  have hD := hD0.self (sz := s.heap.size)
  generalize hAe : va_A (va_pl L f) s.heap.size = A at hD ⊢
  have hA : ∀ q : Nat, s.heap.size ≤ q → A q := fun q h => by rw [← hAe]; exact Or.inr h
  have hS : va_S A s.heap s.heap [] := va_S.rf
  have hR : tp_F τ [21] f f := tp_F.rf
  have hl := lv_entry ([.ref h0, .int v, .int u, .long x]) (n := 6) (Nat.le_of_ble_eq_true rfl)
  rw [lg_entry_eq]
  generalize (lg_sl ([.ref h0, .int v, .int u, .long x]) ++ List.replicate (6 - (lg_sl ([.ref h0, .int v, .int u, .long x])).length) Slot.unset).toArray = ls at hl ⊢
  have hl : lv_has ls 6 [(0, .ref h0), (1, .int v), (2, .int u), (3, .long x)] := hl
  refine lv_aload_n hx hb dJ7_fill_bad5a_0 rfl (lv_at hl 0 rfl) ?_
  refine tpk_21 hT ht_h0 rfl (fun g2 hf_o1 => ?_)
  refine tpk_pos (tp_in hG ht_h0 (by decide)) hf_o1 (fun q3 eq3 => ?_)
  obtain ⟨z4, ez4⟩ : ∃ y : Int32, y = Int32.ofNat (ν h0) := ⟨_, rfl⟩
  have iz4 : z4.toInt = ((ν h0) : Int) := zi_ofNat ez4 (by omega)
  refine va_alen hx hb hK hP q3 1 eq3 rfl ez4.symm dJ7_fill_bad5a_1 ?_
  refine lv_iload_n hx hb dJ7_fill_bad5a_2 rfl (lv_at hl 1 rfl) ?_
  refine lv_iload_n hx hb dJ7_fill_bad5a_3 rfl (lv_at hl 2 rfl) ?_
  refine tp_callv0 (va_runS (As := [.int z4, .int v, .int u]) (rest := []) ⟨hx, hb, hml, hown, hts⟩ (t_J7_rangeCheck_23922 l dC dI _ z4 v u (z4.toInt) (v.toInt) (u.toInt) (by omega) rfl rfl rfl) (va_cwS 3 hts gJ7_fill_bad5a_J7_rangeCheck_23922 rfl rfl rfl pd_J7_rangeCheck_23922 ⟨Nat.le_of_ble_eq_true rfl, Nat.le_of_ble_eq_true rfl⟩) ⟨pz_blind, pz_pre pz_P0 (hK.sub (tys' := []) [] rfl) (pz_D0 (A := fun _ => True)) hN⟩ rfl rfl hl.1 rfl (lv_room (Nat.le_of_ble_eq_true rfl)) dJ7_fill_bad5a_4 ⟨Nat.le_of_ble_eq_true rfl, Nat.le_of_ble_eq_true rfl⟩) ?_
  refine lv_iload_n hx hb dJ7_fill_bad5a_7 rfl (lv_at hl 1 rfl) ?_
  refine lv_istore (lv' := [(5, .int v), (0, .ref h0), (1, .int v), (2, .int u), (3, .long x)]) hx hb dJ7_fill_bad5a_8 hl (by decide) rfl (fun ls hl => ?_)
  refine pz_loop (fun n0 H locs ls => ∃ f9 : Nat → va_E, ∃ w7 : Int32, n0 = ((u.toInt) - (w7.toInt)).toNat ∧ tp_T Ω κ τ ν ρ f9 ∧ tp_F τ [21] f f9 ∧ (0 ≤ w7.toInt ∧ w7.toInt ≤ 1000) ∧ ((w7.toInt) ≤ (u.toInt)) ∧ va_P (dC, dI) vwCl (va_pl L f9) H ∧ va_D A (va_pl L f9) ∧ va_S A s.heap H locs ∧ lv_has ls 6 [(5, .int w7), (0, .ref h0), (1, .int v), (2, .int u), (3, .long x)]) ?_ _ _ _ _ ⟨f, v, rfl, hT, hR, (by omega), (by omega), hP, hD, hS, lv_sub hl [0, 1, 2, 3, 4] rfl⟩
  intro n0 H locs ls hI ih10
  refine Exists.elim hI (fun f9 hE90 => Exists.elim hE90 (fun w7 hE91 => tn_9 hE91 (fun hn11 hT hR rw7 k8 hP hD hS hl => ?_)))
  clear hE91 hE90 hI
  refine lv_iload hx hb dJ7_fill_bad5a_10 (lv_at hl 0 rfl) ?_
  refine lv_iload_n hx hb dJ7_fill_bad5a_12 rfl (lv_at hl 3 rfl) ?_
  refine lv_icmp_ge (tgt := 27) hx hb dJ7_fill_bad5a_13 (by decide) (fun c12 => ?_) (fun c12 => ?_)
  · have ic12 : w7.toInt ≥ u.toInt := zi_ge rfl rfl c12
    exact W.vret hx hb hr (fun t ht hW => ⟨⟨f9, rfl, ⟨hT, hR, trivial⟩, by rw [ht]; exact hP, va_K.moved hW.alike hK, hD⟩, hS.F ht⟩) hS.2.2 dJ7_fill_bad5a_27
  · have ic12 : w7.toInt < u.toInt := zi_gef rfl rfl c12
    refine lv_aload_n hx hb dJ7_fill_bad5a_16 rfl (lv_at hl 1 rfl) ?_
    refine lv_iload hx hb dJ7_fill_bad5a_17 (lv_at hl 0 rfl) ?_
    refine lv_lload_n hx hb dJ7_fill_bad5a_19 rfl (lv_at hl 4 rfl) ?_
    refine tpk_21 hT ht_h0 rfl (fun g14 hf_o13 => ?_)
    refine tpk_pos (tp_in hG ht_h0 (by decide)) hf_o13 (fun q15 eq15 => ?_)
    refine va_last hx hb hK hP hD hS q15 1 eq15 rfl (vp_in_iff.mpr ⟨by omega, by omega⟩) dJ7_fill_bad5a_20 (tp_k (.inl (κ 1, (ν h0), .inr (.inl (vp_updL g14 w7.toNatClampNeg x)))) hD (tp_in hG ht_h0 (by decide)) eq15 (fun f16 H locs hP hD hS g18 k17 => ?_))
    have hT := hT.up ht_h0 g18 k17 (tp_o21 rfl)
    have hR := hR.up ht_h0 (by decide) k17
    generalize (vp_updL g14 w7.toNatClampNeg x) = g19 at g18
    obtain ⟨z20, ez20⟩ : ∃ y : Int32, y = w7 + 1 := ⟨_, rfl⟩
    refine lv_iinc (v := z20) (lv' := [(5, .int z20), (0, .ref h0), (1, .int v), (2, .int u), (3, .long x)]) hx hb dJ7_fill_bad5a_21 hl (k := 0) rfl (by rw [ez20]; rfl) (by decide) rfl (fun ls hl => ?_)
    have iz20 : z20.toInt = w7.toInt + 1 := zi_add ez20 rfl rfl (by omega) (by omega)
    refine lv_goto (tgt := 10) hx hb dJ7_fill_bad5a_24 (by decide) ?_
    exact ih10 _ _ _ _ (by rw [hn11]; omega) ⟨f16, z20, rfl, hT, hR, (by omega), (by omega), hP, hD, hS, lv_sub hl [0, 1, 2, 3, 4] rfl⟩
set_option maxHeartbeats 4000000 in
set_option maxRecDepth 100000 in
theorem t_X4_addRow (l : Launch) (dC : Nat → ClassId) (dI : Nat → Nat → Nat) (sz : Nat) (Ω : Nat → (Nat → Nat) → va_E → Prop) (κ : Nat → ClassId) (τ ν : Nat → Nat) (ρ : Nat → Nat → Nat) (L : List Nat) (f : Nat → va_E) (hG : tp_G τ ν ρ L) (hT : tp_T Ω κ τ ν ρ f) (h0 : Nat) (ht_h0 : τ h0 = 5) (h0_x0 : Int32) (h0_x2 : Int32) (hf_h0 : f h0 = .inr (4, [.int h0_x0, .ref (ρ h0 1), .int h0_x2])) : Met l yX4_addRow wqX4_addRow ({ frames := 4, cells := 0, slots := 0, locals := 1200 }) (va_Pc [.ref h0] (pz_B dC dI (tp_K κ) (va_pl L f) sz)) (va_Qi (fun (r : Int32) (f1 : Nat → va_E) => tp_T Ω κ τ ν ρ f1 ∧ tp_F τ [5, 21] f f1 ∧ True ∧ True) (fun (f1 : Nat → va_E) (t : State) => pz_E dC dI (tp_K κ) (va_A (va_pl L f) sz) (va_pl L f1) t) (va_A (va_pl L f) sz)) 0 0 (va_A (va_pl L f) sz) := by
  refine Met.ofW (cc := cX4_addRow) (maxL := 2) (ret := some .int) (by decide) rfl ?_
  intro p e s m args below meth c s₁ B hml hv
  obtain ⟨rfl, hsz, hP, hK, hD0, hN⟩ := hv
  have hx := B.exec
  have hb := B.bytes
  have hr := B.returns
  have hts := fun (w : Cond) (h : w ∈ WALL) => atoms_spec (ws := wqX4_addRow) B.pre w (List.mem_cons_of_mem _ h)
  have hown : s.vm.findClass RX4 = some m.cls := findClass_of_methodNamed B.named
  have hlocks := B.notSynchronized
  subst hsz
  have hD := hD0.self (sz := s.heap.size)
  generalize hAe : va_A (va_pl L f) s.heap.size = A at hD ⊢
  have hA : ∀ q : Nat, s.heap.size ≤ q → A q := fun q h => by rw [← hAe]; exact Or.inr h
  have hS : va_S A s.heap s.heap [] := va_S.rf
  have hR : tp_F τ [5, 21] f f := tp_F.rf
  have hl := lv_entry ([.ref h0]) (n := 2) (Nat.le_of_ble_eq_true rfl)
  rw [lg_entry_eq]
  generalize (lg_sl ([.ref h0]) ++ List.replicate (2 - (lg_sl ([.ref h0])).length) Slot.unset).toArray = ls at hl ⊢
  have hl : lv_has ls 2 [(0, .ref h0)] := hl
  refine tpk_5 hT ht_h0 (fun h0z_x0 h0z_x2 hfz_h0 rzh0_0 rzh0_1 => ?_)
  obtain ⟨rfl, rfl⟩ := tp_same5 hf_h0 hfz_h0
  refine lv_aload_n hx hb dX4_addRow_0 rfl (lv_at hl 0 rfl) ?_
  refine tpk_pos (tp_in hG ht_h0 (by decide)) hf_h0 (fun q1 eq1 => ?_)
  refine va_get (D := (dC, dI)) (ci := 4) (v := .int h0_x2) (C := RX4) (T := TX4) (N := 3) hx hb hts hfX4 hown hK hP q1 eq1 rfl 2 (by decide) (hts (.fieldLink RX4 25 "ColdShips$Rows" "size" "I") wa_517) (fun _ h9 => h9) rfl dX4_addRow_1 ?_
  refine lv_aload_n hx hb dX4_addRow_4 rfl (lv_at hl 0 rfl) ?_
  refine va_get (D := (dC, dI)) (ci := 4) (v := .int h0_x0) (C := RX4) (T := TX4) (N := 3) hx hb hts hfX4 hown hK hP q1 eq1 rfl 0 (by decide) (hts (.fieldLink RX4 15 "ColdShips$Rows" "width" "I") wa_81) (fun _ h9 => h9) rfl dX4_addRow_5 ?_
  refine lv_imul hx hb dX4_addRow_8 ?_
  refine lv_topi (fun z2 ez2 => ?_)
  refine tgk_5 hG ht_h0 (fun y3 y3n y4a y4b y4c => ?_)
  have jz2h0 := tp_rowM y3n y4b y4c (r := h0_x2.toInt) (by omega) (by omega)
  have iz2 : z2.toInt = h0_x2.toInt * (ρ h0 10 : Int) := zi_mul ez2 rfl rzh0_0 (by omega) (by omega)
  refine lv_istore_n (lv' := [(1, .int z2), (0, .ref h0)]) hx hb dX4_addRow_9 rfl hl (by decide) rfl (fun ls hl => ?_)
  refine lv_iload_n hx hb dX4_addRow_10 rfl (lv_at hl 0 rfl) ?_
  refine lv_aload_n hx hb dX4_addRow_11 rfl (lv_at hl 1 rfl) ?_
  refine va_get (D := (dC, dI)) (ci := 4) (v := .int h0_x0) (C := RX4) (T := TX4) (N := 3) hx hb hts hfX4 hown hK hP q1 eq1 rfl 0 (by decide) (hts (.fieldLink RX4 15 "ColdShips$Rows" "width" "I") wa_81) (fun _ h9 => h9) rfl dX4_addRow_12 ?_
  refine lv_iadd hx hb dX4_addRow_15 ?_
  refine lv_topi (fun z5 ez5 => ?_)
  have iz5 : z5.toInt = z2.toInt + h0_x0.toInt := zi_add ez5 rfl rfl (by omega) (by omega)
  refine lv_aload_n hx hb dX4_addRow_16 rfl (lv_at hl 1 rfl) ?_
  refine va_get (D := (dC, dI)) (ci := 4) (v := .ref (ρ h0 1)) (C := RX4) (T := TX4) (N := 3) hx hb hts hfX4 hown hK hP q1 eq1 rfl 1 (by decide) (hts (.fieldLink RX4 21 "ColdShips$Rows" "cells" "[J") wa_83) (fun _ h9 => h9) rfl dX4_addRow_17 ?_
  refine tpk_21 hT y3 rfl (fun g7 hf_o6 => ?_)
  refine tpk_pos (tp_in hG y3 (by decide)) hf_o6 (fun q8 eq8 => ?_)
  obtain ⟨z9, ez9⟩ : ∃ y : Int32, y = Int32.ofNat (ν (ρ h0 1)) := ⟨_, rfl⟩
  have iz9 : z9.toInt = ((ν (ρ h0 1)) : Int) := zi_ofNat ez9 (by omega)
  refine va_alen hx hb hK hP q8 1 eq8 rfl ez9.symm dX4_addRow_20 ?_
  refine lv_icmp_le (tgt := 26) hx hb dX4_addRow_21 (by decide) (fun c10 => ?_) (fun c10 => ?_)
  · have ic10 : z5.toInt ≤ z9.toInt := zi_le rfl rfl c10
    refine lv_aload_n hx hb dX4_addRow_26 rfl (lv_at hl 1 rfl) ?_
    refine va_get (D := (dC, dI)) (ci := 4) (v := .ref (ρ h0 1)) (C := RX4) (T := TX4) (N := 3) hx hb hts hfX4 hown hK hP q1 eq1 rfl 1 (by decide) (hts (.fieldLink RX4 21 "ColdShips$Rows" "cells" "[J") wa_83) (fun _ h9 => h9) rfl dX4_addRow_27 ?_
    refine lv_iload_n hx hb dX4_addRow_30 rfl (lv_at hl 0 rfl) ?_
    refine lv_iload_n hx hb dX4_addRow_31 rfl (lv_at hl 0 rfl) ?_
    refine lv_aload_n hx hb dX4_addRow_32 rfl (lv_at hl 1 rfl) ?_
    refine va_get (D := (dC, dI)) (ci := 4) (v := .int h0_x0) (C := RX4) (T := TX4) (N := 3) hx hb hts hfX4 hown hK hP q1 eq1 rfl 0 (by decide) (hts (.fieldLink RX4 15 "ColdShips$Rows" "width" "I") wa_81) (fun _ h9 => h9) rfl dX4_addRow_33 ?_
    refine lv_iadd hx hb dX4_addRow_36 ?_
    refine lv_topi (fun z11 ez11 => ?_)
    have iz11 : z11.toInt = z2.toInt + h0_x0.toInt := zi_add ez11 rfl rfl (by omega) (by omega)
    refine lv_lconst (v := 0) hx hb dX4_addRow_37 (by decide) ?_
    have hFc := tp_fr hD hS hA
    refine va_callv (va_runS (As := [.ref (ρ h0 1), .int z2, .int z11, .long 0]) (rest := []) ⟨hx, hb, hml, hown, hts⟩ (t_J7_fill_bad5a l dC dI _ Ω κ τ ν ρ L f hG hT (ρ h0 1) z2 z11 (0) y3 (by omega)) (va_cwS 4 hts gX4_addRow_J7_fill_bad5a rfl rfl rfl pd_J7_fill_bad5a ⟨Nat.le_of_ble_eq_true rfl, Nat.le_of_ble_eq_true rfl⟩) ⟨pz_blind, pz_pre hP hK hD hN⟩ rfl rfl hl.1 rfl (lv_room (Nat.le_of_ble_eq_true rfl)) dX4_addRow_38 ⟨Nat.le_of_ble_eq_true rfl, Nat.le_of_ble_eq_true rfl⟩) hS (fun q _ h => hFc q h) hFc (fun f14 t H1 locs ht hvm hw13 hB hz1 hk1 hS => ?_)
    refine tn_3 hw13 (fun hT hF15 hw13p => ?_); clear hw13
    have hR := hR.then hF15 (by decide)
    have hP := hB.1; rw [ht] at hP; have hD := tp_ad f14 hD; clear hB hFc hz1 hk1; subst ht; generalize t.heap = H at hP hS ⊢
    refine lv_aload_n hx hb dX4_addRow_41 rfl (lv_at hl 1 rfl) ?_
    refine lv_dup hx hb dX4_addRow_42 rfl ?_
    have hf_16 : f14 h0 = .inr (4, [.int h0_x0, .ref (ρ h0 1), .int h0_x2]) := (hF15 _ (by rw [ht_h0]; decide)).trans hf_h0
    refine tpk_pos (tp_in hG ht_h0 (by decide)) hf_16 (fun q17 eq17 => ?_)
    refine va_get (D := (dC, dI)) (ci := 4) (v := .int h0_x2) (C := RX4) (T := TX4) (N := 3) hx hb hts hfX4 hown hK hP q17 eq17 rfl 2 (by decide) (hts (.fieldLink RX4 25 "ColdShips$Rows" "size" "I") wa_517) (fun _ h9 => h9) rfl dX4_addRow_43 ?_
    refine lv_dup_x1 hx hb dX4_addRow_46 rfl rfl ?_
    refine lv_iconst (v := 1) hx hb dX4_addRow_47 (by decide) ?_
    refine lv_iadd hx hb dX4_addRow_48 ?_
    refine lv_topi (fun z18 ez18 => ?_)
    have iz18 : z18.toInt = h0_x2.toInt + 1 := zi_add ez18 rfl rfl (by omega) (by omega)
    refine va_put (D := (dC, dI)) (ci := 4) (v := .int z18) (ty := .int) (C := RX4) (T := TX4) (N := 3) hx hb hts hfX4 tyX4 tyX4_ok nmX4 hown hK hP hD hS q17 eq17 rfl 2 (by decide) (hts (.fieldLink RX4 25 "ColdShips$Rows" "size" "I") wa_517) (fun _ h9 => h9) rfl (tyX4_ok 2 (by decide)) rfl rfl (Nat.le_of_ble_eq_true rfl) dX4_addRow_49 (tp_k (.inr (4, [.int h0_x0, .ref (ρ h0 1), .int z18])) hD (tp_in hG ht_h0 (by decide)) eq17 (fun f19 H locs hP hD hS g21 k20 => ?_))
    have hT := hT.up ht_h0 g21 k20 ⟨_, _, rfl, (by first | decide | omega | (omega)), (by have := tp_rowA y3n y4a (r := h0_x2.toInt) (by omega); omega)⟩
    have hR := hR.up ht_h0 (by decide) k20
    exact W.iret (v := h0_x2) hx hb hr (fun t ht hW => ⟨⟨h0_x2, f19, rfl, ⟨hT, hR, trivial, trivial⟩, by rw [ht]; exact hP, va_K.moved hW.alike hK, hD⟩, hS.F ht⟩) hS.2.2 dX4_addRow_52
  · have ic10 : z5.toInt > z9.toInt := zi_lef rfl rfl c10
    refine lv_iconst (v := (-1)) hx hb dX4_addRow_24 (by decide) ?_
    exact W.iret (v := (-1)) hx hb hr (fun t ht hW => ⟨⟨(-1), f, rfl, ⟨hT, hR, trivial, trivial⟩, by rw [ht]; exact hP, va_K.moved hW.alike hK, hD⟩, hS.F ht⟩) hS.2.2 dX4_addRow_25
set_option maxHeartbeats 4000000 in
set_option maxRecDepth 100000 in
theorem t_X4_copyFrom (l : Launch) (dC : Nat → ClassId) (dI : Nat → Nat → Nat) (sz : Nat) (Ω : Nat → (Nat → Nat) → va_E → Prop) (κ : Nat → ClassId) (τ ν : Nat → Nat) (ρ : Nat → Nat → Nat) (L : List Nat) (f : Nat → va_E) (hG : tp_G τ ν ρ L) (hT : tp_T Ω κ τ ν ρ f) (h0 : Nat) (h1 : Nat) (ht_h0 : τ h0 = 5) (ht_h1 : τ h1 = 5) (h0_x0 : Int32) (h0_x2 : Int32) (hf_h0 : f h0 = .inr (4, [.int h0_x0, .ref (ρ h0 1), .int h0_x2])) (h1_x0 : Int32) (h1_x2 : Int32) (hf_h1 : f h1 = .inr (4, [.int h1_x0, .ref (ρ h1 1), .int h1_x2])) : Met l yX4_copyFrom wqX4_copyFrom ({ frames := 2, cells := 0, slots := 0, locals := 400 }) (va_Pc [.ref h0, .ref h1] (pz_B dC dI (tp_K κ) (va_pl L f) sz)) (va_Qv (fun (f1 : Nat → va_E) => tp_T Ω κ τ ν ρ f1 ∧ tp_F τ [5, 21] f f1 ∧ True) (fun (f1 : Nat → va_E) (t : State) => pz_E dC dI (tp_K κ) (va_A (va_pl L f) sz) (va_pl L f1) t) (va_A (va_pl L f) sz)) 0 0 (va_A (va_pl L f) sz) := by
  refine Met.ofW (cc := cX4_copyFrom) (maxL := 3) (ret := none) (by decide) rfl ?_
  intro p e s m args below meth c s₁ B hml hv
  obtain ⟨rfl, hsz, hP, hK, hD0, hN⟩ := hv
  have hx := B.exec
  have hb := B.bytes
  have hr := B.returns
  have hts := fun (w : Cond) (h : w ∈ WALL) => atoms_spec (ws := wqX4_copyFrom) B.pre w (List.mem_cons_of_mem _ h)
  have hown : s.vm.findClass RX4 = some m.cls := findClass_of_methodNamed B.named
  have hlocks := B.notSynchronized
  subst hsz
  have hD := hD0.self (sz := s.heap.size)
  generalize hAe : va_A (va_pl L f) s.heap.size = A at hD ⊢
  have hA : ∀ q : Nat, s.heap.size ≤ q → A q := fun q h => by rw [← hAe]; exact Or.inr h
  have hS : va_S A s.heap s.heap [] := va_S.rf
  have hR : tp_F τ [5, 21] f f := tp_F.rf
  have hl := lv_entry ([.ref h0, .ref h1]) (n := 3) (Nat.le_of_ble_eq_true rfl)
  rw [lg_entry_eq]
  generalize (lg_sl ([.ref h0, .ref h1]) ++ List.replicate (3 - (lg_sl ([.ref h0, .ref h1])).length) Slot.unset).toArray = ls at hl ⊢
  have hl : lv_has ls 3 [(0, .ref h0), (1, .ref h1)] := hl
  refine tpk_5 hT ht_h0 (fun h0z_x0 h0z_x2 hfz_h0 rzh0_0 rzh0_1 => ?_)
  obtain ⟨rfl, rfl⟩ := tp_same5 hf_h0 hfz_h0
  refine tpk_5 hT ht_h1 (fun h1z_x0 h1z_x2 hfz_h1 rzh1_0 rzh1_1 => ?_)
  obtain ⟨rfl, rfl⟩ := tp_same5 hf_h1 hfz_h1
  refine lv_aload_n hx hb dX4_copyFrom_0 rfl (lv_at hl 1 rfl) ?_
  refine tpk_pos (tp_in hG ht_h1 (by decide)) hf_h1 (fun q1 eq1 => ?_)
  refine va_get (D := (dC, dI)) (ci := 4) (v := .int h1_x2) (C := RX4) (T := TX4) (N := 3) hx hb hts hfX4 hown hK hP q1 eq1 rfl 2 (by decide) (hts (.fieldLink RX4 25 "ColdShips$Rows" "size" "I") wa_517) (fun _ h9 => h9) rfl dX4_copyFrom_1 ?_
  refine lv_aload_n hx hb dX4_copyFrom_4 rfl (lv_at hl 1 rfl) ?_
  refine va_get (D := (dC, dI)) (ci := 4) (v := .int h1_x0) (C := RX4) (T := TX4) (N := 3) hx hb hts hfX4 hown hK hP q1 eq1 rfl 0 (by decide) (hts (.fieldLink RX4 15 "ColdShips$Rows" "width" "I") wa_81) (fun _ h9 => h9) rfl dX4_copyFrom_5 ?_
  refine lv_imul hx hb dX4_copyFrom_8 ?_
  refine lv_topi (fun z2 ez2 => ?_)
  refine tgk_5 hG ht_h1 (fun y3 y3n y4a y4b y4c => ?_)
  refine tgk_5 hG ht_h0 (fun y5 y5n y6a y6b y6c => ?_)
  have jz2h1 := tp_rowM y3n y4b y4c (r := h1_x2.toInt) (by omega) (by omega)
  have jz2h0 := tp_rowM y5n y6b y6c (r := 0) (by omega) (by omega)
  have iz2 : z2.toInt = h1_x2.toInt * (ρ h1 10 : Int) := zi_mul ez2 rfl rzh1_0 (by omega) (by omega)
  refine lv_istore_n (lv' := [(2, .int z2), (0, .ref h0), (1, .ref h1)]) hx hb dX4_copyFrom_9 rfl hl (by decide) rfl (fun ls hl => ?_)
  refine lv_aload_n hx hb dX4_copyFrom_10 rfl (lv_at hl 2 rfl) ?_
  refine va_get (D := (dC, dI)) (ci := 4) (v := .int h1_x0) (C := RX4) (T := TX4) (N := 3) hx hb hts hfX4 hown hK hP q1 eq1 rfl 0 (by decide) (hts (.fieldLink RX4 15 "ColdShips$Rows" "width" "I") wa_81) (fun _ h9 => h9) rfl dX4_copyFrom_11 ?_
  refine lv_aload_n hx hb dX4_copyFrom_14 rfl (lv_at hl 1 rfl) ?_
  refine tpk_pos (tp_in hG ht_h0 (by decide)) hf_h0 (fun q7 eq7 => ?_)
  refine va_get (D := (dC, dI)) (ci := 4) (v := .int h0_x0) (C := RX4) (T := TX4) (N := 3) hx hb hts hfX4 hown hK hP q7 eq7 rfl 0 (by decide) (hts (.fieldLink RX4 15 "ColdShips$Rows" "width" "I") wa_81) (fun _ h9 => h9) rfl dX4_copyFrom_15 ?_
  refine lv_icmp_ne (tgt := 52) hx hb dX4_copyFrom_18 (by decide) (fun c8 => ?_) (fun c8 => ?_)
  · have ic8 : h1_x0.toInt ≠ h0_x0.toInt := zi_ne rfl rfl c8
    exact W.vret hx hb hr (fun t ht hW => ⟨⟨f, rfl, ⟨hT, hR, trivial⟩, by rw [ht]; exact hP, va_K.moved hW.alike hK, hD⟩, hS.F ht⟩) hS.2.2 dX4_copyFrom_52
  · have ic8 : h1_x0.toInt = h0_x0.toInt := zi_nef rfl rfl c8
    refine lv_iload_n hx hb dX4_copyFrom_21 rfl (lv_at hl 0 rfl) ?_
    refine lv_aload_n hx hb dX4_copyFrom_22 rfl (lv_at hl 1 rfl) ?_
    refine va_get (D := (dC, dI)) (ci := 4) (v := .ref (ρ h0 1)) (C := RX4) (T := TX4) (N := 3) hx hb hts hfX4 hown hK hP q7 eq7 rfl 1 (by decide) (hts (.fieldLink RX4 21 "ColdShips$Rows" "cells" "[J") wa_83) (fun _ h9 => h9) rfl dX4_copyFrom_23 ?_
    refine tpk_21 hT y5 rfl (fun g10 hf_o9 => ?_)
    refine tpk_pos (tp_in hG y5 (by decide)) hf_o9 (fun q11 eq11 => ?_)
    obtain ⟨z12, ez12⟩ : ∃ y : Int32, y = Int32.ofNat (ν (ρ h0 1)) := ⟨_, rfl⟩
    have iz12 : z12.toInt = ((ν (ρ h0 1)) : Int) := zi_ofNat ez12 (by omega)
    refine va_alen hx hb hK hP q11 1 eq11 rfl ez12.symm dX4_copyFrom_26 ?_
    refine lv_icmp_gt (tgt := 52) hx hb dX4_copyFrom_27 (by decide) (fun c13 => ?_) (fun c13 => ?_)
    · have ic13 : z2.toInt > z12.toInt := zi_gt rfl rfl c13
      exact W.vret hx hb hr (fun t ht hW => ⟨⟨f, rfl, ⟨hT, hR, trivial⟩, by rw [ht]; exact hP, va_K.moved hW.alike hK, hD⟩, hS.F ht⟩) hS.2.2 dX4_copyFrom_52
    · have ic13 : z2.toInt ≤ z12.toInt := zi_gtf rfl rfl c13
      refine lv_aload_n hx hb dX4_copyFrom_30 rfl (lv_at hl 2 rfl) ?_
      refine va_get (D := (dC, dI)) (ci := 4) (v := .ref (ρ h1 1)) (C := RX4) (T := TX4) (N := 3) hx hb hts hfX4 hown hK hP q1 eq1 rfl 1 (by decide) (hts (.fieldLink RX4 21 "ColdShips$Rows" "cells" "[J") wa_83) (fun _ h9 => h9) rfl dX4_copyFrom_31 ?_
      refine lv_iconst (v := 0) hx hb dX4_copyFrom_34 (by decide) ?_
      refine lv_aload_n hx hb dX4_copyFrom_35 rfl (lv_at hl 1 rfl) ?_
      refine va_get (D := (dC, dI)) (ci := 4) (v := .ref (ρ h0 1)) (C := RX4) (T := TX4) (N := 3) hx hb hts hfX4 hown hK hP q7 eq7 rfl 1 (by decide) (hts (.fieldLink RX4 21 "ColdShips$Rows" "cells" "[J") wa_83) (fun _ h9 => h9) rfl dX4_copyFrom_36 ?_
      refine lv_iconst (v := 0) hx hb dX4_copyFrom_39 (by decide) ?_
      refine lv_iload_n hx hb dX4_copyFrom_40 rfl (lv_at hl 0 rfl) ?_
      refine tpk_21 hT y3 rfl (fun g15 hf_o14 => ?_)
      refine tpk_pos (tp_in hG y3 (by decide)) hf_o14 (fun q16 eq16 => ?_)
      refine va_copyl hx hb (by rw [hml]; exact hl.1.symm) hown (hts (.methodLink RX4 42 arraycopyName) wa_1521) (hts (.native arraycopyName) wa_465) (hts (.static arraycopyName) wa_466) (hts (.initialized "java/lang/System") wa_467) hK hP hD hS q16 q11 1 1 eq16 eq11 rfl rfl rfl (by decide) (by decide) (zi_nn (by omega)) (zi_cp (show (0 : Int32).toInt = 0 from rfl) (rfl : z2.toInt = _) (by omega)) (zi_cp (show (0 : Int32).toInt = 0 from rfl) (rfl : z2.toInt = _) (by omega)) (fun _ _ => rfl) (Nat.le_of_ble_eq_true rfl) (Nat.le_of_ble_eq_true rfl) dX4_copyFrom_41 (tp_k (.inl (κ 1, (ν (ρ h0 1)), .inr (.inl (va_cpy g15 g10 (0 : Int32).toNatClampNeg (0 : Int32).toNatClampNeg z2.toNatClampNeg)))) hD (tp_in hG y5 (by decide)) eq11 (fun f17 H locs hP hD hS g19 k18 => ?_))
      have hT := hT.up y5 g19 k18 (tp_o21 rfl)
      have hR := hR.up y5 (by decide) k18
      generalize (va_cpy g15 g10 (0 : Int32).toNatClampNeg (0 : Int32).toNatClampNeg z2.toNatClampNeg) = g20 at g19
      refine lv_aload_n hx hb dX4_copyFrom_44 rfl (lv_at hl 1 rfl) ?_
      refine lv_aload_n hx hb dX4_copyFrom_45 rfl (lv_at hl 2 rfl) ?_
      have hf_21 : f17 h1 = .inr (4, [.int h1_x0, .ref (ρ h1 1), .int h1_x2]) := (k18 _ (tp_ne ht_h1 y5 (by decide))).trans hf_h1
      refine tpk_pos (tp_in hG ht_h1 (by decide)) hf_21 (fun q22 eq22 => ?_)
      refine va_get (D := (dC, dI)) (ci := 4) (v := .int h1_x2) (C := RX4) (T := TX4) (N := 3) hx hb hts hfX4 hown hK hP q22 eq22 rfl 2 (by decide) (hts (.fieldLink RX4 25 "ColdShips$Rows" "size" "I") wa_517) (fun _ h9 => h9) rfl dX4_copyFrom_46 ?_
      have hf_23 : f17 h0 = .inr (4, [.int h0_x0, .ref (ρ h0 1), .int h0_x2]) := (k18 _ (tp_ne ht_h0 y5 (by decide))).trans hf_h0
      refine tpk_pos (tp_in hG ht_h0 (by decide)) hf_23 (fun q24 eq24 => ?_)
      refine va_put (D := (dC, dI)) (ci := 4) (v := .int h1_x2) (ty := .int) (C := RX4) (T := TX4) (N := 3) hx hb hts hfX4 tyX4 tyX4_ok nmX4 hown hK hP hD hS q24 eq24 rfl 2 (by decide) (hts (.fieldLink RX4 25 "ColdShips$Rows" "size" "I") wa_517) (fun _ h9 => h9) rfl (tyX4_ok 2 (by decide)) rfl rfl (Nat.le_of_ble_eq_true rfl) dX4_copyFrom_49 (tp_k (.inr (4, [.int h0_x0, .ref (ρ h0 1), .int h1_x2])) hD (tp_in hG ht_h0 (by decide)) eq24 (fun f25 H locs hP hD hS g27 k26 => ?_))
      have hT := hT.up ht_h0 g27 k26 ⟨_, _, rfl, (by first | decide | omega | (omega)), (by have q9 : ρ h1 10 = ρ h0 10 := (by omega); have q8 : h1_x2.toInt * (ρ h1 10 : Int) ≤ (ν (ρ h0 1) : Int) := (by omega); rw [q9] at q8; have := tp_rowC y5n y6a q8; omega)⟩
      have hR := hR.up ht_h0 (by decide) k26
      exact W.vret hx hb hr (fun t ht hW => ⟨⟨f25, rfl, ⟨hT, hR, trivial⟩, by rw [ht]; exact hP, va_K.moved hW.alike hK, hD⟩, hS.F ht⟩) hS.2.2 dX4_copyFrom_52
set_option maxHeartbeats 4000000 in
set_option maxRecDepth 100000 in
theorem t_X11_isOrder (l : Launch) (dC : Nat → ClassId) (dI : Nat → Nat → Nat) (sz : Nat) (v : Int32) (u : Int32) (Z_v : Int) (Z_u : Int) (hZ_v : v.toInt = Z_v) (hZ_u : u.toInt = Z_u) : Met l yX11_isOrder wqX11_isOrder ({ frames := 4, cells := 0, slots := 0, locals := 1200 }) (va_Pc [.int v, .int u] (pz_B dC dI [] [] sz)) (vp_Si (fun r => (0 ≤ r.toInt ∧ r.toInt ≤ 1) ∧ True)) 0 0 (fun _ => False) := by
  refine Met.ofW (cc := cX11_isOrder) (maxL := 2) (ret := some .boolean) (by decide) rfl ?_
  intro p e s m args below meth c s₁ B hml hv
  obtain ⟨rfl, hsz, hP, hK, hD0, hN⟩ := hv
  have hx := B.exec
  have hb := B.bytes
  have hr := B.returns
  have hts := fun (w : Cond) (h : w ∈ WALL) => atoms_spec (ws := wqX11_isOrder) B.pre w (List.mem_cons_of_mem _ h)
  have hown : s.vm.findClass RX11 = some m.cls := findClass_of_methodNamed B.named
  have hlocks := B.notSynchronized
  subst hsz
  have hD := hD0
  have hS : va_S (fun _ => True) s.heap s.heap [] := va_S.rf
  have hl := lv_entry ([.int v, .int u]) (n := 2) (Nat.le_of_ble_eq_true rfl)
  rw [lg_entry_eq]
  generalize (lg_sl ([.int v, .int u]) ++ List.replicate (2 - (lg_sl ([.int v, .int u])).length) Slot.unset).toArray = ls at hl ⊢
  have hl : lv_has ls 2 [(0, .int v), (1, .int u)] := hl
  refine lv_iload_n hx hb dX11_isOrder_0 rfl (lv_at hl 0 rfl) ?_
  rcases zi_sw v 0 3 with h1 | h1
  · refine lv_tableOut (tgt := 47) hx hb dX11_isOrder_1 h1 (by decide) ?_
    refine lv_iconst (v := 0) hx hb dX11_isOrder_47 (by decide) ?_
    exact W.zret (v := 0) hx hb hr rfl (fun t ht hW => ⟨0, rfl, ⟨(by first | decide | omega), trivial⟩, ht⟩) (fun _ h => by cases h) dX11_isOrder_48
  · rcases (show v.toInt = 0 ∨ v.toInt = 1 ∨ v.toInt = 2 ∨ v.toInt = 3 by omega) with h1k | h1k | h1k | h1k
    · refine lv_tableIn (tgt := 32) hx hb dX11_isOrder_1 (by omega) (by omega) (by rw [h1k]; rfl) (by decide) ?_
      refine lv_iconst (v := 1) hx hb dX11_isOrder_32 (by decide) ?_
      exact W.zret (v := 1) hx hb hr rfl (fun t ht hW => ⟨1, rfl, ⟨(by first | decide | omega), trivial⟩, ht⟩) (fun _ h => by cases h) dX11_isOrder_33
    · refine lv_tableIn (tgt := 34) hx hb dX11_isOrder_1 (by omega) (by omega) (by rw [h1k]; rfl) (by decide) ?_
      refine lv_iload_n hx hb dX11_isOrder_34 rfl (lv_at hl 1 rfl) ?_
      refine lv_iconst (v := 1) hx hb dX11_isOrder_35 (by decide) ?_
      refine lv_ldc (own := RX11) (v := 200000) hx hb hown (hts (.constant RX11 76 (200000)) wa_232) dX11_isOrder_36 ?_
      refine pz_calli (va_runS (As := [.int u, .int 1, .int 200000]) (rest := []) ⟨hx, hb, hml, hown, hts⟩ (t_X11_within l dC dI _ u (1) (200000) (Z_u) (1) (200000) hZ_u rfl rfl) (va_cwS 3 hts gX11_isOrder_X11_within rfl rfl rfl pd_X11_within ⟨Nat.le_of_ble_eq_true rfl, Nat.le_of_ble_eq_true rfl⟩) ⟨pz_blind, pz_pre pz_P0 (hK.sub (tys' := []) [] rfl) (pz_D0 (A := fun _ => True)) hN⟩ rfl rfl hl.1 rfl (lv_room (Nat.le_of_ble_eq_true rfl)) dX11_isOrder_38 ⟨Nat.le_of_ble_eq_true rfl, Nat.le_of_ble_eq_true rfl⟩) (fun r2 hw3 => ?_)
      obtain ⟨hw3r, hw3p⟩ := hw3
      exact W.zret (v := r2) hx hb hr (zi_narZ (by omega) (by omega)) (fun t ht hW => ⟨r2, rfl, ⟨(by first | decide | omega), trivial⟩, ht⟩) (fun _ h => by cases h) dX11_isOrder_41
    · refine lv_tableIn (tgt := 34) hx hb dX11_isOrder_1 (by omega) (by omega) (by rw [h1k]; rfl) (by decide) ?_
      refine lv_iload_n hx hb dX11_isOrder_34 rfl (lv_at hl 1 rfl) ?_
      refine lv_iconst (v := 1) hx hb dX11_isOrder_35 (by decide) ?_
      refine lv_ldc (own := RX11) (v := 200000) hx hb hown (hts (.constant RX11 76 (200000)) wa_232) dX11_isOrder_36 ?_
      refine pz_calli (va_runS (As := [.int u, .int 1, .int 200000]) (rest := []) ⟨hx, hb, hml, hown, hts⟩ (t_X11_within l dC dI _ u (1) (200000) (Z_u) (1) (200000) hZ_u rfl rfl) (va_cwS 3 hts gX11_isOrder_X11_within rfl rfl rfl pd_X11_within ⟨Nat.le_of_ble_eq_true rfl, Nat.le_of_ble_eq_true rfl⟩) ⟨pz_blind, pz_pre pz_P0 (hK.sub (tys' := []) [] rfl) (pz_D0 (A := fun _ => True)) hN⟩ rfl rfl hl.1 rfl (lv_room (Nat.le_of_ble_eq_true rfl)) dX11_isOrder_38 ⟨Nat.le_of_ble_eq_true rfl, Nat.le_of_ble_eq_true rfl⟩) (fun r4 hw5 => ?_)
      obtain ⟨hw5r, hw5p⟩ := hw5
      exact W.zret (v := r4) hx hb hr (zi_narZ (by omega) (by omega)) (fun t ht hW => ⟨r4, rfl, ⟨(by first | decide | omega), trivial⟩, ht⟩) (fun _ h => by cases h) dX11_isOrder_41
    · refine lv_tableIn (tgt := 42) hx hb dX11_isOrder_1 (by omega) (by omega) (by rw [h1k]; rfl) (by decide) ?_
      refine lv_iload_n hx hb dX11_isOrder_42 rfl (lv_at hl 1 rfl) ?_
      refine pz_calli (va_runS (As := [.int u]) (rest := []) ⟨hx, hb, hml, hown, hts⟩ (t_X11_isHour l dC dI _ u (Z_u) hZ_u) (va_cwS 1 hts gX11_isOrder_X11_isHour rfl rfl rfl pd_X11_isHour ⟨Nat.le_of_ble_eq_true rfl, Nat.le_of_ble_eq_true rfl⟩) ⟨pz_blind, pz_pre pz_P0 (hK.sub (tys' := []) [] rfl) (pz_D0 (A := fun _ => True)) hN⟩ rfl rfl hl.1 rfl (lv_room (Nat.le_of_ble_eq_true rfl)) dX11_isOrder_43 ⟨Nat.le_of_ble_eq_true rfl, Nat.le_of_ble_eq_true rfl⟩) (fun r6 hw7 => ?_)
      obtain ⟨hw7r, hw7p⟩ := hw7
      exact W.zret (v := r6) hx hb hr (zi_narZ (by omega) (by omega)) (fun t ht hW => ⟨r6, rfl, ⟨(by first | decide | omega), trivial⟩, ht⟩) (fun _ h => by cases h) dX11_isOrder_46
set_option maxHeartbeats 4000000 in
set_option maxRecDepth 100000 in
theorem t_X10_hasTerminal (l : Launch) (dC : Nat → ClassId) (dI : Nat → Nat → Nat) (sz : Nat) (Ω : Nat → (Nat → Nat) → va_E → Prop) (κ : Nat → ClassId) (τ ν : Nat → Nat) (ρ : Nat → Nat → Nat) (L : List Nat) (f : Nat → va_E) (hG : tp_G τ ν ρ L) (hT : tp_T Ω κ τ ν ρ f) (h0 : Nat) (v : Int32) (ht_h0 : τ h0 = 11) (h0_x0 : Int32) (h0_x1 : Int32) (h0_x2 : Int32) (h0_x3 : Int32) (h0_x4 : Int32) (h0_x5 : Int32) (h0_x6 : Int32) (hf_h0 : f h0 = .inr (10, [.int h0_x0, .int h0_x1, .int h0_x2, .int h0_x3, .int h0_x4, .int h0_x5, .int h0_x6, .ref (ρ h0 7), .ref (ρ h0 8), .ref (ρ h0 9), .ref (ρ h0 10), .ref (ρ h0 11), .ref (ρ h0 12), .ref (ρ h0 13), .ref (ρ h0 14), .ref (ρ h0 15), .ref (ρ h0 16), .ref (ρ h0 17), .ref (ρ h0 18)])) : Met l yX10_hasTerminal wqX10_hasTerminal ({ frames := 2, cells := 0, slots := 0, locals := 400 }) (va_Pc [.ref h0, .int v] (pz_B dC dI (tp_K κ) (va_pl L f) sz)) (vp_Si (fun r => (0 ≤ r.toInt ∧ r.toInt ≤ 1) ∧ tp_cond r (0 ≤ v.toInt ∧ v.toInt < h0_x4.toInt))) 0 0 (fun _ => False) := by
  refine Met.ofW (cc := cX10_hasTerminal) (maxL := 2) (ret := some .boolean) (by decide) rfl ?_
  intro p e s m args below meth c s₁ B hml hv
  obtain ⟨rfl, hsz, hP, hK, hD0, hN⟩ := hv
  have hx := B.exec
  have hb := B.bytes
  have hr := B.returns
  have hts := fun (w : Cond) (h : w ∈ WALL) => atoms_spec (ws := wqX10_hasTerminal) B.pre w (List.mem_cons_of_mem _ h)
  have hown : s.vm.findClass RX10 = some m.cls := findClass_of_methodNamed B.named
  have hlocks := B.notSynchronized
  subst hsz
  have hD := hD0
  have hS : va_S (fun _ => True) s.heap s.heap [] := va_S.rf
  have hl := lv_entry ([.ref h0, .int v]) (n := 2) (Nat.le_of_ble_eq_true rfl)
  rw [lg_entry_eq]
  generalize (lg_sl ([.ref h0, .int v]) ++ List.replicate (2 - (lg_sl ([.ref h0, .int v])).length) Slot.unset).toArray = ls at hl ⊢
  have hl : lv_has ls 2 [(0, .ref h0), (1, .int v)] := hl
  refine tpk_11 hT ht_h0 (fun h0z_x0 h0z_x1 h0z_x2 h0z_x3 h0z_x4 h0z_x5 h0z_x6 hfz_h0 rzh0_0 rzh0_1 rzh0_2 rzh0_3 => ?_)
  obtain ⟨rfl, rfl, rfl, rfl, rfl, rfl, rfl⟩ := tp_same11 hf_h0 hfz_h0
  refine lv_iload_n hx hb dX10_hasTerminal_0 rfl (lv_at hl 1 rfl) ?_
  refine lv_if_lt (tgt := 16) hx hb dX10_hasTerminal_1 (by decide) (fun c1 => ?_) (fun c1 => ?_)
  · have ic1 : v.toInt < 0 := zi_lt rfl rfl c1
    refine lv_iconst (v := 0) hx hb dX10_hasTerminal_16 (by decide) ?_
    exact W.zret (v := 0) hx hb hr rfl (fun t ht hW => ⟨0, rfl, ⟨(by first | decide | omega), (Or.inr ⟨rfl, by omega⟩)⟩, ht⟩) (fun _ h => by cases h) dX10_hasTerminal_17
  · have ic1 : v.toInt ≥ 0 := zi_ltf rfl rfl c1
    refine lv_iload_n hx hb dX10_hasTerminal_4 rfl (lv_at hl 1 rfl) ?_
    refine lv_aload_n hx hb dX10_hasTerminal_5 rfl (lv_at hl 0 rfl) ?_
    refine tpk_pos (tp_in hG ht_h0 (by decide)) hf_h0 (fun q2 eq2 => ?_)
    refine va_get (D := (dC, dI)) (ci := 10) (v := .int h0_x4) (C := RX10) (T := TX10) (N := 19) hx hb hts hfX10 hown hK hP q2 eq2 rfl 4 (by decide) (hts (.fieldLink RX10 78 "ColdShips$World" "terminalCount" "I") wa_237) (fun _ h9 => h9) rfl dX10_hasTerminal_6 ?_
    refine lv_icmp_ge (tgt := 16) hx hb dX10_hasTerminal_9 (by decide) (fun c3 => ?_) (fun c3 => ?_)
    · have ic3 : v.toInt ≥ h0_x4.toInt := zi_ge rfl rfl c3
      refine lv_iconst (v := 0) hx hb dX10_hasTerminal_16 (by decide) ?_
      exact W.zret (v := 0) hx hb hr rfl (fun t ht hW => ⟨0, rfl, ⟨(by first | decide | omega), (Or.inr ⟨rfl, by omega⟩)⟩, ht⟩) (fun _ h => by cases h) dX10_hasTerminal_17
    · have ic3 : v.toInt < h0_x4.toInt := zi_gef rfl rfl c3
      refine lv_iconst (v := 1) hx hb dX10_hasTerminal_12 (by decide) ?_
      refine lv_goto (tgt := 17) hx hb dX10_hasTerminal_13 (by decide) ?_
      exact W.zret (v := 1) hx hb hr rfl (fun t ht hW => ⟨1, rfl, ⟨(by first | decide | omega), (Or.inl ⟨rfl, by omega⟩)⟩, ht⟩) (fun _ h => by cases h) dX10_hasTerminal_17
set_option maxHeartbeats 4000000 in
set_option maxRecDepth 100000 in
theorem t_X10_hasShip (l : Launch) (dC : Nat → ClassId) (dI : Nat → Nat → Nat) (sz : Nat) (Ω : Nat → (Nat → Nat) → va_E → Prop) (κ : Nat → ClassId) (τ ν : Nat → Nat) (ρ : Nat → Nat → Nat) (L : List Nat) (f : Nat → va_E) (hG : tp_G τ ν ρ L) (hT : tp_T Ω κ τ ν ρ f) (h0 : Nat) (v : Int32) (ht_h0 : τ h0 = 11) (h0_x0 : Int32) (h0_x1 : Int32) (h0_x2 : Int32) (h0_x3 : Int32) (h0_x4 : Int32) (h0_x5 : Int32) (h0_x6 : Int32) (hf_h0 : f h0 = .inr (10, [.int h0_x0, .int h0_x1, .int h0_x2, .int h0_x3, .int h0_x4, .int h0_x5, .int h0_x6, .ref (ρ h0 7), .ref (ρ h0 8), .ref (ρ h0 9), .ref (ρ h0 10), .ref (ρ h0 11), .ref (ρ h0 12), .ref (ρ h0 13), .ref (ρ h0 14), .ref (ρ h0 15), .ref (ρ h0 16), .ref (ρ h0 17), .ref (ρ h0 18)])) : Met l yX10_hasShip wqX10_hasShip ({ frames := 2, cells := 0, slots := 0, locals := 400 }) (va_Pc [.ref h0, .int v] (pz_B dC dI (tp_K κ) (va_pl L f) sz)) (vp_Si (fun r => (0 ≤ r.toInt ∧ r.toInt ≤ 1) ∧ tp_cond r (0 ≤ v.toInt ∧ v.toInt < h0_x5.toInt))) 0 0 (fun _ => False) := by
  refine Met.ofW (cc := cX10_hasShip) (maxL := 2) (ret := some .boolean) (by decide) rfl ?_
  intro p e s m args below meth c s₁ B hml hv
  obtain ⟨rfl, hsz, hP, hK, hD0, hN⟩ := hv
  have hx := B.exec
  have hb := B.bytes
  have hr := B.returns
  have hts := fun (w : Cond) (h : w ∈ WALL) => atoms_spec (ws := wqX10_hasShip) B.pre w (List.mem_cons_of_mem _ h)
  have hown : s.vm.findClass RX10 = some m.cls := findClass_of_methodNamed B.named
  have hlocks := B.notSynchronized
  subst hsz
  have hD := hD0
  have hS : va_S (fun _ => True) s.heap s.heap [] := va_S.rf
  have hl := lv_entry ([.ref h0, .int v]) (n := 2) (Nat.le_of_ble_eq_true rfl)
  rw [lg_entry_eq]
  generalize (lg_sl ([.ref h0, .int v]) ++ List.replicate (2 - (lg_sl ([.ref h0, .int v])).length) Slot.unset).toArray = ls at hl ⊢
  have hl : lv_has ls 2 [(0, .ref h0), (1, .int v)] := hl
  refine tpk_11 hT ht_h0 (fun h0z_x0 h0z_x1 h0z_x2 h0z_x3 h0z_x4 h0z_x5 h0z_x6 hfz_h0 rzh0_0 rzh0_1 rzh0_2 rzh0_3 => ?_)
  obtain ⟨rfl, rfl, rfl, rfl, rfl, rfl, rfl⟩ := tp_same11 hf_h0 hfz_h0
  refine lv_iload_n hx hb dX10_hasShip_0 rfl (lv_at hl 1 rfl) ?_
  refine lv_if_lt (tgt := 16) hx hb dX10_hasShip_1 (by decide) (fun c1 => ?_) (fun c1 => ?_)
  · have ic1 : v.toInt < 0 := zi_lt rfl rfl c1
    refine lv_iconst (v := 0) hx hb dX10_hasShip_16 (by decide) ?_
    exact W.zret (v := 0) hx hb hr rfl (fun t ht hW => ⟨0, rfl, ⟨(by first | decide | omega), (Or.inr ⟨rfl, by omega⟩)⟩, ht⟩) (fun _ h => by cases h) dX10_hasShip_17
  · have ic1 : v.toInt ≥ 0 := zi_ltf rfl rfl c1
    refine lv_iload_n hx hb dX10_hasShip_4 rfl (lv_at hl 1 rfl) ?_
    refine lv_aload_n hx hb dX10_hasShip_5 rfl (lv_at hl 0 rfl) ?_
    refine tpk_pos (tp_in hG ht_h0 (by decide)) hf_h0 (fun q2 eq2 => ?_)
    refine va_get (D := (dC, dI)) (ci := 10) (v := .int h0_x5) (C := RX10) (T := TX10) (N := 19) hx hb hts hfX10 hown hK hP q2 eq2 rfl 5 (by decide) (hts (.fieldLink RX10 81 "ColdShips$World" "shipCount" "I") wa_330) (fun _ h9 => h9) rfl dX10_hasShip_6 ?_
    refine lv_icmp_ge (tgt := 16) hx hb dX10_hasShip_9 (by decide) (fun c3 => ?_) (fun c3 => ?_)
    · have ic3 : v.toInt ≥ h0_x5.toInt := zi_ge rfl rfl c3
      refine lv_iconst (v := 0) hx hb dX10_hasShip_16 (by decide) ?_
      exact W.zret (v := 0) hx hb hr rfl (fun t ht hW => ⟨0, rfl, ⟨(by first | decide | omega), (Or.inr ⟨rfl, by omega⟩)⟩, ht⟩) (fun _ h => by cases h) dX10_hasShip_17
    · have ic3 : v.toInt < h0_x5.toInt := zi_gef rfl rfl c3
      refine lv_iconst (v := 1) hx hb dX10_hasShip_12 (by decide) ?_
      refine lv_goto (tgt := 17) hx hb dX10_hasShip_13 (by decide) ?_
      exact W.zret (v := 1) hx hb hr rfl (fun t ht hW => ⟨1, rfl, ⟨(by first | decide | omega), (Or.inl ⟨rfl, by omega⟩)⟩, ht⟩) (fun _ h => by cases h) dX10_hasShip_17
set_option maxHeartbeats 4000000 in
set_option maxRecDepth 100000 in
theorem t_X10_hasContract (l : Launch) (dC : Nat → ClassId) (dI : Nat → Nat → Nat) (sz : Nat) (Ω : Nat → (Nat → Nat) → va_E → Prop) (κ : Nat → ClassId) (τ ν : Nat → Nat) (ρ : Nat → Nat → Nat) (L : List Nat) (f : Nat → va_E) (hG : tp_G τ ν ρ L) (hT : tp_T Ω κ τ ν ρ f) (h0 : Nat) (v : Int32) (ht_h0 : τ h0 = 11) (h0_x0 : Int32) (h0_x1 : Int32) (h0_x2 : Int32) (h0_x3 : Int32) (h0_x4 : Int32) (h0_x5 : Int32) (h0_x6 : Int32) (hf_h0 : f h0 = .inr (10, [.int h0_x0, .int h0_x1, .int h0_x2, .int h0_x3, .int h0_x4, .int h0_x5, .int h0_x6, .ref (ρ h0 7), .ref (ρ h0 8), .ref (ρ h0 9), .ref (ρ h0 10), .ref (ρ h0 11), .ref (ρ h0 12), .ref (ρ h0 13), .ref (ρ h0 14), .ref (ρ h0 15), .ref (ρ h0 16), .ref (ρ h0 17), .ref (ρ h0 18)])) (ρ_h0_11_g : Nat → Option Nat) (hf_ρ_h0_11 : f (ρ h0 11) = .inl (κ 6, 12, .inr (.inr (.inr (.inr ρ_h0_11_g))))) : Met l yX10_hasContract wqX10_hasContract ({ frames := 2, cells := 0, slots := 0, locals := 400 }) (va_Pc [.ref h0, .int v] (pz_B dC dI (tp_K κ) (va_pl L f) sz)) (vp_Si (fun r => (0 ≤ r.toInt ∧ r.toInt ≤ 1) ∧ (r.toInt ≠ 0 → ((0 ≤ v.toInt ∧ v.toInt ≤ 11) ∧ ∃ b : Nat, ρ_h0_11_g v.toNatClampNeg = some b ∧ τ b = 1)))) 0 0 (fun _ => False) := by
  refine Met.ofW (cc := cX10_hasContract) (maxL := 2) (ret := some .boolean) (by decide) rfl ?_
  intro p e s m args below meth c s₁ B hml hv
  obtain ⟨rfl, hsz, hP, hK, hD0, hN⟩ := hv
  have hx := B.exec
  have hb := B.bytes
  have hr := B.returns
  have hts := fun (w : Cond) (h : w ∈ WALL) => atoms_spec (ws := wqX10_hasContract) B.pre w (List.mem_cons_of_mem _ h)
  have hown : s.vm.findClass RX10 = some m.cls := findClass_of_methodNamed B.named
  have hlocks := B.notSynchronized
  subst hsz
  have hD := hD0
  have hS : va_S (fun _ => True) s.heap s.heap [] := va_S.rf
  have hl := lv_entry ([.ref h0, .int v]) (n := 2) (Nat.le_of_ble_eq_true rfl)
  rw [lg_entry_eq]
  generalize (lg_sl ([.ref h0, .int v]) ++ List.replicate (2 - (lg_sl ([.ref h0, .int v])).length) Slot.unset).toArray = ls at hl ⊢
  have hl : lv_has ls 2 [(0, .ref h0), (1, .int v)] := hl
  refine tpk_11 hT ht_h0 (fun h0z_x0 h0z_x1 h0z_x2 h0z_x3 h0z_x4 h0z_x5 h0z_x6 hfz_h0 rzh0_0 rzh0_1 rzh0_2 rzh0_3 => ?_)
  obtain ⟨rfl, rfl, rfl, rfl, rfl, rfl, rfl⟩ := tp_same11 hf_h0 hfz_h0
  refine tgk_11 hG ht_h0 (fun y1 y1n y2 y2n y3 y4 y5 y6 y7 y8 y9 y9w y9m y10 y10w y10m y11 y11w y11m y12 y12w y12m => ?_)
  refine tpk_26 hT y5 (fun gz_ρ_h0_11 hfz_ρ_h0_11 hf_ρ_h0_11e => ?_)
  obtain rfl := tp_sameq hf_ρ_h0_11 hfz_ρ_h0_11
  refine lv_iload_n hx hb dX10_hasContract_0 rfl (lv_at hl 1 rfl) ?_
  refine lv_if_lt (tgt := 25) hx hb dX10_hasContract_1 (by decide) (fun c13 => ?_) (fun c13 => ?_)
  · have ic13 : v.toInt < 0 := zi_lt rfl rfl c13
    refine lv_iconst (v := 0) hx hb dX10_hasContract_25 (by decide) ?_
    exact W.zret (v := 0) hx hb hr rfl (fun t ht hW => ⟨0, rfl, ⟨(by first | decide | omega), (fun q => absurd rfl q)⟩, ht⟩) (fun _ h => by cases h) dX10_hasContract_26
  · have ic13 : v.toInt ≥ 0 := zi_ltf rfl rfl c13
    refine lv_iload_n hx hb dX10_hasContract_4 rfl (lv_at hl 1 rfl) ?_
    refine lv_aload_n hx hb dX10_hasContract_5 rfl (lv_at hl 0 rfl) ?_
    refine tpk_pos (tp_in hG ht_h0 (by decide)) hf_h0 (fun q14 eq14 => ?_)
    refine va_get (D := (dC, dI)) (ci := 10) (v := .int h0_x6) (C := RX10) (T := TX10) (N := 19) hx hb hts hfX10 hown hK hP q14 eq14 rfl 6 (by decide) (hts (.fieldLink RX10 84 "ColdShips$World" "contractCount" "I") wa_1129) (fun _ h9 => h9) rfl dX10_hasContract_6 ?_
    refine lv_icmp_ge (tgt := 25) hx hb dX10_hasContract_9 (by decide) (fun c15 => ?_) (fun c15 => ?_)
    · have ic15 : v.toInt ≥ h0_x6.toInt := zi_ge rfl rfl c15
      refine lv_iconst (v := 0) hx hb dX10_hasContract_25 (by decide) ?_
      exact W.zret (v := 0) hx hb hr rfl (fun t ht hW => ⟨0, rfl, ⟨(by first | decide | omega), (fun q => absurd rfl q)⟩, ht⟩) (fun _ h => by cases h) dX10_hasContract_26
    · have ic15 : v.toInt < h0_x6.toInt := zi_gef rfl rfl c15
      refine lv_aload_n hx hb dX10_hasContract_12 rfl (lv_at hl 0 rfl) ?_
      refine va_get (D := (dC, dI)) (ci := 10) (v := .ref (ρ h0 11)) (C := RX10) (T := TX10) (N := 19) hx hb hts hfX10 hown hK hP q14 eq14 rfl 11 (by decide) (hts (.fieldLink RX10 39 "ColdShips$World" "contracts" "[LColdShips$Contract;") wa_47) (fun _ h9 => h9) rfl dX10_hasContract_13 ?_
      refine lv_iload_n hx hb dX10_hasContract_16 rfl (lv_at hl 1 rfl) ?_
      refine tpk_pos (tp_in hG y5 (by decide)) hf_ρ_h0_11 (fun q16 eq16 => ?_)
      refine va_aldq hx hb hK hP q16 6 eq16 rfl (vp_in_iff.mpr ⟨by omega, by omega⟩) dX10_hasContract_17 ?_
      have hq17 := hf_ρ_h0_11e v.toNatClampNeg (zi_cl (vp_in_iff.mpr ⟨by omega, by omega⟩))
      rcases hq17 with hq19 | ⟨b18, hq19, hq19t⟩
      · rw [hq19]
        refine lv_ifnullN (tgt := 25) hx hb dX10_hasContract_18 (by decide) ?_
        refine lv_iconst (v := 0) hx hb dX10_hasContract_25 (by decide) ?_
        exact W.zret (v := 0) hx hb hr rfl (fun t ht hW => ⟨0, rfl, ⟨(by first | decide | omega), (fun q => absurd rfl q)⟩, ht⟩) (fun _ h => by cases h) dX10_hasContract_26
      · rw [hq19]
        refine lv_ifnull hx hb dX10_hasContract_18 ?_
        refine lv_iconst (v := 1) hx hb dX10_hasContract_21 (by decide) ?_
        refine lv_goto (tgt := 26) hx hb dX10_hasContract_22 (by decide) ?_
        exact W.zret (v := 1) hx hb hr rfl (fun t ht hW => ⟨1, rfl, ⟨(by first | decide | omega), (fun _ => ⟨by omega, b18, by first | exact hq19 | rfl, hq19t⟩)⟩, ht⟩) (fun _ h => by cases h) dX10_hasContract_26
set_option maxHeartbeats 4000000 in
set_option maxRecDepth 100000 in
theorem t_X10_hoursBetween (l : Launch) (dC : Nat → ClassId) (dI : Nat → Nat → Nat) (sz : Nat) (Ω : Nat → (Nat → Nat) → va_E → Prop) (κ : Nat → ClassId) (τ ν : Nat → Nat) (ρ : Nat → Nat → Nat) (L : List Nat) (f : Nat → va_E) (hG : tp_G τ ν ρ L) (hT : tp_T Ω κ τ ν ρ f) (h0 : Nat) (v : Int32) (u : Int32) (ht_h0 : τ h0 = 11) (h0_x0 : Int32) (h0_x1 : Int32) (h0_x2 : Int32) (h0_x3 : Int32) (h0_x4 : Int32) (h0_x5 : Int32) (h0_x6 : Int32) (hf_h0 : f h0 = .inr (10, [.int h0_x0, .int h0_x1, .int h0_x2, .int h0_x3, .int h0_x4, .int h0_x5, .int h0_x6, .ref (ρ h0 7), .ref (ρ h0 8), .ref (ρ h0 9), .ref (ρ h0 10), .ref (ρ h0 11), .ref (ρ h0 12), .ref (ρ h0 13), .ref (ρ h0 14), .ref (ρ h0 15), .ref (ρ h0 16), .ref (ρ h0 17), .ref (ρ h0 18)])) : Met l yX10_hoursBetween wqX10_hoursBetween ({ frames := 3, cells := 0, slots := 0, locals := 800 }) (va_Pc [.ref h0, .int v, .int u] (pz_B dC dI (tp_K κ) (va_pl L f) sz)) (vp_Si (fun r => ((-1) ≤ r.toInt) ∧ (r.toInt ≠ -1 → 0 ≤ v.toInt ∧ v.toInt ≤ 5 ∧ 0 ≤ u.toInt ∧ u.toInt ≤ 5))) 0 0 (fun _ => False) := by
  refine Met.ofW (cc := cX10_hoursBetween) (maxL := 4) (ret := some .int) (by decide) rfl ?_
  intro p e s m args below meth c s₁ B hml hv
  obtain ⟨rfl, hsz, hP, hK, hD0, hN⟩ := hv
  have hx := B.exec
  have hb := B.bytes
  have hr := B.returns
  have hts := fun (w : Cond) (h : w ∈ WALL) => atoms_spec (ws := wqX10_hoursBetween) B.pre w (List.mem_cons_of_mem _ h)
  have hown : s.vm.findClass RX10 = some m.cls := findClass_of_methodNamed B.named
  have hlocks := B.notSynchronized
  subst hsz
  have hD := hD0
  have hS : va_S (fun _ => True) s.heap s.heap [] := va_S.rf
  have hl := lv_entry ([.ref h0, .int v, .int u]) (n := 4) (Nat.le_of_ble_eq_true rfl)
  rw [lg_entry_eq]
  generalize (lg_sl ([.ref h0, .int v, .int u]) ++ List.replicate (4 - (lg_sl ([.ref h0, .int v, .int u])).length) Slot.unset).toArray = ls at hl ⊢
  have hl : lv_has ls 4 [(0, .ref h0), (1, .int v), (2, .int u)] := hl
  refine tpk_11 hT ht_h0 (fun h0z_x0 h0z_x1 h0z_x2 h0z_x3 h0z_x4 h0z_x5 h0z_x6 hfz_h0 rzh0_0 rzh0_1 rzh0_2 rzh0_3 => ?_)
  obtain ⟨rfl, rfl, rfl, rfl, rfl, rfl, rfl⟩ := tp_same11 hf_h0 hfz_h0
  refine lv_aload_n hx hb dX10_hoursBetween_0 rfl (lv_at hl 0 rfl) ?_
  refine lv_iload_n hx hb dX10_hoursBetween_1 rfl (lv_at hl 1 rfl) ?_
  refine tpk_pos (tp_in hG ht_h0 (by decide)) hf_h0 (fun q1 eq1 => ?_)
  refine pz_calli (va_runV (As := [.int v]) (rest := []) ⟨hx, hb, hml, hown, hts⟩ (t_X10_hasTerminal l dC dI _ Ω κ τ ν ρ L f hG hT h0 v ht_h0 h0_x0 h0_x1 h0_x2 h0_x3 h0_x4 h0_x5 h0_x6 hf_h0) (cwV 1 hts gX10_hoursBetween_X10_hasTerminal rfl rfl rfl ⟨rfl, pd_X10_hasTerminal⟩ ⟨Nat.le_of_ble_eq_true rfl, Nat.le_of_ble_eq_true rfl⟩) ⟨pz_blind, va_recv hK hP (ci := 10) (q0 := q1) rfl eq1, pz_pre hP hK hD hN⟩ rfl rfl hl.1 rfl (lv_room (Nat.le_of_ble_eq_true rfl)) dX10_hoursBetween_2 ⟨Nat.le_of_ble_eq_true rfl, Nat.le_of_ble_eq_true rfl⟩) (fun r2 hw3 => ?_)
  obtain ⟨hw3r, hw3p⟩ := hw3
  refine lv_if_eq (tgt := 16) hx hb dX10_hoursBetween_5 (by decide) (fun c4 => ?_) (fun c4 => ?_)
  · have ic4 : r2.toInt = 0 := zi_eq rfl rfl c4
    refine lv_iconst (v := (-1)) hx hb dX10_hoursBetween_16 (by decide) ?_
    exact W.iret (v := (-1)) hx hb hr (fun t ht hW => ⟨(-1), rfl, ⟨(by first | decide | omega), (fun q => absurd rfl q)⟩, ht⟩) (fun _ h => by cases h) dX10_hoursBetween_17
  · have ic4 : r2.toInt ≠ 0 := zi_eqf rfl rfl c4
    have p5 : 0 ≤ v.toInt ∧ v.toInt < h0_x4.toInt := (tp_cond.yes hw3p) (by omega)
    refine lv_aload_n hx hb dX10_hoursBetween_8 rfl (lv_at hl 0 rfl) ?_
    refine lv_iload_n hx hb dX10_hoursBetween_9 rfl (lv_at hl 2 rfl) ?_
    refine pz_calli (va_runV (As := [.int u]) (rest := []) ⟨hx, hb, hml, hown, hts⟩ (t_X10_hasTerminal l dC dI _ Ω κ τ ν ρ L f hG hT h0 u ht_h0 h0_x0 h0_x1 h0_x2 h0_x3 h0_x4 h0_x5 h0_x6 hf_h0) (cwV 1 hts gX10_hoursBetween_X10_hasTerminal rfl rfl rfl ⟨rfl, pd_X10_hasTerminal⟩ ⟨Nat.le_of_ble_eq_true rfl, Nat.le_of_ble_eq_true rfl⟩) ⟨pz_blind, va_recv hK hP (ci := 10) (q0 := q1) rfl eq1, pz_pre hP hK hD hN⟩ rfl rfl hl.1 rfl (lv_room (Nat.le_of_ble_eq_true rfl)) dX10_hoursBetween_10 ⟨Nat.le_of_ble_eq_true rfl, Nat.le_of_ble_eq_true rfl⟩) (fun r6 hw7 => ?_)
    obtain ⟨hw7r, hw7p⟩ := hw7
    refine lv_if_ne (tgt := 18) hx hb dX10_hoursBetween_13 (by decide) (fun c8 => ?_) (fun c8 => ?_)
    · have ic8 : r6.toInt ≠ 0 := zi_ne rfl rfl c8
      have p9 : 0 ≤ u.toInt ∧ u.toInt < h0_x4.toInt := (tp_cond.yes hw7p) (by omega)
      refine lv_iload_n hx hb dX10_hoursBetween_18 rfl (lv_at hl 1 rfl) ?_
      refine lv_iload_n hx hb dX10_hoursBetween_19 rfl (lv_at hl 2 rfl) ?_
      refine lv_icmp_ne (tgt := 25) hx hb dX10_hoursBetween_20 (by decide) (fun c10 => ?_) (fun c10 => ?_)
      · have ic10 : v.toInt ≠ u.toInt := zi_ne rfl rfl c10
        refine lv_aload_n hx hb dX10_hoursBetween_25 rfl (lv_at hl 0 rfl) ?_
        refine va_get (D := (dC, dI)) (ci := 10) (v := .ref (ρ h0 9)) (C := RX10) (T := TX10) (N := 19) hx hb hts hfX10 hown hK hP q1 eq1 rfl 9 (by decide) (hts (.fieldLink RX10 27 "ColdShips$World" "terminals" "[LColdShips$Terminal;") wa_43) (fun _ h9 => h9) rfl dX10_hoursBetween_26 ?_
        refine lv_iload_n hx hb dX10_hoursBetween_29 rfl (lv_at hl 1 rfl) ?_
        refine tgk_11 hG ht_h0 (fun y11 y11n y12 y12n y13 y14 y15 y16 y17 y18 y19 y19w y19m y20 y20w y20m y21 y21w y21m y22 y22w y22m => ?_)
        refine tpk_24 hT y13 (fun g24 hf_o23 hf_o23e => ?_)
        refine tpk_pos (tp_in hG y13 (by decide)) hf_o23 (fun q25 eq25 => ?_)
        refine va_aldq hx hb hK hP q25 4 eq25 rfl (vp_in_iff.mpr ⟨by omega, by omega⟩) dX10_hoursBetween_30 ?_
        obtain ⟨b26, hb27⟩ : ∃ b : Nat, b = ρ (ρ h0 9) v.toNatClampNeg := ⟨_, rfl⟩
        have hb27t : τ b26 = 9 := by rw [hb27]; exact tpg_24 hG y13 _ (zi_cl (vp_in_iff.mpr ⟨by omega, by omega⟩))
        have hb27g : g24 v.toNatClampNeg = some b26 := by rw [hb27]; exact hf_o23e _ (zi_cl (vp_in_iff.mpr ⟨by omega, by omega⟩))
        refine W.eq (g2 := F0 m 31 ls (.ref b26 :: [])) (congrArg (fun o => F0 m 31 ls (va_rf o :: [])) hb27g) ?_
        refine tgk_9 hG hb27t (fun y28 y28n y29 y29n => ?_)
        refine tpk_9 hT hb27t (fun o30_x0 o30_x1 o30_x2 o30_x3 o30_x4 hf_o30 ro30_0 => ?_)
        refine tpk_pos (tp_in hG hb27t (by decide)) hf_o30 (fun q31 eq31 => ?_)
        refine va_getN (D := (dC, dI)) (ci := 8) (v := .ref (ρ b26 5)) (C := RX8) (T := TX8) (N := 7) hx hb hts hfX8 hown hK hP q31 eq31 rfl 5 (by decide) (va_Nw.use rfl (hN.1 (.fieldLinkNest RX10 97 "ColdShips$Terminal" "wayHours" "[I" "ColdShips") nzw_12)) (fun _ h9 => h9) rfl dX10_hoursBetween_31 ?_
        refine lv_iload_n hx hb dX10_hoursBetween_34 rfl (lv_at hl 2 rfl) ?_
        refine tpk_20 hT y28 y28n (fun g33 hf_o32 => ?_)
        refine tpk_pos (tp_in hG y28 (by decide)) hf_o32 (fun q34 eq34 => ?_)
        refine va_iald hx hb hK hP q34 0 eq34 rfl (vp_in_iff.mpr ⟨by omega, by omega⟩) dX10_hoursBetween_35 ?_
        refine lv_topi (fun z35 ez35 => ?_)
        refine lv_istore_n (lv' := [(3, .int z35), (0, .ref h0), (1, .int v), (2, .int u)]) hx hb dX10_hoursBetween_36 rfl hl (by decide) rfl (fun ls hl => ?_)
        refine lv_iload_n hx hb dX10_hoursBetween_37 rfl (lv_at hl 0 rfl) ?_
        refine lv_if_le (tgt := 45) hx hb dX10_hoursBetween_38 (by decide) (fun c36 => ?_) (fun c36 => ?_)
        · have ic36 : z35.toInt ≤ 0 := zi_le rfl rfl c36
          refine lv_iconst (v := (-1)) hx hb dX10_hoursBetween_45 (by decide) ?_
          exact W.iret (v := (-1)) hx hb hr (fun t ht hW => ⟨(-1), rfl, ⟨(by first | decide | omega), (fun q => absurd rfl q)⟩, ht⟩) (fun _ h => by cases h) dX10_hoursBetween_46
        · have ic36 : z35.toInt > 0 := zi_lef rfl rfl c36
          refine lv_iload_n hx hb dX10_hoursBetween_41 rfl (lv_at hl 0 rfl) ?_
          refine lv_goto (tgt := 46) hx hb dX10_hoursBetween_42 (by decide) ?_
          exact W.iret (v := z35) hx hb hr (fun t ht hW => ⟨z35, rfl, ⟨(by first | decide | omega), (fun q => by omega)⟩, ht⟩) (fun _ h => by cases h) dX10_hoursBetween_46
      · have ic10 : v.toInt = u.toInt := zi_nef rfl rfl c10
        refine lv_iconst (v := 0) hx hb dX10_hoursBetween_23 (by decide) ?_
        exact W.iret (v := 0) hx hb hr (fun t ht hW => ⟨0, rfl, ⟨(by first | decide | omega), (fun _ => by omega)⟩, ht⟩) (fun _ h => by cases h) dX10_hoursBetween_24
    · have ic8 : r6.toInt = 0 := zi_nef rfl rfl c8
      refine lv_iconst (v := (-1)) hx hb dX10_hoursBetween_16 (by decide) ?_
      exact W.iret (v := (-1)) hx hb hr (fun t ht hW => ⟨(-1), rfl, ⟨(by first | decide | omega), (fun q => absurd rfl q)⟩, ht⟩) (fun _ h => by cases h) dX10_hoursBetween_17
set_option maxHeartbeats 4000000 in
set_option maxRecDepth 100000 in
theorem t_X10_isSettled (l : Launch) (dC : Nat → ClassId) (dI : Nat → Nat → Nat) (sz : Nat) (Ω : Nat → (Nat → Nat) → va_E → Prop) (κ : Nat → ClassId) (τ ν : Nat → Nat) (ρ : Nat → Nat → Nat) (L : List Nat) (f : Nat → va_E) (hG : tp_G τ ν ρ L) (hT : tp_T Ω κ τ ν ρ f) (h0 : Nat) (v : Int32) (ht_h0 : τ h0 = 11) : Met l yX10_isSettled wqX10_isSettled ({ frames := 3, cells := 0, slots := 0, locals := 800 }) (va_Pc [.ref h0, .int v] (pz_B dC dI (tp_K κ) (va_pl L f) sz)) (vp_Si (fun r => (0 ≤ r.toInt ∧ r.toInt ≤ 1) ∧ True)) 0 0 (fun _ => False) := by
  refine Met.ofW (cc := cX10_isSettled) (maxL := 2) (ret := some .boolean) (by decide) rfl ?_
  intro p e s m args below meth c s₁ B hml hv
  obtain ⟨rfl, hsz, hP, hK, hD0, hN⟩ := hv
  have hx := B.exec
  have hb := B.bytes
  have hr := B.returns
  have hts := fun (w : Cond) (h : w ∈ WALL) => atoms_spec (ws := wqX10_isSettled) B.pre w (List.mem_cons_of_mem _ h)
  have hown : s.vm.findClass RX10 = some m.cls := findClass_of_methodNamed B.named
  have hlocks := B.notSynchronized
  subst hsz
  have hD := hD0
  have hS : va_S (fun _ => True) s.heap s.heap [] := va_S.rf
  have hl := lv_entry ([.ref h0, .int v]) (n := 2) (Nat.le_of_ble_eq_true rfl)
  rw [lg_entry_eq]
  generalize (lg_sl ([.ref h0, .int v]) ++ List.replicate (2 - (lg_sl ([.ref h0, .int v])).length) Slot.unset).toArray = ls at hl ⊢
  have hl : lv_has ls 2 [(0, .ref h0), (1, .int v)] := hl
  refine lv_aload_n hx hb dX10_isSettled_0 rfl (lv_at hl 0 rfl) ?_
  refine tgk_11 hG ht_h0 (fun y1 y1n y2 y2n y3 y4 y5 y6 y7 y8 y9 y9w y9m y10 y10w y10m y11 y11w y11m y12 y12w y12m => ?_)
  refine tpk_11 hT ht_h0 (fun o13_x0 o13_x1 o13_x2 o13_x3 o13_x4 o13_x5 o13_x6 hf_o13 ro13_0 ro13_1 ro13_2 ro13_3 => ?_)
  refine tpk_pos (tp_in hG ht_h0 (by decide)) hf_o13 (fun q14 eq14 => ?_)
  refine va_get (D := (dC, dI)) (ci := 10) (v := .ref (ρ h0 17)) (C := RX10) (T := TX10) (N := 19) hx hb hts hfX10 hown hK hP q14 eq14 rfl 17 (by decide) (hts (.fieldLink RX10 70 "ColdShips$World" "landings" "LColdShips$Rows;") wa_59) (fun _ h9 => h9) rfl dX10_isSettled_1 ?_
  refine lv_iload_n hx hb dX10_isSettled_4 rfl (lv_at hl 1 rfl) ?_
  refine lv_bipush (v := 12) hx hb dX10_isSettled_5 (by decide) ?_
  refine tgk_5 hG y11 (fun y15 y15n y16a y16b y16c => ?_)
  refine tpk_5 hT y11 (fun o17_x0 o17_x2 hf_o17 ro17_0 ro17_1 => ?_)
  refine tpk_pos (tp_in hG y11 (by decide)) hf_o17 (fun q18 eq18 => ?_)
  refine pz_calll (va_runV (As := [.int v, .int 12]) (rest := []) ⟨hx, hb, hml, hown, hts⟩ (t_X4_at l dC dI _ Ω κ τ ν ρ L f hG hT (ρ h0 17) v (12) y11 o17_x0 o17_x2 hf_o17) (cwV 2 hts gX10_isSettled_X4_at rfl rfl rfl ⟨rfl, pd_X4_at⟩ ⟨Nat.le_of_ble_eq_true rfl, Nat.le_of_ble_eq_true rfl⟩) ⟨pz_blind, va_recv hK hP (ci := 4) (q0 := q18) rfl eq18, pz_pre hP hK hD hN⟩ rfl rfl hl.1 rfl (lv_room (Nat.le_of_ble_eq_true rfl)) dX10_isSettled_7 ⟨Nat.le_of_ble_eq_true rfl, Nat.le_of_ble_eq_true rfl⟩) (fun r19 hw20 => ?_)
  obtain ⟨hw20r, hw20p⟩ := hw20
  refine lv_ldc2 (own := RX10) (v := (-1)) hx hb hown (hts (.constantLong RX10 91 (-1)) wa_695) dX10_isSettled_10 ?_
  refine W.lcmp hx hb dX10_isSettled_13 ?_
  refine lv_if_eq (tgt := 21) hx hb dX10_isSettled_14 (by decide) (fun c21 => ?_) (fun c21 => ?_)
  · have ic21 : r19.toInt = (-1) := zl_eq rfl rfl c21
    refine lv_iconst (v := 0) hx hb dX10_isSettled_21 (by decide) ?_
    exact W.zret (v := 0) hx hb hr rfl (fun t ht hW => ⟨0, rfl, ⟨(by first | decide | omega), trivial⟩, ht⟩) (fun _ h => by cases h) dX10_isSettled_22
  · have ic21 : r19.toInt ≠ (-1) := zl_eqf rfl rfl c21
    refine lv_iconst (v := 1) hx hb dX10_isSettled_17 (by decide) ?_
    refine lv_goto (tgt := 22) hx hb dX10_isSettled_18 (by decide) ?_
    exact W.zret (v := 1) hx hb hr rfl (fun t ht hW => ⟨1, rfl, ⟨(by first | decide | omega), trivial⟩, ht⟩) (fun _ h => by cases h) dX10_isSettled_22
set_option maxHeartbeats 4000000 in
set_option maxRecDepth 100000 in
theorem t_X10_heatOf (l : Launch) (dC : Nat → ClassId) (dI : Nat → Nat → Nat) (sz : Nat) (Ω : Nat → (Nat → Nat) → va_E → Prop) (κ : Nat → ClassId) (τ ν : Nat → Nat) (ρ : Nat → Nat → Nat) (L : List Nat) (f : Nat → va_E) (hG : tp_G τ ν ρ L) (hT : tp_T Ω κ τ ν ρ f) (h0 : Nat) (v : Int32) (ht_h0 : τ h0 = 11) : Met l yX10_heatOf wqX10_heatOf ({ frames := 3, cells := 0, slots := 0, locals := 800 }) (va_Pc [.ref h0, .int v] (pz_B dC dI (tp_K κ) (va_pl L f) sz)) (vp_Sl (fun r => True ∧ True)) 0 0 (fun _ => False) := by
  refine Met.ofW (cc := cX10_heatOf) (maxL := 7) (ret := some .long) (by decide) rfl ?_
  intro p e s m args below meth c s₁ B hml hv
  obtain ⟨rfl, hsz, hP, hK, hD0, hN⟩ := hv
  have hx := B.exec
  have hb := B.bytes
  have hr := B.returns
  have hts := fun (w : Cond) (h : w ∈ WALL) => atoms_spec (ws := wqX10_heatOf) B.pre w (List.mem_cons_of_mem _ h)
  have hown : s.vm.findClass RX10 = some m.cls := findClass_of_methodNamed B.named
  have hlocks := B.notSynchronized
  subst hsz
  have hD := hD0
  have hS : va_S (fun _ => True) s.heap s.heap [] := va_S.rf
  have hl := lv_entry ([.ref h0, .int v]) (n := 7) (Nat.le_of_ble_eq_true rfl)
  rw [lg_entry_eq]
  generalize (lg_sl ([.ref h0, .int v]) ++ List.replicate (7 - (lg_sl ([.ref h0, .int v])).length) Slot.unset).toArray = ls at hl ⊢
  have hl : lv_has ls 7 [(0, .ref h0), (1, .int v)] := hl
  refine lv_aload_n hx hb dX10_heatOf_0 rfl (lv_at hl 0 rfl) ?_
  refine tgk_11 hG ht_h0 (fun y1 y1n y2 y2n y3 y4 y5 y6 y7 y8 y9 y9w y9m y10 y10w y10m y11 y11w y11m y12 y12w y12m => ?_)
  refine tpk_11 hT ht_h0 (fun o13_x0 o13_x1 o13_x2 o13_x3 o13_x4 o13_x5 o13_x6 hf_o13 ro13_0 ro13_1 ro13_2 ro13_3 => ?_)
  refine tpk_pos (tp_in hG ht_h0 (by decide)) hf_o13 (fun q14 eq14 => ?_)
  refine va_get (D := (dC, dI)) (ci := 10) (v := .ref (ρ h0 17)) (C := RX10) (T := TX10) (N := 19) hx hb hts hfX10 hown hK hP q14 eq14 rfl 17 (by decide) (hts (.fieldLink RX10 70 "ColdShips$World" "landings" "LColdShips$Rows;") wa_59) (fun _ h9 => h9) rfl dX10_heatOf_1 ?_
  refine lv_iload_n hx hb dX10_heatOf_4 rfl (lv_at hl 1 rfl) ?_
  refine lv_iconst (v := 4) hx hb dX10_heatOf_5 (by decide) ?_
  refine tgk_5 hG y11 (fun y15 y15n y16a y16b y16c => ?_)
  refine tpk_5 hT y11 (fun o17_x0 o17_x2 hf_o17 ro17_0 ro17_1 => ?_)
  refine tpk_pos (tp_in hG y11 (by decide)) hf_o17 (fun q18 eq18 => ?_)
  refine pz_calll (va_runV (As := [.int v, .int 4]) (rest := []) ⟨hx, hb, hml, hown, hts⟩ (t_X4_at l dC dI _ Ω κ τ ν ρ L f hG hT (ρ h0 17) v (4) y11 o17_x0 o17_x2 hf_o17) (cwV 2 hts gX10_heatOf_X4_at rfl rfl rfl ⟨rfl, pd_X4_at⟩ ⟨Nat.le_of_ble_eq_true rfl, Nat.le_of_ble_eq_true rfl⟩) ⟨pz_blind, va_recv hK hP (ci := 4) (q0 := q18) rfl eq18, pz_pre hP hK hD hN⟩ rfl rfl hl.1 rfl (lv_room (Nat.le_of_ble_eq_true rfl)) dX10_heatOf_6 ⟨Nat.le_of_ble_eq_true rfl, Nat.le_of_ble_eq_true rfl⟩) (fun r19 hw20 => ?_)
  obtain ⟨hw20r, hw20p⟩ := hw20
  refine lv_lstore_n (lv' := [(2, .long r19), (0, .ref h0), (1, .int v)]) hx hb dX10_heatOf_9 rfl hl (by decide) rfl (fun ls hl => ?_)
  refine lv_lload_n hx hb dX10_heatOf_10 rfl (lv_at hl 0 rfl) ?_
  refine lv_lconst (v := 0) hx hb dX10_heatOf_11 (by decide) ?_
  refine W.lcmp hx hb dX10_heatOf_12 ?_
  refine lv_if_gt (tgt := 18) hx hb dX10_heatOf_13 (by decide) (fun c21 => ?_) (fun c21 => ?_)
  · have ic21 : r19.toInt > 0 := zl_gt rfl rfl c21
    refine lv_lconst (v := 0) hx hb dX10_heatOf_18 (by decide) ?_
    refine lv_lstore (lv' := [(4, .long 0), (2, .long r19), (0, .ref h0), (1, .int v)]) hx hb dX10_heatOf_19 hl (by decide) rfl (fun ls hl => ?_)
    refine lv_iconst (v := 0) hx hb dX10_heatOf_21 (by decide) ?_
    refine lv_istore (lv' := [(6, .int 0), (4, .long 0), (2, .long r19), (0, .ref h0), (1, .int v)]) hx hb dX10_heatOf_22 hl (by decide) rfl (fun ls hl => ?_)
    refine pz_loop (fun n0 H locs ls => ∃ w22 : Int32, ∃ w23 : Int64, n0 = (6 - (w22.toInt)).toNat ∧ (0 ≤ w22.toInt ∧ w22.toInt ≤ 6) ∧ H = s.heap ∧ locs = [] ∧ lv_has ls 7 [(6, .int w22), (4, .long w23), (2, .long r19), (0, .ref h0), (1, .int v)]) ?_ _ _ _ _ ⟨0, 0, rfl, (by have : (0 : Int32).toInt = 0 := rfl; have : (0 : Int64).toInt = 0 := rfl; omega), rfl, rfl, lv_sub hl [0, 1, 2, 3, 4] rfl⟩
    intro n0 H locs ls hI ih24
    refine Exists.elim hI (fun w22 hE90 => Exists.elim hE90 (fun w23 hE91 => tn_5 hE91 (fun hn25 rw22 e92 e93 hl => ?_)))
    clear hE91 hE90 hI; subst e92; subst e93
    refine lv_iload hx hb dX10_heatOf_24 (lv_at hl 0 rfl) ?_
    refine lv_bipush (v := 6) hx hb dX10_heatOf_26 (by decide) ?_
    refine lv_icmp_ge (tgt := 66) hx hb dX10_heatOf_28 (by decide) (fun c26 => ?_) (fun c26 => ?_)
    · have ic26 : w22.toInt ≥ 6 := zi_ge rfl rfl c26
      refine lv_lload hx hb dX10_heatOf_66 (lv_at hl 1 rfl) ?_
      refine lv_lload_n hx hb dX10_heatOf_68 rfl (lv_at hl 2 rfl) ?_
      refine lv_ldiv hx hb dX10_heatOf_69 (zl_nz (by omega) rfl) ?_
      refine lv_topl (fun z27 ez27 => ?_)
      exact W.lret (v := z27) hx hb hr (fun t ht hW => ⟨z27, rfl, ⟨trivial, trivial⟩, ht⟩) (fun _ h => by cases h) dX10_heatOf_70
    · have ic26 : w22.toInt < 6 := zi_gef rfl rfl c26
      refine lv_lload hx hb dX10_heatOf_31 (lv_at hl 1 rfl) ?_
      refine lv_aload_n hx hb dX10_heatOf_33 rfl (lv_at hl 3 rfl) ?_
      refine va_get (D := (dC, dI)) (ci := 10) (v := .ref (ρ h0 17)) (C := RX10) (T := TX10) (N := 19) hx hb hts hfX10 hown hK hP q14 eq14 rfl 17 (by decide) (hts (.fieldLink RX10 70 "ColdShips$World" "landings" "LColdShips$Rows;") wa_59) (fun _ h9 => h9) rfl dX10_heatOf_34 ?_
      refine lv_iload_n hx hb dX10_heatOf_37 rfl (lv_at hl 4 rfl) ?_
      refine lv_iconst (v := 5) hx hb dX10_heatOf_38 (by decide) ?_
      refine lv_iload hx hb dX10_heatOf_39 (lv_at hl 0 rfl) ?_
      refine lv_iadd hx hb dX10_heatOf_41 ?_
      refine lv_topi (fun z28 ez28 => ?_)
      have iz28 : z28.toInt = 5 + w22.toInt := zi_add ez28 rfl rfl (by omega) (by omega)
      refine pz_calll (va_runV (As := [.int v, .int z28]) (rest := [.long w23]) ⟨hx, hb, hml, hown, hts⟩ (t_X4_at l dC dI _ Ω κ τ ν ρ L f hG hT (ρ h0 17) v z28 y11 o17_x0 o17_x2 hf_o17) (cwV 2 hts gX10_heatOf_X4_at rfl rfl rfl ⟨rfl, pd_X4_at⟩ ⟨Nat.le_of_ble_eq_true rfl, Nat.le_of_ble_eq_true rfl⟩) ⟨pz_blind, va_recv hK hP (ci := 4) (q0 := q18) rfl eq18, pz_pre hP hK hD hN⟩ rfl rfl hl.1 rfl (lv_room (Nat.le_of_ble_eq_true rfl)) dX10_heatOf_42 ⟨Nat.le_of_ble_eq_true rfl, Nat.le_of_ble_eq_true rfl⟩) (fun r29 hw30 => ?_)
      obtain ⟨hw30r, hw30p⟩ := hw30
      refine lv_aload_n hx hb dX10_heatOf_45 rfl (lv_at hl 3 rfl) ?_
      refine va_get (D := (dC, dI)) (ci := 10) (v := .ref (ρ h0 9)) (C := RX10) (T := TX10) (N := 19) hx hb hts hfX10 hown hK hP q14 eq14 rfl 9 (by decide) (hts (.fieldLink RX10 27 "ColdShips$World" "terminals" "[LColdShips$Terminal;") wa_43) (fun _ h9 => h9) rfl dX10_heatOf_46 ?_
      refine lv_iload hx hb dX10_heatOf_49 (lv_at hl 0 rfl) ?_
      refine tpk_24 hT y3 (fun g32 hf_o31 hf_o31e => ?_)
      refine tpk_pos (tp_in hG y3 (by decide)) hf_o31 (fun q33 eq33 => ?_)
      refine va_aldq hx hb hK hP q33 4 eq33 rfl (vp_in_iff.mpr ⟨by omega, by omega⟩) dX10_heatOf_51 ?_
      obtain ⟨b34, hb35⟩ : ∃ b : Nat, b = ρ (ρ h0 9) w22.toNatClampNeg := ⟨_, rfl⟩
      have hb35t : τ b34 = 9 := by rw [hb35]; exact tpg_24 hG y3 _ (zi_cl (vp_in_iff.mpr ⟨by omega, by omega⟩))
      have hb35g : g32 w22.toNatClampNeg = some b34 := by rw [hb35]; exact hf_o31e _ (zi_cl (vp_in_iff.mpr ⟨by omega, by omega⟩))
      refine W.eq (g2 := F0 m 52 ls (.ref b34 :: [.long r29, .long w23])) (congrArg (fun o => F0 m 52 ls (va_rf o :: [.long r29, .long w23])) hb35g) ?_
      refine tgk_9 hG hb35t (fun y36 y36n y37 y37n => ?_)
      refine tpk_9 hT hb35t (fun o38_x0 o38_x1 o38_x2 o38_x3 o38_x4 hf_o38 ro38_0 => ?_)
      refine tpk_pos (tp_in hG hb35t (by decide)) hf_o38 (fun q39 eq39 => ?_)
      refine va_getN (D := (dC, dI)) (ci := 8) (v := .int o38_x4) (C := RX8) (T := TX8) (N := 7) hx hb hts hfX8 hown hK hP q39 eq39 rfl 4 (by decide) (va_Nw.use rfl (hN.1 (.fieldLinkNest RX10 100 "ColdShips$Terminal" "heat" "I" "ColdShips") nzw_10)) (fun _ h9 => h9) rfl dX10_heatOf_52 ?_
      refine lv_i2l hx hb dX10_heatOf_55 rfl ?_
      refine lv_lmul hx hb dX10_heatOf_56 ?_
      refine lv_topl (fun z40 ez40 => ?_)
      refine lv_ladd hx hb dX10_heatOf_57 ?_
      refine lv_topl (fun z41 ez41 => ?_)
      refine lv_lstore (lv' := [(4, .long z41), (6, .int w22), (2, .long r19), (0, .ref h0), (1, .int v)]) hx hb dX10_heatOf_58 hl (by decide) rfl (fun ls hl => ?_)
      obtain ⟨z42, ez42⟩ : ∃ y : Int32, y = w22 + 1 := ⟨_, rfl⟩
      refine lv_iinc (v := z42) (lv' := [(6, .int z42), (4, .long z41), (2, .long r19), (0, .ref h0), (1, .int v)]) hx hb dX10_heatOf_60 hl (k := 1) rfl (by rw [ez42]; rfl) (by decide) rfl (fun ls hl => ?_)
      have iz42 : z42.toInt = w22.toInt + 1 := zi_add ez42 rfl rfl (by omega) (by omega)
      refine lv_goto (tgt := 24) hx hb dX10_heatOf_63 (by decide) ?_
      exact ih24 _ _ _ _ (by rw [hn25]; omega) ⟨z42, z41, rfl, (by omega), rfl, rfl, lv_sub hl [0, 1, 2, 3, 4] rfl⟩
  · have ic21 : r19.toInt ≤ 0 := zl_gtf rfl rfl c21
    refine lv_lconst (v := 0) hx hb dX10_heatOf_16 (by decide) ?_
    exact W.lret (v := 0) hx hb hr (fun t ht hW => ⟨0, rfl, ⟨trivial, trivial⟩, ht⟩) (fun _ h => by cases h) dX10_heatOf_17
set_option maxHeartbeats 4000000 in
set_option maxRecDepth 100000 in
theorem t_X10_billedOf (l : Launch) (dC : Nat → ClassId) (dI : Nat → Nat → Nat) (sz : Nat) (Ω : Nat → (Nat → Nat) → va_E → Prop) (κ : Nat → ClassId) (τ ν : Nat → Nat) (ρ : Nat → Nat → Nat) (L : List Nat) (f : Nat → va_E) (hG : tp_G τ ν ρ L) (hT : tp_T Ω κ τ ν ρ f) (h0 : Nat) (v : Int32) (ht_h0 : τ h0 = 11) : Met l yX10_billedOf wqX10_billedOf ({ frames := 3, cells := 0, slots := 0, locals := 800 }) (va_Pc [.ref h0, .int v] (pz_B dC dI (tp_K κ) (va_pl L f) sz)) (vp_Sl (fun r => True ∧ True)) 0 0 (fun _ => False) := by
  refine Met.ofW (cc := cX10_billedOf) (maxL := 4) (ret := some .long) (by decide) rfl ?_
  intro p e s m args below meth c s₁ B hml hv
  obtain ⟨rfl, hsz, hP, hK, hD0, hN⟩ := hv
  have hx := B.exec
  have hb := B.bytes
  have hr := B.returns
  have hts := fun (w : Cond) (h : w ∈ WALL) => atoms_spec (ws := wqX10_billedOf) B.pre w (List.mem_cons_of_mem _ h)
  have hown : s.vm.findClass RX10 = some m.cls := findClass_of_methodNamed B.named
  have hlocks := B.notSynchronized
  subst hsz
  have hD := hD0
  have hS : va_S (fun _ => True) s.heap s.heap [] := va_S.rf
  have hl := lv_entry ([.ref h0, .int v]) (n := 4) (Nat.le_of_ble_eq_true rfl)
  rw [lg_entry_eq]
  generalize (lg_sl ([.ref h0, .int v]) ++ List.replicate (4 - (lg_sl ([.ref h0, .int v])).length) Slot.unset).toArray = ls at hl ⊢
  have hl : lv_has ls 4 [(0, .ref h0), (1, .int v)] := hl
  refine lv_aload_n hx hb dX10_billedOf_0 rfl (lv_at hl 0 rfl) ?_
  refine tgk_11 hG ht_h0 (fun y1 y1n y2 y2n y3 y4 y5 y6 y7 y8 y9 y9w y9m y10 y10w y10m y11 y11w y11m y12 y12w y12m => ?_)
  refine tpk_11 hT ht_h0 (fun o13_x0 o13_x1 o13_x2 o13_x3 o13_x4 o13_x5 o13_x6 hf_o13 ro13_0 ro13_1 ro13_2 ro13_3 => ?_)
  refine tpk_pos (tp_in hG ht_h0 (by decide)) hf_o13 (fun q14 eq14 => ?_)
  refine va_get (D := (dC, dI)) (ci := 10) (v := .ref (ρ h0 17)) (C := RX10) (T := TX10) (N := 19) hx hb hts hfX10 hown hK hP q14 eq14 rfl 17 (by decide) (hts (.fieldLink RX10 70 "ColdShips$World" "landings" "LColdShips$Rows;") wa_59) (fun _ h9 => h9) rfl dX10_billedOf_1 ?_
  refine lv_iload_n hx hb dX10_billedOf_4 rfl (lv_at hl 1 rfl) ?_
  refine lv_bipush (v := 11) hx hb dX10_billedOf_5 (by decide) ?_
  refine tgk_5 hG y11 (fun y15 y15n y16a y16b y16c => ?_)
  refine tpk_5 hT y11 (fun o17_x0 o17_x2 hf_o17 ro17_0 ro17_1 => ?_)
  refine tpk_pos (tp_in hG y11 (by decide)) hf_o17 (fun q18 eq18 => ?_)
  refine pz_calll (va_runV (As := [.int v, .int 11]) (rest := []) ⟨hx, hb, hml, hown, hts⟩ (t_X4_at l dC dI _ Ω κ τ ν ρ L f hG hT (ρ h0 17) v (11) y11 o17_x0 o17_x2 hf_o17) (cwV 2 hts gX10_billedOf_X4_at rfl rfl rfl ⟨rfl, pd_X4_at⟩ ⟨Nat.le_of_ble_eq_true rfl, Nat.le_of_ble_eq_true rfl⟩) ⟨pz_blind, va_recv hK hP (ci := 4) (q0 := q18) rfl eq18, pz_pre hP hK hD hN⟩ rfl rfl hl.1 rfl (lv_room (Nat.le_of_ble_eq_true rfl)) dX10_billedOf_7 ⟨Nat.le_of_ble_eq_true rfl, Nat.le_of_ble_eq_true rfl⟩) (fun r19 hw20 => ?_)
  obtain ⟨hw20r, hw20p⟩ := hw20
  refine lv_lstore_n (lv' := [(2, .long r19), (0, .ref h0), (1, .int v)]) hx hb dX10_billedOf_10 rfl hl (by decide) rfl (fun ls hl => ?_)
  refine lv_lload_n hx hb dX10_billedOf_11 rfl (lv_at hl 0 rfl) ?_
  refine lv_ldc2 (own := RX10) (v := (-1)) hx hb hown (hts (.constantLong RX10 91 (-1)) wa_695) dX10_billedOf_12 ?_
  refine W.lcmp hx hb dX10_billedOf_15 ?_
  refine lv_if_eq (tgt := 23) hx hb dX10_billedOf_16 (by decide) (fun c21 => ?_) (fun c21 => ?_)
  · have ic21 : r19.toInt = (-1) := zl_eq rfl rfl c21
    refine lv_aload_n hx hb dX10_billedOf_23 rfl (lv_at hl 1 rfl) ?_
    refine va_get (D := (dC, dI)) (ci := 10) (v := .ref (ρ h0 17)) (C := RX10) (T := TX10) (N := 19) hx hb hts hfX10 hown hK hP q14 eq14 rfl 17 (by decide) (hts (.fieldLink RX10 70 "ColdShips$World" "landings" "LColdShips$Rows;") wa_59) (fun _ h9 => h9) rfl dX10_billedOf_24 ?_
    refine lv_iload_n hx hb dX10_billedOf_27 rfl (lv_at hl 2 rfl) ?_
    refine lv_iconst (v := 4) hx hb dX10_billedOf_28 (by decide) ?_
    refine pz_calll (va_runV (As := [.int v, .int 4]) (rest := []) ⟨hx, hb, hml, hown, hts⟩ (t_X4_at l dC dI _ Ω κ τ ν ρ L f hG hT (ρ h0 17) v (4) y11 o17_x0 o17_x2 hf_o17) (cwV 2 hts gX10_billedOf_X4_at rfl rfl rfl ⟨rfl, pd_X4_at⟩ ⟨Nat.le_of_ble_eq_true rfl, Nat.le_of_ble_eq_true rfl⟩) ⟨pz_blind, va_recv hK hP (ci := 4) (q0 := q18) rfl eq18, pz_pre hP hK hD hN⟩ rfl rfl hl.1 rfl (lv_room (Nat.le_of_ble_eq_true rfl)) dX10_billedOf_29 ⟨Nat.le_of_ble_eq_true rfl, Nat.le_of_ble_eq_true rfl⟩) (fun r22 hw23 => ?_)
    obtain ⟨hw23r, hw23p⟩ := hw23
    exact W.lret (v := r22) hx hb hr (fun t ht hW => ⟨r22, rfl, ⟨trivial, trivial⟩, ht⟩) (fun _ h => by cases h) dX10_billedOf_32
  · have ic21 : r19.toInt ≠ (-1) := zl_eqf rfl rfl c21
    refine lv_lload_n hx hb dX10_billedOf_19 rfl (lv_at hl 0 rfl) ?_
    refine lv_goto (tgt := 32) hx hb dX10_billedOf_20 (by decide) ?_
    exact W.lret (v := r19) hx hb hr (fun t ht hW => ⟨r19, rfl, ⟨trivial, trivial⟩, ht⟩) (fun _ h => by cases h) dX10_billedOf_32
set_option maxHeartbeats 4000000 in
set_option maxRecDepth 100000 in
theorem t_X10_priceOf (l : Launch) (dC : Nat → ClassId) (dI : Nat → Nat → Nat) (sz : Nat) (Ω : Nat → (Nat → Nat) → va_E → Prop) (κ : Nat → ClassId) (τ ν : Nat → Nat) (ρ : Nat → Nat → Nat) (L : List Nat) (f : Nat → va_E) (hG : tp_G τ ν ρ L) (hT : tp_T Ω κ τ ν ρ f) (h0 : Nat) (v : Int32) (u : Int32) (ht_h0 : τ h0 = 11) : Met l yX10_priceOf wqX10_priceOf ({ frames := 3, cells := 0, slots := 0, locals := 800 }) (va_Pc [.ref h0, .int v, .int u] (pz_B dC dI (tp_K κ) (va_pl L f) sz)) (vp_Sl (fun r => True ∧ True)) 0 0 (fun _ => False) := by
  refine Met.ofW (cc := cX10_priceOf) (maxL := 12) (ret := some .long) (by decide) rfl ?_
  intro p e s m args below meth c s₁ B hml hv
  obtain ⟨rfl, hsz, hP, hK, hD0, hN⟩ := hv
  have hx := B.exec
  have hb := B.bytes
  have hr := B.returns
  have hts := fun (w : Cond) (h : w ∈ WALL) => atoms_spec (ws := wqX10_priceOf) B.pre w (List.mem_cons_of_mem _ h)
  have hown : s.vm.findClass RX10 = some m.cls := findClass_of_methodNamed B.named
  have hlocks := B.notSynchronized
  subst hsz
  have hD := hD0
  have hS : va_S (fun _ => True) s.heap s.heap [] := va_S.rf
  have hl := lv_entry ([.ref h0, .int v, .int u]) (n := 12) (Nat.le_of_ble_eq_true rfl)
  rw [lg_entry_eq]
  generalize (lg_sl ([.ref h0, .int v, .int u]) ++ List.replicate (12 - (lg_sl ([.ref h0, .int v, .int u])).length) Slot.unset).toArray = ls at hl ⊢
  have hl : lv_has ls 12 [(0, .ref h0), (1, .int v), (2, .int u)] := hl
  refine lv_aload_n hx hb dX10_priceOf_0 rfl (lv_at hl 0 rfl) ?_
  refine tgk_11 hG ht_h0 (fun y1 y1n y2 y2n y3 y4 y5 y6 y7 y8 y9 y9w y9m y10 y10w y10m y11 y11w y11m y12 y12w y12m => ?_)
  refine tpk_11 hT ht_h0 (fun o13_x0 o13_x1 o13_x2 o13_x3 o13_x4 o13_x5 o13_x6 hf_o13 ro13_0 ro13_1 ro13_2 ro13_3 => ?_)
  refine tpk_pos (tp_in hG ht_h0 (by decide)) hf_o13 (fun q14 eq14 => ?_)
  refine va_get (D := (dC, dI)) (ci := 10) (v := .ref (ρ h0 17)) (C := RX10) (T := TX10) (N := 19) hx hb hts hfX10 hown hK hP q14 eq14 rfl 17 (by decide) (hts (.fieldLink RX10 70 "ColdShips$World" "landings" "LColdShips$Rows;") wa_59) (fun _ h9 => h9) rfl dX10_priceOf_1 ?_
  refine lv_iload_n hx hb dX10_priceOf_4 rfl (lv_at hl 1 rfl) ?_
  refine lv_iconst (v := 3) hx hb dX10_priceOf_5 (by decide) ?_
  refine tgk_5 hG y11 (fun y15 y15n y16a y16b y16c => ?_)
  refine tpk_5 hT y11 (fun o17_x0 o17_x2 hf_o17 ro17_0 ro17_1 => ?_)
  refine tpk_pos (tp_in hG y11 (by decide)) hf_o17 (fun q18 eq18 => ?_)
  refine pz_calll (va_runV (As := [.int v, .int 3]) (rest := []) ⟨hx, hb, hml, hown, hts⟩ (t_X4_at l dC dI _ Ω κ τ ν ρ L f hG hT (ρ h0 17) v (3) y11 o17_x0 o17_x2 hf_o17) (cwV 2 hts gX10_priceOf_X4_at rfl rfl rfl ⟨rfl, pd_X4_at⟩ ⟨Nat.le_of_ble_eq_true rfl, Nat.le_of_ble_eq_true rfl⟩) ⟨pz_blind, va_recv hK hP (ci := 4) (q0 := q18) rfl eq18, pz_pre hP hK hD hN⟩ rfl rfl hl.1 rfl (lv_room (Nat.le_of_ble_eq_true rfl)) dX10_priceOf_6 ⟨Nat.le_of_ble_eq_true rfl, Nat.le_of_ble_eq_true rfl⟩) (fun r19 hw20 => ?_)
  obtain ⟨hw20r, hw20p⟩ := hw20
  refine lv_ldc2 (own := RX10) (v := 24) hx hb hown (hts (.constantLong RX10 103 (24)) wa_1157) dX10_priceOf_9 ?_
  refine lv_ldiv hx hb dX10_priceOf_12 (by decide) ?_
  refine lv_topl (fun z21 ez21 => ?_)
  refine lv_lstore_n (lv' := [(3, .long z21), (0, .ref h0), (1, .int v), (2, .int u)]) hx hb dX10_priceOf_13 rfl hl (by decide) rfl (fun ls hl => ?_)
  refine lv_ldc2 (own := RX10) (v := (-1)) hx hb hown (hts (.constantLong RX10 91 (-1)) wa_695) dX10_priceOf_14 ?_
  refine lv_lstore (lv' := [(5, .long (-1)), (3, .long z21), (0, .ref h0), (1, .int v), (2, .int u)]) hx hb dX10_priceOf_17 hl (by decide) rfl (fun ls hl => ?_)
  refine lv_lconst (v := 0) hx hb dX10_priceOf_19 (by decide) ?_
  refine lv_lstore (lv' := [(7, .long 0), (5, .long (-1)), (3, .long z21), (0, .ref h0), (1, .int v), (2, .int u)]) hx hb dX10_priceOf_20 hl (by decide) rfl (fun ls hl => ?_)
  refine lv_iconst (v := 0) hx hb dX10_priceOf_22 (by decide) ?_
  refine lv_istore (lv' := [(9, .int 0), (7, .long 0), (5, .long (-1)), (3, .long z21), (0, .ref h0), (1, .int v), (2, .int u)]) hx hb dX10_priceOf_23 hl (by decide) rfl (fun ls hl => ?_)
  refine pz_loop (fun n0 H locs ls => ∃ w22 : Int32, ∃ w23 : Int64, ∃ w24 : Int64, n0 = (60 - (w22.toInt)).toNat ∧ (0 ≤ w22.toInt ∧ w22.toInt ≤ 60) ∧ H = s.heap ∧ locs = [] ∧ lv_has ls 12 [(9, .int w22), (7, .long w23), (5, .long w24), (3, .long z21), (0, .ref h0), (1, .int v), (2, .int u)]) ?_ _ _ _ _ ⟨0, 0, (-1), rfl, (by have : (0 : Int32).toInt = 0 := rfl; have : (0 : Int64).toInt = 0 := rfl; have : ((-1) : Int64).toInt = (-1) := rfl; omega), rfl, rfl, lv_sub hl [0, 1, 2, 3, 4, 5, 6] rfl⟩
  intro n0 H locs ls hI ih25
  refine Exists.elim hI (fun w22 hE90 => Exists.elim hE90 (fun w23 hE91 => Exists.elim hE91 (fun w24 hE92 => tn_5 hE92 (fun hn26 rw22 e92 e93 hl => ?_))))
  clear hE92 hE91 hE90 hI; subst e92; subst e93
  refine lv_iload hx hb dX10_priceOf_25 (lv_at hl 0 rfl) ?_
  refine lv_aload_n hx hb dX10_priceOf_27 rfl (lv_at hl 4 rfl) ?_
  refine va_get (D := (dC, dI)) (ci := 10) (v := .ref (ρ h0 15)) (C := RX10) (T := TX10) (N := 19) hx hb hts hfX10 hown hK hP q14 eq14 rfl 15 (by decide) (hts (.fieldLink RX10 63 "ColdShips$World" "prices" "LColdShips$Rows;") wa_57) (fun _ h9 => h9) rfl dX10_priceOf_28 ?_
  refine tgk_5 hG y9 (fun y27 y27n y28a y28b y28c => ?_)
  refine tpk_5 hT y9 (fun o29_x0 o29_x2 hf_o29 ro29_0 ro29_1 => ?_)
  refine tpk_pos (tp_in hG y9 (by decide)) hf_o29 (fun q30 eq30 => ?_)
  refine va_getN (D := (dC, dI)) (ci := 4) (v := .int o29_x2) (C := RX4) (T := TX4) (N := 3) hx hb hts hfX4 hown hK hP q30 eq30 rfl 2 (by decide) (va_Nw.use rfl (hN.1 (.fieldLinkNest RX10 105 "ColdShips$Rows" "size" "I" "ColdShips") nzw_2)) (fun _ h9 => h9) rfl dX10_priceOf_31 ?_
  refine lv_icmp_ge (tgt := 102) hx hb dX10_priceOf_34 (by decide) (fun c31 => ?_) (fun c31 => ?_)
  · have ic31 : w22.toInt ≥ o29_x2.toInt := zi_ge rfl rfl c31
    refine lv_lload hx hb dX10_priceOf_102 (lv_at hl 1 rfl) ?_
    exact W.lret (v := w23) hx hb hr (fun t ht hW => ⟨w23, rfl, ⟨trivial, trivial⟩, ht⟩) (fun _ h => by cases h) dX10_priceOf_104
  · have ic31 : w22.toInt < o29_x2.toInt := zi_gef rfl rfl c31
    refine lv_aload_n hx hb dX10_priceOf_37 rfl (lv_at hl 4 rfl) ?_
    refine va_get (D := (dC, dI)) (ci := 10) (v := .ref (ρ h0 15)) (C := RX10) (T := TX10) (N := 19) hx hb hts hfX10 hown hK hP q14 eq14 rfl 15 (by decide) (hts (.fieldLink RX10 63 "ColdShips$World" "prices" "LColdShips$Rows;") wa_57) (fun _ h9 => h9) rfl dX10_priceOf_38 ?_
    refine lv_iload hx hb dX10_priceOf_41 (lv_at hl 0 rfl) ?_
    refine lv_iconst (v := 0) hx hb dX10_priceOf_43 (by decide) ?_
    refine pz_calll (va_runV (As := [.int w22, .int 0]) (rest := []) ⟨hx, hb, hml, hown, hts⟩ (t_X4_at l dC dI _ Ω κ τ ν ρ L f hG hT (ρ h0 15) w22 (0) y9 o29_x0 o29_x2 hf_o29) (cwV 2 hts gX10_priceOf_X4_at rfl rfl rfl ⟨rfl, pd_X4_at⟩ ⟨Nat.le_of_ble_eq_true rfl, Nat.le_of_ble_eq_true rfl⟩) ⟨pz_blind, va_recv hK hP (ci := 4) (q0 := q30) rfl eq30, pz_pre hP hK hD hN⟩ rfl rfl hl.1 rfl (lv_room (Nat.le_of_ble_eq_true rfl)) dX10_priceOf_44 ⟨Nat.le_of_ble_eq_true rfl, Nat.le_of_ble_eq_true rfl⟩) (fun r32 hw33 => ?_)
    obtain ⟨hw33r, hw33p⟩ := hw33
    refine lv_lstore (lv' := [(10, .long r32), (9, .int w22), (7, .long w23), (5, .long w24), (3, .long z21), (0, .ref h0), (1, .int v), (2, .int u)]) hx hb dX10_priceOf_47 hl (by decide) rfl (fun ls hl => ?_)
    refine lv_lload hx hb dX10_priceOf_49 (lv_at hl 0 rfl) ?_
    refine lv_lload_n hx hb dX10_priceOf_51 rfl (lv_at hl 4 rfl) ?_
    refine W.lcmp hx hb dX10_priceOf_52 ?_
    refine lv_if_gt (tgt := 96) hx hb dX10_priceOf_53 (by decide) (fun c34 => ?_) (fun c34 => ?_)
    · have ic34 : r32.toInt > z21.toInt := zl_gt rfl rfl c34
      obtain ⟨z35, ez35⟩ : ∃ y : Int32, y = w22 + 1 := ⟨_, rfl⟩
      refine lv_iinc (v := z35) (lv' := [(9, .int z35), (10, .long r32), (7, .long w23), (5, .long w24), (3, .long z21), (0, .ref h0), (1, .int v), (2, .int u)]) hx hb dX10_priceOf_96 hl (k := 1) rfl (by rw [ez35]; rfl) (by decide) rfl (fun ls hl => ?_)
      have iz35 : z35.toInt = w22.toInt + 1 := zi_add ez35 rfl rfl (by omega) (by omega)
      refine lv_goto (tgt := 25) hx hb dX10_priceOf_99 (by decide) ?_
      exact ih25 _ _ _ _ (by rw [hn26]; omega) ⟨z35, w23, w24, rfl, (by omega), rfl, rfl, lv_sub hl [0, 2, 3, 4, 5, 6, 7] rfl⟩
    · have ic34 : r32.toInt ≤ z21.toInt := zl_gtf rfl rfl c34
      refine lv_lload hx hb dX10_priceOf_56 (lv_at hl 0 rfl) ?_
      refine lv_lload hx hb dX10_priceOf_58 (lv_at hl 3 rfl) ?_
      refine W.lcmp hx hb dX10_priceOf_60 ?_
      refine lv_if_lt (tgt := 96) hx hb dX10_priceOf_61 (by decide) (fun c36 => ?_) (fun c36 => ?_)
      · have ic36 : r32.toInt < w24.toInt := zl_lt rfl rfl c36
        obtain ⟨z37, ez37⟩ : ∃ y : Int32, y = w22 + 1 := ⟨_, rfl⟩
        refine lv_iinc (v := z37) (lv' := [(9, .int z37), (10, .long r32), (7, .long w23), (5, .long w24), (3, .long z21), (0, .ref h0), (1, .int v), (2, .int u)]) hx hb dX10_priceOf_96 hl (k := 1) rfl (by rw [ez37]; rfl) (by decide) rfl (fun ls hl => ?_)
        have iz37 : z37.toInt = w22.toInt + 1 := zi_add ez37 rfl rfl (by omega) (by omega)
        refine lv_goto (tgt := 25) hx hb dX10_priceOf_99 (by decide) ?_
        exact ih25 _ _ _ _ (by rw [hn26]; omega) ⟨z37, w23, w24, rfl, (by omega), rfl, rfl, lv_sub hl [0, 2, 3, 4, 5, 6, 7] rfl⟩
      · have ic36 : r32.toInt ≥ w24.toInt := zl_ltf rfl rfl c36
        refine lv_aload_n hx hb dX10_priceOf_64 rfl (lv_at hl 5 rfl) ?_
        refine va_get (D := (dC, dI)) (ci := 10) (v := .ref (ρ h0 15)) (C := RX10) (T := TX10) (N := 19) hx hb hts hfX10 hown hK hP q14 eq14 rfl 15 (by decide) (hts (.fieldLink RX10 63 "ColdShips$World" "prices" "LColdShips$Rows;") wa_57) (fun _ h9 => h9) rfl dX10_priceOf_65 ?_
        refine lv_iload hx hb dX10_priceOf_68 (lv_at hl 1 rfl) ?_
        refine lv_iconst (v := 2) hx hb dX10_priceOf_70 (by decide) ?_
        refine pz_calll (va_runV (As := [.int w22, .int 2]) (rest := []) ⟨hx, hb, hml, hown, hts⟩ (t_X4_at l dC dI _ Ω κ τ ν ρ L f hG hT (ρ h0 15) w22 (2) y9 o29_x0 o29_x2 hf_o29) (cwV 2 hts gX10_priceOf_X4_at rfl rfl rfl ⟨rfl, pd_X4_at⟩ ⟨Nat.le_of_ble_eq_true rfl, Nat.le_of_ble_eq_true rfl⟩) ⟨pz_blind, va_recv hK hP (ci := 4) (q0 := q30) rfl eq30, pz_pre hP hK hD hN⟩ rfl rfl hl.1 rfl (lv_room (Nat.le_of_ble_eq_true rfl)) dX10_priceOf_71 ⟨Nat.le_of_ble_eq_true rfl, Nat.le_of_ble_eq_true rfl⟩) (fun r38 hw39 => ?_)
        obtain ⟨hw39r, hw39p⟩ := hw39
        refine lv_iload_n hx hb dX10_priceOf_74 rfl (lv_at hl 7 rfl) ?_
        refine lv_i2l hx hb dX10_priceOf_75 rfl ?_
        refine W.lcmp hx hb dX10_priceOf_76 ?_
        refine lv_if_gt (tgt := 96) hx hb dX10_priceOf_77 (by decide) (fun c40 => ?_) (fun c40 => ?_)
        · have ic40 : r38.toInt > u.toInt := zl_gt rfl (Int32.toInt_toInt64 u) c40
          obtain ⟨z41, ez41⟩ : ∃ y : Int32, y = w22 + 1 := ⟨_, rfl⟩
          refine lv_iinc (v := z41) (lv' := [(9, .int z41), (10, .long r32), (7, .long w23), (5, .long w24), (3, .long z21), (0, .ref h0), (1, .int v), (2, .int u)]) hx hb dX10_priceOf_96 hl (k := 1) rfl (by rw [ez41]; rfl) (by decide) rfl (fun ls hl => ?_)
          have iz41 : z41.toInt = w22.toInt + 1 := zi_add ez41 rfl rfl (by omega) (by omega)
          refine lv_goto (tgt := 25) hx hb dX10_priceOf_99 (by decide) ?_
          exact ih25 _ _ _ _ (by rw [hn26]; omega) ⟨z41, w23, w24, rfl, (by omega), rfl, rfl, lv_sub hl [0, 2, 3, 4, 5, 6, 7] rfl⟩
        · have ic40 : r38.toInt ≤ u.toInt := zl_gtf rfl (Int32.toInt_toInt64 u) c40
          refine lv_lload hx hb dX10_priceOf_80 (lv_at hl 0 rfl) ?_
          refine lv_lstore (lv' := [(5, .long r32), (10, .long r32), (9, .int w22), (7, .long w23), (3, .long z21), (0, .ref h0), (1, .int v), (2, .int u)]) hx hb dX10_priceOf_82 hl (by decide) rfl (fun ls hl => ?_)
          refine lv_aload_n hx hb dX10_priceOf_84 rfl (lv_at hl 5 rfl) ?_
          refine va_get (D := (dC, dI)) (ci := 10) (v := .ref (ρ h0 15)) (C := RX10) (T := TX10) (N := 19) hx hb hts hfX10 hown hK hP q14 eq14 rfl 15 (by decide) (hts (.fieldLink RX10 63 "ColdShips$World" "prices" "LColdShips$Rows;") wa_57) (fun _ h9 => h9) rfl dX10_priceOf_85 ?_
          refine lv_iload hx hb dX10_priceOf_88 (lv_at hl 2 rfl) ?_
          refine lv_iconst (v := 1) hx hb dX10_priceOf_90 (by decide) ?_
          refine pz_calll (va_runV (As := [.int w22, .int 1]) (rest := []) ⟨hx, hb, hml, hown, hts⟩ (t_X4_at l dC dI _ Ω κ τ ν ρ L f hG hT (ρ h0 15) w22 (1) y9 o29_x0 o29_x2 hf_o29) (cwV 2 hts gX10_priceOf_X4_at rfl rfl rfl ⟨rfl, pd_X4_at⟩ ⟨Nat.le_of_ble_eq_true rfl, Nat.le_of_ble_eq_true rfl⟩) ⟨pz_blind, va_recv hK hP (ci := 4) (q0 := q30) rfl eq30, pz_pre hP hK hD hN⟩ rfl rfl hl.1 rfl (lv_room (Nat.le_of_ble_eq_true rfl)) dX10_priceOf_91 ⟨Nat.le_of_ble_eq_true rfl, Nat.le_of_ble_eq_true rfl⟩) (fun r42 hw43 => ?_)
          obtain ⟨hw43r, hw43p⟩ := hw43
          refine lv_lstore (lv' := [(7, .long r42), (5, .long r32), (10, .long r32), (9, .int w22), (3, .long z21), (0, .ref h0), (1, .int v), (2, .int u)]) hx hb dX10_priceOf_94 hl (by decide) rfl (fun ls hl => ?_)
          obtain ⟨z44, ez44⟩ : ∃ y : Int32, y = w22 + 1 := ⟨_, rfl⟩
          refine lv_iinc (v := z44) (lv' := [(9, .int z44), (7, .long r42), (5, .long r32), (10, .long r32), (3, .long z21), (0, .ref h0), (1, .int v), (2, .int u)]) hx hb dX10_priceOf_96 hl (k := 3) rfl (by rw [ez44]; rfl) (by decide) rfl (fun ls hl => ?_)
          have iz44 : z44.toInt = w22.toInt + 1 := zi_add ez44 rfl rfl (by omega) (by omega)
          refine lv_goto (tgt := 25) hx hb dX10_priceOf_99 (by decide) ?_
          exact ih25 _ _ _ _ (by rw [hn26]; omega) ⟨z44, r42, r32, rfl, (by omega), rfl, rfl, lv_sub hl [0, 1, 2, 4, 5, 6, 7] rfl⟩
set_option maxHeartbeats 4000000 in
set_option maxRecDepth 100000 in
theorem t_X10_copyFrom (l : Launch) (dC : Nat → ClassId) (dI : Nat → Nat → Nat) (sz : Nat) (Ω : Nat → (Nat → Nat) → va_E → Prop) (κ : Nat → ClassId) (τ ν : Nat → Nat) (ρ : Nat → Nat → Nat) (L : List Nat) (f : Nat → va_E) (hG : tp_G τ ν ρ L) (hT : tp_T Ω κ τ ν ρ f) (h0 : Nat) (h1 : Nat) (ht_h0 : τ h0 = 11) (ht_h1 : τ h1 = 11) : Met l yX10_copyFrom wqX10_copyFrom ({ frames := 4, cells := 0, slots := 0, locals := 1200 }) (va_Pc [.ref h0, .ref h1] (pz_B dC dI (tp_K κ) (va_pl L f) sz)) (va_Qv (fun (f1 : Nat → va_E) => tp_T Ω κ τ ν ρ f1 ∧ tp_F τ [5, 6, 7, 8, 9, 11, 20, 21, 26] f f1 ∧ True) (fun (f1 : Nat → va_E) (t : State) => pz_E dC dI (tp_K κ) (va_A (va_pl L f) sz) (va_pl L f1) t) (va_A (va_pl L f) sz)) 0 0 (va_A (va_pl L f) sz) := by
  refine Met.ofW (cc := cX10_copyFrom) (maxL := 3) (ret := none) (by decide) rfl ?_
  intro p e s m args below meth c s₁ B hml hv
  obtain ⟨rfl, hsz, hP, hK, hD0, hN⟩ := hv
  have hx := B.exec
  have hb := B.bytes
  have hr := B.returns
  have hts := fun (w : Cond) (h : w ∈ WALL) => atoms_spec (ws := wqX10_copyFrom) B.pre w (List.mem_cons_of_mem _ h)
  have hown : s.vm.findClass RX10 = some m.cls := findClass_of_methodNamed B.named
  have hlocks := B.notSynchronized
  subst hsz
  have hD := hD0.self (sz := s.heap.size)
  generalize hAe : va_A (va_pl L f) s.heap.size = A at hD ⊢
  have hA : ∀ q : Nat, s.heap.size ≤ q → A q := fun q h => by rw [← hAe]; exact Or.inr h
  have hS : va_S A s.heap s.heap [] := va_S.rf
  have hR : tp_F τ [5, 6, 7, 8, 9, 11, 20, 21, 26] f f := tp_F.rf
  have hl := lv_entry ([.ref h0, .ref h1]) (n := 3) (Nat.le_of_ble_eq_true rfl)
  rw [lg_entry_eq]
  generalize (lg_sl ([.ref h0, .ref h1]) ++ List.replicate (3 - (lg_sl ([.ref h0, .ref h1])).length) Slot.unset).toArray = ls at hl ⊢
  have hl : lv_has ls 3 [(0, .ref h0), (1, .ref h1)] := hl
  refine lv_aload_n hx hb dX10_copyFrom_0 rfl (lv_at hl 0 rfl) ?_
  refine lv_aload_n hx hb dX10_copyFrom_1 rfl (lv_at hl 1 rfl) ?_
  refine tgk_11 hG ht_h1 (fun y1 y1n y2 y2n y3 y4 y5 y6 y7 y8 y9 y9w y9m y10 y10w y10m y11 y11w y11m y12 y12w y12m => ?_)
  refine tpk_11 hT ht_h1 (fun o13_x0 o13_x1 o13_x2 o13_x3 o13_x4 o13_x5 o13_x6 hf_o13 ro13_0 ro13_1 ro13_2 ro13_3 => ?_)
  refine tpk_pos (tp_in hG ht_h1 (by decide)) hf_o13 (fun q14 eq14 => ?_)
  refine va_get (D := (dC, dI)) (ci := 10) (v := .int o13_x0) (C := RX10) (T := TX10) (N := 19) hx hb hts hfX10 hown hK hP q14 eq14 rfl 0 (by decide) (hts (.fieldLink RX10 108 "ColdShips$World" "now" "I") wa_1495) (fun _ h9 => h9) rfl dX10_copyFrom_2 ?_
  refine tgk_11 hG ht_h0 (fun y15 y15n y16 y16n y17 y18 y19 y20 y21 y22 y23 y23w y23m y24 y24w y24m y25 y25w y25m y26 y26w y26m => ?_)
  refine tpk_11 hT ht_h0 (fun o27_x0 o27_x1 o27_x2 o27_x3 o27_x4 o27_x5 o27_x6 hf_o27 ro27_0 ro27_1 ro27_2 ro27_3 => ?_)
  refine tpk_pos (tp_in hG ht_h0 (by decide)) hf_o27 (fun q28 eq28 => ?_)
  refine va_put (D := (dC, dI)) (ci := 10) (v := .int o13_x0) (ty := .int) (C := RX10) (T := TX10) (N := 19) hx hb hts hfX10 tyX10 tyX10_ok nmX10 hown hK hP hD hS q28 eq28 rfl 0 (by decide) (hts (.fieldLink RX10 108 "ColdShips$World" "now" "I") wa_1495) (fun _ h9 => h9) rfl (tyX10_ok 0 (by decide)) rfl rfl (Nat.le_of_ble_eq_true rfl) dX10_copyFrom_5 (tp_k (.inr (10, [.int o13_x0, .int o27_x1, .int o27_x2, .int o27_x3, .int o27_x4, .int o27_x5, .int o27_x6, .ref (ρ h0 7), .ref (ρ h0 8), .ref (ρ h0 9), .ref (ρ h0 10), .ref (ρ h0 11), .ref (ρ h0 12), .ref (ρ h0 13), .ref (ρ h0 14), .ref (ρ h0 15), .ref (ρ h0 16), .ref (ρ h0 17), .ref (ρ h0 18)])) hD (tp_in hG ht_h0 (by decide)) eq28 (fun f29 H locs hP hD hS g31 k30 => ?_))
  have hT := hT.up ht_h0 g31 k30 ⟨_, _, _, _, _, _, _, rfl, (by first | decide | omega | (omega)), (by first | decide | omega | (omega)), (by first | decide | omega | (omega)), (by first | decide | omega | (omega))⟩
  have hR := hR.up ht_h0 (by decide) k30
  refine lv_aload_n hx hb dX10_copyFrom_8 rfl (lv_at hl 0 rfl) ?_
  refine lv_aload_n hx hb dX10_copyFrom_9 rfl (lv_at hl 1 rfl) ?_
  refine tpk_11 hT ht_h1 (fun o32_x0 o32_x1 o32_x2 o32_x3 o32_x4 o32_x5 o32_x6 hf_o32 ro32_0 ro32_1 ro32_2 ro32_3 => ?_)
  refine tpk_pos (tp_in hG ht_h1 (by decide)) hf_o32 (fun q33 eq33 => ?_)
  refine va_get (D := (dC, dI)) (ci := 10) (v := .int o32_x1) (C := RX10) (T := TX10) (N := 19) hx hb hts hfX10 hown hK hP q33 eq33 rfl 1 (by decide) (hts (.fieldLink RX10 9 "ColdShips$World" "boils" "I") wa_37) (fun _ h9 => h9) rfl dX10_copyFrom_10 ?_
  refine tpk_pos (tp_in hG ht_h0 (by decide)) g31 (fun q34 eq34 => ?_)
  refine va_put (D := (dC, dI)) (ci := 10) (v := .int o32_x1) (ty := .int) (C := RX10) (T := TX10) (N := 19) hx hb hts hfX10 tyX10 tyX10_ok nmX10 hown hK hP hD hS q34 eq34 rfl 1 (by decide) (hts (.fieldLink RX10 9 "ColdShips$World" "boils" "I") wa_37) (fun _ h9 => h9) rfl (tyX10_ok 1 (by decide)) rfl rfl (Nat.le_of_ble_eq_true rfl) dX10_copyFrom_13 (tp_k (.inr (10, [.int o13_x0, .int o32_x1, .int o27_x2, .int o27_x3, .int o27_x4, .int o27_x5, .int o27_x6, .ref (ρ h0 7), .ref (ρ h0 8), .ref (ρ h0 9), .ref (ρ h0 10), .ref (ρ h0 11), .ref (ρ h0 12), .ref (ρ h0 13), .ref (ρ h0 14), .ref (ρ h0 15), .ref (ρ h0 16), .ref (ρ h0 17), .ref (ρ h0 18)])) hD (tp_in hG ht_h0 (by decide)) eq34 (fun f35 H locs hP hD hS g37 k36 => ?_))
  have hT := hT.up ht_h0 g37 k36 ⟨_, _, _, _, _, _, _, rfl, (by first | decide | omega | (omega)), (by first | decide | omega | (omega)), (by first | decide | omega | (omega)), (by first | decide | omega | (omega))⟩
  have hR := hR.up ht_h0 (by decide) k36
  refine lv_aload_n hx hb dX10_copyFrom_16 rfl (lv_at hl 0 rfl) ?_
  refine lv_aload_n hx hb dX10_copyFrom_17 rfl (lv_at hl 1 rfl) ?_
  refine tpk_11 hT ht_h1 (fun o38_x0 o38_x1 o38_x2 o38_x3 o38_x4 o38_x5 o38_x6 hf_o38 ro38_0 ro38_1 ro38_2 ro38_3 => ?_)
  refine tpk_pos (tp_in hG ht_h1 (by decide)) hf_o38 (fun q39 eq39 => ?_)
  refine va_get (D := (dC, dI)) (ci := 10) (v := .int o38_x2) (C := RX10) (T := TX10) (N := 19) hx hb hts hfX10 hown hK hP q39 eq39 rfl 2 (by decide) (hts (.fieldLink RX10 15 "ColdShips$World" "limit" "I") wa_38) (fun _ h9 => h9) rfl dX10_copyFrom_18 ?_
  refine tpk_pos (tp_in hG ht_h0 (by decide)) g37 (fun q40 eq40 => ?_)
  refine va_put (D := (dC, dI)) (ci := 10) (v := .int o38_x2) (ty := .int) (C := RX10) (T := TX10) (N := 19) hx hb hts hfX10 tyX10 tyX10_ok nmX10 hown hK hP hD hS q40 eq40 rfl 2 (by decide) (hts (.fieldLink RX10 15 "ColdShips$World" "limit" "I") wa_38) (fun _ h9 => h9) rfl (tyX10_ok 2 (by decide)) rfl rfl (Nat.le_of_ble_eq_true rfl) dX10_copyFrom_21 (tp_k (.inr (10, [.int o13_x0, .int o32_x1, .int o38_x2, .int o27_x3, .int o27_x4, .int o27_x5, .int o27_x6, .ref (ρ h0 7), .ref (ρ h0 8), .ref (ρ h0 9), .ref (ρ h0 10), .ref (ρ h0 11), .ref (ρ h0 12), .ref (ρ h0 13), .ref (ρ h0 14), .ref (ρ h0 15), .ref (ρ h0 16), .ref (ρ h0 17), .ref (ρ h0 18)])) hD (tp_in hG ht_h0 (by decide)) eq40 (fun f41 H locs hP hD hS g43 k42 => ?_))
  have hT := hT.up ht_h0 g43 k42 ⟨_, _, _, _, _, _, _, rfl, (by first | decide | omega | (omega)), (by first | decide | omega | (omega)), (by first | decide | omega | (omega)), (by first | decide | omega | (omega))⟩
  have hR := hR.up ht_h0 (by decide) k42
  refine lv_aload_n hx hb dX10_copyFrom_24 rfl (lv_at hl 0 rfl) ?_
  refine lv_aload_n hx hb dX10_copyFrom_25 rfl (lv_at hl 1 rfl) ?_
  refine tpk_11 hT ht_h1 (fun o44_x0 o44_x1 o44_x2 o44_x3 o44_x4 o44_x5 o44_x6 hf_o44 ro44_0 ro44_1 ro44_2 ro44_3 => ?_)
  refine tpk_pos (tp_in hG ht_h1 (by decide)) hf_o44 (fun q45 eq45 => ?_)
  refine va_get (D := (dC, dI)) (ci := 10) (v := .int o44_x3) (C := RX10) (T := TX10) (N := 19) hx hb hts hfX10 hown hK hP q45 eq45 rfl 3 (by decide) (hts (.fieldLink RX10 111 "ColdShips$World" "ordersGiven" "I") wa_1496) (fun _ h9 => h9) rfl dX10_copyFrom_26 ?_
  refine tpk_pos (tp_in hG ht_h0 (by decide)) g43 (fun q46 eq46 => ?_)
  refine va_put (D := (dC, dI)) (ci := 10) (v := .int o44_x3) (ty := .int) (C := RX10) (T := TX10) (N := 19) hx hb hts hfX10 tyX10 tyX10_ok nmX10 hown hK hP hD hS q46 eq46 rfl 3 (by decide) (hts (.fieldLink RX10 111 "ColdShips$World" "ordersGiven" "I") wa_1496) (fun _ h9 => h9) rfl (tyX10_ok 3 (by decide)) rfl rfl (Nat.le_of_ble_eq_true rfl) dX10_copyFrom_29 (tp_k (.inr (10, [.int o13_x0, .int o32_x1, .int o38_x2, .int o44_x3, .int o27_x4, .int o27_x5, .int o27_x6, .ref (ρ h0 7), .ref (ρ h0 8), .ref (ρ h0 9), .ref (ρ h0 10), .ref (ρ h0 11), .ref (ρ h0 12), .ref (ρ h0 13), .ref (ρ h0 14), .ref (ρ h0 15), .ref (ρ h0 16), .ref (ρ h0 17), .ref (ρ h0 18)])) hD (tp_in hG ht_h0 (by decide)) eq46 (fun f47 H locs hP hD hS g49 k48 => ?_))
  have hT := hT.up ht_h0 g49 k48 ⟨_, _, _, _, _, _, _, rfl, (by first | decide | omega | (omega)), (by first | decide | omega | (omega)), (by first | decide | omega | (omega)), (by first | decide | omega | (omega))⟩
  have hR := hR.up ht_h0 (by decide) k48
  refine lv_aload_n hx hb dX10_copyFrom_32 rfl (lv_at hl 0 rfl) ?_
  refine lv_aload_n hx hb dX10_copyFrom_33 rfl (lv_at hl 1 rfl) ?_
  refine tpk_11 hT ht_h1 (fun o50_x0 o50_x1 o50_x2 o50_x3 o50_x4 o50_x5 o50_x6 hf_o50 ro50_0 ro50_1 ro50_2 ro50_3 => ?_)
  refine tpk_pos (tp_in hG ht_h1 (by decide)) hf_o50 (fun q51 eq51 => ?_)
  refine va_get (D := (dC, dI)) (ci := 10) (v := .int o50_x4) (C := RX10) (T := TX10) (N := 19) hx hb hts hfX10 hown hK hP q51 eq51 rfl 4 (by decide) (hts (.fieldLink RX10 78 "ColdShips$World" "terminalCount" "I") wa_237) (fun _ h9 => h9) rfl dX10_copyFrom_34 ?_
  refine tpk_pos (tp_in hG ht_h0 (by decide)) g49 (fun q52 eq52 => ?_)
  refine va_put (D := (dC, dI)) (ci := 10) (v := .int o50_x4) (ty := .int) (C := RX10) (T := TX10) (N := 19) hx hb hts hfX10 tyX10 tyX10_ok nmX10 hown hK hP hD hS q52 eq52 rfl 4 (by decide) (hts (.fieldLink RX10 78 "ColdShips$World" "terminalCount" "I") wa_237) (fun _ h9 => h9) rfl (tyX10_ok 4 (by decide)) rfl rfl (Nat.le_of_ble_eq_true rfl) dX10_copyFrom_37 (tp_k (.inr (10, [.int o13_x0, .int o32_x1, .int o38_x2, .int o44_x3, .int o50_x4, .int o27_x5, .int o27_x6, .ref (ρ h0 7), .ref (ρ h0 8), .ref (ρ h0 9), .ref (ρ h0 10), .ref (ρ h0 11), .ref (ρ h0 12), .ref (ρ h0 13), .ref (ρ h0 14), .ref (ρ h0 15), .ref (ρ h0 16), .ref (ρ h0 17), .ref (ρ h0 18)])) hD (tp_in hG ht_h0 (by decide)) eq52 (fun f53 H locs hP hD hS g55 k54 => ?_))
  have hT := hT.up ht_h0 g55 k54 ⟨_, _, _, _, _, _, _, rfl, (by first | decide | omega | (omega)), (by first | decide | omega | (omega)), (by first | decide | omega | (omega)), (by first | decide | omega | (omega))⟩
  have hR := hR.up ht_h0 (by decide) k54
  refine lv_aload_n hx hb dX10_copyFrom_40 rfl (lv_at hl 0 rfl) ?_
  refine lv_aload_n hx hb dX10_copyFrom_41 rfl (lv_at hl 1 rfl) ?_
  refine tpk_11 hT ht_h1 (fun o56_x0 o56_x1 o56_x2 o56_x3 o56_x4 o56_x5 o56_x6 hf_o56 ro56_0 ro56_1 ro56_2 ro56_3 => ?_)
  refine tpk_pos (tp_in hG ht_h1 (by decide)) hf_o56 (fun q57 eq57 => ?_)
  refine va_get (D := (dC, dI)) (ci := 10) (v := .int o56_x5) (C := RX10) (T := TX10) (N := 19) hx hb hts hfX10 hown hK hP q57 eq57 rfl 5 (by decide) (hts (.fieldLink RX10 81 "ColdShips$World" "shipCount" "I") wa_330) (fun _ h9 => h9) rfl dX10_copyFrom_42 ?_
  refine tpk_pos (tp_in hG ht_h0 (by decide)) g55 (fun q58 eq58 => ?_)
  refine va_put (D := (dC, dI)) (ci := 10) (v := .int o56_x5) (ty := .int) (C := RX10) (T := TX10) (N := 19) hx hb hts hfX10 tyX10 tyX10_ok nmX10 hown hK hP hD hS q58 eq58 rfl 5 (by decide) (hts (.fieldLink RX10 81 "ColdShips$World" "shipCount" "I") wa_330) (fun _ h9 => h9) rfl (tyX10_ok 5 (by decide)) rfl rfl (Nat.le_of_ble_eq_true rfl) dX10_copyFrom_45 (tp_k (.inr (10, [.int o13_x0, .int o32_x1, .int o38_x2, .int o44_x3, .int o50_x4, .int o56_x5, .int o27_x6, .ref (ρ h0 7), .ref (ρ h0 8), .ref (ρ h0 9), .ref (ρ h0 10), .ref (ρ h0 11), .ref (ρ h0 12), .ref (ρ h0 13), .ref (ρ h0 14), .ref (ρ h0 15), .ref (ρ h0 16), .ref (ρ h0 17), .ref (ρ h0 18)])) hD (tp_in hG ht_h0 (by decide)) eq58 (fun f59 H locs hP hD hS g61 k60 => ?_))
  have hT := hT.up ht_h0 g61 k60 ⟨_, _, _, _, _, _, _, rfl, (by first | decide | omega | (omega)), (by first | decide | omega | (omega)), (by first | decide | omega | (omega)), (by first | decide | omega | (omega))⟩
  have hR := hR.up ht_h0 (by decide) k60
  refine lv_aload_n hx hb dX10_copyFrom_48 rfl (lv_at hl 0 rfl) ?_
  refine lv_aload_n hx hb dX10_copyFrom_49 rfl (lv_at hl 1 rfl) ?_
  refine tpk_11 hT ht_h1 (fun o62_x0 o62_x1 o62_x2 o62_x3 o62_x4 o62_x5 o62_x6 hf_o62 ro62_0 ro62_1 ro62_2 ro62_3 => ?_)
  refine tpk_pos (tp_in hG ht_h1 (by decide)) hf_o62 (fun q63 eq63 => ?_)
  refine va_get (D := (dC, dI)) (ci := 10) (v := .int o62_x6) (C := RX10) (T := TX10) (N := 19) hx hb hts hfX10 hown hK hP q63 eq63 rfl 6 (by decide) (hts (.fieldLink RX10 84 "ColdShips$World" "contractCount" "I") wa_1129) (fun _ h9 => h9) rfl dX10_copyFrom_50 ?_
  refine tpk_pos (tp_in hG ht_h0 (by decide)) g61 (fun q64 eq64 => ?_)
  refine va_put (D := (dC, dI)) (ci := 10) (v := .int o62_x6) (ty := .int) (C := RX10) (T := TX10) (N := 19) hx hb hts hfX10 tyX10 tyX10_ok nmX10 hown hK hP hD hS q64 eq64 rfl 6 (by decide) (hts (.fieldLink RX10 84 "ColdShips$World" "contractCount" "I") wa_1129) (fun _ h9 => h9) rfl (tyX10_ok 6 (by decide)) rfl rfl (Nat.le_of_ble_eq_true rfl) dX10_copyFrom_53 (tp_k (.inr (10, [.int o13_x0, .int o32_x1, .int o38_x2, .int o44_x3, .int o50_x4, .int o56_x5, .int o62_x6, .ref (ρ h0 7), .ref (ρ h0 8), .ref (ρ h0 9), .ref (ρ h0 10), .ref (ρ h0 11), .ref (ρ h0 12), .ref (ρ h0 13), .ref (ρ h0 14), .ref (ρ h0 15), .ref (ρ h0 16), .ref (ρ h0 17), .ref (ρ h0 18)])) hD (tp_in hG ht_h0 (by decide)) eq64 (fun f65 H locs hP hD hS g67 k66 => ?_))
  have hT := hT.up ht_h0 g67 k66 ⟨_, _, _, _, _, _, _, rfl, (by first | decide | omega | (omega)), (by first | decide | omega | (omega)), (by first | decide | omega | (omega)), (by first | decide | omega | (omega))⟩
  have hR := hR.up ht_h0 (by decide) k66
  refine lv_aload_n hx hb dX10_copyFrom_56 rfl (lv_at hl 1 rfl) ?_
  refine tpk_11 hT ht_h1 (fun o68_x0 o68_x1 o68_x2 o68_x3 o68_x4 o68_x5 o68_x6 hf_o68 ro68_0 ro68_1 ro68_2 ro68_3 => ?_)
  refine tpk_pos (tp_in hG ht_h1 (by decide)) hf_o68 (fun q69 eq69 => ?_)
  refine va_get (D := (dC, dI)) (ci := 10) (v := .ref (ρ h1 7)) (C := RX10) (T := TX10) (N := 19) hx hb hts hfX10 hown hK hP q69 eq69 rfl 7 (by decide) (hts (.fieldLink RX10 18 "ColdShips$World" "tides" "[I") wa_40) (fun _ h9 => h9) rfl dX10_copyFrom_57 ?_
  refine lv_iconst (v := 0) hx hb dX10_copyFrom_60 (by decide) ?_
  refine lv_aload_n hx hb dX10_copyFrom_61 rfl (lv_at hl 0 rfl) ?_
  refine tpk_pos (tp_in hG ht_h0 (by decide)) g67 (fun q70 eq70 => ?_)
  refine va_get (D := (dC, dI)) (ci := 10) (v := .ref (ρ h0 7)) (C := RX10) (T := TX10) (N := 19) hx hb hts hfX10 hown hK hP q70 eq70 rfl 7 (by decide) (hts (.fieldLink RX10 18 "ColdShips$World" "tides" "[I") wa_40) (fun _ h9 => h9) rfl dX10_copyFrom_62 ?_
  refine lv_iconst (v := 0) hx hb dX10_copyFrom_65 (by decide) ?_
  refine lv_bipush (v := 25) hx hb dX10_copyFrom_66 (by decide) ?_
  refine tpk_20 hT y1 y1n (fun g72 hf_o71 => ?_)
  refine tpk_20 hT y15 y15n (fun g74 hf_o73 => ?_)
  refine tpk_pos (tp_in hG y1 (by decide)) hf_o71 (fun q75 eq75 => ?_)
  refine tpk_pos (tp_in hG y15 (by decide)) hf_o73 (fun q76 eq76 => ?_)
  refine va_copyi hx hb (by rw [hml]; exact hl.1.symm) hown (hts (.methodLink RX10 114 arraycopyName) wa_1497) (hts (.native arraycopyName) wa_465) (hts (.static arraycopyName) wa_466) (hts (.initialized "java/lang/System") wa_467) hK hP hD hS q75 q76 0 0 eq75 eq76 rfl rfl rfl (by decide) (by decide) (by decide) (by decide) (by decide) (fun _ _ => rfl) (Nat.le_of_ble_eq_true rfl) (Nat.le_of_ble_eq_true rfl) dX10_copyFrom_68 (tp_k (.inl (κ 0, 25, .inl (va_cpy g72 g74 (0 : Int32).toNatClampNeg (0 : Int32).toNatClampNeg (25 : Int32).toNatClampNeg))) hD (tp_in hG y15 (by decide)) eq76 (fun f77 H locs hP hD hS g79 k78 => ?_))
  have hT := hT.up y15 g79 k78 (tp_o20 y15n)
  have hR := hR.up y15 (by decide) k78
  generalize (va_cpy g72 g74 (0 : Int32).toNatClampNeg (0 : Int32).toNatClampNeg (25 : Int32).toNatClampNeg) = g80 at g79
  refine lv_aload_n hx hb dX10_copyFrom_71 rfl (lv_at hl 1 rfl) ?_
  have hf_81 : f77 h1 = .inr (10, [.int o68_x0, .int o68_x1, .int o68_x2, .int o68_x3, .int o68_x4, .int o68_x5, .int o68_x6, .ref (ρ h1 7), .ref (ρ h1 8), .ref (ρ h1 9), .ref (ρ h1 10), .ref (ρ h1 11), .ref (ρ h1 12), .ref (ρ h1 13), .ref (ρ h1 14), .ref (ρ h1 15), .ref (ρ h1 16), .ref (ρ h1 17), .ref (ρ h1 18)]) := (k78 _ (tp_ne ht_h1 y15 (by decide))).trans hf_o68
  refine tpk_pos (tp_in hG ht_h1 (by decide)) hf_81 (fun q82 eq82 => ?_)
  refine va_get (D := (dC, dI)) (ci := 10) (v := .ref (ρ h1 8)) (C := RX10) (T := TX10) (N := 19) hx hb hts hfX10 hown hK hP q82 eq82 rfl 8 (by decide) (hts (.fieldLink RX10 22 "ColdShips$World" "seas" "[I") wa_41) (fun _ h9 => h9) rfl dX10_copyFrom_72 ?_
  refine lv_iconst (v := 0) hx hb dX10_copyFrom_75 (by decide) ?_
  refine lv_aload_n hx hb dX10_copyFrom_76 rfl (lv_at hl 0 rfl) ?_
  have hf_83 : f77 h0 = .inr (10, [.int o13_x0, .int o32_x1, .int o38_x2, .int o44_x3, .int o50_x4, .int o56_x5, .int o62_x6, .ref (ρ h0 7), .ref (ρ h0 8), .ref (ρ h0 9), .ref (ρ h0 10), .ref (ρ h0 11), .ref (ρ h0 12), .ref (ρ h0 13), .ref (ρ h0 14), .ref (ρ h0 15), .ref (ρ h0 16), .ref (ρ h0 17), .ref (ρ h0 18)]) := (k78 _ (tp_ne ht_h0 y15 (by decide))).trans g67
  refine tpk_pos (tp_in hG ht_h0 (by decide)) hf_83 (fun q84 eq84 => ?_)
  refine va_get (D := (dC, dI)) (ci := 10) (v := .ref (ρ h0 8)) (C := RX10) (T := TX10) (N := 19) hx hb hts hfX10 hown hK hP q84 eq84 rfl 8 (by decide) (hts (.fieldLink RX10 22 "ColdShips$World" "seas" "[I") wa_41) (fun _ h9 => h9) rfl dX10_copyFrom_77 ?_
  refine lv_iconst (v := 0) hx hb dX10_copyFrom_80 (by decide) ?_
  refine lv_bipush (v := 100) hx hb dX10_copyFrom_81 (by decide) ?_
  refine tpk_20 hT y2 y2n (fun g86 hf_o85 => ?_)
  refine tpk_20 hT y16 y16n (fun g88 hf_o87 => ?_)
  refine tpk_pos (tp_in hG y2 (by decide)) hf_o85 (fun q89 eq89 => ?_)
  refine tpk_pos (tp_in hG y16 (by decide)) hf_o87 (fun q90 eq90 => ?_)
  refine va_copyi hx hb (by rw [hml]; exact hl.1.symm) hown (hts (.methodLink RX10 114 arraycopyName) wa_1497) (hts (.native arraycopyName) wa_465) (hts (.static arraycopyName) wa_466) (hts (.initialized "java/lang/System") wa_467) hK hP hD hS q89 q90 0 0 eq89 eq90 rfl rfl rfl (by decide) (by decide) (by decide) (by decide) (by decide) (fun _ _ => rfl) (Nat.le_of_ble_eq_true rfl) (Nat.le_of_ble_eq_true rfl) dX10_copyFrom_83 (tp_k (.inl (κ 0, 100, .inl (va_cpy g86 g88 (0 : Int32).toNatClampNeg (0 : Int32).toNatClampNeg (100 : Int32).toNatClampNeg))) hD (tp_in hG y16 (by decide)) eq90 (fun f91 H locs hP hD hS g93 k92 => ?_))
  have hT := hT.up y16 g93 k92 (tp_o20 y16n)
  have hR := hR.up y16 (by decide) k92
  generalize (va_cpy g86 g88 (0 : Int32).toNatClampNeg (0 : Int32).toNatClampNeg (100 : Int32).toNatClampNeg) = g94 at g93
  refine lv_iconst (v := 0) hx hb dX10_copyFrom_86 (by decide) ?_
  refine lv_istore_n (lv' := [(2, .int 0), (0, .ref h0), (1, .ref h1)]) hx hb dX10_copyFrom_87 rfl hl (by decide) rfl (fun ls hl => ?_)
  refine pz_loop (fun n0 H locs ls => ∃ f96 : Nat → va_E, ∃ w95 : Int32, n0 = (12 - (w95.toInt)).toNat ∧ tp_T Ω κ τ ν ρ f96 ∧ tp_F τ [5, 6, 7, 8, 9, 11, 20, 21, 26] f f96 ∧ (0 ≤ w95.toInt ∧ w95.toInt ≤ 12) ∧ va_P (dC, dI) vwCl (va_pl L f96) H ∧ va_D A (va_pl L f96) ∧ va_S A s.heap H locs ∧ lv_has ls 3 [(2, .int w95), (0, .ref h0), (1, .ref h1)]) ?_ _ _ _ _ ⟨f91, 0, rfl, hT, hR, (by have : (0 : Int32).toInt = 0 := rfl; omega), hP, hD, hS, lv_sub hl [0, 1, 2] rfl⟩
  intro n0 H locs ls hI ih97
  refine Exists.elim hI (fun f96 hE90 => Exists.elim hE90 (fun w95 hE91 => tn_8 hE91 (fun hn98 hT hR rw95 hP hD hS hl => ?_)))
  clear hE91 hE90 hI
  refine lv_iload_n hx hb dX10_copyFrom_88 rfl (lv_at hl 0 rfl) ?_
  refine lv_bipush (v := 12) hx hb dX10_copyFrom_89 (by decide) ?_
  refine lv_icmp_ge (tgt := 112) hx hb dX10_copyFrom_91 (by decide) (fun c99 => ?_) (fun c99 => ?_)
  · have ic99 : w95.toInt ≥ 12 := zi_ge rfl rfl c99
    refine lv_iconst (v := 0) hx hb dX10_copyFrom_112 (by decide) ?_
    refine lv_istore_n (lv' := [(2, .int 0), (0, .ref h0), (1, .ref h1)]) hx hb dX10_copyFrom_113 rfl hl (by decide) rfl (fun ls hl => ?_)
    refine pz_loop (fun n0 H locs ls => ∃ f101 : Nat → va_E, ∃ w100 : Int32, n0 = (6 - (w100.toInt)).toNat ∧ tp_T Ω κ τ ν ρ f101 ∧ tp_F τ [5, 6, 7, 8, 9, 11, 20, 21, 26] f f101 ∧ (0 ≤ w100.toInt ∧ w100.toInt ≤ 6) ∧ va_P (dC, dI) vwCl (va_pl L f101) H ∧ va_D A (va_pl L f101) ∧ va_S A s.heap H locs ∧ lv_has ls 3 [(2, .int w100), (0, .ref h0), (1, .ref h1)]) ?_ _ _ _ _ ⟨f96, 0, rfl, hT, hR, (by have : (0 : Int32).toInt = 0 := rfl; omega), hP, hD, hS, lv_sub hl [0, 1, 2] rfl⟩
    intro n0 H locs ls hI ih102
    refine Exists.elim hI (fun f101 hE90 => Exists.elim hE90 (fun w100 hE91 => tn_8 hE91 (fun hn103 hT hR rw100 hP hD hS hl => ?_)))
    clear hE91 hE90 hI
    refine lv_iload_n hx hb dX10_copyFrom_114 rfl (lv_at hl 0 rfl) ?_
    refine lv_aload_n hx hb dX10_copyFrom_115 rfl (lv_at hl 1 rfl) ?_
    refine tpk_11 hT ht_h0 (fun o104_x0 o104_x1 o104_x2 o104_x3 o104_x4 o104_x5 o104_x6 hf_o104 ro104_0 ro104_1 ro104_2 ro104_3 => ?_)
    refine tpk_pos (tp_in hG ht_h0 (by decide)) hf_o104 (fun q105 eq105 => ?_)
    refine va_get (D := (dC, dI)) (ci := 10) (v := .int o104_x4) (C := RX10) (T := TX10) (N := 19) hx hb hts hfX10 hown hK hP q105 eq105 rfl 4 (by decide) (hts (.fieldLink RX10 78 "ColdShips$World" "terminalCount" "I") wa_237) (fun _ h9 => h9) rfl dX10_copyFrom_116 ?_
    refine lv_icmp_ge (tgt := 143) hx hb dX10_copyFrom_119 (by decide) (fun c106 => ?_) (fun c106 => ?_)
    · have ic106 : w100.toInt ≥ o104_x4.toInt := zi_ge rfl rfl c106
      refine lv_iconst (v := 0) hx hb dX10_copyFrom_143 (by decide) ?_
      refine lv_istore_n (lv' := [(2, .int 0), (0, .ref h0), (1, .ref h1)]) hx hb dX10_copyFrom_144 rfl hl (by decide) rfl (fun ls hl => ?_)
      refine pz_loop (fun n0 H locs ls => ∃ f108 : Nat → va_E, ∃ w107 : Int32, n0 = (6 - (w107.toInt)).toNat ∧ tp_T Ω κ τ ν ρ f108 ∧ tp_F τ [5, 6, 7, 8, 9, 11, 20, 21, 26] f f108 ∧ (0 ≤ w107.toInt ∧ w107.toInt ≤ 6) ∧ va_P (dC, dI) vwCl (va_pl L f108) H ∧ va_D A (va_pl L f108) ∧ va_S A s.heap H locs ∧ lv_has ls 3 [(2, .int w107), (0, .ref h0), (1, .ref h1)]) ?_ _ _ _ _ ⟨f101, 0, rfl, hT, hR, (by have : (0 : Int32).toInt = 0 := rfl; omega), hP, hD, hS, lv_sub hl [0, 1, 2] rfl⟩
      intro n0 H locs ls hI ih109
      refine Exists.elim hI (fun f108 hE90 => Exists.elim hE90 (fun w107 hE91 => tn_8 hE91 (fun hn110 hT hR rw107 hP hD hS hl => ?_)))
      clear hE91 hE90 hI
      refine lv_iload_n hx hb dX10_copyFrom_145 rfl (lv_at hl 0 rfl) ?_
      refine lv_aload_n hx hb dX10_copyFrom_146 rfl (lv_at hl 1 rfl) ?_
      refine tpk_11 hT ht_h0 (fun o111_x0 o111_x1 o111_x2 o111_x3 o111_x4 o111_x5 o111_x6 hf_o111 ro111_0 ro111_1 ro111_2 ro111_3 => ?_)
      refine tpk_pos (tp_in hG ht_h0 (by decide)) hf_o111 (fun q112 eq112 => ?_)
      refine va_get (D := (dC, dI)) (ci := 10) (v := .int o111_x5) (C := RX10) (T := TX10) (N := 19) hx hb hts hfX10 hown hK hP q112 eq112 rfl 5 (by decide) (hts (.fieldLink RX10 81 "ColdShips$World" "shipCount" "I") wa_330) (fun _ h9 => h9) rfl dX10_copyFrom_147 ?_
      refine lv_icmp_ge (tgt := 174) hx hb dX10_copyFrom_150 (by decide) (fun c113 => ?_) (fun c113 => ?_)
      · have ic113 : w107.toInt ≥ o111_x5.toInt := zi_ge rfl rfl c113
        refine lv_aload_n hx hb dX10_copyFrom_174 rfl (lv_at hl 1 rfl) ?_
        refine va_get (D := (dC, dI)) (ci := 10) (v := .ref (ρ h0 12)) (C := RX10) (T := TX10) (N := 19) hx hb hts hfX10 hown hK hP q112 eq112 rfl 12 (by decide) (hts (.fieldLink RX10 48 "ColdShips$World" "slots" "LColdShips$Spans;") wa_51) (fun _ h9 => h9) rfl dX10_copyFrom_175 ?_
        refine lv_aload_n hx hb dX10_copyFrom_178 rfl (lv_at hl 2 rfl) ?_
        refine tpk_11 hT ht_h1 (fun o114_x0 o114_x1 o114_x2 o114_x3 o114_x4 o114_x5 o114_x6 hf_o114 ro114_0 ro114_1 ro114_2 ro114_3 => ?_)
        refine tpk_pos (tp_in hG ht_h1 (by decide)) hf_o114 (fun q115 eq115 => ?_)
        refine va_get (D := (dC, dI)) (ci := 10) (v := .ref (ρ h1 12)) (C := RX10) (T := TX10) (N := 19) hx hb hts hfX10 hown hK hP q115 eq115 rfl 12 (by decide) (hts (.fieldLink RX10 48 "ColdShips$World" "slots" "LColdShips$Spans;") wa_51) (fun _ h9 => h9) rfl dX10_copyFrom_179 ?_
        refine tgk_7 hG y20 (fun y116 y116n y117 y117n y118 y118n => ?_)
        refine tpk_7 hT y20 (fun o119_x3 hf_o119 ro119_0 => ?_)
        refine tpk_pos (tp_in hG y20 (by decide)) hf_o119 (fun q120 eq120 => ?_)
        have hFc := tp_fr hD hS hA
        refine va_callv (va_runV (As := [.ref (ρ h1 12)]) (rest := []) ⟨hx, hb, hml, hown, hts⟩ (t_X6_copyFrom l dC dI _ Ω κ τ ν ρ L f108 hG hT (ρ h0 12) (ρ h1 12) y20 y6) (cwV 1 hts gX10_copyFrom_X6_copyFrom rfl rfl rfl ⟨rfl, pd_X6_copyFrom⟩ ⟨Nat.le_of_ble_eq_true rfl, Nat.le_of_ble_eq_true rfl⟩) ⟨pz_blind, va_recv hK hP (ci := 6) (q0 := q120) rfl eq120, pz_pre hP hK hD hN⟩ rfl rfl hl.1 rfl (lv_room (Nat.le_of_ble_eq_true rfl)) dX10_copyFrom_182 ⟨Nat.le_of_ble_eq_true rfl, Nat.le_of_ble_eq_true rfl⟩) hS (fun q _ h => hFc q h) hFc (fun f123 t H1 locs ht hvm hw122 hB hz1 hk1 hS => ?_)
        refine tn_3 hw122 (fun hT hF124 hw122p => ?_); clear hw122
        have hR := hR.then hF124 (by decide)
        have hP := hB.1; rw [ht] at hP; have hD := tp_ad f123 hD; clear hB hFc hz1 hk1; subst ht; generalize t.heap = H at hP hS ⊢
        refine lv_aload_n hx hb dX10_copyFrom_185 rfl (lv_at hl 1 rfl) ?_
        have hf_125 : f123 h0 = .inr (10, [.int o111_x0, .int o111_x1, .int o111_x2, .int o111_x3, .int o111_x4, .int o111_x5, .int o111_x6, .ref (ρ h0 7), .ref (ρ h0 8), .ref (ρ h0 9), .ref (ρ h0 10), .ref (ρ h0 11), .ref (ρ h0 12), .ref (ρ h0 13), .ref (ρ h0 14), .ref (ρ h0 15), .ref (ρ h0 16), .ref (ρ h0 17), .ref (ρ h0 18)]) := (hF124 _ (by rw [ht_h0]; decide)).trans hf_o111
        refine tpk_pos (tp_in hG ht_h0 (by decide)) hf_125 (fun q126 eq126 => ?_)
        refine va_get (D := (dC, dI)) (ci := 10) (v := .ref (ρ h0 13)) (C := RX10) (T := TX10) (N := 19) hx hb hts hfX10 hown hK hP q126 eq126 rfl 13 (by decide) (hts (.fieldLink RX10 52 "ColdShips$World" "breaks" "LColdShips$Spans;") wa_52) (fun _ h9 => h9) rfl dX10_copyFrom_186 ?_
        refine lv_aload_n hx hb dX10_copyFrom_189 rfl (lv_at hl 2 rfl) ?_
        have hf_127 : f123 h1 = .inr (10, [.int o114_x0, .int o114_x1, .int o114_x2, .int o114_x3, .int o114_x4, .int o114_x5, .int o114_x6, .ref (ρ h1 7), .ref (ρ h1 8), .ref (ρ h1 9), .ref (ρ h1 10), .ref (ρ h1 11), .ref (ρ h1 12), .ref (ρ h1 13), .ref (ρ h1 14), .ref (ρ h1 15), .ref (ρ h1 16), .ref (ρ h1 17), .ref (ρ h1 18)]) := (hF124 _ (by rw [ht_h1]; decide)).trans hf_o114
        refine tpk_pos (tp_in hG ht_h1 (by decide)) hf_127 (fun q128 eq128 => ?_)
        refine va_get (D := (dC, dI)) (ci := 10) (v := .ref (ρ h1 13)) (C := RX10) (T := TX10) (N := 19) hx hb hts hfX10 hown hK hP q128 eq128 rfl 13 (by decide) (hts (.fieldLink RX10 52 "ColdShips$World" "breaks" "LColdShips$Spans;") wa_52) (fun _ h9 => h9) rfl dX10_copyFrom_190 ?_
        refine tgk_7 hG y21 (fun y129 y129n y130 y130n y131 y131n => ?_)
        refine tpk_7 hT y21 (fun o132_x3 hf_o132 ro132_0 => ?_)
        refine tpk_pos (tp_in hG y21 (by decide)) hf_o132 (fun q133 eq133 => ?_)
        have hFc := tp_fr hD hS hA
        refine va_callv (va_runV (As := [.ref (ρ h1 13)]) (rest := []) ⟨hx, hb, hml, hown, hts⟩ (t_X6_copyFrom l dC dI _ Ω κ τ ν ρ L f123 hG hT (ρ h0 13) (ρ h1 13) y21 y7) (cwV 1 hts gX10_copyFrom_X6_copyFrom rfl rfl rfl ⟨rfl, pd_X6_copyFrom⟩ ⟨Nat.le_of_ble_eq_true rfl, Nat.le_of_ble_eq_true rfl⟩) ⟨pz_blind, va_recv hK hP (ci := 6) (q0 := q133) rfl eq133, pz_pre hP hK hD hN⟩ rfl rfl hl.1 rfl (lv_room (Nat.le_of_ble_eq_true rfl)) dX10_copyFrom_193 ⟨Nat.le_of_ble_eq_true rfl, Nat.le_of_ble_eq_true rfl⟩) hS (fun q _ h => hFc q h) hFc (fun f136 t H1 locs ht hvm hw135 hB hz1 hk1 hS => ?_)
        refine tn_3 hw135 (fun hT hF137 hw135p => ?_); clear hw135
        have hR := hR.then hF137 (by decide)
        have hP := hB.1; rw [ht] at hP; have hD := tp_ad f136 hD; clear hB hFc hz1 hk1; subst ht; generalize t.heap = H at hP hS ⊢
        refine lv_aload_n hx hb dX10_copyFrom_196 rfl (lv_at hl 1 rfl) ?_
        have hf_138 : f136 h0 = .inr (10, [.int o111_x0, .int o111_x1, .int o111_x2, .int o111_x3, .int o111_x4, .int o111_x5, .int o111_x6, .ref (ρ h0 7), .ref (ρ h0 8), .ref (ρ h0 9), .ref (ρ h0 10), .ref (ρ h0 11), .ref (ρ h0 12), .ref (ρ h0 13), .ref (ρ h0 14), .ref (ρ h0 15), .ref (ρ h0 16), .ref (ρ h0 17), .ref (ρ h0 18)]) := (hF137 _ (by rw [ht_h0]; decide)).trans hf_125
        refine tpk_pos (tp_in hG ht_h0 (by decide)) hf_138 (fun q139 eq139 => ?_)
        refine va_get (D := (dC, dI)) (ci := 10) (v := .ref (ρ h0 14)) (C := RX10) (T := TX10) (N := 19) hx hb hts hfX10 hown hK hP q139 eq139 rfl 14 (by decide) (hts (.fieldLink RX10 55 "ColdShips$World" "forces" "LColdShips$Spans;") wa_53) (fun _ h9 => h9) rfl dX10_copyFrom_197 ?_
        refine lv_aload_n hx hb dX10_copyFrom_200 rfl (lv_at hl 2 rfl) ?_
        have hf_140 : f136 h1 = .inr (10, [.int o114_x0, .int o114_x1, .int o114_x2, .int o114_x3, .int o114_x4, .int o114_x5, .int o114_x6, .ref (ρ h1 7), .ref (ρ h1 8), .ref (ρ h1 9), .ref (ρ h1 10), .ref (ρ h1 11), .ref (ρ h1 12), .ref (ρ h1 13), .ref (ρ h1 14), .ref (ρ h1 15), .ref (ρ h1 16), .ref (ρ h1 17), .ref (ρ h1 18)]) := (hF137 _ (by rw [ht_h1]; decide)).trans hf_127
        refine tpk_pos (tp_in hG ht_h1 (by decide)) hf_140 (fun q141 eq141 => ?_)
        refine va_get (D := (dC, dI)) (ci := 10) (v := .ref (ρ h1 14)) (C := RX10) (T := TX10) (N := 19) hx hb hts hfX10 hown hK hP q141 eq141 rfl 14 (by decide) (hts (.fieldLink RX10 55 "ColdShips$World" "forces" "LColdShips$Spans;") wa_53) (fun _ h9 => h9) rfl dX10_copyFrom_201 ?_
        refine tgk_7 hG y22 (fun y142 y142n y143 y143n y144 y144n => ?_)
        refine tpk_7 hT y22 (fun o145_x3 hf_o145 ro145_0 => ?_)
        refine tpk_pos (tp_in hG y22 (by decide)) hf_o145 (fun q146 eq146 => ?_)
        have hFc := tp_fr hD hS hA
        refine va_callv (va_runV (As := [.ref (ρ h1 14)]) (rest := []) ⟨hx, hb, hml, hown, hts⟩ (t_X6_copyFrom l dC dI _ Ω κ τ ν ρ L f136 hG hT (ρ h0 14) (ρ h1 14) y22 y8) (cwV 1 hts gX10_copyFrom_X6_copyFrom rfl rfl rfl ⟨rfl, pd_X6_copyFrom⟩ ⟨Nat.le_of_ble_eq_true rfl, Nat.le_of_ble_eq_true rfl⟩) ⟨pz_blind, va_recv hK hP (ci := 6) (q0 := q146) rfl eq146, pz_pre hP hK hD hN⟩ rfl rfl hl.1 rfl (lv_room (Nat.le_of_ble_eq_true rfl)) dX10_copyFrom_204 ⟨Nat.le_of_ble_eq_true rfl, Nat.le_of_ble_eq_true rfl⟩) hS (fun q _ h => hFc q h) hFc (fun f149 t H1 locs ht hvm hw148 hB hz1 hk1 hS => ?_)
        refine tn_3 hw148 (fun hT hF150 hw148p => ?_); clear hw148
        have hR := hR.then hF150 (by decide)
        have hP := hB.1; rw [ht] at hP; have hD := tp_ad f149 hD; clear hB hFc hz1 hk1; subst ht; generalize t.heap = H at hP hS ⊢
        refine lv_aload_n hx hb dX10_copyFrom_207 rfl (lv_at hl 1 rfl) ?_
        have hf_151 : f149 h0 = .inr (10, [.int o111_x0, .int o111_x1, .int o111_x2, .int o111_x3, .int o111_x4, .int o111_x5, .int o111_x6, .ref (ρ h0 7), .ref (ρ h0 8), .ref (ρ h0 9), .ref (ρ h0 10), .ref (ρ h0 11), .ref (ρ h0 12), .ref (ρ h0 13), .ref (ρ h0 14), .ref (ρ h0 15), .ref (ρ h0 16), .ref (ρ h0 17), .ref (ρ h0 18)]) := (hF150 _ (by rw [ht_h0]; decide)).trans hf_138
        refine tpk_pos (tp_in hG ht_h0 (by decide)) hf_151 (fun q152 eq152 => ?_)
        refine va_get (D := (dC, dI)) (ci := 10) (v := .ref (ρ h0 15)) (C := RX10) (T := TX10) (N := 19) hx hb hts hfX10 hown hK hP q152 eq152 rfl 15 (by decide) (hts (.fieldLink RX10 63 "ColdShips$World" "prices" "LColdShips$Rows;") wa_57) (fun _ h9 => h9) rfl dX10_copyFrom_208 ?_
        refine lv_aload_n hx hb dX10_copyFrom_211 rfl (lv_at hl 2 rfl) ?_
        have hf_153 : f149 h1 = .inr (10, [.int o114_x0, .int o114_x1, .int o114_x2, .int o114_x3, .int o114_x4, .int o114_x5, .int o114_x6, .ref (ρ h1 7), .ref (ρ h1 8), .ref (ρ h1 9), .ref (ρ h1 10), .ref (ρ h1 11), .ref (ρ h1 12), .ref (ρ h1 13), .ref (ρ h1 14), .ref (ρ h1 15), .ref (ρ h1 16), .ref (ρ h1 17), .ref (ρ h1 18)]) := (hF150 _ (by rw [ht_h1]; decide)).trans hf_140
        refine tpk_pos (tp_in hG ht_h1 (by decide)) hf_153 (fun q154 eq154 => ?_)
        refine va_get (D := (dC, dI)) (ci := 10) (v := .ref (ρ h1 15)) (C := RX10) (T := TX10) (N := 19) hx hb hts hfX10 hown hK hP q154 eq154 rfl 15 (by decide) (hts (.fieldLink RX10 63 "ColdShips$World" "prices" "LColdShips$Rows;") wa_57) (fun _ h9 => h9) rfl dX10_copyFrom_212 ?_
        refine tgk_5 hG y23 (fun y155 y155n y156a y156b y156c => ?_)
        refine tpk_5 hT y23 (fun o157_x0 o157_x2 hf_o157 ro157_0 ro157_1 => ?_)
        refine tgk_5 hG y9 (fun y158 y158n y159a y159b y159c => ?_)
        refine tpk_5 hT y9 (fun o160_x0 o160_x2 hf_o160 ro160_0 ro160_1 => ?_)
        refine tpk_pos (tp_in hG y23 (by decide)) hf_o157 (fun q161 eq161 => ?_)
        have hFc := tp_fr hD hS hA
        refine va_callv (va_runV (As := [.ref (ρ h1 15)]) (rest := []) ⟨hx, hb, hml, hown, hts⟩ (t_X4_copyFrom l dC dI _ Ω κ τ ν ρ L f149 hG hT (ρ h0 15) (ρ h1 15) y23 y9 o157_x0 o157_x2 hf_o157 o160_x0 o160_x2 hf_o160) (cwV 1 hts gX10_copyFrom_X4_copyFrom rfl rfl rfl ⟨rfl, pd_X4_copyFrom⟩ ⟨Nat.le_of_ble_eq_true rfl, Nat.le_of_ble_eq_true rfl⟩) ⟨pz_blind, va_recv hK hP (ci := 4) (q0 := q161) rfl eq161, pz_pre hP hK hD hN⟩ rfl rfl hl.1 rfl (lv_room (Nat.le_of_ble_eq_true rfl)) dX10_copyFrom_215 ⟨Nat.le_of_ble_eq_true rfl, Nat.le_of_ble_eq_true rfl⟩) hS (fun q _ h => hFc q h) hFc (fun f164 t H1 locs ht hvm hw163 hB hz1 hk1 hS => ?_)
        refine tn_3 hw163 (fun hT hF165 hw163p => ?_); clear hw163
        have hR := hR.then hF165 (by decide)
        have hP := hB.1; rw [ht] at hP; have hD := tp_ad f164 hD; clear hB hFc hz1 hk1; subst ht; generalize t.heap = H at hP hS ⊢
        refine lv_aload_n hx hb dX10_copyFrom_218 rfl (lv_at hl 1 rfl) ?_
        have hf_166 : f164 h0 = .inr (10, [.int o111_x0, .int o111_x1, .int o111_x2, .int o111_x3, .int o111_x4, .int o111_x5, .int o111_x6, .ref (ρ h0 7), .ref (ρ h0 8), .ref (ρ h0 9), .ref (ρ h0 10), .ref (ρ h0 11), .ref (ρ h0 12), .ref (ρ h0 13), .ref (ρ h0 14), .ref (ρ h0 15), .ref (ρ h0 16), .ref (ρ h0 17), .ref (ρ h0 18)]) := (hF165 _ (by rw [ht_h0]; decide)).trans hf_151
        refine tpk_pos (tp_in hG ht_h0 (by decide)) hf_166 (fun q167 eq167 => ?_)
        refine va_get (D := (dC, dI)) (ci := 10) (v := .ref (ρ h0 16)) (C := RX10) (T := TX10) (N := 19) hx hb hts hfX10 hown hK hP q167 eq167 rfl 16 (by decide) (hts (.fieldLink RX10 67 "ColdShips$World" "readings" "LColdShips$Rows;") wa_58) (fun _ h9 => h9) rfl dX10_copyFrom_219 ?_
        refine lv_aload_n hx hb dX10_copyFrom_222 rfl (lv_at hl 2 rfl) ?_
        have hf_168 : f164 h1 = .inr (10, [.int o114_x0, .int o114_x1, .int o114_x2, .int o114_x3, .int o114_x4, .int o114_x5, .int o114_x6, .ref (ρ h1 7), .ref (ρ h1 8), .ref (ρ h1 9), .ref (ρ h1 10), .ref (ρ h1 11), .ref (ρ h1 12), .ref (ρ h1 13), .ref (ρ h1 14), .ref (ρ h1 15), .ref (ρ h1 16), .ref (ρ h1 17), .ref (ρ h1 18)]) := (hF165 _ (by rw [ht_h1]; decide)).trans hf_153
        refine tpk_pos (tp_in hG ht_h1 (by decide)) hf_168 (fun q169 eq169 => ?_)
        refine va_get (D := (dC, dI)) (ci := 10) (v := .ref (ρ h1 16)) (C := RX10) (T := TX10) (N := 19) hx hb hts hfX10 hown hK hP q169 eq169 rfl 16 (by decide) (hts (.fieldLink RX10 67 "ColdShips$World" "readings" "LColdShips$Rows;") wa_58) (fun _ h9 => h9) rfl dX10_copyFrom_223 ?_
        refine tgk_5 hG y24 (fun y170 y170n y171a y171b y171c => ?_)
        refine tpk_5 hT y24 (fun o172_x0 o172_x2 hf_o172 ro172_0 ro172_1 => ?_)
        refine tgk_5 hG y10 (fun y173 y173n y174a y174b y174c => ?_)
        refine tpk_5 hT y10 (fun o175_x0 o175_x2 hf_o175 ro175_0 ro175_1 => ?_)
        refine tpk_pos (tp_in hG y24 (by decide)) hf_o172 (fun q176 eq176 => ?_)
        have hFc := tp_fr hD hS hA
        refine va_callv (va_runV (As := [.ref (ρ h1 16)]) (rest := []) ⟨hx, hb, hml, hown, hts⟩ (t_X4_copyFrom l dC dI _ Ω κ τ ν ρ L f164 hG hT (ρ h0 16) (ρ h1 16) y24 y10 o172_x0 o172_x2 hf_o172 o175_x0 o175_x2 hf_o175) (cwV 1 hts gX10_copyFrom_X4_copyFrom rfl rfl rfl ⟨rfl, pd_X4_copyFrom⟩ ⟨Nat.le_of_ble_eq_true rfl, Nat.le_of_ble_eq_true rfl⟩) ⟨pz_blind, va_recv hK hP (ci := 4) (q0 := q176) rfl eq176, pz_pre hP hK hD hN⟩ rfl rfl hl.1 rfl (lv_room (Nat.le_of_ble_eq_true rfl)) dX10_copyFrom_226 ⟨Nat.le_of_ble_eq_true rfl, Nat.le_of_ble_eq_true rfl⟩) hS (fun q _ h => hFc q h) hFc (fun f179 t H1 locs ht hvm hw178 hB hz1 hk1 hS => ?_)
        refine tn_3 hw178 (fun hT hF180 hw178p => ?_); clear hw178
        have hR := hR.then hF180 (by decide)
        have hP := hB.1; rw [ht] at hP; have hD := tp_ad f179 hD; clear hB hFc hz1 hk1; subst ht; generalize t.heap = H at hP hS ⊢
        refine lv_aload_n hx hb dX10_copyFrom_229 rfl (lv_at hl 1 rfl) ?_
        have hf_181 : f179 h0 = .inr (10, [.int o111_x0, .int o111_x1, .int o111_x2, .int o111_x3, .int o111_x4, .int o111_x5, .int o111_x6, .ref (ρ h0 7), .ref (ρ h0 8), .ref (ρ h0 9), .ref (ρ h0 10), .ref (ρ h0 11), .ref (ρ h0 12), .ref (ρ h0 13), .ref (ρ h0 14), .ref (ρ h0 15), .ref (ρ h0 16), .ref (ρ h0 17), .ref (ρ h0 18)]) := (hF180 _ (by rw [ht_h0]; decide)).trans hf_166
        refine tpk_pos (tp_in hG ht_h0 (by decide)) hf_181 (fun q182 eq182 => ?_)
        refine va_get (D := (dC, dI)) (ci := 10) (v := .ref (ρ h0 17)) (C := RX10) (T := TX10) (N := 19) hx hb hts hfX10 hown hK hP q182 eq182 rfl 17 (by decide) (hts (.fieldLink RX10 70 "ColdShips$World" "landings" "LColdShips$Rows;") wa_59) (fun _ h9 => h9) rfl dX10_copyFrom_230 ?_
        refine lv_aload_n hx hb dX10_copyFrom_233 rfl (lv_at hl 2 rfl) ?_
        have hf_183 : f179 h1 = .inr (10, [.int o114_x0, .int o114_x1, .int o114_x2, .int o114_x3, .int o114_x4, .int o114_x5, .int o114_x6, .ref (ρ h1 7), .ref (ρ h1 8), .ref (ρ h1 9), .ref (ρ h1 10), .ref (ρ h1 11), .ref (ρ h1 12), .ref (ρ h1 13), .ref (ρ h1 14), .ref (ρ h1 15), .ref (ρ h1 16), .ref (ρ h1 17), .ref (ρ h1 18)]) := (hF180 _ (by rw [ht_h1]; decide)).trans hf_168
        refine tpk_pos (tp_in hG ht_h1 (by decide)) hf_183 (fun q184 eq184 => ?_)
        refine va_get (D := (dC, dI)) (ci := 10) (v := .ref (ρ h1 17)) (C := RX10) (T := TX10) (N := 19) hx hb hts hfX10 hown hK hP q184 eq184 rfl 17 (by decide) (hts (.fieldLink RX10 70 "ColdShips$World" "landings" "LColdShips$Rows;") wa_59) (fun _ h9 => h9) rfl dX10_copyFrom_234 ?_
        refine tgk_5 hG y25 (fun y185 y185n y186a y186b y186c => ?_)
        refine tpk_5 hT y25 (fun o187_x0 o187_x2 hf_o187 ro187_0 ro187_1 => ?_)
        refine tgk_5 hG y11 (fun y188 y188n y189a y189b y189c => ?_)
        refine tpk_5 hT y11 (fun o190_x0 o190_x2 hf_o190 ro190_0 ro190_1 => ?_)
        refine tpk_pos (tp_in hG y25 (by decide)) hf_o187 (fun q191 eq191 => ?_)
        have hFc := tp_fr hD hS hA
        refine va_callv (va_runV (As := [.ref (ρ h1 17)]) (rest := []) ⟨hx, hb, hml, hown, hts⟩ (t_X4_copyFrom l dC dI _ Ω κ τ ν ρ L f179 hG hT (ρ h0 17) (ρ h1 17) y25 y11 o187_x0 o187_x2 hf_o187 o190_x0 o190_x2 hf_o190) (cwV 1 hts gX10_copyFrom_X4_copyFrom rfl rfl rfl ⟨rfl, pd_X4_copyFrom⟩ ⟨Nat.le_of_ble_eq_true rfl, Nat.le_of_ble_eq_true rfl⟩) ⟨pz_blind, va_recv hK hP (ci := 4) (q0 := q191) rfl eq191, pz_pre hP hK hD hN⟩ rfl rfl hl.1 rfl (lv_room (Nat.le_of_ble_eq_true rfl)) dX10_copyFrom_237 ⟨Nat.le_of_ble_eq_true rfl, Nat.le_of_ble_eq_true rfl⟩) hS (fun q _ h => hFc q h) hFc (fun f194 t H1 locs ht hvm hw193 hB hz1 hk1 hS => ?_)
        refine tn_3 hw193 (fun hT hF195 hw193p => ?_); clear hw193
        have hR := hR.then hF195 (by decide)
        have hP := hB.1; rw [ht] at hP; have hD := tp_ad f194 hD; clear hB hFc hz1 hk1; subst ht; generalize t.heap = H at hP hS ⊢
        refine lv_aload_n hx hb dX10_copyFrom_240 rfl (lv_at hl 1 rfl) ?_
        have hf_196 : f194 h0 = .inr (10, [.int o111_x0, .int o111_x1, .int o111_x2, .int o111_x3, .int o111_x4, .int o111_x5, .int o111_x6, .ref (ρ h0 7), .ref (ρ h0 8), .ref (ρ h0 9), .ref (ρ h0 10), .ref (ρ h0 11), .ref (ρ h0 12), .ref (ρ h0 13), .ref (ρ h0 14), .ref (ρ h0 15), .ref (ρ h0 16), .ref (ρ h0 17), .ref (ρ h0 18)]) := (hF195 _ (by rw [ht_h0]; decide)).trans hf_181
        refine tpk_pos (tp_in hG ht_h0 (by decide)) hf_196 (fun q197 eq197 => ?_)
        refine va_get (D := (dC, dI)) (ci := 10) (v := .ref (ρ h0 18)) (C := RX10) (T := TX10) (N := 19) hx hb hts hfX10 hown hK hP q197 eq197 rfl 18 (by decide) (hts (.fieldLink RX10 73 "ColdShips$World" "cargoes" "LColdShips$Rows;") wa_60) (fun _ h9 => h9) rfl dX10_copyFrom_241 ?_
        refine lv_aload_n hx hb dX10_copyFrom_244 rfl (lv_at hl 2 rfl) ?_
        have hf_198 : f194 h1 = .inr (10, [.int o114_x0, .int o114_x1, .int o114_x2, .int o114_x3, .int o114_x4, .int o114_x5, .int o114_x6, .ref (ρ h1 7), .ref (ρ h1 8), .ref (ρ h1 9), .ref (ρ h1 10), .ref (ρ h1 11), .ref (ρ h1 12), .ref (ρ h1 13), .ref (ρ h1 14), .ref (ρ h1 15), .ref (ρ h1 16), .ref (ρ h1 17), .ref (ρ h1 18)]) := (hF195 _ (by rw [ht_h1]; decide)).trans hf_183
        refine tpk_pos (tp_in hG ht_h1 (by decide)) hf_198 (fun q199 eq199 => ?_)
        refine va_get (D := (dC, dI)) (ci := 10) (v := .ref (ρ h1 18)) (C := RX10) (T := TX10) (N := 19) hx hb hts hfX10 hown hK hP q199 eq199 rfl 18 (by decide) (hts (.fieldLink RX10 73 "ColdShips$World" "cargoes" "LColdShips$Rows;") wa_60) (fun _ h9 => h9) rfl dX10_copyFrom_245 ?_
        refine tgk_5 hG y26 (fun y200 y200n y201a y201b y201c => ?_)
        refine tpk_5 hT y26 (fun o202_x0 o202_x2 hf_o202 ro202_0 ro202_1 => ?_)
        refine tgk_5 hG y12 (fun y203 y203n y204a y204b y204c => ?_)
        refine tpk_5 hT y12 (fun o205_x0 o205_x2 hf_o205 ro205_0 ro205_1 => ?_)
        refine tpk_pos (tp_in hG y26 (by decide)) hf_o202 (fun q206 eq206 => ?_)
        have hFc := tp_fr hD hS hA
        refine va_callv (va_runV (As := [.ref (ρ h1 18)]) (rest := []) ⟨hx, hb, hml, hown, hts⟩ (t_X4_copyFrom l dC dI _ Ω κ τ ν ρ L f194 hG hT (ρ h0 18) (ρ h1 18) y26 y12 o202_x0 o202_x2 hf_o202 o205_x0 o205_x2 hf_o205) (cwV 1 hts gX10_copyFrom_X4_copyFrom rfl rfl rfl ⟨rfl, pd_X4_copyFrom⟩ ⟨Nat.le_of_ble_eq_true rfl, Nat.le_of_ble_eq_true rfl⟩) ⟨pz_blind, va_recv hK hP (ci := 4) (q0 := q206) rfl eq206, pz_pre hP hK hD hN⟩ rfl rfl hl.1 rfl (lv_room (Nat.le_of_ble_eq_true rfl)) dX10_copyFrom_248 ⟨Nat.le_of_ble_eq_true rfl, Nat.le_of_ble_eq_true rfl⟩) hS (fun q _ h => hFc q h) hFc (fun f209 t H1 locs ht hvm hw208 hB hz1 hk1 hS => ?_)
        refine tn_3 hw208 (fun hT hF210 hw208p => ?_); clear hw208
        have hR := hR.then hF210 (by decide)
        have hP := hB.1; rw [ht] at hP; have hD := tp_ad f209 hD; clear hB hFc hz1 hk1; subst ht; generalize t.heap = H at hP hS ⊢
        exact W.vret hx hb hr (fun t ht hW => ⟨⟨f209, rfl, ⟨hT, hR, trivial⟩, by rw [ht]; exact hP, va_K.moved hW.alike hK, hD⟩, hS.F ht⟩) hS.2.2 dX10_copyFrom_251
      · have ic113 : w107.toInt < o111_x5.toInt := zi_gef rfl rfl c113
        refine lv_aload_n hx hb dX10_copyFrom_153 rfl (lv_at hl 1 rfl) ?_
        refine va_get (D := (dC, dI)) (ci := 10) (v := .ref (ρ h0 10)) (C := RX10) (T := TX10) (N := 19) hx hb hts hfX10 hown hK hP q112 eq112 rfl 10 (by decide) (hts (.fieldLink RX10 33 "ColdShips$World" "ships" "[LColdShips$Ship;") wa_45) (fun _ h9 => h9) rfl dX10_copyFrom_154 ?_
        refine lv_iload_n hx hb dX10_copyFrom_157 rfl (lv_at hl 0 rfl) ?_
        refine tpk_25 hT y18 (fun g212 hf_o211 hf_o211e => ?_)
        refine tpk_pos (tp_in hG y18 (by decide)) hf_o211 (fun q213 eq213 => ?_)
        refine va_aldq hx hb hK hP q213 5 eq213 rfl (vp_in_iff.mpr ⟨by omega, by omega⟩) dX10_copyFrom_158 ?_
        obtain ⟨b214, hb215⟩ : ∃ b : Nat, b = ρ (ρ h0 10) w107.toNatClampNeg := ⟨_, rfl⟩
        have hb215t : τ b214 = 6 := by rw [hb215]; exact tpg_25 hG y18 _ (zi_cl (vp_in_iff.mpr ⟨by omega, by omega⟩))
        have hb215g : g212 w107.toNatClampNeg = some b214 := by rw [hb215]; exact hf_o211e _ (zi_cl (vp_in_iff.mpr ⟨by omega, by omega⟩))
        refine W.eq (g2 := F0 m 159 ls (.ref b214 :: [])) (congrArg (fun o => F0 m 159 ls (va_rf o :: [])) hb215g) ?_
        refine lv_aload_n hx hb dX10_copyFrom_159 rfl (lv_at hl 2 rfl) ?_
        refine tpk_11 hT ht_h1 (fun o216_x0 o216_x1 o216_x2 o216_x3 o216_x4 o216_x5 o216_x6 hf_o216 ro216_0 ro216_1 ro216_2 ro216_3 => ?_)
        refine tpk_pos (tp_in hG ht_h1 (by decide)) hf_o216 (fun q217 eq217 => ?_)
        refine va_get (D := (dC, dI)) (ci := 10) (v := .ref (ρ h1 10)) (C := RX10) (T := TX10) (N := 19) hx hb hts hfX10 hown hK hP q217 eq217 rfl 10 (by decide) (hts (.fieldLink RX10 33 "ColdShips$World" "ships" "[LColdShips$Ship;") wa_45) (fun _ h9 => h9) rfl dX10_copyFrom_160 ?_
        refine lv_iload_n hx hb dX10_copyFrom_163 rfl (lv_at hl 0 rfl) ?_
        refine tpk_25 hT y4 (fun g219 hf_o218 hf_o218e => ?_)
        refine tpk_pos (tp_in hG y4 (by decide)) hf_o218 (fun q220 eq220 => ?_)
        refine va_aldq hx hb hK hP q220 5 eq220 rfl (vp_in_iff.mpr ⟨by omega, by omega⟩) dX10_copyFrom_164 ?_
        obtain ⟨b221, hb222⟩ : ∃ b : Nat, b = ρ (ρ h1 10) w107.toNatClampNeg := ⟨_, rfl⟩
        have hb222t : τ b221 = 6 := by rw [hb222]; exact tpg_25 hG y4 _ (zi_cl (vp_in_iff.mpr ⟨by omega, by omega⟩))
        have hb222g : g219 w107.toNatClampNeg = some b221 := by rw [hb222]; exact hf_o218e _ (zi_cl (vp_in_iff.mpr ⟨by omega, by omega⟩))
        refine W.eq (g2 := F0 m 165 ls (.ref b221 :: [.ref b214])) (congrArg (fun o => F0 m 165 ls (va_rf o :: [.ref b214])) hb222g) ?_
        refine tgk_6 hG hb215t (fun y223 y224 y224n y225 y225n y226 y226n y227 y227n y228 y228n y229 y229n => ?_)
        refine tpk_6 hT hb215t (fun o230_x1 o230_x2 o230_x3 o230_x4 o230_x5 o230_x6 o230_x10 o230_x11 o230_x12 o230_x14 hf_o230 ro230_0 ro230_1 ro230_2 => ?_)
        refine tpk_pos (tp_in hG hb215t (by decide)) hf_o230 (fun q231 eq231 => ?_)
        have hFc := tp_fr hD hS hA
        refine va_callv (va_runV (As := [.ref b221]) (rest := []) ⟨hx, hb, hml, hown, hts⟩ (t_X5_copyFrom l dC dI _ Ω κ τ ν ρ L f108 hG hT b214 b221 hb215t hb222t) (cwV 1 hts gX10_copyFrom_X5_copyFrom rfl rfl rfl ⟨rfl, pd_X5_copyFrom⟩ ⟨Nat.le_of_ble_eq_true rfl, Nat.le_of_ble_eq_true rfl⟩) ⟨pz_blind, va_recv hK hP (ci := 5) (q0 := q231) rfl eq231, pz_pre hP hK hD hN⟩ rfl rfl hl.1 rfl (lv_room (Nat.le_of_ble_eq_true rfl)) dX10_copyFrom_165 ⟨Nat.le_of_ble_eq_true rfl, Nat.le_of_ble_eq_true rfl⟩) hS (fun q _ h => hFc q h) hFc (fun f234 t H1 locs ht hvm hw233 hB hz1 hk1 hS => ?_)
        refine tn_3 hw233 (fun hT hF235 hw233p => ?_); clear hw233
        have hR := hR.then hF235 (by decide)
        have hP := hB.1; rw [ht] at hP; have hD := tp_ad f234 hD; clear hB hFc hz1 hk1; subst ht; generalize t.heap = H at hP hS ⊢
        obtain ⟨z236, ez236⟩ : ∃ y : Int32, y = w107 + 1 := ⟨_, rfl⟩
        refine lv_iinc (v := z236) (lv' := [(2, .int z236), (0, .ref h0), (1, .ref h1)]) hx hb dX10_copyFrom_168 hl (k := 0) rfl (by rw [ez236]; rfl) (by decide) rfl (fun ls hl => ?_)
        have iz236 : z236.toInt = w107.toInt + 1 := zi_add ez236 rfl rfl (by omega) (by omega)
        refine lv_goto (tgt := 145) hx hb dX10_copyFrom_171 (by decide) ?_
        exact ih109 _ _ _ _ (by rw [hn110]; omega) ⟨f234, z236, rfl, hT, hR, (by omega), hP, hD, hS, lv_sub hl [0, 1, 2] rfl⟩
    · have ic106 : w100.toInt < o104_x4.toInt := zi_gef rfl rfl c106
      refine lv_aload_n hx hb dX10_copyFrom_122 rfl (lv_at hl 1 rfl) ?_
      refine va_get (D := (dC, dI)) (ci := 10) (v := .ref (ρ h0 9)) (C := RX10) (T := TX10) (N := 19) hx hb hts hfX10 hown hK hP q105 eq105 rfl 9 (by decide) (hts (.fieldLink RX10 27 "ColdShips$World" "terminals" "[LColdShips$Terminal;") wa_43) (fun _ h9 => h9) rfl dX10_copyFrom_123 ?_
      refine lv_iload_n hx hb dX10_copyFrom_126 rfl (lv_at hl 0 rfl) ?_
      refine tpk_24 hT y17 (fun g238 hf_o237 hf_o237e => ?_)
      refine tpk_pos (tp_in hG y17 (by decide)) hf_o237 (fun q239 eq239 => ?_)
      refine va_aldq hx hb hK hP q239 4 eq239 rfl (vp_in_iff.mpr ⟨by omega, by omega⟩) dX10_copyFrom_127 ?_
      obtain ⟨b240, hb241⟩ : ∃ b : Nat, b = ρ (ρ h0 9) w100.toNatClampNeg := ⟨_, rfl⟩
      have hb241t : τ b240 = 9 := by rw [hb241]; exact tpg_24 hG y17 _ (zi_cl (vp_in_iff.mpr ⟨by omega, by omega⟩))
      have hb241g : g238 w100.toNatClampNeg = some b240 := by rw [hb241]; exact hf_o237e _ (zi_cl (vp_in_iff.mpr ⟨by omega, by omega⟩))
      refine W.eq (g2 := F0 m 128 ls (.ref b240 :: [])) (congrArg (fun o => F0 m 128 ls (va_rf o :: [])) hb241g) ?_
      refine lv_aload_n hx hb dX10_copyFrom_128 rfl (lv_at hl 2 rfl) ?_
      refine tpk_11 hT ht_h1 (fun o242_x0 o242_x1 o242_x2 o242_x3 o242_x4 o242_x5 o242_x6 hf_o242 ro242_0 ro242_1 ro242_2 ro242_3 => ?_)
      refine tpk_pos (tp_in hG ht_h1 (by decide)) hf_o242 (fun q243 eq243 => ?_)
      refine va_get (D := (dC, dI)) (ci := 10) (v := .ref (ρ h1 9)) (C := RX10) (T := TX10) (N := 19) hx hb hts hfX10 hown hK hP q243 eq243 rfl 9 (by decide) (hts (.fieldLink RX10 27 "ColdShips$World" "terminals" "[LColdShips$Terminal;") wa_43) (fun _ h9 => h9) rfl dX10_copyFrom_129 ?_
      refine lv_iload_n hx hb dX10_copyFrom_132 rfl (lv_at hl 0 rfl) ?_
      refine tpk_24 hT y3 (fun g245 hf_o244 hf_o244e => ?_)
      refine tpk_pos (tp_in hG y3 (by decide)) hf_o244 (fun q246 eq246 => ?_)
      refine va_aldq hx hb hK hP q246 4 eq246 rfl (vp_in_iff.mpr ⟨by omega, by omega⟩) dX10_copyFrom_133 ?_
      obtain ⟨b247, hb248⟩ : ∃ b : Nat, b = ρ (ρ h1 9) w100.toNatClampNeg := ⟨_, rfl⟩
      have hb248t : τ b247 = 9 := by rw [hb248]; exact tpg_24 hG y3 _ (zi_cl (vp_in_iff.mpr ⟨by omega, by omega⟩))
      have hb248g : g245 w100.toNatClampNeg = some b247 := by rw [hb248]; exact hf_o244e _ (zi_cl (vp_in_iff.mpr ⟨by omega, by omega⟩))
      refine W.eq (g2 := F0 m 134 ls (.ref b247 :: [.ref b240])) (congrArg (fun o => F0 m 134 ls (va_rf o :: [.ref b240])) hb248g) ?_
      refine tgk_9 hG hb241t (fun y249 y249n y250 y250n => ?_)
      refine tpk_9 hT hb241t (fun o251_x0 o251_x1 o251_x2 o251_x3 o251_x4 hf_o251 ro251_0 => ?_)
      refine tpk_pos (tp_in hG hb241t (by decide)) hf_o251 (fun q252 eq252 => ?_)
      have hFc := tp_fr hD hS hA
      refine va_callv (va_runV (As := [.ref b247]) (rest := []) ⟨hx, hb, hml, hown, hts⟩ (t_X8_copyFrom l dC dI _ Ω κ τ ν ρ L f101 hG hT b240 b247 hb241t hb248t) (cwV 1 hts gX10_copyFrom_X8_copyFrom rfl rfl rfl ⟨rfl, pd_X8_copyFrom⟩ ⟨Nat.le_of_ble_eq_true rfl, Nat.le_of_ble_eq_true rfl⟩) ⟨pz_blind, va_recv hK hP (ci := 8) (q0 := q252) rfl eq252, pz_pre hP hK hD hN⟩ rfl rfl hl.1 rfl (lv_room (Nat.le_of_ble_eq_true rfl)) dX10_copyFrom_134 ⟨Nat.le_of_ble_eq_true rfl, Nat.le_of_ble_eq_true rfl⟩) hS (fun q _ h => hFc q h) hFc (fun f255 t H1 locs ht hvm hw254 hB hz1 hk1 hS => ?_)
      refine tn_3 hw254 (fun hT hF256 hw254p => ?_); clear hw254
      have hR := hR.then hF256 (by decide)
      have hP := hB.1; rw [ht] at hP; have hD := tp_ad f255 hD; clear hB hFc hz1 hk1; subst ht; generalize t.heap = H at hP hS ⊢
      obtain ⟨z257, ez257⟩ : ∃ y : Int32, y = w100 + 1 := ⟨_, rfl⟩
      refine lv_iinc (v := z257) (lv' := [(2, .int z257), (0, .ref h0), (1, .ref h1)]) hx hb dX10_copyFrom_137 hl (k := 0) rfl (by rw [ez257]; rfl) (by decide) rfl (fun ls hl => ?_)
      have iz257 : z257.toInt = w100.toInt + 1 := zi_add ez257 rfl rfl (by omega) (by omega)
      refine lv_goto (tgt := 114) hx hb dX10_copyFrom_140 (by decide) ?_
      exact ih102 _ _ _ _ (by rw [hn103]; omega) ⟨f255, z257, rfl, hT, hR, (by omega), hP, hD, hS, lv_sub hl [0, 1, 2] rfl⟩
  · have ic99 : w95.toInt < 12 := zi_gef rfl rfl c99
    refine lv_aload_n hx hb dX10_copyFrom_94 rfl (lv_at hl 1 rfl) ?_
    refine tpk_11 hT ht_h0 (fun o258_x0 o258_x1 o258_x2 o258_x3 o258_x4 o258_x5 o258_x6 hf_o258 ro258_0 ro258_1 ro258_2 ro258_3 => ?_)
    refine tpk_pos (tp_in hG ht_h0 (by decide)) hf_o258 (fun q259 eq259 => ?_)
    refine va_get (D := (dC, dI)) (ci := 10) (v := .ref (ρ h0 11)) (C := RX10) (T := TX10) (N := 19) hx hb hts hfX10 hown hK hP q259 eq259 rfl 11 (by decide) (hts (.fieldLink RX10 39 "ColdShips$World" "contracts" "[LColdShips$Contract;") wa_47) (fun _ h9 => h9) rfl dX10_copyFrom_95 ?_
    refine lv_iload_n hx hb dX10_copyFrom_98 rfl (lv_at hl 0 rfl) ?_
    refine lv_aload_n hx hb dX10_copyFrom_99 rfl (lv_at hl 2 rfl) ?_
    refine tpk_11 hT ht_h1 (fun o260_x0 o260_x1 o260_x2 o260_x3 o260_x4 o260_x5 o260_x6 hf_o260 ro260_0 ro260_1 ro260_2 ro260_3 => ?_)
    refine tpk_pos (tp_in hG ht_h1 (by decide)) hf_o260 (fun q261 eq261 => ?_)
    refine va_get (D := (dC, dI)) (ci := 10) (v := .ref (ρ h1 11)) (C := RX10) (T := TX10) (N := 19) hx hb hts hfX10 hown hK hP q261 eq261 rfl 11 (by decide) (hts (.fieldLink RX10 39 "ColdShips$World" "contracts" "[LColdShips$Contract;") wa_47) (fun _ h9 => h9) rfl dX10_copyFrom_100 ?_
    refine lv_iload_n hx hb dX10_copyFrom_103 rfl (lv_at hl 0 rfl) ?_
    refine tpk_26 hT y5 (fun g263 hf_o262 hf_o262e => ?_)
    refine tpk_pos (tp_in hG y5 (by decide)) hf_o262 (fun q264 eq264 => ?_)
    refine va_aldq hx hb hK hP q264 6 eq264 rfl (vp_in_iff.mpr ⟨by omega, by omega⟩) dX10_copyFrom_104 ?_
    have hq265 := hf_o262e w95.toNatClampNeg (zi_cl (vp_in_iff.mpr ⟨by omega, by omega⟩))
    refine tpk_26 hT y19 (fun g267 hf_o266 hf_o266e => ?_)
    refine tpk_pos (tp_in hG y19 (by decide)) hf_o266 (fun q268 eq268 => ?_)
    rcases hq265 with hq272 | ⟨b273, hq272, hq272t⟩
    · rw [hq272]
      refine va_astqN hx hb hK hP hD hS q268 6 eq268 rfl (vp_in_iff.mpr ⟨by omega, by omega⟩) dX10_copyFrom_105 (tp_k (.inl (κ 6, 12, .inr (.inr (.inr (.inr (va_up g267 w95.toNatClampNeg none)))))) hD (tp_in hG y19 (by decide)) eq268 (fun f274 H locs hP hD hS g276 k275 => ?_))
      have hT := hT.up y19 g276 k275 ⟨_, rfl, (tp_nuN hf_o266e _)⟩
      have hR := hR.up y19 (by decide) k275
      obtain ⟨z277, ez277⟩ : ∃ y : Int32, y = w95 + 1 := ⟨_, rfl⟩
      refine lv_iinc (v := z277) (lv' := [(2, .int z277), (0, .ref h0), (1, .ref h1)]) hx hb dX10_copyFrom_106 hl (k := 0) rfl (by rw [ez277]; rfl) (by decide) rfl (fun ls hl => ?_)
      have iz277 : z277.toInt = w95.toInt + 1 := zi_add ez277 rfl rfl (by omega) (by omega)
      refine lv_goto (tgt := 88) hx hb dX10_copyFrom_109 (by decide) ?_
      exact ih97 _ _ _ _ (by rw [hn98]; omega) ⟨f274, z277, rfl, hT, hR, (by omega), hP, hD, hS, lv_sub hl [0, 1, 2] rfl⟩
    · rw [hq272]
      refine tgk_1 hG hq272t (fun y281 y281n y282 y282n => ?_)
      refine tpk_1 hT hq272t (fun o283_x2 o283_x3 o283_x4 hf_o283 => ?_)
      refine tpk_pos (tp_in hG hq272t (by decide)) hf_o283 (fun q284 eq284 => ?_)
      refine va_astq hx hb hK hP hD hS q268 6 q284 0 eq268 rfl eq284 rfl (vp_in_iff.mpr ⟨by omega, by omega⟩) dX10_copyFrom_105 (tp_k (.inl (κ 6, 12, .inr (.inr (.inr (.inr (va_up g267 w95.toNatClampNeg (some b273))))))) hD (tp_in hG y19 (by decide)) eq268 (fun f278 H locs hP hD hS g280 k279 => ?_))
      have hT := hT.up y19 g280 k279 ⟨_, rfl, (tp_nu hf_o266e _ hq272t)⟩
      have hR := hR.up y19 (by decide) k279
      obtain ⟨z285, ez285⟩ : ∃ y : Int32, y = w95 + 1 := ⟨_, rfl⟩
      refine lv_iinc (v := z285) (lv' := [(2, .int z285), (0, .ref h0), (1, .ref h1)]) hx hb dX10_copyFrom_106 hl (k := 0) rfl (by rw [ez285]; rfl) (by decide) rfl (fun ls hl => ?_)
      have iz285 : z285.toInt = w95.toInt + 1 := zi_add ez285 rfl rfl (by omega) (by omega)
      refine lv_goto (tgt := 88) hx hb dX10_copyFrom_109 (by decide) ?_
      exact ih97 _ _ _ _ (by rw [hn98]; omega) ⟨f278, z285, rfl, hT, hR, (by omega), hP, hD, hS, lv_sub hl [0, 1, 2] rfl⟩
