set_option maxHeartbeats 4000000 in
set_option maxRecDepth 100000 in
theorem t_X12_fault (l : Launch) (dC : Nat → ClassId) (dI : Nat → Nat → Nat) (sz : Nat) (κ : Nat → ClassId) (Θ : Nat → Option Int) (τ ν : Nat → Nat) (ρ : Nat → Nat → Nat) (L : List Nat) (f : Nat → va_E) (hG : tp_G τ ν ρ L) (hT : tp_T (mo_O κ Θ) κ τ ν ρ f) (h0 : Nat) (ht_h0 : τ h0 = 13) (hJ : mo_RI (-1) 0 (mo_R (mo_i (f (ρ h0 2))))) : Met l yX12_fault wqX12_fault ({ frames := 2, cells := 0, slots := 0, locals := 400 }) (va_Pc [.ref h0] (pz_B dC dI (tp_K κ) (va_pl L f) sz)) (va_Qi (fun (r : Int32) (f1 : Nat → va_E) => tp_T (mo_O κ Θ) κ τ ν ρ f1 ∧ tp_F τ [13] f f1 ∧ True ∧ True) (fun (f1 : Nat → va_E) (t : State) => pz_E dC dI (tp_K κ) (va_A (va_pl L f) sz) (va_pl L f1) t) (va_A (va_pl L f) sz)) 0 0 (va_A (va_pl L f) sz) := by
  refine Met.ofW (cc := cX12_fault) (maxL := 1) (ret := some .int) (by decide) rfl ?_
  intro p e s m args below meth c s₁ B hml hv
  obtain ⟨rfl, hsz, hP, hK, hD0, hN⟩ := hv
  have hx := B.exec
  have hb := B.bytes
  have hr := B.returns
  have hts := fun (w : Cond) (h : w ∈ WALL) => atoms_spec (ws := wqX12_fault) B.pre w (List.mem_cons_of_mem _ h)
  have hown : s.vm.findClass RX12 = some m.cls := findClass_of_methodNamed B.named
  have hlocks := B.notSynchronized
  subst hsz
  have hD := hD0.self (sz := s.heap.size)
  generalize hAe : va_A (va_pl L f) s.heap.size = A at hD ⊢
  have hA : ∀ q : Nat, s.heap.size ≤ q → A q := fun q h => by rw [← hAe]; exact Or.inr h
  have hS : va_S A s.heap s.heap [] := va_S.rf
  have hR : tp_F τ [13] f f := tp_F.rf
  have hl := lv_entry ([.ref h0]) (n := 1) (Nat.le_of_ble_eq_true rfl)
  rw [lg_entry_eq]
  generalize (lg_sl ([.ref h0]) ++ List.replicate (1 - (lg_sl ([.ref h0])).length) Slot.unset).toArray = ls at hl ⊢
  have hl : lv_has ls 1 [(0, .ref h0)] := hl
  refine tgk_13 hG ht_h0 (fun y1 y2 y3 y4 y5 y6 y7 y8 y9 y10 y11 y12 y13 y14 y15 y16 y17 y18 y19 y20 y21 y22 y23 y24 y25 => ?_)
  refine tpk_32 hT y1 (fun g27 hf_o26 => ?_)
  have hI : mo_RI (-1) 0 (mo_R g27) := by have q9 := hJ; rw [hf_o26, mo_i1] at q9; exact q9
  refine lv_aload_n hx hb dX12_fault_0 rfl (lv_at hl 0 rfl) ?_
  refine lv_iconst (v := 0) hx hb dX12_fault_1 (by decide) ?_
  refine tpk_13 hT ht_h0 (fun o28_x0 o28_x1 o28_x7 o28_x9 o28_x10 o28_x11 o28_x12 o28_x13 o28_x14 o28_x15 o28_x16 o28_x17 o28_x18 o28_x19 o28_x20 o28_x22 o28_x25 o28_x28 o28_x29 o28_x32 o28_x33 o28_x34 o28_x35 o28_x36 o28_x37 o28_x38 o28_x47 o28_x48 hf_o28 ro28_0 ro28_1 ro28_2 ro28_3 ro28_4 ro28_5 ro28_6 ro28_7 ro28_8 ro28_9 ro28_10 ro28_11 ro28_12 ro28_13 ro28_14 => ?_)
  refine tpk_pos (tp_in hG ht_h0 (by decide)) hf_o28 (fun q29 eq29 => ?_)
  refine va_put (D := (dC, dI)) (ci := 12) (v := .int 0) (ty := .int) (C := RX12) (T := TX12) (N := 53) hx hb hts hfX12 tyX12 tyX12_ok nmX12 hown hK hP hD hS q29 eq29 rfl 0 (by decide) (hts (.fieldLink RX12 91 "ColdShipsModel" "thrown" "I") wa_209) (fun _ h9 => h9) rfl (tyX12_ok 0 (by decide)) rfl rfl (Nat.le_of_ble_eq_true rfl) dX12_fault_2 (tp_k (.inr (12, [.int 0, .int o28_x1, .ref (ρ h0 2), .ref (ρ h0 3), .ref (ρ h0 4), .ref (ρ h0 5), .ref (ρ h0 6), .int o28_x7, .ref (ρ h0 8), .int o28_x9, .int o28_x10, .int o28_x11, .int o28_x12, .long o28_x13, .int o28_x14, .int o28_x15, .int o28_x16, .int o28_x17, .int o28_x18, .int o28_x19, .int o28_x20, .ref (ρ h0 21), .int o28_x22, .ref (ρ h0 23), .ref (ρ h0 24), .int o28_x25, .ref (ρ h0 26), .ref (ρ h0 27), .int o28_x28, .int o28_x29, .ref (ρ h0 30), .ref (ρ h0 31), .int o28_x32, .long o28_x33, .long o28_x34, .long o28_x35, .int o28_x36, .int o28_x37, .int o28_x38, .ref (ρ h0 39), .ref (ρ h0 40), .ref (ρ h0 41), .ref (ρ h0 42), .ref (ρ h0 43), .ref (ρ h0 44), .ref (ρ h0 45), .ref (ρ h0 46), .int o28_x47, .int o28_x48, .ref (ρ h0 49), .ref (ρ h0 50), .ref (ρ h0 51), .ref (ρ h0 52)])) hD (tp_in hG ht_h0 (by decide)) eq29 (fun f30 H locs hP hD hS g32 k31 => ?_))
  have hT := hT.up ht_h0 g32 k31 ⟨_, _, _, _, _, _, _, _, _, _, _, _, _, _, _, _, _, _, _, _, _, _, _, _, _, _, _, _, rfl, ro28_0, ro28_1, ro28_2, ro28_3, ro28_4, ro28_5, ro28_6, ro28_7, ro28_8, ro28_9, ro28_10, ro28_11, ro28_12, ro28_13, ro28_14⟩
  have hR := hR.up ht_h0 (by decide) k31
  refine lv_aload_n hx hb dX12_fault_5 rfl (lv_at hl 0 rfl) ?_
  refine tpk_pos (tp_in hG ht_h0 (by decide)) g32 (fun q33 eq33 => ?_)
  refine va_get (D := (dC, dI)) (ci := 12) (v := .int o28_x14) (C := RX12) (T := TX12) (N := 53) hx hb hts hfX12 hown hK hP q33 eq33 rfl 14 (by decide) (hts (.fieldLink RX12 30 "ColdShipsModel" "fault" "I") wa_155) (fun _ h9 => h9) rfl dX12_fault_6 ?_
  exact W.iret (v := o28_x14) hx hb hr (fun t ht hW => ⟨⟨o28_x14, f30, rfl, ⟨hT, hR, trivial, trivial⟩, by rw [ht]; exact hP, va_K.moved hW.alike hK, hD⟩, hS.F ht⟩) hS.2.2 dX12_fault_9
set_option maxHeartbeats 4000000 in
set_option maxRecDepth 100000 in
theorem t_X12_clear (l : Launch) (dC : Nat → ClassId) (dI : Nat → Nat → Nat) (sz : Nat) (κ : Nat → ClassId) (Θ : Nat → Option Int) (τ ν : Nat → Nat) (ρ : Nat → Nat → Nat) (L : List Nat) (f : Nat → va_E) (hG : tp_G τ ν ρ L) (hT : tp_T (mo_O κ Θ) κ τ ν ρ f) (h0 : Nat) (ht_h0 : τ h0 = 13) (hJ : mo_RI (-1) 0 (mo_R (mo_i (f (ρ h0 2))))) : Met l yX12_clear wqX12_clear ({ frames := 2, cells := 0, slots := 0, locals := 400 }) (va_Pc [.ref h0] (pz_B dC dI (tp_K κ) (va_pl L f) sz)) (va_Qi (fun (r : Int32) (f1 : Nat → va_E) => tp_T (mo_O κ Θ) κ τ ν ρ f1 ∧ tp_F τ [13, 32] f f1 ∧ True ∧ mo_RI (-1) 0 (mo_R (mo_i (f1 (ρ h0 2)))) ∧ mo_KN (fun k => k = 10) (mo_R (mo_i (f (ρ h0 2)))) (mo_R (mo_i (f1 (ρ h0 2)))) ∧ (r.toInt = (mo_R (mo_i (f (ρ h0 2)))) (10)) ∧ ((mo_R (mo_i (f1 (ρ h0 2)))) (10) = 0)) (fun (f1 : Nat → va_E) (t : State) => pz_E dC dI (tp_K κ) (va_A (va_pl L f) sz) (va_pl L f1) t) (va_A (va_pl L f) sz)) 0 0 (va_A (va_pl L f) sz) := by
  refine Met.ofW (cc := cX12_clear) (maxL := 2) (ret := some .int) (by decide) rfl ?_
  intro p e s m args below meth c s₁ B hml hv
  obtain ⟨rfl, hsz, hP, hK, hD0, hN⟩ := hv
  have hx := B.exec
  have hb := B.bytes
  have hr := B.returns
  have hts := fun (w : Cond) (h : w ∈ WALL) => atoms_spec (ws := wqX12_clear) B.pre w (List.mem_cons_of_mem _ h)
  have hown : s.vm.findClass RX12 = some m.cls := findClass_of_methodNamed B.named
  have hlocks := B.notSynchronized
  subst hsz
  have hD := hD0.self (sz := s.heap.size)
  generalize hAe : va_A (va_pl L f) s.heap.size = A at hD ⊢
  have hA : ∀ q : Nat, s.heap.size ≤ q → A q := fun q h => by rw [← hAe]; exact Or.inr h
  have hS : va_S A s.heap s.heap [] := va_S.rf
  have hR : tp_F τ [13, 32] f f := tp_F.rf
  have hl := lv_entry ([.ref h0]) (n := 2) (Nat.le_of_ble_eq_true rfl)
  rw [lg_entry_eq]
  generalize (lg_sl ([.ref h0]) ++ List.replicate (2 - (lg_sl ([.ref h0])).length) Slot.unset).toArray = ls at hl ⊢
  have hl : lv_has ls 2 [(0, .ref h0)] := hl
  refine tgk_13 hG ht_h0 (fun y1 y2 y3 y4 y5 y6 y7 y8 y9 y10 y11 y12 y13 y14 y15 y16 y17 y18 y19 y20 y21 y22 y23 y24 y25 => ?_)
  refine tpk_32 hT y1 (fun g27 hf_o26 => ?_)
  have hI : mo_RI (-1) 0 (mo_R g27) := by have q9 := hJ; rw [hf_o26, mo_i1] at q9; exact q9
  have hKN : mo_KN (fun k => k = 10) (mo_R g27) (mo_R g27) := mo_KN.rf
  refine lv_aload_n hx hb dX12_clear_0 rfl (lv_at hl 0 rfl) ?_
  refine lv_iconst (v := 0) hx hb dX12_clear_1 (by decide) ?_
  refine tpk_13 hT ht_h0 (fun o28_x0 o28_x1 o28_x7 o28_x9 o28_x10 o28_x11 o28_x12 o28_x13 o28_x14 o28_x15 o28_x16 o28_x17 o28_x18 o28_x19 o28_x20 o28_x22 o28_x25 o28_x28 o28_x29 o28_x32 o28_x33 o28_x34 o28_x35 o28_x36 o28_x37 o28_x38 o28_x47 o28_x48 hf_o28 ro28_0 ro28_1 ro28_2 ro28_3 ro28_4 ro28_5 ro28_6 ro28_7 ro28_8 ro28_9 ro28_10 ro28_11 ro28_12 ro28_13 ro28_14 => ?_)
  refine tpk_pos (tp_in hG ht_h0 (by decide)) hf_o28 (fun q29 eq29 => ?_)
  refine va_put (D := (dC, dI)) (ci := 12) (v := .int 0) (ty := .int) (C := RX12) (T := TX12) (N := 53) hx hb hts hfX12 tyX12 tyX12_ok nmX12 hown hK hP hD hS q29 eq29 rfl 0 (by decide) (hts (.fieldLink RX12 91 "ColdShipsModel" "thrown" "I") wa_209) (fun _ h9 => h9) rfl (tyX12_ok 0 (by decide)) rfl rfl (Nat.le_of_ble_eq_true rfl) dX12_clear_2 (tp_k (.inr (12, [.int 0, .int o28_x1, .ref (ρ h0 2), .ref (ρ h0 3), .ref (ρ h0 4), .ref (ρ h0 5), .ref (ρ h0 6), .int o28_x7, .ref (ρ h0 8), .int o28_x9, .int o28_x10, .int o28_x11, .int o28_x12, .long o28_x13, .int o28_x14, .int o28_x15, .int o28_x16, .int o28_x17, .int o28_x18, .int o28_x19, .int o28_x20, .ref (ρ h0 21), .int o28_x22, .ref (ρ h0 23), .ref (ρ h0 24), .int o28_x25, .ref (ρ h0 26), .ref (ρ h0 27), .int o28_x28, .int o28_x29, .ref (ρ h0 30), .ref (ρ h0 31), .int o28_x32, .long o28_x33, .long o28_x34, .long o28_x35, .int o28_x36, .int o28_x37, .int o28_x38, .ref (ρ h0 39), .ref (ρ h0 40), .ref (ρ h0 41), .ref (ρ h0 42), .ref (ρ h0 43), .ref (ρ h0 44), .ref (ρ h0 45), .ref (ρ h0 46), .int o28_x47, .int o28_x48, .ref (ρ h0 49), .ref (ρ h0 50), .ref (ρ h0 51), .ref (ρ h0 52)])) hD (tp_in hG ht_h0 (by decide)) eq29 (fun f30 H locs hP hD hS g32 k31 => ?_))
  have hT := hT.up ht_h0 g32 k31 ⟨_, _, _, _, _, _, _, _, _, _, _, _, _, _, _, _, _, _, _, _, _, _, _, _, _, _, _, _, rfl, ro28_0, ro28_1, ro28_2, ro28_3, ro28_4, ro28_5, ro28_6, ro28_7, ro28_8, ro28_9, ro28_10, ro28_11, ro28_12, ro28_13, ro28_14⟩
  have hR := hR.up ht_h0 (by decide) k31
  refine lv_aload_n hx hb dX12_clear_5 rfl (lv_at hl 0 rfl) ?_
  refine tpk_pos (tp_in hG ht_h0 (by decide)) g32 (fun q33 eq33 => ?_)
  refine va_get (D := (dC, dI)) (ci := 12) (v := .ref (ρ h0 2)) (C := RX12) (T := TX12) (N := 53) hx hb hts hfX12 hown hK hP q33 eq33 rfl 2 (by decide) (hts (.fieldLink RX12 7 "ColdShipsModel" "row" "[I") wa_148) (fun _ h9 => h9) rfl dX12_clear_6 ?_
  refine lv_bipush (v := 10) hx hb dX12_clear_9 (by decide) ?_
  have hf_34 : f30 (ρ h0 2) = .inl (κ 0, 12967, .inl g27) := (k31 _ (tp_ne y1 ht_h0 (by decide))).trans hf_o26
  refine tpk_pos (tp_in hG y1 (by decide)) hf_34 (fun q35 eq35 => ?_)
  refine va_iald hx hb hK hP q35 0 eq35 rfl (vp_in_iff.mpr ⟨by decide, by decide⟩) dX12_clear_11 ?_
  refine lv_topi (fun z36 ez36 => ?_)
  have jz36 : z36.toInt = mo_R g27 (10) := mo_rd ez36 (show (10 : Int32).toInt = (10) from by decide)
  have kz36 := hI.k10
  refine lv_istore_n (lv' := [(1, .int z36), (0, .ref h0)]) hx hb dX12_clear_12 rfl hl (by decide) rfl (fun ls hl => ?_)
  refine lv_aload_n hx hb dX12_clear_13 rfl (lv_at hl 1 rfl) ?_
  refine va_get (D := (dC, dI)) (ci := 12) (v := .ref (ρ h0 2)) (C := RX12) (T := TX12) (N := 53) hx hb hts hfX12 hown hK hP q33 eq33 rfl 2 (by decide) (hts (.fieldLink RX12 7 "ColdShipsModel" "row" "[I") wa_148) (fun _ h9 => h9) rfl dX12_clear_14 ?_
  refine lv_bipush (v := 10) hx hb dX12_clear_17 (by decide) ?_
  refine lv_iconst (v := 0) hx hb dX12_clear_19 (by decide) ?_
  refine va_iast hx hb hK hP hD hS q35 0 eq35 rfl (vp_in_iff.mpr ⟨by decide, by decide⟩) dX12_clear_20 (tp_k (.inl (κ 0, 12967, .inl (upd g27 (10 : Int32).toNatClampNeg (0 : Int32)))) hD (tp_in hG y1 (by decide)) eq35 (fun f37 H locs hP hD hS g39 k38 => ?_))
  have hT := hT.up y1 g39 k38 tp_o32
  have hR := hR.up y1 (by decide) k38
  have hU : mo_U (mo_R g27) (mo_R (upd g27 (10 : Int32).toNatClampNeg (0 : Int32))) (10) (0) := mo_up (show (10 : Int32).toInt = (10) from by decide) (show (0 : Int32).toInt = 0 from rfl) (by omega)
  generalize (upd g27 (10 : Int32).toNatClampNeg (0 : Int32)) = g40 at g39 hU
  have hI := mo_w_nA0 hI hU rfl rfl
  have hKN := hKN.up hU (Or.inr (by show (10) = 10; omega))
  have pn41 : mo_R g40 (10) = 0 := hU.eq (by omega)
  refine lv_iload_n hx hb dX12_clear_21 rfl (lv_at hl 0 rfl) ?_
  exact W.iret (v := z36) hx hb hr (fun t ht hW => ⟨⟨z36, f37, rfl, ⟨hT, hR, trivial, ⟨(by rw [g39, mo_i1]; exact hI), (by rw [g39, mo_i1, hf_o26, mo_i1]; exact hKN), (by simp only [g39, hf_o26, mo_i1]; exact ⟨(by omega), (by omega)⟩)⟩⟩, by rw [ht]; exact hP, va_K.moved hW.alike hK, hD⟩, hS.F ht⟩) hS.2.2 dX12_clear_22
set_option maxHeartbeats 4000000 in
set_option maxRecDepth 100000 in
theorem t_X12_count (l : Launch) (dC : Nat → ClassId) (dI : Nat → Nat → Nat) (sz : Nat) (κ : Nat → ClassId) (Θ : Nat → Option Int) (τ ν : Nat → Nat) (ρ : Nat → Nat → Nat) (L : List Nat) (f : Nat → va_E) (hG : tp_G τ ν ρ L) (hT : tp_T (mo_O κ Θ) κ τ ν ρ f) (h0 : Nat) (v : Int32) (ht_h0 : τ h0 = 13) (hJ : mo_RI (-1) 0 (mo_R (mo_i (f (ρ h0 2))))) : Met l yX12_count wqX12_count ({ frames := 2, cells := 0, slots := 0, locals := 400 }) (va_Pc [.ref h0, .int v] (pz_B dC dI (tp_K κ) (va_pl L f) sz)) (va_Qi (fun (r : Int32) (f1 : Nat → va_E) => tp_T (mo_O κ Θ) κ τ ν ρ f1 ∧ tp_F τ [13] f f1 ∧ True ∧ True) (fun (f1 : Nat → va_E) (t : State) => pz_E dC dI (tp_K κ) (va_A (va_pl L f) sz) (va_pl L f1) t) (va_A (va_pl L f) sz)) 0 0 (va_A (va_pl L f) sz) := by
  refine Met.ofW (cc := cX12_count) (maxL := 2) (ret := some .int) (by decide) rfl ?_
  intro p e s m args below meth c s₁ B hml hv
  obtain ⟨rfl, hsz, hP, hK, hD0, hN⟩ := hv
  have hx := B.exec
  have hb := B.bytes
  have hr := B.returns
  have hts := fun (w : Cond) (h : w ∈ WALL) => atoms_spec (ws := wqX12_count) B.pre w (List.mem_cons_of_mem _ h)
  have hown : s.vm.findClass RX12 = some m.cls := findClass_of_methodNamed B.named
  have hlocks := B.notSynchronized
  subst hsz
  have hD := hD0.self (sz := s.heap.size)
  generalize hAe : va_A (va_pl L f) s.heap.size = A at hD ⊢
  have hA : ∀ q : Nat, s.heap.size ≤ q → A q := fun q h => by rw [← hAe]; exact Or.inr h
  have hS : va_S A s.heap s.heap [] := va_S.rf
  have hR : tp_F τ [13] f f := tp_F.rf
  have hl := lv_entry ([.ref h0, .int v]) (n := 2) (Nat.le_of_ble_eq_true rfl)
  rw [lg_entry_eq]
  generalize (lg_sl ([.ref h0, .int v]) ++ List.replicate (2 - (lg_sl ([.ref h0, .int v])).length) Slot.unset).toArray = ls at hl ⊢
  have hl : lv_has ls 2 [(0, .ref h0), (1, .int v)] := hl
  refine tgk_13 hG ht_h0 (fun y1 y2 y3 y4 y5 y6 y7 y8 y9 y10 y11 y12 y13 y14 y15 y16 y17 y18 y19 y20 y21 y22 y23 y24 y25 => ?_)
  refine tpk_32 hT y1 (fun g27 hf_o26 => ?_)
  have hI : mo_RI (-1) 0 (mo_R g27) := by have q9 := hJ; rw [hf_o26, mo_i1] at q9; exact q9
  refine lv_aload_n hx hb dX12_count_0 rfl (lv_at hl 0 rfl) ?_
  refine lv_iconst (v := 0) hx hb dX12_count_1 (by decide) ?_
  refine tpk_13 hT ht_h0 (fun o28_x0 o28_x1 o28_x7 o28_x9 o28_x10 o28_x11 o28_x12 o28_x13 o28_x14 o28_x15 o28_x16 o28_x17 o28_x18 o28_x19 o28_x20 o28_x22 o28_x25 o28_x28 o28_x29 o28_x32 o28_x33 o28_x34 o28_x35 o28_x36 o28_x37 o28_x38 o28_x47 o28_x48 hf_o28 ro28_0 ro28_1 ro28_2 ro28_3 ro28_4 ro28_5 ro28_6 ro28_7 ro28_8 ro28_9 ro28_10 ro28_11 ro28_12 ro28_13 ro28_14 => ?_)
  refine tpk_pos (tp_in hG ht_h0 (by decide)) hf_o28 (fun q29 eq29 => ?_)
  refine va_put (D := (dC, dI)) (ci := 12) (v := .int 0) (ty := .int) (C := RX12) (T := TX12) (N := 53) hx hb hts hfX12 tyX12 tyX12_ok nmX12 hown hK hP hD hS q29 eq29 rfl 0 (by decide) (hts (.fieldLink RX12 91 "ColdShipsModel" "thrown" "I") wa_209) (fun _ h9 => h9) rfl (tyX12_ok 0 (by decide)) rfl rfl (Nat.le_of_ble_eq_true rfl) dX12_count_2 (tp_k (.inr (12, [.int 0, .int o28_x1, .ref (ρ h0 2), .ref (ρ h0 3), .ref (ρ h0 4), .ref (ρ h0 5), .ref (ρ h0 6), .int o28_x7, .ref (ρ h0 8), .int o28_x9, .int o28_x10, .int o28_x11, .int o28_x12, .long o28_x13, .int o28_x14, .int o28_x15, .int o28_x16, .int o28_x17, .int o28_x18, .int o28_x19, .int o28_x20, .ref (ρ h0 21), .int o28_x22, .ref (ρ h0 23), .ref (ρ h0 24), .int o28_x25, .ref (ρ h0 26), .ref (ρ h0 27), .int o28_x28, .int o28_x29, .ref (ρ h0 30), .ref (ρ h0 31), .int o28_x32, .long o28_x33, .long o28_x34, .long o28_x35, .int o28_x36, .int o28_x37, .int o28_x38, .ref (ρ h0 39), .ref (ρ h0 40), .ref (ρ h0 41), .ref (ρ h0 42), .ref (ρ h0 43), .ref (ρ h0 44), .ref (ρ h0 45), .ref (ρ h0 46), .int o28_x47, .int o28_x48, .ref (ρ h0 49), .ref (ρ h0 50), .ref (ρ h0 51), .ref (ρ h0 52)])) hD (tp_in hG ht_h0 (by decide)) eq29 (fun f30 H locs hP hD hS g32 k31 => ?_))
  have hT := hT.up ht_h0 g32 k31 ⟨_, _, _, _, _, _, _, _, _, _, _, _, _, _, _, _, _, _, _, _, _, _, _, _, _, _, _, _, rfl, ro28_0, ro28_1, ro28_2, ro28_3, ro28_4, ro28_5, ro28_6, ro28_7, ro28_8, ro28_9, ro28_10, ro28_11, ro28_12, ro28_13, ro28_14⟩
  have hR := hR.up ht_h0 (by decide) k31
  refine lv_iload_n hx hb dX12_count_5 rfl (lv_at hl 1 rfl) ?_
  rcases zi_sw v 0 8 with h33 | h33
  · refine lv_tableOut (tgt := 121) hx hb dX12_count_6 h33 (by decide) ?_
    refine lv_iconst (v := (-1)) hx hb dX12_count_121 (by decide) ?_
    exact W.iret (v := (-1)) hx hb hr (fun t ht hW => ⟨⟨(-1), f30, rfl, ⟨hT, hR, trivial, trivial⟩, by rw [ht]; exact hP, va_K.moved hW.alike hK, hD⟩, hS.F ht⟩) hS.2.2 dX12_count_122
  · rcases (show v.toInt = 0 ∨ v.toInt = 1 ∨ v.toInt = 2 ∨ v.toInt = 3 ∨ v.toInt = 4 ∨ v.toInt = 5 ∨ v.toInt = 6 ∨ v.toInt = 7 ∨ v.toInt = 8 by omega) with h33k | h33k | h33k | h33k | h33k | h33k | h33k | h33k | h33k
    · refine lv_tableIn (tgt := 56) hx hb dX12_count_6 (by omega) (by omega) (by rw [h33k]; rfl) (by decide) ?_
      refine lv_aload_n hx hb dX12_count_56 rfl (lv_at hl 0 rfl) ?_
      refine tpk_pos (tp_in hG ht_h0 (by decide)) g32 (fun q34 eq34 => ?_)
      refine va_get (D := (dC, dI)) (ci := 12) (v := .ref (ρ h0 2)) (C := RX12) (T := TX12) (N := 53) hx hb hts hfX12 hown hK hP q34 eq34 rfl 2 (by decide) (hts (.fieldLink RX12 7 "ColdShipsModel" "row" "[I") wa_148) (fun _ h9 => h9) rfl dX12_count_57 ?_
      refine lv_bipush (v := 11) hx hb dX12_count_60 (by decide) ?_
      have hf_35 : f30 (ρ h0 2) = .inl (κ 0, 12967, .inl g27) := (k31 _ (tp_ne y1 ht_h0 (by decide))).trans hf_o26
      refine tpk_pos (tp_in hG y1 (by decide)) hf_35 (fun q36 eq36 => ?_)
      refine va_iald hx hb hK hP q36 0 eq36 rfl (vp_in_iff.mpr ⟨by decide, by decide⟩) dX12_count_62 ?_
      refine lv_topi (fun z37 ez37 => ?_)
      have jz37 : z37.toInt = mo_R g27 (11) := mo_rd ez37 (show (11 : Int32).toInt = (11) from by decide)
      have kz37 := hI.k11
      exact W.iret (v := z37) hx hb hr (fun t ht hW => ⟨⟨z37, f30, rfl, ⟨hT, hR, trivial, trivial⟩, by rw [ht]; exact hP, va_K.moved hW.alike hK, hD⟩, hS.F ht⟩) hS.2.2 dX12_count_63
    · refine lv_tableIn (tgt := 64) hx hb dX12_count_6 (by omega) (by omega) (by rw [h33k]; rfl) (by decide) ?_
      refine lv_aload_n hx hb dX12_count_64 rfl (lv_at hl 0 rfl) ?_
      refine tpk_pos (tp_in hG ht_h0 (by decide)) g32 (fun q38 eq38 => ?_)
      refine va_get (D := (dC, dI)) (ci := 12) (v := .ref (ρ h0 2)) (C := RX12) (T := TX12) (N := 53) hx hb hts hfX12 hown hK hP q38 eq38 rfl 2 (by decide) (hts (.fieldLink RX12 7 "ColdShipsModel" "row" "[I") wa_148) (fun _ h9 => h9) rfl dX12_count_65 ?_
      refine lv_iconst (v := 0) hx hb dX12_count_68 (by decide) ?_
      have hf_39 : f30 (ρ h0 2) = .inl (κ 0, 12967, .inl g27) := (k31 _ (tp_ne y1 ht_h0 (by decide))).trans hf_o26
      refine tpk_pos (tp_in hG y1 (by decide)) hf_39 (fun q40 eq40 => ?_)
      refine va_iald hx hb hK hP q40 0 eq40 rfl (vp_in_iff.mpr ⟨by decide, by decide⟩) dX12_count_69 ?_
      refine lv_topi (fun z41 ez41 => ?_)
      have jz41 : z41.toInt = mo_R g27 (0) := mo_rd ez41 (show (0 : Int32).toInt = (0) from by decide)
      have kz41 := hI.k0
      exact W.iret (v := z41) hx hb hr (fun t ht hW => ⟨⟨z41, f30, rfl, ⟨hT, hR, trivial, trivial⟩, by rw [ht]; exact hP, va_K.moved hW.alike hK, hD⟩, hS.F ht⟩) hS.2.2 dX12_count_70
    · refine lv_tableIn (tgt := 71) hx hb dX12_count_6 (by omega) (by omega) (by rw [h33k]; rfl) (by decide) ?_
      refine lv_aload_n hx hb dX12_count_71 rfl (lv_at hl 0 rfl) ?_
      refine tpk_pos (tp_in hG ht_h0 (by decide)) g32 (fun q42 eq42 => ?_)
      refine va_get (D := (dC, dI)) (ci := 12) (v := .ref (ρ h0 2)) (C := RX12) (T := TX12) (N := 53) hx hb hts hfX12 hown hK hP q42 eq42 rfl 2 (by decide) (hts (.fieldLink RX12 7 "ColdShipsModel" "row" "[I") wa_148) (fun _ h9 => h9) rfl dX12_count_72 ?_
      refine lv_iconst (v := 1) hx hb dX12_count_75 (by decide) ?_
      have hf_43 : f30 (ρ h0 2) = .inl (κ 0, 12967, .inl g27) := (k31 _ (tp_ne y1 ht_h0 (by decide))).trans hf_o26
      refine tpk_pos (tp_in hG y1 (by decide)) hf_43 (fun q44 eq44 => ?_)
      refine va_iald hx hb hK hP q44 0 eq44 rfl (vp_in_iff.mpr ⟨by decide, by decide⟩) dX12_count_76 ?_
      refine lv_topi (fun z45 ez45 => ?_)
      have jz45 : z45.toInt = mo_R g27 (1) := mo_rd ez45 (show (1 : Int32).toInt = (1) from by decide)
      have kz45 := hI.k1
      exact W.iret (v := z45) hx hb hr (fun t ht hW => ⟨⟨z45, f30, rfl, ⟨hT, hR, trivial, trivial⟩, by rw [ht]; exact hP, va_K.moved hW.alike hK, hD⟩, hS.F ht⟩) hS.2.2 dX12_count_77
    · refine lv_tableIn (tgt := 78) hx hb dX12_count_6 (by omega) (by omega) (by rw [h33k]; rfl) (by decide) ?_
      refine lv_aload_n hx hb dX12_count_78 rfl (lv_at hl 0 rfl) ?_
      refine tpk_pos (tp_in hG ht_h0 (by decide)) g32 (fun q46 eq46 => ?_)
      refine va_get (D := (dC, dI)) (ci := 12) (v := .ref (ρ h0 2)) (C := RX12) (T := TX12) (N := 53) hx hb hts hfX12 hown hK hP q46 eq46 rfl 2 (by decide) (hts (.fieldLink RX12 7 "ColdShipsModel" "row" "[I") wa_148) (fun _ h9 => h9) rfl dX12_count_79 ?_
      refine lv_iconst (v := 2) hx hb dX12_count_82 (by decide) ?_
      have hf_47 : f30 (ρ h0 2) = .inl (κ 0, 12967, .inl g27) := (k31 _ (tp_ne y1 ht_h0 (by decide))).trans hf_o26
      refine tpk_pos (tp_in hG y1 (by decide)) hf_47 (fun q48 eq48 => ?_)
      refine va_iald hx hb hK hP q48 0 eq48 rfl (vp_in_iff.mpr ⟨by decide, by decide⟩) dX12_count_83 ?_
      refine lv_topi (fun z49 ez49 => ?_)
      have jz49 : z49.toInt = mo_R g27 (2) := mo_rd ez49 (show (2 : Int32).toInt = (2) from by decide)
      have kz49 := hI.k2
      exact W.iret (v := z49) hx hb hr (fun t ht hW => ⟨⟨z49, f30, rfl, ⟨hT, hR, trivial, trivial⟩, by rw [ht]; exact hP, va_K.moved hW.alike hK, hD⟩, hS.F ht⟩) hS.2.2 dX12_count_84
    · refine lv_tableIn (tgt := 85) hx hb dX12_count_6 (by omega) (by omega) (by rw [h33k]; rfl) (by decide) ?_
      refine lv_aload_n hx hb dX12_count_85 rfl (lv_at hl 0 rfl) ?_
      refine tpk_pos (tp_in hG ht_h0 (by decide)) g32 (fun q50 eq50 => ?_)
      refine va_get (D := (dC, dI)) (ci := 12) (v := .ref (ρ h0 2)) (C := RX12) (T := TX12) (N := 53) hx hb hts hfX12 hown hK hP q50 eq50 rfl 2 (by decide) (hts (.fieldLink RX12 7 "ColdShipsModel" "row" "[I") wa_148) (fun _ h9 => h9) rfl dX12_count_86 ?_
      refine lv_iconst (v := 5) hx hb dX12_count_89 (by decide) ?_
      have hf_51 : f30 (ρ h0 2) = .inl (κ 0, 12967, .inl g27) := (k31 _ (tp_ne y1 ht_h0 (by decide))).trans hf_o26
      refine tpk_pos (tp_in hG y1 (by decide)) hf_51 (fun q52 eq52 => ?_)
      refine va_iald hx hb hK hP q52 0 eq52 rfl (vp_in_iff.mpr ⟨by decide, by decide⟩) dX12_count_90 ?_
      refine lv_topi (fun z53 ez53 => ?_)
      have jz53 : z53.toInt = mo_R g27 (5) := mo_rd ez53 (show (5 : Int32).toInt = (5) from by decide)
      have kz53 := hI.k5
      exact W.iret (v := z53) hx hb hr (fun t ht hW => ⟨⟨z53, f30, rfl, ⟨hT, hR, trivial, trivial⟩, by rw [ht]; exact hP, va_K.moved hW.alike hK, hD⟩, hS.F ht⟩) hS.2.2 dX12_count_91
    · refine lv_tableIn (tgt := 92) hx hb dX12_count_6 (by omega) (by omega) (by rw [h33k]; rfl) (by decide) ?_
      refine lv_aload_n hx hb dX12_count_92 rfl (lv_at hl 0 rfl) ?_
      refine tpk_pos (tp_in hG ht_h0 (by decide)) g32 (fun q54 eq54 => ?_)
      refine va_get (D := (dC, dI)) (ci := 12) (v := .ref (ρ h0 2)) (C := RX12) (T := TX12) (N := 53) hx hb hts hfX12 hown hK hP q54 eq54 rfl 2 (by decide) (hts (.fieldLink RX12 7 "ColdShipsModel" "row" "[I") wa_148) (fun _ h9 => h9) rfl dX12_count_93 ?_
      refine lv_bipush (v := 8) hx hb dX12_count_96 (by decide) ?_
      have hf_55 : f30 (ρ h0 2) = .inl (κ 0, 12967, .inl g27) := (k31 _ (tp_ne y1 ht_h0 (by decide))).trans hf_o26
      refine tpk_pos (tp_in hG y1 (by decide)) hf_55 (fun q56 eq56 => ?_)
      refine va_iald hx hb hK hP q56 0 eq56 rfl (vp_in_iff.mpr ⟨by decide, by decide⟩) dX12_count_98 ?_
      refine lv_topi (fun z57 ez57 => ?_)
      have jz57 : z57.toInt = mo_R g27 (8) := mo_rd ez57 (show (8 : Int32).toInt = (8) from by decide)
      have kz57 := hI.k8
      exact W.iret (v := z57) hx hb hr (fun t ht hW => ⟨⟨z57, f30, rfl, ⟨hT, hR, trivial, trivial⟩, by rw [ht]; exact hP, va_K.moved hW.alike hK, hD⟩, hS.F ht⟩) hS.2.2 dX12_count_99
    · refine lv_tableIn (tgt := 100) hx hb dX12_count_6 (by omega) (by omega) (by rw [h33k]; rfl) (by decide) ?_
      refine lv_aload_n hx hb dX12_count_100 rfl (lv_at hl 0 rfl) ?_
      refine tpk_pos (tp_in hG ht_h0 (by decide)) g32 (fun q58 eq58 => ?_)
      refine va_get (D := (dC, dI)) (ci := 12) (v := .ref (ρ h0 2)) (C := RX12) (T := TX12) (N := 53) hx hb hts hfX12 hown hK hP q58 eq58 rfl 2 (by decide) (hts (.fieldLink RX12 7 "ColdShipsModel" "row" "[I") wa_148) (fun _ h9 => h9) rfl dX12_count_101 ?_
      refine lv_bipush (v := 10) hx hb dX12_count_104 (by decide) ?_
      have hf_59 : f30 (ρ h0 2) = .inl (κ 0, 12967, .inl g27) := (k31 _ (tp_ne y1 ht_h0 (by decide))).trans hf_o26
      refine tpk_pos (tp_in hG y1 (by decide)) hf_59 (fun q60 eq60 => ?_)
      refine va_iald hx hb hK hP q60 0 eq60 rfl (vp_in_iff.mpr ⟨by decide, by decide⟩) dX12_count_106 ?_
      refine lv_topi (fun z61 ez61 => ?_)
      have jz61 : z61.toInt = mo_R g27 (10) := mo_rd ez61 (show (10 : Int32).toInt = (10) from by decide)
      have kz61 := hI.k10
      exact W.iret (v := z61) hx hb hr (fun t ht hW => ⟨⟨z61, f30, rfl, ⟨hT, hR, trivial, trivial⟩, by rw [ht]; exact hP, va_K.moved hW.alike hK, hD⟩, hS.F ht⟩) hS.2.2 dX12_count_107
    · refine lv_tableIn (tgt := 108) hx hb dX12_count_6 (by omega) (by omega) (by rw [h33k]; rfl) (by decide) ?_
      refine lv_aload_n hx hb dX12_count_108 rfl (lv_at hl 0 rfl) ?_
      refine tpk_pos (tp_in hG ht_h0 (by decide)) g32 (fun q62 eq62 => ?_)
      refine va_get (D := (dC, dI)) (ci := 12) (v := .ref (ρ h0 2)) (C := RX12) (T := TX12) (N := 53) hx hb hts hfX12 hown hK hP q62 eq62 rfl 2 (by decide) (hts (.fieldLink RX12 7 "ColdShipsModel" "row" "[I") wa_148) (fun _ h9 => h9) rfl dX12_count_109 ?_
      refine lv_bipush (v := 9) hx hb dX12_count_112 (by decide) ?_
      have hf_63 : f30 (ρ h0 2) = .inl (κ 0, 12967, .inl g27) := (k31 _ (tp_ne y1 ht_h0 (by decide))).trans hf_o26
      refine tpk_pos (tp_in hG y1 (by decide)) hf_63 (fun q64 eq64 => ?_)
      refine va_iald hx hb hK hP q64 0 eq64 rfl (vp_in_iff.mpr ⟨by decide, by decide⟩) dX12_count_114 ?_
      refine lv_topi (fun z65 ez65 => ?_)
      have jz65 : z65.toInt = mo_R g27 (9) := mo_rd ez65 (show (9 : Int32).toInt = (9) from by decide)
      have kz65 := hI.k9
      exact W.iret (v := z65) hx hb hr (fun t ht hW => ⟨⟨z65, f30, rfl, ⟨hT, hR, trivial, trivial⟩, by rw [ht]; exact hP, va_K.moved hW.alike hK, hD⟩, hS.F ht⟩) hS.2.2 dX12_count_115
    · refine lv_tableIn (tgt := 116) hx hb dX12_count_6 (by omega) (by omega) (by rw [h33k]; rfl) (by decide) ?_
      refine lv_aload_n hx hb dX12_count_116 rfl (lv_at hl 0 rfl) ?_
      refine tpk_pos (tp_in hG ht_h0 (by decide)) g32 (fun q66 eq66 => ?_)
      have ro28_1 := tp_hu ro28_1; have ro28_14 := tp_hu ro28_14
      refine va_get (D := (dC, dI)) (ci := 12) (v := .int o28_x9) (C := RX12) (T := TX12) (N := 53) hx hb hts hfX12 hown hK hP q66 eq66 rfl 9 (by decide) (hts (.fieldLink RX12 252 "ColdShipsModel" "taped" "I") wa_774) (fun _ h9 => h9) rfl dX12_count_117 ?_
      exact W.iret (v := o28_x9) hx hb hr (fun t ht hW => ⟨⟨o28_x9, f30, rfl, ⟨hT, hR, trivial, trivial⟩, by rw [ht]; exact hP, va_K.moved hW.alike hK, hD⟩, hS.F ht⟩) hS.2.2 dX12_count_120
set_option maxHeartbeats 4000000 in
set_option maxRecDepth 100000 in
theorem t_X12_status (l : Launch) (dC : Nat → ClassId) (dI : Nat → Nat → Nat) (sz : Nat) (κ : Nat → ClassId) (Θ : Nat → Option Int) (τ ν : Nat → Nat) (ρ : Nat → Nat → Nat) (L : List Nat) (f : Nat → va_E) (hG : tp_G τ ν ρ L) (hT : tp_T (mo_O κ Θ) κ τ ν ρ f) (h0 : Nat) (ht_h0 : τ h0 = 13) (hJ : mo_RI (-1) 0 (mo_R (mo_i (f (ρ h0 2))))) : Met l yX12_status wqX12_status ({ frames := 2, cells := 0, slots := 0, locals := 400 }) (va_Pc [.ref h0] (pz_B dC dI (tp_K κ) (va_pl L f) sz)) (va_Qi (fun (r : Int32) (f1 : Nat → va_E) => tp_T (mo_O κ Θ) κ τ ν ρ f1 ∧ tp_F τ [13] f f1 ∧ True ∧ True) (fun (f1 : Nat → va_E) (t : State) => pz_E dC dI (tp_K κ) (va_A (va_pl L f) sz) (va_pl L f1) t) (va_A (va_pl L f) sz)) 0 0 (va_A (va_pl L f) sz) := by
  refine Met.ofW (cc := cX12_status) (maxL := 1) (ret := some .int) (by decide) rfl ?_
  intro p e s m args below meth c s₁ B hml hv
  obtain ⟨rfl, hsz, hP, hK, hD0, hN⟩ := hv
  have hx := B.exec
  have hb := B.bytes
  have hr := B.returns
  have hts := fun (w : Cond) (h : w ∈ WALL) => atoms_spec (ws := wqX12_status) B.pre w (List.mem_cons_of_mem _ h)
  have hown : s.vm.findClass RX12 = some m.cls := findClass_of_methodNamed B.named
  have hlocks := B.notSynchronized
  subst hsz
  have hD := hD0.self (sz := s.heap.size)
  generalize hAe : va_A (va_pl L f) s.heap.size = A at hD ⊢
  have hA : ∀ q : Nat, s.heap.size ≤ q → A q := fun q h => by rw [← hAe]; exact Or.inr h
  have hS : va_S A s.heap s.heap [] := va_S.rf
  have hR : tp_F τ [13] f f := tp_F.rf
  have hl := lv_entry ([.ref h0]) (n := 1) (Nat.le_of_ble_eq_true rfl)
  rw [lg_entry_eq]
  generalize (lg_sl ([.ref h0]) ++ List.replicate (1 - (lg_sl ([.ref h0])).length) Slot.unset).toArray = ls at hl ⊢
  have hl : lv_has ls 1 [(0, .ref h0)] := hl
  refine tgk_13 hG ht_h0 (fun y1 y2 y3 y4 y5 y6 y7 y8 y9 y10 y11 y12 y13 y14 y15 y16 y17 y18 y19 y20 y21 y22 y23 y24 y25 => ?_)
  refine tpk_32 hT y1 (fun g27 hf_o26 => ?_)
  have hI : mo_RI (-1) 0 (mo_R g27) := by have q9 := hJ; rw [hf_o26, mo_i1] at q9; exact q9
  refine lv_aload_n hx hb dX12_status_0 rfl (lv_at hl 0 rfl) ?_
  refine lv_iconst (v := 0) hx hb dX12_status_1 (by decide) ?_
  refine tpk_13 hT ht_h0 (fun o28_x0 o28_x1 o28_x7 o28_x9 o28_x10 o28_x11 o28_x12 o28_x13 o28_x14 o28_x15 o28_x16 o28_x17 o28_x18 o28_x19 o28_x20 o28_x22 o28_x25 o28_x28 o28_x29 o28_x32 o28_x33 o28_x34 o28_x35 o28_x36 o28_x37 o28_x38 o28_x47 o28_x48 hf_o28 ro28_0 ro28_1 ro28_2 ro28_3 ro28_4 ro28_5 ro28_6 ro28_7 ro28_8 ro28_9 ro28_10 ro28_11 ro28_12 ro28_13 ro28_14 => ?_)
  refine tpk_pos (tp_in hG ht_h0 (by decide)) hf_o28 (fun q29 eq29 => ?_)
  refine va_put (D := (dC, dI)) (ci := 12) (v := .int 0) (ty := .int) (C := RX12) (T := TX12) (N := 53) hx hb hts hfX12 tyX12 tyX12_ok nmX12 hown hK hP hD hS q29 eq29 rfl 0 (by decide) (hts (.fieldLink RX12 91 "ColdShipsModel" "thrown" "I") wa_209) (fun _ h9 => h9) rfl (tyX12_ok 0 (by decide)) rfl rfl (Nat.le_of_ble_eq_true rfl) dX12_status_2 (tp_k (.inr (12, [.int 0, .int o28_x1, .ref (ρ h0 2), .ref (ρ h0 3), .ref (ρ h0 4), .ref (ρ h0 5), .ref (ρ h0 6), .int o28_x7, .ref (ρ h0 8), .int o28_x9, .int o28_x10, .int o28_x11, .int o28_x12, .long o28_x13, .int o28_x14, .int o28_x15, .int o28_x16, .int o28_x17, .int o28_x18, .int o28_x19, .int o28_x20, .ref (ρ h0 21), .int o28_x22, .ref (ρ h0 23), .ref (ρ h0 24), .int o28_x25, .ref (ρ h0 26), .ref (ρ h0 27), .int o28_x28, .int o28_x29, .ref (ρ h0 30), .ref (ρ h0 31), .int o28_x32, .long o28_x33, .long o28_x34, .long o28_x35, .int o28_x36, .int o28_x37, .int o28_x38, .ref (ρ h0 39), .ref (ρ h0 40), .ref (ρ h0 41), .ref (ρ h0 42), .ref (ρ h0 43), .ref (ρ h0 44), .ref (ρ h0 45), .ref (ρ h0 46), .int o28_x47, .int o28_x48, .ref (ρ h0 49), .ref (ρ h0 50), .ref (ρ h0 51), .ref (ρ h0 52)])) hD (tp_in hG ht_h0 (by decide)) eq29 (fun f30 H locs hP hD hS g32 k31 => ?_))
  have hT := hT.up ht_h0 g32 k31 ⟨_, _, _, _, _, _, _, _, _, _, _, _, _, _, _, _, _, _, _, _, _, _, _, _, _, _, _, _, rfl, ro28_0, ro28_1, ro28_2, ro28_3, ro28_4, ro28_5, ro28_6, ro28_7, ro28_8, ro28_9, ro28_10, ro28_11, ro28_12, ro28_13, ro28_14⟩
  have hR := hR.up ht_h0 (by decide) k31
  refine lv_aload_n hx hb dX12_status_5 rfl (lv_at hl 0 rfl) ?_
  refine tpk_pos (tp_in hG ht_h0 (by decide)) g32 (fun q33 eq33 => ?_)
  refine va_get (D := (dC, dI)) (ci := 12) (v := .int o28_x1) (C := RX12) (T := TX12) (N := 53) hx hb hts hfX12 hown hK hP q33 eq33 rfl 1 (by decide) (hts (.fieldLink RX12 94 "ColdShipsModel" "status" "I") wa_220) (fun _ h9 => h9) rfl dX12_status_6 ?_
  exact W.iret (v := o28_x1) hx hb hr (fun t ht hW => ⟨⟨o28_x1, f30, rfl, ⟨hT, hR, trivial, trivial⟩, by rw [ht]; exact hP, va_K.moved hW.alike hK, hD⟩, hS.F ht⟩) hS.2.2 dX12_status_9
set_option maxHeartbeats 4000000 in
set_option maxRecDepth 100000 in
theorem t_X12_table (l : Launch) (dC : Nat → ClassId) (dI : Nat → Nat → Nat) (sz : Nat) (κ : Nat → ClassId) (Θ : Nat → Option Int) (τ ν : Nat → Nat) (ρ : Nat → Nat → Nat) (L : List Nat) (f : Nat → va_E) (hG : tp_G τ ν ρ L) (hT : tp_T (mo_O κ Θ) κ τ ν ρ f) (h0 : Nat) (v : Int32) (u : Int32) (a : Int32) (a4 : Int32) (ht_h0 : τ h0 = 13) (hJ : mo_RI (-1) 0 (mo_R (mo_i (f (ρ h0 2))))) : Met l yX12_table wqX12_table ({ frames := 4, cells := 0, slots := 0, locals := 1200 }) (va_Pc [.ref h0, .int v, .int u, .int a, .int a4] (pz_B dC dI (tp_K κ) (va_pl L f) sz)) (va_Qi (fun (r : Int32) (f1 : Nat → va_E) => tp_T (mo_O κ Θ) κ τ ν ρ f1 ∧ tp_F τ [13, 32] f f1 ∧ True ∧ mo_RI (-1) 0 (mo_R (mo_i (f1 (ρ h0 2)))) ∧ mo_KN (fun k => False) (mo_R (mo_i (f (ρ h0 2)))) (mo_R (mo_i (f1 (ρ h0 2)))) ∧ ((((¬ ((0 ≤ u.toInt ∧ u.toInt ≤ 3) ∧ (0 ≤ a.toInt ∧ a.toInt ≤ 5000) ∧ (0 ≤ a4.toInt ∧ a4.toInt ≤ 200000))) → r.toInt = -1) ∧ (¬ (¬ ((0 ≤ u.toInt ∧ u.toInt ≤ 3) ∧ (0 ≤ a.toInt ∧ a.toInt ≤ 5000) ∧ (0 ≤ a4.toInt ∧ a4.toInt ≤ 200000))) → (((¬ (0 ≤ v.toInt ∧ v.toInt < (mo_R (mo_i (f (ρ h0 2)))) (1))) → r.toInt = -2) ∧ (¬ (¬ (0 ≤ v.toInt ∧ v.toInt < (mo_R (mo_i (f (ρ h0 2)))) (1))) → r.toInt = 0)))))) (fun (f1 : Nat → va_E) (t : State) => pz_E dC dI (tp_K κ) (va_A (va_pl L f) sz) (va_pl L f1) t) (va_A (va_pl L f) sz)) 0 0 (va_A (va_pl L f) sz) := by
  refine Met.ofW (cc := cX12_table) (maxL := 6) (ret := some .int) (by decide) rfl ?_
  intro p e s m args below meth c s₁ B hml hv
  obtain ⟨rfl, hsz, hP, hK, hD0, hN⟩ := hv
  have hx := B.exec
  have hb := B.bytes
  have hr := B.returns
  have hts := fun (w : Cond) (h : w ∈ WALL) => atoms_spec (ws := wqX12_table) B.pre w (List.mem_cons_of_mem _ h)
  have hown : s.vm.findClass RX12 = some m.cls := findClass_of_methodNamed B.named
  have hlocks := B.notSynchronized
  subst hsz
  have hD := hD0.self (sz := s.heap.size)
  generalize hAe : va_A (va_pl L f) s.heap.size = A at hD ⊢
  have hA : ∀ q : Nat, s.heap.size ≤ q → A q := fun q h => by rw [← hAe]; exact Or.inr h
  have hS : va_S A s.heap s.heap [] := va_S.rf
  have hR : tp_F τ [13, 32] f f := tp_F.rf
  have hl := lv_entry ([.ref h0, .int v, .int u, .int a, .int a4]) (n := 6) (Nat.le_of_ble_eq_true rfl)
  rw [lg_entry_eq]
  generalize (lg_sl ([.ref h0, .int v, .int u, .int a, .int a4]) ++ List.replicate (6 - (lg_sl ([.ref h0, .int v, .int u, .int a, .int a4])).length) Slot.unset).toArray = ls at hl ⊢
  have hl : lv_has ls 6 [(0, .ref h0), (1, .int v), (2, .int u), (3, .int a), (4, .int a4)] := hl
  refine tgk_13 hG ht_h0 (fun y1 y2 y3 y4 y5 y6 y7 y8 y9 y10 y11 y12 y13 y14 y15 y16 y17 y18 y19 y20 y21 y22 y23 y24 y25 => ?_)
  refine tpk_32 hT y1 (fun g27 hf_o26 => ?_)
  have hI : mo_RI (-1) 0 (mo_R g27) := by have q9 := hJ; rw [hf_o26, mo_i1] at q9; exact q9
  have hKN : mo_KN (fun k => False) (mo_R g27) (mo_R g27) := mo_KN.rf
  refine lv_aload_n hx hb dX12_table_0 rfl (lv_at hl 0 rfl) ?_
  refine lv_iconst (v := 0) hx hb dX12_table_1 (by decide) ?_
  refine tpk_13 hT ht_h0 (fun o28_x0 o28_x1 o28_x7 o28_x9 o28_x10 o28_x11 o28_x12 o28_x13 o28_x14 o28_x15 o28_x16 o28_x17 o28_x18 o28_x19 o28_x20 o28_x22 o28_x25 o28_x28 o28_x29 o28_x32 o28_x33 o28_x34 o28_x35 o28_x36 o28_x37 o28_x38 o28_x47 o28_x48 hf_o28 ro28_0 ro28_1 ro28_2 ro28_3 ro28_4 ro28_5 ro28_6 ro28_7 ro28_8 ro28_9 ro28_10 ro28_11 ro28_12 ro28_13 ro28_14 => ?_)
  refine tpk_pos (tp_in hG ht_h0 (by decide)) hf_o28 (fun q29 eq29 => ?_)
  refine va_put (D := (dC, dI)) (ci := 12) (v := .int 0) (ty := .int) (C := RX12) (T := TX12) (N := 53) hx hb hts hfX12 tyX12 tyX12_ok nmX12 hown hK hP hD hS q29 eq29 rfl 0 (by decide) (hts (.fieldLink RX12 91 "ColdShipsModel" "thrown" "I") wa_209) (fun _ h9 => h9) rfl (tyX12_ok 0 (by decide)) rfl rfl (Nat.le_of_ble_eq_true rfl) dX12_table_2 (tp_k (.inr (12, [.int 0, .int o28_x1, .ref (ρ h0 2), .ref (ρ h0 3), .ref (ρ h0 4), .ref (ρ h0 5), .ref (ρ h0 6), .int o28_x7, .ref (ρ h0 8), .int o28_x9, .int o28_x10, .int o28_x11, .int o28_x12, .long o28_x13, .int o28_x14, .int o28_x15, .int o28_x16, .int o28_x17, .int o28_x18, .int o28_x19, .int o28_x20, .ref (ρ h0 21), .int o28_x22, .ref (ρ h0 23), .ref (ρ h0 24), .int o28_x25, .ref (ρ h0 26), .ref (ρ h0 27), .int o28_x28, .int o28_x29, .ref (ρ h0 30), .ref (ρ h0 31), .int o28_x32, .long o28_x33, .long o28_x34, .long o28_x35, .int o28_x36, .int o28_x37, .int o28_x38, .ref (ρ h0 39), .ref (ρ h0 40), .ref (ρ h0 41), .ref (ρ h0 42), .ref (ρ h0 43), .ref (ρ h0 44), .ref (ρ h0 45), .ref (ρ h0 46), .int o28_x47, .int o28_x48, .ref (ρ h0 49), .ref (ρ h0 50), .ref (ρ h0 51), .ref (ρ h0 52)])) hD (tp_in hG ht_h0 (by decide)) eq29 (fun f30 H locs hP hD hS g32 k31 => ?_))
  have hT := hT.up ht_h0 g32 k31 ⟨_, _, _, _, _, _, _, _, _, _, _, _, _, _, _, _, _, _, _, _, _, _, _, _, _, _, _, _, rfl, ro28_0, ro28_1, ro28_2, ro28_3, ro28_4, ro28_5, ro28_6, ro28_7, ro28_8, ro28_9, ro28_10, ro28_11, ro28_12, ro28_13, ro28_14⟩
  have hR := hR.up ht_h0 (by decide) k31
  refine lv_iload_n hx hb dX12_table_5 rfl (lv_at hl 2 rfl) ?_
  refine lv_i2l hx hb dX12_table_6 rfl ?_
  refine lv_lconst (v := 0) hx hb dX12_table_7 (by decide) ?_
  refine lv_ldc2 (own := RX12) (v := 3) hx hb hown (hts (.constantLong RX12 152 (3)) wa_391) dX12_table_8 ?_
  have hf_33 : f30 (ρ h0 2) = .inl (κ 0, 12967, .inl g27) := (k31 _ (tp_ne y1 ht_h0 (by decide))).trans hf_o26
  refine pz_calli (va_runS (As := [.long u.toInt64, .long 0, .long 3]) (rest := []) ⟨hx, hb, hml, hown, hts⟩ (t_X12_in l dC dI _ u.toInt64 (0) (3) (u.toInt) (0) (3) (Int32.toInt_toInt64 u) rfl rfl) (va_cwS 3 hts gX12_table_X12_in rfl rfl rfl pd_X12_in ⟨Nat.le_of_ble_eq_true rfl, Nat.le_of_ble_eq_true rfl⟩) ⟨pz_blind, pz_pre pz_P0 (hK.sub (tys' := []) [] rfl) (pz_D0 (A := fun _ => True)) hN⟩ rfl rfl hl.1 rfl (lv_room (Nat.le_of_ble_eq_true rfl)) dX12_table_11 ⟨Nat.le_of_ble_eq_true rfl, Nat.le_of_ble_eq_true rfl⟩) (fun r34 hw35 => ?_)
  obtain ⟨hw35r, hw35p⟩ := hw35
  refine lv_if_eq (tgt := 42) hx hb dX12_table_14 (by decide) (fun c36 => ?_) (fun c36 => ?_)
  · have ic36 : r34.toInt = 0 := zi_eq rfl rfl c36
    have p37 : ¬ ((0) ≤ (u.toInt) ∧ (u.toInt) ≤ (3)) := (tp_cond.no hw35p) (by omega)
    clear hw35r ic36
    refine lv_aload_n hx hb dX12_table_42 rfl (lv_at hl 0 rfl) ?_
    refine lv_iconst (v := (-1)) hx hb dX12_table_43 (by decide) ?_
    refine tpk_pos (tp_in hG ht_h0 (by decide)) g32 (fun q38 eq38 => ?_)
    have hFc := tp_fr hD hS hA
    refine va_calli (va_runV (As := [.int (-1)]) (rest := []) ⟨hx, hb, hml, hown, hts⟩ (t_X12_told l dC dI _ κ Θ τ ν ρ L f30 hG hT h0 ((-1)) ht_h0) (cwV 1 hts gX12_table_X12_told rfl rfl rfl ⟨rfl, pd_X12_told⟩ ⟨Nat.le_of_ble_eq_true rfl, Nat.le_of_ble_eq_true rfl⟩) ⟨pz_blind, va_recv hK hP (ci := 12) (q0 := q38) rfl eq38, pz_pre hP hK hD hN⟩ rfl rfl hl.1 rfl (lv_room (Nat.le_of_ble_eq_true rfl)) dX12_table_44 ⟨Nat.le_of_ble_eq_true rfl, Nat.le_of_ble_eq_true rfl⟩) hS (fun q _ h => hFc q h) hFc (fun r39 f41 t H1 locs ht hvm hw40 hB hz1 hk1 hS => ?_)
    refine tn_4 hw40 (fun hT hF42 hw40r hw40p => ?_); clear hw40
    have hR := hR.then hF42 (by decide)
    have hP := hB.1; rw [ht] at hP; have hD := tp_ad f41 hD; clear hB hFc hz1 hk1; subst ht; generalize t.heap = H at hP hS ⊢
    have hw40pq : r39.toInt = (-1) := by rw [hw40p]; rfl
    have hf_43 : f41 (ρ h0 2) = .inl (κ 0, 12967, .inl g27) := (hF42 _ (by rw [tp_iu y1]; decide)).trans hf_33
    exact W.iret (v := r39) hx hb hr (fun t ht hW => ⟨⟨r39, f41, rfl, ⟨hT, hR, trivial, ⟨(by rw [hf_43, mo_i1]; exact hI), (by rw [hf_43, mo_i1, hf_o26, mo_i1]; exact hKN), (by simp only [hf_43, hf_o26, mo_i1]; exact ⟨fun q0 => by omega, fun q0 => ⟨fun q1 => by omega, fun q1 => (by omega)⟩⟩)⟩⟩, by rw [ht]; exact hP, va_K.moved hW.alike hK, hD⟩, hS.F ht⟩) hS.2.2 dX12_table_47
  · have ic36 : r34.toInt ≠ 0 := zi_eqf rfl rfl c36
    replace ic36 : 1 ≤ r34.toInt := by omega
    have p44 : (0) ≤ (u.toInt) ∧ (u.toInt) ≤ (3) := (tp_cond.yes hw35p) (by omega)
    clear hw35r ic36
    refine lv_iload_n hx hb dX12_table_17 rfl (lv_at hl 3 rfl) ?_
    refine lv_i2l hx hb dX12_table_18 rfl ?_
    refine lv_lconst (v := 0) hx hb dX12_table_19 (by decide) ?_
    refine lv_ldc2 (own := RX12) (v := 5000) hx hb hown (hts (.constantLong RX12 481 (5000)) wa_1260) dX12_table_20 ?_
    refine pz_calli (va_runS (As := [.long a.toInt64, .long 0, .long 5000]) (rest := []) ⟨hx, hb, hml, hown, hts⟩ (t_X12_in l dC dI _ a.toInt64 (0) (5000) (a.toInt) (0) (5000) (Int32.toInt_toInt64 a) rfl rfl) (va_cwS 3 hts gX12_table_X12_in rfl rfl rfl pd_X12_in ⟨Nat.le_of_ble_eq_true rfl, Nat.le_of_ble_eq_true rfl⟩) ⟨pz_blind, pz_pre pz_P0 (hK.sub (tys' := []) [] rfl) (pz_D0 (A := fun _ => True)) hN⟩ rfl rfl hl.1 rfl (lv_room (Nat.le_of_ble_eq_true rfl)) dX12_table_23 ⟨Nat.le_of_ble_eq_true rfl, Nat.le_of_ble_eq_true rfl⟩) (fun r45 hw46 => ?_)
    obtain ⟨hw46r, hw46p⟩ := hw46
    refine lv_if_eq (tgt := 42) hx hb dX12_table_26 (by decide) (fun c47 => ?_) (fun c47 => ?_)
    · have ic47 : r45.toInt = 0 := zi_eq rfl rfl c47
      have p48 : ¬ ((0) ≤ (a.toInt) ∧ (a.toInt) ≤ (5000)) := (tp_cond.no hw46p) (by omega)
      clear hw46r ic47
      refine lv_aload_n hx hb dX12_table_42 rfl (lv_at hl 0 rfl) ?_
      refine lv_iconst (v := (-1)) hx hb dX12_table_43 (by decide) ?_
      refine tpk_pos (tp_in hG ht_h0 (by decide)) g32 (fun q49 eq49 => ?_)
      have hFc := tp_fr hD hS hA
      refine va_calli (va_runV (As := [.int (-1)]) (rest := []) ⟨hx, hb, hml, hown, hts⟩ (t_X12_told l dC dI _ κ Θ τ ν ρ L f30 hG hT h0 ((-1)) ht_h0) (cwV 1 hts gX12_table_X12_told rfl rfl rfl ⟨rfl, pd_X12_told⟩ ⟨Nat.le_of_ble_eq_true rfl, Nat.le_of_ble_eq_true rfl⟩) ⟨pz_blind, va_recv hK hP (ci := 12) (q0 := q49) rfl eq49, pz_pre hP hK hD hN⟩ rfl rfl hl.1 rfl (lv_room (Nat.le_of_ble_eq_true rfl)) dX12_table_44 ⟨Nat.le_of_ble_eq_true rfl, Nat.le_of_ble_eq_true rfl⟩) hS (fun q _ h => hFc q h) hFc (fun r50 f52 t H1 locs ht hvm hw51 hB hz1 hk1 hS => ?_)
      refine tn_4 hw51 (fun hT hF53 hw51r hw51p => ?_); clear hw51
      have hR := hR.then hF53 (by decide)
      have hP := hB.1; rw [ht] at hP; have hD := tp_ad f52 hD; clear hB hFc hz1 hk1; subst ht; generalize t.heap = H at hP hS ⊢
      have hw51pq : r50.toInt = (-1) := by rw [hw51p]; rfl
      have hf_54 : f52 (ρ h0 2) = .inl (κ 0, 12967, .inl g27) := (hF53 _ (by rw [tp_iu y1]; decide)).trans hf_33
      exact W.iret (v := r50) hx hb hr (fun t ht hW => ⟨⟨r50, f52, rfl, ⟨hT, hR, trivial, ⟨(by rw [hf_54, mo_i1]; exact hI), (by rw [hf_54, mo_i1, hf_o26, mo_i1]; exact hKN), (by simp only [hf_54, hf_o26, mo_i1]; exact ⟨fun q0 => by omega, fun q0 => ⟨fun q1 => by omega, fun q1 => (by omega)⟩⟩)⟩⟩, by rw [ht]; exact hP, va_K.moved hW.alike hK, hD⟩, hS.F ht⟩) hS.2.2 dX12_table_47
    · have ic47 : r45.toInt ≠ 0 := zi_eqf rfl rfl c47
      replace ic47 : 1 ≤ r45.toInt := by omega
      have p55 : (0) ≤ (a.toInt) ∧ (a.toInt) ≤ (5000) := (tp_cond.yes hw46p) (by omega)
      clear hw46r ic47
      refine lv_iload hx hb dX12_table_29 (lv_at hl 4 rfl) ?_
      refine lv_i2l hx hb dX12_table_31 rfl ?_
      refine lv_lconst (v := 0) hx hb dX12_table_32 (by decide) ?_
      refine lv_ldc2 (own := RX12) (v := 200000) hx hb hown (hts (.constantLong RX12 124 (200000)) wa_272) dX12_table_33 ?_
      refine pz_calli (va_runS (As := [.long a4.toInt64, .long 0, .long 200000]) (rest := []) ⟨hx, hb, hml, hown, hts⟩ (t_X12_in l dC dI _ a4.toInt64 (0) (200000) (a4.toInt) (0) (200000) (Int32.toInt_toInt64 a4) rfl rfl) (va_cwS 3 hts gX12_table_X12_in rfl rfl rfl pd_X12_in ⟨Nat.le_of_ble_eq_true rfl, Nat.le_of_ble_eq_true rfl⟩) ⟨pz_blind, pz_pre pz_P0 (hK.sub (tys' := []) [] rfl) (pz_D0 (A := fun _ => True)) hN⟩ rfl rfl hl.1 rfl (lv_room (Nat.le_of_ble_eq_true rfl)) dX12_table_36 ⟨Nat.le_of_ble_eq_true rfl, Nat.le_of_ble_eq_true rfl⟩) (fun r56 hw57 => ?_)
      obtain ⟨hw57r, hw57p⟩ := hw57
      refine lv_if_ne (tgt := 48) hx hb dX12_table_39 (by decide) (fun c58 => ?_) (fun c58 => ?_)
      · have ic58 : r56.toInt ≠ 0 := zi_ne rfl rfl c58
        replace ic58 : 1 ≤ r56.toInt := by omega
        have p59 : (0) ≤ (a4.toInt) ∧ (a4.toInt) ≤ (200000) := (tp_cond.yes hw57p) (by omega)
        clear hw57r ic58
        refine lv_aload_n hx hb dX12_table_48 rfl (lv_at hl 0 rfl) ?_
        refine lv_iload_n hx hb dX12_table_49 rfl (lv_at hl 1 rfl) ?_
        refine tpk_pos (tp_in hG ht_h0 (by decide)) g32 (fun q60 eq60 => ?_)
        refine pz_calli (va_runV (As := [.int v]) (rest := []) ⟨hx, hb, hml, hown, hts⟩ (t_X12_isShip l dC dI _ κ Θ τ ν ρ L f30 hG hT h0 v (-1) 0 ht_h0 (by omega) (by rw [hf_33, mo_i1]; exact hI)) (cwV 1 hts gX12_table_X12_isShip rfl rfl rfl ⟨rfl, pd_X12_isShip⟩ ⟨Nat.le_of_ble_eq_true rfl, Nat.le_of_ble_eq_true rfl⟩) ⟨pz_blind, va_recv hK hP (ci := 12) (q0 := q60) rfl eq60, pz_pre hP hK hD hN⟩ rfl rfl hl.1 rfl (lv_room (Nat.le_of_ble_eq_true rfl)) dX12_table_50 ⟨Nat.le_of_ble_eq_true rfl, Nat.le_of_ble_eq_true rfl⟩) (fun r61 hw62 => ?_)
        obtain ⟨hw62r, hw62p⟩ := hw62
        have := hI.k1
        rw [hf_33, mo_i1] at hw62p
        refine lv_if_ne (tgt := 63) hx hb dX12_table_53 (by decide) (fun c63 => ?_) (fun c63 => ?_)
        · have ic63 : r61.toInt ≠ 0 := zi_ne rfl rfl c63
          replace ic63 : 1 ≤ r61.toInt := by omega
          have p64 : 0 ≤ v.toInt ∧ v.toInt < mo_R g27 1 := (tp_cond.yes hw62p) (by omega)
          clear hw62r ic63
          refine lv_iload_n hx hb dX12_table_63 rfl (lv_at hl 1 rfl) ?_
          refine pz_calli (va_runS (As := [.int v]) (rest := []) ⟨hx, hb, hml, hown, hts⟩ (t_X12_shipAt l dC dI _ v (v.toInt) (by omega) rfl) (va_cwS 1 hts gX12_table_X12_shipAt rfl rfl rfl pd_X12_shipAt ⟨Nat.le_of_ble_eq_true rfl, Nat.le_of_ble_eq_true rfl⟩) ⟨pz_blind, pz_pre pz_P0 (hK.sub (tys' := []) [] rfl) (pz_D0 (A := fun _ => True)) hN⟩ rfl rfl hl.1 rfl (lv_room (Nat.le_of_ble_eq_true rfl)) dX12_table_64 ⟨Nat.le_of_ble_eq_true rfl, Nat.le_of_ble_eq_true rfl⟩) (fun r65 hw66 => ?_)
          obtain ⟨hw66r, hw66p⟩ := hw66
          refine lv_bipush (v := 32) hx hb dX12_table_67 (by decide) ?_
          refine lv_iadd hx hb dX12_table_69 ?_
          refine lv_topi (fun z67 ez67 => ?_)
          have iz67 : z67.toInt = r65.toInt + 32 := zi_add ez67 rfl rfl (by omega) (by omega)
          refine lv_iconst (v := 3) hx hb dX12_table_70 (by decide) ?_
          refine lv_iload_n hx hb dX12_table_71 rfl (lv_at hl 2 rfl) ?_
          refine lv_imul hx hb dX12_table_72 ?_
          refine lv_topi (fun z68 ez68 => ?_)
          have iz68 : z68.toInt = 3 * u.toInt := zi_mul ez68 rfl rfl (by omega) (by omega)
          refine lv_iadd hx hb dX12_table_73 ?_
          refine lv_topi (fun z69 ez69 => ?_)
          have iz69 : z69.toInt = z67.toInt + z68.toInt := zi_add ez69 rfl rfl (by omega) (by omega)
          refine lv_istore (lv' := [(5, .int z69), (0, .ref h0), (1, .int v), (2, .int u), (3, .int a), (4, .int a4)]) hx hb dX12_table_74 hl (by decide) rfl (fun ls hl => ?_)
          refine lv_aload_n hx hb dX12_table_76 rfl (lv_at hl 1 rfl) ?_
          refine va_get (D := (dC, dI)) (ci := 12) (v := .ref (ρ h0 2)) (C := RX12) (T := TX12) (N := 53) hx hb hts hfX12 hown hK hP q60 eq60 rfl 2 (by decide) (hts (.fieldLink RX12 7 "ColdShipsModel" "row" "[I") wa_148) (fun _ h9 => h9) rfl dX12_table_77 ?_
          refine lv_iload hx hb dX12_table_80 (lv_at hl 0 rfl) ?_
          refine lv_iconst (v := 1) hx hb dX12_table_82 (by decide) ?_
          refine tpk_pos (tp_in hG y1 (by decide)) hf_33 (fun q70 eq70 => ?_)
          refine va_iast hx hb hK hP hD hS q70 0 eq70 rfl (vp_in_iff.mpr ⟨by omega, by omega⟩) dX12_table_83 (tp_k (.inl (κ 0, 12967, .inl (upd g27 z69.toNatClampNeg (1 : Int32)))) hD (tp_in hG y1 (by decide)) eq70 (fun f71 H locs hP hD hS g73 k72 => ?_))
          have hT := hT.up y1 g73 k72 tp_o32
          have hR := hR.up y1 (by decide) k72
          have hU : mo_U (mo_R g27) (mo_R (upd g27 z69.toNatClampNeg (1 : Int32))) (547 + 84 * v.toInt + 32 + 3 * u.toInt) (1) := mo_up (by omega) (show (1 : Int32).toInt = 1 from rfl) (by omega)
          generalize (upd g27 z69.toNatClampNeg (1 : Int32)) = g74 at g73 hU
          have hI := mo_w_sfree hI hU v.toInt (32 + 3 * u.toInt) (by omega) (by omega) (by omega)
          have hKN := hKN.up hU (Or.inl (by omega))
          refine lv_aload_n hx hb dX12_table_84 rfl (lv_at hl 1 rfl) ?_
          have hf_75 : f71 h0 = .inr (12, [.int 0, .int o28_x1, .ref (ρ h0 2), .ref (ρ h0 3), .ref (ρ h0 4), .ref (ρ h0 5), .ref (ρ h0 6), .int o28_x7, .ref (ρ h0 8), .int o28_x9, .int o28_x10, .int o28_x11, .int o28_x12, .long o28_x13, .int o28_x14, .int o28_x15, .int o28_x16, .int o28_x17, .int o28_x18, .int o28_x19, .int o28_x20, .ref (ρ h0 21), .int o28_x22, .ref (ρ h0 23), .ref (ρ h0 24), .int o28_x25, .ref (ρ h0 26), .ref (ρ h0 27), .int o28_x28, .int o28_x29, .ref (ρ h0 30), .ref (ρ h0 31), .int o28_x32, .long o28_x33, .long o28_x34, .long o28_x35, .int o28_x36, .int o28_x37, .int o28_x38, .ref (ρ h0 39), .ref (ρ h0 40), .ref (ρ h0 41), .ref (ρ h0 42), .ref (ρ h0 43), .ref (ρ h0 44), .ref (ρ h0 45), .ref (ρ h0 46), .int o28_x47, .int o28_x48, .ref (ρ h0 49), .ref (ρ h0 50), .ref (ρ h0 51), .ref (ρ h0 52)]) := (k72 _ (tp_ne ht_h0 y1 (by decide))).trans g32
          refine tpk_pos (tp_in hG ht_h0 (by decide)) hf_75 (fun q76 eq76 => ?_)
          refine va_get (D := (dC, dI)) (ci := 12) (v := .ref (ρ h0 2)) (C := RX12) (T := TX12) (N := 53) hx hb hts hfX12 hown hK hP q76 eq76 rfl 2 (by decide) (hts (.fieldLink RX12 7 "ColdShipsModel" "row" "[I") wa_148) (fun _ h9 => h9) rfl dX12_table_85 ?_
          refine lv_iload hx hb dX12_table_88 (lv_at hl 0 rfl) ?_
          refine lv_iconst (v := 1) hx hb dX12_table_90 (by decide) ?_
          refine lv_iadd hx hb dX12_table_91 ?_
          refine lv_topi (fun z77 ez77 => ?_)
          have iz77 : z77.toInt = z69.toInt + 1 := zi_add ez77 rfl rfl (by omega) (by omega)
          refine lv_iload_n hx hb dX12_table_92 rfl (lv_at hl 4 rfl) ?_
          refine tpk_pos (tp_in hG y1 (by decide)) g73 (fun q78 eq78 => ?_)
          refine va_iast hx hb hK hP hD hS q78 0 eq78 rfl (vp_in_iff.mpr ⟨by omega, by omega⟩) dX12_table_93 (tp_k (.inl (κ 0, 12967, .inl (upd g74 z77.toNatClampNeg a))) hD (tp_in hG y1 (by decide)) eq78 (fun f79 H locs hP hD hS g81 k80 => ?_))
          have hT := hT.up y1 g81 k80 tp_o32
          have hR := hR.up y1 (by decide) k80
          have hU : mo_U (mo_R g74) (mo_R (upd g74 z77.toNatClampNeg a)) (547 + 84 * v.toInt + 33 + 3 * u.toInt) (a.toInt) := mo_up (by omega) (rfl : a.toInt = _) (by omega)
          generalize (upd g74 z77.toNatClampNeg a) = g82 at g81 hU
          have hI := mo_w_TAB hI hU v.toInt u.toInt (by omega) (by omega) (by omega) (by omega)
          have hKN := hKN.up hU (Or.inl (by omega))
          refine lv_aload_n hx hb dX12_table_94 rfl (lv_at hl 1 rfl) ?_
          have hf_83 : f79 h0 = .inr (12, [.int 0, .int o28_x1, .ref (ρ h0 2), .ref (ρ h0 3), .ref (ρ h0 4), .ref (ρ h0 5), .ref (ρ h0 6), .int o28_x7, .ref (ρ h0 8), .int o28_x9, .int o28_x10, .int o28_x11, .int o28_x12, .long o28_x13, .int o28_x14, .int o28_x15, .int o28_x16, .int o28_x17, .int o28_x18, .int o28_x19, .int o28_x20, .ref (ρ h0 21), .int o28_x22, .ref (ρ h0 23), .ref (ρ h0 24), .int o28_x25, .ref (ρ h0 26), .ref (ρ h0 27), .int o28_x28, .int o28_x29, .ref (ρ h0 30), .ref (ρ h0 31), .int o28_x32, .long o28_x33, .long o28_x34, .long o28_x35, .int o28_x36, .int o28_x37, .int o28_x38, .ref (ρ h0 39), .ref (ρ h0 40), .ref (ρ h0 41), .ref (ρ h0 42), .ref (ρ h0 43), .ref (ρ h0 44), .ref (ρ h0 45), .ref (ρ h0 46), .int o28_x47, .int o28_x48, .ref (ρ h0 49), .ref (ρ h0 50), .ref (ρ h0 51), .ref (ρ h0 52)]) := (k80 _ (tp_ne ht_h0 y1 (by decide))).trans hf_75
          refine tpk_pos (tp_in hG ht_h0 (by decide)) hf_83 (fun q84 eq84 => ?_)
          refine va_get (D := (dC, dI)) (ci := 12) (v := .ref (ρ h0 2)) (C := RX12) (T := TX12) (N := 53) hx hb hts hfX12 hown hK hP q84 eq84 rfl 2 (by decide) (hts (.fieldLink RX12 7 "ColdShipsModel" "row" "[I") wa_148) (fun _ h9 => h9) rfl dX12_table_95 ?_
          refine lv_iload hx hb dX12_table_98 (lv_at hl 0 rfl) ?_
          refine lv_iconst (v := 2) hx hb dX12_table_100 (by decide) ?_
          refine lv_iadd hx hb dX12_table_101 ?_
          refine lv_topi (fun z85 ez85 => ?_)
          have iz85 : z85.toInt = z69.toInt + 2 := zi_add ez85 rfl rfl (by omega) (by omega)
          refine lv_iload hx hb dX12_table_102 (lv_at hl 5 rfl) ?_
          refine tpk_pos (tp_in hG y1 (by decide)) g81 (fun q86 eq86 => ?_)
          refine va_iast hx hb hK hP hD hS q86 0 eq86 rfl (vp_in_iff.mpr ⟨by omega, by omega⟩) dX12_table_104 (tp_k (.inl (κ 0, 12967, .inl (upd g82 z85.toNatClampNeg a4))) hD (tp_in hG y1 (by decide)) eq86 (fun f87 H locs hP hD hS g89 k88 => ?_))
          have hT := hT.up y1 g89 k88 tp_o32
          have hR := hR.up y1 (by decide) k88
          have hU : mo_U (mo_R g82) (mo_R (upd g82 z85.toNatClampNeg a4)) (547 + 84 * v.toInt + 34 + 3 * u.toInt) (a4.toInt) := mo_up (by omega) (rfl : a4.toInt = _) (by omega)
          generalize (upd g82 z85.toNatClampNeg a4) = g90 at g89 hU
          have hI := mo_w_sfree hI hU v.toInt (34 + 3 * u.toInt) (by omega) (by omega) (by omega)
          have hKN := hKN.up hU (Or.inl (by omega))
          refine lv_aload_n hx hb dX12_table_105 rfl (lv_at hl 1 rfl) ?_
          refine lv_iconst (v := 0) hx hb dX12_table_106 (by decide) ?_
          have hf_91 : f87 h0 = .inr (12, [.int 0, .int o28_x1, .ref (ρ h0 2), .ref (ρ h0 3), .ref (ρ h0 4), .ref (ρ h0 5), .ref (ρ h0 6), .int o28_x7, .ref (ρ h0 8), .int o28_x9, .int o28_x10, .int o28_x11, .int o28_x12, .long o28_x13, .int o28_x14, .int o28_x15, .int o28_x16, .int o28_x17, .int o28_x18, .int o28_x19, .int o28_x20, .ref (ρ h0 21), .int o28_x22, .ref (ρ h0 23), .ref (ρ h0 24), .int o28_x25, .ref (ρ h0 26), .ref (ρ h0 27), .int o28_x28, .int o28_x29, .ref (ρ h0 30), .ref (ρ h0 31), .int o28_x32, .long o28_x33, .long o28_x34, .long o28_x35, .int o28_x36, .int o28_x37, .int o28_x38, .ref (ρ h0 39), .ref (ρ h0 40), .ref (ρ h0 41), .ref (ρ h0 42), .ref (ρ h0 43), .ref (ρ h0 44), .ref (ρ h0 45), .ref (ρ h0 46), .int o28_x47, .int o28_x48, .ref (ρ h0 49), .ref (ρ h0 50), .ref (ρ h0 51), .ref (ρ h0 52)]) := (k88 _ (tp_ne ht_h0 y1 (by decide))).trans hf_83
          refine tpk_pos (tp_in hG ht_h0 (by decide)) hf_91 (fun q92 eq92 => ?_)
          have hFc := tp_fr hD hS hA
          refine va_calli (va_runV (As := [.int 0]) (rest := []) ⟨hx, hb, hml, hown, hts⟩ (t_X12_told l dC dI _ κ Θ τ ν ρ L f87 hG hT h0 (0) ht_h0) (cwV 1 hts gX12_table_X12_told rfl rfl rfl ⟨rfl, pd_X12_told⟩ ⟨Nat.le_of_ble_eq_true rfl, Nat.le_of_ble_eq_true rfl⟩) ⟨pz_blind, va_recv hK hP (ci := 12) (q0 := q92) rfl eq92, pz_pre hP hK hD hN⟩ rfl rfl hl.1 rfl (lv_room (Nat.le_of_ble_eq_true rfl)) dX12_table_107 ⟨Nat.le_of_ble_eq_true rfl, Nat.le_of_ble_eq_true rfl⟩) hS (fun q _ h => hFc q h) hFc (fun r93 f95 t H1 locs ht hvm hw94 hB hz1 hk1 hS => ?_)
          refine tn_4 hw94 (fun hT hF96 hw94r hw94p => ?_); clear hw94
          have hR := hR.then hF96 (by decide)
          have hP := hB.1; rw [ht] at hP; have hD := tp_ad f95 hD; clear hB hFc hz1 hk1; subst ht; generalize t.heap = H at hP hS ⊢
          have hw94pq : r93.toInt = 0 := by rw [hw94p]; rfl
          have hf_97 : f95 (ρ h0 2) = .inl (κ 0, 12967, .inl g90) := (hF96 _ (by rw [tp_iu y1]; decide)).trans g89
          exact W.iret (v := r93) hx hb hr (fun t ht hW => ⟨⟨r93, f95, rfl, ⟨hT, hR, trivial, ⟨(by rw [hf_97, mo_i1]; exact hI), (by rw [hf_97, mo_i1, hf_o26, mo_i1]; exact hKN), (by simp only [hf_97, hf_o26, mo_i1]; exact ⟨fun q0 => by omega, fun q0 => ⟨fun q1 => by omega, fun q1 => (by omega)⟩⟩)⟩⟩, by rw [ht]; exact hP, va_K.moved hW.alike hK, hD⟩, hS.F ht⟩) hS.2.2 dX12_table_110
        · have ic63 : r61.toInt = 0 := zi_nef rfl rfl c63
          have p98 : ¬ (0 ≤ v.toInt ∧ v.toInt < mo_R g27 1) := (tp_cond.no hw62p) (by omega)
          clear hw62r ic63
          refine lv_aload_n hx hb dX12_table_56 rfl (lv_at hl 0 rfl) ?_
          refine lv_bipush (v := (-2)) hx hb dX12_table_57 (by decide) ?_
          have hFc := tp_fr hD hS hA
          refine va_calli (va_runV (As := [.int (-2)]) (rest := []) ⟨hx, hb, hml, hown, hts⟩ (t_X12_told l dC dI _ κ Θ τ ν ρ L f30 hG hT h0 ((-2)) ht_h0) (cwV 1 hts gX12_table_X12_told rfl rfl rfl ⟨rfl, pd_X12_told⟩ ⟨Nat.le_of_ble_eq_true rfl, Nat.le_of_ble_eq_true rfl⟩) ⟨pz_blind, va_recv hK hP (ci := 12) (q0 := q60) rfl eq60, pz_pre hP hK hD hN⟩ rfl rfl hl.1 rfl (lv_room (Nat.le_of_ble_eq_true rfl)) dX12_table_59 ⟨Nat.le_of_ble_eq_true rfl, Nat.le_of_ble_eq_true rfl⟩) hS (fun q _ h => hFc q h) hFc (fun r99 f101 t H1 locs ht hvm hw100 hB hz1 hk1 hS => ?_)
          refine tn_4 hw100 (fun hT hF102 hw100r hw100p => ?_); clear hw100
          have hR := hR.then hF102 (by decide)
          have hP := hB.1; rw [ht] at hP; have hD := tp_ad f101 hD; clear hB hFc hz1 hk1; subst ht; generalize t.heap = H at hP hS ⊢
          have hw100pq : r99.toInt = (-2) := by rw [hw100p]; rfl
          have hf_103 : f101 (ρ h0 2) = .inl (κ 0, 12967, .inl g27) := (hF102 _ (by rw [tp_iu y1]; decide)).trans hf_33
          exact W.iret (v := r99) hx hb hr (fun t ht hW => ⟨⟨r99, f101, rfl, ⟨hT, hR, trivial, ⟨(by rw [hf_103, mo_i1]; exact hI), (by rw [hf_103, mo_i1, hf_o26, mo_i1]; exact hKN), (by simp only [hf_103, hf_o26, mo_i1]; exact ⟨fun q0 => by omega, fun q0 => ⟨fun q1 => by omega, fun q1 => (by omega)⟩⟩)⟩⟩, by rw [ht]; exact hP, va_K.moved hW.alike hK, hD⟩, hS.F ht⟩) hS.2.2 dX12_table_62
      · have ic58 : r56.toInt = 0 := zi_nef rfl rfl c58
        have p104 : ¬ ((0) ≤ (a4.toInt) ∧ (a4.toInt) ≤ (200000)) := (tp_cond.no hw57p) (by omega)
        clear hw57r ic58
        refine lv_aload_n hx hb dX12_table_42 rfl (lv_at hl 0 rfl) ?_
        refine lv_iconst (v := (-1)) hx hb dX12_table_43 (by decide) ?_
        refine tpk_pos (tp_in hG ht_h0 (by decide)) g32 (fun q105 eq105 => ?_)
        have hFc := tp_fr hD hS hA
        refine va_calli (va_runV (As := [.int (-1)]) (rest := []) ⟨hx, hb, hml, hown, hts⟩ (t_X12_told l dC dI _ κ Θ τ ν ρ L f30 hG hT h0 ((-1)) ht_h0) (cwV 1 hts gX12_table_X12_told rfl rfl rfl ⟨rfl, pd_X12_told⟩ ⟨Nat.le_of_ble_eq_true rfl, Nat.le_of_ble_eq_true rfl⟩) ⟨pz_blind, va_recv hK hP (ci := 12) (q0 := q105) rfl eq105, pz_pre hP hK hD hN⟩ rfl rfl hl.1 rfl (lv_room (Nat.le_of_ble_eq_true rfl)) dX12_table_44 ⟨Nat.le_of_ble_eq_true rfl, Nat.le_of_ble_eq_true rfl⟩) hS (fun q _ h => hFc q h) hFc (fun r106 f108 t H1 locs ht hvm hw107 hB hz1 hk1 hS => ?_)
        refine tn_4 hw107 (fun hT hF109 hw107r hw107p => ?_); clear hw107
        have hR := hR.then hF109 (by decide)
        have hP := hB.1; rw [ht] at hP; have hD := tp_ad f108 hD; clear hB hFc hz1 hk1; subst ht; generalize t.heap = H at hP hS ⊢
        have hw107pq : r106.toInt = (-1) := by rw [hw107p]; rfl
        have hf_110 : f108 (ρ h0 2) = .inl (κ 0, 12967, .inl g27) := (hF109 _ (by rw [tp_iu y1]; decide)).trans hf_33
        exact W.iret (v := r106) hx hb hr (fun t ht hW => ⟨⟨r106, f108, rfl, ⟨hT, hR, trivial, ⟨(by rw [hf_110, mo_i1]; exact hI), (by rw [hf_110, mo_i1, hf_o26, mo_i1]; exact hKN), (by simp only [hf_110, hf_o26, mo_i1]; exact ⟨fun q0 => by omega, fun q0 => ⟨fun q1 => by omega, fun q1 => (by omega)⟩⟩)⟩⟩, by rw [ht]; exact hP, va_K.moved hW.alike hK, hD⟩, hS.F ht⟩) hS.2.2 dX12_table_47
set_option maxHeartbeats 4000000 in
set_option maxRecDepth 100000 in
theorem t_X12_list (l : Launch) (dC : Nat → ClassId) (dI : Nat → Nat → Nat) (sz : Nat) (κ : Nat → ClassId) (Θ : Nat → Option Int) (τ ν : Nat → Nat) (ρ : Nat → Nat → Nat) (L : List Nat) (f : Nat → va_E) (hG : tp_G τ ν ρ L) (hT : tp_T (mo_O κ Θ) κ τ ν ρ f) (h0 : Nat) (v : Int32) (u : Int32) (ht_h0 : τ h0 = 13) (hJ : mo_RI (-1) 0 (mo_R (mo_i (f (ρ h0 2))))) : Met l yX12_list wqX12_list ({ frames := 4, cells := 0, slots := 0, locals := 1200 }) (va_Pc [.ref h0, .int v, .int u] (pz_B dC dI (tp_K κ) (va_pl L f) sz)) (va_Qi (fun (r : Int32) (f1 : Nat → va_E) => tp_T (mo_O κ Θ) κ τ ν ρ f1 ∧ tp_F τ [13, 32] f f1 ∧ True ∧ mo_RI (-1) 0 (mo_R (mo_i (f1 (ρ h0 2)))) ∧ mo_KN (fun k => False) (mo_R (mo_i (f (ρ h0 2)))) (mo_R (mo_i (f1 (ρ h0 2))))) (fun (f1 : Nat → va_E) (t : State) => pz_E dC dI (tp_K κ) (va_A (va_pl L f) sz) (va_pl L f1) t) (va_A (va_pl L f) sz)) 0 0 (va_A (va_pl L f) sz) := by
  refine Met.ofW (cc := cX12_list) (maxL := 4) (ret := some .int) (by decide) rfl ?_
  intro p e s m args below meth c s₁ B hml hv
  obtain ⟨rfl, hsz, hP, hK, hD0, hN⟩ := hv
  have hx := B.exec
  have hb := B.bytes
  have hr := B.returns
  have hts := fun (w : Cond) (h : w ∈ WALL) => atoms_spec (ws := wqX12_list) B.pre w (List.mem_cons_of_mem _ h)
  have hown : s.vm.findClass RX12 = some m.cls := findClass_of_methodNamed B.named
  have hlocks := B.notSynchronized
  subst hsz
  have hD := hD0.self (sz := s.heap.size)
  generalize hAe : va_A (va_pl L f) s.heap.size = A at hD ⊢
  have hA : ∀ q : Nat, s.heap.size ≤ q → A q := fun q h => by rw [← hAe]; exact Or.inr h
  have hS : va_S A s.heap s.heap [] := va_S.rf
  have hR : tp_F τ [13, 32] f f := tp_F.rf
  have hl := lv_entry ([.ref h0, .int v, .int u]) (n := 4) (Nat.le_of_ble_eq_true rfl)
  rw [lg_entry_eq]
  generalize (lg_sl ([.ref h0, .int v, .int u]) ++ List.replicate (4 - (lg_sl ([.ref h0, .int v, .int u])).length) Slot.unset).toArray = ls at hl ⊢
  have hl : lv_has ls 4 [(0, .ref h0), (1, .int v), (2, .int u)] := hl
  refine tgk_13 hG ht_h0 (fun y1 y2 y3 y4 y5 y6 y7 y8 y9 y10 y11 y12 y13 y14 y15 y16 y17 y18 y19 y20 y21 y22 y23 y24 y25 => ?_)
  refine tpk_32 hT y1 (fun g27 hf_o26 => ?_)
  have hI : mo_RI (-1) 0 (mo_R g27) := by have q9 := hJ; rw [hf_o26, mo_i1] at q9; exact q9
  have hKN : mo_KN (fun k => False) (mo_R g27) (mo_R g27) := mo_KN.rf
  refine lv_aload_n hx hb dX12_list_0 rfl (lv_at hl 0 rfl) ?_
  refine lv_iconst (v := 0) hx hb dX12_list_1 (by decide) ?_
  refine tpk_13 hT ht_h0 (fun o28_x0 o28_x1 o28_x7 o28_x9 o28_x10 o28_x11 o28_x12 o28_x13 o28_x14 o28_x15 o28_x16 o28_x17 o28_x18 o28_x19 o28_x20 o28_x22 o28_x25 o28_x28 o28_x29 o28_x32 o28_x33 o28_x34 o28_x35 o28_x36 o28_x37 o28_x38 o28_x47 o28_x48 hf_o28 ro28_0 ro28_1 ro28_2 ro28_3 ro28_4 ro28_5 ro28_6 ro28_7 ro28_8 ro28_9 ro28_10 ro28_11 ro28_12 ro28_13 ro28_14 => ?_)
  refine tpk_pos (tp_in hG ht_h0 (by decide)) hf_o28 (fun q29 eq29 => ?_)
  refine va_put (D := (dC, dI)) (ci := 12) (v := .int 0) (ty := .int) (C := RX12) (T := TX12) (N := 53) hx hb hts hfX12 tyX12 tyX12_ok nmX12 hown hK hP hD hS q29 eq29 rfl 0 (by decide) (hts (.fieldLink RX12 91 "ColdShipsModel" "thrown" "I") wa_209) (fun _ h9 => h9) rfl (tyX12_ok 0 (by decide)) rfl rfl (Nat.le_of_ble_eq_true rfl) dX12_list_2 (tp_k (.inr (12, [.int 0, .int o28_x1, .ref (ρ h0 2), .ref (ρ h0 3), .ref (ρ h0 4), .ref (ρ h0 5), .ref (ρ h0 6), .int o28_x7, .ref (ρ h0 8), .int o28_x9, .int o28_x10, .int o28_x11, .int o28_x12, .long o28_x13, .int o28_x14, .int o28_x15, .int o28_x16, .int o28_x17, .int o28_x18, .int o28_x19, .int o28_x20, .ref (ρ h0 21), .int o28_x22, .ref (ρ h0 23), .ref (ρ h0 24), .int o28_x25, .ref (ρ h0 26), .ref (ρ h0 27), .int o28_x28, .int o28_x29, .ref (ρ h0 30), .ref (ρ h0 31), .int o28_x32, .long o28_x33, .long o28_x34, .long o28_x35, .int o28_x36, .int o28_x37, .int o28_x38, .ref (ρ h0 39), .ref (ρ h0 40), .ref (ρ h0 41), .ref (ρ h0 42), .ref (ρ h0 43), .ref (ρ h0 44), .ref (ρ h0 45), .ref (ρ h0 46), .int o28_x47, .int o28_x48, .ref (ρ h0 49), .ref (ρ h0 50), .ref (ρ h0 51), .ref (ρ h0 52)])) hD (tp_in hG ht_h0 (by decide)) eq29 (fun f30 H locs hP hD hS g32 k31 => ?_))
  have hT := hT.up ht_h0 g32 k31 ⟨_, _, _, _, _, _, _, _, _, _, _, _, _, _, _, _, _, _, _, _, _, _, _, _, _, _, _, _, rfl, ro28_0, ro28_1, ro28_2, ro28_3, ro28_4, ro28_5, ro28_6, ro28_7, ro28_8, ro28_9, ro28_10, ro28_11, ro28_12, ro28_13, ro28_14⟩
  have hR := hR.up ht_h0 (by decide) k31
  refine lv_iload_n hx hb dX12_list_5 rfl (lv_at hl 2 rfl) ?_
  refine lv_i2l hx hb dX12_list_6 rfl ?_
  refine lv_ldc2 (own := RX12) (v := (-50)) hx hb hown (hts (.constantLong RX12 483 (-50)) wa_1269) dX12_list_7 ?_
  refine lv_ldc2 (own := RX12) (v := 50) hx hb hown (hts (.constantLong RX12 126 (50)) wa_273) dX12_list_10 ?_
  have hf_33 : f30 (ρ h0 2) = .inl (κ 0, 12967, .inl g27) := (k31 _ (tp_ne y1 ht_h0 (by decide))).trans hf_o26
  refine pz_calli (va_runS (As := [.long u.toInt64, .long (-50), .long 50]) (rest := []) ⟨hx, hb, hml, hown, hts⟩ (t_X12_in l dC dI _ u.toInt64 ((-50)) (50) (u.toInt) ((-50)) (50) (Int32.toInt_toInt64 u) rfl rfl) (va_cwS 3 hts gX12_list_X12_in rfl rfl rfl pd_X12_in ⟨Nat.le_of_ble_eq_true rfl, Nat.le_of_ble_eq_true rfl⟩) ⟨pz_blind, pz_pre pz_P0 (hK.sub (tys' := []) [] rfl) (pz_D0 (A := fun _ => True)) hN⟩ rfl rfl hl.1 rfl (lv_room (Nat.le_of_ble_eq_true rfl)) dX12_list_13 ⟨Nat.le_of_ble_eq_true rfl, Nat.le_of_ble_eq_true rfl⟩) (fun r34 hw35 => ?_)
  obtain ⟨hw35r, hw35p⟩ := hw35
  refine lv_if_ne (tgt := 25) hx hb dX12_list_16 (by decide) (fun c36 => ?_) (fun c36 => ?_)
  · have ic36 : r34.toInt ≠ 0 := zi_ne rfl rfl c36
    replace ic36 : 1 ≤ r34.toInt := by omega
    have p37 : ((-50)) ≤ (u.toInt) ∧ (u.toInt) ≤ (50) := (tp_cond.yes hw35p) (by omega)
    clear hw35r ic36
    refine lv_aload_n hx hb dX12_list_25 rfl (lv_at hl 0 rfl) ?_
    refine lv_iload_n hx hb dX12_list_26 rfl (lv_at hl 1 rfl) ?_
    refine tpk_pos (tp_in hG ht_h0 (by decide)) g32 (fun q38 eq38 => ?_)
    refine pz_calli (va_runV (As := [.int v]) (rest := []) ⟨hx, hb, hml, hown, hts⟩ (t_X12_isShip l dC dI _ κ Θ τ ν ρ L f30 hG hT h0 v (-1) 0 ht_h0 (by omega) (by rw [hf_33, mo_i1]; exact hI)) (cwV 1 hts gX12_list_X12_isShip rfl rfl rfl ⟨rfl, pd_X12_isShip⟩ ⟨Nat.le_of_ble_eq_true rfl, Nat.le_of_ble_eq_true rfl⟩) ⟨pz_blind, va_recv hK hP (ci := 12) (q0 := q38) rfl eq38, pz_pre hP hK hD hN⟩ rfl rfl hl.1 rfl (lv_room (Nat.le_of_ble_eq_true rfl)) dX12_list_27 ⟨Nat.le_of_ble_eq_true rfl, Nat.le_of_ble_eq_true rfl⟩) (fun r39 hw40 => ?_)
    obtain ⟨hw40r, hw40p⟩ := hw40
    have := hI.k1
    rw [hf_33, mo_i1] at hw40p
    refine lv_if_ne (tgt := 40) hx hb dX12_list_30 (by decide) (fun c41 => ?_) (fun c41 => ?_)
    · have ic41 : r39.toInt ≠ 0 := zi_ne rfl rfl c41
      replace ic41 : 1 ≤ r39.toInt := by omega
      have p42 : 0 ≤ v.toInt ∧ v.toInt < mo_R g27 1 := (tp_cond.yes hw40p) (by omega)
      clear hw40r ic41
      refine lv_aload_n hx hb dX12_list_40 rfl (lv_at hl 0 rfl) ?_
      refine va_get (D := (dC, dI)) (ci := 12) (v := .ref (ρ h0 2)) (C := RX12) (T := TX12) (N := 53) hx hb hts hfX12 hown hK hP q38 eq38 rfl 2 (by decide) (hts (.fieldLink RX12 7 "ColdShipsModel" "row" "[I") wa_148) (fun _ h9 => h9) rfl dX12_list_41 ?_
      refine lv_iload_n hx hb dX12_list_44 rfl (lv_at hl 1 rfl) ?_
      refine pz_calli (va_runS (As := [.int v]) (rest := [.ref (ρ h0 2)]) ⟨hx, hb, hml, hown, hts⟩ (t_X12_shipAt l dC dI _ v (v.toInt) (by omega) rfl) (va_cwS 1 hts gX12_list_X12_shipAt rfl rfl rfl pd_X12_shipAt ⟨Nat.le_of_ble_eq_true rfl, Nat.le_of_ble_eq_true rfl⟩) ⟨pz_blind, pz_pre pz_P0 (hK.sub (tys' := []) [] rfl) (pz_D0 (A := fun _ => True)) hN⟩ rfl rfl hl.1 rfl (lv_room (Nat.le_of_ble_eq_true rfl)) dX12_list_45 ⟨Nat.le_of_ble_eq_true rfl, Nat.le_of_ble_eq_true rfl⟩) (fun r43 hw44 => ?_)
      obtain ⟨hw44r, hw44p⟩ := hw44
      refine lv_bipush (v := 31) hx hb dX12_list_48 (by decide) ?_
      refine lv_iadd hx hb dX12_list_50 ?_
      refine lv_topi (fun z45 ez45 => ?_)
      have iz45 : z45.toInt = r43.toInt + 31 := zi_add ez45 rfl rfl (by omega) (by omega)
      refine tpk_pos (tp_in hG y1 (by decide)) hf_33 (fun q46 eq46 => ?_)
      refine va_iald hx hb hK hP q46 0 eq46 rfl (vp_in_iff.mpr ⟨by omega, by omega⟩) dX12_list_51 ?_
      refine lv_topi (fun z47 ez47 => ?_)
      refine lv_istore_n (lv' := [(3, .int z47), (0, .ref h0), (1, .int v), (2, .int u)]) hx hb dX12_list_52 rfl hl (by decide) rfl (fun ls hl => ?_)
      refine lv_aload_n hx hb dX12_list_53 rfl (lv_at hl 1 rfl) ?_
      refine va_get (D := (dC, dI)) (ci := 12) (v := .ref (ρ h0 2)) (C := RX12) (T := TX12) (N := 53) hx hb hts hfX12 hown hK hP q38 eq38 rfl 2 (by decide) (hts (.fieldLink RX12 7 "ColdShipsModel" "row" "[I") wa_148) (fun _ h9 => h9) rfl dX12_list_54 ?_
      refine lv_iload_n hx hb dX12_list_57 rfl (lv_at hl 2 rfl) ?_
      refine pz_calli (va_runS (As := [.int v]) (rest := [.ref (ρ h0 2)]) ⟨hx, hb, hml, hown, hts⟩ (t_X12_shipAt l dC dI _ v (v.toInt) (by omega) rfl) (va_cwS 1 hts gX12_list_X12_shipAt rfl rfl rfl pd_X12_shipAt ⟨Nat.le_of_ble_eq_true rfl, Nat.le_of_ble_eq_true rfl⟩) ⟨pz_blind, pz_pre pz_P0 (hK.sub (tys' := []) [] rfl) (pz_D0 (A := fun _ => True)) hN⟩ rfl rfl hl.1 rfl (lv_room (Nat.le_of_ble_eq_true rfl)) dX12_list_58 ⟨Nat.le_of_ble_eq_true rfl, Nat.le_of_ble_eq_true rfl⟩) (fun r48 hw49 => ?_)
      obtain ⟨hw49r, hw49p⟩ := hw49
      refine lv_bipush (v := 31) hx hb dX12_list_61 (by decide) ?_
      refine lv_iadd hx hb dX12_list_63 ?_
      refine lv_topi (fun z50 ez50 => ?_)
      have iz50 : z50.toInt = r48.toInt + 31 := zi_add ez50 rfl rfl (by omega) (by omega)
      refine lv_iload_n hx hb dX12_list_64 rfl (lv_at hl 3 rfl) ?_
      refine va_iast hx hb hK hP hD hS q46 0 eq46 rfl (vp_in_iff.mpr ⟨by omega, by omega⟩) dX12_list_65 (tp_k (.inl (κ 0, 12967, .inl (upd g27 z50.toNatClampNeg u))) hD (tp_in hG y1 (by decide)) eq46 (fun f51 H locs hP hD hS g53 k52 => ?_))
      have hT := hT.up y1 g53 k52 tp_o32
      have hR := hR.up y1 (by decide) k52
      have hU : mo_U (mo_R g27) (mo_R (upd g27 z50.toNatClampNeg u)) (547 + 84 * v.toInt + 31) (u.toInt) := mo_up (by omega) (rfl : u.toInt = _) (by omega)
      generalize (upd g27 z50.toNatClampNeg u) = g54 at g53 hU
      have hI := mo_w_sfree hI hU v.toInt 31 (by omega) (by omega) (by omega)
      have hKN := hKN.up hU (Or.inl (by omega))
      refine lv_aload_n hx hb dX12_list_66 rfl (lv_at hl 1 rfl) ?_
      refine lv_iconst (v := 0) hx hb dX12_list_67 (by decide) ?_
      have hf_55 : f51 h0 = .inr (12, [.int 0, .int o28_x1, .ref (ρ h0 2), .ref (ρ h0 3), .ref (ρ h0 4), .ref (ρ h0 5), .ref (ρ h0 6), .int o28_x7, .ref (ρ h0 8), .int o28_x9, .int o28_x10, .int o28_x11, .int o28_x12, .long o28_x13, .int o28_x14, .int o28_x15, .int o28_x16, .int o28_x17, .int o28_x18, .int o28_x19, .int o28_x20, .ref (ρ h0 21), .int o28_x22, .ref (ρ h0 23), .ref (ρ h0 24), .int o28_x25, .ref (ρ h0 26), .ref (ρ h0 27), .int o28_x28, .int o28_x29, .ref (ρ h0 30), .ref (ρ h0 31), .int o28_x32, .long o28_x33, .long o28_x34, .long o28_x35, .int o28_x36, .int o28_x37, .int o28_x38, .ref (ρ h0 39), .ref (ρ h0 40), .ref (ρ h0 41), .ref (ρ h0 42), .ref (ρ h0 43), .ref (ρ h0 44), .ref (ρ h0 45), .ref (ρ h0 46), .int o28_x47, .int o28_x48, .ref (ρ h0 49), .ref (ρ h0 50), .ref (ρ h0 51), .ref (ρ h0 52)]) := (k52 _ (tp_ne ht_h0 y1 (by decide))).trans g32
      refine tpk_pos (tp_in hG ht_h0 (by decide)) hf_55 (fun q56 eq56 => ?_)
      refine va_put (D := (dC, dI)) (ci := 12) (v := .int 0) (ty := .int) (C := RX12) (T := TX12) (N := 53) hx hb hts hfX12 tyX12 tyX12_ok nmX12 hown hK hP hD hS q56 eq56 rfl 1 (by decide) (hts (.fieldLink RX12 94 "ColdShipsModel" "status" "I") wa_220) (fun _ h9 => h9) rfl (tyX12_ok 1 (by decide)) rfl rfl (Nat.le_of_ble_eq_true rfl) dX12_list_68 (tp_k (.inr (12, [.int 0, .int 0, .ref (ρ h0 2), .ref (ρ h0 3), .ref (ρ h0 4), .ref (ρ h0 5), .ref (ρ h0 6), .int o28_x7, .ref (ρ h0 8), .int o28_x9, .int o28_x10, .int o28_x11, .int o28_x12, .long o28_x13, .int o28_x14, .int o28_x15, .int o28_x16, .int o28_x17, .int o28_x18, .int o28_x19, .int o28_x20, .ref (ρ h0 21), .int o28_x22, .ref (ρ h0 23), .ref (ρ h0 24), .int o28_x25, .ref (ρ h0 26), .ref (ρ h0 27), .int o28_x28, .int o28_x29, .ref (ρ h0 30), .ref (ρ h0 31), .int o28_x32, .long o28_x33, .long o28_x34, .long o28_x35, .int o28_x36, .int o28_x37, .int o28_x38, .ref (ρ h0 39), .ref (ρ h0 40), .ref (ρ h0 41), .ref (ρ h0 42), .ref (ρ h0 43), .ref (ρ h0 44), .ref (ρ h0 45), .ref (ρ h0 46), .int o28_x47, .int o28_x48, .ref (ρ h0 49), .ref (ρ h0 50), .ref (ρ h0 51), .ref (ρ h0 52)])) hD (tp_in hG ht_h0 (by decide)) eq56 (fun f57 H locs hP hD hS g59 k58 => ?_))
      have hT := hT.up ht_h0 g59 k58 ⟨_, _, _, _, _, _, _, _, _, _, _, _, _, _, _, _, _, _, _, _, _, _, _, _, _, _, _, _, rfl, ro28_0, ro28_1, ro28_2, ro28_3, ro28_4, ro28_5, ro28_6, ro28_7, ro28_8, ro28_9, ro28_10, ro28_11, ro28_12, ro28_13, ro28_14⟩
      have hR := hR.up ht_h0 (by decide) k58
      refine lv_iload_n hx hb dX12_list_71 rfl (lv_at hl 0 rfl) ?_
      have hf_60 : f57 (ρ h0 2) = .inl (κ 0, 12967, .inl g54) := (k58 _ (tp_ne y1 ht_h0 (by decide))).trans g53
      exact W.iret (v := z47) hx hb hr (fun t ht hW => ⟨⟨z47, f57, rfl, ⟨hT, hR, trivial, ⟨(by rw [hf_60, mo_i1]; exact hI), (by rw [hf_60, mo_i1, hf_o26, mo_i1]; exact hKN)⟩⟩, by rw [ht]; exact hP, va_K.moved hW.alike hK, hD⟩, hS.F ht⟩) hS.2.2 dX12_list_72
    · have ic41 : r39.toInt = 0 := zi_nef rfl rfl c41
      clear hw40r ic41
      refine lv_aload_n hx hb dX12_list_33 rfl (lv_at hl 0 rfl) ?_
      refine lv_bipush (v := (-2)) hx hb dX12_list_34 (by decide) ?_
      have hFc := tp_fr hD hS hA
      refine va_calli (va_runV (As := [.int (-2)]) (rest := []) ⟨hx, hb, hml, hown, hts⟩ (t_X12_told l dC dI _ κ Θ τ ν ρ L f30 hG hT h0 ((-2)) ht_h0) (cwV 1 hts gX12_list_X12_told rfl rfl rfl ⟨rfl, pd_X12_told⟩ ⟨Nat.le_of_ble_eq_true rfl, Nat.le_of_ble_eq_true rfl⟩) ⟨pz_blind, va_recv hK hP (ci := 12) (q0 := q38) rfl eq38, pz_pre hP hK hD hN⟩ rfl rfl hl.1 rfl (lv_room (Nat.le_of_ble_eq_true rfl)) dX12_list_36 ⟨Nat.le_of_ble_eq_true rfl, Nat.le_of_ble_eq_true rfl⟩) hS (fun q _ h => hFc q h) hFc (fun r61 f63 t H1 locs ht hvm hw62 hB hz1 hk1 hS => ?_)
      refine tn_4 hw62 (fun hT hF64 hw62r hw62p => ?_); clear hw62
      have hR := hR.then hF64 (by decide)
      have hP := hB.1; rw [ht] at hP; have hD := tp_ad f63 hD; clear hB hFc hz1 hk1; subst ht; generalize t.heap = H at hP hS ⊢
      have hw62pq : r61.toInt = (-2) := by rw [hw62p]; rfl
      have hf_65 : f63 (ρ h0 2) = .inl (κ 0, 12967, .inl g27) := (hF64 _ (by rw [tp_iu y1]; decide)).trans hf_33
      exact W.iret (v := r61) hx hb hr (fun t ht hW => ⟨⟨r61, f63, rfl, ⟨hT, hR, trivial, ⟨(by rw [hf_65, mo_i1]; exact hI), (by rw [hf_65, mo_i1, hf_o26, mo_i1]; exact hKN)⟩⟩, by rw [ht]; exact hP, va_K.moved hW.alike hK, hD⟩, hS.F ht⟩) hS.2.2 dX12_list_39
  · have ic36 : r34.toInt = 0 := zi_nef rfl rfl c36
    clear hw35r ic36
    refine lv_aload_n hx hb dX12_list_19 rfl (lv_at hl 0 rfl) ?_
    refine lv_iconst (v := (-1)) hx hb dX12_list_20 (by decide) ?_
    refine tpk_pos (tp_in hG ht_h0 (by decide)) g32 (fun q66 eq66 => ?_)
    have hFc := tp_fr hD hS hA
    refine va_calli (va_runV (As := [.int (-1)]) (rest := []) ⟨hx, hb, hml, hown, hts⟩ (t_X12_told l dC dI _ κ Θ τ ν ρ L f30 hG hT h0 ((-1)) ht_h0) (cwV 1 hts gX12_list_X12_told rfl rfl rfl ⟨rfl, pd_X12_told⟩ ⟨Nat.le_of_ble_eq_true rfl, Nat.le_of_ble_eq_true rfl⟩) ⟨pz_blind, va_recv hK hP (ci := 12) (q0 := q66) rfl eq66, pz_pre hP hK hD hN⟩ rfl rfl hl.1 rfl (lv_room (Nat.le_of_ble_eq_true rfl)) dX12_list_21 ⟨Nat.le_of_ble_eq_true rfl, Nat.le_of_ble_eq_true rfl⟩) hS (fun q _ h => hFc q h) hFc (fun r67 f69 t H1 locs ht hvm hw68 hB hz1 hk1 hS => ?_)
    refine tn_4 hw68 (fun hT hF70 hw68r hw68p => ?_); clear hw68
    have hR := hR.then hF70 (by decide)
    have hP := hB.1; rw [ht] at hP; have hD := tp_ad f69 hD; clear hB hFc hz1 hk1; subst ht; generalize t.heap = H at hP hS ⊢
    have hw68pq : r67.toInt = (-1) := by rw [hw68p]; rfl
    have hf_71 : f69 (ρ h0 2) = .inl (κ 0, 12967, .inl g27) := (hF70 _ (by rw [tp_iu y1]; decide)).trans hf_33
    exact W.iret (v := r67) hx hb hr (fun t ht hW => ⟨⟨r67, f69, rfl, ⟨hT, hR, trivial, ⟨(by rw [hf_71, mo_i1]; exact hI), (by rw [hf_71, mo_i1, hf_o26, mo_i1]; exact hKN)⟩⟩, by rw [ht]; exact hP, va_K.moved hW.alike hK, hD⟩, hS.F ht⟩) hS.2.2 dX12_list_24
set_option maxHeartbeats 4000000 in
set_option maxRecDepth 100000 in
theorem t_X12_reading (l : Launch) (dC : Nat → ClassId) (dI : Nat → Nat → Nat) (sz : Nat) (κ : Nat → ClassId) (Θ : Nat → Option Int) (τ ν : Nat → Nat) (ρ : Nat → Nat → Nat) (L : List Nat) (f : Nat → va_E) (hG : tp_G τ ν ρ L) (hT : tp_T (mo_O κ Θ) κ τ ν ρ f) (h0 : Nat) (v : Int32) (u : Int32) (a : Int32) (a4 : Int32) (a5 : Int32) (ht_h0 : τ h0 = 13) (hJ : mo_RI (-1) 0 (mo_R (mo_i (f (ρ h0 2))))) : Met l yX12_reading wqX12_reading ({ frames := 4, cells := 0, slots := 0, locals := 1200 }) (va_Pc [.ref h0, .int v, .int u, .int a, .int a4, .int a5] (pz_B dC dI (tp_K κ) (va_pl L f) sz)) (va_Qi (fun (r : Int32) (f1 : Nat → va_E) => tp_T (mo_O κ Θ) κ τ ν ρ f1 ∧ tp_F τ [13, 32] f f1 ∧ True ∧ mo_RI (-1) 0 (mo_R (mo_i (f1 (ρ h0 2)))) ∧ mo_KN (fun k => k = 9) (mo_R (mo_i (f (ρ h0 2)))) (mo_R (mo_i (f1 (ρ h0 2))))) (fun (f1 : Nat → va_E) (t : State) => pz_E dC dI (tp_K κ) (va_A (va_pl L f) sz) (va_pl L f1) t) (va_A (va_pl L f) sz)) 0 0 (va_A (va_pl L f) sz) := by
  refine Met.ofW (cc := cX12_reading) (maxL := 7) (ret := some .int) (by decide) rfl ?_
  intro p e s m args below meth c s₁ B hml hv
  obtain ⟨rfl, hsz, hP, hK, hD0, hN⟩ := hv
  have hx := B.exec
  have hb := B.bytes
  have hr := B.returns
  have hts := fun (w : Cond) (h : w ∈ WALL) => atoms_spec (ws := wqX12_reading) B.pre w (List.mem_cons_of_mem _ h)
  have hown : s.vm.findClass RX12 = some m.cls := findClass_of_methodNamed B.named
  have hlocks := B.notSynchronized
  subst hsz
  have hD := hD0.self (sz := s.heap.size)
  generalize hAe : va_A (va_pl L f) s.heap.size = A at hD ⊢
  have hA : ∀ q : Nat, s.heap.size ≤ q → A q := fun q h => by rw [← hAe]; exact Or.inr h
  have hS : va_S A s.heap s.heap [] := va_S.rf
  have hR : tp_F τ [13, 32] f f := tp_F.rf
  have hl := lv_entry ([.ref h0, .int v, .int u, .int a, .int a4, .int a5]) (n := 7) (Nat.le_of_ble_eq_true rfl)
  rw [lg_entry_eq]
  generalize (lg_sl ([.ref h0, .int v, .int u, .int a, .int a4, .int a5]) ++ List.replicate (7 - (lg_sl ([.ref h0, .int v, .int u, .int a, .int a4, .int a5])).length) Slot.unset).toArray = ls at hl ⊢
  have hl : lv_has ls 7 [(0, .ref h0), (1, .int v), (2, .int u), (3, .int a), (4, .int a4), (5, .int a5)] := hl
  refine tgk_13 hG ht_h0 (fun y1 y2 y3 y4 y5 y6 y7 y8 y9 y10 y11 y12 y13 y14 y15 y16 y17 y18 y19 y20 y21 y22 y23 y24 y25 => ?_)
  refine tpk_32 hT y1 (fun g27 hf_o26 => ?_)
  have hI : mo_RI (-1) 0 (mo_R g27) := by have q9 := hJ; rw [hf_o26, mo_i1] at q9; exact q9
  have hKN : mo_KN (fun k => k = 9) (mo_R g27) (mo_R g27) := mo_KN.rf
  refine lv_aload_n hx hb dX12_reading_0 rfl (lv_at hl 0 rfl) ?_
  refine lv_iconst (v := 0) hx hb dX12_reading_1 (by decide) ?_
  refine tpk_13 hT ht_h0 (fun o28_x0 o28_x1 o28_x7 o28_x9 o28_x10 o28_x11 o28_x12 o28_x13 o28_x14 o28_x15 o28_x16 o28_x17 o28_x18 o28_x19 o28_x20 o28_x22 o28_x25 o28_x28 o28_x29 o28_x32 o28_x33 o28_x34 o28_x35 o28_x36 o28_x37 o28_x38 o28_x47 o28_x48 hf_o28 ro28_0 ro28_1 ro28_2 ro28_3 ro28_4 ro28_5 ro28_6 ro28_7 ro28_8 ro28_9 ro28_10 ro28_11 ro28_12 ro28_13 ro28_14 => ?_)
  refine tpk_pos (tp_in hG ht_h0 (by decide)) hf_o28 (fun q29 eq29 => ?_)
  refine va_put (D := (dC, dI)) (ci := 12) (v := .int 0) (ty := .int) (C := RX12) (T := TX12) (N := 53) hx hb hts hfX12 tyX12 tyX12_ok nmX12 hown hK hP hD hS q29 eq29 rfl 0 (by decide) (hts (.fieldLink RX12 91 "ColdShipsModel" "thrown" "I") wa_209) (fun _ h9 => h9) rfl (tyX12_ok 0 (by decide)) rfl rfl (Nat.le_of_ble_eq_true rfl) dX12_reading_2 (tp_k (.inr (12, [.int 0, .int o28_x1, .ref (ρ h0 2), .ref (ρ h0 3), .ref (ρ h0 4), .ref (ρ h0 5), .ref (ρ h0 6), .int o28_x7, .ref (ρ h0 8), .int o28_x9, .int o28_x10, .int o28_x11, .int o28_x12, .long o28_x13, .int o28_x14, .int o28_x15, .int o28_x16, .int o28_x17, .int o28_x18, .int o28_x19, .int o28_x20, .ref (ρ h0 21), .int o28_x22, .ref (ρ h0 23), .ref (ρ h0 24), .int o28_x25, .ref (ρ h0 26), .ref (ρ h0 27), .int o28_x28, .int o28_x29, .ref (ρ h0 30), .ref (ρ h0 31), .int o28_x32, .long o28_x33, .long o28_x34, .long o28_x35, .int o28_x36, .int o28_x37, .int o28_x38, .ref (ρ h0 39), .ref (ρ h0 40), .ref (ρ h0 41), .ref (ρ h0 42), .ref (ρ h0 43), .ref (ρ h0 44), .ref (ρ h0 45), .ref (ρ h0 46), .int o28_x47, .int o28_x48, .ref (ρ h0 49), .ref (ρ h0 50), .ref (ρ h0 51), .ref (ρ h0 52)])) hD (tp_in hG ht_h0 (by decide)) eq29 (fun f30 H locs hP hD hS g32 k31 => ?_))
  have hT := hT.up ht_h0 g32 k31 ⟨_, _, _, _, _, _, _, _, _, _, _, _, _, _, _, _, _, _, _, _, _, _, _, _, _, _, _, _, rfl, ro28_0, ro28_1, ro28_2, ro28_3, ro28_4, ro28_5, ro28_6, ro28_7, ro28_8, ro28_9, ro28_10, ro28_11, ro28_12, ro28_13, ro28_14⟩
  have hR := hR.up ht_h0 (by decide) k31
  refine lv_iload_n hx hb dX12_reading_5 rfl (lv_at hl 2 rfl) ?_
  refine lv_i2l hx hb dX12_reading_6 rfl ?_
  refine lv_lconst (v := 0) hx hb dX12_reading_7 (by decide) ?_
  refine lv_lconst (v := 1) hx hb dX12_reading_8 (by decide) ?_
  have hf_33 : f30 (ρ h0 2) = .inl (κ 0, 12967, .inl g27) := (k31 _ (tp_ne y1 ht_h0 (by decide))).trans hf_o26
  refine pz_calli (va_runS (As := [.long u.toInt64, .long 0, .long 1]) (rest := []) ⟨hx, hb, hml, hown, hts⟩ (t_X12_in l dC dI _ u.toInt64 (0) (1) (u.toInt) (0) (1) (Int32.toInt_toInt64 u) rfl rfl) (va_cwS 3 hts gX12_reading_X12_in rfl rfl rfl pd_X12_in ⟨Nat.le_of_ble_eq_true rfl, Nat.le_of_ble_eq_true rfl⟩) ⟨pz_blind, pz_pre pz_P0 (hK.sub (tys' := []) [] rfl) (pz_D0 (A := fun _ => True)) hN⟩ rfl rfl hl.1 rfl (lv_room (Nat.le_of_ble_eq_true rfl)) dX12_reading_9 ⟨Nat.le_of_ble_eq_true rfl, Nat.le_of_ble_eq_true rfl⟩) (fun r34 hw35 => ?_)
  obtain ⟨hw35r, hw35p⟩ := hw35
  refine lv_if_eq (tgt := 50) hx hb dX12_reading_12 (by decide) (fun c36 => ?_) (fun c36 => ?_)
  · have ic36 : r34.toInt = 0 := zi_eq rfl rfl c36
    clear hw35r ic36
    refine lv_aload_n hx hb dX12_reading_50 rfl (lv_at hl 0 rfl) ?_
    refine lv_iconst (v := (-1)) hx hb dX12_reading_51 (by decide) ?_
    refine tpk_pos (tp_in hG ht_h0 (by decide)) g32 (fun q37 eq37 => ?_)
    have hFc := tp_fr hD hS hA
    refine va_calli (va_runV (As := [.int (-1)]) (rest := []) ⟨hx, hb, hml, hown, hts⟩ (t_X12_told l dC dI _ κ Θ τ ν ρ L f30 hG hT h0 ((-1)) ht_h0) (cwV 1 hts gX12_reading_X12_told rfl rfl rfl ⟨rfl, pd_X12_told⟩ ⟨Nat.le_of_ble_eq_true rfl, Nat.le_of_ble_eq_true rfl⟩) ⟨pz_blind, va_recv hK hP (ci := 12) (q0 := q37) rfl eq37, pz_pre hP hK hD hN⟩ rfl rfl hl.1 rfl (lv_room (Nat.le_of_ble_eq_true rfl)) dX12_reading_52 ⟨Nat.le_of_ble_eq_true rfl, Nat.le_of_ble_eq_true rfl⟩) hS (fun q _ h => hFc q h) hFc (fun r38 f40 t H1 locs ht hvm hw39 hB hz1 hk1 hS => ?_)
    refine tn_4 hw39 (fun hT hF41 hw39r hw39p => ?_); clear hw39
    have hR := hR.then hF41 (by decide)
    have hP := hB.1; rw [ht] at hP; have hD := tp_ad f40 hD; clear hB hFc hz1 hk1; subst ht; generalize t.heap = H at hP hS ⊢
    have hw39pq : r38.toInt = (-1) := by rw [hw39p]; rfl
    have hf_42 : f40 (ρ h0 2) = .inl (κ 0, 12967, .inl g27) := (hF41 _ (by rw [tp_iu y1]; decide)).trans hf_33
    exact W.iret (v := r38) hx hb hr (fun t ht hW => ⟨⟨r38, f40, rfl, ⟨hT, hR, trivial, ⟨(by rw [hf_42, mo_i1]; exact hI), (by rw [hf_42, mo_i1, hf_o26, mo_i1]; exact hKN)⟩⟩, by rw [ht]; exact hP, va_K.moved hW.alike hK, hD⟩, hS.F ht⟩) hS.2.2 dX12_reading_55
  · have ic36 : r34.toInt ≠ 0 := zi_eqf rfl rfl c36
    replace ic36 : 1 ≤ r34.toInt := by omega
    have p43 : (0) ≤ (u.toInt) ∧ (u.toInt) ≤ (1) := (tp_cond.yes hw35p) (by omega)
    clear hw35r ic36
    refine lv_iload_n hx hb dX12_reading_15 rfl (lv_at hl 3 rfl) ?_
    refine lv_i2l hx hb dX12_reading_16 rfl ?_
    refine lv_lconst (v := 0) hx hb dX12_reading_17 (by decide) ?_
    refine lv_ldc2 (own := RX12) (v := 5000) hx hb hown (hts (.constantLong RX12 481 (5000)) wa_1260) dX12_reading_18 ?_
    refine pz_calli (va_runS (As := [.long a.toInt64, .long 0, .long 5000]) (rest := []) ⟨hx, hb, hml, hown, hts⟩ (t_X12_in l dC dI _ a.toInt64 (0) (5000) (a.toInt) (0) (5000) (Int32.toInt_toInt64 a) rfl rfl) (va_cwS 3 hts gX12_reading_X12_in rfl rfl rfl pd_X12_in ⟨Nat.le_of_ble_eq_true rfl, Nat.le_of_ble_eq_true rfl⟩) ⟨pz_blind, pz_pre pz_P0 (hK.sub (tys' := []) [] rfl) (pz_D0 (A := fun _ => True)) hN⟩ rfl rfl hl.1 rfl (lv_room (Nat.le_of_ble_eq_true rfl)) dX12_reading_21 ⟨Nat.le_of_ble_eq_true rfl, Nat.le_of_ble_eq_true rfl⟩) (fun r44 hw45 => ?_)
    obtain ⟨hw45r, hw45p⟩ := hw45
    refine lv_if_eq (tgt := 50) hx hb dX12_reading_24 (by decide) (fun c46 => ?_) (fun c46 => ?_)
    · have ic46 : r44.toInt = 0 := zi_eq rfl rfl c46
      clear hw45r ic46
      refine lv_aload_n hx hb dX12_reading_50 rfl (lv_at hl 0 rfl) ?_
      refine lv_iconst (v := (-1)) hx hb dX12_reading_51 (by decide) ?_
      refine tpk_pos (tp_in hG ht_h0 (by decide)) g32 (fun q47 eq47 => ?_)
      have hFc := tp_fr hD hS hA
      refine va_calli (va_runV (As := [.int (-1)]) (rest := []) ⟨hx, hb, hml, hown, hts⟩ (t_X12_told l dC dI _ κ Θ τ ν ρ L f30 hG hT h0 ((-1)) ht_h0) (cwV 1 hts gX12_reading_X12_told rfl rfl rfl ⟨rfl, pd_X12_told⟩ ⟨Nat.le_of_ble_eq_true rfl, Nat.le_of_ble_eq_true rfl⟩) ⟨pz_blind, va_recv hK hP (ci := 12) (q0 := q47) rfl eq47, pz_pre hP hK hD hN⟩ rfl rfl hl.1 rfl (lv_room (Nat.le_of_ble_eq_true rfl)) dX12_reading_52 ⟨Nat.le_of_ble_eq_true rfl, Nat.le_of_ble_eq_true rfl⟩) hS (fun q _ h => hFc q h) hFc (fun r48 f50 t H1 locs ht hvm hw49 hB hz1 hk1 hS => ?_)
      refine tn_4 hw49 (fun hT hF51 hw49r hw49p => ?_); clear hw49
      have hR := hR.then hF51 (by decide)
      have hP := hB.1; rw [ht] at hP; have hD := tp_ad f50 hD; clear hB hFc hz1 hk1; subst ht; generalize t.heap = H at hP hS ⊢
      have hw49pq : r48.toInt = (-1) := by rw [hw49p]; rfl
      have hf_52 : f50 (ρ h0 2) = .inl (κ 0, 12967, .inl g27) := (hF51 _ (by rw [tp_iu y1]; decide)).trans hf_33
      exact W.iret (v := r48) hx hb hr (fun t ht hW => ⟨⟨r48, f50, rfl, ⟨hT, hR, trivial, ⟨(by rw [hf_52, mo_i1]; exact hI), (by rw [hf_52, mo_i1, hf_o26, mo_i1]; exact hKN)⟩⟩, by rw [ht]; exact hP, va_K.moved hW.alike hK, hD⟩, hS.F ht⟩) hS.2.2 dX12_reading_55
    · have ic46 : r44.toInt ≠ 0 := zi_eqf rfl rfl c46
      replace ic46 : 1 ≤ r44.toInt := by omega
      have p53 : (0) ≤ (a.toInt) ∧ (a.toInt) ≤ (5000) := (tp_cond.yes hw45p) (by omega)
      clear hw45r ic46
      refine lv_iload hx hb dX12_reading_27 (lv_at hl 4 rfl) ?_
      refine lv_i2l hx hb dX12_reading_29 rfl ?_
      refine lv_ldc2 (own := RX12) (v := (-20)) hx hb hown (hts (.constantLong RX12 485 (-20)) wa_1278) dX12_reading_30 ?_
      refine lv_ldc2 (own := RX12) (v := 20) hx hb hown (hts (.constantLong RX12 487 (20)) wa_1279) dX12_reading_33 ?_
      refine pz_calli (va_runS (As := [.long a4.toInt64, .long (-20), .long 20]) (rest := []) ⟨hx, hb, hml, hown, hts⟩ (t_X12_in l dC dI _ a4.toInt64 ((-20)) (20) (a4.toInt) ((-20)) (20) (Int32.toInt_toInt64 a4) rfl rfl) (va_cwS 3 hts gX12_reading_X12_in rfl rfl rfl pd_X12_in ⟨Nat.le_of_ble_eq_true rfl, Nat.le_of_ble_eq_true rfl⟩) ⟨pz_blind, pz_pre pz_P0 (hK.sub (tys' := []) [] rfl) (pz_D0 (A := fun _ => True)) hN⟩ rfl rfl hl.1 rfl (lv_room (Nat.le_of_ble_eq_true rfl)) dX12_reading_36 ⟨Nat.le_of_ble_eq_true rfl, Nat.le_of_ble_eq_true rfl⟩) (fun r54 hw55 => ?_)
      obtain ⟨hw55r, hw55p⟩ := hw55
      refine lv_if_eq (tgt := 50) hx hb dX12_reading_39 (by decide) (fun c56 => ?_) (fun c56 => ?_)
      · have ic56 : r54.toInt = 0 := zi_eq rfl rfl c56
        clear hw55r ic56
        refine lv_aload_n hx hb dX12_reading_50 rfl (lv_at hl 0 rfl) ?_
        refine lv_iconst (v := (-1)) hx hb dX12_reading_51 (by decide) ?_
        refine tpk_pos (tp_in hG ht_h0 (by decide)) g32 (fun q57 eq57 => ?_)
        have hFc := tp_fr hD hS hA
        refine va_calli (va_runV (As := [.int (-1)]) (rest := []) ⟨hx, hb, hml, hown, hts⟩ (t_X12_told l dC dI _ κ Θ τ ν ρ L f30 hG hT h0 ((-1)) ht_h0) (cwV 1 hts gX12_reading_X12_told rfl rfl rfl ⟨rfl, pd_X12_told⟩ ⟨Nat.le_of_ble_eq_true rfl, Nat.le_of_ble_eq_true rfl⟩) ⟨pz_blind, va_recv hK hP (ci := 12) (q0 := q57) rfl eq57, pz_pre hP hK hD hN⟩ rfl rfl hl.1 rfl (lv_room (Nat.le_of_ble_eq_true rfl)) dX12_reading_52 ⟨Nat.le_of_ble_eq_true rfl, Nat.le_of_ble_eq_true rfl⟩) hS (fun q _ h => hFc q h) hFc (fun r58 f60 t H1 locs ht hvm hw59 hB hz1 hk1 hS => ?_)
        refine tn_4 hw59 (fun hT hF61 hw59r hw59p => ?_); clear hw59
        have hR := hR.then hF61 (by decide)
        have hP := hB.1; rw [ht] at hP; have hD := tp_ad f60 hD; clear hB hFc hz1 hk1; subst ht; generalize t.heap = H at hP hS ⊢
        have hw59pq : r58.toInt = (-1) := by rw [hw59p]; rfl
        have hf_62 : f60 (ρ h0 2) = .inl (κ 0, 12967, .inl g27) := (hF61 _ (by rw [tp_iu y1]; decide)).trans hf_33
        exact W.iret (v := r58) hx hb hr (fun t ht hW => ⟨⟨r58, f60, rfl, ⟨hT, hR, trivial, ⟨(by rw [hf_62, mo_i1]; exact hI), (by rw [hf_62, mo_i1, hf_o26, mo_i1]; exact hKN)⟩⟩, by rw [ht]; exact hP, va_K.moved hW.alike hK, hD⟩, hS.F ht⟩) hS.2.2 dX12_reading_55
      · have ic56 : r54.toInt ≠ 0 := zi_eqf rfl rfl c56
        replace ic56 : 1 ≤ r54.toInt := by omega
        have p63 : ((-20)) ≤ (a4.toInt) ∧ (a4.toInt) ≤ (20) := (tp_cond.yes hw55p) (by omega)
        clear hw55r ic56
        refine lv_iload hx hb dX12_reading_42 (lv_at hl 5 rfl) ?_
        refine pz_calli (va_runS (As := [.int a5]) (rest := []) ⟨hx, hb, hml, hown, hts⟩ (t_X12_isHour l dC dI _ a5 (a5.toInt) rfl) (va_cwS 1 hts gX12_reading_X12_isHour rfl rfl rfl pd_X12_isHour ⟨Nat.le_of_ble_eq_true rfl, Nat.le_of_ble_eq_true rfl⟩) ⟨pz_blind, pz_pre pz_P0 (hK.sub (tys' := []) [] rfl) (pz_D0 (A := fun _ => True)) hN⟩ rfl rfl hl.1 rfl (lv_room (Nat.le_of_ble_eq_true rfl)) dX12_reading_44 ⟨Nat.le_of_ble_eq_true rfl, Nat.le_of_ble_eq_true rfl⟩) (fun r64 hw65 => ?_)
        obtain ⟨hw65r, hw65p⟩ := hw65
        refine lv_if_ne (tgt := 56) hx hb dX12_reading_47 (by decide) (fun c66 => ?_) (fun c66 => ?_)
        · have ic66 : r64.toInt ≠ 0 := zi_ne rfl rfl c66
          replace ic66 : 1 ≤ r64.toInt := by omega
          have p67 : 0 ≤ (a5.toInt) ∧ (a5.toInt) ≤ 2399 := (tp_cond.yes hw65p) (by omega)
          clear hw65r ic66
          refine lv_aload_n hx hb dX12_reading_56 rfl (lv_at hl 0 rfl) ?_
          refine lv_iload_n hx hb dX12_reading_57 rfl (lv_at hl 1 rfl) ?_
          refine tpk_pos (tp_in hG ht_h0 (by decide)) g32 (fun q68 eq68 => ?_)
          refine pz_calli (va_runV (As := [.int v]) (rest := []) ⟨hx, hb, hml, hown, hts⟩ (t_X12_isLanding l dC dI _ κ Θ τ ν ρ L f30 hG hT h0 v (-1) 0 ht_h0 (by omega) (by rw [hf_33, mo_i1]; exact hI)) (cwV 1 hts gX12_reading_X12_isLanding rfl rfl rfl ⟨rfl, pd_X12_isLanding⟩ ⟨Nat.le_of_ble_eq_true rfl, Nat.le_of_ble_eq_true rfl⟩) ⟨pz_blind, va_recv hK hP (ci := 12) (q0 := q68) rfl eq68, pz_pre hP hK hD hN⟩ rfl rfl hl.1 rfl (lv_room (Nat.le_of_ble_eq_true rfl)) dX12_reading_58 ⟨Nat.le_of_ble_eq_true rfl, Nat.le_of_ble_eq_true rfl⟩) (fun r69 hw70 => ?_)
          obtain ⟨hw70r, hw70p⟩ := hw70
          have := hI.k5
          rw [hf_33, mo_i1] at hw70p
          refine lv_if_ne (tgt := 71) hx hb dX12_reading_61 (by decide) (fun c71 => ?_) (fun c71 => ?_)
          · have ic71 : r69.toInt ≠ 0 := zi_ne rfl rfl c71
            replace ic71 : 1 ≤ r69.toInt := by omega
            have p72 : 0 ≤ v.toInt ∧ v.toInt < mo_R g27 5 := (tp_cond.yes hw70p) (by omega)
            clear hw70r ic71
            refine lv_aload_n hx hb dX12_reading_71 rfl (lv_at hl 0 rfl) ?_
            refine va_get (D := (dC, dI)) (ci := 12) (v := .ref (ρ h0 2)) (C := RX12) (T := TX12) (N := 53) hx hb hts hfX12 hown hK hP q68 eq68 rfl 2 (by decide) (hts (.fieldLink RX12 7 "ColdShipsModel" "row" "[I") wa_148) (fun _ h9 => h9) rfl dX12_reading_72 ?_
            refine lv_bipush (v := 9) hx hb dX12_reading_75 (by decide) ?_
            refine tpk_pos (tp_in hG y1 (by decide)) hf_33 (fun q73 eq73 => ?_)
            refine va_iald hx hb hK hP q73 0 eq73 rfl (vp_in_iff.mpr ⟨by decide, by decide⟩) dX12_reading_77 ?_
            refine lv_topi (fun z74 ez74 => ?_)
            have jz74 : z74.toInt = mo_R g27 (9) := mo_rd ez74 (show (9 : Int32).toInt = (9) from by decide)
            have kz74 := hI.k9
            refine lv_bipush (v := 60) hx hb dX12_reading_78 (by decide) ?_
            refine lv_icmp_ne (tgt := 90) hx hb dX12_reading_80 (by decide) (fun c75 => ?_) (fun c75 => ?_)
            · have ic75 : z74.toInt ≠ 60 := zi_ne rfl rfl c75
              replace ic75 : z74.toInt ≤ 59 := by omega
              refine lv_sipush (v := 12619) hx hb dX12_reading_90 (by decide) ?_
              refine lv_iconst (v := 5) hx hb dX12_reading_93 (by decide) ?_
              refine lv_aload_n hx hb dX12_reading_94 rfl (lv_at hl 0 rfl) ?_
              refine va_get (D := (dC, dI)) (ci := 12) (v := .ref (ρ h0 2)) (C := RX12) (T := TX12) (N := 53) hx hb hts hfX12 hown hK hP q68 eq68 rfl 2 (by decide) (hts (.fieldLink RX12 7 "ColdShipsModel" "row" "[I") wa_148) (fun _ h9 => h9) rfl dX12_reading_95 ?_
              refine lv_bipush (v := 9) hx hb dX12_reading_98 (by decide) ?_
              refine va_iald hx hb hK hP q73 0 eq73 rfl (vp_in_iff.mpr ⟨by decide, by decide⟩) dX12_reading_100 ?_
              refine lv_topi (fun z76 ez76 => ?_)
              have jz76 : z76.toInt = mo_R g27 (9) := mo_rd ez76 (show (9 : Int32).toInt = (9) from by decide)
              have kz76 := hI.k9
              have vz76 : z76.toInt = z74.toInt := jz76.trans (jz74).symm
              refine lv_imul hx hb dX12_reading_101 ?_
              refine lv_topi (fun z77 ez77 => ?_)
              have iz77 : z77.toInt = 5 * z76.toInt := zi_mul ez77 rfl rfl (by omega) (by omega)
              refine lv_iadd hx hb dX12_reading_102 ?_
              refine lv_topi (fun z78 ez78 => ?_)
              have iz78 : z78.toInt = 12619 + z77.toInt := zi_add ez78 rfl rfl (by omega) (by omega)
              refine lv_istore (lv' := [(6, .int z78), (0, .ref h0), (1, .int v), (2, .int u), (3, .int a), (4, .int a4), (5, .int a5)]) hx hb dX12_reading_103 hl (by decide) rfl (fun ls hl => ?_)
              refine lv_aload_n hx hb dX12_reading_105 rfl (lv_at hl 1 rfl) ?_
              refine lv_iload hx hb dX12_reading_106 (lv_at hl 0 rfl) ?_
              refine lv_iload_n hx hb dX12_reading_108 rfl (lv_at hl 2 rfl) ?_
              refine lv_iload_n hx hb dX12_reading_109 rfl (lv_at hl 3 rfl) ?_
              refine lv_iload_n hx hb dX12_reading_110 rfl (lv_at hl 4 rfl) ?_
              refine lv_iload hx hb dX12_reading_111 (lv_at hl 5 rfl) ?_
              have hFc := tp_fr hD hS hA
              refine va_callv (va_runV (As := [.int z78, .int v, .int u, .int a, .int a4]) (rest := []) ⟨hx, hb, hml, hown, hts⟩ (t_X12_addFour l dC dI _ κ Θ τ ν ρ L f30 hG hT h0 z78 v u a a4 ht_h0 (by first | decide | omega)) (cwV 5 hts gX12_reading_X12_addFour rfl rfl rfl ⟨rfl, pd_X12_addFour⟩ ⟨Nat.le_of_ble_eq_true rfl, Nat.le_of_ble_eq_true rfl⟩) ⟨pz_blind, va_recv hK hP (ci := 12) (q0 := q68) rfl eq68, pz_pre hP hK hD hN⟩ rfl rfl hl.1 rfl (lv_room (Nat.le_of_ble_eq_true rfl)) dX12_reading_113 ⟨Nat.le_of_ble_eq_true rfl, Nat.le_of_ble_eq_true rfl⟩) hS (fun q _ h => hFc q h) hFc (fun f81 t H1 locs ht hvm hw80 hB hz1 hk1 hS => ?_)
              refine tn_3 hw80 (fun hT hF82 hw80p => ?_); clear hw80
              have hR := hR.then hF82 (by decide)
              have hP := hB.1; rw [ht] at hP; have hD := tp_ad f81 hD; clear hB hFc hz1 hk1; subst ht; generalize t.heap = H at hP hS ⊢
              rw [hf_33, mo_i1] at hw80p
              obtain ⟨Q1_82, Q2_82, Q3_82, u1_82, u2_82, u3_82, u4_82⟩ := hw80p
              refine tpk_32 hT y1 (fun g84 hf_o83 => ?_)
              rw [hf_o83, mo_i1] at u4_82
              have hU : mo_U (mo_R g27) (Q1_82) (12619 + 5 * z74.toInt) (v.toInt) := by have q9 := u1_82; rw [show z78.toInt = (12619 + 5 * z74.toInt) by omega] at q9; exact q9
              have hI := mo_w_flat hI hU (by omega)
              have hKN := hKN.up hU (Or.inl (by omega))
              have pn85 : Q1_82 (9) = z74.toInt := (hU.ne (by omega) (by omega)).trans (jz74).symm
              have hU : mo_U (Q1_82) (Q2_82) (12620 + 5 * z74.toInt) (u.toInt) := by have q9 := u2_82; rw [show z78.toInt + 1 = (12620 + 5 * z74.toInt) by omega] at q9; exact q9
              have hI := mo_w_flat hI hU (by omega)
              have hKN := hKN.up hU (Or.inl (by omega))
              have pn86 : Q2_82 (9) = z74.toInt := (hU.ne (by omega) (by omega)).trans pn85
              have hU : mo_U (Q2_82) (Q3_82) (12621 + 5 * z74.toInt) (a.toInt) := by have q9 := u3_82; rw [show z78.toInt + 2 = (12621 + 5 * z74.toInt) by omega] at q9; exact q9
              have hI := mo_w_flat hI hU (by omega)
              have hKN := hKN.up hU (Or.inl (by omega))
              have pn87 : Q3_82 (9) = z74.toInt := (hU.ne (by omega) (by omega)).trans pn86
              have hU : mo_U (Q3_82) (mo_R g84) (12622 + 5 * z74.toInt) (a4.toInt) := by have q9 := u4_82; rw [show z78.toInt + 3 = (12622 + 5 * z74.toInt) by omega] at q9; exact q9
              have hI := mo_w_flat hI hU (by omega)
              have hKN := hKN.up hU (Or.inl (by omega))
              have pn88 : mo_R g84 (9) = z74.toInt := (hU.ne (by omega) (by omega)).trans pn87
              refine lv_aload_n hx hb dX12_reading_116 rfl (lv_at hl 1 rfl) ?_
              have hf_89 : f81 h0 = .inr (12, [.int 0, .int o28_x1, .ref (ρ h0 2), .ref (ρ h0 3), .ref (ρ h0 4), .ref (ρ h0 5), .ref (ρ h0 6), .int o28_x7, .ref (ρ h0 8), .int o28_x9, .int o28_x10, .int o28_x11, .int o28_x12, .long o28_x13, .int o28_x14, .int o28_x15, .int o28_x16, .int o28_x17, .int o28_x18, .int o28_x19, .int o28_x20, .ref (ρ h0 21), .int o28_x22, .ref (ρ h0 23), .ref (ρ h0 24), .int o28_x25, .ref (ρ h0 26), .ref (ρ h0 27), .int o28_x28, .int o28_x29, .ref (ρ h0 30), .ref (ρ h0 31), .int o28_x32, .long o28_x33, .long o28_x34, .long o28_x35, .int o28_x36, .int o28_x37, .int o28_x38, .ref (ρ h0 39), .ref (ρ h0 40), .ref (ρ h0 41), .ref (ρ h0 42), .ref (ρ h0 43), .ref (ρ h0 44), .ref (ρ h0 45), .ref (ρ h0 46), .int o28_x47, .int o28_x48, .ref (ρ h0 49), .ref (ρ h0 50), .ref (ρ h0 51), .ref (ρ h0 52)]) := (hF82 _ (by rw [ht_h0]; decide)).trans g32
              refine tpk_pos (tp_in hG ht_h0 (by decide)) hf_89 (fun q90 eq90 => ?_)
              refine va_get (D := (dC, dI)) (ci := 12) (v := .ref (ρ h0 2)) (C := RX12) (T := TX12) (N := 53) hx hb hts hfX12 hown hK hP q90 eq90 rfl 2 (by decide) (hts (.fieldLink RX12 7 "ColdShipsModel" "row" "[I") wa_148) (fun _ h9 => h9) rfl dX12_reading_117 ?_
              refine lv_iload hx hb dX12_reading_120 (lv_at hl 0 rfl) ?_
              refine lv_iconst (v := 4) hx hb dX12_reading_122 (by decide) ?_
              refine lv_iadd hx hb dX12_reading_123 ?_
              refine lv_topi (fun z91 ez91 => ?_)
              have iz91 : z91.toInt = z78.toInt + 4 := zi_add ez91 rfl rfl (by omega) (by omega)
              refine lv_iload hx hb dX12_reading_124 (lv_at hl 6 rfl) ?_
              refine tpk_pos (tp_in hG y1 (by decide)) hf_o83 (fun q92 eq92 => ?_)
              refine va_iast hx hb hK hP hD hS q92 0 eq92 rfl (vp_in_iff.mpr ⟨by omega, by omega⟩) dX12_reading_126 (tp_k (.inl (κ 0, 12967, .inl (upd g84 z91.toNatClampNeg a5))) hD (tp_in hG y1 (by decide)) eq92 (fun f93 H locs hP hD hS g95 k94 => ?_))
              have hT := hT.up y1 g95 k94 tp_o32
              have hR := hR.up y1 (by decide) k94
              have hU : mo_U (mo_R g84) (mo_R (upd g84 z91.toNatClampNeg a5)) (12623 + 5 * z74.toInt) (a5.toInt) := mo_up (by omega) (rfl : a5.toInt = _) (by omega)
              generalize (upd g84 z91.toNatClampNeg a5) = g96 at g95 hU
              have hI := mo_w_flat hI hU (by omega)
              have hKN := hKN.up hU (Or.inl (by omega))
              have pn97 : mo_R g96 (9) = z74.toInt := (hU.ne (by omega) (by omega)).trans pn88
              refine lv_aload_n hx hb dX12_reading_127 rfl (lv_at hl 1 rfl) ?_
              have hf_98 : f93 h0 = .inr (12, [.int 0, .int o28_x1, .ref (ρ h0 2), .ref (ρ h0 3), .ref (ρ h0 4), .ref (ρ h0 5), .ref (ρ h0 6), .int o28_x7, .ref (ρ h0 8), .int o28_x9, .int o28_x10, .int o28_x11, .int o28_x12, .long o28_x13, .int o28_x14, .int o28_x15, .int o28_x16, .int o28_x17, .int o28_x18, .int o28_x19, .int o28_x20, .ref (ρ h0 21), .int o28_x22, .ref (ρ h0 23), .ref (ρ h0 24), .int o28_x25, .ref (ρ h0 26), .ref (ρ h0 27), .int o28_x28, .int o28_x29, .ref (ρ h0 30), .ref (ρ h0 31), .int o28_x32, .long o28_x33, .long o28_x34, .long o28_x35, .int o28_x36, .int o28_x37, .int o28_x38, .ref (ρ h0 39), .ref (ρ h0 40), .ref (ρ h0 41), .ref (ρ h0 42), .ref (ρ h0 43), .ref (ρ h0 44), .ref (ρ h0 45), .ref (ρ h0 46), .int o28_x47, .int o28_x48, .ref (ρ h0 49), .ref (ρ h0 50), .ref (ρ h0 51), .ref (ρ h0 52)]) := (k94 _ (tp_ne ht_h0 y1 (by decide))).trans hf_89
              refine tpk_pos (tp_in hG ht_h0 (by decide)) hf_98 (fun q99 eq99 => ?_)
              refine va_get (D := (dC, dI)) (ci := 12) (v := .ref (ρ h0 2)) (C := RX12) (T := TX12) (N := 53) hx hb hts hfX12 hown hK hP q99 eq99 rfl 2 (by decide) (hts (.fieldLink RX12 7 "ColdShipsModel" "row" "[I") wa_148) (fun _ h9 => h9) rfl dX12_reading_128 ?_
              refine lv_bipush (v := 9) hx hb dX12_reading_131 (by decide) ?_
              refine lv_dup2_11 hx hb dX12_reading_133 rfl rfl ?_
              refine tpk_pos (tp_in hG y1 (by decide)) g95 (fun q100 eq100 => ?_)
              refine va_iald hx hb hK hP q100 0 eq100 rfl (vp_in_iff.mpr ⟨by decide, by decide⟩) dX12_reading_134 ?_
              refine lv_topi (fun z101 ez101 => ?_)
              have jz101 : z101.toInt = mo_R g96 (9) := mo_rd ez101 (show (9 : Int32).toInt = (9) from by decide)
              have kz101 := hI.k9
              have vz101 : z101.toInt = z74.toInt := jz101.trans pn97
              refine lv_iconst (v := 1) hx hb dX12_reading_135 (by decide) ?_
              refine lv_iadd hx hb dX12_reading_136 ?_
              refine lv_topi (fun z102 ez102 => ?_)
              have iz102 : z102.toInt = z101.toInt + 1 := zi_add ez102 rfl rfl (by omega) (by omega)
              refine va_iast hx hb hK hP hD hS q100 0 eq100 rfl (vp_in_iff.mpr ⟨by decide, by decide⟩) dX12_reading_137 (tp_k (.inl (κ 0, 12967, .inl (upd g96 (9 : Int32).toNatClampNeg z102))) hD (tp_in hG y1 (by decide)) eq100 (fun f103 H locs hP hD hS g105 k104 => ?_))
              have hT := hT.up y1 g105 k104 tp_o32
              have hR := hR.up y1 (by decide) k104
              have hU : mo_U (mo_R g96) (mo_R (upd g96 (9 : Int32).toNatClampNeg z102)) (9) (z102.toInt) := mo_up (show (9 : Int32).toInt = (9) from by decide) (rfl : z102.toInt = _) (by omega)
              generalize (upd g96 (9 : Int32).toNatClampNeg z102) = g106 at g105 hU
              have hI := mo_w_cnt hI hU (by omega) (by omega)
              have hKN := hKN.up hU (Or.inr (by show (9) = 9; omega))
              have pn107 : mo_R g106 (9) = z102.toInt := hU.eq (by omega)
              refine lv_aload_n hx hb dX12_reading_138 rfl (lv_at hl 1 rfl) ?_
              refine lv_aload_n hx hb dX12_reading_139 rfl (lv_at hl 1 rfl) ?_
              have hf_108 : f103 h0 = .inr (12, [.int 0, .int o28_x1, .ref (ρ h0 2), .ref (ρ h0 3), .ref (ρ h0 4), .ref (ρ h0 5), .ref (ρ h0 6), .int o28_x7, .ref (ρ h0 8), .int o28_x9, .int o28_x10, .int o28_x11, .int o28_x12, .long o28_x13, .int o28_x14, .int o28_x15, .int o28_x16, .int o28_x17, .int o28_x18, .int o28_x19, .int o28_x20, .ref (ρ h0 21), .int o28_x22, .ref (ρ h0 23), .ref (ρ h0 24), .int o28_x25, .ref (ρ h0 26), .ref (ρ h0 27), .int o28_x28, .int o28_x29, .ref (ρ h0 30), .ref (ρ h0 31), .int o28_x32, .long o28_x33, .long o28_x34, .long o28_x35, .int o28_x36, .int o28_x37, .int o28_x38, .ref (ρ h0 39), .ref (ρ h0 40), .ref (ρ h0 41), .ref (ρ h0 42), .ref (ρ h0 43), .ref (ρ h0 44), .ref (ρ h0 45), .ref (ρ h0 46), .int o28_x47, .int o28_x48, .ref (ρ h0 49), .ref (ρ h0 50), .ref (ρ h0 51), .ref (ρ h0 52)]) := (k104 _ (tp_ne ht_h0 y1 (by decide))).trans hf_98
              refine tpk_pos (tp_in hG ht_h0 (by decide)) hf_108 (fun q109 eq109 => ?_)
              refine va_get (D := (dC, dI)) (ci := 12) (v := .ref (ρ h0 2)) (C := RX12) (T := TX12) (N := 53) hx hb hts hfX12 hown hK hP q109 eq109 rfl 2 (by decide) (hts (.fieldLink RX12 7 "ColdShipsModel" "row" "[I") wa_148) (fun _ h9 => h9) rfl dX12_reading_140 ?_
              refine lv_bipush (v := 9) hx hb dX12_reading_143 (by decide) ?_
              refine tpk_pos (tp_in hG y1 (by decide)) g105 (fun q110 eq110 => ?_)
              refine va_iald hx hb hK hP q110 0 eq110 rfl (vp_in_iff.mpr ⟨by decide, by decide⟩) dX12_reading_145 ?_
              refine lv_topi (fun z111 ez111 => ?_)
              have jz111 : z111.toInt = mo_R g106 (9) := mo_rd ez111 (show (9 : Int32).toInt = (9) from by decide)
              have kz111 := hI.k9
              have vz111 : z111.toInt = z102.toInt := jz111.trans pn107
              have hFc := tp_fr hD hS hA
              refine va_calli (va_runV (As := [.int z111]) (rest := []) ⟨hx, hb, hml, hown, hts⟩ (t_X12_told l dC dI _ κ Θ τ ν ρ L f103 hG hT h0 z111 ht_h0) (cwV 1 hts gX12_reading_X12_told rfl rfl rfl ⟨rfl, pd_X12_told⟩ ⟨Nat.le_of_ble_eq_true rfl, Nat.le_of_ble_eq_true rfl⟩) ⟨pz_blind, va_recv hK hP (ci := 12) (q0 := q109) rfl eq109, pz_pre hP hK hD hN⟩ rfl rfl hl.1 rfl (lv_room (Nat.le_of_ble_eq_true rfl)) dX12_reading_146 ⟨Nat.le_of_ble_eq_true rfl, Nat.le_of_ble_eq_true rfl⟩) hS (fun q _ h => hFc q h) hFc (fun r112 f114 t H1 locs ht hvm hw113 hB hz1 hk1 hS => ?_)
              refine tn_4 hw113 (fun hT hF115 hw113r hw113p => ?_); clear hw113
              have hR := hR.then hF115 (by decide)
              have hP := hB.1; rw [ht] at hP; have hD := tp_ad f114 hD; clear hB hFc hz1 hk1; subst ht; generalize t.heap = H at hP hS ⊢
              have hw113pq : r112.toInt = z111.toInt := by rw [hw113p]
              have hf_116 : f114 (ρ h0 2) = .inl (κ 0, 12967, .inl g106) := (hF115 _ (by rw [tp_iu y1]; decide)).trans g105
              exact W.iret (v := r112) hx hb hr (fun t ht hW => ⟨⟨r112, f114, rfl, ⟨hT, hR, trivial, ⟨(by rw [hf_116, mo_i1]; exact hI), (by rw [hf_116, mo_i1, hf_o26, mo_i1]; exact hKN)⟩⟩, by rw [ht]; exact hP, va_K.moved hW.alike hK, hD⟩, hS.F ht⟩) hS.2.2 dX12_reading_149
            · have ic75 : z74.toInt = 60 := zi_nef rfl rfl c75
              refine lv_aload_n hx hb dX12_reading_83 rfl (lv_at hl 0 rfl) ?_
              refine lv_bipush (v := (-5)) hx hb dX12_reading_84 (by decide) ?_
              have hFc := tp_fr hD hS hA
              refine va_calli (va_runV (As := [.int (-5)]) (rest := []) ⟨hx, hb, hml, hown, hts⟩ (t_X12_told l dC dI _ κ Θ τ ν ρ L f30 hG hT h0 ((-5)) ht_h0) (cwV 1 hts gX12_reading_X12_told rfl rfl rfl ⟨rfl, pd_X12_told⟩ ⟨Nat.le_of_ble_eq_true rfl, Nat.le_of_ble_eq_true rfl⟩) ⟨pz_blind, va_recv hK hP (ci := 12) (q0 := q68) rfl eq68, pz_pre hP hK hD hN⟩ rfl rfl hl.1 rfl (lv_room (Nat.le_of_ble_eq_true rfl)) dX12_reading_86 ⟨Nat.le_of_ble_eq_true rfl, Nat.le_of_ble_eq_true rfl⟩) hS (fun q _ h => hFc q h) hFc (fun r117 f119 t H1 locs ht hvm hw118 hB hz1 hk1 hS => ?_)
              refine tn_4 hw118 (fun hT hF120 hw118r hw118p => ?_); clear hw118
              have hR := hR.then hF120 (by decide)
              have hP := hB.1; rw [ht] at hP; have hD := tp_ad f119 hD; clear hB hFc hz1 hk1; subst ht; generalize t.heap = H at hP hS ⊢
              have hw118pq : r117.toInt = (-5) := by rw [hw118p]; rfl
              have hf_121 : f119 (ρ h0 2) = .inl (κ 0, 12967, .inl g27) := (hF120 _ (by rw [tp_iu y1]; decide)).trans hf_33
              exact W.iret (v := r117) hx hb hr (fun t ht hW => ⟨⟨r117, f119, rfl, ⟨hT, hR, trivial, ⟨(by rw [hf_121, mo_i1]; exact hI), (by rw [hf_121, mo_i1, hf_o26, mo_i1]; exact hKN)⟩⟩, by rw [ht]; exact hP, va_K.moved hW.alike hK, hD⟩, hS.F ht⟩) hS.2.2 dX12_reading_89
          · have ic71 : r69.toInt = 0 := zi_nef rfl rfl c71
            clear hw70r ic71
            refine lv_aload_n hx hb dX12_reading_64 rfl (lv_at hl 0 rfl) ?_
            refine lv_bipush (v := (-2)) hx hb dX12_reading_65 (by decide) ?_
            have hFc := tp_fr hD hS hA
            refine va_calli (va_runV (As := [.int (-2)]) (rest := []) ⟨hx, hb, hml, hown, hts⟩ (t_X12_told l dC dI _ κ Θ τ ν ρ L f30 hG hT h0 ((-2)) ht_h0) (cwV 1 hts gX12_reading_X12_told rfl rfl rfl ⟨rfl, pd_X12_told⟩ ⟨Nat.le_of_ble_eq_true rfl, Nat.le_of_ble_eq_true rfl⟩) ⟨pz_blind, va_recv hK hP (ci := 12) (q0 := q68) rfl eq68, pz_pre hP hK hD hN⟩ rfl rfl hl.1 rfl (lv_room (Nat.le_of_ble_eq_true rfl)) dX12_reading_67 ⟨Nat.le_of_ble_eq_true rfl, Nat.le_of_ble_eq_true rfl⟩) hS (fun q _ h => hFc q h) hFc (fun r122 f124 t H1 locs ht hvm hw123 hB hz1 hk1 hS => ?_)
            refine tn_4 hw123 (fun hT hF125 hw123r hw123p => ?_); clear hw123
            have hR := hR.then hF125 (by decide)
            have hP := hB.1; rw [ht] at hP; have hD := tp_ad f124 hD; clear hB hFc hz1 hk1; subst ht; generalize t.heap = H at hP hS ⊢
            have hw123pq : r122.toInt = (-2) := by rw [hw123p]; rfl
            have hf_126 : f124 (ρ h0 2) = .inl (κ 0, 12967, .inl g27) := (hF125 _ (by rw [tp_iu y1]; decide)).trans hf_33
            exact W.iret (v := r122) hx hb hr (fun t ht hW => ⟨⟨r122, f124, rfl, ⟨hT, hR, trivial, ⟨(by rw [hf_126, mo_i1]; exact hI), (by rw [hf_126, mo_i1, hf_o26, mo_i1]; exact hKN)⟩⟩, by rw [ht]; exact hP, va_K.moved hW.alike hK, hD⟩, hS.F ht⟩) hS.2.2 dX12_reading_70
        · have ic66 : r64.toInt = 0 := zi_nef rfl rfl c66
          clear hw65r ic66
          refine lv_aload_n hx hb dX12_reading_50 rfl (lv_at hl 0 rfl) ?_
          refine lv_iconst (v := (-1)) hx hb dX12_reading_51 (by decide) ?_
          refine tpk_pos (tp_in hG ht_h0 (by decide)) g32 (fun q127 eq127 => ?_)
          have hFc := tp_fr hD hS hA
          refine va_calli (va_runV (As := [.int (-1)]) (rest := []) ⟨hx, hb, hml, hown, hts⟩ (t_X12_told l dC dI _ κ Θ τ ν ρ L f30 hG hT h0 ((-1)) ht_h0) (cwV 1 hts gX12_reading_X12_told rfl rfl rfl ⟨rfl, pd_X12_told⟩ ⟨Nat.le_of_ble_eq_true rfl, Nat.le_of_ble_eq_true rfl⟩) ⟨pz_blind, va_recv hK hP (ci := 12) (q0 := q127) rfl eq127, pz_pre hP hK hD hN⟩ rfl rfl hl.1 rfl (lv_room (Nat.le_of_ble_eq_true rfl)) dX12_reading_52 ⟨Nat.le_of_ble_eq_true rfl, Nat.le_of_ble_eq_true rfl⟩) hS (fun q _ h => hFc q h) hFc (fun r128 f130 t H1 locs ht hvm hw129 hB hz1 hk1 hS => ?_)
          refine tn_4 hw129 (fun hT hF131 hw129r hw129p => ?_); clear hw129
          have hR := hR.then hF131 (by decide)
          have hP := hB.1; rw [ht] at hP; have hD := tp_ad f130 hD; clear hB hFc hz1 hk1; subst ht; generalize t.heap = H at hP hS ⊢
          have hw129pq : r128.toInt = (-1) := by rw [hw129p]; rfl
          have hf_132 : f130 (ρ h0 2) = .inl (κ 0, 12967, .inl g27) := (hF131 _ (by rw [tp_iu y1]; decide)).trans hf_33
          exact W.iret (v := r128) hx hb hr (fun t ht hW => ⟨⟨r128, f130, rfl, ⟨hT, hR, trivial, ⟨(by rw [hf_132, mo_i1]; exact hI), (by rw [hf_132, mo_i1, hf_o26, mo_i1]; exact hKN)⟩⟩, by rw [ht]; exact hP, va_K.moved hW.alike hK, hD⟩, hS.F ht⟩) hS.2.2 dX12_reading_55
