set_option maxHeartbeats 4000000 in
set_option maxRecDepth 100000 in
theorem t_X12_wayOf (l : Launch) (dC : Nat → ClassId) (dI : Nat → Nat → Nat) (sz : Nat) (κ : Nat → ClassId) (Θ : Nat → Option Int) (τ ν : Nat → Nat) (ρ : Nat → Nat → Nat) (L : List Nat) (f : Nat → va_E) (hG : tp_G τ ν ρ L) (hT : tp_T (mo_O κ Θ) κ τ ν ρ f) (h0 : Nat) (v : Int32) (u : Int32) (x : Int) (b : Int) (ht_h0 : τ h0 = 13) (hr_v : 0 ≤ v.toInt ∧ v.toInt ≤ 5) (hr_u : 0 ≤ u.toInt ∧ u.toInt ≤ 5) (hbb : 0 ≤ b ∧ b ≤ 1000) (hJ : mo_RI x b (mo_R (mo_i (f (ρ h0 2))))) : Met l yX12_wayOf wqX12_wayOf ({ frames := 2, cells := 0, slots := 0, locals := 400 }) (va_Pc [.ref h0, .int v, .int u] (pz_B dC dI (tp_K κ) (va_pl L f) sz)) (vp_Si (fun r => True ∧ True)) 0 0 (fun _ => False) := by
  refine Met.ofW (cc := cX12_wayOf) (maxL := 3) (ret := some .int) (by decide) rfl ?_
  intro p e s m args below meth c s₁ B hml hv
  obtain ⟨rfl, hsz, hP, hK, hD0, hN⟩ := hv
  have hx := B.exec
  have hb := B.bytes
  have hr := B.returns
  have hts := fun (w : Cond) (h : w ∈ WALL) => atoms_spec (ws := wqX12_wayOf) B.pre w (List.mem_cons_of_mem _ h)
  have hown : s.vm.findClass RX12 = some m.cls := findClass_of_methodNamed B.named
  have hlocks := B.notSynchronized
  subst hsz
  have hD := hD0
  have hS : va_S (fun _ => True) s.heap s.heap [] := va_S.rf
  have hl := lv_entry ([.ref h0, .int v, .int u]) (n := 3) (Nat.le_of_ble_eq_true rfl)
  rw [lg_entry_eq]
  generalize (lg_sl ([.ref h0, .int v, .int u]) ++ List.replicate (3 - (lg_sl ([.ref h0, .int v, .int u])).length) Slot.unset).toArray = ls at hl ⊢
  have hl : lv_has ls 3 [(0, .ref h0), (1, .int v), (2, .int u)] := hl
  refine tgk_13 hG ht_h0 (fun y1 y2 y3 y4 y5 y6 y7 y8 y9 y10 y11 y12 y13 y14 y15 y16 y17 y18 y19 y20 y21 y22 y23 y24 y25 => ?_)
  refine tpk_32 hT y1 (fun g27 hf_o26 => ?_)
  have hI : mo_RI x b (mo_R g27) := by have q9 := hJ; rw [hf_o26, mo_i1] at q9; exact q9
  refine lv_aload_n hx hb dX12_wayOf_0 rfl (lv_at hl 0 rfl) ?_
  refine tpk_13 hT ht_h0 (fun o28_x0 o28_x1 o28_x7 o28_x9 o28_x10 o28_x11 o28_x12 o28_x13 o28_x14 o28_x15 o28_x16 o28_x17 o28_x18 o28_x19 o28_x20 o28_x22 o28_x25 o28_x28 o28_x29 o28_x32 o28_x33 o28_x34 o28_x35 o28_x36 o28_x37 o28_x38 o28_x47 o28_x48 hf_o28 ro28_0 ro28_1 ro28_2 ro28_3 ro28_4 ro28_5 ro28_6 ro28_7 ro28_8 ro28_9 ro28_10 ro28_11 ro28_12 ro28_13 ro28_14 => ?_)
  refine tpk_pos (tp_in hG ht_h0 (by decide)) hf_o28 (fun q29 eq29 => ?_)
  refine va_get (D := (dC, dI)) (ci := 12) (v := .ref (ρ h0 2)) (C := RX12) (T := TX12) (N := 53) hx hb hts hfX12 hown hK hP q29 eq29 rfl 2 (by decide) (hts (.fieldLink RX12 7 "ColdShipsModel" "row" "[I") wa_148) (fun _ h9 => h9) rfl dX12_wayOf_1 ?_
  refine lv_bipush (v := 50) hx hb dX12_wayOf_4 (by decide) ?_
  refine lv_iconst (v := 2) hx hb dX12_wayOf_6 (by decide) ?_
  refine lv_bipush (v := 6) hx hb dX12_wayOf_7 (by decide) ?_
  refine lv_iload_n hx hb dX12_wayOf_9 rfl (lv_at hl 1 rfl) ?_
  refine lv_imul hx hb dX12_wayOf_10 ?_
  refine lv_topi (fun z30 ez30 => ?_)
  have iz30 : z30.toInt = 6 * v.toInt := zi_mul ez30 rfl rfl (by omega) (by omega)
  refine lv_iload_n hx hb dX12_wayOf_11 rfl (lv_at hl 2 rfl) ?_
  refine lv_iadd hx hb dX12_wayOf_12 ?_
  refine lv_topi (fun z31 ez31 => ?_)
  have iz31 : z31.toInt = z30.toInt + u.toInt := zi_add ez31 rfl rfl (by omega) (by omega)
  refine lv_imul hx hb dX12_wayOf_13 ?_
  refine lv_topi (fun z32 ez32 => ?_)
  have iz32 : z32.toInt = 2 * z31.toInt := zi_mul ez32 rfl rfl (by omega) (by omega)
  refine lv_iadd hx hb dX12_wayOf_14 ?_
  refine lv_topi (fun z33 ez33 => ?_)
  have iz33 : z33.toInt = 50 + z32.toInt := zi_add ez33 rfl rfl (by omega) (by omega)
  refine tpk_pos (tp_in hG y1 (by decide)) hf_o26 (fun q34 eq34 => ?_)
  refine va_iald hx hb hK hP q34 0 eq34 rfl (vp_in_iff.mpr ⟨by omega, by omega⟩) dX12_wayOf_15 ?_
  refine lv_topi (fun z35 ez35 => ?_)
  exact W.iret (v := z35) hx hb hr (fun t ht hW => ⟨z35, rfl, ⟨trivial, trivial⟩, ht⟩) (fun _ h => by cases h) dX12_wayOf_16
set_option maxHeartbeats 4000000 in
set_option maxRecDepth 100000 in
theorem t_X12_slot (l : Launch) (dC : Nat → ClassId) (dI : Nat → Nat → Nat) (sz : Nat) (κ : Nat → ClassId) (Θ : Nat → Option Int) (τ ν : Nat → Nat) (ρ : Nat → Nat → Nat) (L : List Nat) (f : Nat → va_E) (hG : tp_G τ ν ρ L) (hT : tp_T (mo_O κ Θ) κ τ ν ρ f) (h0 : Nat) (v : Int32) (u : Int32) (a : Int32) (a4 : Int32) (ht_h0 : τ h0 = 13) (hJ : mo_RI (-1) 0 (mo_R (mo_i (f (ρ h0 2))))) : Met l yX12_slot wqX12_slot ({ frames := 4, cells := 0, slots := 0, locals := 1200 }) (va_Pc [.ref h0, .int v, .int u, .int a, .int a4] (pz_B dC dI (tp_K κ) (va_pl L f) sz)) (va_Qi (fun (r : Int32) (f1 : Nat → va_E) => tp_T (mo_O κ Θ) κ τ ν ρ f1 ∧ tp_F τ [13, 32] f f1 ∧ True ∧ mo_RI (-1) 0 (mo_R (mo_i (f1 (ρ h0 2)))) ∧ mo_KN (fun k => k = 2) (mo_R (mo_i (f (ρ h0 2)))) (mo_R (mo_i (f1 (ρ h0 2))))) (fun (f1 : Nat → va_E) (t : State) => pz_E dC dI (tp_K κ) (va_A (va_pl L f) sz) (va_pl L f1) t) (va_A (va_pl L f) sz)) 0 0 (va_A (va_pl L f) sz) := by
  refine Met.ofW (cc := cX12_slot) (maxL := 7) (ret := some .int) (by decide) rfl ?_
  intro p e s m args below meth c s₁ B hml hv
  obtain ⟨rfl, hsz, hP, hK, hD0, hN⟩ := hv
  have hx := B.exec
  have hb := B.bytes
  have hr := B.returns
  have hts := fun (w : Cond) (h : w ∈ WALL) => atoms_spec (ws := wqX12_slot) B.pre w (List.mem_cons_of_mem _ h)
  have hown : s.vm.findClass RX12 = some m.cls := findClass_of_methodNamed B.named
  have hlocks := B.notSynchronized
  subst hsz
  have hD := hD0.self (sz := s.heap.size)
  generalize hAe : va_A (va_pl L f) s.heap.size = A at hD ⊢
  have hA : ∀ q : Nat, s.heap.size ≤ q → A q := fun q h => by rw [← hAe]; exact Or.inr h
  have hS : va_S A s.heap s.heap [] := va_S.rf
  have hR : tp_F τ [13, 32] f f := tp_F.rf
  have hl := lv_entry ([.ref h0, .int v, .int u, .int a, .int a4]) (n := 7) (Nat.le_of_ble_eq_true rfl)
  rw [lg_entry_eq]
  generalize (lg_sl ([.ref h0, .int v, .int u, .int a, .int a4]) ++ List.replicate (7 - (lg_sl ([.ref h0, .int v, .int u, .int a, .int a4])).length) Slot.unset).toArray = ls at hl ⊢
  have hl : lv_has ls 7 [(0, .ref h0), (1, .int v), (2, .int u), (3, .int a), (4, .int a4)] := hl
  refine tgk_13 hG ht_h0 (fun y1 y2 y3 y4 y5 y6 y7 y8 y9 y10 y11 y12 y13 y14 y15 y16 y17 y18 y19 y20 y21 y22 y23 y24 y25 => ?_)
  refine tpk_32 hT y1 (fun g27 hf_o26 => ?_)
  have hI : mo_RI (-1) 0 (mo_R g27) := by have q9 := hJ; rw [hf_o26, mo_i1] at q9; exact q9
  have hKN : mo_KN (fun k => k = 2) (mo_R g27) (mo_R g27) := mo_KN.rf
  refine lv_aload_n hx hb dX12_slot_0 rfl (lv_at hl 0 rfl) ?_
  refine lv_iconst (v := 0) hx hb dX12_slot_1 (by decide) ?_
  refine tpk_13 hT ht_h0 (fun o28_x0 o28_x1 o28_x7 o28_x9 o28_x10 o28_x11 o28_x12 o28_x13 o28_x14 o28_x15 o28_x16 o28_x17 o28_x18 o28_x19 o28_x20 o28_x22 o28_x25 o28_x28 o28_x29 o28_x32 o28_x33 o28_x34 o28_x35 o28_x36 o28_x37 o28_x38 o28_x47 o28_x48 hf_o28 ro28_0 ro28_1 ro28_2 ro28_3 ro28_4 ro28_5 ro28_6 ro28_7 ro28_8 ro28_9 ro28_10 ro28_11 ro28_12 ro28_13 ro28_14 => ?_)
  refine tpk_pos (tp_in hG ht_h0 (by decide)) hf_o28 (fun q29 eq29 => ?_)
  refine va_put (D := (dC, dI)) (ci := 12) (v := .int 0) (ty := .int) (C := RX12) (T := TX12) (N := 53) hx hb hts hfX12 tyX12 tyX12_ok nmX12 hown hK hP hD hS q29 eq29 rfl 0 (by decide) (hts (.fieldLink RX12 91 "ColdShipsModel" "thrown" "I") wa_209) (fun _ h9 => h9) rfl (tyX12_ok 0 (by decide)) rfl rfl (Nat.le_of_ble_eq_true rfl) dX12_slot_2 (tp_k (.inr (12, [.int 0, .int o28_x1, .ref (ρ h0 2), .ref (ρ h0 3), .ref (ρ h0 4), .ref (ρ h0 5), .ref (ρ h0 6), .int o28_x7, .ref (ρ h0 8), .int o28_x9, .int o28_x10, .int o28_x11, .int o28_x12, .long o28_x13, .int o28_x14, .int o28_x15, .int o28_x16, .int o28_x17, .int o28_x18, .int o28_x19, .int o28_x20, .ref (ρ h0 21), .int o28_x22, .ref (ρ h0 23), .ref (ρ h0 24), .int o28_x25, .ref (ρ h0 26), .ref (ρ h0 27), .int o28_x28, .int o28_x29, .ref (ρ h0 30), .ref (ρ h0 31), .int o28_x32, .long o28_x33, .long o28_x34, .long o28_x35, .int o28_x36, .int o28_x37, .int o28_x38, .ref (ρ h0 39), .ref (ρ h0 40), .ref (ρ h0 41), .ref (ρ h0 42), .ref (ρ h0 43), .ref (ρ h0 44), .ref (ρ h0 45), .ref (ρ h0 46), .int o28_x47, .int o28_x48, .ref (ρ h0 49), .ref (ρ h0 50), .ref (ρ h0 51), .ref (ρ h0 52)])) hD (tp_in hG ht_h0 (by decide)) eq29 (fun f30 H locs hP hD hS g32 k31 => ?_))
  have hT := hT.up ht_h0 g32 k31 ⟨_, _, _, _, _, _, _, _, _, _, _, _, _, _, _, _, _, _, _, _, _, _, _, _, _, _, _, _, rfl, ro28_0, ro28_1, ro28_2, ro28_3, ro28_4, ro28_5, ro28_6, ro28_7, ro28_8, ro28_9, ro28_10, ro28_11, ro28_12, ro28_13, ro28_14⟩
  have hR := hR.up ht_h0 (by decide) k31
  refine lv_iload hx hb dX12_slot_5 (lv_at hl 4 rfl) ?_
  have hf_33 : f30 (ρ h0 2) = .inl (κ 0, 12967, .inl g27) := (k31 _ (tp_ne y1 ht_h0 (by decide))).trans hf_o26
  refine pz_calli (va_runS (As := [.int a4]) (rest := []) ⟨hx, hb, hml, hown, hts⟩ (t_X12_isHour l dC dI _ a4 (a4.toInt) rfl) (va_cwS 1 hts gX12_slot_X12_isHour rfl rfl rfl pd_X12_isHour ⟨Nat.le_of_ble_eq_true rfl, Nat.le_of_ble_eq_true rfl⟩) ⟨pz_blind, pz_pre pz_P0 (hK.sub (tys' := []) [] rfl) (pz_D0 (A := fun _ => True)) hN⟩ rfl rfl hl.1 rfl (lv_room (Nat.le_of_ble_eq_true rfl)) dX12_slot_7 ⟨Nat.le_of_ble_eq_true rfl, Nat.le_of_ble_eq_true rfl⟩) (fun r34 hw35 => ?_)
  obtain ⟨hw35r, hw35p⟩ := hw35
  refine lv_if_eq (tgt := 25) hx hb dX12_slot_10 (by decide) (fun c36 => ?_) (fun c36 => ?_)
  · have ic36 : r34.toInt = 0 := zi_eq rfl rfl c36
    clear hw35r ic36
    refine lv_aload_n hx hb dX12_slot_25 rfl (lv_at hl 0 rfl) ?_
    refine lv_iconst (v := (-1)) hx hb dX12_slot_26 (by decide) ?_
    refine tpk_pos (tp_in hG ht_h0 (by decide)) g32 (fun q37 eq37 => ?_)
    have hFc := tp_fr hD hS hA
    refine va_calli (va_runV (As := [.int (-1)]) (rest := []) ⟨hx, hb, hml, hown, hts⟩ (t_X12_told l dC dI _ κ Θ τ ν ρ L f30 hG hT h0 ((-1)) ht_h0) (cwV 1 hts gX12_slot_X12_told rfl rfl rfl ⟨rfl, pd_X12_told⟩ ⟨Nat.le_of_ble_eq_true rfl, Nat.le_of_ble_eq_true rfl⟩) ⟨pz_blind, va_recv hK hP (ci := 12) (q0 := q37) rfl eq37, pz_pre hP hK hD hN⟩ rfl rfl hl.1 rfl (lv_room (Nat.le_of_ble_eq_true rfl)) dX12_slot_27 ⟨Nat.le_of_ble_eq_true rfl, Nat.le_of_ble_eq_true rfl⟩) hS (fun q _ h => hFc q h) hFc (fun r38 f40 t H1 locs ht hvm hw39 hB hz1 hk1 hS => ?_)
    refine tn_4 hw39 (fun hT hF41 hw39r hw39p => ?_); clear hw39
    have hR := hR.then hF41 (by decide)
    have hP := hB.1; rw [ht] at hP; have hD := tp_ad f40 hD; clear hB hFc hz1 hk1; subst ht; generalize t.heap = H at hP hS ⊢
    have hw39pq : r38.toInt = (-1) := by rw [hw39p]; rfl
    have hf_42 : f40 (ρ h0 2) = .inl (κ 0, 12967, .inl g27) := (hF41 _ (by rw [tp_iu y1]; decide)).trans hf_33
    exact W.iret (v := r38) hx hb hr (fun t ht hW => ⟨⟨r38, f40, rfl, ⟨hT, hR, trivial, ⟨(by rw [hf_42, mo_i1]; exact hI), (by rw [hf_42, mo_i1, hf_o26, mo_i1]; exact hKN)⟩⟩, by rw [ht]; exact hP, va_K.moved hW.alike hK, hD⟩, hS.F ht⟩) hS.2.2 dX12_slot_30
  · have ic36 : r34.toInt ≠ 0 := zi_eqf rfl rfl c36
    replace ic36 : 1 ≤ r34.toInt := by omega
    have p43 : 0 ≤ (a4.toInt) ∧ (a4.toInt) ≤ 2399 := (tp_cond.yes hw35p) (by omega)
    clear hw35r ic36
    refine lv_iload_n hx hb dX12_slot_13 rfl (lv_at hl 3 rfl) ?_
    refine lv_i2l hx hb dX12_slot_14 rfl ?_
    refine lv_lconst (v := 0) hx hb dX12_slot_15 (by decide) ?_
    refine lv_iload hx hb dX12_slot_16 (lv_at hl 4 rfl) ?_
    refine lv_i2l hx hb dX12_slot_18 rfl ?_
    refine pz_calli (va_runS (As := [.long a.toInt64, .long 0, .long a4.toInt64]) (rest := []) ⟨hx, hb, hml, hown, hts⟩ (t_X12_in l dC dI _ a.toInt64 (0) a4.toInt64 (a.toInt) (0) (a4.toInt) (Int32.toInt_toInt64 a) rfl (Int32.toInt_toInt64 a4)) (va_cwS 3 hts gX12_slot_X12_in rfl rfl rfl pd_X12_in ⟨Nat.le_of_ble_eq_true rfl, Nat.le_of_ble_eq_true rfl⟩) ⟨pz_blind, pz_pre pz_P0 (hK.sub (tys' := []) [] rfl) (pz_D0 (A := fun _ => True)) hN⟩ rfl rfl hl.1 rfl (lv_room (Nat.le_of_ble_eq_true rfl)) dX12_slot_19 ⟨Nat.le_of_ble_eq_true rfl, Nat.le_of_ble_eq_true rfl⟩) (fun r44 hw45 => ?_)
    obtain ⟨hw45r, hw45p⟩ := hw45
    refine lv_if_ne (tgt := 31) hx hb dX12_slot_22 (by decide) (fun c46 => ?_) (fun c46 => ?_)
    · have ic46 : r44.toInt ≠ 0 := zi_ne rfl rfl c46
      replace ic46 : 1 ≤ r44.toInt := by omega
      have p47 : (0) ≤ (a.toInt) ∧ (a.toInt) ≤ (a4.toInt) := (tp_cond.yes hw45p) (by omega)
      clear hw45r ic46
      refine lv_aload_n hx hb dX12_slot_31 rfl (lv_at hl 0 rfl) ?_
      refine lv_iload_n hx hb dX12_slot_32 rfl (lv_at hl 1 rfl) ?_
      refine tpk_pos (tp_in hG ht_h0 (by decide)) g32 (fun q48 eq48 => ?_)
      refine pz_calli (va_runV (As := [.int v]) (rest := []) ⟨hx, hb, hml, hown, hts⟩ (t_X12_isTerminal l dC dI _ κ Θ τ ν ρ L f30 hG hT h0 v (-1) 0 ht_h0 (by omega) (by rw [hf_33, mo_i1]; exact hI)) (cwV 1 hts gX12_slot_X12_isTerminal rfl rfl rfl ⟨rfl, pd_X12_isTerminal⟩ ⟨Nat.le_of_ble_eq_true rfl, Nat.le_of_ble_eq_true rfl⟩) ⟨pz_blind, va_recv hK hP (ci := 12) (q0 := q48) rfl eq48, pz_pre hP hK hD hN⟩ rfl rfl hl.1 rfl (lv_room (Nat.le_of_ble_eq_true rfl)) dX12_slot_33 ⟨Nat.le_of_ble_eq_true rfl, Nat.le_of_ble_eq_true rfl⟩) (fun r49 hw50 => ?_)
      obtain ⟨hw50r, hw50p⟩ := hw50
      have := hI.k0
      rw [hf_33, mo_i1] at hw50p
      refine lv_if_eq (tgt := 47) hx hb dX12_slot_36 (by decide) (fun c51 => ?_) (fun c51 => ?_)
      · have ic51 : r49.toInt = 0 := zi_eq rfl rfl c51
        clear hw50r ic51
        refine lv_aload_n hx hb dX12_slot_47 rfl (lv_at hl 0 rfl) ?_
        refine lv_bipush (v := (-2)) hx hb dX12_slot_48 (by decide) ?_
        have hFc := tp_fr hD hS hA
        refine va_calli (va_runV (As := [.int (-2)]) (rest := []) ⟨hx, hb, hml, hown, hts⟩ (t_X12_told l dC dI _ κ Θ τ ν ρ L f30 hG hT h0 ((-2)) ht_h0) (cwV 1 hts gX12_slot_X12_told rfl rfl rfl ⟨rfl, pd_X12_told⟩ ⟨Nat.le_of_ble_eq_true rfl, Nat.le_of_ble_eq_true rfl⟩) ⟨pz_blind, va_recv hK hP (ci := 12) (q0 := q48) rfl eq48, pz_pre hP hK hD hN⟩ rfl rfl hl.1 rfl (lv_room (Nat.le_of_ble_eq_true rfl)) dX12_slot_50 ⟨Nat.le_of_ble_eq_true rfl, Nat.le_of_ble_eq_true rfl⟩) hS (fun q _ h => hFc q h) hFc (fun r52 f54 t H1 locs ht hvm hw53 hB hz1 hk1 hS => ?_)
        refine tn_4 hw53 (fun hT hF55 hw53r hw53p => ?_); clear hw53
        have hR := hR.then hF55 (by decide)
        have hP := hB.1; rw [ht] at hP; have hD := tp_ad f54 hD; clear hB hFc hz1 hk1; subst ht; generalize t.heap = H at hP hS ⊢
        have hw53pq : r52.toInt = (-2) := by rw [hw53p]; rfl
        have hf_56 : f54 (ρ h0 2) = .inl (κ 0, 12967, .inl g27) := (hF55 _ (by rw [tp_iu y1]; decide)).trans hf_33
        exact W.iret (v := r52) hx hb hr (fun t ht hW => ⟨⟨r52, f54, rfl, ⟨hT, hR, trivial, ⟨(by rw [hf_56, mo_i1]; exact hI), (by rw [hf_56, mo_i1, hf_o26, mo_i1]; exact hKN)⟩⟩, by rw [ht]; exact hP, va_K.moved hW.alike hK, hD⟩, hS.F ht⟩) hS.2.2 dX12_slot_53
      · have ic51 : r49.toInt ≠ 0 := zi_eqf rfl rfl c51
        replace ic51 : 1 ≤ r49.toInt := by omega
        have p57 : 0 ≤ v.toInt ∧ v.toInt < mo_R g27 0 := (tp_cond.yes hw50p) (by omega)
        clear hw50r ic51
        refine lv_aload_n hx hb dX12_slot_39 rfl (lv_at hl 0 rfl) ?_
        refine lv_iload_n hx hb dX12_slot_40 rfl (lv_at hl 2 rfl) ?_
        refine pz_calli (va_runV (As := [.int u]) (rest := []) ⟨hx, hb, hml, hown, hts⟩ (t_X12_isShip l dC dI _ κ Θ τ ν ρ L f30 hG hT h0 u (-1) 0 ht_h0 (by omega) (by rw [hf_33, mo_i1]; exact hI)) (cwV 1 hts gX12_slot_X12_isShip rfl rfl rfl ⟨rfl, pd_X12_isShip⟩ ⟨Nat.le_of_ble_eq_true rfl, Nat.le_of_ble_eq_true rfl⟩) ⟨pz_blind, va_recv hK hP (ci := 12) (q0 := q48) rfl eq48, pz_pre hP hK hD hN⟩ rfl rfl hl.1 rfl (lv_room (Nat.le_of_ble_eq_true rfl)) dX12_slot_41 ⟨Nat.le_of_ble_eq_true rfl, Nat.le_of_ble_eq_true rfl⟩) (fun r58 hw59 => ?_)
        obtain ⟨hw59r, hw59p⟩ := hw59
        have := hI.k1
        rw [hf_33, mo_i1] at hw59p
        refine lv_if_ne (tgt := 54) hx hb dX12_slot_44 (by decide) (fun c60 => ?_) (fun c60 => ?_)
        · have ic60 : r58.toInt ≠ 0 := zi_ne rfl rfl c60
          replace ic60 : 1 ≤ r58.toInt := by omega
          have p61 : 0 ≤ u.toInt ∧ u.toInt < mo_R g27 1 := (tp_cond.yes hw59p) (by omega)
          clear hw59r ic60
          refine lv_iconst (v := 0) hx hb dX12_slot_54 (by decide) ?_
          refine lv_istore (lv' := [(5, .int 0), (0, .ref h0), (1, .int v), (2, .int u), (3, .int a), (4, .int a4)]) hx hb dX12_slot_55 hl (by decide) rfl (fun ls hl => ?_)
          refine pz_loop (fun n0 H locs ls => ∃ w62 : Int32, n0 = (60 - (w62.toInt)).toNat ∧ (0 ≤ w62.toInt ∧ w62.toInt ≤ 60) ∧ va_P (dC, dI) vwCl (va_pl L f30) H ∧ va_D A (va_pl L f30) ∧ va_S A s.heap H locs ∧ lv_has ls 7 [(5, .int w62), (0, .ref h0), (1, .int v), (2, .int u), (3, .int a), (4, .int a4)]) ?_ _ _ _ _ ⟨0, rfl, (by have : (0 : Int32).toInt = 0 := rfl; omega), hP, hD, hS, lv_sub hl [0, 1, 2, 3, 4, 5] rfl⟩
          intro n0 H locs ls hI ih63
          refine Exists.elim hI (fun w62 hE90 => tn_6 hE90 (fun hn64 rw62 hP hD hS hl => ?_))
          clear hE90 hI
          refine lv_iload hx hb dX12_slot_57 (lv_at hl 0 rfl) ?_
          refine lv_aload_n hx hb dX12_slot_59 rfl (lv_at hl 1 rfl) ?_
          refine va_get (D := (dC, dI)) (ci := 12) (v := .ref (ρ h0 2)) (C := RX12) (T := TX12) (N := 53) hx hb hts hfX12 hown hK hP q48 eq48 rfl 2 (by decide) (hts (.fieldLink RX12 7 "ColdShipsModel" "row" "[I") wa_148) (fun _ h9 => h9) rfl dX12_slot_60 ?_
          refine lv_iconst (v := 2) hx hb dX12_slot_63 (by decide) ?_
          refine tpk_pos (tp_in hG y1 (by decide)) hf_33 (fun q65 eq65 => ?_)
          refine va_iald hx hb hK hP q65 0 eq65 rfl (vp_in_iff.mpr ⟨by decide, by decide⟩) dX12_slot_64 ?_
          refine lv_topi (fun z66 ez66 => ?_)
          have jz66 : z66.toInt = mo_R g27 (2) := mo_rd ez66 (show (2 : Int32).toInt = (2) from by decide)
          have kz66 := hI.k2
          refine lv_icmp_ge (tgt := 129) hx hb dX12_slot_65 (by decide) (fun c67 => ?_) (fun c67 => ?_)
          · have ic67 : w62.toInt ≥ z66.toInt := zi_ge rfl rfl c67
            refine lv_aload_n hx hb dX12_slot_129 rfl (lv_at hl 1 rfl) ?_
            refine va_get (D := (dC, dI)) (ci := 12) (v := .ref (ρ h0 2)) (C := RX12) (T := TX12) (N := 53) hx hb hts hfX12 hown hK hP q48 eq48 rfl 2 (by decide) (hts (.fieldLink RX12 7 "ColdShipsModel" "row" "[I") wa_148) (fun _ h9 => h9) rfl dX12_slot_130 ?_
            refine lv_iconst (v := 2) hx hb dX12_slot_133 (by decide) ?_
            refine va_iald hx hb hK hP q65 0 eq65 rfl (vp_in_iff.mpr ⟨by decide, by decide⟩) dX12_slot_134 ?_
            refine lv_topi (fun z68 ez68 => ?_)
            have jz68 : z68.toInt = mo_R g27 (2) := mo_rd ez68 (show (2 : Int32).toInt = (2) from by decide)
            have kz68 := hI.k2
            have vz68 : z68.toInt = z66.toInt := jz68.trans (jz66).symm
            refine lv_bipush (v := 60) hx hb dX12_slot_135 (by decide) ?_
            refine lv_icmp_ne (tgt := 147) hx hb dX12_slot_137 (by decide) (fun c69 => ?_) (fun c69 => ?_)
            · have ic69 : z68.toInt ≠ 60 := zi_ne rfl rfl c69
              replace ic69 : z68.toInt ≤ 59 := by omega
              refine lv_aload_n hx hb dX12_slot_147 rfl (lv_at hl 1 rfl) ?_
              refine lv_sipush (v := 247) hx hb dX12_slot_148 (by decide) ?_
              refine lv_iconst (v := 4) hx hb dX12_slot_151 (by decide) ?_
              refine lv_aload_n hx hb dX12_slot_152 rfl (lv_at hl 1 rfl) ?_
              refine va_get (D := (dC, dI)) (ci := 12) (v := .ref (ρ h0 2)) (C := RX12) (T := TX12) (N := 53) hx hb hts hfX12 hown hK hP q48 eq48 rfl 2 (by decide) (hts (.fieldLink RX12 7 "ColdShipsModel" "row" "[I") wa_148) (fun _ h9 => h9) rfl dX12_slot_153 ?_
              refine lv_iconst (v := 2) hx hb dX12_slot_156 (by decide) ?_
              refine va_iald hx hb hK hP q65 0 eq65 rfl (vp_in_iff.mpr ⟨by decide, by decide⟩) dX12_slot_157 ?_
              refine lv_topi (fun z70 ez70 => ?_)
              have jz70 : z70.toInt = mo_R g27 (2) := mo_rd ez70 (show (2 : Int32).toInt = (2) from by decide)
              have kz70 := hI.k2
              have vz70 : z70.toInt = z66.toInt := jz70.trans (jz66).symm
              refine lv_imul hx hb dX12_slot_158 ?_
              refine lv_topi (fun z71 ez71 => ?_)
              have iz71 : z71.toInt = 4 * z70.toInt := zi_mul ez71 rfl rfl (by omega) (by omega)
              refine lv_iadd hx hb dX12_slot_159 ?_
              refine lv_topi (fun z72 ez72 => ?_)
              have iz72 : z72.toInt = 247 + z71.toInt := zi_add ez72 rfl rfl (by omega) (by omega)
              refine lv_iload_n hx hb dX12_slot_160 rfl (lv_at hl 2 rfl) ?_
              refine lv_iload_n hx hb dX12_slot_161 rfl (lv_at hl 3 rfl) ?_
              refine lv_iload_n hx hb dX12_slot_162 rfl (lv_at hl 4 rfl) ?_
              refine lv_iload hx hb dX12_slot_163 (lv_at hl 5 rfl) ?_
              have hFc := tp_fr hD hS hA
              refine va_callv (va_runV (As := [.int z72, .int v, .int u, .int a, .int a4]) (rest := []) ⟨hx, hb, hml, hown, hts⟩ (t_X12_addFour l dC dI _ κ Θ τ ν ρ L f30 hG hT h0 z72 v u a a4 ht_h0 (by first | decide | omega)) (cwV 5 hts gX12_slot_X12_addFour rfl rfl rfl ⟨rfl, pd_X12_addFour⟩ ⟨Nat.le_of_ble_eq_true rfl, Nat.le_of_ble_eq_true rfl⟩) ⟨pz_blind, va_recv hK hP (ci := 12) (q0 := q48) rfl eq48, pz_pre hP hK hD hN⟩ rfl rfl hl.1 rfl (lv_room (Nat.le_of_ble_eq_true rfl)) dX12_slot_165 ⟨Nat.le_of_ble_eq_true rfl, Nat.le_of_ble_eq_true rfl⟩) hS (fun q _ h => hFc q h) hFc (fun f75 t H1 locs ht hvm hw74 hB hz1 hk1 hS => ?_)
              refine tn_3 hw74 (fun hT hF76 hw74p => ?_); clear hw74
              have hR := hR.then hF76 (by decide)
              have hP := hB.1; rw [ht] at hP; have hD := tp_ad f75 hD; clear hB hFc hz1 hk1; subst ht; generalize t.heap = H at hP hS ⊢
              rw [hf_33, mo_i1] at hw74p
              obtain ⟨Q1_76, Q2_76, Q3_76, u1_76, u2_76, u3_76, u4_76⟩ := hw74p
              refine tpk_32 hT y1 (fun g78 hf_o77 => ?_)
              rw [hf_o77, mo_i1] at u4_76
              have hU : mo_U (mo_R g27) (Q1_76) (247 + 4 * z66.toInt) (v.toInt) := by have q9 := u1_76; rw [show z72.toInt = (247 + 4 * z66.toInt) by omega] at q9; exact q9
              have hI := mo_w_flat hI hU (by omega)
              have hKN := hKN.up hU (Or.inl (by omega))
              have pn79 : Q1_76 (2) = z66.toInt := (hU.ne (by omega) (by omega)).trans (jz66).symm
              have hU : mo_U (Q1_76) (Q2_76) (248 + 4 * z66.toInt) (u.toInt) := by have q9 := u2_76; rw [show z72.toInt + 1 = (248 + 4 * z66.toInt) by omega] at q9; exact q9
              have hI := mo_w_flat hI hU (by omega)
              have hKN := hKN.up hU (Or.inl (by omega))
              have pn80 : Q2_76 (2) = z66.toInt := (hU.ne (by omega) (by omega)).trans pn79
              have hU : mo_U (Q2_76) (Q3_76) (249 + 4 * z66.toInt) (a.toInt) := by have q9 := u3_76; rw [show z72.toInt + 2 = (249 + 4 * z66.toInt) by omega] at q9; exact q9
              have hI := mo_w_flat hI hU (by omega)
              have hKN := hKN.up hU (Or.inl (by omega))
              have pn81 : Q3_76 (2) = z66.toInt := (hU.ne (by omega) (by omega)).trans pn80
              have hU : mo_U (Q3_76) (mo_R g78) (250 + 4 * z66.toInt) (a4.toInt) := by have q9 := u4_76; rw [show z72.toInt + 3 = (250 + 4 * z66.toInt) by omega] at q9; exact q9
              have hI := mo_w_flat hI hU (by omega)
              have hKN := hKN.up hU (Or.inl (by omega))
              have pn82 : mo_R g78 (2) = z66.toInt := (hU.ne (by omega) (by omega)).trans pn81
              refine lv_aload_n hx hb dX12_slot_168 rfl (lv_at hl 1 rfl) ?_
              have hf_83 : f75 h0 = .inr (12, [.int 0, .int o28_x1, .ref (ρ h0 2), .ref (ρ h0 3), .ref (ρ h0 4), .ref (ρ h0 5), .ref (ρ h0 6), .int o28_x7, .ref (ρ h0 8), .int o28_x9, .int o28_x10, .int o28_x11, .int o28_x12, .long o28_x13, .int o28_x14, .int o28_x15, .int o28_x16, .int o28_x17, .int o28_x18, .int o28_x19, .int o28_x20, .ref (ρ h0 21), .int o28_x22, .ref (ρ h0 23), .ref (ρ h0 24), .int o28_x25, .ref (ρ h0 26), .ref (ρ h0 27), .int o28_x28, .int o28_x29, .ref (ρ h0 30), .ref (ρ h0 31), .int o28_x32, .long o28_x33, .long o28_x34, .long o28_x35, .int o28_x36, .int o28_x37, .int o28_x38, .ref (ρ h0 39), .ref (ρ h0 40), .ref (ρ h0 41), .ref (ρ h0 42), .ref (ρ h0 43), .ref (ρ h0 44), .ref (ρ h0 45), .ref (ρ h0 46), .int o28_x47, .int o28_x48, .ref (ρ h0 49), .ref (ρ h0 50), .ref (ρ h0 51), .ref (ρ h0 52)]) := (hF76 _ (by rw [ht_h0]; decide)).trans g32
              refine tpk_pos (tp_in hG ht_h0 (by decide)) hf_83 (fun q84 eq84 => ?_)
              refine va_get (D := (dC, dI)) (ci := 12) (v := .ref (ρ h0 2)) (C := RX12) (T := TX12) (N := 53) hx hb hts hfX12 hown hK hP q84 eq84 rfl 2 (by decide) (hts (.fieldLink RX12 7 "ColdShipsModel" "row" "[I") wa_148) (fun _ h9 => h9) rfl dX12_slot_169 ?_
              refine lv_iconst (v := 2) hx hb dX12_slot_172 (by decide) ?_
              refine lv_dup2_11 hx hb dX12_slot_173 rfl rfl ?_
              refine tpk_pos (tp_in hG y1 (by decide)) hf_o77 (fun q85 eq85 => ?_)
              refine va_iald hx hb hK hP q85 0 eq85 rfl (vp_in_iff.mpr ⟨by decide, by decide⟩) dX12_slot_174 ?_
              refine lv_topi (fun z86 ez86 => ?_)
              have jz86 : z86.toInt = mo_R g78 (2) := mo_rd ez86 (show (2 : Int32).toInt = (2) from by decide)
              have kz86 := hI.k2
              have vz86 : z86.toInt = z66.toInt := jz86.trans pn82
              refine lv_iconst (v := 1) hx hb dX12_slot_175 (by decide) ?_
              refine lv_iadd hx hb dX12_slot_176 ?_
              refine lv_topi (fun z87 ez87 => ?_)
              have iz87 : z87.toInt = z86.toInt + 1 := zi_add ez87 rfl rfl (by omega) (by omega)
              refine va_iast hx hb hK hP hD hS q85 0 eq85 rfl (vp_in_iff.mpr ⟨by decide, by decide⟩) dX12_slot_177 (tp_k (.inl (κ 0, 12967, .inl (upd g78 (2 : Int32).toNatClampNeg z87))) hD (tp_in hG y1 (by decide)) eq85 (fun f88 H locs hP hD hS g90 k89 => ?_))
              have hT := hT.up y1 g90 k89 tp_o32
              have hR := hR.up y1 (by decide) k89
              have hU : mo_U (mo_R g78) (mo_R (upd g78 (2 : Int32).toNatClampNeg z87)) (2) (z87.toInt) := mo_up (show (2 : Int32).toInt = (2) from by decide) (rfl : z87.toInt = _) (by omega)
              generalize (upd g78 (2 : Int32).toNatClampNeg z87) = g91 at g90 hU
              have hI := mo_w_cnt hI hU (by omega) (by omega)
              have hKN := hKN.up hU (Or.inr (by show (2) = 2; omega))
              have pn92 : mo_R g91 (2) = z87.toInt := hU.eq (by omega)
              refine lv_aload_n hx hb dX12_slot_178 rfl (lv_at hl 1 rfl) ?_
              refine lv_aload_n hx hb dX12_slot_179 rfl (lv_at hl 1 rfl) ?_
              have hf_93 : f88 h0 = .inr (12, [.int 0, .int o28_x1, .ref (ρ h0 2), .ref (ρ h0 3), .ref (ρ h0 4), .ref (ρ h0 5), .ref (ρ h0 6), .int o28_x7, .ref (ρ h0 8), .int o28_x9, .int o28_x10, .int o28_x11, .int o28_x12, .long o28_x13, .int o28_x14, .int o28_x15, .int o28_x16, .int o28_x17, .int o28_x18, .int o28_x19, .int o28_x20, .ref (ρ h0 21), .int o28_x22, .ref (ρ h0 23), .ref (ρ h0 24), .int o28_x25, .ref (ρ h0 26), .ref (ρ h0 27), .int o28_x28, .int o28_x29, .ref (ρ h0 30), .ref (ρ h0 31), .int o28_x32, .long o28_x33, .long o28_x34, .long o28_x35, .int o28_x36, .int o28_x37, .int o28_x38, .ref (ρ h0 39), .ref (ρ h0 40), .ref (ρ h0 41), .ref (ρ h0 42), .ref (ρ h0 43), .ref (ρ h0 44), .ref (ρ h0 45), .ref (ρ h0 46), .int o28_x47, .int o28_x48, .ref (ρ h0 49), .ref (ρ h0 50), .ref (ρ h0 51), .ref (ρ h0 52)]) := (k89 _ (tp_ne ht_h0 y1 (by decide))).trans hf_83
              refine tpk_pos (tp_in hG ht_h0 (by decide)) hf_93 (fun q94 eq94 => ?_)
              refine va_get (D := (dC, dI)) (ci := 12) (v := .ref (ρ h0 2)) (C := RX12) (T := TX12) (N := 53) hx hb hts hfX12 hown hK hP q94 eq94 rfl 2 (by decide) (hts (.fieldLink RX12 7 "ColdShipsModel" "row" "[I") wa_148) (fun _ h9 => h9) rfl dX12_slot_180 ?_
              refine lv_iconst (v := 2) hx hb dX12_slot_183 (by decide) ?_
              refine tpk_pos (tp_in hG y1 (by decide)) g90 (fun q95 eq95 => ?_)
              refine va_iald hx hb hK hP q95 0 eq95 rfl (vp_in_iff.mpr ⟨by decide, by decide⟩) dX12_slot_184 ?_
              refine lv_topi (fun z96 ez96 => ?_)
              have jz96 : z96.toInt = mo_R g91 (2) := mo_rd ez96 (show (2 : Int32).toInt = (2) from by decide)
              have kz96 := hI.k2
              have vz96 : z96.toInt = z87.toInt := jz96.trans pn92
              have hFc := tp_fr hD hS hA
              refine va_calli (va_runV (As := [.int z96]) (rest := []) ⟨hx, hb, hml, hown, hts⟩ (t_X12_told l dC dI _ κ Θ τ ν ρ L f88 hG hT h0 z96 ht_h0) (cwV 1 hts gX12_slot_X12_told rfl rfl rfl ⟨rfl, pd_X12_told⟩ ⟨Nat.le_of_ble_eq_true rfl, Nat.le_of_ble_eq_true rfl⟩) ⟨pz_blind, va_recv hK hP (ci := 12) (q0 := q94) rfl eq94, pz_pre hP hK hD hN⟩ rfl rfl hl.1 rfl (lv_room (Nat.le_of_ble_eq_true rfl)) dX12_slot_185 ⟨Nat.le_of_ble_eq_true rfl, Nat.le_of_ble_eq_true rfl⟩) hS (fun q _ h => hFc q h) hFc (fun r97 f99 t H1 locs ht hvm hw98 hB hz1 hk1 hS => ?_)
              refine tn_4 hw98 (fun hT hF100 hw98r hw98p => ?_); clear hw98
              have hR := hR.then hF100 (by decide)
              have hP := hB.1; rw [ht] at hP; have hD := tp_ad f99 hD; clear hB hFc hz1 hk1; subst ht; generalize t.heap = H at hP hS ⊢
              have hw98pq : r97.toInt = z96.toInt := by rw [hw98p]
              have hf_101 : f99 (ρ h0 2) = .inl (κ 0, 12967, .inl g91) := (hF100 _ (by rw [tp_iu y1]; decide)).trans g90
              exact W.iret (v := r97) hx hb hr (fun t ht hW => ⟨⟨r97, f99, rfl, ⟨hT, hR, trivial, ⟨(by rw [hf_101, mo_i1]; exact hI), (by rw [hf_101, mo_i1, hf_o26, mo_i1]; exact hKN)⟩⟩, by rw [ht]; exact hP, va_K.moved hW.alike hK, hD⟩, hS.F ht⟩) hS.2.2 dX12_slot_188
            · have ic69 : z68.toInt = 60 := zi_nef rfl rfl c69
              refine lv_aload_n hx hb dX12_slot_140 rfl (lv_at hl 1 rfl) ?_
              refine lv_bipush (v := (-5)) hx hb dX12_slot_141 (by decide) ?_
              have hFc := tp_fr hD hS hA
              refine va_calli (va_runV (As := [.int (-5)]) (rest := []) ⟨hx, hb, hml, hown, hts⟩ (t_X12_told l dC dI _ κ Θ τ ν ρ L f30 hG hT h0 ((-5)) ht_h0) (cwV 1 hts gX12_slot_X12_told rfl rfl rfl ⟨rfl, pd_X12_told⟩ ⟨Nat.le_of_ble_eq_true rfl, Nat.le_of_ble_eq_true rfl⟩) ⟨pz_blind, va_recv hK hP (ci := 12) (q0 := q48) rfl eq48, pz_pre hP hK hD hN⟩ rfl rfl hl.1 rfl (lv_room (Nat.le_of_ble_eq_true rfl)) dX12_slot_143 ⟨Nat.le_of_ble_eq_true rfl, Nat.le_of_ble_eq_true rfl⟩) hS (fun q _ h => hFc q h) hFc (fun r102 f104 t H1 locs ht hvm hw103 hB hz1 hk1 hS => ?_)
              refine tn_4 hw103 (fun hT hF105 hw103r hw103p => ?_); clear hw103
              have hR := hR.then hF105 (by decide)
              have hP := hB.1; rw [ht] at hP; have hD := tp_ad f104 hD; clear hB hFc hz1 hk1; subst ht; generalize t.heap = H at hP hS ⊢
              have hw103pq : r102.toInt = (-5) := by rw [hw103p]; rfl
              have hf_106 : f104 (ρ h0 2) = .inl (κ 0, 12967, .inl g27) := (hF105 _ (by rw [tp_iu y1]; decide)).trans hf_33
              exact W.iret (v := r102) hx hb hr (fun t ht hW => ⟨⟨r102, f104, rfl, ⟨hT, hR, trivial, ⟨(by rw [hf_106, mo_i1]; exact hI), (by rw [hf_106, mo_i1, hf_o26, mo_i1]; exact hKN)⟩⟩, by rw [ht]; exact hP, va_K.moved hW.alike hK, hD⟩, hS.F ht⟩) hS.2.2 dX12_slot_146
          · have ic67 : w62.toInt < z66.toInt := zi_gef rfl rfl c67
            refine lv_sipush (v := 247) hx hb dX12_slot_68 (by decide) ?_
            refine lv_iconst (v := 4) hx hb dX12_slot_71 (by decide) ?_
            refine lv_iload hx hb dX12_slot_72 (lv_at hl 0 rfl) ?_
            refine lv_imul hx hb dX12_slot_74 ?_
            refine lv_topi (fun z107 ez107 => ?_)
            have iz107 : z107.toInt = 4 * w62.toInt := zi_mul ez107 rfl rfl (by omega) (by omega)
            refine lv_iadd hx hb dX12_slot_75 ?_
            refine lv_topi (fun z108 ez108 => ?_)
            have iz108 : z108.toInt = 247 + z107.toInt := zi_add ez108 rfl rfl (by omega) (by omega)
            refine lv_istore (lv' := [(6, .int z108), (5, .int w62), (0, .ref h0), (1, .int v), (2, .int u), (3, .int a), (4, .int a4)]) hx hb dX12_slot_76 hl (by decide) rfl (fun ls hl => ?_)
            refine lv_aload_n hx hb dX12_slot_78 rfl (lv_at hl 2 rfl) ?_
            refine va_get (D := (dC, dI)) (ci := 12) (v := .ref (ρ h0 2)) (C := RX12) (T := TX12) (N := 53) hx hb hts hfX12 hown hK hP q48 eq48 rfl 2 (by decide) (hts (.fieldLink RX12 7 "ColdShipsModel" "row" "[I") wa_148) (fun _ h9 => h9) rfl dX12_slot_79 ?_
            refine lv_iload hx hb dX12_slot_82 (lv_at hl 0 rfl) ?_
            refine va_iald hx hb hK hP q65 0 eq65 rfl (vp_in_iff.mpr ⟨by omega, by omega⟩) dX12_slot_84 ?_
            refine lv_topi (fun z109 ez109 => ?_)
            refine lv_iload_n hx hb dX12_slot_85 rfl (lv_at hl 3 rfl) ?_
            refine lv_icmp_ne (tgt := 123) hx hb dX12_slot_86 (by decide) (fun c110 => ?_) (fun c110 => ?_)
            · have ic110 : z109.toInt ≠ v.toInt := zi_ne rfl rfl c110
              obtain ⟨z111, ez111⟩ : ∃ y : Int32, y = w62 + 1 := ⟨_, rfl⟩
              refine lv_iinc (v := z111) (lv' := [(5, .int z111), (6, .int z108), (0, .ref h0), (1, .int v), (2, .int u), (3, .int a), (4, .int a4)]) hx hb dX12_slot_123 hl (k := 1) rfl (by rw [ez111]; rfl) (by decide) rfl (fun ls hl => ?_)
              have iz111 : z111.toInt = w62.toInt + 1 := zi_add ez111 rfl rfl (by omega) (by omega)
              refine lv_goto (tgt := 57) hx hb dX12_slot_126 (by decide) ?_
              exact ih63 _ _ _ _ (by rw [hn64]; omega) ⟨z111, rfl, (by omega), hP, hD, hS, lv_sub hl [0, 2, 3, 4, 5, 6] rfl⟩
            · have ic110 : z109.toInt = v.toInt := zi_nef rfl rfl c110
              refine lv_iload_n hx hb dX12_slot_89 rfl (lv_at hl 5 rfl) ?_
              refine lv_aload_n hx hb dX12_slot_90 rfl (lv_at hl 2 rfl) ?_
              refine va_get (D := (dC, dI)) (ci := 12) (v := .ref (ρ h0 2)) (C := RX12) (T := TX12) (N := 53) hx hb hts hfX12 hown hK hP q48 eq48 rfl 2 (by decide) (hts (.fieldLink RX12 7 "ColdShipsModel" "row" "[I") wa_148) (fun _ h9 => h9) rfl dX12_slot_91 ?_
              refine lv_iload hx hb dX12_slot_94 (lv_at hl 0 rfl) ?_
              refine lv_iconst (v := 3) hx hb dX12_slot_96 (by decide) ?_
              refine lv_iadd hx hb dX12_slot_97 ?_
              refine lv_topi (fun z112 ez112 => ?_)
              have iz112 : z112.toInt = z108.toInt + 3 := zi_add ez112 rfl rfl (by omega) (by omega)
              refine va_iald hx hb hK hP q65 0 eq65 rfl (vp_in_iff.mpr ⟨by omega, by omega⟩) dX12_slot_98 ?_
              refine lv_topi (fun z113 ez113 => ?_)
              refine lv_icmp_gt (tgt := 123) hx hb dX12_slot_99 (by decide) (fun c114 => ?_) (fun c114 => ?_)
              · have ic114 : a.toInt > z113.toInt := zi_gt rfl rfl c114
                obtain ⟨z115, ez115⟩ : ∃ y : Int32, y = w62 + 1 := ⟨_, rfl⟩
                refine lv_iinc (v := z115) (lv' := [(5, .int z115), (6, .int z108), (0, .ref h0), (1, .int v), (2, .int u), (3, .int a), (4, .int a4)]) hx hb dX12_slot_123 hl (k := 1) rfl (by rw [ez115]; rfl) (by decide) rfl (fun ls hl => ?_)
                have iz115 : z115.toInt = w62.toInt + 1 := zi_add ez115 rfl rfl (by omega) (by omega)
                refine lv_goto (tgt := 57) hx hb dX12_slot_126 (by decide) ?_
                exact ih63 _ _ _ _ (by rw [hn64]; omega) ⟨z115, rfl, (by omega), hP, hD, hS, lv_sub hl [0, 2, 3, 4, 5, 6] rfl⟩
              · have ic114 : a.toInt ≤ z113.toInt := zi_gtf rfl rfl c114
                refine lv_iload hx hb dX12_slot_102 (lv_at hl 6 rfl) ?_
                refine lv_aload_n hx hb dX12_slot_104 rfl (lv_at hl 2 rfl) ?_
                refine va_get (D := (dC, dI)) (ci := 12) (v := .ref (ρ h0 2)) (C := RX12) (T := TX12) (N := 53) hx hb hts hfX12 hown hK hP q48 eq48 rfl 2 (by decide) (hts (.fieldLink RX12 7 "ColdShipsModel" "row" "[I") wa_148) (fun _ h9 => h9) rfl dX12_slot_105 ?_
                refine lv_iload hx hb dX12_slot_108 (lv_at hl 0 rfl) ?_
                refine lv_iconst (v := 2) hx hb dX12_slot_110 (by decide) ?_
                refine lv_iadd hx hb dX12_slot_111 ?_
                refine lv_topi (fun z116 ez116 => ?_)
                have iz116 : z116.toInt = z108.toInt + 2 := zi_add ez116 rfl rfl (by omega) (by omega)
                refine va_iald hx hb hK hP q65 0 eq65 rfl (vp_in_iff.mpr ⟨by omega, by omega⟩) dX12_slot_112 ?_
                refine lv_topi (fun z117 ez117 => ?_)
                refine lv_icmp_lt (tgt := 123) hx hb dX12_slot_113 (by decide) (fun c118 => ?_) (fun c118 => ?_)
                · have ic118 : a4.toInt < z117.toInt := zi_lt rfl rfl c118
                  obtain ⟨z119, ez119⟩ : ∃ y : Int32, y = w62 + 1 := ⟨_, rfl⟩
                  refine lv_iinc (v := z119) (lv' := [(5, .int z119), (6, .int z108), (0, .ref h0), (1, .int v), (2, .int u), (3, .int a), (4, .int a4)]) hx hb dX12_slot_123 hl (k := 1) rfl (by rw [ez119]; rfl) (by decide) rfl (fun ls hl => ?_)
                  have iz119 : z119.toInt = w62.toInt + 1 := zi_add ez119 rfl rfl (by omega) (by omega)
                  refine lv_goto (tgt := 57) hx hb dX12_slot_126 (by decide) ?_
                  exact ih63 _ _ _ _ (by rw [hn64]; omega) ⟨z119, rfl, (by omega), hP, hD, hS, lv_sub hl [0, 2, 3, 4, 5, 6] rfl⟩
                · have ic118 : a4.toInt ≥ z117.toInt := zi_ltf rfl rfl c118
                  refine lv_aload_n hx hb dX12_slot_116 rfl (lv_at hl 2 rfl) ?_
                  refine lv_bipush (v := (-3)) hx hb dX12_slot_117 (by decide) ?_
                  have hFc := tp_fr hD hS hA
                  refine va_calli (va_runV (As := [.int (-3)]) (rest := []) ⟨hx, hb, hml, hown, hts⟩ (t_X12_told l dC dI _ κ Θ τ ν ρ L f30 hG hT h0 ((-3)) ht_h0) (cwV 1 hts gX12_slot_X12_told rfl rfl rfl ⟨rfl, pd_X12_told⟩ ⟨Nat.le_of_ble_eq_true rfl, Nat.le_of_ble_eq_true rfl⟩) ⟨pz_blind, va_recv hK hP (ci := 12) (q0 := q48) rfl eq48, pz_pre hP hK hD hN⟩ rfl rfl hl.1 rfl (lv_room (Nat.le_of_ble_eq_true rfl)) dX12_slot_119 ⟨Nat.le_of_ble_eq_true rfl, Nat.le_of_ble_eq_true rfl⟩) hS (fun q _ h => hFc q h) hFc (fun r120 f122 t H1 locs ht hvm hw121 hB hz1 hk1 hS => ?_)
                  refine tn_4 hw121 (fun hT hF123 hw121r hw121p => ?_); clear hw121
                  have hR := hR.then hF123 (by decide)
                  have hP := hB.1; rw [ht] at hP; have hD := tp_ad f122 hD; clear hB hFc hz1 hk1; subst ht; generalize t.heap = H at hP hS ⊢
                  have hw121pq : r120.toInt = (-3) := by rw [hw121p]; rfl
                  have hf_124 : f122 (ρ h0 2) = .inl (κ 0, 12967, .inl g27) := (hF123 _ (by rw [tp_iu y1]; decide)).trans hf_33
                  exact W.iret (v := r120) hx hb hr (fun t ht hW => ⟨⟨r120, f122, rfl, ⟨hT, hR, trivial, ⟨(by rw [hf_124, mo_i1]; exact hI), (by rw [hf_124, mo_i1, hf_o26, mo_i1]; exact hKN)⟩⟩, by rw [ht]; exact hP, va_K.moved hW.alike hK, hD⟩, hS.F ht⟩) hS.2.2 dX12_slot_122
        · have ic60 : r58.toInt = 0 := zi_nef rfl rfl c60
          clear hw59r ic60
          refine lv_aload_n hx hb dX12_slot_47 rfl (lv_at hl 0 rfl) ?_
          refine lv_bipush (v := (-2)) hx hb dX12_slot_48 (by decide) ?_
          have hFc := tp_fr hD hS hA
          refine va_calli (va_runV (As := [.int (-2)]) (rest := []) ⟨hx, hb, hml, hown, hts⟩ (t_X12_told l dC dI _ κ Θ τ ν ρ L f30 hG hT h0 ((-2)) ht_h0) (cwV 1 hts gX12_slot_X12_told rfl rfl rfl ⟨rfl, pd_X12_told⟩ ⟨Nat.le_of_ble_eq_true rfl, Nat.le_of_ble_eq_true rfl⟩) ⟨pz_blind, va_recv hK hP (ci := 12) (q0 := q48) rfl eq48, pz_pre hP hK hD hN⟩ rfl rfl hl.1 rfl (lv_room (Nat.le_of_ble_eq_true rfl)) dX12_slot_50 ⟨Nat.le_of_ble_eq_true rfl, Nat.le_of_ble_eq_true rfl⟩) hS (fun q _ h => hFc q h) hFc (fun r125 f127 t H1 locs ht hvm hw126 hB hz1 hk1 hS => ?_)
          refine tn_4 hw126 (fun hT hF128 hw126r hw126p => ?_); clear hw126
          have hR := hR.then hF128 (by decide)
          have hP := hB.1; rw [ht] at hP; have hD := tp_ad f127 hD; clear hB hFc hz1 hk1; subst ht; generalize t.heap = H at hP hS ⊢
          have hw126pq : r125.toInt = (-2) := by rw [hw126p]; rfl
          have hf_129 : f127 (ρ h0 2) = .inl (κ 0, 12967, .inl g27) := (hF128 _ (by rw [tp_iu y1]; decide)).trans hf_33
          exact W.iret (v := r125) hx hb hr (fun t ht hW => ⟨⟨r125, f127, rfl, ⟨hT, hR, trivial, ⟨(by rw [hf_129, mo_i1]; exact hI), (by rw [hf_129, mo_i1, hf_o26, mo_i1]; exact hKN)⟩⟩, by rw [ht]; exact hP, va_K.moved hW.alike hK, hD⟩, hS.F ht⟩) hS.2.2 dX12_slot_53
    · have ic46 : r44.toInt = 0 := zi_nef rfl rfl c46
      clear hw45r ic46
      refine lv_aload_n hx hb dX12_slot_25 rfl (lv_at hl 0 rfl) ?_
      refine lv_iconst (v := (-1)) hx hb dX12_slot_26 (by decide) ?_
      refine tpk_pos (tp_in hG ht_h0 (by decide)) g32 (fun q130 eq130 => ?_)
      have hFc := tp_fr hD hS hA
      refine va_calli (va_runV (As := [.int (-1)]) (rest := []) ⟨hx, hb, hml, hown, hts⟩ (t_X12_told l dC dI _ κ Θ τ ν ρ L f30 hG hT h0 ((-1)) ht_h0) (cwV 1 hts gX12_slot_X12_told rfl rfl rfl ⟨rfl, pd_X12_told⟩ ⟨Nat.le_of_ble_eq_true rfl, Nat.le_of_ble_eq_true rfl⟩) ⟨pz_blind, va_recv hK hP (ci := 12) (q0 := q130) rfl eq130, pz_pre hP hK hD hN⟩ rfl rfl hl.1 rfl (lv_room (Nat.le_of_ble_eq_true rfl)) dX12_slot_27 ⟨Nat.le_of_ble_eq_true rfl, Nat.le_of_ble_eq_true rfl⟩) hS (fun q _ h => hFc q h) hFc (fun r131 f133 t H1 locs ht hvm hw132 hB hz1 hk1 hS => ?_)
      refine tn_4 hw132 (fun hT hF134 hw132r hw132p => ?_); clear hw132
      have hR := hR.then hF134 (by decide)
      have hP := hB.1; rw [ht] at hP; have hD := tp_ad f133 hD; clear hB hFc hz1 hk1; subst ht; generalize t.heap = H at hP hS ⊢
      have hw132pq : r131.toInt = (-1) := by rw [hw132p]; rfl
      have hf_135 : f133 (ρ h0 2) = .inl (κ 0, 12967, .inl g27) := (hF134 _ (by rw [tp_iu y1]; decide)).trans hf_33
      exact W.iret (v := r131) hx hb hr (fun t ht hW => ⟨⟨r131, f133, rfl, ⟨hT, hR, trivial, ⟨(by rw [hf_135, mo_i1]; exact hI), (by rw [hf_135, mo_i1, hf_o26, mo_i1]; exact hKN)⟩⟩, by rw [ht]; exact hP, va_K.moved hW.alike hK, hD⟩, hS.F ht⟩) hS.2.2 dX12_slot_30
set_option maxHeartbeats 4000000 in
set_option maxRecDepth 100000 in
theorem t_X12_broken (l : Launch) (dC : Nat → ClassId) (dI : Nat → Nat → Nat) (sz : Nat) (κ : Nat → ClassId) (Θ : Nat → Option Int) (τ ν : Nat → Nat) (ρ : Nat → Nat → Nat) (L : List Nat) (f : Nat → va_E) (hG : tp_G τ ν ρ L) (hT : tp_T (mo_O κ Θ) κ τ ν ρ f) (h0 : Nat) (v : Int32) (u : Int32) (a : Int32) (ht_h0 : τ h0 = 13) (hJ : mo_RI (-1) 0 (mo_R (mo_i (f (ρ h0 2))))) : Met l yX12_broken wqX12_broken ({ frames := 4, cells := 0, slots := 0, locals := 1200 }) (va_Pc [.ref h0, .int v, .int u, .int a] (pz_B dC dI (tp_K κ) (va_pl L f) sz)) (va_Qi (fun (r : Int32) (f1 : Nat → va_E) => tp_T (mo_O κ Θ) κ τ ν ρ f1 ∧ tp_F τ [13, 32] f f1 ∧ True ∧ mo_RI (-1) 0 (mo_R (mo_i (f1 (ρ h0 2)))) ∧ mo_KN (fun k => k = 3) (mo_R (mo_i (f (ρ h0 2)))) (mo_R (mo_i (f1 (ρ h0 2)))) ∧ ((((¬ ((0 ≤ u.toInt ∧ u.toInt ≤ 2399) ∧ (0 ≤ a.toInt ∧ a.toInt ≤ 2399) ∧ u.toInt ≤ a.toInt)) → r.toInt = -1) ∧ (¬ (¬ ((0 ≤ u.toInt ∧ u.toInt ≤ 2399) ∧ (0 ≤ a.toInt ∧ a.toInt ≤ 2399) ∧ u.toInt ≤ a.toInt)) → (((¬ (0 ≤ v.toInt ∧ v.toInt < (mo_R (mo_i (f (ρ h0 2)))) (0))) → r.toInt = -2) ∧ (¬ (¬ (0 ≤ v.toInt ∧ v.toInt < (mo_R (mo_i (f (ρ h0 2)))) (0))) → ((((mo_R (mo_i (f (ρ h0 2)))) (3) = 20) → r.toInt = -5) ∧ (¬ ((mo_R (mo_i (f (ρ h0 2)))) (3) = 20) → r.toInt = (mo_R (mo_i (f (ρ h0 2)))) (3) + 1))))))) ∧ ((((¬ ((0 ≤ u.toInt ∧ u.toInt ≤ 2399) ∧ (0 ≤ a.toInt ∧ a.toInt ≤ 2399) ∧ u.toInt ≤ a.toInt)) → (mo_R (mo_i (f1 (ρ h0 2)))) (3) = (mo_R (mo_i (f (ρ h0 2)))) (3)) ∧ (¬ (¬ ((0 ≤ u.toInt ∧ u.toInt ≤ 2399) ∧ (0 ≤ a.toInt ∧ a.toInt ≤ 2399) ∧ u.toInt ≤ a.toInt)) → (((¬ (0 ≤ v.toInt ∧ v.toInt < (mo_R (mo_i (f (ρ h0 2)))) (0))) → (mo_R (mo_i (f1 (ρ h0 2)))) (3) = (mo_R (mo_i (f (ρ h0 2)))) (3)) ∧ (¬ (¬ (0 ≤ v.toInt ∧ v.toInt < (mo_R (mo_i (f (ρ h0 2)))) (0))) → ((((mo_R (mo_i (f (ρ h0 2)))) (3) = 20) → (mo_R (mo_i (f1 (ρ h0 2)))) (3) = (mo_R (mo_i (f (ρ h0 2)))) (3)) ∧ (¬ ((mo_R (mo_i (f (ρ h0 2)))) (3) = 20) → (mo_R (mo_i (f1 (ρ h0 2)))) (3) = (mo_R (mo_i (f (ρ h0 2)))) (3) + 1)))))))) (fun (f1 : Nat → va_E) (t : State) => pz_E dC dI (tp_K κ) (va_A (va_pl L f) sz) (va_pl L f1) t) (va_A (va_pl L f) sz)) 0 0 (va_A (va_pl L f) sz) := by
  refine Met.ofW (cc := cX12_broken) (maxL := 5) (ret := some .int) (by decide) rfl ?_
  intro p e s m args below meth c s₁ B hml hv
  obtain ⟨rfl, hsz, hP, hK, hD0, hN⟩ := hv
  have hx := B.exec
  have hb := B.bytes
  have hr := B.returns
  have hts := fun (w : Cond) (h : w ∈ WALL) => atoms_spec (ws := wqX12_broken) B.pre w (List.mem_cons_of_mem _ h)
  have hown : s.vm.findClass RX12 = some m.cls := findClass_of_methodNamed B.named
  have hlocks := B.notSynchronized
  subst hsz
  have hD := hD0.self (sz := s.heap.size)
  generalize hAe : va_A (va_pl L f) s.heap.size = A at hD ⊢
  have hA : ∀ q : Nat, s.heap.size ≤ q → A q := fun q h => by rw [← hAe]; exact Or.inr h
  have hS : va_S A s.heap s.heap [] := va_S.rf
  have hR : tp_F τ [13, 32] f f := tp_F.rf
  have hl := lv_entry ([.ref h0, .int v, .int u, .int a]) (n := 5) (Nat.le_of_ble_eq_true rfl)
  rw [lg_entry_eq]
  generalize (lg_sl ([.ref h0, .int v, .int u, .int a]) ++ List.replicate (5 - (lg_sl ([.ref h0, .int v, .int u, .int a])).length) Slot.unset).toArray = ls at hl ⊢
  have hl : lv_has ls 5 [(0, .ref h0), (1, .int v), (2, .int u), (3, .int a)] := hl
  refine tgk_13 hG ht_h0 (fun y1 y2 y3 y4 y5 y6 y7 y8 y9 y10 y11 y12 y13 y14 y15 y16 y17 y18 y19 y20 y21 y22 y23 y24 y25 => ?_)
  refine tpk_32 hT y1 (fun g27 hf_o26 => ?_)
  have hI : mo_RI (-1) 0 (mo_R g27) := by have q9 := hJ; rw [hf_o26, mo_i1] at q9; exact q9
  have hKN : mo_KN (fun k => k = 3) (mo_R g27) (mo_R g27) := mo_KN.rf
  refine lv_aload_n hx hb dX12_broken_0 rfl (lv_at hl 0 rfl) ?_
  refine lv_iconst (v := 0) hx hb dX12_broken_1 (by decide) ?_
  refine tpk_13 hT ht_h0 (fun o28_x0 o28_x1 o28_x7 o28_x9 o28_x10 o28_x11 o28_x12 o28_x13 o28_x14 o28_x15 o28_x16 o28_x17 o28_x18 o28_x19 o28_x20 o28_x22 o28_x25 o28_x28 o28_x29 o28_x32 o28_x33 o28_x34 o28_x35 o28_x36 o28_x37 o28_x38 o28_x47 o28_x48 hf_o28 ro28_0 ro28_1 ro28_2 ro28_3 ro28_4 ro28_5 ro28_6 ro28_7 ro28_8 ro28_9 ro28_10 ro28_11 ro28_12 ro28_13 ro28_14 => ?_)
  refine tpk_pos (tp_in hG ht_h0 (by decide)) hf_o28 (fun q29 eq29 => ?_)
  refine va_put (D := (dC, dI)) (ci := 12) (v := .int 0) (ty := .int) (C := RX12) (T := TX12) (N := 53) hx hb hts hfX12 tyX12 tyX12_ok nmX12 hown hK hP hD hS q29 eq29 rfl 0 (by decide) (hts (.fieldLink RX12 91 "ColdShipsModel" "thrown" "I") wa_209) (fun _ h9 => h9) rfl (tyX12_ok 0 (by decide)) rfl rfl (Nat.le_of_ble_eq_true rfl) dX12_broken_2 (tp_k (.inr (12, [.int 0, .int o28_x1, .ref (ρ h0 2), .ref (ρ h0 3), .ref (ρ h0 4), .ref (ρ h0 5), .ref (ρ h0 6), .int o28_x7, .ref (ρ h0 8), .int o28_x9, .int o28_x10, .int o28_x11, .int o28_x12, .long o28_x13, .int o28_x14, .int o28_x15, .int o28_x16, .int o28_x17, .int o28_x18, .int o28_x19, .int o28_x20, .ref (ρ h0 21), .int o28_x22, .ref (ρ h0 23), .ref (ρ h0 24), .int o28_x25, .ref (ρ h0 26), .ref (ρ h0 27), .int o28_x28, .int o28_x29, .ref (ρ h0 30), .ref (ρ h0 31), .int o28_x32, .long o28_x33, .long o28_x34, .long o28_x35, .int o28_x36, .int o28_x37, .int o28_x38, .ref (ρ h0 39), .ref (ρ h0 40), .ref (ρ h0 41), .ref (ρ h0 42), .ref (ρ h0 43), .ref (ρ h0 44), .ref (ρ h0 45), .ref (ρ h0 46), .int o28_x47, .int o28_x48, .ref (ρ h0 49), .ref (ρ h0 50), .ref (ρ h0 51), .ref (ρ h0 52)])) hD (tp_in hG ht_h0 (by decide)) eq29 (fun f30 H locs hP hD hS g32 k31 => ?_))
  have hT := hT.up ht_h0 g32 k31 ⟨_, _, _, _, _, _, _, _, _, _, _, _, _, _, _, _, _, _, _, _, _, _, _, _, _, _, _, _, rfl, ro28_0, ro28_1, ro28_2, ro28_3, ro28_4, ro28_5, ro28_6, ro28_7, ro28_8, ro28_9, ro28_10, ro28_11, ro28_12, ro28_13, ro28_14⟩
  have hR := hR.up ht_h0 (by decide) k31
  refine lv_iload_n hx hb dX12_broken_5 rfl (lv_at hl 3 rfl) ?_
  have hf_33 : f30 (ρ h0 2) = .inl (κ 0, 12967, .inl g27) := (k31 _ (tp_ne y1 ht_h0 (by decide))).trans hf_o26
  refine pz_calli (va_runS (As := [.int a]) (rest := []) ⟨hx, hb, hml, hown, hts⟩ (t_X12_isHour l dC dI _ a (a.toInt) rfl) (va_cwS 1 hts gX12_broken_X12_isHour rfl rfl rfl pd_X12_isHour ⟨Nat.le_of_ble_eq_true rfl, Nat.le_of_ble_eq_true rfl⟩) ⟨pz_blind, pz_pre pz_P0 (hK.sub (tys' := []) [] rfl) (pz_D0 (A := fun _ => True)) hN⟩ rfl rfl hl.1 rfl (lv_room (Nat.le_of_ble_eq_true rfl)) dX12_broken_6 ⟨Nat.le_of_ble_eq_true rfl, Nat.le_of_ble_eq_true rfl⟩) (fun r34 hw35 => ?_)
  obtain ⟨hw35r, hw35p⟩ := hw35
  refine lv_if_eq (tgt := 23) hx hb dX12_broken_9 (by decide) (fun c36 => ?_) (fun c36 => ?_)
  · have ic36 : r34.toInt = 0 := zi_eq rfl rfl c36
    have p37 : ¬ (0 ≤ (a.toInt) ∧ (a.toInt) ≤ 2399) := (tp_cond.no hw35p) (by omega)
    clear hw35r ic36
    refine lv_aload_n hx hb dX12_broken_23 rfl (lv_at hl 0 rfl) ?_
    refine lv_iconst (v := (-1)) hx hb dX12_broken_24 (by decide) ?_
    refine tpk_pos (tp_in hG ht_h0 (by decide)) g32 (fun q38 eq38 => ?_)
    have hFc := tp_fr hD hS hA
    refine va_calli (va_runV (As := [.int (-1)]) (rest := []) ⟨hx, hb, hml, hown, hts⟩ (t_X12_told l dC dI _ κ Θ τ ν ρ L f30 hG hT h0 ((-1)) ht_h0) (cwV 1 hts gX12_broken_X12_told rfl rfl rfl ⟨rfl, pd_X12_told⟩ ⟨Nat.le_of_ble_eq_true rfl, Nat.le_of_ble_eq_true rfl⟩) ⟨pz_blind, va_recv hK hP (ci := 12) (q0 := q38) rfl eq38, pz_pre hP hK hD hN⟩ rfl rfl hl.1 rfl (lv_room (Nat.le_of_ble_eq_true rfl)) dX12_broken_25 ⟨Nat.le_of_ble_eq_true rfl, Nat.le_of_ble_eq_true rfl⟩) hS (fun q _ h => hFc q h) hFc (fun r39 f41 t H1 locs ht hvm hw40 hB hz1 hk1 hS => ?_)
    refine tn_4 hw40 (fun hT hF42 hw40r hw40p => ?_); clear hw40
    have hR := hR.then hF42 (by decide)
    have hP := hB.1; rw [ht] at hP; have hD := tp_ad f41 hD; clear hB hFc hz1 hk1; subst ht; generalize t.heap = H at hP hS ⊢
    have hw40pq : r39.toInt = (-1) := by rw [hw40p]; rfl
    have hf_43 : f41 (ρ h0 2) = .inl (κ 0, 12967, .inl g27) := (hF42 _ (by rw [tp_iu y1]; decide)).trans hf_33
    exact W.iret (v := r39) hx hb hr (fun t ht hW => ⟨⟨r39, f41, rfl, ⟨hT, hR, trivial, ⟨(by rw [hf_43, mo_i1]; exact hI), (by rw [hf_43, mo_i1, hf_o26, mo_i1]; exact hKN), (by simp only [hf_43, hf_o26, mo_i1]; exact ⟨⟨fun q0 => by omega, fun q0 => ⟨fun q1 => by omega, fun q1 => ⟨fun q2 => by omega, fun q2 => (by omega)⟩⟩⟩, ⟨fun q0 => by omega, fun q0 => ⟨fun q1 => by omega, fun q1 => ⟨fun q2 => by omega, fun q2 => (by omega)⟩⟩⟩⟩)⟩⟩, by rw [ht]; exact hP, va_K.moved hW.alike hK, hD⟩, hS.F ht⟩) hS.2.2 dX12_broken_28
  · have ic36 : r34.toInt ≠ 0 := zi_eqf rfl rfl c36
    replace ic36 : 1 ≤ r34.toInt := by omega
    have p44 : 0 ≤ (a.toInt) ∧ (a.toInt) ≤ 2399 := (tp_cond.yes hw35p) (by omega)
    clear hw35r ic36
    refine lv_iload_n hx hb dX12_broken_12 rfl (lv_at hl 2 rfl) ?_
    refine lv_i2l hx hb dX12_broken_13 rfl ?_
    refine lv_lconst (v := 0) hx hb dX12_broken_14 (by decide) ?_
    refine lv_iload_n hx hb dX12_broken_15 rfl (lv_at hl 3 rfl) ?_
    refine lv_i2l hx hb dX12_broken_16 rfl ?_
    refine pz_calli (va_runS (As := [.long u.toInt64, .long 0, .long a.toInt64]) (rest := []) ⟨hx, hb, hml, hown, hts⟩ (t_X12_in l dC dI _ u.toInt64 (0) a.toInt64 (u.toInt) (0) (a.toInt) (Int32.toInt_toInt64 u) rfl (Int32.toInt_toInt64 a)) (va_cwS 3 hts gX12_broken_X12_in rfl rfl rfl pd_X12_in ⟨Nat.le_of_ble_eq_true rfl, Nat.le_of_ble_eq_true rfl⟩) ⟨pz_blind, pz_pre pz_P0 (hK.sub (tys' := []) [] rfl) (pz_D0 (A := fun _ => True)) hN⟩ rfl rfl hl.1 rfl (lv_room (Nat.le_of_ble_eq_true rfl)) dX12_broken_17 ⟨Nat.le_of_ble_eq_true rfl, Nat.le_of_ble_eq_true rfl⟩) (fun r45 hw46 => ?_)
    obtain ⟨hw46r, hw46p⟩ := hw46
    refine lv_if_ne (tgt := 29) hx hb dX12_broken_20 (by decide) (fun c47 => ?_) (fun c47 => ?_)
    · have ic47 : r45.toInt ≠ 0 := zi_ne rfl rfl c47
      replace ic47 : 1 ≤ r45.toInt := by omega
      have p48 : (0) ≤ (u.toInt) ∧ (u.toInt) ≤ (a.toInt) := (tp_cond.yes hw46p) (by omega)
      clear hw46r ic47
      refine lv_aload_n hx hb dX12_broken_29 rfl (lv_at hl 0 rfl) ?_
      refine lv_iload_n hx hb dX12_broken_30 rfl (lv_at hl 1 rfl) ?_
      refine tpk_pos (tp_in hG ht_h0 (by decide)) g32 (fun q49 eq49 => ?_)
      refine pz_calli (va_runV (As := [.int v]) (rest := []) ⟨hx, hb, hml, hown, hts⟩ (t_X12_isTerminal l dC dI _ κ Θ τ ν ρ L f30 hG hT h0 v (-1) 0 ht_h0 (by omega) (by rw [hf_33, mo_i1]; exact hI)) (cwV 1 hts gX12_broken_X12_isTerminal rfl rfl rfl ⟨rfl, pd_X12_isTerminal⟩ ⟨Nat.le_of_ble_eq_true rfl, Nat.le_of_ble_eq_true rfl⟩) ⟨pz_blind, va_recv hK hP (ci := 12) (q0 := q49) rfl eq49, pz_pre hP hK hD hN⟩ rfl rfl hl.1 rfl (lv_room (Nat.le_of_ble_eq_true rfl)) dX12_broken_31 ⟨Nat.le_of_ble_eq_true rfl, Nat.le_of_ble_eq_true rfl⟩) (fun r50 hw51 => ?_)
      obtain ⟨hw51r, hw51p⟩ := hw51
      have := hI.k0
      rw [hf_33, mo_i1] at hw51p
      refine lv_if_ne (tgt := 44) hx hb dX12_broken_34 (by decide) (fun c52 => ?_) (fun c52 => ?_)
      · have ic52 : r50.toInt ≠ 0 := zi_ne rfl rfl c52
        replace ic52 : 1 ≤ r50.toInt := by omega
        have p53 : 0 ≤ v.toInt ∧ v.toInt < mo_R g27 0 := (tp_cond.yes hw51p) (by omega)
        clear hw51r ic52
        refine lv_aload_n hx hb dX12_broken_44 rfl (lv_at hl 0 rfl) ?_
        refine va_get (D := (dC, dI)) (ci := 12) (v := .ref (ρ h0 2)) (C := RX12) (T := TX12) (N := 53) hx hb hts hfX12 hown hK hP q49 eq49 rfl 2 (by decide) (hts (.fieldLink RX12 7 "ColdShipsModel" "row" "[I") wa_148) (fun _ h9 => h9) rfl dX12_broken_45 ?_
        refine lv_iconst (v := 3) hx hb dX12_broken_48 (by decide) ?_
        refine tpk_pos (tp_in hG y1 (by decide)) hf_33 (fun q54 eq54 => ?_)
        refine va_iald hx hb hK hP q54 0 eq54 rfl (vp_in_iff.mpr ⟨by decide, by decide⟩) dX12_broken_49 ?_
        refine lv_topi (fun z55 ez55 => ?_)
        have jz55 : z55.toInt = mo_R g27 (3) := mo_rd ez55 (show (3 : Int32).toInt = (3) from by decide)
        have kz55 := hI.k3
        refine lv_bipush (v := 20) hx hb dX12_broken_50 (by decide) ?_
        refine lv_icmp_ne (tgt := 62) hx hb dX12_broken_52 (by decide) (fun c56 => ?_) (fun c56 => ?_)
        · have ic56 : z55.toInt ≠ 20 := zi_ne rfl rfl c56
          replace ic56 : z55.toInt ≤ 19 := by omega
          refine lv_sipush (v := 487) hx hb dX12_broken_62 (by decide) ?_
          refine lv_iconst (v := 3) hx hb dX12_broken_65 (by decide) ?_
          refine lv_aload_n hx hb dX12_broken_66 rfl (lv_at hl 0 rfl) ?_
          refine va_get (D := (dC, dI)) (ci := 12) (v := .ref (ρ h0 2)) (C := RX12) (T := TX12) (N := 53) hx hb hts hfX12 hown hK hP q49 eq49 rfl 2 (by decide) (hts (.fieldLink RX12 7 "ColdShipsModel" "row" "[I") wa_148) (fun _ h9 => h9) rfl dX12_broken_67 ?_
          refine lv_iconst (v := 3) hx hb dX12_broken_70 (by decide) ?_
          refine va_iald hx hb hK hP q54 0 eq54 rfl (vp_in_iff.mpr ⟨by decide, by decide⟩) dX12_broken_71 ?_
          refine lv_topi (fun z57 ez57 => ?_)
          have jz57 : z57.toInt = mo_R g27 (3) := mo_rd ez57 (show (3 : Int32).toInt = (3) from by decide)
          have kz57 := hI.k3
          have vz57 : z57.toInt = z55.toInt := jz57.trans (jz55).symm
          refine lv_imul hx hb dX12_broken_72 ?_
          refine lv_topi (fun z58 ez58 => ?_)
          have iz58 : z58.toInt = 3 * z57.toInt := zi_mul ez58 rfl rfl (by omega) (by omega)
          refine lv_iadd hx hb dX12_broken_73 ?_
          refine lv_topi (fun z59 ez59 => ?_)
          have iz59 : z59.toInt = 487 + z58.toInt := zi_add ez59 rfl rfl (by omega) (by omega)
          refine lv_istore (lv' := [(4, .int z59), (0, .ref h0), (1, .int v), (2, .int u), (3, .int a)]) hx hb dX12_broken_74 hl (by decide) rfl (fun ls hl => ?_)
          refine lv_aload_n hx hb dX12_broken_76 rfl (lv_at hl 1 rfl) ?_
          refine va_get (D := (dC, dI)) (ci := 12) (v := .ref (ρ h0 2)) (C := RX12) (T := TX12) (N := 53) hx hb hts hfX12 hown hK hP q49 eq49 rfl 2 (by decide) (hts (.fieldLink RX12 7 "ColdShipsModel" "row" "[I") wa_148) (fun _ h9 => h9) rfl dX12_broken_77 ?_
          refine lv_iload hx hb dX12_broken_80 (lv_at hl 0 rfl) ?_
          refine lv_iload_n hx hb dX12_broken_82 rfl (lv_at hl 2 rfl) ?_
          refine va_iast hx hb hK hP hD hS q54 0 eq54 rfl (vp_in_iff.mpr ⟨by omega, by omega⟩) dX12_broken_83 (tp_k (.inl (κ 0, 12967, .inl (upd g27 z59.toNatClampNeg v))) hD (tp_in hG y1 (by decide)) eq54 (fun f60 H locs hP hD hS g62 k61 => ?_))
          have hT := hT.up y1 g62 k61 tp_o32
          have hR := hR.up y1 (by decide) k61
          have hU : mo_U (mo_R g27) (mo_R (upd g27 z59.toNatClampNeg v)) (487 + 3 * z55.toInt) (v.toInt) := mo_up (by omega) (rfl : v.toInt = _) (by omega)
          generalize (upd g27 z59.toNatClampNeg v) = g63 at g62 hU
          have hI := mo_w_flat hI hU (by omega)
          have hKN := hKN.up hU (Or.inl (by omega))
          have pn64 : mo_R g63 (3) = z55.toInt := (hU.ne (by omega) (by omega)).trans (jz55).symm
          refine lv_aload_n hx hb dX12_broken_84 rfl (lv_at hl 1 rfl) ?_
          have hf_65 : f60 h0 = .inr (12, [.int 0, .int o28_x1, .ref (ρ h0 2), .ref (ρ h0 3), .ref (ρ h0 4), .ref (ρ h0 5), .ref (ρ h0 6), .int o28_x7, .ref (ρ h0 8), .int o28_x9, .int o28_x10, .int o28_x11, .int o28_x12, .long o28_x13, .int o28_x14, .int o28_x15, .int o28_x16, .int o28_x17, .int o28_x18, .int o28_x19, .int o28_x20, .ref (ρ h0 21), .int o28_x22, .ref (ρ h0 23), .ref (ρ h0 24), .int o28_x25, .ref (ρ h0 26), .ref (ρ h0 27), .int o28_x28, .int o28_x29, .ref (ρ h0 30), .ref (ρ h0 31), .int o28_x32, .long o28_x33, .long o28_x34, .long o28_x35, .int o28_x36, .int o28_x37, .int o28_x38, .ref (ρ h0 39), .ref (ρ h0 40), .ref (ρ h0 41), .ref (ρ h0 42), .ref (ρ h0 43), .ref (ρ h0 44), .ref (ρ h0 45), .ref (ρ h0 46), .int o28_x47, .int o28_x48, .ref (ρ h0 49), .ref (ρ h0 50), .ref (ρ h0 51), .ref (ρ h0 52)]) := (k61 _ (tp_ne ht_h0 y1 (by decide))).trans g32
          refine tpk_pos (tp_in hG ht_h0 (by decide)) hf_65 (fun q66 eq66 => ?_)
          refine va_get (D := (dC, dI)) (ci := 12) (v := .ref (ρ h0 2)) (C := RX12) (T := TX12) (N := 53) hx hb hts hfX12 hown hK hP q66 eq66 rfl 2 (by decide) (hts (.fieldLink RX12 7 "ColdShipsModel" "row" "[I") wa_148) (fun _ h9 => h9) rfl dX12_broken_85 ?_
          refine lv_iload hx hb dX12_broken_88 (lv_at hl 0 rfl) ?_
          refine lv_iconst (v := 1) hx hb dX12_broken_90 (by decide) ?_
          refine lv_iadd hx hb dX12_broken_91 ?_
          refine lv_topi (fun z67 ez67 => ?_)
          have iz67 : z67.toInt = z59.toInt + 1 := zi_add ez67 rfl rfl (by omega) (by omega)
          refine lv_iload_n hx hb dX12_broken_92 rfl (lv_at hl 3 rfl) ?_
          refine tpk_pos (tp_in hG y1 (by decide)) g62 (fun q68 eq68 => ?_)
          refine va_iast hx hb hK hP hD hS q68 0 eq68 rfl (vp_in_iff.mpr ⟨by omega, by omega⟩) dX12_broken_93 (tp_k (.inl (κ 0, 12967, .inl (upd g63 z67.toNatClampNeg u))) hD (tp_in hG y1 (by decide)) eq68 (fun f69 H locs hP hD hS g71 k70 => ?_))
          have hT := hT.up y1 g71 k70 tp_o32
          have hR := hR.up y1 (by decide) k70
          have hU : mo_U (mo_R g63) (mo_R (upd g63 z67.toNatClampNeg u)) (488 + 3 * z55.toInt) (u.toInt) := mo_up (by omega) (rfl : u.toInt = _) (by omega)
          generalize (upd g63 z67.toNatClampNeg u) = g72 at g71 hU
          have hI := mo_w_flat hI hU (by omega)
          have hKN := hKN.up hU (Or.inl (by omega))
          have pn73 : mo_R g72 (3) = z55.toInt := (hU.ne (by omega) (by omega)).trans pn64
          refine lv_aload_n hx hb dX12_broken_94 rfl (lv_at hl 1 rfl) ?_
          have hf_74 : f69 h0 = .inr (12, [.int 0, .int o28_x1, .ref (ρ h0 2), .ref (ρ h0 3), .ref (ρ h0 4), .ref (ρ h0 5), .ref (ρ h0 6), .int o28_x7, .ref (ρ h0 8), .int o28_x9, .int o28_x10, .int o28_x11, .int o28_x12, .long o28_x13, .int o28_x14, .int o28_x15, .int o28_x16, .int o28_x17, .int o28_x18, .int o28_x19, .int o28_x20, .ref (ρ h0 21), .int o28_x22, .ref (ρ h0 23), .ref (ρ h0 24), .int o28_x25, .ref (ρ h0 26), .ref (ρ h0 27), .int o28_x28, .int o28_x29, .ref (ρ h0 30), .ref (ρ h0 31), .int o28_x32, .long o28_x33, .long o28_x34, .long o28_x35, .int o28_x36, .int o28_x37, .int o28_x38, .ref (ρ h0 39), .ref (ρ h0 40), .ref (ρ h0 41), .ref (ρ h0 42), .ref (ρ h0 43), .ref (ρ h0 44), .ref (ρ h0 45), .ref (ρ h0 46), .int o28_x47, .int o28_x48, .ref (ρ h0 49), .ref (ρ h0 50), .ref (ρ h0 51), .ref (ρ h0 52)]) := (k70 _ (tp_ne ht_h0 y1 (by decide))).trans hf_65
          refine tpk_pos (tp_in hG ht_h0 (by decide)) hf_74 (fun q75 eq75 => ?_)
          refine va_get (D := (dC, dI)) (ci := 12) (v := .ref (ρ h0 2)) (C := RX12) (T := TX12) (N := 53) hx hb hts hfX12 hown hK hP q75 eq75 rfl 2 (by decide) (hts (.fieldLink RX12 7 "ColdShipsModel" "row" "[I") wa_148) (fun _ h9 => h9) rfl dX12_broken_95 ?_
          refine lv_iload hx hb dX12_broken_98 (lv_at hl 0 rfl) ?_
          refine lv_iconst (v := 2) hx hb dX12_broken_100 (by decide) ?_
          refine lv_iadd hx hb dX12_broken_101 ?_
          refine lv_topi (fun z76 ez76 => ?_)
          have iz76 : z76.toInt = z59.toInt + 2 := zi_add ez76 rfl rfl (by omega) (by omega)
          refine lv_iload_n hx hb dX12_broken_102 rfl (lv_at hl 4 rfl) ?_
          refine tpk_pos (tp_in hG y1 (by decide)) g71 (fun q77 eq77 => ?_)
          refine va_iast hx hb hK hP hD hS q77 0 eq77 rfl (vp_in_iff.mpr ⟨by omega, by omega⟩) dX12_broken_103 (tp_k (.inl (κ 0, 12967, .inl (upd g72 z76.toNatClampNeg a))) hD (tp_in hG y1 (by decide)) eq77 (fun f78 H locs hP hD hS g80 k79 => ?_))
          have hT := hT.up y1 g80 k79 tp_o32
          have hR := hR.up y1 (by decide) k79
          have hU : mo_U (mo_R g72) (mo_R (upd g72 z76.toNatClampNeg a)) (489 + 3 * z55.toInt) (a.toInt) := mo_up (by omega) (rfl : a.toInt = _) (by omega)
          generalize (upd g72 z76.toNatClampNeg a) = g81 at g80 hU
          have hI := mo_w_flat hI hU (by omega)
          have hKN := hKN.up hU (Or.inl (by omega))
          have pn82 : mo_R g81 (3) = z55.toInt := (hU.ne (by omega) (by omega)).trans pn73
          refine lv_aload_n hx hb dX12_broken_104 rfl (lv_at hl 1 rfl) ?_
          have hf_83 : f78 h0 = .inr (12, [.int 0, .int o28_x1, .ref (ρ h0 2), .ref (ρ h0 3), .ref (ρ h0 4), .ref (ρ h0 5), .ref (ρ h0 6), .int o28_x7, .ref (ρ h0 8), .int o28_x9, .int o28_x10, .int o28_x11, .int o28_x12, .long o28_x13, .int o28_x14, .int o28_x15, .int o28_x16, .int o28_x17, .int o28_x18, .int o28_x19, .int o28_x20, .ref (ρ h0 21), .int o28_x22, .ref (ρ h0 23), .ref (ρ h0 24), .int o28_x25, .ref (ρ h0 26), .ref (ρ h0 27), .int o28_x28, .int o28_x29, .ref (ρ h0 30), .ref (ρ h0 31), .int o28_x32, .long o28_x33, .long o28_x34, .long o28_x35, .int o28_x36, .int o28_x37, .int o28_x38, .ref (ρ h0 39), .ref (ρ h0 40), .ref (ρ h0 41), .ref (ρ h0 42), .ref (ρ h0 43), .ref (ρ h0 44), .ref (ρ h0 45), .ref (ρ h0 46), .int o28_x47, .int o28_x48, .ref (ρ h0 49), .ref (ρ h0 50), .ref (ρ h0 51), .ref (ρ h0 52)]) := (k79 _ (tp_ne ht_h0 y1 (by decide))).trans hf_74
          refine tpk_pos (tp_in hG ht_h0 (by decide)) hf_83 (fun q84 eq84 => ?_)
          refine va_get (D := (dC, dI)) (ci := 12) (v := .ref (ρ h0 2)) (C := RX12) (T := TX12) (N := 53) hx hb hts hfX12 hown hK hP q84 eq84 rfl 2 (by decide) (hts (.fieldLink RX12 7 "ColdShipsModel" "row" "[I") wa_148) (fun _ h9 => h9) rfl dX12_broken_105 ?_
          refine lv_iconst (v := 3) hx hb dX12_broken_108 (by decide) ?_
          refine lv_dup2_11 hx hb dX12_broken_109 rfl rfl ?_
          refine tpk_pos (tp_in hG y1 (by decide)) g80 (fun q85 eq85 => ?_)
          refine va_iald hx hb hK hP q85 0 eq85 rfl (vp_in_iff.mpr ⟨by decide, by decide⟩) dX12_broken_110 ?_
          refine lv_topi (fun z86 ez86 => ?_)
          have jz86 : z86.toInt = mo_R g81 (3) := mo_rd ez86 (show (3 : Int32).toInt = (3) from by decide)
          have kz86 := hI.k3
          have vz86 : z86.toInt = z55.toInt := jz86.trans pn82
          refine lv_iconst (v := 1) hx hb dX12_broken_111 (by decide) ?_
          refine lv_iadd hx hb dX12_broken_112 ?_
          refine lv_topi (fun z87 ez87 => ?_)
          have iz87 : z87.toInt = z86.toInt + 1 := zi_add ez87 rfl rfl (by omega) (by omega)
          refine va_iast hx hb hK hP hD hS q85 0 eq85 rfl (vp_in_iff.mpr ⟨by decide, by decide⟩) dX12_broken_113 (tp_k (.inl (κ 0, 12967, .inl (upd g81 (3 : Int32).toNatClampNeg z87))) hD (tp_in hG y1 (by decide)) eq85 (fun f88 H locs hP hD hS g90 k89 => ?_))
          have hT := hT.up y1 g90 k89 tp_o32
          have hR := hR.up y1 (by decide) k89
          have hU : mo_U (mo_R g81) (mo_R (upd g81 (3 : Int32).toNatClampNeg z87)) (3) (z87.toInt) := mo_up (show (3 : Int32).toInt = (3) from by decide) (rfl : z87.toInt = _) (by omega)
          generalize (upd g81 (3 : Int32).toNatClampNeg z87) = g91 at g90 hU
          have hI := mo_w_cnt hI hU (by omega) (by omega)
          have hKN := hKN.up hU (Or.inr (by show (3) = 3; omega))
          have pn92 : mo_R g91 (3) = z87.toInt := hU.eq (by omega)
          refine lv_aload_n hx hb dX12_broken_114 rfl (lv_at hl 1 rfl) ?_
          refine lv_aload_n hx hb dX12_broken_115 rfl (lv_at hl 1 rfl) ?_
          have hf_93 : f88 h0 = .inr (12, [.int 0, .int o28_x1, .ref (ρ h0 2), .ref (ρ h0 3), .ref (ρ h0 4), .ref (ρ h0 5), .ref (ρ h0 6), .int o28_x7, .ref (ρ h0 8), .int o28_x9, .int o28_x10, .int o28_x11, .int o28_x12, .long o28_x13, .int o28_x14, .int o28_x15, .int o28_x16, .int o28_x17, .int o28_x18, .int o28_x19, .int o28_x20, .ref (ρ h0 21), .int o28_x22, .ref (ρ h0 23), .ref (ρ h0 24), .int o28_x25, .ref (ρ h0 26), .ref (ρ h0 27), .int o28_x28, .int o28_x29, .ref (ρ h0 30), .ref (ρ h0 31), .int o28_x32, .long o28_x33, .long o28_x34, .long o28_x35, .int o28_x36, .int o28_x37, .int o28_x38, .ref (ρ h0 39), .ref (ρ h0 40), .ref (ρ h0 41), .ref (ρ h0 42), .ref (ρ h0 43), .ref (ρ h0 44), .ref (ρ h0 45), .ref (ρ h0 46), .int o28_x47, .int o28_x48, .ref (ρ h0 49), .ref (ρ h0 50), .ref (ρ h0 51), .ref (ρ h0 52)]) := (k89 _ (tp_ne ht_h0 y1 (by decide))).trans hf_83
          refine tpk_pos (tp_in hG ht_h0 (by decide)) hf_93 (fun q94 eq94 => ?_)
          refine va_get (D := (dC, dI)) (ci := 12) (v := .ref (ρ h0 2)) (C := RX12) (T := TX12) (N := 53) hx hb hts hfX12 hown hK hP q94 eq94 rfl 2 (by decide) (hts (.fieldLink RX12 7 "ColdShipsModel" "row" "[I") wa_148) (fun _ h9 => h9) rfl dX12_broken_116 ?_
          refine lv_iconst (v := 3) hx hb dX12_broken_119 (by decide) ?_
          refine tpk_pos (tp_in hG y1 (by decide)) g90 (fun q95 eq95 => ?_)
          refine va_iald hx hb hK hP q95 0 eq95 rfl (vp_in_iff.mpr ⟨by decide, by decide⟩) dX12_broken_120 ?_
          refine lv_topi (fun z96 ez96 => ?_)
          have jz96 : z96.toInt = mo_R g91 (3) := mo_rd ez96 (show (3 : Int32).toInt = (3) from by decide)
          have kz96 := hI.k3
          have vz96 : z96.toInt = z87.toInt := jz96.trans pn92
          have hFc := tp_fr hD hS hA
          refine va_calli (va_runV (As := [.int z96]) (rest := []) ⟨hx, hb, hml, hown, hts⟩ (t_X12_told l dC dI _ κ Θ τ ν ρ L f88 hG hT h0 z96 ht_h0) (cwV 1 hts gX12_broken_X12_told rfl rfl rfl ⟨rfl, pd_X12_told⟩ ⟨Nat.le_of_ble_eq_true rfl, Nat.le_of_ble_eq_true rfl⟩) ⟨pz_blind, va_recv hK hP (ci := 12) (q0 := q94) rfl eq94, pz_pre hP hK hD hN⟩ rfl rfl hl.1 rfl (lv_room (Nat.le_of_ble_eq_true rfl)) dX12_broken_121 ⟨Nat.le_of_ble_eq_true rfl, Nat.le_of_ble_eq_true rfl⟩) hS (fun q _ h => hFc q h) hFc (fun r97 f99 t H1 locs ht hvm hw98 hB hz1 hk1 hS => ?_)
          refine tn_4 hw98 (fun hT hF100 hw98r hw98p => ?_); clear hw98
          have hR := hR.then hF100 (by decide)
          have hP := hB.1; rw [ht] at hP; have hD := tp_ad f99 hD; clear hB hFc hz1 hk1; subst ht; generalize t.heap = H at hP hS ⊢
          have hw98pq : r97.toInt = z96.toInt := by rw [hw98p]
          have hf_101 : f99 (ρ h0 2) = .inl (κ 0, 12967, .inl g91) := (hF100 _ (by rw [tp_iu y1]; decide)).trans g90
          exact W.iret (v := r97) hx hb hr (fun t ht hW => ⟨⟨r97, f99, rfl, ⟨hT, hR, trivial, ⟨(by rw [hf_101, mo_i1]; exact hI), (by rw [hf_101, mo_i1, hf_o26, mo_i1]; exact hKN), (by simp only [hf_101, hf_o26, mo_i1]; exact ⟨⟨fun q0 => by omega, fun q0 => ⟨fun q1 => by omega, fun q1 => ⟨fun q2 => by omega, fun q2 => (by omega)⟩⟩⟩, ⟨fun q0 => by omega, fun q0 => ⟨fun q1 => by omega, fun q1 => ⟨fun q2 => by omega, fun q2 => (by omega)⟩⟩⟩⟩)⟩⟩, by rw [ht]; exact hP, va_K.moved hW.alike hK, hD⟩, hS.F ht⟩) hS.2.2 dX12_broken_124
        · have ic56 : z55.toInt = 20 := zi_nef rfl rfl c56
          refine lv_aload_n hx hb dX12_broken_55 rfl (lv_at hl 0 rfl) ?_
          refine lv_bipush (v := (-5)) hx hb dX12_broken_56 (by decide) ?_
          have hFc := tp_fr hD hS hA
          refine va_calli (va_runV (As := [.int (-5)]) (rest := []) ⟨hx, hb, hml, hown, hts⟩ (t_X12_told l dC dI _ κ Θ τ ν ρ L f30 hG hT h0 ((-5)) ht_h0) (cwV 1 hts gX12_broken_X12_told rfl rfl rfl ⟨rfl, pd_X12_told⟩ ⟨Nat.le_of_ble_eq_true rfl, Nat.le_of_ble_eq_true rfl⟩) ⟨pz_blind, va_recv hK hP (ci := 12) (q0 := q49) rfl eq49, pz_pre hP hK hD hN⟩ rfl rfl hl.1 rfl (lv_room (Nat.le_of_ble_eq_true rfl)) dX12_broken_58 ⟨Nat.le_of_ble_eq_true rfl, Nat.le_of_ble_eq_true rfl⟩) hS (fun q _ h => hFc q h) hFc (fun r102 f104 t H1 locs ht hvm hw103 hB hz1 hk1 hS => ?_)
          refine tn_4 hw103 (fun hT hF105 hw103r hw103p => ?_); clear hw103
          have hR := hR.then hF105 (by decide)
          have hP := hB.1; rw [ht] at hP; have hD := tp_ad f104 hD; clear hB hFc hz1 hk1; subst ht; generalize t.heap = H at hP hS ⊢
          have hw103pq : r102.toInt = (-5) := by rw [hw103p]; rfl
          have hf_106 : f104 (ρ h0 2) = .inl (κ 0, 12967, .inl g27) := (hF105 _ (by rw [tp_iu y1]; decide)).trans hf_33
          exact W.iret (v := r102) hx hb hr (fun t ht hW => ⟨⟨r102, f104, rfl, ⟨hT, hR, trivial, ⟨(by rw [hf_106, mo_i1]; exact hI), (by rw [hf_106, mo_i1, hf_o26, mo_i1]; exact hKN), (by simp only [hf_106, hf_o26, mo_i1]; exact ⟨⟨fun q0 => by omega, fun q0 => ⟨fun q1 => by omega, fun q1 => ⟨fun q2 => by omega, fun q2 => (by omega)⟩⟩⟩, ⟨fun q0 => by omega, fun q0 => ⟨fun q1 => by omega, fun q1 => ⟨fun q2 => by omega, fun q2 => (by omega)⟩⟩⟩⟩)⟩⟩, by rw [ht]; exact hP, va_K.moved hW.alike hK, hD⟩, hS.F ht⟩) hS.2.2 dX12_broken_61
      · have ic52 : r50.toInt = 0 := zi_nef rfl rfl c52
        have p107 : ¬ (0 ≤ v.toInt ∧ v.toInt < mo_R g27 0) := (tp_cond.no hw51p) (by omega)
        clear hw51r ic52
        refine lv_aload_n hx hb dX12_broken_37 rfl (lv_at hl 0 rfl) ?_
        refine lv_bipush (v := (-2)) hx hb dX12_broken_38 (by decide) ?_
        have hFc := tp_fr hD hS hA
        refine va_calli (va_runV (As := [.int (-2)]) (rest := []) ⟨hx, hb, hml, hown, hts⟩ (t_X12_told l dC dI _ κ Θ τ ν ρ L f30 hG hT h0 ((-2)) ht_h0) (cwV 1 hts gX12_broken_X12_told rfl rfl rfl ⟨rfl, pd_X12_told⟩ ⟨Nat.le_of_ble_eq_true rfl, Nat.le_of_ble_eq_true rfl⟩) ⟨pz_blind, va_recv hK hP (ci := 12) (q0 := q49) rfl eq49, pz_pre hP hK hD hN⟩ rfl rfl hl.1 rfl (lv_room (Nat.le_of_ble_eq_true rfl)) dX12_broken_40 ⟨Nat.le_of_ble_eq_true rfl, Nat.le_of_ble_eq_true rfl⟩) hS (fun q _ h => hFc q h) hFc (fun r108 f110 t H1 locs ht hvm hw109 hB hz1 hk1 hS => ?_)
        refine tn_4 hw109 (fun hT hF111 hw109r hw109p => ?_); clear hw109
        have hR := hR.then hF111 (by decide)
        have hP := hB.1; rw [ht] at hP; have hD := tp_ad f110 hD; clear hB hFc hz1 hk1; subst ht; generalize t.heap = H at hP hS ⊢
        have hw109pq : r108.toInt = (-2) := by rw [hw109p]; rfl
        have hf_112 : f110 (ρ h0 2) = .inl (κ 0, 12967, .inl g27) := (hF111 _ (by rw [tp_iu y1]; decide)).trans hf_33
        exact W.iret (v := r108) hx hb hr (fun t ht hW => ⟨⟨r108, f110, rfl, ⟨hT, hR, trivial, ⟨(by rw [hf_112, mo_i1]; exact hI), (by rw [hf_112, mo_i1, hf_o26, mo_i1]; exact hKN), (by simp only [hf_112, hf_o26, mo_i1]; exact ⟨⟨fun q0 => by omega, fun q0 => ⟨fun q1 => by omega, fun q1 => ⟨fun q2 => by omega, fun q2 => (by omega)⟩⟩⟩, ⟨fun q0 => by omega, fun q0 => ⟨fun q1 => by omega, fun q1 => ⟨fun q2 => by omega, fun q2 => (by omega)⟩⟩⟩⟩)⟩⟩, by rw [ht]; exact hP, va_K.moved hW.alike hK, hD⟩, hS.F ht⟩) hS.2.2 dX12_broken_43
    · have ic47 : r45.toInt = 0 := zi_nef rfl rfl c47
      have p113 : ¬ ((0) ≤ (u.toInt) ∧ (u.toInt) ≤ (a.toInt)) := (tp_cond.no hw46p) (by omega)
      clear hw46r ic47
      refine lv_aload_n hx hb dX12_broken_23 rfl (lv_at hl 0 rfl) ?_
      refine lv_iconst (v := (-1)) hx hb dX12_broken_24 (by decide) ?_
      refine tpk_pos (tp_in hG ht_h0 (by decide)) g32 (fun q114 eq114 => ?_)
      have hFc := tp_fr hD hS hA
      refine va_calli (va_runV (As := [.int (-1)]) (rest := []) ⟨hx, hb, hml, hown, hts⟩ (t_X12_told l dC dI _ κ Θ τ ν ρ L f30 hG hT h0 ((-1)) ht_h0) (cwV 1 hts gX12_broken_X12_told rfl rfl rfl ⟨rfl, pd_X12_told⟩ ⟨Nat.le_of_ble_eq_true rfl, Nat.le_of_ble_eq_true rfl⟩) ⟨pz_blind, va_recv hK hP (ci := 12) (q0 := q114) rfl eq114, pz_pre hP hK hD hN⟩ rfl rfl hl.1 rfl (lv_room (Nat.le_of_ble_eq_true rfl)) dX12_broken_25 ⟨Nat.le_of_ble_eq_true rfl, Nat.le_of_ble_eq_true rfl⟩) hS (fun q _ h => hFc q h) hFc (fun r115 f117 t H1 locs ht hvm hw116 hB hz1 hk1 hS => ?_)
      refine tn_4 hw116 (fun hT hF118 hw116r hw116p => ?_); clear hw116
      have hR := hR.then hF118 (by decide)
      have hP := hB.1; rw [ht] at hP; have hD := tp_ad f117 hD; clear hB hFc hz1 hk1; subst ht; generalize t.heap = H at hP hS ⊢
      have hw116pq : r115.toInt = (-1) := by rw [hw116p]; rfl
      have hf_119 : f117 (ρ h0 2) = .inl (κ 0, 12967, .inl g27) := (hF118 _ (by rw [tp_iu y1]; decide)).trans hf_33
      exact W.iret (v := r115) hx hb hr (fun t ht hW => ⟨⟨r115, f117, rfl, ⟨hT, hR, trivial, ⟨(by rw [hf_119, mo_i1]; exact hI), (by rw [hf_119, mo_i1, hf_o26, mo_i1]; exact hKN), (by simp only [hf_119, hf_o26, mo_i1]; exact ⟨⟨fun q0 => by omega, fun q0 => ⟨fun q1 => by omega, fun q1 => ⟨fun q2 => by omega, fun q2 => (by omega)⟩⟩⟩, ⟨fun q0 => by omega, fun q0 => ⟨fun q1 => by omega, fun q1 => ⟨fun q2 => by omega, fun q2 => (by omega)⟩⟩⟩⟩)⟩⟩, by rw [ht]; exact hP, va_K.moved hW.alike hK, hD⟩, hS.F ht⟩) hS.2.2 dX12_broken_28
set_option maxHeartbeats 4000000 in
set_option maxRecDepth 100000 in
theorem t_X12_isBroken (l : Launch) (dC : Nat → ClassId) (dI : Nat → Nat → Nat) (sz : Nat) (κ : Nat → ClassId) (Θ : Nat → Option Int) (τ ν : Nat → Nat) (ρ : Nat → Nat → Nat) (L : List Nat) (f : Nat → va_E) (hG : tp_G τ ν ρ L) (hT : tp_T (mo_O κ Θ) κ τ ν ρ f) (h0 : Nat) (v : Int32) (u : Int32) (x : Int) (b : Int) (ht_h0 : τ h0 = 13) (hbb : 0 ≤ b ∧ b ≤ 1000) (hJ : mo_RI x b (mo_R (mo_i (f (ρ h0 2))))) : Met l yX12_isBroken wqX12_isBroken ({ frames := 3, cells := 0, slots := 0, locals := 800 }) (va_Pc [.ref h0, .int v, .int u] (pz_B dC dI (tp_K κ) (va_pl L f) sz)) (vp_Si (fun r => (0 ≤ r.toInt ∧ r.toInt ≤ 1) ∧ True)) 0 0 (fun _ => False) := by
  refine Met.ofW (cc := cX12_isBroken) (maxL := 6) (ret := some .boolean) (by decide) rfl ?_
  intro p e s m args below meth c s₁ B hml hv
  obtain ⟨rfl, hsz, hP, hK, hD0, hN⟩ := hv
  have hx := B.exec
  have hb := B.bytes
  have hr := B.returns
  have hts := fun (w : Cond) (h : w ∈ WALL) => atoms_spec (ws := wqX12_isBroken) B.pre w (List.mem_cons_of_mem _ h)
  have hown : s.vm.findClass RX12 = some m.cls := findClass_of_methodNamed B.named
  have hlocks := B.notSynchronized
  subst hsz
  have hD := hD0
  have hS : va_S (fun _ => True) s.heap s.heap [] := va_S.rf
  have hl := lv_entry ([.ref h0, .int v, .int u]) (n := 6) (Nat.le_of_ble_eq_true rfl)
  rw [lg_entry_eq]
  generalize (lg_sl ([.ref h0, .int v, .int u]) ++ List.replicate (6 - (lg_sl ([.ref h0, .int v, .int u])).length) Slot.unset).toArray = ls at hl ⊢
  have hl : lv_has ls 6 [(0, .ref h0), (1, .int v), (2, .int u)] := hl
  refine tgk_13 hG ht_h0 (fun y1 y2 y3 y4 y5 y6 y7 y8 y9 y10 y11 y12 y13 y14 y15 y16 y17 y18 y19 y20 y21 y22 y23 y24 y25 => ?_)
  refine tpk_32 hT y1 (fun g27 hf_o26 => ?_)
  have hI : mo_RI x b (mo_R g27) := by have q9 := hJ; rw [hf_o26, mo_i1] at q9; exact q9
  refine lv_iconst (v := 0) hx hb dX12_isBroken_0 (by decide) ?_
  refine lv_istore_n (lv' := [(3, .int 0), (0, .ref h0), (1, .int v), (2, .int u)]) hx hb dX12_isBroken_1 rfl hl (by decide) rfl (fun ls hl => ?_)
  refine lv_iconst (v := 0) hx hb dX12_isBroken_2 (by decide) ?_
  refine lv_istore (lv' := [(4, .int 0), (3, .int 0), (0, .ref h0), (1, .int v), (2, .int u)]) hx hb dX12_isBroken_3 hl (by decide) rfl (fun ls hl => ?_)
  refine pz_loop (fun n0 H locs ls => ∃ w28 : Int32, ∃ w29 : Int32, n0 = (20 - (w28.toInt)).toNat ∧ (0 ≤ w28.toInt ∧ w28.toInt ≤ 20) ∧ (0 ≤ w29.toInt ∧ w29.toInt ≤ 1) ∧ H = s.heap ∧ locs = [] ∧ lv_has ls 6 [(4, .int w28), (3, .int w29), (0, .ref h0), (1, .int v), (2, .int u)]) ?_ _ _ _ _ ⟨0, 0, rfl, (by have : (0 : Int32).toInt = 0 := rfl; have : (0 : Int32).toInt = 0 := rfl; omega), (by have : (0 : Int32).toInt = 0 := rfl; have : (0 : Int32).toInt = 0 := rfl; omega), rfl, rfl, lv_sub hl [0, 1, 2, 3, 4] rfl⟩
  intro n0 H locs ls hI ih30
  refine Exists.elim hI (fun w28 hE90 => Exists.elim hE90 (fun w29 hE91 => tn_6 hE91 (fun hn31 rw28 rw29 e93 e94 hl => ?_)))
  clear hE91 hE90 hI; subst e93; subst e94
  refine lv_iload hx hb dX12_isBroken_5 (lv_at hl 0 rfl) ?_
  refine lv_aload_n hx hb dX12_isBroken_7 rfl (lv_at hl 2 rfl) ?_
  refine tpk_13 hT ht_h0 (fun o32_x0 o32_x1 o32_x7 o32_x9 o32_x10 o32_x11 o32_x12 o32_x13 o32_x14 o32_x15 o32_x16 o32_x17 o32_x18 o32_x19 o32_x20 o32_x22 o32_x25 o32_x28 o32_x29 o32_x32 o32_x33 o32_x34 o32_x35 o32_x36 o32_x37 o32_x38 o32_x47 o32_x48 hf_o32 ro32_0 ro32_1 ro32_2 ro32_3 ro32_4 ro32_5 ro32_6 ro32_7 ro32_8 ro32_9 ro32_10 ro32_11 ro32_12 ro32_13 ro32_14 => ?_)
  refine tpk_pos (tp_in hG ht_h0 (by decide)) hf_o32 (fun q33 eq33 => ?_)
  refine va_get (D := (dC, dI)) (ci := 12) (v := .ref (ρ h0 2)) (C := RX12) (T := TX12) (N := 53) hx hb hts hfX12 hown hK hP q33 eq33 rfl 2 (by decide) (hts (.fieldLink RX12 7 "ColdShipsModel" "row" "[I") wa_148) (fun _ h9 => h9) rfl dX12_isBroken_8 ?_
  refine lv_iconst (v := 3) hx hb dX12_isBroken_11 (by decide) ?_
  refine tpk_pos (tp_in hG y1 (by decide)) hf_o26 (fun q34 eq34 => ?_)
  refine va_iald hx hb hK hP q34 0 eq34 rfl (vp_in_iff.mpr ⟨by decide, by decide⟩) dX12_isBroken_12 ?_
  refine lv_topi (fun z35 ez35 => ?_)
  have jz35 : z35.toInt = mo_R g27 (3) := mo_rd ez35 (show (3 : Int32).toInt = (3) from by decide)
  have kz35 := hI.k3
  refine lv_icmp_ge (tgt := 81) hx hb dX12_isBroken_13 (by decide) (fun c36 => ?_) (fun c36 => ?_)
  · have ic36 : w28.toInt ≥ z35.toInt := zi_ge rfl rfl c36
    refine lv_iload_n hx hb dX12_isBroken_81 rfl (lv_at hl 1 rfl) ?_
    exact W.zret (v := w29) hx hb hr (zi_narZ (by omega) (by omega)) (fun t ht hW => ⟨w29, rfl, ⟨(by first | decide | omega), trivial⟩, ht⟩) (fun _ h => by cases h) dX12_isBroken_82
  · have ic36 : w28.toInt < z35.toInt := zi_gef rfl rfl c36
    refine lv_sipush (v := 487) hx hb dX12_isBroken_16 (by decide) ?_
    refine lv_iconst (v := 3) hx hb dX12_isBroken_19 (by decide) ?_
    refine lv_iload hx hb dX12_isBroken_20 (lv_at hl 0 rfl) ?_
    refine lv_imul hx hb dX12_isBroken_22 ?_
    refine lv_topi (fun z37 ez37 => ?_)
    have iz37 : z37.toInt = 3 * w28.toInt := zi_mul ez37 rfl rfl (by omega) (by omega)
    refine lv_iadd hx hb dX12_isBroken_23 ?_
    refine lv_topi (fun z38 ez38 => ?_)
    have iz38 : z38.toInt = 487 + z37.toInt := zi_add ez38 rfl rfl (by omega) (by omega)
    refine lv_istore (lv' := [(5, .int z38), (4, .int w28), (3, .int w29), (0, .ref h0), (1, .int v), (2, .int u)]) hx hb dX12_isBroken_24 hl (by decide) rfl (fun ls hl => ?_)
    refine lv_iload_n hx hb dX12_isBroken_26 rfl (lv_at hl 2 rfl) ?_
    refine lv_if_ne (tgt := 69) hx hb dX12_isBroken_27 (by decide) (fun c39 => ?_) (fun c39 => ?_)
    · have ic39 : w29.toInt ≠ 0 := zi_ne rfl rfl c39
      replace ic39 : 1 ≤ w29.toInt := by omega
      refine lv_iconst (v := 1) hx hb dX12_isBroken_69 (by decide) ?_
      refine lv_goto (tgt := 74) hx hb dX12_isBroken_70 (by decide) ?_
      refine lv_istore_n (lv' := [(3, .int 1), (5, .int z38), (4, .int w28), (0, .ref h0), (1, .int v), (2, .int u)]) hx hb dX12_isBroken_74 rfl hl (by decide) rfl (fun ls hl => ?_)
      obtain ⟨z40, ez40⟩ : ∃ y : Int32, y = w28 + 1 := ⟨_, rfl⟩
      refine lv_iinc (v := z40) (lv' := [(4, .int z40), (3, .int 1), (5, .int z38), (0, .ref h0), (1, .int v), (2, .int u)]) hx hb dX12_isBroken_75 hl (k := 2) rfl (by rw [ez40]; rfl) (by decide) rfl (fun ls hl => ?_)
      have iz40 : z40.toInt = w28.toInt + 1 := zi_add ez40 rfl rfl (by omega) (by omega)
      refine lv_goto (tgt := 5) hx hb dX12_isBroken_78 (by decide) ?_
      exact ih30 _ _ _ _ (by rw [hn31]; omega) ⟨z40, 1, rfl, (by have : (1 : Int32).toInt = 1 := rfl; omega), (by have : (1 : Int32).toInt = 1 := rfl; omega), rfl, rfl, lv_sub hl [0, 1, 3, 4, 5] rfl⟩
    · have ic39 : w29.toInt = 0 := zi_nef rfl rfl c39
      refine lv_aload_n hx hb dX12_isBroken_30 rfl (lv_at hl 3 rfl) ?_
      refine va_get (D := (dC, dI)) (ci := 12) (v := .ref (ρ h0 2)) (C := RX12) (T := TX12) (N := 53) hx hb hts hfX12 hown hK hP q33 eq33 rfl 2 (by decide) (hts (.fieldLink RX12 7 "ColdShipsModel" "row" "[I") wa_148) (fun _ h9 => h9) rfl dX12_isBroken_31 ?_
      refine lv_iload hx hb dX12_isBroken_34 (lv_at hl 0 rfl) ?_
      refine va_iald hx hb hK hP q34 0 eq34 rfl (vp_in_iff.mpr ⟨by omega, by omega⟩) dX12_isBroken_36 ?_
      refine lv_topi (fun z41 ez41 => ?_)
      refine lv_iload_n hx hb dX12_isBroken_37 rfl (lv_at hl 4 rfl) ?_
      refine lv_icmp_ne (tgt := 73) hx hb dX12_isBroken_38 (by decide) (fun c42 => ?_) (fun c42 => ?_)
      · have ic42 : z41.toInt ≠ v.toInt := zi_ne rfl rfl c42
        refine lv_iconst (v := 0) hx hb dX12_isBroken_73 (by decide) ?_
        refine lv_istore_n (lv' := [(3, .int 0), (5, .int z38), (4, .int w28), (0, .ref h0), (1, .int v), (2, .int u)]) hx hb dX12_isBroken_74 rfl hl (by decide) rfl (fun ls hl => ?_)
        obtain ⟨z43, ez43⟩ : ∃ y : Int32, y = w28 + 1 := ⟨_, rfl⟩
        refine lv_iinc (v := z43) (lv' := [(4, .int z43), (3, .int 0), (5, .int z38), (0, .ref h0), (1, .int v), (2, .int u)]) hx hb dX12_isBroken_75 hl (k := 2) rfl (by rw [ez43]; rfl) (by decide) rfl (fun ls hl => ?_)
        have iz43 : z43.toInt = w28.toInt + 1 := zi_add ez43 rfl rfl (by omega) (by omega)
        refine lv_goto (tgt := 5) hx hb dX12_isBroken_78 (by decide) ?_
        exact ih30 _ _ _ _ (by rw [hn31]; omega) ⟨z43, 0, rfl, (by have : (0 : Int32).toInt = 0 := rfl; omega), (by have : (0 : Int32).toInt = 0 := rfl; omega), rfl, rfl, lv_sub hl [0, 1, 3, 4, 5] rfl⟩
      · have ic42 : z41.toInt = v.toInt := zi_nef rfl rfl c42
        refine lv_iload_n hx hb dX12_isBroken_41 rfl (lv_at hl 5 rfl) ?_
        refine lv_i2l hx hb dX12_isBroken_42 rfl ?_
        refine lv_aload_n hx hb dX12_isBroken_43 rfl (lv_at hl 3 rfl) ?_
        refine va_get (D := (dC, dI)) (ci := 12) (v := .ref (ρ h0 2)) (C := RX12) (T := TX12) (N := 53) hx hb hts hfX12 hown hK hP q33 eq33 rfl 2 (by decide) (hts (.fieldLink RX12 7 "ColdShipsModel" "row" "[I") wa_148) (fun _ h9 => h9) rfl dX12_isBroken_44 ?_
        refine lv_iload hx hb dX12_isBroken_47 (lv_at hl 0 rfl) ?_
        refine lv_iconst (v := 1) hx hb dX12_isBroken_49 (by decide) ?_
        refine lv_iadd hx hb dX12_isBroken_50 ?_
        refine lv_topi (fun z44 ez44 => ?_)
        have iz44 : z44.toInt = z38.toInt + 1 := zi_add ez44 rfl rfl (by omega) (by omega)
        refine va_iald hx hb hK hP q34 0 eq34 rfl (vp_in_iff.mpr ⟨by omega, by omega⟩) dX12_isBroken_51 ?_
        refine lv_topi (fun z45 ez45 => ?_)
        refine lv_i2l hx hb dX12_isBroken_52 rfl ?_
        refine lv_aload_n hx hb dX12_isBroken_53 rfl (lv_at hl 3 rfl) ?_
        refine va_get (D := (dC, dI)) (ci := 12) (v := .ref (ρ h0 2)) (C := RX12) (T := TX12) (N := 53) hx hb hts hfX12 hown hK hP q33 eq33 rfl 2 (by decide) (hts (.fieldLink RX12 7 "ColdShipsModel" "row" "[I") wa_148) (fun _ h9 => h9) rfl dX12_isBroken_54 ?_
        refine lv_iload hx hb dX12_isBroken_57 (lv_at hl 0 rfl) ?_
        refine lv_iconst (v := 2) hx hb dX12_isBroken_59 (by decide) ?_
        refine lv_iadd hx hb dX12_isBroken_60 ?_
        refine lv_topi (fun z46 ez46 => ?_)
        have iz46 : z46.toInt = z38.toInt + 2 := zi_add ez46 rfl rfl (by omega) (by omega)
        refine va_iald hx hb hK hP q34 0 eq34 rfl (vp_in_iff.mpr ⟨by omega, by omega⟩) dX12_isBroken_61 ?_
        refine lv_topi (fun z47 ez47 => ?_)
        refine lv_i2l hx hb dX12_isBroken_62 rfl ?_
        refine pz_calli (va_runS (As := [.long u.toInt64, .long z45.toInt64, .long z47.toInt64]) (rest := []) ⟨hx, hb, hml, hown, hts⟩ (t_X12_in l dC dI _ u.toInt64 z45.toInt64 z47.toInt64 (u.toInt) (z45.toInt) (z47.toInt) (Int32.toInt_toInt64 u) (Int32.toInt_toInt64 z45) (Int32.toInt_toInt64 z47)) (va_cwS 3 hts gX12_isBroken_X12_in rfl rfl rfl pd_X12_in ⟨Nat.le_of_ble_eq_true rfl, Nat.le_of_ble_eq_true rfl⟩) ⟨pz_blind, pz_pre pz_P0 (hK.sub (tys' := []) [] rfl) (pz_D0 (A := fun _ => True)) hN⟩ rfl rfl hl.1 rfl (lv_room (Nat.le_of_ble_eq_true rfl)) dX12_isBroken_63 ⟨Nat.le_of_ble_eq_true rfl, Nat.le_of_ble_eq_true rfl⟩) (fun r48 hw49 => ?_)
        obtain ⟨hw49r, hw49p⟩ := hw49
        refine lv_if_eq (tgt := 73) hx hb dX12_isBroken_66 (by decide) (fun c50 => ?_) (fun c50 => ?_)
        · have ic50 : r48.toInt = 0 := zi_eq rfl rfl c50
          clear hw49r ic50
          refine lv_iconst (v := 0) hx hb dX12_isBroken_73 (by decide) ?_
          refine lv_istore_n (lv' := [(3, .int 0), (5, .int z38), (4, .int w28), (0, .ref h0), (1, .int v), (2, .int u)]) hx hb dX12_isBroken_74 rfl hl (by decide) rfl (fun ls hl => ?_)
          obtain ⟨z51, ez51⟩ : ∃ y : Int32, y = w28 + 1 := ⟨_, rfl⟩
          refine lv_iinc (v := z51) (lv' := [(4, .int z51), (3, .int 0), (5, .int z38), (0, .ref h0), (1, .int v), (2, .int u)]) hx hb dX12_isBroken_75 hl (k := 2) rfl (by rw [ez51]; rfl) (by decide) rfl (fun ls hl => ?_)
          have iz51 : z51.toInt = w28.toInt + 1 := zi_add ez51 rfl rfl (by omega) (by omega)
          refine lv_goto (tgt := 5) hx hb dX12_isBroken_78 (by decide) ?_
          exact ih30 _ _ _ _ (by rw [hn31]; omega) ⟨z51, 0, rfl, (by have : (0 : Int32).toInt = 0 := rfl; omega), (by have : (0 : Int32).toInt = 0 := rfl; omega), rfl, rfl, lv_sub hl [0, 1, 3, 4, 5] rfl⟩
        · have ic50 : r48.toInt ≠ 0 := zi_eqf rfl rfl c50
          replace ic50 : 1 ≤ r48.toInt := by omega
          have p52 : (z45.toInt) ≤ (u.toInt) ∧ (u.toInt) ≤ (z47.toInt) := (tp_cond.yes hw49p) (by omega)
          clear hw49r ic50
          refine lv_iconst (v := 1) hx hb dX12_isBroken_69 (by decide) ?_
          refine lv_goto (tgt := 74) hx hb dX12_isBroken_70 (by decide) ?_
          refine lv_istore_n (lv' := [(3, .int 1), (5, .int z38), (4, .int w28), (0, .ref h0), (1, .int v), (2, .int u)]) hx hb dX12_isBroken_74 rfl hl (by decide) rfl (fun ls hl => ?_)
          obtain ⟨z53, ez53⟩ : ∃ y : Int32, y = w28 + 1 := ⟨_, rfl⟩
          refine lv_iinc (v := z53) (lv' := [(4, .int z53), (3, .int 1), (5, .int z38), (0, .ref h0), (1, .int v), (2, .int u)]) hx hb dX12_isBroken_75 hl (k := 2) rfl (by rw [ez53]; rfl) (by decide) rfl (fun ls hl => ?_)
          have iz53 : z53.toInt = w28.toInt + 1 := zi_add ez53 rfl rfl (by omega) (by omega)
          refine lv_goto (tgt := 5) hx hb dX12_isBroken_78 (by decide) ?_
          exact ih30 _ _ _ _ (by rw [hn31]; omega) ⟨z53, 1, rfl, (by have : (1 : Int32).toInt = 1 := rfl; omega), (by have : (1 : Int32).toInt = 1 := rfl; omega), rfl, rfl, lv_sub hl [0, 1, 3, 4, 5] rfl⟩
set_option maxHeartbeats 4000000 in
set_option maxRecDepth 100000 in
theorem t_X12_beginOrder (l : Launch) (dC : Nat → ClassId) (dI : Nat → Nat → Nat) (sz : Nat) (κ : Nat → ClassId) (Θ : Nat → Option Int) (τ ν : Nat → Nat) (ρ : Nat → Nat → Nat) (L : List Nat) (f : Nat → va_E) (hG : tp_G τ ν ρ L) (hT : tp_T (mo_O κ Θ) κ τ ν ρ f) (h0 : Nat) (us : Int32) (x : Int) (b : Int) (qs : Int) (ht_h0 : τ h0 = 13) (hL_us : us.toInt = 547 + 84 * qs) (hq_us : 0 ≤ qs ∧ qs ≤ 5) (hbb : 0 ≤ b ∧ b ≤ 1000) (hJ : mo_RI x b (mo_R (mo_i (f (ρ h0 2))))) (hn1 : qs < (mo_R (mo_i (f (ρ h0 2)))) (1)) : Met l yX12_beginOrder wqX12_beginOrder ({ frames := 2, cells := 0, slots := 0, locals := 400 }) (va_Pc [.ref h0, .int us] (pz_B dC dI (tp_K κ) (va_pl L f) sz)) (va_Qv (fun (f1 : Nat → va_E) => tp_T (mo_O κ Θ) κ τ ν ρ f1 ∧ tp_F τ [32] f f1 ∧ mo_RI x b (mo_R (mo_i (f1 (ρ h0 2)))) ∧ mo_KN (fun k => False) (mo_R (mo_i (f (ρ h0 2)))) (mo_R (mo_i (f1 (ρ h0 2)))) ∧ (mo_R (mo_i (f1 (ρ h0 2)))) (1) = (mo_R (mo_i (f (ρ h0 2)))) (1) ∧ (mo_R (mo_i (f1 (ρ h0 2)))) (11) = (mo_R (mo_i (f (ρ h0 2)))) (11) ∧ (mo_R (mo_i (f1 (ρ h0 2)))) (547 + 84 * qs + 10) = (mo_R (mo_i (f (ρ h0 2)))) (547 + 84 * qs + 10)) (fun (f1 : Nat → va_E) (t : State) => pz_E dC dI (tp_K κ) (va_A (va_pl L f) sz) (va_pl L f1) t) (va_A (va_pl L f) sz)) 0 0 (va_A (va_pl L f) sz) := by
  refine Met.ofW (cc := cX12_beginOrder) (maxL := 3) (ret := none) (by decide) rfl ?_
  intro p e s m args below meth c s₁ B hml hv
  obtain ⟨rfl, hsz, hP, hK, hD0, hN⟩ := hv
  have hx := B.exec
  have hb := B.bytes
  have hr := B.returns
  have hts := fun (w : Cond) (h : w ∈ WALL) => atoms_spec (ws := wqX12_beginOrder) B.pre w (List.mem_cons_of_mem _ h)
  have hown : s.vm.findClass RX12 = some m.cls := findClass_of_methodNamed B.named
  have hlocks := B.notSynchronized
  subst hsz
  have hD := hD0.self (sz := s.heap.size)
  generalize hAe : va_A (va_pl L f) s.heap.size = A at hD ⊢
  have hA : ∀ q : Nat, s.heap.size ≤ q → A q := fun q h => by rw [← hAe]; exact Or.inr h
  have hS : va_S A s.heap s.heap [] := va_S.rf
  have hR : tp_F τ [32] f f := tp_F.rf
  have hl := lv_entry ([.ref h0, .int us]) (n := 3) (Nat.le_of_ble_eq_true rfl)
  rw [lg_entry_eq]
  generalize (lg_sl ([.ref h0, .int us]) ++ List.replicate (3 - (lg_sl ([.ref h0, .int us])).length) Slot.unset).toArray = ls at hl ⊢
  have hl : lv_has ls 3 [(0, .ref h0), (1, .int us)] := hl
  refine tgk_13 hG ht_h0 (fun y1 y2 y3 y4 y5 y6 y7 y8 y9 y10 y11 y12 y13 y14 y15 y16 y17 y18 y19 y20 y21 y22 y23 y24 y25 => ?_)
  refine tpk_32 hT y1 (fun g27 hf_o26 => ?_)
  have hI : mo_RI x b (mo_R g27) := by have q9 := hJ; rw [hf_o26, mo_i1] at q9; exact q9
  rw [hf_o26, mo_i1] at hn1
  obtain ⟨n1, en1⟩ : ∃ n : Int, n = mo_R g27 (1) := ⟨_, rfl⟩
  have kn1 := hI.k1
  obtain ⟨n11, en11⟩ : ∃ n : Int, n = mo_R g27 (11) := ⟨_, rfl⟩
  have kn11 := hI.k11
  obtain ⟨ns10, ens10⟩ : ∃ n : Int, n = mo_R g27 (547 + 84 * qs + 10) := ⟨_, rfl⟩
  have hKN : mo_KN (fun k => False) (mo_R g27) (mo_R g27) := mo_KN.rf
  refine lv_aload_n hx hb dX12_beginOrder_0 rfl (lv_at hl 0 rfl) ?_
  refine tpk_13 hT ht_h0 (fun o28_x0 o28_x1 o28_x7 o28_x9 o28_x10 o28_x11 o28_x12 o28_x13 o28_x14 o28_x15 o28_x16 o28_x17 o28_x18 o28_x19 o28_x20 o28_x22 o28_x25 o28_x28 o28_x29 o28_x32 o28_x33 o28_x34 o28_x35 o28_x36 o28_x37 o28_x38 o28_x47 o28_x48 hf_o28 ro28_0 ro28_1 ro28_2 ro28_3 ro28_4 ro28_5 ro28_6 ro28_7 ro28_8 ro28_9 ro28_10 ro28_11 ro28_12 ro28_13 ro28_14 => ?_)
  refine tpk_pos (tp_in hG ht_h0 (by decide)) hf_o28 (fun q29 eq29 => ?_)
  refine va_get (D := (dC, dI)) (ci := 12) (v := .ref (ρ h0 2)) (C := RX12) (T := TX12) (N := 53) hx hb hts hfX12 hown hK hP q29 eq29 rfl 2 (by decide) (hts (.fieldLink RX12 7 "ColdShipsModel" "row" "[I") wa_148) (fun _ h9 => h9) rfl dX12_beginOrder_1 ?_
  refine lv_iload_n hx hb dX12_beginOrder_4 rfl (lv_at hl 1 rfl) ?_
  refine lv_bipush (v := 10) hx hb dX12_beginOrder_5 (by decide) ?_
  refine lv_iadd hx hb dX12_beginOrder_7 ?_
  refine lv_topi (fun z30 ez30 => ?_)
  have iz30 : z30.toInt = us.toInt + 10 := zi_add ez30 rfl rfl (by omega) (by omega)
  refine tpk_pos (tp_in hG y1 (by decide)) hf_o26 (fun q31 eq31 => ?_)
  refine va_iald hx hb hK hP q31 0 eq31 rfl (vp_in_iff.mpr ⟨by omega, by omega⟩) dX12_beginOrder_8 ?_
  refine lv_topi (fun z32 ez32 => ?_)
  have jz32 : z32.toInt = mo_R g27 (547 + 84 * qs + 10) := mo_rd ez32 (by omega)
  have kz32 := hI.SO (s := qs) (by omega) (by omega)
  have vz32 : z32.toInt = ns10 := jz32.trans ens10.symm
  refine tp_join 43 (fun H locs ls stk => ∃ w33 : Int32, stk = [.int w33] ∧ (0 ≤ w33.toInt ∧ w33.toInt ≤ 1) ∧ va_P (dC, dI) vwCl (va_pl L f) H ∧ va_D A (va_pl L f) ∧ va_S A s.heap H locs ∧ lv_has ls 3 [(0, .ref h0), (1, .int us)]) ?_ (fun hj34 => ?_)
  · intro H locs ls stk hI
    refine Exists.elim hI (fun w33 hE90 => tn_6 hE90 (fun e90 rw33 hP hD hS hl => ?_))
    clear hE90 hI; subst e90
    refine lv_istore_n (lv' := [(2, .int w33), (0, .ref h0), (1, .int us)]) hx hb dX12_beginOrder_43 rfl hl (by decide) rfl (fun ls hl => ?_)
    refine lv_aload_n hx hb dX12_beginOrder_44 rfl (lv_at hl 1 rfl) ?_
    refine va_get (D := (dC, dI)) (ci := 12) (v := .ref (ρ h0 2)) (C := RX12) (T := TX12) (N := 53) hx hb hts hfX12 hown hK hP q29 eq29 rfl 2 (by decide) (hts (.fieldLink RX12 7 "ColdShipsModel" "row" "[I") wa_148) (fun _ h9 => h9) rfl dX12_beginOrder_45 ?_
    refine lv_iload_n hx hb dX12_beginOrder_48 rfl (lv_at hl 2 rfl) ?_
    refine lv_bipush (v := 11) hx hb dX12_beginOrder_49 (by decide) ?_
    refine lv_iadd hx hb dX12_beginOrder_51 ?_
    refine lv_topi (fun z35 ez35 => ?_)
    have iz35 : z35.toInt = us.toInt + 11 := zi_add ez35 rfl rfl (by omega) (by omega)
    refine lv_iload_n hx hb dX12_beginOrder_52 rfl (lv_at hl 0 rfl) ?_
    refine lv_if_eq (tgt := 70) hx hb dX12_beginOrder_53 (by decide) (fun c36 => ?_) (fun c36 => ?_)
    · have ic36 : w33.toInt = 0 := zi_eq rfl rfl c36
      refine lv_iconst (v := 0) hx hb dX12_beginOrder_70 (by decide) ?_
      refine va_iast hx hb hK hP hD hS q31 0 eq31 rfl (vp_in_iff.mpr ⟨by omega, by omega⟩) dX12_beginOrder_71 (tp_k (.inl (κ 0, 12967, .inl (upd g27 z35.toNatClampNeg (0 : Int32)))) hD (tp_in hG y1 (by decide)) eq31 (fun f37 H locs hP hD hS g39 k38 => ?_))
      have hT := hT.up y1 g39 k38 tp_o32
      have hR := hR.up y1 (by decide) k38
      have hU : mo_U (mo_R g27) (mo_R (upd g27 z35.toNatClampNeg (0 : Int32))) (547 + 84 * qs + 11) (0) := mo_up (by omega) (show (0 : Int32).toInt = 0 from rfl) (by omega)
      generalize (upd g27 z35.toNatClampNeg (0 : Int32)) = g40 at g39 hU
      have hI := mo_w_sfree hI hU qs 11 (by omega) (by omega) (by omega)
      have hKN := hKN.up hU (Or.inl (by omega))
      have pn41 : mo_R g40 (1) = n1 := (hU.ne (by omega) (by omega)).trans en1.symm
      have pn42 : mo_R g40 (11) = n11 := (hU.ne (by omega) (by omega)).trans en11.symm
      have pn43 : mo_R g40 (547 + 84 * qs + 10) = ns10 := (hU.ne (by omega) (by omega)).trans ens10.symm
      exact W.vret hx hb hr (fun t ht hW => ⟨⟨f37, rfl, ⟨hT, hR, ⟨(by rw [g39, mo_i1]; exact hI), (by rw [g39, mo_i1, hf_o26, mo_i1]; exact hKN), (by first | (simp only [g39, hf_o26, mo_i1]; omega) | (simp only [g39, hf_o26, mo_i1]; trivial) | (simp only [g39, hf_o26, mo_i1]; done) | omega)⟩⟩, by rw [ht]; exact hP, va_K.moved hW.alike hK, hD⟩, hS.F ht⟩) hS.2.2 dX12_beginOrder_72
    · have ic36 : w33.toInt ≠ 0 := zi_eqf rfl rfl c36
      replace ic36 : 1 ≤ w33.toInt := by omega
      refine lv_aload_n hx hb dX12_beginOrder_56 rfl (lv_at hl 1 rfl) ?_
      refine va_get (D := (dC, dI)) (ci := 12) (v := .ref (ρ h0 2)) (C := RX12) (T := TX12) (N := 53) hx hb hts hfX12 hown hK hP q29 eq29 rfl 2 (by decide) (hts (.fieldLink RX12 7 "ColdShipsModel" "row" "[I") wa_148) (fun _ h9 => h9) rfl dX12_beginOrder_57 ?_
      refine lv_iload_n hx hb dX12_beginOrder_60 rfl (lv_at hl 2 rfl) ?_
      refine lv_bipush (v := 44) hx hb dX12_beginOrder_61 (by decide) ?_
      refine lv_iadd hx hb dX12_beginOrder_63 ?_
      refine lv_topi (fun z44 ez44 => ?_)
      have iz44 : z44.toInt = us.toInt + 44 := zi_add ez44 rfl rfl (by omega) (by omega)
      refine lv_iconst (v := 1) hx hb dX12_beginOrder_64 (by decide) ?_
      refine lv_iadd hx hb dX12_beginOrder_65 ?_
      refine lv_topi (fun z45 ez45 => ?_)
      have iz45 : z45.toInt = z44.toInt + 1 := zi_add ez45 rfl rfl (by omega) (by omega)
      refine va_iald hx hb hK hP q31 0 eq31 rfl (vp_in_iff.mpr ⟨by omega, by omega⟩) dX12_beginOrder_66 ?_
      refine lv_topi (fun z46 ez46 => ?_)
      refine lv_goto (tgt := 71) hx hb dX12_beginOrder_67 (by decide) ?_
      refine va_iast hx hb hK hP hD hS q31 0 eq31 rfl (vp_in_iff.mpr ⟨by omega, by omega⟩) dX12_beginOrder_71 (tp_k (.inl (κ 0, 12967, .inl (upd g27 z35.toNatClampNeg z46))) hD (tp_in hG y1 (by decide)) eq31 (fun f47 H locs hP hD hS g49 k48 => ?_))
      have hT := hT.up y1 g49 k48 tp_o32
      have hR := hR.up y1 (by decide) k48
      have hU : mo_U (mo_R g27) (mo_R (upd g27 z35.toNatClampNeg z46)) (547 + 84 * qs + 11) (z46.toInt) := mo_up (by omega) (rfl : z46.toInt = _) (by omega)
      generalize (upd g27 z35.toNatClampNeg z46) = g50 at g49 hU
      have hI := mo_w_sfree hI hU qs 11 (by omega) (by omega) (by omega)
      have hKN := hKN.up hU (Or.inl (by omega))
      have pn51 : mo_R g50 (1) = n1 := (hU.ne (by omega) (by omega)).trans en1.symm
      have pn52 : mo_R g50 (11) = n11 := (hU.ne (by omega) (by omega)).trans en11.symm
      have pn53 : mo_R g50 (547 + 84 * qs + 10) = ns10 := (hU.ne (by omega) (by omega)).trans ens10.symm
      exact W.vret hx hb hr (fun t ht hW => ⟨⟨f47, rfl, ⟨hT, hR, ⟨(by rw [g49, mo_i1]; exact hI), (by rw [g49, mo_i1, hf_o26, mo_i1]; exact hKN), (by first | (simp only [g49, hf_o26, mo_i1]; omega) | (simp only [g49, hf_o26, mo_i1]; trivial) | (simp only [g49, hf_o26, mo_i1]; done) | omega)⟩⟩, by rw [ht]; exact hP, va_K.moved hW.alike hK, hD⟩, hS.F ht⟩) hS.2.2 dX12_beginOrder_72
  · refine lv_if_le (tgt := 42) hx hb dX12_beginOrder_9 (by decide) (fun c54 => ?_) (fun c54 => ?_)
    · have ic54 : z32.toInt ≤ 0 := zi_le rfl rfl c54
      refine lv_iconst (v := 0) hx hb dX12_beginOrder_42 (by decide) ?_
      exact hj34 _ _ _ _ ⟨0, rfl, (by have : (0 : Int32).toInt = 0 := rfl; omega), hP, hD, hS, lv_sub hl [0, 1] rfl⟩
    · have ic54 : z32.toInt > 0 := zi_lef rfl rfl c54
      refine lv_aload_n hx hb dX12_beginOrder_12 rfl (lv_at hl 0 rfl) ?_
      refine va_get (D := (dC, dI)) (ci := 12) (v := .ref (ρ h0 2)) (C := RX12) (T := TX12) (N := 53) hx hb hts hfX12 hown hK hP q29 eq29 rfl 2 (by decide) (hts (.fieldLink RX12 7 "ColdShipsModel" "row" "[I") wa_148) (fun _ h9 => h9) rfl dX12_beginOrder_13 ?_
      refine lv_iload_n hx hb dX12_beginOrder_16 rfl (lv_at hl 1 rfl) ?_
      refine lv_bipush (v := 44) hx hb dX12_beginOrder_17 (by decide) ?_
      refine lv_iadd hx hb dX12_beginOrder_19 ?_
      refine lv_topi (fun z55 ez55 => ?_)
      have iz55 : z55.toInt = us.toInt + 44 := zi_add ez55 rfl rfl (by omega) (by omega)
      refine va_iald hx hb hK hP q31 0 eq31 rfl (vp_in_iff.mpr ⟨by omega, by omega⟩) dX12_beginOrder_20 ?_
      refine lv_topi (fun z56 ez56 => ?_)
      refine lv_iconst (v := 1) hx hb dX12_beginOrder_21 (by decide) ?_
      refine lv_icmp_eq (tgt := 38) hx hb dX12_beginOrder_22 (by decide) (fun c57 => ?_) (fun c57 => ?_)
      · have ic57 : z56.toInt = 1 := zi_eq rfl rfl c57
        refine lv_iconst (v := 1) hx hb dX12_beginOrder_38 (by decide) ?_
        refine lv_goto (tgt := 43) hx hb dX12_beginOrder_39 (by decide) ?_
        exact hj34 _ _ _ _ ⟨1, rfl, (by have : (1 : Int32).toInt = 1 := rfl; omega), hP, hD, hS, lv_sub hl [0, 1] rfl⟩
      · have ic57 : z56.toInt ≠ 1 := zi_eqf rfl rfl c57
        refine lv_aload_n hx hb dX12_beginOrder_25 rfl (lv_at hl 0 rfl) ?_
        refine va_get (D := (dC, dI)) (ci := 12) (v := .ref (ρ h0 2)) (C := RX12) (T := TX12) (N := 53) hx hb hts hfX12 hown hK hP q29 eq29 rfl 2 (by decide) (hts (.fieldLink RX12 7 "ColdShipsModel" "row" "[I") wa_148) (fun _ h9 => h9) rfl dX12_beginOrder_26 ?_
        refine lv_iload_n hx hb dX12_beginOrder_29 rfl (lv_at hl 1 rfl) ?_
        refine lv_bipush (v := 44) hx hb dX12_beginOrder_30 (by decide) ?_
        refine lv_iadd hx hb dX12_beginOrder_32 ?_
        refine lv_topi (fun z58 ez58 => ?_)
        have iz58 : z58.toInt = us.toInt + 44 := zi_add ez58 rfl rfl (by omega) (by omega)
        refine va_iald hx hb hK hP q31 0 eq31 rfl (vp_in_iff.mpr ⟨by omega, by omega⟩) dX12_beginOrder_33 ?_
        refine lv_topi (fun z59 ez59 => ?_)
        refine lv_iconst (v := 2) hx hb dX12_beginOrder_34 (by decide) ?_
        refine lv_icmp_ne (tgt := 42) hx hb dX12_beginOrder_35 (by decide) (fun c60 => ?_) (fun c60 => ?_)
        · have ic60 : z59.toInt ≠ 2 := zi_ne rfl rfl c60
          refine lv_iconst (v := 0) hx hb dX12_beginOrder_42 (by decide) ?_
          exact hj34 _ _ _ _ ⟨0, rfl, (by have : (0 : Int32).toInt = 0 := rfl; omega), hP, hD, hS, lv_sub hl [0, 1] rfl⟩
        · have ic60 : z59.toInt = 2 := zi_nef rfl rfl c60
          refine lv_iconst (v := 1) hx hb dX12_beginOrder_38 (by decide) ?_
          refine lv_goto (tgt := 43) hx hb dX12_beginOrder_39 (by decide) ?_
          exact hj34 _ _ _ _ ⟨1, rfl, (by have : (1 : Int32).toInt = 1 := rfl; omega), hP, hD, hS, lv_sub hl [0, 1] rfl⟩
