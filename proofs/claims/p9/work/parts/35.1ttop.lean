section
set_option maxHeartbeats 4000000 in
set_option maxRecDepth 100000 in
theorem t_X11_refuse (l : Launch) (dC : Nat → ClassId) (dI : Nat → Nat → Nat) (sz : Nat) (Ω : Nat → Nat → (Nat → Nat) → va_E → Prop) (κ : Nat → ClassId) (τ ν : Nat → Nat) (ρ : Nat → Nat → Nat) (L : List Nat) (f : Nat → va_E) (hG : tp_G τ ν ρ L) (hT : tp_T Ω κ τ ν ρ f) (h0 : Nat) (v : Int32) (ht_h0 : τ h0 = 12) : Met l yX11_refuse wqX11_refuse ({ frames := 2, cells := 0, slots := 0, locals := 400 }) (va_Pc [.ref h0, .int v] (pz_B dC dI (tp_K κ) (va_pl L f) sz)) (va_Qi (fun (r : Int32) (f1 : Nat → va_E) => tp_T Ω κ τ ν ρ f1 ∧ tp_F τ [12] f f1 ∧ True ∧ r = v) (fun (f1 : Nat → va_E) (t : State) => pz_E dC dI (tp_K κ) (va_A (va_pl L f) sz) (va_pl L f1) t) (va_A (va_pl L f) sz)) 0 0 (va_A (va_pl L f) sz) := by
  refine Met.ofW (cc := cX11_refuse) (maxL := 2) (ret := some .int) (by decide) rfl ?_
  intro p e s m args below meth c s₁ B hml hv
  obtain ⟨rfl, hsz, hP, hK, hD0, hN⟩ := hv
  have hx := B.exec
  have hb := B.bytes
  have hr := B.returns
  have hts := fun (w : Cond) (h : w ∈ WALL) => atoms_spec (ws := wqX11_refuse) B.pre w (List.mem_cons_of_mem _ h)
  have hown : s.vm.findClass RX11 = some m.cls := findClass_of_methodNamed B.named
  have hlocks := B.notSynchronized
  subst hsz
  have hD := hD0.self (sz := s.heap.size)
  generalize hAe : va_A (va_pl L f) s.heap.size = A at hD ⊢
  have hA : ∀ q : Nat, s.heap.size ≤ q → A q := fun q h => by rw [← hAe]; exact Or.inr h
  have hS : va_S A s.heap s.heap [] := va_S.rf
  have hR : tp_F τ [12] f f := tp_F.rf
  have hl := lv_entry ([.ref h0, .int v]) (n := 2) (Nat.le_of_ble_eq_true rfl)
  rw [lg_entry_eq]
  generalize (lg_sl ([.ref h0, .int v]) ++ List.replicate (2 - (lg_sl ([.ref h0, .int v])).length) Slot.unset).toArray = ls at hl ⊢
  have hl : lv_has ls 2 [(0, .ref h0), (1, .int v)] := hl
  refine lv_aload_n hx hb dX11_refuse_0 rfl (lv_at hl 0 rfl) ?_
  refine lv_iload_n hx hb dX11_refuse_1 rfl (lv_at hl 1 rfl) ?_
  refine tgk_12 hG ht_h0 (fun y1 y1l y2 y3 y4 y5 y6 y7a y7b y7c => ?_)
  refine tpk_12 hT ht_h0 (fun o8_x6 hf_o8 => ?_)
  refine tpk_pos (tp_in hG ht_h0 (by decide)) hf_o8 (fun q9 eq9 => ?_)
  refine va_put (D := (dC, dI)) (ci := 11) (v := .int v) (ty := .int) (C := RX11) (T := TX11) (N := 7) hx hb hts hfX11 tyX11 tyX11_ok nmX11 hown hK hP hD hS q9 eq9 rfl 6 (by decide) (hts (.fieldLink RX11 354 "ColdShips" "refusal" "I") wa_187) (fun _ h9 => h9) rfl (tyX11_ok 6 (by decide)) rfl rfl (Nat.le_of_ble_eq_true rfl) dX11_refuse_2 (tp_k (.inr (11, [.ref (ρ h0 0), .ref (ρ h0 1), .ref (ρ h0 2), .ref (ρ h0 3), .ref (ρ h0 4), .ref (ρ h0 5), .int v])) hD (tp_in hG ht_h0 (by decide)) eq9 (fun f10 H locs hP hD hS g12 k11 => ?_))
  have hT := hT.up ht_h0 g12 k11 ⟨_, rfl⟩
  have hR := hR.up ht_h0 (by decide) k11
  refine lv_iload_n hx hb dX11_refuse_5 rfl (lv_at hl 1 rfl) ?_
  exact W.iret (v := v) hx hb hr (fun t ht hW => ⟨⟨v, f10, rfl, ⟨hT, hR, trivial, rfl⟩, by rw [ht]; exact hP, va_K.moved hW.alike hK, hD⟩, hS.F ht⟩) hS.2.2 dX11_refuse_6
set_option maxHeartbeats 4000000 in
set_option maxRecDepth 100000 in
theorem t_X11_accept (l : Launch) (dC : Nat → ClassId) (dI : Nat → Nat → Nat) (sz : Nat) (Ω : Nat → Nat → (Nat → Nat) → va_E → Prop) (κ : Nat → ClassId) (τ ν : Nat → Nat) (ρ : Nat → Nat → Nat) (L : List Nat) (f : Nat → va_E) (hG : tp_G τ ν ρ L) (hT : tp_T Ω κ τ ν ρ f) (h0 : Nat) (v : Int32) (ht_h0 : τ h0 = 12) : Met l yX11_accept wqX11_accept ({ frames := 2, cells := 0, slots := 0, locals := 400 }) (va_Pc [.ref h0, .int v] (pz_B dC dI (tp_K κ) (va_pl L f) sz)) (va_Qi (fun (r : Int32) (f1 : Nat → va_E) => tp_T Ω κ τ ν ρ f1 ∧ tp_F τ [12] f f1 ∧ True ∧ r = v) (fun (f1 : Nat → va_E) (t : State) => pz_E dC dI (tp_K κ) (va_A (va_pl L f) sz) (va_pl L f1) t) (va_A (va_pl L f) sz)) 0 0 (va_A (va_pl L f) sz) := by
  refine Met.ofW (cc := cX11_accept) (maxL := 2) (ret := some .int) (by decide) rfl ?_
  intro p e s m args below meth c s₁ B hml hv
  obtain ⟨rfl, hsz, hP, hK, hD0, hN⟩ := hv
  have hx := B.exec
  have hb := B.bytes
  have hr := B.returns
  have hts := fun (w : Cond) (h : w ∈ WALL) => atoms_spec (ws := wqX11_accept) B.pre w (List.mem_cons_of_mem _ h)
  have hown : s.vm.findClass RX11 = some m.cls := findClass_of_methodNamed B.named
  have hlocks := B.notSynchronized
  subst hsz
  have hD := hD0.self (sz := s.heap.size)
  generalize hAe : va_A (va_pl L f) s.heap.size = A at hD ⊢
  have hA : ∀ q : Nat, s.heap.size ≤ q → A q := fun q h => by rw [← hAe]; exact Or.inr h
  have hS : va_S A s.heap s.heap [] := va_S.rf
  have hR : tp_F τ [12] f f := tp_F.rf
  have hl := lv_entry ([.ref h0, .int v]) (n := 2) (Nat.le_of_ble_eq_true rfl)
  rw [lg_entry_eq]
  generalize (lg_sl ([.ref h0, .int v]) ++ List.replicate (2 - (lg_sl ([.ref h0, .int v])).length) Slot.unset).toArray = ls at hl ⊢
  have hl : lv_has ls 2 [(0, .ref h0), (1, .int v)] := hl
  refine lv_aload_n hx hb dX11_accept_0 rfl (lv_at hl 0 rfl) ?_
  refine lv_iconst (v := 0) hx hb dX11_accept_1 (by decide) ?_
  refine tgk_12 hG ht_h0 (fun y1 y1l y2 y3 y4 y5 y6 y7a y7b y7c => ?_)
  refine tpk_12 hT ht_h0 (fun o8_x6 hf_o8 => ?_)
  refine tpk_pos (tp_in hG ht_h0 (by decide)) hf_o8 (fun q9 eq9 => ?_)
  refine va_put (D := (dC, dI)) (ci := 11) (v := .int 0) (ty := .int) (C := RX11) (T := TX11) (N := 7) hx hb hts hfX11 tyX11 tyX11_ok nmX11 hown hK hP hD hS q9 eq9 rfl 6 (by decide) (hts (.fieldLink RX11 354 "ColdShips" "refusal" "I") wa_187) (fun _ h9 => h9) rfl (tyX11_ok 6 (by decide)) rfl rfl (Nat.le_of_ble_eq_true rfl) dX11_accept_2 (tp_k (.inr (11, [.ref (ρ h0 0), .ref (ρ h0 1), .ref (ρ h0 2), .ref (ρ h0 3), .ref (ρ h0 4), .ref (ρ h0 5), .int 0])) hD (tp_in hG ht_h0 (by decide)) eq9 (fun f10 H locs hP hD hS g12 k11 => ?_))
  have hT := hT.up ht_h0 g12 k11 ⟨_, rfl⟩
  have hR := hR.up ht_h0 (by decide) k11
  refine lv_iload_n hx hb dX11_accept_5 rfl (lv_at hl 1 rfl) ?_
  exact W.iret (v := v) hx hb hr (fun t ht hW => ⟨⟨v, f10, rfl, ⟨hT, hR, trivial, rfl⟩, by rw [ht]; exact hP, va_K.moved hW.alike hK, hD⟩, hS.F ht⟩) hS.2.2 dX11_accept_6
set_option maxHeartbeats 4000000 in
set_option maxRecDepth 100000 in
theorem t_X11_acceptOrFull (l : Launch) (dC : Nat → ClassId) (dI : Nat → Nat → Nat) (sz : Nat) (Ω : Nat → Nat → (Nat → Nat) → va_E → Prop) (κ : Nat → ClassId) (τ ν : Nat → Nat) (ρ : Nat → Nat → Nat) (L : List Nat) (f : Nat → va_E) (hG : tp_G τ ν ρ L) (hT : tp_T Ω κ τ ν ρ f) (h0 : Nat) (v : Int32) (ht_h0 : τ h0 = 12) : Met l yX11_acceptOrFull wqX11_acceptOrFull ({ frames := 3, cells := 0, slots := 0, locals := 800 }) (va_Pc [.ref h0, .int v] (pz_B dC dI (tp_K κ) (va_pl L f) sz)) (va_Qi (fun (r : Int32) (f1 : Nat → va_E) => tp_T Ω κ τ ν ρ f1 ∧ tp_F τ [12] f f1 ∧ True ∧ ((((v.toInt = -1) → r.toInt = -5) ∧ (¬ (v.toInt = -1) → r.toInt = v.toInt)))) (fun (f1 : Nat → va_E) (t : State) => pz_E dC dI (tp_K κ) (va_A (va_pl L f) sz) (va_pl L f1) t) (va_A (va_pl L f) sz)) 0 0 (va_A (va_pl L f) sz) := by
  refine Met.ofW (cc := cX11_acceptOrFull) (maxL := 2) (ret := some .int) (by decide) rfl ?_
  intro p e s m args below meth c s₁ B hml hv
  obtain ⟨rfl, hsz, hP, hK, hD0, hN⟩ := hv
  have hx := B.exec
  have hb := B.bytes
  have hr := B.returns
  have hts := fun (w : Cond) (h : w ∈ WALL) => atoms_spec (ws := wqX11_acceptOrFull) B.pre w (List.mem_cons_of_mem _ h)
  have hown : s.vm.findClass RX11 = some m.cls := findClass_of_methodNamed B.named
  have hlocks := B.notSynchronized
  subst hsz
  have hD := hD0.self (sz := s.heap.size)
  generalize hAe : va_A (va_pl L f) s.heap.size = A at hD ⊢
  have hA : ∀ q : Nat, s.heap.size ≤ q → A q := fun q h => by rw [← hAe]; exact Or.inr h
  have hS : va_S A s.heap s.heap [] := va_S.rf
  have hR : tp_F τ [12] f f := tp_F.rf
  have hl := lv_entry ([.ref h0, .int v]) (n := 2) (Nat.le_of_ble_eq_true rfl)
  rw [lg_entry_eq]
  generalize (lg_sl ([.ref h0, .int v]) ++ List.replicate (2 - (lg_sl ([.ref h0, .int v])).length) Slot.unset).toArray = ls at hl ⊢
  have hl : lv_has ls 2 [(0, .ref h0), (1, .int v)] := hl
  refine lv_iload_n hx hb dX11_acceptOrFull_0 rfl (lv_at hl 1 rfl) ?_
  refine lv_iconst (v := (-1)) hx hb dX11_acceptOrFull_1 (by decide) ?_
  refine lv_icmp_ne (tgt := 14) hx hb dX11_acceptOrFull_2 (by decide) (fun c1 => ?_) (fun c1 => ?_)
  · have ic1 : v.toInt ≠ (-1) := zi_ne rfl rfl c1
    refine lv_aload_n hx hb dX11_acceptOrFull_14 rfl (lv_at hl 0 rfl) ?_
    refine lv_iload_n hx hb dX11_acceptOrFull_15 rfl (lv_at hl 1 rfl) ?_
    refine tgk_12 hG ht_h0 (fun y2 y2l y3 y4 y5 y6 y7 y8a y8b y8c => ?_)
    refine tpk_12 hT ht_h0 (fun o9_x6 hf_o9 => ?_)
    refine tpk_pos (tp_in hG ht_h0 (by decide)) hf_o9 (fun q10 eq10 => ?_)
    have hFc := tp_fr hD hS hA
    refine va_calli (va_runV (As := [.int v]) (rest := []) ⟨hx, hb, hml, hown, hts⟩ (t_X11_accept l dC dI _ Ω κ τ ν ρ L f hG hT h0 v ht_h0) (cwV 1 hts gX11_acceptOrFull_X11_accept rfl rfl rfl ⟨rfl, pd_X11_accept⟩ ⟨Nat.le_of_ble_eq_true rfl, Nat.le_of_ble_eq_true rfl⟩) ⟨pz_blind, va_recv hK hP (ci := 11) (q0 := q10) rfl eq10, pz_pre hP hK hD hN⟩ rfl rfl hl.1 rfl (lv_room (Nat.le_of_ble_eq_true rfl)) dX11_acceptOrFull_16 ⟨Nat.le_of_ble_eq_true rfl, Nat.le_of_ble_eq_true rfl⟩) hS (fun q _ h => hFc q h) hFc (fun r11 f13 t H1 locs ht hvm hw12 hB hz1 hk1 hS => ?_)
    refine tn_4 hw12 (fun hT hF14 hw12r hw12p => ?_); clear hw12
    have hR := hR.then hF14 (by decide)
    have hP := hB.1; rw [ht] at hP; have hD := tp_ad f13 hD; clear hB hFc hz1 hk1; subst ht; generalize t.heap = H at hP hS ⊢
    have hw12pq : r11.toInt = v.toInt := by rw [hw12p]
    exact W.iret (v := r11) hx hb hr (fun t ht hW => ⟨⟨r11, f13, rfl, ⟨hT, hR, trivial, ⟨fun q0 => by omega, fun q0 => (by omega)⟩⟩, by rw [ht]; exact hP, va_K.moved hW.alike hK, hD⟩, hS.F ht⟩) hS.2.2 dX11_acceptOrFull_19
  · have ic1 : v.toInt = (-1) := zi_nef rfl rfl c1
    refine lv_aload_n hx hb dX11_acceptOrFull_5 rfl (lv_at hl 0 rfl) ?_
    refine lv_bipush (v := (-5)) hx hb dX11_acceptOrFull_6 (by decide) ?_
    refine tgk_12 hG ht_h0 (fun y15 y15l y16 y17 y18 y19 y20 y21a y21b y21c => ?_)
    refine tpk_12 hT ht_h0 (fun o22_x6 hf_o22 => ?_)
    refine tpk_pos (tp_in hG ht_h0 (by decide)) hf_o22 (fun q23 eq23 => ?_)
    have hFc := tp_fr hD hS hA
    refine va_calli (va_runV (As := [.int (-5)]) (rest := []) ⟨hx, hb, hml, hown, hts⟩ (t_X11_refuse l dC dI _ Ω κ τ ν ρ L f hG hT h0 ((-5)) ht_h0) (cwV 1 hts gX11_acceptOrFull_X11_refuse rfl rfl rfl ⟨rfl, pd_X11_refuse⟩ ⟨Nat.le_of_ble_eq_true rfl, Nat.le_of_ble_eq_true rfl⟩) ⟨pz_blind, va_recv hK hP (ci := 11) (q0 := q23) rfl eq23, pz_pre hP hK hD hN⟩ rfl rfl hl.1 rfl (lv_room (Nat.le_of_ble_eq_true rfl)) dX11_acceptOrFull_8 ⟨Nat.le_of_ble_eq_true rfl, Nat.le_of_ble_eq_true rfl⟩) hS (fun q _ h => hFc q h) hFc (fun r24 f26 t H1 locs ht hvm hw25 hB hz1 hk1 hS => ?_)
    refine tn_4 hw25 (fun hT hF27 hw25r hw25p => ?_); clear hw25
    have hR := hR.then hF27 (by decide)
    have hP := hB.1; rw [ht] at hP; have hD := tp_ad f26 hD; clear hB hFc hz1 hk1; subst ht; generalize t.heap = H at hP hS ⊢
    have hw25pq : r24.toInt = (-5) := by rw [hw25p]; rfl
    refine lv_goto (tgt := 19) hx hb dX11_acceptOrFull_11 (by decide) ?_
    exact W.iret (v := r24) hx hb hr (fun t ht hW => ⟨⟨r24, f26, rfl, ⟨hT, hR, trivial, ⟨fun q0 => by omega, fun q0 => (by omega)⟩⟩, by rw [ht]; exact hP, va_K.moved hW.alike hK, hD⟩, hS.F ht⟩) hS.2.2 dX11_acceptOrFull_19
set_option maxHeartbeats 4000000 in
set_option maxRecDepth 100000 in
theorem t_X11_terminal (l : Launch) (dC : Nat → ClassId) (dI : Nat → Nat → Nat) (sz : Nat) (Ω : Nat → Nat → (Nat → Nat) → va_E → Prop) (κ : Nat → ClassId) (τ ν : Nat → Nat) (ρ : Nat → Nat → Nat) (L : List Nat) (f : Nat → va_E) (hG : tp_G τ ν ρ L) (hT : tp_T Ω κ τ ν ρ f) (h0 : Nat) (v : Int32) (u : Int32) (a : Int32) (b : Int32) (ht_h0 : τ h0 = 12) : Met l yX11_terminal wqX11_terminal ({ frames := 4, cells := 0, slots := 0, locals := 1200 }) (va_Pc [.ref h0, .int v, .int u, .int a, .int b] (pz_B dC dI (tp_K κ) (va_pl L f) sz)) (va_Qi (fun (r : Int32) (f1 : Nat → va_E) => tp_T Ω κ τ ν ρ f1 ∧ tp_F τ [9, 11, 12, 20] f f1 ∧ True ∧ tp_X τ ρ (fun n => n = 0) f f1 ∧ ((((¬ ((0 ≤ u.toInt ∧ u.toInt ≤ 500000) ∧ (0 ≤ v.toInt ∧ v.toInt ≤ u.toInt) ∧ (1 ≤ a.toInt ∧ a.toInt ≤ 10000) ∧ (0 ≤ b.toInt ∧ b.toInt ≤ 30))) → r.toInt = -1) ∧ (¬ (¬ ((0 ≤ u.toInt ∧ u.toInt ≤ 500000) ∧ (0 ≤ v.toInt ∧ v.toInt ≤ u.toInt) ∧ (1 ≤ a.toInt ∧ a.toInt ≤ 10000) ∧ (0 ≤ b.toInt ∧ b.toInt ≤ 30))) → ((((tp_fld (f (ρ h0 0)) 4) = 6) → r.toInt = -5) ∧ (¬ ((tp_fld (f (ρ h0 0)) 4) = 6) → r.toInt = (tp_fld (f (ρ h0 0)) 4)))))) ∧ ((((¬ ((0 ≤ u.toInt ∧ u.toInt ≤ 500000) ∧ (0 ≤ v.toInt ∧ v.toInt ≤ u.toInt) ∧ (1 ≤ a.toInt ∧ a.toInt ≤ 10000) ∧ (0 ≤ b.toInt ∧ b.toInt ≤ 30))) → (tp_fld (f1 (ρ h0 0)) 4) = (tp_fld (f (ρ h0 0)) 4)) ∧ (¬ (¬ ((0 ≤ u.toInt ∧ u.toInt ≤ 500000) ∧ (0 ≤ v.toInt ∧ v.toInt ≤ u.toInt) ∧ (1 ≤ a.toInt ∧ a.toInt ≤ 10000) ∧ (0 ≤ b.toInt ∧ b.toInt ≤ 30))) → ((((tp_fld (f (ρ h0 0)) 4) = 6) → (tp_fld (f1 (ρ h0 0)) 4) = (tp_fld (f (ρ h0 0)) 4)) ∧ (¬ ((tp_fld (f (ρ h0 0)) 4) = 6) → (tp_fld (f1 (ρ h0 0)) 4) = (tp_fld (f (ρ h0 0)) 4) + 1))))) ∧ ((tp_fld (f1 (ρ h0 0)) 0) = (tp_fld (f (ρ h0 0)) 0)) ∧ ((tp_fld (f1 (ρ h0 0)) 5) = (tp_fld (f (ρ h0 0)) 5))) (fun (f1 : Nat → va_E) (t : State) => pz_E dC dI (tp_K κ) (va_A (va_pl L f) sz) (va_pl L f1) t) (va_A (va_pl L f) sz)) 0 0 (va_A (va_pl L f) sz) := by
  refine Met.ofW (cc := cX11_terminal) (maxL := 6) (ret := some .int) (by decide) rfl ?_
  intro p e s m args below meth c s₁ B hml hv
  obtain ⟨rfl, hsz, hP, hK, hD0, hN⟩ := hv
  have hx := B.exec
  have hb := B.bytes
  have hr := B.returns
  have hts := fun (w : Cond) (h : w ∈ WALL) => atoms_spec (ws := wqX11_terminal) B.pre w (List.mem_cons_of_mem _ h)
  have hown : s.vm.findClass RX11 = some m.cls := findClass_of_methodNamed B.named
  have hlocks := B.notSynchronized
  subst hsz
  have hD := hD0.self (sz := s.heap.size)
  generalize hAe : va_A (va_pl L f) s.heap.size = A at hD ⊢
  have hA : ∀ q : Nat, s.heap.size ≤ q → A q := fun q h => by rw [← hAe]; exact Or.inr h
  have hS : va_S A s.heap s.heap [] := va_S.rf
  have hR : tp_F τ [9, 11, 12, 20] f f := tp_F.rf
  have hX : tp_X τ ρ (fun n => n = 0) f f := tp_X.rf
  have hl := lv_entry ([.ref h0, .int v, .int u, .int a, .int b]) (n := 6) (Nat.le_of_ble_eq_true rfl)
  rw [lg_entry_eq]
  generalize (lg_sl ([.ref h0, .int v, .int u, .int a, .int b]) ++ List.replicate (6 - (lg_sl ([.ref h0, .int v, .int u, .int a, .int b])).length) Slot.unset).toArray = ls at hl ⊢
  have hl : lv_has ls 6 [(0, .ref h0), (1, .int v), (2, .int u), (3, .int a), (4, .int b)] := hl
  refine tgk_12 hG ht_h0 (fun y1 y1l y2 y3 y4 y5 y6 y7a y7b y7c => ?_)
  refine tgk_11 hG y1 (fun y8 y8n y9 y9n y10 y11 y12 y13 y13m y13l y14 y14m y14l y15 y15m y15l y16 y16w y16m y16l y17 y17w y17m y17l y18 y18w y18m y18l y19 y19w y19m y19l => ?_)
  refine tpk_11 hT y1 (fun o20_x0 o20_x1 o20_x2 o20_x3 o20_x4 o20_x5 o20_x6 hf_o20 ro20_0 ro20_1 ro20_2 ro20_3 => ?_)
  refine lv_iload_n hx hb dX11_terminal_0 rfl (lv_at hl 2 rfl) ?_
  refine lv_iconst (v := 0) hx hb dX11_terminal_1 (by decide) ?_
  refine lv_ldc (own := RX11) (v := 500000) hx hb hown (hts (.constant RX11 50 (500000)) wa_179) dX11_terminal_2 ?_
  refine pz_calli (va_runS (As := [.int u, .int 0, .int 500000]) (rest := []) ⟨hx, hb, hml, hown, hts⟩ (t_X11_within l dC dI _ u (0) (500000) (u.toInt) (0) (500000) rfl rfl rfl) (va_cwS 3 hts gX11_terminal_X11_within rfl rfl rfl pd_X11_within ⟨Nat.le_of_ble_eq_true rfl, Nat.le_of_ble_eq_true rfl⟩) ⟨pz_blind, pz_pre pz_P0 (hK.sub (tys' := []) [] rfl) (pz_D0 (A := fun _ => True)) hN⟩ rfl rfl hl.1 rfl (lv_room (Nat.le_of_ble_eq_true rfl)) dX11_terminal_4 ⟨Nat.le_of_ble_eq_true rfl, Nat.le_of_ble_eq_true rfl⟩) (fun r21 hw22 => ?_)
  obtain ⟨hw22r, hw22p⟩ := hw22
  refine lv_if_eq (tgt := 41) hx hb dX11_terminal_7 (by decide) (fun c23 => ?_) (fun c23 => ?_)
  · have ic23 : r21.toInt = 0 := zi_eq rfl rfl c23
    have p24 : ¬ ((0) ≤ (u.toInt) ∧ (u.toInt) ≤ (500000)) := (tp_cond.no hw22p) (by omega)
    clear hw22r ic23
    refine lv_aload_n hx hb dX11_terminal_41 rfl (lv_at hl 0 rfl) ?_
    refine lv_iconst (v := (-1)) hx hb dX11_terminal_42 (by decide) ?_
    refine tpk_12 hT ht_h0 (fun o25_x6 hf_o25 => ?_)
    refine tpk_pos (tp_in hG ht_h0 (by decide)) hf_o25 (fun q26 eq26 => ?_)
    have hFc := tp_fr hD hS hA
    refine va_calli (va_runV (As := [.int (-1)]) (rest := []) ⟨hx, hb, hml, hown, hts⟩ (t_X11_refuse l dC dI _ Ω κ τ ν ρ L f hG hT h0 ((-1)) ht_h0) (cwV 1 hts gX11_terminal_X11_refuse rfl rfl rfl ⟨rfl, pd_X11_refuse⟩ ⟨Nat.le_of_ble_eq_true rfl, Nat.le_of_ble_eq_true rfl⟩) ⟨pz_blind, va_recv hK hP (ci := 11) (q0 := q26) rfl eq26, pz_pre hP hK hD hN⟩ rfl rfl hl.1 rfl (lv_room (Nat.le_of_ble_eq_true rfl)) dX11_terminal_43 ⟨Nat.le_of_ble_eq_true rfl, Nat.le_of_ble_eq_true rfl⟩) hS (fun q _ h => hFc q h) hFc (fun r27 f29 t H1 locs ht hvm hw28 hB hz1 hk1 hS => ?_)
    refine tn_4 hw28 (fun hT hF30 hw28r hw28p => ?_); clear hw28
    have hR := hR.then hF30 (by decide)
    have hX := hX.fr hF30 (by decide)
    have hP := hB.1; rw [ht] at hP; have hD := tp_ad f29 hD; clear hB hFc hz1 hk1; subst ht; generalize t.heap = H at hP hS ⊢
    have hw28pq : r27.toInt = (-1) := by rw [hw28p]; rfl
    have ro20_1 := tp_hu ro20_1
    have tv31 : tp_fld (f (ρ h0 0)) 4 = o20_x4.toInt := by rw [hf_o20]; rfl
    have hf_32 : f29 (ρ h0 0) = .inr (10, [.int o20_x0, .int o20_x1, .int o20_x2, .int o20_x3, .int o20_x4, .int o20_x5, .int o20_x6, .ref (ρ (ρ h0 0) 7), .ref (ρ (ρ h0 0) 8), .ref (ρ (ρ h0 0) 9), .ref (ρ (ρ h0 0) 10), .ref (ρ (ρ h0 0) 11), .ref (ρ (ρ h0 0) 12), .ref (ρ (ρ h0 0) 13), .ref (ρ (ρ h0 0) 14), .ref (ρ (ρ h0 0) 15), .ref (ρ (ρ h0 0) 16), .ref (ρ (ρ h0 0) 17), .ref (ρ (ρ h0 0) 18)]) := (hF30 _ (by rw [tp_iu y1]; decide)).trans hf_o20
    have tv33 : tp_fld (f29 (ρ h0 0)) 4 = o20_x4.toInt := by rw [hf_32]; rfl
    have ro20_0 := tp_hu ro20_0
    have tv34 : tp_fld (f29 (ρ h0 0)) 0 = o20_x0.toInt := by rw [hf_32]; rfl
    have tv35 : tp_fld (f (ρ h0 0)) 0 = o20_x0.toInt := by rw [hf_o20]; rfl
    have ro20_2 := tp_hu ro20_2
    have tv36 : tp_fld (f29 (ρ h0 0)) 5 = o20_x5.toInt := by rw [hf_32]; rfl
    have tv37 : tp_fld (f (ρ h0 0)) 5 = o20_x5.toInt := by rw [hf_o20]; rfl
    exact W.iret (v := r27) hx hb hr (fun t ht hW => ⟨⟨r27, f29, rfl, ⟨hT, hR, trivial, ⟨hX, (by rw [tv31, tv33, tv34, tv35, tv36, tv37]; exact ⟨⟨fun q0 => by omega, fun q0 => ⟨fun q1 => by omega, fun q1 => (by omega)⟩⟩, ⟨fun q0 => by omega, fun q0 => ⟨fun q1 => by omega, fun q1 => (by omega)⟩⟩, (by omega), (by omega)⟩)⟩⟩, by rw [ht]; exact hP, va_K.moved hW.alike hK, hD⟩, hS.F ht⟩) hS.2.2 dX11_terminal_46
  · have ic23 : r21.toInt ≠ 0 := zi_eqf rfl rfl c23
    have p38 : (0) ≤ (u.toInt) ∧ (u.toInt) ≤ (500000) := (tp_cond.yes hw22p) (by omega)
    clear hw22r ic23
    refine lv_iload_n hx hb dX11_terminal_10 rfl (lv_at hl 1 rfl) ?_
    refine lv_iconst (v := 0) hx hb dX11_terminal_11 (by decide) ?_
    refine lv_iload_n hx hb dX11_terminal_12 rfl (lv_at hl 2 rfl) ?_
    refine pz_calli (va_runS (As := [.int v, .int 0, .int u]) (rest := []) ⟨hx, hb, hml, hown, hts⟩ (t_X11_within l dC dI _ v (0) u (v.toInt) (0) (u.toInt) rfl rfl rfl) (va_cwS 3 hts gX11_terminal_X11_within rfl rfl rfl pd_X11_within ⟨Nat.le_of_ble_eq_true rfl, Nat.le_of_ble_eq_true rfl⟩) ⟨pz_blind, pz_pre pz_P0 (hK.sub (tys' := []) [] rfl) (pz_D0 (A := fun _ => True)) hN⟩ rfl rfl hl.1 rfl (lv_room (Nat.le_of_ble_eq_true rfl)) dX11_terminal_13 ⟨Nat.le_of_ble_eq_true rfl, Nat.le_of_ble_eq_true rfl⟩) (fun r39 hw40 => ?_)
    obtain ⟨hw40r, hw40p⟩ := hw40
    refine lv_if_eq (tgt := 41) hx hb dX11_terminal_16 (by decide) (fun c41 => ?_) (fun c41 => ?_)
    · have ic41 : r39.toInt = 0 := zi_eq rfl rfl c41
      have p42 : ¬ ((0) ≤ (v.toInt) ∧ (v.toInt) ≤ (u.toInt)) := (tp_cond.no hw40p) (by omega)
      clear hw40r ic41
      refine lv_aload_n hx hb dX11_terminal_41 rfl (lv_at hl 0 rfl) ?_
      refine lv_iconst (v := (-1)) hx hb dX11_terminal_42 (by decide) ?_
      refine tpk_12 hT ht_h0 (fun o43_x6 hf_o43 => ?_)
      refine tpk_pos (tp_in hG ht_h0 (by decide)) hf_o43 (fun q44 eq44 => ?_)
      have hFc := tp_fr hD hS hA
      refine va_calli (va_runV (As := [.int (-1)]) (rest := []) ⟨hx, hb, hml, hown, hts⟩ (t_X11_refuse l dC dI _ Ω κ τ ν ρ L f hG hT h0 ((-1)) ht_h0) (cwV 1 hts gX11_terminal_X11_refuse rfl rfl rfl ⟨rfl, pd_X11_refuse⟩ ⟨Nat.le_of_ble_eq_true rfl, Nat.le_of_ble_eq_true rfl⟩) ⟨pz_blind, va_recv hK hP (ci := 11) (q0 := q44) rfl eq44, pz_pre hP hK hD hN⟩ rfl rfl hl.1 rfl (lv_room (Nat.le_of_ble_eq_true rfl)) dX11_terminal_43 ⟨Nat.le_of_ble_eq_true rfl, Nat.le_of_ble_eq_true rfl⟩) hS (fun q _ h => hFc q h) hFc (fun r45 f47 t H1 locs ht hvm hw46 hB hz1 hk1 hS => ?_)
      refine tn_4 hw46 (fun hT hF48 hw46r hw46p => ?_); clear hw46
      have hR := hR.then hF48 (by decide)
      have hX := hX.fr hF48 (by decide)
      have hP := hB.1; rw [ht] at hP; have hD := tp_ad f47 hD; clear hB hFc hz1 hk1; subst ht; generalize t.heap = H at hP hS ⊢
      have hw46pq : r45.toInt = (-1) := by rw [hw46p]; rfl
      have ro20_1 := tp_hu ro20_1
      have tv49 : tp_fld (f (ρ h0 0)) 4 = o20_x4.toInt := by rw [hf_o20]; rfl
      have hf_50 : f47 (ρ h0 0) = .inr (10, [.int o20_x0, .int o20_x1, .int o20_x2, .int o20_x3, .int o20_x4, .int o20_x5, .int o20_x6, .ref (ρ (ρ h0 0) 7), .ref (ρ (ρ h0 0) 8), .ref (ρ (ρ h0 0) 9), .ref (ρ (ρ h0 0) 10), .ref (ρ (ρ h0 0) 11), .ref (ρ (ρ h0 0) 12), .ref (ρ (ρ h0 0) 13), .ref (ρ (ρ h0 0) 14), .ref (ρ (ρ h0 0) 15), .ref (ρ (ρ h0 0) 16), .ref (ρ (ρ h0 0) 17), .ref (ρ (ρ h0 0) 18)]) := (hF48 _ (by rw [tp_iu y1]; decide)).trans hf_o20
      have tv51 : tp_fld (f47 (ρ h0 0)) 4 = o20_x4.toInt := by rw [hf_50]; rfl
      have ro20_0 := tp_hu ro20_0
      have tv52 : tp_fld (f47 (ρ h0 0)) 0 = o20_x0.toInt := by rw [hf_50]; rfl
      have tv53 : tp_fld (f (ρ h0 0)) 0 = o20_x0.toInt := by rw [hf_o20]; rfl
      have ro20_2 := tp_hu ro20_2
      have tv54 : tp_fld (f47 (ρ h0 0)) 5 = o20_x5.toInt := by rw [hf_50]; rfl
      have tv55 : tp_fld (f (ρ h0 0)) 5 = o20_x5.toInt := by rw [hf_o20]; rfl
      exact W.iret (v := r45) hx hb hr (fun t ht hW => ⟨⟨r45, f47, rfl, ⟨hT, hR, trivial, ⟨hX, (by rw [tv49, tv51, tv52, tv53, tv54, tv55]; exact ⟨⟨fun q0 => by omega, fun q0 => ⟨fun q1 => by omega, fun q1 => (by omega)⟩⟩, ⟨fun q0 => by omega, fun q0 => ⟨fun q1 => by omega, fun q1 => (by omega)⟩⟩, (by omega), (by omega)⟩)⟩⟩, by rw [ht]; exact hP, va_K.moved hW.alike hK, hD⟩, hS.F ht⟩) hS.2.2 dX11_terminal_46
    · have ic41 : r39.toInt ≠ 0 := zi_eqf rfl rfl c41
      have p56 : (0) ≤ (v.toInt) ∧ (v.toInt) ≤ (u.toInt) := (tp_cond.yes hw40p) (by omega)
      clear hw40r ic41
      refine lv_iload_n hx hb dX11_terminal_19 rfl (lv_at hl 3 rfl) ?_
      refine lv_iconst (v := 1) hx hb dX11_terminal_20 (by decide) ?_
      refine lv_sipush (v := 10000) hx hb dX11_terminal_21 (by decide) ?_
      refine pz_calli (va_runS (As := [.int a, .int 1, .int 10000]) (rest := []) ⟨hx, hb, hml, hown, hts⟩ (t_X11_within l dC dI _ a (1) (10000) (a.toInt) (1) (10000) rfl rfl rfl) (va_cwS 3 hts gX11_terminal_X11_within rfl rfl rfl pd_X11_within ⟨Nat.le_of_ble_eq_true rfl, Nat.le_of_ble_eq_true rfl⟩) ⟨pz_blind, pz_pre pz_P0 (hK.sub (tys' := []) [] rfl) (pz_D0 (A := fun _ => True)) hN⟩ rfl rfl hl.1 rfl (lv_room (Nat.le_of_ble_eq_true rfl)) dX11_terminal_24 ⟨Nat.le_of_ble_eq_true rfl, Nat.le_of_ble_eq_true rfl⟩) (fun r57 hw58 => ?_)
      obtain ⟨hw58r, hw58p⟩ := hw58
      refine lv_if_eq (tgt := 41) hx hb dX11_terminal_27 (by decide) (fun c59 => ?_) (fun c59 => ?_)
      · have ic59 : r57.toInt = 0 := zi_eq rfl rfl c59
        have p60 : ¬ ((1) ≤ (a.toInt) ∧ (a.toInt) ≤ (10000)) := (tp_cond.no hw58p) (by omega)
        clear hw58r ic59
        refine lv_aload_n hx hb dX11_terminal_41 rfl (lv_at hl 0 rfl) ?_
        refine lv_iconst (v := (-1)) hx hb dX11_terminal_42 (by decide) ?_
        refine tpk_12 hT ht_h0 (fun o61_x6 hf_o61 => ?_)
        refine tpk_pos (tp_in hG ht_h0 (by decide)) hf_o61 (fun q62 eq62 => ?_)
        have hFc := tp_fr hD hS hA
        refine va_calli (va_runV (As := [.int (-1)]) (rest := []) ⟨hx, hb, hml, hown, hts⟩ (t_X11_refuse l dC dI _ Ω κ τ ν ρ L f hG hT h0 ((-1)) ht_h0) (cwV 1 hts gX11_terminal_X11_refuse rfl rfl rfl ⟨rfl, pd_X11_refuse⟩ ⟨Nat.le_of_ble_eq_true rfl, Nat.le_of_ble_eq_true rfl⟩) ⟨pz_blind, va_recv hK hP (ci := 11) (q0 := q62) rfl eq62, pz_pre hP hK hD hN⟩ rfl rfl hl.1 rfl (lv_room (Nat.le_of_ble_eq_true rfl)) dX11_terminal_43 ⟨Nat.le_of_ble_eq_true rfl, Nat.le_of_ble_eq_true rfl⟩) hS (fun q _ h => hFc q h) hFc (fun r63 f65 t H1 locs ht hvm hw64 hB hz1 hk1 hS => ?_)
        refine tn_4 hw64 (fun hT hF66 hw64r hw64p => ?_); clear hw64
        have hR := hR.then hF66 (by decide)
        have hX := hX.fr hF66 (by decide)
        have hP := hB.1; rw [ht] at hP; have hD := tp_ad f65 hD; clear hB hFc hz1 hk1; subst ht; generalize t.heap = H at hP hS ⊢
        have hw64pq : r63.toInt = (-1) := by rw [hw64p]; rfl
        have ro20_1 := tp_hu ro20_1
        have tv67 : tp_fld (f (ρ h0 0)) 4 = o20_x4.toInt := by rw [hf_o20]; rfl
        have hf_68 : f65 (ρ h0 0) = .inr (10, [.int o20_x0, .int o20_x1, .int o20_x2, .int o20_x3, .int o20_x4, .int o20_x5, .int o20_x6, .ref (ρ (ρ h0 0) 7), .ref (ρ (ρ h0 0) 8), .ref (ρ (ρ h0 0) 9), .ref (ρ (ρ h0 0) 10), .ref (ρ (ρ h0 0) 11), .ref (ρ (ρ h0 0) 12), .ref (ρ (ρ h0 0) 13), .ref (ρ (ρ h0 0) 14), .ref (ρ (ρ h0 0) 15), .ref (ρ (ρ h0 0) 16), .ref (ρ (ρ h0 0) 17), .ref (ρ (ρ h0 0) 18)]) := (hF66 _ (by rw [tp_iu y1]; decide)).trans hf_o20
        have tv69 : tp_fld (f65 (ρ h0 0)) 4 = o20_x4.toInt := by rw [hf_68]; rfl
        have ro20_0 := tp_hu ro20_0
        have tv70 : tp_fld (f65 (ρ h0 0)) 0 = o20_x0.toInt := by rw [hf_68]; rfl
        have tv71 : tp_fld (f (ρ h0 0)) 0 = o20_x0.toInt := by rw [hf_o20]; rfl
        have ro20_2 := tp_hu ro20_2
        have tv72 : tp_fld (f65 (ρ h0 0)) 5 = o20_x5.toInt := by rw [hf_68]; rfl
        have tv73 : tp_fld (f (ρ h0 0)) 5 = o20_x5.toInt := by rw [hf_o20]; rfl
        exact W.iret (v := r63) hx hb hr (fun t ht hW => ⟨⟨r63, f65, rfl, ⟨hT, hR, trivial, ⟨hX, (by rw [tv67, tv69, tv70, tv71, tv72, tv73]; exact ⟨⟨fun q0 => by omega, fun q0 => ⟨fun q1 => by omega, fun q1 => (by omega)⟩⟩, ⟨fun q0 => by omega, fun q0 => ⟨fun q1 => by omega, fun q1 => (by omega)⟩⟩, (by omega), (by omega)⟩)⟩⟩, by rw [ht]; exact hP, va_K.moved hW.alike hK, hD⟩, hS.F ht⟩) hS.2.2 dX11_terminal_46
      · have ic59 : r57.toInt ≠ 0 := zi_eqf rfl rfl c59
        have p74 : (1) ≤ (a.toInt) ∧ (a.toInt) ≤ (10000) := (tp_cond.yes hw58p) (by omega)
        clear hw58r ic59
        refine lv_iload hx hb dX11_terminal_30 (lv_at hl 4 rfl) ?_
        refine lv_iconst (v := 0) hx hb dX11_terminal_32 (by decide) ?_
        refine lv_bipush (v := 30) hx hb dX11_terminal_33 (by decide) ?_
        refine pz_calli (va_runS (As := [.int b, .int 0, .int 30]) (rest := []) ⟨hx, hb, hml, hown, hts⟩ (t_X11_within l dC dI _ b (0) (30) (b.toInt) (0) (30) rfl rfl rfl) (va_cwS 3 hts gX11_terminal_X11_within rfl rfl rfl pd_X11_within ⟨Nat.le_of_ble_eq_true rfl, Nat.le_of_ble_eq_true rfl⟩) ⟨pz_blind, pz_pre pz_P0 (hK.sub (tys' := []) [] rfl) (pz_D0 (A := fun _ => True)) hN⟩ rfl rfl hl.1 rfl (lv_room (Nat.le_of_ble_eq_true rfl)) dX11_terminal_35 ⟨Nat.le_of_ble_eq_true rfl, Nat.le_of_ble_eq_true rfl⟩) (fun r75 hw76 => ?_)
        obtain ⟨hw76r, hw76p⟩ := hw76
        refine lv_if_ne (tgt := 47) hx hb dX11_terminal_38 (by decide) (fun c77 => ?_) (fun c77 => ?_)
        · have ic77 : r75.toInt ≠ 0 := zi_ne rfl rfl c77
          have p78 : (0) ≤ (b.toInt) ∧ (b.toInt) ≤ (30) := (tp_cond.yes hw76p) (by omega)
          clear hw76r ic77
          refine lv_aload_n hx hb dX11_terminal_47 rfl (lv_at hl 0 rfl) ?_
          refine tpk_12 hT ht_h0 (fun o79_x6 hf_o79 => ?_)
          refine tpk_pos (tp_in hG ht_h0 (by decide)) hf_o79 (fun q80 eq80 => ?_)
          refine va_get (D := (dC, dI)) (ci := 11) (v := .ref (ρ h0 0)) (C := RX11) (T := TX11) (N := 7) hx hb hts hfX11 hown hK hP q80 eq80 rfl 0 (by decide) (hts (.fieldLink RX11 10 "ColdShips" "world" "LColdShips$World;") wa_15) (fun _ h9 => h9) rfl dX11_terminal_48 ?_
          refine tpk_pos (tp_in hG y1 (by decide)) hf_o20 (fun q81 eq81 => ?_)
          have ro20_1 := tp_hu ro20_1
          refine va_getN (D := (dC, dI)) (ci := 10) (v := .int o20_x4) (C := RX10) (T := TX10) (N := 19) hx hb hts hfX10 hown hK hP q81 eq81 rfl 4 (by decide) (va_Nw.use rfl (hN.1 (.fieldLinkNest RX11 59 "ColdShips$World" "terminalCount" "I" "ColdShips") nzw_56)) (fun _ h9 => h9) rfl dX11_terminal_51 ?_
          refine lv_bipush (v := 6) hx hb dX11_terminal_54 (by decide) ?_
          refine lv_icmp_lt (tgt := 66) hx hb dX11_terminal_56 (by decide) (fun c82 => ?_) (fun c82 => ?_)
          · have ic82 : o20_x4.toInt < 6 := zi_lt rfl rfl c82
            refine lv_aload_n hx hb dX11_terminal_66 rfl (lv_at hl 0 rfl) ?_
            refine va_get (D := (dC, dI)) (ci := 11) (v := .ref (ρ h0 0)) (C := RX11) (T := TX11) (N := 7) hx hb hts hfX11 hown hK hP q80 eq80 rfl 0 (by decide) (hts (.fieldLink RX11 10 "ColdShips" "world" "LColdShips$World;") wa_15) (fun _ h9 => h9) rfl dX11_terminal_67 ?_
            refine va_getN (D := (dC, dI)) (ci := 10) (v := .int o20_x4) (C := RX10) (T := TX10) (N := 19) hx hb hts hfX10 hown hK hP q81 eq81 rfl 4 (by decide) (va_Nw.use rfl (hN.1 (.fieldLinkNest RX11 59 "ColdShips$World" "terminalCount" "I" "ColdShips") nzw_56)) (fun _ h9 => h9) rfl dX11_terminal_70 ?_
            refine lv_istore (lv' := [(5, .int o20_x4), (0, .ref h0), (1, .int v), (2, .int u), (3, .int a), (4, .int b)]) hx hb dX11_terminal_73 hl (by decide) rfl (fun ls hl => ?_)
            refine lv_aload_n hx hb dX11_terminal_75 rfl (lv_at hl 1 rfl) ?_
            refine va_get (D := (dC, dI)) (ci := 11) (v := .ref (ρ h0 0)) (C := RX11) (T := TX11) (N := 7) hx hb hts hfX11 hown hK hP q80 eq80 rfl 0 (by decide) (hts (.fieldLink RX11 10 "ColdShips" "world" "LColdShips$World;") wa_15) (fun _ h9 => h9) rfl dX11_terminal_76 ?_
            refine va_getN (D := (dC, dI)) (ci := 10) (v := .ref (ρ (ρ h0 0) 9)) (C := RX10) (T := TX10) (N := 19) hx hb hts hfX10 hown hK hP q81 eq81 rfl 9 (by decide) (va_Nw.use rfl (hN.1 (.fieldLinkNest RX11 63 "ColdShips$World" "terminals" "[LColdShips$Terminal;" "ColdShips") nzw_65)) (fun _ h9 => h9) rfl dX11_terminal_79 ?_
            refine lv_iload hx hb dX11_terminal_82 (lv_at hl 0 rfl) ?_
            refine tpk_24 hT y10 (fun g84 hf_o83 hf_o83e => ?_)
            refine tpk_pos (tp_in hG y10 (by decide)) hf_o83 (fun q85 eq85 => ?_)
            refine va_aldq hx hb hK hP q85 4 eq85 rfl (vp_in_iff.mpr ⟨by omega, by omega⟩) dX11_terminal_84 ?_
            obtain ⟨b86, hb87⟩ : ∃ b : Nat, b = ρ (ρ (ρ h0 0) 9) o20_x4.toNatClampNeg := ⟨_, rfl⟩
            have hb87t : τ b86 = 9 := by rw [hb87]; exact tpg_24 hG y10 _ (zi_cl (vp_in_iff.mpr ⟨by omega, by omega⟩))
            have hb87g : g84 o20_x4.toNatClampNeg = some b86 := by rw [hb87]; exact hf_o83e _ (zi_cl (vp_in_iff.mpr ⟨by omega, by omega⟩))
            refine W.eq (g2 := F0 m 85 ls (.ref b86 :: [])) (congrArg (fun o => F0 m 85 ls (va_rf o :: [])) hb87g) ?_
            refine lv_iload_n hx hb dX11_terminal_85 rfl (lv_at hl 2 rfl) ?_
            refine lv_iload_n hx hb dX11_terminal_86 rfl (lv_at hl 3 rfl) ?_
            refine lv_iload_n hx hb dX11_terminal_87 rfl (lv_at hl 4 rfl) ?_
            refine lv_iload hx hb dX11_terminal_88 (lv_at hl 5 rfl) ?_
            refine tgk_9 hG hb87t (fun y88 y88n y89 y89n => ?_)
            refine tpk_9 hT hb87t (fun o90_x0 o90_x1 o90_x2 o90_x3 o90_x4 hf_o90 ro90_0 => ?_)
            refine tpk_pos (tp_in hG hb87t (by decide)) hf_o90 (fun q91 eq91 => ?_)
            have hFc := tp_fr hD hS hA
            refine va_callv (va_runV (As := [.int v, .int u, .int a, .int b]) (rest := []) ⟨hx, hb, hml, hown, hts⟩ (t_X8_begin l dC dI _ Ω κ τ ν ρ L f hG hT b86 v u a b hb87t) (cwV 4 hts gX11_terminal_X8_begin rfl rfl rfl ⟨rfl, pd_X8_begin⟩ ⟨Nat.le_of_ble_eq_true rfl, Nat.le_of_ble_eq_true rfl⟩) ⟨pz_blind, va_recv hK hP (ci := 8) (q0 := q91) rfl eq91, pz_pre hP hK hD hN⟩ rfl rfl hl.1 rfl (lv_room (Nat.le_of_ble_eq_true rfl)) dX11_terminal_90 ⟨Nat.le_of_ble_eq_true rfl, Nat.le_of_ble_eq_true rfl⟩) hS (fun q _ h => hFc q h) hFc (fun f94 t H1 locs ht hvm hw93 hB hz1 hk1 hS => ?_)
            refine tn_3 hw93 (fun hT hF95 hw93p => ?_); clear hw93
            have hR := hR.then hF95 (by decide)
            have hX := hX.fr hF95 (by decide)
            have hP := hB.1; rw [ht] at hP; have hD := tp_ad f94 hD; clear hB hFc hz1 hk1; subst ht; generalize t.heap = H at hP hS ⊢
            refine lv_aload_n hx hb dX11_terminal_93 rfl (lv_at hl 1 rfl) ?_
            have hf_96 : f94 h0 = .inr (11, [.ref (ρ h0 0), .ref (ρ h0 1), .ref (ρ h0 2), .ref (ρ h0 3), .ref (ρ h0 4), .ref (ρ h0 5), .int o79_x6]) := (hF95 _ (by rw [ht_h0]; decide)).trans hf_o79
            refine tpk_pos (tp_in hG ht_h0 (by decide)) hf_96 (fun q97 eq97 => ?_)
            refine va_get (D := (dC, dI)) (ci := 11) (v := .ref (ρ h0 0)) (C := RX11) (T := TX11) (N := 7) hx hb hts hfX11 hown hK hP q97 eq97 rfl 0 (by decide) (hts (.fieldLink RX11 10 "ColdShips" "world" "LColdShips$World;") wa_15) (fun _ h9 => h9) rfl dX11_terminal_94 ?_
            refine lv_dup hx hb dX11_terminal_97 rfl ?_
            have hf_98 : f94 (ρ h0 0) = .inr (10, [.int o20_x0, .int o20_x1, .int o20_x2, .int o20_x3, .int o20_x4, .int o20_x5, .int o20_x6, .ref (ρ (ρ h0 0) 7), .ref (ρ (ρ h0 0) 8), .ref (ρ (ρ h0 0) 9), .ref (ρ (ρ h0 0) 10), .ref (ρ (ρ h0 0) 11), .ref (ρ (ρ h0 0) 12), .ref (ρ (ρ h0 0) 13), .ref (ρ (ρ h0 0) 14), .ref (ρ (ρ h0 0) 15), .ref (ρ (ρ h0 0) 16), .ref (ρ (ρ h0 0) 17), .ref (ρ (ρ h0 0) 18)]) := (hF95 _ (by rw [tp_iu y1]; decide)).trans hf_o20
            refine tpk_pos (tp_in hG y1 (by decide)) hf_98 (fun q99 eq99 => ?_)
            refine va_getN (D := (dC, dI)) (ci := 10) (v := .int o20_x4) (C := RX10) (T := TX10) (N := 19) hx hb hts hfX10 hown hK hP q99 eq99 rfl 4 (by decide) (va_Nw.use rfl (hN.1 (.fieldLinkNest RX11 59 "ColdShips$World" "terminalCount" "I" "ColdShips") nzw_56)) (fun _ h9 => h9) rfl dX11_terminal_98 ?_
            refine lv_iconst (v := 1) hx hb dX11_terminal_101 (by decide) ?_
            refine lv_iadd hx hb dX11_terminal_102 ?_
            refine lv_topi (fun z100 ez100 => ?_)
            have iz100 : z100.toInt = o20_x4.toInt + 1 := zi_add ez100 rfl rfl (by omega) (by omega)
            refine va_putN (D := (dC, dI)) (ci := 10) (v := .int z100) (ty := .int) (C := RX10) (T := TX10) (N := 19) hx hb hts hfX10 tyX10 tyX10_ok nmX10 hown hK hP hD hS q99 eq99 rfl 4 (by decide) (va_Nw.use rfl (hN.1 (.fieldLinkNest RX11 59 "ColdShips$World" "terminalCount" "I" "ColdShips") nzw_56)) (fun _ h9 => h9) rfl (tyX10_ok 4 (by decide)) rfl rfl (Nat.le_of_ble_eq_true rfl) dX11_terminal_103 (tp_k (.inr (10, [.int o20_x0, .int o20_x1, .int o20_x2, .int o20_x3, .int z100, .int o20_x5, .int o20_x6, .ref (ρ (ρ h0 0) 7), .ref (ρ (ρ h0 0) 8), .ref (ρ (ρ h0 0) 9), .ref (ρ (ρ h0 0) 10), .ref (ρ (ρ h0 0) 11), .ref (ρ (ρ h0 0) 12), .ref (ρ (ρ h0 0) 13), .ref (ρ (ρ h0 0) 14), .ref (ρ (ρ h0 0) 15), .ref (ρ (ρ h0 0) 16), .ref (ρ (ρ h0 0) 17), .ref (ρ (ρ h0 0) 18)])) hD (tp_in hG y1 (by decide)) eq99 (fun f101 H locs hP hD hS g103 k102 => ?_))
            have hT := hT.up y1 g103 k102 ⟨_, _, _, _, _, _, _, rfl, ro20_0, (by first | decide | omega | (omega)), ro20_2, ro20_3⟩
            have hR := hR.up y1 (by decide) k102
            have hX := hX.up k102 (Or.inr (by show (ρ (ρ h0 0) 30) = 0; omega))
            refine lv_aload_n hx hb dX11_terminal_106 rfl (lv_at hl 1 rfl) ?_
            refine lv_iload hx hb dX11_terminal_107 (lv_at hl 0 rfl) ?_
            have hf_104 : f101 h0 = .inr (11, [.ref (ρ h0 0), .ref (ρ h0 1), .ref (ρ h0 2), .ref (ρ h0 3), .ref (ρ h0 4), .ref (ρ h0 5), .int o79_x6]) := (k102 _ (tp_ne ht_h0 y1 (by decide))).trans hf_96
            refine tpk_pos (tp_in hG ht_h0 (by decide)) hf_104 (fun q105 eq105 => ?_)
            have hFc := tp_fr hD hS hA
            refine va_calli (va_runV (As := [.int o20_x4]) (rest := []) ⟨hx, hb, hml, hown, hts⟩ (t_X11_accept l dC dI _ Ω κ τ ν ρ L f101 hG hT h0 o20_x4 ht_h0) (cwV 1 hts gX11_terminal_X11_accept rfl rfl rfl ⟨rfl, pd_X11_accept⟩ ⟨Nat.le_of_ble_eq_true rfl, Nat.le_of_ble_eq_true rfl⟩) ⟨pz_blind, va_recv hK hP (ci := 11) (q0 := q105) rfl eq105, pz_pre hP hK hD hN⟩ rfl rfl hl.1 rfl (lv_room (Nat.le_of_ble_eq_true rfl)) dX11_terminal_109 ⟨Nat.le_of_ble_eq_true rfl, Nat.le_of_ble_eq_true rfl⟩) hS (fun q _ h => hFc q h) hFc (fun r106 f108 t H1 locs ht hvm hw107 hB hz1 hk1 hS => ?_)
            refine tn_4 hw107 (fun hT hF109 hw107r hw107p => ?_); clear hw107
            have hR := hR.then hF109 (by decide)
            have hX := hX.fr hF109 (by decide)
            have hP := hB.1; rw [ht] at hP; have hD := tp_ad f108 hD; clear hB hFc hz1 hk1; subst ht; generalize t.heap = H at hP hS ⊢
            have hw107pq : r106.toInt = o20_x4.toInt := by rw [hw107p]
            have tv110 : tp_fld (f (ρ h0 0)) 4 = o20_x4.toInt := by rw [hf_o20]; rfl
            have hf_111 : f108 (ρ h0 0) = .inr (10, [.int o20_x0, .int o20_x1, .int o20_x2, .int o20_x3, .int z100, .int o20_x5, .int o20_x6, .ref (ρ (ρ h0 0) 7), .ref (ρ (ρ h0 0) 8), .ref (ρ (ρ h0 0) 9), .ref (ρ (ρ h0 0) 10), .ref (ρ (ρ h0 0) 11), .ref (ρ (ρ h0 0) 12), .ref (ρ (ρ h0 0) 13), .ref (ρ (ρ h0 0) 14), .ref (ρ (ρ h0 0) 15), .ref (ρ (ρ h0 0) 16), .ref (ρ (ρ h0 0) 17), .ref (ρ (ρ h0 0) 18)]) := (hF109 _ (by rw [tp_iu y1]; decide)).trans g103
            have tv112 : tp_fld (f108 (ρ h0 0)) 4 = z100.toInt := by rw [hf_111]; rfl
            have ro20_0 := tp_hu ro20_0
            have tv113 : tp_fld (f108 (ρ h0 0)) 0 = o20_x0.toInt := by rw [hf_111]; rfl
            have tv114 : tp_fld (f (ρ h0 0)) 0 = o20_x0.toInt := by rw [hf_o20]; rfl
            have ro20_2 := tp_hu ro20_2
            have tv115 : tp_fld (f108 (ρ h0 0)) 5 = o20_x5.toInt := by rw [hf_111]; rfl
            have tv116 : tp_fld (f (ρ h0 0)) 5 = o20_x5.toInt := by rw [hf_o20]; rfl
            exact W.iret (v := r106) hx hb hr (fun t ht hW => ⟨⟨r106, f108, rfl, ⟨hT, hR, trivial, ⟨hX, (by rw [tv110, tv112, tv113, tv114, tv115, tv116]; exact ⟨⟨fun q0 => by omega, fun q0 => ⟨fun q1 => by omega, fun q1 => (by omega)⟩⟩, ⟨fun q0 => by omega, fun q0 => ⟨fun q1 => by omega, fun q1 => (by omega)⟩⟩, (by omega), (by omega)⟩)⟩⟩, by rw [ht]; exact hP, va_K.moved hW.alike hK, hD⟩, hS.F ht⟩) hS.2.2 dX11_terminal_112
          · have ic82 : o20_x4.toInt ≥ 6 := zi_ltf rfl rfl c82
            refine lv_aload_n hx hb dX11_terminal_59 rfl (lv_at hl 0 rfl) ?_
            refine lv_bipush (v := (-5)) hx hb dX11_terminal_60 (by decide) ?_
            have hFc := tp_fr hD hS hA
            refine va_calli (va_runV (As := [.int (-5)]) (rest := []) ⟨hx, hb, hml, hown, hts⟩ (t_X11_refuse l dC dI _ Ω κ τ ν ρ L f hG hT h0 ((-5)) ht_h0) (cwV 1 hts gX11_terminal_X11_refuse rfl rfl rfl ⟨rfl, pd_X11_refuse⟩ ⟨Nat.le_of_ble_eq_true rfl, Nat.le_of_ble_eq_true rfl⟩) ⟨pz_blind, va_recv hK hP (ci := 11) (q0 := q80) rfl eq80, pz_pre hP hK hD hN⟩ rfl rfl hl.1 rfl (lv_room (Nat.le_of_ble_eq_true rfl)) dX11_terminal_62 ⟨Nat.le_of_ble_eq_true rfl, Nat.le_of_ble_eq_true rfl⟩) hS (fun q _ h => hFc q h) hFc (fun r117 f119 t H1 locs ht hvm hw118 hB hz1 hk1 hS => ?_)
            refine tn_4 hw118 (fun hT hF120 hw118r hw118p => ?_); clear hw118
            have hR := hR.then hF120 (by decide)
            have hX := hX.fr hF120 (by decide)
            have hP := hB.1; rw [ht] at hP; have hD := tp_ad f119 hD; clear hB hFc hz1 hk1; subst ht; generalize t.heap = H at hP hS ⊢
            have hw118pq : r117.toInt = (-5) := by rw [hw118p]; rfl
            have tv121 : tp_fld (f (ρ h0 0)) 4 = o20_x4.toInt := by rw [hf_o20]; rfl
            have hf_122 : f119 (ρ h0 0) = .inr (10, [.int o20_x0, .int o20_x1, .int o20_x2, .int o20_x3, .int o20_x4, .int o20_x5, .int o20_x6, .ref (ρ (ρ h0 0) 7), .ref (ρ (ρ h0 0) 8), .ref (ρ (ρ h0 0) 9), .ref (ρ (ρ h0 0) 10), .ref (ρ (ρ h0 0) 11), .ref (ρ (ρ h0 0) 12), .ref (ρ (ρ h0 0) 13), .ref (ρ (ρ h0 0) 14), .ref (ρ (ρ h0 0) 15), .ref (ρ (ρ h0 0) 16), .ref (ρ (ρ h0 0) 17), .ref (ρ (ρ h0 0) 18)]) := (hF120 _ (by rw [tp_iu y1]; decide)).trans hf_o20
            have tv123 : tp_fld (f119 (ρ h0 0)) 4 = o20_x4.toInt := by rw [hf_122]; rfl
            have ro20_0 := tp_hu ro20_0
            have tv124 : tp_fld (f119 (ρ h0 0)) 0 = o20_x0.toInt := by rw [hf_122]; rfl
            have tv125 : tp_fld (f (ρ h0 0)) 0 = o20_x0.toInt := by rw [hf_o20]; rfl
            have ro20_2 := tp_hu ro20_2
            have tv126 : tp_fld (f119 (ρ h0 0)) 5 = o20_x5.toInt := by rw [hf_122]; rfl
            have tv127 : tp_fld (f (ρ h0 0)) 5 = o20_x5.toInt := by rw [hf_o20]; rfl
            exact W.iret (v := r117) hx hb hr (fun t ht hW => ⟨⟨r117, f119, rfl, ⟨hT, hR, trivial, ⟨hX, (by rw [tv121, tv123, tv124, tv125, tv126, tv127]; exact ⟨⟨fun q0 => by omega, fun q0 => ⟨fun q1 => by omega, fun q1 => (by omega)⟩⟩, ⟨fun q0 => by omega, fun q0 => ⟨fun q1 => by omega, fun q1 => (by omega)⟩⟩, (by omega), (by omega)⟩)⟩⟩, by rw [ht]; exact hP, va_K.moved hW.alike hK, hD⟩, hS.F ht⟩) hS.2.2 dX11_terminal_65
        · have ic77 : r75.toInt = 0 := zi_nef rfl rfl c77
          have p128 : ¬ ((0) ≤ (b.toInt) ∧ (b.toInt) ≤ (30)) := (tp_cond.no hw76p) (by omega)
          clear hw76r ic77
          refine lv_aload_n hx hb dX11_terminal_41 rfl (lv_at hl 0 rfl) ?_
          refine lv_iconst (v := (-1)) hx hb dX11_terminal_42 (by decide) ?_
          refine tpk_12 hT ht_h0 (fun o129_x6 hf_o129 => ?_)
          refine tpk_pos (tp_in hG ht_h0 (by decide)) hf_o129 (fun q130 eq130 => ?_)
          have hFc := tp_fr hD hS hA
          refine va_calli (va_runV (As := [.int (-1)]) (rest := []) ⟨hx, hb, hml, hown, hts⟩ (t_X11_refuse l dC dI _ Ω κ τ ν ρ L f hG hT h0 ((-1)) ht_h0) (cwV 1 hts gX11_terminal_X11_refuse rfl rfl rfl ⟨rfl, pd_X11_refuse⟩ ⟨Nat.le_of_ble_eq_true rfl, Nat.le_of_ble_eq_true rfl⟩) ⟨pz_blind, va_recv hK hP (ci := 11) (q0 := q130) rfl eq130, pz_pre hP hK hD hN⟩ rfl rfl hl.1 rfl (lv_room (Nat.le_of_ble_eq_true rfl)) dX11_terminal_43 ⟨Nat.le_of_ble_eq_true rfl, Nat.le_of_ble_eq_true rfl⟩) hS (fun q _ h => hFc q h) hFc (fun r131 f133 t H1 locs ht hvm hw132 hB hz1 hk1 hS => ?_)
          refine tn_4 hw132 (fun hT hF134 hw132r hw132p => ?_); clear hw132
          have hR := hR.then hF134 (by decide)
          have hX := hX.fr hF134 (by decide)
          have hP := hB.1; rw [ht] at hP; have hD := tp_ad f133 hD; clear hB hFc hz1 hk1; subst ht; generalize t.heap = H at hP hS ⊢
          have hw132pq : r131.toInt = (-1) := by rw [hw132p]; rfl
          have ro20_1 := tp_hu ro20_1
          have tv135 : tp_fld (f (ρ h0 0)) 4 = o20_x4.toInt := by rw [hf_o20]; rfl
          have hf_136 : f133 (ρ h0 0) = .inr (10, [.int o20_x0, .int o20_x1, .int o20_x2, .int o20_x3, .int o20_x4, .int o20_x5, .int o20_x6, .ref (ρ (ρ h0 0) 7), .ref (ρ (ρ h0 0) 8), .ref (ρ (ρ h0 0) 9), .ref (ρ (ρ h0 0) 10), .ref (ρ (ρ h0 0) 11), .ref (ρ (ρ h0 0) 12), .ref (ρ (ρ h0 0) 13), .ref (ρ (ρ h0 0) 14), .ref (ρ (ρ h0 0) 15), .ref (ρ (ρ h0 0) 16), .ref (ρ (ρ h0 0) 17), .ref (ρ (ρ h0 0) 18)]) := (hF134 _ (by rw [tp_iu y1]; decide)).trans hf_o20
          have tv137 : tp_fld (f133 (ρ h0 0)) 4 = o20_x4.toInt := by rw [hf_136]; rfl
          have ro20_0 := tp_hu ro20_0
          have tv138 : tp_fld (f133 (ρ h0 0)) 0 = o20_x0.toInt := by rw [hf_136]; rfl
          have tv139 : tp_fld (f (ρ h0 0)) 0 = o20_x0.toInt := by rw [hf_o20]; rfl
          have ro20_2 := tp_hu ro20_2
          have tv140 : tp_fld (f133 (ρ h0 0)) 5 = o20_x5.toInt := by rw [hf_136]; rfl
          have tv141 : tp_fld (f (ρ h0 0)) 5 = o20_x5.toInt := by rw [hf_o20]; rfl
          exact W.iret (v := r131) hx hb hr (fun t ht hW => ⟨⟨r131, f133, rfl, ⟨hT, hR, trivial, ⟨hX, (by rw [tv135, tv137, tv138, tv139, tv140, tv141]; exact ⟨⟨fun q0 => by omega, fun q0 => ⟨fun q1 => by omega, fun q1 => (by omega)⟩⟩, ⟨fun q0 => by omega, fun q0 => ⟨fun q1 => by omega, fun q1 => (by omega)⟩⟩, (by omega), (by omega)⟩)⟩⟩, by rw [ht]; exact hP, va_K.moved hW.alike hK, hD⟩, hS.F ht⟩) hS.2.2 dX11_terminal_46
set_option maxHeartbeats 4000000 in
set_option maxRecDepth 100000 in
theorem t_X11_ship (l : Launch) (dC : Nat → ClassId) (dI : Nat → Nat → Nat) (sz : Nat) (Ω : Nat → Nat → (Nat → Nat) → va_E → Prop) (κ : Nat → ClassId) (τ ν : Nat → Nat) (ρ : Nat → Nat → Nat) (L : List Nat) (f : Nat → va_E) (hG : tp_G τ ν ρ L) (hT : tp_T Ω κ τ ν ρ f) (h0 : Nat) (v : Int32) (u : Int32) (a : Int32) (ht_h0 : τ h0 = 12) : Met l yX11_ship wqX11_ship ({ frames := 5, cells := 0, slots := 0, locals := 1600 }) (va_Pc [.ref h0, .int v, .int u, .int a] (pz_B dC dI (tp_K κ) (va_pl L f) sz)) (va_Qi (fun (r : Int32) (f1 : Nat → va_E) => tp_T Ω κ τ ν ρ f1 ∧ tp_F τ [6, 8, 11, 12, 20, 21] f f1 ∧ True ∧ tp_X τ ρ (fun n => n = 0) f f1 ∧ ((((¬ ((1000 ≤ u.toInt ∧ u.toInt ≤ 200000) ∧ (1 ≤ a.toInt ∧ a.toInt ≤ 50))) → r.toInt = -1) ∧ (¬ (¬ ((1000 ≤ u.toInt ∧ u.toInt ≤ 200000) ∧ (1 ≤ a.toInt ∧ a.toInt ≤ 50))) → (((¬ (0 ≤ v.toInt ∧ v.toInt < (tp_fld (f (ρ h0 0)) 4))) → r.toInt = -2) ∧ (¬ (¬ (0 ≤ v.toInt ∧ v.toInt < (tp_fld (f (ρ h0 0)) 4))) → ((((tp_fld (f (ρ h0 0)) 5) = 6) → r.toInt = -5) ∧ (¬ ((tp_fld (f (ρ h0 0)) 5) = 6) → r.toInt = (tp_fld (f (ρ h0 0)) 5)))))))) ∧ ((((¬ ((1000 ≤ u.toInt ∧ u.toInt ≤ 200000) ∧ (1 ≤ a.toInt ∧ a.toInt ≤ 50))) → (tp_fld (f1 (ρ h0 0)) 5) = (tp_fld (f (ρ h0 0)) 5)) ∧ (¬ (¬ ((1000 ≤ u.toInt ∧ u.toInt ≤ 200000) ∧ (1 ≤ a.toInt ∧ a.toInt ≤ 50))) → (((¬ (0 ≤ v.toInt ∧ v.toInt < (tp_fld (f (ρ h0 0)) 4))) → (tp_fld (f1 (ρ h0 0)) 5) = (tp_fld (f (ρ h0 0)) 5)) ∧ (¬ (¬ (0 ≤ v.toInt ∧ v.toInt < (tp_fld (f (ρ h0 0)) 4))) → ((((tp_fld (f (ρ h0 0)) 5) = 6) → (tp_fld (f1 (ρ h0 0)) 5) = (tp_fld (f (ρ h0 0)) 5)) ∧ (¬ ((tp_fld (f (ρ h0 0)) 5) = 6) → (tp_fld (f1 (ρ h0 0)) 5) = (tp_fld (f (ρ h0 0)) 5) + 1))))))) ∧ ((tp_fld (f1 (ρ h0 0)) 0) = (tp_fld (f (ρ h0 0)) 0)) ∧ ((tp_fld (f1 (ρ h0 0)) 4) = (tp_fld (f (ρ h0 0)) 4))) (fun (f1 : Nat → va_E) (t : State) => pz_E dC dI (tp_K κ) (va_A (va_pl L f) sz) (va_pl L f1) t) (va_A (va_pl L f) sz)) 0 0 (va_A (va_pl L f) sz) := by
  refine Met.ofW (cc := cX11_ship) (maxL := 5) (ret := some .int) (by decide) rfl ?_
  intro p e s m args below meth c s₁ B hml hv
  obtain ⟨rfl, hsz, hP, hK, hD0, hN⟩ := hv
  have hx := B.exec
  have hb := B.bytes
  have hr := B.returns
  have hts := fun (w : Cond) (h : w ∈ WALL) => atoms_spec (ws := wqX11_ship) B.pre w (List.mem_cons_of_mem _ h)
  have hown : s.vm.findClass RX11 = some m.cls := findClass_of_methodNamed B.named
  have hlocks := B.notSynchronized
  subst hsz
  have hD := hD0.self (sz := s.heap.size)
  generalize hAe : va_A (va_pl L f) s.heap.size = A at hD ⊢
  have hA : ∀ q : Nat, s.heap.size ≤ q → A q := fun q h => by rw [← hAe]; exact Or.inr h
  have hS : va_S A s.heap s.heap [] := va_S.rf
  have hR : tp_F τ [6, 8, 11, 12, 20, 21] f f := tp_F.rf
  have hX : tp_X τ ρ (fun n => n = 0) f f := tp_X.rf
  have hl := lv_entry ([.ref h0, .int v, .int u, .int a]) (n := 5) (Nat.le_of_ble_eq_true rfl)
  rw [lg_entry_eq]
  generalize (lg_sl ([.ref h0, .int v, .int u, .int a]) ++ List.replicate (5 - (lg_sl ([.ref h0, .int v, .int u, .int a])).length) Slot.unset).toArray = ls at hl ⊢
  have hl : lv_has ls 5 [(0, .ref h0), (1, .int v), (2, .int u), (3, .int a)] := hl
  refine tgk_12 hG ht_h0 (fun y1 y1l y2 y3 y4 y5 y6 y7a y7b y7c => ?_)
  refine tgk_11 hG y1 (fun y8 y8n y9 y9n y10 y11 y12 y13 y13m y13l y14 y14m y14l y15 y15m y15l y16 y16w y16m y16l y17 y17w y17m y17l y18 y18w y18m y18l y19 y19w y19m y19l => ?_)
  refine tpk_11 hT y1 (fun o20_x0 o20_x1 o20_x2 o20_x3 o20_x4 o20_x5 o20_x6 hf_o20 ro20_0 ro20_1 ro20_2 ro20_3 => ?_)
  refine lv_iload_n hx hb dX11_ship_0 rfl (lv_at hl 2 rfl) ?_
  refine lv_sipush (v := 1000) hx hb dX11_ship_1 (by decide) ?_
  refine lv_ldc (own := RX11) (v := 200000) hx hb hown (hts (.constant RX11 76 (200000)) wa_232) dX11_ship_4 ?_
  refine pz_calli (va_runS (As := [.int u, .int 1000, .int 200000]) (rest := []) ⟨hx, hb, hml, hown, hts⟩ (t_X11_within l dC dI _ u (1000) (200000) (u.toInt) (1000) (200000) rfl rfl rfl) (va_cwS 3 hts gX11_ship_X11_within rfl rfl rfl pd_X11_within ⟨Nat.le_of_ble_eq_true rfl, Nat.le_of_ble_eq_true rfl⟩) ⟨pz_blind, pz_pre pz_P0 (hK.sub (tys' := []) [] rfl) (pz_D0 (A := fun _ => True)) hN⟩ rfl rfl hl.1 rfl (lv_room (Nat.le_of_ble_eq_true rfl)) dX11_ship_6 ⟨Nat.le_of_ble_eq_true rfl, Nat.le_of_ble_eq_true rfl⟩) (fun r21 hw22 => ?_)
  obtain ⟨hw22r, hw22p⟩ := hw22
  refine lv_if_eq (tgt := 22) hx hb dX11_ship_9 (by decide) (fun c23 => ?_) (fun c23 => ?_)
  · have ic23 : r21.toInt = 0 := zi_eq rfl rfl c23
    have p24 : ¬ ((1000) ≤ (u.toInt) ∧ (u.toInt) ≤ (200000)) := (tp_cond.no hw22p) (by omega)
    clear hw22r ic23
    refine lv_aload_n hx hb dX11_ship_22 rfl (lv_at hl 0 rfl) ?_
    refine lv_iconst (v := (-1)) hx hb dX11_ship_23 (by decide) ?_
    refine tpk_12 hT ht_h0 (fun o25_x6 hf_o25 => ?_)
    refine tpk_pos (tp_in hG ht_h0 (by decide)) hf_o25 (fun q26 eq26 => ?_)
    have hFc := tp_fr hD hS hA
    refine va_calli (va_runV (As := [.int (-1)]) (rest := []) ⟨hx, hb, hml, hown, hts⟩ (t_X11_refuse l dC dI _ Ω κ τ ν ρ L f hG hT h0 ((-1)) ht_h0) (cwV 1 hts gX11_ship_X11_refuse rfl rfl rfl ⟨rfl, pd_X11_refuse⟩ ⟨Nat.le_of_ble_eq_true rfl, Nat.le_of_ble_eq_true rfl⟩) ⟨pz_blind, va_recv hK hP (ci := 11) (q0 := q26) rfl eq26, pz_pre hP hK hD hN⟩ rfl rfl hl.1 rfl (lv_room (Nat.le_of_ble_eq_true rfl)) dX11_ship_24 ⟨Nat.le_of_ble_eq_true rfl, Nat.le_of_ble_eq_true rfl⟩) hS (fun q _ h => hFc q h) hFc (fun r27 f29 t H1 locs ht hvm hw28 hB hz1 hk1 hS => ?_)
    refine tn_4 hw28 (fun hT hF30 hw28r hw28p => ?_); clear hw28
    have hR := hR.then hF30 (by decide)
    have hX := hX.fr hF30 (by decide)
    have hP := hB.1; rw [ht] at hP; have hD := tp_ad f29 hD; clear hB hFc hz1 hk1; subst ht; generalize t.heap = H at hP hS ⊢
    have hw28pq : r27.toInt = (-1) := by rw [hw28p]; rfl
    have ro20_1 := tp_hu ro20_1
    have tv31 : tp_fld (f (ρ h0 0)) 4 = o20_x4.toInt := by rw [hf_o20]; rfl
    have ro20_2 := tp_hu ro20_2
    have tv32 : tp_fld (f (ρ h0 0)) 5 = o20_x5.toInt := by rw [hf_o20]; rfl
    have hf_33 : f29 (ρ h0 0) = .inr (10, [.int o20_x0, .int o20_x1, .int o20_x2, .int o20_x3, .int o20_x4, .int o20_x5, .int o20_x6, .ref (ρ (ρ h0 0) 7), .ref (ρ (ρ h0 0) 8), .ref (ρ (ρ h0 0) 9), .ref (ρ (ρ h0 0) 10), .ref (ρ (ρ h0 0) 11), .ref (ρ (ρ h0 0) 12), .ref (ρ (ρ h0 0) 13), .ref (ρ (ρ h0 0) 14), .ref (ρ (ρ h0 0) 15), .ref (ρ (ρ h0 0) 16), .ref (ρ (ρ h0 0) 17), .ref (ρ (ρ h0 0) 18)]) := (hF30 _ (by rw [tp_iu y1]; decide)).trans hf_o20
    have tv34 : tp_fld (f29 (ρ h0 0)) 5 = o20_x5.toInt := by rw [hf_33]; rfl
    have ro20_0 := tp_hu ro20_0
    have tv35 : tp_fld (f29 (ρ h0 0)) 0 = o20_x0.toInt := by rw [hf_33]; rfl
    have tv36 : tp_fld (f (ρ h0 0)) 0 = o20_x0.toInt := by rw [hf_o20]; rfl
    have tv37 : tp_fld (f29 (ρ h0 0)) 4 = o20_x4.toInt := by rw [hf_33]; rfl
    exact W.iret (v := r27) hx hb hr (fun t ht hW => ⟨⟨r27, f29, rfl, ⟨hT, hR, trivial, ⟨hX, (by rw [tv31, tv32, tv34, tv35, tv36, tv37]; exact ⟨⟨fun q0 => by omega, fun q0 => ⟨fun q1 => by omega, fun q1 => ⟨fun q2 => by omega, fun q2 => (by omega)⟩⟩⟩, ⟨fun q0 => by omega, fun q0 => ⟨fun q1 => by omega, fun q1 => ⟨fun q2 => by omega, fun q2 => (by omega)⟩⟩⟩, (by omega), (by omega)⟩)⟩⟩, by rw [ht]; exact hP, va_K.moved hW.alike hK, hD⟩, hS.F ht⟩) hS.2.2 dX11_ship_27
  · have ic23 : r21.toInt ≠ 0 := zi_eqf rfl rfl c23
    have p38 : (1000) ≤ (u.toInt) ∧ (u.toInt) ≤ (200000) := (tp_cond.yes hw22p) (by omega)
    clear hw22r ic23
    refine lv_iload_n hx hb dX11_ship_12 rfl (lv_at hl 3 rfl) ?_
    refine lv_iconst (v := 1) hx hb dX11_ship_13 (by decide) ?_
    refine lv_bipush (v := 50) hx hb dX11_ship_14 (by decide) ?_
    refine pz_calli (va_runS (As := [.int a, .int 1, .int 50]) (rest := []) ⟨hx, hb, hml, hown, hts⟩ (t_X11_within l dC dI _ a (1) (50) (a.toInt) (1) (50) rfl rfl rfl) (va_cwS 3 hts gX11_ship_X11_within rfl rfl rfl pd_X11_within ⟨Nat.le_of_ble_eq_true rfl, Nat.le_of_ble_eq_true rfl⟩) ⟨pz_blind, pz_pre pz_P0 (hK.sub (tys' := []) [] rfl) (pz_D0 (A := fun _ => True)) hN⟩ rfl rfl hl.1 rfl (lv_room (Nat.le_of_ble_eq_true rfl)) dX11_ship_16 ⟨Nat.le_of_ble_eq_true rfl, Nat.le_of_ble_eq_true rfl⟩) (fun r39 hw40 => ?_)
    obtain ⟨hw40r, hw40p⟩ := hw40
    refine lv_if_ne (tgt := 28) hx hb dX11_ship_19 (by decide) (fun c41 => ?_) (fun c41 => ?_)
    · have ic41 : r39.toInt ≠ 0 := zi_ne rfl rfl c41
      have p42 : (1) ≤ (a.toInt) ∧ (a.toInt) ≤ (50) := (tp_cond.yes hw40p) (by omega)
      clear hw40r ic41
      refine lv_aload_n hx hb dX11_ship_28 rfl (lv_at hl 0 rfl) ?_
      refine tpk_12 hT ht_h0 (fun o43_x6 hf_o43 => ?_)
      refine tpk_pos (tp_in hG ht_h0 (by decide)) hf_o43 (fun q44 eq44 => ?_)
      refine va_get (D := (dC, dI)) (ci := 11) (v := .ref (ρ h0 0)) (C := RX11) (T := TX11) (N := 7) hx hb hts hfX11 hown hK hP q44 eq44 rfl 0 (by decide) (hts (.fieldLink RX11 10 "ColdShips" "world" "LColdShips$World;") wa_15) (fun _ h9 => h9) rfl dX11_ship_29 ?_
      refine lv_iload_n hx hb dX11_ship_32 rfl (lv_at hl 1 rfl) ?_
      refine tpk_pos (tp_in hG y1 (by decide)) hf_o20 (fun q45 eq45 => ?_)
      have ro20_0 := tp_hu ro20_0; have ro20_1 := tp_hu ro20_1; have ro20_2 := tp_hu ro20_2; have ro20_3 := tp_hu ro20_3
      refine pz_calli (va_runV (As := [.int v]) (rest := []) ⟨hx, hb, hml, hown, hts⟩ (t_X10_hasTerminal l dC dI _ Ω κ τ ν ρ L f hG hT (ρ h0 0) v y1 o20_x0 o20_x1 o20_x2 o20_x3 o20_x4 o20_x5 o20_x6 hf_o20) (cwV 1 hts gX11_ship_X10_hasTerminal rfl rfl rfl ⟨rfl, pd_X10_hasTerminal⟩ ⟨Nat.le_of_ble_eq_true rfl, Nat.le_of_ble_eq_true rfl⟩) ⟨pz_blind, va_recv hK hP (ci := 10) (q0 := q45) rfl eq45, pz_pre hP hK hD hN⟩ rfl rfl hl.1 rfl (lv_room (Nat.le_of_ble_eq_true rfl)) dX11_ship_33 ⟨Nat.le_of_ble_eq_true rfl, Nat.le_of_ble_eq_true rfl⟩) (fun r46 hw47 => ?_)
      obtain ⟨hw47r, hw47p⟩ := hw47
      refine lv_if_ne (tgt := 46) hx hb dX11_ship_36 (by decide) (fun c48 => ?_) (fun c48 => ?_)
      · have ic48 : r46.toInt ≠ 0 := zi_ne rfl rfl c48
        have p49 : 0 ≤ v.toInt ∧ v.toInt < o20_x4.toInt := (tp_cond.yes hw47p) (by omega)
        clear hw47r ic48
        refine lv_aload_n hx hb dX11_ship_46 rfl (lv_at hl 0 rfl) ?_
        refine va_get (D := (dC, dI)) (ci := 11) (v := .ref (ρ h0 0)) (C := RX11) (T := TX11) (N := 7) hx hb hts hfX11 hown hK hP q44 eq44 rfl 0 (by decide) (hts (.fieldLink RX11 10 "ColdShips" "world" "LColdShips$World;") wa_15) (fun _ h9 => h9) rfl dX11_ship_47 ?_
        refine va_getN (D := (dC, dI)) (ci := 10) (v := .int o20_x5) (C := RX10) (T := TX10) (N := 19) hx hb hts hfX10 hown hK hP q45 eq45 rfl 5 (by decide) (va_Nw.use rfl (hN.1 (.fieldLinkNest RX11 81 "ColdShips$World" "shipCount" "I" "ColdShips") nzw_58)) (fun _ h9 => h9) rfl dX11_ship_50 ?_
        refine lv_bipush (v := 6) hx hb dX11_ship_53 (by decide) ?_
        refine lv_icmp_lt (tgt := 65) hx hb dX11_ship_55 (by decide) (fun c50 => ?_) (fun c50 => ?_)
        · have ic50 : o20_x5.toInt < 6 := zi_lt rfl rfl c50
          refine lv_aload_n hx hb dX11_ship_65 rfl (lv_at hl 0 rfl) ?_
          refine va_get (D := (dC, dI)) (ci := 11) (v := .ref (ρ h0 0)) (C := RX11) (T := TX11) (N := 7) hx hb hts hfX11 hown hK hP q44 eq44 rfl 0 (by decide) (hts (.fieldLink RX11 10 "ColdShips" "world" "LColdShips$World;") wa_15) (fun _ h9 => h9) rfl dX11_ship_66 ?_
          refine va_getN (D := (dC, dI)) (ci := 10) (v := .int o20_x5) (C := RX10) (T := TX10) (N := 19) hx hb hts hfX10 hown hK hP q45 eq45 rfl 5 (by decide) (va_Nw.use rfl (hN.1 (.fieldLinkNest RX11 81 "ColdShips$World" "shipCount" "I" "ColdShips") nzw_58)) (fun _ h9 => h9) rfl dX11_ship_69 ?_
          refine lv_istore (lv' := [(4, .int o20_x5), (0, .ref h0), (1, .int v), (2, .int u), (3, .int a)]) hx hb dX11_ship_72 hl (by decide) rfl (fun ls hl => ?_)
          refine lv_aload_n hx hb dX11_ship_74 rfl (lv_at hl 1 rfl) ?_
          refine va_get (D := (dC, dI)) (ci := 11) (v := .ref (ρ h0 0)) (C := RX11) (T := TX11) (N := 7) hx hb hts hfX11 hown hK hP q44 eq44 rfl 0 (by decide) (hts (.fieldLink RX11 10 "ColdShips" "world" "LColdShips$World;") wa_15) (fun _ h9 => h9) rfl dX11_ship_75 ?_
          refine va_getN (D := (dC, dI)) (ci := 10) (v := .ref (ρ (ρ h0 0) 10)) (C := RX10) (T := TX10) (N := 19) hx hb hts hfX10 hown hK hP q45 eq45 rfl 10 (by decide) (va_Nw.use rfl (hN.1 (.fieldLinkNest RX11 84 "ColdShips$World" "ships" "[LColdShips$Ship;" "ColdShips") nzw_69)) (fun _ h9 => h9) rfl dX11_ship_78 ?_
          refine lv_iload hx hb dX11_ship_81 (lv_at hl 0 rfl) ?_
          refine tpk_25 hT y11 (fun g52 hf_o51 hf_o51e => ?_)
          refine tpk_pos (tp_in hG y11 (by decide)) hf_o51 (fun q53 eq53 => ?_)
          refine va_aldq hx hb hK hP q53 5 eq53 rfl (vp_in_iff.mpr ⟨by omega, by omega⟩) dX11_ship_83 ?_
          obtain ⟨b54, hb55⟩ : ∃ b : Nat, b = ρ (ρ (ρ h0 0) 10) o20_x5.toNatClampNeg := ⟨_, rfl⟩
          have hb55t : τ b54 = 6 := by rw [hb55]; exact tpg_25 hG y11 _ (zi_cl (vp_in_iff.mpr ⟨by omega, by omega⟩))
          have hb55g : g52 o20_x5.toNatClampNeg = some b54 := by rw [hb55]; exact hf_o51e _ (zi_cl (vp_in_iff.mpr ⟨by omega, by omega⟩))
          refine W.eq (g2 := F0 m 84 ls (.ref b54 :: [])) (congrArg (fun o => F0 m 84 ls (va_rf o :: [])) hb55g) ?_
          refine lv_iload_n hx hb dX11_ship_84 rfl (lv_at hl 2 rfl) ?_
          refine lv_iload_n hx hb dX11_ship_85 rfl (lv_at hl 3 rfl) ?_
          refine lv_iload_n hx hb dX11_ship_86 rfl (lv_at hl 4 rfl) ?_
          refine tgk_6 hG hb55t (fun y56 y57 y57n y58 y58n y59 y59n y60 y60n y61 y61n y62 y62n => ?_)
          refine tpk_6 hT hb55t (fun o63_x1 o63_x2 o63_x3 o63_x4 o63_x5 o63_x6 o63_x10 o63_x11 o63_x12 o63_x14 hf_o63 ro63_0 ro63_1 ro63_2 => ?_)
          refine tpk_pos (tp_in hG hb55t (by decide)) hf_o63 (fun q64 eq64 => ?_)
          have hFc := tp_fr hD hS hA
          refine va_callv (va_runV (As := [.int v, .int u, .int a]) (rest := []) ⟨hx, hb, hml, hown, hts⟩ (t_X5_begin l dC dI _ Ω κ τ ν ρ L f hG hT b54 v u a hb55t (by first | decide | omega)) (cwV 3 hts gX11_ship_X5_begin rfl rfl rfl ⟨rfl, pd_X5_begin⟩ ⟨Nat.le_of_ble_eq_true rfl, Nat.le_of_ble_eq_true rfl⟩) ⟨pz_blind, va_recv hK hP (ci := 5) (q0 := q64) rfl eq64, pz_pre hP hK hD hN⟩ rfl rfl hl.1 rfl (lv_room (Nat.le_of_ble_eq_true rfl)) dX11_ship_87 ⟨Nat.le_of_ble_eq_true rfl, Nat.le_of_ble_eq_true rfl⟩) hS (fun q _ h => hFc q h) hFc (fun f67 t H1 locs ht hvm hw66 hB hz1 hk1 hS => ?_)
          refine tn_3 hw66 (fun hT hF68 hw66p => ?_); clear hw66
          have hR := hR.then hF68 (by decide)
          have hX := hX.fr hF68 (by decide)
          have hP := hB.1; rw [ht] at hP; have hD := tp_ad f67 hD; clear hB hFc hz1 hk1; subst ht; generalize t.heap = H at hP hS ⊢
          refine lv_aload_n hx hb dX11_ship_90 rfl (lv_at hl 1 rfl) ?_
          have hf_69 : f67 h0 = .inr (11, [.ref (ρ h0 0), .ref (ρ h0 1), .ref (ρ h0 2), .ref (ρ h0 3), .ref (ρ h0 4), .ref (ρ h0 5), .int o43_x6]) := (hF68 _ (by rw [ht_h0]; decide)).trans hf_o43
          refine tpk_pos (tp_in hG ht_h0 (by decide)) hf_69 (fun q70 eq70 => ?_)
          refine va_get (D := (dC, dI)) (ci := 11) (v := .ref (ρ h0 0)) (C := RX11) (T := TX11) (N := 7) hx hb hts hfX11 hown hK hP q70 eq70 rfl 0 (by decide) (hts (.fieldLink RX11 10 "ColdShips" "world" "LColdShips$World;") wa_15) (fun _ h9 => h9) rfl dX11_ship_91 ?_
          refine lv_dup hx hb dX11_ship_94 rfl ?_
          have hf_71 : f67 (ρ h0 0) = .inr (10, [.int o20_x0, .int o20_x1, .int o20_x2, .int o20_x3, .int o20_x4, .int o20_x5, .int o20_x6, .ref (ρ (ρ h0 0) 7), .ref (ρ (ρ h0 0) 8), .ref (ρ (ρ h0 0) 9), .ref (ρ (ρ h0 0) 10), .ref (ρ (ρ h0 0) 11), .ref (ρ (ρ h0 0) 12), .ref (ρ (ρ h0 0) 13), .ref (ρ (ρ h0 0) 14), .ref (ρ (ρ h0 0) 15), .ref (ρ (ρ h0 0) 16), .ref (ρ (ρ h0 0) 17), .ref (ρ (ρ h0 0) 18)]) := (hF68 _ (by rw [tp_iu y1]; decide)).trans hf_o20
          refine tpk_pos (tp_in hG y1 (by decide)) hf_71 (fun q72 eq72 => ?_)
          refine va_getN (D := (dC, dI)) (ci := 10) (v := .int o20_x5) (C := RX10) (T := TX10) (N := 19) hx hb hts hfX10 hown hK hP q72 eq72 rfl 5 (by decide) (va_Nw.use rfl (hN.1 (.fieldLinkNest RX11 81 "ColdShips$World" "shipCount" "I" "ColdShips") nzw_58)) (fun _ h9 => h9) rfl dX11_ship_95 ?_
          refine lv_iconst (v := 1) hx hb dX11_ship_98 (by decide) ?_
          refine lv_iadd hx hb dX11_ship_99 ?_
          refine lv_topi (fun z73 ez73 => ?_)
          have iz73 : z73.toInt = o20_x5.toInt + 1 := zi_add ez73 rfl rfl (by omega) (by omega)
          refine va_putN (D := (dC, dI)) (ci := 10) (v := .int z73) (ty := .int) (C := RX10) (T := TX10) (N := 19) hx hb hts hfX10 tyX10 tyX10_ok nmX10 hown hK hP hD hS q72 eq72 rfl 5 (by decide) (va_Nw.use rfl (hN.1 (.fieldLinkNest RX11 81 "ColdShips$World" "shipCount" "I" "ColdShips") nzw_58)) (fun _ h9 => h9) rfl (tyX10_ok 5 (by decide)) rfl rfl (Nat.le_of_ble_eq_true rfl) dX11_ship_100 (tp_k (.inr (10, [.int o20_x0, .int o20_x1, .int o20_x2, .int o20_x3, .int o20_x4, .int z73, .int o20_x6, .ref (ρ (ρ h0 0) 7), .ref (ρ (ρ h0 0) 8), .ref (ρ (ρ h0 0) 9), .ref (ρ (ρ h0 0) 10), .ref (ρ (ρ h0 0) 11), .ref (ρ (ρ h0 0) 12), .ref (ρ (ρ h0 0) 13), .ref (ρ (ρ h0 0) 14), .ref (ρ (ρ h0 0) 15), .ref (ρ (ρ h0 0) 16), .ref (ρ (ρ h0 0) 17), .ref (ρ (ρ h0 0) 18)])) hD (tp_in hG y1 (by decide)) eq72 (fun f74 H locs hP hD hS g76 k75 => ?_))
          have hT := hT.up y1 g76 k75 ⟨_, _, _, _, _, _, _, rfl, ro20_0, ro20_1, (by first | decide | omega | (omega)), ro20_3⟩
          have hR := hR.up y1 (by decide) k75
          have hX := hX.up k75 (Or.inr (by show (ρ (ρ h0 0) 30) = 0; omega))
          refine lv_aload_n hx hb dX11_ship_103 rfl (lv_at hl 1 rfl) ?_
          refine lv_iload hx hb dX11_ship_104 (lv_at hl 0 rfl) ?_
          have hf_77 : f74 h0 = .inr (11, [.ref (ρ h0 0), .ref (ρ h0 1), .ref (ρ h0 2), .ref (ρ h0 3), .ref (ρ h0 4), .ref (ρ h0 5), .int o43_x6]) := (k75 _ (tp_ne ht_h0 y1 (by decide))).trans hf_69
          refine tpk_pos (tp_in hG ht_h0 (by decide)) hf_77 (fun q78 eq78 => ?_)
          have hFc := tp_fr hD hS hA
          refine va_calli (va_runV (As := [.int o20_x5]) (rest := []) ⟨hx, hb, hml, hown, hts⟩ (t_X11_accept l dC dI _ Ω κ τ ν ρ L f74 hG hT h0 o20_x5 ht_h0) (cwV 1 hts gX11_ship_X11_accept rfl rfl rfl ⟨rfl, pd_X11_accept⟩ ⟨Nat.le_of_ble_eq_true rfl, Nat.le_of_ble_eq_true rfl⟩) ⟨pz_blind, va_recv hK hP (ci := 11) (q0 := q78) rfl eq78, pz_pre hP hK hD hN⟩ rfl rfl hl.1 rfl (lv_room (Nat.le_of_ble_eq_true rfl)) dX11_ship_106 ⟨Nat.le_of_ble_eq_true rfl, Nat.le_of_ble_eq_true rfl⟩) hS (fun q _ h => hFc q h) hFc (fun r79 f81 t H1 locs ht hvm hw80 hB hz1 hk1 hS => ?_)
          refine tn_4 hw80 (fun hT hF82 hw80r hw80p => ?_); clear hw80
          have hR := hR.then hF82 (by decide)
          have hX := hX.fr hF82 (by decide)
          have hP := hB.1; rw [ht] at hP; have hD := tp_ad f81 hD; clear hB hFc hz1 hk1; subst ht; generalize t.heap = H at hP hS ⊢
          have hw80pq : r79.toInt = o20_x5.toInt := by rw [hw80p]
          have tv83 : tp_fld (f (ρ h0 0)) 4 = o20_x4.toInt := by rw [hf_o20]; rfl
          have tv84 : tp_fld (f (ρ h0 0)) 5 = o20_x5.toInt := by rw [hf_o20]; rfl
          have hf_85 : f81 (ρ h0 0) = .inr (10, [.int o20_x0, .int o20_x1, .int o20_x2, .int o20_x3, .int o20_x4, .int z73, .int o20_x6, .ref (ρ (ρ h0 0) 7), .ref (ρ (ρ h0 0) 8), .ref (ρ (ρ h0 0) 9), .ref (ρ (ρ h0 0) 10), .ref (ρ (ρ h0 0) 11), .ref (ρ (ρ h0 0) 12), .ref (ρ (ρ h0 0) 13), .ref (ρ (ρ h0 0) 14), .ref (ρ (ρ h0 0) 15), .ref (ρ (ρ h0 0) 16), .ref (ρ (ρ h0 0) 17), .ref (ρ (ρ h0 0) 18)]) := (hF82 _ (by rw [tp_iu y1]; decide)).trans g76
          have tv86 : tp_fld (f81 (ρ h0 0)) 5 = z73.toInt := by rw [hf_85]; rfl
          have tv87 : tp_fld (f81 (ρ h0 0)) 0 = o20_x0.toInt := by rw [hf_85]; rfl
          have tv88 : tp_fld (f (ρ h0 0)) 0 = o20_x0.toInt := by rw [hf_o20]; rfl
          have tv89 : tp_fld (f81 (ρ h0 0)) 4 = o20_x4.toInt := by rw [hf_85]; rfl
          exact W.iret (v := r79) hx hb hr (fun t ht hW => ⟨⟨r79, f81, rfl, ⟨hT, hR, trivial, ⟨hX, (by rw [tv83, tv84, tv86, tv87, tv88, tv89]; exact ⟨⟨fun q0 => by omega, fun q0 => ⟨fun q1 => by omega, fun q1 => ⟨fun q2 => by omega, fun q2 => (by omega)⟩⟩⟩, ⟨fun q0 => by omega, fun q0 => ⟨fun q1 => by omega, fun q1 => ⟨fun q2 => by omega, fun q2 => (by omega)⟩⟩⟩, (by omega), (by omega)⟩)⟩⟩, by rw [ht]; exact hP, va_K.moved hW.alike hK, hD⟩, hS.F ht⟩) hS.2.2 dX11_ship_109
        · have ic50 : o20_x5.toInt ≥ 6 := zi_ltf rfl rfl c50
          refine lv_aload_n hx hb dX11_ship_58 rfl (lv_at hl 0 rfl) ?_
          refine lv_bipush (v := (-5)) hx hb dX11_ship_59 (by decide) ?_
          have hFc := tp_fr hD hS hA
          refine va_calli (va_runV (As := [.int (-5)]) (rest := []) ⟨hx, hb, hml, hown, hts⟩ (t_X11_refuse l dC dI _ Ω κ τ ν ρ L f hG hT h0 ((-5)) ht_h0) (cwV 1 hts gX11_ship_X11_refuse rfl rfl rfl ⟨rfl, pd_X11_refuse⟩ ⟨Nat.le_of_ble_eq_true rfl, Nat.le_of_ble_eq_true rfl⟩) ⟨pz_blind, va_recv hK hP (ci := 11) (q0 := q44) rfl eq44, pz_pre hP hK hD hN⟩ rfl rfl hl.1 rfl (lv_room (Nat.le_of_ble_eq_true rfl)) dX11_ship_61 ⟨Nat.le_of_ble_eq_true rfl, Nat.le_of_ble_eq_true rfl⟩) hS (fun q _ h => hFc q h) hFc (fun r90 f92 t H1 locs ht hvm hw91 hB hz1 hk1 hS => ?_)
          refine tn_4 hw91 (fun hT hF93 hw91r hw91p => ?_); clear hw91
          have hR := hR.then hF93 (by decide)
          have hX := hX.fr hF93 (by decide)
          have hP := hB.1; rw [ht] at hP; have hD := tp_ad f92 hD; clear hB hFc hz1 hk1; subst ht; generalize t.heap = H at hP hS ⊢
          have hw91pq : r90.toInt = (-5) := by rw [hw91p]; rfl
          have tv94 : tp_fld (f (ρ h0 0)) 4 = o20_x4.toInt := by rw [hf_o20]; rfl
          have tv95 : tp_fld (f (ρ h0 0)) 5 = o20_x5.toInt := by rw [hf_o20]; rfl
          have hf_96 : f92 (ρ h0 0) = .inr (10, [.int o20_x0, .int o20_x1, .int o20_x2, .int o20_x3, .int o20_x4, .int o20_x5, .int o20_x6, .ref (ρ (ρ h0 0) 7), .ref (ρ (ρ h0 0) 8), .ref (ρ (ρ h0 0) 9), .ref (ρ (ρ h0 0) 10), .ref (ρ (ρ h0 0) 11), .ref (ρ (ρ h0 0) 12), .ref (ρ (ρ h0 0) 13), .ref (ρ (ρ h0 0) 14), .ref (ρ (ρ h0 0) 15), .ref (ρ (ρ h0 0) 16), .ref (ρ (ρ h0 0) 17), .ref (ρ (ρ h0 0) 18)]) := (hF93 _ (by rw [tp_iu y1]; decide)).trans hf_o20
          have tv97 : tp_fld (f92 (ρ h0 0)) 5 = o20_x5.toInt := by rw [hf_96]; rfl
          have tv98 : tp_fld (f92 (ρ h0 0)) 0 = o20_x0.toInt := by rw [hf_96]; rfl
          have tv99 : tp_fld (f (ρ h0 0)) 0 = o20_x0.toInt := by rw [hf_o20]; rfl
          have tv100 : tp_fld (f92 (ρ h0 0)) 4 = o20_x4.toInt := by rw [hf_96]; rfl
          exact W.iret (v := r90) hx hb hr (fun t ht hW => ⟨⟨r90, f92, rfl, ⟨hT, hR, trivial, ⟨hX, (by rw [tv94, tv95, tv97, tv98, tv99, tv100]; exact ⟨⟨fun q0 => by omega, fun q0 => ⟨fun q1 => by omega, fun q1 => ⟨fun q2 => by omega, fun q2 => (by omega)⟩⟩⟩, ⟨fun q0 => by omega, fun q0 => ⟨fun q1 => by omega, fun q1 => ⟨fun q2 => by omega, fun q2 => (by omega)⟩⟩⟩, (by omega), (by omega)⟩)⟩⟩, by rw [ht]; exact hP, va_K.moved hW.alike hK, hD⟩, hS.F ht⟩) hS.2.2 dX11_ship_64
      · have ic48 : r46.toInt = 0 := zi_nef rfl rfl c48
        have p101 : ¬ (0 ≤ v.toInt ∧ v.toInt < o20_x4.toInt) := (tp_cond.no hw47p) (by omega)
        clear hw47r ic48
        refine lv_aload_n hx hb dX11_ship_39 rfl (lv_at hl 0 rfl) ?_
        refine lv_bipush (v := (-2)) hx hb dX11_ship_40 (by decide) ?_
        have hFc := tp_fr hD hS hA
        refine va_calli (va_runV (As := [.int (-2)]) (rest := []) ⟨hx, hb, hml, hown, hts⟩ (t_X11_refuse l dC dI _ Ω κ τ ν ρ L f hG hT h0 ((-2)) ht_h0) (cwV 1 hts gX11_ship_X11_refuse rfl rfl rfl ⟨rfl, pd_X11_refuse⟩ ⟨Nat.le_of_ble_eq_true rfl, Nat.le_of_ble_eq_true rfl⟩) ⟨pz_blind, va_recv hK hP (ci := 11) (q0 := q44) rfl eq44, pz_pre hP hK hD hN⟩ rfl rfl hl.1 rfl (lv_room (Nat.le_of_ble_eq_true rfl)) dX11_ship_42 ⟨Nat.le_of_ble_eq_true rfl, Nat.le_of_ble_eq_true rfl⟩) hS (fun q _ h => hFc q h) hFc (fun r102 f104 t H1 locs ht hvm hw103 hB hz1 hk1 hS => ?_)
        refine tn_4 hw103 (fun hT hF105 hw103r hw103p => ?_); clear hw103
        have hR := hR.then hF105 (by decide)
        have hX := hX.fr hF105 (by decide)
        have hP := hB.1; rw [ht] at hP; have hD := tp_ad f104 hD; clear hB hFc hz1 hk1; subst ht; generalize t.heap = H at hP hS ⊢
        have hw103pq : r102.toInt = (-2) := by rw [hw103p]; rfl
        have tv106 : tp_fld (f (ρ h0 0)) 4 = o20_x4.toInt := by rw [hf_o20]; rfl
        have tv107 : tp_fld (f (ρ h0 0)) 5 = o20_x5.toInt := by rw [hf_o20]; rfl
        have hf_108 : f104 (ρ h0 0) = .inr (10, [.int o20_x0, .int o20_x1, .int o20_x2, .int o20_x3, .int o20_x4, .int o20_x5, .int o20_x6, .ref (ρ (ρ h0 0) 7), .ref (ρ (ρ h0 0) 8), .ref (ρ (ρ h0 0) 9), .ref (ρ (ρ h0 0) 10), .ref (ρ (ρ h0 0) 11), .ref (ρ (ρ h0 0) 12), .ref (ρ (ρ h0 0) 13), .ref (ρ (ρ h0 0) 14), .ref (ρ (ρ h0 0) 15), .ref (ρ (ρ h0 0) 16), .ref (ρ (ρ h0 0) 17), .ref (ρ (ρ h0 0) 18)]) := (hF105 _ (by rw [tp_iu y1]; decide)).trans hf_o20
        have tv109 : tp_fld (f104 (ρ h0 0)) 5 = o20_x5.toInt := by rw [hf_108]; rfl
        have tv110 : tp_fld (f104 (ρ h0 0)) 0 = o20_x0.toInt := by rw [hf_108]; rfl
        have tv111 : tp_fld (f (ρ h0 0)) 0 = o20_x0.toInt := by rw [hf_o20]; rfl
        have tv112 : tp_fld (f104 (ρ h0 0)) 4 = o20_x4.toInt := by rw [hf_108]; rfl
        exact W.iret (v := r102) hx hb hr (fun t ht hW => ⟨⟨r102, f104, rfl, ⟨hT, hR, trivial, ⟨hX, (by rw [tv106, tv107, tv109, tv110, tv111, tv112]; exact ⟨⟨fun q0 => by omega, fun q0 => ⟨fun q1 => by omega, fun q1 => ⟨fun q2 => by omega, fun q2 => (by omega)⟩⟩⟩, ⟨fun q0 => by omega, fun q0 => ⟨fun q1 => by omega, fun q1 => ⟨fun q2 => by omega, fun q2 => (by omega)⟩⟩⟩, (by omega), (by omega)⟩)⟩⟩, by rw [ht]; exact hP, va_K.moved hW.alike hK, hD⟩, hS.F ht⟩) hS.2.2 dX11_ship_45
    · have ic41 : r39.toInt = 0 := zi_nef rfl rfl c41
      have p113 : ¬ ((1) ≤ (a.toInt) ∧ (a.toInt) ≤ (50)) := (tp_cond.no hw40p) (by omega)
      clear hw40r ic41
      refine lv_aload_n hx hb dX11_ship_22 rfl (lv_at hl 0 rfl) ?_
      refine lv_iconst (v := (-1)) hx hb dX11_ship_23 (by decide) ?_
      refine tpk_12 hT ht_h0 (fun o114_x6 hf_o114 => ?_)
      refine tpk_pos (tp_in hG ht_h0 (by decide)) hf_o114 (fun q115 eq115 => ?_)
      have hFc := tp_fr hD hS hA
      refine va_calli (va_runV (As := [.int (-1)]) (rest := []) ⟨hx, hb, hml, hown, hts⟩ (t_X11_refuse l dC dI _ Ω κ τ ν ρ L f hG hT h0 ((-1)) ht_h0) (cwV 1 hts gX11_ship_X11_refuse rfl rfl rfl ⟨rfl, pd_X11_refuse⟩ ⟨Nat.le_of_ble_eq_true rfl, Nat.le_of_ble_eq_true rfl⟩) ⟨pz_blind, va_recv hK hP (ci := 11) (q0 := q115) rfl eq115, pz_pre hP hK hD hN⟩ rfl rfl hl.1 rfl (lv_room (Nat.le_of_ble_eq_true rfl)) dX11_ship_24 ⟨Nat.le_of_ble_eq_true rfl, Nat.le_of_ble_eq_true rfl⟩) hS (fun q _ h => hFc q h) hFc (fun r116 f118 t H1 locs ht hvm hw117 hB hz1 hk1 hS => ?_)
      refine tn_4 hw117 (fun hT hF119 hw117r hw117p => ?_); clear hw117
      have hR := hR.then hF119 (by decide)
      have hX := hX.fr hF119 (by decide)
      have hP := hB.1; rw [ht] at hP; have hD := tp_ad f118 hD; clear hB hFc hz1 hk1; subst ht; generalize t.heap = H at hP hS ⊢
      have hw117pq : r116.toInt = (-1) := by rw [hw117p]; rfl
      have ro20_1 := tp_hu ro20_1
      have tv120 : tp_fld (f (ρ h0 0)) 4 = o20_x4.toInt := by rw [hf_o20]; rfl
      have ro20_2 := tp_hu ro20_2
      have tv121 : tp_fld (f (ρ h0 0)) 5 = o20_x5.toInt := by rw [hf_o20]; rfl
      have hf_122 : f118 (ρ h0 0) = .inr (10, [.int o20_x0, .int o20_x1, .int o20_x2, .int o20_x3, .int o20_x4, .int o20_x5, .int o20_x6, .ref (ρ (ρ h0 0) 7), .ref (ρ (ρ h0 0) 8), .ref (ρ (ρ h0 0) 9), .ref (ρ (ρ h0 0) 10), .ref (ρ (ρ h0 0) 11), .ref (ρ (ρ h0 0) 12), .ref (ρ (ρ h0 0) 13), .ref (ρ (ρ h0 0) 14), .ref (ρ (ρ h0 0) 15), .ref (ρ (ρ h0 0) 16), .ref (ρ (ρ h0 0) 17), .ref (ρ (ρ h0 0) 18)]) := (hF119 _ (by rw [tp_iu y1]; decide)).trans hf_o20
      have tv123 : tp_fld (f118 (ρ h0 0)) 5 = o20_x5.toInt := by rw [hf_122]; rfl
      have ro20_0 := tp_hu ro20_0
      have tv124 : tp_fld (f118 (ρ h0 0)) 0 = o20_x0.toInt := by rw [hf_122]; rfl
      have tv125 : tp_fld (f (ρ h0 0)) 0 = o20_x0.toInt := by rw [hf_o20]; rfl
      have tv126 : tp_fld (f118 (ρ h0 0)) 4 = o20_x4.toInt := by rw [hf_122]; rfl
      exact W.iret (v := r116) hx hb hr (fun t ht hW => ⟨⟨r116, f118, rfl, ⟨hT, hR, trivial, ⟨hX, (by rw [tv120, tv121, tv123, tv124, tv125, tv126]; exact ⟨⟨fun q0 => by omega, fun q0 => ⟨fun q1 => by omega, fun q1 => ⟨fun q2 => by omega, fun q2 => (by omega)⟩⟩⟩, ⟨fun q0 => by omega, fun q0 => ⟨fun q1 => by omega, fun q1 => ⟨fun q2 => by omega, fun q2 => (by omega)⟩⟩⟩, (by omega), (by omega)⟩)⟩⟩, by rw [ht]; exact hP, va_K.moved hW.alike hK, hD⟩, hS.F ht⟩) hS.2.2 dX11_ship_27
set_option maxHeartbeats 4000000 in
set_option maxRecDepth 100000 in
theorem t_X11_way (l : Launch) (dC : Nat → ClassId) (dI : Nat → Nat → Nat) (sz : Nat) (Ω : Nat → Nat → (Nat → Nat) → va_E → Prop) (κ : Nat → ClassId) (τ ν : Nat → Nat) (ρ : Nat → Nat → Nat) (L : List Nat) (f : Nat → va_E) (hG : tp_G τ ν ρ L) (hT : tp_T Ω κ τ ν ρ f) (h0 : Nat) (v : Int32) (u : Int32) (a : Int32) (b : Int32) (ht_h0 : τ h0 = 12) : Met l yX11_way wqX11_way ({ frames := 4, cells := 0, slots := 0, locals := 1200 }) (va_Pc [.ref h0, .int v, .int u, .int a, .int b] (pz_B dC dI (tp_K κ) (va_pl L f) sz)) (va_Qi (fun (r : Int32) (f1 : Nat → va_E) => tp_T Ω κ τ ν ρ f1 ∧ tp_F τ [12, 20] f f1 ∧ True ∧ ((((¬ (1 ≤ a.toInt ∧ a.toInt ≤ 400)) → r.toInt = -1) ∧ (¬ (¬ (1 ≤ a.toInt ∧ a.toInt ≤ 400)) → (((¬ ((0 ≤ v.toInt ∧ v.toInt < (tp_fld (f (ρ h0 0)) 4)) ∧ (0 ≤ u.toInt ∧ u.toInt < (tp_fld (f (ρ h0 0)) 4)))) → r.toInt = -2) ∧ (¬ (¬ ((0 ≤ v.toInt ∧ v.toInt < (tp_fld (f (ρ h0 0)) 4)) ∧ (0 ≤ u.toInt ∧ u.toInt < (tp_fld (f (ρ h0 0)) 4)))) → (((v.toInt = u.toInt) → r.toInt = -3) ∧ (¬ (v.toInt = u.toInt) → r.toInt = 0)))))))) (fun (f1 : Nat → va_E) (t : State) => pz_E dC dI (tp_K κ) (va_A (va_pl L f) sz) (va_pl L f1) t) (va_A (va_pl L f) sz)) 0 0 (va_A (va_pl L f) sz) := by
  refine Met.ofW (cc := cX11_way) (maxL := 5) (ret := some .int) (by decide) rfl ?_
  intro p e s m args below meth c s₁ B hml hv
  obtain ⟨rfl, hsz, hP, hK, hD0, hN⟩ := hv
  have hx := B.exec
  have hb := B.bytes
  have hr := B.returns
  have hts := fun (w : Cond) (h : w ∈ WALL) => atoms_spec (ws := wqX11_way) B.pre w (List.mem_cons_of_mem _ h)
  have hown : s.vm.findClass RX11 = some m.cls := findClass_of_methodNamed B.named
  have hlocks := B.notSynchronized
  subst hsz
  have hD := hD0.self (sz := s.heap.size)
  generalize hAe : va_A (va_pl L f) s.heap.size = A at hD ⊢
  have hA : ∀ q : Nat, s.heap.size ≤ q → A q := fun q h => by rw [← hAe]; exact Or.inr h
  have hS : va_S A s.heap s.heap [] := va_S.rf
  have hR : tp_F τ [12, 20] f f := tp_F.rf
  have hl := lv_entry ([.ref h0, .int v, .int u, .int a, .int b]) (n := 5) (Nat.le_of_ble_eq_true rfl)
  rw [lg_entry_eq]
  generalize (lg_sl ([.ref h0, .int v, .int u, .int a, .int b]) ++ List.replicate (5 - (lg_sl ([.ref h0, .int v, .int u, .int a, .int b])).length) Slot.unset).toArray = ls at hl ⊢
  have hl : lv_has ls 5 [(0, .ref h0), (1, .int v), (2, .int u), (3, .int a), (4, .int b)] := hl
  refine tgk_12 hG ht_h0 (fun y1 y1l y2 y3 y4 y5 y6 y7a y7b y7c => ?_)
  refine tgk_11 hG y1 (fun y8 y8n y9 y9n y10 y11 y12 y13 y13m y13l y14 y14m y14l y15 y15m y15l y16 y16w y16m y16l y17 y17w y17m y17l y18 y18w y18m y18l y19 y19w y19m y19l => ?_)
  refine tpk_11 hT y1 (fun o20_x0 o20_x1 o20_x2 o20_x3 o20_x4 o20_x5 o20_x6 hf_o20 ro20_0 ro20_1 ro20_2 ro20_3 => ?_)
  refine lv_iload_n hx hb dX11_way_0 rfl (lv_at hl 3 rfl) ?_
  refine lv_iconst (v := 1) hx hb dX11_way_1 (by decide) ?_
  refine lv_sipush (v := 400) hx hb dX11_way_2 (by decide) ?_
  refine pz_calli (va_runS (As := [.int a, .int 1, .int 400]) (rest := []) ⟨hx, hb, hml, hown, hts⟩ (t_X11_within l dC dI _ a (1) (400) (a.toInt) (1) (400) rfl rfl rfl) (va_cwS 3 hts gX11_way_X11_within rfl rfl rfl pd_X11_within ⟨Nat.le_of_ble_eq_true rfl, Nat.le_of_ble_eq_true rfl⟩) ⟨pz_blind, pz_pre pz_P0 (hK.sub (tys' := []) [] rfl) (pz_D0 (A := fun _ => True)) hN⟩ rfl rfl hl.1 rfl (lv_room (Nat.le_of_ble_eq_true rfl)) dX11_way_5 ⟨Nat.le_of_ble_eq_true rfl, Nat.le_of_ble_eq_true rfl⟩) (fun r21 hw22 => ?_)
  obtain ⟨hw22r, hw22p⟩ := hw22
  refine lv_if_ne (tgt := 17) hx hb dX11_way_8 (by decide) (fun c23 => ?_) (fun c23 => ?_)
  · have ic23 : r21.toInt ≠ 0 := zi_ne rfl rfl c23
    have p24 : (1) ≤ (a.toInt) ∧ (a.toInt) ≤ (400) := (tp_cond.yes hw22p) (by omega)
    clear hw22r ic23
    refine lv_aload_n hx hb dX11_way_17 rfl (lv_at hl 0 rfl) ?_
    refine tpk_12 hT ht_h0 (fun o25_x6 hf_o25 => ?_)
    refine tpk_pos (tp_in hG ht_h0 (by decide)) hf_o25 (fun q26 eq26 => ?_)
    refine va_get (D := (dC, dI)) (ci := 11) (v := .ref (ρ h0 0)) (C := RX11) (T := TX11) (N := 7) hx hb hts hfX11 hown hK hP q26 eq26 rfl 0 (by decide) (hts (.fieldLink RX11 10 "ColdShips" "world" "LColdShips$World;") wa_15) (fun _ h9 => h9) rfl dX11_way_18 ?_
    refine lv_iload_n hx hb dX11_way_21 rfl (lv_at hl 1 rfl) ?_
    refine tpk_pos (tp_in hG y1 (by decide)) hf_o20 (fun q27 eq27 => ?_)
    have ro20_0 := tp_hu ro20_0; have ro20_1 := tp_hu ro20_1; have ro20_2 := tp_hu ro20_2; have ro20_3 := tp_hu ro20_3
    refine pz_calli (va_runV (As := [.int v]) (rest := []) ⟨hx, hb, hml, hown, hts⟩ (t_X10_hasTerminal l dC dI _ Ω κ τ ν ρ L f hG hT (ρ h0 0) v y1 o20_x0 o20_x1 o20_x2 o20_x3 o20_x4 o20_x5 o20_x6 hf_o20) (cwV 1 hts gX11_way_X10_hasTerminal rfl rfl rfl ⟨rfl, pd_X10_hasTerminal⟩ ⟨Nat.le_of_ble_eq_true rfl, Nat.le_of_ble_eq_true rfl⟩) ⟨pz_blind, va_recv hK hP (ci := 10) (q0 := q27) rfl eq27, pz_pre hP hK hD hN⟩ rfl rfl hl.1 rfl (lv_room (Nat.le_of_ble_eq_true rfl)) dX11_way_22 ⟨Nat.le_of_ble_eq_true rfl, Nat.le_of_ble_eq_true rfl⟩) (fun r28 hw29 => ?_)
    obtain ⟨hw29r, hw29p⟩ := hw29
    refine lv_if_eq (tgt := 39) hx hb dX11_way_25 (by decide) (fun c30 => ?_) (fun c30 => ?_)
    · have ic30 : r28.toInt = 0 := zi_eq rfl rfl c30
      have p31 : ¬ (0 ≤ v.toInt ∧ v.toInt < o20_x4.toInt) := (tp_cond.no hw29p) (by omega)
      clear hw29r ic30
      refine lv_aload_n hx hb dX11_way_39 rfl (lv_at hl 0 rfl) ?_
      refine lv_bipush (v := (-2)) hx hb dX11_way_40 (by decide) ?_
      have hFc := tp_fr hD hS hA
      refine va_calli (va_runV (As := [.int (-2)]) (rest := []) ⟨hx, hb, hml, hown, hts⟩ (t_X11_refuse l dC dI _ Ω κ τ ν ρ L f hG hT h0 ((-2)) ht_h0) (cwV 1 hts gX11_way_X11_refuse rfl rfl rfl ⟨rfl, pd_X11_refuse⟩ ⟨Nat.le_of_ble_eq_true rfl, Nat.le_of_ble_eq_true rfl⟩) ⟨pz_blind, va_recv hK hP (ci := 11) (q0 := q26) rfl eq26, pz_pre hP hK hD hN⟩ rfl rfl hl.1 rfl (lv_room (Nat.le_of_ble_eq_true rfl)) dX11_way_42 ⟨Nat.le_of_ble_eq_true rfl, Nat.le_of_ble_eq_true rfl⟩) hS (fun q _ h => hFc q h) hFc (fun r32 f34 t H1 locs ht hvm hw33 hB hz1 hk1 hS => ?_)
      refine tn_4 hw33 (fun hT hF35 hw33r hw33p => ?_); clear hw33
      have hR := hR.then hF35 (by decide)
      have hP := hB.1; rw [ht] at hP; have hD := tp_ad f34 hD; clear hB hFc hz1 hk1; subst ht; generalize t.heap = H at hP hS ⊢
      have hw33pq : r32.toInt = (-2) := by rw [hw33p]; rfl
      have tv36 : tp_fld (f (ρ h0 0)) 4 = o20_x4.toInt := by rw [hf_o20]; rfl
      exact W.iret (v := r32) hx hb hr (fun t ht hW => ⟨⟨r32, f34, rfl, ⟨hT, hR, trivial, (by first | (rw [tv36]; done) | (rw [tv36]; exact ⟨fun q0 => by omega, fun q0 => ⟨fun q1 => by omega, fun q1 => ⟨fun q2 => by omega, fun q2 => (by omega)⟩⟩⟩))⟩, by rw [ht]; exact hP, va_K.moved hW.alike hK, hD⟩, hS.F ht⟩) hS.2.2 dX11_way_45
    · have ic30 : r28.toInt ≠ 0 := zi_eqf rfl rfl c30
      have p37 : 0 ≤ v.toInt ∧ v.toInt < o20_x4.toInt := (tp_cond.yes hw29p) (by omega)
      clear hw29r ic30
      refine lv_aload_n hx hb dX11_way_28 rfl (lv_at hl 0 rfl) ?_
      refine va_get (D := (dC, dI)) (ci := 11) (v := .ref (ρ h0 0)) (C := RX11) (T := TX11) (N := 7) hx hb hts hfX11 hown hK hP q26 eq26 rfl 0 (by decide) (hts (.fieldLink RX11 10 "ColdShips" "world" "LColdShips$World;") wa_15) (fun _ h9 => h9) rfl dX11_way_29 ?_
      refine lv_iload_n hx hb dX11_way_32 rfl (lv_at hl 2 rfl) ?_
      refine pz_calli (va_runV (As := [.int u]) (rest := []) ⟨hx, hb, hml, hown, hts⟩ (t_X10_hasTerminal l dC dI _ Ω κ τ ν ρ L f hG hT (ρ h0 0) u y1 o20_x0 o20_x1 o20_x2 o20_x3 o20_x4 o20_x5 o20_x6 hf_o20) (cwV 1 hts gX11_way_X10_hasTerminal rfl rfl rfl ⟨rfl, pd_X10_hasTerminal⟩ ⟨Nat.le_of_ble_eq_true rfl, Nat.le_of_ble_eq_true rfl⟩) ⟨pz_blind, va_recv hK hP (ci := 10) (q0 := q27) rfl eq27, pz_pre hP hK hD hN⟩ rfl rfl hl.1 rfl (lv_room (Nat.le_of_ble_eq_true rfl)) dX11_way_33 ⟨Nat.le_of_ble_eq_true rfl, Nat.le_of_ble_eq_true rfl⟩) (fun r38 hw39 => ?_)
      obtain ⟨hw39r, hw39p⟩ := hw39
      refine lv_if_ne (tgt := 46) hx hb dX11_way_36 (by decide) (fun c40 => ?_) (fun c40 => ?_)
      · have ic40 : r38.toInt ≠ 0 := zi_ne rfl rfl c40
        have p41 : 0 ≤ u.toInt ∧ u.toInt < o20_x4.toInt := (tp_cond.yes hw39p) (by omega)
        clear hw39r ic40
        refine lv_iload_n hx hb dX11_way_46 rfl (lv_at hl 1 rfl) ?_
        refine lv_iload_n hx hb dX11_way_47 rfl (lv_at hl 2 rfl) ?_
        refine lv_icmp_ne (tgt := 58) hx hb dX11_way_48 (by decide) (fun c42 => ?_) (fun c42 => ?_)
        · have ic42 : v.toInt ≠ u.toInt := zi_ne rfl rfl c42
          refine lv_aload_n hx hb dX11_way_58 rfl (lv_at hl 0 rfl) ?_
          refine va_get (D := (dC, dI)) (ci := 11) (v := .ref (ρ h0 0)) (C := RX11) (T := TX11) (N := 7) hx hb hts hfX11 hown hK hP q26 eq26 rfl 0 (by decide) (hts (.fieldLink RX11 10 "ColdShips" "world" "LColdShips$World;") wa_15) (fun _ h9 => h9) rfl dX11_way_59 ?_
          refine va_getN (D := (dC, dI)) (ci := 10) (v := .ref (ρ (ρ h0 0) 9)) (C := RX10) (T := TX10) (N := 19) hx hb hts hfX10 hown hK hP q27 eq27 rfl 9 (by decide) (va_Nw.use rfl (hN.1 (.fieldLinkNest RX11 63 "ColdShips$World" "terminals" "[LColdShips$Terminal;" "ColdShips") nzw_65)) (fun _ h9 => h9) rfl dX11_way_62 ?_
          refine lv_iload_n hx hb dX11_way_65 rfl (lv_at hl 1 rfl) ?_
          refine tpk_24 hT y10 (fun g44 hf_o43 hf_o43e => ?_)
          refine tpk_pos (tp_in hG y10 (by decide)) hf_o43 (fun q45 eq45 => ?_)
          refine va_aldq hx hb hK hP q45 4 eq45 rfl (vp_in_iff.mpr ⟨by omega, by omega⟩) dX11_way_66 ?_
          obtain ⟨b46, hb47⟩ : ∃ b : Nat, b = ρ (ρ (ρ h0 0) 9) v.toNatClampNeg := ⟨_, rfl⟩
          have hb47t : τ b46 = 9 := by rw [hb47]; exact tpg_24 hG y10 _ (zi_cl (vp_in_iff.mpr ⟨by omega, by omega⟩))
          have hb47g : g44 v.toNatClampNeg = some b46 := by rw [hb47]; exact hf_o43e _ (zi_cl (vp_in_iff.mpr ⟨by omega, by omega⟩))
          refine W.eq (g2 := F0 m 67 ls (.ref b46 :: [])) (congrArg (fun o => F0 m 67 ls (va_rf o :: [])) hb47g) ?_
          refine lv_iload_n hx hb dX11_way_67 rfl (lv_at hl 2 rfl) ?_
          refine lv_iload_n hx hb dX11_way_68 rfl (lv_at hl 3 rfl) ?_
          refine lv_iload hx hb dX11_way_69 (lv_at hl 4 rfl) ?_
          refine tgk_9 hG hb47t (fun y48 y48n y49 y49n => ?_)
          refine tpk_9 hT hb47t (fun o50_x0 o50_x1 o50_x2 o50_x3 o50_x4 hf_o50 ro50_0 => ?_)
          refine tpk_pos (tp_in hG hb47t (by decide)) hf_o50 (fun q51 eq51 => ?_)
          have hFc := tp_fr hD hS hA
          refine va_callv (va_runV (As := [.int u, .int a, .int b]) (rest := []) ⟨hx, hb, hml, hown, hts⟩ (t_X8_tellWay l dC dI _ Ω κ τ ν ρ L f hG hT b46 u a b hb47t) (cwV 3 hts gX11_way_X8_tellWay rfl rfl rfl ⟨rfl, pd_X8_tellWay⟩ ⟨Nat.le_of_ble_eq_true rfl, Nat.le_of_ble_eq_true rfl⟩) ⟨pz_blind, va_recv hK hP (ci := 8) (q0 := q51) rfl eq51, pz_pre hP hK hD hN⟩ rfl rfl hl.1 rfl (lv_room (Nat.le_of_ble_eq_true rfl)) dX11_way_71 ⟨Nat.le_of_ble_eq_true rfl, Nat.le_of_ble_eq_true rfl⟩) hS (fun q _ h => hFc q h) hFc (fun f54 t H1 locs ht hvm hw53 hB hz1 hk1 hS => ?_)
          refine tn_3 hw53 (fun hT hF55 hw53p => ?_); clear hw53
          have hR := hR.then hF55 (by decide)
          have hP := hB.1; rw [ht] at hP; have hD := tp_ad f54 hD; clear hB hFc hz1 hk1; subst ht; generalize t.heap = H at hP hS ⊢
          refine lv_aload_n hx hb dX11_way_74 rfl (lv_at hl 0 rfl) ?_
          have hf_56 : f54 h0 = .inr (11, [.ref (ρ h0 0), .ref (ρ h0 1), .ref (ρ h0 2), .ref (ρ h0 3), .ref (ρ h0 4), .ref (ρ h0 5), .int o25_x6]) := (hF55 _ (by rw [ht_h0]; decide)).trans hf_o25
          refine tpk_pos (tp_in hG ht_h0 (by decide)) hf_56 (fun q57 eq57 => ?_)
          refine va_get (D := (dC, dI)) (ci := 11) (v := .ref (ρ h0 0)) (C := RX11) (T := TX11) (N := 7) hx hb hts hfX11 hown hK hP q57 eq57 rfl 0 (by decide) (hts (.fieldLink RX11 10 "ColdShips" "world" "LColdShips$World;") wa_15) (fun _ h9 => h9) rfl dX11_way_75 ?_
          have hf_58 : f54 (ρ h0 0) = .inr (10, [.int o20_x0, .int o20_x1, .int o20_x2, .int o20_x3, .int o20_x4, .int o20_x5, .int o20_x6, .ref (ρ (ρ h0 0) 7), .ref (ρ (ρ h0 0) 8), .ref (ρ (ρ h0 0) 9), .ref (ρ (ρ h0 0) 10), .ref (ρ (ρ h0 0) 11), .ref (ρ (ρ h0 0) 12), .ref (ρ (ρ h0 0) 13), .ref (ρ (ρ h0 0) 14), .ref (ρ (ρ h0 0) 15), .ref (ρ (ρ h0 0) 16), .ref (ρ (ρ h0 0) 17), .ref (ρ (ρ h0 0) 18)]) := (hF55 _ (by rw [tp_iu y1]; decide)).trans hf_o20
          refine tpk_pos (tp_in hG y1 (by decide)) hf_58 (fun q59 eq59 => ?_)
          refine va_getN (D := (dC, dI)) (ci := 10) (v := .ref (ρ (ρ h0 0) 9)) (C := RX10) (T := TX10) (N := 19) hx hb hts hfX10 hown hK hP q59 eq59 rfl 9 (by decide) (va_Nw.use rfl (hN.1 (.fieldLinkNest RX11 63 "ColdShips$World" "terminals" "[LColdShips$Terminal;" "ColdShips") nzw_65)) (fun _ h9 => h9) rfl dX11_way_78 ?_
          refine lv_iload_n hx hb dX11_way_81 rfl (lv_at hl 2 rfl) ?_
          have hf_60 : f54 (ρ (ρ h0 0) 9) = .inl (κ 4, 6, .inr (.inr (.inr (.inr g44)))) := (hF55 _ (by rw [tp_iu y10]; decide)).trans hf_o43
          refine tpk_pos (tp_in hG y10 (by decide)) hf_60 (fun q61 eq61 => ?_)
          refine va_aldq hx hb hK hP q61 4 eq61 rfl (vp_in_iff.mpr ⟨by omega, by omega⟩) dX11_way_82 ?_
          obtain ⟨b62, hb63⟩ : ∃ b : Nat, b = ρ (ρ (ρ h0 0) 9) u.toNatClampNeg := ⟨_, rfl⟩
          have hb63t : τ b62 = 9 := by rw [hb63]; exact tpg_24 hG y10 _ (zi_cl (vp_in_iff.mpr ⟨by omega, by omega⟩))
          have hb63g : g44 u.toNatClampNeg = some b62 := by rw [hb63]; exact hf_o43e _ (zi_cl (vp_in_iff.mpr ⟨by omega, by omega⟩))
          refine W.eq (g2 := F0 m 83 ls (.ref b62 :: [])) (congrArg (fun o => F0 m 83 ls (va_rf o :: [])) hb63g) ?_
          refine lv_iload_n hx hb dX11_way_83 rfl (lv_at hl 1 rfl) ?_
          refine lv_iload_n hx hb dX11_way_84 rfl (lv_at hl 3 rfl) ?_
          refine lv_iload hx hb dX11_way_85 (lv_at hl 4 rfl) ?_
          refine tgk_9 hG hb63t (fun y64 y64n y65 y65n => ?_)
          refine tpk_9 hT hb63t (fun o66_x0 o66_x1 o66_x2 o66_x3 o66_x4 hf_o66 ro66_0 => ?_)
          refine tpk_pos (tp_in hG hb63t (by decide)) hf_o66 (fun q67 eq67 => ?_)
          have hFc := tp_fr hD hS hA
          refine va_callv (va_runV (As := [.int v, .int a, .int b]) (rest := []) ⟨hx, hb, hml, hown, hts⟩ (t_X8_tellWay l dC dI _ Ω κ τ ν ρ L f54 hG hT b62 v a b hb63t) (cwV 3 hts gX11_way_X8_tellWay rfl rfl rfl ⟨rfl, pd_X8_tellWay⟩ ⟨Nat.le_of_ble_eq_true rfl, Nat.le_of_ble_eq_true rfl⟩) ⟨pz_blind, va_recv hK hP (ci := 8) (q0 := q67) rfl eq67, pz_pre hP hK hD hN⟩ rfl rfl hl.1 rfl (lv_room (Nat.le_of_ble_eq_true rfl)) dX11_way_87 ⟨Nat.le_of_ble_eq_true rfl, Nat.le_of_ble_eq_true rfl⟩) hS (fun q _ h => hFc q h) hFc (fun f70 t H1 locs ht hvm hw69 hB hz1 hk1 hS => ?_)
          refine tn_3 hw69 (fun hT hF71 hw69p => ?_); clear hw69
          have hR := hR.then hF71 (by decide)
          have hP := hB.1; rw [ht] at hP; have hD := tp_ad f70 hD; clear hB hFc hz1 hk1; subst ht; generalize t.heap = H at hP hS ⊢
          refine lv_aload_n hx hb dX11_way_90 rfl (lv_at hl 0 rfl) ?_
          refine lv_iconst (v := 0) hx hb dX11_way_91 (by decide) ?_
          have hf_72 : f70 h0 = .inr (11, [.ref (ρ h0 0), .ref (ρ h0 1), .ref (ρ h0 2), .ref (ρ h0 3), .ref (ρ h0 4), .ref (ρ h0 5), .int o25_x6]) := (hF71 _ (by rw [ht_h0]; decide)).trans hf_56
          refine tpk_pos (tp_in hG ht_h0 (by decide)) hf_72 (fun q73 eq73 => ?_)
          have hFc := tp_fr hD hS hA
          refine va_calli (va_runV (As := [.int 0]) (rest := []) ⟨hx, hb, hml, hown, hts⟩ (t_X11_accept l dC dI _ Ω κ τ ν ρ L f70 hG hT h0 (0) ht_h0) (cwV 1 hts gX11_way_X11_accept rfl rfl rfl ⟨rfl, pd_X11_accept⟩ ⟨Nat.le_of_ble_eq_true rfl, Nat.le_of_ble_eq_true rfl⟩) ⟨pz_blind, va_recv hK hP (ci := 11) (q0 := q73) rfl eq73, pz_pre hP hK hD hN⟩ rfl rfl hl.1 rfl (lv_room (Nat.le_of_ble_eq_true rfl)) dX11_way_92 ⟨Nat.le_of_ble_eq_true rfl, Nat.le_of_ble_eq_true rfl⟩) hS (fun q _ h => hFc q h) hFc (fun r74 f76 t H1 locs ht hvm hw75 hB hz1 hk1 hS => ?_)
          refine tn_4 hw75 (fun hT hF77 hw75r hw75p => ?_); clear hw75
          have hR := hR.then hF77 (by decide)
          have hP := hB.1; rw [ht] at hP; have hD := tp_ad f76 hD; clear hB hFc hz1 hk1; subst ht; generalize t.heap = H at hP hS ⊢
          have hw75pq : r74.toInt = 0 := by rw [hw75p]; rfl
          have tv78 : tp_fld (f (ρ h0 0)) 4 = o20_x4.toInt := by rw [hf_o20]; rfl
          exact W.iret (v := r74) hx hb hr (fun t ht hW => ⟨⟨r74, f76, rfl, ⟨hT, hR, trivial, (by first | (rw [tv78]; done) | (rw [tv78]; exact ⟨fun q0 => by omega, fun q0 => ⟨fun q1 => by omega, fun q1 => ⟨fun q2 => by omega, fun q2 => (by omega)⟩⟩⟩))⟩, by rw [ht]; exact hP, va_K.moved hW.alike hK, hD⟩, hS.F ht⟩) hS.2.2 dX11_way_95
        · have ic42 : v.toInt = u.toInt := zi_nef rfl rfl c42
          refine lv_aload_n hx hb dX11_way_51 rfl (lv_at hl 0 rfl) ?_
          refine lv_bipush (v := (-3)) hx hb dX11_way_52 (by decide) ?_
          have hFc := tp_fr hD hS hA
          refine va_calli (va_runV (As := [.int (-3)]) (rest := []) ⟨hx, hb, hml, hown, hts⟩ (t_X11_refuse l dC dI _ Ω κ τ ν ρ L f hG hT h0 ((-3)) ht_h0) (cwV 1 hts gX11_way_X11_refuse rfl rfl rfl ⟨rfl, pd_X11_refuse⟩ ⟨Nat.le_of_ble_eq_true rfl, Nat.le_of_ble_eq_true rfl⟩) ⟨pz_blind, va_recv hK hP (ci := 11) (q0 := q26) rfl eq26, pz_pre hP hK hD hN⟩ rfl rfl hl.1 rfl (lv_room (Nat.le_of_ble_eq_true rfl)) dX11_way_54 ⟨Nat.le_of_ble_eq_true rfl, Nat.le_of_ble_eq_true rfl⟩) hS (fun q _ h => hFc q h) hFc (fun r79 f81 t H1 locs ht hvm hw80 hB hz1 hk1 hS => ?_)
          refine tn_4 hw80 (fun hT hF82 hw80r hw80p => ?_); clear hw80
          have hR := hR.then hF82 (by decide)
          have hP := hB.1; rw [ht] at hP; have hD := tp_ad f81 hD; clear hB hFc hz1 hk1; subst ht; generalize t.heap = H at hP hS ⊢
          have hw80pq : r79.toInt = (-3) := by rw [hw80p]; rfl
          have tv83 : tp_fld (f (ρ h0 0)) 4 = o20_x4.toInt := by rw [hf_o20]; rfl
          exact W.iret (v := r79) hx hb hr (fun t ht hW => ⟨⟨r79, f81, rfl, ⟨hT, hR, trivial, (by first | (rw [tv83]; done) | (rw [tv83]; exact ⟨fun q0 => by omega, fun q0 => ⟨fun q1 => by omega, fun q1 => ⟨fun q2 => by omega, fun q2 => (by omega)⟩⟩⟩))⟩, by rw [ht]; exact hP, va_K.moved hW.alike hK, hD⟩, hS.F ht⟩) hS.2.2 dX11_way_57
      · have ic40 : r38.toInt = 0 := zi_nef rfl rfl c40
        have p84 : ¬ (0 ≤ u.toInt ∧ u.toInt < o20_x4.toInt) := (tp_cond.no hw39p) (by omega)
        clear hw39r ic40
        refine lv_aload_n hx hb dX11_way_39 rfl (lv_at hl 0 rfl) ?_
        refine lv_bipush (v := (-2)) hx hb dX11_way_40 (by decide) ?_
        have hFc := tp_fr hD hS hA
        refine va_calli (va_runV (As := [.int (-2)]) (rest := []) ⟨hx, hb, hml, hown, hts⟩ (t_X11_refuse l dC dI _ Ω κ τ ν ρ L f hG hT h0 ((-2)) ht_h0) (cwV 1 hts gX11_way_X11_refuse rfl rfl rfl ⟨rfl, pd_X11_refuse⟩ ⟨Nat.le_of_ble_eq_true rfl, Nat.le_of_ble_eq_true rfl⟩) ⟨pz_blind, va_recv hK hP (ci := 11) (q0 := q26) rfl eq26, pz_pre hP hK hD hN⟩ rfl rfl hl.1 rfl (lv_room (Nat.le_of_ble_eq_true rfl)) dX11_way_42 ⟨Nat.le_of_ble_eq_true rfl, Nat.le_of_ble_eq_true rfl⟩) hS (fun q _ h => hFc q h) hFc (fun r85 f87 t H1 locs ht hvm hw86 hB hz1 hk1 hS => ?_)
        refine tn_4 hw86 (fun hT hF88 hw86r hw86p => ?_); clear hw86
        have hR := hR.then hF88 (by decide)
        have hP := hB.1; rw [ht] at hP; have hD := tp_ad f87 hD; clear hB hFc hz1 hk1; subst ht; generalize t.heap = H at hP hS ⊢
        have hw86pq : r85.toInt = (-2) := by rw [hw86p]; rfl
        have tv89 : tp_fld (f (ρ h0 0)) 4 = o20_x4.toInt := by rw [hf_o20]; rfl
        exact W.iret (v := r85) hx hb hr (fun t ht hW => ⟨⟨r85, f87, rfl, ⟨hT, hR, trivial, (by first | (rw [tv89]; done) | (rw [tv89]; exact ⟨fun q0 => by omega, fun q0 => ⟨fun q1 => by omega, fun q1 => ⟨fun q2 => by omega, fun q2 => (by omega)⟩⟩⟩))⟩, by rw [ht]; exact hP, va_K.moved hW.alike hK, hD⟩, hS.F ht⟩) hS.2.2 dX11_way_45
  · have ic23 : r21.toInt = 0 := zi_nef rfl rfl c23
    have p90 : ¬ ((1) ≤ (a.toInt) ∧ (a.toInt) ≤ (400)) := (tp_cond.no hw22p) (by omega)
    clear hw22r ic23
    refine lv_aload_n hx hb dX11_way_11 rfl (lv_at hl 0 rfl) ?_
    refine lv_iconst (v := (-1)) hx hb dX11_way_12 (by decide) ?_
    refine tpk_12 hT ht_h0 (fun o91_x6 hf_o91 => ?_)
    refine tpk_pos (tp_in hG ht_h0 (by decide)) hf_o91 (fun q92 eq92 => ?_)
    have hFc := tp_fr hD hS hA
    refine va_calli (va_runV (As := [.int (-1)]) (rest := []) ⟨hx, hb, hml, hown, hts⟩ (t_X11_refuse l dC dI _ Ω κ τ ν ρ L f hG hT h0 ((-1)) ht_h0) (cwV 1 hts gX11_way_X11_refuse rfl rfl rfl ⟨rfl, pd_X11_refuse⟩ ⟨Nat.le_of_ble_eq_true rfl, Nat.le_of_ble_eq_true rfl⟩) ⟨pz_blind, va_recv hK hP (ci := 11) (q0 := q92) rfl eq92, pz_pre hP hK hD hN⟩ rfl rfl hl.1 rfl (lv_room (Nat.le_of_ble_eq_true rfl)) dX11_way_13 ⟨Nat.le_of_ble_eq_true rfl, Nat.le_of_ble_eq_true rfl⟩) hS (fun q _ h => hFc q h) hFc (fun r93 f95 t H1 locs ht hvm hw94 hB hz1 hk1 hS => ?_)
    refine tn_4 hw94 (fun hT hF96 hw94r hw94p => ?_); clear hw94
    have hR := hR.then hF96 (by decide)
    have hP := hB.1; rw [ht] at hP; have hD := tp_ad f95 hD; clear hB hFc hz1 hk1; subst ht; generalize t.heap = H at hP hS ⊢
    have hw94pq : r93.toInt = (-1) := by rw [hw94p]; rfl
    have ro20_1 := tp_hu ro20_1
    have tv97 : tp_fld (f (ρ h0 0)) 4 = o20_x4.toInt := by rw [hf_o20]; rfl
    exact W.iret (v := r93) hx hb hr (fun t ht hW => ⟨⟨r93, f95, rfl, ⟨hT, hR, trivial, (by first | (rw [tv97]; done) | (rw [tv97]; exact ⟨fun q0 => by omega, fun q0 => ⟨fun q1 => by omega, fun q1 => ⟨fun q2 => by omega, fun q2 => (by omega)⟩⟩⟩))⟩, by rw [ht]; exact hP, va_K.moved hW.alike hK, hD⟩, hS.F ht⟩) hS.2.2 dX11_way_16
set_option maxHeartbeats 4000000 in
set_option maxRecDepth 100000 in
theorem t_X11_tide (l : Launch) (dC : Nat → ClassId) (dI : Nat → Nat → Nat) (sz : Nat) (Ω : Nat → Nat → (Nat → Nat) → va_E → Prop) (κ : Nat → ClassId) (τ ν : Nat → Nat) (ρ : Nat → Nat → Nat) (L : List Nat) (f : Nat → va_E) (hG : tp_G τ ν ρ L) (hT : tp_T Ω κ τ ν ρ f) (h0 : Nat) (v : Int32) (u : Int32) (ht_h0 : τ h0 = 12) : Met l yX11_tide wqX11_tide ({ frames := 3, cells := 0, slots := 0, locals := 800 }) (va_Pc [.ref h0, .int v, .int u] (pz_B dC dI (tp_K κ) (va_pl L f) sz)) (va_Qi (fun (r : Int32) (f1 : Nat → va_E) => tp_T Ω κ τ ν ρ f1 ∧ tp_F τ [12, 20] f f1 ∧ True ∧ ((((¬ ((0 ≤ v.toInt ∧ v.toInt ≤ 24) ∧ (0 ≤ u.toInt ∧ u.toInt ≤ 9))) → r.toInt = -1) ∧ (¬ (¬ ((0 ≤ v.toInt ∧ v.toInt ≤ 24) ∧ (0 ≤ u.toInt ∧ u.toInt ≤ 9))) → r.toInt = 0)))) (fun (f1 : Nat → va_E) (t : State) => pz_E dC dI (tp_K κ) (va_A (va_pl L f) sz) (va_pl L f1) t) (va_A (va_pl L f) sz)) 0 0 (va_A (va_pl L f) sz) := by
  refine Met.ofW (cc := cX11_tide) (maxL := 3) (ret := some .int) (by decide) rfl ?_
  intro p e s m args below meth c s₁ B hml hv
  obtain ⟨rfl, hsz, hP, hK, hD0, hN⟩ := hv
  have hx := B.exec
  have hb := B.bytes
  have hr := B.returns
  have hts := fun (w : Cond) (h : w ∈ WALL) => atoms_spec (ws := wqX11_tide) B.pre w (List.mem_cons_of_mem _ h)
  have hown : s.vm.findClass RX11 = some m.cls := findClass_of_methodNamed B.named
  have hlocks := B.notSynchronized
  subst hsz
  have hD := hD0.self (sz := s.heap.size)
  generalize hAe : va_A (va_pl L f) s.heap.size = A at hD ⊢
  have hA : ∀ q : Nat, s.heap.size ≤ q → A q := fun q h => by rw [← hAe]; exact Or.inr h
  have hS : va_S A s.heap s.heap [] := va_S.rf
  have hR : tp_F τ [12, 20] f f := tp_F.rf
  have hl := lv_entry ([.ref h0, .int v, .int u]) (n := 3) (Nat.le_of_ble_eq_true rfl)
  rw [lg_entry_eq]
  generalize (lg_sl ([.ref h0, .int v, .int u]) ++ List.replicate (3 - (lg_sl ([.ref h0, .int v, .int u])).length) Slot.unset).toArray = ls at hl ⊢
  have hl : lv_has ls 3 [(0, .ref h0), (1, .int v), (2, .int u)] := hl
  refine lv_iload_n hx hb dX11_tide_0 rfl (lv_at hl 1 rfl) ?_
  refine lv_iconst (v := 0) hx hb dX11_tide_1 (by decide) ?_
  refine lv_bipush (v := 24) hx hb dX11_tide_2 (by decide) ?_
  refine pz_calli (va_runS (As := [.int v, .int 0, .int 24]) (rest := []) ⟨hx, hb, hml, hown, hts⟩ (t_X11_within l dC dI _ v (0) (24) (v.toInt) (0) (24) rfl rfl rfl) (va_cwS 3 hts gX11_tide_X11_within rfl rfl rfl pd_X11_within ⟨Nat.le_of_ble_eq_true rfl, Nat.le_of_ble_eq_true rfl⟩) ⟨pz_blind, pz_pre pz_P0 (hK.sub (tys' := []) [] rfl) (pz_D0 (A := fun _ => True)) hN⟩ rfl rfl hl.1 rfl (lv_room (Nat.le_of_ble_eq_true rfl)) dX11_tide_4 ⟨Nat.le_of_ble_eq_true rfl, Nat.le_of_ble_eq_true rfl⟩) (fun r1 hw2 => ?_)
  obtain ⟨hw2r, hw2p⟩ := hw2
  refine lv_if_eq (tgt := 20) hx hb dX11_tide_7 (by decide) (fun c3 => ?_) (fun c3 => ?_)
  · have ic3 : r1.toInt = 0 := zi_eq rfl rfl c3
    have p4 : ¬ ((0) ≤ (v.toInt) ∧ (v.toInt) ≤ (24)) := (tp_cond.no hw2p) (by omega)
    clear hw2r ic3
    refine lv_aload_n hx hb dX11_tide_20 rfl (lv_at hl 0 rfl) ?_
    refine lv_iconst (v := (-1)) hx hb dX11_tide_21 (by decide) ?_
    refine tgk_12 hG ht_h0 (fun y5 y5l y6 y7 y8 y9 y10 y11a y11b y11c => ?_)
    refine tpk_12 hT ht_h0 (fun o12_x6 hf_o12 => ?_)
    refine tpk_pos (tp_in hG ht_h0 (by decide)) hf_o12 (fun q13 eq13 => ?_)
    have hFc := tp_fr hD hS hA
    refine va_calli (va_runV (As := [.int (-1)]) (rest := []) ⟨hx, hb, hml, hown, hts⟩ (t_X11_refuse l dC dI _ Ω κ τ ν ρ L f hG hT h0 ((-1)) ht_h0) (cwV 1 hts gX11_tide_X11_refuse rfl rfl rfl ⟨rfl, pd_X11_refuse⟩ ⟨Nat.le_of_ble_eq_true rfl, Nat.le_of_ble_eq_true rfl⟩) ⟨pz_blind, va_recv hK hP (ci := 11) (q0 := q13) rfl eq13, pz_pre hP hK hD hN⟩ rfl rfl hl.1 rfl (lv_room (Nat.le_of_ble_eq_true rfl)) dX11_tide_22 ⟨Nat.le_of_ble_eq_true rfl, Nat.le_of_ble_eq_true rfl⟩) hS (fun q _ h => hFc q h) hFc (fun r14 f16 t H1 locs ht hvm hw15 hB hz1 hk1 hS => ?_)
    refine tn_4 hw15 (fun hT hF17 hw15r hw15p => ?_); clear hw15
    have hR := hR.then hF17 (by decide)
    have hP := hB.1; rw [ht] at hP; have hD := tp_ad f16 hD; clear hB hFc hz1 hk1; subst ht; generalize t.heap = H at hP hS ⊢
    have hw15pq : r14.toInt = (-1) := by rw [hw15p]; rfl
    exact W.iret (v := r14) hx hb hr (fun t ht hW => ⟨⟨r14, f16, rfl, ⟨hT, hR, trivial, ⟨fun q0 => by omega, fun q0 => (by omega)⟩⟩, by rw [ht]; exact hP, va_K.moved hW.alike hK, hD⟩, hS.F ht⟩) hS.2.2 dX11_tide_25
  · have ic3 : r1.toInt ≠ 0 := zi_eqf rfl rfl c3
    have p18 : (0) ≤ (v.toInt) ∧ (v.toInt) ≤ (24) := (tp_cond.yes hw2p) (by omega)
    clear hw2r ic3
    refine lv_iload_n hx hb dX11_tide_10 rfl (lv_at hl 2 rfl) ?_
    refine lv_iconst (v := 0) hx hb dX11_tide_11 (by decide) ?_
    refine lv_bipush (v := 9) hx hb dX11_tide_12 (by decide) ?_
    refine pz_calli (va_runS (As := [.int u, .int 0, .int 9]) (rest := []) ⟨hx, hb, hml, hown, hts⟩ (t_X11_within l dC dI _ u (0) (9) (u.toInt) (0) (9) rfl rfl rfl) (va_cwS 3 hts gX11_tide_X11_within rfl rfl rfl pd_X11_within ⟨Nat.le_of_ble_eq_true rfl, Nat.le_of_ble_eq_true rfl⟩) ⟨pz_blind, pz_pre pz_P0 (hK.sub (tys' := []) [] rfl) (pz_D0 (A := fun _ => True)) hN⟩ rfl rfl hl.1 rfl (lv_room (Nat.le_of_ble_eq_true rfl)) dX11_tide_14 ⟨Nat.le_of_ble_eq_true rfl, Nat.le_of_ble_eq_true rfl⟩) (fun r19 hw20 => ?_)
    obtain ⟨hw20r, hw20p⟩ := hw20
    refine lv_if_ne (tgt := 26) hx hb dX11_tide_17 (by decide) (fun c21 => ?_) (fun c21 => ?_)
    · have ic21 : r19.toInt ≠ 0 := zi_ne rfl rfl c21
      have p22 : (0) ≤ (u.toInt) ∧ (u.toInt) ≤ (9) := (tp_cond.yes hw20p) (by omega)
      clear hw20r ic21
      refine lv_aload_n hx hb dX11_tide_26 rfl (lv_at hl 0 rfl) ?_
      refine tgk_12 hG ht_h0 (fun y23 y23l y24 y25 y26 y27 y28 y29a y29b y29c => ?_)
      refine tpk_12 hT ht_h0 (fun o30_x6 hf_o30 => ?_)
      refine tpk_pos (tp_in hG ht_h0 (by decide)) hf_o30 (fun q31 eq31 => ?_)
      refine va_get (D := (dC, dI)) (ci := 11) (v := .ref (ρ h0 0)) (C := RX11) (T := TX11) (N := 7) hx hb hts hfX11 hown hK hP q31 eq31 rfl 0 (by decide) (hts (.fieldLink RX11 10 "ColdShips" "world" "LColdShips$World;") wa_15) (fun _ h9 => h9) rfl dX11_tide_27 ?_
      refine tgk_11 hG y23 (fun y32 y32n y33 y33n y34 y35 y36 y37 y37m y37l y38 y38m y38l y39 y39m y39l y40 y40w y40m y40l y41 y41w y41m y41l y42 y42w y42m y42l y43 y43w y43m y43l => ?_)
      refine tpk_11 hT y23 (fun o44_x0 o44_x1 o44_x2 o44_x3 o44_x4 o44_x5 o44_x6 hf_o44 ro44_0 ro44_1 ro44_2 ro44_3 => ?_)
      refine tpk_pos (tp_in hG y23 (by decide)) hf_o44 (fun q45 eq45 => ?_)
      refine va_getN (D := (dC, dI)) (ci := 10) (v := .ref (ρ (ρ h0 0) 7)) (C := RX10) (T := TX10) (N := 19) hx hb hts hfX10 hown hK hP q45 eq45 rfl 7 (by decide) (va_Nw.use rfl (hN.1 (.fieldLinkNest RX11 97 "ColdShips$World" "tides" "[I" "ColdShips") nzw_61)) (fun _ h9 => h9) rfl dX11_tide_30 ?_
      refine lv_iload_n hx hb dX11_tide_33 rfl (lv_at hl 1 rfl) ?_
      refine lv_iload_n hx hb dX11_tide_34 rfl (lv_at hl 2 rfl) ?_
      refine tpk_20 hT y32 y32n (fun g47 hf_o46 => ?_)
      refine tpk_pos (tp_in hG y32 (by decide)) hf_o46 (fun q48 eq48 => ?_)
      refine va_iast hx hb hK hP hD hS q48 0 eq48 rfl (vp_in_iff.mpr ⟨by omega, by omega⟩) dX11_tide_35 (tp_k (.inl (κ 0, 25, .inl (upd g47 v.toNatClampNeg u))) hD (tp_in hG y32 (by decide)) eq48 (fun f49 H locs hP hD hS g51 k50 => ?_))
      have hT := hT.up y32 g51 k50 (tp_o20 y32n)
      have hR := hR.up y32 (by decide) k50
      generalize (upd g47 v.toNatClampNeg u) = g52 at g51
      refine lv_aload_n hx hb dX11_tide_36 rfl (lv_at hl 0 rfl) ?_
      refine lv_iconst (v := 0) hx hb dX11_tide_37 (by decide) ?_
      have hf_53 : f49 h0 = .inr (11, [.ref (ρ h0 0), .ref (ρ h0 1), .ref (ρ h0 2), .ref (ρ h0 3), .ref (ρ h0 4), .ref (ρ h0 5), .int o30_x6]) := (k50 _ (tp_ne ht_h0 y32 (by decide))).trans hf_o30
      refine tpk_pos (tp_in hG ht_h0 (by decide)) hf_53 (fun q54 eq54 => ?_)
      have hFc := tp_fr hD hS hA
      refine va_calli (va_runV (As := [.int 0]) (rest := []) ⟨hx, hb, hml, hown, hts⟩ (t_X11_accept l dC dI _ Ω κ τ ν ρ L f49 hG hT h0 (0) ht_h0) (cwV 1 hts gX11_tide_X11_accept rfl rfl rfl ⟨rfl, pd_X11_accept⟩ ⟨Nat.le_of_ble_eq_true rfl, Nat.le_of_ble_eq_true rfl⟩) ⟨pz_blind, va_recv hK hP (ci := 11) (q0 := q54) rfl eq54, pz_pre hP hK hD hN⟩ rfl rfl hl.1 rfl (lv_room (Nat.le_of_ble_eq_true rfl)) dX11_tide_38 ⟨Nat.le_of_ble_eq_true rfl, Nat.le_of_ble_eq_true rfl⟩) hS (fun q _ h => hFc q h) hFc (fun r55 f57 t H1 locs ht hvm hw56 hB hz1 hk1 hS => ?_)
      refine tn_4 hw56 (fun hT hF58 hw56r hw56p => ?_); clear hw56
      have hR := hR.then hF58 (by decide)
      have hP := hB.1; rw [ht] at hP; have hD := tp_ad f57 hD; clear hB hFc hz1 hk1; subst ht; generalize t.heap = H at hP hS ⊢
      have hw56pq : r55.toInt = 0 := by rw [hw56p]; rfl
      exact W.iret (v := r55) hx hb hr (fun t ht hW => ⟨⟨r55, f57, rfl, ⟨hT, hR, trivial, ⟨fun q0 => by omega, fun q0 => (by omega)⟩⟩, by rw [ht]; exact hP, va_K.moved hW.alike hK, hD⟩, hS.F ht⟩) hS.2.2 dX11_tide_41
    · have ic21 : r19.toInt = 0 := zi_nef rfl rfl c21
      have p59 : ¬ ((0) ≤ (u.toInt) ∧ (u.toInt) ≤ (9)) := (tp_cond.no hw20p) (by omega)
      clear hw20r ic21
      refine lv_aload_n hx hb dX11_tide_20 rfl (lv_at hl 0 rfl) ?_
      refine lv_iconst (v := (-1)) hx hb dX11_tide_21 (by decide) ?_
      refine tgk_12 hG ht_h0 (fun y60 y60l y61 y62 y63 y64 y65 y66a y66b y66c => ?_)
      refine tpk_12 hT ht_h0 (fun o67_x6 hf_o67 => ?_)
      refine tpk_pos (tp_in hG ht_h0 (by decide)) hf_o67 (fun q68 eq68 => ?_)
      have hFc := tp_fr hD hS hA
      refine va_calli (va_runV (As := [.int (-1)]) (rest := []) ⟨hx, hb, hml, hown, hts⟩ (t_X11_refuse l dC dI _ Ω κ τ ν ρ L f hG hT h0 ((-1)) ht_h0) (cwV 1 hts gX11_tide_X11_refuse rfl rfl rfl ⟨rfl, pd_X11_refuse⟩ ⟨Nat.le_of_ble_eq_true rfl, Nat.le_of_ble_eq_true rfl⟩) ⟨pz_blind, va_recv hK hP (ci := 11) (q0 := q68) rfl eq68, pz_pre hP hK hD hN⟩ rfl rfl hl.1 rfl (lv_room (Nat.le_of_ble_eq_true rfl)) dX11_tide_22 ⟨Nat.le_of_ble_eq_true rfl, Nat.le_of_ble_eq_true rfl⟩) hS (fun q _ h => hFc q h) hFc (fun r69 f71 t H1 locs ht hvm hw70 hB hz1 hk1 hS => ?_)
      refine tn_4 hw70 (fun hT hF72 hw70r hw70p => ?_); clear hw70
      have hR := hR.then hF72 (by decide)
      have hP := hB.1; rw [ht] at hP; have hD := tp_ad f71 hD; clear hB hFc hz1 hk1; subst ht; generalize t.heap = H at hP hS ⊢
      have hw70pq : r69.toInt = (-1) := by rw [hw70p]; rfl
      exact W.iret (v := r69) hx hb hr (fun t ht hW => ⟨⟨r69, f71, rfl, ⟨hT, hR, trivial, ⟨fun q0 => by omega, fun q0 => (by omega)⟩⟩, by rw [ht]; exact hP, va_K.moved hW.alike hK, hD⟩, hS.F ht⟩) hS.2.2 dX11_tide_25
set_option maxHeartbeats 4000000 in
set_option maxRecDepth 100000 in
theorem t_X11_sea (l : Launch) (dC : Nat → ClassId) (dI : Nat → Nat → Nat) (sz : Nat) (Ω : Nat → Nat → (Nat → Nat) → va_E → Prop) (κ : Nat → ClassId) (τ ν : Nat → Nat) (ρ : Nat → Nat → Nat) (L : List Nat) (f : Nat → va_E) (hG : tp_G τ ν ρ L) (hT : tp_T Ω κ τ ν ρ f) (h0 : Nat) (v : Int32) (u : Int32) (ht_h0 : τ h0 = 12) : Met l yX11_sea wqX11_sea ({ frames := 3, cells := 0, slots := 0, locals := 800 }) (va_Pc [.ref h0, .int v, .int u] (pz_B dC dI (tp_K κ) (va_pl L f) sz)) (va_Qi (fun (r : Int32) (f1 : Nat → va_E) => tp_T Ω κ τ ν ρ f1 ∧ tp_F τ [12, 20] f f1 ∧ True ∧ ((((¬ ((0 ≤ v.toInt ∧ v.toInt ≤ 99) ∧ (0 ≤ u.toInt ∧ u.toInt ≤ 9))) → r.toInt = -1) ∧ (¬ (¬ ((0 ≤ v.toInt ∧ v.toInt ≤ 99) ∧ (0 ≤ u.toInt ∧ u.toInt ≤ 9))) → r.toInt = 0)))) (fun (f1 : Nat → va_E) (t : State) => pz_E dC dI (tp_K κ) (va_A (va_pl L f) sz) (va_pl L f1) t) (va_A (va_pl L f) sz)) 0 0 (va_A (va_pl L f) sz) := by
  refine Met.ofW (cc := cX11_sea) (maxL := 3) (ret := some .int) (by decide) rfl ?_
  intro p e s m args below meth c s₁ B hml hv
  obtain ⟨rfl, hsz, hP, hK, hD0, hN⟩ := hv
  have hx := B.exec
  have hb := B.bytes
  have hr := B.returns
  have hts := fun (w : Cond) (h : w ∈ WALL) => atoms_spec (ws := wqX11_sea) B.pre w (List.mem_cons_of_mem _ h)
  have hown : s.vm.findClass RX11 = some m.cls := findClass_of_methodNamed B.named
  have hlocks := B.notSynchronized
  subst hsz
  have hD := hD0.self (sz := s.heap.size)
  generalize hAe : va_A (va_pl L f) s.heap.size = A at hD ⊢
  have hA : ∀ q : Nat, s.heap.size ≤ q → A q := fun q h => by rw [← hAe]; exact Or.inr h
  have hS : va_S A s.heap s.heap [] := va_S.rf
  have hR : tp_F τ [12, 20] f f := tp_F.rf
  have hl := lv_entry ([.ref h0, .int v, .int u]) (n := 3) (Nat.le_of_ble_eq_true rfl)
  rw [lg_entry_eq]
  generalize (lg_sl ([.ref h0, .int v, .int u]) ++ List.replicate (3 - (lg_sl ([.ref h0, .int v, .int u])).length) Slot.unset).toArray = ls at hl ⊢
  have hl : lv_has ls 3 [(0, .ref h0), (1, .int v), (2, .int u)] := hl
  refine lv_iload_n hx hb dX11_sea_0 rfl (lv_at hl 1 rfl) ?_
  refine lv_iconst (v := 0) hx hb dX11_sea_1 (by decide) ?_
  refine lv_bipush (v := 99) hx hb dX11_sea_2 (by decide) ?_
  refine pz_calli (va_runS (As := [.int v, .int 0, .int 99]) (rest := []) ⟨hx, hb, hml, hown, hts⟩ (t_X11_within l dC dI _ v (0) (99) (v.toInt) (0) (99) rfl rfl rfl) (va_cwS 3 hts gX11_sea_X11_within rfl rfl rfl pd_X11_within ⟨Nat.le_of_ble_eq_true rfl, Nat.le_of_ble_eq_true rfl⟩) ⟨pz_blind, pz_pre pz_P0 (hK.sub (tys' := []) [] rfl) (pz_D0 (A := fun _ => True)) hN⟩ rfl rfl hl.1 rfl (lv_room (Nat.le_of_ble_eq_true rfl)) dX11_sea_4 ⟨Nat.le_of_ble_eq_true rfl, Nat.le_of_ble_eq_true rfl⟩) (fun r1 hw2 => ?_)
  obtain ⟨hw2r, hw2p⟩ := hw2
  refine lv_if_eq (tgt := 20) hx hb dX11_sea_7 (by decide) (fun c3 => ?_) (fun c3 => ?_)
  · have ic3 : r1.toInt = 0 := zi_eq rfl rfl c3
    have p4 : ¬ ((0) ≤ (v.toInt) ∧ (v.toInt) ≤ (99)) := (tp_cond.no hw2p) (by omega)
    clear hw2r ic3
    refine lv_aload_n hx hb dX11_sea_20 rfl (lv_at hl 0 rfl) ?_
    refine lv_iconst (v := (-1)) hx hb dX11_sea_21 (by decide) ?_
    refine tgk_12 hG ht_h0 (fun y5 y5l y6 y7 y8 y9 y10 y11a y11b y11c => ?_)
    refine tpk_12 hT ht_h0 (fun o12_x6 hf_o12 => ?_)
    refine tpk_pos (tp_in hG ht_h0 (by decide)) hf_o12 (fun q13 eq13 => ?_)
    have hFc := tp_fr hD hS hA
    refine va_calli (va_runV (As := [.int (-1)]) (rest := []) ⟨hx, hb, hml, hown, hts⟩ (t_X11_refuse l dC dI _ Ω κ τ ν ρ L f hG hT h0 ((-1)) ht_h0) (cwV 1 hts gX11_sea_X11_refuse rfl rfl rfl ⟨rfl, pd_X11_refuse⟩ ⟨Nat.le_of_ble_eq_true rfl, Nat.le_of_ble_eq_true rfl⟩) ⟨pz_blind, va_recv hK hP (ci := 11) (q0 := q13) rfl eq13, pz_pre hP hK hD hN⟩ rfl rfl hl.1 rfl (lv_room (Nat.le_of_ble_eq_true rfl)) dX11_sea_22 ⟨Nat.le_of_ble_eq_true rfl, Nat.le_of_ble_eq_true rfl⟩) hS (fun q _ h => hFc q h) hFc (fun r14 f16 t H1 locs ht hvm hw15 hB hz1 hk1 hS => ?_)
    refine tn_4 hw15 (fun hT hF17 hw15r hw15p => ?_); clear hw15
    have hR := hR.then hF17 (by decide)
    have hP := hB.1; rw [ht] at hP; have hD := tp_ad f16 hD; clear hB hFc hz1 hk1; subst ht; generalize t.heap = H at hP hS ⊢
    have hw15pq : r14.toInt = (-1) := by rw [hw15p]; rfl
    exact W.iret (v := r14) hx hb hr (fun t ht hW => ⟨⟨r14, f16, rfl, ⟨hT, hR, trivial, ⟨fun q0 => by omega, fun q0 => (by omega)⟩⟩, by rw [ht]; exact hP, va_K.moved hW.alike hK, hD⟩, hS.F ht⟩) hS.2.2 dX11_sea_25
  · have ic3 : r1.toInt ≠ 0 := zi_eqf rfl rfl c3
    have p18 : (0) ≤ (v.toInt) ∧ (v.toInt) ≤ (99) := (tp_cond.yes hw2p) (by omega)
    clear hw2r ic3
    refine lv_iload_n hx hb dX11_sea_10 rfl (lv_at hl 2 rfl) ?_
    refine lv_iconst (v := 0) hx hb dX11_sea_11 (by decide) ?_
    refine lv_bipush (v := 9) hx hb dX11_sea_12 (by decide) ?_
    refine pz_calli (va_runS (As := [.int u, .int 0, .int 9]) (rest := []) ⟨hx, hb, hml, hown, hts⟩ (t_X11_within l dC dI _ u (0) (9) (u.toInt) (0) (9) rfl rfl rfl) (va_cwS 3 hts gX11_sea_X11_within rfl rfl rfl pd_X11_within ⟨Nat.le_of_ble_eq_true rfl, Nat.le_of_ble_eq_true rfl⟩) ⟨pz_blind, pz_pre pz_P0 (hK.sub (tys' := []) [] rfl) (pz_D0 (A := fun _ => True)) hN⟩ rfl rfl hl.1 rfl (lv_room (Nat.le_of_ble_eq_true rfl)) dX11_sea_14 ⟨Nat.le_of_ble_eq_true rfl, Nat.le_of_ble_eq_true rfl⟩) (fun r19 hw20 => ?_)
    obtain ⟨hw20r, hw20p⟩ := hw20
    refine lv_if_ne (tgt := 26) hx hb dX11_sea_17 (by decide) (fun c21 => ?_) (fun c21 => ?_)
    · have ic21 : r19.toInt ≠ 0 := zi_ne rfl rfl c21
      have p22 : (0) ≤ (u.toInt) ∧ (u.toInt) ≤ (9) := (tp_cond.yes hw20p) (by omega)
      clear hw20r ic21
      refine lv_aload_n hx hb dX11_sea_26 rfl (lv_at hl 0 rfl) ?_
      refine tgk_12 hG ht_h0 (fun y23 y23l y24 y25 y26 y27 y28 y29a y29b y29c => ?_)
      refine tpk_12 hT ht_h0 (fun o30_x6 hf_o30 => ?_)
      refine tpk_pos (tp_in hG ht_h0 (by decide)) hf_o30 (fun q31 eq31 => ?_)
      refine va_get (D := (dC, dI)) (ci := 11) (v := .ref (ρ h0 0)) (C := RX11) (T := TX11) (N := 7) hx hb hts hfX11 hown hK hP q31 eq31 rfl 0 (by decide) (hts (.fieldLink RX11 10 "ColdShips" "world" "LColdShips$World;") wa_15) (fun _ h9 => h9) rfl dX11_sea_27 ?_
      refine tgk_11 hG y23 (fun y32 y32n y33 y33n y34 y35 y36 y37 y37m y37l y38 y38m y38l y39 y39m y39l y40 y40w y40m y40l y41 y41w y41m y41l y42 y42w y42m y42l y43 y43w y43m y43l => ?_)
      refine tpk_11 hT y23 (fun o44_x0 o44_x1 o44_x2 o44_x3 o44_x4 o44_x5 o44_x6 hf_o44 ro44_0 ro44_1 ro44_2 ro44_3 => ?_)
      refine tpk_pos (tp_in hG y23 (by decide)) hf_o44 (fun q45 eq45 => ?_)
      refine va_getN (D := (dC, dI)) (ci := 10) (v := .ref (ρ (ρ h0 0) 8)) (C := RX10) (T := TX10) (N := 19) hx hb hts hfX10 hown hK hP q45 eq45 rfl 8 (by decide) (va_Nw.use rfl (hN.1 (.fieldLinkNest RX11 101 "ColdShips$World" "seas" "[I" "ColdShips") nzw_64)) (fun _ h9 => h9) rfl dX11_sea_30 ?_
      refine lv_iload_n hx hb dX11_sea_33 rfl (lv_at hl 1 rfl) ?_
      refine lv_iload_n hx hb dX11_sea_34 rfl (lv_at hl 2 rfl) ?_
      refine tpk_20 hT y33 y33n (fun g47 hf_o46 => ?_)
      refine tpk_pos (tp_in hG y33 (by decide)) hf_o46 (fun q48 eq48 => ?_)
      refine va_iast hx hb hK hP hD hS q48 0 eq48 rfl (vp_in_iff.mpr ⟨by omega, by omega⟩) dX11_sea_35 (tp_k (.inl (κ 0, 100, .inl (upd g47 v.toNatClampNeg u))) hD (tp_in hG y33 (by decide)) eq48 (fun f49 H locs hP hD hS g51 k50 => ?_))
      have hT := hT.up y33 g51 k50 (tp_o20 y33n)
      have hR := hR.up y33 (by decide) k50
      generalize (upd g47 v.toNatClampNeg u) = g52 at g51
      refine lv_aload_n hx hb dX11_sea_36 rfl (lv_at hl 0 rfl) ?_
      refine lv_iconst (v := 0) hx hb dX11_sea_37 (by decide) ?_
      have hf_53 : f49 h0 = .inr (11, [.ref (ρ h0 0), .ref (ρ h0 1), .ref (ρ h0 2), .ref (ρ h0 3), .ref (ρ h0 4), .ref (ρ h0 5), .int o30_x6]) := (k50 _ (tp_ne ht_h0 y33 (by decide))).trans hf_o30
      refine tpk_pos (tp_in hG ht_h0 (by decide)) hf_53 (fun q54 eq54 => ?_)
      have hFc := tp_fr hD hS hA
      refine va_calli (va_runV (As := [.int 0]) (rest := []) ⟨hx, hb, hml, hown, hts⟩ (t_X11_accept l dC dI _ Ω κ τ ν ρ L f49 hG hT h0 (0) ht_h0) (cwV 1 hts gX11_sea_X11_accept rfl rfl rfl ⟨rfl, pd_X11_accept⟩ ⟨Nat.le_of_ble_eq_true rfl, Nat.le_of_ble_eq_true rfl⟩) ⟨pz_blind, va_recv hK hP (ci := 11) (q0 := q54) rfl eq54, pz_pre hP hK hD hN⟩ rfl rfl hl.1 rfl (lv_room (Nat.le_of_ble_eq_true rfl)) dX11_sea_38 ⟨Nat.le_of_ble_eq_true rfl, Nat.le_of_ble_eq_true rfl⟩) hS (fun q _ h => hFc q h) hFc (fun r55 f57 t H1 locs ht hvm hw56 hB hz1 hk1 hS => ?_)
      refine tn_4 hw56 (fun hT hF58 hw56r hw56p => ?_); clear hw56
      have hR := hR.then hF58 (by decide)
      have hP := hB.1; rw [ht] at hP; have hD := tp_ad f57 hD; clear hB hFc hz1 hk1; subst ht; generalize t.heap = H at hP hS ⊢
      have hw56pq : r55.toInt = 0 := by rw [hw56p]; rfl
      exact W.iret (v := r55) hx hb hr (fun t ht hW => ⟨⟨r55, f57, rfl, ⟨hT, hR, trivial, ⟨fun q0 => by omega, fun q0 => (by omega)⟩⟩, by rw [ht]; exact hP, va_K.moved hW.alike hK, hD⟩, hS.F ht⟩) hS.2.2 dX11_sea_41
    · have ic21 : r19.toInt = 0 := zi_nef rfl rfl c21
      have p59 : ¬ ((0) ≤ (u.toInt) ∧ (u.toInt) ≤ (9)) := (tp_cond.no hw20p) (by omega)
      clear hw20r ic21
      refine lv_aload_n hx hb dX11_sea_20 rfl (lv_at hl 0 rfl) ?_
      refine lv_iconst (v := (-1)) hx hb dX11_sea_21 (by decide) ?_
      refine tgk_12 hG ht_h0 (fun y60 y60l y61 y62 y63 y64 y65 y66a y66b y66c => ?_)
      refine tpk_12 hT ht_h0 (fun o67_x6 hf_o67 => ?_)
      refine tpk_pos (tp_in hG ht_h0 (by decide)) hf_o67 (fun q68 eq68 => ?_)
      have hFc := tp_fr hD hS hA
      refine va_calli (va_runV (As := [.int (-1)]) (rest := []) ⟨hx, hb, hml, hown, hts⟩ (t_X11_refuse l dC dI _ Ω κ τ ν ρ L f hG hT h0 ((-1)) ht_h0) (cwV 1 hts gX11_sea_X11_refuse rfl rfl rfl ⟨rfl, pd_X11_refuse⟩ ⟨Nat.le_of_ble_eq_true rfl, Nat.le_of_ble_eq_true rfl⟩) ⟨pz_blind, va_recv hK hP (ci := 11) (q0 := q68) rfl eq68, pz_pre hP hK hD hN⟩ rfl rfl hl.1 rfl (lv_room (Nat.le_of_ble_eq_true rfl)) dX11_sea_22 ⟨Nat.le_of_ble_eq_true rfl, Nat.le_of_ble_eq_true rfl⟩) hS (fun q _ h => hFc q h) hFc (fun r69 f71 t H1 locs ht hvm hw70 hB hz1 hk1 hS => ?_)
      refine tn_4 hw70 (fun hT hF72 hw70r hw70p => ?_); clear hw70
      have hR := hR.then hF72 (by decide)
      have hP := hB.1; rw [ht] at hP; have hD := tp_ad f71 hD; clear hB hFc hz1 hk1; subst ht; generalize t.heap = H at hP hS ⊢
      have hw70pq : r69.toInt = (-1) := by rw [hw70p]; rfl
      exact W.iret (v := r69) hx hb hr (fun t ht hW => ⟨⟨r69, f71, rfl, ⟨hT, hR, trivial, ⟨fun q0 => by omega, fun q0 => (by omega)⟩⟩, by rw [ht]; exact hP, va_K.moved hW.alike hK, hD⟩, hS.F ht⟩) hS.2.2 dX11_sea_25
set_option maxHeartbeats 4000000 in
set_option maxRecDepth 100000 in
theorem t_X11_terms (l : Launch) (dC : Nat → ClassId) (dI : Nat → Nat → Nat) (sz : Nat) (Ω : Nat → Nat → (Nat → Nat) → va_E → Prop) (κ : Nat → ClassId) (τ ν : Nat → Nat) (ρ : Nat → Nat → Nat) (L : List Nat) (f : Nat → va_E) (hG : tp_G τ ν ρ L) (hT : tp_T Ω κ τ ν ρ f) (h0 : Nat) (v : Int32) (u : Int32) (ht_h0 : τ h0 = 12) : Met l yX11_terms wqX11_terms ({ frames := 3, cells := 0, slots := 0, locals := 800 }) (va_Pc [.ref h0, .int v, .int u] (pz_B dC dI (tp_K κ) (va_pl L f) sz)) (va_Qi (fun (r : Int32) (f1 : Nat → va_E) => tp_T Ω κ τ ν ρ f1 ∧ tp_F τ [11, 12] f f1 ∧ True ∧ tp_X τ ρ (fun n => n = 0) f f1 ∧ ((((¬ ((0 ≤ v.toInt ∧ v.toInt ≤ 100) ∧ (1 ≤ u.toInt ∧ u.toInt ≤ 1000))) → r.toInt = -1) ∧ (¬ (¬ ((0 ≤ v.toInt ∧ v.toInt ≤ 100) ∧ (1 ≤ u.toInt ∧ u.toInt ≤ 1000))) → r.toInt = 0))) ∧ ((tp_fld (f1 (ρ h0 0)) 0) = (tp_fld (f (ρ h0 0)) 0)) ∧ ((tp_fld (f1 (ρ h0 0)) 4) = (tp_fld (f (ρ h0 0)) 4)) ∧ ((tp_fld (f1 (ρ h0 0)) 5) = (tp_fld (f (ρ h0 0)) 5))) (fun (f1 : Nat → va_E) (t : State) => pz_E dC dI (tp_K κ) (va_A (va_pl L f) sz) (va_pl L f1) t) (va_A (va_pl L f) sz)) 0 0 (va_A (va_pl L f) sz) := by
  refine Met.ofW (cc := cX11_terms) (maxL := 3) (ret := some .int) (by decide) rfl ?_
  intro p e s m args below meth c s₁ B hml hv
  obtain ⟨rfl, hsz, hP, hK, hD0, hN⟩ := hv
  have hx := B.exec
  have hb := B.bytes
  have hr := B.returns
  have hts := fun (w : Cond) (h : w ∈ WALL) => atoms_spec (ws := wqX11_terms) B.pre w (List.mem_cons_of_mem _ h)
  have hown : s.vm.findClass RX11 = some m.cls := findClass_of_methodNamed B.named
  have hlocks := B.notSynchronized
  subst hsz
  have hD := hD0.self (sz := s.heap.size)
  generalize hAe : va_A (va_pl L f) s.heap.size = A at hD ⊢
  have hA : ∀ q : Nat, s.heap.size ≤ q → A q := fun q h => by rw [← hAe]; exact Or.inr h
  have hS : va_S A s.heap s.heap [] := va_S.rf
  have hR : tp_F τ [11, 12] f f := tp_F.rf
  have hX : tp_X τ ρ (fun n => n = 0) f f := tp_X.rf
  have hl := lv_entry ([.ref h0, .int v, .int u]) (n := 3) (Nat.le_of_ble_eq_true rfl)
  rw [lg_entry_eq]
  generalize (lg_sl ([.ref h0, .int v, .int u]) ++ List.replicate (3 - (lg_sl ([.ref h0, .int v, .int u])).length) Slot.unset).toArray = ls at hl ⊢
  have hl : lv_has ls 3 [(0, .ref h0), (1, .int v), (2, .int u)] := hl
  refine tgk_12 hG ht_h0 (fun y1 y1l y2 y3 y4 y5 y6 y7a y7b y7c => ?_)
  refine tgk_11 hG y1 (fun y8 y8n y9 y9n y10 y11 y12 y13 y13m y13l y14 y14m y14l y15 y15m y15l y16 y16w y16m y16l y17 y17w y17m y17l y18 y18w y18m y18l y19 y19w y19m y19l => ?_)
  refine tpk_11 hT y1 (fun o20_x0 o20_x1 o20_x2 o20_x3 o20_x4 o20_x5 o20_x6 hf_o20 ro20_0 ro20_1 ro20_2 ro20_3 => ?_)
  refine lv_iload_n hx hb dX11_terms_0 rfl (lv_at hl 1 rfl) ?_
  refine lv_iconst (v := 0) hx hb dX11_terms_1 (by decide) ?_
  refine lv_bipush (v := 100) hx hb dX11_terms_2 (by decide) ?_
  refine pz_calli (va_runS (As := [.int v, .int 0, .int 100]) (rest := []) ⟨hx, hb, hml, hown, hts⟩ (t_X11_within l dC dI _ v (0) (100) (v.toInt) (0) (100) rfl rfl rfl) (va_cwS 3 hts gX11_terms_X11_within rfl rfl rfl pd_X11_within ⟨Nat.le_of_ble_eq_true rfl, Nat.le_of_ble_eq_true rfl⟩) ⟨pz_blind, pz_pre pz_P0 (hK.sub (tys' := []) [] rfl) (pz_D0 (A := fun _ => True)) hN⟩ rfl rfl hl.1 rfl (lv_room (Nat.le_of_ble_eq_true rfl)) dX11_terms_4 ⟨Nat.le_of_ble_eq_true rfl, Nat.le_of_ble_eq_true rfl⟩) (fun r21 hw22 => ?_)
  obtain ⟨hw22r, hw22p⟩ := hw22
  refine lv_if_eq (tgt := 21) hx hb dX11_terms_7 (by decide) (fun c23 => ?_) (fun c23 => ?_)
  · have ic23 : r21.toInt = 0 := zi_eq rfl rfl c23
    have p24 : ¬ ((0) ≤ (v.toInt) ∧ (v.toInt) ≤ (100)) := (tp_cond.no hw22p) (by omega)
    clear hw22r ic23
    refine lv_aload_n hx hb dX11_terms_21 rfl (lv_at hl 0 rfl) ?_
    refine lv_iconst (v := (-1)) hx hb dX11_terms_22 (by decide) ?_
    refine tpk_12 hT ht_h0 (fun o25_x6 hf_o25 => ?_)
    refine tpk_pos (tp_in hG ht_h0 (by decide)) hf_o25 (fun q26 eq26 => ?_)
    have hFc := tp_fr hD hS hA
    refine va_calli (va_runV (As := [.int (-1)]) (rest := []) ⟨hx, hb, hml, hown, hts⟩ (t_X11_refuse l dC dI _ Ω κ τ ν ρ L f hG hT h0 ((-1)) ht_h0) (cwV 1 hts gX11_terms_X11_refuse rfl rfl rfl ⟨rfl, pd_X11_refuse⟩ ⟨Nat.le_of_ble_eq_true rfl, Nat.le_of_ble_eq_true rfl⟩) ⟨pz_blind, va_recv hK hP (ci := 11) (q0 := q26) rfl eq26, pz_pre hP hK hD hN⟩ rfl rfl hl.1 rfl (lv_room (Nat.le_of_ble_eq_true rfl)) dX11_terms_23 ⟨Nat.le_of_ble_eq_true rfl, Nat.le_of_ble_eq_true rfl⟩) hS (fun q _ h => hFc q h) hFc (fun r27 f29 t H1 locs ht hvm hw28 hB hz1 hk1 hS => ?_)
    refine tn_4 hw28 (fun hT hF30 hw28r hw28p => ?_); clear hw28
    have hR := hR.then hF30 (by decide)
    have hX := hX.fr hF30 (by decide)
    have hP := hB.1; rw [ht] at hP; have hD := tp_ad f29 hD; clear hB hFc hz1 hk1; subst ht; generalize t.heap = H at hP hS ⊢
    have hw28pq : r27.toInt = (-1) := by rw [hw28p]; rfl
    have hf_31 : f29 (ρ h0 0) = .inr (10, [.int o20_x0, .int o20_x1, .int o20_x2, .int o20_x3, .int o20_x4, .int o20_x5, .int o20_x6, .ref (ρ (ρ h0 0) 7), .ref (ρ (ρ h0 0) 8), .ref (ρ (ρ h0 0) 9), .ref (ρ (ρ h0 0) 10), .ref (ρ (ρ h0 0) 11), .ref (ρ (ρ h0 0) 12), .ref (ρ (ρ h0 0) 13), .ref (ρ (ρ h0 0) 14), .ref (ρ (ρ h0 0) 15), .ref (ρ (ρ h0 0) 16), .ref (ρ (ρ h0 0) 17), .ref (ρ (ρ h0 0) 18)]) := (hF30 _ (by rw [tp_iu y1]; decide)).trans hf_o20
    have ro20_0 := tp_hu ro20_0
    have tv32 : tp_fld (f29 (ρ h0 0)) 0 = o20_x0.toInt := by rw [hf_31]; rfl
    have tv33 : tp_fld (f (ρ h0 0)) 0 = o20_x0.toInt := by rw [hf_o20]; rfl
    have ro20_1 := tp_hu ro20_1
    have tv34 : tp_fld (f29 (ρ h0 0)) 4 = o20_x4.toInt := by rw [hf_31]; rfl
    have tv35 : tp_fld (f (ρ h0 0)) 4 = o20_x4.toInt := by rw [hf_o20]; rfl
    have ro20_2 := tp_hu ro20_2
    have tv36 : tp_fld (f29 (ρ h0 0)) 5 = o20_x5.toInt := by rw [hf_31]; rfl
    have tv37 : tp_fld (f (ρ h0 0)) 5 = o20_x5.toInt := by rw [hf_o20]; rfl
    exact W.iret (v := r27) hx hb hr (fun t ht hW => ⟨⟨r27, f29, rfl, ⟨hT, hR, trivial, ⟨hX, (by rw [tv32, tv33, tv34, tv35, tv36, tv37]; exact ⟨⟨fun q0 => by omega, fun q0 => (by omega)⟩, (by omega), (by omega), (by omega)⟩)⟩⟩, by rw [ht]; exact hP, va_K.moved hW.alike hK, hD⟩, hS.F ht⟩) hS.2.2 dX11_terms_26
  · have ic23 : r21.toInt ≠ 0 := zi_eqf rfl rfl c23
    have p38 : (0) ≤ (v.toInt) ∧ (v.toInt) ≤ (100) := (tp_cond.yes hw22p) (by omega)
    clear hw22r ic23
    refine lv_iload_n hx hb dX11_terms_10 rfl (lv_at hl 2 rfl) ?_
    refine lv_iconst (v := 1) hx hb dX11_terms_11 (by decide) ?_
    refine lv_sipush (v := 1000) hx hb dX11_terms_12 (by decide) ?_
    refine pz_calli (va_runS (As := [.int u, .int 1, .int 1000]) (rest := []) ⟨hx, hb, hml, hown, hts⟩ (t_X11_within l dC dI _ u (1) (1000) (u.toInt) (1) (1000) rfl rfl rfl) (va_cwS 3 hts gX11_terms_X11_within rfl rfl rfl pd_X11_within ⟨Nat.le_of_ble_eq_true rfl, Nat.le_of_ble_eq_true rfl⟩) ⟨pz_blind, pz_pre pz_P0 (hK.sub (tys' := []) [] rfl) (pz_D0 (A := fun _ => True)) hN⟩ rfl rfl hl.1 rfl (lv_room (Nat.le_of_ble_eq_true rfl)) dX11_terms_15 ⟨Nat.le_of_ble_eq_true rfl, Nat.le_of_ble_eq_true rfl⟩) (fun r39 hw40 => ?_)
    obtain ⟨hw40r, hw40p⟩ := hw40
    refine lv_if_ne (tgt := 27) hx hb dX11_terms_18 (by decide) (fun c41 => ?_) (fun c41 => ?_)
    · have ic41 : r39.toInt ≠ 0 := zi_ne rfl rfl c41
      have p42 : (1) ≤ (u.toInt) ∧ (u.toInt) ≤ (1000) := (tp_cond.yes hw40p) (by omega)
      clear hw40r ic41
      refine lv_aload_n hx hb dX11_terms_27 rfl (lv_at hl 0 rfl) ?_
      refine tpk_12 hT ht_h0 (fun o43_x6 hf_o43 => ?_)
      refine tpk_pos (tp_in hG ht_h0 (by decide)) hf_o43 (fun q44 eq44 => ?_)
      refine va_get (D := (dC, dI)) (ci := 11) (v := .ref (ρ h0 0)) (C := RX11) (T := TX11) (N := 7) hx hb hts hfX11 hown hK hP q44 eq44 rfl 0 (by decide) (hts (.fieldLink RX11 10 "ColdShips" "world" "LColdShips$World;") wa_15) (fun _ h9 => h9) rfl dX11_terms_28 ?_
      refine lv_iload_n hx hb dX11_terms_31 rfl (lv_at hl 1 rfl) ?_
      refine tpk_pos (tp_in hG y1 (by decide)) hf_o20 (fun q45 eq45 => ?_)
      refine va_putN (D := (dC, dI)) (ci := 10) (v := .int v) (ty := .int) (C := RX10) (T := TX10) (N := 19) hx hb hts hfX10 tyX10 tyX10_ok nmX10 hown hK hP hD hS q45 eq45 rfl 1 (by decide) (va_Nw.use rfl (hN.1 (.fieldLinkNest RX11 135 "ColdShips$World" "boils" "I" "ColdShips") nzw_51)) (fun _ h9 => h9) rfl (tyX10_ok 1 (by decide)) rfl rfl (Nat.le_of_ble_eq_true rfl) dX11_terms_32 (tp_k (.inr (10, [.int o20_x0, .int v, .int o20_x2, .int o20_x3, .int o20_x4, .int o20_x5, .int o20_x6, .ref (ρ (ρ h0 0) 7), .ref (ρ (ρ h0 0) 8), .ref (ρ (ρ h0 0) 9), .ref (ρ (ρ h0 0) 10), .ref (ρ (ρ h0 0) 11), .ref (ρ (ρ h0 0) 12), .ref (ρ (ρ h0 0) 13), .ref (ρ (ρ h0 0) 14), .ref (ρ (ρ h0 0) 15), .ref (ρ (ρ h0 0) 16), .ref (ρ (ρ h0 0) 17), .ref (ρ (ρ h0 0) 18)])) hD (tp_in hG y1 (by decide)) eq45 (fun f46 H locs hP hD hS g48 k47 => ?_))
      have hT := hT.up y1 g48 k47 ⟨_, _, _, _, _, _, _, rfl, ro20_0, ro20_1, ro20_2, ro20_3⟩
      have hR := hR.up y1 (by decide) k47
      have hX := hX.up k47 (Or.inr (by show (ρ (ρ h0 0) 30) = 0; omega))
      refine lv_aload_n hx hb dX11_terms_35 rfl (lv_at hl 0 rfl) ?_
      have hf_49 : f46 h0 = .inr (11, [.ref (ρ h0 0), .ref (ρ h0 1), .ref (ρ h0 2), .ref (ρ h0 3), .ref (ρ h0 4), .ref (ρ h0 5), .int o43_x6]) := (k47 _ (tp_ne ht_h0 y1 (by decide))).trans hf_o43
      refine tpk_pos (tp_in hG ht_h0 (by decide)) hf_49 (fun q50 eq50 => ?_)
      refine va_get (D := (dC, dI)) (ci := 11) (v := .ref (ρ h0 0)) (C := RX11) (T := TX11) (N := 7) hx hb hts hfX11 hown hK hP q50 eq50 rfl 0 (by decide) (hts (.fieldLink RX11 10 "ColdShips" "world" "LColdShips$World;") wa_15) (fun _ h9 => h9) rfl dX11_terms_36 ?_
      refine lv_iload_n hx hb dX11_terms_39 rfl (lv_at hl 2 rfl) ?_
      refine tpk_pos (tp_in hG y1 (by decide)) g48 (fun q51 eq51 => ?_)
      refine va_putN (D := (dC, dI)) (ci := 10) (v := .int u) (ty := .int) (C := RX10) (T := TX10) (N := 19) hx hb hts hfX10 tyX10 tyX10_ok nmX10 hown hK hP hD hS q51 eq51 rfl 2 (by decide) (va_Nw.use rfl (hN.1 (.fieldLinkNest RX11 138 "ColdShips$World" "limit" "I" "ColdShips") nzw_54)) (fun _ h9 => h9) rfl (tyX10_ok 2 (by decide)) rfl rfl (Nat.le_of_ble_eq_true rfl) dX11_terms_40 (tp_k (.inr (10, [.int o20_x0, .int v, .int u, .int o20_x3, .int o20_x4, .int o20_x5, .int o20_x6, .ref (ρ (ρ h0 0) 7), .ref (ρ (ρ h0 0) 8), .ref (ρ (ρ h0 0) 9), .ref (ρ (ρ h0 0) 10), .ref (ρ (ρ h0 0) 11), .ref (ρ (ρ h0 0) 12), .ref (ρ (ρ h0 0) 13), .ref (ρ (ρ h0 0) 14), .ref (ρ (ρ h0 0) 15), .ref (ρ (ρ h0 0) 16), .ref (ρ (ρ h0 0) 17), .ref (ρ (ρ h0 0) 18)])) hD (tp_in hG y1 (by decide)) eq51 (fun f52 H locs hP hD hS g54 k53 => ?_))
      have hT := hT.up y1 g54 k53 ⟨_, _, _, _, _, _, _, rfl, ro20_0, ro20_1, ro20_2, ro20_3⟩
      have hR := hR.up y1 (by decide) k53
      have hX := hX.up k53 (Or.inr (by show (ρ (ρ h0 0) 30) = 0; omega))
      refine lv_aload_n hx hb dX11_terms_43 rfl (lv_at hl 0 rfl) ?_
      refine lv_iconst (v := 0) hx hb dX11_terms_44 (by decide) ?_
      have hf_55 : f52 h0 = .inr (11, [.ref (ρ h0 0), .ref (ρ h0 1), .ref (ρ h0 2), .ref (ρ h0 3), .ref (ρ h0 4), .ref (ρ h0 5), .int o43_x6]) := (k53 _ (tp_ne ht_h0 y1 (by decide))).trans hf_49
      refine tpk_pos (tp_in hG ht_h0 (by decide)) hf_55 (fun q56 eq56 => ?_)
      have hFc := tp_fr hD hS hA
      refine va_calli (va_runV (As := [.int 0]) (rest := []) ⟨hx, hb, hml, hown, hts⟩ (t_X11_accept l dC dI _ Ω κ τ ν ρ L f52 hG hT h0 (0) ht_h0) (cwV 1 hts gX11_terms_X11_accept rfl rfl rfl ⟨rfl, pd_X11_accept⟩ ⟨Nat.le_of_ble_eq_true rfl, Nat.le_of_ble_eq_true rfl⟩) ⟨pz_blind, va_recv hK hP (ci := 11) (q0 := q56) rfl eq56, pz_pre hP hK hD hN⟩ rfl rfl hl.1 rfl (lv_room (Nat.le_of_ble_eq_true rfl)) dX11_terms_45 ⟨Nat.le_of_ble_eq_true rfl, Nat.le_of_ble_eq_true rfl⟩) hS (fun q _ h => hFc q h) hFc (fun r57 f59 t H1 locs ht hvm hw58 hB hz1 hk1 hS => ?_)
      refine tn_4 hw58 (fun hT hF60 hw58r hw58p => ?_); clear hw58
      have hR := hR.then hF60 (by decide)
      have hX := hX.fr hF60 (by decide)
      have hP := hB.1; rw [ht] at hP; have hD := tp_ad f59 hD; clear hB hFc hz1 hk1; subst ht; generalize t.heap = H at hP hS ⊢
      have hw58pq : r57.toInt = 0 := by rw [hw58p]; rfl
      have hf_61 : f59 (ρ h0 0) = .inr (10, [.int o20_x0, .int v, .int u, .int o20_x3, .int o20_x4, .int o20_x5, .int o20_x6, .ref (ρ (ρ h0 0) 7), .ref (ρ (ρ h0 0) 8), .ref (ρ (ρ h0 0) 9), .ref (ρ (ρ h0 0) 10), .ref (ρ (ρ h0 0) 11), .ref (ρ (ρ h0 0) 12), .ref (ρ (ρ h0 0) 13), .ref (ρ (ρ h0 0) 14), .ref (ρ (ρ h0 0) 15), .ref (ρ (ρ h0 0) 16), .ref (ρ (ρ h0 0) 17), .ref (ρ (ρ h0 0) 18)]) := (hF60 _ (by rw [tp_iu y1]; decide)).trans g54
      have ro20_0 := tp_hu ro20_0
      have tv62 : tp_fld (f59 (ρ h0 0)) 0 = o20_x0.toInt := by rw [hf_61]; rfl
      have tv63 : tp_fld (f (ρ h0 0)) 0 = o20_x0.toInt := by rw [hf_o20]; rfl
      have ro20_1 := tp_hu ro20_1
      have tv64 : tp_fld (f59 (ρ h0 0)) 4 = o20_x4.toInt := by rw [hf_61]; rfl
      have tv65 : tp_fld (f (ρ h0 0)) 4 = o20_x4.toInt := by rw [hf_o20]; rfl
      have ro20_2 := tp_hu ro20_2
      have tv66 : tp_fld (f59 (ρ h0 0)) 5 = o20_x5.toInt := by rw [hf_61]; rfl
      have tv67 : tp_fld (f (ρ h0 0)) 5 = o20_x5.toInt := by rw [hf_o20]; rfl
      exact W.iret (v := r57) hx hb hr (fun t ht hW => ⟨⟨r57, f59, rfl, ⟨hT, hR, trivial, ⟨hX, (by rw [tv62, tv63, tv64, tv65, tv66, tv67]; exact ⟨⟨fun q0 => by omega, fun q0 => (by omega)⟩, (by omega), (by omega), (by omega)⟩)⟩⟩, by rw [ht]; exact hP, va_K.moved hW.alike hK, hD⟩, hS.F ht⟩) hS.2.2 dX11_terms_48
    · have ic41 : r39.toInt = 0 := zi_nef rfl rfl c41
      have p68 : ¬ ((1) ≤ (u.toInt) ∧ (u.toInt) ≤ (1000)) := (tp_cond.no hw40p) (by omega)
      clear hw40r ic41
      refine lv_aload_n hx hb dX11_terms_21 rfl (lv_at hl 0 rfl) ?_
      refine lv_iconst (v := (-1)) hx hb dX11_terms_22 (by decide) ?_
      refine tpk_12 hT ht_h0 (fun o69_x6 hf_o69 => ?_)
      refine tpk_pos (tp_in hG ht_h0 (by decide)) hf_o69 (fun q70 eq70 => ?_)
      have hFc := tp_fr hD hS hA
      refine va_calli (va_runV (As := [.int (-1)]) (rest := []) ⟨hx, hb, hml, hown, hts⟩ (t_X11_refuse l dC dI _ Ω κ τ ν ρ L f hG hT h0 ((-1)) ht_h0) (cwV 1 hts gX11_terms_X11_refuse rfl rfl rfl ⟨rfl, pd_X11_refuse⟩ ⟨Nat.le_of_ble_eq_true rfl, Nat.le_of_ble_eq_true rfl⟩) ⟨pz_blind, va_recv hK hP (ci := 11) (q0 := q70) rfl eq70, pz_pre hP hK hD hN⟩ rfl rfl hl.1 rfl (lv_room (Nat.le_of_ble_eq_true rfl)) dX11_terms_23 ⟨Nat.le_of_ble_eq_true rfl, Nat.le_of_ble_eq_true rfl⟩) hS (fun q _ h => hFc q h) hFc (fun r71 f73 t H1 locs ht hvm hw72 hB hz1 hk1 hS => ?_)
      refine tn_4 hw72 (fun hT hF74 hw72r hw72p => ?_); clear hw72
      have hR := hR.then hF74 (by decide)
      have hX := hX.fr hF74 (by decide)
      have hP := hB.1; rw [ht] at hP; have hD := tp_ad f73 hD; clear hB hFc hz1 hk1; subst ht; generalize t.heap = H at hP hS ⊢
      have hw72pq : r71.toInt = (-1) := by rw [hw72p]; rfl
      have hf_75 : f73 (ρ h0 0) = .inr (10, [.int o20_x0, .int o20_x1, .int o20_x2, .int o20_x3, .int o20_x4, .int o20_x5, .int o20_x6, .ref (ρ (ρ h0 0) 7), .ref (ρ (ρ h0 0) 8), .ref (ρ (ρ h0 0) 9), .ref (ρ (ρ h0 0) 10), .ref (ρ (ρ h0 0) 11), .ref (ρ (ρ h0 0) 12), .ref (ρ (ρ h0 0) 13), .ref (ρ (ρ h0 0) 14), .ref (ρ (ρ h0 0) 15), .ref (ρ (ρ h0 0) 16), .ref (ρ (ρ h0 0) 17), .ref (ρ (ρ h0 0) 18)]) := (hF74 _ (by rw [tp_iu y1]; decide)).trans hf_o20
      have ro20_0 := tp_hu ro20_0
      have tv76 : tp_fld (f73 (ρ h0 0)) 0 = o20_x0.toInt := by rw [hf_75]; rfl
      have tv77 : tp_fld (f (ρ h0 0)) 0 = o20_x0.toInt := by rw [hf_o20]; rfl
      have ro20_1 := tp_hu ro20_1
      have tv78 : tp_fld (f73 (ρ h0 0)) 4 = o20_x4.toInt := by rw [hf_75]; rfl
      have tv79 : tp_fld (f (ρ h0 0)) 4 = o20_x4.toInt := by rw [hf_o20]; rfl
      have ro20_2 := tp_hu ro20_2
      have tv80 : tp_fld (f73 (ρ h0 0)) 5 = o20_x5.toInt := by rw [hf_75]; rfl
      have tv81 : tp_fld (f (ρ h0 0)) 5 = o20_x5.toInt := by rw [hf_o20]; rfl
      exact W.iret (v := r71) hx hb hr (fun t ht hW => ⟨⟨r71, f73, rfl, ⟨hT, hR, trivial, ⟨hX, (by rw [tv76, tv77, tv78, tv79, tv80, tv81]; exact ⟨⟨fun q0 => by omega, fun q0 => (by omega)⟩, (by omega), (by omega), (by omega)⟩)⟩⟩, by rw [ht]; exact hP, va_K.moved hW.alike hK, hD⟩, hS.F ht⟩) hS.2.2 dX11_terms_26
set_option maxHeartbeats 4000000 in
set_option maxRecDepth 100000 in
theorem t_X11_slot (l : Launch) (dC : Nat → ClassId) (dI : Nat → Nat → Nat) (sz : Nat) (Ω : Nat → Nat → (Nat → Nat) → va_E → Prop) (κ : Nat → ClassId) (τ ν : Nat → Nat) (ρ : Nat → Nat → Nat) (L : List Nat) (f : Nat → va_E) (hG : tp_G τ ν ρ L) (hT : tp_T Ω κ τ ν ρ f) (h0 : Nat) (v : Int32) (u : Int32) (a : Int32) (b : Int32) (ht_h0 : τ h0 = 12) : Met l yX11_slot wqX11_slot ({ frames := 5, cells := 0, slots := 0, locals := 1600 }) (va_Pc [.ref h0, .int v, .int u, .int a, .int b] (pz_B dC dI (tp_K κ) (va_pl L f) sz)) (va_Qi (fun (r : Int32) (f1 : Nat → va_E) => tp_T Ω κ τ ν ρ f1 ∧ tp_F τ [7, 12, 20] f f1 ∧ True ∧ tp_X τ ρ (fun n => n = 12) f f1) (fun (f1 : Nat → va_E) (t : State) => pz_E dC dI (tp_K κ) (va_A (va_pl L f) sz) (va_pl L f1) t) (va_A (va_pl L f) sz)) 0 0 (va_A (va_pl L f) sz) := by
  refine Met.ofW (cc := cX11_slot) (maxL := 5) (ret := some .int) (by decide) rfl ?_
  intro p e s m args below meth c s₁ B hml hv
  obtain ⟨rfl, hsz, hP, hK, hD0, hN⟩ := hv
  have hx := B.exec
  have hb := B.bytes
  have hr := B.returns
  have hts := fun (w : Cond) (h : w ∈ WALL) => atoms_spec (ws := wqX11_slot) B.pre w (List.mem_cons_of_mem _ h)
  have hown : s.vm.findClass RX11 = some m.cls := findClass_of_methodNamed B.named
  have hlocks := B.notSynchronized
  subst hsz
  have hD := hD0.self (sz := s.heap.size)
  generalize hAe : va_A (va_pl L f) s.heap.size = A at hD ⊢
  have hA : ∀ q : Nat, s.heap.size ≤ q → A q := fun q h => by rw [← hAe]; exact Or.inr h
  have hS : va_S A s.heap s.heap [] := va_S.rf
  have hR : tp_F τ [7, 12, 20] f f := tp_F.rf
  have hX : tp_X τ ρ (fun n => n = 12) f f := tp_X.rf
  have hl := lv_entry ([.ref h0, .int v, .int u, .int a, .int b]) (n := 5) (Nat.le_of_ble_eq_true rfl)
  rw [lg_entry_eq]
  generalize (lg_sl ([.ref h0, .int v, .int u, .int a, .int b]) ++ List.replicate (5 - (lg_sl ([.ref h0, .int v, .int u, .int a, .int b])).length) Slot.unset).toArray = ls at hl ⊢
  have hl : lv_has ls 5 [(0, .ref h0), (1, .int v), (2, .int u), (3, .int a), (4, .int b)] := hl
  refine lv_iload_n hx hb dX11_slot_0 rfl (lv_at hl 3 rfl) ?_
  refine lv_iload hx hb dX11_slot_1 (lv_at hl 4 rfl) ?_
  refine pz_calli (va_runS (As := [.int a, .int b]) (rest := []) ⟨hx, hb, hml, hown, hts⟩ (t_X11_isSpan l dC dI _ a b (a.toInt) (b.toInt) rfl rfl) (va_cwS 2 hts gX11_slot_X11_isSpan rfl rfl rfl pd_X11_isSpan ⟨Nat.le_of_ble_eq_true rfl, Nat.le_of_ble_eq_true rfl⟩) ⟨pz_blind, pz_pre pz_P0 (hK.sub (tys' := []) [] rfl) (pz_D0 (A := fun _ => True)) hN⟩ rfl rfl hl.1 rfl (lv_room (Nat.le_of_ble_eq_true rfl)) dX11_slot_3 ⟨Nat.le_of_ble_eq_true rfl, Nat.le_of_ble_eq_true rfl⟩) (fun r1 hw2 => ?_)
  obtain ⟨hw2r, hw2p⟩ := hw2
  refine lv_if_ne (tgt := 15) hx hb dX11_slot_6 (by decide) (fun c3 => ?_) (fun c3 => ?_)
  · have ic3 : r1.toInt ≠ 0 := zi_ne rfl rfl c3
    have p4 : (0 ≤ (a.toInt) ∧ (a.toInt) ≤ 2399) ∧ (0 ≤ (b.toInt) ∧ (b.toInt) ≤ 2399) ∧ (a.toInt) ≤ (b.toInt) := (tp_cond.yes hw2p) (by omega)
    clear hw2r ic3
    refine lv_aload_n hx hb dX11_slot_15 rfl (lv_at hl 0 rfl) ?_
    refine tgk_12 hG ht_h0 (fun y5 y5l y6 y7 y8 y9 y10 y11a y11b y11c => ?_)
    refine tpk_12 hT ht_h0 (fun o12_x6 hf_o12 => ?_)
    refine tpk_pos (tp_in hG ht_h0 (by decide)) hf_o12 (fun q13 eq13 => ?_)
    refine va_get (D := (dC, dI)) (ci := 11) (v := .ref (ρ h0 0)) (C := RX11) (T := TX11) (N := 7) hx hb hts hfX11 hown hK hP q13 eq13 rfl 0 (by decide) (hts (.fieldLink RX11 10 "ColdShips" "world" "LColdShips$World;") wa_15) (fun _ h9 => h9) rfl dX11_slot_16 ?_
    refine lv_iload_n hx hb dX11_slot_19 rfl (lv_at hl 1 rfl) ?_
    refine tgk_11 hG y5 (fun y14 y14n y15 y15n y16 y17 y18 y19 y19m y19l y20 y20m y20l y21 y21m y21l y22 y22w y22m y22l y23 y23w y23m y23l y24 y24w y24m y24l y25 y25w y25m y25l => ?_)
    refine tpk_11 hT y5 (fun o26_x0 o26_x1 o26_x2 o26_x3 o26_x4 o26_x5 o26_x6 hf_o26 ro26_0 ro26_1 ro26_2 ro26_3 => ?_)
    refine tpk_pos (tp_in hG y5 (by decide)) hf_o26 (fun q27 eq27 => ?_)
    have ro26_0 := tp_hu ro26_0; have ro26_1 := tp_hu ro26_1; have ro26_2 := tp_hu ro26_2; have ro26_3 := tp_hu ro26_3
    refine pz_calli (va_runV (As := [.int v]) (rest := []) ⟨hx, hb, hml, hown, hts⟩ (t_X10_hasTerminal l dC dI _ Ω κ τ ν ρ L f hG hT (ρ h0 0) v y5 o26_x0 o26_x1 o26_x2 o26_x3 o26_x4 o26_x5 o26_x6 hf_o26) (cwV 1 hts gX11_slot_X10_hasTerminal rfl rfl rfl ⟨rfl, pd_X10_hasTerminal⟩ ⟨Nat.le_of_ble_eq_true rfl, Nat.le_of_ble_eq_true rfl⟩) ⟨pz_blind, va_recv hK hP (ci := 10) (q0 := q27) rfl eq27, pz_pre hP hK hD hN⟩ rfl rfl hl.1 rfl (lv_room (Nat.le_of_ble_eq_true rfl)) dX11_slot_20 ⟨Nat.le_of_ble_eq_true rfl, Nat.le_of_ble_eq_true rfl⟩) (fun r28 hw29 => ?_)
    obtain ⟨hw29r, hw29p⟩ := hw29
    refine lv_if_eq (tgt := 37) hx hb dX11_slot_23 (by decide) (fun c30 => ?_) (fun c30 => ?_)
    · have ic30 : r28.toInt = 0 := zi_eq rfl rfl c30
      have p31 : ¬ (0 ≤ v.toInt ∧ v.toInt < o26_x4.toInt) := (tp_cond.no hw29p) (by omega)
      clear hw29r ic30
      refine lv_aload_n hx hb dX11_slot_37 rfl (lv_at hl 0 rfl) ?_
      refine lv_bipush (v := (-2)) hx hb dX11_slot_38 (by decide) ?_
      have hFc := tp_fr hD hS hA
      refine va_calli (va_runV (As := [.int (-2)]) (rest := []) ⟨hx, hb, hml, hown, hts⟩ (t_X11_refuse l dC dI _ Ω κ τ ν ρ L f hG hT h0 ((-2)) ht_h0) (cwV 1 hts gX11_slot_X11_refuse rfl rfl rfl ⟨rfl, pd_X11_refuse⟩ ⟨Nat.le_of_ble_eq_true rfl, Nat.le_of_ble_eq_true rfl⟩) ⟨pz_blind, va_recv hK hP (ci := 11) (q0 := q13) rfl eq13, pz_pre hP hK hD hN⟩ rfl rfl hl.1 rfl (lv_room (Nat.le_of_ble_eq_true rfl)) dX11_slot_40 ⟨Nat.le_of_ble_eq_true rfl, Nat.le_of_ble_eq_true rfl⟩) hS (fun q _ h => hFc q h) hFc (fun r32 f34 t H1 locs ht hvm hw33 hB hz1 hk1 hS => ?_)
      refine tn_4 hw33 (fun hT hF35 hw33r hw33p => ?_); clear hw33
      have hR := hR.then hF35 (by decide)
      have hX := hX.fr hF35 (by decide)
      have hP := hB.1; rw [ht] at hP; have hD := tp_ad f34 hD; clear hB hFc hz1 hk1; subst ht; generalize t.heap = H at hP hS ⊢
      have hw33pq : r32.toInt = (-2) := by rw [hw33p]; rfl
      exact W.iret (v := r32) hx hb hr (fun t ht hW => ⟨⟨r32, f34, rfl, ⟨hT, hR, trivial, hX⟩, by rw [ht]; exact hP, va_K.moved hW.alike hK, hD⟩, hS.F ht⟩) hS.2.2 dX11_slot_43
    · have ic30 : r28.toInt ≠ 0 := zi_eqf rfl rfl c30
      have p36 : 0 ≤ v.toInt ∧ v.toInt < o26_x4.toInt := (tp_cond.yes hw29p) (by omega)
      clear hw29r ic30
      refine lv_aload_n hx hb dX11_slot_26 rfl (lv_at hl 0 rfl) ?_
      refine va_get (D := (dC, dI)) (ci := 11) (v := .ref (ρ h0 0)) (C := RX11) (T := TX11) (N := 7) hx hb hts hfX11 hown hK hP q13 eq13 rfl 0 (by decide) (hts (.fieldLink RX11 10 "ColdShips" "world" "LColdShips$World;") wa_15) (fun _ h9 => h9) rfl dX11_slot_27 ?_
      refine lv_iload_n hx hb dX11_slot_30 rfl (lv_at hl 2 rfl) ?_
      refine pz_calli (va_runV (As := [.int u]) (rest := []) ⟨hx, hb, hml, hown, hts⟩ (t_X10_hasShip l dC dI _ Ω κ τ ν ρ L f hG hT (ρ h0 0) u y5 o26_x0 o26_x1 o26_x2 o26_x3 o26_x4 o26_x5 o26_x6 hf_o26) (cwV 1 hts gX11_slot_X10_hasShip rfl rfl rfl ⟨rfl, pd_X10_hasShip⟩ ⟨Nat.le_of_ble_eq_true rfl, Nat.le_of_ble_eq_true rfl⟩) ⟨pz_blind, va_recv hK hP (ci := 10) (q0 := q27) rfl eq27, pz_pre hP hK hD hN⟩ rfl rfl hl.1 rfl (lv_room (Nat.le_of_ble_eq_true rfl)) dX11_slot_31 ⟨Nat.le_of_ble_eq_true rfl, Nat.le_of_ble_eq_true rfl⟩) (fun r37 hw38 => ?_)
      obtain ⟨hw38r, hw38p⟩ := hw38
      refine lv_if_ne (tgt := 44) hx hb dX11_slot_34 (by decide) (fun c39 => ?_) (fun c39 => ?_)
      · have ic39 : r37.toInt ≠ 0 := zi_ne rfl rfl c39
        have p40 : 0 ≤ u.toInt ∧ u.toInt < o26_x5.toInt := (tp_cond.yes hw38p) (by omega)
        clear hw38r ic39
        refine lv_aload_n hx hb dX11_slot_44 rfl (lv_at hl 0 rfl) ?_
        refine va_get (D := (dC, dI)) (ci := 11) (v := .ref (ρ h0 0)) (C := RX11) (T := TX11) (N := 7) hx hb hts hfX11 hown hK hP q13 eq13 rfl 0 (by decide) (hts (.fieldLink RX11 10 "ColdShips" "world" "LColdShips$World;") wa_15) (fun _ h9 => h9) rfl dX11_slot_45 ?_
        refine va_getN (D := (dC, dI)) (ci := 10) (v := .ref (ρ (ρ h0 0) 12)) (C := RX10) (T := TX10) (N := 19) hx hb hts hfX10 hown hK hP q27 eq27 rfl 12 (by decide) (va_Nw.use rfl (hN.1 (.fieldLinkNest RX11 111 "ColdShips$World" "slots" "LColdShips$Spans;" "ColdShips") nzw_74)) (fun _ h9 => h9) rfl dX11_slot_48 ?_
        refine lv_iload_n hx hb dX11_slot_51 rfl (lv_at hl 1 rfl) ?_
        refine lv_iconst (v := 0) hx hb dX11_slot_52 (by decide) ?_
        refine pz_calli (va_runS (As := [.int v, .int 0]) (rest := [.ref (ρ (ρ h0 0) 12)]) ⟨hx, hb, hml, hown, hts⟩ (t_X11_slotOwner l dC dI _ v (0)) (va_cwS 2 hts gX11_slot_X11_slotOwner rfl rfl rfl pd_X11_slotOwner ⟨Nat.le_of_ble_eq_true rfl, Nat.le_of_ble_eq_true rfl⟩) ⟨pz_blind, pz_pre pz_P0 (hK.sub (tys' := []) [] rfl) (pz_D0 (A := fun _ => True)) hN⟩ rfl rfl hl.1 rfl (lv_room (Nat.le_of_ble_eq_true rfl)) dX11_slot_53 ⟨Nat.le_of_ble_eq_true rfl, Nat.le_of_ble_eq_true rfl⟩) (fun r41 hw42 => ?_)
        obtain ⟨hw42r, hw42p⟩ := hw42
        refine lv_iload_n hx hb dX11_slot_56 rfl (lv_at hl 1 rfl) ?_
        refine lv_iconst (v := 5) hx hb dX11_slot_57 (by decide) ?_
        refine pz_calli (va_runS (As := [.int v, .int 5]) (rest := [.int r41, .ref (ρ (ρ h0 0) 12)]) ⟨hx, hb, hml, hown, hts⟩ (t_X11_slotOwner l dC dI _ v (5)) (va_cwS 2 hts gX11_slot_X11_slotOwner rfl rfl rfl pd_X11_slotOwner ⟨Nat.le_of_ble_eq_true rfl, Nat.le_of_ble_eq_true rfl⟩) ⟨pz_blind, pz_pre pz_P0 (hK.sub (tys' := []) [] rfl) (pz_D0 (A := fun _ => True)) hN⟩ rfl rfl hl.1 rfl (lv_room (Nat.le_of_ble_eq_true rfl)) dX11_slot_58 ⟨Nat.le_of_ble_eq_true rfl, Nat.le_of_ble_eq_true rfl⟩) (fun r43 hw44 => ?_)
        obtain ⟨hw44r, hw44p⟩ := hw44
        refine lv_iload_n hx hb dX11_slot_61 rfl (lv_at hl 3 rfl) ?_
        refine lv_iload hx hb dX11_slot_62 (lv_at hl 4 rfl) ?_
        refine tgk_7 hG y19 (fun y45 y45n y46 y46n y47 y47n y48a y48b => ?_)
        refine tpk_7 hT y19 (fun o49_x3 hf_o49 ro49_0 => ?_)
        refine tpk_pos (tp_in hG y19 (by decide)) hf_o49 (fun q50 eq50 => ?_)
        have ro49_0 := tp_hu ro49_0
        refine pz_calli (va_runV (As := [.int r41, .int r43, .int a, .int b]) (rest := []) ⟨hx, hb, hml, hown, hts⟩ (t_X6_meets l dC dI _ Ω κ τ ν ρ L f hG hT (ρ (ρ h0 0) 12) r41 r43 a b y19 o49_x3 hf_o49) (cwV 4 hts gX11_slot_X6_meets rfl rfl rfl ⟨rfl, pd_X6_meets⟩ ⟨Nat.le_of_ble_eq_true rfl, Nat.le_of_ble_eq_true rfl⟩) ⟨pz_blind, va_recv hK hP (ci := 6) (q0 := q50) rfl eq50, pz_pre hP hK hD hN⟩ rfl rfl hl.1 rfl (lv_room (Nat.le_of_ble_eq_true rfl)) dX11_slot_64 ⟨Nat.le_of_ble_eq_true rfl, Nat.le_of_ble_eq_true rfl⟩) (fun r51 hw52 => ?_)
        obtain ⟨hw52r, hw52p⟩ := hw52
        refine lv_if_eq (tgt := 77) hx hb dX11_slot_67 (by decide) (fun c53 => ?_) (fun c53 => ?_)
        · have ic53 : r51.toInt = 0 := zi_eq rfl rfl c53
          refine lv_aload_n hx hb dX11_slot_77 rfl (lv_at hl 0 rfl) ?_
          refine lv_aload_n hx hb dX11_slot_78 rfl (lv_at hl 0 rfl) ?_
          refine va_get (D := (dC, dI)) (ci := 11) (v := .ref (ρ h0 0)) (C := RX11) (T := TX11) (N := 7) hx hb hts hfX11 hown hK hP q13 eq13 rfl 0 (by decide) (hts (.fieldLink RX11 10 "ColdShips" "world" "LColdShips$World;") wa_15) (fun _ h9 => h9) rfl dX11_slot_79 ?_
          refine va_getN (D := (dC, dI)) (ci := 10) (v := .ref (ρ (ρ h0 0) 12)) (C := RX10) (T := TX10) (N := 19) hx hb hts hfX10 hown hK hP q27 eq27 rfl 12 (by decide) (va_Nw.use rfl (hN.1 (.fieldLinkNest RX11 111 "ColdShips$World" "slots" "LColdShips$Spans;" "ColdShips") nzw_74)) (fun _ h9 => h9) rfl dX11_slot_82 ?_
          refine lv_iload_n hx hb dX11_slot_85 rfl (lv_at hl 1 rfl) ?_
          refine lv_iload_n hx hb dX11_slot_86 rfl (lv_at hl 2 rfl) ?_
          refine pz_calli (va_runS (As := [.int v, .int u]) (rest := [.ref (ρ (ρ h0 0) 12), .ref h0]) ⟨hx, hb, hml, hown, hts⟩ (t_X11_slotOwner l dC dI _ v u) (va_cwS 2 hts gX11_slot_X11_slotOwner rfl rfl rfl pd_X11_slotOwner ⟨Nat.le_of_ble_eq_true rfl, Nat.le_of_ble_eq_true rfl⟩) ⟨pz_blind, pz_pre pz_P0 (hK.sub (tys' := []) [] rfl) (pz_D0 (A := fun _ => True)) hN⟩ rfl rfl hl.1 rfl (lv_room (Nat.le_of_ble_eq_true rfl)) dX11_slot_87 ⟨Nat.le_of_ble_eq_true rfl, Nat.le_of_ble_eq_true rfl⟩) (fun r54 hw55 => ?_)
          obtain ⟨hw55r, hw55p⟩ := hw55
          refine lv_iload_n hx hb dX11_slot_90 rfl (lv_at hl 3 rfl) ?_
          refine lv_iload hx hb dX11_slot_91 (lv_at hl 4 rfl) ?_
          have hFc := tp_fr hD hS hA
          refine va_calli (va_runV (As := [.int r54, .int a, .int b]) (rest := [.ref h0]) ⟨hx, hb, hml, hown, hts⟩ (t_X6_add l dC dI _ Ω κ τ ν ρ L f hG hT (ρ (ρ h0 0) 12) r54 a b y19 o49_x3 hf_o49) (cwV 3 hts gX11_slot_X6_add rfl rfl rfl ⟨rfl, pd_X6_add⟩ ⟨Nat.le_of_ble_eq_true rfl, Nat.le_of_ble_eq_true rfl⟩) ⟨pz_blind, va_recv hK hP (ci := 6) (q0 := q50) rfl eq50, pz_pre hP hK hD hN⟩ rfl rfl hl.1 rfl (lv_room (Nat.le_of_ble_eq_true rfl)) dX11_slot_93 ⟨Nat.le_of_ble_eq_true rfl, Nat.le_of_ble_eq_true rfl⟩) hS (fun q _ h => hFc q h) hFc (fun r56 f58 t H1 locs ht hvm hw57 hB hz1 hk1 hS => ?_)
          refine tn_4 hw57 (fun hT hF59 hw57r hw57p => ?_); clear hw57
          have hR := hR.then hF59 (by decide)
          obtain ⟨hw57x, hw57p⟩ := hw57p
          have hX := hX.th hw57x (fun n q9 => by have q8 : n = ρ (ρ (ρ h0 0) 12) 30 := q9; show n = 12; omega)
          have hP := hB.1; rw [ht] at hP; have hD := tp_ad f58 hD; clear hB hFc hz1 hk1; subst ht; generalize t.heap = H at hP hS ⊢
          refine tpk_7 hT y19 (fun o60_x3 hf_o60 ro60_0 => ?_)
          have ro60_0 := tp_hu ro60_0
          have tv61 : tp_fld (f58 (ρ (ρ h0 0) 12)) 3 = o60_x3.toInt := by rw [hf_o60]; rfl
          have pl62 : ((((o49_x3.toInt = (ρ (ρ (ρ h0 0) 12) 11 : Int)) → r56.toInt = -1) ∧ (¬ (o49_x3.toInt = (ρ (ρ (ρ h0 0) 12) 11 : Int)) → r56.toInt = o49_x3.toInt + 1))) ∧ ((((o49_x3.toInt = (ρ (ρ (ρ h0 0) 12) 11 : Int)) → o60_x3.toInt = o49_x3.toInt) ∧ (¬ (o49_x3.toInt = (ρ (ρ (ρ h0 0) 12) 11 : Int)) → o60_x3.toInt = o49_x3.toInt + 1))) := by have q9 := hw57p; rw [tv61] at q9; exact q9
          have hf_63 : f58 h0 = .inr (11, [.ref (ρ h0 0), .ref (ρ h0 1), .ref (ρ h0 2), .ref (ρ h0 3), .ref (ρ h0 4), .ref (ρ h0 5), .int o12_x6]) := (hF59 _ (by rw [ht_h0]; decide)).trans hf_o12
          refine tpk_pos (tp_in hG ht_h0 (by decide)) hf_63 (fun q64 eq64 => ?_)
          have hFc := tp_fr hD hS hA
          refine va_calli (va_runV (As := [.int r56]) (rest := []) ⟨hx, hb, hml, hown, hts⟩ (t_X11_acceptOrFull l dC dI _ Ω κ τ ν ρ L f58 hG hT h0 r56 ht_h0) (cwV 1 hts gX11_slot_X11_acceptOrFull rfl rfl rfl ⟨rfl, pd_X11_acceptOrFull⟩ ⟨Nat.le_of_ble_eq_true rfl, Nat.le_of_ble_eq_true rfl⟩) ⟨pz_blind, va_recv hK hP (ci := 11) (q0 := q64) rfl eq64, pz_pre hP hK hD hN⟩ rfl rfl hl.1 rfl (lv_room (Nat.le_of_ble_eq_true rfl)) dX11_slot_96 ⟨Nat.le_of_ble_eq_true rfl, Nat.le_of_ble_eq_true rfl⟩) hS (fun q _ h => hFc q h) hFc (fun r65 f67 t H1 locs ht hvm hw66 hB hz1 hk1 hS => ?_)
          refine tn_4 hw66 (fun hT hF68 hw66r hw66p => ?_); clear hw66
          have hR := hR.then hF68 (by decide)
          have hX := hX.fr hF68 (by decide)
          have hP := hB.1; rw [ht] at hP; have hD := tp_ad f67 hD; clear hB hFc hz1 hk1; subst ht; generalize t.heap = H at hP hS ⊢
          have pl69 : ((((r56.toInt = -1) → r65.toInt = -5) ∧ (¬ (r56.toInt = -1) → r65.toInt = r56.toInt))) := by have q9 := hw66p; exact q9
          exact W.iret (v := r65) hx hb hr (fun t ht hW => ⟨⟨r65, f67, rfl, ⟨hT, hR, trivial, hX⟩, by rw [ht]; exact hP, va_K.moved hW.alike hK, hD⟩, hS.F ht⟩) hS.2.2 dX11_slot_99
        · have ic53 : r51.toInt ≠ 0 := zi_eqf rfl rfl c53
          refine lv_aload_n hx hb dX11_slot_70 rfl (lv_at hl 0 rfl) ?_
          refine lv_bipush (v := (-3)) hx hb dX11_slot_71 (by decide) ?_
          have hFc := tp_fr hD hS hA
          refine va_calli (va_runV (As := [.int (-3)]) (rest := []) ⟨hx, hb, hml, hown, hts⟩ (t_X11_refuse l dC dI _ Ω κ τ ν ρ L f hG hT h0 ((-3)) ht_h0) (cwV 1 hts gX11_slot_X11_refuse rfl rfl rfl ⟨rfl, pd_X11_refuse⟩ ⟨Nat.le_of_ble_eq_true rfl, Nat.le_of_ble_eq_true rfl⟩) ⟨pz_blind, va_recv hK hP (ci := 11) (q0 := q13) rfl eq13, pz_pre hP hK hD hN⟩ rfl rfl hl.1 rfl (lv_room (Nat.le_of_ble_eq_true rfl)) dX11_slot_73 ⟨Nat.le_of_ble_eq_true rfl, Nat.le_of_ble_eq_true rfl⟩) hS (fun q _ h => hFc q h) hFc (fun r70 f72 t H1 locs ht hvm hw71 hB hz1 hk1 hS => ?_)
          refine tn_4 hw71 (fun hT hF73 hw71r hw71p => ?_); clear hw71
          have hR := hR.then hF73 (by decide)
          have hX := hX.fr hF73 (by decide)
          have hP := hB.1; rw [ht] at hP; have hD := tp_ad f72 hD; clear hB hFc hz1 hk1; subst ht; generalize t.heap = H at hP hS ⊢
          have hw71pq : r70.toInt = (-3) := by rw [hw71p]; rfl
          exact W.iret (v := r70) hx hb hr (fun t ht hW => ⟨⟨r70, f72, rfl, ⟨hT, hR, trivial, hX⟩, by rw [ht]; exact hP, va_K.moved hW.alike hK, hD⟩, hS.F ht⟩) hS.2.2 dX11_slot_76
      · have ic39 : r37.toInt = 0 := zi_nef rfl rfl c39
        have p74 : ¬ (0 ≤ u.toInt ∧ u.toInt < o26_x5.toInt) := (tp_cond.no hw38p) (by omega)
        clear hw38r ic39
        refine lv_aload_n hx hb dX11_slot_37 rfl (lv_at hl 0 rfl) ?_
        refine lv_bipush (v := (-2)) hx hb dX11_slot_38 (by decide) ?_
        have hFc := tp_fr hD hS hA
        refine va_calli (va_runV (As := [.int (-2)]) (rest := []) ⟨hx, hb, hml, hown, hts⟩ (t_X11_refuse l dC dI _ Ω κ τ ν ρ L f hG hT h0 ((-2)) ht_h0) (cwV 1 hts gX11_slot_X11_refuse rfl rfl rfl ⟨rfl, pd_X11_refuse⟩ ⟨Nat.le_of_ble_eq_true rfl, Nat.le_of_ble_eq_true rfl⟩) ⟨pz_blind, va_recv hK hP (ci := 11) (q0 := q13) rfl eq13, pz_pre hP hK hD hN⟩ rfl rfl hl.1 rfl (lv_room (Nat.le_of_ble_eq_true rfl)) dX11_slot_40 ⟨Nat.le_of_ble_eq_true rfl, Nat.le_of_ble_eq_true rfl⟩) hS (fun q _ h => hFc q h) hFc (fun r75 f77 t H1 locs ht hvm hw76 hB hz1 hk1 hS => ?_)
        refine tn_4 hw76 (fun hT hF78 hw76r hw76p => ?_); clear hw76
        have hR := hR.then hF78 (by decide)
        have hX := hX.fr hF78 (by decide)
        have hP := hB.1; rw [ht] at hP; have hD := tp_ad f77 hD; clear hB hFc hz1 hk1; subst ht; generalize t.heap = H at hP hS ⊢
        have hw76pq : r75.toInt = (-2) := by rw [hw76p]; rfl
        exact W.iret (v := r75) hx hb hr (fun t ht hW => ⟨⟨r75, f77, rfl, ⟨hT, hR, trivial, hX⟩, by rw [ht]; exact hP, va_K.moved hW.alike hK, hD⟩, hS.F ht⟩) hS.2.2 dX11_slot_43
  · have ic3 : r1.toInt = 0 := zi_nef rfl rfl c3
    have p79 : ¬ ((0 ≤ (a.toInt) ∧ (a.toInt) ≤ 2399) ∧ (0 ≤ (b.toInt) ∧ (b.toInt) ≤ 2399) ∧ (a.toInt) ≤ (b.toInt)) := (tp_cond.no hw2p) (by omega)
    clear hw2r ic3
    refine lv_aload_n hx hb dX11_slot_9 rfl (lv_at hl 0 rfl) ?_
    refine lv_iconst (v := (-1)) hx hb dX11_slot_10 (by decide) ?_
    refine tgk_12 hG ht_h0 (fun y80 y80l y81 y82 y83 y84 y85 y86a y86b y86c => ?_)
    refine tpk_12 hT ht_h0 (fun o87_x6 hf_o87 => ?_)
    refine tpk_pos (tp_in hG ht_h0 (by decide)) hf_o87 (fun q88 eq88 => ?_)
    have hFc := tp_fr hD hS hA
    refine va_calli (va_runV (As := [.int (-1)]) (rest := []) ⟨hx, hb, hml, hown, hts⟩ (t_X11_refuse l dC dI _ Ω κ τ ν ρ L f hG hT h0 ((-1)) ht_h0) (cwV 1 hts gX11_slot_X11_refuse rfl rfl rfl ⟨rfl, pd_X11_refuse⟩ ⟨Nat.le_of_ble_eq_true rfl, Nat.le_of_ble_eq_true rfl⟩) ⟨pz_blind, va_recv hK hP (ci := 11) (q0 := q88) rfl eq88, pz_pre hP hK hD hN⟩ rfl rfl hl.1 rfl (lv_room (Nat.le_of_ble_eq_true rfl)) dX11_slot_11 ⟨Nat.le_of_ble_eq_true rfl, Nat.le_of_ble_eq_true rfl⟩) hS (fun q _ h => hFc q h) hFc (fun r89 f91 t H1 locs ht hvm hw90 hB hz1 hk1 hS => ?_)
    refine tn_4 hw90 (fun hT hF92 hw90r hw90p => ?_); clear hw90
    have hR := hR.then hF92 (by decide)
    have hX := hX.fr hF92 (by decide)
    have hP := hB.1; rw [ht] at hP; have hD := tp_ad f91 hD; clear hB hFc hz1 hk1; subst ht; generalize t.heap = H at hP hS ⊢
    have hw90pq : r89.toInt = (-1) := by rw [hw90p]; rfl
    exact W.iret (v := r89) hx hb hr (fun t ht hW => ⟨⟨r89, f91, rfl, ⟨hT, hR, trivial, hX⟩, by rw [ht]; exact hP, va_K.moved hW.alike hK, hD⟩, hS.F ht⟩) hS.2.2 dX11_slot_14
set_option maxHeartbeats 4000000 in
set_option maxRecDepth 100000 in
theorem t_X11_broken (l : Launch) (dC : Nat → ClassId) (dI : Nat → Nat → Nat) (sz : Nat) (Ω : Nat → Nat → (Nat → Nat) → va_E → Prop) (κ : Nat → ClassId) (τ ν : Nat → Nat) (ρ : Nat → Nat → Nat) (L : List Nat) (f : Nat → va_E) (hG : tp_G τ ν ρ L) (hT : tp_T Ω κ τ ν ρ f) (h0 : Nat) (v : Int32) (u : Int32) (a : Int32) (ht_h0 : τ h0 = 12) : Met l yX11_broken wqX11_broken ({ frames := 5, cells := 0, slots := 0, locals := 1600 }) (va_Pc [.ref h0, .int v, .int u, .int a] (pz_B dC dI (tp_K κ) (va_pl L f) sz)) (va_Qi (fun (r : Int32) (f1 : Nat → va_E) => tp_T Ω κ τ ν ρ f1 ∧ tp_F τ [7, 12, 20] f f1 ∧ True ∧ tp_X τ ρ (fun n => n = 13) f f1 ∧ ((((¬ ((0 ≤ u.toInt ∧ u.toInt ≤ 2399) ∧ (0 ≤ a.toInt ∧ a.toInt ≤ 2399) ∧ u.toInt ≤ a.toInt)) → r.toInt = -1) ∧ (¬ (¬ ((0 ≤ u.toInt ∧ u.toInt ≤ 2399) ∧ (0 ≤ a.toInt ∧ a.toInt ≤ 2399) ∧ u.toInt ≤ a.toInt)) → (((¬ (0 ≤ v.toInt ∧ v.toInt < (tp_fld (f (ρ h0 0)) 4))) → r.toInt = -2) ∧ (¬ (¬ (0 ≤ v.toInt ∧ v.toInt < (tp_fld (f (ρ h0 0)) 4))) → ((((tp_fld (f (ρ (ρ h0 0) 13)) 3) = 20) → r.toInt = -5) ∧ (¬ ((tp_fld (f (ρ (ρ h0 0) 13)) 3) = 20) → r.toInt = (tp_fld (f (ρ (ρ h0 0) 13)) 3) + 1))))))) ∧ ((((¬ ((0 ≤ u.toInt ∧ u.toInt ≤ 2399) ∧ (0 ≤ a.toInt ∧ a.toInt ≤ 2399) ∧ u.toInt ≤ a.toInt)) → (tp_fld (f1 (ρ (ρ h0 0) 13)) 3) = (tp_fld (f (ρ (ρ h0 0) 13)) 3)) ∧ (¬ (¬ ((0 ≤ u.toInt ∧ u.toInt ≤ 2399) ∧ (0 ≤ a.toInt ∧ a.toInt ≤ 2399) ∧ u.toInt ≤ a.toInt)) → (((¬ (0 ≤ v.toInt ∧ v.toInt < (tp_fld (f (ρ h0 0)) 4))) → (tp_fld (f1 (ρ (ρ h0 0) 13)) 3) = (tp_fld (f (ρ (ρ h0 0) 13)) 3)) ∧ (¬ (¬ (0 ≤ v.toInt ∧ v.toInt < (tp_fld (f (ρ h0 0)) 4))) → ((((tp_fld (f (ρ (ρ h0 0) 13)) 3) = 20) → (tp_fld (f1 (ρ (ρ h0 0) 13)) 3) = (tp_fld (f (ρ (ρ h0 0) 13)) 3)) ∧ (¬ ((tp_fld (f (ρ (ρ h0 0) 13)) 3) = 20) → (tp_fld (f1 (ρ (ρ h0 0) 13)) 3) = (tp_fld (f (ρ (ρ h0 0) 13)) 3) + 1)))))))) (fun (f1 : Nat → va_E) (t : State) => pz_E dC dI (tp_K κ) (va_A (va_pl L f) sz) (va_pl L f1) t) (va_A (va_pl L f) sz)) 0 0 (va_A (va_pl L f) sz) := by
  refine Met.ofW (cc := cX11_broken) (maxL := 4) (ret := some .int) (by decide) rfl ?_
  intro p e s m args below meth c s₁ B hml hv
  obtain ⟨rfl, hsz, hP, hK, hD0, hN⟩ := hv
  have hx := B.exec
  have hb := B.bytes
  have hr := B.returns
  have hts := fun (w : Cond) (h : w ∈ WALL) => atoms_spec (ws := wqX11_broken) B.pre w (List.mem_cons_of_mem _ h)
  have hown : s.vm.findClass RX11 = some m.cls := findClass_of_methodNamed B.named
  have hlocks := B.notSynchronized
  subst hsz
  have hD := hD0.self (sz := s.heap.size)
  generalize hAe : va_A (va_pl L f) s.heap.size = A at hD ⊢
  have hA : ∀ q : Nat, s.heap.size ≤ q → A q := fun q h => by rw [← hAe]; exact Or.inr h
  have hS : va_S A s.heap s.heap [] := va_S.rf
  have hR : tp_F τ [7, 12, 20] f f := tp_F.rf
  have hX : tp_X τ ρ (fun n => n = 13) f f := tp_X.rf
  have hl := lv_entry ([.ref h0, .int v, .int u, .int a]) (n := 4) (Nat.le_of_ble_eq_true rfl)
  rw [lg_entry_eq]
  generalize (lg_sl ([.ref h0, .int v, .int u, .int a]) ++ List.replicate (4 - (lg_sl ([.ref h0, .int v, .int u, .int a])).length) Slot.unset).toArray = ls at hl ⊢
  have hl : lv_has ls 4 [(0, .ref h0), (1, .int v), (2, .int u), (3, .int a)] := hl
  refine tgk_12 hG ht_h0 (fun y1 y1l y2 y3 y4 y5 y6 y7a y7b y7c => ?_)
  refine tgk_11 hG y1 (fun y8 y8n y9 y9n y10 y11 y12 y13 y13m y13l y14 y14m y14l y15 y15m y15l y16 y16w y16m y16l y17 y17w y17m y17l y18 y18w y18m y18l y19 y19w y19m y19l => ?_)
  refine tpk_11 hT y1 (fun o20_x0 o20_x1 o20_x2 o20_x3 o20_x4 o20_x5 o20_x6 hf_o20 ro20_0 ro20_1 ro20_2 ro20_3 => ?_)
  refine tgk_7 hG y14 (fun y21 y21n y22 y22n y23 y23n y24a y24b => ?_)
  refine tpk_7 hT y14 (fun o25_x3 hf_o25 ro25_0 => ?_)
  refine lv_iload_n hx hb dX11_broken_0 rfl (lv_at hl 2 rfl) ?_
  refine lv_iload_n hx hb dX11_broken_1 rfl (lv_at hl 3 rfl) ?_
  refine pz_calli (va_runS (As := [.int u, .int a]) (rest := []) ⟨hx, hb, hml, hown, hts⟩ (t_X11_isSpan l dC dI _ u a (u.toInt) (a.toInt) rfl rfl) (va_cwS 2 hts gX11_broken_X11_isSpan rfl rfl rfl pd_X11_isSpan ⟨Nat.le_of_ble_eq_true rfl, Nat.le_of_ble_eq_true rfl⟩) ⟨pz_blind, pz_pre pz_P0 (hK.sub (tys' := []) [] rfl) (pz_D0 (A := fun _ => True)) hN⟩ rfl rfl hl.1 rfl (lv_room (Nat.le_of_ble_eq_true rfl)) dX11_broken_2 ⟨Nat.le_of_ble_eq_true rfl, Nat.le_of_ble_eq_true rfl⟩) (fun r26 hw27 => ?_)
  obtain ⟨hw27r, hw27p⟩ := hw27
  refine lv_if_ne (tgt := 14) hx hb dX11_broken_5 (by decide) (fun c28 => ?_) (fun c28 => ?_)
  · have ic28 : r26.toInt ≠ 0 := zi_ne rfl rfl c28
    have p29 : (0 ≤ (u.toInt) ∧ (u.toInt) ≤ 2399) ∧ (0 ≤ (a.toInt) ∧ (a.toInt) ≤ 2399) ∧ (u.toInt) ≤ (a.toInt) := (tp_cond.yes hw27p) (by omega)
    clear hw27r ic28
    refine lv_aload_n hx hb dX11_broken_14 rfl (lv_at hl 0 rfl) ?_
    refine tpk_12 hT ht_h0 (fun o30_x6 hf_o30 => ?_)
    refine tpk_pos (tp_in hG ht_h0 (by decide)) hf_o30 (fun q31 eq31 => ?_)
    refine va_get (D := (dC, dI)) (ci := 11) (v := .ref (ρ h0 0)) (C := RX11) (T := TX11) (N := 7) hx hb hts hfX11 hown hK hP q31 eq31 rfl 0 (by decide) (hts (.fieldLink RX11 10 "ColdShips" "world" "LColdShips$World;") wa_15) (fun _ h9 => h9) rfl dX11_broken_15 ?_
    refine lv_iload_n hx hb dX11_broken_18 rfl (lv_at hl 1 rfl) ?_
    refine tpk_pos (tp_in hG y1 (by decide)) hf_o20 (fun q32 eq32 => ?_)
    have ro20_0 := tp_hu ro20_0; have ro20_1 := tp_hu ro20_1; have ro20_2 := tp_hu ro20_2; have ro20_3 := tp_hu ro20_3
    refine pz_calli (va_runV (As := [.int v]) (rest := []) ⟨hx, hb, hml, hown, hts⟩ (t_X10_hasTerminal l dC dI _ Ω κ τ ν ρ L f hG hT (ρ h0 0) v y1 o20_x0 o20_x1 o20_x2 o20_x3 o20_x4 o20_x5 o20_x6 hf_o20) (cwV 1 hts gX11_broken_X10_hasTerminal rfl rfl rfl ⟨rfl, pd_X10_hasTerminal⟩ ⟨Nat.le_of_ble_eq_true rfl, Nat.le_of_ble_eq_true rfl⟩) ⟨pz_blind, va_recv hK hP (ci := 10) (q0 := q32) rfl eq32, pz_pre hP hK hD hN⟩ rfl rfl hl.1 rfl (lv_room (Nat.le_of_ble_eq_true rfl)) dX11_broken_19 ⟨Nat.le_of_ble_eq_true rfl, Nat.le_of_ble_eq_true rfl⟩) (fun r33 hw34 => ?_)
    obtain ⟨hw34r, hw34p⟩ := hw34
    refine lv_if_ne (tgt := 32) hx hb dX11_broken_22 (by decide) (fun c35 => ?_) (fun c35 => ?_)
    · have ic35 : r33.toInt ≠ 0 := zi_ne rfl rfl c35
      have p36 : 0 ≤ v.toInt ∧ v.toInt < o20_x4.toInt := (tp_cond.yes hw34p) (by omega)
      clear hw34r ic35
      refine lv_aload_n hx hb dX11_broken_32 rfl (lv_at hl 0 rfl) ?_
      refine lv_aload_n hx hb dX11_broken_33 rfl (lv_at hl 0 rfl) ?_
      refine va_get (D := (dC, dI)) (ci := 11) (v := .ref (ρ h0 0)) (C := RX11) (T := TX11) (N := 7) hx hb hts hfX11 hown hK hP q31 eq31 rfl 0 (by decide) (hts (.fieldLink RX11 10 "ColdShips" "world" "LColdShips$World;") wa_15) (fun _ h9 => h9) rfl dX11_broken_34 ?_
      refine va_getN (D := (dC, dI)) (ci := 10) (v := .ref (ρ (ρ h0 0) 13)) (C := RX10) (T := TX10) (N := 19) hx hb hts hfX10 hown hK hP q32 eq32 rfl 13 (by decide) (va_Nw.use rfl (hN.1 (.fieldLinkNest RX11 132 "ColdShips$World" "breaks" "LColdShips$Spans;" "ColdShips") nzw_76)) (fun _ h9 => h9) rfl dX11_broken_37 ?_
      refine lv_iload_n hx hb dX11_broken_40 rfl (lv_at hl 1 rfl) ?_
      refine lv_iload_n hx hb dX11_broken_41 rfl (lv_at hl 2 rfl) ?_
      refine lv_iload_n hx hb dX11_broken_42 rfl (lv_at hl 3 rfl) ?_
      refine tpk_pos (tp_in hG y14 (by decide)) hf_o25 (fun q37 eq37 => ?_)
      have hFc := tp_fr hD hS hA
      have ro25_0 := tp_hu ro25_0
      refine va_calli (va_runV (As := [.int v, .int u, .int a]) (rest := [.ref h0]) ⟨hx, hb, hml, hown, hts⟩ (t_X6_add l dC dI _ Ω κ τ ν ρ L f hG hT (ρ (ρ h0 0) 13) v u a y14 o25_x3 hf_o25) (cwV 3 hts gX11_broken_X6_add rfl rfl rfl ⟨rfl, pd_X6_add⟩ ⟨Nat.le_of_ble_eq_true rfl, Nat.le_of_ble_eq_true rfl⟩) ⟨pz_blind, va_recv hK hP (ci := 6) (q0 := q37) rfl eq37, pz_pre hP hK hD hN⟩ rfl rfl hl.1 rfl (lv_room (Nat.le_of_ble_eq_true rfl)) dX11_broken_43 ⟨Nat.le_of_ble_eq_true rfl, Nat.le_of_ble_eq_true rfl⟩) hS (fun q _ h => hFc q h) hFc (fun r38 f40 t H1 locs ht hvm hw39 hB hz1 hk1 hS => ?_)
      refine tn_4 hw39 (fun hT hF41 hw39r hw39p => ?_); clear hw39
      have hR := hR.then hF41 (by decide)
      obtain ⟨hw39x, hw39p⟩ := hw39p
      have hX := hX.th hw39x (fun n q9 => by have q8 : n = ρ (ρ (ρ h0 0) 13) 30 := q9; show n = 13; omega)
      have hP := hB.1; rw [ht] at hP; have hD := tp_ad f40 hD; clear hB hFc hz1 hk1; subst ht; generalize t.heap = H at hP hS ⊢
      refine tpk_7 hT y14 (fun o42_x3 hf_o42 ro42_0 => ?_)
      have ro42_0 := tp_hu ro42_0
      have tv43 : tp_fld (f40 (ρ (ρ h0 0) 13)) 3 = o42_x3.toInt := by rw [hf_o42]; rfl
      have pl44 : ((((o25_x3.toInt = (ρ (ρ (ρ h0 0) 13) 11 : Int)) → r38.toInt = -1) ∧ (¬ (o25_x3.toInt = (ρ (ρ (ρ h0 0) 13) 11 : Int)) → r38.toInt = o25_x3.toInt + 1))) ∧ ((((o25_x3.toInt = (ρ (ρ (ρ h0 0) 13) 11 : Int)) → o42_x3.toInt = o25_x3.toInt) ∧ (¬ (o25_x3.toInt = (ρ (ρ (ρ h0 0) 13) 11 : Int)) → o42_x3.toInt = o25_x3.toInt + 1))) := by have q9 := hw39p; rw [tv43] at q9; exact q9
      have hf_45 : f40 h0 = .inr (11, [.ref (ρ h0 0), .ref (ρ h0 1), .ref (ρ h0 2), .ref (ρ h0 3), .ref (ρ h0 4), .ref (ρ h0 5), .int o30_x6]) := (hF41 _ (by rw [ht_h0]; decide)).trans hf_o30
      refine tpk_pos (tp_in hG ht_h0 (by decide)) hf_45 (fun q46 eq46 => ?_)
      have hFc := tp_fr hD hS hA
      refine va_calli (va_runV (As := [.int r38]) (rest := []) ⟨hx, hb, hml, hown, hts⟩ (t_X11_acceptOrFull l dC dI _ Ω κ τ ν ρ L f40 hG hT h0 r38 ht_h0) (cwV 1 hts gX11_broken_X11_acceptOrFull rfl rfl rfl ⟨rfl, pd_X11_acceptOrFull⟩ ⟨Nat.le_of_ble_eq_true rfl, Nat.le_of_ble_eq_true rfl⟩) ⟨pz_blind, va_recv hK hP (ci := 11) (q0 := q46) rfl eq46, pz_pre hP hK hD hN⟩ rfl rfl hl.1 rfl (lv_room (Nat.le_of_ble_eq_true rfl)) dX11_broken_46 ⟨Nat.le_of_ble_eq_true rfl, Nat.le_of_ble_eq_true rfl⟩) hS (fun q _ h => hFc q h) hFc (fun r47 f49 t H1 locs ht hvm hw48 hB hz1 hk1 hS => ?_)
      refine tn_4 hw48 (fun hT hF50 hw48r hw48p => ?_); clear hw48
      have hR := hR.then hF50 (by decide)
      have hX := hX.fr hF50 (by decide)
      have hP := hB.1; rw [ht] at hP; have hD := tp_ad f49 hD; clear hB hFc hz1 hk1; subst ht; generalize t.heap = H at hP hS ⊢
      have pl51 : ((((r38.toInt = -1) → r47.toInt = -5) ∧ (¬ (r38.toInt = -1) → r47.toInt = r38.toInt))) := by have q9 := hw48p; exact q9
      have tv52 : tp_fld (f (ρ h0 0)) 4 = o20_x4.toInt := by rw [hf_o20]; rfl
      have tv53 : tp_fld (f (ρ (ρ h0 0) 13)) 3 = o25_x3.toInt := by rw [hf_o25]; rfl
      have hf_54 : f49 (ρ (ρ h0 0) 13) = .inr (6, [.ref (ρ (ρ (ρ h0 0) 13) 0), .ref (ρ (ρ (ρ h0 0) 13) 1), .ref (ρ (ρ (ρ h0 0) 13) 2), .int o42_x3]) := (hF50 _ (by rw [tp_iu y14]; decide)).trans hf_o42
      have tv55 : tp_fld (f49 (ρ (ρ h0 0) 13)) 3 = o42_x3.toInt := by rw [hf_54]; rfl
      exact W.iret (v := r47) hx hb hr (fun t ht hW => ⟨⟨r47, f49, rfl, ⟨hT, hR, trivial, ⟨hX, (by rw [tv52, tv53, tv55]; exact ⟨⟨fun q0 => by omega, fun q0 => ⟨fun q1 => by omega, fun q1 => ⟨fun q2 => by omega, fun q2 => (by omega)⟩⟩⟩, ⟨fun q0 => by omega, fun q0 => ⟨fun q1 => by omega, fun q1 => ⟨fun q2 => by omega, fun q2 => (by omega)⟩⟩⟩⟩)⟩⟩, by rw [ht]; exact hP, va_K.moved hW.alike hK, hD⟩, hS.F ht⟩) hS.2.2 dX11_broken_49
    · have ic35 : r33.toInt = 0 := zi_nef rfl rfl c35
      have p56 : ¬ (0 ≤ v.toInt ∧ v.toInt < o20_x4.toInt) := (tp_cond.no hw34p) (by omega)
      clear hw34r ic35
      refine lv_aload_n hx hb dX11_broken_25 rfl (lv_at hl 0 rfl) ?_
      refine lv_bipush (v := (-2)) hx hb dX11_broken_26 (by decide) ?_
      have hFc := tp_fr hD hS hA
      refine va_calli (va_runV (As := [.int (-2)]) (rest := []) ⟨hx, hb, hml, hown, hts⟩ (t_X11_refuse l dC dI _ Ω κ τ ν ρ L f hG hT h0 ((-2)) ht_h0) (cwV 1 hts gX11_broken_X11_refuse rfl rfl rfl ⟨rfl, pd_X11_refuse⟩ ⟨Nat.le_of_ble_eq_true rfl, Nat.le_of_ble_eq_true rfl⟩) ⟨pz_blind, va_recv hK hP (ci := 11) (q0 := q31) rfl eq31, pz_pre hP hK hD hN⟩ rfl rfl hl.1 rfl (lv_room (Nat.le_of_ble_eq_true rfl)) dX11_broken_28 ⟨Nat.le_of_ble_eq_true rfl, Nat.le_of_ble_eq_true rfl⟩) hS (fun q _ h => hFc q h) hFc (fun r57 f59 t H1 locs ht hvm hw58 hB hz1 hk1 hS => ?_)
      refine tn_4 hw58 (fun hT hF60 hw58r hw58p => ?_); clear hw58
      have hR := hR.then hF60 (by decide)
      have hX := hX.fr hF60 (by decide)
      have hP := hB.1; rw [ht] at hP; have hD := tp_ad f59 hD; clear hB hFc hz1 hk1; subst ht; generalize t.heap = H at hP hS ⊢
      have hw58pq : r57.toInt = (-2) := by rw [hw58p]; rfl
      have tv61 : tp_fld (f (ρ h0 0)) 4 = o20_x4.toInt := by rw [hf_o20]; rfl
      have ro25_0 := tp_hu ro25_0
      have tv62 : tp_fld (f (ρ (ρ h0 0) 13)) 3 = o25_x3.toInt := by rw [hf_o25]; rfl
      have hf_63 : f59 (ρ (ρ h0 0) 13) = .inr (6, [.ref (ρ (ρ (ρ h0 0) 13) 0), .ref (ρ (ρ (ρ h0 0) 13) 1), .ref (ρ (ρ (ρ h0 0) 13) 2), .int o25_x3]) := (hF60 _ (by rw [tp_iu y14]; decide)).trans hf_o25
      have tv64 : tp_fld (f59 (ρ (ρ h0 0) 13)) 3 = o25_x3.toInt := by rw [hf_63]; rfl
      exact W.iret (v := r57) hx hb hr (fun t ht hW => ⟨⟨r57, f59, rfl, ⟨hT, hR, trivial, ⟨hX, (by rw [tv61, tv62, tv64]; exact ⟨⟨fun q0 => by omega, fun q0 => ⟨fun q1 => by omega, fun q1 => ⟨fun q2 => by omega, fun q2 => (by omega)⟩⟩⟩, ⟨fun q0 => by omega, fun q0 => ⟨fun q1 => by omega, fun q1 => ⟨fun q2 => by omega, fun q2 => (by omega)⟩⟩⟩⟩)⟩⟩, by rw [ht]; exact hP, va_K.moved hW.alike hK, hD⟩, hS.F ht⟩) hS.2.2 dX11_broken_31
  · have ic28 : r26.toInt = 0 := zi_nef rfl rfl c28
    have p65 : ¬ ((0 ≤ (u.toInt) ∧ (u.toInt) ≤ 2399) ∧ (0 ≤ (a.toInt) ∧ (a.toInt) ≤ 2399) ∧ (u.toInt) ≤ (a.toInt)) := (tp_cond.no hw27p) (by omega)
    clear hw27r ic28
    refine lv_aload_n hx hb dX11_broken_8 rfl (lv_at hl 0 rfl) ?_
    refine lv_iconst (v := (-1)) hx hb dX11_broken_9 (by decide) ?_
    refine tpk_12 hT ht_h0 (fun o66_x6 hf_o66 => ?_)
    refine tpk_pos (tp_in hG ht_h0 (by decide)) hf_o66 (fun q67 eq67 => ?_)
    have hFc := tp_fr hD hS hA
    refine va_calli (va_runV (As := [.int (-1)]) (rest := []) ⟨hx, hb, hml, hown, hts⟩ (t_X11_refuse l dC dI _ Ω κ τ ν ρ L f hG hT h0 ((-1)) ht_h0) (cwV 1 hts gX11_broken_X11_refuse rfl rfl rfl ⟨rfl, pd_X11_refuse⟩ ⟨Nat.le_of_ble_eq_true rfl, Nat.le_of_ble_eq_true rfl⟩) ⟨pz_blind, va_recv hK hP (ci := 11) (q0 := q67) rfl eq67, pz_pre hP hK hD hN⟩ rfl rfl hl.1 rfl (lv_room (Nat.le_of_ble_eq_true rfl)) dX11_broken_10 ⟨Nat.le_of_ble_eq_true rfl, Nat.le_of_ble_eq_true rfl⟩) hS (fun q _ h => hFc q h) hFc (fun r68 f70 t H1 locs ht hvm hw69 hB hz1 hk1 hS => ?_)
    refine tn_4 hw69 (fun hT hF71 hw69r hw69p => ?_); clear hw69
    have hR := hR.then hF71 (by decide)
    have hX := hX.fr hF71 (by decide)
    have hP := hB.1; rw [ht] at hP; have hD := tp_ad f70 hD; clear hB hFc hz1 hk1; subst ht; generalize t.heap = H at hP hS ⊢
    have hw69pq : r68.toInt = (-1) := by rw [hw69p]; rfl
    have ro20_1 := tp_hu ro20_1
    have tv72 : tp_fld (f (ρ h0 0)) 4 = o20_x4.toInt := by rw [hf_o20]; rfl
    have ro25_0 := tp_hu ro25_0
    have tv73 : tp_fld (f (ρ (ρ h0 0) 13)) 3 = o25_x3.toInt := by rw [hf_o25]; rfl
    have hf_74 : f70 (ρ (ρ h0 0) 13) = .inr (6, [.ref (ρ (ρ (ρ h0 0) 13) 0), .ref (ρ (ρ (ρ h0 0) 13) 1), .ref (ρ (ρ (ρ h0 0) 13) 2), .int o25_x3]) := (hF71 _ (by rw [tp_iu y14]; decide)).trans hf_o25
    have tv75 : tp_fld (f70 (ρ (ρ h0 0) 13)) 3 = o25_x3.toInt := by rw [hf_74]; rfl
    exact W.iret (v := r68) hx hb hr (fun t ht hW => ⟨⟨r68, f70, rfl, ⟨hT, hR, trivial, ⟨hX, (by rw [tv72, tv73, tv75]; exact ⟨⟨fun q0 => by omega, fun q0 => ⟨fun q1 => by omega, fun q1 => ⟨fun q2 => by omega, fun q2 => (by omega)⟩⟩⟩, ⟨fun q0 => by omega, fun q0 => ⟨fun q1 => by omega, fun q1 => ⟨fun q2 => by omega, fun q2 => (by omega)⟩⟩⟩⟩)⟩⟩, by rw [ht]; exact hP, va_K.moved hW.alike hK, hD⟩, hS.F ht⟩) hS.2.2 dX11_broken_13
end
section
set_option maxHeartbeats 4000000 in
set_option maxRecDepth 100000 in
theorem t_X11_order (l : Launch) (dC : Nat → ClassId) (dI : Nat → Nat → Nat) (sz : Nat) (Ω : Nat → Nat → (Nat → Nat) → va_E → Prop) (κ : Nat → ClassId) (τ ν : Nat → Nat) (ρ : Nat → Nat → Nat) (L : List Nat) (f : Nat → va_E) (hG : tp_G τ ν ρ L) (hT : tp_T Ω κ τ ν ρ f) (h0 : Nat) (v : Int32) (u : Int32) (a : Int32) (ht_h0 : τ h0 = 12) : Met l yX11_order wqX11_order ({ frames := 5, cells := 0, slots := 0, locals := 1600 }) (va_Pc [.ref h0, .int v, .int u, .int a] (pz_B dC dI (tp_K κ) (va_pl L f) sz)) (va_Qi (fun (r : Int32) (f1 : Nat → va_E) => tp_T Ω κ τ ν ρ f1 ∧ tp_F τ [6, 11, 12, 20] f f1 ∧ True ∧ tp_X τ ρ (fun n => n = 0) f f1 ∧ ((tp_fld (f1 (ρ h0 0)) 0) = (tp_fld (f (ρ h0 0)) 0)) ∧ ((tp_fld (f1 (ρ h0 0)) 4) = (tp_fld (f (ρ h0 0)) 4)) ∧ ((tp_fld (f1 (ρ h0 0)) 5) = (tp_fld (f (ρ h0 0)) 5))) (fun (f1 : Nat → va_E) (t : State) => pz_E dC dI (tp_K κ) (va_A (va_pl L f) sz) (va_pl L f1) t) (va_A (va_pl L f) sz)) 0 0 (va_A (va_pl L f) sz) := by
  refine Met.ofW (cc := cX11_order) (maxL := 5) (ret := some .int) (by decide) rfl ?_
  intro p e s m args below meth c s₁ B hml hv
  obtain ⟨rfl, hsz, hP, hK, hD0, hN⟩ := hv
  have hx := B.exec
  have hb := B.bytes
  have hr := B.returns
  have hts := fun (w : Cond) (h : w ∈ WALL) => atoms_spec (ws := wqX11_order) B.pre w (List.mem_cons_of_mem _ h)
  have hown : s.vm.findClass RX11 = some m.cls := findClass_of_methodNamed B.named
  have hlocks := B.notSynchronized
  subst hsz
  have hD := hD0.self (sz := s.heap.size)
  generalize hAe : va_A (va_pl L f) s.heap.size = A at hD ⊢
  have hA : ∀ q : Nat, s.heap.size ≤ q → A q := fun q h => by rw [← hAe]; exact Or.inr h
  have hS : va_S A s.heap s.heap [] := va_S.rf
  have hR : tp_F τ [6, 11, 12, 20] f f := tp_F.rf
  have hX : tp_X τ ρ (fun n => n = 0) f f := tp_X.rf
  have hl := lv_entry ([.ref h0, .int v, .int u, .int a]) (n := 5) (Nat.le_of_ble_eq_true rfl)
  rw [lg_entry_eq]
  generalize (lg_sl ([.ref h0, .int v, .int u, .int a]) ++ List.replicate (5 - (lg_sl ([.ref h0, .int v, .int u, .int a])).length) Slot.unset).toArray = ls at hl ⊢
  have hl : lv_has ls 5 [(0, .ref h0), (1, .int v), (2, .int u), (3, .int a)] := hl
  refine tgk_12 hG ht_h0 (fun y1 y1l y2 y3 y4 y5 y6 y7a y7b y7c => ?_)
  refine tgk_11 hG y1 (fun y8 y8n y9 y9n y10 y11 y12 y13 y13m y13l y14 y14m y14l y15 y15m y15l y16 y16w y16m y16l y17 y17w y17m y17l y18 y18w y18m y18l y19 y19w y19m y19l => ?_)
  refine tpk_11 hT y1 (fun o20_x0 o20_x1 o20_x2 o20_x3 o20_x4 o20_x5 o20_x6 hf_o20 ro20_0 ro20_1 ro20_2 ro20_3 => ?_)
  refine lv_iload_n hx hb dX11_order_0 rfl (lv_at hl 2 rfl) ?_
  refine lv_iload_n hx hb dX11_order_1 rfl (lv_at hl 3 rfl) ?_
  refine pz_calli (va_runS (As := [.int u, .int a]) (rest := []) ⟨hx, hb, hml, hown, hts⟩ (t_X11_isOrder l dC dI _ u a (u.toInt) (a.toInt) rfl rfl) (va_cwS 2 hts gX11_order_X11_isOrder rfl rfl rfl pd_X11_isOrder ⟨Nat.le_of_ble_eq_true rfl, Nat.le_of_ble_eq_true rfl⟩) ⟨pz_blind, pz_pre pz_P0 (hK.sub (tys' := []) [] rfl) (pz_D0 (A := fun _ => True)) hN⟩ rfl rfl hl.1 rfl (lv_room (Nat.le_of_ble_eq_true rfl)) dX11_order_2 ⟨Nat.le_of_ble_eq_true rfl, Nat.le_of_ble_eq_true rfl⟩) (fun r21 hw22 => ?_)
  obtain ⟨hw22r, hw22p⟩ := hw22
  refine lv_if_ne (tgt := 14) hx hb dX11_order_5 (by decide) (fun c23 => ?_) (fun c23 => ?_)
  · have ic23 : r21.toInt ≠ 0 := zi_ne rfl rfl c23
    refine lv_aload_n hx hb dX11_order_14 rfl (lv_at hl 0 rfl) ?_
    refine tpk_12 hT ht_h0 (fun o24_x6 hf_o24 => ?_)
    refine tpk_pos (tp_in hG ht_h0 (by decide)) hf_o24 (fun q25 eq25 => ?_)
    refine va_get (D := (dC, dI)) (ci := 11) (v := .ref (ρ h0 0)) (C := RX11) (T := TX11) (N := 7) hx hb hts hfX11 hown hK hP q25 eq25 rfl 0 (by decide) (hts (.fieldLink RX11 10 "ColdShips" "world" "LColdShips$World;") wa_15) (fun _ h9 => h9) rfl dX11_order_15 ?_
    refine lv_iload_n hx hb dX11_order_18 rfl (lv_at hl 1 rfl) ?_
    refine tpk_pos (tp_in hG y1 (by decide)) hf_o20 (fun q26 eq26 => ?_)
    have ro20_0 := tp_hu ro20_0; have ro20_1 := tp_hu ro20_1; have ro20_2 := tp_hu ro20_2; have ro20_3 := tp_hu ro20_3
    refine pz_calli (va_runV (As := [.int v]) (rest := []) ⟨hx, hb, hml, hown, hts⟩ (t_X10_hasShip l dC dI _ Ω κ τ ν ρ L f hG hT (ρ h0 0) v y1 o20_x0 o20_x1 o20_x2 o20_x3 o20_x4 o20_x5 o20_x6 hf_o20) (cwV 1 hts gX11_order_X10_hasShip rfl rfl rfl ⟨rfl, pd_X10_hasShip⟩ ⟨Nat.le_of_ble_eq_true rfl, Nat.le_of_ble_eq_true rfl⟩) ⟨pz_blind, va_recv hK hP (ci := 10) (q0 := q26) rfl eq26, pz_pre hP hK hD hN⟩ rfl rfl hl.1 rfl (lv_room (Nat.le_of_ble_eq_true rfl)) dX11_order_19 ⟨Nat.le_of_ble_eq_true rfl, Nat.le_of_ble_eq_true rfl⟩) (fun r27 hw28 => ?_)
    obtain ⟨hw28r, hw28p⟩ := hw28
    refine lv_if_eq (tgt := 40) hx hb dX11_order_22 (by decide) (fun c29 => ?_) (fun c29 => ?_)
    · have ic29 : r27.toInt = 0 := zi_eq rfl rfl c29
      have p30 : ¬ (0 ≤ v.toInt ∧ v.toInt < o20_x5.toInt) := (tp_cond.no hw28p) (by omega)
      clear hw28r ic29
      refine lv_aload_n hx hb dX11_order_40 rfl (lv_at hl 0 rfl) ?_
      refine lv_bipush (v := (-2)) hx hb dX11_order_41 (by decide) ?_
      have hFc := tp_fr hD hS hA
      refine va_calli (va_runV (As := [.int (-2)]) (rest := []) ⟨hx, hb, hml, hown, hts⟩ (t_X11_refuse l dC dI _ Ω κ τ ν ρ L f hG hT h0 ((-2)) ht_h0) (cwV 1 hts gX11_order_X11_refuse rfl rfl rfl ⟨rfl, pd_X11_refuse⟩ ⟨Nat.le_of_ble_eq_true rfl, Nat.le_of_ble_eq_true rfl⟩) ⟨pz_blind, va_recv hK hP (ci := 11) (q0 := q25) rfl eq25, pz_pre hP hK hD hN⟩ rfl rfl hl.1 rfl (lv_room (Nat.le_of_ble_eq_true rfl)) dX11_order_43 ⟨Nat.le_of_ble_eq_true rfl, Nat.le_of_ble_eq_true rfl⟩) hS (fun q _ h => hFc q h) hFc (fun r31 f33 t H1 locs ht hvm hw32 hB hz1 hk1 hS => ?_)
      refine tn_4 hw32 (fun hT hF34 hw32r hw32p => ?_); clear hw32
      have hR := hR.then hF34 (by decide)
      have hX := hX.fr hF34 (by decide)
      have hP := hB.1; rw [ht] at hP; have hD := tp_ad f33 hD; clear hB hFc hz1 hk1; subst ht; generalize t.heap = H at hP hS ⊢
      have hw32pq : r31.toInt = (-2) := by rw [hw32p]; rfl
      have hf_35 : f33 (ρ h0 0) = .inr (10, [.int o20_x0, .int o20_x1, .int o20_x2, .int o20_x3, .int o20_x4, .int o20_x5, .int o20_x6, .ref (ρ (ρ h0 0) 7), .ref (ρ (ρ h0 0) 8), .ref (ρ (ρ h0 0) 9), .ref (ρ (ρ h0 0) 10), .ref (ρ (ρ h0 0) 11), .ref (ρ (ρ h0 0) 12), .ref (ρ (ρ h0 0) 13), .ref (ρ (ρ h0 0) 14), .ref (ρ (ρ h0 0) 15), .ref (ρ (ρ h0 0) 16), .ref (ρ (ρ h0 0) 17), .ref (ρ (ρ h0 0) 18)]) := (hF34 _ (by rw [tp_iu y1]; decide)).trans hf_o20
      have tv36 : tp_fld (f33 (ρ h0 0)) 0 = o20_x0.toInt := by rw [hf_35]; rfl
      have tv37 : tp_fld (f (ρ h0 0)) 0 = o20_x0.toInt := by rw [hf_o20]; rfl
      have tv38 : tp_fld (f33 (ρ h0 0)) 4 = o20_x4.toInt := by rw [hf_35]; rfl
      have tv39 : tp_fld (f (ρ h0 0)) 4 = o20_x4.toInt := by rw [hf_o20]; rfl
      have tv40 : tp_fld (f33 (ρ h0 0)) 5 = o20_x5.toInt := by rw [hf_35]; rfl
      have tv41 : tp_fld (f (ρ h0 0)) 5 = o20_x5.toInt := by rw [hf_o20]; rfl
      exact W.iret (v := r31) hx hb hr (fun t ht hW => ⟨⟨r31, f33, rfl, ⟨hT, hR, trivial, ⟨hX, (by rw [tv36, tv37, tv38, tv39, tv40, tv41]; exact ⟨(by omega), (by omega), (by omega)⟩)⟩⟩, by rw [ht]; exact hP, va_K.moved hW.alike hK, hD⟩, hS.F ht⟩) hS.2.2 dX11_order_46
    · have ic29 : r27.toInt ≠ 0 := zi_eqf rfl rfl c29
      have p42 : 0 ≤ v.toInt ∧ v.toInt < o20_x5.toInt := (tp_cond.yes hw28p) (by omega)
      clear hw28r ic29
      refine lv_iload_n hx hb dX11_order_25 rfl (lv_at hl 2 rfl) ?_
      refine lv_if_ne (tgt := 47) hx hb dX11_order_26 (by decide) (fun c43 => ?_) (fun c43 => ?_)
      · have ic43 : u.toInt ≠ 0 := zi_ne rfl rfl c43
        refine lv_aload_n hx hb dX11_order_47 rfl (lv_at hl 0 rfl) ?_
        refine va_get (D := (dC, dI)) (ci := 11) (v := .ref (ρ h0 0)) (C := RX11) (T := TX11) (N := 7) hx hb hts hfX11 hown hK hP q25 eq25 rfl 0 (by decide) (hts (.fieldLink RX11 10 "ColdShips" "world" "LColdShips$World;") wa_15) (fun _ h9 => h9) rfl dX11_order_48 ?_
        refine va_getN (D := (dC, dI)) (ci := 10) (v := .ref (ρ (ρ h0 0) 10)) (C := RX10) (T := TX10) (N := 19) hx hb hts hfX10 hown hK hP q26 eq26 rfl 10 (by decide) (va_Nw.use rfl (hN.1 (.fieldLinkNest RX11 84 "ColdShips$World" "ships" "[LColdShips$Ship;" "ColdShips") nzw_69)) (fun _ h9 => h9) rfl dX11_order_51 ?_
        refine lv_iload_n hx hb dX11_order_54 rfl (lv_at hl 1 rfl) ?_
        refine tpk_25 hT y11 (fun g45 hf_o44 hf_o44e => ?_)
        refine tpk_pos (tp_in hG y11 (by decide)) hf_o44 (fun q46 eq46 => ?_)
        refine va_aldq hx hb hK hP q46 5 eq46 rfl (vp_in_iff.mpr ⟨by omega, by omega⟩) dX11_order_55 ?_
        obtain ⟨b47, hb48⟩ : ∃ b : Nat, b = ρ (ρ (ρ h0 0) 10) v.toNatClampNeg := ⟨_, rfl⟩
        have hb48t : τ b47 = 6 := by rw [hb48]; exact tpg_25 hG y11 _ (zi_cl (vp_in_iff.mpr ⟨by omega, by omega⟩))
        have hb48g : g45 v.toNatClampNeg = some b47 := by rw [hb48]; exact hf_o44e _ (zi_cl (vp_in_iff.mpr ⟨by omega, by omega⟩))
        refine W.eq (g2 := F0 m 56 ls (.ref b47 :: [])) (congrArg (fun o => F0 m 56 ls (va_rf o :: [])) hb48g) ?_
        refine lv_astore (lv' := [(4, .ref b47), (0, .ref h0), (1, .int v), (2, .int u), (3, .int a)]) hx hb dX11_order_56 hl (by decide) rfl (fun ls hl => ?_)
        refine lv_aload hx hb dX11_order_58 (lv_at hl 0 rfl) ?_
        refine tgk_6 hG hb48t (fun y49 y50 y50n y51 y51n y52 y52n y53 y53n y54 y54n y55 y55n => ?_)
        refine tpk_6 hT hb48t (fun o56_x1 o56_x2 o56_x3 o56_x4 o56_x5 o56_x6 o56_x10 o56_x11 o56_x12 o56_x14 hf_o56 ro56_0 ro56_1 ro56_2 => ?_)
        refine tpk_pos (tp_in hG hb48t (by decide)) hf_o56 (fun q57 eq57 => ?_)
        have ro56_2 := tp_hu ro56_2
        refine va_getN (D := (dC, dI)) (ci := 5) (v := .int o56_x6) (C := RX5) (T := TX5) (N := 17) hx hb hts hfX5 hown hK hP q57 eq57 rfl 6 (by decide) (va_Nw.use rfl (hN.1 (.fieldLinkNest RX11 144 "ColdShips$Ship" "orders" "I" "ColdShips") nzw_35)) (fun _ h9 => h9) rfl dX11_order_60 ?_
        refine lv_bipush (v := 20) hx hb dX11_order_63 (by decide) ?_
        refine lv_icmp_ge (tgt := 81) hx hb dX11_order_65 (by decide) (fun c58 => ?_) (fun c58 => ?_)
        · have ic58 : o56_x6.toInt ≥ 20 := zi_ge rfl rfl c58
          refine lv_aload_n hx hb dX11_order_81 rfl (lv_at hl 1 rfl) ?_
          refine lv_bipush (v := (-5)) hx hb dX11_order_82 (by decide) ?_
          have hFc := tp_fr hD hS hA
          refine va_calli (va_runV (As := [.int (-5)]) (rest := []) ⟨hx, hb, hml, hown, hts⟩ (t_X11_refuse l dC dI _ Ω κ τ ν ρ L f hG hT h0 ((-5)) ht_h0) (cwV 1 hts gX11_order_X11_refuse rfl rfl rfl ⟨rfl, pd_X11_refuse⟩ ⟨Nat.le_of_ble_eq_true rfl, Nat.le_of_ble_eq_true rfl⟩) ⟨pz_blind, va_recv hK hP (ci := 11) (q0 := q25) rfl eq25, pz_pre hP hK hD hN⟩ rfl rfl hl.1 rfl (lv_room (Nat.le_of_ble_eq_true rfl)) dX11_order_84 ⟨Nat.le_of_ble_eq_true rfl, Nat.le_of_ble_eq_true rfl⟩) hS (fun q _ h => hFc q h) hFc (fun r59 f61 t H1 locs ht hvm hw60 hB hz1 hk1 hS => ?_)
          refine tn_4 hw60 (fun hT hF62 hw60r hw60p => ?_); clear hw60
          have hR := hR.then hF62 (by decide)
          have hX := hX.fr hF62 (by decide)
          have hP := hB.1; rw [ht] at hP; have hD := tp_ad f61 hD; clear hB hFc hz1 hk1; subst ht; generalize t.heap = H at hP hS ⊢
          have hw60pq : r59.toInt = (-5) := by rw [hw60p]; rfl
          have hf_63 : f61 (ρ h0 0) = .inr (10, [.int o20_x0, .int o20_x1, .int o20_x2, .int o20_x3, .int o20_x4, .int o20_x5, .int o20_x6, .ref (ρ (ρ h0 0) 7), .ref (ρ (ρ h0 0) 8), .ref (ρ (ρ h0 0) 9), .ref (ρ (ρ h0 0) 10), .ref (ρ (ρ h0 0) 11), .ref (ρ (ρ h0 0) 12), .ref (ρ (ρ h0 0) 13), .ref (ρ (ρ h0 0) 14), .ref (ρ (ρ h0 0) 15), .ref (ρ (ρ h0 0) 16), .ref (ρ (ρ h0 0) 17), .ref (ρ (ρ h0 0) 18)]) := (hF62 _ (by rw [tp_iu y1]; decide)).trans hf_o20
          have tv64 : tp_fld (f61 (ρ h0 0)) 0 = o20_x0.toInt := by rw [hf_63]; rfl
          have tv65 : tp_fld (f (ρ h0 0)) 0 = o20_x0.toInt := by rw [hf_o20]; rfl
          have tv66 : tp_fld (f61 (ρ h0 0)) 4 = o20_x4.toInt := by rw [hf_63]; rfl
          have tv67 : tp_fld (f (ρ h0 0)) 4 = o20_x4.toInt := by rw [hf_o20]; rfl
          have tv68 : tp_fld (f61 (ρ h0 0)) 5 = o20_x5.toInt := by rw [hf_63]; rfl
          have tv69 : tp_fld (f (ρ h0 0)) 5 = o20_x5.toInt := by rw [hf_o20]; rfl
          exact W.iret (v := r59) hx hb hr (fun t ht hW => ⟨⟨r59, f61, rfl, ⟨hT, hR, trivial, ⟨hX, (by rw [tv64, tv65, tv66, tv67, tv68, tv69]; exact ⟨(by omega), (by omega), (by omega)⟩)⟩⟩, by rw [ht]; exact hP, va_K.moved hW.alike hK, hD⟩, hS.F ht⟩) hS.2.2 dX11_order_87
        · have ic58 : o56_x6.toInt < 20 := zi_gef rfl rfl c58
          refine lv_aload_n hx hb dX11_order_68 rfl (lv_at hl 1 rfl) ?_
          refine va_get (D := (dC, dI)) (ci := 11) (v := .ref (ρ h0 0)) (C := RX11) (T := TX11) (N := 7) hx hb hts hfX11 hown hK hP q25 eq25 rfl 0 (by decide) (hts (.fieldLink RX11 10 "ColdShips" "world" "LColdShips$World;") wa_15) (fun _ h9 => h9) rfl dX11_order_69 ?_
          refine va_getN (D := (dC, dI)) (ci := 10) (v := .int o20_x3) (C := RX10) (T := TX10) (N := 19) hx hb hts hfX10 hown hK hP q26 eq26 rfl 3 (by decide) (va_Nw.use rfl (hN.1 (.fieldLinkNest RX11 147 "ColdShips$World" "ordersGiven" "I" "ColdShips") nzw_55)) (fun _ h9 => h9) rfl dX11_order_72 ?_
          refine lv_sipush (v := 400) hx hb dX11_order_75 (by decide) ?_
          refine lv_icmp_lt (tgt := 88) hx hb dX11_order_78 (by decide) (fun c70 => ?_) (fun c70 => ?_)
          · have ic70 : o20_x3.toInt < 400 := zi_lt rfl rfl c70
            refine lv_aload hx hb dX11_order_88 (lv_at hl 0 rfl) ?_
            refine lv_iload_n hx hb dX11_order_90 rfl (lv_at hl 3 rfl) ?_
            refine lv_iload_n hx hb dX11_order_91 rfl (lv_at hl 4 rfl) ?_
            have hFc := tp_fr hD hS hA
            refine va_callv (va_runV (As := [.int u, .int a]) (rest := []) ⟨hx, hb, hml, hown, hts⟩ (t_X5_addOrder l dC dI _ Ω κ τ ν ρ L f hG hT b47 u a hb48t) (cwV 2 hts gX11_order_X5_addOrder rfl rfl rfl ⟨rfl, pd_X5_addOrder⟩ ⟨Nat.le_of_ble_eq_true rfl, Nat.le_of_ble_eq_true rfl⟩) ⟨pz_blind, va_recv hK hP (ci := 5) (q0 := q57) rfl eq57, pz_pre hP hK hD hN⟩ rfl rfl hl.1 rfl (lv_room (Nat.le_of_ble_eq_true rfl)) dX11_order_92 ⟨Nat.le_of_ble_eq_true rfl, Nat.le_of_ble_eq_true rfl⟩) hS (fun q _ h => hFc q h) hFc (fun f73 t H1 locs ht hvm hw72 hB hz1 hk1 hS => ?_)
            refine tn_3 hw72 (fun hT hF74 hw72p => ?_); clear hw72
            have hR := hR.then hF74 (by decide)
            have hX := hX.fr hF74 (by decide)
            have hP := hB.1; rw [ht] at hP; have hD := tp_ad f73 hD; clear hB hFc hz1 hk1; subst ht; generalize t.heap = H at hP hS ⊢
            refine lv_aload_n hx hb dX11_order_95 rfl (lv_at hl 1 rfl) ?_
            have hf_75 : f73 h0 = .inr (11, [.ref (ρ h0 0), .ref (ρ h0 1), .ref (ρ h0 2), .ref (ρ h0 3), .ref (ρ h0 4), .ref (ρ h0 5), .int o24_x6]) := (hF74 _ (by rw [ht_h0]; decide)).trans hf_o24
            refine tpk_pos (tp_in hG ht_h0 (by decide)) hf_75 (fun q76 eq76 => ?_)
            refine va_get (D := (dC, dI)) (ci := 11) (v := .ref (ρ h0 0)) (C := RX11) (T := TX11) (N := 7) hx hb hts hfX11 hown hK hP q76 eq76 rfl 0 (by decide) (hts (.fieldLink RX11 10 "ColdShips" "world" "LColdShips$World;") wa_15) (fun _ h9 => h9) rfl dX11_order_96 ?_
            refine lv_dup hx hb dX11_order_99 rfl ?_
            have hf_77 : f73 (ρ h0 0) = .inr (10, [.int o20_x0, .int o20_x1, .int o20_x2, .int o20_x3, .int o20_x4, .int o20_x5, .int o20_x6, .ref (ρ (ρ h0 0) 7), .ref (ρ (ρ h0 0) 8), .ref (ρ (ρ h0 0) 9), .ref (ρ (ρ h0 0) 10), .ref (ρ (ρ h0 0) 11), .ref (ρ (ρ h0 0) 12), .ref (ρ (ρ h0 0) 13), .ref (ρ (ρ h0 0) 14), .ref (ρ (ρ h0 0) 15), .ref (ρ (ρ h0 0) 16), .ref (ρ (ρ h0 0) 17), .ref (ρ (ρ h0 0) 18)]) := (hF74 _ (by rw [tp_iu y1]; decide)).trans hf_o20
            refine tpk_pos (tp_in hG y1 (by decide)) hf_77 (fun q78 eq78 => ?_)
            refine va_getN (D := (dC, dI)) (ci := 10) (v := .int o20_x3) (C := RX10) (T := TX10) (N := 19) hx hb hts hfX10 hown hK hP q78 eq78 rfl 3 (by decide) (va_Nw.use rfl (hN.1 (.fieldLinkNest RX11 147 "ColdShips$World" "ordersGiven" "I" "ColdShips") nzw_55)) (fun _ h9 => h9) rfl dX11_order_100 ?_
            refine lv_iconst (v := 1) hx hb dX11_order_103 (by decide) ?_
            refine lv_iadd hx hb dX11_order_104 ?_
            refine lv_topi (fun z79 ez79 => ?_)
            have := zi_bd o20_x3
            have iz79 : z79.toInt = o20_x3.toInt + 1 := zi_add ez79 rfl rfl (by omega) (by omega)
            refine va_putN (D := (dC, dI)) (ci := 10) (v := .int z79) (ty := .int) (C := RX10) (T := TX10) (N := 19) hx hb hts hfX10 tyX10 tyX10_ok nmX10 hown hK hP hD hS q78 eq78 rfl 3 (by decide) (va_Nw.use rfl (hN.1 (.fieldLinkNest RX11 147 "ColdShips$World" "ordersGiven" "I" "ColdShips") nzw_55)) (fun _ h9 => h9) rfl (tyX10_ok 3 (by decide)) rfl rfl (Nat.le_of_ble_eq_true rfl) dX11_order_105 (tp_k (.inr (10, [.int o20_x0, .int o20_x1, .int o20_x2, .int z79, .int o20_x4, .int o20_x5, .int o20_x6, .ref (ρ (ρ h0 0) 7), .ref (ρ (ρ h0 0) 8), .ref (ρ (ρ h0 0) 9), .ref (ρ (ρ h0 0) 10), .ref (ρ (ρ h0 0) 11), .ref (ρ (ρ h0 0) 12), .ref (ρ (ρ h0 0) 13), .ref (ρ (ρ h0 0) 14), .ref (ρ (ρ h0 0) 15), .ref (ρ (ρ h0 0) 16), .ref (ρ (ρ h0 0) 17), .ref (ρ (ρ h0 0) 18)])) hD (tp_in hG y1 (by decide)) eq78 (fun f80 H locs hP hD hS g82 k81 => ?_))
            have hT := hT.up y1 g82 k81 ⟨_, _, _, _, _, _, _, rfl, ro20_0, ro20_1, ro20_2, ro20_3⟩
            have hR := hR.up y1 (by decide) k81
            have hX := hX.up k81 (Or.inr (by show (ρ (ρ h0 0) 30) = 0; omega))
            refine lv_aload_n hx hb dX11_order_108 rfl (lv_at hl 1 rfl) ?_
            refine lv_aload hx hb dX11_order_109 (lv_at hl 0 rfl) ?_
            refine tpk_6 hT hb48t (fun o83_x1 o83_x2 o83_x3 o83_x4 o83_x5 o83_x6 o83_x10 o83_x11 o83_x12 o83_x14 hf_o83 ro83_0 ro83_1 ro83_2 => ?_)
            refine tpk_pos (tp_in hG hb48t (by decide)) hf_o83 (fun q84 eq84 => ?_)
            have ro83_2 := tp_hu ro83_2
            refine va_getN (D := (dC, dI)) (ci := 5) (v := .int o83_x6) (C := RX5) (T := TX5) (N := 17) hx hb hts hfX5 hown hK hP q84 eq84 rfl 6 (by decide) (va_Nw.use rfl (hN.1 (.fieldLinkNest RX11 144 "ColdShips$Ship" "orders" "I" "ColdShips") nzw_35)) (fun _ h9 => h9) rfl dX11_order_111 ?_
            have hf_85 : f80 h0 = .inr (11, [.ref (ρ h0 0), .ref (ρ h0 1), .ref (ρ h0 2), .ref (ρ h0 3), .ref (ρ h0 4), .ref (ρ h0 5), .int o24_x6]) := (k81 _ (tp_ne ht_h0 y1 (by decide))).trans hf_75
            refine tpk_pos (tp_in hG ht_h0 (by decide)) hf_85 (fun q86 eq86 => ?_)
            have hFc := tp_fr hD hS hA
            refine va_calli (va_runV (As := [.int o83_x6]) (rest := []) ⟨hx, hb, hml, hown, hts⟩ (t_X11_accept l dC dI _ Ω κ τ ν ρ L f80 hG hT h0 o83_x6 ht_h0) (cwV 1 hts gX11_order_X11_accept rfl rfl rfl ⟨rfl, pd_X11_accept⟩ ⟨Nat.le_of_ble_eq_true rfl, Nat.le_of_ble_eq_true rfl⟩) ⟨pz_blind, va_recv hK hP (ci := 11) (q0 := q86) rfl eq86, pz_pre hP hK hD hN⟩ rfl rfl hl.1 rfl (lv_room (Nat.le_of_ble_eq_true rfl)) dX11_order_114 ⟨Nat.le_of_ble_eq_true rfl, Nat.le_of_ble_eq_true rfl⟩) hS (fun q _ h => hFc q h) hFc (fun r87 f89 t H1 locs ht hvm hw88 hB hz1 hk1 hS => ?_)
            refine tn_4 hw88 (fun hT hF90 hw88r hw88p => ?_); clear hw88
            have hR := hR.then hF90 (by decide)
            have hX := hX.fr hF90 (by decide)
            have hP := hB.1; rw [ht] at hP; have hD := tp_ad f89 hD; clear hB hFc hz1 hk1; subst ht; generalize t.heap = H at hP hS ⊢
            have hw88pq : r87.toInt = o83_x6.toInt := by rw [hw88p]
            have hf_91 : f89 (ρ h0 0) = .inr (10, [.int o20_x0, .int o20_x1, .int o20_x2, .int z79, .int o20_x4, .int o20_x5, .int o20_x6, .ref (ρ (ρ h0 0) 7), .ref (ρ (ρ h0 0) 8), .ref (ρ (ρ h0 0) 9), .ref (ρ (ρ h0 0) 10), .ref (ρ (ρ h0 0) 11), .ref (ρ (ρ h0 0) 12), .ref (ρ (ρ h0 0) 13), .ref (ρ (ρ h0 0) 14), .ref (ρ (ρ h0 0) 15), .ref (ρ (ρ h0 0) 16), .ref (ρ (ρ h0 0) 17), .ref (ρ (ρ h0 0) 18)]) := (hF90 _ (by rw [tp_iu y1]; decide)).trans g82
            have tv92 : tp_fld (f89 (ρ h0 0)) 0 = o20_x0.toInt := by rw [hf_91]; rfl
            have tv93 : tp_fld (f (ρ h0 0)) 0 = o20_x0.toInt := by rw [hf_o20]; rfl
            have tv94 : tp_fld (f89 (ρ h0 0)) 4 = o20_x4.toInt := by rw [hf_91]; rfl
            have tv95 : tp_fld (f (ρ h0 0)) 4 = o20_x4.toInt := by rw [hf_o20]; rfl
            have tv96 : tp_fld (f89 (ρ h0 0)) 5 = o20_x5.toInt := by rw [hf_91]; rfl
            have tv97 : tp_fld (f (ρ h0 0)) 5 = o20_x5.toInt := by rw [hf_o20]; rfl
            exact W.iret (v := r87) hx hb hr (fun t ht hW => ⟨⟨r87, f89, rfl, ⟨hT, hR, trivial, ⟨hX, (by rw [tv92, tv93, tv94, tv95, tv96, tv97]; exact ⟨(by omega), (by omega), (by omega)⟩)⟩⟩, by rw [ht]; exact hP, va_K.moved hW.alike hK, hD⟩, hS.F ht⟩) hS.2.2 dX11_order_117
          · have ic70 : o20_x3.toInt ≥ 400 := zi_ltf rfl rfl c70
            refine lv_aload_n hx hb dX11_order_81 rfl (lv_at hl 1 rfl) ?_
            refine lv_bipush (v := (-5)) hx hb dX11_order_82 (by decide) ?_
            have hFc := tp_fr hD hS hA
            refine va_calli (va_runV (As := [.int (-5)]) (rest := []) ⟨hx, hb, hml, hown, hts⟩ (t_X11_refuse l dC dI _ Ω κ τ ν ρ L f hG hT h0 ((-5)) ht_h0) (cwV 1 hts gX11_order_X11_refuse rfl rfl rfl ⟨rfl, pd_X11_refuse⟩ ⟨Nat.le_of_ble_eq_true rfl, Nat.le_of_ble_eq_true rfl⟩) ⟨pz_blind, va_recv hK hP (ci := 11) (q0 := q25) rfl eq25, pz_pre hP hK hD hN⟩ rfl rfl hl.1 rfl (lv_room (Nat.le_of_ble_eq_true rfl)) dX11_order_84 ⟨Nat.le_of_ble_eq_true rfl, Nat.le_of_ble_eq_true rfl⟩) hS (fun q _ h => hFc q h) hFc (fun r98 f100 t H1 locs ht hvm hw99 hB hz1 hk1 hS => ?_)
            refine tn_4 hw99 (fun hT hF101 hw99r hw99p => ?_); clear hw99
            have hR := hR.then hF101 (by decide)
            have hX := hX.fr hF101 (by decide)
            have hP := hB.1; rw [ht] at hP; have hD := tp_ad f100 hD; clear hB hFc hz1 hk1; subst ht; generalize t.heap = H at hP hS ⊢
            have hw99pq : r98.toInt = (-5) := by rw [hw99p]; rfl
            have hf_102 : f100 (ρ h0 0) = .inr (10, [.int o20_x0, .int o20_x1, .int o20_x2, .int o20_x3, .int o20_x4, .int o20_x5, .int o20_x6, .ref (ρ (ρ h0 0) 7), .ref (ρ (ρ h0 0) 8), .ref (ρ (ρ h0 0) 9), .ref (ρ (ρ h0 0) 10), .ref (ρ (ρ h0 0) 11), .ref (ρ (ρ h0 0) 12), .ref (ρ (ρ h0 0) 13), .ref (ρ (ρ h0 0) 14), .ref (ρ (ρ h0 0) 15), .ref (ρ (ρ h0 0) 16), .ref (ρ (ρ h0 0) 17), .ref (ρ (ρ h0 0) 18)]) := (hF101 _ (by rw [tp_iu y1]; decide)).trans hf_o20
            have tv103 : tp_fld (f100 (ρ h0 0)) 0 = o20_x0.toInt := by rw [hf_102]; rfl
            have tv104 : tp_fld (f (ρ h0 0)) 0 = o20_x0.toInt := by rw [hf_o20]; rfl
            have tv105 : tp_fld (f100 (ρ h0 0)) 4 = o20_x4.toInt := by rw [hf_102]; rfl
            have tv106 : tp_fld (f (ρ h0 0)) 4 = o20_x4.toInt := by rw [hf_o20]; rfl
            have tv107 : tp_fld (f100 (ρ h0 0)) 5 = o20_x5.toInt := by rw [hf_102]; rfl
            have tv108 : tp_fld (f (ρ h0 0)) 5 = o20_x5.toInt := by rw [hf_o20]; rfl
            exact W.iret (v := r98) hx hb hr (fun t ht hW => ⟨⟨r98, f100, rfl, ⟨hT, hR, trivial, ⟨hX, (by rw [tv103, tv104, tv105, tv106, tv107, tv108]; exact ⟨(by omega), (by omega), (by omega)⟩)⟩⟩, by rw [ht]; exact hP, va_K.moved hW.alike hK, hD⟩, hS.F ht⟩) hS.2.2 dX11_order_87
      · have ic43 : u.toInt = 0 := zi_nef rfl rfl c43
        refine lv_aload_n hx hb dX11_order_29 rfl (lv_at hl 0 rfl) ?_
        refine va_get (D := (dC, dI)) (ci := 11) (v := .ref (ρ h0 0)) (C := RX11) (T := TX11) (N := 7) hx hb hts hfX11 hown hK hP q25 eq25 rfl 0 (by decide) (hts (.fieldLink RX11 10 "ColdShips" "world" "LColdShips$World;") wa_15) (fun _ h9 => h9) rfl dX11_order_30 ?_
        refine lv_iload_n hx hb dX11_order_33 rfl (lv_at hl 3 rfl) ?_
        refine pz_calli (va_runV (As := [.int a]) (rest := []) ⟨hx, hb, hml, hown, hts⟩ (t_X10_hasTerminal l dC dI _ Ω κ τ ν ρ L f hG hT (ρ h0 0) a y1 o20_x0 o20_x1 o20_x2 o20_x3 o20_x4 o20_x5 o20_x6 hf_o20) (cwV 1 hts gX11_order_X10_hasTerminal rfl rfl rfl ⟨rfl, pd_X10_hasTerminal⟩ ⟨Nat.le_of_ble_eq_true rfl, Nat.le_of_ble_eq_true rfl⟩) ⟨pz_blind, va_recv hK hP (ci := 10) (q0 := q26) rfl eq26, pz_pre hP hK hD hN⟩ rfl rfl hl.1 rfl (lv_room (Nat.le_of_ble_eq_true rfl)) dX11_order_34 ⟨Nat.le_of_ble_eq_true rfl, Nat.le_of_ble_eq_true rfl⟩) (fun r109 hw110 => ?_)
        obtain ⟨hw110r, hw110p⟩ := hw110
        refine lv_if_ne (tgt := 47) hx hb dX11_order_37 (by decide) (fun c111 => ?_) (fun c111 => ?_)
        · have ic111 : r109.toInt ≠ 0 := zi_ne rfl rfl c111
          have p112 : 0 ≤ a.toInt ∧ a.toInt < o20_x4.toInt := (tp_cond.yes hw110p) (by omega)
          clear hw110r ic111
          refine lv_aload_n hx hb dX11_order_47 rfl (lv_at hl 0 rfl) ?_
          refine va_get (D := (dC, dI)) (ci := 11) (v := .ref (ρ h0 0)) (C := RX11) (T := TX11) (N := 7) hx hb hts hfX11 hown hK hP q25 eq25 rfl 0 (by decide) (hts (.fieldLink RX11 10 "ColdShips" "world" "LColdShips$World;") wa_15) (fun _ h9 => h9) rfl dX11_order_48 ?_
          refine va_getN (D := (dC, dI)) (ci := 10) (v := .ref (ρ (ρ h0 0) 10)) (C := RX10) (T := TX10) (N := 19) hx hb hts hfX10 hown hK hP q26 eq26 rfl 10 (by decide) (va_Nw.use rfl (hN.1 (.fieldLinkNest RX11 84 "ColdShips$World" "ships" "[LColdShips$Ship;" "ColdShips") nzw_69)) (fun _ h9 => h9) rfl dX11_order_51 ?_
          refine lv_iload_n hx hb dX11_order_54 rfl (lv_at hl 1 rfl) ?_
          refine tpk_25 hT y11 (fun g114 hf_o113 hf_o113e => ?_)
          refine tpk_pos (tp_in hG y11 (by decide)) hf_o113 (fun q115 eq115 => ?_)
          refine va_aldq hx hb hK hP q115 5 eq115 rfl (vp_in_iff.mpr ⟨by omega, by omega⟩) dX11_order_55 ?_
          obtain ⟨b116, hb117⟩ : ∃ b : Nat, b = ρ (ρ (ρ h0 0) 10) v.toNatClampNeg := ⟨_, rfl⟩
          have hb117t : τ b116 = 6 := by rw [hb117]; exact tpg_25 hG y11 _ (zi_cl (vp_in_iff.mpr ⟨by omega, by omega⟩))
          have hb117g : g114 v.toNatClampNeg = some b116 := by rw [hb117]; exact hf_o113e _ (zi_cl (vp_in_iff.mpr ⟨by omega, by omega⟩))
          refine W.eq (g2 := F0 m 56 ls (.ref b116 :: [])) (congrArg (fun o => F0 m 56 ls (va_rf o :: [])) hb117g) ?_
          refine lv_astore (lv' := [(4, .ref b116), (0, .ref h0), (1, .int v), (2, .int u), (3, .int a)]) hx hb dX11_order_56 hl (by decide) rfl (fun ls hl => ?_)
          refine lv_aload hx hb dX11_order_58 (lv_at hl 0 rfl) ?_
          refine tgk_6 hG hb117t (fun y118 y119 y119n y120 y120n y121 y121n y122 y122n y123 y123n y124 y124n => ?_)
          refine tpk_6 hT hb117t (fun o125_x1 o125_x2 o125_x3 o125_x4 o125_x5 o125_x6 o125_x10 o125_x11 o125_x12 o125_x14 hf_o125 ro125_0 ro125_1 ro125_2 => ?_)
          refine tpk_pos (tp_in hG hb117t (by decide)) hf_o125 (fun q126 eq126 => ?_)
          have ro125_2 := tp_hu ro125_2
          refine va_getN (D := (dC, dI)) (ci := 5) (v := .int o125_x6) (C := RX5) (T := TX5) (N := 17) hx hb hts hfX5 hown hK hP q126 eq126 rfl 6 (by decide) (va_Nw.use rfl (hN.1 (.fieldLinkNest RX11 144 "ColdShips$Ship" "orders" "I" "ColdShips") nzw_35)) (fun _ h9 => h9) rfl dX11_order_60 ?_
          refine lv_bipush (v := 20) hx hb dX11_order_63 (by decide) ?_
          refine lv_icmp_ge (tgt := 81) hx hb dX11_order_65 (by decide) (fun c127 => ?_) (fun c127 => ?_)
          · have ic127 : o125_x6.toInt ≥ 20 := zi_ge rfl rfl c127
            refine lv_aload_n hx hb dX11_order_81 rfl (lv_at hl 1 rfl) ?_
            refine lv_bipush (v := (-5)) hx hb dX11_order_82 (by decide) ?_
            have hFc := tp_fr hD hS hA
            refine va_calli (va_runV (As := [.int (-5)]) (rest := []) ⟨hx, hb, hml, hown, hts⟩ (t_X11_refuse l dC dI _ Ω κ τ ν ρ L f hG hT h0 ((-5)) ht_h0) (cwV 1 hts gX11_order_X11_refuse rfl rfl rfl ⟨rfl, pd_X11_refuse⟩ ⟨Nat.le_of_ble_eq_true rfl, Nat.le_of_ble_eq_true rfl⟩) ⟨pz_blind, va_recv hK hP (ci := 11) (q0 := q25) rfl eq25, pz_pre hP hK hD hN⟩ rfl rfl hl.1 rfl (lv_room (Nat.le_of_ble_eq_true rfl)) dX11_order_84 ⟨Nat.le_of_ble_eq_true rfl, Nat.le_of_ble_eq_true rfl⟩) hS (fun q _ h => hFc q h) hFc (fun r128 f130 t H1 locs ht hvm hw129 hB hz1 hk1 hS => ?_)
            refine tn_4 hw129 (fun hT hF131 hw129r hw129p => ?_); clear hw129
            have hR := hR.then hF131 (by decide)
            have hX := hX.fr hF131 (by decide)
            have hP := hB.1; rw [ht] at hP; have hD := tp_ad f130 hD; clear hB hFc hz1 hk1; subst ht; generalize t.heap = H at hP hS ⊢
            have hw129pq : r128.toInt = (-5) := by rw [hw129p]; rfl
            have hf_132 : f130 (ρ h0 0) = .inr (10, [.int o20_x0, .int o20_x1, .int o20_x2, .int o20_x3, .int o20_x4, .int o20_x5, .int o20_x6, .ref (ρ (ρ h0 0) 7), .ref (ρ (ρ h0 0) 8), .ref (ρ (ρ h0 0) 9), .ref (ρ (ρ h0 0) 10), .ref (ρ (ρ h0 0) 11), .ref (ρ (ρ h0 0) 12), .ref (ρ (ρ h0 0) 13), .ref (ρ (ρ h0 0) 14), .ref (ρ (ρ h0 0) 15), .ref (ρ (ρ h0 0) 16), .ref (ρ (ρ h0 0) 17), .ref (ρ (ρ h0 0) 18)]) := (hF131 _ (by rw [tp_iu y1]; decide)).trans hf_o20
            have tv133 : tp_fld (f130 (ρ h0 0)) 0 = o20_x0.toInt := by rw [hf_132]; rfl
            have tv134 : tp_fld (f (ρ h0 0)) 0 = o20_x0.toInt := by rw [hf_o20]; rfl
            have tv135 : tp_fld (f130 (ρ h0 0)) 4 = o20_x4.toInt := by rw [hf_132]; rfl
            have tv136 : tp_fld (f (ρ h0 0)) 4 = o20_x4.toInt := by rw [hf_o20]; rfl
            have tv137 : tp_fld (f130 (ρ h0 0)) 5 = o20_x5.toInt := by rw [hf_132]; rfl
            have tv138 : tp_fld (f (ρ h0 0)) 5 = o20_x5.toInt := by rw [hf_o20]; rfl
            exact W.iret (v := r128) hx hb hr (fun t ht hW => ⟨⟨r128, f130, rfl, ⟨hT, hR, trivial, ⟨hX, (by rw [tv133, tv134, tv135, tv136, tv137, tv138]; exact ⟨(by omega), (by omega), (by omega)⟩)⟩⟩, by rw [ht]; exact hP, va_K.moved hW.alike hK, hD⟩, hS.F ht⟩) hS.2.2 dX11_order_87
          · have ic127 : o125_x6.toInt < 20 := zi_gef rfl rfl c127
            refine lv_aload_n hx hb dX11_order_68 rfl (lv_at hl 1 rfl) ?_
            refine va_get (D := (dC, dI)) (ci := 11) (v := .ref (ρ h0 0)) (C := RX11) (T := TX11) (N := 7) hx hb hts hfX11 hown hK hP q25 eq25 rfl 0 (by decide) (hts (.fieldLink RX11 10 "ColdShips" "world" "LColdShips$World;") wa_15) (fun _ h9 => h9) rfl dX11_order_69 ?_
            refine va_getN (D := (dC, dI)) (ci := 10) (v := .int o20_x3) (C := RX10) (T := TX10) (N := 19) hx hb hts hfX10 hown hK hP q26 eq26 rfl 3 (by decide) (va_Nw.use rfl (hN.1 (.fieldLinkNest RX11 147 "ColdShips$World" "ordersGiven" "I" "ColdShips") nzw_55)) (fun _ h9 => h9) rfl dX11_order_72 ?_
            refine lv_sipush (v := 400) hx hb dX11_order_75 (by decide) ?_
            refine lv_icmp_lt (tgt := 88) hx hb dX11_order_78 (by decide) (fun c139 => ?_) (fun c139 => ?_)
            · have ic139 : o20_x3.toInt < 400 := zi_lt rfl rfl c139
              refine lv_aload hx hb dX11_order_88 (lv_at hl 0 rfl) ?_
              refine lv_iload_n hx hb dX11_order_90 rfl (lv_at hl 3 rfl) ?_
              refine lv_iload_n hx hb dX11_order_91 rfl (lv_at hl 4 rfl) ?_
              have hFc := tp_fr hD hS hA
              refine va_callv (va_runV (As := [.int u, .int a]) (rest := []) ⟨hx, hb, hml, hown, hts⟩ (t_X5_addOrder l dC dI _ Ω κ τ ν ρ L f hG hT b116 u a hb117t) (cwV 2 hts gX11_order_X5_addOrder rfl rfl rfl ⟨rfl, pd_X5_addOrder⟩ ⟨Nat.le_of_ble_eq_true rfl, Nat.le_of_ble_eq_true rfl⟩) ⟨pz_blind, va_recv hK hP (ci := 5) (q0 := q126) rfl eq126, pz_pre hP hK hD hN⟩ rfl rfl hl.1 rfl (lv_room (Nat.le_of_ble_eq_true rfl)) dX11_order_92 ⟨Nat.le_of_ble_eq_true rfl, Nat.le_of_ble_eq_true rfl⟩) hS (fun q _ h => hFc q h) hFc (fun f142 t H1 locs ht hvm hw141 hB hz1 hk1 hS => ?_)
              refine tn_3 hw141 (fun hT hF143 hw141p => ?_); clear hw141
              have hR := hR.then hF143 (by decide)
              have hX := hX.fr hF143 (by decide)
              have hP := hB.1; rw [ht] at hP; have hD := tp_ad f142 hD; clear hB hFc hz1 hk1; subst ht; generalize t.heap = H at hP hS ⊢
              refine lv_aload_n hx hb dX11_order_95 rfl (lv_at hl 1 rfl) ?_
              have hf_144 : f142 h0 = .inr (11, [.ref (ρ h0 0), .ref (ρ h0 1), .ref (ρ h0 2), .ref (ρ h0 3), .ref (ρ h0 4), .ref (ρ h0 5), .int o24_x6]) := (hF143 _ (by rw [ht_h0]; decide)).trans hf_o24
              refine tpk_pos (tp_in hG ht_h0 (by decide)) hf_144 (fun q145 eq145 => ?_)
              refine va_get (D := (dC, dI)) (ci := 11) (v := .ref (ρ h0 0)) (C := RX11) (T := TX11) (N := 7) hx hb hts hfX11 hown hK hP q145 eq145 rfl 0 (by decide) (hts (.fieldLink RX11 10 "ColdShips" "world" "LColdShips$World;") wa_15) (fun _ h9 => h9) rfl dX11_order_96 ?_
              refine lv_dup hx hb dX11_order_99 rfl ?_
              have hf_146 : f142 (ρ h0 0) = .inr (10, [.int o20_x0, .int o20_x1, .int o20_x2, .int o20_x3, .int o20_x4, .int o20_x5, .int o20_x6, .ref (ρ (ρ h0 0) 7), .ref (ρ (ρ h0 0) 8), .ref (ρ (ρ h0 0) 9), .ref (ρ (ρ h0 0) 10), .ref (ρ (ρ h0 0) 11), .ref (ρ (ρ h0 0) 12), .ref (ρ (ρ h0 0) 13), .ref (ρ (ρ h0 0) 14), .ref (ρ (ρ h0 0) 15), .ref (ρ (ρ h0 0) 16), .ref (ρ (ρ h0 0) 17), .ref (ρ (ρ h0 0) 18)]) := (hF143 _ (by rw [tp_iu y1]; decide)).trans hf_o20
              refine tpk_pos (tp_in hG y1 (by decide)) hf_146 (fun q147 eq147 => ?_)
              refine va_getN (D := (dC, dI)) (ci := 10) (v := .int o20_x3) (C := RX10) (T := TX10) (N := 19) hx hb hts hfX10 hown hK hP q147 eq147 rfl 3 (by decide) (va_Nw.use rfl (hN.1 (.fieldLinkNest RX11 147 "ColdShips$World" "ordersGiven" "I" "ColdShips") nzw_55)) (fun _ h9 => h9) rfl dX11_order_100 ?_
              refine lv_iconst (v := 1) hx hb dX11_order_103 (by decide) ?_
              refine lv_iadd hx hb dX11_order_104 ?_
              refine lv_topi (fun z148 ez148 => ?_)
              have := zi_bd o20_x3
              have iz148 : z148.toInt = o20_x3.toInt + 1 := zi_add ez148 rfl rfl (by omega) (by omega)
              refine va_putN (D := (dC, dI)) (ci := 10) (v := .int z148) (ty := .int) (C := RX10) (T := TX10) (N := 19) hx hb hts hfX10 tyX10 tyX10_ok nmX10 hown hK hP hD hS q147 eq147 rfl 3 (by decide) (va_Nw.use rfl (hN.1 (.fieldLinkNest RX11 147 "ColdShips$World" "ordersGiven" "I" "ColdShips") nzw_55)) (fun _ h9 => h9) rfl (tyX10_ok 3 (by decide)) rfl rfl (Nat.le_of_ble_eq_true rfl) dX11_order_105 (tp_k (.inr (10, [.int o20_x0, .int o20_x1, .int o20_x2, .int z148, .int o20_x4, .int o20_x5, .int o20_x6, .ref (ρ (ρ h0 0) 7), .ref (ρ (ρ h0 0) 8), .ref (ρ (ρ h0 0) 9), .ref (ρ (ρ h0 0) 10), .ref (ρ (ρ h0 0) 11), .ref (ρ (ρ h0 0) 12), .ref (ρ (ρ h0 0) 13), .ref (ρ (ρ h0 0) 14), .ref (ρ (ρ h0 0) 15), .ref (ρ (ρ h0 0) 16), .ref (ρ (ρ h0 0) 17), .ref (ρ (ρ h0 0) 18)])) hD (tp_in hG y1 (by decide)) eq147 (fun f149 H locs hP hD hS g151 k150 => ?_))
              have hT := hT.up y1 g151 k150 ⟨_, _, _, _, _, _, _, rfl, ro20_0, ro20_1, ro20_2, ro20_3⟩
              have hR := hR.up y1 (by decide) k150
              have hX := hX.up k150 (Or.inr (by show (ρ (ρ h0 0) 30) = 0; omega))
              refine lv_aload_n hx hb dX11_order_108 rfl (lv_at hl 1 rfl) ?_
              refine lv_aload hx hb dX11_order_109 (lv_at hl 0 rfl) ?_
              refine tpk_6 hT hb117t (fun o152_x1 o152_x2 o152_x3 o152_x4 o152_x5 o152_x6 o152_x10 o152_x11 o152_x12 o152_x14 hf_o152 ro152_0 ro152_1 ro152_2 => ?_)
              refine tpk_pos (tp_in hG hb117t (by decide)) hf_o152 (fun q153 eq153 => ?_)
              have ro152_2 := tp_hu ro152_2
              refine va_getN (D := (dC, dI)) (ci := 5) (v := .int o152_x6) (C := RX5) (T := TX5) (N := 17) hx hb hts hfX5 hown hK hP q153 eq153 rfl 6 (by decide) (va_Nw.use rfl (hN.1 (.fieldLinkNest RX11 144 "ColdShips$Ship" "orders" "I" "ColdShips") nzw_35)) (fun _ h9 => h9) rfl dX11_order_111 ?_
              have hf_154 : f149 h0 = .inr (11, [.ref (ρ h0 0), .ref (ρ h0 1), .ref (ρ h0 2), .ref (ρ h0 3), .ref (ρ h0 4), .ref (ρ h0 5), .int o24_x6]) := (k150 _ (tp_ne ht_h0 y1 (by decide))).trans hf_144
              refine tpk_pos (tp_in hG ht_h0 (by decide)) hf_154 (fun q155 eq155 => ?_)
              have hFc := tp_fr hD hS hA
              refine va_calli (va_runV (As := [.int o152_x6]) (rest := []) ⟨hx, hb, hml, hown, hts⟩ (t_X11_accept l dC dI _ Ω κ τ ν ρ L f149 hG hT h0 o152_x6 ht_h0) (cwV 1 hts gX11_order_X11_accept rfl rfl rfl ⟨rfl, pd_X11_accept⟩ ⟨Nat.le_of_ble_eq_true rfl, Nat.le_of_ble_eq_true rfl⟩) ⟨pz_blind, va_recv hK hP (ci := 11) (q0 := q155) rfl eq155, pz_pre hP hK hD hN⟩ rfl rfl hl.1 rfl (lv_room (Nat.le_of_ble_eq_true rfl)) dX11_order_114 ⟨Nat.le_of_ble_eq_true rfl, Nat.le_of_ble_eq_true rfl⟩) hS (fun q _ h => hFc q h) hFc (fun r156 f158 t H1 locs ht hvm hw157 hB hz1 hk1 hS => ?_)
              refine tn_4 hw157 (fun hT hF159 hw157r hw157p => ?_); clear hw157
              have hR := hR.then hF159 (by decide)
              have hX := hX.fr hF159 (by decide)
              have hP := hB.1; rw [ht] at hP; have hD := tp_ad f158 hD; clear hB hFc hz1 hk1; subst ht; generalize t.heap = H at hP hS ⊢
              have hw157pq : r156.toInt = o152_x6.toInt := by rw [hw157p]
              have hf_160 : f158 (ρ h0 0) = .inr (10, [.int o20_x0, .int o20_x1, .int o20_x2, .int z148, .int o20_x4, .int o20_x5, .int o20_x6, .ref (ρ (ρ h0 0) 7), .ref (ρ (ρ h0 0) 8), .ref (ρ (ρ h0 0) 9), .ref (ρ (ρ h0 0) 10), .ref (ρ (ρ h0 0) 11), .ref (ρ (ρ h0 0) 12), .ref (ρ (ρ h0 0) 13), .ref (ρ (ρ h0 0) 14), .ref (ρ (ρ h0 0) 15), .ref (ρ (ρ h0 0) 16), .ref (ρ (ρ h0 0) 17), .ref (ρ (ρ h0 0) 18)]) := (hF159 _ (by rw [tp_iu y1]; decide)).trans g151
              have tv161 : tp_fld (f158 (ρ h0 0)) 0 = o20_x0.toInt := by rw [hf_160]; rfl
              have tv162 : tp_fld (f (ρ h0 0)) 0 = o20_x0.toInt := by rw [hf_o20]; rfl
              have tv163 : tp_fld (f158 (ρ h0 0)) 4 = o20_x4.toInt := by rw [hf_160]; rfl
              have tv164 : tp_fld (f (ρ h0 0)) 4 = o20_x4.toInt := by rw [hf_o20]; rfl
              have tv165 : tp_fld (f158 (ρ h0 0)) 5 = o20_x5.toInt := by rw [hf_160]; rfl
              have tv166 : tp_fld (f (ρ h0 0)) 5 = o20_x5.toInt := by rw [hf_o20]; rfl
              exact W.iret (v := r156) hx hb hr (fun t ht hW => ⟨⟨r156, f158, rfl, ⟨hT, hR, trivial, ⟨hX, (by rw [tv161, tv162, tv163, tv164, tv165, tv166]; exact ⟨(by omega), (by omega), (by omega)⟩)⟩⟩, by rw [ht]; exact hP, va_K.moved hW.alike hK, hD⟩, hS.F ht⟩) hS.2.2 dX11_order_117
            · have ic139 : o20_x3.toInt ≥ 400 := zi_ltf rfl rfl c139
              refine lv_aload_n hx hb dX11_order_81 rfl (lv_at hl 1 rfl) ?_
              refine lv_bipush (v := (-5)) hx hb dX11_order_82 (by decide) ?_
              have hFc := tp_fr hD hS hA
              refine va_calli (va_runV (As := [.int (-5)]) (rest := []) ⟨hx, hb, hml, hown, hts⟩ (t_X11_refuse l dC dI _ Ω κ τ ν ρ L f hG hT h0 ((-5)) ht_h0) (cwV 1 hts gX11_order_X11_refuse rfl rfl rfl ⟨rfl, pd_X11_refuse⟩ ⟨Nat.le_of_ble_eq_true rfl, Nat.le_of_ble_eq_true rfl⟩) ⟨pz_blind, va_recv hK hP (ci := 11) (q0 := q25) rfl eq25, pz_pre hP hK hD hN⟩ rfl rfl hl.1 rfl (lv_room (Nat.le_of_ble_eq_true rfl)) dX11_order_84 ⟨Nat.le_of_ble_eq_true rfl, Nat.le_of_ble_eq_true rfl⟩) hS (fun q _ h => hFc q h) hFc (fun r167 f169 t H1 locs ht hvm hw168 hB hz1 hk1 hS => ?_)
              refine tn_4 hw168 (fun hT hF170 hw168r hw168p => ?_); clear hw168
              have hR := hR.then hF170 (by decide)
              have hX := hX.fr hF170 (by decide)
              have hP := hB.1; rw [ht] at hP; have hD := tp_ad f169 hD; clear hB hFc hz1 hk1; subst ht; generalize t.heap = H at hP hS ⊢
              have hw168pq : r167.toInt = (-5) := by rw [hw168p]; rfl
              have hf_171 : f169 (ρ h0 0) = .inr (10, [.int o20_x0, .int o20_x1, .int o20_x2, .int o20_x3, .int o20_x4, .int o20_x5, .int o20_x6, .ref (ρ (ρ h0 0) 7), .ref (ρ (ρ h0 0) 8), .ref (ρ (ρ h0 0) 9), .ref (ρ (ρ h0 0) 10), .ref (ρ (ρ h0 0) 11), .ref (ρ (ρ h0 0) 12), .ref (ρ (ρ h0 0) 13), .ref (ρ (ρ h0 0) 14), .ref (ρ (ρ h0 0) 15), .ref (ρ (ρ h0 0) 16), .ref (ρ (ρ h0 0) 17), .ref (ρ (ρ h0 0) 18)]) := (hF170 _ (by rw [tp_iu y1]; decide)).trans hf_o20
              have tv172 : tp_fld (f169 (ρ h0 0)) 0 = o20_x0.toInt := by rw [hf_171]; rfl
              have tv173 : tp_fld (f (ρ h0 0)) 0 = o20_x0.toInt := by rw [hf_o20]; rfl
              have tv174 : tp_fld (f169 (ρ h0 0)) 4 = o20_x4.toInt := by rw [hf_171]; rfl
              have tv175 : tp_fld (f (ρ h0 0)) 4 = o20_x4.toInt := by rw [hf_o20]; rfl
              have tv176 : tp_fld (f169 (ρ h0 0)) 5 = o20_x5.toInt := by rw [hf_171]; rfl
              have tv177 : tp_fld (f (ρ h0 0)) 5 = o20_x5.toInt := by rw [hf_o20]; rfl
              exact W.iret (v := r167) hx hb hr (fun t ht hW => ⟨⟨r167, f169, rfl, ⟨hT, hR, trivial, ⟨hX, (by rw [tv172, tv173, tv174, tv175, tv176, tv177]; exact ⟨(by omega), (by omega), (by omega)⟩)⟩⟩, by rw [ht]; exact hP, va_K.moved hW.alike hK, hD⟩, hS.F ht⟩) hS.2.2 dX11_order_87
        · have ic111 : r109.toInt = 0 := zi_nef rfl rfl c111
          have p178 : ¬ (0 ≤ a.toInt ∧ a.toInt < o20_x4.toInt) := (tp_cond.no hw110p) (by omega)
          clear hw110r ic111
          refine lv_aload_n hx hb dX11_order_40 rfl (lv_at hl 0 rfl) ?_
          refine lv_bipush (v := (-2)) hx hb dX11_order_41 (by decide) ?_
          have hFc := tp_fr hD hS hA
          refine va_calli (va_runV (As := [.int (-2)]) (rest := []) ⟨hx, hb, hml, hown, hts⟩ (t_X11_refuse l dC dI _ Ω κ τ ν ρ L f hG hT h0 ((-2)) ht_h0) (cwV 1 hts gX11_order_X11_refuse rfl rfl rfl ⟨rfl, pd_X11_refuse⟩ ⟨Nat.le_of_ble_eq_true rfl, Nat.le_of_ble_eq_true rfl⟩) ⟨pz_blind, va_recv hK hP (ci := 11) (q0 := q25) rfl eq25, pz_pre hP hK hD hN⟩ rfl rfl hl.1 rfl (lv_room (Nat.le_of_ble_eq_true rfl)) dX11_order_43 ⟨Nat.le_of_ble_eq_true rfl, Nat.le_of_ble_eq_true rfl⟩) hS (fun q _ h => hFc q h) hFc (fun r179 f181 t H1 locs ht hvm hw180 hB hz1 hk1 hS => ?_)
          refine tn_4 hw180 (fun hT hF182 hw180r hw180p => ?_); clear hw180
          have hR := hR.then hF182 (by decide)
          have hX := hX.fr hF182 (by decide)
          have hP := hB.1; rw [ht] at hP; have hD := tp_ad f181 hD; clear hB hFc hz1 hk1; subst ht; generalize t.heap = H at hP hS ⊢
          have hw180pq : r179.toInt = (-2) := by rw [hw180p]; rfl
          have hf_183 : f181 (ρ h0 0) = .inr (10, [.int o20_x0, .int o20_x1, .int o20_x2, .int o20_x3, .int o20_x4, .int o20_x5, .int o20_x6, .ref (ρ (ρ h0 0) 7), .ref (ρ (ρ h0 0) 8), .ref (ρ (ρ h0 0) 9), .ref (ρ (ρ h0 0) 10), .ref (ρ (ρ h0 0) 11), .ref (ρ (ρ h0 0) 12), .ref (ρ (ρ h0 0) 13), .ref (ρ (ρ h0 0) 14), .ref (ρ (ρ h0 0) 15), .ref (ρ (ρ h0 0) 16), .ref (ρ (ρ h0 0) 17), .ref (ρ (ρ h0 0) 18)]) := (hF182 _ (by rw [tp_iu y1]; decide)).trans hf_o20
          have tv184 : tp_fld (f181 (ρ h0 0)) 0 = o20_x0.toInt := by rw [hf_183]; rfl
          have tv185 : tp_fld (f (ρ h0 0)) 0 = o20_x0.toInt := by rw [hf_o20]; rfl
          have tv186 : tp_fld (f181 (ρ h0 0)) 4 = o20_x4.toInt := by rw [hf_183]; rfl
          have tv187 : tp_fld (f (ρ h0 0)) 4 = o20_x4.toInt := by rw [hf_o20]; rfl
          have tv188 : tp_fld (f181 (ρ h0 0)) 5 = o20_x5.toInt := by rw [hf_183]; rfl
          have tv189 : tp_fld (f (ρ h0 0)) 5 = o20_x5.toInt := by rw [hf_o20]; rfl
          exact W.iret (v := r179) hx hb hr (fun t ht hW => ⟨⟨r179, f181, rfl, ⟨hT, hR, trivial, ⟨hX, (by rw [tv184, tv185, tv186, tv187, tv188, tv189]; exact ⟨(by omega), (by omega), (by omega)⟩)⟩⟩, by rw [ht]; exact hP, va_K.moved hW.alike hK, hD⟩, hS.F ht⟩) hS.2.2 dX11_order_46
  · have ic23 : r21.toInt = 0 := zi_nef rfl rfl c23
    refine lv_aload_n hx hb dX11_order_8 rfl (lv_at hl 0 rfl) ?_
    refine lv_iconst (v := (-1)) hx hb dX11_order_9 (by decide) ?_
    refine tpk_12 hT ht_h0 (fun o190_x6 hf_o190 => ?_)
    refine tpk_pos (tp_in hG ht_h0 (by decide)) hf_o190 (fun q191 eq191 => ?_)
    have hFc := tp_fr hD hS hA
    refine va_calli (va_runV (As := [.int (-1)]) (rest := []) ⟨hx, hb, hml, hown, hts⟩ (t_X11_refuse l dC dI _ Ω κ τ ν ρ L f hG hT h0 ((-1)) ht_h0) (cwV 1 hts gX11_order_X11_refuse rfl rfl rfl ⟨rfl, pd_X11_refuse⟩ ⟨Nat.le_of_ble_eq_true rfl, Nat.le_of_ble_eq_true rfl⟩) ⟨pz_blind, va_recv hK hP (ci := 11) (q0 := q191) rfl eq191, pz_pre hP hK hD hN⟩ rfl rfl hl.1 rfl (lv_room (Nat.le_of_ble_eq_true rfl)) dX11_order_10 ⟨Nat.le_of_ble_eq_true rfl, Nat.le_of_ble_eq_true rfl⟩) hS (fun q _ h => hFc q h) hFc (fun r192 f194 t H1 locs ht hvm hw193 hB hz1 hk1 hS => ?_)
    refine tn_4 hw193 (fun hT hF195 hw193r hw193p => ?_); clear hw193
    have hR := hR.then hF195 (by decide)
    have hX := hX.fr hF195 (by decide)
    have hP := hB.1; rw [ht] at hP; have hD := tp_ad f194 hD; clear hB hFc hz1 hk1; subst ht; generalize t.heap = H at hP hS ⊢
    have hw193pq : r192.toInt = (-1) := by rw [hw193p]; rfl
    have hf_196 : f194 (ρ h0 0) = .inr (10, [.int o20_x0, .int o20_x1, .int o20_x2, .int o20_x3, .int o20_x4, .int o20_x5, .int o20_x6, .ref (ρ (ρ h0 0) 7), .ref (ρ (ρ h0 0) 8), .ref (ρ (ρ h0 0) 9), .ref (ρ (ρ h0 0) 10), .ref (ρ (ρ h0 0) 11), .ref (ρ (ρ h0 0) 12), .ref (ρ (ρ h0 0) 13), .ref (ρ (ρ h0 0) 14), .ref (ρ (ρ h0 0) 15), .ref (ρ (ρ h0 0) 16), .ref (ρ (ρ h0 0) 17), .ref (ρ (ρ h0 0) 18)]) := (hF195 _ (by rw [tp_iu y1]; decide)).trans hf_o20
    have ro20_0 := tp_hu ro20_0
    have tv197 : tp_fld (f194 (ρ h0 0)) 0 = o20_x0.toInt := by rw [hf_196]; rfl
    have tv198 : tp_fld (f (ρ h0 0)) 0 = o20_x0.toInt := by rw [hf_o20]; rfl
    have ro20_1 := tp_hu ro20_1
    have tv199 : tp_fld (f194 (ρ h0 0)) 4 = o20_x4.toInt := by rw [hf_196]; rfl
    have tv200 : tp_fld (f (ρ h0 0)) 4 = o20_x4.toInt := by rw [hf_o20]; rfl
    have ro20_2 := tp_hu ro20_2
    have tv201 : tp_fld (f194 (ρ h0 0)) 5 = o20_x5.toInt := by rw [hf_196]; rfl
    have tv202 : tp_fld (f (ρ h0 0)) 5 = o20_x5.toInt := by rw [hf_o20]; rfl
    exact W.iret (v := r192) hx hb hr (fun t ht hW => ⟨⟨r192, f194, rfl, ⟨hT, hR, trivial, ⟨hX, (by rw [tv197, tv198, tv199, tv200, tv201, tv202]; exact ⟨(by omega), (by omega), (by omega)⟩)⟩⟩, by rw [ht]; exact hP, va_K.moved hW.alike hK, hD⟩, hS.F ht⟩) hS.2.2 dX11_order_13
set_option maxHeartbeats 4000000 in
set_option maxRecDepth 100000 in
theorem t_X11_go (l : Launch) (dC : Nat → ClassId) (dI : Nat → Nat → Nat) (sz : Nat) (Ω : Nat → Nat → (Nat → Nat) → va_E → Prop) (κ : Nat → ClassId) (τ ν : Nat → Nat) (ρ : Nat → Nat → Nat) (L : List Nat) (f : Nat → va_E) (hG : tp_G τ ν ρ L) (hT : tp_T Ω κ τ ν ρ f) (h0 : Nat) (v : Int32) (ht_h0 : τ h0 = 12) : Met l yX11_go wqX11_go ({ frames := 9, cells := 0, slots := 0, locals := 3200 }) (va_Pc [.ref h0, .int v] (pz_B dC dI (tp_K κ) (va_pl L f) sz)) (va_Qi (fun (r : Int32) (f1 : Nat → va_E) => tp_T Ω κ τ ν ρ f1 ∧ tp_F τ [5, 6, 8, 9, 10, 11, 12, 20, 21] f f1 ∧ True ∧ tp_X τ ρ (fun n => (n = 0 ∨ n = 17)) f f1 ∧ ((((¬ ((1 ≤ v.toInt ∧ v.toInt ≤ 480) ∧ (tp_fld (f (ρ h0 0)) 0) + v.toInt ≤ 2399)) → r.toInt = -1) ∧ (¬ (¬ ((1 ≤ v.toInt ∧ v.toInt ≤ 480) ∧ (tp_fld (f (ρ h0 0)) 0) + v.toInt ≤ 2399)) → r.toInt = (tp_fld (f (ρ h0 0)) 0) + v.toInt))) ∧ ((((¬ ((1 ≤ v.toInt ∧ v.toInt ≤ 480) ∧ (tp_fld (f (ρ h0 0)) 0) + v.toInt ≤ 2399)) → (tp_fld (f1 (ρ h0 0)) 0) = (tp_fld (f (ρ h0 0)) 0)) ∧ (¬ (¬ ((1 ≤ v.toInt ∧ v.toInt ≤ 480) ∧ (tp_fld (f (ρ h0 0)) 0) + v.toInt ≤ 2399)) → (tp_fld (f1 (ρ h0 0)) 0) = (tp_fld (f (ρ h0 0)) 0) + v.toInt))) ∧ ((tp_fld (f1 (ρ h0 0)) 4) = (tp_fld (f (ρ h0 0)) 4)) ∧ ((tp_fld (f1 (ρ h0 0)) 5) = (tp_fld (f (ρ h0 0)) 5))) (fun (f1 : Nat → va_E) (t : State) => pz_E dC dI (tp_K κ) (va_A (va_pl L f) sz) (va_pl L f1) t) (va_A (va_pl L f) sz)) 0 0 (va_A (va_pl L f) sz) := by
  refine Met.ofW (cc := cX11_go) (maxL := 3) (ret := some .int) (by decide) rfl ?_
  intro p e s m args below meth c s₁ B hml hv
  obtain ⟨rfl, hsz, hP, hK, hD0, hN⟩ := hv
  have hx := B.exec
  have hb := B.bytes
  have hr := B.returns
  have hts := fun (w : Cond) (h : w ∈ WALL) => atoms_spec (ws := wqX11_go) B.pre w (List.mem_cons_of_mem _ h)
  have hown : s.vm.findClass RX11 = some m.cls := findClass_of_methodNamed B.named
  have hlocks := B.notSynchronized
  subst hsz
  have hD := hD0.self (sz := s.heap.size)
  generalize hAe : va_A (va_pl L f) s.heap.size = A at hD ⊢
  have hA : ∀ q : Nat, s.heap.size ≤ q → A q := fun q h => by rw [← hAe]; exact Or.inr h
  have hS : va_S A s.heap s.heap [] := va_S.rf
  have hR : tp_F τ [5, 6, 8, 9, 10, 11, 12, 20, 21] f f := tp_F.rf
  have hX : tp_X τ ρ (fun n => (n = 0 ∨ n = 17)) f f := tp_X.rf
  have hl := lv_entry ([.ref h0, .int v]) (n := 3) (Nat.le_of_ble_eq_true rfl)
  rw [lg_entry_eq]
  generalize (lg_sl ([.ref h0, .int v]) ++ List.replicate (3 - (lg_sl ([.ref h0, .int v])).length) Slot.unset).toArray = ls at hl ⊢
  have hl : lv_has ls 3 [(0, .ref h0), (1, .int v)] := hl
  refine tgk_12 hG ht_h0 (fun y1 y1l y2 y3 y4 y5 y6 y7a y7b y7c => ?_)
  refine tgk_11 hG y1 (fun y8 y8n y9 y9n y10 y11 y12 y13 y13m y13l y14 y14m y14l y15 y15m y15l y16 y16w y16m y16l y17 y17w y17m y17l y18 y18w y18m y18l y19 y19w y19m y19l => ?_)
  refine tpk_11 hT y1 (fun o20_x0 o20_x1 o20_x2 o20_x3 o20_x4 o20_x5 o20_x6 hf_o20 ro20_0 ro20_1 ro20_2 ro20_3 => ?_)
  refine lv_iload_n hx hb dX11_go_0 rfl (lv_at hl 1 rfl) ?_
  refine lv_iconst (v := 1) hx hb dX11_go_1 (by decide) ?_
  refine lv_sipush (v := 480) hx hb dX11_go_2 (by decide) ?_
  refine pz_calli (va_runS (As := [.int v, .int 1, .int 480]) (rest := []) ⟨hx, hb, hml, hown, hts⟩ (t_X11_within l dC dI _ v (1) (480) (v.toInt) (1) (480) rfl rfl rfl) (va_cwS 3 hts gX11_go_X11_within rfl rfl rfl pd_X11_within ⟨Nat.le_of_ble_eq_true rfl, Nat.le_of_ble_eq_true rfl⟩) ⟨pz_blind, pz_pre pz_P0 (hK.sub (tys' := []) [] rfl) (pz_D0 (A := fun _ => True)) hN⟩ rfl rfl hl.1 rfl (lv_room (Nat.le_of_ble_eq_true rfl)) dX11_go_5 ⟨Nat.le_of_ble_eq_true rfl, Nat.le_of_ble_eq_true rfl⟩) (fun r21 hw22 => ?_)
  obtain ⟨hw22r, hw22p⟩ := hw22
  refine lv_if_eq (tgt := 26) hx hb dX11_go_8 (by decide) (fun c23 => ?_) (fun c23 => ?_)
  · have ic23 : r21.toInt = 0 := zi_eq rfl rfl c23
    have p24 : ¬ ((1) ≤ (v.toInt) ∧ (v.toInt) ≤ (480)) := (tp_cond.no hw22p) (by omega)
    clear hw22r ic23
    refine lv_aload_n hx hb dX11_go_26 rfl (lv_at hl 0 rfl) ?_
    refine lv_iconst (v := (-1)) hx hb dX11_go_27 (by decide) ?_
    refine tpk_12 hT ht_h0 (fun o25_x6 hf_o25 => ?_)
    refine tpk_pos (tp_in hG ht_h0 (by decide)) hf_o25 (fun q26 eq26 => ?_)
    have hFc := tp_fr hD hS hA
    refine va_calli (va_runV (As := [.int (-1)]) (rest := []) ⟨hx, hb, hml, hown, hts⟩ (t_X11_refuse l dC dI _ Ω κ τ ν ρ L f hG hT h0 ((-1)) ht_h0) (cwV 1 hts gX11_go_X11_refuse rfl rfl rfl ⟨rfl, pd_X11_refuse⟩ ⟨Nat.le_of_ble_eq_true rfl, Nat.le_of_ble_eq_true rfl⟩) ⟨pz_blind, va_recv hK hP (ci := 11) (q0 := q26) rfl eq26, pz_pre hP hK hD hN⟩ rfl rfl hl.1 rfl (lv_room (Nat.le_of_ble_eq_true rfl)) dX11_go_28 ⟨Nat.le_of_ble_eq_true rfl, Nat.le_of_ble_eq_true rfl⟩) hS (fun q _ h => hFc q h) hFc (fun r27 f29 t H1 locs ht hvm hw28 hB hz1 hk1 hS => ?_)
    refine tn_4 hw28 (fun hT hF30 hw28r hw28p => ?_); clear hw28
    have hR := hR.then hF30 (by decide)
    have hX := hX.fr hF30 (by decide)
    have hP := hB.1; rw [ht] at hP; have hD := tp_ad f29 hD; clear hB hFc hz1 hk1; subst ht; generalize t.heap = H at hP hS ⊢
    have hw28pq : r27.toInt = (-1) := by rw [hw28p]; rfl
    have ro20_0 := tp_hu ro20_0
    have tv31 : tp_fld (f (ρ h0 0)) 0 = o20_x0.toInt := by rw [hf_o20]; rfl
    have hf_32 : f29 (ρ h0 0) = .inr (10, [.int o20_x0, .int o20_x1, .int o20_x2, .int o20_x3, .int o20_x4, .int o20_x5, .int o20_x6, .ref (ρ (ρ h0 0) 7), .ref (ρ (ρ h0 0) 8), .ref (ρ (ρ h0 0) 9), .ref (ρ (ρ h0 0) 10), .ref (ρ (ρ h0 0) 11), .ref (ρ (ρ h0 0) 12), .ref (ρ (ρ h0 0) 13), .ref (ρ (ρ h0 0) 14), .ref (ρ (ρ h0 0) 15), .ref (ρ (ρ h0 0) 16), .ref (ρ (ρ h0 0) 17), .ref (ρ (ρ h0 0) 18)]) := (hF30 _ (by rw [tp_iu y1]; decide)).trans hf_o20
    have tv33 : tp_fld (f29 (ρ h0 0)) 0 = o20_x0.toInt := by rw [hf_32]; rfl
    have ro20_1 := tp_hu ro20_1
    have tv34 : tp_fld (f29 (ρ h0 0)) 4 = o20_x4.toInt := by rw [hf_32]; rfl
    have tv35 : tp_fld (f (ρ h0 0)) 4 = o20_x4.toInt := by rw [hf_o20]; rfl
    have ro20_2 := tp_hu ro20_2
    have tv36 : tp_fld (f29 (ρ h0 0)) 5 = o20_x5.toInt := by rw [hf_32]; rfl
    have tv37 : tp_fld (f (ρ h0 0)) 5 = o20_x5.toInt := by rw [hf_o20]; rfl
    exact W.iret (v := r27) hx hb hr (fun t ht hW => ⟨⟨r27, f29, rfl, ⟨hT, hR, trivial, ⟨hX, (by rw [tv31, tv33, tv34, tv35, tv36, tv37]; exact ⟨⟨fun q0 => by omega, fun q0 => (by omega)⟩, ⟨fun q0 => by omega, fun q0 => (by omega)⟩, (by omega), (by omega)⟩)⟩⟩, by rw [ht]; exact hP, va_K.moved hW.alike hK, hD⟩, hS.F ht⟩) hS.2.2 dX11_go_31
  · have ic23 : r21.toInt ≠ 0 := zi_eqf rfl rfl c23
    have p38 : (1) ≤ (v.toInt) ∧ (v.toInt) ≤ (480) := (tp_cond.yes hw22p) (by omega)
    clear hw22r ic23
    refine lv_aload_n hx hb dX11_go_11 rfl (lv_at hl 0 rfl) ?_
    refine tpk_12 hT ht_h0 (fun o39_x6 hf_o39 => ?_)
    refine tpk_pos (tp_in hG ht_h0 (by decide)) hf_o39 (fun q40 eq40 => ?_)
    refine va_get (D := (dC, dI)) (ci := 11) (v := .ref (ρ h0 0)) (C := RX11) (T := TX11) (N := 7) hx hb hts hfX11 hown hK hP q40 eq40 rfl 0 (by decide) (hts (.fieldLink RX11 10 "ColdShips" "world" "LColdShips$World;") wa_15) (fun _ h9 => h9) rfl dX11_go_12 ?_
    refine tpk_pos (tp_in hG y1 (by decide)) hf_o20 (fun q41 eq41 => ?_)
    have ro20_0 := tp_hu ro20_0
    refine va_getN (D := (dC, dI)) (ci := 10) (v := .int o20_x0) (C := RX10) (T := TX10) (N := 19) hx hb hts hfX10 hown hK hP q41 eq41 rfl 0 (by decide) (va_Nw.use rfl (hN.1 (.fieldLinkNest RX11 154 "ColdShips$World" "now" "I" "ColdShips") nzw_49)) (fun _ h9 => h9) rfl dX11_go_15 ?_
    refine lv_iload_n hx hb dX11_go_18 rfl (lv_at hl 1 rfl) ?_
    refine lv_iadd hx hb dX11_go_19 ?_
    refine lv_topi (fun z42 ez42 => ?_)
    have iz42 : z42.toInt = o20_x0.toInt + v.toInt := zi_add ez42 rfl rfl (by omega) (by omega)
    refine lv_sipush (v := 2399) hx hb dX11_go_20 (by decide) ?_
    refine lv_icmp_le (tgt := 32) hx hb dX11_go_23 (by decide) (fun c43 => ?_) (fun c43 => ?_)
    · have ic43 : z42.toInt ≤ 2399 := zi_le rfl rfl c43
      refine lv_iconst (v := 0) hx hb dX11_go_32 (by decide) ?_
      refine lv_istore_n (lv' := [(2, .int 0), (0, .ref h0), (1, .int v)]) hx hb dX11_go_33 rfl hl (by decide) rfl (fun ls hl => ?_)
      have ro20_1 := tp_hu ro20_1; have ro20_2 := tp_hu ro20_2
      refine pz_loop (fun n0 H locs ls => ∃ f49 : Nat → va_E, ∃ w44 : Int32, n0 = (480 - (w44.toInt)).toNat ∧ tp_T Ω κ τ ν ρ f49 ∧ tp_F τ [5, 6, 8, 9, 10, 11, 12, 20, 21] f f49 ∧ tp_X τ ρ (fun n => (n = 0 ∨ n = 17)) f f49 ∧ (0 ≤ w44.toInt ∧ w44.toInt ≤ 480) ∧ ((w44.toInt) ≤ v.toInt) ∧ (tp_fld (f49 (ρ h0 0)) 0 = o20_x0.toInt + (w44.toInt)) ∧ (tp_fld (f49 (ρ h0 0)) 4 = o20_x4.toInt) ∧ (tp_fld (f49 (ρ h0 0)) 5 = o20_x5.toInt) ∧ va_P (dC, dI) vwCl (va_pl L f49) H ∧ va_D A (va_pl L f49) ∧ va_S A s.heap H locs ∧ lv_has ls 3 [(2, .int w44), (0, .ref h0), (1, .int v)]) ?_ _ _ _ _ ⟨f, 0, rfl, hT, hR, hX, (by have : (0 : Int32).toInt = 0 := rfl; omega), (by have : (0 : Int32).toInt = 0 := rfl; omega), (by rw [hf_o20]; show o20_x0.toInt = _; have : (0 : Int32).toInt = 0 := rfl; omega), (by rw [hf_o20]; show o20_x4.toInt = _; have : (0 : Int32).toInt = 0 := rfl; omega), (by rw [hf_o20]; show o20_x5.toInt = _; have : (0 : Int32).toInt = 0 := rfl; omega), hP, hD, hS, lv_sub hl [0, 1, 2] rfl⟩
      intro n0 H locs ls hI ih50
      refine Exists.elim hI (fun f49 hE90 => Exists.elim hE90 (fun w44 hE91 => tn_13 hE91 (fun hn51 hT hR hX rw44 k45 k46 k47 k48 hP hD hS hl => ?_)))
      clear hE91 hE90 hI
      refine lv_iload_n hx hb dX11_go_34 rfl (lv_at hl 0 rfl) ?_
      refine lv_iload_n hx hb dX11_go_35 rfl (lv_at hl 2 rfl) ?_
      refine tpk_11 hT y1 (fun o52_x0 o52_x1 o52_x2 o52_x3 o52_x4 o52_x5 o52_x6 hf_o52 ro52_0 ro52_1 ro52_2 ro52_3 => ?_)
      have ro52_0 := tp_hu ro52_0
      have k46v : o52_x0.toInt = o20_x0.toInt + (w44.toInt) := by have q9 := k46; rw [hf_o52] at q9; exact q9
      have ro52_1 := tp_hu ro52_1
      have k47v : o52_x4.toInt = o20_x4.toInt := by have q9 := k47; rw [hf_o52] at q9; exact q9
      have ro52_2 := tp_hu ro52_2
      have k48v : o52_x5.toInt = o20_x5.toInt := by have q9 := k48; rw [hf_o52] at q9; exact q9
      refine lv_icmp_ge (tgt := 52) hx hb dX11_go_36 (by decide) (fun c53 => ?_) (fun c53 => ?_)
      · have ic53 : w44.toInt ≥ v.toInt := zi_ge rfl rfl c53
        refine lv_aload_n hx hb dX11_go_52 rfl (lv_at hl 1 rfl) ?_
        refine lv_aload_n hx hb dX11_go_53 rfl (lv_at hl 1 rfl) ?_
        refine tpk_12 hT ht_h0 (fun o54_x6 hf_o54 => ?_)
        refine tpk_pos (tp_in hG ht_h0 (by decide)) hf_o54 (fun q55 eq55 => ?_)
        refine va_get (D := (dC, dI)) (ci := 11) (v := .ref (ρ h0 0)) (C := RX11) (T := TX11) (N := 7) hx hb hts hfX11 hown hK hP q55 eq55 rfl 0 (by decide) (hts (.fieldLink RX11 10 "ColdShips" "world" "LColdShips$World;") wa_15) (fun _ h9 => h9) rfl dX11_go_54 ?_
        refine tpk_pos (tp_in hG y1 (by decide)) hf_o52 (fun q56 eq56 => ?_)
        refine va_getN (D := (dC, dI)) (ci := 10) (v := .int o52_x0) (C := RX10) (T := TX10) (N := 19) hx hb hts hfX10 hown hK hP q56 eq56 rfl 0 (by decide) (va_Nw.use rfl (hN.1 (.fieldLinkNest RX11 154 "ColdShips$World" "now" "I" "ColdShips") nzw_49)) (fun _ h9 => h9) rfl dX11_go_57 ?_
        have hFc := tp_fr hD hS hA
        refine va_calli (va_runV (As := [.int o52_x0]) (rest := []) ⟨hx, hb, hml, hown, hts⟩ (t_X11_accept l dC dI _ Ω κ τ ν ρ L f49 hG hT h0 o52_x0 ht_h0) (cwV 1 hts gX11_go_X11_accept rfl rfl rfl ⟨rfl, pd_X11_accept⟩ ⟨Nat.le_of_ble_eq_true rfl, Nat.le_of_ble_eq_true rfl⟩) ⟨pz_blind, va_recv hK hP (ci := 11) (q0 := q55) rfl eq55, pz_pre hP hK hD hN⟩ rfl rfl hl.1 rfl (lv_room (Nat.le_of_ble_eq_true rfl)) dX11_go_60 ⟨Nat.le_of_ble_eq_true rfl, Nat.le_of_ble_eq_true rfl⟩) hS (fun q _ h => hFc q h) hFc (fun r57 f59 t H1 locs ht hvm hw58 hB hz1 hk1 hS => ?_)
        refine tn_4 hw58 (fun hT hF60 hw58r hw58p => ?_); clear hw58
        have hR := hR.then hF60 (by decide)
        have hX := hX.fr hF60 (by decide)
        have hP := hB.1; rw [ht] at hP; have hD := tp_ad f59 hD; clear hB hFc hz1 hk1; subst ht; generalize t.heap = H at hP hS ⊢
        have hw58pq : r57.toInt = o52_x0.toInt := by rw [hw58p]
        have tv61 : tp_fld (f (ρ h0 0)) 0 = o20_x0.toInt := by rw [hf_o20]; rfl
        have hf_62 : f59 (ρ h0 0) = .inr (10, [.int o52_x0, .int o52_x1, .int o52_x2, .int o52_x3, .int o52_x4, .int o52_x5, .int o52_x6, .ref (ρ (ρ h0 0) 7), .ref (ρ (ρ h0 0) 8), .ref (ρ (ρ h0 0) 9), .ref (ρ (ρ h0 0) 10), .ref (ρ (ρ h0 0) 11), .ref (ρ (ρ h0 0) 12), .ref (ρ (ρ h0 0) 13), .ref (ρ (ρ h0 0) 14), .ref (ρ (ρ h0 0) 15), .ref (ρ (ρ h0 0) 16), .ref (ρ (ρ h0 0) 17), .ref (ρ (ρ h0 0) 18)]) := (hF60 _ (by rw [tp_iu y1]; decide)).trans hf_o52
        have tv63 : tp_fld (f59 (ρ h0 0)) 0 = o52_x0.toInt := by rw [hf_62]; rfl
        have tv64 : tp_fld (f59 (ρ h0 0)) 4 = o52_x4.toInt := by rw [hf_62]; rfl
        have tv65 : tp_fld (f (ρ h0 0)) 4 = o20_x4.toInt := by rw [hf_o20]; rfl
        have tv66 : tp_fld (f59 (ρ h0 0)) 5 = o52_x5.toInt := by rw [hf_62]; rfl
        have tv67 : tp_fld (f (ρ h0 0)) 5 = o20_x5.toInt := by rw [hf_o20]; rfl
        exact W.iret (v := r57) hx hb hr (fun t ht hW => ⟨⟨r57, f59, rfl, ⟨hT, hR, trivial, ⟨hX, (by rw [tv61, tv63, tv64, tv65, tv66, tv67]; exact ⟨⟨fun q0 => by omega, fun q0 => (by omega)⟩, ⟨fun q0 => by omega, fun q0 => (by omega)⟩, (by omega), (by omega)⟩)⟩⟩, by rw [ht]; exact hP, va_K.moved hW.alike hK, hD⟩, hS.F ht⟩) hS.2.2 dX11_go_63
      · have ic53 : w44.toInt < v.toInt := zi_gef rfl rfl c53
        refine lv_aload_n hx hb dX11_go_39 rfl (lv_at hl 1 rfl) ?_
        refine tpk_12 hT ht_h0 (fun o68_x6 hf_o68 => ?_)
        refine tpk_pos (tp_in hG ht_h0 (by decide)) hf_o68 (fun q69 eq69 => ?_)
        refine va_get (D := (dC, dI)) (ci := 11) (v := .ref (ρ h0 2)) (C := RX11) (T := TX11) (N := 7) hx hb hts hfX11 hown hK hP q69 eq69 rfl 2 (by decide) (hts (.fieldLink RX11 25 "ColdShips" "watch" "LColdShips$Watch;") wa_20) (fun _ h9 => h9) rfl dX11_go_40 ?_
        have ⟨y70, y70l⟩ := tpg_10 hG y3
        refine tpk_10 hT y3 (fun o71_x1 o71_x2 o71_x3 hf_o71 ro71_0 ro71_1 => ?_)
        refine tpk_pos (tp_in hG y3 (by decide)) hf_o71 (fun q72 eq72 => ?_)
        have hFc := tp_fr hD hS hA
        have ro52_3 := tp_hu ro52_3
        refine va_callv (va_runV (As := []) (rest := []) ⟨hx, hb, hml, hown, hts⟩ (t_X9_passHour l dC dI _ Ω κ τ ν ρ L f49 hG hT (ρ h0 2) y3 o52_x0 o52_x1 o52_x2 o52_x3 o52_x4 o52_x5 o52_x6 (by rw [y7a]; exact hf_o52)) (cwV 0 hts gX11_go_X9_passHour rfl rfl rfl ⟨rfl, pd_X9_passHour⟩ ⟨Nat.le_of_ble_eq_true rfl, Nat.le_of_ble_eq_true rfl⟩) ⟨pz_blind, va_recv hK hP (ci := 9) (q0 := q72) rfl eq72, pz_pre hP hK hD hN⟩ rfl rfl hl.1 rfl (lv_room (Nat.le_of_ble_eq_true rfl)) dX11_go_43 ⟨Nat.le_of_ble_eq_true rfl, Nat.le_of_ble_eq_true rfl⟩) hS (fun q _ h => hFc q h) hFc (fun f75 t H1 locs ht hvm hw74 hB hz1 hk1 hS => ?_)
        refine tn_3 hw74 (fun hT hF76 hw74p => ?_); clear hw74
        have hR := hR.then hF76 (by decide)
        obtain ⟨hw74x, hw74p⟩ := hw74p
        have hX := hX.th hw74x (fun n q9 => by have q8 : (n = 0 ∨ n = 17) := q9; show (n = 0 ∨ n = 17); omega)
        have hP := hB.1; rw [ht] at hP; have hD := tp_ad f75 hD; clear hB hFc hz1 hk1; subst ht; generalize t.heap = H at hP hS ⊢
        refine tpk_11 hT y1 (fun o77_x0 o77_x1 o77_x2 o77_x3 o77_x4 o77_x5 o77_x6 hf_o77 ro77_0 ro77_1 ro77_2 ro77_3 => ?_)
        have ro77_0 := tp_hu ro77_0
        have tv78 : tp_fld (f75 (ρ (ρ h0 2) 0)) 0 = o77_x0.toInt := by rw [y7a, hf_o77]; rfl
        have tv79 : tp_fld (f75 (ρ (ρ h0 2) 0)) 1 = o77_x1.toInt := by rw [y7a, hf_o77]; rfl
        have tv80 : tp_fld (f75 (ρ (ρ h0 2) 0)) 2 = o77_x2.toInt := by rw [y7a, hf_o77]; rfl
        have tv81 : tp_fld (f75 (ρ (ρ h0 2) 0)) 3 = o77_x3.toInt := by rw [y7a, hf_o77]; rfl
        have ro77_1 := tp_hu ro77_1
        have tv82 : tp_fld (f75 (ρ (ρ h0 2) 0)) 4 = o77_x4.toInt := by rw [y7a, hf_o77]; rfl
        have ro77_2 := tp_hu ro77_2
        have tv83 : tp_fld (f75 (ρ (ρ h0 2) 0)) 5 = o77_x5.toInt := by rw [y7a, hf_o77]; rfl
        have ro77_3 := tp_hu ro77_3
        have tv84 : tp_fld (f75 (ρ (ρ h0 2) 0)) 6 = o77_x6.toInt := by rw [y7a, hf_o77]; rfl
        have pl85 : ((((2399 < o52_x0.toInt) → o77_x0.toInt = o52_x0.toInt) ∧ (¬ (2399 < o52_x0.toInt) → o77_x0.toInt = o52_x0.toInt + 1))) ∧ (o77_x1.toInt = o52_x1.toInt) ∧ (o77_x2.toInt = o52_x2.toInt) ∧ (o77_x3.toInt = o52_x3.toInt) ∧ (o77_x4.toInt = o52_x4.toInt) ∧ (o77_x5.toInt = o52_x5.toInt) ∧ (o77_x6.toInt = o52_x6.toInt) := by have q9 := hw74p; rw [tv78, tv79, tv80, tv81, tv82, tv83, tv84] at q9; exact q9
        obtain ⟨z86, ez86⟩ : ∃ y : Int32, y = w44 + 1 := ⟨_, rfl⟩
        refine lv_iinc (v := z86) (lv' := [(2, .int z86), (0, .ref h0), (1, .int v)]) hx hb dX11_go_46 hl (k := 0) rfl (by rw [ez86]; rfl) (by decide) rfl (fun ls hl => ?_)
        have iz86 : z86.toInt = w44.toInt + 1 := zi_add ez86 rfl rfl (by omega) (by omega)
        refine lv_goto (tgt := 34) hx hb dX11_go_49 (by decide) ?_
        exact ih50 _ _ _ _ (by rw [hn51]; omega) ⟨f75, z86, rfl, hT, hR, hX, (by omega), (by omega), (by rw [hf_o77]; show o77_x0.toInt = _; omega), (by rw [hf_o77]; show o77_x4.toInt = _; omega), (by rw [hf_o77]; show o77_x5.toInt = _; omega), hP, hD, hS, lv_sub hl [0, 1, 2] rfl⟩
    · have ic43 : z42.toInt > 2399 := zi_lef rfl rfl c43
      refine lv_aload_n hx hb dX11_go_26 rfl (lv_at hl 0 rfl) ?_
      refine lv_iconst (v := (-1)) hx hb dX11_go_27 (by decide) ?_
      have hFc := tp_fr hD hS hA
      refine va_calli (va_runV (As := [.int (-1)]) (rest := []) ⟨hx, hb, hml, hown, hts⟩ (t_X11_refuse l dC dI _ Ω κ τ ν ρ L f hG hT h0 ((-1)) ht_h0) (cwV 1 hts gX11_go_X11_refuse rfl rfl rfl ⟨rfl, pd_X11_refuse⟩ ⟨Nat.le_of_ble_eq_true rfl, Nat.le_of_ble_eq_true rfl⟩) ⟨pz_blind, va_recv hK hP (ci := 11) (q0 := q40) rfl eq40, pz_pre hP hK hD hN⟩ rfl rfl hl.1 rfl (lv_room (Nat.le_of_ble_eq_true rfl)) dX11_go_28 ⟨Nat.le_of_ble_eq_true rfl, Nat.le_of_ble_eq_true rfl⟩) hS (fun q _ h => hFc q h) hFc (fun r87 f89 t H1 locs ht hvm hw88 hB hz1 hk1 hS => ?_)
      refine tn_4 hw88 (fun hT hF90 hw88r hw88p => ?_); clear hw88
      have hR := hR.then hF90 (by decide)
      have hX := hX.fr hF90 (by decide)
      have hP := hB.1; rw [ht] at hP; have hD := tp_ad f89 hD; clear hB hFc hz1 hk1; subst ht; generalize t.heap = H at hP hS ⊢
      have hw88pq : r87.toInt = (-1) := by rw [hw88p]; rfl
      have tv91 : tp_fld (f (ρ h0 0)) 0 = o20_x0.toInt := by rw [hf_o20]; rfl
      have hf_92 : f89 (ρ h0 0) = .inr (10, [.int o20_x0, .int o20_x1, .int o20_x2, .int o20_x3, .int o20_x4, .int o20_x5, .int o20_x6, .ref (ρ (ρ h0 0) 7), .ref (ρ (ρ h0 0) 8), .ref (ρ (ρ h0 0) 9), .ref (ρ (ρ h0 0) 10), .ref (ρ (ρ h0 0) 11), .ref (ρ (ρ h0 0) 12), .ref (ρ (ρ h0 0) 13), .ref (ρ (ρ h0 0) 14), .ref (ρ (ρ h0 0) 15), .ref (ρ (ρ h0 0) 16), .ref (ρ (ρ h0 0) 17), .ref (ρ (ρ h0 0) 18)]) := (hF90 _ (by rw [tp_iu y1]; decide)).trans hf_o20
      have tv93 : tp_fld (f89 (ρ h0 0)) 0 = o20_x0.toInt := by rw [hf_92]; rfl
      have ro20_1 := tp_hu ro20_1
      have tv94 : tp_fld (f89 (ρ h0 0)) 4 = o20_x4.toInt := by rw [hf_92]; rfl
      have tv95 : tp_fld (f (ρ h0 0)) 4 = o20_x4.toInt := by rw [hf_o20]; rfl
      have ro20_2 := tp_hu ro20_2
      have tv96 : tp_fld (f89 (ρ h0 0)) 5 = o20_x5.toInt := by rw [hf_92]; rfl
      have tv97 : tp_fld (f (ρ h0 0)) 5 = o20_x5.toInt := by rw [hf_o20]; rfl
      exact W.iret (v := r87) hx hb hr (fun t ht hW => ⟨⟨r87, f89, rfl, ⟨hT, hR, trivial, ⟨hX, (by rw [tv91, tv93, tv94, tv95, tv96, tv97]; exact ⟨⟨fun q0 => by omega, fun q0 => (by omega)⟩, ⟨fun q0 => by omega, fun q0 => (by omega)⟩, (by omega), (by omega)⟩)⟩⟩, by rw [ht]; exact hP, va_K.moved hW.alike hK, hD⟩, hS.F ht⟩) hS.2.2 dX11_go_31
set_option maxHeartbeats 4000000 in
set_option maxRecDepth 100000 in
theorem t_X11_of (l : Launch) (dC : Nat → ClassId) (dI : Nat → Nat → Nat) (sz : Nat) (Ω : Nat → Nat → (Nat → Nat) → va_E → Prop) (κ : Nat → ClassId) (τ ν : Nat → Nat) (ρ : Nat → Nat → Nat) (L : List Nat) (f : Nat → va_E) (hG : tp_G τ ν ρ L) (hT : tp_T Ω κ τ ν ρ f) (h0 : Nat) (v : Int32) (u : Int32) (ht_h0 : τ h0 = 12) : Met l yX11_of wqX11_of ({ frames := 4, cells := 0, slots := 0, locals := 1200 }) (va_Pc [.ref h0, .int v, .int u] (pz_B dC dI (tp_K κ) (va_pl L f) sz)) (va_Qi (fun (r : Int32) (f1 : Nat → va_E) => tp_T Ω κ τ ν ρ f1 ∧ tp_F τ [] f f1 ∧ True ∧ True) (fun (f1 : Nat → va_E) (t : State) => pz_E dC dI (tp_K κ) (va_A (va_pl L f) sz) (va_pl L f1) t) (va_A (va_pl L f) sz)) 0 0 (va_A (va_pl L f) sz) := by
  refine Met.ofW (cc := cX11_of) (maxL := 4) (ret := some .int) (by decide) rfl ?_
  intro p e s m args below meth c s₁ B hml hv
  obtain ⟨rfl, hsz, hP, hK, hD0, hN⟩ := hv
  have hx := B.exec
  have hb := B.bytes
  have hr := B.returns
  have hts := fun (w : Cond) (h : w ∈ WALL) => atoms_spec (ws := wqX11_of) B.pre w (List.mem_cons_of_mem _ h)
  have hown : s.vm.findClass RX11 = some m.cls := findClass_of_methodNamed B.named
  have hlocks := B.notSynchronized
  subst hsz
  have hD := hD0.self (sz := s.heap.size)
  generalize hAe : va_A (va_pl L f) s.heap.size = A at hD ⊢
  have hA : ∀ q : Nat, s.heap.size ≤ q → A q := fun q h => by rw [← hAe]; exact Or.inr h
  have hS : va_S A s.heap s.heap [] := va_S.rf
  have hR : tp_F τ [] f f := tp_F.rf
  have hl := lv_entry ([.ref h0, .int v, .int u]) (n := 4) (Nat.le_of_ble_eq_true rfl)
  rw [lg_entry_eq]
  generalize (lg_sl ([.ref h0, .int v, .int u]) ++ List.replicate (4 - (lg_sl ([.ref h0, .int v, .int u])).length) Slot.unset).toArray = ls at hl ⊢
  have hl : lv_has ls 4 [(0, .ref h0), (1, .int v), (2, .int u)] := hl
  refine lv_aload_n hx hb dX11_of_0 rfl (lv_at hl 0 rfl) ?_
  refine tgk_12 hG ht_h0 (fun y1 y1l y2 y3 y4 y5 y6 y7a y7b y7c => ?_)
  refine tpk_12 hT ht_h0 (fun o8_x6 hf_o8 => ?_)
  refine tpk_pos (tp_in hG ht_h0 (by decide)) hf_o8 (fun q9 eq9 => ?_)
  refine va_get (D := (dC, dI)) (ci := 11) (v := .ref (ρ h0 0)) (C := RX11) (T := TX11) (N := 7) hx hb hts hfX11 hown hK hP q9 eq9 rfl 0 (by decide) (hts (.fieldLink RX11 10 "ColdShips" "world" "LColdShips$World;") wa_15) (fun _ h9 => h9) rfl dX11_of_1 ?_
  refine lv_iload_n hx hb dX11_of_4 rfl (lv_at hl 1 rfl) ?_
  refine tgk_11 hG y1 (fun y10 y10n y11 y11n y12 y13 y14 y15 y15m y15l y16 y16m y16l y17 y17m y17l y18 y18w y18m y18l y19 y19w y19m y19l y20 y20w y20m y20l y21 y21w y21m y21l => ?_)
  refine tpk_11 hT y1 (fun o22_x0 o22_x1 o22_x2 o22_x3 o22_x4 o22_x5 o22_x6 hf_o22 ro22_0 ro22_1 ro22_2 ro22_3 => ?_)
  refine tpk_pos (tp_in hG y1 (by decide)) hf_o22 (fun q23 eq23 => ?_)
  have ro22_0 := tp_hu ro22_0; have ro22_1 := tp_hu ro22_1; have ro22_2 := tp_hu ro22_2; have ro22_3 := tp_hu ro22_3
  refine pz_calli (va_runV (As := [.int v]) (rest := []) ⟨hx, hb, hml, hown, hts⟩ (t_X10_hasShip l dC dI _ Ω κ τ ν ρ L f hG hT (ρ h0 0) v y1 o22_x0 o22_x1 o22_x2 o22_x3 o22_x4 o22_x5 o22_x6 hf_o22) (cwV 1 hts gX11_of_X10_hasShip rfl rfl rfl ⟨rfl, pd_X10_hasShip⟩ ⟨Nat.le_of_ble_eq_true rfl, Nat.le_of_ble_eq_true rfl⟩) ⟨pz_blind, va_recv hK hP (ci := 10) (q0 := q23) rfl eq23, pz_pre hP hK hD hN⟩ rfl rfl hl.1 rfl (lv_room (Nat.le_of_ble_eq_true rfl)) dX11_of_5 ⟨Nat.le_of_ble_eq_true rfl, Nat.le_of_ble_eq_true rfl⟩) (fun r24 hw25 => ?_)
  obtain ⟨hw25r, hw25p⟩ := hw25
  refine lv_if_ne (tgt := 13) hx hb dX11_of_8 (by decide) (fun c26 => ?_) (fun c26 => ?_)
  · have ic26 : r24.toInt ≠ 0 := zi_ne rfl rfl c26
    have p27 : 0 ≤ v.toInt ∧ v.toInt < o22_x5.toInt := (tp_cond.yes hw25p) (by omega)
    clear hw25r ic26
    refine lv_aload_n hx hb dX11_of_13 rfl (lv_at hl 0 rfl) ?_
    refine va_get (D := (dC, dI)) (ci := 11) (v := .ref (ρ h0 0)) (C := RX11) (T := TX11) (N := 7) hx hb hts hfX11 hown hK hP q9 eq9 rfl 0 (by decide) (hts (.fieldLink RX11 10 "ColdShips" "world" "LColdShips$World;") wa_15) (fun _ h9 => h9) rfl dX11_of_14 ?_
    refine va_getN (D := (dC, dI)) (ci := 10) (v := .ref (ρ (ρ h0 0) 10)) (C := RX10) (T := TX10) (N := 19) hx hb hts hfX10 hown hK hP q23 eq23 rfl 10 (by decide) (va_Nw.use rfl (hN.1 (.fieldLinkNest RX11 84 "ColdShips$World" "ships" "[LColdShips$Ship;" "ColdShips") nzw_69)) (fun _ h9 => h9) rfl dX11_of_17 ?_
    refine lv_iload_n hx hb dX11_of_20 rfl (lv_at hl 1 rfl) ?_
    refine tpk_25 hT y13 (fun g29 hf_o28 hf_o28e => ?_)
    refine tpk_pos (tp_in hG y13 (by decide)) hf_o28 (fun q30 eq30 => ?_)
    refine va_aldq hx hb hK hP q30 5 eq30 rfl (vp_in_iff.mpr ⟨by omega, by omega⟩) dX11_of_21 ?_
    obtain ⟨b31, hb32⟩ : ∃ b : Nat, b = ρ (ρ (ρ h0 0) 10) v.toNatClampNeg := ⟨_, rfl⟩
    have hb32t : τ b31 = 6 := by rw [hb32]; exact tpg_25 hG y13 _ (zi_cl (vp_in_iff.mpr ⟨by omega, by omega⟩))
    have hb32g : g29 v.toNatClampNeg = some b31 := by rw [hb32]; exact hf_o28e _ (zi_cl (vp_in_iff.mpr ⟨by omega, by omega⟩))
    refine W.eq (g2 := F0 m 22 ls (.ref b31 :: [])) (congrArg (fun o => F0 m 22 ls (va_rf o :: [])) hb32g) ?_
    refine lv_astore_n (lv' := [(3, .ref b31), (0, .ref h0), (1, .int v), (2, .int u)]) hx hb dX11_of_22 rfl hl (by decide) rfl (fun ls hl => ?_)
    refine lv_iload_n hx hb dX11_of_23 rfl (lv_at hl 3 rfl) ?_
    rcases zi_sw u 0 9 with h33 | h33
    · refine lv_tableOut (tgt := 153) hx hb dX11_of_24 h33 (by decide) ?_
      refine lv_iconst (v := (-1)) hx hb dX11_of_153 (by decide) ?_
      exact W.iret (v := (-1)) hx hb hr (fun t ht hW => ⟨⟨(-1), f, rfl, ⟨hT, hR, trivial, trivial⟩, by rw [ht]; exact hP, va_K.moved hW.alike hK, hD⟩, hS.F ht⟩) hS.2.2 dX11_of_154
    · rcases (show u.toInt = 0 ∨ u.toInt = 1 ∨ u.toInt = 2 ∨ u.toInt = 3 ∨ u.toInt = 4 ∨ u.toInt = 5 ∨ u.toInt = 6 ∨ u.toInt = 7 ∨ u.toInt = 8 ∨ u.toInt = 9 by omega) with h33k | h33k | h33k | h33k | h33k | h33k | h33k | h33k | h33k | h33k
      · refine lv_tableIn (tgt := 80) hx hb dX11_of_24 (by omega) (by omega) (by rw [h33k]; rfl) (by decide) ?_
        refine lv_aload_n hx hb dX11_of_80 rfl (lv_at hl 0 rfl) ?_
        refine tgk_6 hG hb32t (fun y34 y35 y35n y36 y36n y37 y37n y38 y38n y39 y39n y40 y40n => ?_)
        refine tpk_6 hT hb32t (fun o41_x1 o41_x2 o41_x3 o41_x4 o41_x5 o41_x6 o41_x10 o41_x11 o41_x12 o41_x14 hf_o41 ro41_0 ro41_1 ro41_2 => ?_)
        refine tpk_pos (tp_in hG hb32t (by decide)) hf_o41 (fun q42 eq42 => ?_)
        have ro41_0 := tp_hu ro41_0
        refine va_getN (D := (dC, dI)) (ci := 5) (v := .int o41_x2) (C := RX5) (T := TX5) (N := 17) hx hb hts hfX5 hown hK hP q42 eq42 rfl 2 (by decide) (va_Nw.use rfl (hN.1 (.fieldLinkNest RX11 160 "ColdShips$Ship" "where" "I" "ColdShips") nzw_28)) (fun _ h9 => h9) rfl dX11_of_81 ?_
        exact W.iret (v := o41_x2) hx hb hr (fun t ht hW => ⟨⟨o41_x2, f, rfl, ⟨hT, hR, trivial, trivial⟩, by rw [ht]; exact hP, va_K.moved hW.alike hK, hD⟩, hS.F ht⟩) hS.2.2 dX11_of_84
      · refine lv_tableIn (tgt := 85) hx hb dX11_of_24 (by omega) (by omega) (by rw [h33k]; rfl) (by decide) ?_
        refine lv_aload_n hx hb dX11_of_85 rfl (lv_at hl 0 rfl) ?_
        refine tgk_6 hG hb32t (fun y43 y44 y44n y45 y45n y46 y46n y47 y47n y48 y48n y49 y49n => ?_)
        refine tpk_6 hT hb32t (fun o50_x1 o50_x2 o50_x3 o50_x4 o50_x5 o50_x6 o50_x10 o50_x11 o50_x12 o50_x14 hf_o50 ro50_0 ro50_1 ro50_2 => ?_)
        refine tpk_pos (tp_in hG hb32t (by decide)) hf_o50 (fun q51 eq51 => ?_)
        refine va_getN (D := (dC, dI)) (ci := 5) (v := .int o50_x3) (C := RX5) (T := TX5) (N := 17) hx hb hts hfX5 hown hK hP q51 eq51 rfl 3 (by decide) (va_Nw.use rfl (hN.1 (.fieldLinkNest RX11 163 "ColdShips$Ship" "left" "I" "ColdShips") nzw_30)) (fun _ h9 => h9) rfl dX11_of_86 ?_
        exact W.iret (v := o50_x3) hx hb hr (fun t ht hW => ⟨⟨o50_x3, f, rfl, ⟨hT, hR, trivial, trivial⟩, by rw [ht]; exact hP, va_K.moved hW.alike hK, hD⟩, hS.F ht⟩) hS.2.2 dX11_of_89
      · refine lv_tableIn (tgt := 90) hx hb dX11_of_24 (by omega) (by omega) (by rw [h33k]; rfl) (by decide) ?_
        refine lv_aload_n hx hb dX11_of_90 rfl (lv_at hl 0 rfl) ?_
        refine tgk_6 hG hb32t (fun y52 y53 y53n y54 y54n y55 y55n y56 y56n y57 y57n y58 y58n => ?_)
        refine tpk_6 hT hb32t (fun o59_x1 o59_x2 o59_x3 o59_x4 o59_x5 o59_x6 o59_x10 o59_x11 o59_x12 o59_x14 hf_o59 ro59_0 ro59_1 ro59_2 => ?_)
        refine tpk_pos (tp_in hG hb32t (by decide)) hf_o59 (fun q60 eq60 => ?_)
        refine va_getN (D := (dC, dI)) (ci := 5) (v := .ref (ρ b31 0)) (C := RX5) (T := TX5) (N := 17) hx hb hts hfX5 hown hK hP q60 eq60 rfl 0 (by decide) (va_Nw.use rfl (hN.1 (.fieldLinkNest RX11 166 "ColdShips$Ship" "tank" "LColdShips$Tank;" "ColdShips") nzw_22)) (fun _ h9 => h9) rfl dX11_of_91 ?_
        refine tgk_8 hG y52 (fun y61 y61n y62 y62n y63 y63n => ?_)
        refine tpk_8 hT y52 (fun o64_x0 o64_x1 o64_x2 o64_x3 hf_o64 ro64_0 => ?_)
        refine tpk_pos (tp_in hG y52 (by decide)) hf_o64 (fun q65 eq65 => ?_)
        refine va_getN (D := (dC, dI)) (ci := 7) (v := .int o64_x1) (C := RX7) (T := TX7) (N := 7) hx hb hts hfX7 hown hK hP q65 eq65 rfl 1 (by decide) (va_Nw.use rfl (hN.1 (.fieldLinkNest RX11 170 "ColdShips$Tank" "gas" "I" "ColdShips") nzw_15)) (fun _ h9 => h9) rfl dX11_of_94 ?_
        exact W.iret (v := o64_x1) hx hb hr (fun t ht hW => ⟨⟨o64_x1, f, rfl, ⟨hT, hR, trivial, trivial⟩, by rw [ht]; exact hP, va_K.moved hW.alike hK, hD⟩, hS.F ht⟩) hS.2.2 dX11_of_97
      · refine lv_tableIn (tgt := 98) hx hb dX11_of_24 (by omega) (by omega) (by rw [h33k]; rfl) (by decide) ?_
        refine lv_aload_n hx hb dX11_of_98 rfl (lv_at hl 0 rfl) ?_
        refine tgk_6 hG hb32t (fun y66 y67 y67n y68 y68n y69 y69n y70 y70n y71 y71n y72 y72n => ?_)
        refine tpk_6 hT hb32t (fun o73_x1 o73_x2 o73_x3 o73_x4 o73_x5 o73_x6 o73_x10 o73_x11 o73_x12 o73_x14 hf_o73 ro73_0 ro73_1 ro73_2 => ?_)
        refine tpk_pos (tp_in hG hb32t (by decide)) hf_o73 (fun q74 eq74 => ?_)
        refine va_getN (D := (dC, dI)) (ci := 5) (v := .ref (ρ b31 0)) (C := RX5) (T := TX5) (N := 17) hx hb hts hfX5 hown hK hP q74 eq74 rfl 0 (by decide) (va_Nw.use rfl (hN.1 (.fieldLinkNest RX11 166 "ColdShips$Ship" "tank" "LColdShips$Tank;" "ColdShips") nzw_22)) (fun _ h9 => h9) rfl dX11_of_99 ?_
        refine tgk_8 hG y66 (fun y75 y75n y76 y76n y77 y77n => ?_)
        refine tpk_8 hT y66 (fun o78_x0 o78_x1 o78_x2 o78_x3 hf_o78 ro78_0 => ?_)
        refine tpk_pos (tp_in hG y66 (by decide)) hf_o78 (fun q79 eq79 => ?_)
        refine va_getN (D := (dC, dI)) (ci := 7) (v := .int o78_x2) (C := RX7) (T := TX7) (N := 7) hx hb hts hfX7 hown hK hP q79 eq79 rfl 2 (by decide) (va_Nw.use rfl (hN.1 (.fieldLinkNest RX11 175 "ColdShips$Tank" "vapor" "I" "ColdShips") nzw_16)) (fun _ h9 => h9) rfl dX11_of_102 ?_
        exact W.iret (v := o78_x2) hx hb hr (fun t ht hW => ⟨⟨o78_x2, f, rfl, ⟨hT, hR, trivial, trivial⟩, by rw [ht]; exact hP, va_K.moved hW.alike hK, hD⟩, hS.F ht⟩) hS.2.2 dX11_of_105
      · refine lv_tableIn (tgt := 106) hx hb dX11_of_24 (by omega) (by omega) (by rw [h33k]; rfl) (by decide) ?_
        refine lv_aload_n hx hb dX11_of_106 rfl (lv_at hl 0 rfl) ?_
        refine tgk_6 hG hb32t (fun y80 y81 y81n y82 y82n y83 y83n y84 y84n y85 y85n y86 y86n => ?_)
        refine tpk_6 hT hb32t (fun o87_x1 o87_x2 o87_x3 o87_x4 o87_x5 o87_x6 o87_x10 o87_x11 o87_x12 o87_x14 hf_o87 ro87_0 ro87_1 ro87_2 => ?_)
        refine tpk_pos (tp_in hG hb32t (by decide)) hf_o87 (fun q88 eq88 => ?_)
        refine va_getN (D := (dC, dI)) (ci := 5) (v := .ref (ρ b31 0)) (C := RX5) (T := TX5) (N := 17) hx hb hts hfX5 hown hK hP q88 eq88 rfl 0 (by decide) (va_Nw.use rfl (hN.1 (.fieldLinkNest RX11 166 "ColdShips$Ship" "tank" "LColdShips$Tank;" "ColdShips") nzw_22)) (fun _ h9 => h9) rfl dX11_of_107 ?_
        refine tgk_8 hG y80 (fun y89 y89n y90 y90n y91 y91n => ?_)
        refine tpk_8 hT y80 (fun o92_x0 o92_x1 o92_x2 o92_x3 hf_o92 ro92_0 => ?_)
        refine tpk_pos (tp_in hG y80 (by decide)) hf_o92 (fun q93 eq93 => ?_)
        refine va_getN (D := (dC, dI)) (ci := 7) (v := .int o92_x3) (C := RX7) (T := TX7) (N := 7) hx hb hts hfX7 hown hK hP q93 eq93 rfl 3 (by decide) (va_Nw.use rfl (hN.1 (.fieldLinkNest RX11 178 "ColdShips$Tank" "warm" "I" "ColdShips") nzw_18)) (fun _ h9 => h9) rfl dX11_of_110 ?_
        exact W.iret (v := o92_x3) hx hb hr (fun t ht hW => ⟨⟨o92_x3, f, rfl, ⟨hT, hR, trivial, trivial⟩, by rw [ht]; exact hP, va_K.moved hW.alike hK, hD⟩, hS.F ht⟩) hS.2.2 dX11_of_113
      · refine lv_tableIn (tgt := 114) hx hb dX11_of_24 (by omega) (by omega) (by rw [h33k]; rfl) (by decide) ?_
        refine lv_aload_n hx hb dX11_of_114 rfl (lv_at hl 0 rfl) ?_
        refine tgk_6 hG hb32t (fun y94 y95 y95n y96 y96n y97 y97n y98 y98n y99 y99n y100 y100n => ?_)
        refine tpk_6 hT hb32t (fun o101_x1 o101_x2 o101_x3 o101_x4 o101_x5 o101_x6 o101_x10 o101_x11 o101_x12 o101_x14 hf_o101 ro101_0 ro101_1 ro101_2 => ?_)
        refine tpk_pos (tp_in hG hb32t (by decide)) hf_o101 (fun q102 eq102 => ?_)
        refine va_getN (D := (dC, dI)) (ci := 5) (v := .ref (ρ b31 0)) (C := RX5) (T := TX5) (N := 17) hx hb hts hfX5 hown hK hP q102 eq102 rfl 0 (by decide) (va_Nw.use rfl (hN.1 (.fieldLinkNest RX11 166 "ColdShips$Ship" "tank" "LColdShips$Tank;" "ColdShips") nzw_22)) (fun _ h9 => h9) rfl dX11_of_115 ?_
        refine tgk_8 hG y94 (fun y103 y103n y104 y104n y105 y105n => ?_)
        refine tpk_8 hT y94 (fun o106_x0 o106_x1 o106_x2 o106_x3 hf_o106 ro106_0 => ?_)
        refine tpk_pos (tp_in hG y94 (by decide)) hf_o106 (fun q107 eq107 => ?_)
        refine pz_calli (va_runV (As := []) (rest := []) ⟨hx, hb, hml, hown, hts⟩ (t_X7_press l dC dI _ Ω κ τ ν ρ L f hG hT (ρ b31 0) y94) (cwV 0 hts gX11_of_X7_press rfl rfl rfl ⟨rfl, pd_X7_press⟩ ⟨Nat.le_of_ble_eq_true rfl, Nat.le_of_ble_eq_true rfl⟩) ⟨pz_blind, va_recv hK hP (ci := 7) (q0 := q107) rfl eq107, pz_pre hP hK hD hN⟩ rfl rfl hl.1 rfl (lv_room (Nat.le_of_ble_eq_true rfl)) dX11_of_118 ⟨Nat.le_of_ble_eq_true rfl, Nat.le_of_ble_eq_true rfl⟩) (fun r108 hw109 => ?_)
        obtain ⟨hw109r, hw109p⟩ := hw109
        exact W.iret (v := r108) hx hb hr (fun t ht hW => ⟨⟨r108, f, rfl, ⟨hT, hR, trivial, trivial⟩, by rw [ht]; exact hP, va_K.moved hW.alike hK, hD⟩, hS.F ht⟩) hS.2.2 dX11_of_121
      · refine lv_tableIn (tgt := 122) hx hb dX11_of_24 (by omega) (by omega) (by rw [h33k]; rfl) (by decide) ?_
        refine lv_aload_n hx hb dX11_of_122 rfl (lv_at hl 0 rfl) ?_
        refine tgk_6 hG hb32t (fun y110 y111 y111n y112 y112n y113 y113n y114 y114n y115 y115n y116 y116n => ?_)
        refine tpk_6 hT hb32t (fun o117_x1 o117_x2 o117_x3 o117_x4 o117_x5 o117_x6 o117_x10 o117_x11 o117_x12 o117_x14 hf_o117 ro117_0 ro117_1 ro117_2 => ?_)
        refine tpk_pos (tp_in hG hb32t (by decide)) hf_o117 (fun q118 eq118 => ?_)
        have ro117_2 := tp_hu ro117_2
        refine va_getN (D := (dC, dI)) (ci := 5) (v := .int o117_x6) (C := RX5) (T := TX5) (N := 17) hx hb hts hfX5 hown hK hP q118 eq118 rfl 6 (by decide) (va_Nw.use rfl (hN.1 (.fieldLinkNest RX11 144 "ColdShips$Ship" "orders" "I" "ColdShips") nzw_35)) (fun _ h9 => h9) rfl dX11_of_123 ?_
        exact W.iret (v := o117_x6) hx hb hr (fun t ht hW => ⟨⟨o117_x6, f, rfl, ⟨hT, hR, trivial, trivial⟩, by rw [ht]; exact hP, va_K.moved hW.alike hK, hD⟩, hS.F ht⟩) hS.2.2 dX11_of_126
      · refine lv_tableIn (tgt := 127) hx hb dX11_of_24 (by omega) (by omega) (by rw [h33k]; rfl) (by decide) ?_
        refine lv_aload_n hx hb dX11_of_127 rfl (lv_at hl 0 rfl) ?_
        refine tgk_6 hG hb32t (fun y119 y120 y120n y121 y121n y122 y122n y123 y123n y124 y124n y125 y125n => ?_)
        refine tpk_6 hT hb32t (fun o126_x1 o126_x2 o126_x3 o126_x4 o126_x5 o126_x6 o126_x10 o126_x11 o126_x12 o126_x14 hf_o126 ro126_0 ro126_1 ro126_2 => ?_)
        refine tpk_pos (tp_in hG hb32t (by decide)) hf_o126 (fun q127 eq127 => ?_)
        refine pz_calli (va_runV (As := []) (rest := []) ⟨hx, hb, hml, hown, hts⟩ (t_X5_tonsLeft l dC dI _ Ω κ τ ν ρ L f hG hT b31 hb32t) (cwV 0 hts gX11_of_X5_tonsLeft rfl rfl rfl ⟨rfl, pd_X5_tonsLeft⟩ ⟨Nat.le_of_ble_eq_true rfl, Nat.le_of_ble_eq_true rfl⟩) ⟨pz_blind, va_recv hK hP (ci := 5) (q0 := q127) rfl eq127, pz_pre hP hK hD hN⟩ rfl rfl hl.1 rfl (lv_room (Nat.le_of_ble_eq_true rfl)) dX11_of_128 ⟨Nat.le_of_ble_eq_true rfl, Nat.le_of_ble_eq_true rfl⟩) (fun r128 hw129 => ?_)
        obtain ⟨hw129r, hw129p⟩ := hw129
        exact W.iret (v := r128) hx hb hr (fun t ht hW => ⟨⟨r128, f, rfl, ⟨hT, hR, trivial, trivial⟩, by rw [ht]; exact hP, va_K.moved hW.alike hK, hD⟩, hS.F ht⟩) hS.2.2 dX11_of_131
      · refine lv_tableIn (tgt := 132) hx hb dX11_of_24 (by omega) (by omega) (by rw [h33k]; rfl) (by decide) ?_
        refine lv_aload_n hx hb dX11_of_132 rfl (lv_at hl 0 rfl) ?_
        refine tgk_6 hG hb32t (fun y130 y131 y131n y132 y132n y133 y133n y134 y134n y135 y135n y136 y136n => ?_)
        refine tpk_6 hT hb32t (fun o137_x1 o137_x2 o137_x3 o137_x4 o137_x5 o137_x6 o137_x10 o137_x11 o137_x12 o137_x14 hf_o137 ro137_0 ro137_1 ro137_2 => ?_)
        refine tpk_pos (tp_in hG hb32t (by decide)) hf_o137 (fun q138 eq138 => ?_)
        refine va_getN (D := (dC, dI)) (ci := 5) (v := .ref (ρ b31 0)) (C := RX5) (T := TX5) (N := 17) hx hb hts hfX5 hown hK hP q138 eq138 rfl 0 (by decide) (va_Nw.use rfl (hN.1 (.fieldLinkNest RX11 166 "ColdShips$Ship" "tank" "LColdShips$Tank;" "ColdShips") nzw_22)) (fun _ h9 => h9) rfl dX11_of_133 ?_
        refine tgk_8 hG y130 (fun y139 y139n y140 y140n y141 y141n => ?_)
        refine tpk_8 hT y130 (fun o142_x0 o142_x1 o142_x2 o142_x3 hf_o142 ro142_0 => ?_)
        refine tpk_pos (tp_in hG y130 (by decide)) hf_o142 (fun q143 eq143 => ?_)
        refine pz_calli (va_runV (As := []) (rest := []) ⟨hx, hb, hml, hown, hts⟩ (t_X7_draft l dC dI _ Ω κ τ ν ρ L f hG hT (ρ b31 0) y130) (cwV 0 hts gX11_of_X7_draft rfl rfl rfl ⟨rfl, pd_X7_draft⟩ ⟨Nat.le_of_ble_eq_true rfl, Nat.le_of_ble_eq_true rfl⟩) ⟨pz_blind, va_recv hK hP (ci := 7) (q0 := q143) rfl eq143, pz_pre hP hK hD hN⟩ rfl rfl hl.1 rfl (lv_room (Nat.le_of_ble_eq_true rfl)) dX11_of_136 ⟨Nat.le_of_ble_eq_true rfl, Nat.le_of_ble_eq_true rfl⟩) (fun r144 hw145 => ?_)
        obtain ⟨hw145r, hw145p⟩ := hw145
        exact W.iret (v := r144) hx hb hr (fun t ht hW => ⟨⟨r144, f, rfl, ⟨hT, hR, trivial, trivial⟩, by rw [ht]; exact hP, va_K.moved hW.alike hK, hD⟩, hS.F ht⟩) hS.2.2 dX11_of_139
      · refine lv_tableIn (tgt := 140) hx hb dX11_of_24 (by omega) (by omega) (by rw [h33k]; rfl) (by decide) ?_
        refine lv_aload_n hx hb dX11_of_140 rfl (lv_at hl 0 rfl) ?_
        refine tgk_6 hG hb32t (fun y146 y147 y147n y148 y148n y149 y149n y150 y150n y151 y151n y152 y152n => ?_)
        refine tpk_6 hT hb32t (fun o153_x1 o153_x2 o153_x3 o153_x4 o153_x5 o153_x6 o153_x10 o153_x11 o153_x12 o153_x14 hf_o153 ro153_0 ro153_1 ro153_2 => ?_)
        refine tpk_pos (tp_in hG hb32t (by decide)) hf_o153 (fun q154 eq154 => ?_)
        have ro153_1 := tp_hu ro153_1
        refine va_getN (D := (dC, dI)) (ci := 5) (v := .int o153_x5) (C := RX5) (T := TX5) (N := 17) hx hb hts hfX5 hown hK hP q154 eq154 rfl 5 (by decide) (va_Nw.use rfl (hN.1 (.fieldLinkNest RX11 191 "ColdShips$Ship" "drifting" "Z" "ColdShips") nzw_33)) (fun _ h9 => h9) rfl dX11_of_141 ?_
        refine lv_if_eq (tgt := 151) hx hb dX11_of_144 (by decide) (fun c155 => ?_) (fun c155 => ?_)
        · have ic155 : o153_x5.toInt = 0 := zi_eq rfl rfl c155
          refine lv_iconst (v := 0) hx hb dX11_of_151 (by decide) ?_
          exact W.iret (v := 0) hx hb hr (fun t ht hW => ⟨⟨0, f, rfl, ⟨hT, hR, trivial, trivial⟩, by rw [ht]; exact hP, va_K.moved hW.alike hK, hD⟩, hS.F ht⟩) hS.2.2 dX11_of_152
        · have ic155 : o153_x5.toInt ≠ 0 := zi_eqf rfl rfl c155
          refine lv_iconst (v := 1) hx hb dX11_of_147 (by decide) ?_
          refine lv_goto (tgt := 152) hx hb dX11_of_148 (by decide) ?_
          exact W.iret (v := 1) hx hb hr (fun t ht hW => ⟨⟨1, f, rfl, ⟨hT, hR, trivial, trivial⟩, by rw [ht]; exact hP, va_K.moved hW.alike hK, hD⟩, hS.F ht⟩) hS.2.2 dX11_of_152
  · have ic26 : r24.toInt = 0 := zi_nef rfl rfl c26
    clear hw25r ic26
    refine lv_iconst (v := (-1)) hx hb dX11_of_11 (by decide) ?_
    exact W.iret (v := (-1)) hx hb hr (fun t ht hW => ⟨⟨(-1), f, rfl, ⟨hT, hR, trivial, trivial⟩, by rw [ht]; exact hP, va_K.moved hW.alike hK, hD⟩, hS.F ht⟩) hS.2.2 dX11_of_12
set_option maxHeartbeats 4000000 in
set_option maxRecDepth 100000 in
theorem t_X11_part (l : Launch) (dC : Nat → ClassId) (dI : Nat → Nat → Nat) (sz : Nat) (Ω : Nat → Nat → (Nat → Nat) → va_E → Prop) (κ : Nat → ClassId) (τ ν : Nat → Nat) (ρ : Nat → Nat → Nat) (L : List Nat) (f : Nat → va_E) (hG : tp_G τ ν ρ L) (hT : tp_T Ω κ τ ν ρ f) (h0 : Nat) (v : Int32) (u : Int32) (ht_h0 : τ h0 = 12) : Met l yX11_part wqX11_part ({ frames := 3, cells := 0, slots := 0, locals := 800 }) (va_Pc [.ref h0, .int v, .int u] (pz_B dC dI (tp_K κ) (va_pl L f) sz)) (va_Qi (fun (r : Int32) (f1 : Nat → va_E) => tp_T Ω κ τ ν ρ f1 ∧ tp_F τ [] f f1 ∧ True ∧ True) (fun (f1 : Nat → va_E) (t : State) => pz_E dC dI (tp_K κ) (va_A (va_pl L f) sz) (va_pl L f1) t) (va_A (va_pl L f) sz)) 0 0 (va_A (va_pl L f) sz) := by
  refine Met.ofW (cc := cX11_part) (maxL := 3) (ret := some .int) (by decide) rfl ?_
  intro p e s m args below meth c s₁ B hml hv
  obtain ⟨rfl, hsz, hP, hK, hD0, hN⟩ := hv
  have hx := B.exec
  have hb := B.bytes
  have hr := B.returns
  have hts := fun (w : Cond) (h : w ∈ WALL) => atoms_spec (ws := wqX11_part) B.pre w (List.mem_cons_of_mem _ h)
  have hown : s.vm.findClass RX11 = some m.cls := findClass_of_methodNamed B.named
  have hlocks := B.notSynchronized
  subst hsz
  have hD := hD0.self (sz := s.heap.size)
  generalize hAe : va_A (va_pl L f) s.heap.size = A at hD ⊢
  have hA : ∀ q : Nat, s.heap.size ≤ q → A q := fun q h => by rw [← hAe]; exact Or.inr h
  have hS : va_S A s.heap s.heap [] := va_S.rf
  have hR : tp_F τ [] f f := tp_F.rf
  have hl := lv_entry ([.ref h0, .int v, .int u]) (n := 3) (Nat.le_of_ble_eq_true rfl)
  rw [lg_entry_eq]
  generalize (lg_sl ([.ref h0, .int v, .int u]) ++ List.replicate (3 - (lg_sl ([.ref h0, .int v, .int u])).length) Slot.unset).toArray = ls at hl ⊢
  have hl : lv_has ls 3 [(0, .ref h0), (1, .int v), (2, .int u)] := hl
  refine lv_aload_n hx hb dX11_part_0 rfl (lv_at hl 0 rfl) ?_
  refine tgk_12 hG ht_h0 (fun y1 y1l y2 y3 y4 y5 y6 y7a y7b y7c => ?_)
  refine tpk_12 hT ht_h0 (fun o8_x6 hf_o8 => ?_)
  refine tpk_pos (tp_in hG ht_h0 (by decide)) hf_o8 (fun q9 eq9 => ?_)
  refine va_get (D := (dC, dI)) (ci := 11) (v := .ref (ρ h0 0)) (C := RX11) (T := TX11) (N := 7) hx hb hts hfX11 hown hK hP q9 eq9 rfl 0 (by decide) (hts (.fieldLink RX11 10 "ColdShips" "world" "LColdShips$World;") wa_15) (fun _ h9 => h9) rfl dX11_part_1 ?_
  refine lv_iload_n hx hb dX11_part_4 rfl (lv_at hl 1 rfl) ?_
  refine tgk_11 hG y1 (fun y10 y10n y11 y11n y12 y13 y14 y15 y15m y15l y16 y16m y16l y17 y17m y17l y18 y18w y18m y18l y19 y19w y19m y19l y20 y20w y20m y20l y21 y21w y21m y21l => ?_)
  refine tpk_11 hT y1 (fun o22_x0 o22_x1 o22_x2 o22_x3 o22_x4 o22_x5 o22_x6 hf_o22 ro22_0 ro22_1 ro22_2 ro22_3 => ?_)
  refine tpk_pos (tp_in hG y1 (by decide)) hf_o22 (fun q23 eq23 => ?_)
  have ro22_0 := tp_hu ro22_0; have ro22_1 := tp_hu ro22_1; have ro22_2 := tp_hu ro22_2; have ro22_3 := tp_hu ro22_3
  refine pz_calli (va_runV (As := [.int v]) (rest := []) ⟨hx, hb, hml, hown, hts⟩ (t_X10_hasShip l dC dI _ Ω κ τ ν ρ L f hG hT (ρ h0 0) v y1 o22_x0 o22_x1 o22_x2 o22_x3 o22_x4 o22_x5 o22_x6 hf_o22) (cwV 1 hts gX11_part_X10_hasShip rfl rfl rfl ⟨rfl, pd_X10_hasShip⟩ ⟨Nat.le_of_ble_eq_true rfl, Nat.le_of_ble_eq_true rfl⟩) ⟨pz_blind, va_recv hK hP (ci := 10) (q0 := q23) rfl eq23, pz_pre hP hK hD hN⟩ rfl rfl hl.1 rfl (lv_room (Nat.le_of_ble_eq_true rfl)) dX11_part_5 ⟨Nat.le_of_ble_eq_true rfl, Nat.le_of_ble_eq_true rfl⟩) (fun r24 hw25 => ?_)
  obtain ⟨hw25r, hw25p⟩ := hw25
  refine lv_if_eq (tgt := 22) hx hb dX11_part_8 (by decide) (fun c26 => ?_) (fun c26 => ?_)
  · have ic26 : r24.toInt = 0 := zi_eq rfl rfl c26
    clear hw25r ic26
    refine lv_iconst (v := (-1)) hx hb dX11_part_22 (by decide) ?_
    exact W.iret (v := (-1)) hx hb hr (fun t ht hW => ⟨⟨(-1), f, rfl, ⟨hT, hR, trivial, trivial⟩, by rw [ht]; exact hP, va_K.moved hW.alike hK, hD⟩, hS.F ht⟩) hS.2.2 dX11_part_23
  · have ic26 : r24.toInt ≠ 0 := zi_eqf rfl rfl c26
    have p27 : 0 ≤ v.toInt ∧ v.toInt < o22_x5.toInt := (tp_cond.yes hw25p) (by omega)
    clear hw25r ic26
    refine lv_aload_n hx hb dX11_part_11 rfl (lv_at hl 0 rfl) ?_
    refine va_get (D := (dC, dI)) (ci := 11) (v := .ref (ρ h0 0)) (C := RX11) (T := TX11) (N := 7) hx hb hts hfX11 hown hK hP q9 eq9 rfl 0 (by decide) (hts (.fieldLink RX11 10 "ColdShips" "world" "LColdShips$World;") wa_15) (fun _ h9 => h9) rfl dX11_part_12 ?_
    refine lv_iload_n hx hb dX11_part_15 rfl (lv_at hl 2 rfl) ?_
    refine pz_calli (va_runV (As := [.int u]) (rest := []) ⟨hx, hb, hml, hown, hts⟩ (t_X10_hasTerminal l dC dI _ Ω κ τ ν ρ L f hG hT (ρ h0 0) u y1 o22_x0 o22_x1 o22_x2 o22_x3 o22_x4 o22_x5 o22_x6 hf_o22) (cwV 1 hts gX11_part_X10_hasTerminal rfl rfl rfl ⟨rfl, pd_X10_hasTerminal⟩ ⟨Nat.le_of_ble_eq_true rfl, Nat.le_of_ble_eq_true rfl⟩) ⟨pz_blind, va_recv hK hP (ci := 10) (q0 := q23) rfl eq23, pz_pre hP hK hD hN⟩ rfl rfl hl.1 rfl (lv_room (Nat.le_of_ble_eq_true rfl)) dX11_part_16 ⟨Nat.le_of_ble_eq_true rfl, Nat.le_of_ble_eq_true rfl⟩) (fun r28 hw29 => ?_)
    obtain ⟨hw29r, hw29p⟩ := hw29
    refine lv_if_ne (tgt := 24) hx hb dX11_part_19 (by decide) (fun c30 => ?_) (fun c30 => ?_)
    · have ic30 : r28.toInt ≠ 0 := zi_ne rfl rfl c30
      have p31 : 0 ≤ u.toInt ∧ u.toInt < o22_x4.toInt := (tp_cond.yes hw29p) (by omega)
      clear hw29r ic30
      refine lv_aload_n hx hb dX11_part_24 rfl (lv_at hl 0 rfl) ?_
      refine va_get (D := (dC, dI)) (ci := 11) (v := .ref (ρ h0 0)) (C := RX11) (T := TX11) (N := 7) hx hb hts hfX11 hown hK hP q9 eq9 rfl 0 (by decide) (hts (.fieldLink RX11 10 "ColdShips" "world" "LColdShips$World;") wa_15) (fun _ h9 => h9) rfl dX11_part_25 ?_
      refine va_getN (D := (dC, dI)) (ci := 10) (v := .ref (ρ (ρ h0 0) 10)) (C := RX10) (T := TX10) (N := 19) hx hb hts hfX10 hown hK hP q23 eq23 rfl 10 (by decide) (va_Nw.use rfl (hN.1 (.fieldLinkNest RX11 84 "ColdShips$World" "ships" "[LColdShips$Ship;" "ColdShips") nzw_69)) (fun _ h9 => h9) rfl dX11_part_28 ?_
      refine lv_iload_n hx hb dX11_part_31 rfl (lv_at hl 1 rfl) ?_
      refine tpk_25 hT y13 (fun g33 hf_o32 hf_o32e => ?_)
      refine tpk_pos (tp_in hG y13 (by decide)) hf_o32 (fun q34 eq34 => ?_)
      refine va_aldq hx hb hK hP q34 5 eq34 rfl (vp_in_iff.mpr ⟨by omega, by omega⟩) dX11_part_32 ?_
      obtain ⟨b35, hb36⟩ : ∃ b : Nat, b = ρ (ρ (ρ h0 0) 10) v.toNatClampNeg := ⟨_, rfl⟩
      have hb36t : τ b35 = 6 := by rw [hb36]; exact tpg_25 hG y13 _ (zi_cl (vp_in_iff.mpr ⟨by omega, by omega⟩))
      have hb36g : g33 v.toNatClampNeg = some b35 := by rw [hb36]; exact hf_o32e _ (zi_cl (vp_in_iff.mpr ⟨by omega, by omega⟩))
      refine W.eq (g2 := F0 m 33 ls (.ref b35 :: [])) (congrArg (fun o => F0 m 33 ls (va_rf o :: [])) hb36g) ?_
      refine tgk_6 hG hb36t (fun y37 y38 y38n y39 y39n y40 y40n y41 y41n y42 y42n y43 y43n => ?_)
      refine tpk_6 hT hb36t (fun o44_x1 o44_x2 o44_x3 o44_x4 o44_x5 o44_x6 o44_x10 o44_x11 o44_x12 o44_x14 hf_o44 ro44_0 ro44_1 ro44_2 => ?_)
      refine tpk_pos (tp_in hG hb36t (by decide)) hf_o44 (fun q45 eq45 => ?_)
      refine va_getN (D := (dC, dI)) (ci := 5) (v := .ref (ρ b35 0)) (C := RX5) (T := TX5) (N := 17) hx hb hts hfX5 hown hK hP q45 eq45 rfl 0 (by decide) (va_Nw.use rfl (hN.1 (.fieldLinkNest RX11 166 "ColdShips$Ship" "tank" "LColdShips$Tank;" "ColdShips") nzw_22)) (fun _ h9 => h9) rfl dX11_part_33 ?_
      refine tgk_8 hG y37 (fun y46 y46n y47 y47n y48 y48n => ?_)
      refine tpk_8 hT y37 (fun o49_x0 o49_x1 o49_x2 o49_x3 hf_o49 ro49_0 => ?_)
      refine tpk_pos (tp_in hG y37 (by decide)) hf_o49 (fun q50 eq50 => ?_)
      refine va_getN (D := (dC, dI)) (ci := 7) (v := .ref (ρ (ρ b35 0) 4)) (C := RX7) (T := TX7) (N := 7) hx hb hts hfX7 hown hK hP q50 eq50 rfl 4 (by decide) (va_Nw.use rfl (hN.1 (.fieldLinkNest RX11 195 "ColdShips$Tank" "parts" "[I" "ColdShips") nzw_19)) (fun _ h9 => h9) rfl dX11_part_36 ?_
      refine lv_iload_n hx hb dX11_part_39 rfl (lv_at hl 2 rfl) ?_
      refine tpk_20 hT y46 y46n (fun g52 hf_o51 => ?_)
      refine tpk_pos (tp_in hG y46 (by decide)) hf_o51 (fun q53 eq53 => ?_)
      refine va_iald hx hb hK hP q53 0 eq53 rfl (vp_in_iff.mpr ⟨by omega, by omega⟩) dX11_part_40 ?_
      refine lv_topi (fun z54 ez54 => ?_)
      exact W.iret (v := z54) hx hb hr (fun t ht hW => ⟨⟨z54, f, rfl, ⟨hT, hR, trivial, trivial⟩, by rw [ht]; exact hP, va_K.moved hW.alike hK, hD⟩, hS.F ht⟩) hS.2.2 dX11_part_41
    · have ic30 : r28.toInt = 0 := zi_nef rfl rfl c30
      clear hw29r ic30
      refine lv_iconst (v := (-1)) hx hb dX11_part_22 (by decide) ?_
      exact W.iret (v := (-1)) hx hb hr (fun t ht hW => ⟨⟨(-1), f, rfl, ⟨hT, hR, trivial, trivial⟩, by rw [ht]; exact hP, va_K.moved hW.alike hK, hD⟩, hS.F ht⟩) hS.2.2 dX11_part_23
set_option maxHeartbeats 4000000 in
set_option maxRecDepth 100000 in
theorem t_X11_book (l : Launch) (dC : Nat → ClassId) (dI : Nat → Nat → Nat) (sz : Nat) (Ω : Nat → Nat → (Nat → Nat) → va_E → Prop) (κ : Nat → ClassId) (τ ν : Nat → Nat) (ρ : Nat → Nat → Nat) (L : List Nat) (f : Nat → va_E) (hG : tp_G τ ν ρ L) (hT : tp_T Ω κ τ ν ρ f) (h0 : Nat) (v : Int32) (u : Int32) (ht_h0 : τ h0 = 12) : Met l yX11_book wqX11_book ({ frames := 3, cells := 0, slots := 0, locals := 800 }) (va_Pc [.ref h0, .int v, .int u] (pz_B dC dI (tp_K κ) (va_pl L f) sz)) (va_Ql (fun (r : Int64) (f1 : Nat → va_E) => tp_T Ω κ τ ν ρ f1 ∧ tp_F τ [] f f1 ∧ True ∧ True) (fun (f1 : Nat → va_E) (t : State) => pz_E dC dI (tp_K κ) (va_A (va_pl L f) sz) (va_pl L f1) t) (va_A (va_pl L f) sz)) 0 0 (va_A (va_pl L f) sz) := by
  refine Met.ofW (cc := cX11_book) (maxL := 3) (ret := some .long) (by decide) rfl ?_
  intro p e s m args below meth c s₁ B hml hv
  obtain ⟨rfl, hsz, hP, hK, hD0, hN⟩ := hv
  have hx := B.exec
  have hb := B.bytes
  have hr := B.returns
  have hts := fun (w : Cond) (h : w ∈ WALL) => atoms_spec (ws := wqX11_book) B.pre w (List.mem_cons_of_mem _ h)
  have hown : s.vm.findClass RX11 = some m.cls := findClass_of_methodNamed B.named
  have hlocks := B.notSynchronized
  subst hsz
  have hD := hD0.self (sz := s.heap.size)
  generalize hAe : va_A (va_pl L f) s.heap.size = A at hD ⊢
  have hA : ∀ q : Nat, s.heap.size ≤ q → A q := fun q h => by rw [← hAe]; exact Or.inr h
  have hS : va_S A s.heap s.heap [] := va_S.rf
  have hR : tp_F τ [] f f := tp_F.rf
  have hl := lv_entry ([.ref h0, .int v, .int u]) (n := 3) (Nat.le_of_ble_eq_true rfl)
  rw [lg_entry_eq]
  generalize (lg_sl ([.ref h0, .int v, .int u]) ++ List.replicate (3 - (lg_sl ([.ref h0, .int v, .int u])).length) Slot.unset).toArray = ls at hl ⊢
  have hl : lv_has ls 3 [(0, .ref h0), (1, .int v), (2, .int u)] := hl
  refine lv_aload_n hx hb dX11_book_0 rfl (lv_at hl 0 rfl) ?_
  refine tgk_12 hG ht_h0 (fun y1 y1l y2 y3 y4 y5 y6 y7a y7b y7c => ?_)
  refine tpk_12 hT ht_h0 (fun o8_x6 hf_o8 => ?_)
  refine tpk_pos (tp_in hG ht_h0 (by decide)) hf_o8 (fun q9 eq9 => ?_)
  refine va_get (D := (dC, dI)) (ci := 11) (v := .ref (ρ h0 0)) (C := RX11) (T := TX11) (N := 7) hx hb hts hfX11 hown hK hP q9 eq9 rfl 0 (by decide) (hts (.fieldLink RX11 10 "ColdShips" "world" "LColdShips$World;") wa_15) (fun _ h9 => h9) rfl dX11_book_1 ?_
  refine lv_iload_n hx hb dX11_book_4 rfl (lv_at hl 1 rfl) ?_
  refine tgk_11 hG y1 (fun y10 y10n y11 y11n y12 y13 y14 y15 y15m y15l y16 y16m y16l y17 y17m y17l y18 y18w y18m y18l y19 y19w y19m y19l y20 y20w y20m y20l y21 y21w y21m y21l => ?_)
  refine tpk_11 hT y1 (fun o22_x0 o22_x1 o22_x2 o22_x3 o22_x4 o22_x5 o22_x6 hf_o22 ro22_0 ro22_1 ro22_2 ro22_3 => ?_)
  refine tpk_pos (tp_in hG y1 (by decide)) hf_o22 (fun q23 eq23 => ?_)
  have ro22_0 := tp_hu ro22_0; have ro22_1 := tp_hu ro22_1; have ro22_2 := tp_hu ro22_2; have ro22_3 := tp_hu ro22_3
  refine pz_calli (va_runV (As := [.int v]) (rest := []) ⟨hx, hb, hml, hown, hts⟩ (t_X10_hasShip l dC dI _ Ω κ τ ν ρ L f hG hT (ρ h0 0) v y1 o22_x0 o22_x1 o22_x2 o22_x3 o22_x4 o22_x5 o22_x6 hf_o22) (cwV 1 hts gX11_book_X10_hasShip rfl rfl rfl ⟨rfl, pd_X10_hasShip⟩ ⟨Nat.le_of_ble_eq_true rfl, Nat.le_of_ble_eq_true rfl⟩) ⟨pz_blind, va_recv hK hP (ci := 10) (q0 := q23) rfl eq23, pz_pre hP hK hD hN⟩ rfl rfl hl.1 rfl (lv_room (Nat.le_of_ble_eq_true rfl)) dX11_book_5 ⟨Nat.le_of_ble_eq_true rfl, Nat.le_of_ble_eq_true rfl⟩) (fun r24 hw25 => ?_)
  obtain ⟨hw25r, hw25p⟩ := hw25
  refine lv_if_eq (tgt := 20) hx hb dX11_book_8 (by decide) (fun c26 => ?_) (fun c26 => ?_)
  · have ic26 : r24.toInt = 0 := zi_eq rfl rfl c26
    clear hw25r ic26
    refine lv_ldc2 (own := RX11) (v := (-1)) hx hb hown (hts (.constantLong RX11 198 (-1)) wa_660) dX11_book_20 ?_
    exact W.lret (v := (-1)) hx hb hr (fun t ht hW => ⟨⟨(-1), f, rfl, ⟨hT, hR, trivial, trivial⟩, by rw [ht]; exact hP, va_K.moved hW.alike hK, hD⟩, hS.F ht⟩) hS.2.2 dX11_book_23
  · have ic26 : r24.toInt ≠ 0 := zi_eqf rfl rfl c26
    have p27 : 0 ≤ v.toInt ∧ v.toInt < o22_x5.toInt := (tp_cond.yes hw25p) (by omega)
    clear hw25r ic26
    refine lv_iload_n hx hb dX11_book_11 rfl (lv_at hl 2 rfl) ?_
    refine lv_iconst (v := 0) hx hb dX11_book_12 (by decide) ?_
    refine lv_iconst (v := 3) hx hb dX11_book_13 (by decide) ?_
    refine pz_calli (va_runS (As := [.int u, .int 0, .int 3]) (rest := []) ⟨hx, hb, hml, hown, hts⟩ (t_X11_within l dC dI _ u (0) (3) (u.toInt) (0) (3) rfl rfl rfl) (va_cwS 3 hts gX11_book_X11_within rfl rfl rfl pd_X11_within ⟨Nat.le_of_ble_eq_true rfl, Nat.le_of_ble_eq_true rfl⟩) ⟨pz_blind, pz_pre pz_P0 (hK.sub (tys' := []) [] rfl) (pz_D0 (A := fun _ => True)) hN⟩ rfl rfl hl.1 rfl (lv_room (Nat.le_of_ble_eq_true rfl)) dX11_book_14 ⟨Nat.le_of_ble_eq_true rfl, Nat.le_of_ble_eq_true rfl⟩) (fun r28 hw29 => ?_)
    obtain ⟨hw29r, hw29p⟩ := hw29
    refine lv_if_ne (tgt := 24) hx hb dX11_book_17 (by decide) (fun c30 => ?_) (fun c30 => ?_)
    · have ic30 : r28.toInt ≠ 0 := zi_ne rfl rfl c30
      have p31 : (0) ≤ (u.toInt) ∧ (u.toInt) ≤ (3) := (tp_cond.yes hw29p) (by omega)
      clear hw29r ic30
      refine lv_aload_n hx hb dX11_book_24 rfl (lv_at hl 0 rfl) ?_
      refine va_get (D := (dC, dI)) (ci := 11) (v := .ref (ρ h0 0)) (C := RX11) (T := TX11) (N := 7) hx hb hts hfX11 hown hK hP q9 eq9 rfl 0 (by decide) (hts (.fieldLink RX11 10 "ColdShips" "world" "LColdShips$World;") wa_15) (fun _ h9 => h9) rfl dX11_book_25 ?_
      refine va_getN (D := (dC, dI)) (ci := 10) (v := .ref (ρ (ρ h0 0) 10)) (C := RX10) (T := TX10) (N := 19) hx hb hts hfX10 hown hK hP q23 eq23 rfl 10 (by decide) (va_Nw.use rfl (hN.1 (.fieldLinkNest RX11 84 "ColdShips$World" "ships" "[LColdShips$Ship;" "ColdShips") nzw_69)) (fun _ h9 => h9) rfl dX11_book_28 ?_
      refine lv_iload_n hx hb dX11_book_31 rfl (lv_at hl 1 rfl) ?_
      refine tpk_25 hT y13 (fun g33 hf_o32 hf_o32e => ?_)
      refine tpk_pos (tp_in hG y13 (by decide)) hf_o32 (fun q34 eq34 => ?_)
      refine va_aldq hx hb hK hP q34 5 eq34 rfl (vp_in_iff.mpr ⟨by omega, by omega⟩) dX11_book_32 ?_
      obtain ⟨b35, hb36⟩ : ∃ b : Nat, b = ρ (ρ (ρ h0 0) 10) v.toNatClampNeg := ⟨_, rfl⟩
      have hb36t : τ b35 = 6 := by rw [hb36]; exact tpg_25 hG y13 _ (zi_cl (vp_in_iff.mpr ⟨by omega, by omega⟩))
      have hb36g : g33 v.toNatClampNeg = some b35 := by rw [hb36]; exact hf_o32e _ (zi_cl (vp_in_iff.mpr ⟨by omega, by omega⟩))
      refine W.eq (g2 := F0 m 33 ls (.ref b35 :: [])) (congrArg (fun o => F0 m 33 ls (va_rf o :: [])) hb36g) ?_
      refine tgk_6 hG hb36t (fun y37 y38 y38n y39 y39n y40 y40n y41 y41n y42 y42n y43 y43n => ?_)
      refine tpk_6 hT hb36t (fun o44_x1 o44_x2 o44_x3 o44_x4 o44_x5 o44_x6 o44_x10 o44_x11 o44_x12 o44_x14 hf_o44 ro44_0 ro44_1 ro44_2 => ?_)
      refine tpk_pos (tp_in hG hb36t (by decide)) hf_o44 (fun q45 eq45 => ?_)
      refine va_getN (D := (dC, dI)) (ci := 5) (v := .ref (ρ b35 9)) (C := RX5) (T := TX5) (N := 17) hx hb hts hfX5 hown hK hP q45 eq45 rfl 9 (by decide) (va_Nw.use rfl (hN.1 (.fieldLinkNest RX11 200 "ColdShips$Ship" "book" "[J" "ColdShips") nzw_39)) (fun _ h9 => h9) rfl dX11_book_33 ?_
      refine lv_iload_n hx hb dX11_book_36 rfl (lv_at hl 2 rfl) ?_
      refine tpk_21 hT y40 y40n (fun g47 hf_o46 => ?_)
      refine tpk_pos (tp_in hG y40 (by decide)) hf_o46 (fun q48 eq48 => ?_)
      refine va_lald hx hb hK hP q48 1 eq48 rfl (vp_in_iff.mpr ⟨by omega, by omega⟩) dX11_book_37 ?_
      refine lv_topl (fun z49 ez49 => ?_)
      exact W.lret (v := z49) hx hb hr (fun t ht hW => ⟨⟨z49, f, rfl, ⟨hT, hR, trivial, trivial⟩, by rw [ht]; exact hP, va_K.moved hW.alike hK, hD⟩, hS.F ht⟩) hS.2.2 dX11_book_38
    · have ic30 : r28.toInt = 0 := zi_nef rfl rfl c30
      clear hw29r ic30
      refine lv_ldc2 (own := RX11) (v := (-1)) hx hb hown (hts (.constantLong RX11 198 (-1)) wa_660) dX11_book_20 ?_
      exact W.lret (v := (-1)) hx hb hr (fun t ht hW => ⟨⟨(-1), f, rfl, ⟨hT, hR, trivial, trivial⟩, by rw [ht]; exact hP, va_K.moved hW.alike hK, hD⟩, hS.F ht⟩) hS.2.2 dX11_book_23
set_option maxHeartbeats 4000000 in
set_option maxRecDepth 100000 in
theorem t_X11_store (l : Launch) (dC : Nat → ClassId) (dI : Nat → Nat → Nat) (sz : Nat) (Ω : Nat → Nat → (Nat → Nat) → va_E → Prop) (κ : Nat → ClassId) (τ ν : Nat → Nat) (ρ : Nat → Nat → Nat) (L : List Nat) (f : Nat → va_E) (hG : tp_G τ ν ρ L) (hT : tp_T Ω κ τ ν ρ f) (h0 : Nat) (v : Int32) (ht_h0 : τ h0 = 12) : Met l yX11_store wqX11_store ({ frames := 3, cells := 0, slots := 0, locals := 800 }) (va_Pc [.ref h0, .int v] (pz_B dC dI (tp_K κ) (va_pl L f) sz)) (va_Qi (fun (r : Int32) (f1 : Nat → va_E) => tp_T Ω κ τ ν ρ f1 ∧ tp_F τ [] f f1 ∧ True ∧ True) (fun (f1 : Nat → va_E) (t : State) => pz_E dC dI (tp_K κ) (va_A (va_pl L f) sz) (va_pl L f1) t) (va_A (va_pl L f) sz)) 0 0 (va_A (va_pl L f) sz) := by
  refine Met.ofW (cc := cX11_store) (maxL := 2) (ret := some .int) (by decide) rfl ?_
  intro p e s m args below meth c s₁ B hml hv
  obtain ⟨rfl, hsz, hP, hK, hD0, hN⟩ := hv
  have hx := B.exec
  have hb := B.bytes
  have hr := B.returns
  have hts := fun (w : Cond) (h : w ∈ WALL) => atoms_spec (ws := wqX11_store) B.pre w (List.mem_cons_of_mem _ h)
  have hown : s.vm.findClass RX11 = some m.cls := findClass_of_methodNamed B.named
  have hlocks := B.notSynchronized
  subst hsz
  have hD := hD0.self (sz := s.heap.size)
  generalize hAe : va_A (va_pl L f) s.heap.size = A at hD ⊢
  have hA : ∀ q : Nat, s.heap.size ≤ q → A q := fun q h => by rw [← hAe]; exact Or.inr h
  have hS : va_S A s.heap s.heap [] := va_S.rf
  have hR : tp_F τ [] f f := tp_F.rf
  have hl := lv_entry ([.ref h0, .int v]) (n := 2) (Nat.le_of_ble_eq_true rfl)
  rw [lg_entry_eq]
  generalize (lg_sl ([.ref h0, .int v]) ++ List.replicate (2 - (lg_sl ([.ref h0, .int v])).length) Slot.unset).toArray = ls at hl ⊢
  have hl : lv_has ls 2 [(0, .ref h0), (1, .int v)] := hl
  refine lv_aload_n hx hb dX11_store_0 rfl (lv_at hl 0 rfl) ?_
  refine tgk_12 hG ht_h0 (fun y1 y1l y2 y3 y4 y5 y6 y7a y7b y7c => ?_)
  refine tpk_12 hT ht_h0 (fun o8_x6 hf_o8 => ?_)
  refine tpk_pos (tp_in hG ht_h0 (by decide)) hf_o8 (fun q9 eq9 => ?_)
  refine va_get (D := (dC, dI)) (ci := 11) (v := .ref (ρ h0 0)) (C := RX11) (T := TX11) (N := 7) hx hb hts hfX11 hown hK hP q9 eq9 rfl 0 (by decide) (hts (.fieldLink RX11 10 "ColdShips" "world" "LColdShips$World;") wa_15) (fun _ h9 => h9) rfl dX11_store_1 ?_
  refine lv_iload_n hx hb dX11_store_4 rfl (lv_at hl 1 rfl) ?_
  refine tgk_11 hG y1 (fun y10 y10n y11 y11n y12 y13 y14 y15 y15m y15l y16 y16m y16l y17 y17m y17l y18 y18w y18m y18l y19 y19w y19m y19l y20 y20w y20m y20l y21 y21w y21m y21l => ?_)
  refine tpk_11 hT y1 (fun o22_x0 o22_x1 o22_x2 o22_x3 o22_x4 o22_x5 o22_x6 hf_o22 ro22_0 ro22_1 ro22_2 ro22_3 => ?_)
  refine tpk_pos (tp_in hG y1 (by decide)) hf_o22 (fun q23 eq23 => ?_)
  have ro22_0 := tp_hu ro22_0; have ro22_1 := tp_hu ro22_1; have ro22_2 := tp_hu ro22_2; have ro22_3 := tp_hu ro22_3
  refine pz_calli (va_runV (As := [.int v]) (rest := []) ⟨hx, hb, hml, hown, hts⟩ (t_X10_hasTerminal l dC dI _ Ω κ τ ν ρ L f hG hT (ρ h0 0) v y1 o22_x0 o22_x1 o22_x2 o22_x3 o22_x4 o22_x5 o22_x6 hf_o22) (cwV 1 hts gX11_store_X10_hasTerminal rfl rfl rfl ⟨rfl, pd_X10_hasTerminal⟩ ⟨Nat.le_of_ble_eq_true rfl, Nat.le_of_ble_eq_true rfl⟩) ⟨pz_blind, va_recv hK hP (ci := 10) (q0 := q23) rfl eq23, pz_pre hP hK hD hN⟩ rfl rfl hl.1 rfl (lv_room (Nat.le_of_ble_eq_true rfl)) dX11_store_5 ⟨Nat.le_of_ble_eq_true rfl, Nat.le_of_ble_eq_true rfl⟩) (fun r24 hw25 => ?_)
  obtain ⟨hw25r, hw25p⟩ := hw25
  refine lv_if_eq (tgt := 26) hx hb dX11_store_8 (by decide) (fun c26 => ?_) (fun c26 => ?_)
  · have ic26 : r24.toInt = 0 := zi_eq rfl rfl c26
    clear hw25r ic26
    refine lv_iconst (v := (-1)) hx hb dX11_store_26 (by decide) ?_
    exact W.iret (v := (-1)) hx hb hr (fun t ht hW => ⟨⟨(-1), f, rfl, ⟨hT, hR, trivial, trivial⟩, by rw [ht]; exact hP, va_K.moved hW.alike hK, hD⟩, hS.F ht⟩) hS.2.2 dX11_store_27
  · have ic26 : r24.toInt ≠ 0 := zi_eqf rfl rfl c26
    have p27 : 0 ≤ v.toInt ∧ v.toInt < o22_x4.toInt := (tp_cond.yes hw25p) (by omega)
    clear hw25r ic26
    refine lv_aload_n hx hb dX11_store_11 rfl (lv_at hl 0 rfl) ?_
    refine va_get (D := (dC, dI)) (ci := 11) (v := .ref (ρ h0 0)) (C := RX11) (T := TX11) (N := 7) hx hb hts hfX11 hown hK hP q9 eq9 rfl 0 (by decide) (hts (.fieldLink RX11 10 "ColdShips" "world" "LColdShips$World;") wa_15) (fun _ h9 => h9) rfl dX11_store_12 ?_
    refine va_getN (D := (dC, dI)) (ci := 10) (v := .ref (ρ (ρ h0 0) 9)) (C := RX10) (T := TX10) (N := 19) hx hb hts hfX10 hown hK hP q23 eq23 rfl 9 (by decide) (va_Nw.use rfl (hN.1 (.fieldLinkNest RX11 63 "ColdShips$World" "terminals" "[LColdShips$Terminal;" "ColdShips") nzw_65)) (fun _ h9 => h9) rfl dX11_store_15 ?_
    refine lv_iload_n hx hb dX11_store_18 rfl (lv_at hl 1 rfl) ?_
    refine tpk_24 hT y12 (fun g29 hf_o28 hf_o28e => ?_)
    refine tpk_pos (tp_in hG y12 (by decide)) hf_o28 (fun q30 eq30 => ?_)
    refine va_aldq hx hb hK hP q30 4 eq30 rfl (vp_in_iff.mpr ⟨by omega, by omega⟩) dX11_store_19 ?_
    obtain ⟨b31, hb32⟩ : ∃ b : Nat, b = ρ (ρ (ρ h0 0) 9) v.toNatClampNeg := ⟨_, rfl⟩
    have hb32t : τ b31 = 9 := by rw [hb32]; exact tpg_24 hG y12 _ (zi_cl (vp_in_iff.mpr ⟨by omega, by omega⟩))
    have hb32g : g29 v.toNatClampNeg = some b31 := by rw [hb32]; exact hf_o28e _ (zi_cl (vp_in_iff.mpr ⟨by omega, by omega⟩))
    refine W.eq (g2 := F0 m 20 ls (.ref b31 :: [])) (congrArg (fun o => F0 m 20 ls (va_rf o :: [])) hb32g) ?_
    refine tgk_9 hG hb32t (fun y33 y33n y34 y34n => ?_)
    refine tpk_9 hT hb32t (fun o35_x0 o35_x1 o35_x2 o35_x3 o35_x4 hf_o35 ro35_0 => ?_)
    refine tpk_pos (tp_in hG hb32t (by decide)) hf_o35 (fun q36 eq36 => ?_)
    refine va_getN (D := (dC, dI)) (ci := 8) (v := .int o35_x0) (C := RX8) (T := TX8) (N := 7) hx hb hts hfX8 hown hK hP q36 eq36 rfl 0 (by decide) (va_Nw.use rfl (hN.1 (.fieldLinkNest RX11 204 "ColdShips$Terminal" "store" "I" "ColdShips") nzw_6)) (fun _ h9 => h9) rfl dX11_store_20 ?_
    refine lv_goto (tgt := 27) hx hb dX11_store_23 (by decide) ?_
    exact W.iret (v := o35_x0) hx hb hr (fun t ht hW => ⟨⟨o35_x0, f, rfl, ⟨hT, hR, trivial, trivial⟩, by rw [ht]; exact hP, va_K.moved hW.alike hK, hD⟩, hS.F ht⟩) hS.2.2 dX11_store_27
set_option maxHeartbeats 4000000 in
set_option maxRecDepth 100000 in
theorem t_X11_landing (l : Launch) (dC : Nat → ClassId) (dI : Nat → Nat → Nat) (sz : Nat) (Ω : Nat → Nat → (Nat → Nat) → va_E → Prop) (κ : Nat → ClassId) (τ ν : Nat → Nat) (ρ : Nat → Nat → Nat) (L : List Nat) (f : Nat → va_E) (hG : tp_G τ ν ρ L) (hT : tp_T Ω κ τ ν ρ f) (h0 : Nat) (v : Int32) (u : Int32) (ht_h0 : τ h0 = 12) : Met l yX11_landing wqX11_landing ({ frames := 4, cells := 0, slots := 0, locals := 1200 }) (va_Pc [.ref h0, .int v, .int u] (pz_B dC dI (tp_K κ) (va_pl L f) sz)) (va_Qi (fun (r : Int32) (f1 : Nat → va_E) => tp_T Ω κ τ ν ρ f1 ∧ tp_F τ [] f f1 ∧ True ∧ True) (fun (f1 : Nat → va_E) (t : State) => pz_E dC dI (tp_K κ) (va_A (va_pl L f) sz) (va_pl L f1) t) (va_A (va_pl L f) sz)) 0 0 (va_A (va_pl L f) sz) := by
  refine Met.ofW (cc := cX11_landing) (maxL := 3) (ret := some .int) (by decide) rfl ?_
  intro p e s m args below meth c s₁ B hml hv
  obtain ⟨rfl, hsz, hP, hK, hD0, hN⟩ := hv
  have hx := B.exec
  have hb := B.bytes
  have hr := B.returns
  have hts := fun (w : Cond) (h : w ∈ WALL) => atoms_spec (ws := wqX11_landing) B.pre w (List.mem_cons_of_mem _ h)
  have hown : s.vm.findClass RX11 = some m.cls := findClass_of_methodNamed B.named
  have hlocks := B.notSynchronized
  subst hsz
  have hD := hD0.self (sz := s.heap.size)
  generalize hAe : va_A (va_pl L f) s.heap.size = A at hD ⊢
  have hA : ∀ q : Nat, s.heap.size ≤ q → A q := fun q h => by rw [← hAe]; exact Or.inr h
  have hS : va_S A s.heap s.heap [] := va_S.rf
  have hR : tp_F τ [] f f := tp_F.rf
  have hl := lv_entry ([.ref h0, .int v, .int u]) (n := 3) (Nat.le_of_ble_eq_true rfl)
  rw [lg_entry_eq]
  generalize (lg_sl ([.ref h0, .int v, .int u]) ++ List.replicate (3 - (lg_sl ([.ref h0, .int v, .int u])).length) Slot.unset).toArray = ls at hl ⊢
  have hl : lv_has ls 3 [(0, .ref h0), (1, .int v), (2, .int u)] := hl
  refine lv_aload_n hx hb dX11_landing_0 rfl (lv_at hl 0 rfl) ?_
  refine tgk_12 hG ht_h0 (fun y1 y1l y2 y3 y4 y5 y6 y7a y7b y7c => ?_)
  refine tpk_12 hT ht_h0 (fun o8_x6 hf_o8 => ?_)
  refine tpk_pos (tp_in hG ht_h0 (by decide)) hf_o8 (fun q9 eq9 => ?_)
  refine va_get (D := (dC, dI)) (ci := 11) (v := .ref (ρ h0 0)) (C := RX11) (T := TX11) (N := 7) hx hb hts hfX11 hown hK hP q9 eq9 rfl 0 (by decide) (hts (.fieldLink RX11 10 "ColdShips" "world" "LColdShips$World;") wa_15) (fun _ h9 => h9) rfl dX11_landing_1 ?_
  refine tgk_11 hG y1 (fun y10 y10n y11 y11n y12 y13 y14 y15 y15m y15l y16 y16m y16l y17 y17m y17l y18 y18w y18m y18l y19 y19w y19m y19l y20 y20w y20m y20l y21 y21w y21m y21l => ?_)
  refine tpk_11 hT y1 (fun o22_x0 o22_x1 o22_x2 o22_x3 o22_x4 o22_x5 o22_x6 hf_o22 ro22_0 ro22_1 ro22_2 ro22_3 => ?_)
  refine tpk_pos (tp_in hG y1 (by decide)) hf_o22 (fun q23 eq23 => ?_)
  refine va_getN (D := (dC, dI)) (ci := 10) (v := .ref (ρ (ρ h0 0) 17)) (C := RX10) (T := TX10) (N := 19) hx hb hts hfX10 hown hK hP q23 eq23 rfl 17 (by decide) (va_Nw.use rfl (hN.1 (.fieldLinkNest RX11 207 "ColdShips$World" "landings" "LColdShips$Rows;" "ColdShips") nzw_85)) (fun _ h9 => h9) rfl dX11_landing_4 ?_
  refine lv_iload_n hx hb dX11_landing_7 rfl (lv_at hl 1 rfl) ?_
  refine tgk_5 hG y20 (fun y24 y24n y25a y25b y25c => ?_)
  refine tpk_5 hT y20 (fun o26_x0 o26_x2 hf_o26 ro26_0 ro26_1 => ?_)
  refine tpk_pos (tp_in hG y20 (by decide)) hf_o26 (fun q27 eq27 => ?_)
  have ro26_0 := tp_hu ro26_0; have ro26_1 := tp_hu ro26_1
  refine pz_calli (va_runV (As := [.int v]) (rest := []) ⟨hx, hb, hml, hown, hts⟩ (t_X4_has l dC dI _ Ω κ τ ν ρ L f hG hT (ρ (ρ h0 0) 17) v y20 o26_x0 o26_x2 hf_o26) (cwV 1 hts gX11_landing_X4_has rfl rfl rfl ⟨rfl, pd_X4_has⟩ ⟨Nat.le_of_ble_eq_true rfl, Nat.le_of_ble_eq_true rfl⟩) ⟨pz_blind, va_recv hK hP (ci := 4) (q0 := q27) rfl eq27, pz_pre hP hK hD hN⟩ rfl rfl hl.1 rfl (lv_room (Nat.le_of_ble_eq_true rfl)) dX11_landing_8 ⟨Nat.le_of_ble_eq_true rfl, Nat.le_of_ble_eq_true rfl⟩) (fun r28 hw29 => ?_)
  obtain ⟨hw29r, hw29p⟩ := hw29
  refine lv_if_ne (tgt := 16) hx hb dX11_landing_11 (by decide) (fun c30 => ?_) (fun c30 => ?_)
  · have ic30 : r28.toInt ≠ 0 := zi_ne rfl rfl c30
    have p31 : 0 ≤ v.toInt ∧ v.toInt < o26_x2.toInt := (tp_cond.yes hw29p) (by omega)
    clear hw29r ic30
    refine lv_iload_n hx hb dX11_landing_16 rfl (lv_at hl 2 rfl) ?_
    rcases zi_sw u 0 6 with h32 | h32
    · refine lv_tableOut (tgt := 152) hx hb dX11_landing_17 h32 (by decide) ?_
      refine lv_iconst (v := (-1)) hx hb dX11_landing_152 (by decide) ?_
      exact W.iret (v := (-1)) hx hb hr (fun t ht hW => ⟨⟨(-1), f, rfl, ⟨hT, hR, trivial, trivial⟩, by rw [ht]; exact hP, va_K.moved hW.alike hK, hD⟩, hS.F ht⟩) hS.2.2 dX11_landing_153
    · rcases (show u.toInt = 0 ∨ u.toInt = 1 ∨ u.toInt = 2 ∨ u.toInt = 3 ∨ u.toInt = 4 ∨ u.toInt = 5 ∨ u.toInt = 6 by omega) with h32k | h32k | h32k | h32k | h32k | h32k | h32k
      · refine lv_tableIn (tgt := 60) hx hb dX11_landing_17 (by omega) (by omega) (by rw [h32k]; rfl) (by decide) ?_
        refine lv_aload_n hx hb dX11_landing_60 rfl (lv_at hl 0 rfl) ?_
        refine va_get (D := (dC, dI)) (ci := 11) (v := .ref (ρ h0 0)) (C := RX11) (T := TX11) (N := 7) hx hb hts hfX11 hown hK hP q9 eq9 rfl 0 (by decide) (hts (.fieldLink RX11 10 "ColdShips" "world" "LColdShips$World;") wa_15) (fun _ h9 => h9) rfl dX11_landing_61 ?_
        refine va_getN (D := (dC, dI)) (ci := 10) (v := .ref (ρ (ρ h0 0) 17)) (C := RX10) (T := TX10) (N := 19) hx hb hts hfX10 hown hK hP q23 eq23 rfl 17 (by decide) (va_Nw.use rfl (hN.1 (.fieldLinkNest RX11 207 "ColdShips$World" "landings" "LColdShips$Rows;" "ColdShips") nzw_85)) (fun _ h9 => h9) rfl dX11_landing_64 ?_
        refine lv_iload_n hx hb dX11_landing_67 rfl (lv_at hl 1 rfl) ?_
        refine lv_iconst (v := 0) hx hb dX11_landing_68 (by decide) ?_
        refine pz_calli (va_runV (As := [.int v, .int 0]) (rest := []) ⟨hx, hb, hml, hown, hts⟩ (t_X4_number l dC dI _ Ω κ τ ν ρ L f hG hT (ρ (ρ h0 0) 17) v (0) y20) (cwV 2 hts gX11_landing_X4_number rfl rfl rfl ⟨rfl, pd_X4_number⟩ ⟨Nat.le_of_ble_eq_true rfl, Nat.le_of_ble_eq_true rfl⟩) ⟨pz_blind, va_recv hK hP (ci := 4) (q0 := q27) rfl eq27, pz_pre hP hK hD hN⟩ rfl rfl hl.1 rfl (lv_room (Nat.le_of_ble_eq_true rfl)) dX11_landing_69 ⟨Nat.le_of_ble_eq_true rfl, Nat.le_of_ble_eq_true rfl⟩) (fun r33 hw34 => ?_)
        obtain ⟨hw34r, hw34p⟩ := hw34
        exact W.iret (v := r33) hx hb hr (fun t ht hW => ⟨⟨r33, f, rfl, ⟨hT, hR, trivial, trivial⟩, by rw [ht]; exact hP, va_K.moved hW.alike hK, hD⟩, hS.F ht⟩) hS.2.2 dX11_landing_72
      · refine lv_tableIn (tgt := 73) hx hb dX11_landing_17 (by omega) (by omega) (by rw [h32k]; rfl) (by decide) ?_
        refine lv_aload_n hx hb dX11_landing_73 rfl (lv_at hl 0 rfl) ?_
        refine va_get (D := (dC, dI)) (ci := 11) (v := .ref (ρ h0 0)) (C := RX11) (T := TX11) (N := 7) hx hb hts hfX11 hown hK hP q9 eq9 rfl 0 (by decide) (hts (.fieldLink RX11 10 "ColdShips" "world" "LColdShips$World;") wa_15) (fun _ h9 => h9) rfl dX11_landing_74 ?_
        refine va_getN (D := (dC, dI)) (ci := 10) (v := .ref (ρ (ρ h0 0) 17)) (C := RX10) (T := TX10) (N := 19) hx hb hts hfX10 hown hK hP q23 eq23 rfl 17 (by decide) (va_Nw.use rfl (hN.1 (.fieldLinkNest RX11 207 "ColdShips$World" "landings" "LColdShips$Rows;" "ColdShips") nzw_85)) (fun _ h9 => h9) rfl dX11_landing_77 ?_
        refine lv_iload_n hx hb dX11_landing_80 rfl (lv_at hl 1 rfl) ?_
        refine lv_iconst (v := 1) hx hb dX11_landing_81 (by decide) ?_
        refine pz_calli (va_runV (As := [.int v, .int 1]) (rest := []) ⟨hx, hb, hml, hown, hts⟩ (t_X4_number l dC dI _ Ω κ τ ν ρ L f hG hT (ρ (ρ h0 0) 17) v (1) y20) (cwV 2 hts gX11_landing_X4_number rfl rfl rfl ⟨rfl, pd_X4_number⟩ ⟨Nat.le_of_ble_eq_true rfl, Nat.le_of_ble_eq_true rfl⟩) ⟨pz_blind, va_recv hK hP (ci := 4) (q0 := q27) rfl eq27, pz_pre hP hK hD hN⟩ rfl rfl hl.1 rfl (lv_room (Nat.le_of_ble_eq_true rfl)) dX11_landing_82 ⟨Nat.le_of_ble_eq_true rfl, Nat.le_of_ble_eq_true rfl⟩) (fun r35 hw36 => ?_)
        obtain ⟨hw36r, hw36p⟩ := hw36
        exact W.iret (v := r35) hx hb hr (fun t ht hW => ⟨⟨r35, f, rfl, ⟨hT, hR, trivial, trivial⟩, by rw [ht]; exact hP, va_K.moved hW.alike hK, hD⟩, hS.F ht⟩) hS.2.2 dX11_landing_85
      · refine lv_tableIn (tgt := 86) hx hb dX11_landing_17 (by omega) (by omega) (by rw [h32k]; rfl) (by decide) ?_
        refine lv_aload_n hx hb dX11_landing_86 rfl (lv_at hl 0 rfl) ?_
        refine va_get (D := (dC, dI)) (ci := 11) (v := .ref (ρ h0 0)) (C := RX11) (T := TX11) (N := 7) hx hb hts hfX11 hown hK hP q9 eq9 rfl 0 (by decide) (hts (.fieldLink RX11 10 "ColdShips" "world" "LColdShips$World;") wa_15) (fun _ h9 => h9) rfl dX11_landing_87 ?_
        refine va_getN (D := (dC, dI)) (ci := 10) (v := .ref (ρ (ρ h0 0) 17)) (C := RX10) (T := TX10) (N := 19) hx hb hts hfX10 hown hK hP q23 eq23 rfl 17 (by decide) (va_Nw.use rfl (hN.1 (.fieldLinkNest RX11 207 "ColdShips$World" "landings" "LColdShips$Rows;" "ColdShips") nzw_85)) (fun _ h9 => h9) rfl dX11_landing_90 ?_
        refine lv_iload_n hx hb dX11_landing_93 rfl (lv_at hl 1 rfl) ?_
        refine lv_iconst (v := 2) hx hb dX11_landing_94 (by decide) ?_
        refine pz_calli (va_runV (As := [.int v, .int 2]) (rest := []) ⟨hx, hb, hml, hown, hts⟩ (t_X4_number l dC dI _ Ω κ τ ν ρ L f hG hT (ρ (ρ h0 0) 17) v (2) y20) (cwV 2 hts gX11_landing_X4_number rfl rfl rfl ⟨rfl, pd_X4_number⟩ ⟨Nat.le_of_ble_eq_true rfl, Nat.le_of_ble_eq_true rfl⟩) ⟨pz_blind, va_recv hK hP (ci := 4) (q0 := q27) rfl eq27, pz_pre hP hK hD hN⟩ rfl rfl hl.1 rfl (lv_room (Nat.le_of_ble_eq_true rfl)) dX11_landing_95 ⟨Nat.le_of_ble_eq_true rfl, Nat.le_of_ble_eq_true rfl⟩) (fun r37 hw38 => ?_)
        obtain ⟨hw38r, hw38p⟩ := hw38
        exact W.iret (v := r37) hx hb hr (fun t ht hW => ⟨⟨r37, f, rfl, ⟨hT, hR, trivial, trivial⟩, by rw [ht]; exact hP, va_K.moved hW.alike hK, hD⟩, hS.F ht⟩) hS.2.2 dX11_landing_98
      · refine lv_tableIn (tgt := 99) hx hb dX11_landing_17 (by omega) (by omega) (by rw [h32k]; rfl) (by decide) ?_
        refine lv_aload_n hx hb dX11_landing_99 rfl (lv_at hl 0 rfl) ?_
        refine va_get (D := (dC, dI)) (ci := 11) (v := .ref (ρ h0 0)) (C := RX11) (T := TX11) (N := 7) hx hb hts hfX11 hown hK hP q9 eq9 rfl 0 (by decide) (hts (.fieldLink RX11 10 "ColdShips" "world" "LColdShips$World;") wa_15) (fun _ h9 => h9) rfl dX11_landing_100 ?_
        refine va_getN (D := (dC, dI)) (ci := 10) (v := .ref (ρ (ρ h0 0) 17)) (C := RX10) (T := TX10) (N := 19) hx hb hts hfX10 hown hK hP q23 eq23 rfl 17 (by decide) (va_Nw.use rfl (hN.1 (.fieldLinkNest RX11 207 "ColdShips$World" "landings" "LColdShips$Rows;" "ColdShips") nzw_85)) (fun _ h9 => h9) rfl dX11_landing_103 ?_
        refine lv_iload_n hx hb dX11_landing_106 rfl (lv_at hl 1 rfl) ?_
        refine lv_iconst (v := 3) hx hb dX11_landing_107 (by decide) ?_
        refine pz_calli (va_runV (As := [.int v, .int 3]) (rest := []) ⟨hx, hb, hml, hown, hts⟩ (t_X4_number l dC dI _ Ω κ τ ν ρ L f hG hT (ρ (ρ h0 0) 17) v (3) y20) (cwV 2 hts gX11_landing_X4_number rfl rfl rfl ⟨rfl, pd_X4_number⟩ ⟨Nat.le_of_ble_eq_true rfl, Nat.le_of_ble_eq_true rfl⟩) ⟨pz_blind, va_recv hK hP (ci := 4) (q0 := q27) rfl eq27, pz_pre hP hK hD hN⟩ rfl rfl hl.1 rfl (lv_room (Nat.le_of_ble_eq_true rfl)) dX11_landing_108 ⟨Nat.le_of_ble_eq_true rfl, Nat.le_of_ble_eq_true rfl⟩) (fun r39 hw40 => ?_)
        obtain ⟨hw40r, hw40p⟩ := hw40
        exact W.iret (v := r39) hx hb hr (fun t ht hW => ⟨⟨r39, f, rfl, ⟨hT, hR, trivial, trivial⟩, by rw [ht]; exact hP, va_K.moved hW.alike hK, hD⟩, hS.F ht⟩) hS.2.2 dX11_landing_111
      · refine lv_tableIn (tgt := 112) hx hb dX11_landing_17 (by omega) (by omega) (by rw [h32k]; rfl) (by decide) ?_
        refine lv_aload_n hx hb dX11_landing_112 rfl (lv_at hl 0 rfl) ?_
        refine va_get (D := (dC, dI)) (ci := 11) (v := .ref (ρ h0 0)) (C := RX11) (T := TX11) (N := 7) hx hb hts hfX11 hown hK hP q9 eq9 rfl 0 (by decide) (hts (.fieldLink RX11 10 "ColdShips" "world" "LColdShips$World;") wa_15) (fun _ h9 => h9) rfl dX11_landing_113 ?_
        refine va_getN (D := (dC, dI)) (ci := 10) (v := .ref (ρ (ρ h0 0) 17)) (C := RX10) (T := TX10) (N := 19) hx hb hts hfX10 hown hK hP q23 eq23 rfl 17 (by decide) (va_Nw.use rfl (hN.1 (.fieldLinkNest RX11 207 "ColdShips$World" "landings" "LColdShips$Rows;" "ColdShips") nzw_85)) (fun _ h9 => h9) rfl dX11_landing_116 ?_
        refine lv_iload_n hx hb dX11_landing_119 rfl (lv_at hl 1 rfl) ?_
        refine lv_iconst (v := 4) hx hb dX11_landing_120 (by decide) ?_
        refine pz_calli (va_runV (As := [.int v, .int 4]) (rest := []) ⟨hx, hb, hml, hown, hts⟩ (t_X4_number l dC dI _ Ω κ τ ν ρ L f hG hT (ρ (ρ h0 0) 17) v (4) y20) (cwV 2 hts gX11_landing_X4_number rfl rfl rfl ⟨rfl, pd_X4_number⟩ ⟨Nat.le_of_ble_eq_true rfl, Nat.le_of_ble_eq_true rfl⟩) ⟨pz_blind, va_recv hK hP (ci := 4) (q0 := q27) rfl eq27, pz_pre hP hK hD hN⟩ rfl rfl hl.1 rfl (lv_room (Nat.le_of_ble_eq_true rfl)) dX11_landing_121 ⟨Nat.le_of_ble_eq_true rfl, Nat.le_of_ble_eq_true rfl⟩) (fun r41 hw42 => ?_)
        obtain ⟨hw42r, hw42p⟩ := hw42
        exact W.iret (v := r41) hx hb hr (fun t ht hW => ⟨⟨r41, f, rfl, ⟨hT, hR, trivial, trivial⟩, by rw [ht]; exact hP, va_K.moved hW.alike hK, hD⟩, hS.F ht⟩) hS.2.2 dX11_landing_124
      · refine lv_tableIn (tgt := 125) hx hb dX11_landing_17 (by omega) (by omega) (by rw [h32k]; rfl) (by decide) ?_
        refine lv_aload_n hx hb dX11_landing_125 rfl (lv_at hl 0 rfl) ?_
        refine va_get (D := (dC, dI)) (ci := 11) (v := .ref (ρ h0 0)) (C := RX11) (T := TX11) (N := 7) hx hb hts hfX11 hown hK hP q9 eq9 rfl 0 (by decide) (hts (.fieldLink RX11 10 "ColdShips" "world" "LColdShips$World;") wa_15) (fun _ h9 => h9) rfl dX11_landing_126 ?_
        refine lv_iload_n hx hb dX11_landing_129 rfl (lv_at hl 1 rfl) ?_
        refine pz_calll (va_runV (As := [.int v]) (rest := []) ⟨hx, hb, hml, hown, hts⟩ (t_X10_heatOf l dC dI _ Ω κ τ ν ρ L f hG hT (ρ h0 0) v y1) (cwV 1 hts gX11_landing_X10_heatOf rfl rfl rfl ⟨rfl, pd_X10_heatOf⟩ ⟨Nat.le_of_ble_eq_true rfl, Nat.le_of_ble_eq_true rfl⟩) ⟨pz_blind, va_recv hK hP (ci := 10) (q0 := q23) rfl eq23, pz_pre hP hK hD hN⟩ rfl rfl hl.1 rfl (lv_room (Nat.le_of_ble_eq_true rfl)) dX11_landing_130 ⟨Nat.le_of_ble_eq_true rfl, Nat.le_of_ble_eq_true rfl⟩) (fun r43 hw44 => ?_)
        obtain ⟨hw44r, hw44p⟩ := hw44
        refine lv_l2i hx hb dX11_landing_133 rfl ?_
        refine lv_topi (fun z45 ez45 => ?_)
        exact W.iret (v := z45) hx hb hr (fun t ht hW => ⟨⟨z45, f, rfl, ⟨hT, hR, trivial, trivial⟩, by rw [ht]; exact hP, va_K.moved hW.alike hK, hD⟩, hS.F ht⟩) hS.2.2 dX11_landing_134
      · refine lv_tableIn (tgt := 135) hx hb dX11_landing_17 (by omega) (by omega) (by rw [h32k]; rfl) (by decide) ?_
        refine lv_aload_n hx hb dX11_landing_135 rfl (lv_at hl 0 rfl) ?_
        refine va_get (D := (dC, dI)) (ci := 11) (v := .ref (ρ h0 0)) (C := RX11) (T := TX11) (N := 7) hx hb hts hfX11 hown hK hP q9 eq9 rfl 0 (by decide) (hts (.fieldLink RX11 10 "ColdShips" "world" "LColdShips$World;") wa_15) (fun _ h9 => h9) rfl dX11_landing_136 ?_
        refine lv_iload_n hx hb dX11_landing_139 rfl (lv_at hl 1 rfl) ?_
        refine pz_calli (va_runV (As := [.int v]) (rest := []) ⟨hx, hb, hml, hown, hts⟩ (t_X10_isSettled l dC dI _ Ω κ τ ν ρ L f hG hT (ρ h0 0) v y1) (cwV 1 hts gX11_landing_X10_isSettled rfl rfl rfl ⟨rfl, pd_X10_isSettled⟩ ⟨Nat.le_of_ble_eq_true rfl, Nat.le_of_ble_eq_true rfl⟩) ⟨pz_blind, va_recv hK hP (ci := 10) (q0 := q23) rfl eq23, pz_pre hP hK hD hN⟩ rfl rfl hl.1 rfl (lv_room (Nat.le_of_ble_eq_true rfl)) dX11_landing_140 ⟨Nat.le_of_ble_eq_true rfl, Nat.le_of_ble_eq_true rfl⟩) (fun r46 hw47 => ?_)
        obtain ⟨hw47r, hw47p⟩ := hw47
        refine lv_if_eq (tgt := 150) hx hb dX11_landing_143 (by decide) (fun c48 => ?_) (fun c48 => ?_)
        · have ic48 : r46.toInt = 0 := zi_eq rfl rfl c48
          refine lv_iconst (v := 0) hx hb dX11_landing_150 (by decide) ?_
          exact W.iret (v := 0) hx hb hr (fun t ht hW => ⟨⟨0, f, rfl, ⟨hT, hR, trivial, trivial⟩, by rw [ht]; exact hP, va_K.moved hW.alike hK, hD⟩, hS.F ht⟩) hS.2.2 dX11_landing_151
        · have ic48 : r46.toInt ≠ 0 := zi_eqf rfl rfl c48
          refine lv_iconst (v := 1) hx hb dX11_landing_146 (by decide) ?_
          refine lv_goto (tgt := 151) hx hb dX11_landing_147 (by decide) ?_
          exact W.iret (v := 1) hx hb hr (fun t ht hW => ⟨⟨1, f, rfl, ⟨hT, hR, trivial, trivial⟩, by rw [ht]; exact hP, va_K.moved hW.alike hK, hD⟩, hS.F ht⟩) hS.2.2 dX11_landing_151
  · have ic30 : r28.toInt = 0 := zi_nef rfl rfl c30
    clear hw29r ic30
    refine lv_iconst (v := (-1)) hx hb dX11_landing_14 (by decide) ?_
    exact W.iret (v := (-1)) hx hb hr (fun t ht hW => ⟨⟨(-1), f, rfl, ⟨hT, hR, trivial, trivial⟩, by rw [ht]; exact hP, va_K.moved hW.alike hK, hD⟩, hS.F ht⟩) hS.2.2 dX11_landing_15
set_option maxHeartbeats 4000000 in
set_option maxRecDepth 100000 in
theorem t_X11_led (l : Launch) (dC : Nat → ClassId) (dI : Nat → Nat → Nat) (sz : Nat) (Ω : Nat → Nat → (Nat → Nat) → va_E → Prop) (κ : Nat → ClassId) (τ ν : Nat → Nat) (ρ : Nat → Nat → Nat) (L : List Nat) (f : Nat → va_E) (hG : tp_G τ ν ρ L) (hT : tp_T Ω κ τ ν ρ f) (h0 : Nat) (v : Int32) (u : Int32) (ht_h0 : τ h0 = 12) : Met l yX11_led wqX11_led ({ frames := 4, cells := 0, slots := 0, locals := 1200 }) (va_Pc [.ref h0, .int v, .int u] (pz_B dC dI (tp_K κ) (va_pl L f) sz)) (va_Qi (fun (r : Int32) (f1 : Nat → va_E) => tp_T Ω κ τ ν ρ f1 ∧ tp_F τ [] f f1 ∧ True ∧ True) (fun (f1 : Nat → va_E) (t : State) => pz_E dC dI (tp_K κ) (va_A (va_pl L f) sz) (va_pl L f1) t) (va_A (va_pl L f) sz)) 0 0 (va_A (va_pl L f) sz) := by
  refine Met.ofW (cc := cX11_led) (maxL := 3) (ret := some .int) (by decide) rfl ?_
  intro p e s m args below meth c s₁ B hml hv
  obtain ⟨rfl, hsz, hP, hK, hD0, hN⟩ := hv
  have hx := B.exec
  have hb := B.bytes
  have hr := B.returns
  have hts := fun (w : Cond) (h : w ∈ WALL) => atoms_spec (ws := wqX11_led) B.pre w (List.mem_cons_of_mem _ h)
  have hown : s.vm.findClass RX11 = some m.cls := findClass_of_methodNamed B.named
  have hlocks := B.notSynchronized
  subst hsz
  have hD := hD0.self (sz := s.heap.size)
  generalize hAe : va_A (va_pl L f) s.heap.size = A at hD ⊢
  have hA : ∀ q : Nat, s.heap.size ≤ q → A q := fun q h => by rw [← hAe]; exact Or.inr h
  have hS : va_S A s.heap s.heap [] := va_S.rf
  have hR : tp_F τ [] f f := tp_F.rf
  have hl := lv_entry ([.ref h0, .int v, .int u]) (n := 3) (Nat.le_of_ble_eq_true rfl)
  rw [lg_entry_eq]
  generalize (lg_sl ([.ref h0, .int v, .int u]) ++ List.replicate (3 - (lg_sl ([.ref h0, .int v, .int u])).length) Slot.unset).toArray = ls at hl ⊢
  have hl : lv_has ls 3 [(0, .ref h0), (1, .int v), (2, .int u)] := hl
  refine lv_aload_n hx hb dX11_led_0 rfl (lv_at hl 0 rfl) ?_
  refine tgk_12 hG ht_h0 (fun y1 y1l y2 y3 y4 y5 y6 y7a y7b y7c => ?_)
  refine tpk_12 hT ht_h0 (fun o8_x6 hf_o8 => ?_)
  refine tpk_pos (tp_in hG ht_h0 (by decide)) hf_o8 (fun q9 eq9 => ?_)
  refine va_get (D := (dC, dI)) (ci := 11) (v := .ref (ρ h0 0)) (C := RX11) (T := TX11) (N := 7) hx hb hts hfX11 hown hK hP q9 eq9 rfl 0 (by decide) (hts (.fieldLink RX11 10 "ColdShips" "world" "LColdShips$World;") wa_15) (fun _ h9 => h9) rfl dX11_led_1 ?_
  refine tgk_11 hG y1 (fun y10 y10n y11 y11n y12 y13 y14 y15 y15m y15l y16 y16m y16l y17 y17m y17l y18 y18w y18m y18l y19 y19w y19m y19l y20 y20w y20m y20l y21 y21w y21m y21l => ?_)
  refine tpk_11 hT y1 (fun o22_x0 o22_x1 o22_x2 o22_x3 o22_x4 o22_x5 o22_x6 hf_o22 ro22_0 ro22_1 ro22_2 ro22_3 => ?_)
  refine tpk_pos (tp_in hG y1 (by decide)) hf_o22 (fun q23 eq23 => ?_)
  refine va_getN (D := (dC, dI)) (ci := 10) (v := .ref (ρ (ρ h0 0) 17)) (C := RX10) (T := TX10) (N := 19) hx hb hts hfX10 hown hK hP q23 eq23 rfl 17 (by decide) (va_Nw.use rfl (hN.1 (.fieldLinkNest RX11 207 "ColdShips$World" "landings" "LColdShips$Rows;" "ColdShips") nzw_85)) (fun _ h9 => h9) rfl dX11_led_4 ?_
  refine lv_iload_n hx hb dX11_led_7 rfl (lv_at hl 1 rfl) ?_
  refine tgk_5 hG y20 (fun y24 y24n y25a y25b y25c => ?_)
  refine tpk_5 hT y20 (fun o26_x0 o26_x2 hf_o26 ro26_0 ro26_1 => ?_)
  refine tpk_pos (tp_in hG y20 (by decide)) hf_o26 (fun q27 eq27 => ?_)
  have ro26_0 := tp_hu ro26_0; have ro26_1 := tp_hu ro26_1
  refine pz_calli (va_runV (As := [.int v]) (rest := []) ⟨hx, hb, hml, hown, hts⟩ (t_X4_has l dC dI _ Ω κ τ ν ρ L f hG hT (ρ (ρ h0 0) 17) v y20 o26_x0 o26_x2 hf_o26) (cwV 1 hts gX11_led_X4_has rfl rfl rfl ⟨rfl, pd_X4_has⟩ ⟨Nat.le_of_ble_eq_true rfl, Nat.le_of_ble_eq_true rfl⟩) ⟨pz_blind, va_recv hK hP (ci := 4) (q0 := q27) rfl eq27, pz_pre hP hK hD hN⟩ rfl rfl hl.1 rfl (lv_room (Nat.le_of_ble_eq_true rfl)) dX11_led_8 ⟨Nat.le_of_ble_eq_true rfl, Nat.le_of_ble_eq_true rfl⟩) (fun r28 hw29 => ?_)
  obtain ⟨hw29r, hw29p⟩ := hw29
  refine lv_if_eq (tgt := 25) hx hb dX11_led_11 (by decide) (fun c30 => ?_) (fun c30 => ?_)
  · have ic30 : r28.toInt = 0 := zi_eq rfl rfl c30
    clear hw29r ic30
    refine lv_iconst (v := (-1)) hx hb dX11_led_25 (by decide) ?_
    exact W.iret (v := (-1)) hx hb hr (fun t ht hW => ⟨⟨(-1), f, rfl, ⟨hT, hR, trivial, trivial⟩, by rw [ht]; exact hP, va_K.moved hW.alike hK, hD⟩, hS.F ht⟩) hS.2.2 dX11_led_26
  · have ic30 : r28.toInt ≠ 0 := zi_eqf rfl rfl c30
    have p31 : 0 ≤ v.toInt ∧ v.toInt < o26_x2.toInt := (tp_cond.yes hw29p) (by omega)
    clear hw29r ic30
    refine lv_aload_n hx hb dX11_led_14 rfl (lv_at hl 0 rfl) ?_
    refine va_get (D := (dC, dI)) (ci := 11) (v := .ref (ρ h0 0)) (C := RX11) (T := TX11) (N := 7) hx hb hts hfX11 hown hK hP q9 eq9 rfl 0 (by decide) (hts (.fieldLink RX11 10 "ColdShips" "world" "LColdShips$World;") wa_15) (fun _ h9 => h9) rfl dX11_led_15 ?_
    refine lv_iload_n hx hb dX11_led_18 rfl (lv_at hl 2 rfl) ?_
    have ro22_0 := tp_hu ro22_0; have ro22_1 := tp_hu ro22_1; have ro22_2 := tp_hu ro22_2; have ro22_3 := tp_hu ro22_3
    refine pz_calli (va_runV (As := [.int u]) (rest := []) ⟨hx, hb, hml, hown, hts⟩ (t_X10_hasTerminal l dC dI _ Ω κ τ ν ρ L f hG hT (ρ h0 0) u y1 o22_x0 o22_x1 o22_x2 o22_x3 o22_x4 o22_x5 o22_x6 hf_o22) (cwV 1 hts gX11_led_X10_hasTerminal rfl rfl rfl ⟨rfl, pd_X10_hasTerminal⟩ ⟨Nat.le_of_ble_eq_true rfl, Nat.le_of_ble_eq_true rfl⟩) ⟨pz_blind, va_recv hK hP (ci := 10) (q0 := q23) rfl eq23, pz_pre hP hK hD hN⟩ rfl rfl hl.1 rfl (lv_room (Nat.le_of_ble_eq_true rfl)) dX11_led_19 ⟨Nat.le_of_ble_eq_true rfl, Nat.le_of_ble_eq_true rfl⟩) (fun r32 hw33 => ?_)
    obtain ⟨hw33r, hw33p⟩ := hw33
    refine lv_if_ne (tgt := 27) hx hb dX11_led_22 (by decide) (fun c34 => ?_) (fun c34 => ?_)
    · have ic34 : r32.toInt ≠ 0 := zi_ne rfl rfl c34
      have p35 : 0 ≤ u.toInt ∧ u.toInt < o22_x4.toInt := (tp_cond.yes hw33p) (by omega)
      clear hw33r ic34
      refine lv_aload_n hx hb dX11_led_27 rfl (lv_at hl 0 rfl) ?_
      refine va_get (D := (dC, dI)) (ci := 11) (v := .ref (ρ h0 0)) (C := RX11) (T := TX11) (N := 7) hx hb hts hfX11 hown hK hP q9 eq9 rfl 0 (by decide) (hts (.fieldLink RX11 10 "ColdShips" "world" "LColdShips$World;") wa_15) (fun _ h9 => h9) rfl dX11_led_28 ?_
      refine va_getN (D := (dC, dI)) (ci := 10) (v := .ref (ρ (ρ h0 0) 17)) (C := RX10) (T := TX10) (N := 19) hx hb hts hfX10 hown hK hP q23 eq23 rfl 17 (by decide) (va_Nw.use rfl (hN.1 (.fieldLinkNest RX11 207 "ColdShips$World" "landings" "LColdShips$Rows;" "ColdShips") nzw_85)) (fun _ h9 => h9) rfl dX11_led_31 ?_
      refine lv_iload_n hx hb dX11_led_34 rfl (lv_at hl 1 rfl) ?_
      refine lv_iconst (v := 5) hx hb dX11_led_35 (by decide) ?_
      refine lv_iload_n hx hb dX11_led_36 rfl (lv_at hl 2 rfl) ?_
      refine lv_iadd hx hb dX11_led_37 ?_
      refine lv_topi (fun z36 ez36 => ?_)
      have iz36 : z36.toInt = 5 + u.toInt := zi_add ez36 rfl rfl (by omega) (by omega)
      refine pz_calli (va_runV (As := [.int v, .int z36]) (rest := []) ⟨hx, hb, hml, hown, hts⟩ (t_X4_number l dC dI _ Ω κ τ ν ρ L f hG hT (ρ (ρ h0 0) 17) v z36 y20) (cwV 2 hts gX11_led_X4_number rfl rfl rfl ⟨rfl, pd_X4_number⟩ ⟨Nat.le_of_ble_eq_true rfl, Nat.le_of_ble_eq_true rfl⟩) ⟨pz_blind, va_recv hK hP (ci := 4) (q0 := q27) rfl eq27, pz_pre hP hK hD hN⟩ rfl rfl hl.1 rfl (lv_room (Nat.le_of_ble_eq_true rfl)) dX11_led_38 ⟨Nat.le_of_ble_eq_true rfl, Nat.le_of_ble_eq_true rfl⟩) (fun r37 hw38 => ?_)
      obtain ⟨hw38r, hw38p⟩ := hw38
      exact W.iret (v := r37) hx hb hr (fun t ht hW => ⟨⟨r37, f, rfl, ⟨hT, hR, trivial, trivial⟩, by rw [ht]; exact hP, va_K.moved hW.alike hK, hD⟩, hS.F ht⟩) hS.2.2 dX11_led_41
    · have ic34 : r32.toInt = 0 := zi_nef rfl rfl c34
      clear hw33r ic34
      refine lv_iconst (v := (-1)) hx hb dX11_led_25 (by decide) ?_
      exact W.iret (v := (-1)) hx hb hr (fun t ht hW => ⟨⟨(-1), f, rfl, ⟨hT, hR, trivial, trivial⟩, by rw [ht]; exact hP, va_K.moved hW.alike hK, hD⟩, hS.F ht⟩) hS.2.2 dX11_led_26
set_option maxHeartbeats 4000000 in
set_option maxRecDepth 100000 in
theorem t_X11_heat (l : Launch) (dC : Nat → ClassId) (dI : Nat → Nat → Nat) (sz : Nat) (Ω : Nat → Nat → (Nat → Nat) → va_E → Prop) (κ : Nat → ClassId) (τ ν : Nat → Nat) (ρ : Nat → Nat → Nat) (L : List Nat) (f : Nat → va_E) (hG : tp_G τ ν ρ L) (hT : tp_T Ω κ τ ν ρ f) (h0 : Nat) (v : Int32) (u : Int32) (ht_h0 : τ h0 = 12) : Met l yX11_heat wqX11_heat ({ frames := 3, cells := 0, slots := 0, locals := 800 }) (va_Pc [.ref h0, .int v, .int u] (pz_B dC dI (tp_K κ) (va_pl L f) sz)) (va_Qi (fun (r : Int32) (f1 : Nat → va_E) => tp_T Ω κ τ ν ρ f1 ∧ tp_F τ [9, 12] f f1 ∧ True ∧ True) (fun (f1 : Nat → va_E) (t : State) => pz_E dC dI (tp_K κ) (va_A (va_pl L f) sz) (va_pl L f1) t) (va_A (va_pl L f) sz)) 0 0 (va_A (va_pl L f) sz) := by
  refine Met.ofW (cc := cX11_heat) (maxL := 4) (ret := some .int) (by decide) rfl ?_
  intro p e s m args below meth c s₁ B hml hv
  obtain ⟨rfl, hsz, hP, hK, hD0, hN⟩ := hv
  have hx := B.exec
  have hb := B.bytes
  have hr := B.returns
  have hts := fun (w : Cond) (h : w ∈ WALL) => atoms_spec (ws := wqX11_heat) B.pre w (List.mem_cons_of_mem _ h)
  have hown : s.vm.findClass RX11 = some m.cls := findClass_of_methodNamed B.named
  have hlocks := B.notSynchronized
  subst hsz
  have hD := hD0.self (sz := s.heap.size)
  generalize hAe : va_A (va_pl L f) s.heap.size = A at hD ⊢
  have hA : ∀ q : Nat, s.heap.size ≤ q → A q := fun q h => by rw [← hAe]; exact Or.inr h
  have hS : va_S A s.heap s.heap [] := va_S.rf
  have hR : tp_F τ [9, 12] f f := tp_F.rf
  have hl := lv_entry ([.ref h0, .int v, .int u]) (n := 4) (Nat.le_of_ble_eq_true rfl)
  rw [lg_entry_eq]
  generalize (lg_sl ([.ref h0, .int v, .int u]) ++ List.replicate (4 - (lg_sl ([.ref h0, .int v, .int u])).length) Slot.unset).toArray = ls at hl ⊢
  have hl : lv_has ls 4 [(0, .ref h0), (1, .int v), (2, .int u)] := hl
  refine lv_iload_n hx hb dX11_heat_0 rfl (lv_at hl 2 rfl) ?_
  refine lv_sipush (v := 500) hx hb dX11_heat_1 (by decide) ?_
  refine lv_sipush (v := 2000) hx hb dX11_heat_4 (by decide) ?_
  refine pz_calli (va_runS (As := [.int u, .int 500, .int 2000]) (rest := []) ⟨hx, hb, hml, hown, hts⟩ (t_X11_within l dC dI _ u (500) (2000) (u.toInt) (500) (2000) rfl rfl rfl) (va_cwS 3 hts gX11_heat_X11_within rfl rfl rfl pd_X11_within ⟨Nat.le_of_ble_eq_true rfl, Nat.le_of_ble_eq_true rfl⟩) ⟨pz_blind, pz_pre pz_P0 (hK.sub (tys' := []) [] rfl) (pz_D0 (A := fun _ => True)) hN⟩ rfl rfl hl.1 rfl (lv_room (Nat.le_of_ble_eq_true rfl)) dX11_heat_7 ⟨Nat.le_of_ble_eq_true rfl, Nat.le_of_ble_eq_true rfl⟩) (fun r1 hw2 => ?_)
  obtain ⟨hw2r, hw2p⟩ := hw2
  refine lv_if_ne (tgt := 19) hx hb dX11_heat_10 (by decide) (fun c3 => ?_) (fun c3 => ?_)
  · have ic3 : r1.toInt ≠ 0 := zi_ne rfl rfl c3
    have p4 : (500) ≤ (u.toInt) ∧ (u.toInt) ≤ (2000) := (tp_cond.yes hw2p) (by omega)
    clear hw2r ic3
    refine lv_aload_n hx hb dX11_heat_19 rfl (lv_at hl 0 rfl) ?_
    refine tgk_12 hG ht_h0 (fun y5 y5l y6 y7 y8 y9 y10 y11a y11b y11c => ?_)
    refine tpk_12 hT ht_h0 (fun o12_x6 hf_o12 => ?_)
    refine tpk_pos (tp_in hG ht_h0 (by decide)) hf_o12 (fun q13 eq13 => ?_)
    refine va_get (D := (dC, dI)) (ci := 11) (v := .ref (ρ h0 0)) (C := RX11) (T := TX11) (N := 7) hx hb hts hfX11 hown hK hP q13 eq13 rfl 0 (by decide) (hts (.fieldLink RX11 10 "ColdShips" "world" "LColdShips$World;") wa_15) (fun _ h9 => h9) rfl dX11_heat_20 ?_
    refine lv_iload_n hx hb dX11_heat_23 rfl (lv_at hl 1 rfl) ?_
    refine tgk_11 hG y5 (fun y14 y14n y15 y15n y16 y17 y18 y19 y19m y19l y20 y20m y20l y21 y21m y21l y22 y22w y22m y22l y23 y23w y23m y23l y24 y24w y24m y24l y25 y25w y25m y25l => ?_)
    refine tpk_11 hT y5 (fun o26_x0 o26_x1 o26_x2 o26_x3 o26_x4 o26_x5 o26_x6 hf_o26 ro26_0 ro26_1 ro26_2 ro26_3 => ?_)
    refine tpk_pos (tp_in hG y5 (by decide)) hf_o26 (fun q27 eq27 => ?_)
    have ro26_0 := tp_hu ro26_0; have ro26_1 := tp_hu ro26_1; have ro26_2 := tp_hu ro26_2; have ro26_3 := tp_hu ro26_3
    refine pz_calli (va_runV (As := [.int v]) (rest := []) ⟨hx, hb, hml, hown, hts⟩ (t_X10_hasTerminal l dC dI _ Ω κ τ ν ρ L f hG hT (ρ h0 0) v y5 o26_x0 o26_x1 o26_x2 o26_x3 o26_x4 o26_x5 o26_x6 hf_o26) (cwV 1 hts gX11_heat_X10_hasTerminal rfl rfl rfl ⟨rfl, pd_X10_hasTerminal⟩ ⟨Nat.le_of_ble_eq_true rfl, Nat.le_of_ble_eq_true rfl⟩) ⟨pz_blind, va_recv hK hP (ci := 10) (q0 := q27) rfl eq27, pz_pre hP hK hD hN⟩ rfl rfl hl.1 rfl (lv_room (Nat.le_of_ble_eq_true rfl)) dX11_heat_24 ⟨Nat.le_of_ble_eq_true rfl, Nat.le_of_ble_eq_true rfl⟩) (fun r28 hw29 => ?_)
    obtain ⟨hw29r, hw29p⟩ := hw29
    refine lv_if_ne (tgt := 37) hx hb dX11_heat_27 (by decide) (fun c30 => ?_) (fun c30 => ?_)
    · have ic30 : r28.toInt ≠ 0 := zi_ne rfl rfl c30
      have p31 : 0 ≤ v.toInt ∧ v.toInt < o26_x4.toInt := (tp_cond.yes hw29p) (by omega)
      clear hw29r ic30
      refine lv_aload_n hx hb dX11_heat_37 rfl (lv_at hl 0 rfl) ?_
      refine va_get (D := (dC, dI)) (ci := 11) (v := .ref (ρ h0 0)) (C := RX11) (T := TX11) (N := 7) hx hb hts hfX11 hown hK hP q13 eq13 rfl 0 (by decide) (hts (.fieldLink RX11 10 "ColdShips" "world" "LColdShips$World;") wa_15) (fun _ h9 => h9) rfl dX11_heat_38 ?_
      refine va_getN (D := (dC, dI)) (ci := 10) (v := .ref (ρ (ρ h0 0) 9)) (C := RX10) (T := TX10) (N := 19) hx hb hts hfX10 hown hK hP q27 eq27 rfl 9 (by decide) (va_Nw.use rfl (hN.1 (.fieldLinkNest RX11 63 "ColdShips$World" "terminals" "[LColdShips$Terminal;" "ColdShips") nzw_65)) (fun _ h9 => h9) rfl dX11_heat_41 ?_
      refine lv_iload_n hx hb dX11_heat_44 rfl (lv_at hl 1 rfl) ?_
      refine tpk_24 hT y16 (fun g33 hf_o32 hf_o32e => ?_)
      refine tpk_pos (tp_in hG y16 (by decide)) hf_o32 (fun q34 eq34 => ?_)
      refine va_aldq hx hb hK hP q34 4 eq34 rfl (vp_in_iff.mpr ⟨by omega, by omega⟩) dX11_heat_45 ?_
      obtain ⟨b35, hb36⟩ : ∃ b : Nat, b = ρ (ρ (ρ h0 0) 9) v.toNatClampNeg := ⟨_, rfl⟩
      have hb36t : τ b35 = 9 := by rw [hb36]; exact tpg_24 hG y16 _ (zi_cl (vp_in_iff.mpr ⟨by omega, by omega⟩))
      have hb36g : g33 v.toNatClampNeg = some b35 := by rw [hb36]; exact hf_o32e _ (zi_cl (vp_in_iff.mpr ⟨by omega, by omega⟩))
      refine W.eq (g2 := F0 m 46 ls (.ref b35 :: [])) (congrArg (fun o => F0 m 46 ls (va_rf o :: [])) hb36g) ?_
      refine tgk_9 hG hb36t (fun y37 y37n y38 y38n => ?_)
      refine tpk_9 hT hb36t (fun o39_x0 o39_x1 o39_x2 o39_x3 o39_x4 hf_o39 ro39_0 => ?_)
      refine tpk_pos (tp_in hG hb36t (by decide)) hf_o39 (fun q40 eq40 => ?_)
      refine va_getN (D := (dC, dI)) (ci := 8) (v := .int o39_x4) (C := RX8) (T := TX8) (N := 7) hx hb hts hfX8 hown hK hP q40 eq40 rfl 4 (by decide) (va_Nw.use rfl (hN.1 (.fieldLinkNest RX11 226 "ColdShips$Terminal" "heat" "I" "ColdShips") nzw_11)) (fun _ h9 => h9) rfl dX11_heat_46 ?_
      refine lv_istore_n (lv' := [(3, .int o39_x4), (0, .ref h0), (1, .int v), (2, .int u)]) hx hb dX11_heat_49 rfl hl (by decide) rfl (fun ls hl => ?_)
      refine lv_aload_n hx hb dX11_heat_50 rfl (lv_at hl 1 rfl) ?_
      refine va_get (D := (dC, dI)) (ci := 11) (v := .ref (ρ h0 0)) (C := RX11) (T := TX11) (N := 7) hx hb hts hfX11 hown hK hP q13 eq13 rfl 0 (by decide) (hts (.fieldLink RX11 10 "ColdShips" "world" "LColdShips$World;") wa_15) (fun _ h9 => h9) rfl dX11_heat_51 ?_
      refine va_getN (D := (dC, dI)) (ci := 10) (v := .ref (ρ (ρ h0 0) 9)) (C := RX10) (T := TX10) (N := 19) hx hb hts hfX10 hown hK hP q27 eq27 rfl 9 (by decide) (va_Nw.use rfl (hN.1 (.fieldLinkNest RX11 63 "ColdShips$World" "terminals" "[LColdShips$Terminal;" "ColdShips") nzw_65)) (fun _ h9 => h9) rfl dX11_heat_54 ?_
      refine lv_iload_n hx hb dX11_heat_57 rfl (lv_at hl 2 rfl) ?_
      refine va_aldq hx hb hK hP q34 4 eq34 rfl (vp_in_iff.mpr ⟨by omega, by omega⟩) dX11_heat_58 ?_
      obtain ⟨b41, hb42⟩ : ∃ b : Nat, b = ρ (ρ (ρ h0 0) 9) v.toNatClampNeg := ⟨_, rfl⟩
      have hb42t : τ b41 = 9 := by rw [hb42]; exact tpg_24 hG y16 _ (zi_cl (vp_in_iff.mpr ⟨by omega, by omega⟩))
      have hb42g : g33 v.toNatClampNeg = some b41 := by rw [hb42]; exact hf_o32e _ (zi_cl (vp_in_iff.mpr ⟨by omega, by omega⟩))
      refine W.eq (g2 := F0 m 59 ls (.ref b41 :: [])) (congrArg (fun o => F0 m 59 ls (va_rf o :: [])) hb42g) ?_
      refine lv_iload_n hx hb dX11_heat_59 rfl (lv_at hl 3 rfl) ?_
      refine tgk_9 hG hb42t (fun y43 y43n y44 y44n => ?_)
      refine tpk_9 hT hb42t (fun o45_x0 o45_x1 o45_x2 o45_x3 o45_x4 hf_o45 ro45_0 => ?_)
      refine tpk_pos (tp_in hG hb42t (by decide)) hf_o45 (fun q46 eq46 => ?_)
      refine va_putN (D := (dC, dI)) (ci := 8) (v := .int u) (ty := .int) (C := RX8) (T := TX8) (N := 7) hx hb hts hfX8 tyX8 tyX8_ok nmX8 hown hK hP hD hS q46 eq46 rfl 4 (by decide) (va_Nw.use rfl (hN.1 (.fieldLinkNest RX11 226 "ColdShips$Terminal" "heat" "I" "ColdShips") nzw_11)) (fun _ h9 => h9) rfl (tyX8_ok 4 (by decide)) rfl rfl (Nat.le_of_ble_eq_true rfl) dX11_heat_60 (tp_k (.inr (8, [.int o45_x0, .int o45_x1, .int o45_x2, .int o45_x3, .int u, .ref (ρ b41 5), .ref (ρ b41 6)])) hD (tp_in hG hb42t (by decide)) eq46 (fun f47 H locs hP hD hS g49 k48 => ?_))
      have hT := hT.up hb42t g49 k48 ⟨_, _, _, _, _, rfl, ro45_0⟩
      have hR := hR.up hb42t (by decide) k48
      refine lv_aload_n hx hb dX11_heat_63 rfl (lv_at hl 1 rfl) ?_
      refine lv_iload_n hx hb dX11_heat_64 rfl (lv_at hl 0 rfl) ?_
      have hf_50 : f47 h0 = .inr (11, [.ref (ρ h0 0), .ref (ρ h0 1), .ref (ρ h0 2), .ref (ρ h0 3), .ref (ρ h0 4), .ref (ρ h0 5), .int o12_x6]) := (k48 _ (tp_ne ht_h0 hb42t (by decide))).trans hf_o12
      refine tpk_pos (tp_in hG ht_h0 (by decide)) hf_50 (fun q51 eq51 => ?_)
      have hFc := tp_fr hD hS hA
      refine va_calli (va_runV (As := [.int o39_x4]) (rest := []) ⟨hx, hb, hml, hown, hts⟩ (t_X11_accept l dC dI _ Ω κ τ ν ρ L f47 hG hT h0 o39_x4 ht_h0) (cwV 1 hts gX11_heat_X11_accept rfl rfl rfl ⟨rfl, pd_X11_accept⟩ ⟨Nat.le_of_ble_eq_true rfl, Nat.le_of_ble_eq_true rfl⟩) ⟨pz_blind, va_recv hK hP (ci := 11) (q0 := q51) rfl eq51, pz_pre hP hK hD hN⟩ rfl rfl hl.1 rfl (lv_room (Nat.le_of_ble_eq_true rfl)) dX11_heat_65 ⟨Nat.le_of_ble_eq_true rfl, Nat.le_of_ble_eq_true rfl⟩) hS (fun q _ h => hFc q h) hFc (fun r52 f54 t H1 locs ht hvm hw53 hB hz1 hk1 hS => ?_)
      refine tn_4 hw53 (fun hT hF55 hw53r hw53p => ?_); clear hw53
      have hR := hR.then hF55 (by decide)
      have hP := hB.1; rw [ht] at hP; have hD := tp_ad f54 hD; clear hB hFc hz1 hk1; subst ht; generalize t.heap = H at hP hS ⊢
      have hw53pq : r52.toInt = o39_x4.toInt := by rw [hw53p]
      exact W.iret (v := r52) hx hb hr (fun t ht hW => ⟨⟨r52, f54, rfl, ⟨hT, hR, trivial, trivial⟩, by rw [ht]; exact hP, va_K.moved hW.alike hK, hD⟩, hS.F ht⟩) hS.2.2 dX11_heat_68
    · have ic30 : r28.toInt = 0 := zi_nef rfl rfl c30
      clear hw29r ic30
      refine lv_aload_n hx hb dX11_heat_30 rfl (lv_at hl 0 rfl) ?_
      refine lv_bipush (v := (-2)) hx hb dX11_heat_31 (by decide) ?_
      have hFc := tp_fr hD hS hA
      refine va_calli (va_runV (As := [.int (-2)]) (rest := []) ⟨hx, hb, hml, hown, hts⟩ (t_X11_refuse l dC dI _ Ω κ τ ν ρ L f hG hT h0 ((-2)) ht_h0) (cwV 1 hts gX11_heat_X11_refuse rfl rfl rfl ⟨rfl, pd_X11_refuse⟩ ⟨Nat.le_of_ble_eq_true rfl, Nat.le_of_ble_eq_true rfl⟩) ⟨pz_blind, va_recv hK hP (ci := 11) (q0 := q13) rfl eq13, pz_pre hP hK hD hN⟩ rfl rfl hl.1 rfl (lv_room (Nat.le_of_ble_eq_true rfl)) dX11_heat_33 ⟨Nat.le_of_ble_eq_true rfl, Nat.le_of_ble_eq_true rfl⟩) hS (fun q _ h => hFc q h) hFc (fun r56 f58 t H1 locs ht hvm hw57 hB hz1 hk1 hS => ?_)
      refine tn_4 hw57 (fun hT hF59 hw57r hw57p => ?_); clear hw57
      have hR := hR.then hF59 (by decide)
      have hP := hB.1; rw [ht] at hP; have hD := tp_ad f58 hD; clear hB hFc hz1 hk1; subst ht; generalize t.heap = H at hP hS ⊢
      have hw57pq : r56.toInt = (-2) := by rw [hw57p]; rfl
      exact W.iret (v := r56) hx hb hr (fun t ht hW => ⟨⟨r56, f58, rfl, ⟨hT, hR, trivial, trivial⟩, by rw [ht]; exact hP, va_K.moved hW.alike hK, hD⟩, hS.F ht⟩) hS.2.2 dX11_heat_36
  · have ic3 : r1.toInt = 0 := zi_nef rfl rfl c3
    clear hw2r ic3
    refine lv_aload_n hx hb dX11_heat_13 rfl (lv_at hl 0 rfl) ?_
    refine lv_iconst (v := (-1)) hx hb dX11_heat_14 (by decide) ?_
    refine tgk_12 hG ht_h0 (fun y60 y60l y61 y62 y63 y64 y65 y66a y66b y66c => ?_)
    refine tpk_12 hT ht_h0 (fun o67_x6 hf_o67 => ?_)
    refine tpk_pos (tp_in hG ht_h0 (by decide)) hf_o67 (fun q68 eq68 => ?_)
    have hFc := tp_fr hD hS hA
    refine va_calli (va_runV (As := [.int (-1)]) (rest := []) ⟨hx, hb, hml, hown, hts⟩ (t_X11_refuse l dC dI _ Ω κ τ ν ρ L f hG hT h0 ((-1)) ht_h0) (cwV 1 hts gX11_heat_X11_refuse rfl rfl rfl ⟨rfl, pd_X11_refuse⟩ ⟨Nat.le_of_ble_eq_true rfl, Nat.le_of_ble_eq_true rfl⟩) ⟨pz_blind, va_recv hK hP (ci := 11) (q0 := q68) rfl eq68, pz_pre hP hK hD hN⟩ rfl rfl hl.1 rfl (lv_room (Nat.le_of_ble_eq_true rfl)) dX11_heat_15 ⟨Nat.le_of_ble_eq_true rfl, Nat.le_of_ble_eq_true rfl⟩) hS (fun q _ h => hFc q h) hFc (fun r69 f71 t H1 locs ht hvm hw70 hB hz1 hk1 hS => ?_)
    refine tn_4 hw70 (fun hT hF72 hw70r hw70p => ?_); clear hw70
    have hR := hR.then hF72 (by decide)
    have hP := hB.1; rw [ht] at hP; have hD := tp_ad f71 hD; clear hB hFc hz1 hk1; subst ht; generalize t.heap = H at hP hS ⊢
    have hw70pq : r69.toInt = (-1) := by rw [hw70p]; rfl
    exact W.iret (v := r69) hx hb hr (fun t ht hW => ⟨⟨r69, f71, rfl, ⟨hT, hR, trivial, trivial⟩, by rw [ht]; exact hP, va_K.moved hW.alike hK, hD⟩, hS.F ht⟩) hS.2.2 dX11_heat_18
set_option maxHeartbeats 4000000 in
set_option maxRecDepth 100000 in
theorem t_X11_price (l : Launch) (dC : Nat → ClassId) (dI : Nat → Nat → Nat) (sz : Nat) (Ω : Nat → Nat → (Nat → Nat) → va_E → Prop) (κ : Nat → ClassId) (τ ν : Nat → Nat) (ρ : Nat → Nat → Nat) (L : List Nat) (f : Nat → va_E) (hG : tp_G τ ν ρ L) (hT : tp_T Ω κ τ ν ρ f) (h0 : Nat) (v : Int32) (u : Int32) (a : Int32) (ht_h0 : τ h0 = 12) : Met l yX11_price wqX11_price ({ frames := 5, cells := 0, slots := 0, locals := 1600 }) (va_Pc [.ref h0, .int v, .int u, .int a] (pz_B dC dI (tp_K κ) (va_pl L f) sz)) (va_Qi (fun (r : Int32) (f1 : Nat → va_E) => tp_T Ω κ τ ν ρ f1 ∧ tp_F τ [5, 12, 21] f f1 ∧ True ∧ tp_X τ ρ (fun n => n = 15) f f1 ∧ ((((¬ ((0 ≤ v.toInt ∧ v.toInt ≤ 99) ∧ (0 ≤ u.toInt ∧ u.toInt ≤ 10000) ∧ (0 ≤ a.toInt ∧ a.toInt ≤ 2399))) → r.toInt = -1) ∧ (¬ (¬ ((0 ≤ v.toInt ∧ v.toInt ≤ 99) ∧ (0 ≤ u.toInt ∧ u.toInt ≤ 10000) ∧ (0 ≤ a.toInt ∧ a.toInt ≤ 2399))) → ((((tp_fld (f (ρ (ρ h0 0) 15)) 2) = 60) → r.toInt = -5) ∧ (¬ ((tp_fld (f (ρ (ρ h0 0) 15)) 2) = 60) → r.toInt = (tp_fld (f (ρ (ρ h0 0) 15)) 2) + 1))))) ∧ ((((¬ ((0 ≤ v.toInt ∧ v.toInt ≤ 99) ∧ (0 ≤ u.toInt ∧ u.toInt ≤ 10000) ∧ (0 ≤ a.toInt ∧ a.toInt ≤ 2399))) → (tp_fld (f1 (ρ (ρ h0 0) 15)) 2) = (tp_fld (f (ρ (ρ h0 0) 15)) 2)) ∧ (¬ (¬ ((0 ≤ v.toInt ∧ v.toInt ≤ 99) ∧ (0 ≤ u.toInt ∧ u.toInt ≤ 10000) ∧ (0 ≤ a.toInt ∧ a.toInt ≤ 2399))) → ((((tp_fld (f (ρ (ρ h0 0) 15)) 2) = 60) → (tp_fld (f1 (ρ (ρ h0 0) 15)) 2) = (tp_fld (f (ρ (ρ h0 0) 15)) 2)) ∧ (¬ ((tp_fld (f (ρ (ρ h0 0) 15)) 2) = 60) → (tp_fld (f1 (ρ (ρ h0 0) 15)) 2) = (tp_fld (f (ρ (ρ h0 0) 15)) 2) + 1)))))) (fun (f1 : Nat → va_E) (t : State) => pz_E dC dI (tp_K κ) (va_A (va_pl L f) sz) (va_pl L f1) t) (va_A (va_pl L f) sz)) 0 0 (va_A (va_pl L f) sz) := by
  refine Met.ofW (cc := cX11_price) (maxL := 5) (ret := some .int) (by decide) rfl ?_
  intro p e s m args below meth c s₁ B hml hv
  obtain ⟨rfl, hsz, hP, hK, hD0, hN⟩ := hv
  have hx := B.exec
  have hb := B.bytes
  have hr := B.returns
  have hts := fun (w : Cond) (h : w ∈ WALL) => atoms_spec (ws := wqX11_price) B.pre w (List.mem_cons_of_mem _ h)
  have hown : s.vm.findClass RX11 = some m.cls := findClass_of_methodNamed B.named
  have hlocks := B.notSynchronized
  subst hsz
  have hD := hD0.self (sz := s.heap.size)
  generalize hAe : va_A (va_pl L f) s.heap.size = A at hD ⊢
  have hA : ∀ q : Nat, s.heap.size ≤ q → A q := fun q h => by rw [← hAe]; exact Or.inr h
  have hS : va_S A s.heap s.heap [] := va_S.rf
  have hR : tp_F τ [5, 12, 21] f f := tp_F.rf
  have hX : tp_X τ ρ (fun n => n = 15) f f := tp_X.rf
  have hl := lv_entry ([.ref h0, .int v, .int u, .int a]) (n := 5) (Nat.le_of_ble_eq_true rfl)
  rw [lg_entry_eq]
  generalize (lg_sl ([.ref h0, .int v, .int u, .int a]) ++ List.replicate (5 - (lg_sl ([.ref h0, .int v, .int u, .int a])).length) Slot.unset).toArray = ls at hl ⊢
  have hl : lv_has ls 5 [(0, .ref h0), (1, .int v), (2, .int u), (3, .int a)] := hl
  refine tgk_12 hG ht_h0 (fun y1 y1l y2 y3 y4 y5 y6 y7a y7b y7c => ?_)
  refine tgk_11 hG y1 (fun y8 y8n y9 y9n y10 y11 y12 y13 y13m y13l y14 y14m y14l y15 y15m y15l y16 y16w y16m y16l y17 y17w y17m y17l y18 y18w y18m y18l y19 y19w y19m y19l => ?_)
  refine tgk_5 hG y16 (fun y20 y20n y21a y21b y21c => ?_)
  refine tpk_5 hT y16 (fun o22_x0 o22_x2 hf_o22 ro22_0 ro22_1 => ?_)
  refine lv_iload_n hx hb dX11_price_0 rfl (lv_at hl 1 rfl) ?_
  refine lv_iconst (v := 0) hx hb dX11_price_1 (by decide) ?_
  refine lv_bipush (v := 99) hx hb dX11_price_2 (by decide) ?_
  refine pz_calli (va_runS (As := [.int v, .int 0, .int 99]) (rest := []) ⟨hx, hb, hml, hown, hts⟩ (t_X11_within l dC dI _ v (0) (99) (v.toInt) (0) (99) rfl rfl rfl) (va_cwS 3 hts gX11_price_X11_within rfl rfl rfl pd_X11_within ⟨Nat.le_of_ble_eq_true rfl, Nat.le_of_ble_eq_true rfl⟩) ⟨pz_blind, pz_pre pz_P0 (hK.sub (tys' := []) [] rfl) (pz_D0 (A := fun _ => True)) hN⟩ rfl rfl hl.1 rfl (lv_room (Nat.le_of_ble_eq_true rfl)) dX11_price_4 ⟨Nat.le_of_ble_eq_true rfl, Nat.le_of_ble_eq_true rfl⟩) (fun r23 hw24 => ?_)
  obtain ⟨hw24r, hw24p⟩ := hw24
  refine lv_if_eq (tgt := 28) hx hb dX11_price_7 (by decide) (fun c25 => ?_) (fun c25 => ?_)
  · have ic25 : r23.toInt = 0 := zi_eq rfl rfl c25
    have p26 : ¬ ((0) ≤ (v.toInt) ∧ (v.toInt) ≤ (99)) := (tp_cond.no hw24p) (by omega)
    clear hw24r ic25
    refine lv_aload_n hx hb dX11_price_28 rfl (lv_at hl 0 rfl) ?_
    refine lv_iconst (v := (-1)) hx hb dX11_price_29 (by decide) ?_
    refine tpk_12 hT ht_h0 (fun o27_x6 hf_o27 => ?_)
    refine tpk_pos (tp_in hG ht_h0 (by decide)) hf_o27 (fun q28 eq28 => ?_)
    have hFc := tp_fr hD hS hA
    refine va_calli (va_runV (As := [.int (-1)]) (rest := []) ⟨hx, hb, hml, hown, hts⟩ (t_X11_refuse l dC dI _ Ω κ τ ν ρ L f hG hT h0 ((-1)) ht_h0) (cwV 1 hts gX11_price_X11_refuse rfl rfl rfl ⟨rfl, pd_X11_refuse⟩ ⟨Nat.le_of_ble_eq_true rfl, Nat.le_of_ble_eq_true rfl⟩) ⟨pz_blind, va_recv hK hP (ci := 11) (q0 := q28) rfl eq28, pz_pre hP hK hD hN⟩ rfl rfl hl.1 rfl (lv_room (Nat.le_of_ble_eq_true rfl)) dX11_price_30 ⟨Nat.le_of_ble_eq_true rfl, Nat.le_of_ble_eq_true rfl⟩) hS (fun q _ h => hFc q h) hFc (fun r29 f31 t H1 locs ht hvm hw30 hB hz1 hk1 hS => ?_)
    refine tn_4 hw30 (fun hT hF32 hw30r hw30p => ?_); clear hw30
    have hR := hR.then hF32 (by decide)
    have hX := hX.fr hF32 (by decide)
    have hP := hB.1; rw [ht] at hP; have hD := tp_ad f31 hD; clear hB hFc hz1 hk1; subst ht; generalize t.heap = H at hP hS ⊢
    have hw30pq : r29.toInt = (-1) := by rw [hw30p]; rfl
    have ro22_1 := tp_hu ro22_1
    have tv33 : tp_fld (f (ρ (ρ h0 0) 15)) 2 = o22_x2.toInt := by rw [hf_o22]; rfl
    have hf_34 : f31 (ρ (ρ h0 0) 15) = .inr (4, [.int o22_x0, .ref (ρ (ρ (ρ h0 0) 15) 1), .int o22_x2]) := (hF32 _ (by rw [tp_iu y16]; decide)).trans hf_o22
    have tv35 : tp_fld (f31 (ρ (ρ h0 0) 15)) 2 = o22_x2.toInt := by rw [hf_34]; rfl
    exact W.iret (v := r29) hx hb hr (fun t ht hW => ⟨⟨r29, f31, rfl, ⟨hT, hR, trivial, ⟨hX, (by rw [tv33, tv35]; exact ⟨⟨fun q0 => by omega, fun q0 => ⟨fun q1 => by omega, fun q1 => (by omega)⟩⟩, ⟨fun q0 => by omega, fun q0 => ⟨fun q1 => by omega, fun q1 => (by omega)⟩⟩⟩)⟩⟩, by rw [ht]; exact hP, va_K.moved hW.alike hK, hD⟩, hS.F ht⟩) hS.2.2 dX11_price_33
  · have ic25 : r23.toInt ≠ 0 := zi_eqf rfl rfl c25
    have p36 : (0) ≤ (v.toInt) ∧ (v.toInt) ≤ (99) := (tp_cond.yes hw24p) (by omega)
    clear hw24r ic25
    refine lv_iload_n hx hb dX11_price_10 rfl (lv_at hl 2 rfl) ?_
    refine lv_iconst (v := 0) hx hb dX11_price_11 (by decide) ?_
    refine lv_sipush (v := 10000) hx hb dX11_price_12 (by decide) ?_
    refine pz_calli (va_runS (As := [.int u, .int 0, .int 10000]) (rest := []) ⟨hx, hb, hml, hown, hts⟩ (t_X11_within l dC dI _ u (0) (10000) (u.toInt) (0) (10000) rfl rfl rfl) (va_cwS 3 hts gX11_price_X11_within rfl rfl rfl pd_X11_within ⟨Nat.le_of_ble_eq_true rfl, Nat.le_of_ble_eq_true rfl⟩) ⟨pz_blind, pz_pre pz_P0 (hK.sub (tys' := []) [] rfl) (pz_D0 (A := fun _ => True)) hN⟩ rfl rfl hl.1 rfl (lv_room (Nat.le_of_ble_eq_true rfl)) dX11_price_15 ⟨Nat.le_of_ble_eq_true rfl, Nat.le_of_ble_eq_true rfl⟩) (fun r37 hw38 => ?_)
    obtain ⟨hw38r, hw38p⟩ := hw38
    refine lv_if_eq (tgt := 28) hx hb dX11_price_18 (by decide) (fun c39 => ?_) (fun c39 => ?_)
    · have ic39 : r37.toInt = 0 := zi_eq rfl rfl c39
      have p40 : ¬ ((0) ≤ (u.toInt) ∧ (u.toInt) ≤ (10000)) := (tp_cond.no hw38p) (by omega)
      clear hw38r ic39
      refine lv_aload_n hx hb dX11_price_28 rfl (lv_at hl 0 rfl) ?_
      refine lv_iconst (v := (-1)) hx hb dX11_price_29 (by decide) ?_
      refine tpk_12 hT ht_h0 (fun o41_x6 hf_o41 => ?_)
      refine tpk_pos (tp_in hG ht_h0 (by decide)) hf_o41 (fun q42 eq42 => ?_)
      have hFc := tp_fr hD hS hA
      refine va_calli (va_runV (As := [.int (-1)]) (rest := []) ⟨hx, hb, hml, hown, hts⟩ (t_X11_refuse l dC dI _ Ω κ τ ν ρ L f hG hT h0 ((-1)) ht_h0) (cwV 1 hts gX11_price_X11_refuse rfl rfl rfl ⟨rfl, pd_X11_refuse⟩ ⟨Nat.le_of_ble_eq_true rfl, Nat.le_of_ble_eq_true rfl⟩) ⟨pz_blind, va_recv hK hP (ci := 11) (q0 := q42) rfl eq42, pz_pre hP hK hD hN⟩ rfl rfl hl.1 rfl (lv_room (Nat.le_of_ble_eq_true rfl)) dX11_price_30 ⟨Nat.le_of_ble_eq_true rfl, Nat.le_of_ble_eq_true rfl⟩) hS (fun q _ h => hFc q h) hFc (fun r43 f45 t H1 locs ht hvm hw44 hB hz1 hk1 hS => ?_)
      refine tn_4 hw44 (fun hT hF46 hw44r hw44p => ?_); clear hw44
      have hR := hR.then hF46 (by decide)
      have hX := hX.fr hF46 (by decide)
      have hP := hB.1; rw [ht] at hP; have hD := tp_ad f45 hD; clear hB hFc hz1 hk1; subst ht; generalize t.heap = H at hP hS ⊢
      have hw44pq : r43.toInt = (-1) := by rw [hw44p]; rfl
      have ro22_1 := tp_hu ro22_1
      have tv47 : tp_fld (f (ρ (ρ h0 0) 15)) 2 = o22_x2.toInt := by rw [hf_o22]; rfl
      have hf_48 : f45 (ρ (ρ h0 0) 15) = .inr (4, [.int o22_x0, .ref (ρ (ρ (ρ h0 0) 15) 1), .int o22_x2]) := (hF46 _ (by rw [tp_iu y16]; decide)).trans hf_o22
      have tv49 : tp_fld (f45 (ρ (ρ h0 0) 15)) 2 = o22_x2.toInt := by rw [hf_48]; rfl
      exact W.iret (v := r43) hx hb hr (fun t ht hW => ⟨⟨r43, f45, rfl, ⟨hT, hR, trivial, ⟨hX, (by rw [tv47, tv49]; exact ⟨⟨fun q0 => by omega, fun q0 => ⟨fun q1 => by omega, fun q1 => (by omega)⟩⟩, ⟨fun q0 => by omega, fun q0 => ⟨fun q1 => by omega, fun q1 => (by omega)⟩⟩⟩)⟩⟩, by rw [ht]; exact hP, va_K.moved hW.alike hK, hD⟩, hS.F ht⟩) hS.2.2 dX11_price_33
    · have ic39 : r37.toInt ≠ 0 := zi_eqf rfl rfl c39
      have p50 : (0) ≤ (u.toInt) ∧ (u.toInt) ≤ (10000) := (tp_cond.yes hw38p) (by omega)
      clear hw38r ic39
      refine lv_iload_n hx hb dX11_price_21 rfl (lv_at hl 3 rfl) ?_
      refine pz_calli (va_runS (As := [.int a]) (rest := []) ⟨hx, hb, hml, hown, hts⟩ (t_X11_isHour l dC dI _ a (a.toInt) rfl) (va_cwS 1 hts gX11_price_X11_isHour rfl rfl rfl pd_X11_isHour ⟨Nat.le_of_ble_eq_true rfl, Nat.le_of_ble_eq_true rfl⟩) ⟨pz_blind, pz_pre pz_P0 (hK.sub (tys' := []) [] rfl) (pz_D0 (A := fun _ => True)) hN⟩ rfl rfl hl.1 rfl (lv_room (Nat.le_of_ble_eq_true rfl)) dX11_price_22 ⟨Nat.le_of_ble_eq_true rfl, Nat.le_of_ble_eq_true rfl⟩) (fun r51 hw52 => ?_)
      obtain ⟨hw52r, hw52p⟩ := hw52
      refine lv_if_ne (tgt := 34) hx hb dX11_price_25 (by decide) (fun c53 => ?_) (fun c53 => ?_)
      · have ic53 : r51.toInt ≠ 0 := zi_ne rfl rfl c53
        have p54 : 0 ≤ (a.toInt) ∧ (a.toInt) ≤ 2399 := (tp_cond.yes hw52p) (by omega)
        clear hw52r ic53
        refine lv_aload_n hx hb dX11_price_34 rfl (lv_at hl 0 rfl) ?_
        refine tpk_12 hT ht_h0 (fun o55_x6 hf_o55 => ?_)
        refine tpk_pos (tp_in hG ht_h0 (by decide)) hf_o55 (fun q56 eq56 => ?_)
        refine va_get (D := (dC, dI)) (ci := 11) (v := .ref (ρ h0 0)) (C := RX11) (T := TX11) (N := 7) hx hb hts hfX11 hown hK hP q56 eq56 rfl 0 (by decide) (hts (.fieldLink RX11 10 "ColdShips" "world" "LColdShips$World;") wa_15) (fun _ h9 => h9) rfl dX11_price_35 ?_
        refine tpk_11 hT y1 (fun o57_x0 o57_x1 o57_x2 o57_x3 o57_x4 o57_x5 o57_x6 hf_o57 ro57_0 ro57_1 ro57_2 ro57_3 => ?_)
        refine tpk_pos (tp_in hG y1 (by decide)) hf_o57 (fun q58 eq58 => ?_)
        refine va_getN (D := (dC, dI)) (ci := 10) (v := .ref (ρ (ρ h0 0) 15)) (C := RX10) (T := TX10) (N := 19) hx hb hts hfX10 hown hK hP q58 eq58 rfl 15 (by decide) (va_Nw.use rfl (hN.1 (.fieldLinkNest RX11 232 "ColdShips$World" "prices" "LColdShips$Rows;" "ColdShips") nzw_80)) (fun _ h9 => h9) rfl dX11_price_38 ?_
        refine tpk_pos (tp_in hG y16 (by decide)) hf_o22 (fun q59 eq59 => ?_)
        have hFc := tp_fr hD hS hA
        have ro22_0 := tp_hu ro22_0; have ro22_1 := tp_hu ro22_1
        refine va_calli (va_runV (As := []) (rest := []) ⟨hx, hb, hml, hown, hts⟩ (t_X4_addRow l dC dI _ Ω κ τ ν ρ L f hG hT (ρ (ρ h0 0) 15) y16 o22_x0 o22_x2 hf_o22) (cwV 0 hts gX11_price_X4_addRow rfl rfl rfl ⟨rfl, pd_X4_addRow⟩ ⟨Nat.le_of_ble_eq_true rfl, Nat.le_of_ble_eq_true rfl⟩) ⟨pz_blind, va_recv hK hP (ci := 4) (q0 := q59) rfl eq59, pz_pre hP hK hD hN⟩ rfl rfl hl.1 rfl (lv_room (Nat.le_of_ble_eq_true rfl)) dX11_price_41 ⟨Nat.le_of_ble_eq_true rfl, Nat.le_of_ble_eq_true rfl⟩) hS (fun q _ h => hFc q h) hFc (fun r60 f62 t H1 locs ht hvm hw61 hB hz1 hk1 hS => ?_)
        refine tn_4 hw61 (fun hT hF63 hw61r hw61p => ?_); clear hw61
        have hR := hR.then hF63 (by decide)
        obtain ⟨hw61x, hw61p⟩ := hw61p
        have hX := hX.th hw61x (fun n q9 => by have q8 : n = ρ (ρ (ρ h0 0) 15) 30 := q9; show n = 15; omega)
        have hP := hB.1; rw [ht] at hP; have hD := tp_ad f62 hD; clear hB hFc hz1 hk1; subst ht; generalize t.heap = H at hP hS ⊢
        refine tpk_5 hT y16 (fun o64_x0 o64_x2 hf_o64 ro64_0 ro64_1 => ?_)
        have ro64_1 := tp_hu ro64_1
        have tv65 : tp_fld (f62 (ρ (ρ h0 0) 15)) 2 = o64_x2.toInt := by rw [hf_o64]; rfl
        have pl66 : ((((o22_x2.toInt = (ρ (ρ (ρ h0 0) 15) 11 : Int)) → r60.toInt = -1) ∧ (¬ (o22_x2.toInt = (ρ (ρ (ρ h0 0) 15) 11 : Int)) → r60.toInt = o22_x2.toInt))) ∧ ((((o22_x2.toInt = (ρ (ρ (ρ h0 0) 15) 11 : Int)) → o64_x2.toInt = o22_x2.toInt) ∧ (¬ (o22_x2.toInt = (ρ (ρ (ρ h0 0) 15) 11 : Int)) → o64_x2.toInt = o22_x2.toInt + 1))) := by have q9 := hw61p; rw [tv65] at q9; exact q9
        refine lv_istore (lv' := [(4, .int r60), (0, .ref h0), (1, .int v), (2, .int u), (3, .int a)]) hx hb dX11_price_44 hl (by decide) rfl (fun ls hl => ?_)
        refine lv_iload hx hb dX11_price_46 (lv_at hl 0 rfl) ?_
        refine lv_iconst (v := (-1)) hx hb dX11_price_48 (by decide) ?_
        refine lv_icmp_ne (tgt := 59) hx hb dX11_price_49 (by decide) (fun c67 => ?_) (fun c67 => ?_)
        · have ic67 : r60.toInt ≠ (-1) := zi_ne rfl rfl c67
          refine lv_aload_n hx hb dX11_price_59 rfl (lv_at hl 1 rfl) ?_
          have hf_68 : f62 h0 = .inr (11, [.ref (ρ h0 0), .ref (ρ h0 1), .ref (ρ h0 2), .ref (ρ h0 3), .ref (ρ h0 4), .ref (ρ h0 5), .int o55_x6]) := (hF63 _ (by rw [ht_h0]; decide)).trans hf_o55
          refine tpk_pos (tp_in hG ht_h0 (by decide)) hf_68 (fun q69 eq69 => ?_)
          refine va_get (D := (dC, dI)) (ci := 11) (v := .ref (ρ h0 0)) (C := RX11) (T := TX11) (N := 7) hx hb hts hfX11 hown hK hP q69 eq69 rfl 0 (by decide) (hts (.fieldLink RX11 10 "ColdShips" "world" "LColdShips$World;") wa_15) (fun _ h9 => h9) rfl dX11_price_60 ?_
          have hf_70 : f62 (ρ h0 0) = .inr (10, [.int o57_x0, .int o57_x1, .int o57_x2, .int o57_x3, .int o57_x4, .int o57_x5, .int o57_x6, .ref (ρ (ρ h0 0) 7), .ref (ρ (ρ h0 0) 8), .ref (ρ (ρ h0 0) 9), .ref (ρ (ρ h0 0) 10), .ref (ρ (ρ h0 0) 11), .ref (ρ (ρ h0 0) 12), .ref (ρ (ρ h0 0) 13), .ref (ρ (ρ h0 0) 14), .ref (ρ (ρ h0 0) 15), .ref (ρ (ρ h0 0) 16), .ref (ρ (ρ h0 0) 17), .ref (ρ (ρ h0 0) 18)]) := (hF63 _ (by rw [tp_iu y1]; decide)).trans hf_o57
          refine tpk_pos (tp_in hG y1 (by decide)) hf_70 (fun q71 eq71 => ?_)
          refine va_getN (D := (dC, dI)) (ci := 10) (v := .ref (ρ (ρ h0 0) 15)) (C := RX10) (T := TX10) (N := 19) hx hb hts hfX10 hown hK hP q71 eq71 rfl 15 (by decide) (va_Nw.use rfl (hN.1 (.fieldLinkNest RX11 232 "ColdShips$World" "prices" "LColdShips$Rows;" "ColdShips") nzw_80)) (fun _ h9 => h9) rfl dX11_price_63 ?_
          refine lv_iload hx hb dX11_price_66 (lv_at hl 0 rfl) ?_
          refine lv_iconst (v := 0) hx hb dX11_price_68 (by decide) ?_
          refine lv_iload_n hx hb dX11_price_69 rfl (lv_at hl 2 rfl) ?_
          refine lv_i2l hx hb dX11_price_70 rfl ?_
          refine tpk_pos (tp_in hG y16 (by decide)) hf_o64 (fun q72 eq72 => ?_)
          have hFc := tp_fr hD hS hA
          have ro64_0 := tp_hu ro64_0
          refine va_callv (va_runV (As := [.int r60, .int 0, .long v.toInt64]) (rest := []) ⟨hx, hb, hml, hown, hts⟩ (t_X4_set l dC dI _ Ω κ τ ν ρ L f62 hG hT (ρ (ρ h0 0) 15) r60 (0) v.toInt64 y16 o64_x0 o64_x2 hf_o64) (cwV 3 hts gX11_price_X4_set rfl rfl rfl ⟨rfl, pd_X4_set⟩ ⟨Nat.le_of_ble_eq_true rfl, Nat.le_of_ble_eq_true rfl⟩) ⟨pz_blind, va_recv hK hP (ci := 4) (q0 := q72) rfl eq72, pz_pre hP hK hD hN⟩ rfl rfl hl.1 rfl (lv_room (Nat.le_of_ble_eq_true rfl)) dX11_price_71 ⟨Nat.le_of_ble_eq_true rfl, Nat.le_of_ble_eq_true rfl⟩) hS (fun q _ h => hFc q h) hFc (fun f75 t H1 locs ht hvm hw74 hB hz1 hk1 hS => ?_)
          refine tn_3 hw74 (fun hT hF76 hw74p => ?_); clear hw74
          have hR := hR.then hF76 (by decide)
          have hX := hX.fr hF76 (by decide)
          have hP := hB.1; rw [ht] at hP; have hD := tp_ad f75 hD; clear hB hFc hz1 hk1; subst ht; generalize t.heap = H at hP hS ⊢
          refine lv_aload_n hx hb dX11_price_74 rfl (lv_at hl 1 rfl) ?_
          have hf_77 : f75 h0 = .inr (11, [.ref (ρ h0 0), .ref (ρ h0 1), .ref (ρ h0 2), .ref (ρ h0 3), .ref (ρ h0 4), .ref (ρ h0 5), .int o55_x6]) := (hF76 _ (by rw [ht_h0]; decide)).trans hf_68
          refine tpk_pos (tp_in hG ht_h0 (by decide)) hf_77 (fun q78 eq78 => ?_)
          refine va_get (D := (dC, dI)) (ci := 11) (v := .ref (ρ h0 0)) (C := RX11) (T := TX11) (N := 7) hx hb hts hfX11 hown hK hP q78 eq78 rfl 0 (by decide) (hts (.fieldLink RX11 10 "ColdShips" "world" "LColdShips$World;") wa_15) (fun _ h9 => h9) rfl dX11_price_75 ?_
          have hf_79 : f75 (ρ h0 0) = .inr (10, [.int o57_x0, .int o57_x1, .int o57_x2, .int o57_x3, .int o57_x4, .int o57_x5, .int o57_x6, .ref (ρ (ρ h0 0) 7), .ref (ρ (ρ h0 0) 8), .ref (ρ (ρ h0 0) 9), .ref (ρ (ρ h0 0) 10), .ref (ρ (ρ h0 0) 11), .ref (ρ (ρ h0 0) 12), .ref (ρ (ρ h0 0) 13), .ref (ρ (ρ h0 0) 14), .ref (ρ (ρ h0 0) 15), .ref (ρ (ρ h0 0) 16), .ref (ρ (ρ h0 0) 17), .ref (ρ (ρ h0 0) 18)]) := (hF76 _ (by rw [tp_iu y1]; decide)).trans hf_70
          refine tpk_pos (tp_in hG y1 (by decide)) hf_79 (fun q80 eq80 => ?_)
          refine va_getN (D := (dC, dI)) (ci := 10) (v := .ref (ρ (ρ h0 0) 15)) (C := RX10) (T := TX10) (N := 19) hx hb hts hfX10 hown hK hP q80 eq80 rfl 15 (by decide) (va_Nw.use rfl (hN.1 (.fieldLinkNest RX11 232 "ColdShips$World" "prices" "LColdShips$Rows;" "ColdShips") nzw_80)) (fun _ h9 => h9) rfl dX11_price_78 ?_
          refine lv_iload hx hb dX11_price_81 (lv_at hl 0 rfl) ?_
          refine lv_iconst (v := 1) hx hb dX11_price_83 (by decide) ?_
          refine lv_iload_n hx hb dX11_price_84 rfl (lv_at hl 3 rfl) ?_
          refine lv_i2l hx hb dX11_price_85 rfl ?_
          have hf_81 : f75 (ρ (ρ h0 0) 15) = .inr (4, [.int o64_x0, .ref (ρ (ρ (ρ h0 0) 15) 1), .int o64_x2]) := (hF76 _ (by rw [tp_iu y16]; decide)).trans hf_o64
          refine tpk_pos (tp_in hG y16 (by decide)) hf_81 (fun q82 eq82 => ?_)
          have hFc := tp_fr hD hS hA
          refine va_callv (va_runV (As := [.int r60, .int 1, .long u.toInt64]) (rest := []) ⟨hx, hb, hml, hown, hts⟩ (t_X4_set l dC dI _ Ω κ τ ν ρ L f75 hG hT (ρ (ρ h0 0) 15) r60 (1) u.toInt64 y16 o64_x0 o64_x2 hf_81) (cwV 3 hts gX11_price_X4_set rfl rfl rfl ⟨rfl, pd_X4_set⟩ ⟨Nat.le_of_ble_eq_true rfl, Nat.le_of_ble_eq_true rfl⟩) ⟨pz_blind, va_recv hK hP (ci := 4) (q0 := q82) rfl eq82, pz_pre hP hK hD hN⟩ rfl rfl hl.1 rfl (lv_room (Nat.le_of_ble_eq_true rfl)) dX11_price_86 ⟨Nat.le_of_ble_eq_true rfl, Nat.le_of_ble_eq_true rfl⟩) hS (fun q _ h => hFc q h) hFc (fun f85 t H1 locs ht hvm hw84 hB hz1 hk1 hS => ?_)
          refine tn_3 hw84 (fun hT hF86 hw84p => ?_); clear hw84
          have hR := hR.then hF86 (by decide)
          have hX := hX.fr hF86 (by decide)
          have hP := hB.1; rw [ht] at hP; have hD := tp_ad f85 hD; clear hB hFc hz1 hk1; subst ht; generalize t.heap = H at hP hS ⊢
          refine lv_aload_n hx hb dX11_price_89 rfl (lv_at hl 1 rfl) ?_
          have hf_87 : f85 h0 = .inr (11, [.ref (ρ h0 0), .ref (ρ h0 1), .ref (ρ h0 2), .ref (ρ h0 3), .ref (ρ h0 4), .ref (ρ h0 5), .int o55_x6]) := (hF86 _ (by rw [ht_h0]; decide)).trans hf_77
          refine tpk_pos (tp_in hG ht_h0 (by decide)) hf_87 (fun q88 eq88 => ?_)
          refine va_get (D := (dC, dI)) (ci := 11) (v := .ref (ρ h0 0)) (C := RX11) (T := TX11) (N := 7) hx hb hts hfX11 hown hK hP q88 eq88 rfl 0 (by decide) (hts (.fieldLink RX11 10 "ColdShips" "world" "LColdShips$World;") wa_15) (fun _ h9 => h9) rfl dX11_price_90 ?_
          have hf_89 : f85 (ρ h0 0) = .inr (10, [.int o57_x0, .int o57_x1, .int o57_x2, .int o57_x3, .int o57_x4, .int o57_x5, .int o57_x6, .ref (ρ (ρ h0 0) 7), .ref (ρ (ρ h0 0) 8), .ref (ρ (ρ h0 0) 9), .ref (ρ (ρ h0 0) 10), .ref (ρ (ρ h0 0) 11), .ref (ρ (ρ h0 0) 12), .ref (ρ (ρ h0 0) 13), .ref (ρ (ρ h0 0) 14), .ref (ρ (ρ h0 0) 15), .ref (ρ (ρ h0 0) 16), .ref (ρ (ρ h0 0) 17), .ref (ρ (ρ h0 0) 18)]) := (hF86 _ (by rw [tp_iu y1]; decide)).trans hf_79
          refine tpk_pos (tp_in hG y1 (by decide)) hf_89 (fun q90 eq90 => ?_)
          refine va_getN (D := (dC, dI)) (ci := 10) (v := .ref (ρ (ρ h0 0) 15)) (C := RX10) (T := TX10) (N := 19) hx hb hts hfX10 hown hK hP q90 eq90 rfl 15 (by decide) (va_Nw.use rfl (hN.1 (.fieldLinkNest RX11 232 "ColdShips$World" "prices" "LColdShips$Rows;" "ColdShips") nzw_80)) (fun _ h9 => h9) rfl dX11_price_93 ?_
          refine lv_iload hx hb dX11_price_96 (lv_at hl 0 rfl) ?_
          refine lv_iconst (v := 2) hx hb dX11_price_98 (by decide) ?_
          refine lv_iload_n hx hb dX11_price_99 rfl (lv_at hl 4 rfl) ?_
          refine lv_i2l hx hb dX11_price_100 rfl ?_
          have hf_91 : f85 (ρ (ρ h0 0) 15) = .inr (4, [.int o64_x0, .ref (ρ (ρ (ρ h0 0) 15) 1), .int o64_x2]) := (hF86 _ (by rw [tp_iu y16]; decide)).trans hf_81
          refine tpk_pos (tp_in hG y16 (by decide)) hf_91 (fun q92 eq92 => ?_)
          have hFc := tp_fr hD hS hA
          refine va_callv (va_runV (As := [.int r60, .int 2, .long a.toInt64]) (rest := []) ⟨hx, hb, hml, hown, hts⟩ (t_X4_set l dC dI _ Ω κ τ ν ρ L f85 hG hT (ρ (ρ h0 0) 15) r60 (2) a.toInt64 y16 o64_x0 o64_x2 hf_91) (cwV 3 hts gX11_price_X4_set rfl rfl rfl ⟨rfl, pd_X4_set⟩ ⟨Nat.le_of_ble_eq_true rfl, Nat.le_of_ble_eq_true rfl⟩) ⟨pz_blind, va_recv hK hP (ci := 4) (q0 := q92) rfl eq92, pz_pre hP hK hD hN⟩ rfl rfl hl.1 rfl (lv_room (Nat.le_of_ble_eq_true rfl)) dX11_price_101 ⟨Nat.le_of_ble_eq_true rfl, Nat.le_of_ble_eq_true rfl⟩) hS (fun q _ h => hFc q h) hFc (fun f95 t H1 locs ht hvm hw94 hB hz1 hk1 hS => ?_)
          refine tn_3 hw94 (fun hT hF96 hw94p => ?_); clear hw94
          have hR := hR.then hF96 (by decide)
          have hX := hX.fr hF96 (by decide)
          have hP := hB.1; rw [ht] at hP; have hD := tp_ad f95 hD; clear hB hFc hz1 hk1; subst ht; generalize t.heap = H at hP hS ⊢
          refine lv_aload_n hx hb dX11_price_104 rfl (lv_at hl 1 rfl) ?_
          refine lv_aload_n hx hb dX11_price_105 rfl (lv_at hl 1 rfl) ?_
          have hf_97 : f95 h0 = .inr (11, [.ref (ρ h0 0), .ref (ρ h0 1), .ref (ρ h0 2), .ref (ρ h0 3), .ref (ρ h0 4), .ref (ρ h0 5), .int o55_x6]) := (hF96 _ (by rw [ht_h0]; decide)).trans hf_87
          refine tpk_pos (tp_in hG ht_h0 (by decide)) hf_97 (fun q98 eq98 => ?_)
          refine va_get (D := (dC, dI)) (ci := 11) (v := .ref (ρ h0 0)) (C := RX11) (T := TX11) (N := 7) hx hb hts hfX11 hown hK hP q98 eq98 rfl 0 (by decide) (hts (.fieldLink RX11 10 "ColdShips" "world" "LColdShips$World;") wa_15) (fun _ h9 => h9) rfl dX11_price_106 ?_
          have hf_99 : f95 (ρ h0 0) = .inr (10, [.int o57_x0, .int o57_x1, .int o57_x2, .int o57_x3, .int o57_x4, .int o57_x5, .int o57_x6, .ref (ρ (ρ h0 0) 7), .ref (ρ (ρ h0 0) 8), .ref (ρ (ρ h0 0) 9), .ref (ρ (ρ h0 0) 10), .ref (ρ (ρ h0 0) 11), .ref (ρ (ρ h0 0) 12), .ref (ρ (ρ h0 0) 13), .ref (ρ (ρ h0 0) 14), .ref (ρ (ρ h0 0) 15), .ref (ρ (ρ h0 0) 16), .ref (ρ (ρ h0 0) 17), .ref (ρ (ρ h0 0) 18)]) := (hF96 _ (by rw [tp_iu y1]; decide)).trans hf_89
          refine tpk_pos (tp_in hG y1 (by decide)) hf_99 (fun q100 eq100 => ?_)
          refine va_getN (D := (dC, dI)) (ci := 10) (v := .ref (ρ (ρ h0 0) 15)) (C := RX10) (T := TX10) (N := 19) hx hb hts hfX10 hown hK hP q100 eq100 rfl 15 (by decide) (va_Nw.use rfl (hN.1 (.fieldLinkNest RX11 232 "ColdShips$World" "prices" "LColdShips$Rows;" "ColdShips") nzw_80)) (fun _ h9 => h9) rfl dX11_price_109 ?_
          have hf_101 : f95 (ρ (ρ h0 0) 15) = .inr (4, [.int o64_x0, .ref (ρ (ρ (ρ h0 0) 15) 1), .int o64_x2]) := (hF96 _ (by rw [tp_iu y16]; decide)).trans hf_91
          refine tpk_pos (tp_in hG y16 (by decide)) hf_101 (fun q102 eq102 => ?_)
          refine va_getN (D := (dC, dI)) (ci := 4) (v := .int o64_x2) (C := RX4) (T := TX4) (N := 3) hx hb hts hfX4 hown hK hP q102 eq102 rfl 2 (by decide) (va_Nw.use rfl (hN.1 (.fieldLinkNest RX11 242 "ColdShips$Rows" "size" "I" "ColdShips") nzw_4)) (fun _ h9 => h9) rfl dX11_price_112 ?_
          have hFc := tp_fr hD hS hA
          refine va_calli (va_runV (As := [.int o64_x2]) (rest := []) ⟨hx, hb, hml, hown, hts⟩ (t_X11_accept l dC dI _ Ω κ τ ν ρ L f95 hG hT h0 o64_x2 ht_h0) (cwV 1 hts gX11_price_X11_accept rfl rfl rfl ⟨rfl, pd_X11_accept⟩ ⟨Nat.le_of_ble_eq_true rfl, Nat.le_of_ble_eq_true rfl⟩) ⟨pz_blind, va_recv hK hP (ci := 11) (q0 := q98) rfl eq98, pz_pre hP hK hD hN⟩ rfl rfl hl.1 rfl (lv_room (Nat.le_of_ble_eq_true rfl)) dX11_price_115 ⟨Nat.le_of_ble_eq_true rfl, Nat.le_of_ble_eq_true rfl⟩) hS (fun q _ h => hFc q h) hFc (fun r103 f105 t H1 locs ht hvm hw104 hB hz1 hk1 hS => ?_)
          refine tn_4 hw104 (fun hT hF106 hw104r hw104p => ?_); clear hw104
          have hR := hR.then hF106 (by decide)
          have hX := hX.fr hF106 (by decide)
          have hP := hB.1; rw [ht] at hP; have hD := tp_ad f105 hD; clear hB hFc hz1 hk1; subst ht; generalize t.heap = H at hP hS ⊢
          have hw104pq : r103.toInt = o64_x2.toInt := by rw [hw104p]
          have tv107 : tp_fld (f (ρ (ρ h0 0) 15)) 2 = o22_x2.toInt := by rw [hf_o22]; rfl
          have hf_108 : f105 (ρ (ρ h0 0) 15) = .inr (4, [.int o64_x0, .ref (ρ (ρ (ρ h0 0) 15) 1), .int o64_x2]) := (hF106 _ (by rw [tp_iu y16]; decide)).trans hf_101
          have tv109 : tp_fld (f105 (ρ (ρ h0 0) 15)) 2 = o64_x2.toInt := by rw [hf_108]; rfl
          exact W.iret (v := r103) hx hb hr (fun t ht hW => ⟨⟨r103, f105, rfl, ⟨hT, hR, trivial, ⟨hX, (by rw [tv107, tv109]; exact ⟨⟨fun q0 => by omega, fun q0 => ⟨fun q1 => by omega, fun q1 => (by omega)⟩⟩, ⟨fun q0 => by omega, fun q0 => ⟨fun q1 => by omega, fun q1 => (by omega)⟩⟩⟩)⟩⟩, by rw [ht]; exact hP, va_K.moved hW.alike hK, hD⟩, hS.F ht⟩) hS.2.2 dX11_price_118
        · have ic67 : r60.toInt = (-1) := zi_nef rfl rfl c67
          refine lv_aload_n hx hb dX11_price_52 rfl (lv_at hl 1 rfl) ?_
          refine lv_bipush (v := (-5)) hx hb dX11_price_53 (by decide) ?_
          have hf_110 : f62 h0 = .inr (11, [.ref (ρ h0 0), .ref (ρ h0 1), .ref (ρ h0 2), .ref (ρ h0 3), .ref (ρ h0 4), .ref (ρ h0 5), .int o55_x6]) := (hF63 _ (by rw [ht_h0]; decide)).trans hf_o55
          refine tpk_pos (tp_in hG ht_h0 (by decide)) hf_110 (fun q111 eq111 => ?_)
          have hFc := tp_fr hD hS hA
          refine va_calli (va_runV (As := [.int (-5)]) (rest := []) ⟨hx, hb, hml, hown, hts⟩ (t_X11_refuse l dC dI _ Ω κ τ ν ρ L f62 hG hT h0 ((-5)) ht_h0) (cwV 1 hts gX11_price_X11_refuse rfl rfl rfl ⟨rfl, pd_X11_refuse⟩ ⟨Nat.le_of_ble_eq_true rfl, Nat.le_of_ble_eq_true rfl⟩) ⟨pz_blind, va_recv hK hP (ci := 11) (q0 := q111) rfl eq111, pz_pre hP hK hD hN⟩ rfl rfl hl.1 rfl (lv_room (Nat.le_of_ble_eq_true rfl)) dX11_price_55 ⟨Nat.le_of_ble_eq_true rfl, Nat.le_of_ble_eq_true rfl⟩) hS (fun q _ h => hFc q h) hFc (fun r112 f114 t H1 locs ht hvm hw113 hB hz1 hk1 hS => ?_)
          refine tn_4 hw113 (fun hT hF115 hw113r hw113p => ?_); clear hw113
          have hR := hR.then hF115 (by decide)
          have hX := hX.fr hF115 (by decide)
          have hP := hB.1; rw [ht] at hP; have hD := tp_ad f114 hD; clear hB hFc hz1 hk1; subst ht; generalize t.heap = H at hP hS ⊢
          have hw113pq : r112.toInt = (-5) := by rw [hw113p]; rfl
          have tv116 : tp_fld (f (ρ (ρ h0 0) 15)) 2 = o22_x2.toInt := by rw [hf_o22]; rfl
          have hf_117 : f114 (ρ (ρ h0 0) 15) = .inr (4, [.int o64_x0, .ref (ρ (ρ (ρ h0 0) 15) 1), .int o64_x2]) := (hF115 _ (by rw [tp_iu y16]; decide)).trans hf_o64
          have tv118 : tp_fld (f114 (ρ (ρ h0 0) 15)) 2 = o64_x2.toInt := by rw [hf_117]; rfl
          exact W.iret (v := r112) hx hb hr (fun t ht hW => ⟨⟨r112, f114, rfl, ⟨hT, hR, trivial, ⟨hX, (by rw [tv116, tv118]; exact ⟨⟨fun q0 => by omega, fun q0 => ⟨fun q1 => by omega, fun q1 => (by omega)⟩⟩, ⟨fun q0 => by omega, fun q0 => ⟨fun q1 => by omega, fun q1 => (by omega)⟩⟩⟩)⟩⟩, by rw [ht]; exact hP, va_K.moved hW.alike hK, hD⟩, hS.F ht⟩) hS.2.2 dX11_price_58
      · have ic53 : r51.toInt = 0 := zi_nef rfl rfl c53
        have p119 : ¬ (0 ≤ (a.toInt) ∧ (a.toInt) ≤ 2399) := (tp_cond.no hw52p) (by omega)
        clear hw52r ic53
        refine lv_aload_n hx hb dX11_price_28 rfl (lv_at hl 0 rfl) ?_
        refine lv_iconst (v := (-1)) hx hb dX11_price_29 (by decide) ?_
        refine tpk_12 hT ht_h0 (fun o120_x6 hf_o120 => ?_)
        refine tpk_pos (tp_in hG ht_h0 (by decide)) hf_o120 (fun q121 eq121 => ?_)
        have hFc := tp_fr hD hS hA
        refine va_calli (va_runV (As := [.int (-1)]) (rest := []) ⟨hx, hb, hml, hown, hts⟩ (t_X11_refuse l dC dI _ Ω κ τ ν ρ L f hG hT h0 ((-1)) ht_h0) (cwV 1 hts gX11_price_X11_refuse rfl rfl rfl ⟨rfl, pd_X11_refuse⟩ ⟨Nat.le_of_ble_eq_true rfl, Nat.le_of_ble_eq_true rfl⟩) ⟨pz_blind, va_recv hK hP (ci := 11) (q0 := q121) rfl eq121, pz_pre hP hK hD hN⟩ rfl rfl hl.1 rfl (lv_room (Nat.le_of_ble_eq_true rfl)) dX11_price_30 ⟨Nat.le_of_ble_eq_true rfl, Nat.le_of_ble_eq_true rfl⟩) hS (fun q _ h => hFc q h) hFc (fun r122 f124 t H1 locs ht hvm hw123 hB hz1 hk1 hS => ?_)
        refine tn_4 hw123 (fun hT hF125 hw123r hw123p => ?_); clear hw123
        have hR := hR.then hF125 (by decide)
        have hX := hX.fr hF125 (by decide)
        have hP := hB.1; rw [ht] at hP; have hD := tp_ad f124 hD; clear hB hFc hz1 hk1; subst ht; generalize t.heap = H at hP hS ⊢
        have hw123pq : r122.toInt = (-1) := by rw [hw123p]; rfl
        have ro22_1 := tp_hu ro22_1
        have tv126 : tp_fld (f (ρ (ρ h0 0) 15)) 2 = o22_x2.toInt := by rw [hf_o22]; rfl
        have hf_127 : f124 (ρ (ρ h0 0) 15) = .inr (4, [.int o22_x0, .ref (ρ (ρ (ρ h0 0) 15) 1), .int o22_x2]) := (hF125 _ (by rw [tp_iu y16]; decide)).trans hf_o22
        have tv128 : tp_fld (f124 (ρ (ρ h0 0) 15)) 2 = o22_x2.toInt := by rw [hf_127]; rfl
        exact W.iret (v := r122) hx hb hr (fun t ht hW => ⟨⟨r122, f124, rfl, ⟨hT, hR, trivial, ⟨hX, (by rw [tv126, tv128]; exact ⟨⟨fun q0 => by omega, fun q0 => ⟨fun q1 => by omega, fun q1 => (by omega)⟩⟩, ⟨fun q0 => by omega, fun q0 => ⟨fun q1 => by omega, fun q1 => (by omega)⟩⟩⟩)⟩⟩, by rw [ht]; exact hP, va_K.moved hW.alike hK, hD⟩, hS.F ht⟩) hS.2.2 dX11_price_33
end
section
set_option maxHeartbeats 4000000 in
set_option maxRecDepth 100000 in
theorem t_X11_force (l : Launch) (dC : Nat → ClassId) (dI : Nat → Nat → Nat) (sz : Nat) (Ω : Nat → Nat → (Nat → Nat) → va_E → Prop) (κ : Nat → ClassId) (τ ν : Nat → Nat) (ρ : Nat → Nat → Nat) (L : List Nat) (f : Nat → va_E) (hG : tp_G τ ν ρ L) (hT : tp_T Ω κ τ ν ρ f) (h0 : Nat) (v : Int32) (u : Int32) (a : Int32) (ht_h0 : τ h0 = 12) : Met l yX11_force wqX11_force ({ frames := 5, cells := 0, slots := 0, locals := 1600 }) (va_Pc [.ref h0, .int v, .int u, .int a] (pz_B dC dI (tp_K κ) (va_pl L f) sz)) (va_Qi (fun (r : Int32) (f1 : Nat → va_E) => tp_T Ω κ τ ν ρ f1 ∧ tp_F τ [7, 12, 20] f f1 ∧ True ∧ tp_X τ ρ (fun n => n = 14) f f1 ∧ ((((¬ (((0 ≤ v.toInt ∧ v.toInt ≤ 2399) ∧ (0 ≤ u.toInt ∧ u.toInt ≤ 2399) ∧ v.toInt ≤ u.toInt) ∧ (0 ≤ a.toInt ∧ a.toInt ≤ 2399))) → r.toInt = -1) ∧ (¬ (¬ (((0 ≤ v.toInt ∧ v.toInt ≤ 2399) ∧ (0 ≤ u.toInt ∧ u.toInt ≤ 2399) ∧ v.toInt ≤ u.toInt) ∧ (0 ≤ a.toInt ∧ a.toInt ≤ 2399))) → ((((tp_fld (f (ρ (ρ h0 0) 14)) 3) = 20) → r.toInt = -5) ∧ (¬ ((tp_fld (f (ρ (ρ h0 0) 14)) 3) = 20) → r.toInt = (tp_fld (f (ρ (ρ h0 0) 14)) 3) + 1))))) ∧ ((((¬ (((0 ≤ v.toInt ∧ v.toInt ≤ 2399) ∧ (0 ≤ u.toInt ∧ u.toInt ≤ 2399) ∧ v.toInt ≤ u.toInt) ∧ (0 ≤ a.toInt ∧ a.toInt ≤ 2399))) → (tp_fld (f1 (ρ (ρ h0 0) 14)) 3) = (tp_fld (f (ρ (ρ h0 0) 14)) 3)) ∧ (¬ (¬ (((0 ≤ v.toInt ∧ v.toInt ≤ 2399) ∧ (0 ≤ u.toInt ∧ u.toInt ≤ 2399) ∧ v.toInt ≤ u.toInt) ∧ (0 ≤ a.toInt ∧ a.toInt ≤ 2399))) → ((((tp_fld (f (ρ (ρ h0 0) 14)) 3) = 20) → (tp_fld (f1 (ρ (ρ h0 0) 14)) 3) = (tp_fld (f (ρ (ρ h0 0) 14)) 3)) ∧ (¬ ((tp_fld (f (ρ (ρ h0 0) 14)) 3) = 20) → (tp_fld (f1 (ρ (ρ h0 0) 14)) 3) = (tp_fld (f (ρ (ρ h0 0) 14)) 3) + 1)))))) (fun (f1 : Nat → va_E) (t : State) => pz_E dC dI (tp_K κ) (va_A (va_pl L f) sz) (va_pl L f1) t) (va_A (va_pl L f) sz)) 0 0 (va_A (va_pl L f) sz) := by
  refine Met.ofW (cc := cX11_force) (maxL := 4) (ret := some .int) (by decide) rfl ?_
  intro p e s m args below meth c s₁ B hml hv
  obtain ⟨rfl, hsz, hP, hK, hD0, hN⟩ := hv
  have hx := B.exec
  have hb := B.bytes
  have hr := B.returns
  have hts := fun (w : Cond) (h : w ∈ WALL) => atoms_spec (ws := wqX11_force) B.pre w (List.mem_cons_of_mem _ h)
  have hown : s.vm.findClass RX11 = some m.cls := findClass_of_methodNamed B.named
  have hlocks := B.notSynchronized
  subst hsz
  have hD := hD0.self (sz := s.heap.size)
  generalize hAe : va_A (va_pl L f) s.heap.size = A at hD ⊢
  have hA : ∀ q : Nat, s.heap.size ≤ q → A q := fun q h => by rw [← hAe]; exact Or.inr h
  have hS : va_S A s.heap s.heap [] := va_S.rf
  have hR : tp_F τ [7, 12, 20] f f := tp_F.rf
  have hX : tp_X τ ρ (fun n => n = 14) f f := tp_X.rf
  have hl := lv_entry ([.ref h0, .int v, .int u, .int a]) (n := 4) (Nat.le_of_ble_eq_true rfl)
  rw [lg_entry_eq]
  generalize (lg_sl ([.ref h0, .int v, .int u, .int a]) ++ List.replicate (4 - (lg_sl ([.ref h0, .int v, .int u, .int a])).length) Slot.unset).toArray = ls at hl ⊢
  have hl : lv_has ls 4 [(0, .ref h0), (1, .int v), (2, .int u), (3, .int a)] := hl
  refine tgk_12 hG ht_h0 (fun y1 y1l y2 y3 y4 y5 y6 y7a y7b y7c => ?_)
  refine tgk_11 hG y1 (fun y8 y8n y9 y9n y10 y11 y12 y13 y13m y13l y14 y14m y14l y15 y15m y15l y16 y16w y16m y16l y17 y17w y17m y17l y18 y18w y18m y18l y19 y19w y19m y19l => ?_)
  refine tgk_7 hG y15 (fun y20 y20n y21 y21n y22 y22n y23a y23b => ?_)
  refine tpk_7 hT y15 (fun o24_x3 hf_o24 ro24_0 => ?_)
  refine lv_iload_n hx hb dX11_force_0 rfl (lv_at hl 1 rfl) ?_
  refine lv_iload_n hx hb dX11_force_1 rfl (lv_at hl 2 rfl) ?_
  refine pz_calli (va_runS (As := [.int v, .int u]) (rest := []) ⟨hx, hb, hml, hown, hts⟩ (t_X11_isSpan l dC dI _ v u (v.toInt) (u.toInt) rfl rfl) (va_cwS 2 hts gX11_force_X11_isSpan rfl rfl rfl pd_X11_isSpan ⟨Nat.le_of_ble_eq_true rfl, Nat.le_of_ble_eq_true rfl⟩) ⟨pz_blind, pz_pre pz_P0 (hK.sub (tys' := []) [] rfl) (pz_D0 (A := fun _ => True)) hN⟩ rfl rfl hl.1 rfl (lv_room (Nat.le_of_ble_eq_true rfl)) dX11_force_2 ⟨Nat.le_of_ble_eq_true rfl, Nat.le_of_ble_eq_true rfl⟩) (fun r25 hw26 => ?_)
  obtain ⟨hw26r, hw26p⟩ := hw26
  refine lv_if_eq (tgt := 15) hx hb dX11_force_5 (by decide) (fun c27 => ?_) (fun c27 => ?_)
  · have ic27 : r25.toInt = 0 := zi_eq rfl rfl c27
    have p28 : ¬ ((0 ≤ (v.toInt) ∧ (v.toInt) ≤ 2399) ∧ (0 ≤ (u.toInt) ∧ (u.toInt) ≤ 2399) ∧ (v.toInt) ≤ (u.toInt)) := (tp_cond.no hw26p) (by omega)
    clear hw26r ic27
    refine lv_aload_n hx hb dX11_force_15 rfl (lv_at hl 0 rfl) ?_
    refine lv_iconst (v := (-1)) hx hb dX11_force_16 (by decide) ?_
    refine tpk_12 hT ht_h0 (fun o29_x6 hf_o29 => ?_)
    refine tpk_pos (tp_in hG ht_h0 (by decide)) hf_o29 (fun q30 eq30 => ?_)
    have hFc := tp_fr hD hS hA
    refine va_calli (va_runV (As := [.int (-1)]) (rest := []) ⟨hx, hb, hml, hown, hts⟩ (t_X11_refuse l dC dI _ Ω κ τ ν ρ L f hG hT h0 ((-1)) ht_h0) (cwV 1 hts gX11_force_X11_refuse rfl rfl rfl ⟨rfl, pd_X11_refuse⟩ ⟨Nat.le_of_ble_eq_true rfl, Nat.le_of_ble_eq_true rfl⟩) ⟨pz_blind, va_recv hK hP (ci := 11) (q0 := q30) rfl eq30, pz_pre hP hK hD hN⟩ rfl rfl hl.1 rfl (lv_room (Nat.le_of_ble_eq_true rfl)) dX11_force_17 ⟨Nat.le_of_ble_eq_true rfl, Nat.le_of_ble_eq_true rfl⟩) hS (fun q _ h => hFc q h) hFc (fun r31 f33 t H1 locs ht hvm hw32 hB hz1 hk1 hS => ?_)
    refine tn_4 hw32 (fun hT hF34 hw32r hw32p => ?_); clear hw32
    have hR := hR.then hF34 (by decide)
    have hX := hX.fr hF34 (by decide)
    have hP := hB.1; rw [ht] at hP; have hD := tp_ad f33 hD; clear hB hFc hz1 hk1; subst ht; generalize t.heap = H at hP hS ⊢
    have hw32pq : r31.toInt = (-1) := by rw [hw32p]; rfl
    have ro24_0 := tp_hu ro24_0
    have tv35 : tp_fld (f (ρ (ρ h0 0) 14)) 3 = o24_x3.toInt := by rw [hf_o24]; rfl
    have hf_36 : f33 (ρ (ρ h0 0) 14) = .inr (6, [.ref (ρ (ρ (ρ h0 0) 14) 0), .ref (ρ (ρ (ρ h0 0) 14) 1), .ref (ρ (ρ (ρ h0 0) 14) 2), .int o24_x3]) := (hF34 _ (by rw [tp_iu y15]; decide)).trans hf_o24
    have tv37 : tp_fld (f33 (ρ (ρ h0 0) 14)) 3 = o24_x3.toInt := by rw [hf_36]; rfl
    exact W.iret (v := r31) hx hb hr (fun t ht hW => ⟨⟨r31, f33, rfl, ⟨hT, hR, trivial, ⟨hX, (by rw [tv35, tv37]; exact ⟨⟨fun q0 => by omega, fun q0 => ⟨fun q1 => by omega, fun q1 => (by omega)⟩⟩, ⟨fun q0 => by omega, fun q0 => ⟨fun q1 => by omega, fun q1 => (by omega)⟩⟩⟩)⟩⟩, by rw [ht]; exact hP, va_K.moved hW.alike hK, hD⟩, hS.F ht⟩) hS.2.2 dX11_force_20
  · have ic27 : r25.toInt ≠ 0 := zi_eqf rfl rfl c27
    have p38 : (0 ≤ (v.toInt) ∧ (v.toInt) ≤ 2399) ∧ (0 ≤ (u.toInt) ∧ (u.toInt) ≤ 2399) ∧ (v.toInt) ≤ (u.toInt) := (tp_cond.yes hw26p) (by omega)
    clear hw26r ic27
    refine lv_iload_n hx hb dX11_force_8 rfl (lv_at hl 3 rfl) ?_
    refine pz_calli (va_runS (As := [.int a]) (rest := []) ⟨hx, hb, hml, hown, hts⟩ (t_X11_isHour l dC dI _ a (a.toInt) rfl) (va_cwS 1 hts gX11_force_X11_isHour rfl rfl rfl pd_X11_isHour ⟨Nat.le_of_ble_eq_true rfl, Nat.le_of_ble_eq_true rfl⟩) ⟨pz_blind, pz_pre pz_P0 (hK.sub (tys' := []) [] rfl) (pz_D0 (A := fun _ => True)) hN⟩ rfl rfl hl.1 rfl (lv_room (Nat.le_of_ble_eq_true rfl)) dX11_force_9 ⟨Nat.le_of_ble_eq_true rfl, Nat.le_of_ble_eq_true rfl⟩) (fun r39 hw40 => ?_)
    obtain ⟨hw40r, hw40p⟩ := hw40
    refine lv_if_ne (tgt := 21) hx hb dX11_force_12 (by decide) (fun c41 => ?_) (fun c41 => ?_)
    · have ic41 : r39.toInt ≠ 0 := zi_ne rfl rfl c41
      have p42 : 0 ≤ (a.toInt) ∧ (a.toInt) ≤ 2399 := (tp_cond.yes hw40p) (by omega)
      clear hw40r ic41
      refine lv_aload_n hx hb dX11_force_21 rfl (lv_at hl 0 rfl) ?_
      refine lv_aload_n hx hb dX11_force_22 rfl (lv_at hl 0 rfl) ?_
      refine tpk_12 hT ht_h0 (fun o43_x6 hf_o43 => ?_)
      refine tpk_pos (tp_in hG ht_h0 (by decide)) hf_o43 (fun q44 eq44 => ?_)
      refine va_get (D := (dC, dI)) (ci := 11) (v := .ref (ρ h0 0)) (C := RX11) (T := TX11) (N := 7) hx hb hts hfX11 hown hK hP q44 eq44 rfl 0 (by decide) (hts (.fieldLink RX11 10 "ColdShips" "world" "LColdShips$World;") wa_15) (fun _ h9 => h9) rfl dX11_force_23 ?_
      refine tpk_11 hT y1 (fun o45_x0 o45_x1 o45_x2 o45_x3 o45_x4 o45_x5 o45_x6 hf_o45 ro45_0 ro45_1 ro45_2 ro45_3 => ?_)
      refine tpk_pos (tp_in hG y1 (by decide)) hf_o45 (fun q46 eq46 => ?_)
      refine va_getN (D := (dC, dI)) (ci := 10) (v := .ref (ρ (ρ h0 0) 14)) (C := RX10) (T := TX10) (N := 19) hx hb hts hfX10 hown hK hP q46 eq46 rfl 14 (by decide) (va_Nw.use rfl (hN.1 (.fieldLinkNest RX11 245 "ColdShips$World" "forces" "LColdShips$Spans;" "ColdShips") nzw_79)) (fun _ h9 => h9) rfl dX11_force_26 ?_
      refine lv_iload_n hx hb dX11_force_29 rfl (lv_at hl 3 rfl) ?_
      refine lv_iload_n hx hb dX11_force_30 rfl (lv_at hl 1 rfl) ?_
      refine lv_iload_n hx hb dX11_force_31 rfl (lv_at hl 2 rfl) ?_
      refine tpk_pos (tp_in hG y15 (by decide)) hf_o24 (fun q47 eq47 => ?_)
      have hFc := tp_fr hD hS hA
      have ro24_0 := tp_hu ro24_0
      refine va_calli (va_runV (As := [.int a, .int v, .int u]) (rest := [.ref h0]) ⟨hx, hb, hml, hown, hts⟩ (t_X6_add l dC dI _ Ω κ τ ν ρ L f hG hT (ρ (ρ h0 0) 14) a v u y15 o24_x3 hf_o24) (cwV 3 hts gX11_force_X6_add rfl rfl rfl ⟨rfl, pd_X6_add⟩ ⟨Nat.le_of_ble_eq_true rfl, Nat.le_of_ble_eq_true rfl⟩) ⟨pz_blind, va_recv hK hP (ci := 6) (q0 := q47) rfl eq47, pz_pre hP hK hD hN⟩ rfl rfl hl.1 rfl (lv_room (Nat.le_of_ble_eq_true rfl)) dX11_force_32 ⟨Nat.le_of_ble_eq_true rfl, Nat.le_of_ble_eq_true rfl⟩) hS (fun q _ h => hFc q h) hFc (fun r48 f50 t H1 locs ht hvm hw49 hB hz1 hk1 hS => ?_)
      refine tn_4 hw49 (fun hT hF51 hw49r hw49p => ?_); clear hw49
      have hR := hR.then hF51 (by decide)
      obtain ⟨hw49x, hw49p⟩ := hw49p
      have hX := hX.th hw49x (fun n q9 => by have q8 : n = ρ (ρ (ρ h0 0) 14) 30 := q9; show n = 14; omega)
      have hP := hB.1; rw [ht] at hP; have hD := tp_ad f50 hD; clear hB hFc hz1 hk1; subst ht; generalize t.heap = H at hP hS ⊢
      refine tpk_7 hT y15 (fun o52_x3 hf_o52 ro52_0 => ?_)
      have ro52_0 := tp_hu ro52_0
      have tv53 : tp_fld (f50 (ρ (ρ h0 0) 14)) 3 = o52_x3.toInt := by rw [hf_o52]; rfl
      have pl54 : ((((o24_x3.toInt = (ρ (ρ (ρ h0 0) 14) 11 : Int)) → r48.toInt = -1) ∧ (¬ (o24_x3.toInt = (ρ (ρ (ρ h0 0) 14) 11 : Int)) → r48.toInt = o24_x3.toInt + 1))) ∧ ((((o24_x3.toInt = (ρ (ρ (ρ h0 0) 14) 11 : Int)) → o52_x3.toInt = o24_x3.toInt) ∧ (¬ (o24_x3.toInt = (ρ (ρ (ρ h0 0) 14) 11 : Int)) → o52_x3.toInt = o24_x3.toInt + 1))) := by have q9 := hw49p; rw [tv53] at q9; exact q9
      have hf_55 : f50 h0 = .inr (11, [.ref (ρ h0 0), .ref (ρ h0 1), .ref (ρ h0 2), .ref (ρ h0 3), .ref (ρ h0 4), .ref (ρ h0 5), .int o43_x6]) := (hF51 _ (by rw [ht_h0]; decide)).trans hf_o43
      refine tpk_pos (tp_in hG ht_h0 (by decide)) hf_55 (fun q56 eq56 => ?_)
      have hFc := tp_fr hD hS hA
      refine va_calli (va_runV (As := [.int r48]) (rest := []) ⟨hx, hb, hml, hown, hts⟩ (t_X11_acceptOrFull l dC dI _ Ω κ τ ν ρ L f50 hG hT h0 r48 ht_h0) (cwV 1 hts gX11_force_X11_acceptOrFull rfl rfl rfl ⟨rfl, pd_X11_acceptOrFull⟩ ⟨Nat.le_of_ble_eq_true rfl, Nat.le_of_ble_eq_true rfl⟩) ⟨pz_blind, va_recv hK hP (ci := 11) (q0 := q56) rfl eq56, pz_pre hP hK hD hN⟩ rfl rfl hl.1 rfl (lv_room (Nat.le_of_ble_eq_true rfl)) dX11_force_35 ⟨Nat.le_of_ble_eq_true rfl, Nat.le_of_ble_eq_true rfl⟩) hS (fun q _ h => hFc q h) hFc (fun r57 f59 t H1 locs ht hvm hw58 hB hz1 hk1 hS => ?_)
      refine tn_4 hw58 (fun hT hF60 hw58r hw58p => ?_); clear hw58
      have hR := hR.then hF60 (by decide)
      have hX := hX.fr hF60 (by decide)
      have hP := hB.1; rw [ht] at hP; have hD := tp_ad f59 hD; clear hB hFc hz1 hk1; subst ht; generalize t.heap = H at hP hS ⊢
      have pl61 : ((((r48.toInt = -1) → r57.toInt = -5) ∧ (¬ (r48.toInt = -1) → r57.toInt = r48.toInt))) := by have q9 := hw58p; exact q9
      have tv62 : tp_fld (f (ρ (ρ h0 0) 14)) 3 = o24_x3.toInt := by rw [hf_o24]; rfl
      have hf_63 : f59 (ρ (ρ h0 0) 14) = .inr (6, [.ref (ρ (ρ (ρ h0 0) 14) 0), .ref (ρ (ρ (ρ h0 0) 14) 1), .ref (ρ (ρ (ρ h0 0) 14) 2), .int o52_x3]) := (hF60 _ (by rw [tp_iu y15]; decide)).trans hf_o52
      have tv64 : tp_fld (f59 (ρ (ρ h0 0) 14)) 3 = o52_x3.toInt := by rw [hf_63]; rfl
      exact W.iret (v := r57) hx hb hr (fun t ht hW => ⟨⟨r57, f59, rfl, ⟨hT, hR, trivial, ⟨hX, (by rw [tv62, tv64]; exact ⟨⟨fun q0 => by omega, fun q0 => ⟨fun q1 => by omega, fun q1 => (by omega)⟩⟩, ⟨fun q0 => by omega, fun q0 => ⟨fun q1 => by omega, fun q1 => (by omega)⟩⟩⟩)⟩⟩, by rw [ht]; exact hP, va_K.moved hW.alike hK, hD⟩, hS.F ht⟩) hS.2.2 dX11_force_38
    · have ic41 : r39.toInt = 0 := zi_nef rfl rfl c41
      have p65 : ¬ (0 ≤ (a.toInt) ∧ (a.toInt) ≤ 2399) := (tp_cond.no hw40p) (by omega)
      clear hw40r ic41
      refine lv_aload_n hx hb dX11_force_15 rfl (lv_at hl 0 rfl) ?_
      refine lv_iconst (v := (-1)) hx hb dX11_force_16 (by decide) ?_
      refine tpk_12 hT ht_h0 (fun o66_x6 hf_o66 => ?_)
      refine tpk_pos (tp_in hG ht_h0 (by decide)) hf_o66 (fun q67 eq67 => ?_)
      have hFc := tp_fr hD hS hA
      refine va_calli (va_runV (As := [.int (-1)]) (rest := []) ⟨hx, hb, hml, hown, hts⟩ (t_X11_refuse l dC dI _ Ω κ τ ν ρ L f hG hT h0 ((-1)) ht_h0) (cwV 1 hts gX11_force_X11_refuse rfl rfl rfl ⟨rfl, pd_X11_refuse⟩ ⟨Nat.le_of_ble_eq_true rfl, Nat.le_of_ble_eq_true rfl⟩) ⟨pz_blind, va_recv hK hP (ci := 11) (q0 := q67) rfl eq67, pz_pre hP hK hD hN⟩ rfl rfl hl.1 rfl (lv_room (Nat.le_of_ble_eq_true rfl)) dX11_force_17 ⟨Nat.le_of_ble_eq_true rfl, Nat.le_of_ble_eq_true rfl⟩) hS (fun q _ h => hFc q h) hFc (fun r68 f70 t H1 locs ht hvm hw69 hB hz1 hk1 hS => ?_)
      refine tn_4 hw69 (fun hT hF71 hw69r hw69p => ?_); clear hw69
      have hR := hR.then hF71 (by decide)
      have hX := hX.fr hF71 (by decide)
      have hP := hB.1; rw [ht] at hP; have hD := tp_ad f70 hD; clear hB hFc hz1 hk1; subst ht; generalize t.heap = H at hP hS ⊢
      have hw69pq : r68.toInt = (-1) := by rw [hw69p]; rfl
      have ro24_0 := tp_hu ro24_0
      have tv72 : tp_fld (f (ρ (ρ h0 0) 14)) 3 = o24_x3.toInt := by rw [hf_o24]; rfl
      have hf_73 : f70 (ρ (ρ h0 0) 14) = .inr (6, [.ref (ρ (ρ (ρ h0 0) 14) 0), .ref (ρ (ρ (ρ h0 0) 14) 1), .ref (ρ (ρ (ρ h0 0) 14) 2), .int o24_x3]) := (hF71 _ (by rw [tp_iu y15]; decide)).trans hf_o24
      have tv74 : tp_fld (f70 (ρ (ρ h0 0) 14)) 3 = o24_x3.toInt := by rw [hf_73]; rfl
      exact W.iret (v := r68) hx hb hr (fun t ht hW => ⟨⟨r68, f70, rfl, ⟨hT, hR, trivial, ⟨hX, (by rw [tv72, tv74]; exact ⟨⟨fun q0 => by omega, fun q0 => ⟨fun q1 => by omega, fun q1 => (by omega)⟩⟩, ⟨fun q0 => by omega, fun q0 => ⟨fun q1 => by omega, fun q1 => (by omega)⟩⟩⟩)⟩⟩, by rw [ht]; exact hP, va_K.moved hW.alike hK, hD⟩, hS.F ht⟩) hS.2.2 dX11_force_20
set_option maxHeartbeats 4000000 in
set_option maxRecDepth 100000 in
theorem t_X11_bill (l : Launch) (dC : Nat → ClassId) (dI : Nat → Nat → Nat) (sz : Nat) (Ω : Nat → Nat → (Nat → Nat) → va_E → Prop) (κ : Nat → ClassId) (τ ν : Nat → Nat) (ρ : Nat → Nat → Nat) (L : List Nat) (f : Nat → va_E) (hG : tp_G τ ν ρ L) (hT : tp_T Ω κ τ ν ρ f) (h0 : Nat) (v : Int32) (u : Int32) (ht_h0 : τ h0 = 12) : Met l yX11_bill wqX11_bill ({ frames := 4, cells := 0, slots := 0, locals := 1200 }) (va_Pc [.ref h0, .int v, .int u] (pz_B dC dI (tp_K κ) (va_pl L f) sz)) (va_Qi (fun (r : Int32) (f1 : Nat → va_E) => tp_T Ω κ τ ν ρ f1 ∧ tp_F τ [12, 21] f f1 ∧ True ∧ True) (fun (f1 : Nat → va_E) (t : State) => pz_E dC dI (tp_K κ) (va_A (va_pl L f) sz) (va_pl L f1) t) (va_A (va_pl L f) sz)) 0 0 (va_A (va_pl L f) sz) := by
  refine Met.ofW (cc := cX11_bill) (maxL := 3) (ret := some .int) (by decide) rfl ?_
  intro p e s m args below meth c s₁ B hml hv
  obtain ⟨rfl, hsz, hP, hK, hD0, hN⟩ := hv
  have hx := B.exec
  have hb := B.bytes
  have hr := B.returns
  have hts := fun (w : Cond) (h : w ∈ WALL) => atoms_spec (ws := wqX11_bill) B.pre w (List.mem_cons_of_mem _ h)
  have hown : s.vm.findClass RX11 = some m.cls := findClass_of_methodNamed B.named
  have hlocks := B.notSynchronized
  subst hsz
  have hD := hD0.self (sz := s.heap.size)
  generalize hAe : va_A (va_pl L f) s.heap.size = A at hD ⊢
  have hA : ∀ q : Nat, s.heap.size ≤ q → A q := fun q h => by rw [← hAe]; exact Or.inr h
  have hS : va_S A s.heap s.heap [] := va_S.rf
  have hR : tp_F τ [12, 21] f f := tp_F.rf
  have hl := lv_entry ([.ref h0, .int v, .int u]) (n := 3) (Nat.le_of_ble_eq_true rfl)
  rw [lg_entry_eq]
  generalize (lg_sl ([.ref h0, .int v, .int u]) ++ List.replicate (3 - (lg_sl ([.ref h0, .int v, .int u])).length) Slot.unset).toArray = ls at hl ⊢
  have hl : lv_has ls 3 [(0, .ref h0), (1, .int v), (2, .int u)] := hl
  refine lv_iload_n hx hb dX11_bill_0 rfl (lv_at hl 2 rfl) ?_
  refine lv_iconst (v := 0) hx hb dX11_bill_1 (by decide) ?_
  refine lv_ldc (own := RX11) (v := 200000) hx hb hown (hts (.constant RX11 76 (200000)) wa_232) dX11_bill_2 ?_
  refine pz_calli (va_runS (As := [.int u, .int 0, .int 200000]) (rest := []) ⟨hx, hb, hml, hown, hts⟩ (t_X11_within l dC dI _ u (0) (200000) (u.toInt) (0) (200000) rfl rfl rfl) (va_cwS 3 hts gX11_bill_X11_within rfl rfl rfl pd_X11_within ⟨Nat.le_of_ble_eq_true rfl, Nat.le_of_ble_eq_true rfl⟩) ⟨pz_blind, pz_pre pz_P0 (hK.sub (tys' := []) [] rfl) (pz_D0 (A := fun _ => True)) hN⟩ rfl rfl hl.1 rfl (lv_room (Nat.le_of_ble_eq_true rfl)) dX11_bill_4 ⟨Nat.le_of_ble_eq_true rfl, Nat.le_of_ble_eq_true rfl⟩) (fun r1 hw2 => ?_)
  obtain ⟨hw2r, hw2p⟩ := hw2
  refine lv_if_ne (tgt := 16) hx hb dX11_bill_7 (by decide) (fun c3 => ?_) (fun c3 => ?_)
  · have ic3 : r1.toInt ≠ 0 := zi_ne rfl rfl c3
    have p4 : (0) ≤ (u.toInt) ∧ (u.toInt) ≤ (200000) := (tp_cond.yes hw2p) (by omega)
    clear hw2r ic3
    refine lv_aload_n hx hb dX11_bill_16 rfl (lv_at hl 0 rfl) ?_
    refine tgk_12 hG ht_h0 (fun y5 y5l y6 y7 y8 y9 y10 y11a y11b y11c => ?_)
    refine tpk_12 hT ht_h0 (fun o12_x6 hf_o12 => ?_)
    refine tpk_pos (tp_in hG ht_h0 (by decide)) hf_o12 (fun q13 eq13 => ?_)
    refine va_get (D := (dC, dI)) (ci := 11) (v := .ref (ρ h0 0)) (C := RX11) (T := TX11) (N := 7) hx hb hts hfX11 hown hK hP q13 eq13 rfl 0 (by decide) (hts (.fieldLink RX11 10 "ColdShips" "world" "LColdShips$World;") wa_15) (fun _ h9 => h9) rfl dX11_bill_17 ?_
    refine tgk_11 hG y5 (fun y14 y14n y15 y15n y16 y17 y18 y19 y19m y19l y20 y20m y20l y21 y21m y21l y22 y22w y22m y22l y23 y23w y23m y23l y24 y24w y24m y24l y25 y25w y25m y25l => ?_)
    refine tpk_11 hT y5 (fun o26_x0 o26_x1 o26_x2 o26_x3 o26_x4 o26_x5 o26_x6 hf_o26 ro26_0 ro26_1 ro26_2 ro26_3 => ?_)
    refine tpk_pos (tp_in hG y5 (by decide)) hf_o26 (fun q27 eq27 => ?_)
    refine va_getN (D := (dC, dI)) (ci := 10) (v := .ref (ρ (ρ h0 0) 17)) (C := RX10) (T := TX10) (N := 19) hx hb hts hfX10 hown hK hP q27 eq27 rfl 17 (by decide) (va_Nw.use rfl (hN.1 (.fieldLinkNest RX11 207 "ColdShips$World" "landings" "LColdShips$Rows;" "ColdShips") nzw_85)) (fun _ h9 => h9) rfl dX11_bill_20 ?_
    refine lv_iload_n hx hb dX11_bill_23 rfl (lv_at hl 1 rfl) ?_
    refine tgk_5 hG y24 (fun y28 y28n y29a y29b y29c => ?_)
    refine tpk_5 hT y24 (fun o30_x0 o30_x2 hf_o30 ro30_0 ro30_1 => ?_)
    refine tpk_pos (tp_in hG y24 (by decide)) hf_o30 (fun q31 eq31 => ?_)
    have ro30_0 := tp_hu ro30_0; have ro30_1 := tp_hu ro30_1
    refine pz_calli (va_runV (As := [.int v]) (rest := []) ⟨hx, hb, hml, hown, hts⟩ (t_X4_has l dC dI _ Ω κ τ ν ρ L f hG hT (ρ (ρ h0 0) 17) v y24 o30_x0 o30_x2 hf_o30) (cwV 1 hts gX11_bill_X4_has rfl rfl rfl ⟨rfl, pd_X4_has⟩ ⟨Nat.le_of_ble_eq_true rfl, Nat.le_of_ble_eq_true rfl⟩) ⟨pz_blind, va_recv hK hP (ci := 4) (q0 := q31) rfl eq31, pz_pre hP hK hD hN⟩ rfl rfl hl.1 rfl (lv_room (Nat.le_of_ble_eq_true rfl)) dX11_bill_24 ⟨Nat.le_of_ble_eq_true rfl, Nat.le_of_ble_eq_true rfl⟩) (fun r32 hw33 => ?_)
    obtain ⟨hw33r, hw33p⟩ := hw33
    refine lv_if_ne (tgt := 37) hx hb dX11_bill_27 (by decide) (fun c34 => ?_) (fun c34 => ?_)
    · have ic34 : r32.toInt ≠ 0 := zi_ne rfl rfl c34
      have p35 : 0 ≤ v.toInt ∧ v.toInt < o30_x2.toInt := (tp_cond.yes hw33p) (by omega)
      clear hw33r ic34
      refine lv_aload_n hx hb dX11_bill_37 rfl (lv_at hl 0 rfl) ?_
      refine va_get (D := (dC, dI)) (ci := 11) (v := .ref (ρ h0 0)) (C := RX11) (T := TX11) (N := 7) hx hb hts hfX11 hown hK hP q13 eq13 rfl 0 (by decide) (hts (.fieldLink RX11 10 "ColdShips" "world" "LColdShips$World;") wa_15) (fun _ h9 => h9) rfl dX11_bill_38 ?_
      refine va_getN (D := (dC, dI)) (ci := 10) (v := .ref (ρ (ρ h0 0) 17)) (C := RX10) (T := TX10) (N := 19) hx hb hts hfX10 hown hK hP q27 eq27 rfl 17 (by decide) (va_Nw.use rfl (hN.1 (.fieldLinkNest RX11 207 "ColdShips$World" "landings" "LColdShips$Rows;" "ColdShips") nzw_85)) (fun _ h9 => h9) rfl dX11_bill_41 ?_
      refine lv_iload_n hx hb dX11_bill_44 rfl (lv_at hl 1 rfl) ?_
      refine lv_bipush (v := 11) hx hb dX11_bill_45 (by decide) ?_
      refine pz_calll (va_runV (As := [.int v, .int 11]) (rest := []) ⟨hx, hb, hml, hown, hts⟩ (t_X4_at l dC dI _ Ω κ τ ν ρ L f hG hT (ρ (ρ h0 0) 17) v (11) y24 o30_x0 o30_x2 hf_o30) (cwV 2 hts gX11_bill_X4_at rfl rfl rfl ⟨rfl, pd_X4_at⟩ ⟨Nat.le_of_ble_eq_true rfl, Nat.le_of_ble_eq_true rfl⟩) ⟨pz_blind, va_recv hK hP (ci := 4) (q0 := q31) rfl eq31, pz_pre hP hK hD hN⟩ rfl rfl hl.1 rfl (lv_room (Nat.le_of_ble_eq_true rfl)) dX11_bill_47 ⟨Nat.le_of_ble_eq_true rfl, Nat.le_of_ble_eq_true rfl⟩) (fun r36 hw37 => ?_)
      obtain ⟨hw37r, hw37p⟩ := hw37
      refine lv_ldc2 (own := RX11) (v := (-1)) hx hb hown (hts (.constantLong RX11 198 (-1)) wa_660) dX11_bill_50 ?_
      refine W.lcmp hx hb dX11_bill_53 ?_
      refine lv_if_eq (tgt := 64) hx hb dX11_bill_54 (by decide) (fun c38 => ?_) (fun c38 => ?_)
      · have ic38 : r36.toInt = (-1) := zl_eq rfl rfl c38
        refine lv_aload_n hx hb dX11_bill_64 rfl (lv_at hl 0 rfl) ?_
        refine va_get (D := (dC, dI)) (ci := 11) (v := .ref (ρ h0 0)) (C := RX11) (T := TX11) (N := 7) hx hb hts hfX11 hown hK hP q13 eq13 rfl 0 (by decide) (hts (.fieldLink RX11 10 "ColdShips" "world" "LColdShips$World;") wa_15) (fun _ h9 => h9) rfl dX11_bill_65 ?_
        refine va_getN (D := (dC, dI)) (ci := 10) (v := .ref (ρ (ρ h0 0) 17)) (C := RX10) (T := TX10) (N := 19) hx hb hts hfX10 hown hK hP q27 eq27 rfl 17 (by decide) (va_Nw.use rfl (hN.1 (.fieldLinkNest RX11 207 "ColdShips$World" "landings" "LColdShips$Rows;" "ColdShips") nzw_85)) (fun _ h9 => h9) rfl dX11_bill_68 ?_
        refine lv_iload_n hx hb dX11_bill_71 rfl (lv_at hl 1 rfl) ?_
        refine lv_bipush (v := 11) hx hb dX11_bill_72 (by decide) ?_
        refine lv_iload_n hx hb dX11_bill_74 rfl (lv_at hl 2 rfl) ?_
        refine lv_i2l hx hb dX11_bill_75 rfl ?_
        have hFc := tp_fr hD hS hA
        refine va_callv (va_runV (As := [.int v, .int 11, .long u.toInt64]) (rest := []) ⟨hx, hb, hml, hown, hts⟩ (t_X4_set l dC dI _ Ω κ τ ν ρ L f hG hT (ρ (ρ h0 0) 17) v (11) u.toInt64 y24 o30_x0 o30_x2 hf_o30) (cwV 3 hts gX11_bill_X4_set rfl rfl rfl ⟨rfl, pd_X4_set⟩ ⟨Nat.le_of_ble_eq_true rfl, Nat.le_of_ble_eq_true rfl⟩) ⟨pz_blind, va_recv hK hP (ci := 4) (q0 := q31) rfl eq31, pz_pre hP hK hD hN⟩ rfl rfl hl.1 rfl (lv_room (Nat.le_of_ble_eq_true rfl)) dX11_bill_76 ⟨Nat.le_of_ble_eq_true rfl, Nat.le_of_ble_eq_true rfl⟩) hS (fun q _ h => hFc q h) hFc (fun f41 t H1 locs ht hvm hw40 hB hz1 hk1 hS => ?_)
        refine tn_3 hw40 (fun hT hF42 hw40p => ?_); clear hw40
        have hR := hR.then hF42 (by decide)
        have hP := hB.1; rw [ht] at hP; have hD := tp_ad f41 hD; clear hB hFc hz1 hk1; subst ht; generalize t.heap = H at hP hS ⊢
        refine lv_aload_n hx hb dX11_bill_79 rfl (lv_at hl 0 rfl) ?_
        refine lv_iconst (v := 0) hx hb dX11_bill_80 (by decide) ?_
        have hf_43 : f41 h0 = .inr (11, [.ref (ρ h0 0), .ref (ρ h0 1), .ref (ρ h0 2), .ref (ρ h0 3), .ref (ρ h0 4), .ref (ρ h0 5), .int o12_x6]) := (hF42 _ (by rw [ht_h0]; decide)).trans hf_o12
        refine tpk_pos (tp_in hG ht_h0 (by decide)) hf_43 (fun q44 eq44 => ?_)
        have hFc := tp_fr hD hS hA
        refine va_calli (va_runV (As := [.int 0]) (rest := []) ⟨hx, hb, hml, hown, hts⟩ (t_X11_accept l dC dI _ Ω κ τ ν ρ L f41 hG hT h0 (0) ht_h0) (cwV 1 hts gX11_bill_X11_accept rfl rfl rfl ⟨rfl, pd_X11_accept⟩ ⟨Nat.le_of_ble_eq_true rfl, Nat.le_of_ble_eq_true rfl⟩) ⟨pz_blind, va_recv hK hP (ci := 11) (q0 := q44) rfl eq44, pz_pre hP hK hD hN⟩ rfl rfl hl.1 rfl (lv_room (Nat.le_of_ble_eq_true rfl)) dX11_bill_81 ⟨Nat.le_of_ble_eq_true rfl, Nat.le_of_ble_eq_true rfl⟩) hS (fun q _ h => hFc q h) hFc (fun r45 f47 t H1 locs ht hvm hw46 hB hz1 hk1 hS => ?_)
        refine tn_4 hw46 (fun hT hF48 hw46r hw46p => ?_); clear hw46
        have hR := hR.then hF48 (by decide)
        have hP := hB.1; rw [ht] at hP; have hD := tp_ad f47 hD; clear hB hFc hz1 hk1; subst ht; generalize t.heap = H at hP hS ⊢
        have hw46pq : r45.toInt = 0 := by rw [hw46p]; rfl
        exact W.iret (v := r45) hx hb hr (fun t ht hW => ⟨⟨r45, f47, rfl, ⟨hT, hR, trivial, trivial⟩, by rw [ht]; exact hP, va_K.moved hW.alike hK, hD⟩, hS.F ht⟩) hS.2.2 dX11_bill_84
      · have ic38 : r36.toInt ≠ (-1) := zl_eqf rfl rfl c38
        refine lv_aload_n hx hb dX11_bill_57 rfl (lv_at hl 0 rfl) ?_
        refine lv_bipush (v := (-4)) hx hb dX11_bill_58 (by decide) ?_
        have hFc := tp_fr hD hS hA
        refine va_calli (va_runV (As := [.int (-4)]) (rest := []) ⟨hx, hb, hml, hown, hts⟩ (t_X11_refuse l dC dI _ Ω κ τ ν ρ L f hG hT h0 ((-4)) ht_h0) (cwV 1 hts gX11_bill_X11_refuse rfl rfl rfl ⟨rfl, pd_X11_refuse⟩ ⟨Nat.le_of_ble_eq_true rfl, Nat.le_of_ble_eq_true rfl⟩) ⟨pz_blind, va_recv hK hP (ci := 11) (q0 := q13) rfl eq13, pz_pre hP hK hD hN⟩ rfl rfl hl.1 rfl (lv_room (Nat.le_of_ble_eq_true rfl)) dX11_bill_60 ⟨Nat.le_of_ble_eq_true rfl, Nat.le_of_ble_eq_true rfl⟩) hS (fun q _ h => hFc q h) hFc (fun r49 f51 t H1 locs ht hvm hw50 hB hz1 hk1 hS => ?_)
        refine tn_4 hw50 (fun hT hF52 hw50r hw50p => ?_); clear hw50
        have hR := hR.then hF52 (by decide)
        have hP := hB.1; rw [ht] at hP; have hD := tp_ad f51 hD; clear hB hFc hz1 hk1; subst ht; generalize t.heap = H at hP hS ⊢
        have hw50pq : r49.toInt = (-4) := by rw [hw50p]; rfl
        exact W.iret (v := r49) hx hb hr (fun t ht hW => ⟨⟨r49, f51, rfl, ⟨hT, hR, trivial, trivial⟩, by rw [ht]; exact hP, va_K.moved hW.alike hK, hD⟩, hS.F ht⟩) hS.2.2 dX11_bill_63
    · have ic34 : r32.toInt = 0 := zi_nef rfl rfl c34
      clear hw33r ic34
      refine lv_aload_n hx hb dX11_bill_30 rfl (lv_at hl 0 rfl) ?_
      refine lv_bipush (v := (-2)) hx hb dX11_bill_31 (by decide) ?_
      have hFc := tp_fr hD hS hA
      refine va_calli (va_runV (As := [.int (-2)]) (rest := []) ⟨hx, hb, hml, hown, hts⟩ (t_X11_refuse l dC dI _ Ω κ τ ν ρ L f hG hT h0 ((-2)) ht_h0) (cwV 1 hts gX11_bill_X11_refuse rfl rfl rfl ⟨rfl, pd_X11_refuse⟩ ⟨Nat.le_of_ble_eq_true rfl, Nat.le_of_ble_eq_true rfl⟩) ⟨pz_blind, va_recv hK hP (ci := 11) (q0 := q13) rfl eq13, pz_pre hP hK hD hN⟩ rfl rfl hl.1 rfl (lv_room (Nat.le_of_ble_eq_true rfl)) dX11_bill_33 ⟨Nat.le_of_ble_eq_true rfl, Nat.le_of_ble_eq_true rfl⟩) hS (fun q _ h => hFc q h) hFc (fun r53 f55 t H1 locs ht hvm hw54 hB hz1 hk1 hS => ?_)
      refine tn_4 hw54 (fun hT hF56 hw54r hw54p => ?_); clear hw54
      have hR := hR.then hF56 (by decide)
      have hP := hB.1; rw [ht] at hP; have hD := tp_ad f55 hD; clear hB hFc hz1 hk1; subst ht; generalize t.heap = H at hP hS ⊢
      have hw54pq : r53.toInt = (-2) := by rw [hw54p]; rfl
      exact W.iret (v := r53) hx hb hr (fun t ht hW => ⟨⟨r53, f55, rfl, ⟨hT, hR, trivial, trivial⟩, by rw [ht]; exact hP, va_K.moved hW.alike hK, hD⟩, hS.F ht⟩) hS.2.2 dX11_bill_36
  · have ic3 : r1.toInt = 0 := zi_nef rfl rfl c3
    clear hw2r ic3
    refine lv_aload_n hx hb dX11_bill_10 rfl (lv_at hl 0 rfl) ?_
    refine lv_iconst (v := (-1)) hx hb dX11_bill_11 (by decide) ?_
    refine tgk_12 hG ht_h0 (fun y57 y57l y58 y59 y60 y61 y62 y63a y63b y63c => ?_)
    refine tpk_12 hT ht_h0 (fun o64_x6 hf_o64 => ?_)
    refine tpk_pos (tp_in hG ht_h0 (by decide)) hf_o64 (fun q65 eq65 => ?_)
    have hFc := tp_fr hD hS hA
    refine va_calli (va_runV (As := [.int (-1)]) (rest := []) ⟨hx, hb, hml, hown, hts⟩ (t_X11_refuse l dC dI _ Ω κ τ ν ρ L f hG hT h0 ((-1)) ht_h0) (cwV 1 hts gX11_bill_X11_refuse rfl rfl rfl ⟨rfl, pd_X11_refuse⟩ ⟨Nat.le_of_ble_eq_true rfl, Nat.le_of_ble_eq_true rfl⟩) ⟨pz_blind, va_recv hK hP (ci := 11) (q0 := q65) rfl eq65, pz_pre hP hK hD hN⟩ rfl rfl hl.1 rfl (lv_room (Nat.le_of_ble_eq_true rfl)) dX11_bill_12 ⟨Nat.le_of_ble_eq_true rfl, Nat.le_of_ble_eq_true rfl⟩) hS (fun q _ h => hFc q h) hFc (fun r66 f68 t H1 locs ht hvm hw67 hB hz1 hk1 hS => ?_)
    refine tn_4 hw67 (fun hT hF69 hw67r hw67p => ?_); clear hw67
    have hR := hR.then hF69 (by decide)
    have hP := hB.1; rw [ht] at hP; have hD := tp_ad f68 hD; clear hB hFc hz1 hk1; subst ht; generalize t.heap = H at hP hS ⊢
    have hw67pq : r66.toInt = (-1) := by rw [hw67p]; rfl
    exact W.iret (v := r66) hx hb hr (fun t ht hW => ⟨⟨r66, f68, rfl, ⟨hT, hR, trivial, trivial⟩, by rw [ht]; exact hP, va_K.moved hW.alike hK, hD⟩, hS.F ht⟩) hS.2.2 dX11_bill_15
end
section
theorem gX11_feed_X2_hasRoom : GoodIn WALL (wsV RX11 252 RX2 yX2_hasRoom wqX2_hasRoom) := wg_V wa_761 wa_762 wa_763 wa_23 wa_764
theorem gX11_feed_X2_addFour : GoodIn WALL (wsV RX11 256 RX2 yX2_addFour wqX2_addFour) := wg_V wa_766 wa_767 wa_768 wa_23 wa_769
theorem dX11_feed_0 : decode cX11_feed 0 = .ok (.aload_n 0, 1) := od_42  (by decide +kernel)
theorem dX11_feed_1 : decode cX11_feed 1 = .ok (.getfield 32, 3) := od_180 (a := 0) (b := 32) (by decide +kernel) (by decide)
theorem dX11_feed_4 : decode cX11_feed 4 = .ok (.invokevirtual 252, 3) := od_182 (a := 0) (b := 252) (by decide +kernel) (by decide)
theorem dX11_feed_7 : decode cX11_feed 7 = .ok (.ifCond .ne 5, 3) := od_154 (a := 0) (b := 5) (by decide +kernel) (by decide +kernel)
theorem dX11_feed_10 : decode cX11_feed 10 = .ok (.iconst (-1), 1) := od_2  (by decide +kernel)
theorem dX11_feed_11 : decode cX11_feed 11 = .ok (.ireturn, 1) := od_172  (by decide +kernel)
theorem dX11_feed_12 : decode cX11_feed 12 = .ok (.aload_n 0, 1) := od_42  (by decide +kernel)
theorem dX11_feed_13 : decode cX11_feed 13 = .ok (.getfield 32, 3) := od_180 (a := 0) (b := 32) (by decide +kernel) (by decide)
theorem dX11_feed_16 : decode cX11_feed 16 = .ok (.iload_n 1, 1) := od_27  (by decide +kernel)
theorem dX11_feed_17 : decode cX11_feed 17 = .ok (.invokevirtual 256, 3) := od_182 (a := 1) (b := 0) (by decide +kernel) (by decide)
theorem dX11_feed_20 : decode cX11_feed 20 = .ok (.aload_n 0, 1) := od_42  (by decide +kernel)
theorem dX11_feed_21 : decode cX11_feed 21 = .ok (.getfield 32, 3) := od_180 (a := 0) (b := 32) (by decide +kernel) (by decide)
theorem dX11_feed_24 : decode cX11_feed 24 = .ok (.iload_n 2, 1) := od_28  (by decide +kernel)
theorem dX11_feed_25 : decode cX11_feed 25 = .ok (.invokevirtual 256, 3) := od_182 (a := 1) (b := 0) (by decide +kernel) (by decide)
theorem dX11_feed_28 : decode cX11_feed 28 = .ok (.aload_n 0, 1) := od_42  (by decide +kernel)
theorem dX11_feed_29 : decode cX11_feed 29 = .ok (.getfield 32, 3) := od_180 (a := 0) (b := 32) (by decide +kernel) (by decide)
theorem dX11_feed_32 : decode cX11_feed 32 = .ok (.iload_n 3, 1) := od_29  (by decide +kernel)
theorem dX11_feed_33 : decode cX11_feed 33 = .ok (.invokevirtual 256, 3) := od_182 (a := 1) (b := 0) (by decide +kernel) (by decide)
theorem dX11_feed_36 : decode cX11_feed 36 = .ok (.aload_n 0, 1) := od_42  (by decide +kernel)
theorem dX11_feed_37 : decode cX11_feed 37 = .ok (.getfield 32, 3) := od_180 (a := 0) (b := 32) (by decide +kernel) (by decide)
theorem dX11_feed_40 : decode cX11_feed 40 = .ok (.iload 4, 2) := od_21 (n := 4) (by decide +kernel)
theorem dX11_feed_42 : decode cX11_feed 42 = .ok (.invokevirtual 256, 3) := od_182 (a := 1) (b := 0) (by decide +kernel) (by decide)
theorem dX11_feed_45 : decode cX11_feed 45 = .ok (.aload_n 0, 1) := od_42  (by decide +kernel)
theorem dX11_feed_46 : decode cX11_feed 46 = .ok (.getfield 32, 3) := od_180 (a := 0) (b := 32) (by decide +kernel) (by decide)
theorem dX11_feed_49 : decode cX11_feed 49 = .ok (.iload 5, 2) := od_21 (n := 5) (by decide +kernel)
theorem dX11_feed_51 : decode cX11_feed 51 = .ok (.invokevirtual 256, 3) := od_182 (a := 1) (b := 0) (by decide +kernel) (by decide)
theorem dX11_feed_54 : decode cX11_feed 54 = .ok (.aload_n 0, 1) := od_42  (by decide +kernel)
theorem dX11_feed_55 : decode cX11_feed 55 = .ok (.getfield 32, 3) := od_180 (a := 0) (b := 32) (by decide +kernel) (by decide)
theorem dX11_feed_58 : decode cX11_feed 58 = .ok (.getfield 260, 3) := od_180 (a := 1) (b := 4) (by decide +kernel) (by decide)
theorem dX11_feed_61 : decode cX11_feed 61 = .ok (.ireturn, 1) := od_172  (by decide +kernel)
theorem gX11_end_X11_within : GoodIn WALL (va_wsS RX11 51 yX11_within wqX11_within) := wg_S wa_180 wa_181 wa_2 wa_182
theorem dX11_end_0 : decode cX11_end 0 = .ok (.iload_n 1, 1) := od_27  (by decide +kernel)
theorem dX11_end_1 : decode cX11_end 1 = .ok (.iconst 0, 1) := od_3  (by decide +kernel)
theorem dX11_end_2 : decode cX11_end 2 = .ok (.aload_n 0, 1) := od_42  (by decide +kernel)
theorem dX11_end_3 : decode cX11_end 3 = .ok (.getfield 32, 3) := od_180 (a := 0) (b := 32) (by decide +kernel) (by decide)
theorem dX11_end_6 : decode cX11_end 6 = .ok (.getfield 260, 3) := od_180 (a := 1) (b := 4) (by decide +kernel) (by decide)
theorem dX11_end_9 : decode cX11_end 9 = .ok (.invokestatic 51, 3) := od_184 (a := 0) (b := 51) (by decide +kernel) (by decide)
theorem dX11_end_12 : decode cX11_end 12 = .ok (.ifCond .ne 5, 3) := od_154 (a := 0) (b := 5) (by decide +kernel) (by decide +kernel)
theorem dX11_end_15 : decode cX11_end 15 = .ok (.iconst (-1), 1) := od_2  (by decide +kernel)
theorem dX11_end_16 : decode cX11_end 16 = .ok (.ireturn, 1) := od_172  (by decide +kernel)
theorem dX11_end_17 : decode cX11_end 17 = .ok (.aload_n 0, 1) := od_42  (by decide +kernel)
theorem dX11_end_18 : decode cX11_end 18 = .ok (.getfield 32, 3) := od_180 (a := 0) (b := 32) (by decide +kernel) (by decide)
theorem dX11_end_21 : decode cX11_end 21 = .ok (.iload_n 1, 1) := od_27  (by decide +kernel)
theorem dX11_end_22 : decode cX11_end 22 = .ok (.putfield 260, 3) := od_181 (a := 1) (b := 4) (by decide +kernel) (by decide)
theorem dX11_end_25 : decode cX11_end 25 = .ok (.iload_n 1, 1) := od_27  (by decide +kernel)
theorem dX11_end_26 : decode cX11_end 26 = .ok (.ireturn, 1) := od_172  (by decide +kernel)
theorem dX11_fault_0 : decode cX11_fault 0 = .ok (.aload_n 0, 1) := od_42  (by decide +kernel)
theorem dX11_fault_1 : decode cX11_fault 1 = .ok (.getfield 32, 3) := od_180 (a := 0) (b := 32) (by decide +kernel) (by decide)
theorem dX11_fault_4 : decode cX11_fault 4 = .ok (.getfield 275, 3) := od_180 (a := 1) (b := 19) (by decide +kernel) (by decide)
theorem dX11_fault_7 : decode cX11_fault 7 = .ok (.ireturn, 1) := od_172  (by decide +kernel)
theorem gX11_due_X4_has : GoodIn WALL (wsV RX11 211 RX4 yX4_has wqX4_has) := wg_V wa_677 wa_529 wa_530 wa_56 wa_531
theorem gX11_due_X10_hasContract : GoodIn WALL (wsV RX11 278 RX10 yX10_hasContract wqX10_hasContract) := wg_V wa_1125 wa_1126 wa_1127 wa_14 wa_1128
theorem gX11_due_X11_isHour : GoodIn WALL (va_wsS RX11 229 yX11_isHour wqX11_isHour) := wg_S wa_323 wa_324 wa_2 wa_325
theorem gX11_due_X3_reckon : GoodIn WALL (wsV RX11 283 RX3 yX3_reckon wqX3_reckon) := wg_V wa_1130 wa_1131 wa_1132 wa_27 wa_1133
theorem dX11_due_0 : decode cX11_due 0 = .ok (.aload_n 0, 1) := od_42  (by decide +kernel)
theorem dX11_due_1 : decode cX11_due 1 = .ok (.getfield 10, 3) := od_180 (a := 0) (b := 10) (by decide +kernel) (by decide)
theorem dX11_due_4 : decode cX11_due 4 = .ok (.getfield 207, 3) := od_180 (a := 0) (b := 207) (by decide +kernel) (by decide)
theorem dX11_due_7 : decode cX11_due 7 = .ok (.iload_n 1, 1) := od_27  (by decide +kernel)
theorem dX11_due_8 : decode cX11_due 8 = .ok (.invokevirtual 211, 3) := od_182 (a := 0) (b := 211) (by decide +kernel) (by decide)
theorem dX11_due_11 : decode cX11_due 11 = .ok (.ifCond .eq 21, 3) := od_153 (a := 0) (b := 21) (by decide +kernel) (by decide +kernel)
theorem dX11_due_14 : decode cX11_due 14 = .ok (.aload_n 0, 1) := od_42  (by decide +kernel)
theorem dX11_due_15 : decode cX11_due 15 = .ok (.getfield 10, 3) := od_180 (a := 0) (b := 10) (by decide +kernel) (by decide)
theorem dX11_due_18 : decode cX11_due 18 = .ok (.iload_n 2, 1) := od_28  (by decide +kernel)
theorem dX11_due_19 : decode cX11_due 19 = .ok (.invokevirtual 278, 3) := od_182 (a := 1) (b := 22) (by decide +kernel) (by decide)
theorem dX11_due_22 : decode cX11_due 22 = .ok (.ifCond .eq 10, 3) := od_153 (a := 0) (b := 10) (by decide +kernel) (by decide +kernel)
theorem dX11_due_25 : decode cX11_due 25 = .ok (.iload_n 3, 1) := od_29  (by decide +kernel)
theorem dX11_due_26 : decode cX11_due 26 = .ok (.invokestatic 229, 3) := od_184 (a := 0) (b := 229) (by decide +kernel) (by decide)
theorem dX11_due_29 : decode cX11_due 29 = .ok (.ifCond .ne 7, 3) := od_154 (a := 0) (b := 7) (by decide +kernel) (by decide +kernel)
theorem dX11_due_32 : decode cX11_due 32 = .ok (.ldc2_w 281, 3) := od_20 (a := 1) (b := 25) (by decide +kernel) (by decide)
theorem dX11_due_35 : decode cX11_due 35 = .ok (.lreturn, 1) := od_173  (by decide +kernel)
theorem dX11_due_36 : decode cX11_due 36 = .ok (.aload_n 0, 1) := od_42  (by decide +kernel)
theorem dX11_due_37 : decode cX11_due 37 = .ok (.getfield 39, 3) := od_180 (a := 0) (b := 39) (by decide +kernel) (by decide)
theorem dX11_due_40 : decode cX11_due 40 = .ok (.iload_n 1, 1) := od_27  (by decide +kernel)
theorem dX11_due_41 : decode cX11_due 41 = .ok (.aload_n 0, 1) := od_42  (by decide +kernel)
theorem dX11_due_42 : decode cX11_due 42 = .ok (.getfield 10, 3) := od_180 (a := 0) (b := 10) (by decide +kernel) (by decide)
theorem dX11_due_45 : decode cX11_due 45 = .ok (.getfield 271, 3) := od_180 (a := 1) (b := 15) (by decide +kernel) (by decide)
theorem dX11_due_48 : decode cX11_due 48 = .ok (.iload_n 2, 1) := od_28  (by decide +kernel)
theorem dX11_due_49 : decode cX11_due 49 = .ok (.aaload, 1) := od_50  (by decide +kernel)
theorem dX11_due_50 : decode cX11_due 50 = .ok (.iload_n 3, 1) := od_29  (by decide +kernel)
theorem dX11_due_51 : decode cX11_due 51 = .ok (.invokevirtual 283, 3) := od_182 (a := 1) (b := 27) (by decide +kernel) (by decide)
theorem dX11_due_54 : decode cX11_due 54 = .ok (.iload 4, 2) := od_21 (n := 4) (by decide +kernel)
theorem dX11_due_56 : decode cX11_due 56 = .ok (.tableswitch 88 0 4 #[36, 52, 60, 68, 78], 36) := by decide +kernel
theorem dX11_due_92 : decode cX11_due 92 = .ok (.aload_n 0, 1) := od_42  (by decide +kernel)
theorem dX11_due_93 : decode cX11_due 93 = .ok (.getfield 39, 3) := od_180 (a := 0) (b := 39) (by decide +kernel) (by decide)
theorem dX11_due_96 : decode cX11_due 96 = .ok (.getfield 287, 3) := od_180 (a := 1) (b := 31) (by decide +kernel) (by decide)
theorem dX11_due_99 : decode cX11_due 99 = .ok (.aload_n 0, 1) := od_42  (by decide +kernel)
theorem dX11_due_100 : decode cX11_due 100 = .ok (.getfield 39, 3) := od_180 (a := 0) (b := 39) (by decide +kernel) (by decide)
theorem dX11_due_103 : decode cX11_due 103 = .ok (.getfield 291, 3) := od_180 (a := 1) (b := 35) (by decide +kernel) (by decide)
theorem dX11_due_106 : decode cX11_due 106 = .ok (.lsub, 1) := od_101  (by decide +kernel)
theorem dX11_due_107 : decode cX11_due 107 = .ok (.lreturn, 1) := od_173  (by decide +kernel)
theorem dX11_due_108 : decode cX11_due 108 = .ok (.aload_n 0, 1) := od_42  (by decide +kernel)
theorem dX11_due_109 : decode cX11_due 109 = .ok (.getfield 39, 3) := od_180 (a := 0) (b := 39) (by decide +kernel) (by decide)
theorem dX11_due_112 : decode cX11_due 112 = .ok (.getfield 287, 3) := od_180 (a := 1) (b := 31) (by decide +kernel) (by decide)
theorem dX11_due_115 : decode cX11_due 115 = .ok (.lreturn, 1) := od_173  (by decide +kernel)
theorem dX11_due_116 : decode cX11_due 116 = .ok (.aload_n 0, 1) := od_42  (by decide +kernel)
theorem dX11_due_117 : decode cX11_due 117 = .ok (.getfield 39, 3) := od_180 (a := 0) (b := 39) (by decide +kernel) (by decide)
theorem dX11_due_120 : decode cX11_due 120 = .ok (.getfield 291, 3) := od_180 (a := 1) (b := 35) (by decide +kernel) (by decide)
theorem dX11_due_123 : decode cX11_due 123 = .ok (.lreturn, 1) := od_173  (by decide +kernel)
theorem dX11_due_124 : decode cX11_due 124 = .ok (.aload_n 0, 1) := od_42  (by decide +kernel)
theorem dX11_due_125 : decode cX11_due 125 = .ok (.getfield 39, 3) := od_180 (a := 0) (b := 39) (by decide +kernel) (by decide)
theorem dX11_due_128 : decode cX11_due 128 = .ok (.getfield 294, 3) := od_180 (a := 1) (b := 38) (by decide +kernel) (by decide)
theorem dX11_due_131 : decode cX11_due 131 = .ok (.iconst 3, 1) := od_6  (by decide +kernel)
theorem dX11_due_132 : decode cX11_due 132 = .ok (.laload, 1) := od_47  (by decide +kernel)
theorem dX11_due_133 : decode cX11_due 133 = .ok (.lreturn, 1) := od_173  (by decide +kernel)
theorem dX11_due_134 : decode cX11_due 134 = .ok (.aload_n 0, 1) := od_42  (by decide +kernel)
theorem dX11_due_135 : decode cX11_due 135 = .ok (.getfield 39, 3) := od_180 (a := 0) (b := 39) (by decide +kernel) (by decide)
theorem dX11_due_138 : decode cX11_due 138 = .ok (.getfield 294, 3) := od_180 (a := 1) (b := 38) (by decide +kernel) (by decide)
theorem dX11_due_141 : decode cX11_due 141 = .ok (.iconst 5, 1) := od_8  (by decide +kernel)
theorem dX11_due_142 : decode cX11_due 142 = .ok (.laload, 1) := od_47  (by decide +kernel)
theorem dX11_due_143 : decode cX11_due 143 = .ok (.lreturn, 1) := od_173  (by decide +kernel)
theorem dX11_due_144 : decode cX11_due 144 = .ok (.ldc2_w 281, 3) := od_20 (a := 1) (b := 25) (by decide +kernel) (by decide)
theorem dX11_due_147 : decode cX11_due 147 = .ok (.lreturn, 1) := od_173  (by decide +kernel)
theorem gX11_settle_X4_has : GoodIn WALL (wsV RX11 211 RX4 yX4_has wqX4_has) := wg_V wa_677 wa_529 wa_530 wa_56 wa_531
theorem gX11_settle_X10_hasContract : GoodIn WALL (wsV RX11 278 RX10 yX10_hasContract wqX10_hasContract) := wg_V wa_1125 wa_1126 wa_1127 wa_14 wa_1128
theorem gX11_settle_X11_refuse : GoodIn WALL (wsV RX11 55 RX11 yX11_refuse wqX11_refuse) := wg_V wa_183 wa_184 wa_185 wa_2 wa_186
theorem gX11_settle_X10_isSettled : GoodIn WALL (wsV RX11 223 RX10 yX10_isSettled wqX10_isSettled) := wg_V wa_691 wa_692 wa_693 wa_14 wa_694
theorem gX11_settle_X3_reckon : GoodIn WALL (wsV RX11 283 RX3 yX3_reckon wqX3_reckon) := wg_V wa_1130 wa_1131 wa_1132 wa_27 wa_1133
theorem gX11_settle_X4_set : GoodIn WALL (wsV RX11 238 RX4 yX4_set wqX4_set) := wg_V wa_735 wa_525 wa_526 wa_56 wa_527
theorem gX11_settle_X11_accept : GoodIn WALL (wsV RX11 73 RX11 yX11_accept wqX11_accept) := wg_V wa_201 wa_202 wa_203 wa_2 wa_204
theorem dX11_settle_0 : decode cX11_settle 0 = .ok (.aload_n 0, 1) := od_42  (by decide +kernel)
theorem dX11_settle_1 : decode cX11_settle 1 = .ok (.getfield 10, 3) := od_180 (a := 0) (b := 10) (by decide +kernel) (by decide)
theorem dX11_settle_4 : decode cX11_settle 4 = .ok (.getfield 207, 3) := od_180 (a := 0) (b := 207) (by decide +kernel) (by decide)
theorem dX11_settle_7 : decode cX11_settle 7 = .ok (.iload_n 1, 1) := od_27  (by decide +kernel)
theorem dX11_settle_8 : decode cX11_settle 8 = .ok (.invokevirtual 211, 3) := od_182 (a := 0) (b := 211) (by decide +kernel) (by decide)
theorem dX11_settle_11 : decode cX11_settle 11 = .ok (.ifCond .eq 14, 3) := od_153 (a := 0) (b := 14) (by decide +kernel) (by decide +kernel)
theorem dX11_settle_14 : decode cX11_settle 14 = .ok (.aload_n 0, 1) := od_42  (by decide +kernel)
theorem dX11_settle_15 : decode cX11_settle 15 = .ok (.getfield 10, 3) := od_180 (a := 0) (b := 10) (by decide +kernel) (by decide)
theorem dX11_settle_18 : decode cX11_settle 18 = .ok (.iload_n 2, 1) := od_28  (by decide +kernel)
theorem dX11_settle_19 : decode cX11_settle 19 = .ok (.invokevirtual 278, 3) := od_182 (a := 1) (b := 22) (by decide +kernel) (by decide)
theorem dX11_settle_22 : decode cX11_settle 22 = .ok (.ifCond .ne 10, 3) := od_154 (a := 0) (b := 10) (by decide +kernel) (by decide +kernel)
theorem dX11_settle_25 : decode cX11_settle 25 = .ok (.aload_n 0, 1) := od_42  (by decide +kernel)
theorem dX11_settle_26 : decode cX11_settle 26 = .ok (.bipush (-2), 2) := od_16 (a := 254) (by decide +kernel) (by decide +kernel)
theorem dX11_settle_28 : decode cX11_settle 28 = .ok (.invokevirtual 55, 3) := od_182 (a := 0) (b := 55) (by decide +kernel) (by decide)
theorem dX11_settle_31 : decode cX11_settle 31 = .ok (.ireturn, 1) := od_172  (by decide +kernel)
theorem dX11_settle_32 : decode cX11_settle 32 = .ok (.aload_n 0, 1) := od_42  (by decide +kernel)
theorem dX11_settle_33 : decode cX11_settle 33 = .ok (.getfield 10, 3) := od_180 (a := 0) (b := 10) (by decide +kernel) (by decide)
theorem dX11_settle_36 : decode cX11_settle 36 = .ok (.iload_n 1, 1) := od_27  (by decide +kernel)
theorem dX11_settle_37 : decode cX11_settle 37 = .ok (.invokevirtual 223, 3) := od_182 (a := 0) (b := 223) (by decide +kernel) (by decide)
theorem dX11_settle_40 : decode cX11_settle 40 = .ok (.ifCond .eq 10, 3) := od_153 (a := 0) (b := 10) (by decide +kernel) (by decide +kernel)
theorem dX11_settle_43 : decode cX11_settle 43 = .ok (.aload_n 0, 1) := od_42  (by decide +kernel)
theorem dX11_settle_44 : decode cX11_settle 44 = .ok (.bipush (-4), 2) := od_16 (a := 252) (by decide +kernel) (by decide +kernel)
theorem dX11_settle_46 : decode cX11_settle 46 = .ok (.invokevirtual 55, 3) := od_182 (a := 0) (b := 55) (by decide +kernel) (by decide)
theorem dX11_settle_49 : decode cX11_settle 49 = .ok (.ireturn, 1) := od_172  (by decide +kernel)
theorem dX11_settle_50 : decode cX11_settle 50 = .ok (.aload_n 0, 1) := od_42  (by decide +kernel)
theorem dX11_settle_51 : decode cX11_settle 51 = .ok (.getfield 39, 3) := od_180 (a := 0) (b := 39) (by decide +kernel) (by decide)
theorem dX11_settle_54 : decode cX11_settle 54 = .ok (.iload_n 1, 1) := od_27  (by decide +kernel)
theorem dX11_settle_55 : decode cX11_settle 55 = .ok (.aload_n 0, 1) := od_42  (by decide +kernel)
theorem dX11_settle_56 : decode cX11_settle 56 = .ok (.getfield 10, 3) := od_180 (a := 0) (b := 10) (by decide +kernel) (by decide)
theorem dX11_settle_59 : decode cX11_settle 59 = .ok (.getfield 271, 3) := od_180 (a := 1) (b := 15) (by decide +kernel) (by decide)
theorem dX11_settle_62 : decode cX11_settle 62 = .ok (.iload_n 2, 1) := od_28  (by decide +kernel)
theorem dX11_settle_63 : decode cX11_settle 63 = .ok (.aaload, 1) := od_50  (by decide +kernel)
theorem dX11_settle_64 : decode cX11_settle 64 = .ok (.aload_n 0, 1) := od_42  (by decide +kernel)
theorem dX11_settle_65 : decode cX11_settle 65 = .ok (.getfield 10, 3) := od_180 (a := 0) (b := 10) (by decide +kernel) (by decide)
theorem dX11_settle_68 : decode cX11_settle 68 = .ok (.getfield 154, 3) := od_180 (a := 0) (b := 154) (by decide +kernel) (by decide)
theorem dX11_settle_71 : decode cX11_settle 71 = .ok (.invokevirtual 283, 3) := od_182 (a := 1) (b := 27) (by decide +kernel) (by decide)
theorem dX11_settle_74 : decode cX11_settle 74 = .ok (.aload_n 0, 1) := od_42  (by decide +kernel)
theorem dX11_settle_75 : decode cX11_settle 75 = .ok (.getfield 10, 3) := od_180 (a := 0) (b := 10) (by decide +kernel) (by decide)
theorem dX11_settle_78 : decode cX11_settle 78 = .ok (.getfield 207, 3) := od_180 (a := 0) (b := 207) (by decide +kernel) (by decide)
theorem dX11_settle_81 : decode cX11_settle 81 = .ok (.iload_n 1, 1) := od_27  (by decide +kernel)
theorem dX11_settle_82 : decode cX11_settle 82 = .ok (.bipush 12, 2) := od_16 (a := 12) (by decide +kernel) (by decide +kernel)
theorem dX11_settle_84 : decode cX11_settle 84 = .ok (.iload_n 2, 1) := od_28  (by decide +kernel)
theorem dX11_settle_85 : decode cX11_settle 85 = .ok (.i2l, 1) := od_133  (by decide +kernel)
theorem dX11_settle_86 : decode cX11_settle 86 = .ok (.invokevirtual 238, 3) := od_182 (a := 0) (b := 238) (by decide +kernel) (by decide)
theorem dX11_settle_89 : decode cX11_settle 89 = .ok (.aload_n 0, 1) := od_42  (by decide +kernel)
theorem dX11_settle_90 : decode cX11_settle 90 = .ok (.getfield 10, 3) := od_180 (a := 0) (b := 10) (by decide +kernel) (by decide)
theorem dX11_settle_93 : decode cX11_settle 93 = .ok (.getfield 207, 3) := od_180 (a := 0) (b := 207) (by decide +kernel) (by decide)
theorem dX11_settle_96 : decode cX11_settle 96 = .ok (.iload_n 1, 1) := od_27  (by decide +kernel)
theorem dX11_settle_97 : decode cX11_settle 97 = .ok (.bipush 13, 2) := od_16 (a := 13) (by decide +kernel) (by decide +kernel)
theorem dX11_settle_99 : decode cX11_settle 99 = .ok (.aload_n 0, 1) := od_42  (by decide +kernel)
theorem dX11_settle_100 : decode cX11_settle 100 = .ok (.getfield 39, 3) := od_180 (a := 0) (b := 39) (by decide +kernel) (by decide)
theorem dX11_settle_103 : decode cX11_settle 103 = .ok (.getfield 287, 3) := od_180 (a := 1) (b := 31) (by decide +kernel) (by decide)
theorem dX11_settle_106 : decode cX11_settle 106 = .ok (.aload_n 0, 1) := od_42  (by decide +kernel)
theorem dX11_settle_107 : decode cX11_settle 107 = .ok (.getfield 39, 3) := od_180 (a := 0) (b := 39) (by decide +kernel) (by decide)
theorem dX11_settle_110 : decode cX11_settle 110 = .ok (.getfield 291, 3) := od_180 (a := 1) (b := 35) (by decide +kernel) (by decide)
theorem dX11_settle_113 : decode cX11_settle 113 = .ok (.lsub, 1) := od_101  (by decide +kernel)
theorem dX11_settle_114 : decode cX11_settle 114 = .ok (.invokevirtual 238, 3) := od_182 (a := 0) (b := 238) (by decide +kernel) (by decide)
theorem dX11_settle_117 : decode cX11_settle 117 = .ok (.aload_n 0, 1) := od_42  (by decide +kernel)
theorem dX11_settle_118 : decode cX11_settle 118 = .ok (.getfield 10, 3) := od_180 (a := 0) (b := 10) (by decide +kernel) (by decide)
theorem dX11_settle_121 : decode cX11_settle 121 = .ok (.getfield 207, 3) := od_180 (a := 0) (b := 207) (by decide +kernel) (by decide)
theorem dX11_settle_124 : decode cX11_settle 124 = .ok (.iload_n 1, 1) := od_27  (by decide +kernel)
theorem dX11_settle_125 : decode cX11_settle 125 = .ok (.bipush 14, 2) := od_16 (a := 14) (by decide +kernel) (by decide +kernel)
theorem dX11_settle_127 : decode cX11_settle 127 = .ok (.aload_n 0, 1) := od_42  (by decide +kernel)
theorem dX11_settle_128 : decode cX11_settle 128 = .ok (.getfield 10, 3) := od_180 (a := 0) (b := 10) (by decide +kernel) (by decide)
theorem dX11_settle_131 : decode cX11_settle 131 = .ok (.getfield 154, 3) := od_180 (a := 0) (b := 154) (by decide +kernel) (by decide)
theorem dX11_settle_134 : decode cX11_settle 134 = .ok (.i2l, 1) := od_133  (by decide +kernel)
theorem dX11_settle_135 : decode cX11_settle 135 = .ok (.invokevirtual 238, 3) := od_182 (a := 0) (b := 238) (by decide +kernel) (by decide)
theorem dX11_settle_138 : decode cX11_settle 138 = .ok (.aload_n 0, 1) := od_42  (by decide +kernel)
theorem dX11_settle_139 : decode cX11_settle 139 = .ok (.iconst 0, 1) := od_3  (by decide +kernel)
theorem dX11_settle_140 : decode cX11_settle 140 = .ok (.invokevirtual 73, 3) := od_182 (a := 0) (b := 73) (by decide +kernel) (by decide)
theorem dX11_settle_143 : decode cX11_settle 143 = .ok (.ireturn, 1) := od_172  (by decide +kernel)
theorem gX11_settled_X4_has : GoodIn WALL (wsV RX11 211 RX4 yX4_has wqX4_has) := wg_V wa_677 wa_529 wa_530 wa_56 wa_531
theorem gX11_settled_X10_isSettled : GoodIn WALL (wsV RX11 223 RX10 yX10_isSettled wqX10_isSettled) := wg_V wa_691 wa_692 wa_693 wa_14 wa_694
theorem gX11_settled_X4_at : GoodIn WALL (wsV RX11 248 RX4 yX4_at wqX4_at) := wg_V wa_752 wa_683 wa_684 wa_56 wa_685
theorem dX11_settled_0 : decode cX11_settled 0 = .ok (.aload_n 0, 1) := od_42  (by decide +kernel)
theorem dX11_settled_1 : decode cX11_settled 1 = .ok (.getfield 10, 3) := od_180 (a := 0) (b := 10) (by decide +kernel) (by decide)
theorem dX11_settled_4 : decode cX11_settled 4 = .ok (.getfield 207, 3) := od_180 (a := 0) (b := 207) (by decide +kernel) (by decide)
theorem dX11_settled_7 : decode cX11_settled 7 = .ok (.iload_n 1, 1) := od_27  (by decide +kernel)
theorem dX11_settled_8 : decode cX11_settled 8 = .ok (.invokevirtual 211, 3) := od_182 (a := 0) (b := 211) (by decide +kernel) (by decide)
theorem dX11_settled_11 : decode cX11_settled 11 = .ok (.ifCond .eq 14, 3) := od_153 (a := 0) (b := 14) (by decide +kernel) (by decide +kernel)
theorem dX11_settled_14 : decode cX11_settled 14 = .ok (.aload_n 0, 1) := od_42  (by decide +kernel)
theorem dX11_settled_15 : decode cX11_settled 15 = .ok (.getfield 10, 3) := od_180 (a := 0) (b := 10) (by decide +kernel) (by decide)
theorem dX11_settled_18 : decode cX11_settled 18 = .ok (.iload_n 1, 1) := od_27  (by decide +kernel)
theorem dX11_settled_19 : decode cX11_settled 19 = .ok (.invokevirtual 223, 3) := od_182 (a := 0) (b := 223) (by decide +kernel) (by decide)
theorem dX11_settled_22 : decode cX11_settled 22 = .ok (.ifCond .ne 7, 3) := od_154 (a := 0) (b := 7) (by decide +kernel) (by decide +kernel)
theorem dX11_settled_25 : decode cX11_settled 25 = .ok (.ldc2_w 281, 3) := od_20 (a := 1) (b := 25) (by decide +kernel) (by decide)
theorem dX11_settled_28 : decode cX11_settled 28 = .ok (.lreturn, 1) := od_173  (by decide +kernel)
theorem dX11_settled_29 : decode cX11_settled 29 = .ok (.iload_n 2, 1) := od_28  (by decide +kernel)
theorem dX11_settled_30 : decode cX11_settled 30 = .ok (.tableswitch 68 0 2 #[26, 40, 54], 26) := by decide +kernel
theorem dX11_settled_56 : decode cX11_settled 56 = .ok (.aload_n 0, 1) := od_42  (by decide +kernel)
theorem dX11_settled_57 : decode cX11_settled 57 = .ok (.getfield 10, 3) := od_180 (a := 0) (b := 10) (by decide +kernel) (by decide)
theorem dX11_settled_60 : decode cX11_settled 60 = .ok (.getfield 207, 3) := od_180 (a := 0) (b := 207) (by decide +kernel) (by decide)
theorem dX11_settled_63 : decode cX11_settled 63 = .ok (.iload_n 1, 1) := od_27  (by decide +kernel)
theorem dX11_settled_64 : decode cX11_settled 64 = .ok (.bipush 13, 2) := od_16 (a := 13) (by decide +kernel) (by decide +kernel)
theorem dX11_settled_66 : decode cX11_settled 66 = .ok (.invokevirtual 248, 3) := od_182 (a := 0) (b := 248) (by decide +kernel) (by decide)
theorem dX11_settled_69 : decode cX11_settled 69 = .ok (.lreturn, 1) := od_173  (by decide +kernel)
theorem dX11_settled_70 : decode cX11_settled 70 = .ok (.aload_n 0, 1) := od_42  (by decide +kernel)
theorem dX11_settled_71 : decode cX11_settled 71 = .ok (.getfield 10, 3) := od_180 (a := 0) (b := 10) (by decide +kernel) (by decide)
theorem dX11_settled_74 : decode cX11_settled 74 = .ok (.getfield 207, 3) := od_180 (a := 0) (b := 207) (by decide +kernel) (by decide)
theorem dX11_settled_77 : decode cX11_settled 77 = .ok (.iload_n 1, 1) := od_27  (by decide +kernel)
theorem dX11_settled_78 : decode cX11_settled 78 = .ok (.bipush 12, 2) := od_16 (a := 12) (by decide +kernel) (by decide +kernel)
theorem dX11_settled_80 : decode cX11_settled 80 = .ok (.invokevirtual 248, 3) := od_182 (a := 0) (b := 248) (by decide +kernel) (by decide)
theorem dX11_settled_83 : decode cX11_settled 83 = .ok (.lreturn, 1) := od_173  (by decide +kernel)
theorem dX11_settled_84 : decode cX11_settled 84 = .ok (.aload_n 0, 1) := od_42  (by decide +kernel)
theorem dX11_settled_85 : decode cX11_settled 85 = .ok (.getfield 10, 3) := od_180 (a := 0) (b := 10) (by decide +kernel) (by decide)
theorem dX11_settled_88 : decode cX11_settled 88 = .ok (.getfield 207, 3) := od_180 (a := 0) (b := 207) (by decide +kernel) (by decide)
theorem dX11_settled_91 : decode cX11_settled 91 = .ok (.iload_n 1, 1) := od_27  (by decide +kernel)
theorem dX11_settled_92 : decode cX11_settled 92 = .ok (.bipush 14, 2) := od_16 (a := 14) (by decide +kernel) (by decide +kernel)
theorem dX11_settled_94 : decode cX11_settled 94 = .ok (.invokevirtual 248, 3) := od_182 (a := 0) (b := 248) (by decide +kernel) (by decide)
theorem dX11_settled_97 : decode cX11_settled 97 = .ok (.lreturn, 1) := od_173  (by decide +kernel)
theorem dX11_settled_98 : decode cX11_settled 98 = .ok (.ldc2_w 281, 3) := od_20 (a := 1) (b := 25) (by decide +kernel) (by decide)
theorem dX11_settled_101 : decode cX11_settled 101 = .ok (.lreturn, 1) := od_173  (by decide +kernel)
theorem gX11_table_X11_within : GoodIn WALL (va_wsS RX11 51 yX11_within wqX11_within) := wg_S wa_180 wa_181 wa_2 wa_182
theorem gX11_table_X11_refuse : GoodIn WALL (wsV RX11 55 RX11 yX11_refuse wqX11_refuse) := wg_V wa_183 wa_184 wa_185 wa_2 wa_186
theorem gX11_table_X10_hasShip : GoodIn WALL (wsV RX11 108 RX10 yX10_hasShip wqX10_hasShip) := wg_V wa_326 wa_327 wa_328 wa_14 wa_329
theorem gX11_table_X11_accept : GoodIn WALL (wsV RX11 73 RX11 yX11_accept wqX11_accept) := wg_V wa_201 wa_202 wa_203 wa_2 wa_204
theorem dX11_table_0 : decode cX11_table 0 = .ok (.iload_n 2, 1) := od_28  (by decide +kernel)
theorem dX11_table_1 : decode cX11_table 1 = .ok (.iconst 0, 1) := od_3  (by decide +kernel)
theorem dX11_table_2 : decode cX11_table 2 = .ok (.iconst 3, 1) := od_6  (by decide +kernel)
theorem dX11_table_3 : decode cX11_table 3 = .ok (.invokestatic 51, 3) := od_184 (a := 0) (b := 51) (by decide +kernel) (by decide)
theorem dX11_table_6 : decode cX11_table 6 = .ok (.ifCond .eq 25, 3) := od_153 (a := 0) (b := 25) (by decide +kernel) (by decide +kernel)
theorem dX11_table_9 : decode cX11_table 9 = .ok (.iload_n 3, 1) := od_29  (by decide +kernel)
theorem dX11_table_10 : decode cX11_table 10 = .ok (.iconst 0, 1) := od_3  (by decide +kernel)
theorem dX11_table_11 : decode cX11_table 11 = .ok (.sipush 5000, 3) := od_17 (a := 19) (b := 136) (by decide +kernel) (by decide +kernel)
theorem dX11_table_14 : decode cX11_table 14 = .ok (.invokestatic 51, 3) := od_184 (a := 0) (b := 51) (by decide +kernel) (by decide)
theorem dX11_table_17 : decode cX11_table 17 = .ok (.ifCond .eq 14, 3) := od_153 (a := 0) (b := 14) (by decide +kernel) (by decide +kernel)
theorem dX11_table_20 : decode cX11_table 20 = .ok (.iload 4, 2) := od_21 (n := 4) (by decide +kernel)
theorem dX11_table_22 : decode cX11_table 22 = .ok (.iconst 0, 1) := od_3  (by decide +kernel)
theorem dX11_table_23 : decode cX11_table 23 = .ok (.ldc 76, 2) := od_18 (n := 76) (by decide +kernel)
theorem dX11_table_25 : decode cX11_table 25 = .ok (.invokestatic 51, 3) := od_184 (a := 0) (b := 51) (by decide +kernel) (by decide)
theorem dX11_table_28 : decode cX11_table 28 = .ok (.ifCond .ne 9, 3) := od_154 (a := 0) (b := 9) (by decide +kernel) (by decide +kernel)
theorem dX11_table_31 : decode cX11_table 31 = .ok (.aload_n 0, 1) := od_42  (by decide +kernel)
theorem dX11_table_32 : decode cX11_table 32 = .ok (.iconst (-1), 1) := od_2  (by decide +kernel)
theorem dX11_table_33 : decode cX11_table 33 = .ok (.invokevirtual 55, 3) := od_182 (a := 0) (b := 55) (by decide +kernel) (by decide)
theorem dX11_table_36 : decode cX11_table 36 = .ok (.ireturn, 1) := od_172  (by decide +kernel)
theorem dX11_table_37 : decode cX11_table 37 = .ok (.aload_n 0, 1) := od_42  (by decide +kernel)
theorem dX11_table_38 : decode cX11_table 38 = .ok (.getfield 10, 3) := od_180 (a := 0) (b := 10) (by decide +kernel) (by decide)
theorem dX11_table_41 : decode cX11_table 41 = .ok (.iload_n 1, 1) := od_27  (by decide +kernel)
theorem dX11_table_42 : decode cX11_table 42 = .ok (.invokevirtual 108, 3) := od_182 (a := 0) (b := 108) (by decide +kernel) (by decide)
theorem dX11_table_45 : decode cX11_table 45 = .ok (.ifCond .ne 10, 3) := od_154 (a := 0) (b := 10) (by decide +kernel) (by decide +kernel)
theorem dX11_table_48 : decode cX11_table 48 = .ok (.aload_n 0, 1) := od_42  (by decide +kernel)
theorem dX11_table_49 : decode cX11_table 49 = .ok (.bipush (-2), 2) := od_16 (a := 254) (by decide +kernel) (by decide +kernel)
theorem dX11_table_51 : decode cX11_table 51 = .ok (.invokevirtual 55, 3) := od_182 (a := 0) (b := 55) (by decide +kernel) (by decide)
theorem dX11_table_54 : decode cX11_table 54 = .ok (.ireturn, 1) := od_172  (by decide +kernel)
theorem dX11_table_55 : decode cX11_table 55 = .ok (.aload_n 0, 1) := od_42  (by decide +kernel)
theorem dX11_table_56 : decode cX11_table 56 = .ok (.getfield 10, 3) := od_180 (a := 0) (b := 10) (by decide +kernel) (by decide)
theorem dX11_table_59 : decode cX11_table 59 = .ok (.getfield 84, 3) := od_180 (a := 0) (b := 84) (by decide +kernel) (by decide)
theorem dX11_table_62 : decode cX11_table 62 = .ok (.iload_n 1, 1) := od_27  (by decide +kernel)
theorem dX11_table_63 : decode cX11_table 63 = .ok (.aaload, 1) := od_50  (by decide +kernel)
theorem dX11_table_64 : decode cX11_table 64 = .ok (.getfield 297, 3) := od_180 (a := 1) (b := 41) (by decide +kernel) (by decide)
theorem dX11_table_67 : decode cX11_table 67 = .ok (.iload_n 2, 1) := od_28  (by decide +kernel)
theorem dX11_table_68 : decode cX11_table 68 = .ok (.iload_n 3, 1) := od_29  (by decide +kernel)
theorem dX11_table_69 : decode cX11_table 69 = .ok (.iastore, 1) := od_79  (by decide +kernel)
theorem dX11_table_70 : decode cX11_table 70 = .ok (.aload_n 0, 1) := od_42  (by decide +kernel)
theorem dX11_table_71 : decode cX11_table 71 = .ok (.getfield 10, 3) := od_180 (a := 0) (b := 10) (by decide +kernel) (by decide)
theorem dX11_table_74 : decode cX11_table 74 = .ok (.getfield 84, 3) := od_180 (a := 0) (b := 84) (by decide +kernel) (by decide)
theorem dX11_table_77 : decode cX11_table 77 = .ok (.iload_n 1, 1) := od_27  (by decide +kernel)
theorem dX11_table_78 : decode cX11_table 78 = .ok (.aaload, 1) := od_50  (by decide +kernel)
theorem dX11_table_79 : decode cX11_table 79 = .ok (.getfield 300, 3) := od_180 (a := 1) (b := 44) (by decide +kernel) (by decide)
theorem dX11_table_82 : decode cX11_table 82 = .ok (.iload_n 2, 1) := od_28  (by decide +kernel)
theorem dX11_table_83 : decode cX11_table 83 = .ok (.iload 4, 2) := od_21 (n := 4) (by decide +kernel)
theorem dX11_table_85 : decode cX11_table 85 = .ok (.iastore, 1) := od_79  (by decide +kernel)
theorem dX11_table_86 : decode cX11_table 86 = .ok (.aload_n 0, 1) := od_42  (by decide +kernel)
theorem dX11_table_87 : decode cX11_table 87 = .ok (.iconst 0, 1) := od_3  (by decide +kernel)
theorem dX11_table_88 : decode cX11_table 88 = .ok (.invokevirtual 73, 3) := od_182 (a := 0) (b := 73) (by decide +kernel) (by decide)
theorem dX11_table_91 : decode cX11_table 91 = .ok (.ireturn, 1) := od_172  (by decide +kernel)
theorem gX11_list_X11_within : GoodIn WALL (va_wsS RX11 51 yX11_within wqX11_within) := wg_S wa_180 wa_181 wa_2 wa_182
theorem gX11_list_X11_refuse : GoodIn WALL (wsV RX11 55 RX11 yX11_refuse wqX11_refuse) := wg_V wa_183 wa_184 wa_185 wa_2 wa_186
theorem gX11_list_X10_hasShip : GoodIn WALL (wsV RX11 108 RX10 yX10_hasShip wqX10_hasShip) := wg_V wa_326 wa_327 wa_328 wa_14 wa_329
theorem gX11_list_X11_accept : GoodIn WALL (wsV RX11 73 RX11 yX11_accept wqX11_accept) := wg_V wa_201 wa_202 wa_203 wa_2 wa_204
theorem dX11_list_0 : decode cX11_list 0 = .ok (.iload_n 2, 1) := od_28  (by decide +kernel)
theorem dX11_list_1 : decode cX11_list 1 = .ok (.bipush (-50), 2) := od_16 (a := 206) (by decide +kernel) (by decide +kernel)
theorem dX11_list_3 : decode cX11_list 3 = .ok (.bipush 50, 2) := od_16 (a := 50) (by decide +kernel) (by decide +kernel)
theorem dX11_list_5 : decode cX11_list 5 = .ok (.invokestatic 51, 3) := od_184 (a := 0) (b := 51) (by decide +kernel) (by decide)
theorem dX11_list_8 : decode cX11_list 8 = .ok (.ifCond .ne 9, 3) := od_154 (a := 0) (b := 9) (by decide +kernel) (by decide +kernel)
theorem dX11_list_11 : decode cX11_list 11 = .ok (.aload_n 0, 1) := od_42  (by decide +kernel)
theorem dX11_list_12 : decode cX11_list 12 = .ok (.iconst (-1), 1) := od_2  (by decide +kernel)
theorem dX11_list_13 : decode cX11_list 13 = .ok (.invokevirtual 55, 3) := od_182 (a := 0) (b := 55) (by decide +kernel) (by decide)
theorem dX11_list_16 : decode cX11_list 16 = .ok (.ireturn, 1) := od_172  (by decide +kernel)
theorem dX11_list_17 : decode cX11_list 17 = .ok (.aload_n 0, 1) := od_42  (by decide +kernel)
theorem dX11_list_18 : decode cX11_list 18 = .ok (.getfield 10, 3) := od_180 (a := 0) (b := 10) (by decide +kernel) (by decide)
theorem dX11_list_21 : decode cX11_list 21 = .ok (.iload_n 1, 1) := od_27  (by decide +kernel)
theorem dX11_list_22 : decode cX11_list 22 = .ok (.invokevirtual 108, 3) := od_182 (a := 0) (b := 108) (by decide +kernel) (by decide)
theorem dX11_list_25 : decode cX11_list 25 = .ok (.ifCond .ne 10, 3) := od_154 (a := 0) (b := 10) (by decide +kernel) (by decide +kernel)
theorem dX11_list_28 : decode cX11_list 28 = .ok (.aload_n 0, 1) := od_42  (by decide +kernel)
theorem dX11_list_29 : decode cX11_list 29 = .ok (.bipush (-2), 2) := od_16 (a := 254) (by decide +kernel) (by decide +kernel)
theorem dX11_list_31 : decode cX11_list 31 = .ok (.invokevirtual 55, 3) := od_182 (a := 0) (b := 55) (by decide +kernel) (by decide)
theorem dX11_list_34 : decode cX11_list 34 = .ok (.ireturn, 1) := od_172  (by decide +kernel)
theorem dX11_list_35 : decode cX11_list 35 = .ok (.aload_n 0, 1) := od_42  (by decide +kernel)
theorem dX11_list_36 : decode cX11_list 36 = .ok (.getfield 10, 3) := od_180 (a := 0) (b := 10) (by decide +kernel) (by decide)
theorem dX11_list_39 : decode cX11_list 39 = .ok (.getfield 84, 3) := od_180 (a := 0) (b := 84) (by decide +kernel) (by decide)
theorem dX11_list_42 : decode cX11_list 42 = .ok (.iload_n 1, 1) := od_27  (by decide +kernel)
theorem dX11_list_43 : decode cX11_list 43 = .ok (.aaload, 1) := od_50  (by decide +kernel)
theorem dX11_list_44 : decode cX11_list 44 = .ok (.getfield 303, 3) := od_180 (a := 1) (b := 47) (by decide +kernel) (by decide)
theorem dX11_list_47 : decode cX11_list 47 = .ok (.istore_n 3, 1) := od_62  (by decide +kernel)
theorem dX11_list_48 : decode cX11_list 48 = .ok (.aload_n 0, 1) := od_42  (by decide +kernel)
theorem dX11_list_49 : decode cX11_list 49 = .ok (.getfield 10, 3) := od_180 (a := 0) (b := 10) (by decide +kernel) (by decide)
theorem dX11_list_52 : decode cX11_list 52 = .ok (.getfield 84, 3) := od_180 (a := 0) (b := 84) (by decide +kernel) (by decide)
theorem dX11_list_55 : decode cX11_list 55 = .ok (.iload_n 1, 1) := od_27  (by decide +kernel)
theorem dX11_list_56 : decode cX11_list 56 = .ok (.aaload, 1) := od_50  (by decide +kernel)
theorem dX11_list_57 : decode cX11_list 57 = .ok (.iload_n 2, 1) := od_28  (by decide +kernel)
theorem dX11_list_58 : decode cX11_list 58 = .ok (.putfield 303, 3) := od_181 (a := 1) (b := 47) (by decide +kernel) (by decide)
theorem dX11_list_61 : decode cX11_list 61 = .ok (.aload_n 0, 1) := od_42  (by decide +kernel)
theorem dX11_list_62 : decode cX11_list 62 = .ok (.iload_n 3, 1) := od_29  (by decide +kernel)
theorem dX11_list_63 : decode cX11_list 63 = .ok (.invokevirtual 73, 3) := od_182 (a := 0) (b := 73) (by decide +kernel) (by decide)
theorem dX11_list_66 : decode cX11_list 66 = .ok (.ireturn, 1) := od_172  (by decide +kernel)
theorem gX11_reading_X11_within : GoodIn WALL (va_wsS RX11 51 yX11_within wqX11_within) := wg_S wa_180 wa_181 wa_2 wa_182
theorem gX11_reading_X11_isHour : GoodIn WALL (va_wsS RX11 229 yX11_isHour wqX11_isHour) := wg_S wa_323 wa_324 wa_2 wa_325
theorem gX11_reading_X11_refuse : GoodIn WALL (wsV RX11 55 RX11 yX11_refuse wqX11_refuse) := wg_V wa_183 wa_184 wa_185 wa_2 wa_186
theorem gX11_reading_X4_has : GoodIn WALL (wsV RX11 211 RX4 yX4_has wqX4_has) := wg_V wa_677 wa_529 wa_530 wa_56 wa_531
theorem gX11_reading_X4_addRow : GoodIn WALL (wsV RX11 235 RX4 yX4_addRow wqX4_addRow) := wg_V wa_734 wa_514 wa_515 wa_56 wa_516
theorem gX11_reading_X4_set : GoodIn WALL (wsV RX11 238 RX4 yX4_set wqX4_set) := wg_V wa_735 wa_525 wa_526 wa_56 wa_527
theorem gX11_reading_X11_accept : GoodIn WALL (wsV RX11 73 RX11 yX11_accept wqX11_accept) := wg_V wa_201 wa_202 wa_203 wa_2 wa_204
theorem dX11_reading_0 : decode cX11_reading 0 = .ok (.iload_n 2, 1) := od_28  (by decide +kernel)
theorem dX11_reading_1 : decode cX11_reading 1 = .ok (.iconst 0, 1) := od_3  (by decide +kernel)
theorem dX11_reading_2 : decode cX11_reading 2 = .ok (.iconst 1, 1) := od_4  (by decide +kernel)
theorem dX11_reading_3 : decode cX11_reading 3 = .ok (.invokestatic 51, 3) := od_184 (a := 0) (b := 51) (by decide +kernel) (by decide)
theorem dX11_reading_6 : decode cX11_reading 6 = .ok (.ifCond .eq 34, 3) := od_153 (a := 0) (b := 34) (by decide +kernel) (by decide +kernel)
theorem dX11_reading_9 : decode cX11_reading 9 = .ok (.iload_n 3, 1) := od_29  (by decide +kernel)
theorem dX11_reading_10 : decode cX11_reading 10 = .ok (.iconst 0, 1) := od_3  (by decide +kernel)
theorem dX11_reading_11 : decode cX11_reading 11 = .ok (.sipush 5000, 3) := od_17 (a := 19) (b := 136) (by decide +kernel) (by decide +kernel)
theorem dX11_reading_14 : decode cX11_reading 14 = .ok (.invokestatic 51, 3) := od_184 (a := 0) (b := 51) (by decide +kernel) (by decide)
theorem dX11_reading_17 : decode cX11_reading 17 = .ok (.ifCond .eq 23, 3) := od_153 (a := 0) (b := 23) (by decide +kernel) (by decide +kernel)
theorem dX11_reading_20 : decode cX11_reading 20 = .ok (.iload 4, 2) := od_21 (n := 4) (by decide +kernel)
theorem dX11_reading_22 : decode cX11_reading 22 = .ok (.bipush (-20), 2) := od_16 (a := 236) (by decide +kernel) (by decide +kernel)
theorem dX11_reading_24 : decode cX11_reading 24 = .ok (.bipush 20, 2) := od_16 (a := 20) (by decide +kernel) (by decide +kernel)
theorem dX11_reading_26 : decode cX11_reading 26 = .ok (.invokestatic 51, 3) := od_184 (a := 0) (b := 51) (by decide +kernel) (by decide)
theorem dX11_reading_29 : decode cX11_reading 29 = .ok (.ifCond .eq 11, 3) := od_153 (a := 0) (b := 11) (by decide +kernel) (by decide +kernel)
theorem dX11_reading_32 : decode cX11_reading 32 = .ok (.iload 5, 2) := od_21 (n := 5) (by decide +kernel)
theorem dX11_reading_34 : decode cX11_reading 34 = .ok (.invokestatic 229, 3) := od_184 (a := 0) (b := 229) (by decide +kernel) (by decide)
theorem dX11_reading_37 : decode cX11_reading 37 = .ok (.ifCond .ne 9, 3) := od_154 (a := 0) (b := 9) (by decide +kernel) (by decide +kernel)
theorem dX11_reading_40 : decode cX11_reading 40 = .ok (.aload_n 0, 1) := od_42  (by decide +kernel)
theorem dX11_reading_41 : decode cX11_reading 41 = .ok (.iconst (-1), 1) := od_2  (by decide +kernel)
theorem dX11_reading_42 : decode cX11_reading 42 = .ok (.invokevirtual 55, 3) := od_182 (a := 0) (b := 55) (by decide +kernel) (by decide)
theorem dX11_reading_45 : decode cX11_reading 45 = .ok (.ireturn, 1) := od_172  (by decide +kernel)
theorem dX11_reading_46 : decode cX11_reading 46 = .ok (.aload_n 0, 1) := od_42  (by decide +kernel)
theorem dX11_reading_47 : decode cX11_reading 47 = .ok (.getfield 10, 3) := od_180 (a := 0) (b := 10) (by decide +kernel) (by decide)
theorem dX11_reading_50 : decode cX11_reading 50 = .ok (.getfield 207, 3) := od_180 (a := 0) (b := 207) (by decide +kernel) (by decide)
theorem dX11_reading_53 : decode cX11_reading 53 = .ok (.iload_n 1, 1) := od_27  (by decide +kernel)
theorem dX11_reading_54 : decode cX11_reading 54 = .ok (.invokevirtual 211, 3) := od_182 (a := 0) (b := 211) (by decide +kernel) (by decide)
theorem dX11_reading_57 : decode cX11_reading 57 = .ok (.ifCond .ne 10, 3) := od_154 (a := 0) (b := 10) (by decide +kernel) (by decide +kernel)
theorem dX11_reading_60 : decode cX11_reading 60 = .ok (.aload_n 0, 1) := od_42  (by decide +kernel)
theorem dX11_reading_61 : decode cX11_reading 61 = .ok (.bipush (-2), 2) := od_16 (a := 254) (by decide +kernel) (by decide +kernel)
theorem dX11_reading_63 : decode cX11_reading 63 = .ok (.invokevirtual 55, 3) := od_182 (a := 0) (b := 55) (by decide +kernel) (by decide)
theorem dX11_reading_66 : decode cX11_reading 66 = .ok (.ireturn, 1) := od_172  (by decide +kernel)
theorem dX11_reading_67 : decode cX11_reading 67 = .ok (.aload_n 0, 1) := od_42  (by decide +kernel)
theorem dX11_reading_68 : decode cX11_reading 68 = .ok (.getfield 10, 3) := od_180 (a := 0) (b := 10) (by decide +kernel) (by decide)
theorem dX11_reading_71 : decode cX11_reading 71 = .ok (.getfield 306, 3) := od_180 (a := 1) (b := 50) (by decide +kernel) (by decide)
theorem dX11_reading_74 : decode cX11_reading 74 = .ok (.invokevirtual 235, 3) := od_182 (a := 0) (b := 235) (by decide +kernel) (by decide)
theorem dX11_reading_77 : decode cX11_reading 77 = .ok (.istore 6, 2) := od_54 (n := 6) (by decide +kernel)
theorem dX11_reading_79 : decode cX11_reading 79 = .ok (.iload 6, 2) := od_21 (n := 6) (by decide +kernel)
theorem dX11_reading_81 : decode cX11_reading 81 = .ok (.iconst (-1), 1) := od_2  (by decide +kernel)
theorem dX11_reading_82 : decode cX11_reading 82 = .ok (.if_icmp .ne 10, 3) := od_160 (a := 0) (b := 10) (by decide +kernel) (by decide +kernel)
theorem dX11_reading_85 : decode cX11_reading 85 = .ok (.aload_n 0, 1) := od_42  (by decide +kernel)
theorem dX11_reading_86 : decode cX11_reading 86 = .ok (.bipush (-5), 2) := od_16 (a := 251) (by decide +kernel) (by decide +kernel)
theorem dX11_reading_88 : decode cX11_reading 88 = .ok (.invokevirtual 55, 3) := od_182 (a := 0) (b := 55) (by decide +kernel) (by decide)
theorem dX11_reading_91 : decode cX11_reading 91 = .ok (.ireturn, 1) := od_172  (by decide +kernel)
theorem dX11_reading_92 : decode cX11_reading 92 = .ok (.aload_n 0, 1) := od_42  (by decide +kernel)
theorem dX11_reading_93 : decode cX11_reading 93 = .ok (.getfield 10, 3) := od_180 (a := 0) (b := 10) (by decide +kernel) (by decide)
theorem dX11_reading_96 : decode cX11_reading 96 = .ok (.getfield 306, 3) := od_180 (a := 1) (b := 50) (by decide +kernel) (by decide)
theorem dX11_reading_99 : decode cX11_reading 99 = .ok (.iload 6, 2) := od_21 (n := 6) (by decide +kernel)
theorem dX11_reading_101 : decode cX11_reading 101 = .ok (.iconst 0, 1) := od_3  (by decide +kernel)
theorem dX11_reading_102 : decode cX11_reading 102 = .ok (.iload_n 1, 1) := od_27  (by decide +kernel)
theorem dX11_reading_103 : decode cX11_reading 103 = .ok (.i2l, 1) := od_133  (by decide +kernel)
theorem dX11_reading_104 : decode cX11_reading 104 = .ok (.invokevirtual 238, 3) := od_182 (a := 0) (b := 238) (by decide +kernel) (by decide)
theorem dX11_reading_107 : decode cX11_reading 107 = .ok (.aload_n 0, 1) := od_42  (by decide +kernel)
theorem dX11_reading_108 : decode cX11_reading 108 = .ok (.getfield 10, 3) := od_180 (a := 0) (b := 10) (by decide +kernel) (by decide)
theorem dX11_reading_111 : decode cX11_reading 111 = .ok (.getfield 306, 3) := od_180 (a := 1) (b := 50) (by decide +kernel) (by decide)
theorem dX11_reading_114 : decode cX11_reading 114 = .ok (.iload 6, 2) := od_21 (n := 6) (by decide +kernel)
theorem dX11_reading_116 : decode cX11_reading 116 = .ok (.iconst 1, 1) := od_4  (by decide +kernel)
theorem dX11_reading_117 : decode cX11_reading 117 = .ok (.iload_n 2, 1) := od_28  (by decide +kernel)
theorem dX11_reading_118 : decode cX11_reading 118 = .ok (.i2l, 1) := od_133  (by decide +kernel)
theorem dX11_reading_119 : decode cX11_reading 119 = .ok (.invokevirtual 238, 3) := od_182 (a := 0) (b := 238) (by decide +kernel) (by decide)
theorem dX11_reading_122 : decode cX11_reading 122 = .ok (.aload_n 0, 1) := od_42  (by decide +kernel)
theorem dX11_reading_123 : decode cX11_reading 123 = .ok (.getfield 10, 3) := od_180 (a := 0) (b := 10) (by decide +kernel) (by decide)
theorem dX11_reading_126 : decode cX11_reading 126 = .ok (.getfield 306, 3) := od_180 (a := 1) (b := 50) (by decide +kernel) (by decide)
theorem dX11_reading_129 : decode cX11_reading 129 = .ok (.iload 6, 2) := od_21 (n := 6) (by decide +kernel)
theorem dX11_reading_131 : decode cX11_reading 131 = .ok (.iconst 2, 1) := od_5  (by decide +kernel)
theorem dX11_reading_132 : decode cX11_reading 132 = .ok (.iload_n 3, 1) := od_29  (by decide +kernel)
theorem dX11_reading_133 : decode cX11_reading 133 = .ok (.i2l, 1) := od_133  (by decide +kernel)
theorem dX11_reading_134 : decode cX11_reading 134 = .ok (.invokevirtual 238, 3) := od_182 (a := 0) (b := 238) (by decide +kernel) (by decide)
theorem dX11_reading_137 : decode cX11_reading 137 = .ok (.aload_n 0, 1) := od_42  (by decide +kernel)
theorem dX11_reading_138 : decode cX11_reading 138 = .ok (.getfield 10, 3) := od_180 (a := 0) (b := 10) (by decide +kernel) (by decide)
theorem dX11_reading_141 : decode cX11_reading 141 = .ok (.getfield 306, 3) := od_180 (a := 1) (b := 50) (by decide +kernel) (by decide)
theorem dX11_reading_144 : decode cX11_reading 144 = .ok (.iload 6, 2) := od_21 (n := 6) (by decide +kernel)
theorem dX11_reading_146 : decode cX11_reading 146 = .ok (.iconst 3, 1) := od_6  (by decide +kernel)
theorem dX11_reading_147 : decode cX11_reading 147 = .ok (.iload 4, 2) := od_21 (n := 4) (by decide +kernel)
theorem dX11_reading_149 : decode cX11_reading 149 = .ok (.i2l, 1) := od_133  (by decide +kernel)
theorem dX11_reading_150 : decode cX11_reading 150 = .ok (.invokevirtual 238, 3) := od_182 (a := 0) (b := 238) (by decide +kernel) (by decide)
theorem dX11_reading_153 : decode cX11_reading 153 = .ok (.aload_n 0, 1) := od_42  (by decide +kernel)
theorem dX11_reading_154 : decode cX11_reading 154 = .ok (.getfield 10, 3) := od_180 (a := 0) (b := 10) (by decide +kernel) (by decide)
theorem dX11_reading_157 : decode cX11_reading 157 = .ok (.getfield 306, 3) := od_180 (a := 1) (b := 50) (by decide +kernel) (by decide)
theorem dX11_reading_160 : decode cX11_reading 160 = .ok (.iload 6, 2) := od_21 (n := 6) (by decide +kernel)
theorem dX11_reading_162 : decode cX11_reading 162 = .ok (.iconst 4, 1) := od_7  (by decide +kernel)
theorem dX11_reading_163 : decode cX11_reading 163 = .ok (.iload 5, 2) := od_21 (n := 5) (by decide +kernel)
theorem dX11_reading_165 : decode cX11_reading 165 = .ok (.i2l, 1) := od_133  (by decide +kernel)
theorem dX11_reading_166 : decode cX11_reading 166 = .ok (.invokevirtual 238, 3) := od_182 (a := 0) (b := 238) (by decide +kernel) (by decide)
theorem dX11_reading_169 : decode cX11_reading 169 = .ok (.aload_n 0, 1) := od_42  (by decide +kernel)
theorem dX11_reading_170 : decode cX11_reading 170 = .ok (.aload_n 0, 1) := od_42  (by decide +kernel)
theorem dX11_reading_171 : decode cX11_reading 171 = .ok (.getfield 10, 3) := od_180 (a := 0) (b := 10) (by decide +kernel) (by decide)
theorem dX11_reading_174 : decode cX11_reading 174 = .ok (.getfield 306, 3) := od_180 (a := 1) (b := 50) (by decide +kernel) (by decide)
theorem dX11_reading_177 : decode cX11_reading 177 = .ok (.getfield 242, 3) := od_180 (a := 0) (b := 242) (by decide +kernel) (by decide)
theorem dX11_reading_180 : decode cX11_reading 180 = .ok (.invokevirtual 73, 3) := od_182 (a := 0) (b := 73) (by decide +kernel) (by decide)
theorem dX11_reading_183 : decode cX11_reading 183 = .ok (.ireturn, 1) := od_172  (by decide +kernel)
theorem gX11_gauged_X4_has : GoodIn WALL (wsV RX11 211 RX4 yX4_has wqX4_has) := wg_V wa_677 wa_529 wa_530 wa_56 wa_531
theorem gX11_gauged_X11_isHour : GoodIn WALL (va_wsS RX11 229 yX11_isHour wqX11_isHour) := wg_S wa_323 wa_324 wa_2 wa_325
theorem gX11_gauged_X3_tonsRead : GoodIn WALL (wsV RX11 309 RX3 yX3_tonsRead wqX3_tonsRead) := wg_V wa_1284 wa_1285 wa_1286 wa_27 wa_1287
theorem gX11_gauged_X3_tonsGauged : GoodIn WALL (wsV RX11 313 RX3 yX3_tonsGauged wqX3_tonsGauged) := wg_V wa_1298 wa_1299 wa_1300 wa_27 wa_1301
theorem gX11_gauged_X3_claimOf : GoodIn WALL (wsV RX11 316 RX3 yX3_claimOf wqX3_claimOf) := wg_V wa_1303 wa_1304 wa_1305 wa_27 wa_1306
theorem dX11_gauged_0 : decode cX11_gauged 0 = .ok (.aload_n 0, 1) := od_42  (by decide +kernel)
theorem dX11_gauged_1 : decode cX11_gauged 1 = .ok (.getfield 10, 3) := od_180 (a := 0) (b := 10) (by decide +kernel) (by decide)
theorem dX11_gauged_4 : decode cX11_gauged 4 = .ok (.getfield 207, 3) := od_180 (a := 0) (b := 207) (by decide +kernel) (by decide)
theorem dX11_gauged_7 : decode cX11_gauged 7 = .ok (.iload_n 1, 1) := od_27  (by decide +kernel)
theorem dX11_gauged_8 : decode cX11_gauged 8 = .ok (.invokevirtual 211, 3) := od_182 (a := 0) (b := 211) (by decide +kernel) (by decide)
theorem dX11_gauged_11 : decode cX11_gauged 11 = .ok (.ifCond .eq 10, 3) := od_153 (a := 0) (b := 10) (by decide +kernel) (by decide +kernel)
theorem dX11_gauged_14 : decode cX11_gauged 14 = .ok (.iload_n 2, 1) := od_28  (by decide +kernel)
theorem dX11_gauged_15 : decode cX11_gauged 15 = .ok (.invokestatic 229, 3) := od_184 (a := 0) (b := 229) (by decide +kernel) (by decide)
theorem dX11_gauged_18 : decode cX11_gauged 18 = .ok (.ifCond .ne 7, 3) := od_154 (a := 0) (b := 7) (by decide +kernel) (by decide +kernel)
theorem dX11_gauged_21 : decode cX11_gauged 21 = .ok (.ldc2_w 281, 3) := od_20 (a := 1) (b := 25) (by decide +kernel) (by decide)
theorem dX11_gauged_24 : decode cX11_gauged 24 = .ok (.lreturn, 1) := od_173  (by decide +kernel)
theorem dX11_gauged_25 : decode cX11_gauged 25 = .ok (.iload_n 3, 1) := od_29  (by decide +kernel)
theorem dX11_gauged_26 : decode cX11_gauged 26 = .ok (.tableswitch 72 0 3 #[30, 41, 52, 62], 30) := by decide +kernel
theorem dX11_gauged_56 : decode cX11_gauged 56 = .ok (.aload_n 0, 1) := od_42  (by decide +kernel)
theorem dX11_gauged_57 : decode cX11_gauged 57 = .ok (.getfield 39, 3) := od_180 (a := 0) (b := 39) (by decide +kernel) (by decide)
theorem dX11_gauged_60 : decode cX11_gauged 60 = .ok (.iload_n 1, 1) := od_27  (by decide +kernel)
theorem dX11_gauged_61 : decode cX11_gauged 61 = .ok (.iconst 0, 1) := od_3  (by decide +kernel)
theorem dX11_gauged_62 : decode cX11_gauged 62 = .ok (.iload_n 2, 1) := od_28  (by decide +kernel)
theorem dX11_gauged_63 : decode cX11_gauged 63 = .ok (.invokevirtual 309, 3) := od_182 (a := 1) (b := 53) (by decide +kernel) (by decide)
theorem dX11_gauged_66 : decode cX11_gauged 66 = .ok (.lreturn, 1) := od_173  (by decide +kernel)
theorem dX11_gauged_67 : decode cX11_gauged 67 = .ok (.aload_n 0, 1) := od_42  (by decide +kernel)
theorem dX11_gauged_68 : decode cX11_gauged 68 = .ok (.getfield 39, 3) := od_180 (a := 0) (b := 39) (by decide +kernel) (by decide)
theorem dX11_gauged_71 : decode cX11_gauged 71 = .ok (.iload_n 1, 1) := od_27  (by decide +kernel)
theorem dX11_gauged_72 : decode cX11_gauged 72 = .ok (.iconst 1, 1) := od_4  (by decide +kernel)
theorem dX11_gauged_73 : decode cX11_gauged 73 = .ok (.iload_n 2, 1) := od_28  (by decide +kernel)
theorem dX11_gauged_74 : decode cX11_gauged 74 = .ok (.invokevirtual 309, 3) := od_182 (a := 1) (b := 53) (by decide +kernel) (by decide)
theorem dX11_gauged_77 : decode cX11_gauged 77 = .ok (.lreturn, 1) := od_173  (by decide +kernel)
theorem dX11_gauged_78 : decode cX11_gauged 78 = .ok (.aload_n 0, 1) := od_42  (by decide +kernel)
theorem dX11_gauged_79 : decode cX11_gauged 79 = .ok (.getfield 39, 3) := od_180 (a := 0) (b := 39) (by decide +kernel) (by decide)
theorem dX11_gauged_82 : decode cX11_gauged 82 = .ok (.iload_n 1, 1) := od_27  (by decide +kernel)
theorem dX11_gauged_83 : decode cX11_gauged 83 = .ok (.iload_n 2, 1) := od_28  (by decide +kernel)
theorem dX11_gauged_84 : decode cX11_gauged 84 = .ok (.invokevirtual 313, 3) := od_182 (a := 1) (b := 57) (by decide +kernel) (by decide)
theorem dX11_gauged_87 : decode cX11_gauged 87 = .ok (.lreturn, 1) := od_173  (by decide +kernel)
theorem dX11_gauged_88 : decode cX11_gauged 88 = .ok (.aload_n 0, 1) := od_42  (by decide +kernel)
theorem dX11_gauged_89 : decode cX11_gauged 89 = .ok (.getfield 39, 3) := od_180 (a := 0) (b := 39) (by decide +kernel) (by decide)
theorem dX11_gauged_92 : decode cX11_gauged 92 = .ok (.iload_n 1, 1) := od_27  (by decide +kernel)
theorem dX11_gauged_93 : decode cX11_gauged 93 = .ok (.iload_n 2, 1) := od_28  (by decide +kernel)
theorem dX11_gauged_94 : decode cX11_gauged 94 = .ok (.invokevirtual 316, 3) := od_182 (a := 1) (b := 60) (by decide +kernel) (by decide)
theorem dX11_gauged_97 : decode cX11_gauged 97 = .ok (.lreturn, 1) := od_173  (by decide +kernel)
theorem dX11_gauged_98 : decode cX11_gauged 98 = .ok (.ldc2_w 281, 3) := od_20 (a := 1) (b := 25) (by decide +kernel) (by decide)
theorem dX11_gauged_101 : decode cX11_gauged 101 = .ok (.lreturn, 1) := od_173  (by decide +kernel)
theorem gX11_cargo_X11_isSpan : GoodIn WALL (va_wsS RX11 104 yX11_isSpan wqX11_isSpan) := wg_S wa_320 wa_321 wa_2 wa_322
theorem gX11_cargo_X11_within : GoodIn WALL (va_wsS RX11 51 yX11_within wqX11_within) := wg_S wa_180 wa_181 wa_2 wa_182
theorem gX11_cargo_X11_refuse : GoodIn WALL (wsV RX11 55 RX11 yX11_refuse wqX11_refuse) := wg_V wa_183 wa_184 wa_185 wa_2 wa_186
theorem gX11_cargo_X10_hasTerminal : GoodIn WALL (wsV RX11 77 RX10 yX10_hasTerminal wqX10_hasTerminal) := wg_V wa_233 wa_234 wa_235 wa_14 wa_236
theorem gX11_cargo_X4_addRow : GoodIn WALL (wsV RX11 235 RX4 yX4_addRow wqX4_addRow) := wg_V wa_734 wa_514 wa_515 wa_56 wa_516
theorem gX11_cargo_X4_set : GoodIn WALL (wsV RX11 238 RX4 yX4_set wqX4_set) := wg_V wa_735 wa_525 wa_526 wa_56 wa_527
theorem gX11_cargo_X11_accept : GoodIn WALL (wsV RX11 73 RX11 yX11_accept wqX11_accept) := wg_V wa_201 wa_202 wa_203 wa_2 wa_204
theorem dX11_cargo_0 : decode cX11_cargo 0 = .ok (.iload_n 3, 1) := od_29  (by decide +kernel)
theorem dX11_cargo_1 : decode cX11_cargo 1 = .ok (.iload 4, 2) := od_21 (n := 4) (by decide +kernel)
theorem dX11_cargo_3 : decode cX11_cargo 3 = .ok (.invokestatic 104, 3) := od_184 (a := 0) (b := 104) (by decide +kernel) (by decide)
theorem dX11_cargo_6 : decode cX11_cargo 6 = .ok (.ifCond .eq 36, 3) := od_153 (a := 0) (b := 36) (by decide +kernel) (by decide +kernel)
theorem dX11_cargo_9 : decode cX11_cargo 9 = .ok (.iload 5, 2) := od_21 (n := 5) (by decide +kernel)
theorem dX11_cargo_11 : decode cX11_cargo 11 = .ok (.iload 6, 2) := od_21 (n := 6) (by decide +kernel)
theorem dX11_cargo_13 : decode cX11_cargo 13 = .ok (.invokestatic 104, 3) := od_184 (a := 0) (b := 104) (by decide +kernel) (by decide)
theorem dX11_cargo_16 : decode cX11_cargo 16 = .ok (.ifCond .eq 26, 3) := od_153 (a := 0) (b := 26) (by decide +kernel) (by decide +kernel)
theorem dX11_cargo_19 : decode cX11_cargo 19 = .ok (.iload 7, 2) := od_21 (n := 7) (by decide +kernel)
theorem dX11_cargo_21 : decode cX11_cargo 21 = .ok (.iconst 1, 1) := od_4  (by decide +kernel)
theorem dX11_cargo_22 : decode cX11_cargo 22 = .ok (.ldc 76, 2) := od_18 (n := 76) (by decide +kernel)
theorem dX11_cargo_24 : decode cX11_cargo 24 = .ok (.invokestatic 51, 3) := od_184 (a := 0) (b := 51) (by decide +kernel) (by decide)
theorem dX11_cargo_27 : decode cX11_cargo 27 = .ok (.ifCond .eq 15, 3) := od_153 (a := 0) (b := 15) (by decide +kernel) (by decide +kernel)
theorem dX11_cargo_30 : decode cX11_cargo 30 = .ok (.iload 8, 2) := od_21 (n := 8) (by decide +kernel)
theorem dX11_cargo_32 : decode cX11_cargo 32 = .ok (.iconst 0, 1) := od_3  (by decide +kernel)
theorem dX11_cargo_33 : decode cX11_cargo 33 = .ok (.sipush 1000, 3) := od_17 (a := 3) (b := 232) (by decide +kernel) (by decide +kernel)
theorem dX11_cargo_36 : decode cX11_cargo 36 = .ok (.invokestatic 51, 3) := od_184 (a := 0) (b := 51) (by decide +kernel) (by decide)
theorem dX11_cargo_39 : decode cX11_cargo 39 = .ok (.ifCond .ne 9, 3) := od_154 (a := 0) (b := 9) (by decide +kernel) (by decide +kernel)
theorem dX11_cargo_42 : decode cX11_cargo 42 = .ok (.aload_n 0, 1) := od_42  (by decide +kernel)
theorem dX11_cargo_43 : decode cX11_cargo 43 = .ok (.iconst (-1), 1) := od_2  (by decide +kernel)
theorem dX11_cargo_44 : decode cX11_cargo 44 = .ok (.invokevirtual 55, 3) := od_182 (a := 0) (b := 55) (by decide +kernel) (by decide)
theorem dX11_cargo_47 : decode cX11_cargo 47 = .ok (.ireturn, 1) := od_172  (by decide +kernel)
theorem dX11_cargo_48 : decode cX11_cargo 48 = .ok (.aload_n 0, 1) := od_42  (by decide +kernel)
theorem dX11_cargo_49 : decode cX11_cargo 49 = .ok (.getfield 10, 3) := od_180 (a := 0) (b := 10) (by decide +kernel) (by decide)
theorem dX11_cargo_52 : decode cX11_cargo 52 = .ok (.iload_n 1, 1) := od_27  (by decide +kernel)
theorem dX11_cargo_53 : decode cX11_cargo 53 = .ok (.invokevirtual 77, 3) := od_182 (a := 0) (b := 77) (by decide +kernel) (by decide)
theorem dX11_cargo_56 : decode cX11_cargo 56 = .ok (.ifCond .eq 14, 3) := od_153 (a := 0) (b := 14) (by decide +kernel) (by decide +kernel)
theorem dX11_cargo_59 : decode cX11_cargo 59 = .ok (.aload_n 0, 1) := od_42  (by decide +kernel)
theorem dX11_cargo_60 : decode cX11_cargo 60 = .ok (.getfield 10, 3) := od_180 (a := 0) (b := 10) (by decide +kernel) (by decide)
theorem dX11_cargo_63 : decode cX11_cargo 63 = .ok (.iload_n 2, 1) := od_28  (by decide +kernel)
theorem dX11_cargo_64 : decode cX11_cargo 64 = .ok (.invokevirtual 77, 3) := od_182 (a := 0) (b := 77) (by decide +kernel) (by decide)
theorem dX11_cargo_67 : decode cX11_cargo 67 = .ok (.ifCond .ne 10, 3) := od_154 (a := 0) (b := 10) (by decide +kernel) (by decide +kernel)
theorem dX11_cargo_70 : decode cX11_cargo 70 = .ok (.aload_n 0, 1) := od_42  (by decide +kernel)
theorem dX11_cargo_71 : decode cX11_cargo 71 = .ok (.bipush (-2), 2) := od_16 (a := 254) (by decide +kernel) (by decide +kernel)
theorem dX11_cargo_73 : decode cX11_cargo 73 = .ok (.invokevirtual 55, 3) := od_182 (a := 0) (b := 55) (by decide +kernel) (by decide)
theorem dX11_cargo_76 : decode cX11_cargo 76 = .ok (.ireturn, 1) := od_172  (by decide +kernel)
theorem dX11_cargo_77 : decode cX11_cargo 77 = .ok (.iload_n 1, 1) := od_27  (by decide +kernel)
theorem dX11_cargo_78 : decode cX11_cargo 78 = .ok (.iload_n 2, 1) := od_28  (by decide +kernel)
theorem dX11_cargo_79 : decode cX11_cargo 79 = .ok (.if_icmp .ne 10, 3) := od_160 (a := 0) (b := 10) (by decide +kernel) (by decide +kernel)
theorem dX11_cargo_82 : decode cX11_cargo 82 = .ok (.aload_n 0, 1) := od_42  (by decide +kernel)
theorem dX11_cargo_83 : decode cX11_cargo 83 = .ok (.bipush (-3), 2) := od_16 (a := 253) (by decide +kernel) (by decide +kernel)
theorem dX11_cargo_85 : decode cX11_cargo 85 = .ok (.invokevirtual 55, 3) := od_182 (a := 0) (b := 55) (by decide +kernel) (by decide)
theorem dX11_cargo_88 : decode cX11_cargo 88 = .ok (.ireturn, 1) := od_172  (by decide +kernel)
theorem dX11_cargo_89 : decode cX11_cargo 89 = .ok (.aload_n 0, 1) := od_42  (by decide +kernel)
theorem dX11_cargo_90 : decode cX11_cargo 90 = .ok (.getfield 10, 3) := od_180 (a := 0) (b := 10) (by decide +kernel) (by decide)
theorem dX11_cargo_93 : decode cX11_cargo 93 = .ok (.getfield 319, 3) := od_180 (a := 1) (b := 63) (by decide +kernel) (by decide)
theorem dX11_cargo_96 : decode cX11_cargo 96 = .ok (.invokevirtual 235, 3) := od_182 (a := 0) (b := 235) (by decide +kernel) (by decide)
theorem dX11_cargo_99 : decode cX11_cargo 99 = .ok (.istore 9, 2) := od_54 (n := 9) (by decide +kernel)
theorem dX11_cargo_101 : decode cX11_cargo 101 = .ok (.iload 9, 2) := od_21 (n := 9) (by decide +kernel)
theorem dX11_cargo_103 : decode cX11_cargo 103 = .ok (.iconst (-1), 1) := od_2  (by decide +kernel)
theorem dX11_cargo_104 : decode cX11_cargo 104 = .ok (.if_icmp .ne 10, 3) := od_160 (a := 0) (b := 10) (by decide +kernel) (by decide +kernel)
theorem dX11_cargo_107 : decode cX11_cargo 107 = .ok (.aload_n 0, 1) := od_42  (by decide +kernel)
theorem dX11_cargo_108 : decode cX11_cargo 108 = .ok (.bipush (-5), 2) := od_16 (a := 251) (by decide +kernel) (by decide +kernel)
theorem dX11_cargo_110 : decode cX11_cargo 110 = .ok (.invokevirtual 55, 3) := od_182 (a := 0) (b := 55) (by decide +kernel) (by decide)
theorem dX11_cargo_113 : decode cX11_cargo 113 = .ok (.ireturn, 1) := od_172  (by decide +kernel)
theorem dX11_cargo_114 : decode cX11_cargo 114 = .ok (.aload_n 0, 1) := od_42  (by decide +kernel)
theorem dX11_cargo_115 : decode cX11_cargo 115 = .ok (.getfield 10, 3) := od_180 (a := 0) (b := 10) (by decide +kernel) (by decide)
theorem dX11_cargo_118 : decode cX11_cargo 118 = .ok (.getfield 319, 3) := od_180 (a := 1) (b := 63) (by decide +kernel) (by decide)
theorem dX11_cargo_121 : decode cX11_cargo 121 = .ok (.iload 9, 2) := od_21 (n := 9) (by decide +kernel)
theorem dX11_cargo_123 : decode cX11_cargo 123 = .ok (.iconst 0, 1) := od_3  (by decide +kernel)
theorem dX11_cargo_124 : decode cX11_cargo 124 = .ok (.iload_n 1, 1) := od_27  (by decide +kernel)
theorem dX11_cargo_125 : decode cX11_cargo 125 = .ok (.i2l, 1) := od_133  (by decide +kernel)
theorem dX11_cargo_126 : decode cX11_cargo 126 = .ok (.invokevirtual 238, 3) := od_182 (a := 0) (b := 238) (by decide +kernel) (by decide)
theorem dX11_cargo_129 : decode cX11_cargo 129 = .ok (.aload_n 0, 1) := od_42  (by decide +kernel)
theorem dX11_cargo_130 : decode cX11_cargo 130 = .ok (.getfield 10, 3) := od_180 (a := 0) (b := 10) (by decide +kernel) (by decide)
theorem dX11_cargo_133 : decode cX11_cargo 133 = .ok (.getfield 319, 3) := od_180 (a := 1) (b := 63) (by decide +kernel) (by decide)
theorem dX11_cargo_136 : decode cX11_cargo 136 = .ok (.iload 9, 2) := od_21 (n := 9) (by decide +kernel)
theorem dX11_cargo_138 : decode cX11_cargo 138 = .ok (.iconst 1, 1) := od_4  (by decide +kernel)
theorem dX11_cargo_139 : decode cX11_cargo 139 = .ok (.iload_n 2, 1) := od_28  (by decide +kernel)
theorem dX11_cargo_140 : decode cX11_cargo 140 = .ok (.i2l, 1) := od_133  (by decide +kernel)
theorem dX11_cargo_141 : decode cX11_cargo 141 = .ok (.invokevirtual 238, 3) := od_182 (a := 0) (b := 238) (by decide +kernel) (by decide)
theorem dX11_cargo_144 : decode cX11_cargo 144 = .ok (.aload_n 0, 1) := od_42  (by decide +kernel)
theorem dX11_cargo_145 : decode cX11_cargo 145 = .ok (.getfield 10, 3) := od_180 (a := 0) (b := 10) (by decide +kernel) (by decide)
theorem dX11_cargo_148 : decode cX11_cargo 148 = .ok (.getfield 319, 3) := od_180 (a := 1) (b := 63) (by decide +kernel) (by decide)
theorem dX11_cargo_151 : decode cX11_cargo 151 = .ok (.iload 9, 2) := od_21 (n := 9) (by decide +kernel)
theorem dX11_cargo_153 : decode cX11_cargo 153 = .ok (.iconst 2, 1) := od_5  (by decide +kernel)
theorem dX11_cargo_154 : decode cX11_cargo 154 = .ok (.iload_n 3, 1) := od_29  (by decide +kernel)
theorem dX11_cargo_155 : decode cX11_cargo 155 = .ok (.i2l, 1) := od_133  (by decide +kernel)
theorem dX11_cargo_156 : decode cX11_cargo 156 = .ok (.invokevirtual 238, 3) := od_182 (a := 0) (b := 238) (by decide +kernel) (by decide)
theorem dX11_cargo_159 : decode cX11_cargo 159 = .ok (.aload_n 0, 1) := od_42  (by decide +kernel)
theorem dX11_cargo_160 : decode cX11_cargo 160 = .ok (.getfield 10, 3) := od_180 (a := 0) (b := 10) (by decide +kernel) (by decide)
theorem dX11_cargo_163 : decode cX11_cargo 163 = .ok (.getfield 319, 3) := od_180 (a := 1) (b := 63) (by decide +kernel) (by decide)
theorem dX11_cargo_166 : decode cX11_cargo 166 = .ok (.iload 9, 2) := od_21 (n := 9) (by decide +kernel)
theorem dX11_cargo_168 : decode cX11_cargo 168 = .ok (.iconst 3, 1) := od_6  (by decide +kernel)
theorem dX11_cargo_169 : decode cX11_cargo 169 = .ok (.iload 4, 2) := od_21 (n := 4) (by decide +kernel)
theorem dX11_cargo_171 : decode cX11_cargo 171 = .ok (.i2l, 1) := od_133  (by decide +kernel)
theorem dX11_cargo_172 : decode cX11_cargo 172 = .ok (.invokevirtual 238, 3) := od_182 (a := 0) (b := 238) (by decide +kernel) (by decide)
theorem dX11_cargo_175 : decode cX11_cargo 175 = .ok (.aload_n 0, 1) := od_42  (by decide +kernel)
theorem dX11_cargo_176 : decode cX11_cargo 176 = .ok (.getfield 10, 3) := od_180 (a := 0) (b := 10) (by decide +kernel) (by decide)
theorem dX11_cargo_179 : decode cX11_cargo 179 = .ok (.getfield 319, 3) := od_180 (a := 1) (b := 63) (by decide +kernel) (by decide)
theorem dX11_cargo_182 : decode cX11_cargo 182 = .ok (.iload 9, 2) := od_21 (n := 9) (by decide +kernel)
theorem dX11_cargo_184 : decode cX11_cargo 184 = .ok (.iconst 4, 1) := od_7  (by decide +kernel)
theorem dX11_cargo_185 : decode cX11_cargo 185 = .ok (.iload 5, 2) := od_21 (n := 5) (by decide +kernel)
theorem dX11_cargo_187 : decode cX11_cargo 187 = .ok (.i2l, 1) := od_133  (by decide +kernel)
theorem dX11_cargo_188 : decode cX11_cargo 188 = .ok (.invokevirtual 238, 3) := od_182 (a := 0) (b := 238) (by decide +kernel) (by decide)
theorem dX11_cargo_191 : decode cX11_cargo 191 = .ok (.aload_n 0, 1) := od_42  (by decide +kernel)
theorem dX11_cargo_192 : decode cX11_cargo 192 = .ok (.getfield 10, 3) := od_180 (a := 0) (b := 10) (by decide +kernel) (by decide)
theorem dX11_cargo_195 : decode cX11_cargo 195 = .ok (.getfield 319, 3) := od_180 (a := 1) (b := 63) (by decide +kernel) (by decide)
theorem dX11_cargo_198 : decode cX11_cargo 198 = .ok (.iload 9, 2) := od_21 (n := 9) (by decide +kernel)
theorem dX11_cargo_200 : decode cX11_cargo 200 = .ok (.iconst 5, 1) := od_8  (by decide +kernel)
theorem dX11_cargo_201 : decode cX11_cargo 201 = .ok (.iload 6, 2) := od_21 (n := 6) (by decide +kernel)
theorem dX11_cargo_203 : decode cX11_cargo 203 = .ok (.i2l, 1) := od_133  (by decide +kernel)
theorem dX11_cargo_204 : decode cX11_cargo 204 = .ok (.invokevirtual 238, 3) := od_182 (a := 0) (b := 238) (by decide +kernel) (by decide)
theorem dX11_cargo_207 : decode cX11_cargo 207 = .ok (.aload_n 0, 1) := od_42  (by decide +kernel)
theorem dX11_cargo_208 : decode cX11_cargo 208 = .ok (.getfield 10, 3) := od_180 (a := 0) (b := 10) (by decide +kernel) (by decide)
theorem dX11_cargo_211 : decode cX11_cargo 211 = .ok (.getfield 319, 3) := od_180 (a := 1) (b := 63) (by decide +kernel) (by decide)
theorem dX11_cargo_214 : decode cX11_cargo 214 = .ok (.iload 9, 2) := od_21 (n := 9) (by decide +kernel)
theorem dX11_cargo_216 : decode cX11_cargo 216 = .ok (.bipush 6, 2) := od_16 (a := 6) (by decide +kernel) (by decide +kernel)
theorem dX11_cargo_218 : decode cX11_cargo 218 = .ok (.iload 7, 2) := od_21 (n := 7) (by decide +kernel)
theorem dX11_cargo_220 : decode cX11_cargo 220 = .ok (.i2l, 1) := od_133  (by decide +kernel)
theorem dX11_cargo_221 : decode cX11_cargo 221 = .ok (.invokevirtual 238, 3) := od_182 (a := 0) (b := 238) (by decide +kernel) (by decide)
theorem dX11_cargo_224 : decode cX11_cargo 224 = .ok (.aload_n 0, 1) := od_42  (by decide +kernel)
theorem dX11_cargo_225 : decode cX11_cargo 225 = .ok (.getfield 10, 3) := od_180 (a := 0) (b := 10) (by decide +kernel) (by decide)
theorem dX11_cargo_228 : decode cX11_cargo 228 = .ok (.getfield 319, 3) := od_180 (a := 1) (b := 63) (by decide +kernel) (by decide)
theorem dX11_cargo_231 : decode cX11_cargo 231 = .ok (.iload 9, 2) := od_21 (n := 9) (by decide +kernel)
theorem dX11_cargo_233 : decode cX11_cargo 233 = .ok (.bipush 7, 2) := od_16 (a := 7) (by decide +kernel) (by decide +kernel)
theorem dX11_cargo_235 : decode cX11_cargo 235 = .ok (.iload 8, 2) := od_21 (n := 8) (by decide +kernel)
theorem dX11_cargo_237 : decode cX11_cargo 237 = .ok (.i2l, 1) := od_133  (by decide +kernel)
theorem dX11_cargo_238 : decode cX11_cargo 238 = .ok (.invokevirtual 238, 3) := od_182 (a := 0) (b := 238) (by decide +kernel) (by decide)
theorem dX11_cargo_241 : decode cX11_cargo 241 = .ok (.aload_n 0, 1) := od_42  (by decide +kernel)
theorem dX11_cargo_242 : decode cX11_cargo 242 = .ok (.aload_n 0, 1) := od_42  (by decide +kernel)
theorem dX11_cargo_243 : decode cX11_cargo 243 = .ok (.getfield 10, 3) := od_180 (a := 0) (b := 10) (by decide +kernel) (by decide)
theorem dX11_cargo_246 : decode cX11_cargo 246 = .ok (.getfield 319, 3) := od_180 (a := 1) (b := 63) (by decide +kernel) (by decide)
theorem dX11_cargo_249 : decode cX11_cargo 249 = .ok (.getfield 242, 3) := od_180 (a := 0) (b := 242) (by decide +kernel) (by decide)
theorem dX11_cargo_252 : decode cX11_cargo 252 = .ok (.invokevirtual 73, 3) := od_182 (a := 0) (b := 73) (by decide +kernel) (by decide)
theorem dX11_cargo_255 : decode cX11_cargo 255 = .ok (.ireturn, 1) := od_172  (by decide +kernel)
theorem dX11_clear_0 : decode cX11_clear 0 = .ok (.aload_n 0, 1) := od_42  (by decide +kernel)
theorem dX11_clear_1 : decode cX11_clear 1 = .ok (.getfield 10, 3) := od_180 (a := 0) (b := 10) (by decide +kernel) (by decide)
theorem dX11_clear_4 : decode cX11_clear 4 = .ok (.getfield 319, 3) := od_180 (a := 1) (b := 63) (by decide +kernel) (by decide)
theorem dX11_clear_7 : decode cX11_clear 7 = .ok (.getfield 242, 3) := od_180 (a := 0) (b := 242) (by decide +kernel) (by decide)
theorem dX11_clear_10 : decode cX11_clear 10 = .ok (.istore_n 1, 1) := od_60  (by decide +kernel)
theorem dX11_clear_11 : decode cX11_clear 11 = .ok (.aload_n 0, 1) := od_42  (by decide +kernel)
theorem dX11_clear_12 : decode cX11_clear 12 = .ok (.getfield 10, 3) := od_180 (a := 0) (b := 10) (by decide +kernel) (by decide)
theorem dX11_clear_15 : decode cX11_clear 15 = .ok (.getfield 319, 3) := od_180 (a := 1) (b := 63) (by decide +kernel) (by decide)
theorem dX11_clear_18 : decode cX11_clear 18 = .ok (.iconst 0, 1) := od_3  (by decide +kernel)
theorem dX11_clear_19 : decode cX11_clear 19 = .ok (.putfield 242, 3) := od_181 (a := 0) (b := 242) (by decide +kernel) (by decide)
theorem dX11_clear_22 : decode cX11_clear 22 = .ok (.iload_n 1, 1) := od_27  (by decide +kernel)
theorem dX11_clear_23 : decode cX11_clear 23 = .ok (.ireturn, 1) := od_172  (by decide +kernel)
theorem gX11_best_X11_isHour : GoodIn WALL (va_wsS RX11 229 yX11_isHour wqX11_isHour) := wg_S wa_323 wa_324 wa_2 wa_325
theorem gX11_best_X1_findBest : GoodIn WALL (wsV RX11 322 RX1 yX1_findBest wqX1_findBest) := wg_V wa_1344 wa_1345 wa_1346 wa_31 wa_1347
theorem dX11_best_0 : decode cX11_best 0 = .ok (.iload_n 1, 1) := od_27  (by decide +kernel)
theorem dX11_best_1 : decode cX11_best 1 = .ok (.invokestatic 229, 3) := od_184 (a := 0) (b := 229) (by decide +kernel) (by decide)
theorem dX11_best_4 : decode cX11_best 4 = .ok (.ifCond .eq 14, 3) := od_153 (a := 0) (b := 14) (by decide +kernel) (by decide +kernel)
theorem dX11_best_7 : decode cX11_best 7 = .ok (.aload_n 0, 1) := od_42  (by decide +kernel)
theorem dX11_best_8 : decode cX11_best 8 = .ok (.getfield 46, 3) := od_180 (a := 0) (b := 46) (by decide +kernel) (by decide)
theorem dX11_best_11 : decode cX11_best 11 = .ok (.iload_n 1, 1) := od_27  (by decide +kernel)
theorem dX11_best_12 : decode cX11_best 12 = .ok (.invokevirtual 322, 3) := od_182 (a := 1) (b := 66) (by decide +kernel) (by decide)
theorem dX11_best_15 : decode cX11_best 15 = .ok (.goto 6, 3) := od_167 (a := 0) (b := 6) (by decide +kernel) (by decide +kernel)
theorem dX11_best_18 : decode cX11_best 18 = .ok (.ldc2_w 198, 3) := od_20 (a := 0) (b := 198) (by decide +kernel) (by decide)
theorem dX11_best_21 : decode cX11_best 21 = .ok (.lreturn, 1) := od_173  (by decide +kernel)
theorem gX11_voyage_X11_within : GoodIn WALL (va_wsS RX11 51 yX11_within wqX11_within) := wg_S wa_180 wa_181 wa_2 wa_182
theorem dX11_voyage_0 : decode cX11_voyage 0 = .ok (.iload_n 1, 1) := od_27  (by decide +kernel)
theorem dX11_voyage_1 : decode cX11_voyage 1 = .ok (.iconst 0, 1) := od_3  (by decide +kernel)
theorem dX11_voyage_2 : decode cX11_voyage 2 = .ok (.aload_n 0, 1) := od_42  (by decide +kernel)
theorem dX11_voyage_3 : decode cX11_voyage 3 = .ok (.getfield 46, 3) := od_180 (a := 0) (b := 46) (by decide +kernel) (by decide)
theorem dX11_voyage_6 : decode cX11_voyage 6 = .ok (.getfield 325, 3) := od_180 (a := 1) (b := 69) (by decide +kernel) (by decide)
theorem dX11_voyage_9 : decode cX11_voyage 9 = .ok (.iconst 1, 1) := od_4  (by decide +kernel)
theorem dX11_voyage_10 : decode cX11_voyage 10 = .ok (.isub, 1) := od_100  (by decide +kernel)
theorem dX11_voyage_11 : decode cX11_voyage 11 = .ok (.invokestatic 51, 3) := od_184 (a := 0) (b := 51) (by decide +kernel) (by decide)
theorem dX11_voyage_14 : decode cX11_voyage 14 = .ok (.ifCond .ne 7, 3) := od_154 (a := 0) (b := 7) (by decide +kernel) (by decide +kernel)
theorem dX11_voyage_17 : decode cX11_voyage 17 = .ok (.ldc2_w 281, 3) := od_20 (a := 1) (b := 25) (by decide +kernel) (by decide)
theorem dX11_voyage_20 : decode cX11_voyage 20 = .ok (.lreturn, 1) := od_173  (by decide +kernel)
theorem dX11_voyage_21 : decode cX11_voyage 21 = .ok (.iload_n 2, 1) := od_28  (by decide +kernel)
theorem dX11_voyage_22 : decode cX11_voyage 22 = .ok (.ifCond .ne 14, 3) := od_154 (a := 0) (b := 14) (by decide +kernel) (by decide +kernel)
theorem dX11_voyage_25 : decode cX11_voyage 25 = .ok (.aload_n 0, 1) := od_42  (by decide +kernel)
theorem dX11_voyage_26 : decode cX11_voyage 26 = .ok (.getfield 46, 3) := od_180 (a := 0) (b := 46) (by decide +kernel) (by decide)
theorem dX11_voyage_29 : decode cX11_voyage 29 = .ok (.getfield 328, 3) := od_180 (a := 1) (b := 72) (by decide +kernel) (by decide)
theorem dX11_voyage_32 : decode cX11_voyage 32 = .ok (.iload_n 1, 1) := od_27  (by decide +kernel)
theorem dX11_voyage_33 : decode cX11_voyage 33 = .ok (.iaload, 1) := od_46  (by decide +kernel)
theorem dX11_voyage_34 : decode cX11_voyage 34 = .ok (.i2l, 1) := od_133  (by decide +kernel)
theorem dX11_voyage_35 : decode cX11_voyage 35 = .ok (.lreturn, 1) := od_173  (by decide +kernel)
theorem dX11_voyage_36 : decode cX11_voyage 36 = .ok (.aload_n 0, 1) := od_42  (by decide +kernel)
theorem dX11_voyage_37 : decode cX11_voyage 37 = .ok (.getfield 46, 3) := od_180 (a := 0) (b := 46) (by decide +kernel) (by decide)
theorem dX11_voyage_40 : decode cX11_voyage 40 = .ok (.getfield 328, 3) := od_180 (a := 1) (b := 72) (by decide +kernel) (by decide)
theorem dX11_voyage_43 : decode cX11_voyage 43 = .ok (.iload_n 1, 1) := od_27  (by decide +kernel)
theorem dX11_voyage_44 : decode cX11_voyage 44 = .ok (.iaload, 1) := od_46  (by decide +kernel)
theorem dX11_voyage_45 : decode cX11_voyage 45 = .ok (.iconst (-1), 1) := od_2  (by decide +kernel)
theorem dX11_voyage_46 : decode cX11_voyage 46 = .ok (.if_icmp .ne 7, 3) := od_160 (a := 0) (b := 7) (by decide +kernel) (by decide +kernel)
theorem dX11_voyage_49 : decode cX11_voyage 49 = .ok (.ldc2_w 281, 3) := od_20 (a := 1) (b := 25) (by decide +kernel) (by decide)
theorem dX11_voyage_52 : decode cX11_voyage 52 = .ok (.lreturn, 1) := od_173  (by decide +kernel)
theorem dX11_voyage_53 : decode cX11_voyage 53 = .ok (.iload_n 2, 1) := od_28  (by decide +kernel)
theorem dX11_voyage_54 : decode cX11_voyage 54 = .ok (.tableswitch 73 1 4 #[30, 41, 52, 63], 30) := by decide +kernel
theorem dX11_voyage_84 : decode cX11_voyage 84 = .ok (.aload_n 0, 1) := od_42  (by decide +kernel)
theorem dX11_voyage_85 : decode cX11_voyage 85 = .ok (.getfield 46, 3) := od_180 (a := 0) (b := 46) (by decide +kernel) (by decide)
theorem dX11_voyage_88 : decode cX11_voyage 88 = .ok (.getfield 331, 3) := od_180 (a := 1) (b := 75) (by decide +kernel) (by decide)
theorem dX11_voyage_91 : decode cX11_voyage 91 = .ok (.iload_n 1, 1) := od_27  (by decide +kernel)
theorem dX11_voyage_92 : decode cX11_voyage 92 = .ok (.iaload, 1) := od_46  (by decide +kernel)
theorem dX11_voyage_93 : decode cX11_voyage 93 = .ok (.i2l, 1) := od_133  (by decide +kernel)
theorem dX11_voyage_94 : decode cX11_voyage 94 = .ok (.lreturn, 1) := od_173  (by decide +kernel)
theorem dX11_voyage_95 : decode cX11_voyage 95 = .ok (.aload_n 0, 1) := od_42  (by decide +kernel)
theorem dX11_voyage_96 : decode cX11_voyage 96 = .ok (.getfield 46, 3) := od_180 (a := 0) (b := 46) (by decide +kernel) (by decide)
theorem dX11_voyage_99 : decode cX11_voyage 99 = .ok (.getfield 334, 3) := od_180 (a := 1) (b := 78) (by decide +kernel) (by decide)
theorem dX11_voyage_102 : decode cX11_voyage 102 = .ok (.iload_n 1, 1) := od_27  (by decide +kernel)
theorem dX11_voyage_103 : decode cX11_voyage 103 = .ok (.iaload, 1) := od_46  (by decide +kernel)
theorem dX11_voyage_104 : decode cX11_voyage 104 = .ok (.i2l, 1) := od_133  (by decide +kernel)
theorem dX11_voyage_105 : decode cX11_voyage 105 = .ok (.lreturn, 1) := od_173  (by decide +kernel)
theorem dX11_voyage_106 : decode cX11_voyage 106 = .ok (.aload_n 0, 1) := od_42  (by decide +kernel)
theorem dX11_voyage_107 : decode cX11_voyage 107 = .ok (.getfield 46, 3) := od_180 (a := 0) (b := 46) (by decide +kernel) (by decide)
theorem dX11_voyage_110 : decode cX11_voyage 110 = .ok (.getfield 337, 3) := od_180 (a := 1) (b := 81) (by decide +kernel) (by decide)
theorem dX11_voyage_113 : decode cX11_voyage 113 = .ok (.iload_n 1, 1) := od_27  (by decide +kernel)
theorem dX11_voyage_114 : decode cX11_voyage 114 = .ok (.iaload, 1) := od_46  (by decide +kernel)
theorem dX11_voyage_115 : decode cX11_voyage 115 = .ok (.i2l, 1) := od_133  (by decide +kernel)
theorem dX11_voyage_116 : decode cX11_voyage 116 = .ok (.lreturn, 1) := od_173  (by decide +kernel)
theorem dX11_voyage_117 : decode cX11_voyage 117 = .ok (.aload_n 0, 1) := od_42  (by decide +kernel)
theorem dX11_voyage_118 : decode cX11_voyage 118 = .ok (.getfield 46, 3) := od_180 (a := 0) (b := 46) (by decide +kernel) (by decide)
theorem dX11_voyage_121 : decode cX11_voyage 121 = .ok (.getfield 340, 3) := od_180 (a := 1) (b := 84) (by decide +kernel) (by decide)
theorem dX11_voyage_124 : decode cX11_voyage 124 = .ok (.iload_n 1, 1) := od_27  (by decide +kernel)
theorem dX11_voyage_125 : decode cX11_voyage 125 = .ok (.laload, 1) := od_47  (by decide +kernel)
theorem dX11_voyage_126 : decode cX11_voyage 126 = .ok (.lreturn, 1) := od_173  (by decide +kernel)
theorem dX11_voyage_127 : decode cX11_voyage 127 = .ok (.ldc2_w 281, 3) := od_20 (a := 1) (b := 25) (by decide +kernel) (by decide)
theorem dX11_voyage_130 : decode cX11_voyage 130 = .ok (.lreturn, 1) := od_173  (by decide +kernel)
theorem gX11_judge_X1_sails : GoodIn WALL (wsV RX11 343 RX1 yX1_sails wqX1_sails) := wg_V wa_1473 wa_1474 wa_1475 wa_31 wa_1476
theorem gX11_judge_X11_isHour : GoodIn WALL (va_wsS RX11 229 yX11_isHour wqX11_isHour) := wg_S wa_323 wa_324 wa_2 wa_325
theorem gX11_judge_X1_worthOfRow : GoodIn WALL (wsV RX11 346 RX1 yX1_worthOfRow wqX1_worthOfRow) := wg_V wa_1478 wa_1479 wa_1480 wa_31 wa_1481
theorem dX11_judge_0 : decode cX11_judge 0 = .ok (.aload_n 0, 1) := od_42  (by decide +kernel)
theorem dX11_judge_1 : decode cX11_judge 1 = .ok (.getfield 46, 3) := od_180 (a := 0) (b := 46) (by decide +kernel) (by decide)
theorem dX11_judge_4 : decode cX11_judge 4 = .ok (.iload_n 1, 1) := od_27  (by decide +kernel)
theorem dX11_judge_5 : decode cX11_judge 5 = .ok (.invokevirtual 343, 3) := od_182 (a := 1) (b := 87) (by decide +kernel) (by decide)
theorem dX11_judge_8 : decode cX11_judge 8 = .ok (.ifCond .eq 11, 3) := od_153 (a := 0) (b := 11) (by decide +kernel) (by decide +kernel)
theorem dX11_judge_11 : decode cX11_judge 11 = .ok (.iload 5, 2) := od_21 (n := 5) (by decide +kernel)
theorem dX11_judge_13 : decode cX11_judge 13 = .ok (.invokestatic 229, 3) := od_184 (a := 0) (b := 229) (by decide +kernel) (by decide)
theorem dX11_judge_16 : decode cX11_judge 16 = .ok (.ifCond .ne 7, 3) := od_154 (a := 0) (b := 7) (by decide +kernel) (by decide +kernel)
theorem dX11_judge_19 : decode cX11_judge 19 = .ok (.ldc2_w 281, 3) := od_20 (a := 1) (b := 25) (by decide +kernel) (by decide)
theorem dX11_judge_22 : decode cX11_judge 22 = .ok (.lreturn, 1) := od_173  (by decide +kernel)
theorem dX11_judge_23 : decode cX11_judge 23 = .ok (.aload_n 0, 1) := od_42  (by decide +kernel)
theorem dX11_judge_24 : decode cX11_judge 24 = .ok (.getfield 46, 3) := od_180 (a := 0) (b := 46) (by decide +kernel) (by decide)
theorem dX11_judge_27 : decode cX11_judge 27 = .ok (.iload_n 1, 1) := od_27  (by decide +kernel)
theorem dX11_judge_28 : decode cX11_judge 28 = .ok (.iload_n 2, 1) := od_28  (by decide +kernel)
theorem dX11_judge_29 : decode cX11_judge 29 = .ok (.iload_n 3, 1) := od_29  (by decide +kernel)
theorem dX11_judge_30 : decode cX11_judge 30 = .ok (.iload 4, 2) := od_21 (n := 4) (by decide +kernel)
theorem dX11_judge_32 : decode cX11_judge 32 = .ok (.iload 5, 2) := od_21 (n := 5) (by decide +kernel)
theorem dX11_judge_34 : decode cX11_judge 34 = .ok (.invokevirtual 346, 3) := od_182 (a := 1) (b := 90) (by decide +kernel) (by decide)
theorem dX11_judge_37 : decode cX11_judge 37 = .ok (.lreturn, 1) := od_173  (by decide +kernel)
theorem gX11_back_X11_within : GoodIn WALL (va_wsS RX11 51 yX11_within wqX11_within) := wg_S wa_180 wa_181 wa_2 wa_182
theorem gX11_back_X11_refuse : GoodIn WALL (wsV RX11 55 RX11 yX11_refuse wqX11_refuse) := wg_V wa_183 wa_184 wa_185 wa_2 wa_186
theorem gX11_back_X10_copyFrom : GoodIn WALL (wsV RX11 350 RX10 yX10_copyFrom wqX10_copyFrom) := wg_V wa_1491 wa_1492 wa_1493 wa_14 wa_1494
theorem gX11_back_X11_accept : GoodIn WALL (wsV RX11 73 RX11 yX11_accept wqX11_accept) := wg_V wa_201 wa_202 wa_203 wa_2 wa_204
theorem dX11_back_0 : decode cX11_back 0 = .ok (.iload_n 1, 1) := od_27  (by decide +kernel)
theorem dX11_back_1 : decode cX11_back 1 = .ok (.iconst 0, 1) := od_3  (by decide +kernel)
theorem dX11_back_2 : decode cX11_back 2 = .ok (.aload_n 0, 1) := od_42  (by decide +kernel)
theorem dX11_back_3 : decode cX11_back 3 = .ok (.getfield 16, 3) := od_180 (a := 0) (b := 16) (by decide +kernel) (by decide)
theorem dX11_back_6 : decode cX11_back 6 = .ok (.arraylength, 1) := od_190  (by decide +kernel)
theorem dX11_back_7 : decode cX11_back 7 = .ok (.iconst 1, 1) := od_4  (by decide +kernel)
theorem dX11_back_8 : decode cX11_back 8 = .ok (.isub, 1) := od_100  (by decide +kernel)
theorem dX11_back_9 : decode cX11_back 9 = .ok (.invokestatic 51, 3) := od_184 (a := 0) (b := 51) (by decide +kernel) (by decide)
theorem dX11_back_12 : decode cX11_back 12 = .ok (.ifCond .ne 9, 3) := od_154 (a := 0) (b := 9) (by decide +kernel) (by decide +kernel)
theorem dX11_back_15 : decode cX11_back 15 = .ok (.aload_n 0, 1) := od_42  (by decide +kernel)
theorem dX11_back_16 : decode cX11_back 16 = .ok (.iconst (-1), 1) := od_2  (by decide +kernel)
theorem dX11_back_17 : decode cX11_back 17 = .ok (.invokevirtual 55, 3) := od_182 (a := 0) (b := 55) (by decide +kernel) (by decide)
theorem dX11_back_20 : decode cX11_back 20 = .ok (.ireturn, 1) := od_172  (by decide +kernel)
theorem dX11_back_21 : decode cX11_back 21 = .ok (.aload_n 0, 1) := od_42  (by decide +kernel)
theorem dX11_back_22 : decode cX11_back 22 = .ok (.getfield 16, 3) := od_180 (a := 0) (b := 16) (by decide +kernel) (by decide)
theorem dX11_back_25 : decode cX11_back 25 = .ok (.iload_n 1, 1) := od_27  (by decide +kernel)
theorem dX11_back_26 : decode cX11_back 26 = .ok (.aaload, 1) := od_50  (by decide +kernel)
theorem dX11_back_27 : decode cX11_back 27 = .ok (.ifnonnull 10, 3) := od_199 (a := 0) (b := 10) (by decide +kernel) (by decide +kernel)
theorem dX11_back_30 : decode cX11_back 30 = .ok (.aload_n 0, 1) := od_42  (by decide +kernel)
theorem dX11_back_31 : decode cX11_back 31 = .ok (.bipush (-2), 2) := od_16 (a := 254) (by decide +kernel) (by decide +kernel)
theorem dX11_back_33 : decode cX11_back 33 = .ok (.invokevirtual 55, 3) := od_182 (a := 0) (b := 55) (by decide +kernel) (by decide)
theorem dX11_back_36 : decode cX11_back 36 = .ok (.ireturn, 1) := od_172  (by decide +kernel)
theorem dX11_back_37 : decode cX11_back 37 = .ok (.aload_n 0, 1) := od_42  (by decide +kernel)
theorem dX11_back_38 : decode cX11_back 38 = .ok (.getfield 10, 3) := od_180 (a := 0) (b := 10) (by decide +kernel) (by decide)
theorem dX11_back_41 : decode cX11_back 41 = .ok (.aload_n 0, 1) := od_42  (by decide +kernel)
theorem dX11_back_42 : decode cX11_back 42 = .ok (.getfield 16, 3) := od_180 (a := 0) (b := 16) (by decide +kernel) (by decide)
theorem dX11_back_45 : decode cX11_back 45 = .ok (.iload_n 1, 1) := od_27  (by decide +kernel)
theorem dX11_back_46 : decode cX11_back 46 = .ok (.aaload, 1) := od_50  (by decide +kernel)
theorem dX11_back_47 : decode cX11_back 47 = .ok (.invokevirtual 350, 3) := od_182 (a := 1) (b := 94) (by decide +kernel) (by decide)
theorem dX11_back_50 : decode cX11_back 50 = .ok (.aload_n 0, 1) := od_42  (by decide +kernel)
theorem dX11_back_51 : decode cX11_back 51 = .ok (.iconst 0, 1) := od_3  (by decide +kernel)
theorem dX11_back_52 : decode cX11_back 52 = .ok (.invokevirtual 73, 3) := od_182 (a := 0) (b := 73) (by decide +kernel) (by decide)
theorem dX11_back_55 : decode cX11_back 55 = .ok (.ireturn, 1) := od_172  (by decide +kernel)
theorem dX11_count_0 : decode cX11_count 0 = .ok (.iload_n 1, 1) := od_27  (by decide +kernel)
theorem dX11_count_1 : decode cX11_count 1 = .ok (.tableswitch 135 0 8 #[51, 59, 67, 75, 86, 97, 105, 116, 127], 51) := by decide +kernel
theorem dX11_count_52 : decode cX11_count 52 = .ok (.aload_n 0, 1) := od_42  (by decide +kernel)
theorem dX11_count_53 : decode cX11_count 53 = .ok (.getfield 10, 3) := od_180 (a := 0) (b := 10) (by decide +kernel) (by decide)
theorem dX11_count_56 : decode cX11_count 56 = .ok (.getfield 154, 3) := od_180 (a := 0) (b := 154) (by decide +kernel) (by decide)
theorem dX11_count_59 : decode cX11_count 59 = .ok (.ireturn, 1) := od_172  (by decide +kernel)
theorem dX11_count_60 : decode cX11_count 60 = .ok (.aload_n 0, 1) := od_42  (by decide +kernel)
theorem dX11_count_61 : decode cX11_count 61 = .ok (.getfield 10, 3) := od_180 (a := 0) (b := 10) (by decide +kernel) (by decide)
theorem dX11_count_64 : decode cX11_count 64 = .ok (.getfield 59, 3) := od_180 (a := 0) (b := 59) (by decide +kernel) (by decide)
theorem dX11_count_67 : decode cX11_count 67 = .ok (.ireturn, 1) := od_172  (by decide +kernel)
theorem dX11_count_68 : decode cX11_count 68 = .ok (.aload_n 0, 1) := od_42  (by decide +kernel)
theorem dX11_count_69 : decode cX11_count 69 = .ok (.getfield 10, 3) := od_180 (a := 0) (b := 10) (by decide +kernel) (by decide)
theorem dX11_count_72 : decode cX11_count 72 = .ok (.getfield 81, 3) := od_180 (a := 0) (b := 81) (by decide +kernel) (by decide)
theorem dX11_count_75 : decode cX11_count 75 = .ok (.ireturn, 1) := od_172  (by decide +kernel)
theorem dX11_count_76 : decode cX11_count 76 = .ok (.aload_n 0, 1) := od_42  (by decide +kernel)
theorem dX11_count_77 : decode cX11_count 77 = .ok (.getfield 10, 3) := od_180 (a := 0) (b := 10) (by decide +kernel) (by decide)
theorem dX11_count_80 : decode cX11_count 80 = .ok (.getfield 111, 3) := od_180 (a := 0) (b := 111) (by decide +kernel) (by decide)
theorem dX11_count_83 : decode cX11_count 83 = .ok (.getfield 353, 3) := od_180 (a := 1) (b := 97) (by decide +kernel) (by decide)
theorem dX11_count_86 : decode cX11_count 86 = .ok (.ireturn, 1) := od_172  (by decide +kernel)
theorem dX11_count_87 : decode cX11_count 87 = .ok (.aload_n 0, 1) := od_42  (by decide +kernel)
theorem dX11_count_88 : decode cX11_count 88 = .ok (.getfield 10, 3) := od_180 (a := 0) (b := 10) (by decide +kernel) (by decide)
theorem dX11_count_91 : decode cX11_count 91 = .ok (.getfield 207, 3) := od_180 (a := 0) (b := 207) (by decide +kernel) (by decide)
theorem dX11_count_94 : decode cX11_count 94 = .ok (.getfield 242, 3) := od_180 (a := 0) (b := 242) (by decide +kernel) (by decide)
theorem dX11_count_97 : decode cX11_count 97 = .ok (.ireturn, 1) := od_172  (by decide +kernel)
theorem dX11_count_98 : decode cX11_count 98 = .ok (.aload_n 0, 1) := od_42  (by decide +kernel)
theorem dX11_count_99 : decode cX11_count 99 = .ok (.getfield 10, 3) := od_180 (a := 0) (b := 10) (by decide +kernel) (by decide)
theorem dX11_count_102 : decode cX11_count 102 = .ok (.getfield 261, 3) := od_180 (a := 1) (b := 5) (by decide +kernel) (by decide)
theorem dX11_count_105 : decode cX11_count 105 = .ok (.ireturn, 1) := od_172  (by decide +kernel)
theorem dX11_count_106 : decode cX11_count 106 = .ok (.aload_n 0, 1) := od_42  (by decide +kernel)
theorem dX11_count_107 : decode cX11_count 107 = .ok (.getfield 10, 3) := od_180 (a := 0) (b := 10) (by decide +kernel) (by decide)
theorem dX11_count_110 : decode cX11_count 110 = .ok (.getfield 319, 3) := od_180 (a := 1) (b := 63) (by decide +kernel) (by decide)
theorem dX11_count_113 : decode cX11_count 113 = .ok (.getfield 242, 3) := od_180 (a := 0) (b := 242) (by decide +kernel) (by decide)
theorem dX11_count_116 : decode cX11_count 116 = .ok (.ireturn, 1) := od_172  (by decide +kernel)
theorem dX11_count_117 : decode cX11_count 117 = .ok (.aload_n 0, 1) := od_42  (by decide +kernel)
theorem dX11_count_118 : decode cX11_count 118 = .ok (.getfield 10, 3) := od_180 (a := 0) (b := 10) (by decide +kernel) (by decide)
theorem dX11_count_121 : decode cX11_count 121 = .ok (.getfield 306, 3) := od_180 (a := 1) (b := 50) (by decide +kernel) (by decide)
theorem dX11_count_124 : decode cX11_count 124 = .ok (.getfield 242, 3) := od_180 (a := 0) (b := 242) (by decide +kernel) (by decide)
theorem dX11_count_127 : decode cX11_count 127 = .ok (.ireturn, 1) := od_172  (by decide +kernel)
theorem dX11_count_128 : decode cX11_count 128 = .ok (.aload_n 0, 1) := od_42  (by decide +kernel)
theorem dX11_count_129 : decode cX11_count 129 = .ok (.getfield 32, 3) := od_180 (a := 0) (b := 32) (by decide +kernel) (by decide)
theorem dX11_count_132 : decode cX11_count 132 = .ok (.getfield 260, 3) := od_180 (a := 1) (b := 4) (by decide +kernel) (by decide)
theorem dX11_count_135 : decode cX11_count 135 = .ok (.ireturn, 1) := od_172  (by decide +kernel)
theorem dX11_count_136 : decode cX11_count 136 = .ok (.iconst (-1), 1) := od_2  (by decide +kernel)
theorem dX11_count_137 : decode cX11_count 137 = .ok (.ireturn, 1) := od_172  (by decide +kernel)
theorem dX11_status_0 : decode cX11_status 0 = .ok (.aload_n 0, 1) := od_42  (by decide +kernel)
theorem dX11_status_1 : decode cX11_status 1 = .ok (.getfield 354, 3) := od_180 (a := 1) (b := 98) (by decide +kernel) (by decide)
theorem dX11_status_4 : decode cX11_status 4 = .ok (.ireturn, 1) := od_172  (by decide +kernel)
end
