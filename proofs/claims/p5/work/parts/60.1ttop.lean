set_option maxHeartbeats 4000000 in
set_option maxRecDepth 100000 in
theorem t_X11_refuse (l : Launch) (dC : Nat → ClassId) (dI : Nat → Nat → Nat) (sz : Nat) (Ω : Nat → (Nat → Nat) → va_E → Prop) (κ : Nat → ClassId) (τ ν : Nat → Nat) (ρ : Nat → Nat → Nat) (L : List Nat) (f : Nat → va_E) (hG : tp_G τ ν ρ L) (hT : tp_T Ω κ τ ν ρ f) (h0 : Nat) (v : Int32) (ht_h0 : τ h0 = 12) : Met l yX11_refuse wqX11_refuse ({ frames := 2, cells := 0, slots := 0, locals := 400 }) (va_Pc [.ref h0, .int v] (pz_B dC dI (tp_K κ) (va_pl L f) sz)) (va_Qi (fun (r : Int32) (f1 : Nat → va_E) => tp_T Ω κ τ ν ρ f1 ∧ tp_F τ [12] f f1 ∧ True ∧ r = v) (fun (f1 : Nat → va_E) (t : State) => pz_E dC dI (tp_K κ) (va_A (va_pl L f) sz) (va_pl L f1) t) (va_A (va_pl L f) sz)) 0 0 (va_A (va_pl L f) sz) := by
  refine Met.ofW (cc := cX11_refuse) (maxL := 2) (ret := some .int) (by decide) rfl ?_
  intro p e s m args below meth c s₁ B hml hv
  obtain ⟨rfl, hsz, hP, hK, hD0, hN⟩ := hv
  have hx := B.exec
  have hb := B.bytes
  have hr := B.returns
  have hts := fun (w : Cond) (h : w ∈ WALL) => atoms_spec (ws := wqX11_refuse) B.pre w (List.mem_cons_of_mem _ h)
  have hown : s.vm.findClass RX11 = some m.cls := findClass_of_methodNamed B.named
  have hlocks := B.notSynchronized
  subst hsz
  have hD := hD0.self (sz := s.heap.size)
  generalize hAe : va_A (va_pl L f) s.heap.size = A at hD ⊢
  have hA : ∀ q : Nat, s.heap.size ≤ q → A q := fun q h => by rw [← hAe]; exact Or.inr h
  have hS : va_S A s.heap s.heap [] := va_S.rf
  have hR : tp_F τ [12] f f := tp_F.rf
  have hl := lv_entry ([.ref h0, .int v]) (n := 2) (Nat.le_of_ble_eq_true rfl)
  rw [lg_entry_eq]
  generalize (lg_sl ([.ref h0, .int v]) ++ List.replicate (2 - (lg_sl ([.ref h0, .int v])).length) Slot.unset).toArray = ls at hl ⊢
  have hl : lv_has ls 2 [(0, .ref h0), (1, .int v)] := hl
  refine lv_aload_n hx hb dX11_refuse_0 rfl (lv_at hl 0 rfl) ?_
  refine lv_iload_n hx hb dX11_refuse_1 rfl (lv_at hl 1 rfl) ?_
  refine tgk_12 hG ht_h0 (fun y1 y2 y3 y4 y5 y6 => ?_)
  refine tpk_12 hT ht_h0 (fun o7_x6 hf_o7 => ?_)
  refine tpk_pos (tp_in hG ht_h0 (by decide)) hf_o7 (fun q8 eq8 => ?_)
  refine va_put (D := (dC, dI)) (ci := 11) (v := .int v) (ty := .int) (C := RX11) (T := TX11) (N := 7) hx hb hts hfX11 tyX11 tyX11_ok nmX11 hown hK hP hD hS q8 eq8 rfl 6 (by decide) (hts (.fieldLink RX11 354 "ColdShips" "refusal" "I") wa_187) (fun _ h9 => h9) rfl (tyX11_ok 6 (by decide)) rfl rfl (Nat.le_of_ble_eq_true rfl) dX11_refuse_2 (tp_k (.inr (11, [.ref (ρ h0 0), .ref (ρ h0 1), .ref (ρ h0 2), .ref (ρ h0 3), .ref (ρ h0 4), .ref (ρ h0 5), .int v])) hD (tp_in hG ht_h0 (by decide)) eq8 (fun f9 H locs hP hD hS g11 k10 => ?_))
  have hT := hT.up ht_h0 g11 k10 ⟨_, rfl⟩
  have hR := hR.up ht_h0 (by decide) k10
  refine lv_iload_n hx hb dX11_refuse_5 rfl (lv_at hl 1 rfl) ?_
  exact W.iret (v := v) hx hb hr (fun t ht hW => ⟨⟨v, f9, rfl, ⟨hT, hR, trivial, rfl⟩, by rw [ht]; exact hP, va_K.moved hW.alike hK, hD⟩, hS.F ht⟩) hS.2.2 dX11_refuse_6
set_option maxHeartbeats 4000000 in
set_option maxRecDepth 100000 in
theorem t_X11_accept (l : Launch) (dC : Nat → ClassId) (dI : Nat → Nat → Nat) (sz : Nat) (Ω : Nat → (Nat → Nat) → va_E → Prop) (κ : Nat → ClassId) (τ ν : Nat → Nat) (ρ : Nat → Nat → Nat) (L : List Nat) (f : Nat → va_E) (hG : tp_G τ ν ρ L) (hT : tp_T Ω κ τ ν ρ f) (h0 : Nat) (v : Int32) (ht_h0 : τ h0 = 12) : Met l yX11_accept wqX11_accept ({ frames := 2, cells := 0, slots := 0, locals := 400 }) (va_Pc [.ref h0, .int v] (pz_B dC dI (tp_K κ) (va_pl L f) sz)) (va_Qi (fun (r : Int32) (f1 : Nat → va_E) => tp_T Ω κ τ ν ρ f1 ∧ tp_F τ [12] f f1 ∧ True ∧ r = v) (fun (f1 : Nat → va_E) (t : State) => pz_E dC dI (tp_K κ) (va_A (va_pl L f) sz) (va_pl L f1) t) (va_A (va_pl L f) sz)) 0 0 (va_A (va_pl L f) sz) := by
  refine Met.ofW (cc := cX11_accept) (maxL := 2) (ret := some .int) (by decide) rfl ?_
  intro p e s m args below meth c s₁ B hml hv
  obtain ⟨rfl, hsz, hP, hK, hD0, hN⟩ := hv
  have hx := B.exec
  have hb := B.bytes
  have hr := B.returns
  have hts := fun (w : Cond) (h : w ∈ WALL) => atoms_spec (ws := wqX11_accept) B.pre w (List.mem_cons_of_mem _ h)
  have hown : s.vm.findClass RX11 = some m.cls := findClass_of_methodNamed B.named
  have hlocks := B.notSynchronized
  subst hsz
  have hD := hD0.self (sz := s.heap.size)
  generalize hAe : va_A (va_pl L f) s.heap.size = A at hD ⊢
  have hA : ∀ q : Nat, s.heap.size ≤ q → A q := fun q h => by rw [← hAe]; exact Or.inr h
  have hS : va_S A s.heap s.heap [] := va_S.rf
  have hR : tp_F τ [12] f f := tp_F.rf
  have hl := lv_entry ([.ref h0, .int v]) (n := 2) (Nat.le_of_ble_eq_true rfl)
  rw [lg_entry_eq]
  generalize (lg_sl ([.ref h0, .int v]) ++ List.replicate (2 - (lg_sl ([.ref h0, .int v])).length) Slot.unset).toArray = ls at hl ⊢
  have hl : lv_has ls 2 [(0, .ref h0), (1, .int v)] := hl
  refine lv_aload_n hx hb dX11_accept_0 rfl (lv_at hl 0 rfl) ?_
  refine lv_iconst (v := 0) hx hb dX11_accept_1 (by decide) ?_
  refine tgk_12 hG ht_h0 (fun y1 y2 y3 y4 y5 y6 => ?_)
  refine tpk_12 hT ht_h0 (fun o7_x6 hf_o7 => ?_)
  refine tpk_pos (tp_in hG ht_h0 (by decide)) hf_o7 (fun q8 eq8 => ?_)
  refine va_put (D := (dC, dI)) (ci := 11) (v := .int 0) (ty := .int) (C := RX11) (T := TX11) (N := 7) hx hb hts hfX11 tyX11 tyX11_ok nmX11 hown hK hP hD hS q8 eq8 rfl 6 (by decide) (hts (.fieldLink RX11 354 "ColdShips" "refusal" "I") wa_187) (fun _ h9 => h9) rfl (tyX11_ok 6 (by decide)) rfl rfl (Nat.le_of_ble_eq_true rfl) dX11_accept_2 (tp_k (.inr (11, [.ref (ρ h0 0), .ref (ρ h0 1), .ref (ρ h0 2), .ref (ρ h0 3), .ref (ρ h0 4), .ref (ρ h0 5), .int 0])) hD (tp_in hG ht_h0 (by decide)) eq8 (fun f9 H locs hP hD hS g11 k10 => ?_))
  have hT := hT.up ht_h0 g11 k10 ⟨_, rfl⟩
  have hR := hR.up ht_h0 (by decide) k10
  refine lv_iload_n hx hb dX11_accept_5 rfl (lv_at hl 1 rfl) ?_
  exact W.iret (v := v) hx hb hr (fun t ht hW => ⟨⟨v, f9, rfl, ⟨hT, hR, trivial, rfl⟩, by rw [ht]; exact hP, va_K.moved hW.alike hK, hD⟩, hS.F ht⟩) hS.2.2 dX11_accept_6
set_option maxHeartbeats 4000000 in
set_option maxRecDepth 100000 in
theorem t_X11_acceptOrFull (l : Launch) (dC : Nat → ClassId) (dI : Nat → Nat → Nat) (sz : Nat) (Ω : Nat → (Nat → Nat) → va_E → Prop) (κ : Nat → ClassId) (τ ν : Nat → Nat) (ρ : Nat → Nat → Nat) (L : List Nat) (f : Nat → va_E) (hG : tp_G τ ν ρ L) (hT : tp_T Ω κ τ ν ρ f) (h0 : Nat) (v : Int32) (ht_h0 : τ h0 = 12) : Met l yX11_acceptOrFull wqX11_acceptOrFull ({ frames := 3, cells := 0, slots := 0, locals := 800 }) (va_Pc [.ref h0, .int v] (pz_B dC dI (tp_K κ) (va_pl L f) sz)) (va_Qi (fun (r : Int32) (f1 : Nat → va_E) => tp_T Ω κ τ ν ρ f1 ∧ tp_F τ [12] f f1 ∧ True ∧ True) (fun (f1 : Nat → va_E) (t : State) => pz_E dC dI (tp_K κ) (va_A (va_pl L f) sz) (va_pl L f1) t) (va_A (va_pl L f) sz)) 0 0 (va_A (va_pl L f) sz) := by
  refine Met.ofW (cc := cX11_acceptOrFull) (maxL := 2) (ret := some .int) (by decide) rfl ?_
  intro p e s m args below meth c s₁ B hml hv
  obtain ⟨rfl, hsz, hP, hK, hD0, hN⟩ := hv
  have hx := B.exec
  have hb := B.bytes
  have hr := B.returns
  have hts := fun (w : Cond) (h : w ∈ WALL) => atoms_spec (ws := wqX11_acceptOrFull) B.pre w (List.mem_cons_of_mem _ h)
  have hown : s.vm.findClass RX11 = some m.cls := findClass_of_methodNamed B.named
  have hlocks := B.notSynchronized
  subst hsz
  have hD := hD0.self (sz := s.heap.size)
  generalize hAe : va_A (va_pl L f) s.heap.size = A at hD ⊢
  have hA : ∀ q : Nat, s.heap.size ≤ q → A q := fun q h => by rw [← hAe]; exact Or.inr h
  have hS : va_S A s.heap s.heap [] := va_S.rf
  have hR : tp_F τ [12] f f := tp_F.rf
  have hl := lv_entry ([.ref h0, .int v]) (n := 2) (Nat.le_of_ble_eq_true rfl)
  rw [lg_entry_eq]
  generalize (lg_sl ([.ref h0, .int v]) ++ List.replicate (2 - (lg_sl ([.ref h0, .int v])).length) Slot.unset).toArray = ls at hl ⊢
  have hl : lv_has ls 2 [(0, .ref h0), (1, .int v)] := hl
  refine lv_iload_n hx hb dX11_acceptOrFull_0 rfl (lv_at hl 1 rfl) ?_
  refine lv_iconst (v := (-1)) hx hb dX11_acceptOrFull_1 (by decide) ?_
  refine lv_icmp_ne (tgt := 14) hx hb dX11_acceptOrFull_2 (by decide) (fun c1 => ?_) (fun c1 => ?_)
  · have ic1 : v.toInt ≠ (-1) := zi_ne rfl rfl c1
    refine lv_aload_n hx hb dX11_acceptOrFull_14 rfl (lv_at hl 0 rfl) ?_
    refine lv_iload_n hx hb dX11_acceptOrFull_15 rfl (lv_at hl 1 rfl) ?_
    refine tgk_12 hG ht_h0 (fun y2 y3 y4 y5 y6 y7 => ?_)
    refine tpk_12 hT ht_h0 (fun o8_x6 hf_o8 => ?_)
    refine tpk_pos (tp_in hG ht_h0 (by decide)) hf_o8 (fun q9 eq9 => ?_)
    have hFc := tp_fr hD hS hA
    refine va_calli (va_runV (As := [.int v]) (rest := []) ⟨hx, hb, hml, hown, hts⟩ (t_X11_accept l dC dI _ Ω κ τ ν ρ L f hG hT h0 v ht_h0) (cwV 1 hts gX11_acceptOrFull_X11_accept rfl rfl rfl ⟨rfl, pd_X11_accept⟩ ⟨Nat.le_of_ble_eq_true rfl, Nat.le_of_ble_eq_true rfl⟩) ⟨pz_blind, va_recv hK hP (ci := 11) (q0 := q9) rfl eq9, pz_pre hP hK hD hN⟩ rfl rfl hl.1 rfl (lv_room (Nat.le_of_ble_eq_true rfl)) dX11_acceptOrFull_16 ⟨Nat.le_of_ble_eq_true rfl, Nat.le_of_ble_eq_true rfl⟩) hS (fun q _ h => hFc q h) hFc (fun r10 f12 t H1 locs ht hvm hw11 hB hz1 hk1 hS => ?_)
    refine tn_4 hw11 (fun hT hF13 hw11r hw11p => ?_); clear hw11
    have hR := hR.then hF13 (by decide)
    have hP := hB.1; rw [ht] at hP; have hD := tp_ad f12 hD; clear hB hFc hz1 hk1; subst ht; generalize t.heap = H at hP hS ⊢
    exact W.iret (v := r10) hx hb hr (fun t ht hW => ⟨⟨r10, f12, rfl, ⟨hT, hR, trivial, trivial⟩, by rw [ht]; exact hP, va_K.moved hW.alike hK, hD⟩, hS.F ht⟩) hS.2.2 dX11_acceptOrFull_19
  · have ic1 : v.toInt = (-1) := zi_nef rfl rfl c1
    refine lv_aload_n hx hb dX11_acceptOrFull_5 rfl (lv_at hl 0 rfl) ?_
    refine lv_bipush (v := (-5)) hx hb dX11_acceptOrFull_6 (by decide) ?_
    refine tgk_12 hG ht_h0 (fun y14 y15 y16 y17 y18 y19 => ?_)
    refine tpk_12 hT ht_h0 (fun o20_x6 hf_o20 => ?_)
    refine tpk_pos (tp_in hG ht_h0 (by decide)) hf_o20 (fun q21 eq21 => ?_)
    have hFc := tp_fr hD hS hA
    refine va_calli (va_runV (As := [.int (-5)]) (rest := []) ⟨hx, hb, hml, hown, hts⟩ (t_X11_refuse l dC dI _ Ω κ τ ν ρ L f hG hT h0 ((-5)) ht_h0) (cwV 1 hts gX11_acceptOrFull_X11_refuse rfl rfl rfl ⟨rfl, pd_X11_refuse⟩ ⟨Nat.le_of_ble_eq_true rfl, Nat.le_of_ble_eq_true rfl⟩) ⟨pz_blind, va_recv hK hP (ci := 11) (q0 := q21) rfl eq21, pz_pre hP hK hD hN⟩ rfl rfl hl.1 rfl (lv_room (Nat.le_of_ble_eq_true rfl)) dX11_acceptOrFull_8 ⟨Nat.le_of_ble_eq_true rfl, Nat.le_of_ble_eq_true rfl⟩) hS (fun q _ h => hFc q h) hFc (fun r22 f24 t H1 locs ht hvm hw23 hB hz1 hk1 hS => ?_)
    refine tn_4 hw23 (fun hT hF25 hw23r hw23p => ?_); clear hw23
    have hR := hR.then hF25 (by decide)
    have hP := hB.1; rw [ht] at hP; have hD := tp_ad f24 hD; clear hB hFc hz1 hk1; subst ht; generalize t.heap = H at hP hS ⊢
    refine lv_goto (tgt := 19) hx hb dX11_acceptOrFull_11 (by decide) ?_
    exact W.iret (v := r22) hx hb hr (fun t ht hW => ⟨⟨r22, f24, rfl, ⟨hT, hR, trivial, trivial⟩, by rw [ht]; exact hP, va_K.moved hW.alike hK, hD⟩, hS.F ht⟩) hS.2.2 dX11_acceptOrFull_19
set_option maxHeartbeats 4000000 in
set_option maxRecDepth 100000 in
theorem t_X11_terminal (l : Launch) (dC : Nat → ClassId) (dI : Nat → Nat → Nat) (sz : Nat) (Ω : Nat → (Nat → Nat) → va_E → Prop) (κ : Nat → ClassId) (τ ν : Nat → Nat) (ρ : Nat → Nat → Nat) (L : List Nat) (f : Nat → va_E) (hG : tp_G τ ν ρ L) (hT : tp_T Ω κ τ ν ρ f) (h0 : Nat) (v : Int32) (u : Int32) (a : Int32) (b : Int32) (ht_h0 : τ h0 = 12) : Met l yX11_terminal wqX11_terminal ({ frames := 4, cells := 0, slots := 0, locals := 1200 }) (va_Pc [.ref h0, .int v, .int u, .int a, .int b] (pz_B dC dI (tp_K κ) (va_pl L f) sz)) (va_Qi (fun (r : Int32) (f1 : Nat → va_E) => tp_T Ω κ τ ν ρ f1 ∧ tp_F τ [2, 3, 4, 5, 6, 7, 8, 9, 10, 11, 12, 20, 21, 22, 26, 27, 28] f f1 ∧ True ∧ True) (fun (f1 : Nat → va_E) (t : State) => pz_E dC dI (tp_K κ) (va_A (va_pl L f) sz) (va_pl L f1) t) (va_A (va_pl L f) sz)) 0 0 (va_A (va_pl L f) sz) := by
  refine Met.ofW (cc := cX11_terminal) (maxL := 6) (ret := some .int) (by decide) rfl ?_
  intro p e s m args below meth c s₁ B hml hv
  obtain ⟨rfl, hsz, hP, hK, hD0, hN⟩ := hv
  have hx := B.exec
  have hb := B.bytes
  have hr := B.returns
  have hts := fun (w : Cond) (h : w ∈ WALL) => atoms_spec (ws := wqX11_terminal) B.pre w (List.mem_cons_of_mem _ h)
  have hown : s.vm.findClass RX11 = some m.cls := findClass_of_methodNamed B.named
  have hlocks := B.notSynchronized
  subst hsz
  have hD := hD0.self (sz := s.heap.size)
  generalize hAe : va_A (va_pl L f) s.heap.size = A at hD ⊢
  have hA : ∀ q : Nat, s.heap.size ≤ q → A q := fun q h => by rw [← hAe]; exact Or.inr h
  have hS : va_S A s.heap s.heap [] := va_S.rf
  have hR : tp_F τ [2, 3, 4, 5, 6, 7, 8, 9, 10, 11, 12, 20, 21, 22, 26, 27, 28] f f := tp_F.rf
  have hl := lv_entry ([.ref h0, .int v, .int u, .int a, .int b]) (n := 6) (Nat.le_of_ble_eq_true rfl)
  rw [lg_entry_eq]
  generalize (lg_sl ([.ref h0, .int v, .int u, .int a, .int b]) ++ List.replicate (6 - (lg_sl ([.ref h0, .int v, .int u, .int a, .int b])).length) Slot.unset).toArray = ls at hl ⊢
  have hl : lv_has ls 6 [(0, .ref h0), (1, .int v), (2, .int u), (3, .int a), (4, .int b)] := hl
  refine lv_iload_n hx hb dX11_terminal_0 rfl (lv_at hl 2 rfl) ?_
  refine lv_iconst (v := 0) hx hb dX11_terminal_1 (by decide) ?_
  refine lv_ldc (own := RX11) (v := 500000) hx hb hown (hts (.constant RX11 50 (500000)) wa_179) dX11_terminal_2 ?_
  refine pz_calli (va_runS (As := [.int u, .int 0, .int 500000]) (rest := []) ⟨hx, hb, hml, hown, hts⟩ (t_X11_within l dC dI _ u (0) (500000) (u.toInt) (0) (500000) rfl rfl rfl) (va_cwS 3 hts gX11_terminal_X11_within rfl rfl rfl pd_X11_within ⟨Nat.le_of_ble_eq_true rfl, Nat.le_of_ble_eq_true rfl⟩) ⟨pz_blind, pz_pre pz_P0 (hK.sub (tys' := []) [] rfl) (pz_D0 (A := fun _ => True)) hN⟩ rfl rfl hl.1 rfl (lv_room (Nat.le_of_ble_eq_true rfl)) dX11_terminal_4 ⟨Nat.le_of_ble_eq_true rfl, Nat.le_of_ble_eq_true rfl⟩) (fun r1 hw2 => ?_)
  obtain ⟨hw2r, hw2p⟩ := hw2
  refine lv_if_eq (tgt := 41) hx hb dX11_terminal_7 (by decide) (fun c3 => ?_) (fun c3 => ?_)
  · have ic3 : r1.toInt = 0 := zi_eq rfl rfl c3
    refine lv_aload_n hx hb dX11_terminal_41 rfl (lv_at hl 0 rfl) ?_
    refine lv_iconst (v := (-1)) hx hb dX11_terminal_42 (by decide) ?_
    refine tgk_12 hG ht_h0 (fun y4 y5 y6 y7 y8 y9 => ?_)
    refine tpk_12 hT ht_h0 (fun o10_x6 hf_o10 => ?_)
    refine tpk_pos (tp_in hG ht_h0 (by decide)) hf_o10 (fun q11 eq11 => ?_)
    have hFc := tp_fr hD hS hA
    refine va_calli (va_runV (As := [.int (-1)]) (rest := []) ⟨hx, hb, hml, hown, hts⟩ (t_X11_refuse l dC dI _ Ω κ τ ν ρ L f hG hT h0 ((-1)) ht_h0) (cwV 1 hts gX11_terminal_X11_refuse rfl rfl rfl ⟨rfl, pd_X11_refuse⟩ ⟨Nat.le_of_ble_eq_true rfl, Nat.le_of_ble_eq_true rfl⟩) ⟨pz_blind, va_recv hK hP (ci := 11) (q0 := q11) rfl eq11, pz_pre hP hK hD hN⟩ rfl rfl hl.1 rfl (lv_room (Nat.le_of_ble_eq_true rfl)) dX11_terminal_43 ⟨Nat.le_of_ble_eq_true rfl, Nat.le_of_ble_eq_true rfl⟩) hS (fun q _ h => hFc q h) hFc (fun r12 f14 t H1 locs ht hvm hw13 hB hz1 hk1 hS => ?_)
    refine tn_4 hw13 (fun hT hF15 hw13r hw13p => ?_); clear hw13
    have hR := hR.then hF15 (by decide)
    have hP := hB.1; rw [ht] at hP; have hD := tp_ad f14 hD; clear hB hFc hz1 hk1; subst ht; generalize t.heap = H at hP hS ⊢
    exact W.iret (v := r12) hx hb hr (fun t ht hW => ⟨⟨r12, f14, rfl, ⟨hT, hR, trivial, trivial⟩, by rw [ht]; exact hP, va_K.moved hW.alike hK, hD⟩, hS.F ht⟩) hS.2.2 dX11_terminal_46
  · have ic3 : r1.toInt ≠ 0 := zi_eqf rfl rfl c3
    have p16 : (0) ≤ (u.toInt) ∧ (u.toInt) ≤ (500000) := (tp_cond.yes hw2p) (by omega)
    refine lv_iload_n hx hb dX11_terminal_10 rfl (lv_at hl 1 rfl) ?_
    refine lv_iconst (v := 0) hx hb dX11_terminal_11 (by decide) ?_
    refine lv_iload_n hx hb dX11_terminal_12 rfl (lv_at hl 2 rfl) ?_
    refine pz_calli (va_runS (As := [.int v, .int 0, .int u]) (rest := []) ⟨hx, hb, hml, hown, hts⟩ (t_X11_within l dC dI _ v (0) u (v.toInt) (0) (u.toInt) rfl rfl rfl) (va_cwS 3 hts gX11_terminal_X11_within rfl rfl rfl pd_X11_within ⟨Nat.le_of_ble_eq_true rfl, Nat.le_of_ble_eq_true rfl⟩) ⟨pz_blind, pz_pre pz_P0 (hK.sub (tys' := []) [] rfl) (pz_D0 (A := fun _ => True)) hN⟩ rfl rfl hl.1 rfl (lv_room (Nat.le_of_ble_eq_true rfl)) dX11_terminal_13 ⟨Nat.le_of_ble_eq_true rfl, Nat.le_of_ble_eq_true rfl⟩) (fun r17 hw18 => ?_)
    obtain ⟨hw18r, hw18p⟩ := hw18
    refine lv_if_eq (tgt := 41) hx hb dX11_terminal_16 (by decide) (fun c19 => ?_) (fun c19 => ?_)
    · have ic19 : r17.toInt = 0 := zi_eq rfl rfl c19
      refine lv_aload_n hx hb dX11_terminal_41 rfl (lv_at hl 0 rfl) ?_
      refine lv_iconst (v := (-1)) hx hb dX11_terminal_42 (by decide) ?_
      refine tgk_12 hG ht_h0 (fun y20 y21 y22 y23 y24 y25 => ?_)
      refine tpk_12 hT ht_h0 (fun o26_x6 hf_o26 => ?_)
      refine tpk_pos (tp_in hG ht_h0 (by decide)) hf_o26 (fun q27 eq27 => ?_)
      have hFc := tp_fr hD hS hA
      refine va_calli (va_runV (As := [.int (-1)]) (rest := []) ⟨hx, hb, hml, hown, hts⟩ (t_X11_refuse l dC dI _ Ω κ τ ν ρ L f hG hT h0 ((-1)) ht_h0) (cwV 1 hts gX11_terminal_X11_refuse rfl rfl rfl ⟨rfl, pd_X11_refuse⟩ ⟨Nat.le_of_ble_eq_true rfl, Nat.le_of_ble_eq_true rfl⟩) ⟨pz_blind, va_recv hK hP (ci := 11) (q0 := q27) rfl eq27, pz_pre hP hK hD hN⟩ rfl rfl hl.1 rfl (lv_room (Nat.le_of_ble_eq_true rfl)) dX11_terminal_43 ⟨Nat.le_of_ble_eq_true rfl, Nat.le_of_ble_eq_true rfl⟩) hS (fun q _ h => hFc q h) hFc (fun r28 f30 t H1 locs ht hvm hw29 hB hz1 hk1 hS => ?_)
      refine tn_4 hw29 (fun hT hF31 hw29r hw29p => ?_); clear hw29
      have hR := hR.then hF31 (by decide)
      have hP := hB.1; rw [ht] at hP; have hD := tp_ad f30 hD; clear hB hFc hz1 hk1; subst ht; generalize t.heap = H at hP hS ⊢
      exact W.iret (v := r28) hx hb hr (fun t ht hW => ⟨⟨r28, f30, rfl, ⟨hT, hR, trivial, trivial⟩, by rw [ht]; exact hP, va_K.moved hW.alike hK, hD⟩, hS.F ht⟩) hS.2.2 dX11_terminal_46
    · have ic19 : r17.toInt ≠ 0 := zi_eqf rfl rfl c19
      have p32 : (0) ≤ (v.toInt) ∧ (v.toInt) ≤ (u.toInt) := (tp_cond.yes hw18p) (by omega)
      refine lv_iload_n hx hb dX11_terminal_19 rfl (lv_at hl 3 rfl) ?_
      refine lv_iconst (v := 1) hx hb dX11_terminal_20 (by decide) ?_
      refine lv_sipush (v := 10000) hx hb dX11_terminal_21 (by decide) ?_
      refine pz_calli (va_runS (As := [.int a, .int 1, .int 10000]) (rest := []) ⟨hx, hb, hml, hown, hts⟩ (t_X11_within l dC dI _ a (1) (10000) (a.toInt) (1) (10000) rfl rfl rfl) (va_cwS 3 hts gX11_terminal_X11_within rfl rfl rfl pd_X11_within ⟨Nat.le_of_ble_eq_true rfl, Nat.le_of_ble_eq_true rfl⟩) ⟨pz_blind, pz_pre pz_P0 (hK.sub (tys' := []) [] rfl) (pz_D0 (A := fun _ => True)) hN⟩ rfl rfl hl.1 rfl (lv_room (Nat.le_of_ble_eq_true rfl)) dX11_terminal_24 ⟨Nat.le_of_ble_eq_true rfl, Nat.le_of_ble_eq_true rfl⟩) (fun r33 hw34 => ?_)
      obtain ⟨hw34r, hw34p⟩ := hw34
      refine lv_if_eq (tgt := 41) hx hb dX11_terminal_27 (by decide) (fun c35 => ?_) (fun c35 => ?_)
      · have ic35 : r33.toInt = 0 := zi_eq rfl rfl c35
        refine lv_aload_n hx hb dX11_terminal_41 rfl (lv_at hl 0 rfl) ?_
        refine lv_iconst (v := (-1)) hx hb dX11_terminal_42 (by decide) ?_
        refine tgk_12 hG ht_h0 (fun y36 y37 y38 y39 y40 y41 => ?_)
        refine tpk_12 hT ht_h0 (fun o42_x6 hf_o42 => ?_)
        refine tpk_pos (tp_in hG ht_h0 (by decide)) hf_o42 (fun q43 eq43 => ?_)
        have hFc := tp_fr hD hS hA
        refine va_calli (va_runV (As := [.int (-1)]) (rest := []) ⟨hx, hb, hml, hown, hts⟩ (t_X11_refuse l dC dI _ Ω κ τ ν ρ L f hG hT h0 ((-1)) ht_h0) (cwV 1 hts gX11_terminal_X11_refuse rfl rfl rfl ⟨rfl, pd_X11_refuse⟩ ⟨Nat.le_of_ble_eq_true rfl, Nat.le_of_ble_eq_true rfl⟩) ⟨pz_blind, va_recv hK hP (ci := 11) (q0 := q43) rfl eq43, pz_pre hP hK hD hN⟩ rfl rfl hl.1 rfl (lv_room (Nat.le_of_ble_eq_true rfl)) dX11_terminal_43 ⟨Nat.le_of_ble_eq_true rfl, Nat.le_of_ble_eq_true rfl⟩) hS (fun q _ h => hFc q h) hFc (fun r44 f46 t H1 locs ht hvm hw45 hB hz1 hk1 hS => ?_)
        refine tn_4 hw45 (fun hT hF47 hw45r hw45p => ?_); clear hw45
        have hR := hR.then hF47 (by decide)
        have hP := hB.1; rw [ht] at hP; have hD := tp_ad f46 hD; clear hB hFc hz1 hk1; subst ht; generalize t.heap = H at hP hS ⊢
        exact W.iret (v := r44) hx hb hr (fun t ht hW => ⟨⟨r44, f46, rfl, ⟨hT, hR, trivial, trivial⟩, by rw [ht]; exact hP, va_K.moved hW.alike hK, hD⟩, hS.F ht⟩) hS.2.2 dX11_terminal_46
      · have ic35 : r33.toInt ≠ 0 := zi_eqf rfl rfl c35
        have p48 : (1) ≤ (a.toInt) ∧ (a.toInt) ≤ (10000) := (tp_cond.yes hw34p) (by omega)
        refine lv_iload hx hb dX11_terminal_30 (lv_at hl 4 rfl) ?_
        refine lv_iconst (v := 0) hx hb dX11_terminal_32 (by decide) ?_
        refine lv_bipush (v := 30) hx hb dX11_terminal_33 (by decide) ?_
        refine pz_calli (va_runS (As := [.int b, .int 0, .int 30]) (rest := []) ⟨hx, hb, hml, hown, hts⟩ (t_X11_within l dC dI _ b (0) (30) (b.toInt) (0) (30) rfl rfl rfl) (va_cwS 3 hts gX11_terminal_X11_within rfl rfl rfl pd_X11_within ⟨Nat.le_of_ble_eq_true rfl, Nat.le_of_ble_eq_true rfl⟩) ⟨pz_blind, pz_pre pz_P0 (hK.sub (tys' := []) [] rfl) (pz_D0 (A := fun _ => True)) hN⟩ rfl rfl hl.1 rfl (lv_room (Nat.le_of_ble_eq_true rfl)) dX11_terminal_35 ⟨Nat.le_of_ble_eq_true rfl, Nat.le_of_ble_eq_true rfl⟩) (fun r49 hw50 => ?_)
        obtain ⟨hw50r, hw50p⟩ := hw50
        refine lv_if_ne (tgt := 47) hx hb dX11_terminal_38 (by decide) (fun c51 => ?_) (fun c51 => ?_)
        · have ic51 : r49.toInt ≠ 0 := zi_ne rfl rfl c51
          have p52 : (0) ≤ (b.toInt) ∧ (b.toInt) ≤ (30) := (tp_cond.yes hw50p) (by omega)
          refine lv_aload_n hx hb dX11_terminal_47 rfl (lv_at hl 0 rfl) ?_
          refine tgk_12 hG ht_h0 (fun y53 y54 y55 y56 y57 y58 => ?_)
          refine tpk_12 hT ht_h0 (fun o59_x6 hf_o59 => ?_)
          refine tpk_pos (tp_in hG ht_h0 (by decide)) hf_o59 (fun q60 eq60 => ?_)
          refine va_get (D := (dC, dI)) (ci := 11) (v := .ref (ρ h0 0)) (C := RX11) (T := TX11) (N := 7) hx hb hts hfX11 hown hK hP q60 eq60 rfl 0 (by decide) (hts (.fieldLink RX11 10 "ColdShips" "world" "LColdShips$World;") wa_15) (fun _ h9 => h9) rfl dX11_terminal_48 ?_
          refine tgk_11 hG y53 (fun y61 y61n y62 y62n y63 y64 y65 y66 y67 y68 y69 y69w y69m y70 y70w y70m y71 y71w y71m y72 y72w y72m => ?_)
          refine tpk_11 hT y53 (fun o73_x0 o73_x1 o73_x2 o73_x3 o73_x4 o73_x5 o73_x6 hf_o73 ro73_0 ro73_1 ro73_2 ro73_3 => ?_)
          refine tpk_pos (tp_in hG y53 (by decide)) hf_o73 (fun q74 eq74 => ?_)
          refine va_getN (D := (dC, dI)) (ci := 10) (v := .int o73_x4) (C := RX10) (T := TX10) (N := 19) hx hb hts hfX10 hown hK hP q74 eq74 rfl 4 (by decide) (va_Nw.use rfl (hN.1 (.fieldLinkNest RX11 59 "ColdShips$World" "terminalCount" "I" "ColdShips") nzw_56)) (fun _ h9 => h9) rfl dX11_terminal_51 ?_
          refine lv_bipush (v := 6) hx hb dX11_terminal_54 (by decide) ?_
          refine lv_icmp_lt (tgt := 66) hx hb dX11_terminal_56 (by decide) (fun c75 => ?_) (fun c75 => ?_)
          · have ic75 : o73_x4.toInt < 6 := zi_lt rfl rfl c75
            refine lv_aload_n hx hb dX11_terminal_66 rfl (lv_at hl 0 rfl) ?_
            refine va_get (D := (dC, dI)) (ci := 11) (v := .ref (ρ h0 0)) (C := RX11) (T := TX11) (N := 7) hx hb hts hfX11 hown hK hP q60 eq60 rfl 0 (by decide) (hts (.fieldLink RX11 10 "ColdShips" "world" "LColdShips$World;") wa_15) (fun _ h9 => h9) rfl dX11_terminal_67 ?_
            refine va_getN (D := (dC, dI)) (ci := 10) (v := .int o73_x4) (C := RX10) (T := TX10) (N := 19) hx hb hts hfX10 hown hK hP q74 eq74 rfl 4 (by decide) (va_Nw.use rfl (hN.1 (.fieldLinkNest RX11 59 "ColdShips$World" "terminalCount" "I" "ColdShips") nzw_56)) (fun _ h9 => h9) rfl dX11_terminal_70 ?_
            refine lv_istore (lv' := [(5, .int o73_x4), (0, .ref h0), (1, .int v), (2, .int u), (3, .int a), (4, .int b)]) hx hb dX11_terminal_73 hl (by decide) rfl (fun ls hl => ?_)
            refine lv_aload_n hx hb dX11_terminal_75 rfl (lv_at hl 1 rfl) ?_
            refine va_get (D := (dC, dI)) (ci := 11) (v := .ref (ρ h0 0)) (C := RX11) (T := TX11) (N := 7) hx hb hts hfX11 hown hK hP q60 eq60 rfl 0 (by decide) (hts (.fieldLink RX11 10 "ColdShips" "world" "LColdShips$World;") wa_15) (fun _ h9 => h9) rfl dX11_terminal_76 ?_
            refine va_getN (D := (dC, dI)) (ci := 10) (v := .ref (ρ (ρ h0 0) 9)) (C := RX10) (T := TX10) (N := 19) hx hb hts hfX10 hown hK hP q74 eq74 rfl 9 (by decide) (va_Nw.use rfl (hN.1 (.fieldLinkNest RX11 63 "ColdShips$World" "terminals" "[LColdShips$Terminal;" "ColdShips") nzw_65)) (fun _ h9 => h9) rfl dX11_terminal_79 ?_
            refine lv_iload hx hb dX11_terminal_82 (lv_at hl 0 rfl) ?_
            refine tpk_24 hT y63 (fun g77 hf_o76 hf_o76e => ?_)
            refine tpk_pos (tp_in hG y63 (by decide)) hf_o76 (fun q78 eq78 => ?_)
            refine va_aldq hx hb hK hP q78 4 eq78 rfl (vp_in_iff.mpr ⟨by omega, by omega⟩) dX11_terminal_84 ?_
            obtain ⟨b79, hb80⟩ : ∃ b : Nat, b = ρ (ρ (ρ h0 0) 9) o73_x4.toNatClampNeg := ⟨_, rfl⟩
            have hb80t : τ b79 = 9 := by rw [hb80]; exact tpg_24 hG y63 _ (zi_cl (vp_in_iff.mpr ⟨by omega, by omega⟩))
            have hb80g : g77 o73_x4.toNatClampNeg = some b79 := by rw [hb80]; exact hf_o76e _ (zi_cl (vp_in_iff.mpr ⟨by omega, by omega⟩))
            refine W.eq (g2 := F0 m 85 ls (.ref b79 :: [])) (congrArg (fun o => F0 m 85 ls (va_rf o :: [])) hb80g) ?_
            refine lv_iload_n hx hb dX11_terminal_85 rfl (lv_at hl 2 rfl) ?_
            refine lv_iload_n hx hb dX11_terminal_86 rfl (lv_at hl 3 rfl) ?_
            refine lv_iload_n hx hb dX11_terminal_87 rfl (lv_at hl 4 rfl) ?_
            refine lv_iload hx hb dX11_terminal_88 (lv_at hl 5 rfl) ?_
            refine tgk_9 hG hb80t (fun y81 y81n y82 y82n => ?_)
            refine tpk_9 hT hb80t (fun o83_x0 o83_x1 o83_x2 o83_x3 o83_x4 hf_o83 ro83_0 => ?_)
            refine tpk_pos (tp_in hG hb80t (by decide)) hf_o83 (fun q84 eq84 => ?_)
            have hFc := tp_fr hD hS hA
            refine va_callv (va_runV (As := [.int v, .int u, .int a, .int b]) (rest := []) ⟨hx, hb, hml, hown, hts⟩ (t_X8_begin l dC dI _ Ω κ τ ν ρ L f hG hT b79 v u a b hb80t) (cwV 4 hts gX11_terminal_X8_begin rfl rfl rfl ⟨rfl, pd_X8_begin⟩ ⟨Nat.le_of_ble_eq_true rfl, Nat.le_of_ble_eq_true rfl⟩) ⟨pz_blind, va_recv hK hP (ci := 8) (q0 := q84) rfl eq84, pz_pre hP hK hD hN⟩ rfl rfl hl.1 rfl (lv_room (Nat.le_of_ble_eq_true rfl)) dX11_terminal_90 ⟨Nat.le_of_ble_eq_true rfl, Nat.le_of_ble_eq_true rfl⟩) hS (fun q _ h => hFc q h) hFc (fun f87 t H1 locs ht hvm hw86 hB hz1 hk1 hS => ?_)
            refine tn_3 hw86 (fun hT hF88 hw86p => ?_); clear hw86
            have hR := hR.then hF88 (by decide)
            have hP := hB.1; rw [ht] at hP; have hD := tp_ad f87 hD; clear hB hFc hz1 hk1; subst ht; generalize t.heap = H at hP hS ⊢
            refine lv_aload_n hx hb dX11_terminal_93 rfl (lv_at hl 1 rfl) ?_
            have hf_89 : f87 h0 = .inr (11, [.ref (ρ h0 0), .ref (ρ h0 1), .ref (ρ h0 2), .ref (ρ h0 3), .ref (ρ h0 4), .ref (ρ h0 5), .int o59_x6]) := (hF88 _ (by rw [ht_h0]; decide)).trans hf_o59
            refine tpk_pos (tp_in hG ht_h0 (by decide)) hf_89 (fun q90 eq90 => ?_)
            refine va_get (D := (dC, dI)) (ci := 11) (v := .ref (ρ h0 0)) (C := RX11) (T := TX11) (N := 7) hx hb hts hfX11 hown hK hP q90 eq90 rfl 0 (by decide) (hts (.fieldLink RX11 10 "ColdShips" "world" "LColdShips$World;") wa_15) (fun _ h9 => h9) rfl dX11_terminal_94 ?_
            refine lv_dup hx hb dX11_terminal_97 rfl ?_
            have hf_91 : f87 (ρ h0 0) = .inr (10, [.int o73_x0, .int o73_x1, .int o73_x2, .int o73_x3, .int o73_x4, .int o73_x5, .int o73_x6, .ref (ρ (ρ h0 0) 7), .ref (ρ (ρ h0 0) 8), .ref (ρ (ρ h0 0) 9), .ref (ρ (ρ h0 0) 10), .ref (ρ (ρ h0 0) 11), .ref (ρ (ρ h0 0) 12), .ref (ρ (ρ h0 0) 13), .ref (ρ (ρ h0 0) 14), .ref (ρ (ρ h0 0) 15), .ref (ρ (ρ h0 0) 16), .ref (ρ (ρ h0 0) 17), .ref (ρ (ρ h0 0) 18)]) := (hF88 _ (by rw [y53]; decide)).trans hf_o73
            refine tpk_pos (tp_in hG y53 (by decide)) hf_91 (fun q92 eq92 => ?_)
            refine va_getN (D := (dC, dI)) (ci := 10) (v := .int o73_x4) (C := RX10) (T := TX10) (N := 19) hx hb hts hfX10 hown hK hP q92 eq92 rfl 4 (by decide) (va_Nw.use rfl (hN.1 (.fieldLinkNest RX11 59 "ColdShips$World" "terminalCount" "I" "ColdShips") nzw_56)) (fun _ h9 => h9) rfl dX11_terminal_98 ?_
            refine lv_iconst (v := 1) hx hb dX11_terminal_101 (by decide) ?_
            refine lv_iadd hx hb dX11_terminal_102 ?_
            refine lv_topi (fun z93 ez93 => ?_)
            have iz93 : z93.toInt = o73_x4.toInt + 1 := zi_add ez93 rfl rfl (by omega) (by omega)
            refine va_putN (D := (dC, dI)) (ci := 10) (v := .int z93) (ty := .int) (C := RX10) (T := TX10) (N := 19) hx hb hts hfX10 tyX10 tyX10_ok nmX10 hown hK hP hD hS q92 eq92 rfl 4 (by decide) (va_Nw.use rfl (hN.1 (.fieldLinkNest RX11 59 "ColdShips$World" "terminalCount" "I" "ColdShips") nzw_56)) (fun _ h9 => h9) rfl (tyX10_ok 4 (by decide)) rfl rfl (Nat.le_of_ble_eq_true rfl) dX11_terminal_103 (tp_k (.inr (10, [.int o73_x0, .int o73_x1, .int o73_x2, .int o73_x3, .int z93, .int o73_x5, .int o73_x6, .ref (ρ (ρ h0 0) 7), .ref (ρ (ρ h0 0) 8), .ref (ρ (ρ h0 0) 9), .ref (ρ (ρ h0 0) 10), .ref (ρ (ρ h0 0) 11), .ref (ρ (ρ h0 0) 12), .ref (ρ (ρ h0 0) 13), .ref (ρ (ρ h0 0) 14), .ref (ρ (ρ h0 0) 15), .ref (ρ (ρ h0 0) 16), .ref (ρ (ρ h0 0) 17), .ref (ρ (ρ h0 0) 18)])) hD (tp_in hG y53 (by decide)) eq92 (fun f94 H locs hP hD hS g96 k95 => ?_))
            have hT := hT.up y53 g96 k95 ⟨_, _, _, _, _, _, _, rfl, (by first | decide | omega | (omega)), (by first | decide | omega | (omega)), (by first | decide | omega | (omega)), (by first | decide | omega | (omega))⟩
            have hR := hR.up y53 (by decide) k95
            refine lv_aload_n hx hb dX11_terminal_106 rfl (lv_at hl 1 rfl) ?_
            refine lv_iload hx hb dX11_terminal_107 (lv_at hl 0 rfl) ?_
            have hf_97 : f94 h0 = .inr (11, [.ref (ρ h0 0), .ref (ρ h0 1), .ref (ρ h0 2), .ref (ρ h0 3), .ref (ρ h0 4), .ref (ρ h0 5), .int o59_x6]) := (k95 _ (tp_ne ht_h0 y53 (by decide))).trans hf_89
            refine tpk_pos (tp_in hG ht_h0 (by decide)) hf_97 (fun q98 eq98 => ?_)
            have hFc := tp_fr hD hS hA
            refine va_calli (va_runV (As := [.int o73_x4]) (rest := []) ⟨hx, hb, hml, hown, hts⟩ (t_X11_accept l dC dI _ Ω κ τ ν ρ L f94 hG hT h0 o73_x4 ht_h0) (cwV 1 hts gX11_terminal_X11_accept rfl rfl rfl ⟨rfl, pd_X11_accept⟩ ⟨Nat.le_of_ble_eq_true rfl, Nat.le_of_ble_eq_true rfl⟩) ⟨pz_blind, va_recv hK hP (ci := 11) (q0 := q98) rfl eq98, pz_pre hP hK hD hN⟩ rfl rfl hl.1 rfl (lv_room (Nat.le_of_ble_eq_true rfl)) dX11_terminal_109 ⟨Nat.le_of_ble_eq_true rfl, Nat.le_of_ble_eq_true rfl⟩) hS (fun q _ h => hFc q h) hFc (fun r99 f101 t H1 locs ht hvm hw100 hB hz1 hk1 hS => ?_)
            refine tn_4 hw100 (fun hT hF102 hw100r hw100p => ?_); clear hw100
            have hR := hR.then hF102 (by decide)
            have hP := hB.1; rw [ht] at hP; have hD := tp_ad f101 hD; clear hB hFc hz1 hk1; subst ht; generalize t.heap = H at hP hS ⊢
            exact W.iret (v := r99) hx hb hr (fun t ht hW => ⟨⟨r99, f101, rfl, ⟨hT, hR, trivial, trivial⟩, by rw [ht]; exact hP, va_K.moved hW.alike hK, hD⟩, hS.F ht⟩) hS.2.2 dX11_terminal_112
          · have ic75 : o73_x4.toInt ≥ 6 := zi_ltf rfl rfl c75
            refine lv_aload_n hx hb dX11_terminal_59 rfl (lv_at hl 0 rfl) ?_
            refine lv_bipush (v := (-5)) hx hb dX11_terminal_60 (by decide) ?_
            have hFc := tp_fr hD hS hA
            refine va_calli (va_runV (As := [.int (-5)]) (rest := []) ⟨hx, hb, hml, hown, hts⟩ (t_X11_refuse l dC dI _ Ω κ τ ν ρ L f hG hT h0 ((-5)) ht_h0) (cwV 1 hts gX11_terminal_X11_refuse rfl rfl rfl ⟨rfl, pd_X11_refuse⟩ ⟨Nat.le_of_ble_eq_true rfl, Nat.le_of_ble_eq_true rfl⟩) ⟨pz_blind, va_recv hK hP (ci := 11) (q0 := q60) rfl eq60, pz_pre hP hK hD hN⟩ rfl rfl hl.1 rfl (lv_room (Nat.le_of_ble_eq_true rfl)) dX11_terminal_62 ⟨Nat.le_of_ble_eq_true rfl, Nat.le_of_ble_eq_true rfl⟩) hS (fun q _ h => hFc q h) hFc (fun r103 f105 t H1 locs ht hvm hw104 hB hz1 hk1 hS => ?_)
            refine tn_4 hw104 (fun hT hF106 hw104r hw104p => ?_); clear hw104
            have hR := hR.then hF106 (by decide)
            have hP := hB.1; rw [ht] at hP; have hD := tp_ad f105 hD; clear hB hFc hz1 hk1; subst ht; generalize t.heap = H at hP hS ⊢
            exact W.iret (v := r103) hx hb hr (fun t ht hW => ⟨⟨r103, f105, rfl, ⟨hT, hR, trivial, trivial⟩, by rw [ht]; exact hP, va_K.moved hW.alike hK, hD⟩, hS.F ht⟩) hS.2.2 dX11_terminal_65
        · have ic51 : r49.toInt = 0 := zi_nef rfl rfl c51
          refine lv_aload_n hx hb dX11_terminal_41 rfl (lv_at hl 0 rfl) ?_
          refine lv_iconst (v := (-1)) hx hb dX11_terminal_42 (by decide) ?_
          refine tgk_12 hG ht_h0 (fun y107 y108 y109 y110 y111 y112 => ?_)
          refine tpk_12 hT ht_h0 (fun o113_x6 hf_o113 => ?_)
          refine tpk_pos (tp_in hG ht_h0 (by decide)) hf_o113 (fun q114 eq114 => ?_)
          have hFc := tp_fr hD hS hA
          refine va_calli (va_runV (As := [.int (-1)]) (rest := []) ⟨hx, hb, hml, hown, hts⟩ (t_X11_refuse l dC dI _ Ω κ τ ν ρ L f hG hT h0 ((-1)) ht_h0) (cwV 1 hts gX11_terminal_X11_refuse rfl rfl rfl ⟨rfl, pd_X11_refuse⟩ ⟨Nat.le_of_ble_eq_true rfl, Nat.le_of_ble_eq_true rfl⟩) ⟨pz_blind, va_recv hK hP (ci := 11) (q0 := q114) rfl eq114, pz_pre hP hK hD hN⟩ rfl rfl hl.1 rfl (lv_room (Nat.le_of_ble_eq_true rfl)) dX11_terminal_43 ⟨Nat.le_of_ble_eq_true rfl, Nat.le_of_ble_eq_true rfl⟩) hS (fun q _ h => hFc q h) hFc (fun r115 f117 t H1 locs ht hvm hw116 hB hz1 hk1 hS => ?_)
          refine tn_4 hw116 (fun hT hF118 hw116r hw116p => ?_); clear hw116
          have hR := hR.then hF118 (by decide)
          have hP := hB.1; rw [ht] at hP; have hD := tp_ad f117 hD; clear hB hFc hz1 hk1; subst ht; generalize t.heap = H at hP hS ⊢
          exact W.iret (v := r115) hx hb hr (fun t ht hW => ⟨⟨r115, f117, rfl, ⟨hT, hR, trivial, trivial⟩, by rw [ht]; exact hP, va_K.moved hW.alike hK, hD⟩, hS.F ht⟩) hS.2.2 dX11_terminal_46
set_option maxHeartbeats 4000000 in
set_option maxRecDepth 100000 in
theorem t_X11_ship (l : Launch) (dC : Nat → ClassId) (dI : Nat → Nat → Nat) (sz : Nat) (Ω : Nat → (Nat → Nat) → va_E → Prop) (κ : Nat → ClassId) (τ ν : Nat → Nat) (ρ : Nat → Nat → Nat) (L : List Nat) (f : Nat → va_E) (hG : tp_G τ ν ρ L) (hT : tp_T Ω κ τ ν ρ f) (h0 : Nat) (v : Int32) (u : Int32) (a : Int32) (ht_h0 : τ h0 = 12) : Met l yX11_ship wqX11_ship ({ frames := 5, cells := 0, slots := 0, locals := 1600 }) (va_Pc [.ref h0, .int v, .int u, .int a] (pz_B dC dI (tp_K κ) (va_pl L f) sz)) (va_Qi (fun (r : Int32) (f1 : Nat → va_E) => tp_T Ω κ τ ν ρ f1 ∧ tp_F τ [2, 3, 4, 5, 6, 7, 8, 9, 10, 11, 12, 20, 21, 22, 26, 27, 28] f f1 ∧ True ∧ True) (fun (f1 : Nat → va_E) (t : State) => pz_E dC dI (tp_K κ) (va_A (va_pl L f) sz) (va_pl L f1) t) (va_A (va_pl L f) sz)) 0 0 (va_A (va_pl L f) sz) := by
  refine Met.ofW (cc := cX11_ship) (maxL := 5) (ret := some .int) (by decide) rfl ?_
  intro p e s m args below meth c s₁ B hml hv
  obtain ⟨rfl, hsz, hP, hK, hD0, hN⟩ := hv
  have hx := B.exec
  have hb := B.bytes
  have hr := B.returns
  have hts := fun (w : Cond) (h : w ∈ WALL) => atoms_spec (ws := wqX11_ship) B.pre w (List.mem_cons_of_mem _ h)
  have hown : s.vm.findClass RX11 = some m.cls := findClass_of_methodNamed B.named
  have hlocks := B.notSynchronized
  subst hsz
  have hD := hD0.self (sz := s.heap.size)
  generalize hAe : va_A (va_pl L f) s.heap.size = A at hD ⊢
  have hA : ∀ q : Nat, s.heap.size ≤ q → A q := fun q h => by rw [← hAe]; exact Or.inr h
  have hS : va_S A s.heap s.heap [] := va_S.rf
  have hR : tp_F τ [2, 3, 4, 5, 6, 7, 8, 9, 10, 11, 12, 20, 21, 22, 26, 27, 28] f f := tp_F.rf
  have hl := lv_entry ([.ref h0, .int v, .int u, .int a]) (n := 5) (Nat.le_of_ble_eq_true rfl)
  rw [lg_entry_eq]
  generalize (lg_sl ([.ref h0, .int v, .int u, .int a]) ++ List.replicate (5 - (lg_sl ([.ref h0, .int v, .int u, .int a])).length) Slot.unset).toArray = ls at hl ⊢
  have hl : lv_has ls 5 [(0, .ref h0), (1, .int v), (2, .int u), (3, .int a)] := hl
  refine lv_iload_n hx hb dX11_ship_0 rfl (lv_at hl 2 rfl) ?_
  refine lv_sipush (v := 1000) hx hb dX11_ship_1 (by decide) ?_
  refine lv_ldc (own := RX11) (v := 200000) hx hb hown (hts (.constant RX11 76 (200000)) wa_232) dX11_ship_4 ?_
  refine pz_calli (va_runS (As := [.int u, .int 1000, .int 200000]) (rest := []) ⟨hx, hb, hml, hown, hts⟩ (t_X11_within l dC dI _ u (1000) (200000) (u.toInt) (1000) (200000) rfl rfl rfl) (va_cwS 3 hts gX11_ship_X11_within rfl rfl rfl pd_X11_within ⟨Nat.le_of_ble_eq_true rfl, Nat.le_of_ble_eq_true rfl⟩) ⟨pz_blind, pz_pre pz_P0 (hK.sub (tys' := []) [] rfl) (pz_D0 (A := fun _ => True)) hN⟩ rfl rfl hl.1 rfl (lv_room (Nat.le_of_ble_eq_true rfl)) dX11_ship_6 ⟨Nat.le_of_ble_eq_true rfl, Nat.le_of_ble_eq_true rfl⟩) (fun r1 hw2 => ?_)
  obtain ⟨hw2r, hw2p⟩ := hw2
  refine lv_if_eq (tgt := 22) hx hb dX11_ship_9 (by decide) (fun c3 => ?_) (fun c3 => ?_)
  · have ic3 : r1.toInt = 0 := zi_eq rfl rfl c3
    refine lv_aload_n hx hb dX11_ship_22 rfl (lv_at hl 0 rfl) ?_
    refine lv_iconst (v := (-1)) hx hb dX11_ship_23 (by decide) ?_
    refine tgk_12 hG ht_h0 (fun y4 y5 y6 y7 y8 y9 => ?_)
    refine tpk_12 hT ht_h0 (fun o10_x6 hf_o10 => ?_)
    refine tpk_pos (tp_in hG ht_h0 (by decide)) hf_o10 (fun q11 eq11 => ?_)
    have hFc := tp_fr hD hS hA
    refine va_calli (va_runV (As := [.int (-1)]) (rest := []) ⟨hx, hb, hml, hown, hts⟩ (t_X11_refuse l dC dI _ Ω κ τ ν ρ L f hG hT h0 ((-1)) ht_h0) (cwV 1 hts gX11_ship_X11_refuse rfl rfl rfl ⟨rfl, pd_X11_refuse⟩ ⟨Nat.le_of_ble_eq_true rfl, Nat.le_of_ble_eq_true rfl⟩) ⟨pz_blind, va_recv hK hP (ci := 11) (q0 := q11) rfl eq11, pz_pre hP hK hD hN⟩ rfl rfl hl.1 rfl (lv_room (Nat.le_of_ble_eq_true rfl)) dX11_ship_24 ⟨Nat.le_of_ble_eq_true rfl, Nat.le_of_ble_eq_true rfl⟩) hS (fun q _ h => hFc q h) hFc (fun r12 f14 t H1 locs ht hvm hw13 hB hz1 hk1 hS => ?_)
    refine tn_4 hw13 (fun hT hF15 hw13r hw13p => ?_); clear hw13
    have hR := hR.then hF15 (by decide)
    have hP := hB.1; rw [ht] at hP; have hD := tp_ad f14 hD; clear hB hFc hz1 hk1; subst ht; generalize t.heap = H at hP hS ⊢
    exact W.iret (v := r12) hx hb hr (fun t ht hW => ⟨⟨r12, f14, rfl, ⟨hT, hR, trivial, trivial⟩, by rw [ht]; exact hP, va_K.moved hW.alike hK, hD⟩, hS.F ht⟩) hS.2.2 dX11_ship_27
  · have ic3 : r1.toInt ≠ 0 := zi_eqf rfl rfl c3
    have p16 : (1000) ≤ (u.toInt) ∧ (u.toInt) ≤ (200000) := (tp_cond.yes hw2p) (by omega)
    refine lv_iload_n hx hb dX11_ship_12 rfl (lv_at hl 3 rfl) ?_
    refine lv_iconst (v := 1) hx hb dX11_ship_13 (by decide) ?_
    refine lv_bipush (v := 50) hx hb dX11_ship_14 (by decide) ?_
    refine pz_calli (va_runS (As := [.int a, .int 1, .int 50]) (rest := []) ⟨hx, hb, hml, hown, hts⟩ (t_X11_within l dC dI _ a (1) (50) (a.toInt) (1) (50) rfl rfl rfl) (va_cwS 3 hts gX11_ship_X11_within rfl rfl rfl pd_X11_within ⟨Nat.le_of_ble_eq_true rfl, Nat.le_of_ble_eq_true rfl⟩) ⟨pz_blind, pz_pre pz_P0 (hK.sub (tys' := []) [] rfl) (pz_D0 (A := fun _ => True)) hN⟩ rfl rfl hl.1 rfl (lv_room (Nat.le_of_ble_eq_true rfl)) dX11_ship_16 ⟨Nat.le_of_ble_eq_true rfl, Nat.le_of_ble_eq_true rfl⟩) (fun r17 hw18 => ?_)
    obtain ⟨hw18r, hw18p⟩ := hw18
    refine lv_if_ne (tgt := 28) hx hb dX11_ship_19 (by decide) (fun c19 => ?_) (fun c19 => ?_)
    · have ic19 : r17.toInt ≠ 0 := zi_ne rfl rfl c19
      have p20 : (1) ≤ (a.toInt) ∧ (a.toInt) ≤ (50) := (tp_cond.yes hw18p) (by omega)
      refine lv_aload_n hx hb dX11_ship_28 rfl (lv_at hl 0 rfl) ?_
      refine tgk_12 hG ht_h0 (fun y21 y22 y23 y24 y25 y26 => ?_)
      refine tpk_12 hT ht_h0 (fun o27_x6 hf_o27 => ?_)
      refine tpk_pos (tp_in hG ht_h0 (by decide)) hf_o27 (fun q28 eq28 => ?_)
      refine va_get (D := (dC, dI)) (ci := 11) (v := .ref (ρ h0 0)) (C := RX11) (T := TX11) (N := 7) hx hb hts hfX11 hown hK hP q28 eq28 rfl 0 (by decide) (hts (.fieldLink RX11 10 "ColdShips" "world" "LColdShips$World;") wa_15) (fun _ h9 => h9) rfl dX11_ship_29 ?_
      refine lv_iload_n hx hb dX11_ship_32 rfl (lv_at hl 1 rfl) ?_
      refine tgk_11 hG y21 (fun y29 y29n y30 y30n y31 y32 y33 y34 y35 y36 y37 y37w y37m y38 y38w y38m y39 y39w y39m y40 y40w y40m => ?_)
      refine tpk_11 hT y21 (fun o41_x0 o41_x1 o41_x2 o41_x3 o41_x4 o41_x5 o41_x6 hf_o41 ro41_0 ro41_1 ro41_2 ro41_3 => ?_)
      refine tpk_pos (tp_in hG y21 (by decide)) hf_o41 (fun q42 eq42 => ?_)
      refine pz_calli (va_runV (As := [.int v]) (rest := []) ⟨hx, hb, hml, hown, hts⟩ (t_X10_hasTerminal l dC dI _ Ω κ τ ν ρ L f hG hT (ρ h0 0) v y21 o41_x0 o41_x1 o41_x2 o41_x3 o41_x4 o41_x5 o41_x6 hf_o41) (cwV 1 hts gX11_ship_X10_hasTerminal rfl rfl rfl ⟨rfl, pd_X10_hasTerminal⟩ ⟨Nat.le_of_ble_eq_true rfl, Nat.le_of_ble_eq_true rfl⟩) ⟨pz_blind, va_recv hK hP (ci := 10) (q0 := q42) rfl eq42, pz_pre hP hK hD hN⟩ rfl rfl hl.1 rfl (lv_room (Nat.le_of_ble_eq_true rfl)) dX11_ship_33 ⟨Nat.le_of_ble_eq_true rfl, Nat.le_of_ble_eq_true rfl⟩) (fun r43 hw44 => ?_)
      obtain ⟨hw44r, hw44p⟩ := hw44
      refine lv_if_ne (tgt := 46) hx hb dX11_ship_36 (by decide) (fun c45 => ?_) (fun c45 => ?_)
      · have ic45 : r43.toInt ≠ 0 := zi_ne rfl rfl c45
        have p46 : 0 ≤ v.toInt ∧ v.toInt < o41_x4.toInt := (tp_cond.yes hw44p) (by omega)
        refine lv_aload_n hx hb dX11_ship_46 rfl (lv_at hl 0 rfl) ?_
        refine va_get (D := (dC, dI)) (ci := 11) (v := .ref (ρ h0 0)) (C := RX11) (T := TX11) (N := 7) hx hb hts hfX11 hown hK hP q28 eq28 rfl 0 (by decide) (hts (.fieldLink RX11 10 "ColdShips" "world" "LColdShips$World;") wa_15) (fun _ h9 => h9) rfl dX11_ship_47 ?_
        refine va_getN (D := (dC, dI)) (ci := 10) (v := .int o41_x5) (C := RX10) (T := TX10) (N := 19) hx hb hts hfX10 hown hK hP q42 eq42 rfl 5 (by decide) (va_Nw.use rfl (hN.1 (.fieldLinkNest RX11 81 "ColdShips$World" "shipCount" "I" "ColdShips") nzw_58)) (fun _ h9 => h9) rfl dX11_ship_50 ?_
        refine lv_bipush (v := 6) hx hb dX11_ship_53 (by decide) ?_
        refine lv_icmp_lt (tgt := 65) hx hb dX11_ship_55 (by decide) (fun c47 => ?_) (fun c47 => ?_)
        · have ic47 : o41_x5.toInt < 6 := zi_lt rfl rfl c47
          refine lv_aload_n hx hb dX11_ship_65 rfl (lv_at hl 0 rfl) ?_
          refine va_get (D := (dC, dI)) (ci := 11) (v := .ref (ρ h0 0)) (C := RX11) (T := TX11) (N := 7) hx hb hts hfX11 hown hK hP q28 eq28 rfl 0 (by decide) (hts (.fieldLink RX11 10 "ColdShips" "world" "LColdShips$World;") wa_15) (fun _ h9 => h9) rfl dX11_ship_66 ?_
          refine va_getN (D := (dC, dI)) (ci := 10) (v := .int o41_x5) (C := RX10) (T := TX10) (N := 19) hx hb hts hfX10 hown hK hP q42 eq42 rfl 5 (by decide) (va_Nw.use rfl (hN.1 (.fieldLinkNest RX11 81 "ColdShips$World" "shipCount" "I" "ColdShips") nzw_58)) (fun _ h9 => h9) rfl dX11_ship_69 ?_
          refine lv_istore (lv' := [(4, .int o41_x5), (0, .ref h0), (1, .int v), (2, .int u), (3, .int a)]) hx hb dX11_ship_72 hl (by decide) rfl (fun ls hl => ?_)
          refine lv_aload_n hx hb dX11_ship_74 rfl (lv_at hl 1 rfl) ?_
          refine va_get (D := (dC, dI)) (ci := 11) (v := .ref (ρ h0 0)) (C := RX11) (T := TX11) (N := 7) hx hb hts hfX11 hown hK hP q28 eq28 rfl 0 (by decide) (hts (.fieldLink RX11 10 "ColdShips" "world" "LColdShips$World;") wa_15) (fun _ h9 => h9) rfl dX11_ship_75 ?_
          refine va_getN (D := (dC, dI)) (ci := 10) (v := .ref (ρ (ρ h0 0) 10)) (C := RX10) (T := TX10) (N := 19) hx hb hts hfX10 hown hK hP q42 eq42 rfl 10 (by decide) (va_Nw.use rfl (hN.1 (.fieldLinkNest RX11 84 "ColdShips$World" "ships" "[LColdShips$Ship;" "ColdShips") nzw_69)) (fun _ h9 => h9) rfl dX11_ship_78 ?_
          refine lv_iload hx hb dX11_ship_81 (lv_at hl 0 rfl) ?_
          refine tpk_25 hT y32 (fun g49 hf_o48 hf_o48e => ?_)
          refine tpk_pos (tp_in hG y32 (by decide)) hf_o48 (fun q50 eq50 => ?_)
          refine va_aldq hx hb hK hP q50 5 eq50 rfl (vp_in_iff.mpr ⟨by omega, by omega⟩) dX11_ship_83 ?_
          obtain ⟨b51, hb52⟩ : ∃ b : Nat, b = ρ (ρ (ρ h0 0) 10) o41_x5.toNatClampNeg := ⟨_, rfl⟩
          have hb52t : τ b51 = 6 := by rw [hb52]; exact tpg_25 hG y32 _ (zi_cl (vp_in_iff.mpr ⟨by omega, by omega⟩))
          have hb52g : g49 o41_x5.toNatClampNeg = some b51 := by rw [hb52]; exact hf_o48e _ (zi_cl (vp_in_iff.mpr ⟨by omega, by omega⟩))
          refine W.eq (g2 := F0 m 84 ls (.ref b51 :: [])) (congrArg (fun o => F0 m 84 ls (va_rf o :: [])) hb52g) ?_
          refine lv_iload_n hx hb dX11_ship_84 rfl (lv_at hl 2 rfl) ?_
          refine lv_iload_n hx hb dX11_ship_85 rfl (lv_at hl 3 rfl) ?_
          refine lv_iload_n hx hb dX11_ship_86 rfl (lv_at hl 4 rfl) ?_
          refine tgk_6 hG hb52t (fun y53 y54 y54n y55 y55n y56 y56n y57 y57n y58 y58n y59 y59n => ?_)
          refine tpk_6 hT hb52t (fun o60_x1 o60_x2 o60_x3 o60_x4 o60_x5 o60_x6 o60_x10 o60_x11 o60_x12 o60_x14 hf_o60 ro60_0 ro60_1 ro60_2 => ?_)
          refine tpk_pos (tp_in hG hb52t (by decide)) hf_o60 (fun q61 eq61 => ?_)
          have hFc := tp_fr hD hS hA
          refine va_callv (va_runV (As := [.int v, .int u, .int a]) (rest := []) ⟨hx, hb, hml, hown, hts⟩ (t_X5_begin l dC dI _ Ω κ τ ν ρ L f hG hT b51 v u a hb52t (by first | decide | omega)) (cwV 3 hts gX11_ship_X5_begin rfl rfl rfl ⟨rfl, pd_X5_begin⟩ ⟨Nat.le_of_ble_eq_true rfl, Nat.le_of_ble_eq_true rfl⟩) ⟨pz_blind, va_recv hK hP (ci := 5) (q0 := q61) rfl eq61, pz_pre hP hK hD hN⟩ rfl rfl hl.1 rfl (lv_room (Nat.le_of_ble_eq_true rfl)) dX11_ship_87 ⟨Nat.le_of_ble_eq_true rfl, Nat.le_of_ble_eq_true rfl⟩) hS (fun q _ h => hFc q h) hFc (fun f64 t H1 locs ht hvm hw63 hB hz1 hk1 hS => ?_)
          refine tn_3 hw63 (fun hT hF65 hw63p => ?_); clear hw63
          have hR := hR.then hF65 (by decide)
          have hP := hB.1; rw [ht] at hP; have hD := tp_ad f64 hD; clear hB hFc hz1 hk1; subst ht; generalize t.heap = H at hP hS ⊢
          refine lv_aload_n hx hb dX11_ship_90 rfl (lv_at hl 1 rfl) ?_
          have hf_66 : f64 h0 = .inr (11, [.ref (ρ h0 0), .ref (ρ h0 1), .ref (ρ h0 2), .ref (ρ h0 3), .ref (ρ h0 4), .ref (ρ h0 5), .int o27_x6]) := (hF65 _ (by rw [ht_h0]; decide)).trans hf_o27
          refine tpk_pos (tp_in hG ht_h0 (by decide)) hf_66 (fun q67 eq67 => ?_)
          refine va_get (D := (dC, dI)) (ci := 11) (v := .ref (ρ h0 0)) (C := RX11) (T := TX11) (N := 7) hx hb hts hfX11 hown hK hP q67 eq67 rfl 0 (by decide) (hts (.fieldLink RX11 10 "ColdShips" "world" "LColdShips$World;") wa_15) (fun _ h9 => h9) rfl dX11_ship_91 ?_
          refine lv_dup hx hb dX11_ship_94 rfl ?_
          have hf_68 : f64 (ρ h0 0) = .inr (10, [.int o41_x0, .int o41_x1, .int o41_x2, .int o41_x3, .int o41_x4, .int o41_x5, .int o41_x6, .ref (ρ (ρ h0 0) 7), .ref (ρ (ρ h0 0) 8), .ref (ρ (ρ h0 0) 9), .ref (ρ (ρ h0 0) 10), .ref (ρ (ρ h0 0) 11), .ref (ρ (ρ h0 0) 12), .ref (ρ (ρ h0 0) 13), .ref (ρ (ρ h0 0) 14), .ref (ρ (ρ h0 0) 15), .ref (ρ (ρ h0 0) 16), .ref (ρ (ρ h0 0) 17), .ref (ρ (ρ h0 0) 18)]) := (hF65 _ (by rw [y21]; decide)).trans hf_o41
          refine tpk_pos (tp_in hG y21 (by decide)) hf_68 (fun q69 eq69 => ?_)
          refine va_getN (D := (dC, dI)) (ci := 10) (v := .int o41_x5) (C := RX10) (T := TX10) (N := 19) hx hb hts hfX10 hown hK hP q69 eq69 rfl 5 (by decide) (va_Nw.use rfl (hN.1 (.fieldLinkNest RX11 81 "ColdShips$World" "shipCount" "I" "ColdShips") nzw_58)) (fun _ h9 => h9) rfl dX11_ship_95 ?_
          refine lv_iconst (v := 1) hx hb dX11_ship_98 (by decide) ?_
          refine lv_iadd hx hb dX11_ship_99 ?_
          refine lv_topi (fun z70 ez70 => ?_)
          have iz70 : z70.toInt = o41_x5.toInt + 1 := zi_add ez70 rfl rfl (by omega) (by omega)
          refine va_putN (D := (dC, dI)) (ci := 10) (v := .int z70) (ty := .int) (C := RX10) (T := TX10) (N := 19) hx hb hts hfX10 tyX10 tyX10_ok nmX10 hown hK hP hD hS q69 eq69 rfl 5 (by decide) (va_Nw.use rfl (hN.1 (.fieldLinkNest RX11 81 "ColdShips$World" "shipCount" "I" "ColdShips") nzw_58)) (fun _ h9 => h9) rfl (tyX10_ok 5 (by decide)) rfl rfl (Nat.le_of_ble_eq_true rfl) dX11_ship_100 (tp_k (.inr (10, [.int o41_x0, .int o41_x1, .int o41_x2, .int o41_x3, .int o41_x4, .int z70, .int o41_x6, .ref (ρ (ρ h0 0) 7), .ref (ρ (ρ h0 0) 8), .ref (ρ (ρ h0 0) 9), .ref (ρ (ρ h0 0) 10), .ref (ρ (ρ h0 0) 11), .ref (ρ (ρ h0 0) 12), .ref (ρ (ρ h0 0) 13), .ref (ρ (ρ h0 0) 14), .ref (ρ (ρ h0 0) 15), .ref (ρ (ρ h0 0) 16), .ref (ρ (ρ h0 0) 17), .ref (ρ (ρ h0 0) 18)])) hD (tp_in hG y21 (by decide)) eq69 (fun f71 H locs hP hD hS g73 k72 => ?_))
          have hT := hT.up y21 g73 k72 ⟨_, _, _, _, _, _, _, rfl, (by first | decide | omega | (omega)), (by first | decide | omega | (omega)), (by first | decide | omega | (omega)), (by first | decide | omega | (omega))⟩
          have hR := hR.up y21 (by decide) k72
          refine lv_aload_n hx hb dX11_ship_103 rfl (lv_at hl 1 rfl) ?_
          refine lv_iload hx hb dX11_ship_104 (lv_at hl 0 rfl) ?_
          have hf_74 : f71 h0 = .inr (11, [.ref (ρ h0 0), .ref (ρ h0 1), .ref (ρ h0 2), .ref (ρ h0 3), .ref (ρ h0 4), .ref (ρ h0 5), .int o27_x6]) := (k72 _ (tp_ne ht_h0 y21 (by decide))).trans hf_66
          refine tpk_pos (tp_in hG ht_h0 (by decide)) hf_74 (fun q75 eq75 => ?_)
          have hFc := tp_fr hD hS hA
          refine va_calli (va_runV (As := [.int o41_x5]) (rest := []) ⟨hx, hb, hml, hown, hts⟩ (t_X11_accept l dC dI _ Ω κ τ ν ρ L f71 hG hT h0 o41_x5 ht_h0) (cwV 1 hts gX11_ship_X11_accept rfl rfl rfl ⟨rfl, pd_X11_accept⟩ ⟨Nat.le_of_ble_eq_true rfl, Nat.le_of_ble_eq_true rfl⟩) ⟨pz_blind, va_recv hK hP (ci := 11) (q0 := q75) rfl eq75, pz_pre hP hK hD hN⟩ rfl rfl hl.1 rfl (lv_room (Nat.le_of_ble_eq_true rfl)) dX11_ship_106 ⟨Nat.le_of_ble_eq_true rfl, Nat.le_of_ble_eq_true rfl⟩) hS (fun q _ h => hFc q h) hFc (fun r76 f78 t H1 locs ht hvm hw77 hB hz1 hk1 hS => ?_)
          refine tn_4 hw77 (fun hT hF79 hw77r hw77p => ?_); clear hw77
          have hR := hR.then hF79 (by decide)
          have hP := hB.1; rw [ht] at hP; have hD := tp_ad f78 hD; clear hB hFc hz1 hk1; subst ht; generalize t.heap = H at hP hS ⊢
          exact W.iret (v := r76) hx hb hr (fun t ht hW => ⟨⟨r76, f78, rfl, ⟨hT, hR, trivial, trivial⟩, by rw [ht]; exact hP, va_K.moved hW.alike hK, hD⟩, hS.F ht⟩) hS.2.2 dX11_ship_109
        · have ic47 : o41_x5.toInt ≥ 6 := zi_ltf rfl rfl c47
          refine lv_aload_n hx hb dX11_ship_58 rfl (lv_at hl 0 rfl) ?_
          refine lv_bipush (v := (-5)) hx hb dX11_ship_59 (by decide) ?_
          have hFc := tp_fr hD hS hA
          refine va_calli (va_runV (As := [.int (-5)]) (rest := []) ⟨hx, hb, hml, hown, hts⟩ (t_X11_refuse l dC dI _ Ω κ τ ν ρ L f hG hT h0 ((-5)) ht_h0) (cwV 1 hts gX11_ship_X11_refuse rfl rfl rfl ⟨rfl, pd_X11_refuse⟩ ⟨Nat.le_of_ble_eq_true rfl, Nat.le_of_ble_eq_true rfl⟩) ⟨pz_blind, va_recv hK hP (ci := 11) (q0 := q28) rfl eq28, pz_pre hP hK hD hN⟩ rfl rfl hl.1 rfl (lv_room (Nat.le_of_ble_eq_true rfl)) dX11_ship_61 ⟨Nat.le_of_ble_eq_true rfl, Nat.le_of_ble_eq_true rfl⟩) hS (fun q _ h => hFc q h) hFc (fun r80 f82 t H1 locs ht hvm hw81 hB hz1 hk1 hS => ?_)
          refine tn_4 hw81 (fun hT hF83 hw81r hw81p => ?_); clear hw81
          have hR := hR.then hF83 (by decide)
          have hP := hB.1; rw [ht] at hP; have hD := tp_ad f82 hD; clear hB hFc hz1 hk1; subst ht; generalize t.heap = H at hP hS ⊢
          exact W.iret (v := r80) hx hb hr (fun t ht hW => ⟨⟨r80, f82, rfl, ⟨hT, hR, trivial, trivial⟩, by rw [ht]; exact hP, va_K.moved hW.alike hK, hD⟩, hS.F ht⟩) hS.2.2 dX11_ship_64
      · have ic45 : r43.toInt = 0 := zi_nef rfl rfl c45
        refine lv_aload_n hx hb dX11_ship_39 rfl (lv_at hl 0 rfl) ?_
        refine lv_bipush (v := (-2)) hx hb dX11_ship_40 (by decide) ?_
        have hFc := tp_fr hD hS hA
        refine va_calli (va_runV (As := [.int (-2)]) (rest := []) ⟨hx, hb, hml, hown, hts⟩ (t_X11_refuse l dC dI _ Ω κ τ ν ρ L f hG hT h0 ((-2)) ht_h0) (cwV 1 hts gX11_ship_X11_refuse rfl rfl rfl ⟨rfl, pd_X11_refuse⟩ ⟨Nat.le_of_ble_eq_true rfl, Nat.le_of_ble_eq_true rfl⟩) ⟨pz_blind, va_recv hK hP (ci := 11) (q0 := q28) rfl eq28, pz_pre hP hK hD hN⟩ rfl rfl hl.1 rfl (lv_room (Nat.le_of_ble_eq_true rfl)) dX11_ship_42 ⟨Nat.le_of_ble_eq_true rfl, Nat.le_of_ble_eq_true rfl⟩) hS (fun q _ h => hFc q h) hFc (fun r84 f86 t H1 locs ht hvm hw85 hB hz1 hk1 hS => ?_)
        refine tn_4 hw85 (fun hT hF87 hw85r hw85p => ?_); clear hw85
        have hR := hR.then hF87 (by decide)
        have hP := hB.1; rw [ht] at hP; have hD := tp_ad f86 hD; clear hB hFc hz1 hk1; subst ht; generalize t.heap = H at hP hS ⊢
        exact W.iret (v := r84) hx hb hr (fun t ht hW => ⟨⟨r84, f86, rfl, ⟨hT, hR, trivial, trivial⟩, by rw [ht]; exact hP, va_K.moved hW.alike hK, hD⟩, hS.F ht⟩) hS.2.2 dX11_ship_45
    · have ic19 : r17.toInt = 0 := zi_nef rfl rfl c19
      refine lv_aload_n hx hb dX11_ship_22 rfl (lv_at hl 0 rfl) ?_
      refine lv_iconst (v := (-1)) hx hb dX11_ship_23 (by decide) ?_
      refine tgk_12 hG ht_h0 (fun y88 y89 y90 y91 y92 y93 => ?_)
      refine tpk_12 hT ht_h0 (fun o94_x6 hf_o94 => ?_)
      refine tpk_pos (tp_in hG ht_h0 (by decide)) hf_o94 (fun q95 eq95 => ?_)
      have hFc := tp_fr hD hS hA
      refine va_calli (va_runV (As := [.int (-1)]) (rest := []) ⟨hx, hb, hml, hown, hts⟩ (t_X11_refuse l dC dI _ Ω κ τ ν ρ L f hG hT h0 ((-1)) ht_h0) (cwV 1 hts gX11_ship_X11_refuse rfl rfl rfl ⟨rfl, pd_X11_refuse⟩ ⟨Nat.le_of_ble_eq_true rfl, Nat.le_of_ble_eq_true rfl⟩) ⟨pz_blind, va_recv hK hP (ci := 11) (q0 := q95) rfl eq95, pz_pre hP hK hD hN⟩ rfl rfl hl.1 rfl (lv_room (Nat.le_of_ble_eq_true rfl)) dX11_ship_24 ⟨Nat.le_of_ble_eq_true rfl, Nat.le_of_ble_eq_true rfl⟩) hS (fun q _ h => hFc q h) hFc (fun r96 f98 t H1 locs ht hvm hw97 hB hz1 hk1 hS => ?_)
      refine tn_4 hw97 (fun hT hF99 hw97r hw97p => ?_); clear hw97
      have hR := hR.then hF99 (by decide)
      have hP := hB.1; rw [ht] at hP; have hD := tp_ad f98 hD; clear hB hFc hz1 hk1; subst ht; generalize t.heap = H at hP hS ⊢
      exact W.iret (v := r96) hx hb hr (fun t ht hW => ⟨⟨r96, f98, rfl, ⟨hT, hR, trivial, trivial⟩, by rw [ht]; exact hP, va_K.moved hW.alike hK, hD⟩, hS.F ht⟩) hS.2.2 dX11_ship_27
set_option maxHeartbeats 4000000 in
set_option maxRecDepth 100000 in
theorem t_X11_way (l : Launch) (dC : Nat → ClassId) (dI : Nat → Nat → Nat) (sz : Nat) (Ω : Nat → (Nat → Nat) → va_E → Prop) (κ : Nat → ClassId) (τ ν : Nat → Nat) (ρ : Nat → Nat → Nat) (L : List Nat) (f : Nat → va_E) (hG : tp_G τ ν ρ L) (hT : tp_T Ω κ τ ν ρ f) (h0 : Nat) (v : Int32) (u : Int32) (a : Int32) (b : Int32) (ht_h0 : τ h0 = 12) : Met l yX11_way wqX11_way ({ frames := 4, cells := 0, slots := 0, locals := 1200 }) (va_Pc [.ref h0, .int v, .int u, .int a, .int b] (pz_B dC dI (tp_K κ) (va_pl L f) sz)) (va_Qi (fun (r : Int32) (f1 : Nat → va_E) => tp_T Ω κ τ ν ρ f1 ∧ tp_F τ [2, 3, 4, 5, 6, 7, 8, 9, 10, 11, 12, 20, 21, 22, 26, 27, 28] f f1 ∧ True ∧ True) (fun (f1 : Nat → va_E) (t : State) => pz_E dC dI (tp_K κ) (va_A (va_pl L f) sz) (va_pl L f1) t) (va_A (va_pl L f) sz)) 0 0 (va_A (va_pl L f) sz) := by
  refine Met.ofW (cc := cX11_way) (maxL := 5) (ret := some .int) (by decide) rfl ?_
  intro p e s m args below meth c s₁ B hml hv
  obtain ⟨rfl, hsz, hP, hK, hD0, hN⟩ := hv
  have hx := B.exec
  have hb := B.bytes
  have hr := B.returns
  have hts := fun (w : Cond) (h : w ∈ WALL) => atoms_spec (ws := wqX11_way) B.pre w (List.mem_cons_of_mem _ h)
  have hown : s.vm.findClass RX11 = some m.cls := findClass_of_methodNamed B.named
  have hlocks := B.notSynchronized
  subst hsz
  have hD := hD0.self (sz := s.heap.size)
  generalize hAe : va_A (va_pl L f) s.heap.size = A at hD ⊢
  have hA : ∀ q : Nat, s.heap.size ≤ q → A q := fun q h => by rw [← hAe]; exact Or.inr h
  have hS : va_S A s.heap s.heap [] := va_S.rf
  have hR : tp_F τ [2, 3, 4, 5, 6, 7, 8, 9, 10, 11, 12, 20, 21, 22, 26, 27, 28] f f := tp_F.rf
  have hl := lv_entry ([.ref h0, .int v, .int u, .int a, .int b]) (n := 5) (Nat.le_of_ble_eq_true rfl)
  rw [lg_entry_eq]
  generalize (lg_sl ([.ref h0, .int v, .int u, .int a, .int b]) ++ List.replicate (5 - (lg_sl ([.ref h0, .int v, .int u, .int a, .int b])).length) Slot.unset).toArray = ls at hl ⊢
  have hl : lv_has ls 5 [(0, .ref h0), (1, .int v), (2, .int u), (3, .int a), (4, .int b)] := hl
  refine lv_iload_n hx hb dX11_way_0 rfl (lv_at hl 3 rfl) ?_
  refine lv_iconst (v := 1) hx hb dX11_way_1 (by decide) ?_
  refine lv_sipush (v := 400) hx hb dX11_way_2 (by decide) ?_
  refine pz_calli (va_runS (As := [.int a, .int 1, .int 400]) (rest := []) ⟨hx, hb, hml, hown, hts⟩ (t_X11_within l dC dI _ a (1) (400) (a.toInt) (1) (400) rfl rfl rfl) (va_cwS 3 hts gX11_way_X11_within rfl rfl rfl pd_X11_within ⟨Nat.le_of_ble_eq_true rfl, Nat.le_of_ble_eq_true rfl⟩) ⟨pz_blind, pz_pre pz_P0 (hK.sub (tys' := []) [] rfl) (pz_D0 (A := fun _ => True)) hN⟩ rfl rfl hl.1 rfl (lv_room (Nat.le_of_ble_eq_true rfl)) dX11_way_5 ⟨Nat.le_of_ble_eq_true rfl, Nat.le_of_ble_eq_true rfl⟩) (fun r1 hw2 => ?_)
  obtain ⟨hw2r, hw2p⟩ := hw2
  refine lv_if_ne (tgt := 17) hx hb dX11_way_8 (by decide) (fun c3 => ?_) (fun c3 => ?_)
  · have ic3 : r1.toInt ≠ 0 := zi_ne rfl rfl c3
    have p4 : (1) ≤ (a.toInt) ∧ (a.toInt) ≤ (400) := (tp_cond.yes hw2p) (by omega)
    refine lv_aload_n hx hb dX11_way_17 rfl (lv_at hl 0 rfl) ?_
    refine tgk_12 hG ht_h0 (fun y5 y6 y7 y8 y9 y10 => ?_)
    refine tpk_12 hT ht_h0 (fun o11_x6 hf_o11 => ?_)
    refine tpk_pos (tp_in hG ht_h0 (by decide)) hf_o11 (fun q12 eq12 => ?_)
    refine va_get (D := (dC, dI)) (ci := 11) (v := .ref (ρ h0 0)) (C := RX11) (T := TX11) (N := 7) hx hb hts hfX11 hown hK hP q12 eq12 rfl 0 (by decide) (hts (.fieldLink RX11 10 "ColdShips" "world" "LColdShips$World;") wa_15) (fun _ h9 => h9) rfl dX11_way_18 ?_
    refine lv_iload_n hx hb dX11_way_21 rfl (lv_at hl 1 rfl) ?_
    refine tgk_11 hG y5 (fun y13 y13n y14 y14n y15 y16 y17 y18 y19 y20 y21 y21w y21m y22 y22w y22m y23 y23w y23m y24 y24w y24m => ?_)
    refine tpk_11 hT y5 (fun o25_x0 o25_x1 o25_x2 o25_x3 o25_x4 o25_x5 o25_x6 hf_o25 ro25_0 ro25_1 ro25_2 ro25_3 => ?_)
    refine tpk_pos (tp_in hG y5 (by decide)) hf_o25 (fun q26 eq26 => ?_)
    refine pz_calli (va_runV (As := [.int v]) (rest := []) ⟨hx, hb, hml, hown, hts⟩ (t_X10_hasTerminal l dC dI _ Ω κ τ ν ρ L f hG hT (ρ h0 0) v y5 o25_x0 o25_x1 o25_x2 o25_x3 o25_x4 o25_x5 o25_x6 hf_o25) (cwV 1 hts gX11_way_X10_hasTerminal rfl rfl rfl ⟨rfl, pd_X10_hasTerminal⟩ ⟨Nat.le_of_ble_eq_true rfl, Nat.le_of_ble_eq_true rfl⟩) ⟨pz_blind, va_recv hK hP (ci := 10) (q0 := q26) rfl eq26, pz_pre hP hK hD hN⟩ rfl rfl hl.1 rfl (lv_room (Nat.le_of_ble_eq_true rfl)) dX11_way_22 ⟨Nat.le_of_ble_eq_true rfl, Nat.le_of_ble_eq_true rfl⟩) (fun r27 hw28 => ?_)
    obtain ⟨hw28r, hw28p⟩ := hw28
    refine lv_if_eq (tgt := 39) hx hb dX11_way_25 (by decide) (fun c29 => ?_) (fun c29 => ?_)
    · have ic29 : r27.toInt = 0 := zi_eq rfl rfl c29
      refine lv_aload_n hx hb dX11_way_39 rfl (lv_at hl 0 rfl) ?_
      refine lv_bipush (v := (-2)) hx hb dX11_way_40 (by decide) ?_
      have hFc := tp_fr hD hS hA
      refine va_calli (va_runV (As := [.int (-2)]) (rest := []) ⟨hx, hb, hml, hown, hts⟩ (t_X11_refuse l dC dI _ Ω κ τ ν ρ L f hG hT h0 ((-2)) ht_h0) (cwV 1 hts gX11_way_X11_refuse rfl rfl rfl ⟨rfl, pd_X11_refuse⟩ ⟨Nat.le_of_ble_eq_true rfl, Nat.le_of_ble_eq_true rfl⟩) ⟨pz_blind, va_recv hK hP (ci := 11) (q0 := q12) rfl eq12, pz_pre hP hK hD hN⟩ rfl rfl hl.1 rfl (lv_room (Nat.le_of_ble_eq_true rfl)) dX11_way_42 ⟨Nat.le_of_ble_eq_true rfl, Nat.le_of_ble_eq_true rfl⟩) hS (fun q _ h => hFc q h) hFc (fun r30 f32 t H1 locs ht hvm hw31 hB hz1 hk1 hS => ?_)
      refine tn_4 hw31 (fun hT hF33 hw31r hw31p => ?_); clear hw31
      have hR := hR.then hF33 (by decide)
      have hP := hB.1; rw [ht] at hP; have hD := tp_ad f32 hD; clear hB hFc hz1 hk1; subst ht; generalize t.heap = H at hP hS ⊢
      exact W.iret (v := r30) hx hb hr (fun t ht hW => ⟨⟨r30, f32, rfl, ⟨hT, hR, trivial, trivial⟩, by rw [ht]; exact hP, va_K.moved hW.alike hK, hD⟩, hS.F ht⟩) hS.2.2 dX11_way_45
    · have ic29 : r27.toInt ≠ 0 := zi_eqf rfl rfl c29
      have p34 : 0 ≤ v.toInt ∧ v.toInt < o25_x4.toInt := (tp_cond.yes hw28p) (by omega)
      refine lv_aload_n hx hb dX11_way_28 rfl (lv_at hl 0 rfl) ?_
      refine va_get (D := (dC, dI)) (ci := 11) (v := .ref (ρ h0 0)) (C := RX11) (T := TX11) (N := 7) hx hb hts hfX11 hown hK hP q12 eq12 rfl 0 (by decide) (hts (.fieldLink RX11 10 "ColdShips" "world" "LColdShips$World;") wa_15) (fun _ h9 => h9) rfl dX11_way_29 ?_
      refine lv_iload_n hx hb dX11_way_32 rfl (lv_at hl 2 rfl) ?_
      refine pz_calli (va_runV (As := [.int u]) (rest := []) ⟨hx, hb, hml, hown, hts⟩ (t_X10_hasTerminal l dC dI _ Ω κ τ ν ρ L f hG hT (ρ h0 0) u y5 o25_x0 o25_x1 o25_x2 o25_x3 o25_x4 o25_x5 o25_x6 hf_o25) (cwV 1 hts gX11_way_X10_hasTerminal rfl rfl rfl ⟨rfl, pd_X10_hasTerminal⟩ ⟨Nat.le_of_ble_eq_true rfl, Nat.le_of_ble_eq_true rfl⟩) ⟨pz_blind, va_recv hK hP (ci := 10) (q0 := q26) rfl eq26, pz_pre hP hK hD hN⟩ rfl rfl hl.1 rfl (lv_room (Nat.le_of_ble_eq_true rfl)) dX11_way_33 ⟨Nat.le_of_ble_eq_true rfl, Nat.le_of_ble_eq_true rfl⟩) (fun r35 hw36 => ?_)
      obtain ⟨hw36r, hw36p⟩ := hw36
      refine lv_if_ne (tgt := 46) hx hb dX11_way_36 (by decide) (fun c37 => ?_) (fun c37 => ?_)
      · have ic37 : r35.toInt ≠ 0 := zi_ne rfl rfl c37
        have p38 : 0 ≤ u.toInt ∧ u.toInt < o25_x4.toInt := (tp_cond.yes hw36p) (by omega)
        refine lv_iload_n hx hb dX11_way_46 rfl (lv_at hl 1 rfl) ?_
        refine lv_iload_n hx hb dX11_way_47 rfl (lv_at hl 2 rfl) ?_
        refine lv_icmp_ne (tgt := 58) hx hb dX11_way_48 (by decide) (fun c39 => ?_) (fun c39 => ?_)
        · have ic39 : v.toInt ≠ u.toInt := zi_ne rfl rfl c39
          refine lv_aload_n hx hb dX11_way_58 rfl (lv_at hl 0 rfl) ?_
          refine va_get (D := (dC, dI)) (ci := 11) (v := .ref (ρ h0 0)) (C := RX11) (T := TX11) (N := 7) hx hb hts hfX11 hown hK hP q12 eq12 rfl 0 (by decide) (hts (.fieldLink RX11 10 "ColdShips" "world" "LColdShips$World;") wa_15) (fun _ h9 => h9) rfl dX11_way_59 ?_
          refine va_getN (D := (dC, dI)) (ci := 10) (v := .ref (ρ (ρ h0 0) 9)) (C := RX10) (T := TX10) (N := 19) hx hb hts hfX10 hown hK hP q26 eq26 rfl 9 (by decide) (va_Nw.use rfl (hN.1 (.fieldLinkNest RX11 63 "ColdShips$World" "terminals" "[LColdShips$Terminal;" "ColdShips") nzw_65)) (fun _ h9 => h9) rfl dX11_way_62 ?_
          refine lv_iload_n hx hb dX11_way_65 rfl (lv_at hl 1 rfl) ?_
          refine tpk_24 hT y15 (fun g41 hf_o40 hf_o40e => ?_)
          refine tpk_pos (tp_in hG y15 (by decide)) hf_o40 (fun q42 eq42 => ?_)
          refine va_aldq hx hb hK hP q42 4 eq42 rfl (vp_in_iff.mpr ⟨by omega, by omega⟩) dX11_way_66 ?_
          obtain ⟨b43, hb44⟩ : ∃ b : Nat, b = ρ (ρ (ρ h0 0) 9) v.toNatClampNeg := ⟨_, rfl⟩
          have hb44t : τ b43 = 9 := by rw [hb44]; exact tpg_24 hG y15 _ (zi_cl (vp_in_iff.mpr ⟨by omega, by omega⟩))
          have hb44g : g41 v.toNatClampNeg = some b43 := by rw [hb44]; exact hf_o40e _ (zi_cl (vp_in_iff.mpr ⟨by omega, by omega⟩))
          refine W.eq (g2 := F0 m 67 ls (.ref b43 :: [])) (congrArg (fun o => F0 m 67 ls (va_rf o :: [])) hb44g) ?_
          refine lv_iload_n hx hb dX11_way_67 rfl (lv_at hl 2 rfl) ?_
          refine lv_iload_n hx hb dX11_way_68 rfl (lv_at hl 3 rfl) ?_
          refine lv_iload hx hb dX11_way_69 (lv_at hl 4 rfl) ?_
          refine tgk_9 hG hb44t (fun y45 y45n y46 y46n => ?_)
          refine tpk_9 hT hb44t (fun o47_x0 o47_x1 o47_x2 o47_x3 o47_x4 hf_o47 ro47_0 => ?_)
          refine tpk_pos (tp_in hG hb44t (by decide)) hf_o47 (fun q48 eq48 => ?_)
          have hFc := tp_fr hD hS hA
          refine va_callv (va_runV (As := [.int u, .int a, .int b]) (rest := []) ⟨hx, hb, hml, hown, hts⟩ (t_X8_tellWay l dC dI _ Ω κ τ ν ρ L f hG hT b43 u a b hb44t) (cwV 3 hts gX11_way_X8_tellWay rfl rfl rfl ⟨rfl, pd_X8_tellWay⟩ ⟨Nat.le_of_ble_eq_true rfl, Nat.le_of_ble_eq_true rfl⟩) ⟨pz_blind, va_recv hK hP (ci := 8) (q0 := q48) rfl eq48, pz_pre hP hK hD hN⟩ rfl rfl hl.1 rfl (lv_room (Nat.le_of_ble_eq_true rfl)) dX11_way_71 ⟨Nat.le_of_ble_eq_true rfl, Nat.le_of_ble_eq_true rfl⟩) hS (fun q _ h => hFc q h) hFc (fun f51 t H1 locs ht hvm hw50 hB hz1 hk1 hS => ?_)
          refine tn_3 hw50 (fun hT hF52 hw50p => ?_); clear hw50
          have hR := hR.then hF52 (by decide)
          have hP := hB.1; rw [ht] at hP; have hD := tp_ad f51 hD; clear hB hFc hz1 hk1; subst ht; generalize t.heap = H at hP hS ⊢
          refine lv_aload_n hx hb dX11_way_74 rfl (lv_at hl 0 rfl) ?_
          have hf_53 : f51 h0 = .inr (11, [.ref (ρ h0 0), .ref (ρ h0 1), .ref (ρ h0 2), .ref (ρ h0 3), .ref (ρ h0 4), .ref (ρ h0 5), .int o11_x6]) := (hF52 _ (by rw [ht_h0]; decide)).trans hf_o11
          refine tpk_pos (tp_in hG ht_h0 (by decide)) hf_53 (fun q54 eq54 => ?_)
          refine va_get (D := (dC, dI)) (ci := 11) (v := .ref (ρ h0 0)) (C := RX11) (T := TX11) (N := 7) hx hb hts hfX11 hown hK hP q54 eq54 rfl 0 (by decide) (hts (.fieldLink RX11 10 "ColdShips" "world" "LColdShips$World;") wa_15) (fun _ h9 => h9) rfl dX11_way_75 ?_
          have hf_55 : f51 (ρ h0 0) = .inr (10, [.int o25_x0, .int o25_x1, .int o25_x2, .int o25_x3, .int o25_x4, .int o25_x5, .int o25_x6, .ref (ρ (ρ h0 0) 7), .ref (ρ (ρ h0 0) 8), .ref (ρ (ρ h0 0) 9), .ref (ρ (ρ h0 0) 10), .ref (ρ (ρ h0 0) 11), .ref (ρ (ρ h0 0) 12), .ref (ρ (ρ h0 0) 13), .ref (ρ (ρ h0 0) 14), .ref (ρ (ρ h0 0) 15), .ref (ρ (ρ h0 0) 16), .ref (ρ (ρ h0 0) 17), .ref (ρ (ρ h0 0) 18)]) := (hF52 _ (by rw [y5]; decide)).trans hf_o25
          refine tpk_pos (tp_in hG y5 (by decide)) hf_55 (fun q56 eq56 => ?_)
          refine va_getN (D := (dC, dI)) (ci := 10) (v := .ref (ρ (ρ h0 0) 9)) (C := RX10) (T := TX10) (N := 19) hx hb hts hfX10 hown hK hP q56 eq56 rfl 9 (by decide) (va_Nw.use rfl (hN.1 (.fieldLinkNest RX11 63 "ColdShips$World" "terminals" "[LColdShips$Terminal;" "ColdShips") nzw_65)) (fun _ h9 => h9) rfl dX11_way_78 ?_
          refine lv_iload_n hx hb dX11_way_81 rfl (lv_at hl 2 rfl) ?_
          have hf_57 : f51 (ρ (ρ h0 0) 9) = .inl (κ 4, 6, .inr (.inr (.inr (.inr g41)))) := (hF52 _ (by rw [y15]; decide)).trans hf_o40
          refine tpk_pos (tp_in hG y15 (by decide)) hf_57 (fun q58 eq58 => ?_)
          refine va_aldq hx hb hK hP q58 4 eq58 rfl (vp_in_iff.mpr ⟨by omega, by omega⟩) dX11_way_82 ?_
          obtain ⟨b59, hb60⟩ : ∃ b : Nat, b = ρ (ρ (ρ h0 0) 9) u.toNatClampNeg := ⟨_, rfl⟩
          have hb60t : τ b59 = 9 := by rw [hb60]; exact tpg_24 hG y15 _ (zi_cl (vp_in_iff.mpr ⟨by omega, by omega⟩))
          have hb60g : g41 u.toNatClampNeg = some b59 := by rw [hb60]; exact hf_o40e _ (zi_cl (vp_in_iff.mpr ⟨by omega, by omega⟩))
          refine W.eq (g2 := F0 m 83 ls (.ref b59 :: [])) (congrArg (fun o => F0 m 83 ls (va_rf o :: [])) hb60g) ?_
          refine lv_iload_n hx hb dX11_way_83 rfl (lv_at hl 1 rfl) ?_
          refine lv_iload_n hx hb dX11_way_84 rfl (lv_at hl 3 rfl) ?_
          refine lv_iload hx hb dX11_way_85 (lv_at hl 4 rfl) ?_
          refine tgk_9 hG hb60t (fun y61 y61n y62 y62n => ?_)
          refine tpk_9 hT hb60t (fun o63_x0 o63_x1 o63_x2 o63_x3 o63_x4 hf_o63 ro63_0 => ?_)
          refine tpk_pos (tp_in hG hb60t (by decide)) hf_o63 (fun q64 eq64 => ?_)
          have hFc := tp_fr hD hS hA
          refine va_callv (va_runV (As := [.int v, .int a, .int b]) (rest := []) ⟨hx, hb, hml, hown, hts⟩ (t_X8_tellWay l dC dI _ Ω κ τ ν ρ L f51 hG hT b59 v a b hb60t) (cwV 3 hts gX11_way_X8_tellWay rfl rfl rfl ⟨rfl, pd_X8_tellWay⟩ ⟨Nat.le_of_ble_eq_true rfl, Nat.le_of_ble_eq_true rfl⟩) ⟨pz_blind, va_recv hK hP (ci := 8) (q0 := q64) rfl eq64, pz_pre hP hK hD hN⟩ rfl rfl hl.1 rfl (lv_room (Nat.le_of_ble_eq_true rfl)) dX11_way_87 ⟨Nat.le_of_ble_eq_true rfl, Nat.le_of_ble_eq_true rfl⟩) hS (fun q _ h => hFc q h) hFc (fun f67 t H1 locs ht hvm hw66 hB hz1 hk1 hS => ?_)
          refine tn_3 hw66 (fun hT hF68 hw66p => ?_); clear hw66
          have hR := hR.then hF68 (by decide)
          have hP := hB.1; rw [ht] at hP; have hD := tp_ad f67 hD; clear hB hFc hz1 hk1; subst ht; generalize t.heap = H at hP hS ⊢
          refine lv_aload_n hx hb dX11_way_90 rfl (lv_at hl 0 rfl) ?_
          refine lv_iconst (v := 0) hx hb dX11_way_91 (by decide) ?_
          have hf_69 : f67 h0 = .inr (11, [.ref (ρ h0 0), .ref (ρ h0 1), .ref (ρ h0 2), .ref (ρ h0 3), .ref (ρ h0 4), .ref (ρ h0 5), .int o11_x6]) := (hF68 _ (by rw [ht_h0]; decide)).trans hf_53
          refine tpk_pos (tp_in hG ht_h0 (by decide)) hf_69 (fun q70 eq70 => ?_)
          have hFc := tp_fr hD hS hA
          refine va_calli (va_runV (As := [.int 0]) (rest := []) ⟨hx, hb, hml, hown, hts⟩ (t_X11_accept l dC dI _ Ω κ τ ν ρ L f67 hG hT h0 (0) ht_h0) (cwV 1 hts gX11_way_X11_accept rfl rfl rfl ⟨rfl, pd_X11_accept⟩ ⟨Nat.le_of_ble_eq_true rfl, Nat.le_of_ble_eq_true rfl⟩) ⟨pz_blind, va_recv hK hP (ci := 11) (q0 := q70) rfl eq70, pz_pre hP hK hD hN⟩ rfl rfl hl.1 rfl (lv_room (Nat.le_of_ble_eq_true rfl)) dX11_way_92 ⟨Nat.le_of_ble_eq_true rfl, Nat.le_of_ble_eq_true rfl⟩) hS (fun q _ h => hFc q h) hFc (fun r71 f73 t H1 locs ht hvm hw72 hB hz1 hk1 hS => ?_)
          refine tn_4 hw72 (fun hT hF74 hw72r hw72p => ?_); clear hw72
          have hR := hR.then hF74 (by decide)
          have hP := hB.1; rw [ht] at hP; have hD := tp_ad f73 hD; clear hB hFc hz1 hk1; subst ht; generalize t.heap = H at hP hS ⊢
          exact W.iret (v := r71) hx hb hr (fun t ht hW => ⟨⟨r71, f73, rfl, ⟨hT, hR, trivial, trivial⟩, by rw [ht]; exact hP, va_K.moved hW.alike hK, hD⟩, hS.F ht⟩) hS.2.2 dX11_way_95
        · have ic39 : v.toInt = u.toInt := zi_nef rfl rfl c39
          refine lv_aload_n hx hb dX11_way_51 rfl (lv_at hl 0 rfl) ?_
          refine lv_bipush (v := (-3)) hx hb dX11_way_52 (by decide) ?_
          have hFc := tp_fr hD hS hA
          refine va_calli (va_runV (As := [.int (-3)]) (rest := []) ⟨hx, hb, hml, hown, hts⟩ (t_X11_refuse l dC dI _ Ω κ τ ν ρ L f hG hT h0 ((-3)) ht_h0) (cwV 1 hts gX11_way_X11_refuse rfl rfl rfl ⟨rfl, pd_X11_refuse⟩ ⟨Nat.le_of_ble_eq_true rfl, Nat.le_of_ble_eq_true rfl⟩) ⟨pz_blind, va_recv hK hP (ci := 11) (q0 := q12) rfl eq12, pz_pre hP hK hD hN⟩ rfl rfl hl.1 rfl (lv_room (Nat.le_of_ble_eq_true rfl)) dX11_way_54 ⟨Nat.le_of_ble_eq_true rfl, Nat.le_of_ble_eq_true rfl⟩) hS (fun q _ h => hFc q h) hFc (fun r75 f77 t H1 locs ht hvm hw76 hB hz1 hk1 hS => ?_)
          refine tn_4 hw76 (fun hT hF78 hw76r hw76p => ?_); clear hw76
          have hR := hR.then hF78 (by decide)
          have hP := hB.1; rw [ht] at hP; have hD := tp_ad f77 hD; clear hB hFc hz1 hk1; subst ht; generalize t.heap = H at hP hS ⊢
          exact W.iret (v := r75) hx hb hr (fun t ht hW => ⟨⟨r75, f77, rfl, ⟨hT, hR, trivial, trivial⟩, by rw [ht]; exact hP, va_K.moved hW.alike hK, hD⟩, hS.F ht⟩) hS.2.2 dX11_way_57
      · have ic37 : r35.toInt = 0 := zi_nef rfl rfl c37
        refine lv_aload_n hx hb dX11_way_39 rfl (lv_at hl 0 rfl) ?_
        refine lv_bipush (v := (-2)) hx hb dX11_way_40 (by decide) ?_
        have hFc := tp_fr hD hS hA
        refine va_calli (va_runV (As := [.int (-2)]) (rest := []) ⟨hx, hb, hml, hown, hts⟩ (t_X11_refuse l dC dI _ Ω κ τ ν ρ L f hG hT h0 ((-2)) ht_h0) (cwV 1 hts gX11_way_X11_refuse rfl rfl rfl ⟨rfl, pd_X11_refuse⟩ ⟨Nat.le_of_ble_eq_true rfl, Nat.le_of_ble_eq_true rfl⟩) ⟨pz_blind, va_recv hK hP (ci := 11) (q0 := q12) rfl eq12, pz_pre hP hK hD hN⟩ rfl rfl hl.1 rfl (lv_room (Nat.le_of_ble_eq_true rfl)) dX11_way_42 ⟨Nat.le_of_ble_eq_true rfl, Nat.le_of_ble_eq_true rfl⟩) hS (fun q _ h => hFc q h) hFc (fun r79 f81 t H1 locs ht hvm hw80 hB hz1 hk1 hS => ?_)
        refine tn_4 hw80 (fun hT hF82 hw80r hw80p => ?_); clear hw80
        have hR := hR.then hF82 (by decide)
        have hP := hB.1; rw [ht] at hP; have hD := tp_ad f81 hD; clear hB hFc hz1 hk1; subst ht; generalize t.heap = H at hP hS ⊢
        exact W.iret (v := r79) hx hb hr (fun t ht hW => ⟨⟨r79, f81, rfl, ⟨hT, hR, trivial, trivial⟩, by rw [ht]; exact hP, va_K.moved hW.alike hK, hD⟩, hS.F ht⟩) hS.2.2 dX11_way_45
  · have ic3 : r1.toInt = 0 := zi_nef rfl rfl c3
    refine lv_aload_n hx hb dX11_way_11 rfl (lv_at hl 0 rfl) ?_
    refine lv_iconst (v := (-1)) hx hb dX11_way_12 (by decide) ?_
    refine tgk_12 hG ht_h0 (fun y83 y84 y85 y86 y87 y88 => ?_)
    refine tpk_12 hT ht_h0 (fun o89_x6 hf_o89 => ?_)
    refine tpk_pos (tp_in hG ht_h0 (by decide)) hf_o89 (fun q90 eq90 => ?_)
    have hFc := tp_fr hD hS hA
    refine va_calli (va_runV (As := [.int (-1)]) (rest := []) ⟨hx, hb, hml, hown, hts⟩ (t_X11_refuse l dC dI _ Ω κ τ ν ρ L f hG hT h0 ((-1)) ht_h0) (cwV 1 hts gX11_way_X11_refuse rfl rfl rfl ⟨rfl, pd_X11_refuse⟩ ⟨Nat.le_of_ble_eq_true rfl, Nat.le_of_ble_eq_true rfl⟩) ⟨pz_blind, va_recv hK hP (ci := 11) (q0 := q90) rfl eq90, pz_pre hP hK hD hN⟩ rfl rfl hl.1 rfl (lv_room (Nat.le_of_ble_eq_true rfl)) dX11_way_13 ⟨Nat.le_of_ble_eq_true rfl, Nat.le_of_ble_eq_true rfl⟩) hS (fun q _ h => hFc q h) hFc (fun r91 f93 t H1 locs ht hvm hw92 hB hz1 hk1 hS => ?_)
    refine tn_4 hw92 (fun hT hF94 hw92r hw92p => ?_); clear hw92
    have hR := hR.then hF94 (by decide)
    have hP := hB.1; rw [ht] at hP; have hD := tp_ad f93 hD; clear hB hFc hz1 hk1; subst ht; generalize t.heap = H at hP hS ⊢
    exact W.iret (v := r91) hx hb hr (fun t ht hW => ⟨⟨r91, f93, rfl, ⟨hT, hR, trivial, trivial⟩, by rw [ht]; exact hP, va_K.moved hW.alike hK, hD⟩, hS.F ht⟩) hS.2.2 dX11_way_16
set_option maxHeartbeats 4000000 in
set_option maxRecDepth 100000 in
theorem t_X11_tide (l : Launch) (dC : Nat → ClassId) (dI : Nat → Nat → Nat) (sz : Nat) (Ω : Nat → (Nat → Nat) → va_E → Prop) (κ : Nat → ClassId) (τ ν : Nat → Nat) (ρ : Nat → Nat → Nat) (L : List Nat) (f : Nat → va_E) (hG : tp_G τ ν ρ L) (hT : tp_T Ω κ τ ν ρ f) (h0 : Nat) (v : Int32) (u : Int32) (ht_h0 : τ h0 = 12) : Met l yX11_tide wqX11_tide ({ frames := 3, cells := 0, slots := 0, locals := 800 }) (va_Pc [.ref h0, .int v, .int u] (pz_B dC dI (tp_K κ) (va_pl L f) sz)) (va_Qi (fun (r : Int32) (f1 : Nat → va_E) => tp_T Ω κ τ ν ρ f1 ∧ tp_F τ [2, 3, 4, 5, 6, 7, 8, 9, 10, 11, 12, 20, 21, 22, 26, 27, 28] f f1 ∧ True ∧ (tp_pick r ((0 ≤ v.toInt ∧ v.toInt ≤ 24) ∧ 0 ≤ u.toInt ∧ u.toInt ≤ 9) 0 (-1))) (fun (f1 : Nat → va_E) (t : State) => pz_E dC dI (tp_K κ) (va_A (va_pl L f) sz) (va_pl L f1) t) (va_A (va_pl L f) sz)) 0 0 (va_A (va_pl L f) sz) := by
  refine Met.ofW (cc := cX11_tide) (maxL := 3) (ret := some .int) (by decide) rfl ?_
  intro p e s m args below meth c s₁ B hml hv
  obtain ⟨rfl, hsz, hP, hK, hD0, hN⟩ := hv
  have hx := B.exec
  have hb := B.bytes
  have hr := B.returns
  have hts := fun (w : Cond) (h : w ∈ WALL) => atoms_spec (ws := wqX11_tide) B.pre w (List.mem_cons_of_mem _ h)
  have hown : s.vm.findClass RX11 = some m.cls := findClass_of_methodNamed B.named
  have hlocks := B.notSynchronized
  subst hsz
  have hD := hD0.self (sz := s.heap.size)
  generalize hAe : va_A (va_pl L f) s.heap.size = A at hD ⊢
  have hA : ∀ q : Nat, s.heap.size ≤ q → A q := fun q h => by rw [← hAe]; exact Or.inr h
  have hS : va_S A s.heap s.heap [] := va_S.rf
  have hR : tp_F τ [2, 3, 4, 5, 6, 7, 8, 9, 10, 11, 12, 20, 21, 22, 26, 27, 28] f f := tp_F.rf
  have hl := lv_entry ([.ref h0, .int v, .int u]) (n := 3) (Nat.le_of_ble_eq_true rfl)
  rw [lg_entry_eq]
  generalize (lg_sl ([.ref h0, .int v, .int u]) ++ List.replicate (3 - (lg_sl ([.ref h0, .int v, .int u])).length) Slot.unset).toArray = ls at hl ⊢
  have hl : lv_has ls 3 [(0, .ref h0), (1, .int v), (2, .int u)] := hl
  refine lv_iload_n hx hb dX11_tide_0 rfl (lv_at hl 1 rfl) ?_
  refine lv_iconst (v := 0) hx hb dX11_tide_1 (by decide) ?_
  refine lv_bipush (v := 24) hx hb dX11_tide_2 (by decide) ?_
  refine pz_calli (va_runS (As := [.int v, .int 0, .int 24]) (rest := []) ⟨hx, hb, hml, hown, hts⟩ (t_X11_within l dC dI _ v (0) (24) (v.toInt) (0) (24) rfl rfl rfl) (va_cwS 3 hts gX11_tide_X11_within rfl rfl rfl pd_X11_within ⟨Nat.le_of_ble_eq_true rfl, Nat.le_of_ble_eq_true rfl⟩) ⟨pz_blind, pz_pre pz_P0 (hK.sub (tys' := []) [] rfl) (pz_D0 (A := fun _ => True)) hN⟩ rfl rfl hl.1 rfl (lv_room (Nat.le_of_ble_eq_true rfl)) dX11_tide_4 ⟨Nat.le_of_ble_eq_true rfl, Nat.le_of_ble_eq_true rfl⟩) (fun r1 hw2 => ?_)
  obtain ⟨hw2r, hw2p⟩ := hw2
  refine lv_if_eq (tgt := 20) hx hb dX11_tide_7 (by decide) (fun c3 => ?_) (fun c3 => ?_)
  · have ic3 : r1.toInt = 0 := zi_eq rfl rfl c3
    have p4 : ¬ ((0) ≤ (v.toInt) ∧ (v.toInt) ≤ (24)) := (tp_cond.no hw2p) (by omega)
    refine lv_aload_n hx hb dX11_tide_20 rfl (lv_at hl 0 rfl) ?_
    refine lv_iconst (v := (-1)) hx hb dX11_tide_21 (by decide) ?_
    refine tgk_12 hG ht_h0 (fun y5 y6 y7 y8 y9 y10 => ?_)
    refine tpk_12 hT ht_h0 (fun o11_x6 hf_o11 => ?_)
    refine tpk_pos (tp_in hG ht_h0 (by decide)) hf_o11 (fun q12 eq12 => ?_)
    have hFc := tp_fr hD hS hA
    refine va_calli (va_runV (As := [.int (-1)]) (rest := []) ⟨hx, hb, hml, hown, hts⟩ (t_X11_refuse l dC dI _ Ω κ τ ν ρ L f hG hT h0 ((-1)) ht_h0) (cwV 1 hts gX11_tide_X11_refuse rfl rfl rfl ⟨rfl, pd_X11_refuse⟩ ⟨Nat.le_of_ble_eq_true rfl, Nat.le_of_ble_eq_true rfl⟩) ⟨pz_blind, va_recv hK hP (ci := 11) (q0 := q12) rfl eq12, pz_pre hP hK hD hN⟩ rfl rfl hl.1 rfl (lv_room (Nat.le_of_ble_eq_true rfl)) dX11_tide_22 ⟨Nat.le_of_ble_eq_true rfl, Nat.le_of_ble_eq_true rfl⟩) hS (fun q _ h => hFc q h) hFc (fun r13 f15 t H1 locs ht hvm hw14 hB hz1 hk1 hS => ?_)
    refine tn_4 hw14 (fun hT hF16 hw14r hw14p => ?_); clear hw14
    have hR := hR.then hF16 (by decide)
    have hP := hB.1; rw [ht] at hP; have hD := tp_ad f15 hD; clear hB hFc hz1 hk1; subst ht; generalize t.heap = H at hP hS ⊢
    exact W.iret (v := r13) hx hb hr (fun t ht hW => ⟨⟨r13, f15, rfl, ⟨hT, hR, trivial, ⟨fun q => by first | exact hw14p | (exfalso; omega), fun q => by first | exact hw14p | (exfalso; omega)⟩⟩, by rw [ht]; exact hP, va_K.moved hW.alike hK, hD⟩, hS.F ht⟩) hS.2.2 dX11_tide_25
  · have ic3 : r1.toInt ≠ 0 := zi_eqf rfl rfl c3
    have p17 : (0) ≤ (v.toInt) ∧ (v.toInt) ≤ (24) := (tp_cond.yes hw2p) (by omega)
    refine lv_iload_n hx hb dX11_tide_10 rfl (lv_at hl 2 rfl) ?_
    refine lv_iconst (v := 0) hx hb dX11_tide_11 (by decide) ?_
    refine lv_bipush (v := 9) hx hb dX11_tide_12 (by decide) ?_
    refine pz_calli (va_runS (As := [.int u, .int 0, .int 9]) (rest := []) ⟨hx, hb, hml, hown, hts⟩ (t_X11_within l dC dI _ u (0) (9) (u.toInt) (0) (9) rfl rfl rfl) (va_cwS 3 hts gX11_tide_X11_within rfl rfl rfl pd_X11_within ⟨Nat.le_of_ble_eq_true rfl, Nat.le_of_ble_eq_true rfl⟩) ⟨pz_blind, pz_pre pz_P0 (hK.sub (tys' := []) [] rfl) (pz_D0 (A := fun _ => True)) hN⟩ rfl rfl hl.1 rfl (lv_room (Nat.le_of_ble_eq_true rfl)) dX11_tide_14 ⟨Nat.le_of_ble_eq_true rfl, Nat.le_of_ble_eq_true rfl⟩) (fun r18 hw19 => ?_)
    obtain ⟨hw19r, hw19p⟩ := hw19
    refine lv_if_ne (tgt := 26) hx hb dX11_tide_17 (by decide) (fun c20 => ?_) (fun c20 => ?_)
    · have ic20 : r18.toInt ≠ 0 := zi_ne rfl rfl c20
      have p21 : (0) ≤ (u.toInt) ∧ (u.toInt) ≤ (9) := (tp_cond.yes hw19p) (by omega)
      refine lv_aload_n hx hb dX11_tide_26 rfl (lv_at hl 0 rfl) ?_
      refine tgk_12 hG ht_h0 (fun y22 y23 y24 y25 y26 y27 => ?_)
      refine tpk_12 hT ht_h0 (fun o28_x6 hf_o28 => ?_)
      refine tpk_pos (tp_in hG ht_h0 (by decide)) hf_o28 (fun q29 eq29 => ?_)
      refine va_get (D := (dC, dI)) (ci := 11) (v := .ref (ρ h0 0)) (C := RX11) (T := TX11) (N := 7) hx hb hts hfX11 hown hK hP q29 eq29 rfl 0 (by decide) (hts (.fieldLink RX11 10 "ColdShips" "world" "LColdShips$World;") wa_15) (fun _ h9 => h9) rfl dX11_tide_27 ?_
      refine tgk_11 hG y22 (fun y30 y30n y31 y31n y32 y33 y34 y35 y36 y37 y38 y38w y38m y39 y39w y39m y40 y40w y40m y41 y41w y41m => ?_)
      refine tpk_11 hT y22 (fun o42_x0 o42_x1 o42_x2 o42_x3 o42_x4 o42_x5 o42_x6 hf_o42 ro42_0 ro42_1 ro42_2 ro42_3 => ?_)
      refine tpk_pos (tp_in hG y22 (by decide)) hf_o42 (fun q43 eq43 => ?_)
      refine va_getN (D := (dC, dI)) (ci := 10) (v := .ref (ρ (ρ h0 0) 7)) (C := RX10) (T := TX10) (N := 19) hx hb hts hfX10 hown hK hP q43 eq43 rfl 7 (by decide) (va_Nw.use rfl (hN.1 (.fieldLinkNest RX11 97 "ColdShips$World" "tides" "[I" "ColdShips") nzw_61)) (fun _ h9 => h9) rfl dX11_tide_30 ?_
      refine lv_iload_n hx hb dX11_tide_33 rfl (lv_at hl 1 rfl) ?_
      refine lv_iload_n hx hb dX11_tide_34 rfl (lv_at hl 2 rfl) ?_
      refine tpk_20 hT y30 y30n (fun g45 hf_o44 => ?_)
      refine tpk_pos (tp_in hG y30 (by decide)) hf_o44 (fun q46 eq46 => ?_)
      refine va_iast hx hb hK hP hD hS q46 0 eq46 rfl (vp_in_iff.mpr ⟨by omega, by omega⟩) dX11_tide_35 (tp_k (.inl (κ 0, 25, .inl (upd g45 v.toNatClampNeg u))) hD (tp_in hG y30 (by decide)) eq46 (fun f47 H locs hP hD hS g49 k48 => ?_))
      have hT := hT.up y30 g49 k48 (tp_o20 y30n)
      have hR := hR.up y30 (by decide) k48
      generalize (upd g45 v.toNatClampNeg u) = g50 at g49
      refine lv_aload_n hx hb dX11_tide_36 rfl (lv_at hl 0 rfl) ?_
      refine lv_iconst (v := 0) hx hb dX11_tide_37 (by decide) ?_
      have hf_51 : f47 h0 = .inr (11, [.ref (ρ h0 0), .ref (ρ h0 1), .ref (ρ h0 2), .ref (ρ h0 3), .ref (ρ h0 4), .ref (ρ h0 5), .int o28_x6]) := (k48 _ (tp_ne ht_h0 y30 (by decide))).trans hf_o28
      refine tpk_pos (tp_in hG ht_h0 (by decide)) hf_51 (fun q52 eq52 => ?_)
      have hFc := tp_fr hD hS hA
      refine va_calli (va_runV (As := [.int 0]) (rest := []) ⟨hx, hb, hml, hown, hts⟩ (t_X11_accept l dC dI _ Ω κ τ ν ρ L f47 hG hT h0 (0) ht_h0) (cwV 1 hts gX11_tide_X11_accept rfl rfl rfl ⟨rfl, pd_X11_accept⟩ ⟨Nat.le_of_ble_eq_true rfl, Nat.le_of_ble_eq_true rfl⟩) ⟨pz_blind, va_recv hK hP (ci := 11) (q0 := q52) rfl eq52, pz_pre hP hK hD hN⟩ rfl rfl hl.1 rfl (lv_room (Nat.le_of_ble_eq_true rfl)) dX11_tide_38 ⟨Nat.le_of_ble_eq_true rfl, Nat.le_of_ble_eq_true rfl⟩) hS (fun q _ h => hFc q h) hFc (fun r53 f55 t H1 locs ht hvm hw54 hB hz1 hk1 hS => ?_)
      refine tn_4 hw54 (fun hT hF56 hw54r hw54p => ?_); clear hw54
      have hR := hR.then hF56 (by decide)
      have hP := hB.1; rw [ht] at hP; have hD := tp_ad f55 hD; clear hB hFc hz1 hk1; subst ht; generalize t.heap = H at hP hS ⊢
      exact W.iret (v := r53) hx hb hr (fun t ht hW => ⟨⟨r53, f55, rfl, ⟨hT, hR, trivial, ⟨fun q => by first | exact hw54p | (exfalso; omega), fun q => by first | exact hw54p | (exfalso; omega)⟩⟩, by rw [ht]; exact hP, va_K.moved hW.alike hK, hD⟩, hS.F ht⟩) hS.2.2 dX11_tide_41
    · have ic20 : r18.toInt = 0 := zi_nef rfl rfl c20
      have p57 : ¬ ((0) ≤ (u.toInt) ∧ (u.toInt) ≤ (9)) := (tp_cond.no hw19p) (by omega)
      refine lv_aload_n hx hb dX11_tide_20 rfl (lv_at hl 0 rfl) ?_
      refine lv_iconst (v := (-1)) hx hb dX11_tide_21 (by decide) ?_
      refine tgk_12 hG ht_h0 (fun y58 y59 y60 y61 y62 y63 => ?_)
      refine tpk_12 hT ht_h0 (fun o64_x6 hf_o64 => ?_)
      refine tpk_pos (tp_in hG ht_h0 (by decide)) hf_o64 (fun q65 eq65 => ?_)
      have hFc := tp_fr hD hS hA
      refine va_calli (va_runV (As := [.int (-1)]) (rest := []) ⟨hx, hb, hml, hown, hts⟩ (t_X11_refuse l dC dI _ Ω κ τ ν ρ L f hG hT h0 ((-1)) ht_h0) (cwV 1 hts gX11_tide_X11_refuse rfl rfl rfl ⟨rfl, pd_X11_refuse⟩ ⟨Nat.le_of_ble_eq_true rfl, Nat.le_of_ble_eq_true rfl⟩) ⟨pz_blind, va_recv hK hP (ci := 11) (q0 := q65) rfl eq65, pz_pre hP hK hD hN⟩ rfl rfl hl.1 rfl (lv_room (Nat.le_of_ble_eq_true rfl)) dX11_tide_22 ⟨Nat.le_of_ble_eq_true rfl, Nat.le_of_ble_eq_true rfl⟩) hS (fun q _ h => hFc q h) hFc (fun r66 f68 t H1 locs ht hvm hw67 hB hz1 hk1 hS => ?_)
      refine tn_4 hw67 (fun hT hF69 hw67r hw67p => ?_); clear hw67
      have hR := hR.then hF69 (by decide)
      have hP := hB.1; rw [ht] at hP; have hD := tp_ad f68 hD; clear hB hFc hz1 hk1; subst ht; generalize t.heap = H at hP hS ⊢
      exact W.iret (v := r66) hx hb hr (fun t ht hW => ⟨⟨r66, f68, rfl, ⟨hT, hR, trivial, ⟨fun q => by first | exact hw67p | (exfalso; omega), fun q => by first | exact hw67p | (exfalso; omega)⟩⟩, by rw [ht]; exact hP, va_K.moved hW.alike hK, hD⟩, hS.F ht⟩) hS.2.2 dX11_tide_25
set_option maxHeartbeats 4000000 in
set_option maxRecDepth 100000 in
theorem t_X11_sea (l : Launch) (dC : Nat → ClassId) (dI : Nat → Nat → Nat) (sz : Nat) (Ω : Nat → (Nat → Nat) → va_E → Prop) (κ : Nat → ClassId) (τ ν : Nat → Nat) (ρ : Nat → Nat → Nat) (L : List Nat) (f : Nat → va_E) (hG : tp_G τ ν ρ L) (hT : tp_T Ω κ τ ν ρ f) (h0 : Nat) (v : Int32) (u : Int32) (ht_h0 : τ h0 = 12) : Met l yX11_sea wqX11_sea ({ frames := 3, cells := 0, slots := 0, locals := 800 }) (va_Pc [.ref h0, .int v, .int u] (pz_B dC dI (tp_K κ) (va_pl L f) sz)) (va_Qi (fun (r : Int32) (f1 : Nat → va_E) => tp_T Ω κ τ ν ρ f1 ∧ tp_F τ [2, 3, 4, 5, 6, 7, 8, 9, 10, 11, 12, 20, 21, 22, 26, 27, 28] f f1 ∧ True ∧ (tp_pick r ((0 ≤ v.toInt ∧ v.toInt ≤ 99) ∧ 0 ≤ u.toInt ∧ u.toInt ≤ 9) 0 (-1))) (fun (f1 : Nat → va_E) (t : State) => pz_E dC dI (tp_K κ) (va_A (va_pl L f) sz) (va_pl L f1) t) (va_A (va_pl L f) sz)) 0 0 (va_A (va_pl L f) sz) := by
  refine Met.ofW (cc := cX11_sea) (maxL := 3) (ret := some .int) (by decide) rfl ?_
  intro p e s m args below meth c s₁ B hml hv
  obtain ⟨rfl, hsz, hP, hK, hD0, hN⟩ := hv
  have hx := B.exec
  have hb := B.bytes
  have hr := B.returns
  have hts := fun (w : Cond) (h : w ∈ WALL) => atoms_spec (ws := wqX11_sea) B.pre w (List.mem_cons_of_mem _ h)
  have hown : s.vm.findClass RX11 = some m.cls := findClass_of_methodNamed B.named
  have hlocks := B.notSynchronized
  subst hsz
  have hD := hD0.self (sz := s.heap.size)
  generalize hAe : va_A (va_pl L f) s.heap.size = A at hD ⊢
  have hA : ∀ q : Nat, s.heap.size ≤ q → A q := fun q h => by rw [← hAe]; exact Or.inr h
  have hS : va_S A s.heap s.heap [] := va_S.rf
  have hR : tp_F τ [2, 3, 4, 5, 6, 7, 8, 9, 10, 11, 12, 20, 21, 22, 26, 27, 28] f f := tp_F.rf
  have hl := lv_entry ([.ref h0, .int v, .int u]) (n := 3) (Nat.le_of_ble_eq_true rfl)
  rw [lg_entry_eq]
  generalize (lg_sl ([.ref h0, .int v, .int u]) ++ List.replicate (3 - (lg_sl ([.ref h0, .int v, .int u])).length) Slot.unset).toArray = ls at hl ⊢
  have hl : lv_has ls 3 [(0, .ref h0), (1, .int v), (2, .int u)] := hl
  refine lv_iload_n hx hb dX11_sea_0 rfl (lv_at hl 1 rfl) ?_
  refine lv_iconst (v := 0) hx hb dX11_sea_1 (by decide) ?_
  refine lv_bipush (v := 99) hx hb dX11_sea_2 (by decide) ?_
  refine pz_calli (va_runS (As := [.int v, .int 0, .int 99]) (rest := []) ⟨hx, hb, hml, hown, hts⟩ (t_X11_within l dC dI _ v (0) (99) (v.toInt) (0) (99) rfl rfl rfl) (va_cwS 3 hts gX11_sea_X11_within rfl rfl rfl pd_X11_within ⟨Nat.le_of_ble_eq_true rfl, Nat.le_of_ble_eq_true rfl⟩) ⟨pz_blind, pz_pre pz_P0 (hK.sub (tys' := []) [] rfl) (pz_D0 (A := fun _ => True)) hN⟩ rfl rfl hl.1 rfl (lv_room (Nat.le_of_ble_eq_true rfl)) dX11_sea_4 ⟨Nat.le_of_ble_eq_true rfl, Nat.le_of_ble_eq_true rfl⟩) (fun r1 hw2 => ?_)
  obtain ⟨hw2r, hw2p⟩ := hw2
  refine lv_if_eq (tgt := 20) hx hb dX11_sea_7 (by decide) (fun c3 => ?_) (fun c3 => ?_)
  · have ic3 : r1.toInt = 0 := zi_eq rfl rfl c3
    have p4 : ¬ ((0) ≤ (v.toInt) ∧ (v.toInt) ≤ (99)) := (tp_cond.no hw2p) (by omega)
    refine lv_aload_n hx hb dX11_sea_20 rfl (lv_at hl 0 rfl) ?_
    refine lv_iconst (v := (-1)) hx hb dX11_sea_21 (by decide) ?_
    refine tgk_12 hG ht_h0 (fun y5 y6 y7 y8 y9 y10 => ?_)
    refine tpk_12 hT ht_h0 (fun o11_x6 hf_o11 => ?_)
    refine tpk_pos (tp_in hG ht_h0 (by decide)) hf_o11 (fun q12 eq12 => ?_)
    have hFc := tp_fr hD hS hA
    refine va_calli (va_runV (As := [.int (-1)]) (rest := []) ⟨hx, hb, hml, hown, hts⟩ (t_X11_refuse l dC dI _ Ω κ τ ν ρ L f hG hT h0 ((-1)) ht_h0) (cwV 1 hts gX11_sea_X11_refuse rfl rfl rfl ⟨rfl, pd_X11_refuse⟩ ⟨Nat.le_of_ble_eq_true rfl, Nat.le_of_ble_eq_true rfl⟩) ⟨pz_blind, va_recv hK hP (ci := 11) (q0 := q12) rfl eq12, pz_pre hP hK hD hN⟩ rfl rfl hl.1 rfl (lv_room (Nat.le_of_ble_eq_true rfl)) dX11_sea_22 ⟨Nat.le_of_ble_eq_true rfl, Nat.le_of_ble_eq_true rfl⟩) hS (fun q _ h => hFc q h) hFc (fun r13 f15 t H1 locs ht hvm hw14 hB hz1 hk1 hS => ?_)
    refine tn_4 hw14 (fun hT hF16 hw14r hw14p => ?_); clear hw14
    have hR := hR.then hF16 (by decide)
    have hP := hB.1; rw [ht] at hP; have hD := tp_ad f15 hD; clear hB hFc hz1 hk1; subst ht; generalize t.heap = H at hP hS ⊢
    exact W.iret (v := r13) hx hb hr (fun t ht hW => ⟨⟨r13, f15, rfl, ⟨hT, hR, trivial, ⟨fun q => by first | exact hw14p | (exfalso; omega), fun q => by first | exact hw14p | (exfalso; omega)⟩⟩, by rw [ht]; exact hP, va_K.moved hW.alike hK, hD⟩, hS.F ht⟩) hS.2.2 dX11_sea_25
  · have ic3 : r1.toInt ≠ 0 := zi_eqf rfl rfl c3
    have p17 : (0) ≤ (v.toInt) ∧ (v.toInt) ≤ (99) := (tp_cond.yes hw2p) (by omega)
    refine lv_iload_n hx hb dX11_sea_10 rfl (lv_at hl 2 rfl) ?_
    refine lv_iconst (v := 0) hx hb dX11_sea_11 (by decide) ?_
    refine lv_bipush (v := 9) hx hb dX11_sea_12 (by decide) ?_
    refine pz_calli (va_runS (As := [.int u, .int 0, .int 9]) (rest := []) ⟨hx, hb, hml, hown, hts⟩ (t_X11_within l dC dI _ u (0) (9) (u.toInt) (0) (9) rfl rfl rfl) (va_cwS 3 hts gX11_sea_X11_within rfl rfl rfl pd_X11_within ⟨Nat.le_of_ble_eq_true rfl, Nat.le_of_ble_eq_true rfl⟩) ⟨pz_blind, pz_pre pz_P0 (hK.sub (tys' := []) [] rfl) (pz_D0 (A := fun _ => True)) hN⟩ rfl rfl hl.1 rfl (lv_room (Nat.le_of_ble_eq_true rfl)) dX11_sea_14 ⟨Nat.le_of_ble_eq_true rfl, Nat.le_of_ble_eq_true rfl⟩) (fun r18 hw19 => ?_)
    obtain ⟨hw19r, hw19p⟩ := hw19
    refine lv_if_ne (tgt := 26) hx hb dX11_sea_17 (by decide) (fun c20 => ?_) (fun c20 => ?_)
    · have ic20 : r18.toInt ≠ 0 := zi_ne rfl rfl c20
      have p21 : (0) ≤ (u.toInt) ∧ (u.toInt) ≤ (9) := (tp_cond.yes hw19p) (by omega)
      refine lv_aload_n hx hb dX11_sea_26 rfl (lv_at hl 0 rfl) ?_
      refine tgk_12 hG ht_h0 (fun y22 y23 y24 y25 y26 y27 => ?_)
      refine tpk_12 hT ht_h0 (fun o28_x6 hf_o28 => ?_)
      refine tpk_pos (tp_in hG ht_h0 (by decide)) hf_o28 (fun q29 eq29 => ?_)
      refine va_get (D := (dC, dI)) (ci := 11) (v := .ref (ρ h0 0)) (C := RX11) (T := TX11) (N := 7) hx hb hts hfX11 hown hK hP q29 eq29 rfl 0 (by decide) (hts (.fieldLink RX11 10 "ColdShips" "world" "LColdShips$World;") wa_15) (fun _ h9 => h9) rfl dX11_sea_27 ?_
      refine tgk_11 hG y22 (fun y30 y30n y31 y31n y32 y33 y34 y35 y36 y37 y38 y38w y38m y39 y39w y39m y40 y40w y40m y41 y41w y41m => ?_)
      refine tpk_11 hT y22 (fun o42_x0 o42_x1 o42_x2 o42_x3 o42_x4 o42_x5 o42_x6 hf_o42 ro42_0 ro42_1 ro42_2 ro42_3 => ?_)
      refine tpk_pos (tp_in hG y22 (by decide)) hf_o42 (fun q43 eq43 => ?_)
      refine va_getN (D := (dC, dI)) (ci := 10) (v := .ref (ρ (ρ h0 0) 8)) (C := RX10) (T := TX10) (N := 19) hx hb hts hfX10 hown hK hP q43 eq43 rfl 8 (by decide) (va_Nw.use rfl (hN.1 (.fieldLinkNest RX11 101 "ColdShips$World" "seas" "[I" "ColdShips") nzw_64)) (fun _ h9 => h9) rfl dX11_sea_30 ?_
      refine lv_iload_n hx hb dX11_sea_33 rfl (lv_at hl 1 rfl) ?_
      refine lv_iload_n hx hb dX11_sea_34 rfl (lv_at hl 2 rfl) ?_
      refine tpk_20 hT y31 y31n (fun g45 hf_o44 => ?_)
      refine tpk_pos (tp_in hG y31 (by decide)) hf_o44 (fun q46 eq46 => ?_)
      refine va_iast hx hb hK hP hD hS q46 0 eq46 rfl (vp_in_iff.mpr ⟨by omega, by omega⟩) dX11_sea_35 (tp_k (.inl (κ 0, 100, .inl (upd g45 v.toNatClampNeg u))) hD (tp_in hG y31 (by decide)) eq46 (fun f47 H locs hP hD hS g49 k48 => ?_))
      have hT := hT.up y31 g49 k48 (tp_o20 y31n)
      have hR := hR.up y31 (by decide) k48
      generalize (upd g45 v.toNatClampNeg u) = g50 at g49
      refine lv_aload_n hx hb dX11_sea_36 rfl (lv_at hl 0 rfl) ?_
      refine lv_iconst (v := 0) hx hb dX11_sea_37 (by decide) ?_
      have hf_51 : f47 h0 = .inr (11, [.ref (ρ h0 0), .ref (ρ h0 1), .ref (ρ h0 2), .ref (ρ h0 3), .ref (ρ h0 4), .ref (ρ h0 5), .int o28_x6]) := (k48 _ (tp_ne ht_h0 y31 (by decide))).trans hf_o28
      refine tpk_pos (tp_in hG ht_h0 (by decide)) hf_51 (fun q52 eq52 => ?_)
      have hFc := tp_fr hD hS hA
      refine va_calli (va_runV (As := [.int 0]) (rest := []) ⟨hx, hb, hml, hown, hts⟩ (t_X11_accept l dC dI _ Ω κ τ ν ρ L f47 hG hT h0 (0) ht_h0) (cwV 1 hts gX11_sea_X11_accept rfl rfl rfl ⟨rfl, pd_X11_accept⟩ ⟨Nat.le_of_ble_eq_true rfl, Nat.le_of_ble_eq_true rfl⟩) ⟨pz_blind, va_recv hK hP (ci := 11) (q0 := q52) rfl eq52, pz_pre hP hK hD hN⟩ rfl rfl hl.1 rfl (lv_room (Nat.le_of_ble_eq_true rfl)) dX11_sea_38 ⟨Nat.le_of_ble_eq_true rfl, Nat.le_of_ble_eq_true rfl⟩) hS (fun q _ h => hFc q h) hFc (fun r53 f55 t H1 locs ht hvm hw54 hB hz1 hk1 hS => ?_)
      refine tn_4 hw54 (fun hT hF56 hw54r hw54p => ?_); clear hw54
      have hR := hR.then hF56 (by decide)
      have hP := hB.1; rw [ht] at hP; have hD := tp_ad f55 hD; clear hB hFc hz1 hk1; subst ht; generalize t.heap = H at hP hS ⊢
      exact W.iret (v := r53) hx hb hr (fun t ht hW => ⟨⟨r53, f55, rfl, ⟨hT, hR, trivial, ⟨fun q => by first | exact hw54p | (exfalso; omega), fun q => by first | exact hw54p | (exfalso; omega)⟩⟩, by rw [ht]; exact hP, va_K.moved hW.alike hK, hD⟩, hS.F ht⟩) hS.2.2 dX11_sea_41
    · have ic20 : r18.toInt = 0 := zi_nef rfl rfl c20
      have p57 : ¬ ((0) ≤ (u.toInt) ∧ (u.toInt) ≤ (9)) := (tp_cond.no hw19p) (by omega)
      refine lv_aload_n hx hb dX11_sea_20 rfl (lv_at hl 0 rfl) ?_
      refine lv_iconst (v := (-1)) hx hb dX11_sea_21 (by decide) ?_
      refine tgk_12 hG ht_h0 (fun y58 y59 y60 y61 y62 y63 => ?_)
      refine tpk_12 hT ht_h0 (fun o64_x6 hf_o64 => ?_)
      refine tpk_pos (tp_in hG ht_h0 (by decide)) hf_o64 (fun q65 eq65 => ?_)
      have hFc := tp_fr hD hS hA
      refine va_calli (va_runV (As := [.int (-1)]) (rest := []) ⟨hx, hb, hml, hown, hts⟩ (t_X11_refuse l dC dI _ Ω κ τ ν ρ L f hG hT h0 ((-1)) ht_h0) (cwV 1 hts gX11_sea_X11_refuse rfl rfl rfl ⟨rfl, pd_X11_refuse⟩ ⟨Nat.le_of_ble_eq_true rfl, Nat.le_of_ble_eq_true rfl⟩) ⟨pz_blind, va_recv hK hP (ci := 11) (q0 := q65) rfl eq65, pz_pre hP hK hD hN⟩ rfl rfl hl.1 rfl (lv_room (Nat.le_of_ble_eq_true rfl)) dX11_sea_22 ⟨Nat.le_of_ble_eq_true rfl, Nat.le_of_ble_eq_true rfl⟩) hS (fun q _ h => hFc q h) hFc (fun r66 f68 t H1 locs ht hvm hw67 hB hz1 hk1 hS => ?_)
      refine tn_4 hw67 (fun hT hF69 hw67r hw67p => ?_); clear hw67
      have hR := hR.then hF69 (by decide)
      have hP := hB.1; rw [ht] at hP; have hD := tp_ad f68 hD; clear hB hFc hz1 hk1; subst ht; generalize t.heap = H at hP hS ⊢
      exact W.iret (v := r66) hx hb hr (fun t ht hW => ⟨⟨r66, f68, rfl, ⟨hT, hR, trivial, ⟨fun q => by first | exact hw67p | (exfalso; omega), fun q => by first | exact hw67p | (exfalso; omega)⟩⟩, by rw [ht]; exact hP, va_K.moved hW.alike hK, hD⟩, hS.F ht⟩) hS.2.2 dX11_sea_25
set_option maxHeartbeats 4000000 in
set_option maxRecDepth 100000 in
theorem t_X11_terms (l : Launch) (dC : Nat → ClassId) (dI : Nat → Nat → Nat) (sz : Nat) (Ω : Nat → (Nat → Nat) → va_E → Prop) (κ : Nat → ClassId) (τ ν : Nat → Nat) (ρ : Nat → Nat → Nat) (L : List Nat) (f : Nat → va_E) (hG : tp_G τ ν ρ L) (hT : tp_T Ω κ τ ν ρ f) (h0 : Nat) (v : Int32) (u : Int32) (ht_h0 : τ h0 = 12) : Met l yX11_terms wqX11_terms ({ frames := 3, cells := 0, slots := 0, locals := 800 }) (va_Pc [.ref h0, .int v, .int u] (pz_B dC dI (tp_K κ) (va_pl L f) sz)) (va_Qi (fun (r : Int32) (f1 : Nat → va_E) => tp_T Ω κ τ ν ρ f1 ∧ tp_F τ [2, 3, 4, 5, 6, 7, 8, 9, 10, 11, 12, 20, 21, 22, 26, 27, 28] f f1 ∧ True ∧ (tp_pick r ((0 ≤ v.toInt ∧ v.toInt ≤ 100) ∧ 1 ≤ u.toInt ∧ u.toInt ≤ 1000) 0 (-1))) (fun (f1 : Nat → va_E) (t : State) => pz_E dC dI (tp_K κ) (va_A (va_pl L f) sz) (va_pl L f1) t) (va_A (va_pl L f) sz)) 0 0 (va_A (va_pl L f) sz) := by
  refine Met.ofW (cc := cX11_terms) (maxL := 3) (ret := some .int) (by decide) rfl ?_
  intro p e s m args below meth c s₁ B hml hv
  obtain ⟨rfl, hsz, hP, hK, hD0, hN⟩ := hv
  have hx := B.exec
  have hb := B.bytes
  have hr := B.returns
  have hts := fun (w : Cond) (h : w ∈ WALL) => atoms_spec (ws := wqX11_terms) B.pre w (List.mem_cons_of_mem _ h)
  have hown : s.vm.findClass RX11 = some m.cls := findClass_of_methodNamed B.named
  have hlocks := B.notSynchronized
  subst hsz
  have hD := hD0.self (sz := s.heap.size)
  generalize hAe : va_A (va_pl L f) s.heap.size = A at hD ⊢
  have hA : ∀ q : Nat, s.heap.size ≤ q → A q := fun q h => by rw [← hAe]; exact Or.inr h
  have hS : va_S A s.heap s.heap [] := va_S.rf
  have hR : tp_F τ [2, 3, 4, 5, 6, 7, 8, 9, 10, 11, 12, 20, 21, 22, 26, 27, 28] f f := tp_F.rf
  have hl := lv_entry ([.ref h0, .int v, .int u]) (n := 3) (Nat.le_of_ble_eq_true rfl)
  rw [lg_entry_eq]
  generalize (lg_sl ([.ref h0, .int v, .int u]) ++ List.replicate (3 - (lg_sl ([.ref h0, .int v, .int u])).length) Slot.unset).toArray = ls at hl ⊢
  have hl : lv_has ls 3 [(0, .ref h0), (1, .int v), (2, .int u)] := hl
  refine lv_iload_n hx hb dX11_terms_0 rfl (lv_at hl 1 rfl) ?_
  refine lv_iconst (v := 0) hx hb dX11_terms_1 (by decide) ?_
  refine lv_bipush (v := 100) hx hb dX11_terms_2 (by decide) ?_
  refine pz_calli (va_runS (As := [.int v, .int 0, .int 100]) (rest := []) ⟨hx, hb, hml, hown, hts⟩ (t_X11_within l dC dI _ v (0) (100) (v.toInt) (0) (100) rfl rfl rfl) (va_cwS 3 hts gX11_terms_X11_within rfl rfl rfl pd_X11_within ⟨Nat.le_of_ble_eq_true rfl, Nat.le_of_ble_eq_true rfl⟩) ⟨pz_blind, pz_pre pz_P0 (hK.sub (tys' := []) [] rfl) (pz_D0 (A := fun _ => True)) hN⟩ rfl rfl hl.1 rfl (lv_room (Nat.le_of_ble_eq_true rfl)) dX11_terms_4 ⟨Nat.le_of_ble_eq_true rfl, Nat.le_of_ble_eq_true rfl⟩) (fun r1 hw2 => ?_)
  obtain ⟨hw2r, hw2p⟩ := hw2
  refine lv_if_eq (tgt := 21) hx hb dX11_terms_7 (by decide) (fun c3 => ?_) (fun c3 => ?_)
  · have ic3 : r1.toInt = 0 := zi_eq rfl rfl c3
    have p4 : ¬ ((0) ≤ (v.toInt) ∧ (v.toInt) ≤ (100)) := (tp_cond.no hw2p) (by omega)
    refine lv_aload_n hx hb dX11_terms_21 rfl (lv_at hl 0 rfl) ?_
    refine lv_iconst (v := (-1)) hx hb dX11_terms_22 (by decide) ?_
    refine tgk_12 hG ht_h0 (fun y5 y6 y7 y8 y9 y10 => ?_)
    refine tpk_12 hT ht_h0 (fun o11_x6 hf_o11 => ?_)
    refine tpk_pos (tp_in hG ht_h0 (by decide)) hf_o11 (fun q12 eq12 => ?_)
    have hFc := tp_fr hD hS hA
    refine va_calli (va_runV (As := [.int (-1)]) (rest := []) ⟨hx, hb, hml, hown, hts⟩ (t_X11_refuse l dC dI _ Ω κ τ ν ρ L f hG hT h0 ((-1)) ht_h0) (cwV 1 hts gX11_terms_X11_refuse rfl rfl rfl ⟨rfl, pd_X11_refuse⟩ ⟨Nat.le_of_ble_eq_true rfl, Nat.le_of_ble_eq_true rfl⟩) ⟨pz_blind, va_recv hK hP (ci := 11) (q0 := q12) rfl eq12, pz_pre hP hK hD hN⟩ rfl rfl hl.1 rfl (lv_room (Nat.le_of_ble_eq_true rfl)) dX11_terms_23 ⟨Nat.le_of_ble_eq_true rfl, Nat.le_of_ble_eq_true rfl⟩) hS (fun q _ h => hFc q h) hFc (fun r13 f15 t H1 locs ht hvm hw14 hB hz1 hk1 hS => ?_)
    refine tn_4 hw14 (fun hT hF16 hw14r hw14p => ?_); clear hw14
    have hR := hR.then hF16 (by decide)
    have hP := hB.1; rw [ht] at hP; have hD := tp_ad f15 hD; clear hB hFc hz1 hk1; subst ht; generalize t.heap = H at hP hS ⊢
    exact W.iret (v := r13) hx hb hr (fun t ht hW => ⟨⟨r13, f15, rfl, ⟨hT, hR, trivial, ⟨fun q => by first | exact hw14p | (exfalso; omega), fun q => by first | exact hw14p | (exfalso; omega)⟩⟩, by rw [ht]; exact hP, va_K.moved hW.alike hK, hD⟩, hS.F ht⟩) hS.2.2 dX11_terms_26
  · have ic3 : r1.toInt ≠ 0 := zi_eqf rfl rfl c3
    have p17 : (0) ≤ (v.toInt) ∧ (v.toInt) ≤ (100) := (tp_cond.yes hw2p) (by omega)
    refine lv_iload_n hx hb dX11_terms_10 rfl (lv_at hl 2 rfl) ?_
    refine lv_iconst (v := 1) hx hb dX11_terms_11 (by decide) ?_
    refine lv_sipush (v := 1000) hx hb dX11_terms_12 (by decide) ?_
    refine pz_calli (va_runS (As := [.int u, .int 1, .int 1000]) (rest := []) ⟨hx, hb, hml, hown, hts⟩ (t_X11_within l dC dI _ u (1) (1000) (u.toInt) (1) (1000) rfl rfl rfl) (va_cwS 3 hts gX11_terms_X11_within rfl rfl rfl pd_X11_within ⟨Nat.le_of_ble_eq_true rfl, Nat.le_of_ble_eq_true rfl⟩) ⟨pz_blind, pz_pre pz_P0 (hK.sub (tys' := []) [] rfl) (pz_D0 (A := fun _ => True)) hN⟩ rfl rfl hl.1 rfl (lv_room (Nat.le_of_ble_eq_true rfl)) dX11_terms_15 ⟨Nat.le_of_ble_eq_true rfl, Nat.le_of_ble_eq_true rfl⟩) (fun r18 hw19 => ?_)
    obtain ⟨hw19r, hw19p⟩ := hw19
    refine lv_if_ne (tgt := 27) hx hb dX11_terms_18 (by decide) (fun c20 => ?_) (fun c20 => ?_)
    · have ic20 : r18.toInt ≠ 0 := zi_ne rfl rfl c20
      have p21 : (1) ≤ (u.toInt) ∧ (u.toInt) ≤ (1000) := (tp_cond.yes hw19p) (by omega)
      refine lv_aload_n hx hb dX11_terms_27 rfl (lv_at hl 0 rfl) ?_
      refine tgk_12 hG ht_h0 (fun y22 y23 y24 y25 y26 y27 => ?_)
      refine tpk_12 hT ht_h0 (fun o28_x6 hf_o28 => ?_)
      refine tpk_pos (tp_in hG ht_h0 (by decide)) hf_o28 (fun q29 eq29 => ?_)
      refine va_get (D := (dC, dI)) (ci := 11) (v := .ref (ρ h0 0)) (C := RX11) (T := TX11) (N := 7) hx hb hts hfX11 hown hK hP q29 eq29 rfl 0 (by decide) (hts (.fieldLink RX11 10 "ColdShips" "world" "LColdShips$World;") wa_15) (fun _ h9 => h9) rfl dX11_terms_28 ?_
      refine lv_iload_n hx hb dX11_terms_31 rfl (lv_at hl 1 rfl) ?_
      refine tgk_11 hG y22 (fun y30 y30n y31 y31n y32 y33 y34 y35 y36 y37 y38 y38w y38m y39 y39w y39m y40 y40w y40m y41 y41w y41m => ?_)
      refine tpk_11 hT y22 (fun o42_x0 o42_x1 o42_x2 o42_x3 o42_x4 o42_x5 o42_x6 hf_o42 ro42_0 ro42_1 ro42_2 ro42_3 => ?_)
      refine tpk_pos (tp_in hG y22 (by decide)) hf_o42 (fun q43 eq43 => ?_)
      refine va_putN (D := (dC, dI)) (ci := 10) (v := .int v) (ty := .int) (C := RX10) (T := TX10) (N := 19) hx hb hts hfX10 tyX10 tyX10_ok nmX10 hown hK hP hD hS q43 eq43 rfl 1 (by decide) (va_Nw.use rfl (hN.1 (.fieldLinkNest RX11 135 "ColdShips$World" "boils" "I" "ColdShips") nzw_51)) (fun _ h9 => h9) rfl (tyX10_ok 1 (by decide)) rfl rfl (Nat.le_of_ble_eq_true rfl) dX11_terms_32 (tp_k (.inr (10, [.int o42_x0, .int v, .int o42_x2, .int o42_x3, .int o42_x4, .int o42_x5, .int o42_x6, .ref (ρ (ρ h0 0) 7), .ref (ρ (ρ h0 0) 8), .ref (ρ (ρ h0 0) 9), .ref (ρ (ρ h0 0) 10), .ref (ρ (ρ h0 0) 11), .ref (ρ (ρ h0 0) 12), .ref (ρ (ρ h0 0) 13), .ref (ρ (ρ h0 0) 14), .ref (ρ (ρ h0 0) 15), .ref (ρ (ρ h0 0) 16), .ref (ρ (ρ h0 0) 17), .ref (ρ (ρ h0 0) 18)])) hD (tp_in hG y22 (by decide)) eq43 (fun f44 H locs hP hD hS g46 k45 => ?_))
      have hT := hT.up y22 g46 k45 ⟨_, _, _, _, _, _, _, rfl, (by first | decide | omega | (omega)), (by first | decide | omega | (omega)), (by first | decide | omega | (omega)), (by first | decide | omega | (omega))⟩
      have hR := hR.up y22 (by decide) k45
      refine lv_aload_n hx hb dX11_terms_35 rfl (lv_at hl 0 rfl) ?_
      have hf_47 : f44 h0 = .inr (11, [.ref (ρ h0 0), .ref (ρ h0 1), .ref (ρ h0 2), .ref (ρ h0 3), .ref (ρ h0 4), .ref (ρ h0 5), .int o28_x6]) := (k45 _ (tp_ne ht_h0 y22 (by decide))).trans hf_o28
      refine tpk_pos (tp_in hG ht_h0 (by decide)) hf_47 (fun q48 eq48 => ?_)
      refine va_get (D := (dC, dI)) (ci := 11) (v := .ref (ρ h0 0)) (C := RX11) (T := TX11) (N := 7) hx hb hts hfX11 hown hK hP q48 eq48 rfl 0 (by decide) (hts (.fieldLink RX11 10 "ColdShips" "world" "LColdShips$World;") wa_15) (fun _ h9 => h9) rfl dX11_terms_36 ?_
      refine lv_iload_n hx hb dX11_terms_39 rfl (lv_at hl 2 rfl) ?_
      refine tpk_pos (tp_in hG y22 (by decide)) g46 (fun q49 eq49 => ?_)
      refine va_putN (D := (dC, dI)) (ci := 10) (v := .int u) (ty := .int) (C := RX10) (T := TX10) (N := 19) hx hb hts hfX10 tyX10 tyX10_ok nmX10 hown hK hP hD hS q49 eq49 rfl 2 (by decide) (va_Nw.use rfl (hN.1 (.fieldLinkNest RX11 138 "ColdShips$World" "limit" "I" "ColdShips") nzw_54)) (fun _ h9 => h9) rfl (tyX10_ok 2 (by decide)) rfl rfl (Nat.le_of_ble_eq_true rfl) dX11_terms_40 (tp_k (.inr (10, [.int o42_x0, .int v, .int u, .int o42_x3, .int o42_x4, .int o42_x5, .int o42_x6, .ref (ρ (ρ h0 0) 7), .ref (ρ (ρ h0 0) 8), .ref (ρ (ρ h0 0) 9), .ref (ρ (ρ h0 0) 10), .ref (ρ (ρ h0 0) 11), .ref (ρ (ρ h0 0) 12), .ref (ρ (ρ h0 0) 13), .ref (ρ (ρ h0 0) 14), .ref (ρ (ρ h0 0) 15), .ref (ρ (ρ h0 0) 16), .ref (ρ (ρ h0 0) 17), .ref (ρ (ρ h0 0) 18)])) hD (tp_in hG y22 (by decide)) eq49 (fun f50 H locs hP hD hS g52 k51 => ?_))
      have hT := hT.up y22 g52 k51 ⟨_, _, _, _, _, _, _, rfl, (by first | decide | omega | (omega)), (by first | decide | omega | (omega)), (by first | decide | omega | (omega)), (by first | decide | omega | (omega))⟩
      have hR := hR.up y22 (by decide) k51
      refine lv_aload_n hx hb dX11_terms_43 rfl (lv_at hl 0 rfl) ?_
      refine lv_iconst (v := 0) hx hb dX11_terms_44 (by decide) ?_
      have hf_53 : f50 h0 = .inr (11, [.ref (ρ h0 0), .ref (ρ h0 1), .ref (ρ h0 2), .ref (ρ h0 3), .ref (ρ h0 4), .ref (ρ h0 5), .int o28_x6]) := (k51 _ (tp_ne ht_h0 y22 (by decide))).trans hf_47
      refine tpk_pos (tp_in hG ht_h0 (by decide)) hf_53 (fun q54 eq54 => ?_)
      have hFc := tp_fr hD hS hA
      refine va_calli (va_runV (As := [.int 0]) (rest := []) ⟨hx, hb, hml, hown, hts⟩ (t_X11_accept l dC dI _ Ω κ τ ν ρ L f50 hG hT h0 (0) ht_h0) (cwV 1 hts gX11_terms_X11_accept rfl rfl rfl ⟨rfl, pd_X11_accept⟩ ⟨Nat.le_of_ble_eq_true rfl, Nat.le_of_ble_eq_true rfl⟩) ⟨pz_blind, va_recv hK hP (ci := 11) (q0 := q54) rfl eq54, pz_pre hP hK hD hN⟩ rfl rfl hl.1 rfl (lv_room (Nat.le_of_ble_eq_true rfl)) dX11_terms_45 ⟨Nat.le_of_ble_eq_true rfl, Nat.le_of_ble_eq_true rfl⟩) hS (fun q _ h => hFc q h) hFc (fun r55 f57 t H1 locs ht hvm hw56 hB hz1 hk1 hS => ?_)
      refine tn_4 hw56 (fun hT hF58 hw56r hw56p => ?_); clear hw56
      have hR := hR.then hF58 (by decide)
      have hP := hB.1; rw [ht] at hP; have hD := tp_ad f57 hD; clear hB hFc hz1 hk1; subst ht; generalize t.heap = H at hP hS ⊢
      exact W.iret (v := r55) hx hb hr (fun t ht hW => ⟨⟨r55, f57, rfl, ⟨hT, hR, trivial, ⟨fun q => by first | exact hw56p | (exfalso; omega), fun q => by first | exact hw56p | (exfalso; omega)⟩⟩, by rw [ht]; exact hP, va_K.moved hW.alike hK, hD⟩, hS.F ht⟩) hS.2.2 dX11_terms_48
    · have ic20 : r18.toInt = 0 := zi_nef rfl rfl c20
      have p59 : ¬ ((1) ≤ (u.toInt) ∧ (u.toInt) ≤ (1000)) := (tp_cond.no hw19p) (by omega)
      refine lv_aload_n hx hb dX11_terms_21 rfl (lv_at hl 0 rfl) ?_
      refine lv_iconst (v := (-1)) hx hb dX11_terms_22 (by decide) ?_
      refine tgk_12 hG ht_h0 (fun y60 y61 y62 y63 y64 y65 => ?_)
      refine tpk_12 hT ht_h0 (fun o66_x6 hf_o66 => ?_)
      refine tpk_pos (tp_in hG ht_h0 (by decide)) hf_o66 (fun q67 eq67 => ?_)
      have hFc := tp_fr hD hS hA
      refine va_calli (va_runV (As := [.int (-1)]) (rest := []) ⟨hx, hb, hml, hown, hts⟩ (t_X11_refuse l dC dI _ Ω κ τ ν ρ L f hG hT h0 ((-1)) ht_h0) (cwV 1 hts gX11_terms_X11_refuse rfl rfl rfl ⟨rfl, pd_X11_refuse⟩ ⟨Nat.le_of_ble_eq_true rfl, Nat.le_of_ble_eq_true rfl⟩) ⟨pz_blind, va_recv hK hP (ci := 11) (q0 := q67) rfl eq67, pz_pre hP hK hD hN⟩ rfl rfl hl.1 rfl (lv_room (Nat.le_of_ble_eq_true rfl)) dX11_terms_23 ⟨Nat.le_of_ble_eq_true rfl, Nat.le_of_ble_eq_true rfl⟩) hS (fun q _ h => hFc q h) hFc (fun r68 f70 t H1 locs ht hvm hw69 hB hz1 hk1 hS => ?_)
      refine tn_4 hw69 (fun hT hF71 hw69r hw69p => ?_); clear hw69
      have hR := hR.then hF71 (by decide)
      have hP := hB.1; rw [ht] at hP; have hD := tp_ad f70 hD; clear hB hFc hz1 hk1; subst ht; generalize t.heap = H at hP hS ⊢
      exact W.iret (v := r68) hx hb hr (fun t ht hW => ⟨⟨r68, f70, rfl, ⟨hT, hR, trivial, ⟨fun q => by first | exact hw69p | (exfalso; omega), fun q => by first | exact hw69p | (exfalso; omega)⟩⟩, by rw [ht]; exact hP, va_K.moved hW.alike hK, hD⟩, hS.F ht⟩) hS.2.2 dX11_terms_26
set_option maxHeartbeats 4000000 in
set_option maxRecDepth 100000 in
theorem t_X11_slot (l : Launch) (dC : Nat → ClassId) (dI : Nat → Nat → Nat) (sz : Nat) (Ω : Nat → (Nat → Nat) → va_E → Prop) (κ : Nat → ClassId) (τ ν : Nat → Nat) (ρ : Nat → Nat → Nat) (L : List Nat) (f : Nat → va_E) (hG : tp_G τ ν ρ L) (hT : tp_T Ω κ τ ν ρ f) (h0 : Nat) (v : Int32) (u : Int32) (a : Int32) (b : Int32) (ht_h0 : τ h0 = 12) : Met l yX11_slot wqX11_slot ({ frames := 5, cells := 0, slots := 0, locals := 1600 }) (va_Pc [.ref h0, .int v, .int u, .int a, .int b] (pz_B dC dI (tp_K κ) (va_pl L f) sz)) (va_Qi (fun (r : Int32) (f1 : Nat → va_E) => tp_T Ω κ τ ν ρ f1 ∧ tp_F τ [2, 3, 4, 5, 6, 7, 8, 9, 10, 11, 12, 20, 21, 22, 26, 27, 28] f f1 ∧ True ∧ True) (fun (f1 : Nat → va_E) (t : State) => pz_E dC dI (tp_K κ) (va_A (va_pl L f) sz) (va_pl L f1) t) (va_A (va_pl L f) sz)) 0 0 (va_A (va_pl L f) sz) := by
  refine Met.ofW (cc := cX11_slot) (maxL := 5) (ret := some .int) (by decide) rfl ?_
  intro p e s m args below meth c s₁ B hml hv
  obtain ⟨rfl, hsz, hP, hK, hD0, hN⟩ := hv
  have hx := B.exec
  have hb := B.bytes
  have hr := B.returns
  have hts := fun (w : Cond) (h : w ∈ WALL) => atoms_spec (ws := wqX11_slot) B.pre w (List.mem_cons_of_mem _ h)
  have hown : s.vm.findClass RX11 = some m.cls := findClass_of_methodNamed B.named
  have hlocks := B.notSynchronized
  subst hsz
  have hD := hD0.self (sz := s.heap.size)
  generalize hAe : va_A (va_pl L f) s.heap.size = A at hD ⊢
  have hA : ∀ q : Nat, s.heap.size ≤ q → A q := fun q h => by rw [← hAe]; exact Or.inr h
  have hS : va_S A s.heap s.heap [] := va_S.rf
  have hR : tp_F τ [2, 3, 4, 5, 6, 7, 8, 9, 10, 11, 12, 20, 21, 22, 26, 27, 28] f f := tp_F.rf
  have hl := lv_entry ([.ref h0, .int v, .int u, .int a, .int b]) (n := 5) (Nat.le_of_ble_eq_true rfl)
  rw [lg_entry_eq]
  generalize (lg_sl ([.ref h0, .int v, .int u, .int a, .int b]) ++ List.replicate (5 - (lg_sl ([.ref h0, .int v, .int u, .int a, .int b])).length) Slot.unset).toArray = ls at hl ⊢
  have hl : lv_has ls 5 [(0, .ref h0), (1, .int v), (2, .int u), (3, .int a), (4, .int b)] := hl
  refine lv_iload_n hx hb dX11_slot_0 rfl (lv_at hl 3 rfl) ?_
  refine lv_iload hx hb dX11_slot_1 (lv_at hl 4 rfl) ?_
  refine pz_calli (va_runS (As := [.int a, .int b]) (rest := []) ⟨hx, hb, hml, hown, hts⟩ (t_X11_isSpan l dC dI _ a b (a.toInt) (b.toInt) rfl rfl) (va_cwS 2 hts gX11_slot_X11_isSpan rfl rfl rfl pd_X11_isSpan ⟨Nat.le_of_ble_eq_true rfl, Nat.le_of_ble_eq_true rfl⟩) ⟨pz_blind, pz_pre pz_P0 (hK.sub (tys' := []) [] rfl) (pz_D0 (A := fun _ => True)) hN⟩ rfl rfl hl.1 rfl (lv_room (Nat.le_of_ble_eq_true rfl)) dX11_slot_3 ⟨Nat.le_of_ble_eq_true rfl, Nat.le_of_ble_eq_true rfl⟩) (fun r1 hw2 => ?_)
  obtain ⟨hw2r, hw2p⟩ := hw2
  refine lv_if_ne (tgt := 15) hx hb dX11_slot_6 (by decide) (fun c3 => ?_) (fun c3 => ?_)
  · have ic3 : r1.toInt ≠ 0 := zi_ne rfl rfl c3
    have p4 : (0 ≤ (a.toInt) ∧ (a.toInt) ≤ 2399) ∧ (0 ≤ (b.toInt) ∧ (b.toInt) ≤ 2399) ∧ (a.toInt) ≤ (b.toInt) := (tp_cond.yes hw2p) (by omega)
    refine lv_aload_n hx hb dX11_slot_15 rfl (lv_at hl 0 rfl) ?_
    refine tgk_12 hG ht_h0 (fun y5 y6 y7 y8 y9 y10 => ?_)
    refine tpk_12 hT ht_h0 (fun o11_x6 hf_o11 => ?_)
    refine tpk_pos (tp_in hG ht_h0 (by decide)) hf_o11 (fun q12 eq12 => ?_)
    refine va_get (D := (dC, dI)) (ci := 11) (v := .ref (ρ h0 0)) (C := RX11) (T := TX11) (N := 7) hx hb hts hfX11 hown hK hP q12 eq12 rfl 0 (by decide) (hts (.fieldLink RX11 10 "ColdShips" "world" "LColdShips$World;") wa_15) (fun _ h9 => h9) rfl dX11_slot_16 ?_
    refine lv_iload_n hx hb dX11_slot_19 rfl (lv_at hl 1 rfl) ?_
    refine tgk_11 hG y5 (fun y13 y13n y14 y14n y15 y16 y17 y18 y19 y20 y21 y21w y21m y22 y22w y22m y23 y23w y23m y24 y24w y24m => ?_)
    refine tpk_11 hT y5 (fun o25_x0 o25_x1 o25_x2 o25_x3 o25_x4 o25_x5 o25_x6 hf_o25 ro25_0 ro25_1 ro25_2 ro25_3 => ?_)
    refine tpk_pos (tp_in hG y5 (by decide)) hf_o25 (fun q26 eq26 => ?_)
    refine pz_calli (va_runV (As := [.int v]) (rest := []) ⟨hx, hb, hml, hown, hts⟩ (t_X10_hasTerminal l dC dI _ Ω κ τ ν ρ L f hG hT (ρ h0 0) v y5 o25_x0 o25_x1 o25_x2 o25_x3 o25_x4 o25_x5 o25_x6 hf_o25) (cwV 1 hts gX11_slot_X10_hasTerminal rfl rfl rfl ⟨rfl, pd_X10_hasTerminal⟩ ⟨Nat.le_of_ble_eq_true rfl, Nat.le_of_ble_eq_true rfl⟩) ⟨pz_blind, va_recv hK hP (ci := 10) (q0 := q26) rfl eq26, pz_pre hP hK hD hN⟩ rfl rfl hl.1 rfl (lv_room (Nat.le_of_ble_eq_true rfl)) dX11_slot_20 ⟨Nat.le_of_ble_eq_true rfl, Nat.le_of_ble_eq_true rfl⟩) (fun r27 hw28 => ?_)
    obtain ⟨hw28r, hw28p⟩ := hw28
    refine lv_if_eq (tgt := 37) hx hb dX11_slot_23 (by decide) (fun c29 => ?_) (fun c29 => ?_)
    · have ic29 : r27.toInt = 0 := zi_eq rfl rfl c29
      refine lv_aload_n hx hb dX11_slot_37 rfl (lv_at hl 0 rfl) ?_
      refine lv_bipush (v := (-2)) hx hb dX11_slot_38 (by decide) ?_
      have hFc := tp_fr hD hS hA
      refine va_calli (va_runV (As := [.int (-2)]) (rest := []) ⟨hx, hb, hml, hown, hts⟩ (t_X11_refuse l dC dI _ Ω κ τ ν ρ L f hG hT h0 ((-2)) ht_h0) (cwV 1 hts gX11_slot_X11_refuse rfl rfl rfl ⟨rfl, pd_X11_refuse⟩ ⟨Nat.le_of_ble_eq_true rfl, Nat.le_of_ble_eq_true rfl⟩) ⟨pz_blind, va_recv hK hP (ci := 11) (q0 := q12) rfl eq12, pz_pre hP hK hD hN⟩ rfl rfl hl.1 rfl (lv_room (Nat.le_of_ble_eq_true rfl)) dX11_slot_40 ⟨Nat.le_of_ble_eq_true rfl, Nat.le_of_ble_eq_true rfl⟩) hS (fun q _ h => hFc q h) hFc (fun r30 f32 t H1 locs ht hvm hw31 hB hz1 hk1 hS => ?_)
      refine tn_4 hw31 (fun hT hF33 hw31r hw31p => ?_); clear hw31
      have hR := hR.then hF33 (by decide)
      have hP := hB.1; rw [ht] at hP; have hD := tp_ad f32 hD; clear hB hFc hz1 hk1; subst ht; generalize t.heap = H at hP hS ⊢
      exact W.iret (v := r30) hx hb hr (fun t ht hW => ⟨⟨r30, f32, rfl, ⟨hT, hR, trivial, trivial⟩, by rw [ht]; exact hP, va_K.moved hW.alike hK, hD⟩, hS.F ht⟩) hS.2.2 dX11_slot_43
    · have ic29 : r27.toInt ≠ 0 := zi_eqf rfl rfl c29
      have p34 : 0 ≤ v.toInt ∧ v.toInt < o25_x4.toInt := (tp_cond.yes hw28p) (by omega)
      refine lv_aload_n hx hb dX11_slot_26 rfl (lv_at hl 0 rfl) ?_
      refine va_get (D := (dC, dI)) (ci := 11) (v := .ref (ρ h0 0)) (C := RX11) (T := TX11) (N := 7) hx hb hts hfX11 hown hK hP q12 eq12 rfl 0 (by decide) (hts (.fieldLink RX11 10 "ColdShips" "world" "LColdShips$World;") wa_15) (fun _ h9 => h9) rfl dX11_slot_27 ?_
      refine lv_iload_n hx hb dX11_slot_30 rfl (lv_at hl 2 rfl) ?_
      refine pz_calli (va_runV (As := [.int u]) (rest := []) ⟨hx, hb, hml, hown, hts⟩ (t_X10_hasShip l dC dI _ Ω κ τ ν ρ L f hG hT (ρ h0 0) u y5 o25_x0 o25_x1 o25_x2 o25_x3 o25_x4 o25_x5 o25_x6 hf_o25) (cwV 1 hts gX11_slot_X10_hasShip rfl rfl rfl ⟨rfl, pd_X10_hasShip⟩ ⟨Nat.le_of_ble_eq_true rfl, Nat.le_of_ble_eq_true rfl⟩) ⟨pz_blind, va_recv hK hP (ci := 10) (q0 := q26) rfl eq26, pz_pre hP hK hD hN⟩ rfl rfl hl.1 rfl (lv_room (Nat.le_of_ble_eq_true rfl)) dX11_slot_31 ⟨Nat.le_of_ble_eq_true rfl, Nat.le_of_ble_eq_true rfl⟩) (fun r35 hw36 => ?_)
      obtain ⟨hw36r, hw36p⟩ := hw36
      refine lv_if_ne (tgt := 44) hx hb dX11_slot_34 (by decide) (fun c37 => ?_) (fun c37 => ?_)
      · have ic37 : r35.toInt ≠ 0 := zi_ne rfl rfl c37
        have p38 : 0 ≤ u.toInt ∧ u.toInt < o25_x5.toInt := (tp_cond.yes hw36p) (by omega)
        refine lv_aload_n hx hb dX11_slot_44 rfl (lv_at hl 0 rfl) ?_
        refine va_get (D := (dC, dI)) (ci := 11) (v := .ref (ρ h0 0)) (C := RX11) (T := TX11) (N := 7) hx hb hts hfX11 hown hK hP q12 eq12 rfl 0 (by decide) (hts (.fieldLink RX11 10 "ColdShips" "world" "LColdShips$World;") wa_15) (fun _ h9 => h9) rfl dX11_slot_45 ?_
        refine va_getN (D := (dC, dI)) (ci := 10) (v := .ref (ρ (ρ h0 0) 12)) (C := RX10) (T := TX10) (N := 19) hx hb hts hfX10 hown hK hP q26 eq26 rfl 12 (by decide) (va_Nw.use rfl (hN.1 (.fieldLinkNest RX11 111 "ColdShips$World" "slots" "LColdShips$Spans;" "ColdShips") nzw_74)) (fun _ h9 => h9) rfl dX11_slot_48 ?_
        refine lv_iload_n hx hb dX11_slot_51 rfl (lv_at hl 1 rfl) ?_
        refine lv_iconst (v := 0) hx hb dX11_slot_52 (by decide) ?_
        refine pz_calli (va_runS (As := [.int v, .int 0]) (rest := [.ref (ρ (ρ h0 0) 12)]) ⟨hx, hb, hml, hown, hts⟩ (t_X11_slotOwner l dC dI _ v (0)) (va_cwS 2 hts gX11_slot_X11_slotOwner rfl rfl rfl pd_X11_slotOwner ⟨Nat.le_of_ble_eq_true rfl, Nat.le_of_ble_eq_true rfl⟩) ⟨pz_blind, pz_pre pz_P0 (hK.sub (tys' := []) [] rfl) (pz_D0 (A := fun _ => True)) hN⟩ rfl rfl hl.1 rfl (lv_room (Nat.le_of_ble_eq_true rfl)) dX11_slot_53 ⟨Nat.le_of_ble_eq_true rfl, Nat.le_of_ble_eq_true rfl⟩) (fun r39 hw40 => ?_)
        obtain ⟨hw40r, hw40p⟩ := hw40
        refine lv_iload_n hx hb dX11_slot_56 rfl (lv_at hl 1 rfl) ?_
        refine lv_iconst (v := 5) hx hb dX11_slot_57 (by decide) ?_
        refine pz_calli (va_runS (As := [.int v, .int 5]) (rest := [.int r39, .ref (ρ (ρ h0 0) 12)]) ⟨hx, hb, hml, hown, hts⟩ (t_X11_slotOwner l dC dI _ v (5)) (va_cwS 2 hts gX11_slot_X11_slotOwner rfl rfl rfl pd_X11_slotOwner ⟨Nat.le_of_ble_eq_true rfl, Nat.le_of_ble_eq_true rfl⟩) ⟨pz_blind, pz_pre pz_P0 (hK.sub (tys' := []) [] rfl) (pz_D0 (A := fun _ => True)) hN⟩ rfl rfl hl.1 rfl (lv_room (Nat.le_of_ble_eq_true rfl)) dX11_slot_58 ⟨Nat.le_of_ble_eq_true rfl, Nat.le_of_ble_eq_true rfl⟩) (fun r41 hw42 => ?_)
        obtain ⟨hw42r, hw42p⟩ := hw42
        refine lv_iload_n hx hb dX11_slot_61 rfl (lv_at hl 3 rfl) ?_
        refine lv_iload hx hb dX11_slot_62 (lv_at hl 4 rfl) ?_
        refine tgk_7 hG y18 (fun y43 y43n y44 y44n y45 y45n => ?_)
        refine tpk_7 hT y18 (fun o46_x3 hf_o46 ro46_0 => ?_)
        refine tpk_pos (tp_in hG y18 (by decide)) hf_o46 (fun q47 eq47 => ?_)
        refine pz_calli (va_runV (As := [.int r39, .int r41, .int a, .int b]) (rest := []) ⟨hx, hb, hml, hown, hts⟩ (t_X6_meets l dC dI _ Ω κ τ ν ρ L f hG hT (ρ (ρ h0 0) 12) r39 r41 a b y18 o46_x3 hf_o46) (cwV 4 hts gX11_slot_X6_meets rfl rfl rfl ⟨rfl, pd_X6_meets⟩ ⟨Nat.le_of_ble_eq_true rfl, Nat.le_of_ble_eq_true rfl⟩) ⟨pz_blind, va_recv hK hP (ci := 6) (q0 := q47) rfl eq47, pz_pre hP hK hD hN⟩ rfl rfl hl.1 rfl (lv_room (Nat.le_of_ble_eq_true rfl)) dX11_slot_64 ⟨Nat.le_of_ble_eq_true rfl, Nat.le_of_ble_eq_true rfl⟩) (fun r48 hw49 => ?_)
        obtain ⟨hw49r, hw49p⟩ := hw49
        refine lv_if_eq (tgt := 77) hx hb dX11_slot_67 (by decide) (fun c50 => ?_) (fun c50 => ?_)
        · have ic50 : r48.toInt = 0 := zi_eq rfl rfl c50
          refine lv_aload_n hx hb dX11_slot_77 rfl (lv_at hl 0 rfl) ?_
          refine lv_aload_n hx hb dX11_slot_78 rfl (lv_at hl 0 rfl) ?_
          refine va_get (D := (dC, dI)) (ci := 11) (v := .ref (ρ h0 0)) (C := RX11) (T := TX11) (N := 7) hx hb hts hfX11 hown hK hP q12 eq12 rfl 0 (by decide) (hts (.fieldLink RX11 10 "ColdShips" "world" "LColdShips$World;") wa_15) (fun _ h9 => h9) rfl dX11_slot_79 ?_
          refine va_getN (D := (dC, dI)) (ci := 10) (v := .ref (ρ (ρ h0 0) 12)) (C := RX10) (T := TX10) (N := 19) hx hb hts hfX10 hown hK hP q26 eq26 rfl 12 (by decide) (va_Nw.use rfl (hN.1 (.fieldLinkNest RX11 111 "ColdShips$World" "slots" "LColdShips$Spans;" "ColdShips") nzw_74)) (fun _ h9 => h9) rfl dX11_slot_82 ?_
          refine lv_iload_n hx hb dX11_slot_85 rfl (lv_at hl 1 rfl) ?_
          refine lv_iload_n hx hb dX11_slot_86 rfl (lv_at hl 2 rfl) ?_
          refine pz_calli (va_runS (As := [.int v, .int u]) (rest := [.ref (ρ (ρ h0 0) 12), .ref h0]) ⟨hx, hb, hml, hown, hts⟩ (t_X11_slotOwner l dC dI _ v u) (va_cwS 2 hts gX11_slot_X11_slotOwner rfl rfl rfl pd_X11_slotOwner ⟨Nat.le_of_ble_eq_true rfl, Nat.le_of_ble_eq_true rfl⟩) ⟨pz_blind, pz_pre pz_P0 (hK.sub (tys' := []) [] rfl) (pz_D0 (A := fun _ => True)) hN⟩ rfl rfl hl.1 rfl (lv_room (Nat.le_of_ble_eq_true rfl)) dX11_slot_87 ⟨Nat.le_of_ble_eq_true rfl, Nat.le_of_ble_eq_true rfl⟩) (fun r51 hw52 => ?_)
          obtain ⟨hw52r, hw52p⟩ := hw52
          refine lv_iload_n hx hb dX11_slot_90 rfl (lv_at hl 3 rfl) ?_
          refine lv_iload hx hb dX11_slot_91 (lv_at hl 4 rfl) ?_
          have hFc := tp_fr hD hS hA
          refine va_calli (va_runV (As := [.int r51, .int a, .int b]) (rest := [.ref h0]) ⟨hx, hb, hml, hown, hts⟩ (t_X6_add l dC dI _ Ω κ τ ν ρ L f hG hT (ρ (ρ h0 0) 12) r51 a b y18 o46_x3 hf_o46) (cwV 3 hts gX11_slot_X6_add rfl rfl rfl ⟨rfl, pd_X6_add⟩ ⟨Nat.le_of_ble_eq_true rfl, Nat.le_of_ble_eq_true rfl⟩) ⟨pz_blind, va_recv hK hP (ci := 6) (q0 := q47) rfl eq47, pz_pre hP hK hD hN⟩ rfl rfl hl.1 rfl (lv_room (Nat.le_of_ble_eq_true rfl)) dX11_slot_93 ⟨Nat.le_of_ble_eq_true rfl, Nat.le_of_ble_eq_true rfl⟩) hS (fun q _ h => hFc q h) hFc (fun r53 f55 t H1 locs ht hvm hw54 hB hz1 hk1 hS => ?_)
          refine tn_4 hw54 (fun hT hF56 hw54r hw54p => ?_); clear hw54
          have hR := hR.then hF56 (by decide)
          have hP := hB.1; rw [ht] at hP; have hD := tp_ad f55 hD; clear hB hFc hz1 hk1; subst ht; generalize t.heap = H at hP hS ⊢
          have hf_57 : f55 h0 = .inr (11, [.ref (ρ h0 0), .ref (ρ h0 1), .ref (ρ h0 2), .ref (ρ h0 3), .ref (ρ h0 4), .ref (ρ h0 5), .int o11_x6]) := (hF56 _ (by rw [ht_h0]; decide)).trans hf_o11
          refine tpk_pos (tp_in hG ht_h0 (by decide)) hf_57 (fun q58 eq58 => ?_)
          have hFc := tp_fr hD hS hA
          refine va_calli (va_runV (As := [.int r53]) (rest := []) ⟨hx, hb, hml, hown, hts⟩ (t_X11_acceptOrFull l dC dI _ Ω κ τ ν ρ L f55 hG hT h0 r53 ht_h0) (cwV 1 hts gX11_slot_X11_acceptOrFull rfl rfl rfl ⟨rfl, pd_X11_acceptOrFull⟩ ⟨Nat.le_of_ble_eq_true rfl, Nat.le_of_ble_eq_true rfl⟩) ⟨pz_blind, va_recv hK hP (ci := 11) (q0 := q58) rfl eq58, pz_pre hP hK hD hN⟩ rfl rfl hl.1 rfl (lv_room (Nat.le_of_ble_eq_true rfl)) dX11_slot_96 ⟨Nat.le_of_ble_eq_true rfl, Nat.le_of_ble_eq_true rfl⟩) hS (fun q _ h => hFc q h) hFc (fun r59 f61 t H1 locs ht hvm hw60 hB hz1 hk1 hS => ?_)
          refine tn_4 hw60 (fun hT hF62 hw60r hw60p => ?_); clear hw60
          have hR := hR.then hF62 (by decide)
          have hP := hB.1; rw [ht] at hP; have hD := tp_ad f61 hD; clear hB hFc hz1 hk1; subst ht; generalize t.heap = H at hP hS ⊢
          exact W.iret (v := r59) hx hb hr (fun t ht hW => ⟨⟨r59, f61, rfl, ⟨hT, hR, trivial, trivial⟩, by rw [ht]; exact hP, va_K.moved hW.alike hK, hD⟩, hS.F ht⟩) hS.2.2 dX11_slot_99
        · have ic50 : r48.toInt ≠ 0 := zi_eqf rfl rfl c50
          refine lv_aload_n hx hb dX11_slot_70 rfl (lv_at hl 0 rfl) ?_
          refine lv_bipush (v := (-3)) hx hb dX11_slot_71 (by decide) ?_
          have hFc := tp_fr hD hS hA
          refine va_calli (va_runV (As := [.int (-3)]) (rest := []) ⟨hx, hb, hml, hown, hts⟩ (t_X11_refuse l dC dI _ Ω κ τ ν ρ L f hG hT h0 ((-3)) ht_h0) (cwV 1 hts gX11_slot_X11_refuse rfl rfl rfl ⟨rfl, pd_X11_refuse⟩ ⟨Nat.le_of_ble_eq_true rfl, Nat.le_of_ble_eq_true rfl⟩) ⟨pz_blind, va_recv hK hP (ci := 11) (q0 := q12) rfl eq12, pz_pre hP hK hD hN⟩ rfl rfl hl.1 rfl (lv_room (Nat.le_of_ble_eq_true rfl)) dX11_slot_73 ⟨Nat.le_of_ble_eq_true rfl, Nat.le_of_ble_eq_true rfl⟩) hS (fun q _ h => hFc q h) hFc (fun r63 f65 t H1 locs ht hvm hw64 hB hz1 hk1 hS => ?_)
          refine tn_4 hw64 (fun hT hF66 hw64r hw64p => ?_); clear hw64
          have hR := hR.then hF66 (by decide)
          have hP := hB.1; rw [ht] at hP; have hD := tp_ad f65 hD; clear hB hFc hz1 hk1; subst ht; generalize t.heap = H at hP hS ⊢
          exact W.iret (v := r63) hx hb hr (fun t ht hW => ⟨⟨r63, f65, rfl, ⟨hT, hR, trivial, trivial⟩, by rw [ht]; exact hP, va_K.moved hW.alike hK, hD⟩, hS.F ht⟩) hS.2.2 dX11_slot_76
      · have ic37 : r35.toInt = 0 := zi_nef rfl rfl c37
        refine lv_aload_n hx hb dX11_slot_37 rfl (lv_at hl 0 rfl) ?_
        refine lv_bipush (v := (-2)) hx hb dX11_slot_38 (by decide) ?_
        have hFc := tp_fr hD hS hA
        refine va_calli (va_runV (As := [.int (-2)]) (rest := []) ⟨hx, hb, hml, hown, hts⟩ (t_X11_refuse l dC dI _ Ω κ τ ν ρ L f hG hT h0 ((-2)) ht_h0) (cwV 1 hts gX11_slot_X11_refuse rfl rfl rfl ⟨rfl, pd_X11_refuse⟩ ⟨Nat.le_of_ble_eq_true rfl, Nat.le_of_ble_eq_true rfl⟩) ⟨pz_blind, va_recv hK hP (ci := 11) (q0 := q12) rfl eq12, pz_pre hP hK hD hN⟩ rfl rfl hl.1 rfl (lv_room (Nat.le_of_ble_eq_true rfl)) dX11_slot_40 ⟨Nat.le_of_ble_eq_true rfl, Nat.le_of_ble_eq_true rfl⟩) hS (fun q _ h => hFc q h) hFc (fun r67 f69 t H1 locs ht hvm hw68 hB hz1 hk1 hS => ?_)
        refine tn_4 hw68 (fun hT hF70 hw68r hw68p => ?_); clear hw68
        have hR := hR.then hF70 (by decide)
        have hP := hB.1; rw [ht] at hP; have hD := tp_ad f69 hD; clear hB hFc hz1 hk1; subst ht; generalize t.heap = H at hP hS ⊢
        exact W.iret (v := r67) hx hb hr (fun t ht hW => ⟨⟨r67, f69, rfl, ⟨hT, hR, trivial, trivial⟩, by rw [ht]; exact hP, va_K.moved hW.alike hK, hD⟩, hS.F ht⟩) hS.2.2 dX11_slot_43
  · have ic3 : r1.toInt = 0 := zi_nef rfl rfl c3
    refine lv_aload_n hx hb dX11_slot_9 rfl (lv_at hl 0 rfl) ?_
    refine lv_iconst (v := (-1)) hx hb dX11_slot_10 (by decide) ?_
    refine tgk_12 hG ht_h0 (fun y71 y72 y73 y74 y75 y76 => ?_)
    refine tpk_12 hT ht_h0 (fun o77_x6 hf_o77 => ?_)
    refine tpk_pos (tp_in hG ht_h0 (by decide)) hf_o77 (fun q78 eq78 => ?_)
    have hFc := tp_fr hD hS hA
    refine va_calli (va_runV (As := [.int (-1)]) (rest := []) ⟨hx, hb, hml, hown, hts⟩ (t_X11_refuse l dC dI _ Ω κ τ ν ρ L f hG hT h0 ((-1)) ht_h0) (cwV 1 hts gX11_slot_X11_refuse rfl rfl rfl ⟨rfl, pd_X11_refuse⟩ ⟨Nat.le_of_ble_eq_true rfl, Nat.le_of_ble_eq_true rfl⟩) ⟨pz_blind, va_recv hK hP (ci := 11) (q0 := q78) rfl eq78, pz_pre hP hK hD hN⟩ rfl rfl hl.1 rfl (lv_room (Nat.le_of_ble_eq_true rfl)) dX11_slot_11 ⟨Nat.le_of_ble_eq_true rfl, Nat.le_of_ble_eq_true rfl⟩) hS (fun q _ h => hFc q h) hFc (fun r79 f81 t H1 locs ht hvm hw80 hB hz1 hk1 hS => ?_)
    refine tn_4 hw80 (fun hT hF82 hw80r hw80p => ?_); clear hw80
    have hR := hR.then hF82 (by decide)
    have hP := hB.1; rw [ht] at hP; have hD := tp_ad f81 hD; clear hB hFc hz1 hk1; subst ht; generalize t.heap = H at hP hS ⊢
    exact W.iret (v := r79) hx hb hr (fun t ht hW => ⟨⟨r79, f81, rfl, ⟨hT, hR, trivial, trivial⟩, by rw [ht]; exact hP, va_K.moved hW.alike hK, hD⟩, hS.F ht⟩) hS.2.2 dX11_slot_14
set_option maxHeartbeats 4000000 in
set_option maxRecDepth 100000 in
theorem t_X11_broken (l : Launch) (dC : Nat → ClassId) (dI : Nat → Nat → Nat) (sz : Nat) (Ω : Nat → (Nat → Nat) → va_E → Prop) (κ : Nat → ClassId) (τ ν : Nat → Nat) (ρ : Nat → Nat → Nat) (L : List Nat) (f : Nat → va_E) (hG : tp_G τ ν ρ L) (hT : tp_T Ω κ τ ν ρ f) (h0 : Nat) (v : Int32) (u : Int32) (a : Int32) (ht_h0 : τ h0 = 12) : Met l yX11_broken wqX11_broken ({ frames := 5, cells := 0, slots := 0, locals := 1600 }) (va_Pc [.ref h0, .int v, .int u, .int a] (pz_B dC dI (tp_K κ) (va_pl L f) sz)) (va_Qi (fun (r : Int32) (f1 : Nat → va_E) => tp_T Ω κ τ ν ρ f1 ∧ tp_F τ [2, 3, 4, 5, 6, 7, 8, 9, 10, 11, 12, 20, 21, 22, 26, 27, 28] f f1 ∧ True ∧ True) (fun (f1 : Nat → va_E) (t : State) => pz_E dC dI (tp_K κ) (va_A (va_pl L f) sz) (va_pl L f1) t) (va_A (va_pl L f) sz)) 0 0 (va_A (va_pl L f) sz) := by
  refine Met.ofW (cc := cX11_broken) (maxL := 4) (ret := some .int) (by decide) rfl ?_
  intro p e s m args below meth c s₁ B hml hv
  obtain ⟨rfl, hsz, hP, hK, hD0, hN⟩ := hv
  have hx := B.exec
  have hb := B.bytes
  have hr := B.returns
  have hts := fun (w : Cond) (h : w ∈ WALL) => atoms_spec (ws := wqX11_broken) B.pre w (List.mem_cons_of_mem _ h)
  have hown : s.vm.findClass RX11 = some m.cls := findClass_of_methodNamed B.named
  have hlocks := B.notSynchronized
  subst hsz
  have hD := hD0.self (sz := s.heap.size)
  generalize hAe : va_A (va_pl L f) s.heap.size = A at hD ⊢
  have hA : ∀ q : Nat, s.heap.size ≤ q → A q := fun q h => by rw [← hAe]; exact Or.inr h
  have hS : va_S A s.heap s.heap [] := va_S.rf
  have hR : tp_F τ [2, 3, 4, 5, 6, 7, 8, 9, 10, 11, 12, 20, 21, 22, 26, 27, 28] f f := tp_F.rf
  have hl := lv_entry ([.ref h0, .int v, .int u, .int a]) (n := 4) (Nat.le_of_ble_eq_true rfl)
  rw [lg_entry_eq]
  generalize (lg_sl ([.ref h0, .int v, .int u, .int a]) ++ List.replicate (4 - (lg_sl ([.ref h0, .int v, .int u, .int a])).length) Slot.unset).toArray = ls at hl ⊢
  have hl : lv_has ls 4 [(0, .ref h0), (1, .int v), (2, .int u), (3, .int a)] := hl
  refine lv_iload_n hx hb dX11_broken_0 rfl (lv_at hl 2 rfl) ?_
  refine lv_iload_n hx hb dX11_broken_1 rfl (lv_at hl 3 rfl) ?_
  refine pz_calli (va_runS (As := [.int u, .int a]) (rest := []) ⟨hx, hb, hml, hown, hts⟩ (t_X11_isSpan l dC dI _ u a (u.toInt) (a.toInt) rfl rfl) (va_cwS 2 hts gX11_broken_X11_isSpan rfl rfl rfl pd_X11_isSpan ⟨Nat.le_of_ble_eq_true rfl, Nat.le_of_ble_eq_true rfl⟩) ⟨pz_blind, pz_pre pz_P0 (hK.sub (tys' := []) [] rfl) (pz_D0 (A := fun _ => True)) hN⟩ rfl rfl hl.1 rfl (lv_room (Nat.le_of_ble_eq_true rfl)) dX11_broken_2 ⟨Nat.le_of_ble_eq_true rfl, Nat.le_of_ble_eq_true rfl⟩) (fun r1 hw2 => ?_)
  obtain ⟨hw2r, hw2p⟩ := hw2
  refine lv_if_ne (tgt := 14) hx hb dX11_broken_5 (by decide) (fun c3 => ?_) (fun c3 => ?_)
  · have ic3 : r1.toInt ≠ 0 := zi_ne rfl rfl c3
    have p4 : (0 ≤ (u.toInt) ∧ (u.toInt) ≤ 2399) ∧ (0 ≤ (a.toInt) ∧ (a.toInt) ≤ 2399) ∧ (u.toInt) ≤ (a.toInt) := (tp_cond.yes hw2p) (by omega)
    refine lv_aload_n hx hb dX11_broken_14 rfl (lv_at hl 0 rfl) ?_
    refine tgk_12 hG ht_h0 (fun y5 y6 y7 y8 y9 y10 => ?_)
    refine tpk_12 hT ht_h0 (fun o11_x6 hf_o11 => ?_)
    refine tpk_pos (tp_in hG ht_h0 (by decide)) hf_o11 (fun q12 eq12 => ?_)
    refine va_get (D := (dC, dI)) (ci := 11) (v := .ref (ρ h0 0)) (C := RX11) (T := TX11) (N := 7) hx hb hts hfX11 hown hK hP q12 eq12 rfl 0 (by decide) (hts (.fieldLink RX11 10 "ColdShips" "world" "LColdShips$World;") wa_15) (fun _ h9 => h9) rfl dX11_broken_15 ?_
    refine lv_iload_n hx hb dX11_broken_18 rfl (lv_at hl 1 rfl) ?_
    refine tgk_11 hG y5 (fun y13 y13n y14 y14n y15 y16 y17 y18 y19 y20 y21 y21w y21m y22 y22w y22m y23 y23w y23m y24 y24w y24m => ?_)
    refine tpk_11 hT y5 (fun o25_x0 o25_x1 o25_x2 o25_x3 o25_x4 o25_x5 o25_x6 hf_o25 ro25_0 ro25_1 ro25_2 ro25_3 => ?_)
    refine tpk_pos (tp_in hG y5 (by decide)) hf_o25 (fun q26 eq26 => ?_)
    refine pz_calli (va_runV (As := [.int v]) (rest := []) ⟨hx, hb, hml, hown, hts⟩ (t_X10_hasTerminal l dC dI _ Ω κ τ ν ρ L f hG hT (ρ h0 0) v y5 o25_x0 o25_x1 o25_x2 o25_x3 o25_x4 o25_x5 o25_x6 hf_o25) (cwV 1 hts gX11_broken_X10_hasTerminal rfl rfl rfl ⟨rfl, pd_X10_hasTerminal⟩ ⟨Nat.le_of_ble_eq_true rfl, Nat.le_of_ble_eq_true rfl⟩) ⟨pz_blind, va_recv hK hP (ci := 10) (q0 := q26) rfl eq26, pz_pre hP hK hD hN⟩ rfl rfl hl.1 rfl (lv_room (Nat.le_of_ble_eq_true rfl)) dX11_broken_19 ⟨Nat.le_of_ble_eq_true rfl, Nat.le_of_ble_eq_true rfl⟩) (fun r27 hw28 => ?_)
    obtain ⟨hw28r, hw28p⟩ := hw28
    refine lv_if_ne (tgt := 32) hx hb dX11_broken_22 (by decide) (fun c29 => ?_) (fun c29 => ?_)
    · have ic29 : r27.toInt ≠ 0 := zi_ne rfl rfl c29
      have p30 : 0 ≤ v.toInt ∧ v.toInt < o25_x4.toInt := (tp_cond.yes hw28p) (by omega)
      refine lv_aload_n hx hb dX11_broken_32 rfl (lv_at hl 0 rfl) ?_
      refine lv_aload_n hx hb dX11_broken_33 rfl (lv_at hl 0 rfl) ?_
      refine va_get (D := (dC, dI)) (ci := 11) (v := .ref (ρ h0 0)) (C := RX11) (T := TX11) (N := 7) hx hb hts hfX11 hown hK hP q12 eq12 rfl 0 (by decide) (hts (.fieldLink RX11 10 "ColdShips" "world" "LColdShips$World;") wa_15) (fun _ h9 => h9) rfl dX11_broken_34 ?_
      refine va_getN (D := (dC, dI)) (ci := 10) (v := .ref (ρ (ρ h0 0) 13)) (C := RX10) (T := TX10) (N := 19) hx hb hts hfX10 hown hK hP q26 eq26 rfl 13 (by decide) (va_Nw.use rfl (hN.1 (.fieldLinkNest RX11 132 "ColdShips$World" "breaks" "LColdShips$Spans;" "ColdShips") nzw_76)) (fun _ h9 => h9) rfl dX11_broken_37 ?_
      refine lv_iload_n hx hb dX11_broken_40 rfl (lv_at hl 1 rfl) ?_
      refine lv_iload_n hx hb dX11_broken_41 rfl (lv_at hl 2 rfl) ?_
      refine lv_iload_n hx hb dX11_broken_42 rfl (lv_at hl 3 rfl) ?_
      refine tgk_7 hG y19 (fun y31 y31n y32 y32n y33 y33n => ?_)
      refine tpk_7 hT y19 (fun o34_x3 hf_o34 ro34_0 => ?_)
      refine tpk_pos (tp_in hG y19 (by decide)) hf_o34 (fun q35 eq35 => ?_)
      have hFc := tp_fr hD hS hA
      refine va_calli (va_runV (As := [.int v, .int u, .int a]) (rest := [.ref h0]) ⟨hx, hb, hml, hown, hts⟩ (t_X6_add l dC dI _ Ω κ τ ν ρ L f hG hT (ρ (ρ h0 0) 13) v u a y19 o34_x3 hf_o34) (cwV 3 hts gX11_broken_X6_add rfl rfl rfl ⟨rfl, pd_X6_add⟩ ⟨Nat.le_of_ble_eq_true rfl, Nat.le_of_ble_eq_true rfl⟩) ⟨pz_blind, va_recv hK hP (ci := 6) (q0 := q35) rfl eq35, pz_pre hP hK hD hN⟩ rfl rfl hl.1 rfl (lv_room (Nat.le_of_ble_eq_true rfl)) dX11_broken_43 ⟨Nat.le_of_ble_eq_true rfl, Nat.le_of_ble_eq_true rfl⟩) hS (fun q _ h => hFc q h) hFc (fun r36 f38 t H1 locs ht hvm hw37 hB hz1 hk1 hS => ?_)
      refine tn_4 hw37 (fun hT hF39 hw37r hw37p => ?_); clear hw37
      have hR := hR.then hF39 (by decide)
      have hP := hB.1; rw [ht] at hP; have hD := tp_ad f38 hD; clear hB hFc hz1 hk1; subst ht; generalize t.heap = H at hP hS ⊢
      have hf_40 : f38 h0 = .inr (11, [.ref (ρ h0 0), .ref (ρ h0 1), .ref (ρ h0 2), .ref (ρ h0 3), .ref (ρ h0 4), .ref (ρ h0 5), .int o11_x6]) := (hF39 _ (by rw [ht_h0]; decide)).trans hf_o11
      refine tpk_pos (tp_in hG ht_h0 (by decide)) hf_40 (fun q41 eq41 => ?_)
      have hFc := tp_fr hD hS hA
      refine va_calli (va_runV (As := [.int r36]) (rest := []) ⟨hx, hb, hml, hown, hts⟩ (t_X11_acceptOrFull l dC dI _ Ω κ τ ν ρ L f38 hG hT h0 r36 ht_h0) (cwV 1 hts gX11_broken_X11_acceptOrFull rfl rfl rfl ⟨rfl, pd_X11_acceptOrFull⟩ ⟨Nat.le_of_ble_eq_true rfl, Nat.le_of_ble_eq_true rfl⟩) ⟨pz_blind, va_recv hK hP (ci := 11) (q0 := q41) rfl eq41, pz_pre hP hK hD hN⟩ rfl rfl hl.1 rfl (lv_room (Nat.le_of_ble_eq_true rfl)) dX11_broken_46 ⟨Nat.le_of_ble_eq_true rfl, Nat.le_of_ble_eq_true rfl⟩) hS (fun q _ h => hFc q h) hFc (fun r42 f44 t H1 locs ht hvm hw43 hB hz1 hk1 hS => ?_)
      refine tn_4 hw43 (fun hT hF45 hw43r hw43p => ?_); clear hw43
      have hR := hR.then hF45 (by decide)
      have hP := hB.1; rw [ht] at hP; have hD := tp_ad f44 hD; clear hB hFc hz1 hk1; subst ht; generalize t.heap = H at hP hS ⊢
      exact W.iret (v := r42) hx hb hr (fun t ht hW => ⟨⟨r42, f44, rfl, ⟨hT, hR, trivial, trivial⟩, by rw [ht]; exact hP, va_K.moved hW.alike hK, hD⟩, hS.F ht⟩) hS.2.2 dX11_broken_49
    · have ic29 : r27.toInt = 0 := zi_nef rfl rfl c29
      refine lv_aload_n hx hb dX11_broken_25 rfl (lv_at hl 0 rfl) ?_
      refine lv_bipush (v := (-2)) hx hb dX11_broken_26 (by decide) ?_
      have hFc := tp_fr hD hS hA
      refine va_calli (va_runV (As := [.int (-2)]) (rest := []) ⟨hx, hb, hml, hown, hts⟩ (t_X11_refuse l dC dI _ Ω κ τ ν ρ L f hG hT h0 ((-2)) ht_h0) (cwV 1 hts gX11_broken_X11_refuse rfl rfl rfl ⟨rfl, pd_X11_refuse⟩ ⟨Nat.le_of_ble_eq_true rfl, Nat.le_of_ble_eq_true rfl⟩) ⟨pz_blind, va_recv hK hP (ci := 11) (q0 := q12) rfl eq12, pz_pre hP hK hD hN⟩ rfl rfl hl.1 rfl (lv_room (Nat.le_of_ble_eq_true rfl)) dX11_broken_28 ⟨Nat.le_of_ble_eq_true rfl, Nat.le_of_ble_eq_true rfl⟩) hS (fun q _ h => hFc q h) hFc (fun r46 f48 t H1 locs ht hvm hw47 hB hz1 hk1 hS => ?_)
      refine tn_4 hw47 (fun hT hF49 hw47r hw47p => ?_); clear hw47
      have hR := hR.then hF49 (by decide)
      have hP := hB.1; rw [ht] at hP; have hD := tp_ad f48 hD; clear hB hFc hz1 hk1; subst ht; generalize t.heap = H at hP hS ⊢
      exact W.iret (v := r46) hx hb hr (fun t ht hW => ⟨⟨r46, f48, rfl, ⟨hT, hR, trivial, trivial⟩, by rw [ht]; exact hP, va_K.moved hW.alike hK, hD⟩, hS.F ht⟩) hS.2.2 dX11_broken_31
  · have ic3 : r1.toInt = 0 := zi_nef rfl rfl c3
    refine lv_aload_n hx hb dX11_broken_8 rfl (lv_at hl 0 rfl) ?_
    refine lv_iconst (v := (-1)) hx hb dX11_broken_9 (by decide) ?_
    refine tgk_12 hG ht_h0 (fun y50 y51 y52 y53 y54 y55 => ?_)
    refine tpk_12 hT ht_h0 (fun o56_x6 hf_o56 => ?_)
    refine tpk_pos (tp_in hG ht_h0 (by decide)) hf_o56 (fun q57 eq57 => ?_)
    have hFc := tp_fr hD hS hA
    refine va_calli (va_runV (As := [.int (-1)]) (rest := []) ⟨hx, hb, hml, hown, hts⟩ (t_X11_refuse l dC dI _ Ω κ τ ν ρ L f hG hT h0 ((-1)) ht_h0) (cwV 1 hts gX11_broken_X11_refuse rfl rfl rfl ⟨rfl, pd_X11_refuse⟩ ⟨Nat.le_of_ble_eq_true rfl, Nat.le_of_ble_eq_true rfl⟩) ⟨pz_blind, va_recv hK hP (ci := 11) (q0 := q57) rfl eq57, pz_pre hP hK hD hN⟩ rfl rfl hl.1 rfl (lv_room (Nat.le_of_ble_eq_true rfl)) dX11_broken_10 ⟨Nat.le_of_ble_eq_true rfl, Nat.le_of_ble_eq_true rfl⟩) hS (fun q _ h => hFc q h) hFc (fun r58 f60 t H1 locs ht hvm hw59 hB hz1 hk1 hS => ?_)
    refine tn_4 hw59 (fun hT hF61 hw59r hw59p => ?_); clear hw59
    have hR := hR.then hF61 (by decide)
    have hP := hB.1; rw [ht] at hP; have hD := tp_ad f60 hD; clear hB hFc hz1 hk1; subst ht; generalize t.heap = H at hP hS ⊢
    exact W.iret (v := r58) hx hb hr (fun t ht hW => ⟨⟨r58, f60, rfl, ⟨hT, hR, trivial, trivial⟩, by rw [ht]; exact hP, va_K.moved hW.alike hK, hD⟩, hS.F ht⟩) hS.2.2 dX11_broken_13
set_option maxHeartbeats 4000000 in
set_option maxRecDepth 100000 in
theorem t_X11_order (l : Launch) (dC : Nat → ClassId) (dI : Nat → Nat → Nat) (sz : Nat) (Ω : Nat → (Nat → Nat) → va_E → Prop) (κ : Nat → ClassId) (τ ν : Nat → Nat) (ρ : Nat → Nat → Nat) (L : List Nat) (f : Nat → va_E) (hG : tp_G τ ν ρ L) (hT : tp_T Ω κ τ ν ρ f) (h0 : Nat) (v : Int32) (u : Int32) (a : Int32) (ht_h0 : τ h0 = 12) : Met l yX11_order wqX11_order ({ frames := 5, cells := 0, slots := 0, locals := 1600 }) (va_Pc [.ref h0, .int v, .int u, .int a] (pz_B dC dI (tp_K κ) (va_pl L f) sz)) (va_Qi (fun (r : Int32) (f1 : Nat → va_E) => tp_T Ω κ τ ν ρ f1 ∧ tp_F τ [2, 3, 4, 5, 6, 7, 8, 9, 10, 11, 12, 20, 21, 22, 26, 27, 28] f f1 ∧ True ∧ True) (fun (f1 : Nat → va_E) (t : State) => pz_E dC dI (tp_K κ) (va_A (va_pl L f) sz) (va_pl L f1) t) (va_A (va_pl L f) sz)) 0 0 (va_A (va_pl L f) sz) := by
  refine Met.ofW (cc := cX11_order) (maxL := 5) (ret := some .int) (by decide) rfl ?_
  intro p e s m args below meth c s₁ B hml hv
  obtain ⟨rfl, hsz, hP, hK, hD0, hN⟩ := hv
  have hx := B.exec
  have hb := B.bytes
  have hr := B.returns
  have hts := fun (w : Cond) (h : w ∈ WALL) => atoms_spec (ws := wqX11_order) B.pre w (List.mem_cons_of_mem _ h)
  have hown : s.vm.findClass RX11 = some m.cls := findClass_of_methodNamed B.named
  have hlocks := B.notSynchronized
  subst hsz
  have hD := hD0.self (sz := s.heap.size)
  generalize hAe : va_A (va_pl L f) s.heap.size = A at hD ⊢
  have hA : ∀ q : Nat, s.heap.size ≤ q → A q := fun q h => by rw [← hAe]; exact Or.inr h
  have hS : va_S A s.heap s.heap [] := va_S.rf
  have hR : tp_F τ [2, 3, 4, 5, 6, 7, 8, 9, 10, 11, 12, 20, 21, 22, 26, 27, 28] f f := tp_F.rf
  have hl := lv_entry ([.ref h0, .int v, .int u, .int a]) (n := 5) (Nat.le_of_ble_eq_true rfl)
  rw [lg_entry_eq]
  generalize (lg_sl ([.ref h0, .int v, .int u, .int a]) ++ List.replicate (5 - (lg_sl ([.ref h0, .int v, .int u, .int a])).length) Slot.unset).toArray = ls at hl ⊢
  have hl : lv_has ls 5 [(0, .ref h0), (1, .int v), (2, .int u), (3, .int a)] := hl
  refine lv_iload_n hx hb dX11_order_0 rfl (lv_at hl 2 rfl) ?_
  refine lv_iload_n hx hb dX11_order_1 rfl (lv_at hl 3 rfl) ?_
  refine pz_calli (va_runS (As := [.int u, .int a]) (rest := []) ⟨hx, hb, hml, hown, hts⟩ (t_X11_isOrder l dC dI _ u a (u.toInt) (a.toInt) rfl rfl) (va_cwS 2 hts gX11_order_X11_isOrder rfl rfl rfl pd_X11_isOrder ⟨Nat.le_of_ble_eq_true rfl, Nat.le_of_ble_eq_true rfl⟩) ⟨pz_blind, pz_pre pz_P0 (hK.sub (tys' := []) [] rfl) (pz_D0 (A := fun _ => True)) hN⟩ rfl rfl hl.1 rfl (lv_room (Nat.le_of_ble_eq_true rfl)) dX11_order_2 ⟨Nat.le_of_ble_eq_true rfl, Nat.le_of_ble_eq_true rfl⟩) (fun r1 hw2 => ?_)
  obtain ⟨hw2r, hw2p⟩ := hw2
  refine lv_if_ne (tgt := 14) hx hb dX11_order_5 (by decide) (fun c3 => ?_) (fun c3 => ?_)
  · have ic3 : r1.toInt ≠ 0 := zi_ne rfl rfl c3
    refine lv_aload_n hx hb dX11_order_14 rfl (lv_at hl 0 rfl) ?_
    refine tgk_12 hG ht_h0 (fun y4 y5 y6 y7 y8 y9 => ?_)
    refine tpk_12 hT ht_h0 (fun o10_x6 hf_o10 => ?_)
    refine tpk_pos (tp_in hG ht_h0 (by decide)) hf_o10 (fun q11 eq11 => ?_)
    refine va_get (D := (dC, dI)) (ci := 11) (v := .ref (ρ h0 0)) (C := RX11) (T := TX11) (N := 7) hx hb hts hfX11 hown hK hP q11 eq11 rfl 0 (by decide) (hts (.fieldLink RX11 10 "ColdShips" "world" "LColdShips$World;") wa_15) (fun _ h9 => h9) rfl dX11_order_15 ?_
    refine lv_iload_n hx hb dX11_order_18 rfl (lv_at hl 1 rfl) ?_
    refine tgk_11 hG y4 (fun y12 y12n y13 y13n y14 y15 y16 y17 y18 y19 y20 y20w y20m y21 y21w y21m y22 y22w y22m y23 y23w y23m => ?_)
    refine tpk_11 hT y4 (fun o24_x0 o24_x1 o24_x2 o24_x3 o24_x4 o24_x5 o24_x6 hf_o24 ro24_0 ro24_1 ro24_2 ro24_3 => ?_)
    refine tpk_pos (tp_in hG y4 (by decide)) hf_o24 (fun q25 eq25 => ?_)
    refine pz_calli (va_runV (As := [.int v]) (rest := []) ⟨hx, hb, hml, hown, hts⟩ (t_X10_hasShip l dC dI _ Ω κ τ ν ρ L f hG hT (ρ h0 0) v y4 o24_x0 o24_x1 o24_x2 o24_x3 o24_x4 o24_x5 o24_x6 hf_o24) (cwV 1 hts gX11_order_X10_hasShip rfl rfl rfl ⟨rfl, pd_X10_hasShip⟩ ⟨Nat.le_of_ble_eq_true rfl, Nat.le_of_ble_eq_true rfl⟩) ⟨pz_blind, va_recv hK hP (ci := 10) (q0 := q25) rfl eq25, pz_pre hP hK hD hN⟩ rfl rfl hl.1 rfl (lv_room (Nat.le_of_ble_eq_true rfl)) dX11_order_19 ⟨Nat.le_of_ble_eq_true rfl, Nat.le_of_ble_eq_true rfl⟩) (fun r26 hw27 => ?_)
    obtain ⟨hw27r, hw27p⟩ := hw27
    refine lv_if_eq (tgt := 40) hx hb dX11_order_22 (by decide) (fun c28 => ?_) (fun c28 => ?_)
    · have ic28 : r26.toInt = 0 := zi_eq rfl rfl c28
      refine lv_aload_n hx hb dX11_order_40 rfl (lv_at hl 0 rfl) ?_
      refine lv_bipush (v := (-2)) hx hb dX11_order_41 (by decide) ?_
      have hFc := tp_fr hD hS hA
      refine va_calli (va_runV (As := [.int (-2)]) (rest := []) ⟨hx, hb, hml, hown, hts⟩ (t_X11_refuse l dC dI _ Ω κ τ ν ρ L f hG hT h0 ((-2)) ht_h0) (cwV 1 hts gX11_order_X11_refuse rfl rfl rfl ⟨rfl, pd_X11_refuse⟩ ⟨Nat.le_of_ble_eq_true rfl, Nat.le_of_ble_eq_true rfl⟩) ⟨pz_blind, va_recv hK hP (ci := 11) (q0 := q11) rfl eq11, pz_pre hP hK hD hN⟩ rfl rfl hl.1 rfl (lv_room (Nat.le_of_ble_eq_true rfl)) dX11_order_43 ⟨Nat.le_of_ble_eq_true rfl, Nat.le_of_ble_eq_true rfl⟩) hS (fun q _ h => hFc q h) hFc (fun r29 f31 t H1 locs ht hvm hw30 hB hz1 hk1 hS => ?_)
      refine tn_4 hw30 (fun hT hF32 hw30r hw30p => ?_); clear hw30
      have hR := hR.then hF32 (by decide)
      have hP := hB.1; rw [ht] at hP; have hD := tp_ad f31 hD; clear hB hFc hz1 hk1; subst ht; generalize t.heap = H at hP hS ⊢
      exact W.iret (v := r29) hx hb hr (fun t ht hW => ⟨⟨r29, f31, rfl, ⟨hT, hR, trivial, trivial⟩, by rw [ht]; exact hP, va_K.moved hW.alike hK, hD⟩, hS.F ht⟩) hS.2.2 dX11_order_46
    · have ic28 : r26.toInt ≠ 0 := zi_eqf rfl rfl c28
      have p33 : 0 ≤ v.toInt ∧ v.toInt < o24_x5.toInt := (tp_cond.yes hw27p) (by omega)
      refine lv_iload_n hx hb dX11_order_25 rfl (lv_at hl 2 rfl) ?_
      refine tp_join 47 (fun H locs ls stk => stk = [] ∧ va_P (dC, dI) vwCl (va_pl L f) H ∧ va_D A (va_pl L f) ∧ va_S A s.heap H locs ∧ lv_has ls 5 [(0, .ref h0), (1, .int v), (2, .int u), (3, .int a)]) ?_ (fun hj34 => ?_)
      · intro H locs ls stk hI
        refine tn_5 hI (fun e90 hP hD hS hl => ?_)
        clear hI; subst e90
        refine lv_aload_n hx hb dX11_order_47 rfl (lv_at hl 0 rfl) ?_
        refine va_get (D := (dC, dI)) (ci := 11) (v := .ref (ρ h0 0)) (C := RX11) (T := TX11) (N := 7) hx hb hts hfX11 hown hK hP q11 eq11 rfl 0 (by decide) (hts (.fieldLink RX11 10 "ColdShips" "world" "LColdShips$World;") wa_15) (fun _ h9 => h9) rfl dX11_order_48 ?_
        refine va_getN (D := (dC, dI)) (ci := 10) (v := .ref (ρ (ρ h0 0) 10)) (C := RX10) (T := TX10) (N := 19) hx hb hts hfX10 hown hK hP q25 eq25 rfl 10 (by decide) (va_Nw.use rfl (hN.1 (.fieldLinkNest RX11 84 "ColdShips$World" "ships" "[LColdShips$Ship;" "ColdShips") nzw_69)) (fun _ h9 => h9) rfl dX11_order_51 ?_
        refine lv_iload_n hx hb dX11_order_54 rfl (lv_at hl 1 rfl) ?_
        refine tpk_25 hT y15 (fun g36 hf_o35 hf_o35e => ?_)
        refine tpk_pos (tp_in hG y15 (by decide)) hf_o35 (fun q37 eq37 => ?_)
        refine va_aldq hx hb hK hP q37 5 eq37 rfl (vp_in_iff.mpr ⟨by omega, by omega⟩) dX11_order_55 ?_
        obtain ⟨b38, hb39⟩ : ∃ b : Nat, b = ρ (ρ (ρ h0 0) 10) v.toNatClampNeg := ⟨_, rfl⟩
        have hb39t : τ b38 = 6 := by rw [hb39]; exact tpg_25 hG y15 _ (zi_cl (vp_in_iff.mpr ⟨by omega, by omega⟩))
        have hb39g : g36 v.toNatClampNeg = some b38 := by rw [hb39]; exact hf_o35e _ (zi_cl (vp_in_iff.mpr ⟨by omega, by omega⟩))
        refine W.eq (g2 := F0 m 56 ls (.ref b38 :: [])) (congrArg (fun o => F0 m 56 ls (va_rf o :: [])) hb39g) ?_
        refine lv_astore (lv' := [(4, .ref b38), (0, .ref h0), (1, .int v), (2, .int u), (3, .int a)]) hx hb dX11_order_56 hl (by decide) rfl (fun ls hl => ?_)
        refine lv_aload hx hb dX11_order_58 (lv_at hl 0 rfl) ?_
        refine tgk_6 hG hb39t (fun y40 y41 y41n y42 y42n y43 y43n y44 y44n y45 y45n y46 y46n => ?_)
        refine tpk_6 hT hb39t (fun o47_x1 o47_x2 o47_x3 o47_x4 o47_x5 o47_x6 o47_x10 o47_x11 o47_x12 o47_x14 hf_o47 ro47_0 ro47_1 ro47_2 => ?_)
        refine tpk_pos (tp_in hG hb39t (by decide)) hf_o47 (fun q48 eq48 => ?_)
        refine va_getN (D := (dC, dI)) (ci := 5) (v := .int o47_x6) (C := RX5) (T := TX5) (N := 17) hx hb hts hfX5 hown hK hP q48 eq48 rfl 6 (by decide) (va_Nw.use rfl (hN.1 (.fieldLinkNest RX11 144 "ColdShips$Ship" "orders" "I" "ColdShips") nzw_35)) (fun _ h9 => h9) rfl dX11_order_60 ?_
        refine lv_bipush (v := 20) hx hb dX11_order_63 (by decide) ?_
        refine lv_icmp_ge (tgt := 81) hx hb dX11_order_65 (by decide) (fun c49 => ?_) (fun c49 => ?_)
        · have ic49 : o47_x6.toInt ≥ 20 := zi_ge rfl rfl c49
          refine lv_aload_n hx hb dX11_order_81 rfl (lv_at hl 1 rfl) ?_
          refine lv_bipush (v := (-5)) hx hb dX11_order_82 (by decide) ?_
          have hFc := tp_fr hD hS hA
          refine va_calli (va_runV (As := [.int (-5)]) (rest := []) ⟨hx, hb, hml, hown, hts⟩ (t_X11_refuse l dC dI _ Ω κ τ ν ρ L f hG hT h0 ((-5)) ht_h0) (cwV 1 hts gX11_order_X11_refuse rfl rfl rfl ⟨rfl, pd_X11_refuse⟩ ⟨Nat.le_of_ble_eq_true rfl, Nat.le_of_ble_eq_true rfl⟩) ⟨pz_blind, va_recv hK hP (ci := 11) (q0 := q11) rfl eq11, pz_pre hP hK hD hN⟩ rfl rfl hl.1 rfl (lv_room (Nat.le_of_ble_eq_true rfl)) dX11_order_84 ⟨Nat.le_of_ble_eq_true rfl, Nat.le_of_ble_eq_true rfl⟩) hS (fun q _ h => hFc q h) hFc (fun r50 f52 t H1 locs ht hvm hw51 hB hz1 hk1 hS => ?_)
          refine tn_4 hw51 (fun hT hF53 hw51r hw51p => ?_); clear hw51
          have hR := hR.then hF53 (by decide)
          have hP := hB.1; rw [ht] at hP; have hD := tp_ad f52 hD; clear hB hFc hz1 hk1; subst ht; generalize t.heap = H at hP hS ⊢
          exact W.iret (v := r50) hx hb hr (fun t ht hW => ⟨⟨r50, f52, rfl, ⟨hT, hR, trivial, trivial⟩, by rw [ht]; exact hP, va_K.moved hW.alike hK, hD⟩, hS.F ht⟩) hS.2.2 dX11_order_87
        · have ic49 : o47_x6.toInt < 20 := zi_gef rfl rfl c49
          refine lv_aload_n hx hb dX11_order_68 rfl (lv_at hl 1 rfl) ?_
          refine va_get (D := (dC, dI)) (ci := 11) (v := .ref (ρ h0 0)) (C := RX11) (T := TX11) (N := 7) hx hb hts hfX11 hown hK hP q11 eq11 rfl 0 (by decide) (hts (.fieldLink RX11 10 "ColdShips" "world" "LColdShips$World;") wa_15) (fun _ h9 => h9) rfl dX11_order_69 ?_
          refine va_getN (D := (dC, dI)) (ci := 10) (v := .int o24_x3) (C := RX10) (T := TX10) (N := 19) hx hb hts hfX10 hown hK hP q25 eq25 rfl 3 (by decide) (va_Nw.use rfl (hN.1 (.fieldLinkNest RX11 147 "ColdShips$World" "ordersGiven" "I" "ColdShips") nzw_55)) (fun _ h9 => h9) rfl dX11_order_72 ?_
          refine lv_sipush (v := 400) hx hb dX11_order_75 (by decide) ?_
          refine lv_icmp_lt (tgt := 88) hx hb dX11_order_78 (by decide) (fun c54 => ?_) (fun c54 => ?_)
          · have ic54 : o24_x3.toInt < 400 := zi_lt rfl rfl c54
            refine lv_aload hx hb dX11_order_88 (lv_at hl 0 rfl) ?_
            refine lv_iload_n hx hb dX11_order_90 rfl (lv_at hl 3 rfl) ?_
            refine lv_iload_n hx hb dX11_order_91 rfl (lv_at hl 4 rfl) ?_
            have hFc := tp_fr hD hS hA
            refine va_callv (va_runV (As := [.int u, .int a]) (rest := []) ⟨hx, hb, hml, hown, hts⟩ (t_X5_addOrder l dC dI _ Ω κ τ ν ρ L f hG hT b38 u a hb39t) (cwV 2 hts gX11_order_X5_addOrder rfl rfl rfl ⟨rfl, pd_X5_addOrder⟩ ⟨Nat.le_of_ble_eq_true rfl, Nat.le_of_ble_eq_true rfl⟩) ⟨pz_blind, va_recv hK hP (ci := 5) (q0 := q48) rfl eq48, pz_pre hP hK hD hN⟩ rfl rfl hl.1 rfl (lv_room (Nat.le_of_ble_eq_true rfl)) dX11_order_92 ⟨Nat.le_of_ble_eq_true rfl, Nat.le_of_ble_eq_true rfl⟩) hS (fun q _ h => hFc q h) hFc (fun f57 t H1 locs ht hvm hw56 hB hz1 hk1 hS => ?_)
            refine tn_3 hw56 (fun hT hF58 hw56p => ?_); clear hw56
            have hR := hR.then hF58 (by decide)
            have hP := hB.1; rw [ht] at hP; have hD := tp_ad f57 hD; clear hB hFc hz1 hk1; subst ht; generalize t.heap = H at hP hS ⊢
            refine lv_aload_n hx hb dX11_order_95 rfl (lv_at hl 1 rfl) ?_
            have hf_59 : f57 h0 = .inr (11, [.ref (ρ h0 0), .ref (ρ h0 1), .ref (ρ h0 2), .ref (ρ h0 3), .ref (ρ h0 4), .ref (ρ h0 5), .int o10_x6]) := (hF58 _ (by rw [ht_h0]; decide)).trans hf_o10
            refine tpk_pos (tp_in hG ht_h0 (by decide)) hf_59 (fun q60 eq60 => ?_)
            refine va_get (D := (dC, dI)) (ci := 11) (v := .ref (ρ h0 0)) (C := RX11) (T := TX11) (N := 7) hx hb hts hfX11 hown hK hP q60 eq60 rfl 0 (by decide) (hts (.fieldLink RX11 10 "ColdShips" "world" "LColdShips$World;") wa_15) (fun _ h9 => h9) rfl dX11_order_96 ?_
            refine lv_dup hx hb dX11_order_99 rfl ?_
            have hf_61 : f57 (ρ h0 0) = .inr (10, [.int o24_x0, .int o24_x1, .int o24_x2, .int o24_x3, .int o24_x4, .int o24_x5, .int o24_x6, .ref (ρ (ρ h0 0) 7), .ref (ρ (ρ h0 0) 8), .ref (ρ (ρ h0 0) 9), .ref (ρ (ρ h0 0) 10), .ref (ρ (ρ h0 0) 11), .ref (ρ (ρ h0 0) 12), .ref (ρ (ρ h0 0) 13), .ref (ρ (ρ h0 0) 14), .ref (ρ (ρ h0 0) 15), .ref (ρ (ρ h0 0) 16), .ref (ρ (ρ h0 0) 17), .ref (ρ (ρ h0 0) 18)]) := (hF58 _ (by rw [y4]; decide)).trans hf_o24
            refine tpk_pos (tp_in hG y4 (by decide)) hf_61 (fun q62 eq62 => ?_)
            refine va_getN (D := (dC, dI)) (ci := 10) (v := .int o24_x3) (C := RX10) (T := TX10) (N := 19) hx hb hts hfX10 hown hK hP q62 eq62 rfl 3 (by decide) (va_Nw.use rfl (hN.1 (.fieldLinkNest RX11 147 "ColdShips$World" "ordersGiven" "I" "ColdShips") nzw_55)) (fun _ h9 => h9) rfl dX11_order_100 ?_
            refine lv_iconst (v := 1) hx hb dX11_order_103 (by decide) ?_
            refine lv_iadd hx hb dX11_order_104 ?_
            refine lv_topi (fun z63 ez63 => ?_)
            have := zi_bd o24_x3
            have iz63 : z63.toInt = o24_x3.toInt + 1 := zi_add ez63 rfl rfl (by omega) (by omega)
            refine va_putN (D := (dC, dI)) (ci := 10) (v := .int z63) (ty := .int) (C := RX10) (T := TX10) (N := 19) hx hb hts hfX10 tyX10 tyX10_ok nmX10 hown hK hP hD hS q62 eq62 rfl 3 (by decide) (va_Nw.use rfl (hN.1 (.fieldLinkNest RX11 147 "ColdShips$World" "ordersGiven" "I" "ColdShips") nzw_55)) (fun _ h9 => h9) rfl (tyX10_ok 3 (by decide)) rfl rfl (Nat.le_of_ble_eq_true rfl) dX11_order_105 (tp_k (.inr (10, [.int o24_x0, .int o24_x1, .int o24_x2, .int z63, .int o24_x4, .int o24_x5, .int o24_x6, .ref (ρ (ρ h0 0) 7), .ref (ρ (ρ h0 0) 8), .ref (ρ (ρ h0 0) 9), .ref (ρ (ρ h0 0) 10), .ref (ρ (ρ h0 0) 11), .ref (ρ (ρ h0 0) 12), .ref (ρ (ρ h0 0) 13), .ref (ρ (ρ h0 0) 14), .ref (ρ (ρ h0 0) 15), .ref (ρ (ρ h0 0) 16), .ref (ρ (ρ h0 0) 17), .ref (ρ (ρ h0 0) 18)])) hD (tp_in hG y4 (by decide)) eq62 (fun f64 H locs hP hD hS g66 k65 => ?_))
            have hT := hT.up y4 g66 k65 ⟨_, _, _, _, _, _, _, rfl, (by first | decide | omega | (omega)), (by first | decide | omega | (omega)), (by first | decide | omega | (omega)), (by first | decide | omega | (omega))⟩
            have hR := hR.up y4 (by decide) k65
            refine lv_aload_n hx hb dX11_order_108 rfl (lv_at hl 1 rfl) ?_
            refine lv_aload hx hb dX11_order_109 (lv_at hl 0 rfl) ?_
            refine tpk_6 hT hb39t (fun o67_x1 o67_x2 o67_x3 o67_x4 o67_x5 o67_x6 o67_x10 o67_x11 o67_x12 o67_x14 hf_o67 ro67_0 ro67_1 ro67_2 => ?_)
            refine tpk_pos (tp_in hG hb39t (by decide)) hf_o67 (fun q68 eq68 => ?_)
            refine va_getN (D := (dC, dI)) (ci := 5) (v := .int o67_x6) (C := RX5) (T := TX5) (N := 17) hx hb hts hfX5 hown hK hP q68 eq68 rfl 6 (by decide) (va_Nw.use rfl (hN.1 (.fieldLinkNest RX11 144 "ColdShips$Ship" "orders" "I" "ColdShips") nzw_35)) (fun _ h9 => h9) rfl dX11_order_111 ?_
            have hf_69 : f64 h0 = .inr (11, [.ref (ρ h0 0), .ref (ρ h0 1), .ref (ρ h0 2), .ref (ρ h0 3), .ref (ρ h0 4), .ref (ρ h0 5), .int o10_x6]) := (k65 _ (tp_ne ht_h0 y4 (by decide))).trans hf_59
            refine tpk_pos (tp_in hG ht_h0 (by decide)) hf_69 (fun q70 eq70 => ?_)
            have hFc := tp_fr hD hS hA
            refine va_calli (va_runV (As := [.int o67_x6]) (rest := []) ⟨hx, hb, hml, hown, hts⟩ (t_X11_accept l dC dI _ Ω κ τ ν ρ L f64 hG hT h0 o67_x6 ht_h0) (cwV 1 hts gX11_order_X11_accept rfl rfl rfl ⟨rfl, pd_X11_accept⟩ ⟨Nat.le_of_ble_eq_true rfl, Nat.le_of_ble_eq_true rfl⟩) ⟨pz_blind, va_recv hK hP (ci := 11) (q0 := q70) rfl eq70, pz_pre hP hK hD hN⟩ rfl rfl hl.1 rfl (lv_room (Nat.le_of_ble_eq_true rfl)) dX11_order_114 ⟨Nat.le_of_ble_eq_true rfl, Nat.le_of_ble_eq_true rfl⟩) hS (fun q _ h => hFc q h) hFc (fun r71 f73 t H1 locs ht hvm hw72 hB hz1 hk1 hS => ?_)
            refine tn_4 hw72 (fun hT hF74 hw72r hw72p => ?_); clear hw72
            have hR := hR.then hF74 (by decide)
            have hP := hB.1; rw [ht] at hP; have hD := tp_ad f73 hD; clear hB hFc hz1 hk1; subst ht; generalize t.heap = H at hP hS ⊢
            exact W.iret (v := r71) hx hb hr (fun t ht hW => ⟨⟨r71, f73, rfl, ⟨hT, hR, trivial, trivial⟩, by rw [ht]; exact hP, va_K.moved hW.alike hK, hD⟩, hS.F ht⟩) hS.2.2 dX11_order_117
          · have ic54 : o24_x3.toInt ≥ 400 := zi_ltf rfl rfl c54
            refine lv_aload_n hx hb dX11_order_81 rfl (lv_at hl 1 rfl) ?_
            refine lv_bipush (v := (-5)) hx hb dX11_order_82 (by decide) ?_
            have hFc := tp_fr hD hS hA
            refine va_calli (va_runV (As := [.int (-5)]) (rest := []) ⟨hx, hb, hml, hown, hts⟩ (t_X11_refuse l dC dI _ Ω κ τ ν ρ L f hG hT h0 ((-5)) ht_h0) (cwV 1 hts gX11_order_X11_refuse rfl rfl rfl ⟨rfl, pd_X11_refuse⟩ ⟨Nat.le_of_ble_eq_true rfl, Nat.le_of_ble_eq_true rfl⟩) ⟨pz_blind, va_recv hK hP (ci := 11) (q0 := q11) rfl eq11, pz_pre hP hK hD hN⟩ rfl rfl hl.1 rfl (lv_room (Nat.le_of_ble_eq_true rfl)) dX11_order_84 ⟨Nat.le_of_ble_eq_true rfl, Nat.le_of_ble_eq_true rfl⟩) hS (fun q _ h => hFc q h) hFc (fun r75 f77 t H1 locs ht hvm hw76 hB hz1 hk1 hS => ?_)
            refine tn_4 hw76 (fun hT hF78 hw76r hw76p => ?_); clear hw76
            have hR := hR.then hF78 (by decide)
            have hP := hB.1; rw [ht] at hP; have hD := tp_ad f77 hD; clear hB hFc hz1 hk1; subst ht; generalize t.heap = H at hP hS ⊢
            exact W.iret (v := r75) hx hb hr (fun t ht hW => ⟨⟨r75, f77, rfl, ⟨hT, hR, trivial, trivial⟩, by rw [ht]; exact hP, va_K.moved hW.alike hK, hD⟩, hS.F ht⟩) hS.2.2 dX11_order_87
      · refine lv_if_ne (tgt := 47) hx hb dX11_order_26 (by decide) (fun c79 => ?_) (fun c79 => ?_)
        · have ic79 : u.toInt ≠ 0 := zi_ne rfl rfl c79
          exact hj34 _ _ _ _ ⟨rfl, hP, hD, hS, lv_sub hl [0, 1, 2, 3] rfl⟩
        · have ic79 : u.toInt = 0 := zi_nef rfl rfl c79
          refine lv_aload_n hx hb dX11_order_29 rfl (lv_at hl 0 rfl) ?_
          refine va_get (D := (dC, dI)) (ci := 11) (v := .ref (ρ h0 0)) (C := RX11) (T := TX11) (N := 7) hx hb hts hfX11 hown hK hP q11 eq11 rfl 0 (by decide) (hts (.fieldLink RX11 10 "ColdShips" "world" "LColdShips$World;") wa_15) (fun _ h9 => h9) rfl dX11_order_30 ?_
          refine lv_iload_n hx hb dX11_order_33 rfl (lv_at hl 3 rfl) ?_
          refine pz_calli (va_runV (As := [.int a]) (rest := []) ⟨hx, hb, hml, hown, hts⟩ (t_X10_hasTerminal l dC dI _ Ω κ τ ν ρ L f hG hT (ρ h0 0) a y4 o24_x0 o24_x1 o24_x2 o24_x3 o24_x4 o24_x5 o24_x6 hf_o24) (cwV 1 hts gX11_order_X10_hasTerminal rfl rfl rfl ⟨rfl, pd_X10_hasTerminal⟩ ⟨Nat.le_of_ble_eq_true rfl, Nat.le_of_ble_eq_true rfl⟩) ⟨pz_blind, va_recv hK hP (ci := 10) (q0 := q25) rfl eq25, pz_pre hP hK hD hN⟩ rfl rfl hl.1 rfl (lv_room (Nat.le_of_ble_eq_true rfl)) dX11_order_34 ⟨Nat.le_of_ble_eq_true rfl, Nat.le_of_ble_eq_true rfl⟩) (fun r80 hw81 => ?_)
          obtain ⟨hw81r, hw81p⟩ := hw81
          refine lv_if_ne (tgt := 47) hx hb dX11_order_37 (by decide) (fun c82 => ?_) (fun c82 => ?_)
          · have ic82 : r80.toInt ≠ 0 := zi_ne rfl rfl c82
            have p83 : 0 ≤ a.toInt ∧ a.toInt < o24_x4.toInt := (tp_cond.yes hw81p) (by omega)
            exact hj34 _ _ _ _ ⟨rfl, hP, hD, hS, lv_sub hl [0, 1, 2, 3] rfl⟩
          · have ic82 : r80.toInt = 0 := zi_nef rfl rfl c82
            refine lv_aload_n hx hb dX11_order_40 rfl (lv_at hl 0 rfl) ?_
            refine lv_bipush (v := (-2)) hx hb dX11_order_41 (by decide) ?_
            have hFc := tp_fr hD hS hA
            refine va_calli (va_runV (As := [.int (-2)]) (rest := []) ⟨hx, hb, hml, hown, hts⟩ (t_X11_refuse l dC dI _ Ω κ τ ν ρ L f hG hT h0 ((-2)) ht_h0) (cwV 1 hts gX11_order_X11_refuse rfl rfl rfl ⟨rfl, pd_X11_refuse⟩ ⟨Nat.le_of_ble_eq_true rfl, Nat.le_of_ble_eq_true rfl⟩) ⟨pz_blind, va_recv hK hP (ci := 11) (q0 := q11) rfl eq11, pz_pre hP hK hD hN⟩ rfl rfl hl.1 rfl (lv_room (Nat.le_of_ble_eq_true rfl)) dX11_order_43 ⟨Nat.le_of_ble_eq_true rfl, Nat.le_of_ble_eq_true rfl⟩) hS (fun q _ h => hFc q h) hFc (fun r84 f86 t H1 locs ht hvm hw85 hB hz1 hk1 hS => ?_)
            refine tn_4 hw85 (fun hT hF87 hw85r hw85p => ?_); clear hw85
            have hR := hR.then hF87 (by decide)
            have hP := hB.1; rw [ht] at hP; have hD := tp_ad f86 hD; clear hB hFc hz1 hk1; subst ht; generalize t.heap = H at hP hS ⊢
            exact W.iret (v := r84) hx hb hr (fun t ht hW => ⟨⟨r84, f86, rfl, ⟨hT, hR, trivial, trivial⟩, by rw [ht]; exact hP, va_K.moved hW.alike hK, hD⟩, hS.F ht⟩) hS.2.2 dX11_order_46
  · have ic3 : r1.toInt = 0 := zi_nef rfl rfl c3
    refine lv_aload_n hx hb dX11_order_8 rfl (lv_at hl 0 rfl) ?_
    refine lv_iconst (v := (-1)) hx hb dX11_order_9 (by decide) ?_
    refine tgk_12 hG ht_h0 (fun y88 y89 y90 y91 y92 y93 => ?_)
    refine tpk_12 hT ht_h0 (fun o94_x6 hf_o94 => ?_)
    refine tpk_pos (tp_in hG ht_h0 (by decide)) hf_o94 (fun q95 eq95 => ?_)
    have hFc := tp_fr hD hS hA
    refine va_calli (va_runV (As := [.int (-1)]) (rest := []) ⟨hx, hb, hml, hown, hts⟩ (t_X11_refuse l dC dI _ Ω κ τ ν ρ L f hG hT h0 ((-1)) ht_h0) (cwV 1 hts gX11_order_X11_refuse rfl rfl rfl ⟨rfl, pd_X11_refuse⟩ ⟨Nat.le_of_ble_eq_true rfl, Nat.le_of_ble_eq_true rfl⟩) ⟨pz_blind, va_recv hK hP (ci := 11) (q0 := q95) rfl eq95, pz_pre hP hK hD hN⟩ rfl rfl hl.1 rfl (lv_room (Nat.le_of_ble_eq_true rfl)) dX11_order_10 ⟨Nat.le_of_ble_eq_true rfl, Nat.le_of_ble_eq_true rfl⟩) hS (fun q _ h => hFc q h) hFc (fun r96 f98 t H1 locs ht hvm hw97 hB hz1 hk1 hS => ?_)
    refine tn_4 hw97 (fun hT hF99 hw97r hw97p => ?_); clear hw97
    have hR := hR.then hF99 (by decide)
    have hP := hB.1; rw [ht] at hP; have hD := tp_ad f98 hD; clear hB hFc hz1 hk1; subst ht; generalize t.heap = H at hP hS ⊢
    exact W.iret (v := r96) hx hb hr (fun t ht hW => ⟨⟨r96, f98, rfl, ⟨hT, hR, trivial, trivial⟩, by rw [ht]; exact hP, va_K.moved hW.alike hK, hD⟩, hS.F ht⟩) hS.2.2 dX11_order_13
set_option maxHeartbeats 4000000 in
set_option maxRecDepth 100000 in
theorem t_X11_go (l : Launch) (dC : Nat → ClassId) (dI : Nat → Nat → Nat) (sz : Nat) (Ω : Nat → (Nat → Nat) → va_E → Prop) (κ : Nat → ClassId) (τ ν : Nat → Nat) (ρ : Nat → Nat → Nat) (L : List Nat) (f : Nat → va_E) (hG : tp_G τ ν ρ L) (hT : tp_T Ω κ τ ν ρ f) (h0 : Nat) (v : Int32) (ht_h0 : τ h0 = 12) : Met l yX11_go wqX11_go ({ frames := 9, cells := 0, slots := 0, locals := 3200 }) (va_Pc [.ref h0, .int v] (pz_B dC dI (tp_K κ) (va_pl L f) sz)) (va_Qi (fun (r : Int32) (f1 : Nat → va_E) => tp_T Ω κ τ ν ρ f1 ∧ tp_F τ [2, 3, 4, 5, 6, 7, 8, 9, 10, 11, 12, 20, 21, 22, 26, 27, 28] f f1 ∧ True ∧ True) (fun (f1 : Nat → va_E) (t : State) => pz_E dC dI (tp_K κ) (va_A (va_pl L f) sz) (va_pl L f1) t) (va_A (va_pl L f) sz)) 0 0 (va_A (va_pl L f) sz) := by
  refine Met.ofW (cc := cX11_go) (maxL := 3) (ret := some .int) (by decide) rfl ?_
  intro p e s m args below meth c s₁ B hml hv
  obtain ⟨rfl, hsz, hP, hK, hD0, hN⟩ := hv
  have hx := B.exec
  have hb := B.bytes
  have hr := B.returns
  have hts := fun (w : Cond) (h : w ∈ WALL) => atoms_spec (ws := wqX11_go) B.pre w (List.mem_cons_of_mem _ h)
  have hown : s.vm.findClass RX11 = some m.cls := findClass_of_methodNamed B.named
  have hlocks := B.notSynchronized
  subst hsz
  have hD := hD0.self (sz := s.heap.size)
  generalize hAe : va_A (va_pl L f) s.heap.size = A at hD ⊢
  have hA : ∀ q : Nat, s.heap.size ≤ q → A q := fun q h => by rw [← hAe]; exact Or.inr h
  have hS : va_S A s.heap s.heap [] := va_S.rf
  have hR : tp_F τ [2, 3, 4, 5, 6, 7, 8, 9, 10, 11, 12, 20, 21, 22, 26, 27, 28] f f := tp_F.rf
  have hl := lv_entry ([.ref h0, .int v]) (n := 3) (Nat.le_of_ble_eq_true rfl)
  rw [lg_entry_eq]
  generalize (lg_sl ([.ref h0, .int v]) ++ List.replicate (3 - (lg_sl ([.ref h0, .int v])).length) Slot.unset).toArray = ls at hl ⊢
  have hl : lv_has ls 3 [(0, .ref h0), (1, .int v)] := hl
  refine lv_iload_n hx hb dX11_go_0 rfl (lv_at hl 1 rfl) ?_
  refine lv_iconst (v := 1) hx hb dX11_go_1 (by decide) ?_
  refine lv_sipush (v := 480) hx hb dX11_go_2 (by decide) ?_
  refine pz_calli (va_runS (As := [.int v, .int 1, .int 480]) (rest := []) ⟨hx, hb, hml, hown, hts⟩ (t_X11_within l dC dI _ v (1) (480) (v.toInt) (1) (480) rfl rfl rfl) (va_cwS 3 hts gX11_go_X11_within rfl rfl rfl pd_X11_within ⟨Nat.le_of_ble_eq_true rfl, Nat.le_of_ble_eq_true rfl⟩) ⟨pz_blind, pz_pre pz_P0 (hK.sub (tys' := []) [] rfl) (pz_D0 (A := fun _ => True)) hN⟩ rfl rfl hl.1 rfl (lv_room (Nat.le_of_ble_eq_true rfl)) dX11_go_5 ⟨Nat.le_of_ble_eq_true rfl, Nat.le_of_ble_eq_true rfl⟩) (fun r1 hw2 => ?_)
  obtain ⟨hw2r, hw2p⟩ := hw2
  refine lv_if_eq (tgt := 26) hx hb dX11_go_8 (by decide) (fun c3 => ?_) (fun c3 => ?_)
  · have ic3 : r1.toInt = 0 := zi_eq rfl rfl c3
    refine lv_aload_n hx hb dX11_go_26 rfl (lv_at hl 0 rfl) ?_
    refine lv_iconst (v := (-1)) hx hb dX11_go_27 (by decide) ?_
    refine tgk_12 hG ht_h0 (fun y4 y5 y6 y7 y8 y9 => ?_)
    refine tpk_12 hT ht_h0 (fun o10_x6 hf_o10 => ?_)
    refine tpk_pos (tp_in hG ht_h0 (by decide)) hf_o10 (fun q11 eq11 => ?_)
    have hFc := tp_fr hD hS hA
    refine va_calli (va_runV (As := [.int (-1)]) (rest := []) ⟨hx, hb, hml, hown, hts⟩ (t_X11_refuse l dC dI _ Ω κ τ ν ρ L f hG hT h0 ((-1)) ht_h0) (cwV 1 hts gX11_go_X11_refuse rfl rfl rfl ⟨rfl, pd_X11_refuse⟩ ⟨Nat.le_of_ble_eq_true rfl, Nat.le_of_ble_eq_true rfl⟩) ⟨pz_blind, va_recv hK hP (ci := 11) (q0 := q11) rfl eq11, pz_pre hP hK hD hN⟩ rfl rfl hl.1 rfl (lv_room (Nat.le_of_ble_eq_true rfl)) dX11_go_28 ⟨Nat.le_of_ble_eq_true rfl, Nat.le_of_ble_eq_true rfl⟩) hS (fun q _ h => hFc q h) hFc (fun r12 f14 t H1 locs ht hvm hw13 hB hz1 hk1 hS => ?_)
    refine tn_4 hw13 (fun hT hF15 hw13r hw13p => ?_); clear hw13
    have hR := hR.then hF15 (by decide)
    have hP := hB.1; rw [ht] at hP; have hD := tp_ad f14 hD; clear hB hFc hz1 hk1; subst ht; generalize t.heap = H at hP hS ⊢
    exact W.iret (v := r12) hx hb hr (fun t ht hW => ⟨⟨r12, f14, rfl, ⟨hT, hR, trivial, trivial⟩, by rw [ht]; exact hP, va_K.moved hW.alike hK, hD⟩, hS.F ht⟩) hS.2.2 dX11_go_31
  · have ic3 : r1.toInt ≠ 0 := zi_eqf rfl rfl c3
    have p16 : (1) ≤ (v.toInt) ∧ (v.toInt) ≤ (480) := (tp_cond.yes hw2p) (by omega)
    refine lv_aload_n hx hb dX11_go_11 rfl (lv_at hl 0 rfl) ?_
    refine tgk_12 hG ht_h0 (fun y17 y18 y19 y20 y21 y22 => ?_)
    refine tpk_12 hT ht_h0 (fun o23_x6 hf_o23 => ?_)
    refine tpk_pos (tp_in hG ht_h0 (by decide)) hf_o23 (fun q24 eq24 => ?_)
    refine va_get (D := (dC, dI)) (ci := 11) (v := .ref (ρ h0 0)) (C := RX11) (T := TX11) (N := 7) hx hb hts hfX11 hown hK hP q24 eq24 rfl 0 (by decide) (hts (.fieldLink RX11 10 "ColdShips" "world" "LColdShips$World;") wa_15) (fun _ h9 => h9) rfl dX11_go_12 ?_
    refine tgk_11 hG y17 (fun y25 y25n y26 y26n y27 y28 y29 y30 y31 y32 y33 y33w y33m y34 y34w y34m y35 y35w y35m y36 y36w y36m => ?_)
    refine tpk_11 hT y17 (fun o37_x0 o37_x1 o37_x2 o37_x3 o37_x4 o37_x5 o37_x6 hf_o37 ro37_0 ro37_1 ro37_2 ro37_3 => ?_)
    refine tpk_pos (tp_in hG y17 (by decide)) hf_o37 (fun q38 eq38 => ?_)
    refine va_getN (D := (dC, dI)) (ci := 10) (v := .int o37_x0) (C := RX10) (T := TX10) (N := 19) hx hb hts hfX10 hown hK hP q38 eq38 rfl 0 (by decide) (va_Nw.use rfl (hN.1 (.fieldLinkNest RX11 154 "ColdShips$World" "now" "I" "ColdShips") nzw_49)) (fun _ h9 => h9) rfl dX11_go_15 ?_
    refine lv_iload_n hx hb dX11_go_18 rfl (lv_at hl 1 rfl) ?_
    refine lv_iadd hx hb dX11_go_19 ?_
    refine lv_topi (fun z39 ez39 => ?_)
    have iz39 : z39.toInt = o37_x0.toInt + v.toInt := zi_add ez39 rfl rfl (by omega) (by omega)
    refine lv_sipush (v := 2399) hx hb dX11_go_20 (by decide) ?_
    refine lv_icmp_le (tgt := 32) hx hb dX11_go_23 (by decide) (fun c40 => ?_) (fun c40 => ?_)
    · have ic40 : z39.toInt ≤ 2399 := zi_le rfl rfl c40
      refine lv_iconst (v := 0) hx hb dX11_go_32 (by decide) ?_
      refine lv_istore_n (lv' := [(2, .int 0), (0, .ref h0), (1, .int v)]) hx hb dX11_go_33 rfl hl (by decide) rfl (fun ls hl => ?_)
      refine pz_loop (fun n0 H locs ls => ∃ f42 : Nat → va_E, ∃ w41 : Int32, n0 = (480 - (w41.toInt)).toNat ∧ tp_T Ω κ τ ν ρ f42 ∧ tp_F τ [2, 3, 4, 5, 6, 7, 8, 9, 10, 11, 12, 20, 21, 22, 26, 27, 28] f f42 ∧ (0 ≤ w41.toInt ∧ w41.toInt ≤ 480) ∧ va_P (dC, dI) vwCl (va_pl L f42) H ∧ va_D A (va_pl L f42) ∧ va_S A s.heap H locs ∧ lv_has ls 3 [(2, .int w41), (0, .ref h0), (1, .int v)]) ?_ _ _ _ _ ⟨f, 0, rfl, hT, hR, (by have : (0 : Int32).toInt = 0 := rfl; omega), hP, hD, hS, lv_sub hl [0, 1, 2] rfl⟩
      intro n0 H locs ls hI ih43
      refine Exists.elim hI (fun f42 hE90 => Exists.elim hE90 (fun w41 hE91 => tn_8 hE91 (fun hn44 hT hR rw41 hP hD hS hl => ?_)))
      clear hE91 hE90 hI
      refine lv_iload_n hx hb dX11_go_34 rfl (lv_at hl 0 rfl) ?_
      refine lv_iload_n hx hb dX11_go_35 rfl (lv_at hl 2 rfl) ?_
      refine lv_icmp_ge (tgt := 52) hx hb dX11_go_36 (by decide) (fun c45 => ?_) (fun c45 => ?_)
      · have ic45 : w41.toInt ≥ v.toInt := zi_ge rfl rfl c45
        refine lv_aload_n hx hb dX11_go_52 rfl (lv_at hl 1 rfl) ?_
        refine lv_aload_n hx hb dX11_go_53 rfl (lv_at hl 1 rfl) ?_
        refine tpk_12 hT ht_h0 (fun o46_x6 hf_o46 => ?_)
        refine tpk_pos (tp_in hG ht_h0 (by decide)) hf_o46 (fun q47 eq47 => ?_)
        refine va_get (D := (dC, dI)) (ci := 11) (v := .ref (ρ h0 0)) (C := RX11) (T := TX11) (N := 7) hx hb hts hfX11 hown hK hP q47 eq47 rfl 0 (by decide) (hts (.fieldLink RX11 10 "ColdShips" "world" "LColdShips$World;") wa_15) (fun _ h9 => h9) rfl dX11_go_54 ?_
        refine tpk_11 hT y17 (fun o48_x0 o48_x1 o48_x2 o48_x3 o48_x4 o48_x5 o48_x6 hf_o48 ro48_0 ro48_1 ro48_2 ro48_3 => ?_)
        refine tpk_pos (tp_in hG y17 (by decide)) hf_o48 (fun q49 eq49 => ?_)
        refine va_getN (D := (dC, dI)) (ci := 10) (v := .int o48_x0) (C := RX10) (T := TX10) (N := 19) hx hb hts hfX10 hown hK hP q49 eq49 rfl 0 (by decide) (va_Nw.use rfl (hN.1 (.fieldLinkNest RX11 154 "ColdShips$World" "now" "I" "ColdShips") nzw_49)) (fun _ h9 => h9) rfl dX11_go_57 ?_
        have hFc := tp_fr hD hS hA
        refine va_calli (va_runV (As := [.int o48_x0]) (rest := []) ⟨hx, hb, hml, hown, hts⟩ (t_X11_accept l dC dI _ Ω κ τ ν ρ L f42 hG hT h0 o48_x0 ht_h0) (cwV 1 hts gX11_go_X11_accept rfl rfl rfl ⟨rfl, pd_X11_accept⟩ ⟨Nat.le_of_ble_eq_true rfl, Nat.le_of_ble_eq_true rfl⟩) ⟨pz_blind, va_recv hK hP (ci := 11) (q0 := q47) rfl eq47, pz_pre hP hK hD hN⟩ rfl rfl hl.1 rfl (lv_room (Nat.le_of_ble_eq_true rfl)) dX11_go_60 ⟨Nat.le_of_ble_eq_true rfl, Nat.le_of_ble_eq_true rfl⟩) hS (fun q _ h => hFc q h) hFc (fun r50 f52 t H1 locs ht hvm hw51 hB hz1 hk1 hS => ?_)
        refine tn_4 hw51 (fun hT hF53 hw51r hw51p => ?_); clear hw51
        have hR := hR.then hF53 (by decide)
        have hP := hB.1; rw [ht] at hP; have hD := tp_ad f52 hD; clear hB hFc hz1 hk1; subst ht; generalize t.heap = H at hP hS ⊢
        exact W.iret (v := r50) hx hb hr (fun t ht hW => ⟨⟨r50, f52, rfl, ⟨hT, hR, trivial, trivial⟩, by rw [ht]; exact hP, va_K.moved hW.alike hK, hD⟩, hS.F ht⟩) hS.2.2 dX11_go_63
      · have ic45 : w41.toInt < v.toInt := zi_gef rfl rfl c45
        refine lv_aload_n hx hb dX11_go_39 rfl (lv_at hl 1 rfl) ?_
        refine tpk_12 hT ht_h0 (fun o54_x6 hf_o54 => ?_)
        refine tpk_pos (tp_in hG ht_h0 (by decide)) hf_o54 (fun q55 eq55 => ?_)
        refine va_get (D := (dC, dI)) (ci := 11) (v := .ref (ρ h0 2)) (C := RX11) (T := TX11) (N := 7) hx hb hts hfX11 hown hK hP q55 eq55 rfl 2 (by decide) (hts (.fieldLink RX11 25 "ColdShips" "watch" "LColdShips$Watch;") wa_20) (fun _ h9 => h9) rfl dX11_go_40 ?_
        have y56 := tpg_10 hG y19
        refine tpk_10 hT y19 (fun o57_x1 o57_x2 o57_x3 hf_o57 ro57_0 ro57_1 => ?_)
        refine tpk_pos (tp_in hG y19 (by decide)) hf_o57 (fun q58 eq58 => ?_)
        have hFc := tp_fr hD hS hA
        refine va_callv (va_runV (As := []) (rest := []) ⟨hx, hb, hml, hown, hts⟩ (t_X9_passHour l dC dI _ Ω κ τ ν ρ L f42 hG hT (ρ h0 2) y19) (cwV 0 hts gX11_go_X9_passHour rfl rfl rfl ⟨rfl, pd_X9_passHour⟩ ⟨Nat.le_of_ble_eq_true rfl, Nat.le_of_ble_eq_true rfl⟩) ⟨pz_blind, va_recv hK hP (ci := 9) (q0 := q58) rfl eq58, pz_pre hP hK hD hN⟩ rfl rfl hl.1 rfl (lv_room (Nat.le_of_ble_eq_true rfl)) dX11_go_43 ⟨Nat.le_of_ble_eq_true rfl, Nat.le_of_ble_eq_true rfl⟩) hS (fun q _ h => hFc q h) hFc (fun f61 t H1 locs ht hvm hw60 hB hz1 hk1 hS => ?_)
        refine tn_3 hw60 (fun hT hF62 hw60p => ?_); clear hw60
        have hR := hR.then hF62 (by decide)
        have hP := hB.1; rw [ht] at hP; have hD := tp_ad f61 hD; clear hB hFc hz1 hk1; subst ht; generalize t.heap = H at hP hS ⊢
        obtain ⟨z63, ez63⟩ : ∃ y : Int32, y = w41 + 1 := ⟨_, rfl⟩
        refine lv_iinc (v := z63) (lv' := [(2, .int z63), (0, .ref h0), (1, .int v)]) hx hb dX11_go_46 hl (k := 0) rfl (by rw [ez63]; rfl) (by decide) rfl (fun ls hl => ?_)
        have iz63 : z63.toInt = w41.toInt + 1 := zi_add ez63 rfl rfl (by omega) (by omega)
        refine lv_goto (tgt := 34) hx hb dX11_go_49 (by decide) ?_
        exact ih43 _ _ _ _ (by rw [hn44]; omega) ⟨f61, z63, rfl, hT, hR, (by omega), hP, hD, hS, lv_sub hl [0, 1, 2] rfl⟩
    · have ic40 : z39.toInt > 2399 := zi_lef rfl rfl c40
      refine lv_aload_n hx hb dX11_go_26 rfl (lv_at hl 0 rfl) ?_
      refine lv_iconst (v := (-1)) hx hb dX11_go_27 (by decide) ?_
      have hFc := tp_fr hD hS hA
      refine va_calli (va_runV (As := [.int (-1)]) (rest := []) ⟨hx, hb, hml, hown, hts⟩ (t_X11_refuse l dC dI _ Ω κ τ ν ρ L f hG hT h0 ((-1)) ht_h0) (cwV 1 hts gX11_go_X11_refuse rfl rfl rfl ⟨rfl, pd_X11_refuse⟩ ⟨Nat.le_of_ble_eq_true rfl, Nat.le_of_ble_eq_true rfl⟩) ⟨pz_blind, va_recv hK hP (ci := 11) (q0 := q24) rfl eq24, pz_pre hP hK hD hN⟩ rfl rfl hl.1 rfl (lv_room (Nat.le_of_ble_eq_true rfl)) dX11_go_28 ⟨Nat.le_of_ble_eq_true rfl, Nat.le_of_ble_eq_true rfl⟩) hS (fun q _ h => hFc q h) hFc (fun r64 f66 t H1 locs ht hvm hw65 hB hz1 hk1 hS => ?_)
      refine tn_4 hw65 (fun hT hF67 hw65r hw65p => ?_); clear hw65
      have hR := hR.then hF67 (by decide)
      have hP := hB.1; rw [ht] at hP; have hD := tp_ad f66 hD; clear hB hFc hz1 hk1; subst ht; generalize t.heap = H at hP hS ⊢
      exact W.iret (v := r64) hx hb hr (fun t ht hW => ⟨⟨r64, f66, rfl, ⟨hT, hR, trivial, trivial⟩, by rw [ht]; exact hP, va_K.moved hW.alike hK, hD⟩, hS.F ht⟩) hS.2.2 dX11_go_31
