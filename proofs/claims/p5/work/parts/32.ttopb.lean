set_option maxHeartbeats 4000000 in
set_option maxRecDepth 100000 in
theorem t_X11_feed (l : Launch) (dC : Nat → ClassId) (dI : Nat → Nat → Nat) (sz : Nat) (Ω : Nat → (Nat → Nat) → va_E → Prop) (κ : Nat → ClassId) (τ ν : Nat → Nat) (ρ : Nat → Nat → Nat) (L : List Nat) (f : Nat → va_E) (hG : tp_G τ ν ρ L) (hT : tp_T Ω κ τ ν ρ f) (h0 : Nat) (v : Int32) (u : Int32) (a : Int32) (b : Int32) (a5 : Int32) (ht_h0 : τ h0 = 12) : Met l yX11_feed wqX11_feed ({ frames := 3, cells := 0, slots := 0, locals := 800 }) (va_Pc [.ref h0, .int v, .int u, .int a, .int b, .int a5] (pz_B dC dI (tp_K κ) (va_pl L f) sz)) (va_Qi (fun (r : Int32) (f1 : Nat → va_E) => tp_T Ω κ τ ν ρ f1 ∧ tp_F τ [2, 3, 4, 5, 6, 7, 8, 9, 10, 11, 12, 20, 21, 22, 26, 27, 28] f f1 ∧ True ∧ True) (fun (f1 : Nat → va_E) (t : State) => pz_E dC dI (tp_K κ) (va_A (va_pl L f) sz) (va_pl L f1) t) (va_A (va_pl L f) sz)) 0 0 (va_A (va_pl L f) sz) := by
  refine Met.ofW (cc := cX11_feed) (maxL := 6) (ret := some .int) (by decide) rfl ?_
  intro p e s m args below meth c s₁ B hml hv
  obtain ⟨rfl, hsz, hP, hK, hD0, hN⟩ := hv
  have hx := B.exec
  have hb := B.bytes
  have hr := B.returns
  have hts := fun (w : Cond) (h : w ∈ WALL) => atoms_spec (ws := wqX11_feed) B.pre w (List.mem_cons_of_mem _ h)
  have hown : s.vm.findClass RX11 = some m.cls := findClass_of_methodNamed B.named
  have hlocks := B.notSynchronized
  subst hsz
  have hD := hD0.self (sz := s.heap.size)
  generalize hAe : va_A (va_pl L f) s.heap.size = A at hD ⊢
  have hA : ∀ q : Nat, s.heap.size ≤ q → A q := fun q h => by rw [← hAe]; exact Or.inr h
  have hS : va_S A s.heap s.heap [] := va_S.rf
  have hR : tp_F τ [2, 3, 4, 5, 6, 7, 8, 9, 10, 11, 12, 20, 21, 22, 26, 27, 28] f f := tp_F.rf
  have hl := lv_entry ([.ref h0, .int v, .int u, .int a, .int b, .int a5]) (n := 6) (Nat.le_of_ble_eq_true rfl)
  rw [lg_entry_eq]
  generalize (lg_sl ([.ref h0, .int v, .int u, .int a, .int b, .int a5]) ++ List.replicate (6 - (lg_sl ([.ref h0, .int v, .int u, .int a, .int b, .int a5])).length) Slot.unset).toArray = ls at hl ⊢
  have hl : lv_has ls 6 [(0, .ref h0), (1, .int v), (2, .int u), (3, .int a), (4, .int b), (5, .int a5)] := hl
  refine lv_aload_n hx hb dX11_feed_0 rfl (lv_at hl 0 rfl) ?_
  obtain ⟨y1, y2, y3, y4, y5, y6⟩ := tpg_12 hG ht_h0
  obtain ⟨o7_x6, hf_o7⟩ := tpo_12 hT ht_h0
  obtain ⟨q8, eq8⟩ := tp_pos (tp_in hG ht_h0 (by decide)) hf_o7
  refine va_get (D := (dC, dI)) (ci := 11) (v := .ref (ρ h0 3)) (C := RX11) (T := TX11) (N := 7) hx hb hts hfX11 hown hK hP q8 eq8 rfl 3 (by decide) (hts (.fieldLink RX11 32 "ColdShips" "reader" "LColdShips$Reader;") wa_24) (fun _ h9 => h9) rfl dX11_feed_1 ?_
  obtain ⟨⟨y9, y9n⟩, ⟨y10, y10n⟩, ⟨y11, y11n⟩⟩ := tpg_3 hG y4
  obtain ⟨o12_x1, o12_x2, o12_x3, o12_x4, o12_x5, o12_x6, o12_x8, o12_x10, o12_x11, o12_x12, o12_x13, o12_x14, o12_x15, hf_o12, ro12_0, ro12_1, ro12_2, ro12_3, ro12_4, ro12_5, ro12_6⟩ := tpo_3 hT y4
  obtain ⟨q13, eq13⟩ := tp_pos (tp_in hG y4 (by decide)) hf_o12
  refine pz_calli (va_runV (As := []) (rest := []) ⟨hx, hb, hml, hown, hts⟩ (t_X2_hasRoom l dC dI _ Ω κ τ ν ρ L f hG hT (ρ h0 3) y4) (cwV 0 hts gX11_feed_X2_hasRoom rfl rfl rfl ⟨rfl, pd_X2_hasRoom⟩ ⟨Nat.le_of_ble_eq_true rfl, Nat.le_of_ble_eq_true rfl⟩) ⟨pz_blind, va_recv hK hP (ci := 2) (q0 := q13) rfl eq13, pz_pre hP hK hD hN⟩ rfl rfl hl.1 rfl (lv_room (Nat.le_of_ble_eq_true rfl)) dX11_feed_4 ⟨Nat.le_of_ble_eq_true rfl, Nat.le_of_ble_eq_true rfl⟩) (fun r14 hw15 => ?_)
  obtain ⟨hw15r, hw15p⟩ := hw15
  refine lv_if_ne (tgt := 12) hx hb dX11_feed_7 (by decide) (fun c16 => ?_) (fun c16 => ?_)
  · have ic16 : r14.toInt ≠ 0 := zi_ne rfl rfl c16
    refine lv_aload_n hx hb dX11_feed_12 rfl (lv_at hl 0 rfl) ?_
    refine va_get (D := (dC, dI)) (ci := 11) (v := .ref (ρ h0 3)) (C := RX11) (T := TX11) (N := 7) hx hb hts hfX11 hown hK hP q8 eq8 rfl 3 (by decide) (hts (.fieldLink RX11 32 "ColdShips" "reader" "LColdShips$Reader;") wa_24) (fun _ h9 => h9) rfl dX11_feed_13 ?_
    refine lv_iload_n hx hb dX11_feed_16 rfl (lv_at hl 1 rfl) ?_
    have hFc := tp_fr hD hS hA
    refine va_callv (va_runV (As := [.int v]) (rest := []) ⟨hx, hb, hml, hown, hts⟩ (t_X2_addFour l dC dI _ Ω κ τ ν ρ L f hG hT (ρ h0 3) v y4) (cwV 1 hts gX11_feed_X2_addFour rfl rfl rfl ⟨rfl, pd_X2_addFour⟩ ⟨Nat.le_of_ble_eq_true rfl, Nat.le_of_ble_eq_true rfl⟩) ⟨pz_blind, va_recv hK hP (ci := 2) (q0 := q13) rfl eq13, pz_pre hP hK hD hN⟩ rfl rfl hl.1 rfl (lv_room (Nat.le_of_ble_eq_true rfl)) dX11_feed_17 ⟨Nat.le_of_ble_eq_true rfl, Nat.le_of_ble_eq_true rfl⟩) hS (fun q _ h => hFc q h) hFc (fun f19 t H1 locs ht hvm hw18 hB hz1 hk1 hS => ?_)
    obtain ⟨hT, hF20, hw18p⟩ := hw18
    have hR := hR.then hF20 (by decide)
    have hP := hB.1; rw [ht] at hP; have hD := tp_ad f19 hD; clear hB hFc hz1 hk1; subst ht; generalize t.heap = H at hP hS ⊢
    refine lv_aload_n hx hb dX11_feed_20 rfl (lv_at hl 0 rfl) ?_
    have hf_21 : f19 h0 = .inr (11, [.ref (ρ h0 0), .ref (ρ h0 1), .ref (ρ h0 2), .ref (ρ h0 3), .ref (ρ h0 4), .ref (ρ h0 5), .int o7_x6]) := (hF20 _ (by rw [ht_h0]; decide)).trans hf_o7
    obtain ⟨q22, eq22⟩ := tp_pos (tp_in hG ht_h0 (by decide)) hf_21
    refine va_get (D := (dC, dI)) (ci := 11) (v := .ref (ρ h0 3)) (C := RX11) (T := TX11) (N := 7) hx hb hts hfX11 hown hK hP q22 eq22 rfl 3 (by decide) (hts (.fieldLink RX11 32 "ColdShips" "reader" "LColdShips$Reader;") wa_24) (fun _ h9 => h9) rfl dX11_feed_21 ?_
    refine lv_iload_n hx hb dX11_feed_24 rfl (lv_at hl 2 rfl) ?_
    obtain ⟨o23_x1, o23_x2, o23_x3, o23_x4, o23_x5, o23_x6, o23_x8, o23_x10, o23_x11, o23_x12, o23_x13, o23_x14, o23_x15, hf_o23, ro23_0, ro23_1, ro23_2, ro23_3, ro23_4, ro23_5, ro23_6⟩ := tpo_3 hT y4
    obtain ⟨q24, eq24⟩ := tp_pos (tp_in hG y4 (by decide)) hf_o23
    have hFc := tp_fr hD hS hA
    refine va_callv (va_runV (As := [.int u]) (rest := []) ⟨hx, hb, hml, hown, hts⟩ (t_X2_addFour l dC dI _ Ω κ τ ν ρ L f19 hG hT (ρ h0 3) u y4) (cwV 1 hts gX11_feed_X2_addFour rfl rfl rfl ⟨rfl, pd_X2_addFour⟩ ⟨Nat.le_of_ble_eq_true rfl, Nat.le_of_ble_eq_true rfl⟩) ⟨pz_blind, va_recv hK hP (ci := 2) (q0 := q24) rfl eq24, pz_pre hP hK hD hN⟩ rfl rfl hl.1 rfl (lv_room (Nat.le_of_ble_eq_true rfl)) dX11_feed_25 ⟨Nat.le_of_ble_eq_true rfl, Nat.le_of_ble_eq_true rfl⟩) hS (fun q _ h => hFc q h) hFc (fun f27 t H1 locs ht hvm hw26 hB hz1 hk1 hS => ?_)
    obtain ⟨hT, hF28, hw26p⟩ := hw26
    have hR := hR.then hF28 (by decide)
    have hP := hB.1; rw [ht] at hP; have hD := tp_ad f27 hD; clear hB hFc hz1 hk1; subst ht; generalize t.heap = H at hP hS ⊢
    refine lv_aload_n hx hb dX11_feed_28 rfl (lv_at hl 0 rfl) ?_
    have hf_29 : f27 h0 = .inr (11, [.ref (ρ h0 0), .ref (ρ h0 1), .ref (ρ h0 2), .ref (ρ h0 3), .ref (ρ h0 4), .ref (ρ h0 5), .int o7_x6]) := (hF28 _ (by rw [ht_h0]; decide)).trans hf_21
    obtain ⟨q30, eq30⟩ := tp_pos (tp_in hG ht_h0 (by decide)) hf_29
    refine va_get (D := (dC, dI)) (ci := 11) (v := .ref (ρ h0 3)) (C := RX11) (T := TX11) (N := 7) hx hb hts hfX11 hown hK hP q30 eq30 rfl 3 (by decide) (hts (.fieldLink RX11 32 "ColdShips" "reader" "LColdShips$Reader;") wa_24) (fun _ h9 => h9) rfl dX11_feed_29 ?_
    refine lv_iload_n hx hb dX11_feed_32 rfl (lv_at hl 3 rfl) ?_
    obtain ⟨o31_x1, o31_x2, o31_x3, o31_x4, o31_x5, o31_x6, o31_x8, o31_x10, o31_x11, o31_x12, o31_x13, o31_x14, o31_x15, hf_o31, ro31_0, ro31_1, ro31_2, ro31_3, ro31_4, ro31_5, ro31_6⟩ := tpo_3 hT y4
    obtain ⟨q32, eq32⟩ := tp_pos (tp_in hG y4 (by decide)) hf_o31
    have hFc := tp_fr hD hS hA
    refine va_callv (va_runV (As := [.int a]) (rest := []) ⟨hx, hb, hml, hown, hts⟩ (t_X2_addFour l dC dI _ Ω κ τ ν ρ L f27 hG hT (ρ h0 3) a y4) (cwV 1 hts gX11_feed_X2_addFour rfl rfl rfl ⟨rfl, pd_X2_addFour⟩ ⟨Nat.le_of_ble_eq_true rfl, Nat.le_of_ble_eq_true rfl⟩) ⟨pz_blind, va_recv hK hP (ci := 2) (q0 := q32) rfl eq32, pz_pre hP hK hD hN⟩ rfl rfl hl.1 rfl (lv_room (Nat.le_of_ble_eq_true rfl)) dX11_feed_33 ⟨Nat.le_of_ble_eq_true rfl, Nat.le_of_ble_eq_true rfl⟩) hS (fun q _ h => hFc q h) hFc (fun f35 t H1 locs ht hvm hw34 hB hz1 hk1 hS => ?_)
    obtain ⟨hT, hF36, hw34p⟩ := hw34
    have hR := hR.then hF36 (by decide)
    have hP := hB.1; rw [ht] at hP; have hD := tp_ad f35 hD; clear hB hFc hz1 hk1; subst ht; generalize t.heap = H at hP hS ⊢
    refine lv_aload_n hx hb dX11_feed_36 rfl (lv_at hl 0 rfl) ?_
    have hf_37 : f35 h0 = .inr (11, [.ref (ρ h0 0), .ref (ρ h0 1), .ref (ρ h0 2), .ref (ρ h0 3), .ref (ρ h0 4), .ref (ρ h0 5), .int o7_x6]) := (hF36 _ (by rw [ht_h0]; decide)).trans hf_29
    obtain ⟨q38, eq38⟩ := tp_pos (tp_in hG ht_h0 (by decide)) hf_37
    refine va_get (D := (dC, dI)) (ci := 11) (v := .ref (ρ h0 3)) (C := RX11) (T := TX11) (N := 7) hx hb hts hfX11 hown hK hP q38 eq38 rfl 3 (by decide) (hts (.fieldLink RX11 32 "ColdShips" "reader" "LColdShips$Reader;") wa_24) (fun _ h9 => h9) rfl dX11_feed_37 ?_
    refine lv_iload hx hb dX11_feed_40 (lv_at hl 4 rfl) ?_
    obtain ⟨o39_x1, o39_x2, o39_x3, o39_x4, o39_x5, o39_x6, o39_x8, o39_x10, o39_x11, o39_x12, o39_x13, o39_x14, o39_x15, hf_o39, ro39_0, ro39_1, ro39_2, ro39_3, ro39_4, ro39_5, ro39_6⟩ := tpo_3 hT y4
    obtain ⟨q40, eq40⟩ := tp_pos (tp_in hG y4 (by decide)) hf_o39
    have hFc := tp_fr hD hS hA
    refine va_callv (va_runV (As := [.int b]) (rest := []) ⟨hx, hb, hml, hown, hts⟩ (t_X2_addFour l dC dI _ Ω κ τ ν ρ L f35 hG hT (ρ h0 3) b y4) (cwV 1 hts gX11_feed_X2_addFour rfl rfl rfl ⟨rfl, pd_X2_addFour⟩ ⟨Nat.le_of_ble_eq_true rfl, Nat.le_of_ble_eq_true rfl⟩) ⟨pz_blind, va_recv hK hP (ci := 2) (q0 := q40) rfl eq40, pz_pre hP hK hD hN⟩ rfl rfl hl.1 rfl (lv_room (Nat.le_of_ble_eq_true rfl)) dX11_feed_42 ⟨Nat.le_of_ble_eq_true rfl, Nat.le_of_ble_eq_true rfl⟩) hS (fun q _ h => hFc q h) hFc (fun f43 t H1 locs ht hvm hw42 hB hz1 hk1 hS => ?_)
    obtain ⟨hT, hF44, hw42p⟩ := hw42
    have hR := hR.then hF44 (by decide)
    have hP := hB.1; rw [ht] at hP; have hD := tp_ad f43 hD; clear hB hFc hz1 hk1; subst ht; generalize t.heap = H at hP hS ⊢
    refine lv_aload_n hx hb dX11_feed_45 rfl (lv_at hl 0 rfl) ?_
    have hf_45 : f43 h0 = .inr (11, [.ref (ρ h0 0), .ref (ρ h0 1), .ref (ρ h0 2), .ref (ρ h0 3), .ref (ρ h0 4), .ref (ρ h0 5), .int o7_x6]) := (hF44 _ (by rw [ht_h0]; decide)).trans hf_37
    obtain ⟨q46, eq46⟩ := tp_pos (tp_in hG ht_h0 (by decide)) hf_45
    refine va_get (D := (dC, dI)) (ci := 11) (v := .ref (ρ h0 3)) (C := RX11) (T := TX11) (N := 7) hx hb hts hfX11 hown hK hP q46 eq46 rfl 3 (by decide) (hts (.fieldLink RX11 32 "ColdShips" "reader" "LColdShips$Reader;") wa_24) (fun _ h9 => h9) rfl dX11_feed_46 ?_
    refine lv_iload hx hb dX11_feed_49 (lv_at hl 5 rfl) ?_
    obtain ⟨o47_x1, o47_x2, o47_x3, o47_x4, o47_x5, o47_x6, o47_x8, o47_x10, o47_x11, o47_x12, o47_x13, o47_x14, o47_x15, hf_o47, ro47_0, ro47_1, ro47_2, ro47_3, ro47_4, ro47_5, ro47_6⟩ := tpo_3 hT y4
    obtain ⟨q48, eq48⟩ := tp_pos (tp_in hG y4 (by decide)) hf_o47
    have hFc := tp_fr hD hS hA
    refine va_callv (va_runV (As := [.int a5]) (rest := []) ⟨hx, hb, hml, hown, hts⟩ (t_X2_addFour l dC dI _ Ω κ τ ν ρ L f43 hG hT (ρ h0 3) a5 y4) (cwV 1 hts gX11_feed_X2_addFour rfl rfl rfl ⟨rfl, pd_X2_addFour⟩ ⟨Nat.le_of_ble_eq_true rfl, Nat.le_of_ble_eq_true rfl⟩) ⟨pz_blind, va_recv hK hP (ci := 2) (q0 := q48) rfl eq48, pz_pre hP hK hD hN⟩ rfl rfl hl.1 rfl (lv_room (Nat.le_of_ble_eq_true rfl)) dX11_feed_51 ⟨Nat.le_of_ble_eq_true rfl, Nat.le_of_ble_eq_true rfl⟩) hS (fun q _ h => hFc q h) hFc (fun f51 t H1 locs ht hvm hw50 hB hz1 hk1 hS => ?_)
    obtain ⟨hT, hF52, hw50p⟩ := hw50
    have hR := hR.then hF52 (by decide)
    have hP := hB.1; rw [ht] at hP; have hD := tp_ad f51 hD; clear hB hFc hz1 hk1; subst ht; generalize t.heap = H at hP hS ⊢
    refine lv_aload_n hx hb dX11_feed_54 rfl (lv_at hl 0 rfl) ?_
    have hf_53 : f51 h0 = .inr (11, [.ref (ρ h0 0), .ref (ρ h0 1), .ref (ρ h0 2), .ref (ρ h0 3), .ref (ρ h0 4), .ref (ρ h0 5), .int o7_x6]) := (hF52 _ (by rw [ht_h0]; decide)).trans hf_45
    obtain ⟨q54, eq54⟩ := tp_pos (tp_in hG ht_h0 (by decide)) hf_53
    refine va_get (D := (dC, dI)) (ci := 11) (v := .ref (ρ h0 3)) (C := RX11) (T := TX11) (N := 7) hx hb hts hfX11 hown hK hP q54 eq54 rfl 3 (by decide) (hts (.fieldLink RX11 32 "ColdShips" "reader" "LColdShips$Reader;") wa_24) (fun _ h9 => h9) rfl dX11_feed_55 ?_
    obtain ⟨o55_x1, o55_x2, o55_x3, o55_x4, o55_x5, o55_x6, o55_x8, o55_x10, o55_x11, o55_x12, o55_x13, o55_x14, o55_x15, hf_o55, ro55_0, ro55_1, ro55_2, ro55_3, ro55_4, ro55_5, ro55_6⟩ := tpo_3 hT y4
    obtain ⟨q56, eq56⟩ := tp_pos (tp_in hG y4 (by decide)) hf_o55
    refine va_getN (D := (dC, dI)) (ci := 2) (v := .int o55_x1) (C := RX2) (T := TX2) (N := 16) hx hb hts hfX2 hown hK hP q56 eq56 rfl 1 (by decide) (va_Nw.use rfl (hN.1 (.fieldLinkNest RX11 260 "ColdShips$Reader" "size" "I" "ColdShips") nzw_88)) (fun _ h9 => h9) rfl dX11_feed_58 ?_
    exact W.iret (v := o55_x1) hx hb hr (fun t ht hW => ⟨⟨o55_x1, f51, rfl, ⟨hT, hR, trivial, trivial⟩, by rw [ht]; exact hP, va_K.moved hW.alike hK, hD⟩, hS.F ht⟩) hS.2.2 dX11_feed_61
  · have ic16 : r14.toInt = 0 := zi_nef rfl rfl c16
    refine lv_iconst (v := (-1)) hx hb dX11_feed_10 (by decide) ?_
    exact W.iret (v := (-1)) hx hb hr (fun t ht hW => ⟨⟨(-1), f, rfl, ⟨hT, hR, trivial, trivial⟩, by rw [ht]; exact hP, va_K.moved hW.alike hK, hD⟩, hS.F ht⟩) hS.2.2 dX11_feed_11
set_option maxHeartbeats 4000000 in
set_option maxRecDepth 100000 in
theorem t_X11_end (l : Launch) (dC : Nat → ClassId) (dI : Nat → Nat → Nat) (sz : Nat) (Ω : Nat → (Nat → Nat) → va_E → Prop) (κ : Nat → ClassId) (τ ν : Nat → Nat) (ρ : Nat → Nat → Nat) (L : List Nat) (f : Nat → va_E) (hG : tp_G τ ν ρ L) (hT : tp_T Ω κ τ ν ρ f) (h0 : Nat) (v : Int32) (ht_h0 : τ h0 = 12) : Met l yX11_end wqX11_end ({ frames := 3, cells := 0, slots := 0, locals := 800 }) (va_Pc [.ref h0, .int v] (pz_B dC dI (tp_K κ) (va_pl L f) sz)) (va_Qi (fun (r : Int32) (f1 : Nat → va_E) => tp_T Ω κ τ ν ρ f1 ∧ tp_F τ [2, 3, 4, 5, 6, 7, 8, 9, 10, 11, 12, 20, 21, 22, 26, 27, 28] f f1 ∧ True ∧ True) (fun (f1 : Nat → va_E) (t : State) => pz_E dC dI (tp_K κ) (va_A (va_pl L f) sz) (va_pl L f1) t) (va_A (va_pl L f) sz)) 0 0 (va_A (va_pl L f) sz) := by
  refine Met.ofW (cc := cX11_end) (maxL := 2) (ret := some .int) (by decide) rfl ?_
  intro p e s m args below meth c s₁ B hml hv
  obtain ⟨rfl, hsz, hP, hK, hD0, hN⟩ := hv
  have hx := B.exec
  have hb := B.bytes
  have hr := B.returns
  have hts := fun (w : Cond) (h : w ∈ WALL) => atoms_spec (ws := wqX11_end) B.pre w (List.mem_cons_of_mem _ h)
  have hown : s.vm.findClass RX11 = some m.cls := findClass_of_methodNamed B.named
  have hlocks := B.notSynchronized
  subst hsz
  have hD := hD0.self (sz := s.heap.size)
  generalize hAe : va_A (va_pl L f) s.heap.size = A at hD ⊢
  have hA : ∀ q : Nat, s.heap.size ≤ q → A q := fun q h => by rw [← hAe]; exact Or.inr h
  have hS : va_S A s.heap s.heap [] := va_S.rf
  have hR : tp_F τ [2, 3, 4, 5, 6, 7, 8, 9, 10, 11, 12, 20, 21, 22, 26, 27, 28] f f := tp_F.rf
  have hl := lv_entry ([.ref h0, .int v]) (n := 2) (Nat.le_of_ble_eq_true rfl)
  rw [lg_entry_eq]
  generalize (lg_sl ([.ref h0, .int v]) ++ List.replicate (2 - (lg_sl ([.ref h0, .int v])).length) Slot.unset).toArray = ls at hl ⊢
  have hl : lv_has ls 2 [(0, .ref h0), (1, .int v)] := hl
  refine lv_iload_n hx hb dX11_end_0 rfl (lv_at hl 1 rfl) ?_
  refine lv_iconst (v := 0) hx hb dX11_end_1 (by decide) ?_
  refine lv_aload_n hx hb dX11_end_2 rfl (lv_at hl 0 rfl) ?_
  obtain ⟨y1, y2, y3, y4, y5, y6⟩ := tpg_12 hG ht_h0
  obtain ⟨o7_x6, hf_o7⟩ := tpo_12 hT ht_h0
  obtain ⟨q8, eq8⟩ := tp_pos (tp_in hG ht_h0 (by decide)) hf_o7
  refine va_get (D := (dC, dI)) (ci := 11) (v := .ref (ρ h0 3)) (C := RX11) (T := TX11) (N := 7) hx hb hts hfX11 hown hK hP q8 eq8 rfl 3 (by decide) (hts (.fieldLink RX11 32 "ColdShips" "reader" "LColdShips$Reader;") wa_24) (fun _ h9 => h9) rfl dX11_end_3 ?_
  obtain ⟨⟨y9, y9n⟩, ⟨y10, y10n⟩, ⟨y11, y11n⟩⟩ := tpg_3 hG y4
  obtain ⟨o12_x1, o12_x2, o12_x3, o12_x4, o12_x5, o12_x6, o12_x8, o12_x10, o12_x11, o12_x12, o12_x13, o12_x14, o12_x15, hf_o12, ro12_0, ro12_1, ro12_2, ro12_3, ro12_4, ro12_5, ro12_6⟩ := tpo_3 hT y4
  obtain ⟨q13, eq13⟩ := tp_pos (tp_in hG y4 (by decide)) hf_o12
  refine va_getN (D := (dC, dI)) (ci := 2) (v := .int o12_x1) (C := RX2) (T := TX2) (N := 16) hx hb hts hfX2 hown hK hP q13 eq13 rfl 1 (by decide) (va_Nw.use rfl (hN.1 (.fieldLinkNest RX11 260 "ColdShips$Reader" "size" "I" "ColdShips") nzw_88)) (fun _ h9 => h9) rfl dX11_end_6 ?_
  refine pz_calli (va_runS (As := [.int v, .int 0, .int o12_x1]) (rest := []) ⟨hx, hb, hml, hown, hts⟩ (t_X11_within l dC dI _ v (0) o12_x1 (v.toInt) (0) (o12_x1.toInt) rfl rfl rfl) (va_cwS 3 hts gX11_end_X11_within rfl rfl rfl pd_X11_within ⟨Nat.le_of_ble_eq_true rfl, Nat.le_of_ble_eq_true rfl⟩) ⟨pz_blind, pz_pre pz_P0 (hK.sub (tys' := []) [] rfl) (pz_D0 (A := fun _ => True)) hN⟩ rfl rfl hl.1 rfl (lv_room (Nat.le_of_ble_eq_true rfl)) dX11_end_9 ⟨Nat.le_of_ble_eq_true rfl, Nat.le_of_ble_eq_true rfl⟩) (fun r14 hw15 => ?_)
  obtain ⟨hw15r, hw15p⟩ := hw15
  refine lv_if_ne (tgt := 17) hx hb dX11_end_12 (by decide) (fun c16 => ?_) (fun c16 => ?_)
  · have ic16 : r14.toInt ≠ 0 := zi_ne rfl rfl c16
    have p17 : (0) ≤ (v.toInt) ∧ (v.toInt) ≤ (o12_x1.toInt) := (tp_cond.yes hw15p) (by omega)
    refine lv_aload_n hx hb dX11_end_17 rfl (lv_at hl 0 rfl) ?_
    refine va_get (D := (dC, dI)) (ci := 11) (v := .ref (ρ h0 3)) (C := RX11) (T := TX11) (N := 7) hx hb hts hfX11 hown hK hP q8 eq8 rfl 3 (by decide) (hts (.fieldLink RX11 32 "ColdShips" "reader" "LColdShips$Reader;") wa_24) (fun _ h9 => h9) rfl dX11_end_18 ?_
    refine lv_iload_n hx hb dX11_end_21 rfl (lv_at hl 1 rfl) ?_
    refine va_putN (D := (dC, dI)) (ci := 2) (v := .int v) (ty := .int) (C := RX2) (T := TX2) (N := 16) hx hb hts hfX2 tyX2 tyX2_ok nmX2 hown hK hP hD hS q13 eq13 rfl 1 (by decide) (va_Nw.use rfl (hN.1 (.fieldLinkNest RX11 260 "ColdShips$Reader" "size" "I" "ColdShips") nzw_88)) (fun _ h9 => h9) rfl (tyX2_ok 1 (by decide)) rfl rfl (Nat.le_of_ble_eq_true rfl) dX11_end_22 (tp_k (.inr (2, [.ref (ρ (ρ h0 3) 0), .int v, .int o12_x2, .int o12_x3, .int o12_x4, .int o12_x5, .int o12_x6, .ref (ρ (ρ h0 3) 7), .int o12_x8, .ref (ρ (ρ h0 3) 9), .int o12_x10, .int o12_x11, .int o12_x12, .int o12_x13, .int o12_x14, .int o12_x15])) hD (tp_in hG y4 (by decide)) eq13 (fun f18 H locs hP hD hS g20 k19 => ?_))
    have hT := hT.up y4 g20 k19 ⟨_, _, _, _, _, _, _, _, _, _, _, _, _, rfl, (by first | decide | omega | (omega)), (by first | decide | omega | (omega)), (by first | decide | omega | (omega)), (by first | decide | omega | (omega)), (by first | decide | omega | (omega)), (by first | decide | omega | (omega)), (by first | decide | omega | (omega))⟩
    have hR := hR.up y4 (by decide) k19
    refine lv_iload_n hx hb dX11_end_25 rfl (lv_at hl 1 rfl) ?_
    exact W.iret (v := v) hx hb hr (fun t ht hW => ⟨⟨v, f18, rfl, ⟨hT, hR, trivial, trivial⟩, by rw [ht]; exact hP, va_K.moved hW.alike hK, hD⟩, hS.F ht⟩) hS.2.2 dX11_end_26
  · have ic16 : r14.toInt = 0 := zi_nef rfl rfl c16
    refine lv_iconst (v := (-1)) hx hb dX11_end_15 (by decide) ?_
    exact W.iret (v := (-1)) hx hb hr (fun t ht hW => ⟨⟨(-1), f, rfl, ⟨hT, hR, trivial, trivial⟩, by rw [ht]; exact hP, va_K.moved hW.alike hK, hD⟩, hS.F ht⟩) hS.2.2 dX11_end_16
set_option maxHeartbeats 4000000 in
set_option maxRecDepth 100000 in
theorem t_X11_fault (l : Launch) (dC : Nat → ClassId) (dI : Nat → Nat → Nat) (sz : Nat) (Ω : Nat → (Nat → Nat) → va_E → Prop) (κ : Nat → ClassId) (τ ν : Nat → Nat) (ρ : Nat → Nat → Nat) (L : List Nat) (f : Nat → va_E) (hG : tp_G τ ν ρ L) (hT : tp_T Ω κ τ ν ρ f) (h0 : Nat) (ht_h0 : τ h0 = 12) : Met l yX11_fault wqX11_fault ({ frames := 2, cells := 0, slots := 0, locals := 400 }) (va_Pc [.ref h0] (pz_B dC dI (tp_K κ) (va_pl L f) sz)) (va_Qi (fun (r : Int32) (f1 : Nat → va_E) => tp_T Ω κ τ ν ρ f1 ∧ tp_F τ [2, 3, 4, 5, 6, 7, 8, 9, 10, 11, 12, 20, 21, 22, 26, 27, 28] f f1 ∧ True ∧ True) (fun (f1 : Nat → va_E) (t : State) => pz_E dC dI (tp_K κ) (va_A (va_pl L f) sz) (va_pl L f1) t) (va_A (va_pl L f) sz)) 0 0 (va_A (va_pl L f) sz) := by
  refine Met.ofW (cc := cX11_fault) (maxL := 1) (ret := some .int) (by decide) rfl ?_
  intro p e s m args below meth c s₁ B hml hv
  obtain ⟨rfl, hsz, hP, hK, hD0, hN⟩ := hv
  have hx := B.exec
  have hb := B.bytes
  have hr := B.returns
  have hts := fun (w : Cond) (h : w ∈ WALL) => atoms_spec (ws := wqX11_fault) B.pre w (List.mem_cons_of_mem _ h)
  have hown : s.vm.findClass RX11 = some m.cls := findClass_of_methodNamed B.named
  have hlocks := B.notSynchronized
  subst hsz
  have hD := hD0.self (sz := s.heap.size)
  generalize hAe : va_A (va_pl L f) s.heap.size = A at hD ⊢
  have hA : ∀ q : Nat, s.heap.size ≤ q → A q := fun q h => by rw [← hAe]; exact Or.inr h
  have hS : va_S A s.heap s.heap [] := va_S.rf
  have hR : tp_F τ [2, 3, 4, 5, 6, 7, 8, 9, 10, 11, 12, 20, 21, 22, 26, 27, 28] f f := tp_F.rf
  have hl := lv_entry ([.ref h0]) (n := 1) (Nat.le_of_ble_eq_true rfl)
  rw [lg_entry_eq]
  generalize (lg_sl ([.ref h0]) ++ List.replicate (1 - (lg_sl ([.ref h0])).length) Slot.unset).toArray = ls at hl ⊢
  have hl : lv_has ls 1 [(0, .ref h0)] := hl
  refine lv_aload_n hx hb dX11_fault_0 rfl (lv_at hl 0 rfl) ?_
  obtain ⟨y1, y2, y3, y4, y5, y6⟩ := tpg_12 hG ht_h0
  obtain ⟨o7_x6, hf_o7⟩ := tpo_12 hT ht_h0
  obtain ⟨q8, eq8⟩ := tp_pos (tp_in hG ht_h0 (by decide)) hf_o7
  refine va_get (D := (dC, dI)) (ci := 11) (v := .ref (ρ h0 3)) (C := RX11) (T := TX11) (N := 7) hx hb hts hfX11 hown hK hP q8 eq8 rfl 3 (by decide) (hts (.fieldLink RX11 32 "ColdShips" "reader" "LColdShips$Reader;") wa_24) (fun _ h9 => h9) rfl dX11_fault_1 ?_
  obtain ⟨⟨y9, y9n⟩, ⟨y10, y10n⟩, ⟨y11, y11n⟩⟩ := tpg_3 hG y4
  obtain ⟨o12_x1, o12_x2, o12_x3, o12_x4, o12_x5, o12_x6, o12_x8, o12_x10, o12_x11, o12_x12, o12_x13, o12_x14, o12_x15, hf_o12, ro12_0, ro12_1, ro12_2, ro12_3, ro12_4, ro12_5, ro12_6⟩ := tpo_3 hT y4
  obtain ⟨q13, eq13⟩ := tp_pos (tp_in hG y4 (by decide)) hf_o12
  refine va_getN (D := (dC, dI)) (ci := 2) (v := .int o12_x2) (C := RX2) (T := TX2) (N := 16) hx hb hts hfX2 hown hK hP q13 eq13 rfl 2 (by decide) (va_Nw.use rfl (hN.1 (.fieldLinkNest RX11 275 "ColdShips$Reader" "faultAt" "I" "ColdShips") nzw_89)) (fun _ h9 => h9) rfl dX11_fault_4 ?_
  exact W.iret (v := o12_x2) hx hb hr (fun t ht hW => ⟨⟨o12_x2, f, rfl, ⟨hT, hR, trivial, trivial⟩, by rw [ht]; exact hP, va_K.moved hW.alike hK, hD⟩, hS.F ht⟩) hS.2.2 dX11_fault_7
set_option maxHeartbeats 4000000 in
set_option maxRecDepth 100000 in
theorem t_X11_due (l : Launch) (dC : Nat → ClassId) (dI : Nat → Nat → Nat) (sz : Nat) (Ω : Nat → (Nat → Nat) → va_E → Prop) (κ : Nat → ClassId) (τ ν : Nat → Nat) (ρ : Nat → Nat → Nat) (L : List Nat) (f : Nat → va_E) (hG : tp_G τ ν ρ L) (hT : tp_T Ω κ τ ν ρ f) (h0 : Nat) (v : Int32) (u : Int32) (a : Int32) (b : Int32) (ht_h0 : τ h0 = 12) : Met l yX11_due wqX11_due ({ frames := 7, cells := 0, slots := 0, locals := 2400 }) (va_Pc [.ref h0, .int v, .int u, .int a, .int b] (pz_B dC dI (tp_K κ) (va_pl L f) sz)) (va_Ql (fun (r : Int64) (f1 : Nat → va_E) => tp_T Ω κ τ ν ρ f1 ∧ tp_F τ [2, 3, 4, 5, 6, 7, 8, 9, 10, 11, 12, 20, 21, 22, 26, 27, 28] f f1 ∧ True ∧ True) (fun (f1 : Nat → va_E) (t : State) => pz_E dC dI (tp_K κ) (va_A (va_pl L f) sz) (va_pl L f1) t) (va_A (va_pl L f) sz)) 0 0 (va_A (va_pl L f) sz) := by
  refine Met.ofW (cc := cX11_due) (maxL := 5) (ret := some .long) (by decide) rfl ?_
  intro p e s m args below meth c s₁ B hml hv
  obtain ⟨rfl, hsz, hP, hK, hD0, hN⟩ := hv
  have hx := B.exec
  have hb := B.bytes
  have hr := B.returns
  have hts := fun (w : Cond) (h : w ∈ WALL) => atoms_spec (ws := wqX11_due) B.pre w (List.mem_cons_of_mem _ h)
  have hown : s.vm.findClass RX11 = some m.cls := findClass_of_methodNamed B.named
  have hlocks := B.notSynchronized
  subst hsz
  have hD := hD0.self (sz := s.heap.size)
  generalize hAe : va_A (va_pl L f) s.heap.size = A at hD ⊢
  have hA : ∀ q : Nat, s.heap.size ≤ q → A q := fun q h => by rw [← hAe]; exact Or.inr h
  have hS : va_S A s.heap s.heap [] := va_S.rf
  have hR : tp_F τ [2, 3, 4, 5, 6, 7, 8, 9, 10, 11, 12, 20, 21, 22, 26, 27, 28] f f := tp_F.rf
  have hl := lv_entry ([.ref h0, .int v, .int u, .int a, .int b]) (n := 5) (Nat.le_of_ble_eq_true rfl)
  rw [lg_entry_eq]
  generalize (lg_sl ([.ref h0, .int v, .int u, .int a, .int b]) ++ List.replicate (5 - (lg_sl ([.ref h0, .int v, .int u, .int a, .int b])).length) Slot.unset).toArray = ls at hl ⊢
  have hl : lv_has ls 5 [(0, .ref h0), (1, .int v), (2, .int u), (3, .int a), (4, .int b)] := hl
  refine lv_aload_n hx hb dX11_due_0 rfl (lv_at hl 0 rfl) ?_
  obtain ⟨y1, y2, y3, y4, y5, y6⟩ := tpg_12 hG ht_h0
  obtain ⟨o7_x6, hf_o7⟩ := tpo_12 hT ht_h0
  obtain ⟨q8, eq8⟩ := tp_pos (tp_in hG ht_h0 (by decide)) hf_o7
  refine va_get (D := (dC, dI)) (ci := 11) (v := .ref (ρ h0 0)) (C := RX11) (T := TX11) (N := 7) hx hb hts hfX11 hown hK hP q8 eq8 rfl 0 (by decide) (hts (.fieldLink RX11 10 "ColdShips" "world" "LColdShips$World;") wa_15) (fun _ h9 => h9) rfl dX11_due_1 ?_
  obtain ⟨⟨y9, y9n⟩, ⟨y10, y10n⟩, y11, y12, y13, y14, y15, y16, ⟨y17, y17w, y17m⟩, ⟨y18, y18w, y18m⟩, ⟨y19, y19w, y19m⟩, ⟨y20, y20w, y20m⟩⟩ := tpg_11 hG y1
  obtain ⟨o21_x0, o21_x1, o21_x2, o21_x3, o21_x4, o21_x5, o21_x6, hf_o21, ro21_0, ro21_1, ro21_2, ro21_3⟩ := tpo_11 hT y1
  obtain ⟨q22, eq22⟩ := tp_pos (tp_in hG y1 (by decide)) hf_o21
  refine va_getN (D := (dC, dI)) (ci := 10) (v := .ref (ρ (ρ h0 0) 17)) (C := RX10) (T := TX10) (N := 19) hx hb hts hfX10 hown hK hP q22 eq22 rfl 17 (by decide) (va_Nw.use rfl (hN.1 (.fieldLinkNest RX11 207 "ColdShips$World" "landings" "LColdShips$Rows;" "ColdShips") nzw_85)) (fun _ h9 => h9) rfl dX11_due_4 ?_
  refine lv_iload_n hx hb dX11_due_7 rfl (lv_at hl 1 rfl) ?_
  obtain ⟨⟨y23, y23n⟩, ⟨y24a, y24b, y24c⟩⟩ := tpg_5 hG y19
  obtain ⟨o25_x0, o25_x2, hf_o25, ro25_0, ro25_1⟩ := tpo_5 hT y19
  obtain ⟨q26, eq26⟩ := tp_pos (tp_in hG y19 (by decide)) hf_o25
  refine pz_calli (va_runV (As := [.int v]) (rest := []) ⟨hx, hb, hml, hown, hts⟩ (t_X4_has l dC dI _ Ω κ τ ν ρ L f hG hT (ρ (ρ h0 0) 17) v y19 o25_x0 o25_x2 hf_o25) (cwV 1 hts gX11_due_X4_has rfl rfl rfl ⟨rfl, pd_X4_has⟩ ⟨Nat.le_of_ble_eq_true rfl, Nat.le_of_ble_eq_true rfl⟩) ⟨pz_blind, va_recv hK hP (ci := 4) (q0 := q26) rfl eq26, pz_pre hP hK hD hN⟩ rfl rfl hl.1 rfl (lv_room (Nat.le_of_ble_eq_true rfl)) dX11_due_8 ⟨Nat.le_of_ble_eq_true rfl, Nat.le_of_ble_eq_true rfl⟩) (fun r27 hw28 => ?_)
  obtain ⟨hw28r, hw28p⟩ := hw28
  refine lv_if_eq (tgt := 32) hx hb dX11_due_11 (by decide) (fun c29 => ?_) (fun c29 => ?_)
  · have ic29 : r27.toInt = 0 := zi_eq rfl rfl c29
    refine lv_ldc2 (own := RX11) (v := (-2000000000000000)) hx hb hown (hts (.constantLong RX11 281 (-2000000000000000)) wa_1124) dX11_due_32 ?_
    exact W.lret (v := (-2000000000000000)) hx hb hr (fun t ht hW => ⟨⟨(-2000000000000000), f, rfl, ⟨hT, hR, trivial, trivial⟩, by rw [ht]; exact hP, va_K.moved hW.alike hK, hD⟩, hS.F ht⟩) hS.2.2 dX11_due_35
  · have ic29 : r27.toInt ≠ 0 := zi_eqf rfl rfl c29
    have p30 : 0 ≤ v.toInt ∧ v.toInt < o25_x2.toInt := (tp_cond.yes hw28p) (by omega)
    refine lv_aload_n hx hb dX11_due_14 rfl (lv_at hl 0 rfl) ?_
    refine va_get (D := (dC, dI)) (ci := 11) (v := .ref (ρ h0 0)) (C := RX11) (T := TX11) (N := 7) hx hb hts hfX11 hown hK hP q8 eq8 rfl 0 (by decide) (hts (.fieldLink RX11 10 "ColdShips" "world" "LColdShips$World;") wa_15) (fun _ h9 => h9) rfl dX11_due_15 ?_
    refine lv_iload_n hx hb dX11_due_18 rfl (lv_at hl 2 rfl) ?_
    obtain ⟨g32, hf_o31, hf_o31e⟩ := tpo_26 hT y13
    refine pz_calli (va_runV (As := [.int u]) (rest := []) ⟨hx, hb, hml, hown, hts⟩ (t_X10_hasContract l dC dI _ Ω κ τ ν ρ L f hG hT (ρ h0 0) u y1 o21_x0 o21_x1 o21_x2 o21_x3 o21_x4 o21_x5 o21_x6 hf_o21 g32 hf_o31) (cwV 1 hts gX11_due_X10_hasContract rfl rfl rfl ⟨rfl, pd_X10_hasContract⟩ ⟨Nat.le_of_ble_eq_true rfl, Nat.le_of_ble_eq_true rfl⟩) ⟨pz_blind, va_recv hK hP (ci := 10) (q0 := q22) rfl eq22, pz_pre hP hK hD hN⟩ rfl rfl hl.1 rfl (lv_room (Nat.le_of_ble_eq_true rfl)) dX11_due_19 ⟨Nat.le_of_ble_eq_true rfl, Nat.le_of_ble_eq_true rfl⟩) (fun r33 hw34 => ?_)
    obtain ⟨hw34r, hw34p⟩ := hw34
    refine lv_if_eq (tgt := 32) hx hb dX11_due_22 (by decide) (fun c35 => ?_) (fun c35 => ?_)
    · have ic35 : r33.toInt = 0 := zi_eq rfl rfl c35
      refine lv_ldc2 (own := RX11) (v := (-2000000000000000)) hx hb hown (hts (.constantLong RX11 281 (-2000000000000000)) wa_1124) dX11_due_32 ?_
      exact W.lret (v := (-2000000000000000)) hx hb hr (fun t ht hW => ⟨⟨(-2000000000000000), f, rfl, ⟨hT, hR, trivial, trivial⟩, by rw [ht]; exact hP, va_K.moved hW.alike hK, hD⟩, hS.F ht⟩) hS.2.2 dX11_due_35
    · have ic35 : r33.toInt ≠ 0 := zi_eqf rfl rfl c35
      have p36 : ((0 ≤ u.toInt ∧ u.toInt ≤ 11) ∧ ∃ b : Nat, g32 u.toNatClampNeg = some b ∧ τ b = 1) := hw34p (by omega)
      obtain ⟨p36, b37, hq38, hq38t⟩ := p36
      refine lv_iload_n hx hb dX11_due_25 rfl (lv_at hl 3 rfl) ?_
      refine pz_calli (va_runS (As := [.int a]) (rest := []) ⟨hx, hb, hml, hown, hts⟩ (t_X11_isHour l dC dI _ a (a.toInt) rfl) (va_cwS 1 hts gX11_due_X11_isHour rfl rfl rfl pd_X11_isHour ⟨Nat.le_of_ble_eq_true rfl, Nat.le_of_ble_eq_true rfl⟩) ⟨pz_blind, pz_pre pz_P0 (hK.sub (tys' := []) [] rfl) (pz_D0 (A := fun _ => True)) hN⟩ rfl rfl hl.1 rfl (lv_room (Nat.le_of_ble_eq_true rfl)) dX11_due_26 ⟨Nat.le_of_ble_eq_true rfl, Nat.le_of_ble_eq_true rfl⟩) (fun r39 hw40 => ?_)
      obtain ⟨hw40r, hw40p⟩ := hw40
      refine lv_if_ne (tgt := 36) hx hb dX11_due_29 (by decide) (fun c41 => ?_) (fun c41 => ?_)
      · have ic41 : r39.toInt ≠ 0 := zi_ne rfl rfl c41
        have p42 : 0 ≤ (a.toInt) ∧ (a.toInt) ≤ 2399 := (tp_cond.yes hw40p) (by omega)
        refine lv_aload_n hx hb dX11_due_36 rfl (lv_at hl 0 rfl) ?_
        refine va_get (D := (dC, dI)) (ci := 11) (v := .ref (ρ h0 4)) (C := RX11) (T := TX11) (N := 7) hx hb hts hfX11 hown hK hP q8 eq8 rfl 4 (by decide) (hts (.fieldLink RX11 39 "ColdShips" "reckoner" "LColdShips$Reckoner;") wa_28) (fun _ h9 => h9) rfl dX11_due_37 ?_
        refine lv_iload_n hx hb dX11_due_40 rfl (lv_at hl 1 rfl) ?_
        refine lv_aload_n hx hb dX11_due_41 rfl (lv_at hl 0 rfl) ?_
        refine va_get (D := (dC, dI)) (ci := 11) (v := .ref (ρ h0 0)) (C := RX11) (T := TX11) (N := 7) hx hb hts hfX11 hown hK hP q8 eq8 rfl 0 (by decide) (hts (.fieldLink RX11 10 "ColdShips" "world" "LColdShips$World;") wa_15) (fun _ h9 => h9) rfl dX11_due_42 ?_
        refine va_getN (D := (dC, dI)) (ci := 10) (v := .ref (ρ (ρ h0 0) 11)) (C := RX10) (T := TX10) (N := 19) hx hb hts hfX10 hown hK hP q22 eq22 rfl 11 (by decide) (va_Nw.use rfl (hN.1 (.fieldLinkNest RX11 271 "ColdShips$World" "contracts" "[LColdShips$Contract;" "ColdShips") nzw_72)) (fun _ h9 => h9) rfl dX11_due_45 ?_
        refine lv_iload_n hx hb dX11_due_48 rfl (lv_at hl 2 rfl) ?_
        obtain ⟨q43, eq43⟩ := tp_pos (tp_in hG y13 (by decide)) hf_o31
        refine va_aldq hx hb hK hP q43 6 eq43 rfl (vp_in_iff.mpr ⟨by omega, by omega⟩) dX11_due_49 ?_
        refine W.eq (g2 := F0 m 50 ls (.ref b37 :: [.int v, .ref (ρ h0 4)])) (congrArg (fun o => F0 m 50 ls (va_rf o :: [.int v, .ref (ρ h0 4)])) hq38) ?_
        refine lv_iload_n hx hb dX11_due_50 rfl (lv_at hl 3 rfl) ?_
        obtain ⟨y44, ⟨y45, y45n⟩, ⟨y46, y46n⟩⟩ := tpg_4 hG y5
        obtain ⟨o47_x3, o47_x4, o47_x5, hf_o47, ro47_0⟩ := tpo_4 hT y5
        obtain ⟨q48, eq48⟩ := tp_pos (tp_in hG y5 (by decide)) hf_o47
        have hFc := tp_fr hD hS hA
        refine va_callv (va_runV (As := [.int v, .ref b37, .int a]) (rest := []) ⟨hx, hb, hml, hown, hts⟩ (t_X3_reckon l dC dI _ Ω κ τ ν ρ L f hG hT (ρ h0 4) v b37 a y5 hq38t) (cwV 3 hts gX11_due_X3_reckon rfl rfl rfl ⟨rfl, pd_X3_reckon⟩ ⟨Nat.le_of_ble_eq_true rfl, Nat.le_of_ble_eq_true rfl⟩) ⟨pz_blind, va_recv hK hP (ci := 3) (q0 := q48) rfl eq48, pz_pre hP hK hD hN⟩ rfl rfl hl.1 rfl (lv_room (Nat.le_of_ble_eq_true rfl)) dX11_due_51 ⟨Nat.le_of_ble_eq_true rfl, Nat.le_of_ble_eq_true rfl⟩) hS (fun q _ h => hFc q h) hFc (fun f51 t H1 locs ht hvm hw50 hB hz1 hk1 hS => ?_)
        obtain ⟨hT, hF52, hw50p⟩ := hw50
        have hR := hR.then hF52 (by decide)
        have hP := hB.1; rw [ht] at hP; have hD := tp_ad f51 hD; clear hB hFc hz1 hk1; subst ht; generalize t.heap = H at hP hS ⊢
        refine lv_iload hx hb dX11_due_54 (lv_at hl 4 rfl) ?_
        rcases zi_sw b 0 4 with h53 | h53
        · refine lv_tableOut (tgt := 144) hx hb dX11_due_56 h53 (by decide) ?_
          refine lv_ldc2 (own := RX11) (v := (-2000000000000000)) hx hb hown (hts (.constantLong RX11 281 (-2000000000000000)) wa_1124) dX11_due_144 ?_
          exact W.lret (v := (-2000000000000000)) hx hb hr (fun t ht hW => ⟨⟨(-2000000000000000), f51, rfl, ⟨hT, hR, trivial, trivial⟩, by rw [ht]; exact hP, va_K.moved hW.alike hK, hD⟩, hS.F ht⟩) hS.2.2 dX11_due_147
        · rcases (show b.toInt = 0 ∨ b.toInt = 1 ∨ b.toInt = 2 ∨ b.toInt = 3 ∨ b.toInt = 4 by omega) with h53k | h53k | h53k | h53k | h53k
          · refine lv_tableIn (tgt := 92) hx hb dX11_due_56 (by omega) (by omega) (by rw [h53k]; rfl) (by decide) ?_
            refine lv_aload_n hx hb dX11_due_92 rfl (lv_at hl 0 rfl) ?_
            have hf_54 : f51 h0 = .inr (11, [.ref (ρ h0 0), .ref (ρ h0 1), .ref (ρ h0 2), .ref (ρ h0 3), .ref (ρ h0 4), .ref (ρ h0 5), .int o7_x6]) := (hF52 _ (by rw [ht_h0]; decide)).trans hf_o7
            obtain ⟨q55, eq55⟩ := tp_pos (tp_in hG ht_h0 (by decide)) hf_54
            refine va_get (D := (dC, dI)) (ci := 11) (v := .ref (ρ h0 4)) (C := RX11) (T := TX11) (N := 7) hx hb hts hfX11 hown hK hP q55 eq55 rfl 4 (by decide) (hts (.fieldLink RX11 39 "ColdShips" "reckoner" "LColdShips$Reckoner;") wa_28) (fun _ h9 => h9) rfl dX11_due_93 ?_
            obtain ⟨o56_x3, o56_x4, o56_x5, hf_o56, ro56_0⟩ := tpo_4 hT y5
            obtain ⟨q57, eq57⟩ := tp_pos (tp_in hG y5 (by decide)) hf_o56
            refine va_getN (D := (dC, dI)) (ci := 3) (v := .long o56_x4) (C := RX3) (T := TX3) (N := 6) hx hb hts hfX3 hown hK hP q57 eq57 rfl 4 (by decide) (va_Nw.use rfl (hN.1 (.fieldLinkNest RX11 287 "ColdShips$Reckoner" "pays" "J" "ColdShips") nzw_91)) (fun _ h9 => h9) rfl dX11_due_96 ?_
            refine lv_aload_n hx hb dX11_due_99 rfl (lv_at hl 0 rfl) ?_
            refine va_get (D := (dC, dI)) (ci := 11) (v := .ref (ρ h0 4)) (C := RX11) (T := TX11) (N := 7) hx hb hts hfX11 hown hK hP q55 eq55 rfl 4 (by decide) (hts (.fieldLink RX11 39 "ColdShips" "reckoner" "LColdShips$Reckoner;") wa_28) (fun _ h9 => h9) rfl dX11_due_100 ?_
            refine va_getN (D := (dC, dI)) (ci := 3) (v := .long o56_x5) (C := RX3) (T := TX3) (N := 6) hx hb hts hfX3 hown hK hP q57 eq57 rfl 5 (by decide) (va_Nw.use rfl (hN.1 (.fieldLinkNest RX11 291 "ColdShips$Reckoner" "fines" "J" "ColdShips") nzw_92)) (fun _ h9 => h9) rfl dX11_due_103 ?_
            refine lv_lsub hx hb dX11_due_106 ?_
            refine lv_topl (fun z58 ez58 => ?_)
            exact W.lret (v := z58) hx hb hr (fun t ht hW => ⟨⟨z58, f51, rfl, ⟨hT, hR, trivial, trivial⟩, by rw [ht]; exact hP, va_K.moved hW.alike hK, hD⟩, hS.F ht⟩) hS.2.2 dX11_due_107
          · refine lv_tableIn (tgt := 108) hx hb dX11_due_56 (by omega) (by omega) (by rw [h53k]; rfl) (by decide) ?_
            refine lv_aload_n hx hb dX11_due_108 rfl (lv_at hl 0 rfl) ?_
            have hf_59 : f51 h0 = .inr (11, [.ref (ρ h0 0), .ref (ρ h0 1), .ref (ρ h0 2), .ref (ρ h0 3), .ref (ρ h0 4), .ref (ρ h0 5), .int o7_x6]) := (hF52 _ (by rw [ht_h0]; decide)).trans hf_o7
            obtain ⟨q60, eq60⟩ := tp_pos (tp_in hG ht_h0 (by decide)) hf_59
            refine va_get (D := (dC, dI)) (ci := 11) (v := .ref (ρ h0 4)) (C := RX11) (T := TX11) (N := 7) hx hb hts hfX11 hown hK hP q60 eq60 rfl 4 (by decide) (hts (.fieldLink RX11 39 "ColdShips" "reckoner" "LColdShips$Reckoner;") wa_28) (fun _ h9 => h9) rfl dX11_due_109 ?_
            obtain ⟨o61_x3, o61_x4, o61_x5, hf_o61, ro61_0⟩ := tpo_4 hT y5
            obtain ⟨q62, eq62⟩ := tp_pos (tp_in hG y5 (by decide)) hf_o61
            refine va_getN (D := (dC, dI)) (ci := 3) (v := .long o61_x4) (C := RX3) (T := TX3) (N := 6) hx hb hts hfX3 hown hK hP q62 eq62 rfl 4 (by decide) (va_Nw.use rfl (hN.1 (.fieldLinkNest RX11 287 "ColdShips$Reckoner" "pays" "J" "ColdShips") nzw_91)) (fun _ h9 => h9) rfl dX11_due_112 ?_
            exact W.lret (v := o61_x4) hx hb hr (fun t ht hW => ⟨⟨o61_x4, f51, rfl, ⟨hT, hR, trivial, trivial⟩, by rw [ht]; exact hP, va_K.moved hW.alike hK, hD⟩, hS.F ht⟩) hS.2.2 dX11_due_115
          · refine lv_tableIn (tgt := 116) hx hb dX11_due_56 (by omega) (by omega) (by rw [h53k]; rfl) (by decide) ?_
            refine lv_aload_n hx hb dX11_due_116 rfl (lv_at hl 0 rfl) ?_
            have hf_63 : f51 h0 = .inr (11, [.ref (ρ h0 0), .ref (ρ h0 1), .ref (ρ h0 2), .ref (ρ h0 3), .ref (ρ h0 4), .ref (ρ h0 5), .int o7_x6]) := (hF52 _ (by rw [ht_h0]; decide)).trans hf_o7
            obtain ⟨q64, eq64⟩ := tp_pos (tp_in hG ht_h0 (by decide)) hf_63
            refine va_get (D := (dC, dI)) (ci := 11) (v := .ref (ρ h0 4)) (C := RX11) (T := TX11) (N := 7) hx hb hts hfX11 hown hK hP q64 eq64 rfl 4 (by decide) (hts (.fieldLink RX11 39 "ColdShips" "reckoner" "LColdShips$Reckoner;") wa_28) (fun _ h9 => h9) rfl dX11_due_117 ?_
            obtain ⟨o65_x3, o65_x4, o65_x5, hf_o65, ro65_0⟩ := tpo_4 hT y5
            obtain ⟨q66, eq66⟩ := tp_pos (tp_in hG y5 (by decide)) hf_o65
            refine va_getN (D := (dC, dI)) (ci := 3) (v := .long o65_x5) (C := RX3) (T := TX3) (N := 6) hx hb hts hfX3 hown hK hP q66 eq66 rfl 5 (by decide) (va_Nw.use rfl (hN.1 (.fieldLinkNest RX11 291 "ColdShips$Reckoner" "fines" "J" "ColdShips") nzw_92)) (fun _ h9 => h9) rfl dX11_due_120 ?_
            exact W.lret (v := o65_x5) hx hb hr (fun t ht hW => ⟨⟨o65_x5, f51, rfl, ⟨hT, hR, trivial, trivial⟩, by rw [ht]; exact hP, va_K.moved hW.alike hK, hD⟩, hS.F ht⟩) hS.2.2 dX11_due_123
          · refine lv_tableIn (tgt := 124) hx hb dX11_due_56 (by omega) (by omega) (by rw [h53k]; rfl) (by decide) ?_
            refine lv_aload_n hx hb dX11_due_124 rfl (lv_at hl 0 rfl) ?_
            have hf_67 : f51 h0 = .inr (11, [.ref (ρ h0 0), .ref (ρ h0 1), .ref (ρ h0 2), .ref (ρ h0 3), .ref (ρ h0 4), .ref (ρ h0 5), .int o7_x6]) := (hF52 _ (by rw [ht_h0]; decide)).trans hf_o7
            obtain ⟨q68, eq68⟩ := tp_pos (tp_in hG ht_h0 (by decide)) hf_67
            refine va_get (D := (dC, dI)) (ci := 11) (v := .ref (ρ h0 4)) (C := RX11) (T := TX11) (N := 7) hx hb hts hfX11 hown hK hP q68 eq68 rfl 4 (by decide) (hts (.fieldLink RX11 39 "ColdShips" "reckoner" "LColdShips$Reckoner;") wa_28) (fun _ h9 => h9) rfl dX11_due_125 ?_
            obtain ⟨o69_x3, o69_x4, o69_x5, hf_o69, ro69_0⟩ := tpo_4 hT y5
            obtain ⟨q70, eq70⟩ := tp_pos (tp_in hG y5 (by decide)) hf_o69
            refine va_getN (D := (dC, dI)) (ci := 3) (v := .ref (ρ (ρ h0 4) 1)) (C := RX3) (T := TX3) (N := 6) hx hb hts hfX3 hown hK hP q70 eq70 rfl 1 (by decide) (va_Nw.use rfl (hN.1 (.fieldLinkNest RX11 294 "ColdShips$Reckoner" "facts" "[J" "ColdShips") nzw_90)) (fun _ h9 => h9) rfl dX11_due_128 ?_
            refine lv_iconst (v := 3) hx hb dX11_due_131 (by decide) ?_
            obtain ⟨g72, hf_o71⟩ := tpo_21 hT y45 y45n
            obtain ⟨q73, eq73⟩ := tp_pos (tp_in hG y45 (by decide)) hf_o71
            refine va_lald hx hb hK hP q73 1 eq73 rfl (vp_in_iff.mpr ⟨by decide, by decide⟩) dX11_due_132 ?_
            refine lv_topl (fun z74 ez74 => ?_)
            exact W.lret (v := z74) hx hb hr (fun t ht hW => ⟨⟨z74, f51, rfl, ⟨hT, hR, trivial, trivial⟩, by rw [ht]; exact hP, va_K.moved hW.alike hK, hD⟩, hS.F ht⟩) hS.2.2 dX11_due_133
          · refine lv_tableIn (tgt := 134) hx hb dX11_due_56 (by omega) (by omega) (by rw [h53k]; rfl) (by decide) ?_
            refine lv_aload_n hx hb dX11_due_134 rfl (lv_at hl 0 rfl) ?_
            have hf_75 : f51 h0 = .inr (11, [.ref (ρ h0 0), .ref (ρ h0 1), .ref (ρ h0 2), .ref (ρ h0 3), .ref (ρ h0 4), .ref (ρ h0 5), .int o7_x6]) := (hF52 _ (by rw [ht_h0]; decide)).trans hf_o7
            obtain ⟨q76, eq76⟩ := tp_pos (tp_in hG ht_h0 (by decide)) hf_75
            refine va_get (D := (dC, dI)) (ci := 11) (v := .ref (ρ h0 4)) (C := RX11) (T := TX11) (N := 7) hx hb hts hfX11 hown hK hP q76 eq76 rfl 4 (by decide) (hts (.fieldLink RX11 39 "ColdShips" "reckoner" "LColdShips$Reckoner;") wa_28) (fun _ h9 => h9) rfl dX11_due_135 ?_
            obtain ⟨o77_x3, o77_x4, o77_x5, hf_o77, ro77_0⟩ := tpo_4 hT y5
            obtain ⟨q78, eq78⟩ := tp_pos (tp_in hG y5 (by decide)) hf_o77
            refine va_getN (D := (dC, dI)) (ci := 3) (v := .ref (ρ (ρ h0 4) 1)) (C := RX3) (T := TX3) (N := 6) hx hb hts hfX3 hown hK hP q78 eq78 rfl 1 (by decide) (va_Nw.use rfl (hN.1 (.fieldLinkNest RX11 294 "ColdShips$Reckoner" "facts" "[J" "ColdShips") nzw_90)) (fun _ h9 => h9) rfl dX11_due_138 ?_
            refine lv_iconst (v := 5) hx hb dX11_due_141 (by decide) ?_
            obtain ⟨g80, hf_o79⟩ := tpo_21 hT y45 y45n
            obtain ⟨q81, eq81⟩ := tp_pos (tp_in hG y45 (by decide)) hf_o79
            refine va_lald hx hb hK hP q81 1 eq81 rfl (vp_in_iff.mpr ⟨by decide, by decide⟩) dX11_due_142 ?_
            refine lv_topl (fun z82 ez82 => ?_)
            exact W.lret (v := z82) hx hb hr (fun t ht hW => ⟨⟨z82, f51, rfl, ⟨hT, hR, trivial, trivial⟩, by rw [ht]; exact hP, va_K.moved hW.alike hK, hD⟩, hS.F ht⟩) hS.2.2 dX11_due_143
      · have ic41 : r39.toInt = 0 := zi_nef rfl rfl c41
        refine lv_ldc2 (own := RX11) (v := (-2000000000000000)) hx hb hown (hts (.constantLong RX11 281 (-2000000000000000)) wa_1124) dX11_due_32 ?_
        exact W.lret (v := (-2000000000000000)) hx hb hr (fun t ht hW => ⟨⟨(-2000000000000000), f, rfl, ⟨hT, hR, trivial, trivial⟩, by rw [ht]; exact hP, va_K.moved hW.alike hK, hD⟩, hS.F ht⟩) hS.2.2 dX11_due_35
set_option maxHeartbeats 4000000 in
set_option maxRecDepth 100000 in
theorem t_X11_settle (l : Launch) (dC : Nat → ClassId) (dI : Nat → Nat → Nat) (sz : Nat) (Ω : Nat → (Nat → Nat) → va_E → Prop) (κ : Nat → ClassId) (τ ν : Nat → Nat) (ρ : Nat → Nat → Nat) (L : List Nat) (f : Nat → va_E) (hG : tp_G τ ν ρ L) (hT : tp_T Ω κ τ ν ρ f) (h0 : Nat) (v : Int32) (u : Int32) (ht_h0 : τ h0 = 12) : Met l yX11_settle wqX11_settle ({ frames := 7, cells := 0, slots := 0, locals := 2400 }) (va_Pc [.ref h0, .int v, .int u] (pz_B dC dI (tp_K κ) (va_pl L f) sz)) (va_Qi (fun (r : Int32) (f1 : Nat → va_E) => tp_T Ω κ τ ν ρ f1 ∧ tp_F τ [2, 3, 4, 5, 6, 7, 8, 9, 10, 11, 12, 20, 21, 22, 26, 27, 28] f f1 ∧ True ∧ True) (fun (f1 : Nat → va_E) (t : State) => pz_E dC dI (tp_K κ) (va_A (va_pl L f) sz) (va_pl L f1) t) (va_A (va_pl L f) sz)) 0 0 (va_A (va_pl L f) sz) := by
  refine Met.ofW (cc := cX11_settle) (maxL := 3) (ret := some .int) (by decide) rfl ?_
  intro p e s m args below meth c s₁ B hml hv
  obtain ⟨rfl, hsz, hP, hK, hD0, hN⟩ := hv
  have hx := B.exec
  have hb := B.bytes
  have hr := B.returns
  have hts := fun (w : Cond) (h : w ∈ WALL) => atoms_spec (ws := wqX11_settle) B.pre w (List.mem_cons_of_mem _ h)
  have hown : s.vm.findClass RX11 = some m.cls := findClass_of_methodNamed B.named
  have hlocks := B.notSynchronized
  subst hsz
  have hD := hD0.self (sz := s.heap.size)
  generalize hAe : va_A (va_pl L f) s.heap.size = A at hD ⊢
  have hA : ∀ q : Nat, s.heap.size ≤ q → A q := fun q h => by rw [← hAe]; exact Or.inr h
  have hS : va_S A s.heap s.heap [] := va_S.rf
  have hR : tp_F τ [2, 3, 4, 5, 6, 7, 8, 9, 10, 11, 12, 20, 21, 22, 26, 27, 28] f f := tp_F.rf
  have hl := lv_entry ([.ref h0, .int v, .int u]) (n := 3) (Nat.le_of_ble_eq_true rfl)
  rw [lg_entry_eq]
  generalize (lg_sl ([.ref h0, .int v, .int u]) ++ List.replicate (3 - (lg_sl ([.ref h0, .int v, .int u])).length) Slot.unset).toArray = ls at hl ⊢
  have hl : lv_has ls 3 [(0, .ref h0), (1, .int v), (2, .int u)] := hl
  refine lv_aload_n hx hb dX11_settle_0 rfl (lv_at hl 0 rfl) ?_
  obtain ⟨y1, y2, y3, y4, y5, y6⟩ := tpg_12 hG ht_h0
  obtain ⟨o7_x6, hf_o7⟩ := tpo_12 hT ht_h0
  obtain ⟨q8, eq8⟩ := tp_pos (tp_in hG ht_h0 (by decide)) hf_o7
  refine va_get (D := (dC, dI)) (ci := 11) (v := .ref (ρ h0 0)) (C := RX11) (T := TX11) (N := 7) hx hb hts hfX11 hown hK hP q8 eq8 rfl 0 (by decide) (hts (.fieldLink RX11 10 "ColdShips" "world" "LColdShips$World;") wa_15) (fun _ h9 => h9) rfl dX11_settle_1 ?_
  obtain ⟨⟨y9, y9n⟩, ⟨y10, y10n⟩, y11, y12, y13, y14, y15, y16, ⟨y17, y17w, y17m⟩, ⟨y18, y18w, y18m⟩, ⟨y19, y19w, y19m⟩, ⟨y20, y20w, y20m⟩⟩ := tpg_11 hG y1
  obtain ⟨o21_x0, o21_x1, o21_x2, o21_x3, o21_x4, o21_x5, o21_x6, hf_o21, ro21_0, ro21_1, ro21_2, ro21_3⟩ := tpo_11 hT y1
  obtain ⟨q22, eq22⟩ := tp_pos (tp_in hG y1 (by decide)) hf_o21
  refine va_getN (D := (dC, dI)) (ci := 10) (v := .ref (ρ (ρ h0 0) 17)) (C := RX10) (T := TX10) (N := 19) hx hb hts hfX10 hown hK hP q22 eq22 rfl 17 (by decide) (va_Nw.use rfl (hN.1 (.fieldLinkNest RX11 207 "ColdShips$World" "landings" "LColdShips$Rows;" "ColdShips") nzw_85)) (fun _ h9 => h9) rfl dX11_settle_4 ?_
  refine lv_iload_n hx hb dX11_settle_7 rfl (lv_at hl 1 rfl) ?_
  obtain ⟨⟨y23, y23n⟩, ⟨y24a, y24b, y24c⟩⟩ := tpg_5 hG y19
  obtain ⟨o25_x0, o25_x2, hf_o25, ro25_0, ro25_1⟩ := tpo_5 hT y19
  obtain ⟨q26, eq26⟩ := tp_pos (tp_in hG y19 (by decide)) hf_o25
  refine pz_calli (va_runV (As := [.int v]) (rest := []) ⟨hx, hb, hml, hown, hts⟩ (t_X4_has l dC dI _ Ω κ τ ν ρ L f hG hT (ρ (ρ h0 0) 17) v y19 o25_x0 o25_x2 hf_o25) (cwV 1 hts gX11_settle_X4_has rfl rfl rfl ⟨rfl, pd_X4_has⟩ ⟨Nat.le_of_ble_eq_true rfl, Nat.le_of_ble_eq_true rfl⟩) ⟨pz_blind, va_recv hK hP (ci := 4) (q0 := q26) rfl eq26, pz_pre hP hK hD hN⟩ rfl rfl hl.1 rfl (lv_room (Nat.le_of_ble_eq_true rfl)) dX11_settle_8 ⟨Nat.le_of_ble_eq_true rfl, Nat.le_of_ble_eq_true rfl⟩) (fun r27 hw28 => ?_)
  obtain ⟨hw28r, hw28p⟩ := hw28
  refine lv_if_eq (tgt := 25) hx hb dX11_settle_11 (by decide) (fun c29 => ?_) (fun c29 => ?_)
  · have ic29 : r27.toInt = 0 := zi_eq rfl rfl c29
    refine lv_aload_n hx hb dX11_settle_25 rfl (lv_at hl 0 rfl) ?_
    refine lv_bipush (v := (-2)) hx hb dX11_settle_26 (by decide) ?_
    have hFc := tp_fr hD hS hA
    refine va_calli (va_runV (As := [.int (-2)]) (rest := []) ⟨hx, hb, hml, hown, hts⟩ (t_X11_refuse l dC dI _ Ω κ τ ν ρ L f hG hT h0 ((-2)) ht_h0) (cwV 1 hts gX11_settle_X11_refuse rfl rfl rfl ⟨rfl, pd_X11_refuse⟩ ⟨Nat.le_of_ble_eq_true rfl, Nat.le_of_ble_eq_true rfl⟩) ⟨pz_blind, va_recv hK hP (ci := 11) (q0 := q8) rfl eq8, pz_pre hP hK hD hN⟩ rfl rfl hl.1 rfl (lv_room (Nat.le_of_ble_eq_true rfl)) dX11_settle_28 ⟨Nat.le_of_ble_eq_true rfl, Nat.le_of_ble_eq_true rfl⟩) hS (fun q _ h => hFc q h) hFc (fun r30 f32 t H1 locs ht hvm hw31 hB hz1 hk1 hS => ?_)
    obtain ⟨hT, hF33, hw31r, hw31p⟩ := hw31
    have hR := hR.then hF33 (by decide)
    have hP := hB.1; rw [ht] at hP; have hD := tp_ad f32 hD; clear hB hFc hz1 hk1; subst ht; generalize t.heap = H at hP hS ⊢
    exact W.iret (v := r30) hx hb hr (fun t ht hW => ⟨⟨r30, f32, rfl, ⟨hT, hR, trivial, trivial⟩, by rw [ht]; exact hP, va_K.moved hW.alike hK, hD⟩, hS.F ht⟩) hS.2.2 dX11_settle_31
  · have ic29 : r27.toInt ≠ 0 := zi_eqf rfl rfl c29
    have p34 : 0 ≤ v.toInt ∧ v.toInt < o25_x2.toInt := (tp_cond.yes hw28p) (by omega)
    refine lv_aload_n hx hb dX11_settle_14 rfl (lv_at hl 0 rfl) ?_
    refine va_get (D := (dC, dI)) (ci := 11) (v := .ref (ρ h0 0)) (C := RX11) (T := TX11) (N := 7) hx hb hts hfX11 hown hK hP q8 eq8 rfl 0 (by decide) (hts (.fieldLink RX11 10 "ColdShips" "world" "LColdShips$World;") wa_15) (fun _ h9 => h9) rfl dX11_settle_15 ?_
    refine lv_iload_n hx hb dX11_settle_18 rfl (lv_at hl 2 rfl) ?_
    obtain ⟨g36, hf_o35, hf_o35e⟩ := tpo_26 hT y13
    refine pz_calli (va_runV (As := [.int u]) (rest := []) ⟨hx, hb, hml, hown, hts⟩ (t_X10_hasContract l dC dI _ Ω κ τ ν ρ L f hG hT (ρ h0 0) u y1 o21_x0 o21_x1 o21_x2 o21_x3 o21_x4 o21_x5 o21_x6 hf_o21 g36 hf_o35) (cwV 1 hts gX11_settle_X10_hasContract rfl rfl rfl ⟨rfl, pd_X10_hasContract⟩ ⟨Nat.le_of_ble_eq_true rfl, Nat.le_of_ble_eq_true rfl⟩) ⟨pz_blind, va_recv hK hP (ci := 10) (q0 := q22) rfl eq22, pz_pre hP hK hD hN⟩ rfl rfl hl.1 rfl (lv_room (Nat.le_of_ble_eq_true rfl)) dX11_settle_19 ⟨Nat.le_of_ble_eq_true rfl, Nat.le_of_ble_eq_true rfl⟩) (fun r37 hw38 => ?_)
    obtain ⟨hw38r, hw38p⟩ := hw38
    refine lv_if_ne (tgt := 32) hx hb dX11_settle_22 (by decide) (fun c39 => ?_) (fun c39 => ?_)
    · have ic39 : r37.toInt ≠ 0 := zi_ne rfl rfl c39
      have p40 : ((0 ≤ u.toInt ∧ u.toInt ≤ 11) ∧ ∃ b : Nat, g36 u.toNatClampNeg = some b ∧ τ b = 1) := hw38p (by omega)
      obtain ⟨p40, b41, hq42, hq42t⟩ := p40
      refine lv_aload_n hx hb dX11_settle_32 rfl (lv_at hl 0 rfl) ?_
      refine va_get (D := (dC, dI)) (ci := 11) (v := .ref (ρ h0 0)) (C := RX11) (T := TX11) (N := 7) hx hb hts hfX11 hown hK hP q8 eq8 rfl 0 (by decide) (hts (.fieldLink RX11 10 "ColdShips" "world" "LColdShips$World;") wa_15) (fun _ h9 => h9) rfl dX11_settle_33 ?_
      refine lv_iload_n hx hb dX11_settle_36 rfl (lv_at hl 1 rfl) ?_
      refine pz_calli (va_runV (As := [.int v]) (rest := []) ⟨hx, hb, hml, hown, hts⟩ (t_X10_isSettled l dC dI _ Ω κ τ ν ρ L f hG hT (ρ h0 0) v y1) (cwV 1 hts gX11_settle_X10_isSettled rfl rfl rfl ⟨rfl, pd_X10_isSettled⟩ ⟨Nat.le_of_ble_eq_true rfl, Nat.le_of_ble_eq_true rfl⟩) ⟨pz_blind, va_recv hK hP (ci := 10) (q0 := q22) rfl eq22, pz_pre hP hK hD hN⟩ rfl rfl hl.1 rfl (lv_room (Nat.le_of_ble_eq_true rfl)) dX11_settle_37 ⟨Nat.le_of_ble_eq_true rfl, Nat.le_of_ble_eq_true rfl⟩) (fun r43 hw44 => ?_)
      obtain ⟨hw44r, hw44p⟩ := hw44
      refine lv_if_eq (tgt := 50) hx hb dX11_settle_40 (by decide) (fun c45 => ?_) (fun c45 => ?_)
      · have ic45 : r43.toInt = 0 := zi_eq rfl rfl c45
        refine lv_aload_n hx hb dX11_settle_50 rfl (lv_at hl 0 rfl) ?_
        refine va_get (D := (dC, dI)) (ci := 11) (v := .ref (ρ h0 4)) (C := RX11) (T := TX11) (N := 7) hx hb hts hfX11 hown hK hP q8 eq8 rfl 4 (by decide) (hts (.fieldLink RX11 39 "ColdShips" "reckoner" "LColdShips$Reckoner;") wa_28) (fun _ h9 => h9) rfl dX11_settle_51 ?_
        refine lv_iload_n hx hb dX11_settle_54 rfl (lv_at hl 1 rfl) ?_
        refine lv_aload_n hx hb dX11_settle_55 rfl (lv_at hl 0 rfl) ?_
        refine va_get (D := (dC, dI)) (ci := 11) (v := .ref (ρ h0 0)) (C := RX11) (T := TX11) (N := 7) hx hb hts hfX11 hown hK hP q8 eq8 rfl 0 (by decide) (hts (.fieldLink RX11 10 "ColdShips" "world" "LColdShips$World;") wa_15) (fun _ h9 => h9) rfl dX11_settle_56 ?_
        refine va_getN (D := (dC, dI)) (ci := 10) (v := .ref (ρ (ρ h0 0) 11)) (C := RX10) (T := TX10) (N := 19) hx hb hts hfX10 hown hK hP q22 eq22 rfl 11 (by decide) (va_Nw.use rfl (hN.1 (.fieldLinkNest RX11 271 "ColdShips$World" "contracts" "[LColdShips$Contract;" "ColdShips") nzw_72)) (fun _ h9 => h9) rfl dX11_settle_59 ?_
        refine lv_iload_n hx hb dX11_settle_62 rfl (lv_at hl 2 rfl) ?_
        obtain ⟨q46, eq46⟩ := tp_pos (tp_in hG y13 (by decide)) hf_o35
        refine va_aldq hx hb hK hP q46 6 eq46 rfl (vp_in_iff.mpr ⟨by omega, by omega⟩) dX11_settle_63 ?_
        refine W.eq (g2 := F0 m 64 ls (.ref b41 :: [.int v, .ref (ρ h0 4)])) (congrArg (fun o => F0 m 64 ls (va_rf o :: [.int v, .ref (ρ h0 4)])) hq42) ?_
        refine lv_aload_n hx hb dX11_settle_64 rfl (lv_at hl 0 rfl) ?_
        refine va_get (D := (dC, dI)) (ci := 11) (v := .ref (ρ h0 0)) (C := RX11) (T := TX11) (N := 7) hx hb hts hfX11 hown hK hP q8 eq8 rfl 0 (by decide) (hts (.fieldLink RX11 10 "ColdShips" "world" "LColdShips$World;") wa_15) (fun _ h9 => h9) rfl dX11_settle_65 ?_
        refine va_getN (D := (dC, dI)) (ci := 10) (v := .int o21_x0) (C := RX10) (T := TX10) (N := 19) hx hb hts hfX10 hown hK hP q22 eq22 rfl 0 (by decide) (va_Nw.use rfl (hN.1 (.fieldLinkNest RX11 154 "ColdShips$World" "now" "I" "ColdShips") nzw_49)) (fun _ h9 => h9) rfl dX11_settle_68 ?_
        obtain ⟨y47, ⟨y48, y48n⟩, ⟨y49, y49n⟩⟩ := tpg_4 hG y5
        obtain ⟨o50_x3, o50_x4, o50_x5, hf_o50, ro50_0⟩ := tpo_4 hT y5
        obtain ⟨q51, eq51⟩ := tp_pos (tp_in hG y5 (by decide)) hf_o50
        have hFc := tp_fr hD hS hA
        refine va_callv (va_runV (As := [.int v, .ref b41, .int o21_x0]) (rest := []) ⟨hx, hb, hml, hown, hts⟩ (t_X3_reckon l dC dI _ Ω κ τ ν ρ L f hG hT (ρ h0 4) v b41 o21_x0 y5 hq42t) (cwV 3 hts gX11_settle_X3_reckon rfl rfl rfl ⟨rfl, pd_X3_reckon⟩ ⟨Nat.le_of_ble_eq_true rfl, Nat.le_of_ble_eq_true rfl⟩) ⟨pz_blind, va_recv hK hP (ci := 3) (q0 := q51) rfl eq51, pz_pre hP hK hD hN⟩ rfl rfl hl.1 rfl (lv_room (Nat.le_of_ble_eq_true rfl)) dX11_settle_71 ⟨Nat.le_of_ble_eq_true rfl, Nat.le_of_ble_eq_true rfl⟩) hS (fun q _ h => hFc q h) hFc (fun f54 t H1 locs ht hvm hw53 hB hz1 hk1 hS => ?_)
        obtain ⟨hT, hF55, hw53p⟩ := hw53
        have hR := hR.then hF55 (by decide)
        have hP := hB.1; rw [ht] at hP; have hD := tp_ad f54 hD; clear hB hFc hz1 hk1; subst ht; generalize t.heap = H at hP hS ⊢
        refine lv_aload_n hx hb dX11_settle_74 rfl (lv_at hl 0 rfl) ?_
        have hf_56 : f54 h0 = .inr (11, [.ref (ρ h0 0), .ref (ρ h0 1), .ref (ρ h0 2), .ref (ρ h0 3), .ref (ρ h0 4), .ref (ρ h0 5), .int o7_x6]) := (hF55 _ (by rw [ht_h0]; decide)).trans hf_o7
        obtain ⟨q57, eq57⟩ := tp_pos (tp_in hG ht_h0 (by decide)) hf_56
        refine va_get (D := (dC, dI)) (ci := 11) (v := .ref (ρ h0 0)) (C := RX11) (T := TX11) (N := 7) hx hb hts hfX11 hown hK hP q57 eq57 rfl 0 (by decide) (hts (.fieldLink RX11 10 "ColdShips" "world" "LColdShips$World;") wa_15) (fun _ h9 => h9) rfl dX11_settle_75 ?_
        have hf_58 : f54 (ρ h0 0) = .inr (10, [.int o21_x0, .int o21_x1, .int o21_x2, .int o21_x3, .int o21_x4, .int o21_x5, .int o21_x6, .ref (ρ (ρ h0 0) 7), .ref (ρ (ρ h0 0) 8), .ref (ρ (ρ h0 0) 9), .ref (ρ (ρ h0 0) 10), .ref (ρ (ρ h0 0) 11), .ref (ρ (ρ h0 0) 12), .ref (ρ (ρ h0 0) 13), .ref (ρ (ρ h0 0) 14), .ref (ρ (ρ h0 0) 15), .ref (ρ (ρ h0 0) 16), .ref (ρ (ρ h0 0) 17), .ref (ρ (ρ h0 0) 18)]) := (hF55 _ (by rw [y1]; decide)).trans hf_o21
        obtain ⟨q59, eq59⟩ := tp_pos (tp_in hG y1 (by decide)) hf_58
        refine va_getN (D := (dC, dI)) (ci := 10) (v := .ref (ρ (ρ h0 0) 17)) (C := RX10) (T := TX10) (N := 19) hx hb hts hfX10 hown hK hP q59 eq59 rfl 17 (by decide) (va_Nw.use rfl (hN.1 (.fieldLinkNest RX11 207 "ColdShips$World" "landings" "LColdShips$Rows;" "ColdShips") nzw_85)) (fun _ h9 => h9) rfl dX11_settle_78 ?_
        refine lv_iload_n hx hb dX11_settle_81 rfl (lv_at hl 1 rfl) ?_
        refine lv_bipush (v := 12) hx hb dX11_settle_82 (by decide) ?_
        refine lv_iload_n hx hb dX11_settle_84 rfl (lv_at hl 2 rfl) ?_
        refine lv_i2l hx hb dX11_settle_85 rfl ?_
        have hf_60 : f54 (ρ (ρ h0 0) 17) = .inr (4, [.int o25_x0, .ref (ρ (ρ (ρ h0 0) 17) 1), .int o25_x2]) := (hF55 _ (by rw [y19]; decide)).trans hf_o25
        obtain ⟨q61, eq61⟩ := tp_pos (tp_in hG y19 (by decide)) hf_60
        have hFc := tp_fr hD hS hA
        refine va_callv (va_runV (As := [.int v, .int 12, .long u.toInt64]) (rest := []) ⟨hx, hb, hml, hown, hts⟩ (t_X4_set l dC dI _ Ω κ τ ν ρ L f54 hG hT (ρ (ρ h0 0) 17) v (12) u.toInt64 y19 o25_x0 o25_x2 hf_60) (cwV 3 hts gX11_settle_X4_set rfl rfl rfl ⟨rfl, pd_X4_set⟩ ⟨Nat.le_of_ble_eq_true rfl, Nat.le_of_ble_eq_true rfl⟩) ⟨pz_blind, va_recv hK hP (ci := 4) (q0 := q61) rfl eq61, pz_pre hP hK hD hN⟩ rfl rfl hl.1 rfl (lv_room (Nat.le_of_ble_eq_true rfl)) dX11_settle_86 ⟨Nat.le_of_ble_eq_true rfl, Nat.le_of_ble_eq_true rfl⟩) hS (fun q _ h => hFc q h) hFc (fun f64 t H1 locs ht hvm hw63 hB hz1 hk1 hS => ?_)
        obtain ⟨hT, hF65, hw63p⟩ := hw63
        have hR := hR.then hF65 (by decide)
        have hP := hB.1; rw [ht] at hP; have hD := tp_ad f64 hD; clear hB hFc hz1 hk1; subst ht; generalize t.heap = H at hP hS ⊢
        refine lv_aload_n hx hb dX11_settle_89 rfl (lv_at hl 0 rfl) ?_
        have hf_66 : f64 h0 = .inr (11, [.ref (ρ h0 0), .ref (ρ h0 1), .ref (ρ h0 2), .ref (ρ h0 3), .ref (ρ h0 4), .ref (ρ h0 5), .int o7_x6]) := (hF65 _ (by rw [ht_h0]; decide)).trans hf_56
        obtain ⟨q67, eq67⟩ := tp_pos (tp_in hG ht_h0 (by decide)) hf_66
        refine va_get (D := (dC, dI)) (ci := 11) (v := .ref (ρ h0 0)) (C := RX11) (T := TX11) (N := 7) hx hb hts hfX11 hown hK hP q67 eq67 rfl 0 (by decide) (hts (.fieldLink RX11 10 "ColdShips" "world" "LColdShips$World;") wa_15) (fun _ h9 => h9) rfl dX11_settle_90 ?_
        have hf_68 : f64 (ρ h0 0) = .inr (10, [.int o21_x0, .int o21_x1, .int o21_x2, .int o21_x3, .int o21_x4, .int o21_x5, .int o21_x6, .ref (ρ (ρ h0 0) 7), .ref (ρ (ρ h0 0) 8), .ref (ρ (ρ h0 0) 9), .ref (ρ (ρ h0 0) 10), .ref (ρ (ρ h0 0) 11), .ref (ρ (ρ h0 0) 12), .ref (ρ (ρ h0 0) 13), .ref (ρ (ρ h0 0) 14), .ref (ρ (ρ h0 0) 15), .ref (ρ (ρ h0 0) 16), .ref (ρ (ρ h0 0) 17), .ref (ρ (ρ h0 0) 18)]) := (hF65 _ (by rw [y1]; decide)).trans hf_58
        obtain ⟨q69, eq69⟩ := tp_pos (tp_in hG y1 (by decide)) hf_68
        refine va_getN (D := (dC, dI)) (ci := 10) (v := .ref (ρ (ρ h0 0) 17)) (C := RX10) (T := TX10) (N := 19) hx hb hts hfX10 hown hK hP q69 eq69 rfl 17 (by decide) (va_Nw.use rfl (hN.1 (.fieldLinkNest RX11 207 "ColdShips$World" "landings" "LColdShips$Rows;" "ColdShips") nzw_85)) (fun _ h9 => h9) rfl dX11_settle_93 ?_
        refine lv_iload_n hx hb dX11_settle_96 rfl (lv_at hl 1 rfl) ?_
        refine lv_bipush (v := 13) hx hb dX11_settle_97 (by decide) ?_
        refine lv_aload_n hx hb dX11_settle_99 rfl (lv_at hl 0 rfl) ?_
        refine va_get (D := (dC, dI)) (ci := 11) (v := .ref (ρ h0 4)) (C := RX11) (T := TX11) (N := 7) hx hb hts hfX11 hown hK hP q67 eq67 rfl 4 (by decide) (hts (.fieldLink RX11 39 "ColdShips" "reckoner" "LColdShips$Reckoner;") wa_28) (fun _ h9 => h9) rfl dX11_settle_100 ?_
        obtain ⟨o70_x3, o70_x4, o70_x5, hf_o70, ro70_0⟩ := tpo_4 hT y5
        obtain ⟨q71, eq71⟩ := tp_pos (tp_in hG y5 (by decide)) hf_o70
        refine va_getN (D := (dC, dI)) (ci := 3) (v := .long o70_x4) (C := RX3) (T := TX3) (N := 6) hx hb hts hfX3 hown hK hP q71 eq71 rfl 4 (by decide) (va_Nw.use rfl (hN.1 (.fieldLinkNest RX11 287 "ColdShips$Reckoner" "pays" "J" "ColdShips") nzw_91)) (fun _ h9 => h9) rfl dX11_settle_103 ?_
        refine lv_aload_n hx hb dX11_settle_106 rfl (lv_at hl 0 rfl) ?_
        refine va_get (D := (dC, dI)) (ci := 11) (v := .ref (ρ h0 4)) (C := RX11) (T := TX11) (N := 7) hx hb hts hfX11 hown hK hP q67 eq67 rfl 4 (by decide) (hts (.fieldLink RX11 39 "ColdShips" "reckoner" "LColdShips$Reckoner;") wa_28) (fun _ h9 => h9) rfl dX11_settle_107 ?_
        refine va_getN (D := (dC, dI)) (ci := 3) (v := .long o70_x5) (C := RX3) (T := TX3) (N := 6) hx hb hts hfX3 hown hK hP q71 eq71 rfl 5 (by decide) (va_Nw.use rfl (hN.1 (.fieldLinkNest RX11 291 "ColdShips$Reckoner" "fines" "J" "ColdShips") nzw_92)) (fun _ h9 => h9) rfl dX11_settle_110 ?_
        refine lv_lsub hx hb dX11_settle_113 ?_
        refine lv_topl (fun z72 ez72 => ?_)
        have hf_73 : f64 (ρ (ρ h0 0) 17) = .inr (4, [.int o25_x0, .ref (ρ (ρ (ρ h0 0) 17) 1), .int o25_x2]) := (hF65 _ (by rw [y19]; decide)).trans hf_60
        obtain ⟨q74, eq74⟩ := tp_pos (tp_in hG y19 (by decide)) hf_73
        have hFc := tp_fr hD hS hA
        refine va_callv (va_runV (As := [.int v, .int 13, .long z72]) (rest := []) ⟨hx, hb, hml, hown, hts⟩ (t_X4_set l dC dI _ Ω κ τ ν ρ L f64 hG hT (ρ (ρ h0 0) 17) v (13) z72 y19 o25_x0 o25_x2 hf_73) (cwV 3 hts gX11_settle_X4_set rfl rfl rfl ⟨rfl, pd_X4_set⟩ ⟨Nat.le_of_ble_eq_true rfl, Nat.le_of_ble_eq_true rfl⟩) ⟨pz_blind, va_recv hK hP (ci := 4) (q0 := q74) rfl eq74, pz_pre hP hK hD hN⟩ rfl rfl hl.1 rfl (lv_room (Nat.le_of_ble_eq_true rfl)) dX11_settle_114 ⟨Nat.le_of_ble_eq_true rfl, Nat.le_of_ble_eq_true rfl⟩) hS (fun q _ h => hFc q h) hFc (fun f77 t H1 locs ht hvm hw76 hB hz1 hk1 hS => ?_)
        obtain ⟨hT, hF78, hw76p⟩ := hw76
        have hR := hR.then hF78 (by decide)
        have hP := hB.1; rw [ht] at hP; have hD := tp_ad f77 hD; clear hB hFc hz1 hk1; subst ht; generalize t.heap = H at hP hS ⊢
        refine lv_aload_n hx hb dX11_settle_117 rfl (lv_at hl 0 rfl) ?_
        have hf_79 : f77 h0 = .inr (11, [.ref (ρ h0 0), .ref (ρ h0 1), .ref (ρ h0 2), .ref (ρ h0 3), .ref (ρ h0 4), .ref (ρ h0 5), .int o7_x6]) := (hF78 _ (by rw [ht_h0]; decide)).trans hf_66
        obtain ⟨q80, eq80⟩ := tp_pos (tp_in hG ht_h0 (by decide)) hf_79
        refine va_get (D := (dC, dI)) (ci := 11) (v := .ref (ρ h0 0)) (C := RX11) (T := TX11) (N := 7) hx hb hts hfX11 hown hK hP q80 eq80 rfl 0 (by decide) (hts (.fieldLink RX11 10 "ColdShips" "world" "LColdShips$World;") wa_15) (fun _ h9 => h9) rfl dX11_settle_118 ?_
        have hf_81 : f77 (ρ h0 0) = .inr (10, [.int o21_x0, .int o21_x1, .int o21_x2, .int o21_x3, .int o21_x4, .int o21_x5, .int o21_x6, .ref (ρ (ρ h0 0) 7), .ref (ρ (ρ h0 0) 8), .ref (ρ (ρ h0 0) 9), .ref (ρ (ρ h0 0) 10), .ref (ρ (ρ h0 0) 11), .ref (ρ (ρ h0 0) 12), .ref (ρ (ρ h0 0) 13), .ref (ρ (ρ h0 0) 14), .ref (ρ (ρ h0 0) 15), .ref (ρ (ρ h0 0) 16), .ref (ρ (ρ h0 0) 17), .ref (ρ (ρ h0 0) 18)]) := (hF78 _ (by rw [y1]; decide)).trans hf_68
        obtain ⟨q82, eq82⟩ := tp_pos (tp_in hG y1 (by decide)) hf_81
        refine va_getN (D := (dC, dI)) (ci := 10) (v := .ref (ρ (ρ h0 0) 17)) (C := RX10) (T := TX10) (N := 19) hx hb hts hfX10 hown hK hP q82 eq82 rfl 17 (by decide) (va_Nw.use rfl (hN.1 (.fieldLinkNest RX11 207 "ColdShips$World" "landings" "LColdShips$Rows;" "ColdShips") nzw_85)) (fun _ h9 => h9) rfl dX11_settle_121 ?_
        refine lv_iload_n hx hb dX11_settle_124 rfl (lv_at hl 1 rfl) ?_
        refine lv_bipush (v := 14) hx hb dX11_settle_125 (by decide) ?_
        refine lv_aload_n hx hb dX11_settle_127 rfl (lv_at hl 0 rfl) ?_
        refine va_get (D := (dC, dI)) (ci := 11) (v := .ref (ρ h0 0)) (C := RX11) (T := TX11) (N := 7) hx hb hts hfX11 hown hK hP q80 eq80 rfl 0 (by decide) (hts (.fieldLink RX11 10 "ColdShips" "world" "LColdShips$World;") wa_15) (fun _ h9 => h9) rfl dX11_settle_128 ?_
        refine va_getN (D := (dC, dI)) (ci := 10) (v := .int o21_x0) (C := RX10) (T := TX10) (N := 19) hx hb hts hfX10 hown hK hP q82 eq82 rfl 0 (by decide) (va_Nw.use rfl (hN.1 (.fieldLinkNest RX11 154 "ColdShips$World" "now" "I" "ColdShips") nzw_49)) (fun _ h9 => h9) rfl dX11_settle_131 ?_
        refine lv_i2l hx hb dX11_settle_134 rfl ?_
        have hf_83 : f77 (ρ (ρ h0 0) 17) = .inr (4, [.int o25_x0, .ref (ρ (ρ (ρ h0 0) 17) 1), .int o25_x2]) := (hF78 _ (by rw [y19]; decide)).trans hf_73
        obtain ⟨q84, eq84⟩ := tp_pos (tp_in hG y19 (by decide)) hf_83
        have hFc := tp_fr hD hS hA
        refine va_callv (va_runV (As := [.int v, .int 14, .long o21_x0.toInt64]) (rest := []) ⟨hx, hb, hml, hown, hts⟩ (t_X4_set l dC dI _ Ω κ τ ν ρ L f77 hG hT (ρ (ρ h0 0) 17) v (14) o21_x0.toInt64 y19 o25_x0 o25_x2 hf_83) (cwV 3 hts gX11_settle_X4_set rfl rfl rfl ⟨rfl, pd_X4_set⟩ ⟨Nat.le_of_ble_eq_true rfl, Nat.le_of_ble_eq_true rfl⟩) ⟨pz_blind, va_recv hK hP (ci := 4) (q0 := q84) rfl eq84, pz_pre hP hK hD hN⟩ rfl rfl hl.1 rfl (lv_room (Nat.le_of_ble_eq_true rfl)) dX11_settle_135 ⟨Nat.le_of_ble_eq_true rfl, Nat.le_of_ble_eq_true rfl⟩) hS (fun q _ h => hFc q h) hFc (fun f87 t H1 locs ht hvm hw86 hB hz1 hk1 hS => ?_)
        obtain ⟨hT, hF88, hw86p⟩ := hw86
        have hR := hR.then hF88 (by decide)
        have hP := hB.1; rw [ht] at hP; have hD := tp_ad f87 hD; clear hB hFc hz1 hk1; subst ht; generalize t.heap = H at hP hS ⊢
        refine lv_aload_n hx hb dX11_settle_138 rfl (lv_at hl 0 rfl) ?_
        refine lv_iconst (v := 0) hx hb dX11_settle_139 (by decide) ?_
        have hf_89 : f87 h0 = .inr (11, [.ref (ρ h0 0), .ref (ρ h0 1), .ref (ρ h0 2), .ref (ρ h0 3), .ref (ρ h0 4), .ref (ρ h0 5), .int o7_x6]) := (hF88 _ (by rw [ht_h0]; decide)).trans hf_79
        obtain ⟨q90, eq90⟩ := tp_pos (tp_in hG ht_h0 (by decide)) hf_89
        have hFc := tp_fr hD hS hA
        refine va_calli (va_runV (As := [.int 0]) (rest := []) ⟨hx, hb, hml, hown, hts⟩ (t_X11_accept l dC dI _ Ω κ τ ν ρ L f87 hG hT h0 (0) ht_h0) (cwV 1 hts gX11_settle_X11_accept rfl rfl rfl ⟨rfl, pd_X11_accept⟩ ⟨Nat.le_of_ble_eq_true rfl, Nat.le_of_ble_eq_true rfl⟩) ⟨pz_blind, va_recv hK hP (ci := 11) (q0 := q90) rfl eq90, pz_pre hP hK hD hN⟩ rfl rfl hl.1 rfl (lv_room (Nat.le_of_ble_eq_true rfl)) dX11_settle_140 ⟨Nat.le_of_ble_eq_true rfl, Nat.le_of_ble_eq_true rfl⟩) hS (fun q _ h => hFc q h) hFc (fun r91 f93 t H1 locs ht hvm hw92 hB hz1 hk1 hS => ?_)
        obtain ⟨hT, hF94, hw92r, hw92p⟩ := hw92
        have hR := hR.then hF94 (by decide)
        have hP := hB.1; rw [ht] at hP; have hD := tp_ad f93 hD; clear hB hFc hz1 hk1; subst ht; generalize t.heap = H at hP hS ⊢
        exact W.iret (v := r91) hx hb hr (fun t ht hW => ⟨⟨r91, f93, rfl, ⟨hT, hR, trivial, trivial⟩, by rw [ht]; exact hP, va_K.moved hW.alike hK, hD⟩, hS.F ht⟩) hS.2.2 dX11_settle_143
      · have ic45 : r43.toInt ≠ 0 := zi_eqf rfl rfl c45
        refine lv_aload_n hx hb dX11_settle_43 rfl (lv_at hl 0 rfl) ?_
        refine lv_bipush (v := (-4)) hx hb dX11_settle_44 (by decide) ?_
        have hFc := tp_fr hD hS hA
        refine va_calli (va_runV (As := [.int (-4)]) (rest := []) ⟨hx, hb, hml, hown, hts⟩ (t_X11_refuse l dC dI _ Ω κ τ ν ρ L f hG hT h0 ((-4)) ht_h0) (cwV 1 hts gX11_settle_X11_refuse rfl rfl rfl ⟨rfl, pd_X11_refuse⟩ ⟨Nat.le_of_ble_eq_true rfl, Nat.le_of_ble_eq_true rfl⟩) ⟨pz_blind, va_recv hK hP (ci := 11) (q0 := q8) rfl eq8, pz_pre hP hK hD hN⟩ rfl rfl hl.1 rfl (lv_room (Nat.le_of_ble_eq_true rfl)) dX11_settle_46 ⟨Nat.le_of_ble_eq_true rfl, Nat.le_of_ble_eq_true rfl⟩) hS (fun q _ h => hFc q h) hFc (fun r95 f97 t H1 locs ht hvm hw96 hB hz1 hk1 hS => ?_)
        obtain ⟨hT, hF98, hw96r, hw96p⟩ := hw96
        have hR := hR.then hF98 (by decide)
        have hP := hB.1; rw [ht] at hP; have hD := tp_ad f97 hD; clear hB hFc hz1 hk1; subst ht; generalize t.heap = H at hP hS ⊢
        exact W.iret (v := r95) hx hb hr (fun t ht hW => ⟨⟨r95, f97, rfl, ⟨hT, hR, trivial, trivial⟩, by rw [ht]; exact hP, va_K.moved hW.alike hK, hD⟩, hS.F ht⟩) hS.2.2 dX11_settle_49
    · have ic39 : r37.toInt = 0 := zi_nef rfl rfl c39
      refine lv_aload_n hx hb dX11_settle_25 rfl (lv_at hl 0 rfl) ?_
      refine lv_bipush (v := (-2)) hx hb dX11_settle_26 (by decide) ?_
      have hFc := tp_fr hD hS hA
      refine va_calli (va_runV (As := [.int (-2)]) (rest := []) ⟨hx, hb, hml, hown, hts⟩ (t_X11_refuse l dC dI _ Ω κ τ ν ρ L f hG hT h0 ((-2)) ht_h0) (cwV 1 hts gX11_settle_X11_refuse rfl rfl rfl ⟨rfl, pd_X11_refuse⟩ ⟨Nat.le_of_ble_eq_true rfl, Nat.le_of_ble_eq_true rfl⟩) ⟨pz_blind, va_recv hK hP (ci := 11) (q0 := q8) rfl eq8, pz_pre hP hK hD hN⟩ rfl rfl hl.1 rfl (lv_room (Nat.le_of_ble_eq_true rfl)) dX11_settle_28 ⟨Nat.le_of_ble_eq_true rfl, Nat.le_of_ble_eq_true rfl⟩) hS (fun q _ h => hFc q h) hFc (fun r99 f101 t H1 locs ht hvm hw100 hB hz1 hk1 hS => ?_)
      obtain ⟨hT, hF102, hw100r, hw100p⟩ := hw100
      have hR := hR.then hF102 (by decide)
      have hP := hB.1; rw [ht] at hP; have hD := tp_ad f101 hD; clear hB hFc hz1 hk1; subst ht; generalize t.heap = H at hP hS ⊢
      exact W.iret (v := r99) hx hb hr (fun t ht hW => ⟨⟨r99, f101, rfl, ⟨hT, hR, trivial, trivial⟩, by rw [ht]; exact hP, va_K.moved hW.alike hK, hD⟩, hS.F ht⟩) hS.2.2 dX11_settle_31
set_option maxHeartbeats 4000000 in
set_option maxRecDepth 100000 in
theorem t_X11_settled (l : Launch) (dC : Nat → ClassId) (dI : Nat → Nat → Nat) (sz : Nat) (Ω : Nat → (Nat → Nat) → va_E → Prop) (κ : Nat → ClassId) (τ ν : Nat → Nat) (ρ : Nat → Nat → Nat) (L : List Nat) (f : Nat → va_E) (hG : tp_G τ ν ρ L) (hT : tp_T Ω κ τ ν ρ f) (h0 : Nat) (v : Int32) (u : Int32) (ht_h0 : τ h0 = 12) : Met l yX11_settled wqX11_settled ({ frames := 4, cells := 0, slots := 0, locals := 1200 }) (va_Pc [.ref h0, .int v, .int u] (pz_B dC dI (tp_K κ) (va_pl L f) sz)) (va_Ql (fun (r : Int64) (f1 : Nat → va_E) => tp_T Ω κ τ ν ρ f1 ∧ tp_F τ [2, 3, 4, 5, 6, 7, 8, 9, 10, 11, 12, 20, 21, 22, 26, 27, 28] f f1 ∧ True ∧ True) (fun (f1 : Nat → va_E) (t : State) => pz_E dC dI (tp_K κ) (va_A (va_pl L f) sz) (va_pl L f1) t) (va_A (va_pl L f) sz)) 0 0 (va_A (va_pl L f) sz) := by
  refine Met.ofW (cc := cX11_settled) (maxL := 3) (ret := some .long) (by decide) rfl ?_
  intro p e s m args below meth c s₁ B hml hv
  obtain ⟨rfl, hsz, hP, hK, hD0, hN⟩ := hv
  have hx := B.exec
  have hb := B.bytes
  have hr := B.returns
  have hts := fun (w : Cond) (h : w ∈ WALL) => atoms_spec (ws := wqX11_settled) B.pre w (List.mem_cons_of_mem _ h)
  have hown : s.vm.findClass RX11 = some m.cls := findClass_of_methodNamed B.named
  have hlocks := B.notSynchronized
  subst hsz
  have hD := hD0.self (sz := s.heap.size)
  generalize hAe : va_A (va_pl L f) s.heap.size = A at hD ⊢
  have hA : ∀ q : Nat, s.heap.size ≤ q → A q := fun q h => by rw [← hAe]; exact Or.inr h
  have hS : va_S A s.heap s.heap [] := va_S.rf
  have hR : tp_F τ [2, 3, 4, 5, 6, 7, 8, 9, 10, 11, 12, 20, 21, 22, 26, 27, 28] f f := tp_F.rf
  have hl := lv_entry ([.ref h0, .int v, .int u]) (n := 3) (Nat.le_of_ble_eq_true rfl)
  rw [lg_entry_eq]
  generalize (lg_sl ([.ref h0, .int v, .int u]) ++ List.replicate (3 - (lg_sl ([.ref h0, .int v, .int u])).length) Slot.unset).toArray = ls at hl ⊢
  have hl : lv_has ls 3 [(0, .ref h0), (1, .int v), (2, .int u)] := hl
  refine lv_aload_n hx hb dX11_settled_0 rfl (lv_at hl 0 rfl) ?_
  obtain ⟨y1, y2, y3, y4, y5, y6⟩ := tpg_12 hG ht_h0
  obtain ⟨o7_x6, hf_o7⟩ := tpo_12 hT ht_h0
  obtain ⟨q8, eq8⟩ := tp_pos (tp_in hG ht_h0 (by decide)) hf_o7
  refine va_get (D := (dC, dI)) (ci := 11) (v := .ref (ρ h0 0)) (C := RX11) (T := TX11) (N := 7) hx hb hts hfX11 hown hK hP q8 eq8 rfl 0 (by decide) (hts (.fieldLink RX11 10 "ColdShips" "world" "LColdShips$World;") wa_15) (fun _ h9 => h9) rfl dX11_settled_1 ?_
  obtain ⟨⟨y9, y9n⟩, ⟨y10, y10n⟩, y11, y12, y13, y14, y15, y16, ⟨y17, y17w, y17m⟩, ⟨y18, y18w, y18m⟩, ⟨y19, y19w, y19m⟩, ⟨y20, y20w, y20m⟩⟩ := tpg_11 hG y1
  obtain ⟨o21_x0, o21_x1, o21_x2, o21_x3, o21_x4, o21_x5, o21_x6, hf_o21, ro21_0, ro21_1, ro21_2, ro21_3⟩ := tpo_11 hT y1
  obtain ⟨q22, eq22⟩ := tp_pos (tp_in hG y1 (by decide)) hf_o21
  refine va_getN (D := (dC, dI)) (ci := 10) (v := .ref (ρ (ρ h0 0) 17)) (C := RX10) (T := TX10) (N := 19) hx hb hts hfX10 hown hK hP q22 eq22 rfl 17 (by decide) (va_Nw.use rfl (hN.1 (.fieldLinkNest RX11 207 "ColdShips$World" "landings" "LColdShips$Rows;" "ColdShips") nzw_85)) (fun _ h9 => h9) rfl dX11_settled_4 ?_
  refine lv_iload_n hx hb dX11_settled_7 rfl (lv_at hl 1 rfl) ?_
  obtain ⟨⟨y23, y23n⟩, ⟨y24a, y24b, y24c⟩⟩ := tpg_5 hG y19
  obtain ⟨o25_x0, o25_x2, hf_o25, ro25_0, ro25_1⟩ := tpo_5 hT y19
  obtain ⟨q26, eq26⟩ := tp_pos (tp_in hG y19 (by decide)) hf_o25
  refine pz_calli (va_runV (As := [.int v]) (rest := []) ⟨hx, hb, hml, hown, hts⟩ (t_X4_has l dC dI _ Ω κ τ ν ρ L f hG hT (ρ (ρ h0 0) 17) v y19 o25_x0 o25_x2 hf_o25) (cwV 1 hts gX11_settled_X4_has rfl rfl rfl ⟨rfl, pd_X4_has⟩ ⟨Nat.le_of_ble_eq_true rfl, Nat.le_of_ble_eq_true rfl⟩) ⟨pz_blind, va_recv hK hP (ci := 4) (q0 := q26) rfl eq26, pz_pre hP hK hD hN⟩ rfl rfl hl.1 rfl (lv_room (Nat.le_of_ble_eq_true rfl)) dX11_settled_8 ⟨Nat.le_of_ble_eq_true rfl, Nat.le_of_ble_eq_true rfl⟩) (fun r27 hw28 => ?_)
  obtain ⟨hw28r, hw28p⟩ := hw28
  refine lv_if_eq (tgt := 25) hx hb dX11_settled_11 (by decide) (fun c29 => ?_) (fun c29 => ?_)
  · have ic29 : r27.toInt = 0 := zi_eq rfl rfl c29
    refine lv_ldc2 (own := RX11) (v := (-2000000000000000)) hx hb hown (hts (.constantLong RX11 281 (-2000000000000000)) wa_1124) dX11_settled_25 ?_
    exact W.lret (v := (-2000000000000000)) hx hb hr (fun t ht hW => ⟨⟨(-2000000000000000), f, rfl, ⟨hT, hR, trivial, trivial⟩, by rw [ht]; exact hP, va_K.moved hW.alike hK, hD⟩, hS.F ht⟩) hS.2.2 dX11_settled_28
  · have ic29 : r27.toInt ≠ 0 := zi_eqf rfl rfl c29
    have p30 : 0 ≤ v.toInt ∧ v.toInt < o25_x2.toInt := (tp_cond.yes hw28p) (by omega)
    refine lv_aload_n hx hb dX11_settled_14 rfl (lv_at hl 0 rfl) ?_
    refine va_get (D := (dC, dI)) (ci := 11) (v := .ref (ρ h0 0)) (C := RX11) (T := TX11) (N := 7) hx hb hts hfX11 hown hK hP q8 eq8 rfl 0 (by decide) (hts (.fieldLink RX11 10 "ColdShips" "world" "LColdShips$World;") wa_15) (fun _ h9 => h9) rfl dX11_settled_15 ?_
    refine lv_iload_n hx hb dX11_settled_18 rfl (lv_at hl 1 rfl) ?_
    refine pz_calli (va_runV (As := [.int v]) (rest := []) ⟨hx, hb, hml, hown, hts⟩ (t_X10_isSettled l dC dI _ Ω κ τ ν ρ L f hG hT (ρ h0 0) v y1) (cwV 1 hts gX11_settled_X10_isSettled rfl rfl rfl ⟨rfl, pd_X10_isSettled⟩ ⟨Nat.le_of_ble_eq_true rfl, Nat.le_of_ble_eq_true rfl⟩) ⟨pz_blind, va_recv hK hP (ci := 10) (q0 := q22) rfl eq22, pz_pre hP hK hD hN⟩ rfl rfl hl.1 rfl (lv_room (Nat.le_of_ble_eq_true rfl)) dX11_settled_19 ⟨Nat.le_of_ble_eq_true rfl, Nat.le_of_ble_eq_true rfl⟩) (fun r31 hw32 => ?_)
    obtain ⟨hw32r, hw32p⟩ := hw32
    refine lv_if_ne (tgt := 29) hx hb dX11_settled_22 (by decide) (fun c33 => ?_) (fun c33 => ?_)
    · have ic33 : r31.toInt ≠ 0 := zi_ne rfl rfl c33
      refine lv_iload_n hx hb dX11_settled_29 rfl (lv_at hl 2 rfl) ?_
      rcases zi_sw u 0 2 with h34 | h34
      · refine lv_tableOut (tgt := 98) hx hb dX11_settled_30 h34 (by decide) ?_
        refine lv_ldc2 (own := RX11) (v := (-2000000000000000)) hx hb hown (hts (.constantLong RX11 281 (-2000000000000000)) wa_1124) dX11_settled_98 ?_
        exact W.lret (v := (-2000000000000000)) hx hb hr (fun t ht hW => ⟨⟨(-2000000000000000), f, rfl, ⟨hT, hR, trivial, trivial⟩, by rw [ht]; exact hP, va_K.moved hW.alike hK, hD⟩, hS.F ht⟩) hS.2.2 dX11_settled_101
      · rcases (show u.toInt = 0 ∨ u.toInt = 1 ∨ u.toInt = 2 by omega) with h34k | h34k | h34k
        · refine lv_tableIn (tgt := 56) hx hb dX11_settled_30 (by omega) (by omega) (by rw [h34k]; rfl) (by decide) ?_
          refine lv_aload_n hx hb dX11_settled_56 rfl (lv_at hl 0 rfl) ?_
          refine va_get (D := (dC, dI)) (ci := 11) (v := .ref (ρ h0 0)) (C := RX11) (T := TX11) (N := 7) hx hb hts hfX11 hown hK hP q8 eq8 rfl 0 (by decide) (hts (.fieldLink RX11 10 "ColdShips" "world" "LColdShips$World;") wa_15) (fun _ h9 => h9) rfl dX11_settled_57 ?_
          refine va_getN (D := (dC, dI)) (ci := 10) (v := .ref (ρ (ρ h0 0) 17)) (C := RX10) (T := TX10) (N := 19) hx hb hts hfX10 hown hK hP q22 eq22 rfl 17 (by decide) (va_Nw.use rfl (hN.1 (.fieldLinkNest RX11 207 "ColdShips$World" "landings" "LColdShips$Rows;" "ColdShips") nzw_85)) (fun _ h9 => h9) rfl dX11_settled_60 ?_
          refine lv_iload_n hx hb dX11_settled_63 rfl (lv_at hl 1 rfl) ?_
          refine lv_bipush (v := 13) hx hb dX11_settled_64 (by decide) ?_
          refine pz_calll (va_runV (As := [.int v, .int 13]) (rest := []) ⟨hx, hb, hml, hown, hts⟩ (t_X4_at l dC dI _ Ω κ τ ν ρ L f hG hT (ρ (ρ h0 0) 17) v (13) y19 o25_x0 o25_x2 hf_o25) (cwV 2 hts gX11_settled_X4_at rfl rfl rfl ⟨rfl, pd_X4_at⟩ ⟨Nat.le_of_ble_eq_true rfl, Nat.le_of_ble_eq_true rfl⟩) ⟨pz_blind, va_recv hK hP (ci := 4) (q0 := q26) rfl eq26, pz_pre hP hK hD hN⟩ rfl rfl hl.1 rfl (lv_room (Nat.le_of_ble_eq_true rfl)) dX11_settled_66 ⟨Nat.le_of_ble_eq_true rfl, Nat.le_of_ble_eq_true rfl⟩) (fun r35 hw36 => ?_)
          obtain ⟨hw36r, hw36p⟩ := hw36
          exact W.lret (v := r35) hx hb hr (fun t ht hW => ⟨⟨r35, f, rfl, ⟨hT, hR, trivial, trivial⟩, by rw [ht]; exact hP, va_K.moved hW.alike hK, hD⟩, hS.F ht⟩) hS.2.2 dX11_settled_69
        · refine lv_tableIn (tgt := 70) hx hb dX11_settled_30 (by omega) (by omega) (by rw [h34k]; rfl) (by decide) ?_
          refine lv_aload_n hx hb dX11_settled_70 rfl (lv_at hl 0 rfl) ?_
          refine va_get (D := (dC, dI)) (ci := 11) (v := .ref (ρ h0 0)) (C := RX11) (T := TX11) (N := 7) hx hb hts hfX11 hown hK hP q8 eq8 rfl 0 (by decide) (hts (.fieldLink RX11 10 "ColdShips" "world" "LColdShips$World;") wa_15) (fun _ h9 => h9) rfl dX11_settled_71 ?_
          refine va_getN (D := (dC, dI)) (ci := 10) (v := .ref (ρ (ρ h0 0) 17)) (C := RX10) (T := TX10) (N := 19) hx hb hts hfX10 hown hK hP q22 eq22 rfl 17 (by decide) (va_Nw.use rfl (hN.1 (.fieldLinkNest RX11 207 "ColdShips$World" "landings" "LColdShips$Rows;" "ColdShips") nzw_85)) (fun _ h9 => h9) rfl dX11_settled_74 ?_
          refine lv_iload_n hx hb dX11_settled_77 rfl (lv_at hl 1 rfl) ?_
          refine lv_bipush (v := 12) hx hb dX11_settled_78 (by decide) ?_
          refine pz_calll (va_runV (As := [.int v, .int 12]) (rest := []) ⟨hx, hb, hml, hown, hts⟩ (t_X4_at l dC dI _ Ω κ τ ν ρ L f hG hT (ρ (ρ h0 0) 17) v (12) y19 o25_x0 o25_x2 hf_o25) (cwV 2 hts gX11_settled_X4_at rfl rfl rfl ⟨rfl, pd_X4_at⟩ ⟨Nat.le_of_ble_eq_true rfl, Nat.le_of_ble_eq_true rfl⟩) ⟨pz_blind, va_recv hK hP (ci := 4) (q0 := q26) rfl eq26, pz_pre hP hK hD hN⟩ rfl rfl hl.1 rfl (lv_room (Nat.le_of_ble_eq_true rfl)) dX11_settled_80 ⟨Nat.le_of_ble_eq_true rfl, Nat.le_of_ble_eq_true rfl⟩) (fun r37 hw38 => ?_)
          obtain ⟨hw38r, hw38p⟩ := hw38
          exact W.lret (v := r37) hx hb hr (fun t ht hW => ⟨⟨r37, f, rfl, ⟨hT, hR, trivial, trivial⟩, by rw [ht]; exact hP, va_K.moved hW.alike hK, hD⟩, hS.F ht⟩) hS.2.2 dX11_settled_83
        · refine lv_tableIn (tgt := 84) hx hb dX11_settled_30 (by omega) (by omega) (by rw [h34k]; rfl) (by decide) ?_
          refine lv_aload_n hx hb dX11_settled_84 rfl (lv_at hl 0 rfl) ?_
          refine va_get (D := (dC, dI)) (ci := 11) (v := .ref (ρ h0 0)) (C := RX11) (T := TX11) (N := 7) hx hb hts hfX11 hown hK hP q8 eq8 rfl 0 (by decide) (hts (.fieldLink RX11 10 "ColdShips" "world" "LColdShips$World;") wa_15) (fun _ h9 => h9) rfl dX11_settled_85 ?_
          refine va_getN (D := (dC, dI)) (ci := 10) (v := .ref (ρ (ρ h0 0) 17)) (C := RX10) (T := TX10) (N := 19) hx hb hts hfX10 hown hK hP q22 eq22 rfl 17 (by decide) (va_Nw.use rfl (hN.1 (.fieldLinkNest RX11 207 "ColdShips$World" "landings" "LColdShips$Rows;" "ColdShips") nzw_85)) (fun _ h9 => h9) rfl dX11_settled_88 ?_
          refine lv_iload_n hx hb dX11_settled_91 rfl (lv_at hl 1 rfl) ?_
          refine lv_bipush (v := 14) hx hb dX11_settled_92 (by decide) ?_
          refine pz_calll (va_runV (As := [.int v, .int 14]) (rest := []) ⟨hx, hb, hml, hown, hts⟩ (t_X4_at l dC dI _ Ω κ τ ν ρ L f hG hT (ρ (ρ h0 0) 17) v (14) y19 o25_x0 o25_x2 hf_o25) (cwV 2 hts gX11_settled_X4_at rfl rfl rfl ⟨rfl, pd_X4_at⟩ ⟨Nat.le_of_ble_eq_true rfl, Nat.le_of_ble_eq_true rfl⟩) ⟨pz_blind, va_recv hK hP (ci := 4) (q0 := q26) rfl eq26, pz_pre hP hK hD hN⟩ rfl rfl hl.1 rfl (lv_room (Nat.le_of_ble_eq_true rfl)) dX11_settled_94 ⟨Nat.le_of_ble_eq_true rfl, Nat.le_of_ble_eq_true rfl⟩) (fun r39 hw40 => ?_)
          obtain ⟨hw40r, hw40p⟩ := hw40
          exact W.lret (v := r39) hx hb hr (fun t ht hW => ⟨⟨r39, f, rfl, ⟨hT, hR, trivial, trivial⟩, by rw [ht]; exact hP, va_K.moved hW.alike hK, hD⟩, hS.F ht⟩) hS.2.2 dX11_settled_97
    · have ic33 : r31.toInt = 0 := zi_nef rfl rfl c33
      refine lv_ldc2 (own := RX11) (v := (-2000000000000000)) hx hb hown (hts (.constantLong RX11 281 (-2000000000000000)) wa_1124) dX11_settled_25 ?_
      exact W.lret (v := (-2000000000000000)) hx hb hr (fun t ht hW => ⟨⟨(-2000000000000000), f, rfl, ⟨hT, hR, trivial, trivial⟩, by rw [ht]; exact hP, va_K.moved hW.alike hK, hD⟩, hS.F ht⟩) hS.2.2 dX11_settled_28
set_option maxHeartbeats 4000000 in
set_option maxRecDepth 100000 in
theorem t_X11_table (l : Launch) (dC : Nat → ClassId) (dI : Nat → Nat → Nat) (sz : Nat) (Ω : Nat → (Nat → Nat) → va_E → Prop) (κ : Nat → ClassId) (τ ν : Nat → Nat) (ρ : Nat → Nat → Nat) (L : List Nat) (f : Nat → va_E) (hG : tp_G τ ν ρ L) (hT : tp_T Ω κ τ ν ρ f) (h0 : Nat) (v : Int32) (u : Int32) (a : Int32) (b : Int32) (ht_h0 : τ h0 = 12) : Met l yX11_table wqX11_table ({ frames := 3, cells := 0, slots := 0, locals := 800 }) (va_Pc [.ref h0, .int v, .int u, .int a, .int b] (pz_B dC dI (tp_K κ) (va_pl L f) sz)) (va_Qi (fun (r : Int32) (f1 : Nat → va_E) => tp_T Ω κ τ ν ρ f1 ∧ tp_F τ [2, 3, 4, 5, 6, 7, 8, 9, 10, 11, 12, 20, 21, 22, 26, 27, 28] f f1 ∧ True ∧ True) (fun (f1 : Nat → va_E) (t : State) => pz_E dC dI (tp_K κ) (va_A (va_pl L f) sz) (va_pl L f1) t) (va_A (va_pl L f) sz)) 0 0 (va_A (va_pl L f) sz) := by
  refine Met.ofW (cc := cX11_table) (maxL := 5) (ret := some .int) (by decide) rfl ?_
  intro p e s m args below meth c s₁ B hml hv
  obtain ⟨rfl, hsz, hP, hK, hD0, hN⟩ := hv
  have hx := B.exec
  have hb := B.bytes
  have hr := B.returns
  have hts := fun (w : Cond) (h : w ∈ WALL) => atoms_spec (ws := wqX11_table) B.pre w (List.mem_cons_of_mem _ h)
  have hown : s.vm.findClass RX11 = some m.cls := findClass_of_methodNamed B.named
  have hlocks := B.notSynchronized
  subst hsz
  have hD := hD0.self (sz := s.heap.size)
  generalize hAe : va_A (va_pl L f) s.heap.size = A at hD ⊢
  have hA : ∀ q : Nat, s.heap.size ≤ q → A q := fun q h => by rw [← hAe]; exact Or.inr h
  have hS : va_S A s.heap s.heap [] := va_S.rf
  have hR : tp_F τ [2, 3, 4, 5, 6, 7, 8, 9, 10, 11, 12, 20, 21, 22, 26, 27, 28] f f := tp_F.rf
  have hl := lv_entry ([.ref h0, .int v, .int u, .int a, .int b]) (n := 5) (Nat.le_of_ble_eq_true rfl)
  rw [lg_entry_eq]
  generalize (lg_sl ([.ref h0, .int v, .int u, .int a, .int b]) ++ List.replicate (5 - (lg_sl ([.ref h0, .int v, .int u, .int a, .int b])).length) Slot.unset).toArray = ls at hl ⊢
  have hl : lv_has ls 5 [(0, .ref h0), (1, .int v), (2, .int u), (3, .int a), (4, .int b)] := hl
  refine lv_iload_n hx hb dX11_table_0 rfl (lv_at hl 2 rfl) ?_
  refine lv_iconst (v := 0) hx hb dX11_table_1 (by decide) ?_
  refine lv_iconst (v := 3) hx hb dX11_table_2 (by decide) ?_
  refine pz_calli (va_runS (As := [.int u, .int 0, .int 3]) (rest := []) ⟨hx, hb, hml, hown, hts⟩ (t_X11_within l dC dI _ u (0) (3) (u.toInt) (0) (3) rfl rfl rfl) (va_cwS 3 hts gX11_table_X11_within rfl rfl rfl pd_X11_within ⟨Nat.le_of_ble_eq_true rfl, Nat.le_of_ble_eq_true rfl⟩) ⟨pz_blind, pz_pre pz_P0 (hK.sub (tys' := []) [] rfl) (pz_D0 (A := fun _ => True)) hN⟩ rfl rfl hl.1 rfl (lv_room (Nat.le_of_ble_eq_true rfl)) dX11_table_3 ⟨Nat.le_of_ble_eq_true rfl, Nat.le_of_ble_eq_true rfl⟩) (fun r1 hw2 => ?_)
  obtain ⟨hw2r, hw2p⟩ := hw2
  refine lv_if_eq (tgt := 31) hx hb dX11_table_6 (by decide) (fun c3 => ?_) (fun c3 => ?_)
  · have ic3 : r1.toInt = 0 := zi_eq rfl rfl c3
    refine lv_aload_n hx hb dX11_table_31 rfl (lv_at hl 0 rfl) ?_
    refine lv_iconst (v := (-1)) hx hb dX11_table_32 (by decide) ?_
    obtain ⟨y4, y5, y6, y7, y8, y9⟩ := tpg_12 hG ht_h0
    obtain ⟨o10_x6, hf_o10⟩ := tpo_12 hT ht_h0
    obtain ⟨q11, eq11⟩ := tp_pos (tp_in hG ht_h0 (by decide)) hf_o10
    have hFc := tp_fr hD hS hA
    refine va_calli (va_runV (As := [.int (-1)]) (rest := []) ⟨hx, hb, hml, hown, hts⟩ (t_X11_refuse l dC dI _ Ω κ τ ν ρ L f hG hT h0 ((-1)) ht_h0) (cwV 1 hts gX11_table_X11_refuse rfl rfl rfl ⟨rfl, pd_X11_refuse⟩ ⟨Nat.le_of_ble_eq_true rfl, Nat.le_of_ble_eq_true rfl⟩) ⟨pz_blind, va_recv hK hP (ci := 11) (q0 := q11) rfl eq11, pz_pre hP hK hD hN⟩ rfl rfl hl.1 rfl (lv_room (Nat.le_of_ble_eq_true rfl)) dX11_table_33 ⟨Nat.le_of_ble_eq_true rfl, Nat.le_of_ble_eq_true rfl⟩) hS (fun q _ h => hFc q h) hFc (fun r12 f14 t H1 locs ht hvm hw13 hB hz1 hk1 hS => ?_)
    obtain ⟨hT, hF15, hw13r, hw13p⟩ := hw13
    have hR := hR.then hF15 (by decide)
    have hP := hB.1; rw [ht] at hP; have hD := tp_ad f14 hD; clear hB hFc hz1 hk1; subst ht; generalize t.heap = H at hP hS ⊢
    exact W.iret (v := r12) hx hb hr (fun t ht hW => ⟨⟨r12, f14, rfl, ⟨hT, hR, trivial, trivial⟩, by rw [ht]; exact hP, va_K.moved hW.alike hK, hD⟩, hS.F ht⟩) hS.2.2 dX11_table_36
  · have ic3 : r1.toInt ≠ 0 := zi_eqf rfl rfl c3
    have p16 : (0) ≤ (u.toInt) ∧ (u.toInt) ≤ (3) := (tp_cond.yes hw2p) (by omega)
    refine lv_iload_n hx hb dX11_table_9 rfl (lv_at hl 3 rfl) ?_
    refine lv_iconst (v := 0) hx hb dX11_table_10 (by decide) ?_
    refine lv_sipush (v := 5000) hx hb dX11_table_11 (by decide) ?_
    refine pz_calli (va_runS (As := [.int a, .int 0, .int 5000]) (rest := []) ⟨hx, hb, hml, hown, hts⟩ (t_X11_within l dC dI _ a (0) (5000) (a.toInt) (0) (5000) rfl rfl rfl) (va_cwS 3 hts gX11_table_X11_within rfl rfl rfl pd_X11_within ⟨Nat.le_of_ble_eq_true rfl, Nat.le_of_ble_eq_true rfl⟩) ⟨pz_blind, pz_pre pz_P0 (hK.sub (tys' := []) [] rfl) (pz_D0 (A := fun _ => True)) hN⟩ rfl rfl hl.1 rfl (lv_room (Nat.le_of_ble_eq_true rfl)) dX11_table_14 ⟨Nat.le_of_ble_eq_true rfl, Nat.le_of_ble_eq_true rfl⟩) (fun r17 hw18 => ?_)
    obtain ⟨hw18r, hw18p⟩ := hw18
    refine lv_if_eq (tgt := 31) hx hb dX11_table_17 (by decide) (fun c19 => ?_) (fun c19 => ?_)
    · have ic19 : r17.toInt = 0 := zi_eq rfl rfl c19
      refine lv_aload_n hx hb dX11_table_31 rfl (lv_at hl 0 rfl) ?_
      refine lv_iconst (v := (-1)) hx hb dX11_table_32 (by decide) ?_
      obtain ⟨y20, y21, y22, y23, y24, y25⟩ := tpg_12 hG ht_h0
      obtain ⟨o26_x6, hf_o26⟩ := tpo_12 hT ht_h0
      obtain ⟨q27, eq27⟩ := tp_pos (tp_in hG ht_h0 (by decide)) hf_o26
      have hFc := tp_fr hD hS hA
      refine va_calli (va_runV (As := [.int (-1)]) (rest := []) ⟨hx, hb, hml, hown, hts⟩ (t_X11_refuse l dC dI _ Ω κ τ ν ρ L f hG hT h0 ((-1)) ht_h0) (cwV 1 hts gX11_table_X11_refuse rfl rfl rfl ⟨rfl, pd_X11_refuse⟩ ⟨Nat.le_of_ble_eq_true rfl, Nat.le_of_ble_eq_true rfl⟩) ⟨pz_blind, va_recv hK hP (ci := 11) (q0 := q27) rfl eq27, pz_pre hP hK hD hN⟩ rfl rfl hl.1 rfl (lv_room (Nat.le_of_ble_eq_true rfl)) dX11_table_33 ⟨Nat.le_of_ble_eq_true rfl, Nat.le_of_ble_eq_true rfl⟩) hS (fun q _ h => hFc q h) hFc (fun r28 f30 t H1 locs ht hvm hw29 hB hz1 hk1 hS => ?_)
      obtain ⟨hT, hF31, hw29r, hw29p⟩ := hw29
      have hR := hR.then hF31 (by decide)
      have hP := hB.1; rw [ht] at hP; have hD := tp_ad f30 hD; clear hB hFc hz1 hk1; subst ht; generalize t.heap = H at hP hS ⊢
      exact W.iret (v := r28) hx hb hr (fun t ht hW => ⟨⟨r28, f30, rfl, ⟨hT, hR, trivial, trivial⟩, by rw [ht]; exact hP, va_K.moved hW.alike hK, hD⟩, hS.F ht⟩) hS.2.2 dX11_table_36
    · have ic19 : r17.toInt ≠ 0 := zi_eqf rfl rfl c19
      have p32 : (0) ≤ (a.toInt) ∧ (a.toInt) ≤ (5000) := (tp_cond.yes hw18p) (by omega)
      refine lv_iload hx hb dX11_table_20 (lv_at hl 4 rfl) ?_
      refine lv_iconst (v := 0) hx hb dX11_table_22 (by decide) ?_
      refine lv_ldc (own := RX11) (v := 200000) hx hb hown (hts (.constant RX11 76 (200000)) wa_232) dX11_table_23 ?_
      refine pz_calli (va_runS (As := [.int b, .int 0, .int 200000]) (rest := []) ⟨hx, hb, hml, hown, hts⟩ (t_X11_within l dC dI _ b (0) (200000) (b.toInt) (0) (200000) rfl rfl rfl) (va_cwS 3 hts gX11_table_X11_within rfl rfl rfl pd_X11_within ⟨Nat.le_of_ble_eq_true rfl, Nat.le_of_ble_eq_true rfl⟩) ⟨pz_blind, pz_pre pz_P0 (hK.sub (tys' := []) [] rfl) (pz_D0 (A := fun _ => True)) hN⟩ rfl rfl hl.1 rfl (lv_room (Nat.le_of_ble_eq_true rfl)) dX11_table_25 ⟨Nat.le_of_ble_eq_true rfl, Nat.le_of_ble_eq_true rfl⟩) (fun r33 hw34 => ?_)
      obtain ⟨hw34r, hw34p⟩ := hw34
      refine lv_if_ne (tgt := 37) hx hb dX11_table_28 (by decide) (fun c35 => ?_) (fun c35 => ?_)
      · have ic35 : r33.toInt ≠ 0 := zi_ne rfl rfl c35
        have p36 : (0) ≤ (b.toInt) ∧ (b.toInt) ≤ (200000) := (tp_cond.yes hw34p) (by omega)
        refine lv_aload_n hx hb dX11_table_37 rfl (lv_at hl 0 rfl) ?_
        obtain ⟨y37, y38, y39, y40, y41, y42⟩ := tpg_12 hG ht_h0
        obtain ⟨o43_x6, hf_o43⟩ := tpo_12 hT ht_h0
        obtain ⟨q44, eq44⟩ := tp_pos (tp_in hG ht_h0 (by decide)) hf_o43
        refine va_get (D := (dC, dI)) (ci := 11) (v := .ref (ρ h0 0)) (C := RX11) (T := TX11) (N := 7) hx hb hts hfX11 hown hK hP q44 eq44 rfl 0 (by decide) (hts (.fieldLink RX11 10 "ColdShips" "world" "LColdShips$World;") wa_15) (fun _ h9 => h9) rfl dX11_table_38 ?_
        refine lv_iload_n hx hb dX11_table_41 rfl (lv_at hl 1 rfl) ?_
        obtain ⟨⟨y45, y45n⟩, ⟨y46, y46n⟩, y47, y48, y49, y50, y51, y52, ⟨y53, y53w, y53m⟩, ⟨y54, y54w, y54m⟩, ⟨y55, y55w, y55m⟩, ⟨y56, y56w, y56m⟩⟩ := tpg_11 hG y37
        obtain ⟨o57_x0, o57_x1, o57_x2, o57_x3, o57_x4, o57_x5, o57_x6, hf_o57, ro57_0, ro57_1, ro57_2, ro57_3⟩ := tpo_11 hT y37
        obtain ⟨q58, eq58⟩ := tp_pos (tp_in hG y37 (by decide)) hf_o57
        refine pz_calli (va_runV (As := [.int v]) (rest := []) ⟨hx, hb, hml, hown, hts⟩ (t_X10_hasShip l dC dI _ Ω κ τ ν ρ L f hG hT (ρ h0 0) v y37 o57_x0 o57_x1 o57_x2 o57_x3 o57_x4 o57_x5 o57_x6 hf_o57) (cwV 1 hts gX11_table_X10_hasShip rfl rfl rfl ⟨rfl, pd_X10_hasShip⟩ ⟨Nat.le_of_ble_eq_true rfl, Nat.le_of_ble_eq_true rfl⟩) ⟨pz_blind, va_recv hK hP (ci := 10) (q0 := q58) rfl eq58, pz_pre hP hK hD hN⟩ rfl rfl hl.1 rfl (lv_room (Nat.le_of_ble_eq_true rfl)) dX11_table_42 ⟨Nat.le_of_ble_eq_true rfl, Nat.le_of_ble_eq_true rfl⟩) (fun r59 hw60 => ?_)
        obtain ⟨hw60r, hw60p⟩ := hw60
        refine lv_if_ne (tgt := 55) hx hb dX11_table_45 (by decide) (fun c61 => ?_) (fun c61 => ?_)
        · have ic61 : r59.toInt ≠ 0 := zi_ne rfl rfl c61
          have p62 : 0 ≤ v.toInt ∧ v.toInt < o57_x5.toInt := (tp_cond.yes hw60p) (by omega)
          refine lv_aload_n hx hb dX11_table_55 rfl (lv_at hl 0 rfl) ?_
          refine va_get (D := (dC, dI)) (ci := 11) (v := .ref (ρ h0 0)) (C := RX11) (T := TX11) (N := 7) hx hb hts hfX11 hown hK hP q44 eq44 rfl 0 (by decide) (hts (.fieldLink RX11 10 "ColdShips" "world" "LColdShips$World;") wa_15) (fun _ h9 => h9) rfl dX11_table_56 ?_
          refine va_getN (D := (dC, dI)) (ci := 10) (v := .ref (ρ (ρ h0 0) 10)) (C := RX10) (T := TX10) (N := 19) hx hb hts hfX10 hown hK hP q58 eq58 rfl 10 (by decide) (va_Nw.use rfl (hN.1 (.fieldLinkNest RX11 84 "ColdShips$World" "ships" "[LColdShips$Ship;" "ColdShips") nzw_69)) (fun _ h9 => h9) rfl dX11_table_59 ?_
          refine lv_iload_n hx hb dX11_table_62 rfl (lv_at hl 1 rfl) ?_
          obtain ⟨g64, hf_o63, hf_o63e⟩ := tpo_25 hT y48
          obtain ⟨q65, eq65⟩ := tp_pos (tp_in hG y48 (by decide)) hf_o63
          refine va_aldq hx hb hK hP q65 5 eq65 rfl (vp_in_iff.mpr ⟨by omega, by omega⟩) dX11_table_63 ?_
          obtain ⟨b66, hb67⟩ : ∃ b : Nat, b = ρ (ρ (ρ h0 0) 10) v.toNatClampNeg := ⟨_, rfl⟩
          have hb67t : τ b66 = 6 := by rw [hb67]; exact tpg_25 hG y48 _ (zi_cl (vp_in_iff.mpr ⟨by omega, by omega⟩))
          have hb67g : g64 v.toNatClampNeg = some b66 := by rw [hb67]; exact hf_o63e _ (zi_cl (vp_in_iff.mpr ⟨by omega, by omega⟩))
          refine W.eq (g2 := F0 m 64 ls (.ref b66 :: [])) (congrArg (fun o => F0 m 64 ls (va_rf o :: [])) hb67g) ?_
          obtain ⟨y68, ⟨y69, y69n⟩, ⟨y70, y70n⟩, ⟨y71, y71n⟩, ⟨y72, y72n⟩, ⟨y73, y73n⟩, ⟨y74, y74n⟩⟩ := tpg_6 hG hb67t
          obtain ⟨o75_x1, o75_x2, o75_x3, o75_x4, o75_x5, o75_x6, o75_x10, o75_x11, o75_x12, o75_x14, hf_o75, ro75_0, ro75_1, ro75_2⟩ := tpo_6 hT hb67t
          obtain ⟨q76, eq76⟩ := tp_pos (tp_in hG hb67t (by decide)) hf_o75
          refine va_getN (D := (dC, dI)) (ci := 5) (v := .ref (ρ b66 15)) (C := RX5) (T := TX5) (N := 17) hx hb hts hfX5 hown hK hP q76 eq76 rfl 15 (by decide) (va_Nw.use rfl (hN.1 (.fieldLinkNest RX11 297 "ColdShips$Ship" "gaugeCentimetres" "[I" "ColdShips") nzw_46)) (fun _ h9 => h9) rfl dX11_table_64 ?_
          refine lv_iload_n hx hb dX11_table_67 rfl (lv_at hl 2 rfl) ?_
          refine lv_iload_n hx hb dX11_table_68 rfl (lv_at hl 3 rfl) ?_
          obtain ⟨g78, hf_o77⟩ := tpo_20 hT y73 y73n
          obtain ⟨q79, eq79⟩ := tp_pos (tp_in hG y73 (by decide)) hf_o77
          refine va_iast hx hb hK hP hD hS q79 0 eq79 rfl (vp_in_iff.mpr ⟨by omega, by omega⟩) dX11_table_69 (tp_k (.inl (κ 0, 4, .inl (upd g78 u.toNatClampNeg a))) hD (tp_in hG y73 (by decide)) eq79 (fun f80 H locs hP hD hS g82 k81 => ?_))
          have hT := hT.up y73 g82 k81 (tp_o20 y73n)
          have hR := hR.up y73 (by decide) k81
          generalize (upd g78 u.toNatClampNeg a) = g83 at g82
          refine lv_aload_n hx hb dX11_table_70 rfl (lv_at hl 0 rfl) ?_
          have hf_84 : f80 h0 = .inr (11, [.ref (ρ h0 0), .ref (ρ h0 1), .ref (ρ h0 2), .ref (ρ h0 3), .ref (ρ h0 4), .ref (ρ h0 5), .int o43_x6]) := (k81 _ (tp_ne ht_h0 y73 (by decide))).trans hf_o43
          obtain ⟨q85, eq85⟩ := tp_pos (tp_in hG ht_h0 (by decide)) hf_84
          refine va_get (D := (dC, dI)) (ci := 11) (v := .ref (ρ h0 0)) (C := RX11) (T := TX11) (N := 7) hx hb hts hfX11 hown hK hP q85 eq85 rfl 0 (by decide) (hts (.fieldLink RX11 10 "ColdShips" "world" "LColdShips$World;") wa_15) (fun _ h9 => h9) rfl dX11_table_71 ?_
          have hf_86 : f80 (ρ h0 0) = .inr (10, [.int o57_x0, .int o57_x1, .int o57_x2, .int o57_x3, .int o57_x4, .int o57_x5, .int o57_x6, .ref (ρ (ρ h0 0) 7), .ref (ρ (ρ h0 0) 8), .ref (ρ (ρ h0 0) 9), .ref (ρ (ρ h0 0) 10), .ref (ρ (ρ h0 0) 11), .ref (ρ (ρ h0 0) 12), .ref (ρ (ρ h0 0) 13), .ref (ρ (ρ h0 0) 14), .ref (ρ (ρ h0 0) 15), .ref (ρ (ρ h0 0) 16), .ref (ρ (ρ h0 0) 17), .ref (ρ (ρ h0 0) 18)]) := (k81 _ (tp_ne y37 y73 (by decide))).trans hf_o57
          obtain ⟨q87, eq87⟩ := tp_pos (tp_in hG y37 (by decide)) hf_86
          refine va_getN (D := (dC, dI)) (ci := 10) (v := .ref (ρ (ρ h0 0) 10)) (C := RX10) (T := TX10) (N := 19) hx hb hts hfX10 hown hK hP q87 eq87 rfl 10 (by decide) (va_Nw.use rfl (hN.1 (.fieldLinkNest RX11 84 "ColdShips$World" "ships" "[LColdShips$Ship;" "ColdShips") nzw_69)) (fun _ h9 => h9) rfl dX11_table_74 ?_
          refine lv_iload_n hx hb dX11_table_77 rfl (lv_at hl 1 rfl) ?_
          have hf_88 : f80 (ρ (ρ h0 0) 10) = .inl (κ 5, 6, .inr (.inr (.inr (.inr g64)))) := (k81 _ (tp_ne y48 y73 (by decide))).trans hf_o63
          obtain ⟨q89, eq89⟩ := tp_pos (tp_in hG y48 (by decide)) hf_88
          refine va_aldq hx hb hK hP q89 5 eq89 rfl (vp_in_iff.mpr ⟨by omega, by omega⟩) dX11_table_78 ?_
          obtain ⟨b90, hb91⟩ : ∃ b : Nat, b = ρ (ρ (ρ h0 0) 10) v.toNatClampNeg := ⟨_, rfl⟩
          have hb91t : τ b90 = 6 := by rw [hb91]; exact tpg_25 hG y48 _ (zi_cl (vp_in_iff.mpr ⟨by omega, by omega⟩))
          have hb91g : g64 v.toNatClampNeg = some b90 := by rw [hb91]; exact hf_o63e _ (zi_cl (vp_in_iff.mpr ⟨by omega, by omega⟩))
          refine W.eq (g2 := F0 m 79 ls (.ref b90 :: [])) (congrArg (fun o => F0 m 79 ls (va_rf o :: [])) hb91g) ?_
          obtain ⟨y92, ⟨y93, y93n⟩, ⟨y94, y94n⟩, ⟨y95, y95n⟩, ⟨y96, y96n⟩, ⟨y97, y97n⟩, ⟨y98, y98n⟩⟩ := tpg_6 hG hb91t
          obtain ⟨o99_x1, o99_x2, o99_x3, o99_x4, o99_x5, o99_x6, o99_x10, o99_x11, o99_x12, o99_x14, hf_o99, ro99_0, ro99_1, ro99_2⟩ := tpo_6 hT hb91t
          obtain ⟨q100, eq100⟩ := tp_pos (tp_in hG hb91t (by decide)) hf_o99
          refine va_getN (D := (dC, dI)) (ci := 5) (v := .ref (ρ b90 16)) (C := RX5) (T := TX5) (N := 17) hx hb hts hfX5 hown hK hP q100 eq100 rfl 16 (by decide) (va_Nw.use rfl (hN.1 (.fieldLinkNest RX11 300 "ColdShips$Ship" "gaugeTons" "[I" "ColdShips") nzw_47)) (fun _ h9 => h9) rfl dX11_table_79 ?_
          refine lv_iload_n hx hb dX11_table_82 rfl (lv_at hl 2 rfl) ?_
          refine lv_iload hx hb dX11_table_83 (lv_at hl 4 rfl) ?_
          obtain ⟨g102, hf_o101⟩ := tpo_20 hT y98 y98n
          obtain ⟨q103, eq103⟩ := tp_pos (tp_in hG y98 (by decide)) hf_o101
          refine va_iast hx hb hK hP hD hS q103 0 eq103 rfl (vp_in_iff.mpr ⟨by omega, by omega⟩) dX11_table_85 (tp_k (.inl (κ 0, 4, .inl (upd g102 u.toNatClampNeg b))) hD (tp_in hG y98 (by decide)) eq103 (fun f104 H locs hP hD hS g106 k105 => ?_))
          have hT := hT.up y98 g106 k105 (tp_o20 y98n)
          have hR := hR.up y98 (by decide) k105
          generalize (upd g102 u.toNatClampNeg b) = g107 at g106
          refine lv_aload_n hx hb dX11_table_86 rfl (lv_at hl 0 rfl) ?_
          refine lv_iconst (v := 0) hx hb dX11_table_87 (by decide) ?_
          have hf_108 : f104 h0 = .inr (11, [.ref (ρ h0 0), .ref (ρ h0 1), .ref (ρ h0 2), .ref (ρ h0 3), .ref (ρ h0 4), .ref (ρ h0 5), .int o43_x6]) := (k105 _ (tp_ne ht_h0 y98 (by decide))).trans hf_84
          obtain ⟨q109, eq109⟩ := tp_pos (tp_in hG ht_h0 (by decide)) hf_108
          have hFc := tp_fr hD hS hA
          refine va_calli (va_runV (As := [.int 0]) (rest := []) ⟨hx, hb, hml, hown, hts⟩ (t_X11_accept l dC dI _ Ω κ τ ν ρ L f104 hG hT h0 (0) ht_h0) (cwV 1 hts gX11_table_X11_accept rfl rfl rfl ⟨rfl, pd_X11_accept⟩ ⟨Nat.le_of_ble_eq_true rfl, Nat.le_of_ble_eq_true rfl⟩) ⟨pz_blind, va_recv hK hP (ci := 11) (q0 := q109) rfl eq109, pz_pre hP hK hD hN⟩ rfl rfl hl.1 rfl (lv_room (Nat.le_of_ble_eq_true rfl)) dX11_table_88 ⟨Nat.le_of_ble_eq_true rfl, Nat.le_of_ble_eq_true rfl⟩) hS (fun q _ h => hFc q h) hFc (fun r110 f112 t H1 locs ht hvm hw111 hB hz1 hk1 hS => ?_)
          obtain ⟨hT, hF113, hw111r, hw111p⟩ := hw111
          have hR := hR.then hF113 (by decide)
          have hP := hB.1; rw [ht] at hP; have hD := tp_ad f112 hD; clear hB hFc hz1 hk1; subst ht; generalize t.heap = H at hP hS ⊢
          exact W.iret (v := r110) hx hb hr (fun t ht hW => ⟨⟨r110, f112, rfl, ⟨hT, hR, trivial, trivial⟩, by rw [ht]; exact hP, va_K.moved hW.alike hK, hD⟩, hS.F ht⟩) hS.2.2 dX11_table_91
        · have ic61 : r59.toInt = 0 := zi_nef rfl rfl c61
          refine lv_aload_n hx hb dX11_table_48 rfl (lv_at hl 0 rfl) ?_
          refine lv_bipush (v := (-2)) hx hb dX11_table_49 (by decide) ?_
          have hFc := tp_fr hD hS hA
          refine va_calli (va_runV (As := [.int (-2)]) (rest := []) ⟨hx, hb, hml, hown, hts⟩ (t_X11_refuse l dC dI _ Ω κ τ ν ρ L f hG hT h0 ((-2)) ht_h0) (cwV 1 hts gX11_table_X11_refuse rfl rfl rfl ⟨rfl, pd_X11_refuse⟩ ⟨Nat.le_of_ble_eq_true rfl, Nat.le_of_ble_eq_true rfl⟩) ⟨pz_blind, va_recv hK hP (ci := 11) (q0 := q44) rfl eq44, pz_pre hP hK hD hN⟩ rfl rfl hl.1 rfl (lv_room (Nat.le_of_ble_eq_true rfl)) dX11_table_51 ⟨Nat.le_of_ble_eq_true rfl, Nat.le_of_ble_eq_true rfl⟩) hS (fun q _ h => hFc q h) hFc (fun r114 f116 t H1 locs ht hvm hw115 hB hz1 hk1 hS => ?_)
          obtain ⟨hT, hF117, hw115r, hw115p⟩ := hw115
          have hR := hR.then hF117 (by decide)
          have hP := hB.1; rw [ht] at hP; have hD := tp_ad f116 hD; clear hB hFc hz1 hk1; subst ht; generalize t.heap = H at hP hS ⊢
          exact W.iret (v := r114) hx hb hr (fun t ht hW => ⟨⟨r114, f116, rfl, ⟨hT, hR, trivial, trivial⟩, by rw [ht]; exact hP, va_K.moved hW.alike hK, hD⟩, hS.F ht⟩) hS.2.2 dX11_table_54
      · have ic35 : r33.toInt = 0 := zi_nef rfl rfl c35
        refine lv_aload_n hx hb dX11_table_31 rfl (lv_at hl 0 rfl) ?_
        refine lv_iconst (v := (-1)) hx hb dX11_table_32 (by decide) ?_
        obtain ⟨y118, y119, y120, y121, y122, y123⟩ := tpg_12 hG ht_h0
        obtain ⟨o124_x6, hf_o124⟩ := tpo_12 hT ht_h0
        obtain ⟨q125, eq125⟩ := tp_pos (tp_in hG ht_h0 (by decide)) hf_o124
        have hFc := tp_fr hD hS hA
        refine va_calli (va_runV (As := [.int (-1)]) (rest := []) ⟨hx, hb, hml, hown, hts⟩ (t_X11_refuse l dC dI _ Ω κ τ ν ρ L f hG hT h0 ((-1)) ht_h0) (cwV 1 hts gX11_table_X11_refuse rfl rfl rfl ⟨rfl, pd_X11_refuse⟩ ⟨Nat.le_of_ble_eq_true rfl, Nat.le_of_ble_eq_true rfl⟩) ⟨pz_blind, va_recv hK hP (ci := 11) (q0 := q125) rfl eq125, pz_pre hP hK hD hN⟩ rfl rfl hl.1 rfl (lv_room (Nat.le_of_ble_eq_true rfl)) dX11_table_33 ⟨Nat.le_of_ble_eq_true rfl, Nat.le_of_ble_eq_true rfl⟩) hS (fun q _ h => hFc q h) hFc (fun r126 f128 t H1 locs ht hvm hw127 hB hz1 hk1 hS => ?_)
        obtain ⟨hT, hF129, hw127r, hw127p⟩ := hw127
        have hR := hR.then hF129 (by decide)
        have hP := hB.1; rw [ht] at hP; have hD := tp_ad f128 hD; clear hB hFc hz1 hk1; subst ht; generalize t.heap = H at hP hS ⊢
        exact W.iret (v := r126) hx hb hr (fun t ht hW => ⟨⟨r126, f128, rfl, ⟨hT, hR, trivial, trivial⟩, by rw [ht]; exact hP, va_K.moved hW.alike hK, hD⟩, hS.F ht⟩) hS.2.2 dX11_table_36
set_option maxHeartbeats 4000000 in
set_option maxRecDepth 100000 in
theorem t_X11_list (l : Launch) (dC : Nat → ClassId) (dI : Nat → Nat → Nat) (sz : Nat) (Ω : Nat → (Nat → Nat) → va_E → Prop) (κ : Nat → ClassId) (τ ν : Nat → Nat) (ρ : Nat → Nat → Nat) (L : List Nat) (f : Nat → va_E) (hG : tp_G τ ν ρ L) (hT : tp_T Ω κ τ ν ρ f) (h0 : Nat) (v : Int32) (u : Int32) (ht_h0 : τ h0 = 12) : Met l yX11_list wqX11_list ({ frames := 3, cells := 0, slots := 0, locals := 800 }) (va_Pc [.ref h0, .int v, .int u] (pz_B dC dI (tp_K κ) (va_pl L f) sz)) (va_Qi (fun (r : Int32) (f1 : Nat → va_E) => tp_T Ω κ τ ν ρ f1 ∧ tp_F τ [2, 3, 4, 5, 6, 7, 8, 9, 10, 11, 12, 20, 21, 22, 26, 27, 28] f f1 ∧ True ∧ True) (fun (f1 : Nat → va_E) (t : State) => pz_E dC dI (tp_K κ) (va_A (va_pl L f) sz) (va_pl L f1) t) (va_A (va_pl L f) sz)) 0 0 (va_A (va_pl L f) sz) := by
  refine Met.ofW (cc := cX11_list) (maxL := 4) (ret := some .int) (by decide) rfl ?_
  intro p e s m args below meth c s₁ B hml hv
  obtain ⟨rfl, hsz, hP, hK, hD0, hN⟩ := hv
  have hx := B.exec
  have hb := B.bytes
  have hr := B.returns
  have hts := fun (w : Cond) (h : w ∈ WALL) => atoms_spec (ws := wqX11_list) B.pre w (List.mem_cons_of_mem _ h)
  have hown : s.vm.findClass RX11 = some m.cls := findClass_of_methodNamed B.named
  have hlocks := B.notSynchronized
  subst hsz
  have hD := hD0.self (sz := s.heap.size)
  generalize hAe : va_A (va_pl L f) s.heap.size = A at hD ⊢
  have hA : ∀ q : Nat, s.heap.size ≤ q → A q := fun q h => by rw [← hAe]; exact Or.inr h
  have hS : va_S A s.heap s.heap [] := va_S.rf
  have hR : tp_F τ [2, 3, 4, 5, 6, 7, 8, 9, 10, 11, 12, 20, 21, 22, 26, 27, 28] f f := tp_F.rf
  have hl := lv_entry ([.ref h0, .int v, .int u]) (n := 4) (Nat.le_of_ble_eq_true rfl)
  rw [lg_entry_eq]
  generalize (lg_sl ([.ref h0, .int v, .int u]) ++ List.replicate (4 - (lg_sl ([.ref h0, .int v, .int u])).length) Slot.unset).toArray = ls at hl ⊢
  have hl : lv_has ls 4 [(0, .ref h0), (1, .int v), (2, .int u)] := hl
  refine lv_iload_n hx hb dX11_list_0 rfl (lv_at hl 2 rfl) ?_
  refine lv_bipush (v := (-50)) hx hb dX11_list_1 (by decide) ?_
  refine lv_bipush (v := 50) hx hb dX11_list_3 (by decide) ?_
  refine pz_calli (va_runS (As := [.int u, .int (-50), .int 50]) (rest := []) ⟨hx, hb, hml, hown, hts⟩ (t_X11_within l dC dI _ u ((-50)) (50) (u.toInt) ((-50)) (50) rfl rfl rfl) (va_cwS 3 hts gX11_list_X11_within rfl rfl rfl pd_X11_within ⟨Nat.le_of_ble_eq_true rfl, Nat.le_of_ble_eq_true rfl⟩) ⟨pz_blind, pz_pre pz_P0 (hK.sub (tys' := []) [] rfl) (pz_D0 (A := fun _ => True)) hN⟩ rfl rfl hl.1 rfl (lv_room (Nat.le_of_ble_eq_true rfl)) dX11_list_5 ⟨Nat.le_of_ble_eq_true rfl, Nat.le_of_ble_eq_true rfl⟩) (fun r1 hw2 => ?_)
  obtain ⟨hw2r, hw2p⟩ := hw2
  refine lv_if_ne (tgt := 17) hx hb dX11_list_8 (by decide) (fun c3 => ?_) (fun c3 => ?_)
  · have ic3 : r1.toInt ≠ 0 := zi_ne rfl rfl c3
    have p4 : ((-50)) ≤ (u.toInt) ∧ (u.toInt) ≤ (50) := (tp_cond.yes hw2p) (by omega)
    refine lv_aload_n hx hb dX11_list_17 rfl (lv_at hl 0 rfl) ?_
    obtain ⟨y5, y6, y7, y8, y9, y10⟩ := tpg_12 hG ht_h0
    obtain ⟨o11_x6, hf_o11⟩ := tpo_12 hT ht_h0
    obtain ⟨q12, eq12⟩ := tp_pos (tp_in hG ht_h0 (by decide)) hf_o11
    refine va_get (D := (dC, dI)) (ci := 11) (v := .ref (ρ h0 0)) (C := RX11) (T := TX11) (N := 7) hx hb hts hfX11 hown hK hP q12 eq12 rfl 0 (by decide) (hts (.fieldLink RX11 10 "ColdShips" "world" "LColdShips$World;") wa_15) (fun _ h9 => h9) rfl dX11_list_18 ?_
    refine lv_iload_n hx hb dX11_list_21 rfl (lv_at hl 1 rfl) ?_
    obtain ⟨⟨y13, y13n⟩, ⟨y14, y14n⟩, y15, y16, y17, y18, y19, y20, ⟨y21, y21w, y21m⟩, ⟨y22, y22w, y22m⟩, ⟨y23, y23w, y23m⟩, ⟨y24, y24w, y24m⟩⟩ := tpg_11 hG y5
    obtain ⟨o25_x0, o25_x1, o25_x2, o25_x3, o25_x4, o25_x5, o25_x6, hf_o25, ro25_0, ro25_1, ro25_2, ro25_3⟩ := tpo_11 hT y5
    obtain ⟨q26, eq26⟩ := tp_pos (tp_in hG y5 (by decide)) hf_o25
    refine pz_calli (va_runV (As := [.int v]) (rest := []) ⟨hx, hb, hml, hown, hts⟩ (t_X10_hasShip l dC dI _ Ω κ τ ν ρ L f hG hT (ρ h0 0) v y5 o25_x0 o25_x1 o25_x2 o25_x3 o25_x4 o25_x5 o25_x6 hf_o25) (cwV 1 hts gX11_list_X10_hasShip rfl rfl rfl ⟨rfl, pd_X10_hasShip⟩ ⟨Nat.le_of_ble_eq_true rfl, Nat.le_of_ble_eq_true rfl⟩) ⟨pz_blind, va_recv hK hP (ci := 10) (q0 := q26) rfl eq26, pz_pre hP hK hD hN⟩ rfl rfl hl.1 rfl (lv_room (Nat.le_of_ble_eq_true rfl)) dX11_list_22 ⟨Nat.le_of_ble_eq_true rfl, Nat.le_of_ble_eq_true rfl⟩) (fun r27 hw28 => ?_)
    obtain ⟨hw28r, hw28p⟩ := hw28
    refine lv_if_ne (tgt := 35) hx hb dX11_list_25 (by decide) (fun c29 => ?_) (fun c29 => ?_)
    · have ic29 : r27.toInt ≠ 0 := zi_ne rfl rfl c29
      have p30 : 0 ≤ v.toInt ∧ v.toInt < o25_x5.toInt := (tp_cond.yes hw28p) (by omega)
      refine lv_aload_n hx hb dX11_list_35 rfl (lv_at hl 0 rfl) ?_
      refine va_get (D := (dC, dI)) (ci := 11) (v := .ref (ρ h0 0)) (C := RX11) (T := TX11) (N := 7) hx hb hts hfX11 hown hK hP q12 eq12 rfl 0 (by decide) (hts (.fieldLink RX11 10 "ColdShips" "world" "LColdShips$World;") wa_15) (fun _ h9 => h9) rfl dX11_list_36 ?_
      refine va_getN (D := (dC, dI)) (ci := 10) (v := .ref (ρ (ρ h0 0) 10)) (C := RX10) (T := TX10) (N := 19) hx hb hts hfX10 hown hK hP q26 eq26 rfl 10 (by decide) (va_Nw.use rfl (hN.1 (.fieldLinkNest RX11 84 "ColdShips$World" "ships" "[LColdShips$Ship;" "ColdShips") nzw_69)) (fun _ h9 => h9) rfl dX11_list_39 ?_
      refine lv_iload_n hx hb dX11_list_42 rfl (lv_at hl 1 rfl) ?_
      obtain ⟨g32, hf_o31, hf_o31e⟩ := tpo_25 hT y16
      obtain ⟨q33, eq33⟩ := tp_pos (tp_in hG y16 (by decide)) hf_o31
      refine va_aldq hx hb hK hP q33 5 eq33 rfl (vp_in_iff.mpr ⟨by omega, by omega⟩) dX11_list_43 ?_
      obtain ⟨b34, hb35⟩ : ∃ b : Nat, b = ρ (ρ (ρ h0 0) 10) v.toNatClampNeg := ⟨_, rfl⟩
      have hb35t : τ b34 = 6 := by rw [hb35]; exact tpg_25 hG y16 _ (zi_cl (vp_in_iff.mpr ⟨by omega, by omega⟩))
      have hb35g : g32 v.toNatClampNeg = some b34 := by rw [hb35]; exact hf_o31e _ (zi_cl (vp_in_iff.mpr ⟨by omega, by omega⟩))
      refine W.eq (g2 := F0 m 44 ls (.ref b34 :: [])) (congrArg (fun o => F0 m 44 ls (va_rf o :: [])) hb35g) ?_
      obtain ⟨y36, ⟨y37, y37n⟩, ⟨y38, y38n⟩, ⟨y39, y39n⟩, ⟨y40, y40n⟩, ⟨y41, y41n⟩, ⟨y42, y42n⟩⟩ := tpg_6 hG hb35t
      obtain ⟨o43_x1, o43_x2, o43_x3, o43_x4, o43_x5, o43_x6, o43_x10, o43_x11, o43_x12, o43_x14, hf_o43, ro43_0, ro43_1, ro43_2⟩ := tpo_6 hT hb35t
      obtain ⟨q44, eq44⟩ := tp_pos (tp_in hG hb35t (by decide)) hf_o43
      refine va_getN (D := (dC, dI)) (ci := 5) (v := .int o43_x14) (C := RX5) (T := TX5) (N := 17) hx hb hts hfX5 hown hK hP q44 eq44 rfl 14 (by decide) (va_Nw.use rfl (hN.1 (.fieldLinkNest RX11 303 "ColdShips$Ship" "list" "I" "ColdShips") nzw_45)) (fun _ h9 => h9) rfl dX11_list_44 ?_
      refine lv_istore_n (lv' := [(3, .int o43_x14), (0, .ref h0), (1, .int v), (2, .int u)]) hx hb dX11_list_47 rfl hl (by decide) rfl (fun ls hl => ?_)
      refine lv_aload_n hx hb dX11_list_48 rfl (lv_at hl 1 rfl) ?_
      refine va_get (D := (dC, dI)) (ci := 11) (v := .ref (ρ h0 0)) (C := RX11) (T := TX11) (N := 7) hx hb hts hfX11 hown hK hP q12 eq12 rfl 0 (by decide) (hts (.fieldLink RX11 10 "ColdShips" "world" "LColdShips$World;") wa_15) (fun _ h9 => h9) rfl dX11_list_49 ?_
      refine va_getN (D := (dC, dI)) (ci := 10) (v := .ref (ρ (ρ h0 0) 10)) (C := RX10) (T := TX10) (N := 19) hx hb hts hfX10 hown hK hP q26 eq26 rfl 10 (by decide) (va_Nw.use rfl (hN.1 (.fieldLinkNest RX11 84 "ColdShips$World" "ships" "[LColdShips$Ship;" "ColdShips") nzw_69)) (fun _ h9 => h9) rfl dX11_list_52 ?_
      refine lv_iload_n hx hb dX11_list_55 rfl (lv_at hl 2 rfl) ?_
      refine va_aldq hx hb hK hP q33 5 eq33 rfl (vp_in_iff.mpr ⟨by omega, by omega⟩) dX11_list_56 ?_
      obtain ⟨b45, hb46⟩ : ∃ b : Nat, b = ρ (ρ (ρ h0 0) 10) v.toNatClampNeg := ⟨_, rfl⟩
      have hb46t : τ b45 = 6 := by rw [hb46]; exact tpg_25 hG y16 _ (zi_cl (vp_in_iff.mpr ⟨by omega, by omega⟩))
      have hb46g : g32 v.toNatClampNeg = some b45 := by rw [hb46]; exact hf_o31e _ (zi_cl (vp_in_iff.mpr ⟨by omega, by omega⟩))
      refine W.eq (g2 := F0 m 57 ls (.ref b45 :: [])) (congrArg (fun o => F0 m 57 ls (va_rf o :: [])) hb46g) ?_
      refine lv_iload_n hx hb dX11_list_57 rfl (lv_at hl 3 rfl) ?_
      obtain ⟨y47, ⟨y48, y48n⟩, ⟨y49, y49n⟩, ⟨y50, y50n⟩, ⟨y51, y51n⟩, ⟨y52, y52n⟩, ⟨y53, y53n⟩⟩ := tpg_6 hG hb46t
      obtain ⟨o54_x1, o54_x2, o54_x3, o54_x4, o54_x5, o54_x6, o54_x10, o54_x11, o54_x12, o54_x14, hf_o54, ro54_0, ro54_1, ro54_2⟩ := tpo_6 hT hb46t
      obtain ⟨q55, eq55⟩ := tp_pos (tp_in hG hb46t (by decide)) hf_o54
      refine va_putN (D := (dC, dI)) (ci := 5) (v := .int u) (ty := .int) (C := RX5) (T := TX5) (N := 17) hx hb hts hfX5 tyX5 tyX5_ok nmX5 hown hK hP hD hS q55 eq55 rfl 14 (by decide) (va_Nw.use rfl (hN.1 (.fieldLinkNest RX11 303 "ColdShips$Ship" "list" "I" "ColdShips") nzw_45)) (fun _ h9 => h9) rfl (tyX5_ok 14 (by decide)) rfl rfl (Nat.le_of_ble_eq_true rfl) dX11_list_58 (tp_k (.inr (5, [.ref (ρ b45 0), .int o54_x1, .int o54_x2, .int o54_x3, .int o54_x4, .int o54_x5, .int o54_x6, .ref (ρ b45 7), .ref (ρ b45 8), .ref (ρ b45 9), .int o54_x10, .int o54_x11, .int o54_x12, .ref (ρ b45 13), .int u, .ref (ρ b45 15), .ref (ρ b45 16)])) hD (tp_in hG hb46t (by decide)) eq55 (fun f56 H locs hP hD hS g58 k57 => ?_))
      have hT := hT.up hb46t g58 k57 ⟨_, _, _, _, _, _, _, _, _, _, rfl, (by first | decide | omega | (omega)), (by first | decide | omega | (omega)), (by first | decide | omega | (omega))⟩
      have hR := hR.up hb46t (by decide) k57
      refine lv_aload_n hx hb dX11_list_61 rfl (lv_at hl 1 rfl) ?_
      refine lv_iload_n hx hb dX11_list_62 rfl (lv_at hl 0 rfl) ?_
      have hf_59 : f56 h0 = .inr (11, [.ref (ρ h0 0), .ref (ρ h0 1), .ref (ρ h0 2), .ref (ρ h0 3), .ref (ρ h0 4), .ref (ρ h0 5), .int o11_x6]) := (k57 _ (tp_ne ht_h0 hb46t (by decide))).trans hf_o11
      obtain ⟨q60, eq60⟩ := tp_pos (tp_in hG ht_h0 (by decide)) hf_59
      have hFc := tp_fr hD hS hA
      refine va_calli (va_runV (As := [.int o43_x14]) (rest := []) ⟨hx, hb, hml, hown, hts⟩ (t_X11_accept l dC dI _ Ω κ τ ν ρ L f56 hG hT h0 o43_x14 ht_h0) (cwV 1 hts gX11_list_X11_accept rfl rfl rfl ⟨rfl, pd_X11_accept⟩ ⟨Nat.le_of_ble_eq_true rfl, Nat.le_of_ble_eq_true rfl⟩) ⟨pz_blind, va_recv hK hP (ci := 11) (q0 := q60) rfl eq60, pz_pre hP hK hD hN⟩ rfl rfl hl.1 rfl (lv_room (Nat.le_of_ble_eq_true rfl)) dX11_list_63 ⟨Nat.le_of_ble_eq_true rfl, Nat.le_of_ble_eq_true rfl⟩) hS (fun q _ h => hFc q h) hFc (fun r61 f63 t H1 locs ht hvm hw62 hB hz1 hk1 hS => ?_)
      obtain ⟨hT, hF64, hw62r, hw62p⟩ := hw62
      have hR := hR.then hF64 (by decide)
      have hP := hB.1; rw [ht] at hP; have hD := tp_ad f63 hD; clear hB hFc hz1 hk1; subst ht; generalize t.heap = H at hP hS ⊢
      exact W.iret (v := r61) hx hb hr (fun t ht hW => ⟨⟨r61, f63, rfl, ⟨hT, hR, trivial, trivial⟩, by rw [ht]; exact hP, va_K.moved hW.alike hK, hD⟩, hS.F ht⟩) hS.2.2 dX11_list_66
    · have ic29 : r27.toInt = 0 := zi_nef rfl rfl c29
      refine lv_aload_n hx hb dX11_list_28 rfl (lv_at hl 0 rfl) ?_
      refine lv_bipush (v := (-2)) hx hb dX11_list_29 (by decide) ?_
      have hFc := tp_fr hD hS hA
      refine va_calli (va_runV (As := [.int (-2)]) (rest := []) ⟨hx, hb, hml, hown, hts⟩ (t_X11_refuse l dC dI _ Ω κ τ ν ρ L f hG hT h0 ((-2)) ht_h0) (cwV 1 hts gX11_list_X11_refuse rfl rfl rfl ⟨rfl, pd_X11_refuse⟩ ⟨Nat.le_of_ble_eq_true rfl, Nat.le_of_ble_eq_true rfl⟩) ⟨pz_blind, va_recv hK hP (ci := 11) (q0 := q12) rfl eq12, pz_pre hP hK hD hN⟩ rfl rfl hl.1 rfl (lv_room (Nat.le_of_ble_eq_true rfl)) dX11_list_31 ⟨Nat.le_of_ble_eq_true rfl, Nat.le_of_ble_eq_true rfl⟩) hS (fun q _ h => hFc q h) hFc (fun r65 f67 t H1 locs ht hvm hw66 hB hz1 hk1 hS => ?_)
      obtain ⟨hT, hF68, hw66r, hw66p⟩ := hw66
      have hR := hR.then hF68 (by decide)
      have hP := hB.1; rw [ht] at hP; have hD := tp_ad f67 hD; clear hB hFc hz1 hk1; subst ht; generalize t.heap = H at hP hS ⊢
      exact W.iret (v := r65) hx hb hr (fun t ht hW => ⟨⟨r65, f67, rfl, ⟨hT, hR, trivial, trivial⟩, by rw [ht]; exact hP, va_K.moved hW.alike hK, hD⟩, hS.F ht⟩) hS.2.2 dX11_list_34
  · have ic3 : r1.toInt = 0 := zi_nef rfl rfl c3
    refine lv_aload_n hx hb dX11_list_11 rfl (lv_at hl 0 rfl) ?_
    refine lv_iconst (v := (-1)) hx hb dX11_list_12 (by decide) ?_
    obtain ⟨y69, y70, y71, y72, y73, y74⟩ := tpg_12 hG ht_h0
    obtain ⟨o75_x6, hf_o75⟩ := tpo_12 hT ht_h0
    obtain ⟨q76, eq76⟩ := tp_pos (tp_in hG ht_h0 (by decide)) hf_o75
    have hFc := tp_fr hD hS hA
    refine va_calli (va_runV (As := [.int (-1)]) (rest := []) ⟨hx, hb, hml, hown, hts⟩ (t_X11_refuse l dC dI _ Ω κ τ ν ρ L f hG hT h0 ((-1)) ht_h0) (cwV 1 hts gX11_list_X11_refuse rfl rfl rfl ⟨rfl, pd_X11_refuse⟩ ⟨Nat.le_of_ble_eq_true rfl, Nat.le_of_ble_eq_true rfl⟩) ⟨pz_blind, va_recv hK hP (ci := 11) (q0 := q76) rfl eq76, pz_pre hP hK hD hN⟩ rfl rfl hl.1 rfl (lv_room (Nat.le_of_ble_eq_true rfl)) dX11_list_13 ⟨Nat.le_of_ble_eq_true rfl, Nat.le_of_ble_eq_true rfl⟩) hS (fun q _ h => hFc q h) hFc (fun r77 f79 t H1 locs ht hvm hw78 hB hz1 hk1 hS => ?_)
    obtain ⟨hT, hF80, hw78r, hw78p⟩ := hw78
    have hR := hR.then hF80 (by decide)
    have hP := hB.1; rw [ht] at hP; have hD := tp_ad f79 hD; clear hB hFc hz1 hk1; subst ht; generalize t.heap = H at hP hS ⊢
    exact W.iret (v := r77) hx hb hr (fun t ht hW => ⟨⟨r77, f79, rfl, ⟨hT, hR, trivial, trivial⟩, by rw [ht]; exact hP, va_K.moved hW.alike hK, hD⟩, hS.F ht⟩) hS.2.2 dX11_list_16
set_option maxHeartbeats 4000000 in
set_option maxRecDepth 100000 in
theorem t_X11_reading (l : Launch) (dC : Nat → ClassId) (dI : Nat → Nat → Nat) (sz : Nat) (Ω : Nat → (Nat → Nat) → va_E → Prop) (κ : Nat → ClassId) (τ ν : Nat → Nat) (ρ : Nat → Nat → Nat) (L : List Nat) (f : Nat → va_E) (hG : tp_G τ ν ρ L) (hT : tp_T Ω κ τ ν ρ f) (h0 : Nat) (v : Int32) (u : Int32) (a : Int32) (b : Int32) (a5 : Int32) (ht_h0 : τ h0 = 12) : Met l yX11_reading wqX11_reading ({ frames := 5, cells := 0, slots := 0, locals := 1600 }) (va_Pc [.ref h0, .int v, .int u, .int a, .int b, .int a5] (pz_B dC dI (tp_K κ) (va_pl L f) sz)) (va_Qi (fun (r : Int32) (f1 : Nat → va_E) => tp_T Ω κ τ ν ρ f1 ∧ tp_F τ [2, 3, 4, 5, 6, 7, 8, 9, 10, 11, 12, 20, 21, 22, 26, 27, 28] f f1 ∧ True ∧ True) (fun (f1 : Nat → va_E) (t : State) => pz_E dC dI (tp_K κ) (va_A (va_pl L f) sz) (va_pl L f1) t) (va_A (va_pl L f) sz)) 0 0 (va_A (va_pl L f) sz) := by
  refine Met.ofW (cc := cX11_reading) (maxL := 7) (ret := some .int) (by decide) rfl ?_
  intro p e s m args below meth c s₁ B hml hv
  obtain ⟨rfl, hsz, hP, hK, hD0, hN⟩ := hv
  have hx := B.exec
  have hb := B.bytes
  have hr := B.returns
  have hts := fun (w : Cond) (h : w ∈ WALL) => atoms_spec (ws := wqX11_reading) B.pre w (List.mem_cons_of_mem _ h)
  have hown : s.vm.findClass RX11 = some m.cls := findClass_of_methodNamed B.named
  have hlocks := B.notSynchronized
  subst hsz
  have hD := hD0.self (sz := s.heap.size)
  generalize hAe : va_A (va_pl L f) s.heap.size = A at hD ⊢
  have hA : ∀ q : Nat, s.heap.size ≤ q → A q := fun q h => by rw [← hAe]; exact Or.inr h
  have hS : va_S A s.heap s.heap [] := va_S.rf
  have hR : tp_F τ [2, 3, 4, 5, 6, 7, 8, 9, 10, 11, 12, 20, 21, 22, 26, 27, 28] f f := tp_F.rf
  have hl := lv_entry ([.ref h0, .int v, .int u, .int a, .int b, .int a5]) (n := 7) (Nat.le_of_ble_eq_true rfl)
  rw [lg_entry_eq]
  generalize (lg_sl ([.ref h0, .int v, .int u, .int a, .int b, .int a5]) ++ List.replicate (7 - (lg_sl ([.ref h0, .int v, .int u, .int a, .int b, .int a5])).length) Slot.unset).toArray = ls at hl ⊢
  have hl : lv_has ls 7 [(0, .ref h0), (1, .int v), (2, .int u), (3, .int a), (4, .int b), (5, .int a5)] := hl
  refine lv_iload_n hx hb dX11_reading_0 rfl (lv_at hl 2 rfl) ?_
  refine lv_iconst (v := 0) hx hb dX11_reading_1 (by decide) ?_
  refine lv_iconst (v := 1) hx hb dX11_reading_2 (by decide) ?_
  refine pz_calli (va_runS (As := [.int u, .int 0, .int 1]) (rest := []) ⟨hx, hb, hml, hown, hts⟩ (t_X11_within l dC dI _ u (0) (1) (u.toInt) (0) (1) rfl rfl rfl) (va_cwS 3 hts gX11_reading_X11_within rfl rfl rfl pd_X11_within ⟨Nat.le_of_ble_eq_true rfl, Nat.le_of_ble_eq_true rfl⟩) ⟨pz_blind, pz_pre pz_P0 (hK.sub (tys' := []) [] rfl) (pz_D0 (A := fun _ => True)) hN⟩ rfl rfl hl.1 rfl (lv_room (Nat.le_of_ble_eq_true rfl)) dX11_reading_3 ⟨Nat.le_of_ble_eq_true rfl, Nat.le_of_ble_eq_true rfl⟩) (fun r1 hw2 => ?_)
  obtain ⟨hw2r, hw2p⟩ := hw2
  refine lv_if_eq (tgt := 40) hx hb dX11_reading_6 (by decide) (fun c3 => ?_) (fun c3 => ?_)
  · have ic3 : r1.toInt = 0 := zi_eq rfl rfl c3
    refine lv_aload_n hx hb dX11_reading_40 rfl (lv_at hl 0 rfl) ?_
    refine lv_iconst (v := (-1)) hx hb dX11_reading_41 (by decide) ?_
    obtain ⟨y4, y5, y6, y7, y8, y9⟩ := tpg_12 hG ht_h0
    obtain ⟨o10_x6, hf_o10⟩ := tpo_12 hT ht_h0
    obtain ⟨q11, eq11⟩ := tp_pos (tp_in hG ht_h0 (by decide)) hf_o10
    have hFc := tp_fr hD hS hA
    refine va_calli (va_runV (As := [.int (-1)]) (rest := []) ⟨hx, hb, hml, hown, hts⟩ (t_X11_refuse l dC dI _ Ω κ τ ν ρ L f hG hT h0 ((-1)) ht_h0) (cwV 1 hts gX11_reading_X11_refuse rfl rfl rfl ⟨rfl, pd_X11_refuse⟩ ⟨Nat.le_of_ble_eq_true rfl, Nat.le_of_ble_eq_true rfl⟩) ⟨pz_blind, va_recv hK hP (ci := 11) (q0 := q11) rfl eq11, pz_pre hP hK hD hN⟩ rfl rfl hl.1 rfl (lv_room (Nat.le_of_ble_eq_true rfl)) dX11_reading_42 ⟨Nat.le_of_ble_eq_true rfl, Nat.le_of_ble_eq_true rfl⟩) hS (fun q _ h => hFc q h) hFc (fun r12 f14 t H1 locs ht hvm hw13 hB hz1 hk1 hS => ?_)
    obtain ⟨hT, hF15, hw13r, hw13p⟩ := hw13
    have hR := hR.then hF15 (by decide)
    have hP := hB.1; rw [ht] at hP; have hD := tp_ad f14 hD; clear hB hFc hz1 hk1; subst ht; generalize t.heap = H at hP hS ⊢
    exact W.iret (v := r12) hx hb hr (fun t ht hW => ⟨⟨r12, f14, rfl, ⟨hT, hR, trivial, trivial⟩, by rw [ht]; exact hP, va_K.moved hW.alike hK, hD⟩, hS.F ht⟩) hS.2.2 dX11_reading_45
  · have ic3 : r1.toInt ≠ 0 := zi_eqf rfl rfl c3
    have p16 : (0) ≤ (u.toInt) ∧ (u.toInt) ≤ (1) := (tp_cond.yes hw2p) (by omega)
    refine lv_iload_n hx hb dX11_reading_9 rfl (lv_at hl 3 rfl) ?_
    refine lv_iconst (v := 0) hx hb dX11_reading_10 (by decide) ?_
    refine lv_sipush (v := 5000) hx hb dX11_reading_11 (by decide) ?_
    refine pz_calli (va_runS (As := [.int a, .int 0, .int 5000]) (rest := []) ⟨hx, hb, hml, hown, hts⟩ (t_X11_within l dC dI _ a (0) (5000) (a.toInt) (0) (5000) rfl rfl rfl) (va_cwS 3 hts gX11_reading_X11_within rfl rfl rfl pd_X11_within ⟨Nat.le_of_ble_eq_true rfl, Nat.le_of_ble_eq_true rfl⟩) ⟨pz_blind, pz_pre pz_P0 (hK.sub (tys' := []) [] rfl) (pz_D0 (A := fun _ => True)) hN⟩ rfl rfl hl.1 rfl (lv_room (Nat.le_of_ble_eq_true rfl)) dX11_reading_14 ⟨Nat.le_of_ble_eq_true rfl, Nat.le_of_ble_eq_true rfl⟩) (fun r17 hw18 => ?_)
    obtain ⟨hw18r, hw18p⟩ := hw18
    refine lv_if_eq (tgt := 40) hx hb dX11_reading_17 (by decide) (fun c19 => ?_) (fun c19 => ?_)
    · have ic19 : r17.toInt = 0 := zi_eq rfl rfl c19
      refine lv_aload_n hx hb dX11_reading_40 rfl (lv_at hl 0 rfl) ?_
      refine lv_iconst (v := (-1)) hx hb dX11_reading_41 (by decide) ?_
      obtain ⟨y20, y21, y22, y23, y24, y25⟩ := tpg_12 hG ht_h0
      obtain ⟨o26_x6, hf_o26⟩ := tpo_12 hT ht_h0
      obtain ⟨q27, eq27⟩ := tp_pos (tp_in hG ht_h0 (by decide)) hf_o26
      have hFc := tp_fr hD hS hA
      refine va_calli (va_runV (As := [.int (-1)]) (rest := []) ⟨hx, hb, hml, hown, hts⟩ (t_X11_refuse l dC dI _ Ω κ τ ν ρ L f hG hT h0 ((-1)) ht_h0) (cwV 1 hts gX11_reading_X11_refuse rfl rfl rfl ⟨rfl, pd_X11_refuse⟩ ⟨Nat.le_of_ble_eq_true rfl, Nat.le_of_ble_eq_true rfl⟩) ⟨pz_blind, va_recv hK hP (ci := 11) (q0 := q27) rfl eq27, pz_pre hP hK hD hN⟩ rfl rfl hl.1 rfl (lv_room (Nat.le_of_ble_eq_true rfl)) dX11_reading_42 ⟨Nat.le_of_ble_eq_true rfl, Nat.le_of_ble_eq_true rfl⟩) hS (fun q _ h => hFc q h) hFc (fun r28 f30 t H1 locs ht hvm hw29 hB hz1 hk1 hS => ?_)
      obtain ⟨hT, hF31, hw29r, hw29p⟩ := hw29
      have hR := hR.then hF31 (by decide)
      have hP := hB.1; rw [ht] at hP; have hD := tp_ad f30 hD; clear hB hFc hz1 hk1; subst ht; generalize t.heap = H at hP hS ⊢
      exact W.iret (v := r28) hx hb hr (fun t ht hW => ⟨⟨r28, f30, rfl, ⟨hT, hR, trivial, trivial⟩, by rw [ht]; exact hP, va_K.moved hW.alike hK, hD⟩, hS.F ht⟩) hS.2.2 dX11_reading_45
    · have ic19 : r17.toInt ≠ 0 := zi_eqf rfl rfl c19
      have p32 : (0) ≤ (a.toInt) ∧ (a.toInt) ≤ (5000) := (tp_cond.yes hw18p) (by omega)
      refine lv_iload hx hb dX11_reading_20 (lv_at hl 4 rfl) ?_
      refine lv_bipush (v := (-20)) hx hb dX11_reading_22 (by decide) ?_
      refine lv_bipush (v := 20) hx hb dX11_reading_24 (by decide) ?_
      refine pz_calli (va_runS (As := [.int b, .int (-20), .int 20]) (rest := []) ⟨hx, hb, hml, hown, hts⟩ (t_X11_within l dC dI _ b ((-20)) (20) (b.toInt) ((-20)) (20) rfl rfl rfl) (va_cwS 3 hts gX11_reading_X11_within rfl rfl rfl pd_X11_within ⟨Nat.le_of_ble_eq_true rfl, Nat.le_of_ble_eq_true rfl⟩) ⟨pz_blind, pz_pre pz_P0 (hK.sub (tys' := []) [] rfl) (pz_D0 (A := fun _ => True)) hN⟩ rfl rfl hl.1 rfl (lv_room (Nat.le_of_ble_eq_true rfl)) dX11_reading_26 ⟨Nat.le_of_ble_eq_true rfl, Nat.le_of_ble_eq_true rfl⟩) (fun r33 hw34 => ?_)
      obtain ⟨hw34r, hw34p⟩ := hw34
      refine lv_if_eq (tgt := 40) hx hb dX11_reading_29 (by decide) (fun c35 => ?_) (fun c35 => ?_)
      · have ic35 : r33.toInt = 0 := zi_eq rfl rfl c35
        refine lv_aload_n hx hb dX11_reading_40 rfl (lv_at hl 0 rfl) ?_
        refine lv_iconst (v := (-1)) hx hb dX11_reading_41 (by decide) ?_
        obtain ⟨y36, y37, y38, y39, y40, y41⟩ := tpg_12 hG ht_h0
        obtain ⟨o42_x6, hf_o42⟩ := tpo_12 hT ht_h0
        obtain ⟨q43, eq43⟩ := tp_pos (tp_in hG ht_h0 (by decide)) hf_o42
        have hFc := tp_fr hD hS hA
        refine va_calli (va_runV (As := [.int (-1)]) (rest := []) ⟨hx, hb, hml, hown, hts⟩ (t_X11_refuse l dC dI _ Ω κ τ ν ρ L f hG hT h0 ((-1)) ht_h0) (cwV 1 hts gX11_reading_X11_refuse rfl rfl rfl ⟨rfl, pd_X11_refuse⟩ ⟨Nat.le_of_ble_eq_true rfl, Nat.le_of_ble_eq_true rfl⟩) ⟨pz_blind, va_recv hK hP (ci := 11) (q0 := q43) rfl eq43, pz_pre hP hK hD hN⟩ rfl rfl hl.1 rfl (lv_room (Nat.le_of_ble_eq_true rfl)) dX11_reading_42 ⟨Nat.le_of_ble_eq_true rfl, Nat.le_of_ble_eq_true rfl⟩) hS (fun q _ h => hFc q h) hFc (fun r44 f46 t H1 locs ht hvm hw45 hB hz1 hk1 hS => ?_)
        obtain ⟨hT, hF47, hw45r, hw45p⟩ := hw45
        have hR := hR.then hF47 (by decide)
        have hP := hB.1; rw [ht] at hP; have hD := tp_ad f46 hD; clear hB hFc hz1 hk1; subst ht; generalize t.heap = H at hP hS ⊢
        exact W.iret (v := r44) hx hb hr (fun t ht hW => ⟨⟨r44, f46, rfl, ⟨hT, hR, trivial, trivial⟩, by rw [ht]; exact hP, va_K.moved hW.alike hK, hD⟩, hS.F ht⟩) hS.2.2 dX11_reading_45
      · have ic35 : r33.toInt ≠ 0 := zi_eqf rfl rfl c35
        have p48 : ((-20)) ≤ (b.toInt) ∧ (b.toInt) ≤ (20) := (tp_cond.yes hw34p) (by omega)
        refine lv_iload hx hb dX11_reading_32 (lv_at hl 5 rfl) ?_
        refine pz_calli (va_runS (As := [.int a5]) (rest := []) ⟨hx, hb, hml, hown, hts⟩ (t_X11_isHour l dC dI _ a5 (a5.toInt) rfl) (va_cwS 1 hts gX11_reading_X11_isHour rfl rfl rfl pd_X11_isHour ⟨Nat.le_of_ble_eq_true rfl, Nat.le_of_ble_eq_true rfl⟩) ⟨pz_blind, pz_pre pz_P0 (hK.sub (tys' := []) [] rfl) (pz_D0 (A := fun _ => True)) hN⟩ rfl rfl hl.1 rfl (lv_room (Nat.le_of_ble_eq_true rfl)) dX11_reading_34 ⟨Nat.le_of_ble_eq_true rfl, Nat.le_of_ble_eq_true rfl⟩) (fun r49 hw50 => ?_)
        obtain ⟨hw50r, hw50p⟩ := hw50
        refine lv_if_ne (tgt := 46) hx hb dX11_reading_37 (by decide) (fun c51 => ?_) (fun c51 => ?_)
        · have ic51 : r49.toInt ≠ 0 := zi_ne rfl rfl c51
          have p52 : 0 ≤ (a5.toInt) ∧ (a5.toInt) ≤ 2399 := (tp_cond.yes hw50p) (by omega)
          refine lv_aload_n hx hb dX11_reading_46 rfl (lv_at hl 0 rfl) ?_
          obtain ⟨y53, y54, y55, y56, y57, y58⟩ := tpg_12 hG ht_h0
          obtain ⟨o59_x6, hf_o59⟩ := tpo_12 hT ht_h0
          obtain ⟨q60, eq60⟩ := tp_pos (tp_in hG ht_h0 (by decide)) hf_o59
          refine va_get (D := (dC, dI)) (ci := 11) (v := .ref (ρ h0 0)) (C := RX11) (T := TX11) (N := 7) hx hb hts hfX11 hown hK hP q60 eq60 rfl 0 (by decide) (hts (.fieldLink RX11 10 "ColdShips" "world" "LColdShips$World;") wa_15) (fun _ h9 => h9) rfl dX11_reading_47 ?_
          obtain ⟨⟨y61, y61n⟩, ⟨y62, y62n⟩, y63, y64, y65, y66, y67, y68, ⟨y69, y69w, y69m⟩, ⟨y70, y70w, y70m⟩, ⟨y71, y71w, y71m⟩, ⟨y72, y72w, y72m⟩⟩ := tpg_11 hG y53
          obtain ⟨o73_x0, o73_x1, o73_x2, o73_x3, o73_x4, o73_x5, o73_x6, hf_o73, ro73_0, ro73_1, ro73_2, ro73_3⟩ := tpo_11 hT y53
          obtain ⟨q74, eq74⟩ := tp_pos (tp_in hG y53 (by decide)) hf_o73
          refine va_getN (D := (dC, dI)) (ci := 10) (v := .ref (ρ (ρ h0 0) 17)) (C := RX10) (T := TX10) (N := 19) hx hb hts hfX10 hown hK hP q74 eq74 rfl 17 (by decide) (va_Nw.use rfl (hN.1 (.fieldLinkNest RX11 207 "ColdShips$World" "landings" "LColdShips$Rows;" "ColdShips") nzw_85)) (fun _ h9 => h9) rfl dX11_reading_50 ?_
          refine lv_iload_n hx hb dX11_reading_53 rfl (lv_at hl 1 rfl) ?_
          obtain ⟨⟨y75, y75n⟩, ⟨y76a, y76b, y76c⟩⟩ := tpg_5 hG y71
          obtain ⟨o77_x0, o77_x2, hf_o77, ro77_0, ro77_1⟩ := tpo_5 hT y71
          obtain ⟨q78, eq78⟩ := tp_pos (tp_in hG y71 (by decide)) hf_o77
          refine pz_calli (va_runV (As := [.int v]) (rest := []) ⟨hx, hb, hml, hown, hts⟩ (t_X4_has l dC dI _ Ω κ τ ν ρ L f hG hT (ρ (ρ h0 0) 17) v y71 o77_x0 o77_x2 hf_o77) (cwV 1 hts gX11_reading_X4_has rfl rfl rfl ⟨rfl, pd_X4_has⟩ ⟨Nat.le_of_ble_eq_true rfl, Nat.le_of_ble_eq_true rfl⟩) ⟨pz_blind, va_recv hK hP (ci := 4) (q0 := q78) rfl eq78, pz_pre hP hK hD hN⟩ rfl rfl hl.1 rfl (lv_room (Nat.le_of_ble_eq_true rfl)) dX11_reading_54 ⟨Nat.le_of_ble_eq_true rfl, Nat.le_of_ble_eq_true rfl⟩) (fun r79 hw80 => ?_)
          obtain ⟨hw80r, hw80p⟩ := hw80
          refine lv_if_ne (tgt := 67) hx hb dX11_reading_57 (by decide) (fun c81 => ?_) (fun c81 => ?_)
          · have ic81 : r79.toInt ≠ 0 := zi_ne rfl rfl c81
            have p82 : 0 ≤ v.toInt ∧ v.toInt < o77_x2.toInt := (tp_cond.yes hw80p) (by omega)
            refine lv_aload_n hx hb dX11_reading_67 rfl (lv_at hl 0 rfl) ?_
            refine va_get (D := (dC, dI)) (ci := 11) (v := .ref (ρ h0 0)) (C := RX11) (T := TX11) (N := 7) hx hb hts hfX11 hown hK hP q60 eq60 rfl 0 (by decide) (hts (.fieldLink RX11 10 "ColdShips" "world" "LColdShips$World;") wa_15) (fun _ h9 => h9) rfl dX11_reading_68 ?_
            refine va_getN (D := (dC, dI)) (ci := 10) (v := .ref (ρ (ρ h0 0) 16)) (C := RX10) (T := TX10) (N := 19) hx hb hts hfX10 hown hK hP q74 eq74 rfl 16 (by decide) (va_Nw.use rfl (hN.1 (.fieldLinkNest RX11 306 "ColdShips$World" "readings" "LColdShips$Rows;" "ColdShips") nzw_82)) (fun _ h9 => h9) rfl dX11_reading_71 ?_
            obtain ⟨⟨y83, y83n⟩, ⟨y84a, y84b, y84c⟩⟩ := tpg_5 hG y70
            obtain ⟨o85_x0, o85_x2, hf_o85, ro85_0, ro85_1⟩ := tpo_5 hT y70
            obtain ⟨q86, eq86⟩ := tp_pos (tp_in hG y70 (by decide)) hf_o85
            have hFc := tp_fr hD hS hA
            refine va_calli (va_runV (As := []) (rest := []) ⟨hx, hb, hml, hown, hts⟩ (t_X4_addRow l dC dI _ Ω κ τ ν ρ L f hG hT (ρ (ρ h0 0) 16) y70 o85_x0 o85_x2 hf_o85) (cwV 0 hts gX11_reading_X4_addRow rfl rfl rfl ⟨rfl, pd_X4_addRow⟩ ⟨Nat.le_of_ble_eq_true rfl, Nat.le_of_ble_eq_true rfl⟩) ⟨pz_blind, va_recv hK hP (ci := 4) (q0 := q86) rfl eq86, pz_pre hP hK hD hN⟩ rfl rfl hl.1 rfl (lv_room (Nat.le_of_ble_eq_true rfl)) dX11_reading_74 ⟨Nat.le_of_ble_eq_true rfl, Nat.le_of_ble_eq_true rfl⟩) hS (fun q _ h => hFc q h) hFc (fun r87 f89 t H1 locs ht hvm hw88 hB hz1 hk1 hS => ?_)
            obtain ⟨hT, hF90, hw88r, hw88p⟩ := hw88
            have hR := hR.then hF90 (by decide)
            have hP := hB.1; rw [ht] at hP; have hD := tp_ad f89 hD; clear hB hFc hz1 hk1; subst ht; generalize t.heap = H at hP hS ⊢
            refine lv_istore (lv' := [(6, .int r87), (0, .ref h0), (1, .int v), (2, .int u), (3, .int a), (4, .int b), (5, .int a5)]) hx hb dX11_reading_77 hl (by decide) rfl (fun ls hl => ?_)
            refine lv_iload hx hb dX11_reading_79 (lv_at hl 0 rfl) ?_
            refine lv_iconst (v := (-1)) hx hb dX11_reading_81 (by decide) ?_
            refine lv_icmp_ne (tgt := 92) hx hb dX11_reading_82 (by decide) (fun c91 => ?_) (fun c91 => ?_)
            · have ic91 : r87.toInt ≠ (-1) := zi_ne rfl rfl c91
              refine lv_aload_n hx hb dX11_reading_92 rfl (lv_at hl 1 rfl) ?_
              have hf_92 : f89 h0 = .inr (11, [.ref (ρ h0 0), .ref (ρ h0 1), .ref (ρ h0 2), .ref (ρ h0 3), .ref (ρ h0 4), .ref (ρ h0 5), .int o59_x6]) := (hF90 _ (by rw [ht_h0]; decide)).trans hf_o59
              obtain ⟨q93, eq93⟩ := tp_pos (tp_in hG ht_h0 (by decide)) hf_92
              refine va_get (D := (dC, dI)) (ci := 11) (v := .ref (ρ h0 0)) (C := RX11) (T := TX11) (N := 7) hx hb hts hfX11 hown hK hP q93 eq93 rfl 0 (by decide) (hts (.fieldLink RX11 10 "ColdShips" "world" "LColdShips$World;") wa_15) (fun _ h9 => h9) rfl dX11_reading_93 ?_
              have hf_94 : f89 (ρ h0 0) = .inr (10, [.int o73_x0, .int o73_x1, .int o73_x2, .int o73_x3, .int o73_x4, .int o73_x5, .int o73_x6, .ref (ρ (ρ h0 0) 7), .ref (ρ (ρ h0 0) 8), .ref (ρ (ρ h0 0) 9), .ref (ρ (ρ h0 0) 10), .ref (ρ (ρ h0 0) 11), .ref (ρ (ρ h0 0) 12), .ref (ρ (ρ h0 0) 13), .ref (ρ (ρ h0 0) 14), .ref (ρ (ρ h0 0) 15), .ref (ρ (ρ h0 0) 16), .ref (ρ (ρ h0 0) 17), .ref (ρ (ρ h0 0) 18)]) := (hF90 _ (by rw [y53]; decide)).trans hf_o73
              obtain ⟨q95, eq95⟩ := tp_pos (tp_in hG y53 (by decide)) hf_94
              refine va_getN (D := (dC, dI)) (ci := 10) (v := .ref (ρ (ρ h0 0) 16)) (C := RX10) (T := TX10) (N := 19) hx hb hts hfX10 hown hK hP q95 eq95 rfl 16 (by decide) (va_Nw.use rfl (hN.1 (.fieldLinkNest RX11 306 "ColdShips$World" "readings" "LColdShips$Rows;" "ColdShips") nzw_82)) (fun _ h9 => h9) rfl dX11_reading_96 ?_
              refine lv_iload hx hb dX11_reading_99 (lv_at hl 0 rfl) ?_
              refine lv_iconst (v := 0) hx hb dX11_reading_101 (by decide) ?_
              refine lv_iload_n hx hb dX11_reading_102 rfl (lv_at hl 2 rfl) ?_
              refine lv_i2l hx hb dX11_reading_103 rfl ?_
              obtain ⟨o96_x0, o96_x2, hf_o96, ro96_0, ro96_1⟩ := tpo_5 hT y70
              obtain ⟨q97, eq97⟩ := tp_pos (tp_in hG y70 (by decide)) hf_o96
              have hFc := tp_fr hD hS hA
              refine va_callv (va_runV (As := [.int r87, .int 0, .long v.toInt64]) (rest := []) ⟨hx, hb, hml, hown, hts⟩ (t_X4_set l dC dI _ Ω κ τ ν ρ L f89 hG hT (ρ (ρ h0 0) 16) r87 (0) v.toInt64 y70 o96_x0 o96_x2 hf_o96) (cwV 3 hts gX11_reading_X4_set rfl rfl rfl ⟨rfl, pd_X4_set⟩ ⟨Nat.le_of_ble_eq_true rfl, Nat.le_of_ble_eq_true rfl⟩) ⟨pz_blind, va_recv hK hP (ci := 4) (q0 := q97) rfl eq97, pz_pre hP hK hD hN⟩ rfl rfl hl.1 rfl (lv_room (Nat.le_of_ble_eq_true rfl)) dX11_reading_104 ⟨Nat.le_of_ble_eq_true rfl, Nat.le_of_ble_eq_true rfl⟩) hS (fun q _ h => hFc q h) hFc (fun f100 t H1 locs ht hvm hw99 hB hz1 hk1 hS => ?_)
              obtain ⟨hT, hF101, hw99p⟩ := hw99
              have hR := hR.then hF101 (by decide)
              have hP := hB.1; rw [ht] at hP; have hD := tp_ad f100 hD; clear hB hFc hz1 hk1; subst ht; generalize t.heap = H at hP hS ⊢
              refine lv_aload_n hx hb dX11_reading_107 rfl (lv_at hl 1 rfl) ?_
              have hf_102 : f100 h0 = .inr (11, [.ref (ρ h0 0), .ref (ρ h0 1), .ref (ρ h0 2), .ref (ρ h0 3), .ref (ρ h0 4), .ref (ρ h0 5), .int o59_x6]) := (hF101 _ (by rw [ht_h0]; decide)).trans hf_92
              obtain ⟨q103, eq103⟩ := tp_pos (tp_in hG ht_h0 (by decide)) hf_102
              refine va_get (D := (dC, dI)) (ci := 11) (v := .ref (ρ h0 0)) (C := RX11) (T := TX11) (N := 7) hx hb hts hfX11 hown hK hP q103 eq103 rfl 0 (by decide) (hts (.fieldLink RX11 10 "ColdShips" "world" "LColdShips$World;") wa_15) (fun _ h9 => h9) rfl dX11_reading_108 ?_
              have hf_104 : f100 (ρ h0 0) = .inr (10, [.int o73_x0, .int o73_x1, .int o73_x2, .int o73_x3, .int o73_x4, .int o73_x5, .int o73_x6, .ref (ρ (ρ h0 0) 7), .ref (ρ (ρ h0 0) 8), .ref (ρ (ρ h0 0) 9), .ref (ρ (ρ h0 0) 10), .ref (ρ (ρ h0 0) 11), .ref (ρ (ρ h0 0) 12), .ref (ρ (ρ h0 0) 13), .ref (ρ (ρ h0 0) 14), .ref (ρ (ρ h0 0) 15), .ref (ρ (ρ h0 0) 16), .ref (ρ (ρ h0 0) 17), .ref (ρ (ρ h0 0) 18)]) := (hF101 _ (by rw [y53]; decide)).trans hf_94
              obtain ⟨q105, eq105⟩ := tp_pos (tp_in hG y53 (by decide)) hf_104
              refine va_getN (D := (dC, dI)) (ci := 10) (v := .ref (ρ (ρ h0 0) 16)) (C := RX10) (T := TX10) (N := 19) hx hb hts hfX10 hown hK hP q105 eq105 rfl 16 (by decide) (va_Nw.use rfl (hN.1 (.fieldLinkNest RX11 306 "ColdShips$World" "readings" "LColdShips$Rows;" "ColdShips") nzw_82)) (fun _ h9 => h9) rfl dX11_reading_111 ?_
              refine lv_iload hx hb dX11_reading_114 (lv_at hl 0 rfl) ?_
              refine lv_iconst (v := 1) hx hb dX11_reading_116 (by decide) ?_
              refine lv_iload_n hx hb dX11_reading_117 rfl (lv_at hl 3 rfl) ?_
              refine lv_i2l hx hb dX11_reading_118 rfl ?_
              have hf_106 : f100 (ρ (ρ h0 0) 16) = .inr (4, [.int o96_x0, .ref (ρ (ρ (ρ h0 0) 16) 1), .int o96_x2]) := (hF101 _ (by rw [y70]; decide)).trans hf_o96
              obtain ⟨q107, eq107⟩ := tp_pos (tp_in hG y70 (by decide)) hf_106
              have hFc := tp_fr hD hS hA
              refine va_callv (va_runV (As := [.int r87, .int 1, .long u.toInt64]) (rest := []) ⟨hx, hb, hml, hown, hts⟩ (t_X4_set l dC dI _ Ω κ τ ν ρ L f100 hG hT (ρ (ρ h0 0) 16) r87 (1) u.toInt64 y70 o96_x0 o96_x2 hf_106) (cwV 3 hts gX11_reading_X4_set rfl rfl rfl ⟨rfl, pd_X4_set⟩ ⟨Nat.le_of_ble_eq_true rfl, Nat.le_of_ble_eq_true rfl⟩) ⟨pz_blind, va_recv hK hP (ci := 4) (q0 := q107) rfl eq107, pz_pre hP hK hD hN⟩ rfl rfl hl.1 rfl (lv_room (Nat.le_of_ble_eq_true rfl)) dX11_reading_119 ⟨Nat.le_of_ble_eq_true rfl, Nat.le_of_ble_eq_true rfl⟩) hS (fun q _ h => hFc q h) hFc (fun f110 t H1 locs ht hvm hw109 hB hz1 hk1 hS => ?_)
              obtain ⟨hT, hF111, hw109p⟩ := hw109
              have hR := hR.then hF111 (by decide)
              have hP := hB.1; rw [ht] at hP; have hD := tp_ad f110 hD; clear hB hFc hz1 hk1; subst ht; generalize t.heap = H at hP hS ⊢
              refine lv_aload_n hx hb dX11_reading_122 rfl (lv_at hl 1 rfl) ?_
              have hf_112 : f110 h0 = .inr (11, [.ref (ρ h0 0), .ref (ρ h0 1), .ref (ρ h0 2), .ref (ρ h0 3), .ref (ρ h0 4), .ref (ρ h0 5), .int o59_x6]) := (hF111 _ (by rw [ht_h0]; decide)).trans hf_102
              obtain ⟨q113, eq113⟩ := tp_pos (tp_in hG ht_h0 (by decide)) hf_112
              refine va_get (D := (dC, dI)) (ci := 11) (v := .ref (ρ h0 0)) (C := RX11) (T := TX11) (N := 7) hx hb hts hfX11 hown hK hP q113 eq113 rfl 0 (by decide) (hts (.fieldLink RX11 10 "ColdShips" "world" "LColdShips$World;") wa_15) (fun _ h9 => h9) rfl dX11_reading_123 ?_
              have hf_114 : f110 (ρ h0 0) = .inr (10, [.int o73_x0, .int o73_x1, .int o73_x2, .int o73_x3, .int o73_x4, .int o73_x5, .int o73_x6, .ref (ρ (ρ h0 0) 7), .ref (ρ (ρ h0 0) 8), .ref (ρ (ρ h0 0) 9), .ref (ρ (ρ h0 0) 10), .ref (ρ (ρ h0 0) 11), .ref (ρ (ρ h0 0) 12), .ref (ρ (ρ h0 0) 13), .ref (ρ (ρ h0 0) 14), .ref (ρ (ρ h0 0) 15), .ref (ρ (ρ h0 0) 16), .ref (ρ (ρ h0 0) 17), .ref (ρ (ρ h0 0) 18)]) := (hF111 _ (by rw [y53]; decide)).trans hf_104
              obtain ⟨q115, eq115⟩ := tp_pos (tp_in hG y53 (by decide)) hf_114
              refine va_getN (D := (dC, dI)) (ci := 10) (v := .ref (ρ (ρ h0 0) 16)) (C := RX10) (T := TX10) (N := 19) hx hb hts hfX10 hown hK hP q115 eq115 rfl 16 (by decide) (va_Nw.use rfl (hN.1 (.fieldLinkNest RX11 306 "ColdShips$World" "readings" "LColdShips$Rows;" "ColdShips") nzw_82)) (fun _ h9 => h9) rfl dX11_reading_126 ?_
              refine lv_iload hx hb dX11_reading_129 (lv_at hl 0 rfl) ?_
              refine lv_iconst (v := 2) hx hb dX11_reading_131 (by decide) ?_
              refine lv_iload_n hx hb dX11_reading_132 rfl (lv_at hl 4 rfl) ?_
              refine lv_i2l hx hb dX11_reading_133 rfl ?_
              have hf_116 : f110 (ρ (ρ h0 0) 16) = .inr (4, [.int o96_x0, .ref (ρ (ρ (ρ h0 0) 16) 1), .int o96_x2]) := (hF111 _ (by rw [y70]; decide)).trans hf_106
              obtain ⟨q117, eq117⟩ := tp_pos (tp_in hG y70 (by decide)) hf_116
              have hFc := tp_fr hD hS hA
              refine va_callv (va_runV (As := [.int r87, .int 2, .long a.toInt64]) (rest := []) ⟨hx, hb, hml, hown, hts⟩ (t_X4_set l dC dI _ Ω κ τ ν ρ L f110 hG hT (ρ (ρ h0 0) 16) r87 (2) a.toInt64 y70 o96_x0 o96_x2 hf_116) (cwV 3 hts gX11_reading_X4_set rfl rfl rfl ⟨rfl, pd_X4_set⟩ ⟨Nat.le_of_ble_eq_true rfl, Nat.le_of_ble_eq_true rfl⟩) ⟨pz_blind, va_recv hK hP (ci := 4) (q0 := q117) rfl eq117, pz_pre hP hK hD hN⟩ rfl rfl hl.1 rfl (lv_room (Nat.le_of_ble_eq_true rfl)) dX11_reading_134 ⟨Nat.le_of_ble_eq_true rfl, Nat.le_of_ble_eq_true rfl⟩) hS (fun q _ h => hFc q h) hFc (fun f120 t H1 locs ht hvm hw119 hB hz1 hk1 hS => ?_)
              obtain ⟨hT, hF121, hw119p⟩ := hw119
              have hR := hR.then hF121 (by decide)
              have hP := hB.1; rw [ht] at hP; have hD := tp_ad f120 hD; clear hB hFc hz1 hk1; subst ht; generalize t.heap = H at hP hS ⊢
              refine lv_aload_n hx hb dX11_reading_137 rfl (lv_at hl 1 rfl) ?_
              have hf_122 : f120 h0 = .inr (11, [.ref (ρ h0 0), .ref (ρ h0 1), .ref (ρ h0 2), .ref (ρ h0 3), .ref (ρ h0 4), .ref (ρ h0 5), .int o59_x6]) := (hF121 _ (by rw [ht_h0]; decide)).trans hf_112
              obtain ⟨q123, eq123⟩ := tp_pos (tp_in hG ht_h0 (by decide)) hf_122
              refine va_get (D := (dC, dI)) (ci := 11) (v := .ref (ρ h0 0)) (C := RX11) (T := TX11) (N := 7) hx hb hts hfX11 hown hK hP q123 eq123 rfl 0 (by decide) (hts (.fieldLink RX11 10 "ColdShips" "world" "LColdShips$World;") wa_15) (fun _ h9 => h9) rfl dX11_reading_138 ?_
              have hf_124 : f120 (ρ h0 0) = .inr (10, [.int o73_x0, .int o73_x1, .int o73_x2, .int o73_x3, .int o73_x4, .int o73_x5, .int o73_x6, .ref (ρ (ρ h0 0) 7), .ref (ρ (ρ h0 0) 8), .ref (ρ (ρ h0 0) 9), .ref (ρ (ρ h0 0) 10), .ref (ρ (ρ h0 0) 11), .ref (ρ (ρ h0 0) 12), .ref (ρ (ρ h0 0) 13), .ref (ρ (ρ h0 0) 14), .ref (ρ (ρ h0 0) 15), .ref (ρ (ρ h0 0) 16), .ref (ρ (ρ h0 0) 17), .ref (ρ (ρ h0 0) 18)]) := (hF121 _ (by rw [y53]; decide)).trans hf_114
              obtain ⟨q125, eq125⟩ := tp_pos (tp_in hG y53 (by decide)) hf_124
              refine va_getN (D := (dC, dI)) (ci := 10) (v := .ref (ρ (ρ h0 0) 16)) (C := RX10) (T := TX10) (N := 19) hx hb hts hfX10 hown hK hP q125 eq125 rfl 16 (by decide) (va_Nw.use rfl (hN.1 (.fieldLinkNest RX11 306 "ColdShips$World" "readings" "LColdShips$Rows;" "ColdShips") nzw_82)) (fun _ h9 => h9) rfl dX11_reading_141 ?_
              refine lv_iload hx hb dX11_reading_144 (lv_at hl 0 rfl) ?_
              refine lv_iconst (v := 3) hx hb dX11_reading_146 (by decide) ?_
              refine lv_iload hx hb dX11_reading_147 (lv_at hl 5 rfl) ?_
              refine lv_i2l hx hb dX11_reading_149 rfl ?_
              have hf_126 : f120 (ρ (ρ h0 0) 16) = .inr (4, [.int o96_x0, .ref (ρ (ρ (ρ h0 0) 16) 1), .int o96_x2]) := (hF121 _ (by rw [y70]; decide)).trans hf_116
              obtain ⟨q127, eq127⟩ := tp_pos (tp_in hG y70 (by decide)) hf_126
              have hFc := tp_fr hD hS hA
              refine va_callv (va_runV (As := [.int r87, .int 3, .long b.toInt64]) (rest := []) ⟨hx, hb, hml, hown, hts⟩ (t_X4_set l dC dI _ Ω κ τ ν ρ L f120 hG hT (ρ (ρ h0 0) 16) r87 (3) b.toInt64 y70 o96_x0 o96_x2 hf_126) (cwV 3 hts gX11_reading_X4_set rfl rfl rfl ⟨rfl, pd_X4_set⟩ ⟨Nat.le_of_ble_eq_true rfl, Nat.le_of_ble_eq_true rfl⟩) ⟨pz_blind, va_recv hK hP (ci := 4) (q0 := q127) rfl eq127, pz_pre hP hK hD hN⟩ rfl rfl hl.1 rfl (lv_room (Nat.le_of_ble_eq_true rfl)) dX11_reading_150 ⟨Nat.le_of_ble_eq_true rfl, Nat.le_of_ble_eq_true rfl⟩) hS (fun q _ h => hFc q h) hFc (fun f130 t H1 locs ht hvm hw129 hB hz1 hk1 hS => ?_)
              obtain ⟨hT, hF131, hw129p⟩ := hw129
              have hR := hR.then hF131 (by decide)
              have hP := hB.1; rw [ht] at hP; have hD := tp_ad f130 hD; clear hB hFc hz1 hk1; subst ht; generalize t.heap = H at hP hS ⊢
              refine lv_aload_n hx hb dX11_reading_153 rfl (lv_at hl 1 rfl) ?_
              have hf_132 : f130 h0 = .inr (11, [.ref (ρ h0 0), .ref (ρ h0 1), .ref (ρ h0 2), .ref (ρ h0 3), .ref (ρ h0 4), .ref (ρ h0 5), .int o59_x6]) := (hF131 _ (by rw [ht_h0]; decide)).trans hf_122
              obtain ⟨q133, eq133⟩ := tp_pos (tp_in hG ht_h0 (by decide)) hf_132
              refine va_get (D := (dC, dI)) (ci := 11) (v := .ref (ρ h0 0)) (C := RX11) (T := TX11) (N := 7) hx hb hts hfX11 hown hK hP q133 eq133 rfl 0 (by decide) (hts (.fieldLink RX11 10 "ColdShips" "world" "LColdShips$World;") wa_15) (fun _ h9 => h9) rfl dX11_reading_154 ?_
              have hf_134 : f130 (ρ h0 0) = .inr (10, [.int o73_x0, .int o73_x1, .int o73_x2, .int o73_x3, .int o73_x4, .int o73_x5, .int o73_x6, .ref (ρ (ρ h0 0) 7), .ref (ρ (ρ h0 0) 8), .ref (ρ (ρ h0 0) 9), .ref (ρ (ρ h0 0) 10), .ref (ρ (ρ h0 0) 11), .ref (ρ (ρ h0 0) 12), .ref (ρ (ρ h0 0) 13), .ref (ρ (ρ h0 0) 14), .ref (ρ (ρ h0 0) 15), .ref (ρ (ρ h0 0) 16), .ref (ρ (ρ h0 0) 17), .ref (ρ (ρ h0 0) 18)]) := (hF131 _ (by rw [y53]; decide)).trans hf_124
              obtain ⟨q135, eq135⟩ := tp_pos (tp_in hG y53 (by decide)) hf_134
              refine va_getN (D := (dC, dI)) (ci := 10) (v := .ref (ρ (ρ h0 0) 16)) (C := RX10) (T := TX10) (N := 19) hx hb hts hfX10 hown hK hP q135 eq135 rfl 16 (by decide) (va_Nw.use rfl (hN.1 (.fieldLinkNest RX11 306 "ColdShips$World" "readings" "LColdShips$Rows;" "ColdShips") nzw_82)) (fun _ h9 => h9) rfl dX11_reading_157 ?_
              refine lv_iload hx hb dX11_reading_160 (lv_at hl 0 rfl) ?_
              refine lv_iconst (v := 4) hx hb dX11_reading_162 (by decide) ?_
              refine lv_iload hx hb dX11_reading_163 (lv_at hl 6 rfl) ?_
              refine lv_i2l hx hb dX11_reading_165 rfl ?_
              have hf_136 : f130 (ρ (ρ h0 0) 16) = .inr (4, [.int o96_x0, .ref (ρ (ρ (ρ h0 0) 16) 1), .int o96_x2]) := (hF131 _ (by rw [y70]; decide)).trans hf_126
              obtain ⟨q137, eq137⟩ := tp_pos (tp_in hG y70 (by decide)) hf_136
              have hFc := tp_fr hD hS hA
              refine va_callv (va_runV (As := [.int r87, .int 4, .long a5.toInt64]) (rest := []) ⟨hx, hb, hml, hown, hts⟩ (t_X4_set l dC dI _ Ω κ τ ν ρ L f130 hG hT (ρ (ρ h0 0) 16) r87 (4) a5.toInt64 y70 o96_x0 o96_x2 hf_136) (cwV 3 hts gX11_reading_X4_set rfl rfl rfl ⟨rfl, pd_X4_set⟩ ⟨Nat.le_of_ble_eq_true rfl, Nat.le_of_ble_eq_true rfl⟩) ⟨pz_blind, va_recv hK hP (ci := 4) (q0 := q137) rfl eq137, pz_pre hP hK hD hN⟩ rfl rfl hl.1 rfl (lv_room (Nat.le_of_ble_eq_true rfl)) dX11_reading_166 ⟨Nat.le_of_ble_eq_true rfl, Nat.le_of_ble_eq_true rfl⟩) hS (fun q _ h => hFc q h) hFc (fun f140 t H1 locs ht hvm hw139 hB hz1 hk1 hS => ?_)
              obtain ⟨hT, hF141, hw139p⟩ := hw139
              have hR := hR.then hF141 (by decide)
              have hP := hB.1; rw [ht] at hP; have hD := tp_ad f140 hD; clear hB hFc hz1 hk1; subst ht; generalize t.heap = H at hP hS ⊢
              refine lv_aload_n hx hb dX11_reading_169 rfl (lv_at hl 1 rfl) ?_
              refine lv_aload_n hx hb dX11_reading_170 rfl (lv_at hl 1 rfl) ?_
              have hf_142 : f140 h0 = .inr (11, [.ref (ρ h0 0), .ref (ρ h0 1), .ref (ρ h0 2), .ref (ρ h0 3), .ref (ρ h0 4), .ref (ρ h0 5), .int o59_x6]) := (hF141 _ (by rw [ht_h0]; decide)).trans hf_132
              obtain ⟨q143, eq143⟩ := tp_pos (tp_in hG ht_h0 (by decide)) hf_142
              refine va_get (D := (dC, dI)) (ci := 11) (v := .ref (ρ h0 0)) (C := RX11) (T := TX11) (N := 7) hx hb hts hfX11 hown hK hP q143 eq143 rfl 0 (by decide) (hts (.fieldLink RX11 10 "ColdShips" "world" "LColdShips$World;") wa_15) (fun _ h9 => h9) rfl dX11_reading_171 ?_
              have hf_144 : f140 (ρ h0 0) = .inr (10, [.int o73_x0, .int o73_x1, .int o73_x2, .int o73_x3, .int o73_x4, .int o73_x5, .int o73_x6, .ref (ρ (ρ h0 0) 7), .ref (ρ (ρ h0 0) 8), .ref (ρ (ρ h0 0) 9), .ref (ρ (ρ h0 0) 10), .ref (ρ (ρ h0 0) 11), .ref (ρ (ρ h0 0) 12), .ref (ρ (ρ h0 0) 13), .ref (ρ (ρ h0 0) 14), .ref (ρ (ρ h0 0) 15), .ref (ρ (ρ h0 0) 16), .ref (ρ (ρ h0 0) 17), .ref (ρ (ρ h0 0) 18)]) := (hF141 _ (by rw [y53]; decide)).trans hf_134
              obtain ⟨q145, eq145⟩ := tp_pos (tp_in hG y53 (by decide)) hf_144
              refine va_getN (D := (dC, dI)) (ci := 10) (v := .ref (ρ (ρ h0 0) 16)) (C := RX10) (T := TX10) (N := 19) hx hb hts hfX10 hown hK hP q145 eq145 rfl 16 (by decide) (va_Nw.use rfl (hN.1 (.fieldLinkNest RX11 306 "ColdShips$World" "readings" "LColdShips$Rows;" "ColdShips") nzw_82)) (fun _ h9 => h9) rfl dX11_reading_174 ?_
              have hf_146 : f140 (ρ (ρ h0 0) 16) = .inr (4, [.int o96_x0, .ref (ρ (ρ (ρ h0 0) 16) 1), .int o96_x2]) := (hF141 _ (by rw [y70]; decide)).trans hf_136
              obtain ⟨q147, eq147⟩ := tp_pos (tp_in hG y70 (by decide)) hf_146
              refine va_getN (D := (dC, dI)) (ci := 4) (v := .int o96_x2) (C := RX4) (T := TX4) (N := 3) hx hb hts hfX4 hown hK hP q147 eq147 rfl 2 (by decide) (va_Nw.use rfl (hN.1 (.fieldLinkNest RX11 242 "ColdShips$Rows" "size" "I" "ColdShips") nzw_4)) (fun _ h9 => h9) rfl dX11_reading_177 ?_
              have hFc := tp_fr hD hS hA
              refine va_calli (va_runV (As := [.int o96_x2]) (rest := []) ⟨hx, hb, hml, hown, hts⟩ (t_X11_accept l dC dI _ Ω κ τ ν ρ L f140 hG hT h0 o96_x2 ht_h0) (cwV 1 hts gX11_reading_X11_accept rfl rfl rfl ⟨rfl, pd_X11_accept⟩ ⟨Nat.le_of_ble_eq_true rfl, Nat.le_of_ble_eq_true rfl⟩) ⟨pz_blind, va_recv hK hP (ci := 11) (q0 := q143) rfl eq143, pz_pre hP hK hD hN⟩ rfl rfl hl.1 rfl (lv_room (Nat.le_of_ble_eq_true rfl)) dX11_reading_180 ⟨Nat.le_of_ble_eq_true rfl, Nat.le_of_ble_eq_true rfl⟩) hS (fun q _ h => hFc q h) hFc (fun r148 f150 t H1 locs ht hvm hw149 hB hz1 hk1 hS => ?_)
              obtain ⟨hT, hF151, hw149r, hw149p⟩ := hw149
              have hR := hR.then hF151 (by decide)
              have hP := hB.1; rw [ht] at hP; have hD := tp_ad f150 hD; clear hB hFc hz1 hk1; subst ht; generalize t.heap = H at hP hS ⊢
              exact W.iret (v := r148) hx hb hr (fun t ht hW => ⟨⟨r148, f150, rfl, ⟨hT, hR, trivial, trivial⟩, by rw [ht]; exact hP, va_K.moved hW.alike hK, hD⟩, hS.F ht⟩) hS.2.2 dX11_reading_183
            · have ic91 : r87.toInt = (-1) := zi_nef rfl rfl c91
              refine lv_aload_n hx hb dX11_reading_85 rfl (lv_at hl 1 rfl) ?_
              refine lv_bipush (v := (-5)) hx hb dX11_reading_86 (by decide) ?_
              have hf_152 : f89 h0 = .inr (11, [.ref (ρ h0 0), .ref (ρ h0 1), .ref (ρ h0 2), .ref (ρ h0 3), .ref (ρ h0 4), .ref (ρ h0 5), .int o59_x6]) := (hF90 _ (by rw [ht_h0]; decide)).trans hf_o59
              obtain ⟨q153, eq153⟩ := tp_pos (tp_in hG ht_h0 (by decide)) hf_152
              have hFc := tp_fr hD hS hA
              refine va_calli (va_runV (As := [.int (-5)]) (rest := []) ⟨hx, hb, hml, hown, hts⟩ (t_X11_refuse l dC dI _ Ω κ τ ν ρ L f89 hG hT h0 ((-5)) ht_h0) (cwV 1 hts gX11_reading_X11_refuse rfl rfl rfl ⟨rfl, pd_X11_refuse⟩ ⟨Nat.le_of_ble_eq_true rfl, Nat.le_of_ble_eq_true rfl⟩) ⟨pz_blind, va_recv hK hP (ci := 11) (q0 := q153) rfl eq153, pz_pre hP hK hD hN⟩ rfl rfl hl.1 rfl (lv_room (Nat.le_of_ble_eq_true rfl)) dX11_reading_88 ⟨Nat.le_of_ble_eq_true rfl, Nat.le_of_ble_eq_true rfl⟩) hS (fun q _ h => hFc q h) hFc (fun r154 f156 t H1 locs ht hvm hw155 hB hz1 hk1 hS => ?_)
              obtain ⟨hT, hF157, hw155r, hw155p⟩ := hw155
              have hR := hR.then hF157 (by decide)
              have hP := hB.1; rw [ht] at hP; have hD := tp_ad f156 hD; clear hB hFc hz1 hk1; subst ht; generalize t.heap = H at hP hS ⊢
              exact W.iret (v := r154) hx hb hr (fun t ht hW => ⟨⟨r154, f156, rfl, ⟨hT, hR, trivial, trivial⟩, by rw [ht]; exact hP, va_K.moved hW.alike hK, hD⟩, hS.F ht⟩) hS.2.2 dX11_reading_91
          · have ic81 : r79.toInt = 0 := zi_nef rfl rfl c81
            refine lv_aload_n hx hb dX11_reading_60 rfl (lv_at hl 0 rfl) ?_
            refine lv_bipush (v := (-2)) hx hb dX11_reading_61 (by decide) ?_
            have hFc := tp_fr hD hS hA
            refine va_calli (va_runV (As := [.int (-2)]) (rest := []) ⟨hx, hb, hml, hown, hts⟩ (t_X11_refuse l dC dI _ Ω κ τ ν ρ L f hG hT h0 ((-2)) ht_h0) (cwV 1 hts gX11_reading_X11_refuse rfl rfl rfl ⟨rfl, pd_X11_refuse⟩ ⟨Nat.le_of_ble_eq_true rfl, Nat.le_of_ble_eq_true rfl⟩) ⟨pz_blind, va_recv hK hP (ci := 11) (q0 := q60) rfl eq60, pz_pre hP hK hD hN⟩ rfl rfl hl.1 rfl (lv_room (Nat.le_of_ble_eq_true rfl)) dX11_reading_63 ⟨Nat.le_of_ble_eq_true rfl, Nat.le_of_ble_eq_true rfl⟩) hS (fun q _ h => hFc q h) hFc (fun r158 f160 t H1 locs ht hvm hw159 hB hz1 hk1 hS => ?_)
            obtain ⟨hT, hF161, hw159r, hw159p⟩ := hw159
            have hR := hR.then hF161 (by decide)
            have hP := hB.1; rw [ht] at hP; have hD := tp_ad f160 hD; clear hB hFc hz1 hk1; subst ht; generalize t.heap = H at hP hS ⊢
            exact W.iret (v := r158) hx hb hr (fun t ht hW => ⟨⟨r158, f160, rfl, ⟨hT, hR, trivial, trivial⟩, by rw [ht]; exact hP, va_K.moved hW.alike hK, hD⟩, hS.F ht⟩) hS.2.2 dX11_reading_66
        · have ic51 : r49.toInt = 0 := zi_nef rfl rfl c51
          refine lv_aload_n hx hb dX11_reading_40 rfl (lv_at hl 0 rfl) ?_
          refine lv_iconst (v := (-1)) hx hb dX11_reading_41 (by decide) ?_
          obtain ⟨y162, y163, y164, y165, y166, y167⟩ := tpg_12 hG ht_h0
          obtain ⟨o168_x6, hf_o168⟩ := tpo_12 hT ht_h0
          obtain ⟨q169, eq169⟩ := tp_pos (tp_in hG ht_h0 (by decide)) hf_o168
          have hFc := tp_fr hD hS hA
          refine va_calli (va_runV (As := [.int (-1)]) (rest := []) ⟨hx, hb, hml, hown, hts⟩ (t_X11_refuse l dC dI _ Ω κ τ ν ρ L f hG hT h0 ((-1)) ht_h0) (cwV 1 hts gX11_reading_X11_refuse rfl rfl rfl ⟨rfl, pd_X11_refuse⟩ ⟨Nat.le_of_ble_eq_true rfl, Nat.le_of_ble_eq_true rfl⟩) ⟨pz_blind, va_recv hK hP (ci := 11) (q0 := q169) rfl eq169, pz_pre hP hK hD hN⟩ rfl rfl hl.1 rfl (lv_room (Nat.le_of_ble_eq_true rfl)) dX11_reading_42 ⟨Nat.le_of_ble_eq_true rfl, Nat.le_of_ble_eq_true rfl⟩) hS (fun q _ h => hFc q h) hFc (fun r170 f172 t H1 locs ht hvm hw171 hB hz1 hk1 hS => ?_)
          obtain ⟨hT, hF173, hw171r, hw171p⟩ := hw171
          have hR := hR.then hF173 (by decide)
          have hP := hB.1; rw [ht] at hP; have hD := tp_ad f172 hD; clear hB hFc hz1 hk1; subst ht; generalize t.heap = H at hP hS ⊢
          exact W.iret (v := r170) hx hb hr (fun t ht hW => ⟨⟨r170, f172, rfl, ⟨hT, hR, trivial, trivial⟩, by rw [ht]; exact hP, va_K.moved hW.alike hK, hD⟩, hS.F ht⟩) hS.2.2 dX11_reading_45
set_option maxHeartbeats 4000000 in
set_option maxRecDepth 100000 in
theorem t_X11_gauged (l : Launch) (dC : Nat → ClassId) (dI : Nat → Nat → Nat) (sz : Nat) (Ω : Nat → (Nat → Nat) → va_E → Prop) (κ : Nat → ClassId) (τ ν : Nat → Nat) (ρ : Nat → Nat → Nat) (L : List Nat) (f : Nat → va_E) (hG : tp_G τ ν ρ L) (hT : tp_T Ω κ τ ν ρ f) (h0 : Nat) (v : Int32) (u : Int32) (a : Int32) (ht_h0 : τ h0 = 12) : Met l yX11_gauged wqX11_gauged ({ frames := 7, cells := 0, slots := 0, locals := 2400 }) (va_Pc [.ref h0, .int v, .int u, .int a] (pz_B dC dI (tp_K κ) (va_pl L f) sz)) (va_Ql (fun (r : Int64) (f1 : Nat → va_E) => tp_T Ω κ τ ν ρ f1 ∧ tp_F τ [2, 3, 4, 5, 6, 7, 8, 9, 10, 11, 12, 20, 21, 22, 26, 27, 28] f f1 ∧ True ∧ True) (fun (f1 : Nat → va_E) (t : State) => pz_E dC dI (tp_K κ) (va_A (va_pl L f) sz) (va_pl L f1) t) (va_A (va_pl L f) sz)) 0 0 (va_A (va_pl L f) sz) := by
  refine Met.ofW (cc := cX11_gauged) (maxL := 4) (ret := some .long) (by decide) rfl ?_
  intro p e s m args below meth c s₁ B hml hv
  obtain ⟨rfl, hsz, hP, hK, hD0, hN⟩ := hv
  have hx := B.exec
  have hb := B.bytes
  have hr := B.returns
  have hts := fun (w : Cond) (h : w ∈ WALL) => atoms_spec (ws := wqX11_gauged) B.pre w (List.mem_cons_of_mem _ h)
  have hown : s.vm.findClass RX11 = some m.cls := findClass_of_methodNamed B.named
  have hlocks := B.notSynchronized
  subst hsz
  have hD := hD0.self (sz := s.heap.size)
  generalize hAe : va_A (va_pl L f) s.heap.size = A at hD ⊢
  have hA : ∀ q : Nat, s.heap.size ≤ q → A q := fun q h => by rw [← hAe]; exact Or.inr h
  have hS : va_S A s.heap s.heap [] := va_S.rf
  have hR : tp_F τ [2, 3, 4, 5, 6, 7, 8, 9, 10, 11, 12, 20, 21, 22, 26, 27, 28] f f := tp_F.rf
  have hl := lv_entry ([.ref h0, .int v, .int u, .int a]) (n := 4) (Nat.le_of_ble_eq_true rfl)
  rw [lg_entry_eq]
  generalize (lg_sl ([.ref h0, .int v, .int u, .int a]) ++ List.replicate (4 - (lg_sl ([.ref h0, .int v, .int u, .int a])).length) Slot.unset).toArray = ls at hl ⊢
  have hl : lv_has ls 4 [(0, .ref h0), (1, .int v), (2, .int u), (3, .int a)] := hl
  refine lv_aload_n hx hb dX11_gauged_0 rfl (lv_at hl 0 rfl) ?_
  obtain ⟨y1, y2, y3, y4, y5, y6⟩ := tpg_12 hG ht_h0
  obtain ⟨o7_x6, hf_o7⟩ := tpo_12 hT ht_h0
  obtain ⟨q8, eq8⟩ := tp_pos (tp_in hG ht_h0 (by decide)) hf_o7
  refine va_get (D := (dC, dI)) (ci := 11) (v := .ref (ρ h0 0)) (C := RX11) (T := TX11) (N := 7) hx hb hts hfX11 hown hK hP q8 eq8 rfl 0 (by decide) (hts (.fieldLink RX11 10 "ColdShips" "world" "LColdShips$World;") wa_15) (fun _ h9 => h9) rfl dX11_gauged_1 ?_
  obtain ⟨⟨y9, y9n⟩, ⟨y10, y10n⟩, y11, y12, y13, y14, y15, y16, ⟨y17, y17w, y17m⟩, ⟨y18, y18w, y18m⟩, ⟨y19, y19w, y19m⟩, ⟨y20, y20w, y20m⟩⟩ := tpg_11 hG y1
  obtain ⟨o21_x0, o21_x1, o21_x2, o21_x3, o21_x4, o21_x5, o21_x6, hf_o21, ro21_0, ro21_1, ro21_2, ro21_3⟩ := tpo_11 hT y1
  obtain ⟨q22, eq22⟩ := tp_pos (tp_in hG y1 (by decide)) hf_o21
  refine va_getN (D := (dC, dI)) (ci := 10) (v := .ref (ρ (ρ h0 0) 17)) (C := RX10) (T := TX10) (N := 19) hx hb hts hfX10 hown hK hP q22 eq22 rfl 17 (by decide) (va_Nw.use rfl (hN.1 (.fieldLinkNest RX11 207 "ColdShips$World" "landings" "LColdShips$Rows;" "ColdShips") nzw_85)) (fun _ h9 => h9) rfl dX11_gauged_4 ?_
  refine lv_iload_n hx hb dX11_gauged_7 rfl (lv_at hl 1 rfl) ?_
  obtain ⟨⟨y23, y23n⟩, ⟨y24a, y24b, y24c⟩⟩ := tpg_5 hG y19
  obtain ⟨o25_x0, o25_x2, hf_o25, ro25_0, ro25_1⟩ := tpo_5 hT y19
  obtain ⟨q26, eq26⟩ := tp_pos (tp_in hG y19 (by decide)) hf_o25
  refine pz_calli (va_runV (As := [.int v]) (rest := []) ⟨hx, hb, hml, hown, hts⟩ (t_X4_has l dC dI _ Ω κ τ ν ρ L f hG hT (ρ (ρ h0 0) 17) v y19 o25_x0 o25_x2 hf_o25) (cwV 1 hts gX11_gauged_X4_has rfl rfl rfl ⟨rfl, pd_X4_has⟩ ⟨Nat.le_of_ble_eq_true rfl, Nat.le_of_ble_eq_true rfl⟩) ⟨pz_blind, va_recv hK hP (ci := 4) (q0 := q26) rfl eq26, pz_pre hP hK hD hN⟩ rfl rfl hl.1 rfl (lv_room (Nat.le_of_ble_eq_true rfl)) dX11_gauged_8 ⟨Nat.le_of_ble_eq_true rfl, Nat.le_of_ble_eq_true rfl⟩) (fun r27 hw28 => ?_)
  obtain ⟨hw28r, hw28p⟩ := hw28
  refine lv_if_eq (tgt := 21) hx hb dX11_gauged_11 (by decide) (fun c29 => ?_) (fun c29 => ?_)
  · have ic29 : r27.toInt = 0 := zi_eq rfl rfl c29
    refine lv_ldc2 (own := RX11) (v := (-2000000000000000)) hx hb hown (hts (.constantLong RX11 281 (-2000000000000000)) wa_1124) dX11_gauged_21 ?_
    exact W.lret (v := (-2000000000000000)) hx hb hr (fun t ht hW => ⟨⟨(-2000000000000000), f, rfl, ⟨hT, hR, trivial, trivial⟩, by rw [ht]; exact hP, va_K.moved hW.alike hK, hD⟩, hS.F ht⟩) hS.2.2 dX11_gauged_24
  · have ic29 : r27.toInt ≠ 0 := zi_eqf rfl rfl c29
    have p30 : 0 ≤ v.toInt ∧ v.toInt < o25_x2.toInt := (tp_cond.yes hw28p) (by omega)
    refine lv_iload_n hx hb dX11_gauged_14 rfl (lv_at hl 2 rfl) ?_
    refine pz_calli (va_runS (As := [.int u]) (rest := []) ⟨hx, hb, hml, hown, hts⟩ (t_X11_isHour l dC dI _ u (u.toInt) rfl) (va_cwS 1 hts gX11_gauged_X11_isHour rfl rfl rfl pd_X11_isHour ⟨Nat.le_of_ble_eq_true rfl, Nat.le_of_ble_eq_true rfl⟩) ⟨pz_blind, pz_pre pz_P0 (hK.sub (tys' := []) [] rfl) (pz_D0 (A := fun _ => True)) hN⟩ rfl rfl hl.1 rfl (lv_room (Nat.le_of_ble_eq_true rfl)) dX11_gauged_15 ⟨Nat.le_of_ble_eq_true rfl, Nat.le_of_ble_eq_true rfl⟩) (fun r31 hw32 => ?_)
    obtain ⟨hw32r, hw32p⟩ := hw32
    refine lv_if_ne (tgt := 25) hx hb dX11_gauged_18 (by decide) (fun c33 => ?_) (fun c33 => ?_)
    · have ic33 : r31.toInt ≠ 0 := zi_ne rfl rfl c33
      have p34 : 0 ≤ (u.toInt) ∧ (u.toInt) ≤ 2399 := (tp_cond.yes hw32p) (by omega)
      refine lv_iload_n hx hb dX11_gauged_25 rfl (lv_at hl 3 rfl) ?_
      rcases zi_sw a 0 3 with h35 | h35
      · refine lv_tableOut (tgt := 98) hx hb dX11_gauged_26 h35 (by decide) ?_
        refine lv_ldc2 (own := RX11) (v := (-2000000000000000)) hx hb hown (hts (.constantLong RX11 281 (-2000000000000000)) wa_1124) dX11_gauged_98 ?_
        exact W.lret (v := (-2000000000000000)) hx hb hr (fun t ht hW => ⟨⟨(-2000000000000000), f, rfl, ⟨hT, hR, trivial, trivial⟩, by rw [ht]; exact hP, va_K.moved hW.alike hK, hD⟩, hS.F ht⟩) hS.2.2 dX11_gauged_101
      · rcases (show a.toInt = 0 ∨ a.toInt = 1 ∨ a.toInt = 2 ∨ a.toInt = 3 by omega) with h35k | h35k | h35k | h35k
        · refine lv_tableIn (tgt := 56) hx hb dX11_gauged_26 (by omega) (by omega) (by rw [h35k]; rfl) (by decide) ?_
          refine lv_aload_n hx hb dX11_gauged_56 rfl (lv_at hl 0 rfl) ?_
          refine va_get (D := (dC, dI)) (ci := 11) (v := .ref (ρ h0 4)) (C := RX11) (T := TX11) (N := 7) hx hb hts hfX11 hown hK hP q8 eq8 rfl 4 (by decide) (hts (.fieldLink RX11 39 "ColdShips" "reckoner" "LColdShips$Reckoner;") wa_28) (fun _ h9 => h9) rfl dX11_gauged_57 ?_
          refine lv_iload_n hx hb dX11_gauged_60 rfl (lv_at hl 1 rfl) ?_
          refine lv_iconst (v := 0) hx hb dX11_gauged_61 (by decide) ?_
          refine lv_iload_n hx hb dX11_gauged_62 rfl (lv_at hl 2 rfl) ?_
          obtain ⟨y36, ⟨y37, y37n⟩, ⟨y38, y38n⟩⟩ := tpg_4 hG y5
          obtain ⟨o39_x3, o39_x4, o39_x5, hf_o39, ro39_0⟩ := tpo_4 hT y5
          obtain ⟨q40, eq40⟩ := tp_pos (tp_in hG y5 (by decide)) hf_o39
          refine pz_calll (va_runV (As := [.int v, .int 0, .int u]) (rest := []) ⟨hx, hb, hml, hown, hts⟩ (t_X3_tonsRead l dC dI _ Ω κ τ ν ρ L f hG hT (ρ h0 4) v (0) u y5) (cwV 3 hts gX11_gauged_X3_tonsRead rfl rfl rfl ⟨rfl, pd_X3_tonsRead⟩ ⟨Nat.le_of_ble_eq_true rfl, Nat.le_of_ble_eq_true rfl⟩) ⟨pz_blind, va_recv hK hP (ci := 3) (q0 := q40) rfl eq40, pz_pre hP hK hD hN⟩ rfl rfl hl.1 rfl (lv_room (Nat.le_of_ble_eq_true rfl)) dX11_gauged_63 ⟨Nat.le_of_ble_eq_true rfl, Nat.le_of_ble_eq_true rfl⟩) (fun r41 hw42 => ?_)
          obtain ⟨hw42r, hw42p⟩ := hw42
          exact W.lret (v := r41) hx hb hr (fun t ht hW => ⟨⟨r41, f, rfl, ⟨hT, hR, trivial, trivial⟩, by rw [ht]; exact hP, va_K.moved hW.alike hK, hD⟩, hS.F ht⟩) hS.2.2 dX11_gauged_66
        · refine lv_tableIn (tgt := 67) hx hb dX11_gauged_26 (by omega) (by omega) (by rw [h35k]; rfl) (by decide) ?_
          refine lv_aload_n hx hb dX11_gauged_67 rfl (lv_at hl 0 rfl) ?_
          refine va_get (D := (dC, dI)) (ci := 11) (v := .ref (ρ h0 4)) (C := RX11) (T := TX11) (N := 7) hx hb hts hfX11 hown hK hP q8 eq8 rfl 4 (by decide) (hts (.fieldLink RX11 39 "ColdShips" "reckoner" "LColdShips$Reckoner;") wa_28) (fun _ h9 => h9) rfl dX11_gauged_68 ?_
          refine lv_iload_n hx hb dX11_gauged_71 rfl (lv_at hl 1 rfl) ?_
          refine lv_iconst (v := 1) hx hb dX11_gauged_72 (by decide) ?_
          refine lv_iload_n hx hb dX11_gauged_73 rfl (lv_at hl 2 rfl) ?_
          obtain ⟨y43, ⟨y44, y44n⟩, ⟨y45, y45n⟩⟩ := tpg_4 hG y5
          obtain ⟨o46_x3, o46_x4, o46_x5, hf_o46, ro46_0⟩ := tpo_4 hT y5
          obtain ⟨q47, eq47⟩ := tp_pos (tp_in hG y5 (by decide)) hf_o46
          refine pz_calll (va_runV (As := [.int v, .int 1, .int u]) (rest := []) ⟨hx, hb, hml, hown, hts⟩ (t_X3_tonsRead l dC dI _ Ω κ τ ν ρ L f hG hT (ρ h0 4) v (1) u y5) (cwV 3 hts gX11_gauged_X3_tonsRead rfl rfl rfl ⟨rfl, pd_X3_tonsRead⟩ ⟨Nat.le_of_ble_eq_true rfl, Nat.le_of_ble_eq_true rfl⟩) ⟨pz_blind, va_recv hK hP (ci := 3) (q0 := q47) rfl eq47, pz_pre hP hK hD hN⟩ rfl rfl hl.1 rfl (lv_room (Nat.le_of_ble_eq_true rfl)) dX11_gauged_74 ⟨Nat.le_of_ble_eq_true rfl, Nat.le_of_ble_eq_true rfl⟩) (fun r48 hw49 => ?_)
          obtain ⟨hw49r, hw49p⟩ := hw49
          exact W.lret (v := r48) hx hb hr (fun t ht hW => ⟨⟨r48, f, rfl, ⟨hT, hR, trivial, trivial⟩, by rw [ht]; exact hP, va_K.moved hW.alike hK, hD⟩, hS.F ht⟩) hS.2.2 dX11_gauged_77
        · refine lv_tableIn (tgt := 78) hx hb dX11_gauged_26 (by omega) (by omega) (by rw [h35k]; rfl) (by decide) ?_
          refine lv_aload_n hx hb dX11_gauged_78 rfl (lv_at hl 0 rfl) ?_
          refine va_get (D := (dC, dI)) (ci := 11) (v := .ref (ρ h0 4)) (C := RX11) (T := TX11) (N := 7) hx hb hts hfX11 hown hK hP q8 eq8 rfl 4 (by decide) (hts (.fieldLink RX11 39 "ColdShips" "reckoner" "LColdShips$Reckoner;") wa_28) (fun _ h9 => h9) rfl dX11_gauged_79 ?_
          refine lv_iload_n hx hb dX11_gauged_82 rfl (lv_at hl 1 rfl) ?_
          refine lv_iload_n hx hb dX11_gauged_83 rfl (lv_at hl 2 rfl) ?_
          obtain ⟨y50, ⟨y51, y51n⟩, ⟨y52, y52n⟩⟩ := tpg_4 hG y5
          obtain ⟨o53_x3, o53_x4, o53_x5, hf_o53, ro53_0⟩ := tpo_4 hT y5
          obtain ⟨q54, eq54⟩ := tp_pos (tp_in hG y5 (by decide)) hf_o53
          refine pz_calll (va_runV (As := [.int v, .int u]) (rest := []) ⟨hx, hb, hml, hown, hts⟩ (t_X3_tonsGauged l dC dI _ Ω κ τ ν ρ L f hG hT (ρ h0 4) v u y5) (cwV 2 hts gX11_gauged_X3_tonsGauged rfl rfl rfl ⟨rfl, pd_X3_tonsGauged⟩ ⟨Nat.le_of_ble_eq_true rfl, Nat.le_of_ble_eq_true rfl⟩) ⟨pz_blind, va_recv hK hP (ci := 3) (q0 := q54) rfl eq54, pz_pre hP hK hD hN⟩ rfl rfl hl.1 rfl (lv_room (Nat.le_of_ble_eq_true rfl)) dX11_gauged_84 ⟨Nat.le_of_ble_eq_true rfl, Nat.le_of_ble_eq_true rfl⟩) (fun r55 hw56 => ?_)
          obtain ⟨hw56r, hw56p⟩ := hw56
          exact W.lret (v := r55) hx hb hr (fun t ht hW => ⟨⟨r55, f, rfl, ⟨hT, hR, trivial, trivial⟩, by rw [ht]; exact hP, va_K.moved hW.alike hK, hD⟩, hS.F ht⟩) hS.2.2 dX11_gauged_87
        · refine lv_tableIn (tgt := 88) hx hb dX11_gauged_26 (by omega) (by omega) (by rw [h35k]; rfl) (by decide) ?_
          refine lv_aload_n hx hb dX11_gauged_88 rfl (lv_at hl 0 rfl) ?_
          refine va_get (D := (dC, dI)) (ci := 11) (v := .ref (ρ h0 4)) (C := RX11) (T := TX11) (N := 7) hx hb hts hfX11 hown hK hP q8 eq8 rfl 4 (by decide) (hts (.fieldLink RX11 39 "ColdShips" "reckoner" "LColdShips$Reckoner;") wa_28) (fun _ h9 => h9) rfl dX11_gauged_89 ?_
          refine lv_iload_n hx hb dX11_gauged_92 rfl (lv_at hl 1 rfl) ?_
          refine lv_iload_n hx hb dX11_gauged_93 rfl (lv_at hl 2 rfl) ?_
          obtain ⟨y57, ⟨y58, y58n⟩, ⟨y59, y59n⟩⟩ := tpg_4 hG y5
          obtain ⟨o60_x3, o60_x4, o60_x5, hf_o60, ro60_0⟩ := tpo_4 hT y5
          obtain ⟨q61, eq61⟩ := tp_pos (tp_in hG y5 (by decide)) hf_o60
          refine pz_calll (va_runV (As := [.int v, .int u]) (rest := []) ⟨hx, hb, hml, hown, hts⟩ (t_X3_claimOf l dC dI _ Ω κ τ ν ρ L f hG hT (ρ h0 4) v u y5) (cwV 2 hts gX11_gauged_X3_claimOf rfl rfl rfl ⟨rfl, pd_X3_claimOf⟩ ⟨Nat.le_of_ble_eq_true rfl, Nat.le_of_ble_eq_true rfl⟩) ⟨pz_blind, va_recv hK hP (ci := 3) (q0 := q61) rfl eq61, pz_pre hP hK hD hN⟩ rfl rfl hl.1 rfl (lv_room (Nat.le_of_ble_eq_true rfl)) dX11_gauged_94 ⟨Nat.le_of_ble_eq_true rfl, Nat.le_of_ble_eq_true rfl⟩) (fun r62 hw63 => ?_)
          obtain ⟨hw63r, hw63p⟩ := hw63
          exact W.lret (v := r62) hx hb hr (fun t ht hW => ⟨⟨r62, f, rfl, ⟨hT, hR, trivial, trivial⟩, by rw [ht]; exact hP, va_K.moved hW.alike hK, hD⟩, hS.F ht⟩) hS.2.2 dX11_gauged_97
    · have ic33 : r31.toInt = 0 := zi_nef rfl rfl c33
      refine lv_ldc2 (own := RX11) (v := (-2000000000000000)) hx hb hown (hts (.constantLong RX11 281 (-2000000000000000)) wa_1124) dX11_gauged_21 ?_
      exact W.lret (v := (-2000000000000000)) hx hb hr (fun t ht hW => ⟨⟨(-2000000000000000), f, rfl, ⟨hT, hR, trivial, trivial⟩, by rw [ht]; exact hP, va_K.moved hW.alike hK, hD⟩, hS.F ht⟩) hS.2.2 dX11_gauged_24
set_option maxHeartbeats 4000000 in
set_option maxRecDepth 100000 in
theorem t_X11_cargo (l : Launch) (dC : Nat → ClassId) (dI : Nat → Nat → Nat) (sz : Nat) (Ω : Nat → (Nat → Nat) → va_E → Prop) (κ : Nat → ClassId) (τ ν : Nat → Nat) (ρ : Nat → Nat → Nat) (L : List Nat) (f : Nat → va_E) (hG : tp_G τ ν ρ L) (hT : tp_T Ω κ τ ν ρ f) (h0 : Nat) (v : Int32) (u : Int32) (a : Int32) (b : Int32) (a5 : Int32) (a6 : Int32) (a7 : Int32) (a8 : Int32) (ht_h0 : τ h0 = 12) : Met l yX11_cargo wqX11_cargo ({ frames := 5, cells := 0, slots := 0, locals := 1600 }) (va_Pc [.ref h0, .int v, .int u, .int a, .int b, .int a5, .int a6, .int a7, .int a8] (pz_B dC dI (tp_K κ) (va_pl L f) sz)) (va_Qi (fun (r : Int32) (f1 : Nat → va_E) => tp_T Ω κ τ ν ρ f1 ∧ tp_F τ [2, 3, 4, 5, 6, 7, 8, 9, 10, 11, 12, 20, 21, 22, 26, 27, 28] f f1 ∧ True ∧ True) (fun (f1 : Nat → va_E) (t : State) => pz_E dC dI (tp_K κ) (va_A (va_pl L f) sz) (va_pl L f1) t) (va_A (va_pl L f) sz)) 0 0 (va_A (va_pl L f) sz) := by
  refine Met.ofW (cc := cX11_cargo) (maxL := 10) (ret := some .int) (by decide) rfl ?_
  intro p e s m args below meth c s₁ B hml hv
  obtain ⟨rfl, hsz, hP, hK, hD0, hN⟩ := hv
  have hx := B.exec
  have hb := B.bytes
  have hr := B.returns
  have hts := fun (w : Cond) (h : w ∈ WALL) => atoms_spec (ws := wqX11_cargo) B.pre w (List.mem_cons_of_mem _ h)
  have hown : s.vm.findClass RX11 = some m.cls := findClass_of_methodNamed B.named
  have hlocks := B.notSynchronized
  subst hsz
  have hD := hD0.self (sz := s.heap.size)
  generalize hAe : va_A (va_pl L f) s.heap.size = A at hD ⊢
  have hA : ∀ q : Nat, s.heap.size ≤ q → A q := fun q h => by rw [← hAe]; exact Or.inr h
  have hS : va_S A s.heap s.heap [] := va_S.rf
  have hR : tp_F τ [2, 3, 4, 5, 6, 7, 8, 9, 10, 11, 12, 20, 21, 22, 26, 27, 28] f f := tp_F.rf
  have hl := lv_entry ([.ref h0, .int v, .int u, .int a, .int b, .int a5, .int a6, .int a7, .int a8]) (n := 10) (Nat.le_of_ble_eq_true rfl)
  rw [lg_entry_eq]
  generalize (lg_sl ([.ref h0, .int v, .int u, .int a, .int b, .int a5, .int a6, .int a7, .int a8]) ++ List.replicate (10 - (lg_sl ([.ref h0, .int v, .int u, .int a, .int b, .int a5, .int a6, .int a7, .int a8])).length) Slot.unset).toArray = ls at hl ⊢
  have hl : lv_has ls 10 [(0, .ref h0), (1, .int v), (2, .int u), (3, .int a), (4, .int b), (5, .int a5), (6, .int a6), (7, .int a7), (8, .int a8)] := hl
  refine lv_iload_n hx hb dX11_cargo_0 rfl (lv_at hl 3 rfl) ?_
  refine lv_iload hx hb dX11_cargo_1 (lv_at hl 4 rfl) ?_
  refine pz_calli (va_runS (As := [.int a, .int b]) (rest := []) ⟨hx, hb, hml, hown, hts⟩ (t_X11_isSpan l dC dI _ a b (a.toInt) (b.toInt) rfl rfl) (va_cwS 2 hts gX11_cargo_X11_isSpan rfl rfl rfl pd_X11_isSpan ⟨Nat.le_of_ble_eq_true rfl, Nat.le_of_ble_eq_true rfl⟩) ⟨pz_blind, pz_pre pz_P0 (hK.sub (tys' := []) [] rfl) (pz_D0 (A := fun _ => True)) hN⟩ rfl rfl hl.1 rfl (lv_room (Nat.le_of_ble_eq_true rfl)) dX11_cargo_3 ⟨Nat.le_of_ble_eq_true rfl, Nat.le_of_ble_eq_true rfl⟩) (fun r1 hw2 => ?_)
  obtain ⟨hw2r, hw2p⟩ := hw2
  refine lv_if_eq (tgt := 42) hx hb dX11_cargo_6 (by decide) (fun c3 => ?_) (fun c3 => ?_)
  · have ic3 : r1.toInt = 0 := zi_eq rfl rfl c3
    refine lv_aload_n hx hb dX11_cargo_42 rfl (lv_at hl 0 rfl) ?_
    refine lv_iconst (v := (-1)) hx hb dX11_cargo_43 (by decide) ?_
    obtain ⟨y4, y5, y6, y7, y8, y9⟩ := tpg_12 hG ht_h0
    obtain ⟨o10_x6, hf_o10⟩ := tpo_12 hT ht_h0
    obtain ⟨q11, eq11⟩ := tp_pos (tp_in hG ht_h0 (by decide)) hf_o10
    have hFc := tp_fr hD hS hA
    refine va_calli (va_runV (As := [.int (-1)]) (rest := []) ⟨hx, hb, hml, hown, hts⟩ (t_X11_refuse l dC dI _ Ω κ τ ν ρ L f hG hT h0 ((-1)) ht_h0) (cwV 1 hts gX11_cargo_X11_refuse rfl rfl rfl ⟨rfl, pd_X11_refuse⟩ ⟨Nat.le_of_ble_eq_true rfl, Nat.le_of_ble_eq_true rfl⟩) ⟨pz_blind, va_recv hK hP (ci := 11) (q0 := q11) rfl eq11, pz_pre hP hK hD hN⟩ rfl rfl hl.1 rfl (lv_room (Nat.le_of_ble_eq_true rfl)) dX11_cargo_44 ⟨Nat.le_of_ble_eq_true rfl, Nat.le_of_ble_eq_true rfl⟩) hS (fun q _ h => hFc q h) hFc (fun r12 f14 t H1 locs ht hvm hw13 hB hz1 hk1 hS => ?_)
    obtain ⟨hT, hF15, hw13r, hw13p⟩ := hw13
    have hR := hR.then hF15 (by decide)
    have hP := hB.1; rw [ht] at hP; have hD := tp_ad f14 hD; clear hB hFc hz1 hk1; subst ht; generalize t.heap = H at hP hS ⊢
    exact W.iret (v := r12) hx hb hr (fun t ht hW => ⟨⟨r12, f14, rfl, ⟨hT, hR, trivial, trivial⟩, by rw [ht]; exact hP, va_K.moved hW.alike hK, hD⟩, hS.F ht⟩) hS.2.2 dX11_cargo_47
  · have ic3 : r1.toInt ≠ 0 := zi_eqf rfl rfl c3
    have p16 : (0 ≤ (a.toInt) ∧ (a.toInt) ≤ 2399) ∧ (0 ≤ (b.toInt) ∧ (b.toInt) ≤ 2399) ∧ (a.toInt) ≤ (b.toInt) := (tp_cond.yes hw2p) (by omega)
    refine lv_iload hx hb dX11_cargo_9 (lv_at hl 5 rfl) ?_
    refine lv_iload hx hb dX11_cargo_11 (lv_at hl 6 rfl) ?_
    refine pz_calli (va_runS (As := [.int a5, .int a6]) (rest := []) ⟨hx, hb, hml, hown, hts⟩ (t_X11_isSpan l dC dI _ a5 a6 (a5.toInt) (a6.toInt) rfl rfl) (va_cwS 2 hts gX11_cargo_X11_isSpan rfl rfl rfl pd_X11_isSpan ⟨Nat.le_of_ble_eq_true rfl, Nat.le_of_ble_eq_true rfl⟩) ⟨pz_blind, pz_pre pz_P0 (hK.sub (tys' := []) [] rfl) (pz_D0 (A := fun _ => True)) hN⟩ rfl rfl hl.1 rfl (lv_room (Nat.le_of_ble_eq_true rfl)) dX11_cargo_13 ⟨Nat.le_of_ble_eq_true rfl, Nat.le_of_ble_eq_true rfl⟩) (fun r17 hw18 => ?_)
    obtain ⟨hw18r, hw18p⟩ := hw18
    refine lv_if_eq (tgt := 42) hx hb dX11_cargo_16 (by decide) (fun c19 => ?_) (fun c19 => ?_)
    · have ic19 : r17.toInt = 0 := zi_eq rfl rfl c19
      refine lv_aload_n hx hb dX11_cargo_42 rfl (lv_at hl 0 rfl) ?_
      refine lv_iconst (v := (-1)) hx hb dX11_cargo_43 (by decide) ?_
      obtain ⟨y20, y21, y22, y23, y24, y25⟩ := tpg_12 hG ht_h0
      obtain ⟨o26_x6, hf_o26⟩ := tpo_12 hT ht_h0
      obtain ⟨q27, eq27⟩ := tp_pos (tp_in hG ht_h0 (by decide)) hf_o26
      have hFc := tp_fr hD hS hA
      refine va_calli (va_runV (As := [.int (-1)]) (rest := []) ⟨hx, hb, hml, hown, hts⟩ (t_X11_refuse l dC dI _ Ω κ τ ν ρ L f hG hT h0 ((-1)) ht_h0) (cwV 1 hts gX11_cargo_X11_refuse rfl rfl rfl ⟨rfl, pd_X11_refuse⟩ ⟨Nat.le_of_ble_eq_true rfl, Nat.le_of_ble_eq_true rfl⟩) ⟨pz_blind, va_recv hK hP (ci := 11) (q0 := q27) rfl eq27, pz_pre hP hK hD hN⟩ rfl rfl hl.1 rfl (lv_room (Nat.le_of_ble_eq_true rfl)) dX11_cargo_44 ⟨Nat.le_of_ble_eq_true rfl, Nat.le_of_ble_eq_true rfl⟩) hS (fun q _ h => hFc q h) hFc (fun r28 f30 t H1 locs ht hvm hw29 hB hz1 hk1 hS => ?_)
      obtain ⟨hT, hF31, hw29r, hw29p⟩ := hw29
      have hR := hR.then hF31 (by decide)
      have hP := hB.1; rw [ht] at hP; have hD := tp_ad f30 hD; clear hB hFc hz1 hk1; subst ht; generalize t.heap = H at hP hS ⊢
      exact W.iret (v := r28) hx hb hr (fun t ht hW => ⟨⟨r28, f30, rfl, ⟨hT, hR, trivial, trivial⟩, by rw [ht]; exact hP, va_K.moved hW.alike hK, hD⟩, hS.F ht⟩) hS.2.2 dX11_cargo_47
    · have ic19 : r17.toInt ≠ 0 := zi_eqf rfl rfl c19
      have p32 : (0 ≤ (a5.toInt) ∧ (a5.toInt) ≤ 2399) ∧ (0 ≤ (a6.toInt) ∧ (a6.toInt) ≤ 2399) ∧ (a5.toInt) ≤ (a6.toInt) := (tp_cond.yes hw18p) (by omega)
      refine lv_iload hx hb dX11_cargo_19 (lv_at hl 7 rfl) ?_
      refine lv_iconst (v := 1) hx hb dX11_cargo_21 (by decide) ?_
      refine lv_ldc (own := RX11) (v := 200000) hx hb hown (hts (.constant RX11 76 (200000)) wa_232) dX11_cargo_22 ?_
      refine pz_calli (va_runS (As := [.int a7, .int 1, .int 200000]) (rest := []) ⟨hx, hb, hml, hown, hts⟩ (t_X11_within l dC dI _ a7 (1) (200000) (a7.toInt) (1) (200000) rfl rfl rfl) (va_cwS 3 hts gX11_cargo_X11_within rfl rfl rfl pd_X11_within ⟨Nat.le_of_ble_eq_true rfl, Nat.le_of_ble_eq_true rfl⟩) ⟨pz_blind, pz_pre pz_P0 (hK.sub (tys' := []) [] rfl) (pz_D0 (A := fun _ => True)) hN⟩ rfl rfl hl.1 rfl (lv_room (Nat.le_of_ble_eq_true rfl)) dX11_cargo_24 ⟨Nat.le_of_ble_eq_true rfl, Nat.le_of_ble_eq_true rfl⟩) (fun r33 hw34 => ?_)
      obtain ⟨hw34r, hw34p⟩ := hw34
      refine lv_if_eq (tgt := 42) hx hb dX11_cargo_27 (by decide) (fun c35 => ?_) (fun c35 => ?_)
      · have ic35 : r33.toInt = 0 := zi_eq rfl rfl c35
        refine lv_aload_n hx hb dX11_cargo_42 rfl (lv_at hl 0 rfl) ?_
        refine lv_iconst (v := (-1)) hx hb dX11_cargo_43 (by decide) ?_
        obtain ⟨y36, y37, y38, y39, y40, y41⟩ := tpg_12 hG ht_h0
        obtain ⟨o42_x6, hf_o42⟩ := tpo_12 hT ht_h0
        obtain ⟨q43, eq43⟩ := tp_pos (tp_in hG ht_h0 (by decide)) hf_o42
        have hFc := tp_fr hD hS hA
        refine va_calli (va_runV (As := [.int (-1)]) (rest := []) ⟨hx, hb, hml, hown, hts⟩ (t_X11_refuse l dC dI _ Ω κ τ ν ρ L f hG hT h0 ((-1)) ht_h0) (cwV 1 hts gX11_cargo_X11_refuse rfl rfl rfl ⟨rfl, pd_X11_refuse⟩ ⟨Nat.le_of_ble_eq_true rfl, Nat.le_of_ble_eq_true rfl⟩) ⟨pz_blind, va_recv hK hP (ci := 11) (q0 := q43) rfl eq43, pz_pre hP hK hD hN⟩ rfl rfl hl.1 rfl (lv_room (Nat.le_of_ble_eq_true rfl)) dX11_cargo_44 ⟨Nat.le_of_ble_eq_true rfl, Nat.le_of_ble_eq_true rfl⟩) hS (fun q _ h => hFc q h) hFc (fun r44 f46 t H1 locs ht hvm hw45 hB hz1 hk1 hS => ?_)
        obtain ⟨hT, hF47, hw45r, hw45p⟩ := hw45
        have hR := hR.then hF47 (by decide)
        have hP := hB.1; rw [ht] at hP; have hD := tp_ad f46 hD; clear hB hFc hz1 hk1; subst ht; generalize t.heap = H at hP hS ⊢
        exact W.iret (v := r44) hx hb hr (fun t ht hW => ⟨⟨r44, f46, rfl, ⟨hT, hR, trivial, trivial⟩, by rw [ht]; exact hP, va_K.moved hW.alike hK, hD⟩, hS.F ht⟩) hS.2.2 dX11_cargo_47
      · have ic35 : r33.toInt ≠ 0 := zi_eqf rfl rfl c35
        have p48 : (1) ≤ (a7.toInt) ∧ (a7.toInt) ≤ (200000) := (tp_cond.yes hw34p) (by omega)
        refine lv_iload hx hb dX11_cargo_30 (lv_at hl 8 rfl) ?_
        refine lv_iconst (v := 0) hx hb dX11_cargo_32 (by decide) ?_
        refine lv_sipush (v := 1000) hx hb dX11_cargo_33 (by decide) ?_
        refine pz_calli (va_runS (As := [.int a8, .int 0, .int 1000]) (rest := []) ⟨hx, hb, hml, hown, hts⟩ (t_X11_within l dC dI _ a8 (0) (1000) (a8.toInt) (0) (1000) rfl rfl rfl) (va_cwS 3 hts gX11_cargo_X11_within rfl rfl rfl pd_X11_within ⟨Nat.le_of_ble_eq_true rfl, Nat.le_of_ble_eq_true rfl⟩) ⟨pz_blind, pz_pre pz_P0 (hK.sub (tys' := []) [] rfl) (pz_D0 (A := fun _ => True)) hN⟩ rfl rfl hl.1 rfl (lv_room (Nat.le_of_ble_eq_true rfl)) dX11_cargo_36 ⟨Nat.le_of_ble_eq_true rfl, Nat.le_of_ble_eq_true rfl⟩) (fun r49 hw50 => ?_)
        obtain ⟨hw50r, hw50p⟩ := hw50
        refine lv_if_ne (tgt := 48) hx hb dX11_cargo_39 (by decide) (fun c51 => ?_) (fun c51 => ?_)
        · have ic51 : r49.toInt ≠ 0 := zi_ne rfl rfl c51
          have p52 : (0) ≤ (a8.toInt) ∧ (a8.toInt) ≤ (1000) := (tp_cond.yes hw50p) (by omega)
          refine lv_aload_n hx hb dX11_cargo_48 rfl (lv_at hl 0 rfl) ?_
          obtain ⟨y53, y54, y55, y56, y57, y58⟩ := tpg_12 hG ht_h0
          obtain ⟨o59_x6, hf_o59⟩ := tpo_12 hT ht_h0
          obtain ⟨q60, eq60⟩ := tp_pos (tp_in hG ht_h0 (by decide)) hf_o59
          refine va_get (D := (dC, dI)) (ci := 11) (v := .ref (ρ h0 0)) (C := RX11) (T := TX11) (N := 7) hx hb hts hfX11 hown hK hP q60 eq60 rfl 0 (by decide) (hts (.fieldLink RX11 10 "ColdShips" "world" "LColdShips$World;") wa_15) (fun _ h9 => h9) rfl dX11_cargo_49 ?_
          refine lv_iload_n hx hb dX11_cargo_52 rfl (lv_at hl 1 rfl) ?_
          obtain ⟨⟨y61, y61n⟩, ⟨y62, y62n⟩, y63, y64, y65, y66, y67, y68, ⟨y69, y69w, y69m⟩, ⟨y70, y70w, y70m⟩, ⟨y71, y71w, y71m⟩, ⟨y72, y72w, y72m⟩⟩ := tpg_11 hG y53
          obtain ⟨o73_x0, o73_x1, o73_x2, o73_x3, o73_x4, o73_x5, o73_x6, hf_o73, ro73_0, ro73_1, ro73_2, ro73_3⟩ := tpo_11 hT y53
          obtain ⟨q74, eq74⟩ := tp_pos (tp_in hG y53 (by decide)) hf_o73
          refine pz_calli (va_runV (As := [.int v]) (rest := []) ⟨hx, hb, hml, hown, hts⟩ (t_X10_hasTerminal l dC dI _ Ω κ τ ν ρ L f hG hT (ρ h0 0) v y53 o73_x0 o73_x1 o73_x2 o73_x3 o73_x4 o73_x5 o73_x6 hf_o73) (cwV 1 hts gX11_cargo_X10_hasTerminal rfl rfl rfl ⟨rfl, pd_X10_hasTerminal⟩ ⟨Nat.le_of_ble_eq_true rfl, Nat.le_of_ble_eq_true rfl⟩) ⟨pz_blind, va_recv hK hP (ci := 10) (q0 := q74) rfl eq74, pz_pre hP hK hD hN⟩ rfl rfl hl.1 rfl (lv_room (Nat.le_of_ble_eq_true rfl)) dX11_cargo_53 ⟨Nat.le_of_ble_eq_true rfl, Nat.le_of_ble_eq_true rfl⟩) (fun r75 hw76 => ?_)
          obtain ⟨hw76r, hw76p⟩ := hw76
          refine lv_if_eq (tgt := 70) hx hb dX11_cargo_56 (by decide) (fun c77 => ?_) (fun c77 => ?_)
          · have ic77 : r75.toInt = 0 := zi_eq rfl rfl c77
            refine lv_aload_n hx hb dX11_cargo_70 rfl (lv_at hl 0 rfl) ?_
            refine lv_bipush (v := (-2)) hx hb dX11_cargo_71 (by decide) ?_
            have hFc := tp_fr hD hS hA
            refine va_calli (va_runV (As := [.int (-2)]) (rest := []) ⟨hx, hb, hml, hown, hts⟩ (t_X11_refuse l dC dI _ Ω κ τ ν ρ L f hG hT h0 ((-2)) ht_h0) (cwV 1 hts gX11_cargo_X11_refuse rfl rfl rfl ⟨rfl, pd_X11_refuse⟩ ⟨Nat.le_of_ble_eq_true rfl, Nat.le_of_ble_eq_true rfl⟩) ⟨pz_blind, va_recv hK hP (ci := 11) (q0 := q60) rfl eq60, pz_pre hP hK hD hN⟩ rfl rfl hl.1 rfl (lv_room (Nat.le_of_ble_eq_true rfl)) dX11_cargo_73 ⟨Nat.le_of_ble_eq_true rfl, Nat.le_of_ble_eq_true rfl⟩) hS (fun q _ h => hFc q h) hFc (fun r78 f80 t H1 locs ht hvm hw79 hB hz1 hk1 hS => ?_)
            obtain ⟨hT, hF81, hw79r, hw79p⟩ := hw79
            have hR := hR.then hF81 (by decide)
            have hP := hB.1; rw [ht] at hP; have hD := tp_ad f80 hD; clear hB hFc hz1 hk1; subst ht; generalize t.heap = H at hP hS ⊢
            exact W.iret (v := r78) hx hb hr (fun t ht hW => ⟨⟨r78, f80, rfl, ⟨hT, hR, trivial, trivial⟩, by rw [ht]; exact hP, va_K.moved hW.alike hK, hD⟩, hS.F ht⟩) hS.2.2 dX11_cargo_76
          · have ic77 : r75.toInt ≠ 0 := zi_eqf rfl rfl c77
            have p82 : 0 ≤ v.toInt ∧ v.toInt < o73_x4.toInt := (tp_cond.yes hw76p) (by omega)
            refine lv_aload_n hx hb dX11_cargo_59 rfl (lv_at hl 0 rfl) ?_
            refine va_get (D := (dC, dI)) (ci := 11) (v := .ref (ρ h0 0)) (C := RX11) (T := TX11) (N := 7) hx hb hts hfX11 hown hK hP q60 eq60 rfl 0 (by decide) (hts (.fieldLink RX11 10 "ColdShips" "world" "LColdShips$World;") wa_15) (fun _ h9 => h9) rfl dX11_cargo_60 ?_
            refine lv_iload_n hx hb dX11_cargo_63 rfl (lv_at hl 2 rfl) ?_
            refine pz_calli (va_runV (As := [.int u]) (rest := []) ⟨hx, hb, hml, hown, hts⟩ (t_X10_hasTerminal l dC dI _ Ω κ τ ν ρ L f hG hT (ρ h0 0) u y53 o73_x0 o73_x1 o73_x2 o73_x3 o73_x4 o73_x5 o73_x6 hf_o73) (cwV 1 hts gX11_cargo_X10_hasTerminal rfl rfl rfl ⟨rfl, pd_X10_hasTerminal⟩ ⟨Nat.le_of_ble_eq_true rfl, Nat.le_of_ble_eq_true rfl⟩) ⟨pz_blind, va_recv hK hP (ci := 10) (q0 := q74) rfl eq74, pz_pre hP hK hD hN⟩ rfl rfl hl.1 rfl (lv_room (Nat.le_of_ble_eq_true rfl)) dX11_cargo_64 ⟨Nat.le_of_ble_eq_true rfl, Nat.le_of_ble_eq_true rfl⟩) (fun r83 hw84 => ?_)
            obtain ⟨hw84r, hw84p⟩ := hw84
            refine lv_if_ne (tgt := 77) hx hb dX11_cargo_67 (by decide) (fun c85 => ?_) (fun c85 => ?_)
            · have ic85 : r83.toInt ≠ 0 := zi_ne rfl rfl c85
              have p86 : 0 ≤ u.toInt ∧ u.toInt < o73_x4.toInt := (tp_cond.yes hw84p) (by omega)
              refine lv_iload_n hx hb dX11_cargo_77 rfl (lv_at hl 1 rfl) ?_
              refine lv_iload_n hx hb dX11_cargo_78 rfl (lv_at hl 2 rfl) ?_
              refine lv_icmp_ne (tgt := 89) hx hb dX11_cargo_79 (by decide) (fun c87 => ?_) (fun c87 => ?_)
              · have ic87 : v.toInt ≠ u.toInt := zi_ne rfl rfl c87
                refine lv_aload_n hx hb dX11_cargo_89 rfl (lv_at hl 0 rfl) ?_
                refine va_get (D := (dC, dI)) (ci := 11) (v := .ref (ρ h0 0)) (C := RX11) (T := TX11) (N := 7) hx hb hts hfX11 hown hK hP q60 eq60 rfl 0 (by decide) (hts (.fieldLink RX11 10 "ColdShips" "world" "LColdShips$World;") wa_15) (fun _ h9 => h9) rfl dX11_cargo_90 ?_
                refine va_getN (D := (dC, dI)) (ci := 10) (v := .ref (ρ (ρ h0 0) 18)) (C := RX10) (T := TX10) (N := 19) hx hb hts hfX10 hown hK hP q74 eq74 rfl 18 (by decide) (va_Nw.use rfl (hN.1 (.fieldLinkNest RX11 319 "ColdShips$World" "cargoes" "LColdShips$Rows;" "ColdShips") nzw_87)) (fun _ h9 => h9) rfl dX11_cargo_93 ?_
                obtain ⟨⟨y88, y88n⟩, ⟨y89a, y89b, y89c⟩⟩ := tpg_5 hG y72
                obtain ⟨o90_x0, o90_x2, hf_o90, ro90_0, ro90_1⟩ := tpo_5 hT y72
                obtain ⟨q91, eq91⟩ := tp_pos (tp_in hG y72 (by decide)) hf_o90
                have hFc := tp_fr hD hS hA
                refine va_calli (va_runV (As := []) (rest := []) ⟨hx, hb, hml, hown, hts⟩ (t_X4_addRow l dC dI _ Ω κ τ ν ρ L f hG hT (ρ (ρ h0 0) 18) y72 o90_x0 o90_x2 hf_o90) (cwV 0 hts gX11_cargo_X4_addRow rfl rfl rfl ⟨rfl, pd_X4_addRow⟩ ⟨Nat.le_of_ble_eq_true rfl, Nat.le_of_ble_eq_true rfl⟩) ⟨pz_blind, va_recv hK hP (ci := 4) (q0 := q91) rfl eq91, pz_pre hP hK hD hN⟩ rfl rfl hl.1 rfl (lv_room (Nat.le_of_ble_eq_true rfl)) dX11_cargo_96 ⟨Nat.le_of_ble_eq_true rfl, Nat.le_of_ble_eq_true rfl⟩) hS (fun q _ h => hFc q h) hFc (fun r92 f94 t H1 locs ht hvm hw93 hB hz1 hk1 hS => ?_)
                obtain ⟨hT, hF95, hw93r, hw93p⟩ := hw93
                have hR := hR.then hF95 (by decide)
                have hP := hB.1; rw [ht] at hP; have hD := tp_ad f94 hD; clear hB hFc hz1 hk1; subst ht; generalize t.heap = H at hP hS ⊢
                refine lv_istore (lv' := [(9, .int r92), (0, .ref h0), (1, .int v), (2, .int u), (3, .int a), (4, .int b), (5, .int a5), (6, .int a6), (7, .int a7), (8, .int a8)]) hx hb dX11_cargo_99 hl (by decide) rfl (fun ls hl => ?_)
                refine lv_iload hx hb dX11_cargo_101 (lv_at hl 0 rfl) ?_
                refine lv_iconst (v := (-1)) hx hb dX11_cargo_103 (by decide) ?_
                refine lv_icmp_ne (tgt := 114) hx hb dX11_cargo_104 (by decide) (fun c96 => ?_) (fun c96 => ?_)
                · have ic96 : r92.toInt ≠ (-1) := zi_ne rfl rfl c96
                  refine lv_aload_n hx hb dX11_cargo_114 rfl (lv_at hl 1 rfl) ?_
                  have hf_97 : f94 h0 = .inr (11, [.ref (ρ h0 0), .ref (ρ h0 1), .ref (ρ h0 2), .ref (ρ h0 3), .ref (ρ h0 4), .ref (ρ h0 5), .int o59_x6]) := (hF95 _ (by rw [ht_h0]; decide)).trans hf_o59
                  obtain ⟨q98, eq98⟩ := tp_pos (tp_in hG ht_h0 (by decide)) hf_97
                  refine va_get (D := (dC, dI)) (ci := 11) (v := .ref (ρ h0 0)) (C := RX11) (T := TX11) (N := 7) hx hb hts hfX11 hown hK hP q98 eq98 rfl 0 (by decide) (hts (.fieldLink RX11 10 "ColdShips" "world" "LColdShips$World;") wa_15) (fun _ h9 => h9) rfl dX11_cargo_115 ?_
                  have hf_99 : f94 (ρ h0 0) = .inr (10, [.int o73_x0, .int o73_x1, .int o73_x2, .int o73_x3, .int o73_x4, .int o73_x5, .int o73_x6, .ref (ρ (ρ h0 0) 7), .ref (ρ (ρ h0 0) 8), .ref (ρ (ρ h0 0) 9), .ref (ρ (ρ h0 0) 10), .ref (ρ (ρ h0 0) 11), .ref (ρ (ρ h0 0) 12), .ref (ρ (ρ h0 0) 13), .ref (ρ (ρ h0 0) 14), .ref (ρ (ρ h0 0) 15), .ref (ρ (ρ h0 0) 16), .ref (ρ (ρ h0 0) 17), .ref (ρ (ρ h0 0) 18)]) := (hF95 _ (by rw [y53]; decide)).trans hf_o73
                  obtain ⟨q100, eq100⟩ := tp_pos (tp_in hG y53 (by decide)) hf_99
                  refine va_getN (D := (dC, dI)) (ci := 10) (v := .ref (ρ (ρ h0 0) 18)) (C := RX10) (T := TX10) (N := 19) hx hb hts hfX10 hown hK hP q100 eq100 rfl 18 (by decide) (va_Nw.use rfl (hN.1 (.fieldLinkNest RX11 319 "ColdShips$World" "cargoes" "LColdShips$Rows;" "ColdShips") nzw_87)) (fun _ h9 => h9) rfl dX11_cargo_118 ?_
                  refine lv_iload hx hb dX11_cargo_121 (lv_at hl 0 rfl) ?_
                  refine lv_iconst (v := 0) hx hb dX11_cargo_123 (by decide) ?_
                  refine lv_iload_n hx hb dX11_cargo_124 rfl (lv_at hl 2 rfl) ?_
                  refine lv_i2l hx hb dX11_cargo_125 rfl ?_
                  obtain ⟨o101_x0, o101_x2, hf_o101, ro101_0, ro101_1⟩ := tpo_5 hT y72
                  obtain ⟨q102, eq102⟩ := tp_pos (tp_in hG y72 (by decide)) hf_o101
                  have hFc := tp_fr hD hS hA
                  refine va_callv (va_runV (As := [.int r92, .int 0, .long v.toInt64]) (rest := []) ⟨hx, hb, hml, hown, hts⟩ (t_X4_set l dC dI _ Ω κ τ ν ρ L f94 hG hT (ρ (ρ h0 0) 18) r92 (0) v.toInt64 y72 o101_x0 o101_x2 hf_o101) (cwV 3 hts gX11_cargo_X4_set rfl rfl rfl ⟨rfl, pd_X4_set⟩ ⟨Nat.le_of_ble_eq_true rfl, Nat.le_of_ble_eq_true rfl⟩) ⟨pz_blind, va_recv hK hP (ci := 4) (q0 := q102) rfl eq102, pz_pre hP hK hD hN⟩ rfl rfl hl.1 rfl (lv_room (Nat.le_of_ble_eq_true rfl)) dX11_cargo_126 ⟨Nat.le_of_ble_eq_true rfl, Nat.le_of_ble_eq_true rfl⟩) hS (fun q _ h => hFc q h) hFc (fun f105 t H1 locs ht hvm hw104 hB hz1 hk1 hS => ?_)
                  obtain ⟨hT, hF106, hw104p⟩ := hw104
                  have hR := hR.then hF106 (by decide)
                  have hP := hB.1; rw [ht] at hP; have hD := tp_ad f105 hD; clear hB hFc hz1 hk1; subst ht; generalize t.heap = H at hP hS ⊢
                  refine lv_aload_n hx hb dX11_cargo_129 rfl (lv_at hl 1 rfl) ?_
                  have hf_107 : f105 h0 = .inr (11, [.ref (ρ h0 0), .ref (ρ h0 1), .ref (ρ h0 2), .ref (ρ h0 3), .ref (ρ h0 4), .ref (ρ h0 5), .int o59_x6]) := (hF106 _ (by rw [ht_h0]; decide)).trans hf_97
                  obtain ⟨q108, eq108⟩ := tp_pos (tp_in hG ht_h0 (by decide)) hf_107
                  refine va_get (D := (dC, dI)) (ci := 11) (v := .ref (ρ h0 0)) (C := RX11) (T := TX11) (N := 7) hx hb hts hfX11 hown hK hP q108 eq108 rfl 0 (by decide) (hts (.fieldLink RX11 10 "ColdShips" "world" "LColdShips$World;") wa_15) (fun _ h9 => h9) rfl dX11_cargo_130 ?_
                  have hf_109 : f105 (ρ h0 0) = .inr (10, [.int o73_x0, .int o73_x1, .int o73_x2, .int o73_x3, .int o73_x4, .int o73_x5, .int o73_x6, .ref (ρ (ρ h0 0) 7), .ref (ρ (ρ h0 0) 8), .ref (ρ (ρ h0 0) 9), .ref (ρ (ρ h0 0) 10), .ref (ρ (ρ h0 0) 11), .ref (ρ (ρ h0 0) 12), .ref (ρ (ρ h0 0) 13), .ref (ρ (ρ h0 0) 14), .ref (ρ (ρ h0 0) 15), .ref (ρ (ρ h0 0) 16), .ref (ρ (ρ h0 0) 17), .ref (ρ (ρ h0 0) 18)]) := (hF106 _ (by rw [y53]; decide)).trans hf_99
                  obtain ⟨q110, eq110⟩ := tp_pos (tp_in hG y53 (by decide)) hf_109
                  refine va_getN (D := (dC, dI)) (ci := 10) (v := .ref (ρ (ρ h0 0) 18)) (C := RX10) (T := TX10) (N := 19) hx hb hts hfX10 hown hK hP q110 eq110 rfl 18 (by decide) (va_Nw.use rfl (hN.1 (.fieldLinkNest RX11 319 "ColdShips$World" "cargoes" "LColdShips$Rows;" "ColdShips") nzw_87)) (fun _ h9 => h9) rfl dX11_cargo_133 ?_
                  refine lv_iload hx hb dX11_cargo_136 (lv_at hl 0 rfl) ?_
                  refine lv_iconst (v := 1) hx hb dX11_cargo_138 (by decide) ?_
                  refine lv_iload_n hx hb dX11_cargo_139 rfl (lv_at hl 3 rfl) ?_
                  refine lv_i2l hx hb dX11_cargo_140 rfl ?_
                  have hf_111 : f105 (ρ (ρ h0 0) 18) = .inr (4, [.int o101_x0, .ref (ρ (ρ (ρ h0 0) 18) 1), .int o101_x2]) := (hF106 _ (by rw [y72]; decide)).trans hf_o101
                  obtain ⟨q112, eq112⟩ := tp_pos (tp_in hG y72 (by decide)) hf_111
                  have hFc := tp_fr hD hS hA
                  refine va_callv (va_runV (As := [.int r92, .int 1, .long u.toInt64]) (rest := []) ⟨hx, hb, hml, hown, hts⟩ (t_X4_set l dC dI _ Ω κ τ ν ρ L f105 hG hT (ρ (ρ h0 0) 18) r92 (1) u.toInt64 y72 o101_x0 o101_x2 hf_111) (cwV 3 hts gX11_cargo_X4_set rfl rfl rfl ⟨rfl, pd_X4_set⟩ ⟨Nat.le_of_ble_eq_true rfl, Nat.le_of_ble_eq_true rfl⟩) ⟨pz_blind, va_recv hK hP (ci := 4) (q0 := q112) rfl eq112, pz_pre hP hK hD hN⟩ rfl rfl hl.1 rfl (lv_room (Nat.le_of_ble_eq_true rfl)) dX11_cargo_141 ⟨Nat.le_of_ble_eq_true rfl, Nat.le_of_ble_eq_true rfl⟩) hS (fun q _ h => hFc q h) hFc (fun f115 t H1 locs ht hvm hw114 hB hz1 hk1 hS => ?_)
                  obtain ⟨hT, hF116, hw114p⟩ := hw114
                  have hR := hR.then hF116 (by decide)
                  have hP := hB.1; rw [ht] at hP; have hD := tp_ad f115 hD; clear hB hFc hz1 hk1; subst ht; generalize t.heap = H at hP hS ⊢
                  refine lv_aload_n hx hb dX11_cargo_144 rfl (lv_at hl 1 rfl) ?_
                  have hf_117 : f115 h0 = .inr (11, [.ref (ρ h0 0), .ref (ρ h0 1), .ref (ρ h0 2), .ref (ρ h0 3), .ref (ρ h0 4), .ref (ρ h0 5), .int o59_x6]) := (hF116 _ (by rw [ht_h0]; decide)).trans hf_107
                  obtain ⟨q118, eq118⟩ := tp_pos (tp_in hG ht_h0 (by decide)) hf_117
                  refine va_get (D := (dC, dI)) (ci := 11) (v := .ref (ρ h0 0)) (C := RX11) (T := TX11) (N := 7) hx hb hts hfX11 hown hK hP q118 eq118 rfl 0 (by decide) (hts (.fieldLink RX11 10 "ColdShips" "world" "LColdShips$World;") wa_15) (fun _ h9 => h9) rfl dX11_cargo_145 ?_
                  have hf_119 : f115 (ρ h0 0) = .inr (10, [.int o73_x0, .int o73_x1, .int o73_x2, .int o73_x3, .int o73_x4, .int o73_x5, .int o73_x6, .ref (ρ (ρ h0 0) 7), .ref (ρ (ρ h0 0) 8), .ref (ρ (ρ h0 0) 9), .ref (ρ (ρ h0 0) 10), .ref (ρ (ρ h0 0) 11), .ref (ρ (ρ h0 0) 12), .ref (ρ (ρ h0 0) 13), .ref (ρ (ρ h0 0) 14), .ref (ρ (ρ h0 0) 15), .ref (ρ (ρ h0 0) 16), .ref (ρ (ρ h0 0) 17), .ref (ρ (ρ h0 0) 18)]) := (hF116 _ (by rw [y53]; decide)).trans hf_109
                  obtain ⟨q120, eq120⟩ := tp_pos (tp_in hG y53 (by decide)) hf_119
                  refine va_getN (D := (dC, dI)) (ci := 10) (v := .ref (ρ (ρ h0 0) 18)) (C := RX10) (T := TX10) (N := 19) hx hb hts hfX10 hown hK hP q120 eq120 rfl 18 (by decide) (va_Nw.use rfl (hN.1 (.fieldLinkNest RX11 319 "ColdShips$World" "cargoes" "LColdShips$Rows;" "ColdShips") nzw_87)) (fun _ h9 => h9) rfl dX11_cargo_148 ?_
                  refine lv_iload hx hb dX11_cargo_151 (lv_at hl 0 rfl) ?_
                  refine lv_iconst (v := 2) hx hb dX11_cargo_153 (by decide) ?_
                  refine lv_iload_n hx hb dX11_cargo_154 rfl (lv_at hl 4 rfl) ?_
                  refine lv_i2l hx hb dX11_cargo_155 rfl ?_
                  have hf_121 : f115 (ρ (ρ h0 0) 18) = .inr (4, [.int o101_x0, .ref (ρ (ρ (ρ h0 0) 18) 1), .int o101_x2]) := (hF116 _ (by rw [y72]; decide)).trans hf_111
                  obtain ⟨q122, eq122⟩ := tp_pos (tp_in hG y72 (by decide)) hf_121
                  have hFc := tp_fr hD hS hA
                  refine va_callv (va_runV (As := [.int r92, .int 2, .long a.toInt64]) (rest := []) ⟨hx, hb, hml, hown, hts⟩ (t_X4_set l dC dI _ Ω κ τ ν ρ L f115 hG hT (ρ (ρ h0 0) 18) r92 (2) a.toInt64 y72 o101_x0 o101_x2 hf_121) (cwV 3 hts gX11_cargo_X4_set rfl rfl rfl ⟨rfl, pd_X4_set⟩ ⟨Nat.le_of_ble_eq_true rfl, Nat.le_of_ble_eq_true rfl⟩) ⟨pz_blind, va_recv hK hP (ci := 4) (q0 := q122) rfl eq122, pz_pre hP hK hD hN⟩ rfl rfl hl.1 rfl (lv_room (Nat.le_of_ble_eq_true rfl)) dX11_cargo_156 ⟨Nat.le_of_ble_eq_true rfl, Nat.le_of_ble_eq_true rfl⟩) hS (fun q _ h => hFc q h) hFc (fun f125 t H1 locs ht hvm hw124 hB hz1 hk1 hS => ?_)
                  obtain ⟨hT, hF126, hw124p⟩ := hw124
                  have hR := hR.then hF126 (by decide)
                  have hP := hB.1; rw [ht] at hP; have hD := tp_ad f125 hD; clear hB hFc hz1 hk1; subst ht; generalize t.heap = H at hP hS ⊢
                  refine lv_aload_n hx hb dX11_cargo_159 rfl (lv_at hl 1 rfl) ?_
                  have hf_127 : f125 h0 = .inr (11, [.ref (ρ h0 0), .ref (ρ h0 1), .ref (ρ h0 2), .ref (ρ h0 3), .ref (ρ h0 4), .ref (ρ h0 5), .int o59_x6]) := (hF126 _ (by rw [ht_h0]; decide)).trans hf_117
                  obtain ⟨q128, eq128⟩ := tp_pos (tp_in hG ht_h0 (by decide)) hf_127
                  refine va_get (D := (dC, dI)) (ci := 11) (v := .ref (ρ h0 0)) (C := RX11) (T := TX11) (N := 7) hx hb hts hfX11 hown hK hP q128 eq128 rfl 0 (by decide) (hts (.fieldLink RX11 10 "ColdShips" "world" "LColdShips$World;") wa_15) (fun _ h9 => h9) rfl dX11_cargo_160 ?_
                  have hf_129 : f125 (ρ h0 0) = .inr (10, [.int o73_x0, .int o73_x1, .int o73_x2, .int o73_x3, .int o73_x4, .int o73_x5, .int o73_x6, .ref (ρ (ρ h0 0) 7), .ref (ρ (ρ h0 0) 8), .ref (ρ (ρ h0 0) 9), .ref (ρ (ρ h0 0) 10), .ref (ρ (ρ h0 0) 11), .ref (ρ (ρ h0 0) 12), .ref (ρ (ρ h0 0) 13), .ref (ρ (ρ h0 0) 14), .ref (ρ (ρ h0 0) 15), .ref (ρ (ρ h0 0) 16), .ref (ρ (ρ h0 0) 17), .ref (ρ (ρ h0 0) 18)]) := (hF126 _ (by rw [y53]; decide)).trans hf_119
                  obtain ⟨q130, eq130⟩ := tp_pos (tp_in hG y53 (by decide)) hf_129
                  refine va_getN (D := (dC, dI)) (ci := 10) (v := .ref (ρ (ρ h0 0) 18)) (C := RX10) (T := TX10) (N := 19) hx hb hts hfX10 hown hK hP q130 eq130 rfl 18 (by decide) (va_Nw.use rfl (hN.1 (.fieldLinkNest RX11 319 "ColdShips$World" "cargoes" "LColdShips$Rows;" "ColdShips") nzw_87)) (fun _ h9 => h9) rfl dX11_cargo_163 ?_
                  refine lv_iload hx hb dX11_cargo_166 (lv_at hl 0 rfl) ?_
                  refine lv_iconst (v := 3) hx hb dX11_cargo_168 (by decide) ?_
                  refine lv_iload hx hb dX11_cargo_169 (lv_at hl 5 rfl) ?_
                  refine lv_i2l hx hb dX11_cargo_171 rfl ?_
                  have hf_131 : f125 (ρ (ρ h0 0) 18) = .inr (4, [.int o101_x0, .ref (ρ (ρ (ρ h0 0) 18) 1), .int o101_x2]) := (hF126 _ (by rw [y72]; decide)).trans hf_121
                  obtain ⟨q132, eq132⟩ := tp_pos (tp_in hG y72 (by decide)) hf_131
                  have hFc := tp_fr hD hS hA
                  refine va_callv (va_runV (As := [.int r92, .int 3, .long b.toInt64]) (rest := []) ⟨hx, hb, hml, hown, hts⟩ (t_X4_set l dC dI _ Ω κ τ ν ρ L f125 hG hT (ρ (ρ h0 0) 18) r92 (3) b.toInt64 y72 o101_x0 o101_x2 hf_131) (cwV 3 hts gX11_cargo_X4_set rfl rfl rfl ⟨rfl, pd_X4_set⟩ ⟨Nat.le_of_ble_eq_true rfl, Nat.le_of_ble_eq_true rfl⟩) ⟨pz_blind, va_recv hK hP (ci := 4) (q0 := q132) rfl eq132, pz_pre hP hK hD hN⟩ rfl rfl hl.1 rfl (lv_room (Nat.le_of_ble_eq_true rfl)) dX11_cargo_172 ⟨Nat.le_of_ble_eq_true rfl, Nat.le_of_ble_eq_true rfl⟩) hS (fun q _ h => hFc q h) hFc (fun f135 t H1 locs ht hvm hw134 hB hz1 hk1 hS => ?_)
                  obtain ⟨hT, hF136, hw134p⟩ := hw134
                  have hR := hR.then hF136 (by decide)
                  have hP := hB.1; rw [ht] at hP; have hD := tp_ad f135 hD; clear hB hFc hz1 hk1; subst ht; generalize t.heap = H at hP hS ⊢
                  refine lv_aload_n hx hb dX11_cargo_175 rfl (lv_at hl 1 rfl) ?_
                  have hf_137 : f135 h0 = .inr (11, [.ref (ρ h0 0), .ref (ρ h0 1), .ref (ρ h0 2), .ref (ρ h0 3), .ref (ρ h0 4), .ref (ρ h0 5), .int o59_x6]) := (hF136 _ (by rw [ht_h0]; decide)).trans hf_127
                  obtain ⟨q138, eq138⟩ := tp_pos (tp_in hG ht_h0 (by decide)) hf_137
                  refine va_get (D := (dC, dI)) (ci := 11) (v := .ref (ρ h0 0)) (C := RX11) (T := TX11) (N := 7) hx hb hts hfX11 hown hK hP q138 eq138 rfl 0 (by decide) (hts (.fieldLink RX11 10 "ColdShips" "world" "LColdShips$World;") wa_15) (fun _ h9 => h9) rfl dX11_cargo_176 ?_
                  have hf_139 : f135 (ρ h0 0) = .inr (10, [.int o73_x0, .int o73_x1, .int o73_x2, .int o73_x3, .int o73_x4, .int o73_x5, .int o73_x6, .ref (ρ (ρ h0 0) 7), .ref (ρ (ρ h0 0) 8), .ref (ρ (ρ h0 0) 9), .ref (ρ (ρ h0 0) 10), .ref (ρ (ρ h0 0) 11), .ref (ρ (ρ h0 0) 12), .ref (ρ (ρ h0 0) 13), .ref (ρ (ρ h0 0) 14), .ref (ρ (ρ h0 0) 15), .ref (ρ (ρ h0 0) 16), .ref (ρ (ρ h0 0) 17), .ref (ρ (ρ h0 0) 18)]) := (hF136 _ (by rw [y53]; decide)).trans hf_129
                  obtain ⟨q140, eq140⟩ := tp_pos (tp_in hG y53 (by decide)) hf_139
                  refine va_getN (D := (dC, dI)) (ci := 10) (v := .ref (ρ (ρ h0 0) 18)) (C := RX10) (T := TX10) (N := 19) hx hb hts hfX10 hown hK hP q140 eq140 rfl 18 (by decide) (va_Nw.use rfl (hN.1 (.fieldLinkNest RX11 319 "ColdShips$World" "cargoes" "LColdShips$Rows;" "ColdShips") nzw_87)) (fun _ h9 => h9) rfl dX11_cargo_179 ?_
                  refine lv_iload hx hb dX11_cargo_182 (lv_at hl 0 rfl) ?_
                  refine lv_iconst (v := 4) hx hb dX11_cargo_184 (by decide) ?_
                  refine lv_iload hx hb dX11_cargo_185 (lv_at hl 6 rfl) ?_
                  refine lv_i2l hx hb dX11_cargo_187 rfl ?_
                  have hf_141 : f135 (ρ (ρ h0 0) 18) = .inr (4, [.int o101_x0, .ref (ρ (ρ (ρ h0 0) 18) 1), .int o101_x2]) := (hF136 _ (by rw [y72]; decide)).trans hf_131
                  obtain ⟨q142, eq142⟩ := tp_pos (tp_in hG y72 (by decide)) hf_141
                  have hFc := tp_fr hD hS hA
                  refine va_callv (va_runV (As := [.int r92, .int 4, .long a5.toInt64]) (rest := []) ⟨hx, hb, hml, hown, hts⟩ (t_X4_set l dC dI _ Ω κ τ ν ρ L f135 hG hT (ρ (ρ h0 0) 18) r92 (4) a5.toInt64 y72 o101_x0 o101_x2 hf_141) (cwV 3 hts gX11_cargo_X4_set rfl rfl rfl ⟨rfl, pd_X4_set⟩ ⟨Nat.le_of_ble_eq_true rfl, Nat.le_of_ble_eq_true rfl⟩) ⟨pz_blind, va_recv hK hP (ci := 4) (q0 := q142) rfl eq142, pz_pre hP hK hD hN⟩ rfl rfl hl.1 rfl (lv_room (Nat.le_of_ble_eq_true rfl)) dX11_cargo_188 ⟨Nat.le_of_ble_eq_true rfl, Nat.le_of_ble_eq_true rfl⟩) hS (fun q _ h => hFc q h) hFc (fun f145 t H1 locs ht hvm hw144 hB hz1 hk1 hS => ?_)
                  obtain ⟨hT, hF146, hw144p⟩ := hw144
                  have hR := hR.then hF146 (by decide)
                  have hP := hB.1; rw [ht] at hP; have hD := tp_ad f145 hD; clear hB hFc hz1 hk1; subst ht; generalize t.heap = H at hP hS ⊢
                  refine lv_aload_n hx hb dX11_cargo_191 rfl (lv_at hl 1 rfl) ?_
                  have hf_147 : f145 h0 = .inr (11, [.ref (ρ h0 0), .ref (ρ h0 1), .ref (ρ h0 2), .ref (ρ h0 3), .ref (ρ h0 4), .ref (ρ h0 5), .int o59_x6]) := (hF146 _ (by rw [ht_h0]; decide)).trans hf_137
                  obtain ⟨q148, eq148⟩ := tp_pos (tp_in hG ht_h0 (by decide)) hf_147
                  refine va_get (D := (dC, dI)) (ci := 11) (v := .ref (ρ h0 0)) (C := RX11) (T := TX11) (N := 7) hx hb hts hfX11 hown hK hP q148 eq148 rfl 0 (by decide) (hts (.fieldLink RX11 10 "ColdShips" "world" "LColdShips$World;") wa_15) (fun _ h9 => h9) rfl dX11_cargo_192 ?_
                  have hf_149 : f145 (ρ h0 0) = .inr (10, [.int o73_x0, .int o73_x1, .int o73_x2, .int o73_x3, .int o73_x4, .int o73_x5, .int o73_x6, .ref (ρ (ρ h0 0) 7), .ref (ρ (ρ h0 0) 8), .ref (ρ (ρ h0 0) 9), .ref (ρ (ρ h0 0) 10), .ref (ρ (ρ h0 0) 11), .ref (ρ (ρ h0 0) 12), .ref (ρ (ρ h0 0) 13), .ref (ρ (ρ h0 0) 14), .ref (ρ (ρ h0 0) 15), .ref (ρ (ρ h0 0) 16), .ref (ρ (ρ h0 0) 17), .ref (ρ (ρ h0 0) 18)]) := (hF146 _ (by rw [y53]; decide)).trans hf_139
                  obtain ⟨q150, eq150⟩ := tp_pos (tp_in hG y53 (by decide)) hf_149
                  refine va_getN (D := (dC, dI)) (ci := 10) (v := .ref (ρ (ρ h0 0) 18)) (C := RX10) (T := TX10) (N := 19) hx hb hts hfX10 hown hK hP q150 eq150 rfl 18 (by decide) (va_Nw.use rfl (hN.1 (.fieldLinkNest RX11 319 "ColdShips$World" "cargoes" "LColdShips$Rows;" "ColdShips") nzw_87)) (fun _ h9 => h9) rfl dX11_cargo_195 ?_
                  refine lv_iload hx hb dX11_cargo_198 (lv_at hl 0 rfl) ?_
                  refine lv_iconst (v := 5) hx hb dX11_cargo_200 (by decide) ?_
                  refine lv_iload hx hb dX11_cargo_201 (lv_at hl 7 rfl) ?_
                  refine lv_i2l hx hb dX11_cargo_203 rfl ?_
                  have hf_151 : f145 (ρ (ρ h0 0) 18) = .inr (4, [.int o101_x0, .ref (ρ (ρ (ρ h0 0) 18) 1), .int o101_x2]) := (hF146 _ (by rw [y72]; decide)).trans hf_141
                  obtain ⟨q152, eq152⟩ := tp_pos (tp_in hG y72 (by decide)) hf_151
                  have hFc := tp_fr hD hS hA
                  refine va_callv (va_runV (As := [.int r92, .int 5, .long a6.toInt64]) (rest := []) ⟨hx, hb, hml, hown, hts⟩ (t_X4_set l dC dI _ Ω κ τ ν ρ L f145 hG hT (ρ (ρ h0 0) 18) r92 (5) a6.toInt64 y72 o101_x0 o101_x2 hf_151) (cwV 3 hts gX11_cargo_X4_set rfl rfl rfl ⟨rfl, pd_X4_set⟩ ⟨Nat.le_of_ble_eq_true rfl, Nat.le_of_ble_eq_true rfl⟩) ⟨pz_blind, va_recv hK hP (ci := 4) (q0 := q152) rfl eq152, pz_pre hP hK hD hN⟩ rfl rfl hl.1 rfl (lv_room (Nat.le_of_ble_eq_true rfl)) dX11_cargo_204 ⟨Nat.le_of_ble_eq_true rfl, Nat.le_of_ble_eq_true rfl⟩) hS (fun q _ h => hFc q h) hFc (fun f155 t H1 locs ht hvm hw154 hB hz1 hk1 hS => ?_)
                  obtain ⟨hT, hF156, hw154p⟩ := hw154
                  have hR := hR.then hF156 (by decide)
                  have hP := hB.1; rw [ht] at hP; have hD := tp_ad f155 hD; clear hB hFc hz1 hk1; subst ht; generalize t.heap = H at hP hS ⊢
                  refine lv_aload_n hx hb dX11_cargo_207 rfl (lv_at hl 1 rfl) ?_
                  have hf_157 : f155 h0 = .inr (11, [.ref (ρ h0 0), .ref (ρ h0 1), .ref (ρ h0 2), .ref (ρ h0 3), .ref (ρ h0 4), .ref (ρ h0 5), .int o59_x6]) := (hF156 _ (by rw [ht_h0]; decide)).trans hf_147
                  obtain ⟨q158, eq158⟩ := tp_pos (tp_in hG ht_h0 (by decide)) hf_157
                  refine va_get (D := (dC, dI)) (ci := 11) (v := .ref (ρ h0 0)) (C := RX11) (T := TX11) (N := 7) hx hb hts hfX11 hown hK hP q158 eq158 rfl 0 (by decide) (hts (.fieldLink RX11 10 "ColdShips" "world" "LColdShips$World;") wa_15) (fun _ h9 => h9) rfl dX11_cargo_208 ?_
                  have hf_159 : f155 (ρ h0 0) = .inr (10, [.int o73_x0, .int o73_x1, .int o73_x2, .int o73_x3, .int o73_x4, .int o73_x5, .int o73_x6, .ref (ρ (ρ h0 0) 7), .ref (ρ (ρ h0 0) 8), .ref (ρ (ρ h0 0) 9), .ref (ρ (ρ h0 0) 10), .ref (ρ (ρ h0 0) 11), .ref (ρ (ρ h0 0) 12), .ref (ρ (ρ h0 0) 13), .ref (ρ (ρ h0 0) 14), .ref (ρ (ρ h0 0) 15), .ref (ρ (ρ h0 0) 16), .ref (ρ (ρ h0 0) 17), .ref (ρ (ρ h0 0) 18)]) := (hF156 _ (by rw [y53]; decide)).trans hf_149
                  obtain ⟨q160, eq160⟩ := tp_pos (tp_in hG y53 (by decide)) hf_159
                  refine va_getN (D := (dC, dI)) (ci := 10) (v := .ref (ρ (ρ h0 0) 18)) (C := RX10) (T := TX10) (N := 19) hx hb hts hfX10 hown hK hP q160 eq160 rfl 18 (by decide) (va_Nw.use rfl (hN.1 (.fieldLinkNest RX11 319 "ColdShips$World" "cargoes" "LColdShips$Rows;" "ColdShips") nzw_87)) (fun _ h9 => h9) rfl dX11_cargo_211 ?_
                  refine lv_iload hx hb dX11_cargo_214 (lv_at hl 0 rfl) ?_
                  refine lv_bipush (v := 6) hx hb dX11_cargo_216 (by decide) ?_
                  refine lv_iload hx hb dX11_cargo_218 (lv_at hl 8 rfl) ?_
                  refine lv_i2l hx hb dX11_cargo_220 rfl ?_
                  have hf_161 : f155 (ρ (ρ h0 0) 18) = .inr (4, [.int o101_x0, .ref (ρ (ρ (ρ h0 0) 18) 1), .int o101_x2]) := (hF156 _ (by rw [y72]; decide)).trans hf_151
                  obtain ⟨q162, eq162⟩ := tp_pos (tp_in hG y72 (by decide)) hf_161
                  have hFc := tp_fr hD hS hA
                  refine va_callv (va_runV (As := [.int r92, .int 6, .long a7.toInt64]) (rest := []) ⟨hx, hb, hml, hown, hts⟩ (t_X4_set l dC dI _ Ω κ τ ν ρ L f155 hG hT (ρ (ρ h0 0) 18) r92 (6) a7.toInt64 y72 o101_x0 o101_x2 hf_161) (cwV 3 hts gX11_cargo_X4_set rfl rfl rfl ⟨rfl, pd_X4_set⟩ ⟨Nat.le_of_ble_eq_true rfl, Nat.le_of_ble_eq_true rfl⟩) ⟨pz_blind, va_recv hK hP (ci := 4) (q0 := q162) rfl eq162, pz_pre hP hK hD hN⟩ rfl rfl hl.1 rfl (lv_room (Nat.le_of_ble_eq_true rfl)) dX11_cargo_221 ⟨Nat.le_of_ble_eq_true rfl, Nat.le_of_ble_eq_true rfl⟩) hS (fun q _ h => hFc q h) hFc (fun f165 t H1 locs ht hvm hw164 hB hz1 hk1 hS => ?_)
                  obtain ⟨hT, hF166, hw164p⟩ := hw164
                  have hR := hR.then hF166 (by decide)
                  have hP := hB.1; rw [ht] at hP; have hD := tp_ad f165 hD; clear hB hFc hz1 hk1; subst ht; generalize t.heap = H at hP hS ⊢
                  refine lv_aload_n hx hb dX11_cargo_224 rfl (lv_at hl 1 rfl) ?_
                  have hf_167 : f165 h0 = .inr (11, [.ref (ρ h0 0), .ref (ρ h0 1), .ref (ρ h0 2), .ref (ρ h0 3), .ref (ρ h0 4), .ref (ρ h0 5), .int o59_x6]) := (hF166 _ (by rw [ht_h0]; decide)).trans hf_157
                  obtain ⟨q168, eq168⟩ := tp_pos (tp_in hG ht_h0 (by decide)) hf_167
                  refine va_get (D := (dC, dI)) (ci := 11) (v := .ref (ρ h0 0)) (C := RX11) (T := TX11) (N := 7) hx hb hts hfX11 hown hK hP q168 eq168 rfl 0 (by decide) (hts (.fieldLink RX11 10 "ColdShips" "world" "LColdShips$World;") wa_15) (fun _ h9 => h9) rfl dX11_cargo_225 ?_
                  have hf_169 : f165 (ρ h0 0) = .inr (10, [.int o73_x0, .int o73_x1, .int o73_x2, .int o73_x3, .int o73_x4, .int o73_x5, .int o73_x6, .ref (ρ (ρ h0 0) 7), .ref (ρ (ρ h0 0) 8), .ref (ρ (ρ h0 0) 9), .ref (ρ (ρ h0 0) 10), .ref (ρ (ρ h0 0) 11), .ref (ρ (ρ h0 0) 12), .ref (ρ (ρ h0 0) 13), .ref (ρ (ρ h0 0) 14), .ref (ρ (ρ h0 0) 15), .ref (ρ (ρ h0 0) 16), .ref (ρ (ρ h0 0) 17), .ref (ρ (ρ h0 0) 18)]) := (hF166 _ (by rw [y53]; decide)).trans hf_159
                  obtain ⟨q170, eq170⟩ := tp_pos (tp_in hG y53 (by decide)) hf_169
                  refine va_getN (D := (dC, dI)) (ci := 10) (v := .ref (ρ (ρ h0 0) 18)) (C := RX10) (T := TX10) (N := 19) hx hb hts hfX10 hown hK hP q170 eq170 rfl 18 (by decide) (va_Nw.use rfl (hN.1 (.fieldLinkNest RX11 319 "ColdShips$World" "cargoes" "LColdShips$Rows;" "ColdShips") nzw_87)) (fun _ h9 => h9) rfl dX11_cargo_228 ?_
                  refine lv_iload hx hb dX11_cargo_231 (lv_at hl 0 rfl) ?_
                  refine lv_bipush (v := 7) hx hb dX11_cargo_233 (by decide) ?_
                  refine lv_iload hx hb dX11_cargo_235 (lv_at hl 9 rfl) ?_
                  refine lv_i2l hx hb dX11_cargo_237 rfl ?_
                  have hf_171 : f165 (ρ (ρ h0 0) 18) = .inr (4, [.int o101_x0, .ref (ρ (ρ (ρ h0 0) 18) 1), .int o101_x2]) := (hF166 _ (by rw [y72]; decide)).trans hf_161
                  obtain ⟨q172, eq172⟩ := tp_pos (tp_in hG y72 (by decide)) hf_171
                  have hFc := tp_fr hD hS hA
                  refine va_callv (va_runV (As := [.int r92, .int 7, .long a8.toInt64]) (rest := []) ⟨hx, hb, hml, hown, hts⟩ (t_X4_set l dC dI _ Ω κ τ ν ρ L f165 hG hT (ρ (ρ h0 0) 18) r92 (7) a8.toInt64 y72 o101_x0 o101_x2 hf_171) (cwV 3 hts gX11_cargo_X4_set rfl rfl rfl ⟨rfl, pd_X4_set⟩ ⟨Nat.le_of_ble_eq_true rfl, Nat.le_of_ble_eq_true rfl⟩) ⟨pz_blind, va_recv hK hP (ci := 4) (q0 := q172) rfl eq172, pz_pre hP hK hD hN⟩ rfl rfl hl.1 rfl (lv_room (Nat.le_of_ble_eq_true rfl)) dX11_cargo_238 ⟨Nat.le_of_ble_eq_true rfl, Nat.le_of_ble_eq_true rfl⟩) hS (fun q _ h => hFc q h) hFc (fun f175 t H1 locs ht hvm hw174 hB hz1 hk1 hS => ?_)
                  obtain ⟨hT, hF176, hw174p⟩ := hw174
                  have hR := hR.then hF176 (by decide)
                  have hP := hB.1; rw [ht] at hP; have hD := tp_ad f175 hD; clear hB hFc hz1 hk1; subst ht; generalize t.heap = H at hP hS ⊢
                  refine lv_aload_n hx hb dX11_cargo_241 rfl (lv_at hl 1 rfl) ?_
                  refine lv_aload_n hx hb dX11_cargo_242 rfl (lv_at hl 1 rfl) ?_
                  have hf_177 : f175 h0 = .inr (11, [.ref (ρ h0 0), .ref (ρ h0 1), .ref (ρ h0 2), .ref (ρ h0 3), .ref (ρ h0 4), .ref (ρ h0 5), .int o59_x6]) := (hF176 _ (by rw [ht_h0]; decide)).trans hf_167
                  obtain ⟨q178, eq178⟩ := tp_pos (tp_in hG ht_h0 (by decide)) hf_177
                  refine va_get (D := (dC, dI)) (ci := 11) (v := .ref (ρ h0 0)) (C := RX11) (T := TX11) (N := 7) hx hb hts hfX11 hown hK hP q178 eq178 rfl 0 (by decide) (hts (.fieldLink RX11 10 "ColdShips" "world" "LColdShips$World;") wa_15) (fun _ h9 => h9) rfl dX11_cargo_243 ?_
                  have hf_179 : f175 (ρ h0 0) = .inr (10, [.int o73_x0, .int o73_x1, .int o73_x2, .int o73_x3, .int o73_x4, .int o73_x5, .int o73_x6, .ref (ρ (ρ h0 0) 7), .ref (ρ (ρ h0 0) 8), .ref (ρ (ρ h0 0) 9), .ref (ρ (ρ h0 0) 10), .ref (ρ (ρ h0 0) 11), .ref (ρ (ρ h0 0) 12), .ref (ρ (ρ h0 0) 13), .ref (ρ (ρ h0 0) 14), .ref (ρ (ρ h0 0) 15), .ref (ρ (ρ h0 0) 16), .ref (ρ (ρ h0 0) 17), .ref (ρ (ρ h0 0) 18)]) := (hF176 _ (by rw [y53]; decide)).trans hf_169
                  obtain ⟨q180, eq180⟩ := tp_pos (tp_in hG y53 (by decide)) hf_179
                  refine va_getN (D := (dC, dI)) (ci := 10) (v := .ref (ρ (ρ h0 0) 18)) (C := RX10) (T := TX10) (N := 19) hx hb hts hfX10 hown hK hP q180 eq180 rfl 18 (by decide) (va_Nw.use rfl (hN.1 (.fieldLinkNest RX11 319 "ColdShips$World" "cargoes" "LColdShips$Rows;" "ColdShips") nzw_87)) (fun _ h9 => h9) rfl dX11_cargo_246 ?_
                  have hf_181 : f175 (ρ (ρ h0 0) 18) = .inr (4, [.int o101_x0, .ref (ρ (ρ (ρ h0 0) 18) 1), .int o101_x2]) := (hF176 _ (by rw [y72]; decide)).trans hf_171
                  obtain ⟨q182, eq182⟩ := tp_pos (tp_in hG y72 (by decide)) hf_181
                  refine va_getN (D := (dC, dI)) (ci := 4) (v := .int o101_x2) (C := RX4) (T := TX4) (N := 3) hx hb hts hfX4 hown hK hP q182 eq182 rfl 2 (by decide) (va_Nw.use rfl (hN.1 (.fieldLinkNest RX11 242 "ColdShips$Rows" "size" "I" "ColdShips") nzw_4)) (fun _ h9 => h9) rfl dX11_cargo_249 ?_
                  have hFc := tp_fr hD hS hA
                  refine va_calli (va_runV (As := [.int o101_x2]) (rest := []) ⟨hx, hb, hml, hown, hts⟩ (t_X11_accept l dC dI _ Ω κ τ ν ρ L f175 hG hT h0 o101_x2 ht_h0) (cwV 1 hts gX11_cargo_X11_accept rfl rfl rfl ⟨rfl, pd_X11_accept⟩ ⟨Nat.le_of_ble_eq_true rfl, Nat.le_of_ble_eq_true rfl⟩) ⟨pz_blind, va_recv hK hP (ci := 11) (q0 := q178) rfl eq178, pz_pre hP hK hD hN⟩ rfl rfl hl.1 rfl (lv_room (Nat.le_of_ble_eq_true rfl)) dX11_cargo_252 ⟨Nat.le_of_ble_eq_true rfl, Nat.le_of_ble_eq_true rfl⟩) hS (fun q _ h => hFc q h) hFc (fun r183 f185 t H1 locs ht hvm hw184 hB hz1 hk1 hS => ?_)
                  obtain ⟨hT, hF186, hw184r, hw184p⟩ := hw184
                  have hR := hR.then hF186 (by decide)
                  have hP := hB.1; rw [ht] at hP; have hD := tp_ad f185 hD; clear hB hFc hz1 hk1; subst ht; generalize t.heap = H at hP hS ⊢
                  exact W.iret (v := r183) hx hb hr (fun t ht hW => ⟨⟨r183, f185, rfl, ⟨hT, hR, trivial, trivial⟩, by rw [ht]; exact hP, va_K.moved hW.alike hK, hD⟩, hS.F ht⟩) hS.2.2 dX11_cargo_255
                · have ic96 : r92.toInt = (-1) := zi_nef rfl rfl c96
                  refine lv_aload_n hx hb dX11_cargo_107 rfl (lv_at hl 1 rfl) ?_
                  refine lv_bipush (v := (-5)) hx hb dX11_cargo_108 (by decide) ?_
                  have hf_187 : f94 h0 = .inr (11, [.ref (ρ h0 0), .ref (ρ h0 1), .ref (ρ h0 2), .ref (ρ h0 3), .ref (ρ h0 4), .ref (ρ h0 5), .int o59_x6]) := (hF95 _ (by rw [ht_h0]; decide)).trans hf_o59
                  obtain ⟨q188, eq188⟩ := tp_pos (tp_in hG ht_h0 (by decide)) hf_187
                  have hFc := tp_fr hD hS hA
                  refine va_calli (va_runV (As := [.int (-5)]) (rest := []) ⟨hx, hb, hml, hown, hts⟩ (t_X11_refuse l dC dI _ Ω κ τ ν ρ L f94 hG hT h0 ((-5)) ht_h0) (cwV 1 hts gX11_cargo_X11_refuse rfl rfl rfl ⟨rfl, pd_X11_refuse⟩ ⟨Nat.le_of_ble_eq_true rfl, Nat.le_of_ble_eq_true rfl⟩) ⟨pz_blind, va_recv hK hP (ci := 11) (q0 := q188) rfl eq188, pz_pre hP hK hD hN⟩ rfl rfl hl.1 rfl (lv_room (Nat.le_of_ble_eq_true rfl)) dX11_cargo_110 ⟨Nat.le_of_ble_eq_true rfl, Nat.le_of_ble_eq_true rfl⟩) hS (fun q _ h => hFc q h) hFc (fun r189 f191 t H1 locs ht hvm hw190 hB hz1 hk1 hS => ?_)
                  obtain ⟨hT, hF192, hw190r, hw190p⟩ := hw190
                  have hR := hR.then hF192 (by decide)
                  have hP := hB.1; rw [ht] at hP; have hD := tp_ad f191 hD; clear hB hFc hz1 hk1; subst ht; generalize t.heap = H at hP hS ⊢
                  exact W.iret (v := r189) hx hb hr (fun t ht hW => ⟨⟨r189, f191, rfl, ⟨hT, hR, trivial, trivial⟩, by rw [ht]; exact hP, va_K.moved hW.alike hK, hD⟩, hS.F ht⟩) hS.2.2 dX11_cargo_113
              · have ic87 : v.toInt = u.toInt := zi_nef rfl rfl c87
                refine lv_aload_n hx hb dX11_cargo_82 rfl (lv_at hl 0 rfl) ?_
                refine lv_bipush (v := (-3)) hx hb dX11_cargo_83 (by decide) ?_
                have hFc := tp_fr hD hS hA
                refine va_calli (va_runV (As := [.int (-3)]) (rest := []) ⟨hx, hb, hml, hown, hts⟩ (t_X11_refuse l dC dI _ Ω κ τ ν ρ L f hG hT h0 ((-3)) ht_h0) (cwV 1 hts gX11_cargo_X11_refuse rfl rfl rfl ⟨rfl, pd_X11_refuse⟩ ⟨Nat.le_of_ble_eq_true rfl, Nat.le_of_ble_eq_true rfl⟩) ⟨pz_blind, va_recv hK hP (ci := 11) (q0 := q60) rfl eq60, pz_pre hP hK hD hN⟩ rfl rfl hl.1 rfl (lv_room (Nat.le_of_ble_eq_true rfl)) dX11_cargo_85 ⟨Nat.le_of_ble_eq_true rfl, Nat.le_of_ble_eq_true rfl⟩) hS (fun q _ h => hFc q h) hFc (fun r193 f195 t H1 locs ht hvm hw194 hB hz1 hk1 hS => ?_)
                obtain ⟨hT, hF196, hw194r, hw194p⟩ := hw194
                have hR := hR.then hF196 (by decide)
                have hP := hB.1; rw [ht] at hP; have hD := tp_ad f195 hD; clear hB hFc hz1 hk1; subst ht; generalize t.heap = H at hP hS ⊢
                exact W.iret (v := r193) hx hb hr (fun t ht hW => ⟨⟨r193, f195, rfl, ⟨hT, hR, trivial, trivial⟩, by rw [ht]; exact hP, va_K.moved hW.alike hK, hD⟩, hS.F ht⟩) hS.2.2 dX11_cargo_88
            · have ic85 : r83.toInt = 0 := zi_nef rfl rfl c85
              refine lv_aload_n hx hb dX11_cargo_70 rfl (lv_at hl 0 rfl) ?_
              refine lv_bipush (v := (-2)) hx hb dX11_cargo_71 (by decide) ?_
              have hFc := tp_fr hD hS hA
              refine va_calli (va_runV (As := [.int (-2)]) (rest := []) ⟨hx, hb, hml, hown, hts⟩ (t_X11_refuse l dC dI _ Ω κ τ ν ρ L f hG hT h0 ((-2)) ht_h0) (cwV 1 hts gX11_cargo_X11_refuse rfl rfl rfl ⟨rfl, pd_X11_refuse⟩ ⟨Nat.le_of_ble_eq_true rfl, Nat.le_of_ble_eq_true rfl⟩) ⟨pz_blind, va_recv hK hP (ci := 11) (q0 := q60) rfl eq60, pz_pre hP hK hD hN⟩ rfl rfl hl.1 rfl (lv_room (Nat.le_of_ble_eq_true rfl)) dX11_cargo_73 ⟨Nat.le_of_ble_eq_true rfl, Nat.le_of_ble_eq_true rfl⟩) hS (fun q _ h => hFc q h) hFc (fun r197 f199 t H1 locs ht hvm hw198 hB hz1 hk1 hS => ?_)
              obtain ⟨hT, hF200, hw198r, hw198p⟩ := hw198
              have hR := hR.then hF200 (by decide)
              have hP := hB.1; rw [ht] at hP; have hD := tp_ad f199 hD; clear hB hFc hz1 hk1; subst ht; generalize t.heap = H at hP hS ⊢
              exact W.iret (v := r197) hx hb hr (fun t ht hW => ⟨⟨r197, f199, rfl, ⟨hT, hR, trivial, trivial⟩, by rw [ht]; exact hP, va_K.moved hW.alike hK, hD⟩, hS.F ht⟩) hS.2.2 dX11_cargo_76
        · have ic51 : r49.toInt = 0 := zi_nef rfl rfl c51
          refine lv_aload_n hx hb dX11_cargo_42 rfl (lv_at hl 0 rfl) ?_
          refine lv_iconst (v := (-1)) hx hb dX11_cargo_43 (by decide) ?_
          obtain ⟨y201, y202, y203, y204, y205, y206⟩ := tpg_12 hG ht_h0
          obtain ⟨o207_x6, hf_o207⟩ := tpo_12 hT ht_h0
          obtain ⟨q208, eq208⟩ := tp_pos (tp_in hG ht_h0 (by decide)) hf_o207
          have hFc := tp_fr hD hS hA
          refine va_calli (va_runV (As := [.int (-1)]) (rest := []) ⟨hx, hb, hml, hown, hts⟩ (t_X11_refuse l dC dI _ Ω κ τ ν ρ L f hG hT h0 ((-1)) ht_h0) (cwV 1 hts gX11_cargo_X11_refuse rfl rfl rfl ⟨rfl, pd_X11_refuse⟩ ⟨Nat.le_of_ble_eq_true rfl, Nat.le_of_ble_eq_true rfl⟩) ⟨pz_blind, va_recv hK hP (ci := 11) (q0 := q208) rfl eq208, pz_pre hP hK hD hN⟩ rfl rfl hl.1 rfl (lv_room (Nat.le_of_ble_eq_true rfl)) dX11_cargo_44 ⟨Nat.le_of_ble_eq_true rfl, Nat.le_of_ble_eq_true rfl⟩) hS (fun q _ h => hFc q h) hFc (fun r209 f211 t H1 locs ht hvm hw210 hB hz1 hk1 hS => ?_)
          obtain ⟨hT, hF212, hw210r, hw210p⟩ := hw210
          have hR := hR.then hF212 (by decide)
          have hP := hB.1; rw [ht] at hP; have hD := tp_ad f211 hD; clear hB hFc hz1 hk1; subst ht; generalize t.heap = H at hP hS ⊢
          exact W.iret (v := r209) hx hb hr (fun t ht hW => ⟨⟨r209, f211, rfl, ⟨hT, hR, trivial, trivial⟩, by rw [ht]; exact hP, va_K.moved hW.alike hK, hD⟩, hS.F ht⟩) hS.2.2 dX11_cargo_47
set_option maxHeartbeats 4000000 in
set_option maxRecDepth 100000 in
theorem t_X11_clear (l : Launch) (dC : Nat → ClassId) (dI : Nat → Nat → Nat) (sz : Nat) (Ω : Nat → (Nat → Nat) → va_E → Prop) (κ : Nat → ClassId) (τ ν : Nat → Nat) (ρ : Nat → Nat → Nat) (L : List Nat) (f : Nat → va_E) (hG : tp_G τ ν ρ L) (hT : tp_T Ω κ τ ν ρ f) (h0 : Nat) (ht_h0 : τ h0 = 12) : Met l yX11_clear wqX11_clear ({ frames := 2, cells := 0, slots := 0, locals := 400 }) (va_Pc [.ref h0] (pz_B dC dI (tp_K κ) (va_pl L f) sz)) (va_Qi (fun (r : Int32) (f1 : Nat → va_E) => tp_T Ω κ τ ν ρ f1 ∧ tp_F τ [2, 3, 4, 5, 6, 7, 8, 9, 10, 11, 12, 20, 21, 22, 26, 27, 28] f f1 ∧ True ∧ True) (fun (f1 : Nat → va_E) (t : State) => pz_E dC dI (tp_K κ) (va_A (va_pl L f) sz) (va_pl L f1) t) (va_A (va_pl L f) sz)) 0 0 (va_A (va_pl L f) sz) := by
  refine Met.ofW (cc := cX11_clear) (maxL := 2) (ret := some .int) (by decide) rfl ?_
  intro p e s m args below meth c s₁ B hml hv
  obtain ⟨rfl, hsz, hP, hK, hD0, hN⟩ := hv
  have hx := B.exec
  have hb := B.bytes
  have hr := B.returns
  have hts := fun (w : Cond) (h : w ∈ WALL) => atoms_spec (ws := wqX11_clear) B.pre w (List.mem_cons_of_mem _ h)
  have hown : s.vm.findClass RX11 = some m.cls := findClass_of_methodNamed B.named
  have hlocks := B.notSynchronized
  subst hsz
  have hD := hD0.self (sz := s.heap.size)
  generalize hAe : va_A (va_pl L f) s.heap.size = A at hD ⊢
  have hA : ∀ q : Nat, s.heap.size ≤ q → A q := fun q h => by rw [← hAe]; exact Or.inr h
  have hS : va_S A s.heap s.heap [] := va_S.rf
  have hR : tp_F τ [2, 3, 4, 5, 6, 7, 8, 9, 10, 11, 12, 20, 21, 22, 26, 27, 28] f f := tp_F.rf
  have hl := lv_entry ([.ref h0]) (n := 2) (Nat.le_of_ble_eq_true rfl)
  rw [lg_entry_eq]
  generalize (lg_sl ([.ref h0]) ++ List.replicate (2 - (lg_sl ([.ref h0])).length) Slot.unset).toArray = ls at hl ⊢
  have hl : lv_has ls 2 [(0, .ref h0)] := hl
  refine lv_aload_n hx hb dX11_clear_0 rfl (lv_at hl 0 rfl) ?_
  obtain ⟨y1, y2, y3, y4, y5, y6⟩ := tpg_12 hG ht_h0
  obtain ⟨o7_x6, hf_o7⟩ := tpo_12 hT ht_h0
  obtain ⟨q8, eq8⟩ := tp_pos (tp_in hG ht_h0 (by decide)) hf_o7
  refine va_get (D := (dC, dI)) (ci := 11) (v := .ref (ρ h0 0)) (C := RX11) (T := TX11) (N := 7) hx hb hts hfX11 hown hK hP q8 eq8 rfl 0 (by decide) (hts (.fieldLink RX11 10 "ColdShips" "world" "LColdShips$World;") wa_15) (fun _ h9 => h9) rfl dX11_clear_1 ?_
  obtain ⟨⟨y9, y9n⟩, ⟨y10, y10n⟩, y11, y12, y13, y14, y15, y16, ⟨y17, y17w, y17m⟩, ⟨y18, y18w, y18m⟩, ⟨y19, y19w, y19m⟩, ⟨y20, y20w, y20m⟩⟩ := tpg_11 hG y1
  obtain ⟨o21_x0, o21_x1, o21_x2, o21_x3, o21_x4, o21_x5, o21_x6, hf_o21, ro21_0, ro21_1, ro21_2, ro21_3⟩ := tpo_11 hT y1
  obtain ⟨q22, eq22⟩ := tp_pos (tp_in hG y1 (by decide)) hf_o21
  refine va_getN (D := (dC, dI)) (ci := 10) (v := .ref (ρ (ρ h0 0) 18)) (C := RX10) (T := TX10) (N := 19) hx hb hts hfX10 hown hK hP q22 eq22 rfl 18 (by decide) (va_Nw.use rfl (hN.1 (.fieldLinkNest RX11 319 "ColdShips$World" "cargoes" "LColdShips$Rows;" "ColdShips") nzw_87)) (fun _ h9 => h9) rfl dX11_clear_4 ?_
  obtain ⟨⟨y23, y23n⟩, ⟨y24a, y24b, y24c⟩⟩ := tpg_5 hG y20
  obtain ⟨o25_x0, o25_x2, hf_o25, ro25_0, ro25_1⟩ := tpo_5 hT y20
  obtain ⟨q26, eq26⟩ := tp_pos (tp_in hG y20 (by decide)) hf_o25
  refine va_getN (D := (dC, dI)) (ci := 4) (v := .int o25_x2) (C := RX4) (T := TX4) (N := 3) hx hb hts hfX4 hown hK hP q26 eq26 rfl 2 (by decide) (va_Nw.use rfl (hN.1 (.fieldLinkNest RX11 242 "ColdShips$Rows" "size" "I" "ColdShips") nzw_4)) (fun _ h9 => h9) rfl dX11_clear_7 ?_
  refine lv_istore_n (lv' := [(1, .int o25_x2), (0, .ref h0)]) hx hb dX11_clear_10 rfl hl (by decide) rfl (fun ls hl => ?_)
  refine lv_aload_n hx hb dX11_clear_11 rfl (lv_at hl 1 rfl) ?_
  refine va_get (D := (dC, dI)) (ci := 11) (v := .ref (ρ h0 0)) (C := RX11) (T := TX11) (N := 7) hx hb hts hfX11 hown hK hP q8 eq8 rfl 0 (by decide) (hts (.fieldLink RX11 10 "ColdShips" "world" "LColdShips$World;") wa_15) (fun _ h9 => h9) rfl dX11_clear_12 ?_
  refine va_getN (D := (dC, dI)) (ci := 10) (v := .ref (ρ (ρ h0 0) 18)) (C := RX10) (T := TX10) (N := 19) hx hb hts hfX10 hown hK hP q22 eq22 rfl 18 (by decide) (va_Nw.use rfl (hN.1 (.fieldLinkNest RX11 319 "ColdShips$World" "cargoes" "LColdShips$Rows;" "ColdShips") nzw_87)) (fun _ h9 => h9) rfl dX11_clear_15 ?_
  refine lv_iconst (v := 0) hx hb dX11_clear_18 (by decide) ?_
  refine va_putN (D := (dC, dI)) (ci := 4) (v := .int 0) (ty := .int) (C := RX4) (T := TX4) (N := 3) hx hb hts hfX4 tyX4 tyX4_ok nmX4 hown hK hP hD hS q26 eq26 rfl 2 (by decide) (va_Nw.use rfl (hN.1 (.fieldLinkNest RX11 242 "ColdShips$Rows" "size" "I" "ColdShips") nzw_4)) (fun _ h9 => h9) rfl (tyX4_ok 2 (by decide)) rfl rfl (Nat.le_of_ble_eq_true rfl) dX11_clear_19 (tp_k (.inr (4, [.int o25_x0, .ref (ρ (ρ (ρ h0 0) 18) 1), .int 0])) hD (tp_in hG y20 (by decide)) eq26 (fun f27 H locs hP hD hS g29 k28 => ?_))
  have hT := hT.up y20 g29 k28 ⟨_, _, rfl, (by first | decide | omega | (have : (0 : Int32).toInt = 0 := rfl; omega)), (by first | decide | omega | (have : (0 : Int32).toInt = 0 := rfl; omega))⟩
  have hR := hR.up y20 (by decide) k28
  refine lv_iload_n hx hb dX11_clear_22 rfl (lv_at hl 0 rfl) ?_
  exact W.iret (v := o25_x2) hx hb hr (fun t ht hW => ⟨⟨o25_x2, f27, rfl, ⟨hT, hR, trivial, trivial⟩, by rw [ht]; exact hP, va_K.moved hW.alike hK, hD⟩, hS.F ht⟩) hS.2.2 dX11_clear_23
set_option maxHeartbeats 4000000 in
set_option maxRecDepth 100000 in
theorem t_X11_best (l : Launch) (dC : Nat → ClassId) (dI : Nat → Nat → Nat) (sz : Nat) (Ω : Nat → (Nat → Nat) → va_E → Prop) (κ : Nat → ClassId) (τ ν : Nat → Nat) (ρ : Nat → Nat → Nat) (L : List Nat) (f : Nat → va_E) (hG : tp_G τ ν ρ L) (hT : tp_T Ω κ τ ν ρ f) (h0 : Nat) (v : Int32) (ht_h0 : τ h0 = 12) : Met l yX11_best wqX11_best ({ frames := 12, cells := 0, slots := 0, locals := 4400 }) (va_Pc [.ref h0, .int v] (pz_B dC dI (tp_K κ) (va_pl L f) sz)) (va_Ql (fun (r : Int64) (f1 : Nat → va_E) => tp_T Ω κ τ ν ρ f1 ∧ tp_F τ [2, 3, 4, 5, 6, 7, 8, 9, 10, 11, 12, 20, 21, 22, 26, 27, 28] f f1 ∧ True ∧ True) (fun (f1 : Nat → va_E) (t : State) => pz_E dC dI (tp_K κ) (va_A (va_pl L f) sz) (va_pl L f1) t) (va_A (va_pl L f) sz)) 0 0 (va_A (va_pl L f) sz) := by
  refine Met.ofW (cc := cX11_best) (maxL := 2) (ret := some .long) (by decide) rfl ?_
  intro p e s m args below meth c s₁ B hml hv
  obtain ⟨rfl, hsz, hP, hK, hD0, hN⟩ := hv
  have hx := B.exec
  have hb := B.bytes
  have hr := B.returns
  have hts := fun (w : Cond) (h : w ∈ WALL) => atoms_spec (ws := wqX11_best) B.pre w (List.mem_cons_of_mem _ h)
  have hown : s.vm.findClass RX11 = some m.cls := findClass_of_methodNamed B.named
  have hlocks := B.notSynchronized
  subst hsz
  have hD := hD0.self (sz := s.heap.size)
  generalize hAe : va_A (va_pl L f) s.heap.size = A at hD ⊢
  have hA : ∀ q : Nat, s.heap.size ≤ q → A q := fun q h => by rw [← hAe]; exact Or.inr h
  have hS : va_S A s.heap s.heap [] := va_S.rf
  have hR : tp_F τ [2, 3, 4, 5, 6, 7, 8, 9, 10, 11, 12, 20, 21, 22, 26, 27, 28] f f := tp_F.rf
  have hl := lv_entry ([.ref h0, .int v]) (n := 2) (Nat.le_of_ble_eq_true rfl)
  rw [lg_entry_eq]
  generalize (lg_sl ([.ref h0, .int v]) ++ List.replicate (2 - (lg_sl ([.ref h0, .int v])).length) Slot.unset).toArray = ls at hl ⊢
  have hl : lv_has ls 2 [(0, .ref h0), (1, .int v)] := hl
  refine lv_iload_n hx hb dX11_best_0 rfl (lv_at hl 1 rfl) ?_
  refine pz_calli (va_runS (As := [.int v]) (rest := []) ⟨hx, hb, hml, hown, hts⟩ (t_X11_isHour l dC dI _ v (v.toInt) rfl) (va_cwS 1 hts gX11_best_X11_isHour rfl rfl rfl pd_X11_isHour ⟨Nat.le_of_ble_eq_true rfl, Nat.le_of_ble_eq_true rfl⟩) ⟨pz_blind, pz_pre pz_P0 (hK.sub (tys' := []) [] rfl) (pz_D0 (A := fun _ => True)) hN⟩ rfl rfl hl.1 rfl (lv_room (Nat.le_of_ble_eq_true rfl)) dX11_best_1 ⟨Nat.le_of_ble_eq_true rfl, Nat.le_of_ble_eq_true rfl⟩) (fun r1 hw2 => ?_)
  obtain ⟨hw2r, hw2p⟩ := hw2
  refine lv_if_eq (tgt := 18) hx hb dX11_best_4 (by decide) (fun c3 => ?_) (fun c3 => ?_)
  · have ic3 : r1.toInt = 0 := zi_eq rfl rfl c3
    refine lv_ldc2 (own := RX11) (v := (-1)) hx hb hown (hts (.constantLong RX11 198 (-1)) wa_660) dX11_best_18 ?_
    exact W.lret (v := (-1)) hx hb hr (fun t ht hW => ⟨⟨(-1), f, rfl, ⟨hT, hR, trivial, trivial⟩, by rw [ht]; exact hP, va_K.moved hW.alike hK, hD⟩, hS.F ht⟩) hS.2.2 dX11_best_21
  · have ic3 : r1.toInt ≠ 0 := zi_eqf rfl rfl c3
    have p4 : 0 ≤ (v.toInt) ∧ (v.toInt) ≤ 2399 := (tp_cond.yes hw2p) (by omega)
    refine lv_aload_n hx hb dX11_best_7 rfl (lv_at hl 0 rfl) ?_
    obtain ⟨y5, y6, y7, y8, y9, y10⟩ := tpg_12 hG ht_h0
    obtain ⟨o11_x6, hf_o11⟩ := tpo_12 hT ht_h0
    obtain ⟨q12, eq12⟩ := tp_pos (tp_in hG ht_h0 (by decide)) hf_o11
    refine va_get (D := (dC, dI)) (ci := 11) (v := .ref (ρ h0 5)) (C := RX11) (T := TX11) (N := 7) hx hb hts hfX11 hown hK hP q12 eq12 rfl 5 (by decide) (hts (.fieldLink RX11 46 "ColdShips" "planner" "LColdShips$Planner;") wa_32) (fun _ h9 => h9) rfl dX11_best_8 ?_
    refine lv_iload_n hx hb dX11_best_11 rfl (lv_at hl 1 rfl) ?_
    obtain ⟨y13, ⟨y14, y14n⟩, ⟨y15, y15n⟩, ⟨y16, y16n⟩, ⟨y17, y17n⟩, ⟨y18, y18n⟩, ⟨y19, y19n⟩, ⟨y20, y20n⟩, ⟨y21, y21n⟩, ⟨y22, y22n⟩⟩ := tpg_2 hG y10
    obtain ⟨o23_x5, o23_x6, o23_x7, o23_x8, o23_x9, hf_o23, ro23_0⟩ := tpo_2 hT y10
    obtain ⟨q24, eq24⟩ := tp_pos (tp_in hG y10 (by decide)) hf_o23
    have hFc := tp_fr hD hS hA
    refine va_calll (va_runV (As := [.int v]) (rest := []) ⟨hx, hb, hml, hown, hts⟩ (t_X1_findBest l dC dI _ Ω κ τ ν ρ L f hG hT (ρ h0 5) v y10) (cwV 1 hts gX11_best_X1_findBest rfl rfl rfl ⟨rfl, pd_X1_findBest⟩ ⟨Nat.le_of_ble_eq_true rfl, Nat.le_of_ble_eq_true rfl⟩) ⟨pz_blind, va_recv hK hP (ci := 1) (q0 := q24) rfl eq24, pz_pre hP hK hD hN⟩ rfl rfl hl.1 rfl (lv_room (Nat.le_of_ble_eq_true rfl)) dX11_best_12 ⟨Nat.le_of_ble_eq_true rfl, Nat.le_of_ble_eq_true rfl⟩) hS (fun q _ h => hFc q h) hFc (fun r25 f27 t H1 locs ht hvm hw26 hB hz1 hk1 hS => ?_)
    obtain ⟨hT, hF28, hw26r, hw26p⟩ := hw26
    have hR := hR.then hF28 (by decide)
    have hP := hB.1; rw [ht] at hP; have hD := tp_ad f27 hD; clear hB hFc hz1 hk1; subst ht; generalize t.heap = H at hP hS ⊢
    refine lv_goto (tgt := 21) hx hb dX11_best_15 (by decide) ?_
    exact W.lret (v := r25) hx hb hr (fun t ht hW => ⟨⟨r25, f27, rfl, ⟨hT, hR, trivial, trivial⟩, by rw [ht]; exact hP, va_K.moved hW.alike hK, hD⟩, hS.F ht⟩) hS.2.2 dX11_best_21
set_option maxHeartbeats 4000000 in
set_option maxRecDepth 100000 in
theorem t_X11_voyage (l : Launch) (dC : Nat → ClassId) (dI : Nat → Nat → Nat) (sz : Nat) (Ω : Nat → (Nat → Nat) → va_E → Prop) (κ : Nat → ClassId) (τ ν : Nat → Nat) (ρ : Nat → Nat → Nat) (L : List Nat) (f : Nat → va_E) (hG : tp_G τ ν ρ L) (hT : tp_T Ω κ τ ν ρ f) (h0 : Nat) (v : Int32) (u : Int32) (ht_h0 : τ h0 = 12) : Met l yX11_voyage wqX11_voyage ({ frames := 3, cells := 0, slots := 0, locals := 800 }) (va_Pc [.ref h0, .int v, .int u] (pz_B dC dI (tp_K κ) (va_pl L f) sz)) (va_Ql (fun (r : Int64) (f1 : Nat → va_E) => tp_T Ω κ τ ν ρ f1 ∧ tp_F τ [2, 3, 4, 5, 6, 7, 8, 9, 10, 11, 12, 20, 21, 22, 26, 27, 28] f f1 ∧ True ∧ True) (fun (f1 : Nat → va_E) (t : State) => pz_E dC dI (tp_K κ) (va_A (va_pl L f) sz) (va_pl L f1) t) (va_A (va_pl L f) sz)) 0 0 (va_A (va_pl L f) sz) := by
  refine Met.ofW (cc := cX11_voyage) (maxL := 3) (ret := some .long) (by decide) rfl ?_
  intro p e s m args below meth c s₁ B hml hv
  obtain ⟨rfl, hsz, hP, hK, hD0, hN⟩ := hv
  have hx := B.exec
  have hb := B.bytes
  have hr := B.returns
  have hts := fun (w : Cond) (h : w ∈ WALL) => atoms_spec (ws := wqX11_voyage) B.pre w (List.mem_cons_of_mem _ h)
  have hown : s.vm.findClass RX11 = some m.cls := findClass_of_methodNamed B.named
  have hlocks := B.notSynchronized
  subst hsz
  have hD := hD0.self (sz := s.heap.size)
  generalize hAe : va_A (va_pl L f) s.heap.size = A at hD ⊢
  have hA : ∀ q : Nat, s.heap.size ≤ q → A q := fun q h => by rw [← hAe]; exact Or.inr h
  have hS : va_S A s.heap s.heap [] := va_S.rf
  have hR : tp_F τ [2, 3, 4, 5, 6, 7, 8, 9, 10, 11, 12, 20, 21, 22, 26, 27, 28] f f := tp_F.rf
  have hl := lv_entry ([.ref h0, .int v, .int u]) (n := 3) (Nat.le_of_ble_eq_true rfl)
  rw [lg_entry_eq]
  generalize (lg_sl ([.ref h0, .int v, .int u]) ++ List.replicate (3 - (lg_sl ([.ref h0, .int v, .int u])).length) Slot.unset).toArray = ls at hl ⊢
  have hl : lv_has ls 3 [(0, .ref h0), (1, .int v), (2, .int u)] := hl
  refine lv_iload_n hx hb dX11_voyage_0 rfl (lv_at hl 1 rfl) ?_
  refine lv_iconst (v := 0) hx hb dX11_voyage_1 (by decide) ?_
  refine lv_aload_n hx hb dX11_voyage_2 rfl (lv_at hl 0 rfl) ?_
  obtain ⟨y1, y2, y3, y4, y5, y6⟩ := tpg_12 hG ht_h0
  obtain ⟨o7_x6, hf_o7⟩ := tpo_12 hT ht_h0
  obtain ⟨q8, eq8⟩ := tp_pos (tp_in hG ht_h0 (by decide)) hf_o7
  refine va_get (D := (dC, dI)) (ci := 11) (v := .ref (ρ h0 5)) (C := RX11) (T := TX11) (N := 7) hx hb hts hfX11 hown hK hP q8 eq8 rfl 5 (by decide) (hts (.fieldLink RX11 46 "ColdShips" "planner" "LColdShips$Planner;") wa_32) (fun _ h9 => h9) rfl dX11_voyage_3 ?_
  obtain ⟨y9, ⟨y10, y10n⟩, ⟨y11, y11n⟩, ⟨y12, y12n⟩, ⟨y13, y13n⟩, ⟨y14, y14n⟩, ⟨y15, y15n⟩, ⟨y16, y16n⟩, ⟨y17, y17n⟩, ⟨y18, y18n⟩⟩ := tpg_2 hG y6
  obtain ⟨o19_x5, o19_x6, o19_x7, o19_x8, o19_x9, hf_o19, ro19_0⟩ := tpo_2 hT y6
  obtain ⟨q20, eq20⟩ := tp_pos (tp_in hG y6 (by decide)) hf_o19
  refine va_getN (D := (dC, dI)) (ci := 1) (v := .int o19_x9) (C := RX1) (T := TX1) (N := 15) hx hb hts hfX1 hown hK hP q20 eq20 rfl 9 (by decide) (va_Nw.use rfl (hN.1 (.fieldLinkNest RX11 325 "ColdShips$Planner" "planned" "I" "ColdShips") nzw_93)) (fun _ h9 => h9) rfl dX11_voyage_6 ?_
  refine lv_iconst (v := 1) hx hb dX11_voyage_9 (by decide) ?_
  refine lv_isub hx hb dX11_voyage_10 ?_
  refine lv_topi (fun z21 ez21 => ?_)
  have iz21 : z21.toInt = o19_x9.toInt - 1 := zi_sub ez21 rfl rfl (by omega) (by omega)
  refine pz_calli (va_runS (As := [.int v, .int 0, .int z21]) (rest := []) ⟨hx, hb, hml, hown, hts⟩ (t_X11_within l dC dI _ v (0) z21 (v.toInt) (0) (z21.toInt) rfl rfl rfl) (va_cwS 3 hts gX11_voyage_X11_within rfl rfl rfl pd_X11_within ⟨Nat.le_of_ble_eq_true rfl, Nat.le_of_ble_eq_true rfl⟩) ⟨pz_blind, pz_pre pz_P0 (hK.sub (tys' := []) [] rfl) (pz_D0 (A := fun _ => True)) hN⟩ rfl rfl hl.1 rfl (lv_room (Nat.le_of_ble_eq_true rfl)) dX11_voyage_11 ⟨Nat.le_of_ble_eq_true rfl, Nat.le_of_ble_eq_true rfl⟩) (fun r22 hw23 => ?_)
  obtain ⟨hw23r, hw23p⟩ := hw23
  refine lv_if_ne (tgt := 21) hx hb dX11_voyage_14 (by decide) (fun c24 => ?_) (fun c24 => ?_)
  · have ic24 : r22.toInt ≠ 0 := zi_ne rfl rfl c24
    have p25 : (0) ≤ (v.toInt) ∧ (v.toInt) ≤ (z21.toInt) := (tp_cond.yes hw23p) (by omega)
    refine lv_iload_n hx hb dX11_voyage_21 rfl (lv_at hl 2 rfl) ?_
    refine lv_if_ne (tgt := 36) hx hb dX11_voyage_22 (by decide) (fun c26 => ?_) (fun c26 => ?_)
    · have ic26 : u.toInt ≠ 0 := zi_ne rfl rfl c26
      refine lv_aload_n hx hb dX11_voyage_36 rfl (lv_at hl 0 rfl) ?_
      refine va_get (D := (dC, dI)) (ci := 11) (v := .ref (ρ h0 5)) (C := RX11) (T := TX11) (N := 7) hx hb hts hfX11 hown hK hP q8 eq8 rfl 5 (by decide) (hts (.fieldLink RX11 46 "ColdShips" "planner" "LColdShips$Planner;") wa_32) (fun _ h9 => h9) rfl dX11_voyage_37 ?_
      refine va_getN (D := (dC, dI)) (ci := 1) (v := .ref (ρ (ρ h0 5) 10)) (C := RX1) (T := TX1) (N := 15) hx hb hts hfX1 hown hK hP q20 eq20 rfl 10 (by decide) (va_Nw.use rfl (hN.1 (.fieldLinkNest RX11 328 "ColdShips$Planner" "shipOf" "[I" "ColdShips") nzw_94)) (fun _ h9 => h9) rfl dX11_voyage_40 ?_
      refine lv_iload_n hx hb dX11_voyage_43 rfl (lv_at hl 1 rfl) ?_
      obtain ⟨g28, hf_o27⟩ := tpo_20 hT y14 y14n
      obtain ⟨q29, eq29⟩ := tp_pos (tp_in hG y14 (by decide)) hf_o27
      refine va_iald hx hb hK hP q29 0 eq29 rfl (vp_in_iff.mpr ⟨by omega, by omega⟩) dX11_voyage_44 ?_
      refine lv_topi (fun z30 ez30 => ?_)
      refine lv_iconst (v := (-1)) hx hb dX11_voyage_45 (by decide) ?_
      refine lv_icmp_ne (tgt := 53) hx hb dX11_voyage_46 (by decide) (fun c31 => ?_) (fun c31 => ?_)
      · have ic31 : z30.toInt ≠ (-1) := zi_ne rfl rfl c31
        refine lv_iload_n hx hb dX11_voyage_53 rfl (lv_at hl 2 rfl) ?_
        rcases zi_sw u 1 4 with h32 | h32
        · refine lv_tableOut (tgt := 127) hx hb dX11_voyage_54 h32 (by decide) ?_
          refine lv_ldc2 (own := RX11) (v := (-2000000000000000)) hx hb hown (hts (.constantLong RX11 281 (-2000000000000000)) wa_1124) dX11_voyage_127 ?_
          exact W.lret (v := (-2000000000000000)) hx hb hr (fun t ht hW => ⟨⟨(-2000000000000000), f, rfl, ⟨hT, hR, trivial, trivial⟩, by rw [ht]; exact hP, va_K.moved hW.alike hK, hD⟩, hS.F ht⟩) hS.2.2 dX11_voyage_130
        · rcases (show u.toInt = 1 ∨ u.toInt = 2 ∨ u.toInt = 3 ∨ u.toInt = 4 by omega) with h32k | h32k | h32k | h32k
          · refine lv_tableIn (tgt := 84) hx hb dX11_voyage_54 (by omega) (by omega) (by rw [h32k]; rfl) (by decide) ?_
            refine lv_aload_n hx hb dX11_voyage_84 rfl (lv_at hl 0 rfl) ?_
            refine va_get (D := (dC, dI)) (ci := 11) (v := .ref (ρ h0 5)) (C := RX11) (T := TX11) (N := 7) hx hb hts hfX11 hown hK hP q8 eq8 rfl 5 (by decide) (hts (.fieldLink RX11 46 "ColdShips" "planner" "LColdShips$Planner;") wa_32) (fun _ h9 => h9) rfl dX11_voyage_85 ?_
            refine va_getN (D := (dC, dI)) (ci := 1) (v := .ref (ρ (ρ h0 5) 11)) (C := RX1) (T := TX1) (N := 15) hx hb hts hfX1 hown hK hP q20 eq20 rfl 11 (by decide) (va_Nw.use rfl (hN.1 (.fieldLinkNest RX11 331 "ColdShips$Planner" "placeOf" "[I" "ColdShips") nzw_95)) (fun _ h9 => h9) rfl dX11_voyage_88 ?_
            refine lv_iload_n hx hb dX11_voyage_91 rfl (lv_at hl 1 rfl) ?_
            obtain ⟨g34, hf_o33⟩ := tpo_20 hT y15 y15n
            obtain ⟨q35, eq35⟩ := tp_pos (tp_in hG y15 (by decide)) hf_o33
            refine va_iald hx hb hK hP q35 0 eq35 rfl (vp_in_iff.mpr ⟨by omega, by omega⟩) dX11_voyage_92 ?_
            refine lv_topi (fun z36 ez36 => ?_)
            refine lv_i2l hx hb dX11_voyage_93 rfl ?_
            exact W.lret (v := z36.toInt64) hx hb hr (fun t ht hW => ⟨⟨z36.toInt64, f, rfl, ⟨hT, hR, trivial, trivial⟩, by rw [ht]; exact hP, va_K.moved hW.alike hK, hD⟩, hS.F ht⟩) hS.2.2 dX11_voyage_94
          · refine lv_tableIn (tgt := 95) hx hb dX11_voyage_54 (by omega) (by omega) (by rw [h32k]; rfl) (by decide) ?_
            refine lv_aload_n hx hb dX11_voyage_95 rfl (lv_at hl 0 rfl) ?_
            refine va_get (D := (dC, dI)) (ci := 11) (v := .ref (ρ h0 5)) (C := RX11) (T := TX11) (N := 7) hx hb hts hfX11 hown hK hP q8 eq8 rfl 5 (by decide) (hts (.fieldLink RX11 46 "ColdShips" "planner" "LColdShips$Planner;") wa_32) (fun _ h9 => h9) rfl dX11_voyage_96 ?_
            refine va_getN (D := (dC, dI)) (ci := 1) (v := .ref (ρ (ρ h0 5) 12)) (C := RX1) (T := TX1) (N := 15) hx hb hts hfX1 hown hK hP q20 eq20 rfl 12 (by decide) (va_Nw.use rfl (hN.1 (.fieldLinkNest RX11 334 "ColdShips$Planner" "loadOf" "[I" "ColdShips") nzw_96)) (fun _ h9 => h9) rfl dX11_voyage_99 ?_
            refine lv_iload_n hx hb dX11_voyage_102 rfl (lv_at hl 1 rfl) ?_
            obtain ⟨g38, hf_o37⟩ := tpo_20 hT y16 y16n
            obtain ⟨q39, eq39⟩ := tp_pos (tp_in hG y16 (by decide)) hf_o37
            refine va_iald hx hb hK hP q39 0 eq39 rfl (vp_in_iff.mpr ⟨by omega, by omega⟩) dX11_voyage_103 ?_
            refine lv_topi (fun z40 ez40 => ?_)
            refine lv_i2l hx hb dX11_voyage_104 rfl ?_
            exact W.lret (v := z40.toInt64) hx hb hr (fun t ht hW => ⟨⟨z40.toInt64, f, rfl, ⟨hT, hR, trivial, trivial⟩, by rw [ht]; exact hP, va_K.moved hW.alike hK, hD⟩, hS.F ht⟩) hS.2.2 dX11_voyage_105
          · refine lv_tableIn (tgt := 106) hx hb dX11_voyage_54 (by omega) (by omega) (by rw [h32k]; rfl) (by decide) ?_
            refine lv_aload_n hx hb dX11_voyage_106 rfl (lv_at hl 0 rfl) ?_
            refine va_get (D := (dC, dI)) (ci := 11) (v := .ref (ρ h0 5)) (C := RX11) (T := TX11) (N := 7) hx hb hts hfX11 hown hK hP q8 eq8 rfl 5 (by decide) (hts (.fieldLink RX11 46 "ColdShips" "planner" "LColdShips$Planner;") wa_32) (fun _ h9 => h9) rfl dX11_voyage_107 ?_
            refine va_getN (D := (dC, dI)) (ci := 1) (v := .ref (ρ (ρ h0 5) 13)) (C := RX1) (T := TX1) (N := 15) hx hb hts hfX1 hown hK hP q20 eq20 rfl 13 (by decide) (va_Nw.use rfl (hN.1 (.fieldLinkNest RX11 337 "ColdShips$Planner" "landOf" "[I" "ColdShips") nzw_97)) (fun _ h9 => h9) rfl dX11_voyage_110 ?_
            refine lv_iload_n hx hb dX11_voyage_113 rfl (lv_at hl 1 rfl) ?_
            obtain ⟨g42, hf_o41⟩ := tpo_20 hT y17 y17n
            obtain ⟨q43, eq43⟩ := tp_pos (tp_in hG y17 (by decide)) hf_o41
            refine va_iald hx hb hK hP q43 0 eq43 rfl (vp_in_iff.mpr ⟨by omega, by omega⟩) dX11_voyage_114 ?_
            refine lv_topi (fun z44 ez44 => ?_)
            refine lv_i2l hx hb dX11_voyage_115 rfl ?_
            exact W.lret (v := z44.toInt64) hx hb hr (fun t ht hW => ⟨⟨z44.toInt64, f, rfl, ⟨hT, hR, trivial, trivial⟩, by rw [ht]; exact hP, va_K.moved hW.alike hK, hD⟩, hS.F ht⟩) hS.2.2 dX11_voyage_116
          · refine lv_tableIn (tgt := 117) hx hb dX11_voyage_54 (by omega) (by omega) (by rw [h32k]; rfl) (by decide) ?_
            refine lv_aload_n hx hb dX11_voyage_117 rfl (lv_at hl 0 rfl) ?_
            refine va_get (D := (dC, dI)) (ci := 11) (v := .ref (ρ h0 5)) (C := RX11) (T := TX11) (N := 7) hx hb hts hfX11 hown hK hP q8 eq8 rfl 5 (by decide) (hts (.fieldLink RX11 46 "ColdShips" "planner" "LColdShips$Planner;") wa_32) (fun _ h9 => h9) rfl dX11_voyage_118 ?_
            refine va_getN (D := (dC, dI)) (ci := 1) (v := .ref (ρ (ρ h0 5) 14)) (C := RX1) (T := TX1) (N := 15) hx hb hts hfX1 hown hK hP q20 eq20 rfl 14 (by decide) (va_Nw.use rfl (hN.1 (.fieldLinkNest RX11 340 "ColdShips$Planner" "worthOf" "[J" "ColdShips") nzw_98)) (fun _ h9 => h9) rfl dX11_voyage_121 ?_
            refine lv_iload_n hx hb dX11_voyage_124 rfl (lv_at hl 1 rfl) ?_
            obtain ⟨g46, hf_o45⟩ := tpo_21 hT y18 y18n
            obtain ⟨q47, eq47⟩ := tp_pos (tp_in hG y18 (by decide)) hf_o45
            refine va_lald hx hb hK hP q47 1 eq47 rfl (vp_in_iff.mpr ⟨by omega, by omega⟩) dX11_voyage_125 ?_
            refine lv_topl (fun z48 ez48 => ?_)
            exact W.lret (v := z48) hx hb hr (fun t ht hW => ⟨⟨z48, f, rfl, ⟨hT, hR, trivial, trivial⟩, by rw [ht]; exact hP, va_K.moved hW.alike hK, hD⟩, hS.F ht⟩) hS.2.2 dX11_voyage_126
      · have ic31 : z30.toInt = (-1) := zi_nef rfl rfl c31
        refine lv_ldc2 (own := RX11) (v := (-2000000000000000)) hx hb hown (hts (.constantLong RX11 281 (-2000000000000000)) wa_1124) dX11_voyage_49 ?_
        exact W.lret (v := (-2000000000000000)) hx hb hr (fun t ht hW => ⟨⟨(-2000000000000000), f, rfl, ⟨hT, hR, trivial, trivial⟩, by rw [ht]; exact hP, va_K.moved hW.alike hK, hD⟩, hS.F ht⟩) hS.2.2 dX11_voyage_52
    · have ic26 : u.toInt = 0 := zi_nef rfl rfl c26
      refine lv_aload_n hx hb dX11_voyage_25 rfl (lv_at hl 0 rfl) ?_
      refine va_get (D := (dC, dI)) (ci := 11) (v := .ref (ρ h0 5)) (C := RX11) (T := TX11) (N := 7) hx hb hts hfX11 hown hK hP q8 eq8 rfl 5 (by decide) (hts (.fieldLink RX11 46 "ColdShips" "planner" "LColdShips$Planner;") wa_32) (fun _ h9 => h9) rfl dX11_voyage_26 ?_
      refine va_getN (D := (dC, dI)) (ci := 1) (v := .ref (ρ (ρ h0 5) 10)) (C := RX1) (T := TX1) (N := 15) hx hb hts hfX1 hown hK hP q20 eq20 rfl 10 (by decide) (va_Nw.use rfl (hN.1 (.fieldLinkNest RX11 328 "ColdShips$Planner" "shipOf" "[I" "ColdShips") nzw_94)) (fun _ h9 => h9) rfl dX11_voyage_29 ?_
      refine lv_iload_n hx hb dX11_voyage_32 rfl (lv_at hl 1 rfl) ?_
      obtain ⟨g50, hf_o49⟩ := tpo_20 hT y14 y14n
      obtain ⟨q51, eq51⟩ := tp_pos (tp_in hG y14 (by decide)) hf_o49
      refine va_iald hx hb hK hP q51 0 eq51 rfl (vp_in_iff.mpr ⟨by omega, by omega⟩) dX11_voyage_33 ?_
      refine lv_topi (fun z52 ez52 => ?_)
      refine lv_i2l hx hb dX11_voyage_34 rfl ?_
      exact W.lret (v := z52.toInt64) hx hb hr (fun t ht hW => ⟨⟨z52.toInt64, f, rfl, ⟨hT, hR, trivial, trivial⟩, by rw [ht]; exact hP, va_K.moved hW.alike hK, hD⟩, hS.F ht⟩) hS.2.2 dX11_voyage_35
  · have ic24 : r22.toInt = 0 := zi_nef rfl rfl c24
    refine lv_ldc2 (own := RX11) (v := (-2000000000000000)) hx hb hown (hts (.constantLong RX11 281 (-2000000000000000)) wa_1124) dX11_voyage_17 ?_
    exact W.lret (v := (-2000000000000000)) hx hb hr (fun t ht hW => ⟨⟨(-2000000000000000), f, rfl, ⟨hT, hR, trivial, trivial⟩, by rw [ht]; exact hP, va_K.moved hW.alike hK, hD⟩, hS.F ht⟩) hS.2.2 dX11_voyage_20
set_option maxHeartbeats 4000000 in
set_option maxRecDepth 100000 in
theorem t_X11_judge (l : Launch) (dC : Nat → ClassId) (dI : Nat → Nat → Nat) (sz : Nat) (Ω : Nat → (Nat → Nat) → va_E → Prop) (κ : Nat → ClassId) (τ ν : Nat → Nat) (ρ : Nat → Nat → Nat) (L : List Nat) (f : Nat → va_E) (hG : tp_G τ ν ρ L) (hT : tp_T Ω κ τ ν ρ f) (h0 : Nat) (v : Int32) (u : Int32) (a : Int32) (b : Int32) (a5 : Int32) (ht_h0 : τ h0 = 12) : Met l yX11_judge wqX11_judge ({ frames := 6, cells := 0, slots := 0, locals := 2000 }) (va_Pc [.ref h0, .int v, .int u, .int a, .int b, .int a5] (pz_B dC dI (tp_K κ) (va_pl L f) sz)) (va_Ql (fun (r : Int64) (f1 : Nat → va_E) => tp_T Ω κ τ ν ρ f1 ∧ tp_F τ [2, 3, 4, 5, 6, 7, 8, 9, 10, 11, 12, 20, 21, 22, 26, 27, 28] f f1 ∧ True ∧ True) (fun (f1 : Nat → va_E) (t : State) => pz_E dC dI (tp_K κ) (va_A (va_pl L f) sz) (va_pl L f1) t) (va_A (va_pl L f) sz)) 0 0 (va_A (va_pl L f) sz) := by
  refine Met.ofW (cc := cX11_judge) (maxL := 6) (ret := some .long) (by decide) rfl ?_
  intro p e s m args below meth c s₁ B hml hv
  obtain ⟨rfl, hsz, hP, hK, hD0, hN⟩ := hv
  have hx := B.exec
  have hb := B.bytes
  have hr := B.returns
  have hts := fun (w : Cond) (h : w ∈ WALL) => atoms_spec (ws := wqX11_judge) B.pre w (List.mem_cons_of_mem _ h)
  have hown : s.vm.findClass RX11 = some m.cls := findClass_of_methodNamed B.named
  have hlocks := B.notSynchronized
  subst hsz
  have hD := hD0.self (sz := s.heap.size)
  generalize hAe : va_A (va_pl L f) s.heap.size = A at hD ⊢
  have hA : ∀ q : Nat, s.heap.size ≤ q → A q := fun q h => by rw [← hAe]; exact Or.inr h
  have hS : va_S A s.heap s.heap [] := va_S.rf
  have hR : tp_F τ [2, 3, 4, 5, 6, 7, 8, 9, 10, 11, 12, 20, 21, 22, 26, 27, 28] f f := tp_F.rf
  have hl := lv_entry ([.ref h0, .int v, .int u, .int a, .int b, .int a5]) (n := 6) (Nat.le_of_ble_eq_true rfl)
  rw [lg_entry_eq]
  generalize (lg_sl ([.ref h0, .int v, .int u, .int a, .int b, .int a5]) ++ List.replicate (6 - (lg_sl ([.ref h0, .int v, .int u, .int a, .int b, .int a5])).length) Slot.unset).toArray = ls at hl ⊢
  have hl : lv_has ls 6 [(0, .ref h0), (1, .int v), (2, .int u), (3, .int a), (4, .int b), (5, .int a5)] := hl
  refine lv_aload_n hx hb dX11_judge_0 rfl (lv_at hl 0 rfl) ?_
  obtain ⟨y1, y2, y3, y4, y5, y6⟩ := tpg_12 hG ht_h0
  obtain ⟨o7_x6, hf_o7⟩ := tpo_12 hT ht_h0
  obtain ⟨q8, eq8⟩ := tp_pos (tp_in hG ht_h0 (by decide)) hf_o7
  refine va_get (D := (dC, dI)) (ci := 11) (v := .ref (ρ h0 5)) (C := RX11) (T := TX11) (N := 7) hx hb hts hfX11 hown hK hP q8 eq8 rfl 5 (by decide) (hts (.fieldLink RX11 46 "ColdShips" "planner" "LColdShips$Planner;") wa_32) (fun _ h9 => h9) rfl dX11_judge_1 ?_
  refine lv_iload_n hx hb dX11_judge_4 rfl (lv_at hl 1 rfl) ?_
  obtain ⟨y9, ⟨y10, y10n⟩, ⟨y11, y11n⟩, ⟨y12, y12n⟩, ⟨y13, y13n⟩, ⟨y14, y14n⟩, ⟨y15, y15n⟩, ⟨y16, y16n⟩, ⟨y17, y17n⟩, ⟨y18, y18n⟩⟩ := tpg_2 hG y6
  obtain ⟨o19_x5, o19_x6, o19_x7, o19_x8, o19_x9, hf_o19, ro19_0⟩ := tpo_2 hT y6
  obtain ⟨q20, eq20⟩ := tp_pos (tp_in hG y6 (by decide)) hf_o19
  refine pz_calli (va_runV (As := [.int v]) (rest := []) ⟨hx, hb, hml, hown, hts⟩ (t_X1_sails l dC dI _ Ω κ τ ν ρ L f hG hT (ρ h0 5) v y6) (cwV 1 hts gX11_judge_X1_sails rfl rfl rfl ⟨rfl, pd_X1_sails⟩ ⟨Nat.le_of_ble_eq_true rfl, Nat.le_of_ble_eq_true rfl⟩) ⟨pz_blind, va_recv hK hP (ci := 1) (q0 := q20) rfl eq20, pz_pre hP hK hD hN⟩ rfl rfl hl.1 rfl (lv_room (Nat.le_of_ble_eq_true rfl)) dX11_judge_5 ⟨Nat.le_of_ble_eq_true rfl, Nat.le_of_ble_eq_true rfl⟩) (fun r21 hw22 => ?_)
  obtain ⟨hw22r, hw22p⟩ := hw22
  refine lv_if_eq (tgt := 19) hx hb dX11_judge_8 (by decide) (fun c23 => ?_) (fun c23 => ?_)
  · have ic23 : r21.toInt = 0 := zi_eq rfl rfl c23
    refine lv_ldc2 (own := RX11) (v := (-2000000000000000)) hx hb hown (hts (.constantLong RX11 281 (-2000000000000000)) wa_1124) dX11_judge_19 ?_
    exact W.lret (v := (-2000000000000000)) hx hb hr (fun t ht hW => ⟨⟨(-2000000000000000), f, rfl, ⟨hT, hR, trivial, trivial⟩, by rw [ht]; exact hP, va_K.moved hW.alike hK, hD⟩, hS.F ht⟩) hS.2.2 dX11_judge_22
  · have ic23 : r21.toInt ≠ 0 := zi_eqf rfl rfl c23
    have p24 : 0 ≤ v.toInt ∧ v.toInt ≤ 2 := hw22p (by omega)
    refine lv_iload hx hb dX11_judge_11 (lv_at hl 5 rfl) ?_
    refine pz_calli (va_runS (As := [.int a5]) (rest := []) ⟨hx, hb, hml, hown, hts⟩ (t_X11_isHour l dC dI _ a5 (a5.toInt) rfl) (va_cwS 1 hts gX11_judge_X11_isHour rfl rfl rfl pd_X11_isHour ⟨Nat.le_of_ble_eq_true rfl, Nat.le_of_ble_eq_true rfl⟩) ⟨pz_blind, pz_pre pz_P0 (hK.sub (tys' := []) [] rfl) (pz_D0 (A := fun _ => True)) hN⟩ rfl rfl hl.1 rfl (lv_room (Nat.le_of_ble_eq_true rfl)) dX11_judge_13 ⟨Nat.le_of_ble_eq_true rfl, Nat.le_of_ble_eq_true rfl⟩) (fun r25 hw26 => ?_)
    obtain ⟨hw26r, hw26p⟩ := hw26
    refine lv_if_ne (tgt := 23) hx hb dX11_judge_16 (by decide) (fun c27 => ?_) (fun c27 => ?_)
    · have ic27 : r25.toInt ≠ 0 := zi_ne rfl rfl c27
      have p28 : 0 ≤ (a5.toInt) ∧ (a5.toInt) ≤ 2399 := (tp_cond.yes hw26p) (by omega)
      refine lv_aload_n hx hb dX11_judge_23 rfl (lv_at hl 0 rfl) ?_
      refine va_get (D := (dC, dI)) (ci := 11) (v := .ref (ρ h0 5)) (C := RX11) (T := TX11) (N := 7) hx hb hts hfX11 hown hK hP q8 eq8 rfl 5 (by decide) (hts (.fieldLink RX11 46 "ColdShips" "planner" "LColdShips$Planner;") wa_32) (fun _ h9 => h9) rfl dX11_judge_24 ?_
      refine lv_iload_n hx hb dX11_judge_27 rfl (lv_at hl 1 rfl) ?_
      refine lv_iload_n hx hb dX11_judge_28 rfl (lv_at hl 2 rfl) ?_
      refine lv_iload_n hx hb dX11_judge_29 rfl (lv_at hl 3 rfl) ?_
      refine lv_iload hx hb dX11_judge_30 (lv_at hl 4 rfl) ?_
      refine lv_iload hx hb dX11_judge_32 (lv_at hl 5 rfl) ?_
      have hFc := tp_fr hD hS hA
      refine va_calll (va_runV (As := [.int v, .int u, .int a, .int b, .int a5]) (rest := []) ⟨hx, hb, hml, hown, hts⟩ (t_X1_worthOfRow l dC dI _ Ω κ τ ν ρ L f hG hT (ρ h0 5) v u a b a5 y6 (by first | decide | omega)) (cwV 5 hts gX11_judge_X1_worthOfRow rfl rfl rfl ⟨rfl, pd_X1_worthOfRow⟩ ⟨Nat.le_of_ble_eq_true rfl, Nat.le_of_ble_eq_true rfl⟩) ⟨pz_blind, va_recv hK hP (ci := 1) (q0 := q20) rfl eq20, pz_pre hP hK hD hN⟩ rfl rfl hl.1 rfl (lv_room (Nat.le_of_ble_eq_true rfl)) dX11_judge_34 ⟨Nat.le_of_ble_eq_true rfl, Nat.le_of_ble_eq_true rfl⟩) hS (fun q _ h => hFc q h) hFc (fun r29 f31 t H1 locs ht hvm hw30 hB hz1 hk1 hS => ?_)
      obtain ⟨hT, hF32, hw30r, hw30p⟩ := hw30
      have hR := hR.then hF32 (by decide)
      have hP := hB.1; rw [ht] at hP; have hD := tp_ad f31 hD; clear hB hFc hz1 hk1; subst ht; generalize t.heap = H at hP hS ⊢
      exact W.lret (v := r29) hx hb hr (fun t ht hW => ⟨⟨r29, f31, rfl, ⟨hT, hR, trivial, trivial⟩, by rw [ht]; exact hP, va_K.moved hW.alike hK, hD⟩, hS.F ht⟩) hS.2.2 dX11_judge_37
    · have ic27 : r25.toInt = 0 := zi_nef rfl rfl c27
      refine lv_ldc2 (own := RX11) (v := (-2000000000000000)) hx hb hown (hts (.constantLong RX11 281 (-2000000000000000)) wa_1124) dX11_judge_19 ?_
      exact W.lret (v := (-2000000000000000)) hx hb hr (fun t ht hW => ⟨⟨(-2000000000000000), f, rfl, ⟨hT, hR, trivial, trivial⟩, by rw [ht]; exact hP, va_K.moved hW.alike hK, hD⟩, hS.F ht⟩) hS.2.2 dX11_judge_22
set_option maxHeartbeats 4000000 in
set_option maxRecDepth 100000 in
theorem t_X11_back (l : Launch) (dC : Nat → ClassId) (dI : Nat → Nat → Nat) (sz : Nat) (Ω : Nat → (Nat → Nat) → va_E → Prop) (κ : Nat → ClassId) (τ ν : Nat → Nat) (ρ : Nat → Nat → Nat) (L : List Nat) (f : Nat → va_E) (hG : tp_G τ ν ρ L) (hT : tp_T Ω κ τ ν ρ f) (h0 : Nat) (v : Int32) (ht_h0 : τ h0 = 12) : Met l yX11_back wqX11_back ({ frames := 5, cells := 0, slots := 0, locals := 1600 }) (va_Pc [.ref h0, .int v] (pz_B dC dI (tp_K κ) (va_pl L f) sz)) (va_Qi (fun (r : Int32) (f1 : Nat → va_E) => tp_T Ω κ τ ν ρ f1 ∧ tp_F τ [2, 3, 4, 5, 6, 7, 8, 9, 10, 11, 12, 20, 21, 22, 26, 27, 28] f f1 ∧ True ∧ True) (fun (f1 : Nat → va_E) (t : State) => pz_E dC dI (tp_K κ) (va_A (va_pl L f) sz) (va_pl L f1) t) (va_A (va_pl L f) sz)) 0 0 (va_A (va_pl L f) sz) := by
  refine Met.ofW (cc := cX11_back) (maxL := 2) (ret := some .int) (by decide) rfl ?_
  intro p e s m args below meth c s₁ B hml hv
  obtain ⟨rfl, hsz, hP, hK, hD0, hN⟩ := hv
  have hx := B.exec
  have hb := B.bytes
  have hr := B.returns
  have hts := fun (w : Cond) (h : w ∈ WALL) => atoms_spec (ws := wqX11_back) B.pre w (List.mem_cons_of_mem _ h)
  have hown : s.vm.findClass RX11 = some m.cls := findClass_of_methodNamed B.named
  have hlocks := B.notSynchronized
  subst hsz
  have hD := hD0.self (sz := s.heap.size)
  generalize hAe : va_A (va_pl L f) s.heap.size = A at hD ⊢
  have hA : ∀ q : Nat, s.heap.size ≤ q → A q := fun q h => by rw [← hAe]; exact Or.inr h
  have hS : va_S A s.heap s.heap [] := va_S.rf
  have hR : tp_F τ [2, 3, 4, 5, 6, 7, 8, 9, 10, 11, 12, 20, 21, 22, 26, 27, 28] f f := tp_F.rf
  have hl := lv_entry ([.ref h0, .int v]) (n := 2) (Nat.le_of_ble_eq_true rfl)
  rw [lg_entry_eq]
  generalize (lg_sl ([.ref h0, .int v]) ++ List.replicate (2 - (lg_sl ([.ref h0, .int v])).length) Slot.unset).toArray = ls at hl ⊢
  have hl : lv_has ls 2 [(0, .ref h0), (1, .int v)] := hl
  refine lv_iload_n hx hb dX11_back_0 rfl (lv_at hl 1 rfl) ?_
  refine lv_iconst (v := 0) hx hb dX11_back_1 (by decide) ?_
  refine lv_aload_n hx hb dX11_back_2 rfl (lv_at hl 0 rfl) ?_
  obtain ⟨y1, y2, y3, y4, y5, y6⟩ := tpg_12 hG ht_h0
  obtain ⟨o7_x6, hf_o7⟩ := tpo_12 hT ht_h0
  obtain ⟨q8, eq8⟩ := tp_pos (tp_in hG ht_h0 (by decide)) hf_o7
  refine va_get (D := (dC, dI)) (ci := 11) (v := .ref (ρ h0 1)) (C := RX11) (T := TX11) (N := 7) hx hb hts hfX11 hown hK hP q8 eq8 rfl 1 (by decide) (hts (.fieldLink RX11 16 "ColdShips" "images" "[LColdShips$World;") wa_16) (fun _ h9 => h9) rfl dX11_back_3 ?_
  obtain ⟨g10, hf_o9, hf_o9e⟩ := tpo_27 hT y2
  obtain ⟨q11, eq11⟩ := tp_pos (tp_in hG y2 (by decide)) hf_o9
  refine va_alen hx hb hK hP q11 7 eq11 rfl (rfl : Int32.ofNat 2 = (2 : Int32)) dX11_back_6 ?_
  refine lv_iconst (v := 1) hx hb dX11_back_7 (by decide) ?_
  refine lv_isub hx hb dX11_back_8 ?_
  refine lv_topi (fun z12 ez12 => ?_)
  obtain rfl : z12 = 1 := ez12.trans (by first | rfl | decide)
  refine pz_calli (va_runS (As := [.int v, .int 0, .int 1]) (rest := []) ⟨hx, hb, hml, hown, hts⟩ (t_X11_within l dC dI _ v (0) (1) (v.toInt) (0) (1) rfl rfl rfl) (va_cwS 3 hts gX11_back_X11_within rfl rfl rfl pd_X11_within ⟨Nat.le_of_ble_eq_true rfl, Nat.le_of_ble_eq_true rfl⟩) ⟨pz_blind, pz_pre pz_P0 (hK.sub (tys' := []) [] rfl) (pz_D0 (A := fun _ => True)) hN⟩ rfl rfl hl.1 rfl (lv_room (Nat.le_of_ble_eq_true rfl)) dX11_back_9 ⟨Nat.le_of_ble_eq_true rfl, Nat.le_of_ble_eq_true rfl⟩) (fun r13 hw14 => ?_)
  obtain ⟨hw14r, hw14p⟩ := hw14
  refine lv_if_ne (tgt := 21) hx hb dX11_back_12 (by decide) (fun c15 => ?_) (fun c15 => ?_)
  · have ic15 : r13.toInt ≠ 0 := zi_ne rfl rfl c15
    have p16 : (0) ≤ (v.toInt) ∧ (v.toInt) ≤ (1) := (tp_cond.yes hw14p) (by omega)
    refine lv_aload_n hx hb dX11_back_21 rfl (lv_at hl 0 rfl) ?_
    refine va_get (D := (dC, dI)) (ci := 11) (v := .ref (ρ h0 1)) (C := RX11) (T := TX11) (N := 7) hx hb hts hfX11 hown hK hP q8 eq8 rfl 1 (by decide) (hts (.fieldLink RX11 16 "ColdShips" "images" "[LColdShips$World;") wa_16) (fun _ h9 => h9) rfl dX11_back_22 ?_
    refine lv_iload_n hx hb dX11_back_25 rfl (lv_at hl 1 rfl) ?_
    refine va_aldq hx hb hK hP q11 7 eq11 rfl (vp_in_iff.mpr ⟨by omega, by omega⟩) dX11_back_26 ?_
    have hq17 := hf_o9e v.toNatClampNeg (zi_cl (vp_in_iff.mpr ⟨by omega, by omega⟩))
    rcases hq17 with hq19 | ⟨b18, hq19, hq19t⟩
    · rw [hq19]
      refine lv_ifnonnullN hx hb dX11_back_27 ?_
      refine lv_aload_n hx hb dX11_back_30 rfl (lv_at hl 0 rfl) ?_
      refine lv_bipush (v := (-2)) hx hb dX11_back_31 (by decide) ?_
      have hFc := tp_fr hD hS hA
      refine va_calli (va_runV (As := [.int (-2)]) (rest := []) ⟨hx, hb, hml, hown, hts⟩ (t_X11_refuse l dC dI _ Ω κ τ ν ρ L f hG hT h0 ((-2)) ht_h0) (cwV 1 hts gX11_back_X11_refuse rfl rfl rfl ⟨rfl, pd_X11_refuse⟩ ⟨Nat.le_of_ble_eq_true rfl, Nat.le_of_ble_eq_true rfl⟩) ⟨pz_blind, va_recv hK hP (ci := 11) (q0 := q8) rfl eq8, pz_pre hP hK hD hN⟩ rfl rfl hl.1 rfl (lv_room (Nat.le_of_ble_eq_true rfl)) dX11_back_33 ⟨Nat.le_of_ble_eq_true rfl, Nat.le_of_ble_eq_true rfl⟩) hS (fun q _ h => hFc q h) hFc (fun r20 f22 t H1 locs ht hvm hw21 hB hz1 hk1 hS => ?_)
      obtain ⟨hT, hF23, hw21r, hw21p⟩ := hw21
      have hR := hR.then hF23 (by decide)
      have hP := hB.1; rw [ht] at hP; have hD := tp_ad f22 hD; clear hB hFc hz1 hk1; subst ht; generalize t.heap = H at hP hS ⊢
      exact W.iret (v := r20) hx hb hr (fun t ht hW => ⟨⟨r20, f22, rfl, ⟨hT, hR, trivial, trivial⟩, by rw [ht]; exact hP, va_K.moved hW.alike hK, hD⟩, hS.F ht⟩) hS.2.2 dX11_back_36
    · rw [hq19]
      refine lv_ifnonnull (tgt := 37) hx hb dX11_back_27 (by decide) ?_
      refine lv_aload_n hx hb dX11_back_37 rfl (lv_at hl 0 rfl) ?_
      refine va_get (D := (dC, dI)) (ci := 11) (v := .ref (ρ h0 0)) (C := RX11) (T := TX11) (N := 7) hx hb hts hfX11 hown hK hP q8 eq8 rfl 0 (by decide) (hts (.fieldLink RX11 10 "ColdShips" "world" "LColdShips$World;") wa_15) (fun _ h9 => h9) rfl dX11_back_38 ?_
      refine lv_aload_n hx hb dX11_back_41 rfl (lv_at hl 0 rfl) ?_
      refine va_get (D := (dC, dI)) (ci := 11) (v := .ref (ρ h0 1)) (C := RX11) (T := TX11) (N := 7) hx hb hts hfX11 hown hK hP q8 eq8 rfl 1 (by decide) (hts (.fieldLink RX11 16 "ColdShips" "images" "[LColdShips$World;") wa_16) (fun _ h9 => h9) rfl dX11_back_42 ?_
      refine lv_iload_n hx hb dX11_back_45 rfl (lv_at hl 1 rfl) ?_
      refine va_aldq hx hb hK hP q11 7 eq11 rfl (vp_in_iff.mpr ⟨by omega, by omega⟩) dX11_back_46 ?_
      refine W.eq (g2 := F0 m 47 ls (.ref b18 :: [.ref (ρ h0 0)])) (congrArg (fun o => F0 m 47 ls (va_rf o :: [.ref (ρ h0 0)])) hq19) ?_
      obtain ⟨⟨y24, y24n⟩, ⟨y25, y25n⟩, y26, y27, y28, y29, y30, y31, ⟨y32, y32w, y32m⟩, ⟨y33, y33w, y33m⟩, ⟨y34, y34w, y34m⟩, ⟨y35, y35w, y35m⟩⟩ := tpg_11 hG y1
      obtain ⟨o36_x0, o36_x1, o36_x2, o36_x3, o36_x4, o36_x5, o36_x6, hf_o36, ro36_0, ro36_1, ro36_2, ro36_3⟩ := tpo_11 hT y1
      obtain ⟨q37, eq37⟩ := tp_pos (tp_in hG y1 (by decide)) hf_o36
      have hFc := tp_fr hD hS hA
      refine va_callv (va_runV (As := [.ref b18]) (rest := []) ⟨hx, hb, hml, hown, hts⟩ (t_X10_copyFrom l dC dI _ Ω κ τ ν ρ L f hG hT (ρ h0 0) b18 y1 hq19t) (cwV 1 hts gX11_back_X10_copyFrom rfl rfl rfl ⟨rfl, pd_X10_copyFrom⟩ ⟨Nat.le_of_ble_eq_true rfl, Nat.le_of_ble_eq_true rfl⟩) ⟨pz_blind, va_recv hK hP (ci := 10) (q0 := q37) rfl eq37, pz_pre hP hK hD hN⟩ rfl rfl hl.1 rfl (lv_room (Nat.le_of_ble_eq_true rfl)) dX11_back_47 ⟨Nat.le_of_ble_eq_true rfl, Nat.le_of_ble_eq_true rfl⟩) hS (fun q _ h => hFc q h) hFc (fun f40 t H1 locs ht hvm hw39 hB hz1 hk1 hS => ?_)
      obtain ⟨hT, hF41, hw39p⟩ := hw39
      have hR := hR.then hF41 (by decide)
      have hP := hB.1; rw [ht] at hP; have hD := tp_ad f40 hD; clear hB hFc hz1 hk1; subst ht; generalize t.heap = H at hP hS ⊢
      refine lv_aload_n hx hb dX11_back_50 rfl (lv_at hl 0 rfl) ?_
      refine lv_iconst (v := 0) hx hb dX11_back_51 (by decide) ?_
      have hf_42 : f40 h0 = .inr (11, [.ref (ρ h0 0), .ref (ρ h0 1), .ref (ρ h0 2), .ref (ρ h0 3), .ref (ρ h0 4), .ref (ρ h0 5), .int o7_x6]) := (hF41 _ (by rw [ht_h0]; decide)).trans hf_o7
      obtain ⟨q43, eq43⟩ := tp_pos (tp_in hG ht_h0 (by decide)) hf_42
      have hFc := tp_fr hD hS hA
      refine va_calli (va_runV (As := [.int 0]) (rest := []) ⟨hx, hb, hml, hown, hts⟩ (t_X11_accept l dC dI _ Ω κ τ ν ρ L f40 hG hT h0 (0) ht_h0) (cwV 1 hts gX11_back_X11_accept rfl rfl rfl ⟨rfl, pd_X11_accept⟩ ⟨Nat.le_of_ble_eq_true rfl, Nat.le_of_ble_eq_true rfl⟩) ⟨pz_blind, va_recv hK hP (ci := 11) (q0 := q43) rfl eq43, pz_pre hP hK hD hN⟩ rfl rfl hl.1 rfl (lv_room (Nat.le_of_ble_eq_true rfl)) dX11_back_52 ⟨Nat.le_of_ble_eq_true rfl, Nat.le_of_ble_eq_true rfl⟩) hS (fun q _ h => hFc q h) hFc (fun r44 f46 t H1 locs ht hvm hw45 hB hz1 hk1 hS => ?_)
      obtain ⟨hT, hF47, hw45r, hw45p⟩ := hw45
      have hR := hR.then hF47 (by decide)
      have hP := hB.1; rw [ht] at hP; have hD := tp_ad f46 hD; clear hB hFc hz1 hk1; subst ht; generalize t.heap = H at hP hS ⊢
      exact W.iret (v := r44) hx hb hr (fun t ht hW => ⟨⟨r44, f46, rfl, ⟨hT, hR, trivial, trivial⟩, by rw [ht]; exact hP, va_K.moved hW.alike hK, hD⟩, hS.F ht⟩) hS.2.2 dX11_back_55
  · have ic15 : r13.toInt = 0 := zi_nef rfl rfl c15
    refine lv_aload_n hx hb dX11_back_15 rfl (lv_at hl 0 rfl) ?_
    refine lv_iconst (v := (-1)) hx hb dX11_back_16 (by decide) ?_
    have hFc := tp_fr hD hS hA
    refine va_calli (va_runV (As := [.int (-1)]) (rest := []) ⟨hx, hb, hml, hown, hts⟩ (t_X11_refuse l dC dI _ Ω κ τ ν ρ L f hG hT h0 ((-1)) ht_h0) (cwV 1 hts gX11_back_X11_refuse rfl rfl rfl ⟨rfl, pd_X11_refuse⟩ ⟨Nat.le_of_ble_eq_true rfl, Nat.le_of_ble_eq_true rfl⟩) ⟨pz_blind, va_recv hK hP (ci := 11) (q0 := q8) rfl eq8, pz_pre hP hK hD hN⟩ rfl rfl hl.1 rfl (lv_room (Nat.le_of_ble_eq_true rfl)) dX11_back_17 ⟨Nat.le_of_ble_eq_true rfl, Nat.le_of_ble_eq_true rfl⟩) hS (fun q _ h => hFc q h) hFc (fun r48 f50 t H1 locs ht hvm hw49 hB hz1 hk1 hS => ?_)
    obtain ⟨hT, hF51, hw49r, hw49p⟩ := hw49
    have hR := hR.then hF51 (by decide)
    have hP := hB.1; rw [ht] at hP; have hD := tp_ad f50 hD; clear hB hFc hz1 hk1; subst ht; generalize t.heap = H at hP hS ⊢
    exact W.iret (v := r48) hx hb hr (fun t ht hW => ⟨⟨r48, f50, rfl, ⟨hT, hR, trivial, trivial⟩, by rw [ht]; exact hP, va_K.moved hW.alike hK, hD⟩, hS.F ht⟩) hS.2.2 dX11_back_20
set_option maxHeartbeats 4000000 in
set_option maxRecDepth 100000 in
theorem t_X11_count (l : Launch) (dC : Nat → ClassId) (dI : Nat → Nat → Nat) (sz : Nat) (Ω : Nat → (Nat → Nat) → va_E → Prop) (κ : Nat → ClassId) (τ ν : Nat → Nat) (ρ : Nat → Nat → Nat) (L : List Nat) (f : Nat → va_E) (hG : tp_G τ ν ρ L) (hT : tp_T Ω κ τ ν ρ f) (h0 : Nat) (v : Int32) (ht_h0 : τ h0 = 12) : Met l yX11_count wqX11_count ({ frames := 2, cells := 0, slots := 0, locals := 400 }) (va_Pc [.ref h0, .int v] (pz_B dC dI (tp_K κ) (va_pl L f) sz)) (va_Qi (fun (r : Int32) (f1 : Nat → va_E) => tp_T Ω κ τ ν ρ f1 ∧ tp_F τ [2, 3, 4, 5, 6, 7, 8, 9, 10, 11, 12, 20, 21, 22, 26, 27, 28] f f1 ∧ True ∧ True) (fun (f1 : Nat → va_E) (t : State) => pz_E dC dI (tp_K κ) (va_A (va_pl L f) sz) (va_pl L f1) t) (va_A (va_pl L f) sz)) 0 0 (va_A (va_pl L f) sz) := by
  refine Met.ofW (cc := cX11_count) (maxL := 2) (ret := some .int) (by decide) rfl ?_
  intro p e s m args below meth c s₁ B hml hv
  obtain ⟨rfl, hsz, hP, hK, hD0, hN⟩ := hv
  have hx := B.exec
  have hb := B.bytes
  have hr := B.returns
  have hts := fun (w : Cond) (h : w ∈ WALL) => atoms_spec (ws := wqX11_count) B.pre w (List.mem_cons_of_mem _ h)
  have hown : s.vm.findClass RX11 = some m.cls := findClass_of_methodNamed B.named
  have hlocks := B.notSynchronized
  subst hsz
  have hD := hD0.self (sz := s.heap.size)
  generalize hAe : va_A (va_pl L f) s.heap.size = A at hD ⊢
  have hA : ∀ q : Nat, s.heap.size ≤ q → A q := fun q h => by rw [← hAe]; exact Or.inr h
  have hS : va_S A s.heap s.heap [] := va_S.rf
  have hR : tp_F τ [2, 3, 4, 5, 6, 7, 8, 9, 10, 11, 12, 20, 21, 22, 26, 27, 28] f f := tp_F.rf
  have hl := lv_entry ([.ref h0, .int v]) (n := 2) (Nat.le_of_ble_eq_true rfl)
  rw [lg_entry_eq]
  generalize (lg_sl ([.ref h0, .int v]) ++ List.replicate (2 - (lg_sl ([.ref h0, .int v])).length) Slot.unset).toArray = ls at hl ⊢
  have hl : lv_has ls 2 [(0, .ref h0), (1, .int v)] := hl
  refine lv_iload_n hx hb dX11_count_0 rfl (lv_at hl 1 rfl) ?_
  rcases zi_sw v 0 8 with h1 | h1
  · refine lv_tableOut (tgt := 136) hx hb dX11_count_1 h1 (by decide) ?_
    refine lv_iconst (v := (-1)) hx hb dX11_count_136 (by decide) ?_
    exact W.iret (v := (-1)) hx hb hr (fun t ht hW => ⟨⟨(-1), f, rfl, ⟨hT, hR, trivial, trivial⟩, by rw [ht]; exact hP, va_K.moved hW.alike hK, hD⟩, hS.F ht⟩) hS.2.2 dX11_count_137
  · rcases (show v.toInt = 0 ∨ v.toInt = 1 ∨ v.toInt = 2 ∨ v.toInt = 3 ∨ v.toInt = 4 ∨ v.toInt = 5 ∨ v.toInt = 6 ∨ v.toInt = 7 ∨ v.toInt = 8 by omega) with h1k | h1k | h1k | h1k | h1k | h1k | h1k | h1k | h1k
    · refine lv_tableIn (tgt := 52) hx hb dX11_count_1 (by omega) (by omega) (by rw [h1k]; rfl) (by decide) ?_
      refine lv_aload_n hx hb dX11_count_52 rfl (lv_at hl 0 rfl) ?_
      obtain ⟨y2, y3, y4, y5, y6, y7⟩ := tpg_12 hG ht_h0
      obtain ⟨o8_x6, hf_o8⟩ := tpo_12 hT ht_h0
      obtain ⟨q9, eq9⟩ := tp_pos (tp_in hG ht_h0 (by decide)) hf_o8
      refine va_get (D := (dC, dI)) (ci := 11) (v := .ref (ρ h0 0)) (C := RX11) (T := TX11) (N := 7) hx hb hts hfX11 hown hK hP q9 eq9 rfl 0 (by decide) (hts (.fieldLink RX11 10 "ColdShips" "world" "LColdShips$World;") wa_15) (fun _ h9 => h9) rfl dX11_count_53 ?_
      obtain ⟨⟨y10, y10n⟩, ⟨y11, y11n⟩, y12, y13, y14, y15, y16, y17, ⟨y18, y18w, y18m⟩, ⟨y19, y19w, y19m⟩, ⟨y20, y20w, y20m⟩, ⟨y21, y21w, y21m⟩⟩ := tpg_11 hG y2
      obtain ⟨o22_x0, o22_x1, o22_x2, o22_x3, o22_x4, o22_x5, o22_x6, hf_o22, ro22_0, ro22_1, ro22_2, ro22_3⟩ := tpo_11 hT y2
      obtain ⟨q23, eq23⟩ := tp_pos (tp_in hG y2 (by decide)) hf_o22
      refine va_getN (D := (dC, dI)) (ci := 10) (v := .int o22_x0) (C := RX10) (T := TX10) (N := 19) hx hb hts hfX10 hown hK hP q23 eq23 rfl 0 (by decide) (va_Nw.use rfl (hN.1 (.fieldLinkNest RX11 154 "ColdShips$World" "now" "I" "ColdShips") nzw_49)) (fun _ h9 => h9) rfl dX11_count_56 ?_
      exact W.iret (v := o22_x0) hx hb hr (fun t ht hW => ⟨⟨o22_x0, f, rfl, ⟨hT, hR, trivial, trivial⟩, by rw [ht]; exact hP, va_K.moved hW.alike hK, hD⟩, hS.F ht⟩) hS.2.2 dX11_count_59
    · refine lv_tableIn (tgt := 60) hx hb dX11_count_1 (by omega) (by omega) (by rw [h1k]; rfl) (by decide) ?_
      refine lv_aload_n hx hb dX11_count_60 rfl (lv_at hl 0 rfl) ?_
      obtain ⟨y24, y25, y26, y27, y28, y29⟩ := tpg_12 hG ht_h0
      obtain ⟨o30_x6, hf_o30⟩ := tpo_12 hT ht_h0
      obtain ⟨q31, eq31⟩ := tp_pos (tp_in hG ht_h0 (by decide)) hf_o30
      refine va_get (D := (dC, dI)) (ci := 11) (v := .ref (ρ h0 0)) (C := RX11) (T := TX11) (N := 7) hx hb hts hfX11 hown hK hP q31 eq31 rfl 0 (by decide) (hts (.fieldLink RX11 10 "ColdShips" "world" "LColdShips$World;") wa_15) (fun _ h9 => h9) rfl dX11_count_61 ?_
      obtain ⟨⟨y32, y32n⟩, ⟨y33, y33n⟩, y34, y35, y36, y37, y38, y39, ⟨y40, y40w, y40m⟩, ⟨y41, y41w, y41m⟩, ⟨y42, y42w, y42m⟩, ⟨y43, y43w, y43m⟩⟩ := tpg_11 hG y24
      obtain ⟨o44_x0, o44_x1, o44_x2, o44_x3, o44_x4, o44_x5, o44_x6, hf_o44, ro44_0, ro44_1, ro44_2, ro44_3⟩ := tpo_11 hT y24
      obtain ⟨q45, eq45⟩ := tp_pos (tp_in hG y24 (by decide)) hf_o44
      refine va_getN (D := (dC, dI)) (ci := 10) (v := .int o44_x4) (C := RX10) (T := TX10) (N := 19) hx hb hts hfX10 hown hK hP q45 eq45 rfl 4 (by decide) (va_Nw.use rfl (hN.1 (.fieldLinkNest RX11 59 "ColdShips$World" "terminalCount" "I" "ColdShips") nzw_56)) (fun _ h9 => h9) rfl dX11_count_64 ?_
      exact W.iret (v := o44_x4) hx hb hr (fun t ht hW => ⟨⟨o44_x4, f, rfl, ⟨hT, hR, trivial, trivial⟩, by rw [ht]; exact hP, va_K.moved hW.alike hK, hD⟩, hS.F ht⟩) hS.2.2 dX11_count_67
    · refine lv_tableIn (tgt := 68) hx hb dX11_count_1 (by omega) (by omega) (by rw [h1k]; rfl) (by decide) ?_
      refine lv_aload_n hx hb dX11_count_68 rfl (lv_at hl 0 rfl) ?_
      obtain ⟨y46, y47, y48, y49, y50, y51⟩ := tpg_12 hG ht_h0
      obtain ⟨o52_x6, hf_o52⟩ := tpo_12 hT ht_h0
      obtain ⟨q53, eq53⟩ := tp_pos (tp_in hG ht_h0 (by decide)) hf_o52
      refine va_get (D := (dC, dI)) (ci := 11) (v := .ref (ρ h0 0)) (C := RX11) (T := TX11) (N := 7) hx hb hts hfX11 hown hK hP q53 eq53 rfl 0 (by decide) (hts (.fieldLink RX11 10 "ColdShips" "world" "LColdShips$World;") wa_15) (fun _ h9 => h9) rfl dX11_count_69 ?_
      obtain ⟨⟨y54, y54n⟩, ⟨y55, y55n⟩, y56, y57, y58, y59, y60, y61, ⟨y62, y62w, y62m⟩, ⟨y63, y63w, y63m⟩, ⟨y64, y64w, y64m⟩, ⟨y65, y65w, y65m⟩⟩ := tpg_11 hG y46
      obtain ⟨o66_x0, o66_x1, o66_x2, o66_x3, o66_x4, o66_x5, o66_x6, hf_o66, ro66_0, ro66_1, ro66_2, ro66_3⟩ := tpo_11 hT y46
      obtain ⟨q67, eq67⟩ := tp_pos (tp_in hG y46 (by decide)) hf_o66
      refine va_getN (D := (dC, dI)) (ci := 10) (v := .int o66_x5) (C := RX10) (T := TX10) (N := 19) hx hb hts hfX10 hown hK hP q67 eq67 rfl 5 (by decide) (va_Nw.use rfl (hN.1 (.fieldLinkNest RX11 81 "ColdShips$World" "shipCount" "I" "ColdShips") nzw_58)) (fun _ h9 => h9) rfl dX11_count_72 ?_
      exact W.iret (v := o66_x5) hx hb hr (fun t ht hW => ⟨⟨o66_x5, f, rfl, ⟨hT, hR, trivial, trivial⟩, by rw [ht]; exact hP, va_K.moved hW.alike hK, hD⟩, hS.F ht⟩) hS.2.2 dX11_count_75
    · refine lv_tableIn (tgt := 76) hx hb dX11_count_1 (by omega) (by omega) (by rw [h1k]; rfl) (by decide) ?_
      refine lv_aload_n hx hb dX11_count_76 rfl (lv_at hl 0 rfl) ?_
      obtain ⟨y68, y69, y70, y71, y72, y73⟩ := tpg_12 hG ht_h0
      obtain ⟨o74_x6, hf_o74⟩ := tpo_12 hT ht_h0
      obtain ⟨q75, eq75⟩ := tp_pos (tp_in hG ht_h0 (by decide)) hf_o74
      refine va_get (D := (dC, dI)) (ci := 11) (v := .ref (ρ h0 0)) (C := RX11) (T := TX11) (N := 7) hx hb hts hfX11 hown hK hP q75 eq75 rfl 0 (by decide) (hts (.fieldLink RX11 10 "ColdShips" "world" "LColdShips$World;") wa_15) (fun _ h9 => h9) rfl dX11_count_77 ?_
      obtain ⟨⟨y76, y76n⟩, ⟨y77, y77n⟩, y78, y79, y80, y81, y82, y83, ⟨y84, y84w, y84m⟩, ⟨y85, y85w, y85m⟩, ⟨y86, y86w, y86m⟩, ⟨y87, y87w, y87m⟩⟩ := tpg_11 hG y68
      obtain ⟨o88_x0, o88_x1, o88_x2, o88_x3, o88_x4, o88_x5, o88_x6, hf_o88, ro88_0, ro88_1, ro88_2, ro88_3⟩ := tpo_11 hT y68
      obtain ⟨q89, eq89⟩ := tp_pos (tp_in hG y68 (by decide)) hf_o88
      refine va_getN (D := (dC, dI)) (ci := 10) (v := .ref (ρ (ρ h0 0) 12)) (C := RX10) (T := TX10) (N := 19) hx hb hts hfX10 hown hK hP q89 eq89 rfl 12 (by decide) (va_Nw.use rfl (hN.1 (.fieldLinkNest RX11 111 "ColdShips$World" "slots" "LColdShips$Spans;" "ColdShips") nzw_74)) (fun _ h9 => h9) rfl dX11_count_80 ?_
      obtain ⟨⟨y90, y90n⟩, ⟨y91, y91n⟩, ⟨y92, y92n⟩⟩ := tpg_7 hG y81
      obtain ⟨o93_x3, hf_o93, ro93_0⟩ := tpo_7 hT y81
      obtain ⟨q94, eq94⟩ := tp_pos (tp_in hG y81 (by decide)) hf_o93
      refine va_getN (D := (dC, dI)) (ci := 6) (v := .int o93_x3) (C := RX6) (T := TX6) (N := 4) hx hb hts hfX6 hown hK hP q94 eq94 rfl 3 (by decide) (va_Nw.use rfl (hN.1 (.fieldLinkNest RX11 353 "ColdShips$Spans" "size" "I" "ColdShips") nzw_0)) (fun _ h9 => h9) rfl dX11_count_83 ?_
      exact W.iret (v := o93_x3) hx hb hr (fun t ht hW => ⟨⟨o93_x3, f, rfl, ⟨hT, hR, trivial, trivial⟩, by rw [ht]; exact hP, va_K.moved hW.alike hK, hD⟩, hS.F ht⟩) hS.2.2 dX11_count_86
    · refine lv_tableIn (tgt := 87) hx hb dX11_count_1 (by omega) (by omega) (by rw [h1k]; rfl) (by decide) ?_
      refine lv_aload_n hx hb dX11_count_87 rfl (lv_at hl 0 rfl) ?_
      obtain ⟨y95, y96, y97, y98, y99, y100⟩ := tpg_12 hG ht_h0
      obtain ⟨o101_x6, hf_o101⟩ := tpo_12 hT ht_h0
      obtain ⟨q102, eq102⟩ := tp_pos (tp_in hG ht_h0 (by decide)) hf_o101
      refine va_get (D := (dC, dI)) (ci := 11) (v := .ref (ρ h0 0)) (C := RX11) (T := TX11) (N := 7) hx hb hts hfX11 hown hK hP q102 eq102 rfl 0 (by decide) (hts (.fieldLink RX11 10 "ColdShips" "world" "LColdShips$World;") wa_15) (fun _ h9 => h9) rfl dX11_count_88 ?_
      obtain ⟨⟨y103, y103n⟩, ⟨y104, y104n⟩, y105, y106, y107, y108, y109, y110, ⟨y111, y111w, y111m⟩, ⟨y112, y112w, y112m⟩, ⟨y113, y113w, y113m⟩, ⟨y114, y114w, y114m⟩⟩ := tpg_11 hG y95
      obtain ⟨o115_x0, o115_x1, o115_x2, o115_x3, o115_x4, o115_x5, o115_x6, hf_o115, ro115_0, ro115_1, ro115_2, ro115_3⟩ := tpo_11 hT y95
      obtain ⟨q116, eq116⟩ := tp_pos (tp_in hG y95 (by decide)) hf_o115
      refine va_getN (D := (dC, dI)) (ci := 10) (v := .ref (ρ (ρ h0 0) 17)) (C := RX10) (T := TX10) (N := 19) hx hb hts hfX10 hown hK hP q116 eq116 rfl 17 (by decide) (va_Nw.use rfl (hN.1 (.fieldLinkNest RX11 207 "ColdShips$World" "landings" "LColdShips$Rows;" "ColdShips") nzw_85)) (fun _ h9 => h9) rfl dX11_count_91 ?_
      obtain ⟨⟨y117, y117n⟩, ⟨y118a, y118b, y118c⟩⟩ := tpg_5 hG y113
      obtain ⟨o119_x0, o119_x2, hf_o119, ro119_0, ro119_1⟩ := tpo_5 hT y113
      obtain ⟨q120, eq120⟩ := tp_pos (tp_in hG y113 (by decide)) hf_o119
      refine va_getN (D := (dC, dI)) (ci := 4) (v := .int o119_x2) (C := RX4) (T := TX4) (N := 3) hx hb hts hfX4 hown hK hP q120 eq120 rfl 2 (by decide) (va_Nw.use rfl (hN.1 (.fieldLinkNest RX11 242 "ColdShips$Rows" "size" "I" "ColdShips") nzw_4)) (fun _ h9 => h9) rfl dX11_count_94 ?_
      exact W.iret (v := o119_x2) hx hb hr (fun t ht hW => ⟨⟨o119_x2, f, rfl, ⟨hT, hR, trivial, trivial⟩, by rw [ht]; exact hP, va_K.moved hW.alike hK, hD⟩, hS.F ht⟩) hS.2.2 dX11_count_97
    · refine lv_tableIn (tgt := 98) hx hb dX11_count_1 (by omega) (by omega) (by rw [h1k]; rfl) (by decide) ?_
      refine lv_aload_n hx hb dX11_count_98 rfl (lv_at hl 0 rfl) ?_
      obtain ⟨y121, y122, y123, y124, y125, y126⟩ := tpg_12 hG ht_h0
      obtain ⟨o127_x6, hf_o127⟩ := tpo_12 hT ht_h0
      obtain ⟨q128, eq128⟩ := tp_pos (tp_in hG ht_h0 (by decide)) hf_o127
      refine va_get (D := (dC, dI)) (ci := 11) (v := .ref (ρ h0 0)) (C := RX11) (T := TX11) (N := 7) hx hb hts hfX11 hown hK hP q128 eq128 rfl 0 (by decide) (hts (.fieldLink RX11 10 "ColdShips" "world" "LColdShips$World;") wa_15) (fun _ h9 => h9) rfl dX11_count_99 ?_
      obtain ⟨⟨y129, y129n⟩, ⟨y130, y130n⟩, y131, y132, y133, y134, y135, y136, ⟨y137, y137w, y137m⟩, ⟨y138, y138w, y138m⟩, ⟨y139, y139w, y139m⟩, ⟨y140, y140w, y140m⟩⟩ := tpg_11 hG y121
      obtain ⟨o141_x0, o141_x1, o141_x2, o141_x3, o141_x4, o141_x5, o141_x6, hf_o141, ro141_0, ro141_1, ro141_2, ro141_3⟩ := tpo_11 hT y121
      obtain ⟨q142, eq142⟩ := tp_pos (tp_in hG y121 (by decide)) hf_o141
      refine va_getN (D := (dC, dI)) (ci := 10) (v := .int o141_x6) (C := RX10) (T := TX10) (N := 19) hx hb hts hfX10 hown hK hP q142 eq142 rfl 6 (by decide) (va_Nw.use rfl (hN.1 (.fieldLinkNest RX11 261 "ColdShips$World" "contractCount" "I" "ColdShips") nzw_60)) (fun _ h9 => h9) rfl dX11_count_102 ?_
      exact W.iret (v := o141_x6) hx hb hr (fun t ht hW => ⟨⟨o141_x6, f, rfl, ⟨hT, hR, trivial, trivial⟩, by rw [ht]; exact hP, va_K.moved hW.alike hK, hD⟩, hS.F ht⟩) hS.2.2 dX11_count_105
    · refine lv_tableIn (tgt := 106) hx hb dX11_count_1 (by omega) (by omega) (by rw [h1k]; rfl) (by decide) ?_
      refine lv_aload_n hx hb dX11_count_106 rfl (lv_at hl 0 rfl) ?_
      obtain ⟨y143, y144, y145, y146, y147, y148⟩ := tpg_12 hG ht_h0
      obtain ⟨o149_x6, hf_o149⟩ := tpo_12 hT ht_h0
      obtain ⟨q150, eq150⟩ := tp_pos (tp_in hG ht_h0 (by decide)) hf_o149
      refine va_get (D := (dC, dI)) (ci := 11) (v := .ref (ρ h0 0)) (C := RX11) (T := TX11) (N := 7) hx hb hts hfX11 hown hK hP q150 eq150 rfl 0 (by decide) (hts (.fieldLink RX11 10 "ColdShips" "world" "LColdShips$World;") wa_15) (fun _ h9 => h9) rfl dX11_count_107 ?_
      obtain ⟨⟨y151, y151n⟩, ⟨y152, y152n⟩, y153, y154, y155, y156, y157, y158, ⟨y159, y159w, y159m⟩, ⟨y160, y160w, y160m⟩, ⟨y161, y161w, y161m⟩, ⟨y162, y162w, y162m⟩⟩ := tpg_11 hG y143
      obtain ⟨o163_x0, o163_x1, o163_x2, o163_x3, o163_x4, o163_x5, o163_x6, hf_o163, ro163_0, ro163_1, ro163_2, ro163_3⟩ := tpo_11 hT y143
      obtain ⟨q164, eq164⟩ := tp_pos (tp_in hG y143 (by decide)) hf_o163
      refine va_getN (D := (dC, dI)) (ci := 10) (v := .ref (ρ (ρ h0 0) 18)) (C := RX10) (T := TX10) (N := 19) hx hb hts hfX10 hown hK hP q164 eq164 rfl 18 (by decide) (va_Nw.use rfl (hN.1 (.fieldLinkNest RX11 319 "ColdShips$World" "cargoes" "LColdShips$Rows;" "ColdShips") nzw_87)) (fun _ h9 => h9) rfl dX11_count_110 ?_
      obtain ⟨⟨y165, y165n⟩, ⟨y166a, y166b, y166c⟩⟩ := tpg_5 hG y162
      obtain ⟨o167_x0, o167_x2, hf_o167, ro167_0, ro167_1⟩ := tpo_5 hT y162
      obtain ⟨q168, eq168⟩ := tp_pos (tp_in hG y162 (by decide)) hf_o167
      refine va_getN (D := (dC, dI)) (ci := 4) (v := .int o167_x2) (C := RX4) (T := TX4) (N := 3) hx hb hts hfX4 hown hK hP q168 eq168 rfl 2 (by decide) (va_Nw.use rfl (hN.1 (.fieldLinkNest RX11 242 "ColdShips$Rows" "size" "I" "ColdShips") nzw_4)) (fun _ h9 => h9) rfl dX11_count_113 ?_
      exact W.iret (v := o167_x2) hx hb hr (fun t ht hW => ⟨⟨o167_x2, f, rfl, ⟨hT, hR, trivial, trivial⟩, by rw [ht]; exact hP, va_K.moved hW.alike hK, hD⟩, hS.F ht⟩) hS.2.2 dX11_count_116
    · refine lv_tableIn (tgt := 117) hx hb dX11_count_1 (by omega) (by omega) (by rw [h1k]; rfl) (by decide) ?_
      refine lv_aload_n hx hb dX11_count_117 rfl (lv_at hl 0 rfl) ?_
      obtain ⟨y169, y170, y171, y172, y173, y174⟩ := tpg_12 hG ht_h0
      obtain ⟨o175_x6, hf_o175⟩ := tpo_12 hT ht_h0
      obtain ⟨q176, eq176⟩ := tp_pos (tp_in hG ht_h0 (by decide)) hf_o175
      refine va_get (D := (dC, dI)) (ci := 11) (v := .ref (ρ h0 0)) (C := RX11) (T := TX11) (N := 7) hx hb hts hfX11 hown hK hP q176 eq176 rfl 0 (by decide) (hts (.fieldLink RX11 10 "ColdShips" "world" "LColdShips$World;") wa_15) (fun _ h9 => h9) rfl dX11_count_118 ?_
      obtain ⟨⟨y177, y177n⟩, ⟨y178, y178n⟩, y179, y180, y181, y182, y183, y184, ⟨y185, y185w, y185m⟩, ⟨y186, y186w, y186m⟩, ⟨y187, y187w, y187m⟩, ⟨y188, y188w, y188m⟩⟩ := tpg_11 hG y169
      obtain ⟨o189_x0, o189_x1, o189_x2, o189_x3, o189_x4, o189_x5, o189_x6, hf_o189, ro189_0, ro189_1, ro189_2, ro189_3⟩ := tpo_11 hT y169
      obtain ⟨q190, eq190⟩ := tp_pos (tp_in hG y169 (by decide)) hf_o189
      refine va_getN (D := (dC, dI)) (ci := 10) (v := .ref (ρ (ρ h0 0) 16)) (C := RX10) (T := TX10) (N := 19) hx hb hts hfX10 hown hK hP q190 eq190 rfl 16 (by decide) (va_Nw.use rfl (hN.1 (.fieldLinkNest RX11 306 "ColdShips$World" "readings" "LColdShips$Rows;" "ColdShips") nzw_82)) (fun _ h9 => h9) rfl dX11_count_121 ?_
      obtain ⟨⟨y191, y191n⟩, ⟨y192a, y192b, y192c⟩⟩ := tpg_5 hG y186
      obtain ⟨o193_x0, o193_x2, hf_o193, ro193_0, ro193_1⟩ := tpo_5 hT y186
      obtain ⟨q194, eq194⟩ := tp_pos (tp_in hG y186 (by decide)) hf_o193
      refine va_getN (D := (dC, dI)) (ci := 4) (v := .int o193_x2) (C := RX4) (T := TX4) (N := 3) hx hb hts hfX4 hown hK hP q194 eq194 rfl 2 (by decide) (va_Nw.use rfl (hN.1 (.fieldLinkNest RX11 242 "ColdShips$Rows" "size" "I" "ColdShips") nzw_4)) (fun _ h9 => h9) rfl dX11_count_124 ?_
      exact W.iret (v := o193_x2) hx hb hr (fun t ht hW => ⟨⟨o193_x2, f, rfl, ⟨hT, hR, trivial, trivial⟩, by rw [ht]; exact hP, va_K.moved hW.alike hK, hD⟩, hS.F ht⟩) hS.2.2 dX11_count_127
    · refine lv_tableIn (tgt := 128) hx hb dX11_count_1 (by omega) (by omega) (by rw [h1k]; rfl) (by decide) ?_
      refine lv_aload_n hx hb dX11_count_128 rfl (lv_at hl 0 rfl) ?_
      obtain ⟨y195, y196, y197, y198, y199, y200⟩ := tpg_12 hG ht_h0
      obtain ⟨o201_x6, hf_o201⟩ := tpo_12 hT ht_h0
      obtain ⟨q202, eq202⟩ := tp_pos (tp_in hG ht_h0 (by decide)) hf_o201
      refine va_get (D := (dC, dI)) (ci := 11) (v := .ref (ρ h0 3)) (C := RX11) (T := TX11) (N := 7) hx hb hts hfX11 hown hK hP q202 eq202 rfl 3 (by decide) (hts (.fieldLink RX11 32 "ColdShips" "reader" "LColdShips$Reader;") wa_24) (fun _ h9 => h9) rfl dX11_count_129 ?_
      obtain ⟨⟨y203, y203n⟩, ⟨y204, y204n⟩, ⟨y205, y205n⟩⟩ := tpg_3 hG y198
      obtain ⟨o206_x1, o206_x2, o206_x3, o206_x4, o206_x5, o206_x6, o206_x8, o206_x10, o206_x11, o206_x12, o206_x13, o206_x14, o206_x15, hf_o206, ro206_0, ro206_1, ro206_2, ro206_3, ro206_4, ro206_5, ro206_6⟩ := tpo_3 hT y198
      obtain ⟨q207, eq207⟩ := tp_pos (tp_in hG y198 (by decide)) hf_o206
      refine va_getN (D := (dC, dI)) (ci := 2) (v := .int o206_x1) (C := RX2) (T := TX2) (N := 16) hx hb hts hfX2 hown hK hP q207 eq207 rfl 1 (by decide) (va_Nw.use rfl (hN.1 (.fieldLinkNest RX11 260 "ColdShips$Reader" "size" "I" "ColdShips") nzw_88)) (fun _ h9 => h9) rfl dX11_count_132 ?_
      exact W.iret (v := o206_x1) hx hb hr (fun t ht hW => ⟨⟨o206_x1, f, rfl, ⟨hT, hR, trivial, trivial⟩, by rw [ht]; exact hP, va_K.moved hW.alike hK, hD⟩, hS.F ht⟩) hS.2.2 dX11_count_135
set_option maxHeartbeats 4000000 in
set_option maxRecDepth 100000 in
theorem t_X11_status (l : Launch) (dC : Nat → ClassId) (dI : Nat → Nat → Nat) (sz : Nat) (Ω : Nat → (Nat → Nat) → va_E → Prop) (κ : Nat → ClassId) (τ ν : Nat → Nat) (ρ : Nat → Nat → Nat) (L : List Nat) (f : Nat → va_E) (hG : tp_G τ ν ρ L) (hT : tp_T Ω κ τ ν ρ f) (h0 : Nat) (ht_h0 : τ h0 = 12) : Met l yX11_status wqX11_status ({ frames := 2, cells := 0, slots := 0, locals := 400 }) (va_Pc [.ref h0] (pz_B dC dI (tp_K κ) (va_pl L f) sz)) (va_Qi (fun (r : Int32) (f1 : Nat → va_E) => tp_T Ω κ τ ν ρ f1 ∧ tp_F τ [2, 3, 4, 5, 6, 7, 8, 9, 10, 11, 12, 20, 21, 22, 26, 27, 28] f f1 ∧ True ∧ True) (fun (f1 : Nat → va_E) (t : State) => pz_E dC dI (tp_K κ) (va_A (va_pl L f) sz) (va_pl L f1) t) (va_A (va_pl L f) sz)) 0 0 (va_A (va_pl L f) sz) := by
  refine Met.ofW (cc := cX11_status) (maxL := 1) (ret := some .int) (by decide) rfl ?_
  intro p e s m args below meth c s₁ B hml hv
  obtain ⟨rfl, hsz, hP, hK, hD0, hN⟩ := hv
  have hx := B.exec
  have hb := B.bytes
  have hr := B.returns
  have hts := fun (w : Cond) (h : w ∈ WALL) => atoms_spec (ws := wqX11_status) B.pre w (List.mem_cons_of_mem _ h)
  have hown : s.vm.findClass RX11 = some m.cls := findClass_of_methodNamed B.named
  have hlocks := B.notSynchronized
  subst hsz
  have hD := hD0.self (sz := s.heap.size)
  generalize hAe : va_A (va_pl L f) s.heap.size = A at hD ⊢
  have hA : ∀ q : Nat, s.heap.size ≤ q → A q := fun q h => by rw [← hAe]; exact Or.inr h
  have hS : va_S A s.heap s.heap [] := va_S.rf
  have hR : tp_F τ [2, 3, 4, 5, 6, 7, 8, 9, 10, 11, 12, 20, 21, 22, 26, 27, 28] f f := tp_F.rf
  have hl := lv_entry ([.ref h0]) (n := 1) (Nat.le_of_ble_eq_true rfl)
  rw [lg_entry_eq]
  generalize (lg_sl ([.ref h0]) ++ List.replicate (1 - (lg_sl ([.ref h0])).length) Slot.unset).toArray = ls at hl ⊢
  have hl : lv_has ls 1 [(0, .ref h0)] := hl
  refine lv_aload_n hx hb dX11_status_0 rfl (lv_at hl 0 rfl) ?_
  obtain ⟨y1, y2, y3, y4, y5, y6⟩ := tpg_12 hG ht_h0
  obtain ⟨o7_x6, hf_o7⟩ := tpo_12 hT ht_h0
  obtain ⟨q8, eq8⟩ := tp_pos (tp_in hG ht_h0 (by decide)) hf_o7
  refine va_get (D := (dC, dI)) (ci := 11) (v := .int o7_x6) (C := RX11) (T := TX11) (N := 7) hx hb hts hfX11 hown hK hP q8 eq8 rfl 6 (by decide) (hts (.fieldLink RX11 354 "ColdShips" "refusal" "I") wa_187) (fun _ h9 => h9) rfl dX11_status_1 ?_
  exact W.iret (v := o7_x6) hx hb hr (fun t ht hW => ⟨⟨o7_x6, f, rfl, ⟨hT, hR, trivial, trivial⟩, by rw [ht]; exact hP, va_K.moved hW.alike hK, hD⟩, hS.F ht⟩) hS.2.2 dX11_status_4
