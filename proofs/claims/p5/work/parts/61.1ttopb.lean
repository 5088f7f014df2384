set_option maxHeartbeats 4000000 in
set_option maxRecDepth 100000 in
theorem t_X11_feed (l : Launch) (dC : Nat → ClassId) (dI : Nat → Nat → Nat) (sz : Nat) (Ω : Nat → (Nat → Nat) → va_E → Prop) (κ : Nat → ClassId) (τ ν : Nat → Nat) (ρ : Nat → Nat → Nat) (L : List Nat) (f : Nat → va_E) (hG : tp_G τ ν ρ L) (hT : tp_T Ω κ τ ν ρ f) (h0 : Nat) (v : Int32) (u : Int32) (a : Int32) (b : Int32) (a5 : Int32) (ht_h0 : τ h0 = 12) : Met l yX11_feed wqX11_feed ({ frames := 3, cells := 0, slots := 0, locals := 800 }) (va_Pc [.ref h0, .int v, .int u, .int a, .int b, .int a5] (pz_B dC dI (tp_K κ) (va_pl L f) sz)) (va_Qi (fun (r : Int32) (f1 : Nat → va_E) => tp_T Ω κ τ ν ρ f1 ∧ tp_F τ [2, 3, 4, 5, 6, 7, 8, 9, 10, 11, 12, 20, 21, 22, 26, 27, 28] f f1 ∧ True ∧ True) (fun (f1 : Nat → va_E) (t : State) => pz_E dC dI (tp_K κ) (va_A (va_pl L f) sz) (va_pl L f1) t) (va_A (va_pl L f) sz)) 0 0 (va_A (va_pl L f) sz) := by
  refine Met.ofW (cc := cX11_feed) (maxL := 6) (ret := some .int) (by decide) rfl ?_
  intro p e s m args below meth c s₁ B hml hv
  obtain ⟨rfl, hsz, hP, hK, hD0, hN⟩ := hv
  have hx := B.exec
  have hb := B.bytes
  have hr := B.returns
  have hts := fun (w : Cond) (h : w ∈ WALL) => atoms_spec (ws := wqX11_feed) B.pre w (List.mem_cons_of_mem _ h)
  have hown : s.vm.findClass RX11 = some m.cls := findClass_of_methodNamed B.named
  have hlocks := B.notSynchronized
  subst hsz
  have hD := hD0.self (sz := s.heap.size)
  generalize hAe : va_A (va_pl L f) s.heap.size = A at hD ⊢
  have hA : ∀ q : Nat, s.heap.size ≤ q → A q := fun q h => by rw [← hAe]; exact Or.inr h
  have hS : va_S A s.heap s.heap [] := va_S.rf
  have hR : tp_F τ [2, 3, 4, 5, 6, 7, 8, 9, 10, 11, 12, 20, 21, 22, 26, 27, 28] f f := tp_F.rf
  have hl := lv_entry ([.ref h0, .int v, .int u, .int a, .int b, .int a5]) (n := 6) (Nat.le_of_ble_eq_true rfl)
  rw [lg_entry_eq]
  generalize (lg_sl ([.ref h0, .int v, .int u, .int a, .int b, .int a5]) ++ List.replicate (6 - (lg_sl ([.ref h0, .int v, .int u, .int a, .int b, .int a5])).length) Slot.unset).toArray = ls at hl ⊢
  have hl : lv_has ls 6 [(0, .ref h0), (1, .int v), (2, .int u), (3, .int a), (4, .int b), (5, .int a5)] := hl
  refine lv_aload_n hx hb dX11_feed_0 rfl (lv_at hl 0 rfl) ?_
  refine tgk_12 hG ht_h0 (fun y1 y2 y3 y4 y5 y6 => ?_)
  refine tpk_12 hT ht_h0 (fun o7_x6 hf_o7 => ?_)
  refine tpk_pos (tp_in hG ht_h0 (by decide)) hf_o7 (fun q8 eq8 => ?_)
  refine va_get (D := (dC, dI)) (ci := 11) (v := .ref (ρ h0 3)) (C := RX11) (T := TX11) (N := 7) hx hb hts hfX11 hown hK hP q8 eq8 rfl 3 (by decide) (hts (.fieldLink RX11 32 "ColdShips" "reader" "LColdShips$Reader;") wa_24) (fun _ h9 => h9) rfl dX11_feed_1 ?_
  refine tgk_3 hG y4 (fun y9 y9n y10 y10n y11 y11n => ?_)
  refine tpk_3 hT y4 (fun o12_x1 o12_x2 o12_x3 o12_x4 o12_x5 o12_x6 o12_x8 o12_x10 o12_x11 o12_x12 o12_x13 o12_x14 o12_x15 hf_o12 ro12_0 ro12_1 ro12_2 ro12_3 ro12_4 ro12_5 ro12_6 => ?_)
  refine tpk_pos (tp_in hG y4 (by decide)) hf_o12 (fun q13 eq13 => ?_)
  refine pz_calli (va_runV (As := []) (rest := []) ⟨hx, hb, hml, hown, hts⟩ (t_X2_hasRoom l dC dI _ Ω κ τ ν ρ L f hG hT (ρ h0 3) y4) (cwV 0 hts gX11_feed_X2_hasRoom rfl rfl rfl ⟨rfl, pd_X2_hasRoom⟩ ⟨Nat.le_of_ble_eq_true rfl, Nat.le_of_ble_eq_true rfl⟩) ⟨pz_blind, va_recv hK hP (ci := 2) (q0 := q13) rfl eq13, pz_pre hP hK hD hN⟩ rfl rfl hl.1 rfl (lv_room (Nat.le_of_ble_eq_true rfl)) dX11_feed_4 ⟨Nat.le_of_ble_eq_true rfl, Nat.le_of_ble_eq_true rfl⟩) (fun r14 hw15 => ?_)
  obtain ⟨hw15r, hw15p⟩ := hw15
  refine lv_if_ne (tgt := 12) hx hb dX11_feed_7 (by decide) (fun c16 => ?_) (fun c16 => ?_)
  · have ic16 : r14.toInt ≠ 0 := zi_ne rfl rfl c16
    refine lv_aload_n hx hb dX11_feed_12 rfl (lv_at hl 0 rfl) ?_
    refine va_get (D := (dC, dI)) (ci := 11) (v := .ref (ρ h0 3)) (C := RX11) (T := TX11) (N := 7) hx hb hts hfX11 hown hK hP q8 eq8 rfl 3 (by decide) (hts (.fieldLink RX11 32 "ColdShips" "reader" "LColdShips$Reader;") wa_24) (fun _ h9 => h9) rfl dX11_feed_13 ?_
    refine lv_iload_n hx hb dX11_feed_16 rfl (lv_at hl 1 rfl) ?_
    have hFc := tp_fr hD hS hA
    refine va_callv (va_runV (As := [.int v]) (rest := []) ⟨hx, hb, hml, hown, hts⟩ (t_X2_addFour l dC dI _ Ω κ τ ν ρ L f hG hT (ρ h0 3) v y4) (cwV 1 hts gX11_feed_X2_addFour rfl rfl rfl ⟨rfl, pd_X2_addFour⟩ ⟨Nat.le_of_ble_eq_true rfl, Nat.le_of_ble_eq_true rfl⟩) ⟨pz_blind, va_recv hK hP (ci := 2) (q0 := q13) rfl eq13, pz_pre hP hK hD hN⟩ rfl rfl hl.1 rfl (lv_room (Nat.le_of_ble_eq_true rfl)) dX11_feed_17 ⟨Nat.le_of_ble_eq_true rfl, Nat.le_of_ble_eq_true rfl⟩) hS (fun q _ h => hFc q h) hFc (fun f19 t H1 locs ht hvm hw18 hB hz1 hk1 hS => ?_)
    refine tn_3 hw18 (fun hT hF20 hw18p => ?_); clear hw18
    have hR := hR.then hF20 (by decide)
    have hP := hB.1; rw [ht] at hP; have hD := tp_ad f19 hD; clear hB hFc hz1 hk1; subst ht; generalize t.heap = H at hP hS ⊢
    refine lv_aload_n hx hb dX11_feed_20 rfl (lv_at hl 0 rfl) ?_
    have hf_21 : f19 h0 = .inr (11, [.ref (ρ h0 0), .ref (ρ h0 1), .ref (ρ h0 2), .ref (ρ h0 3), .ref (ρ h0 4), .ref (ρ h0 5), .int o7_x6]) := (hF20 _ (by rw [ht_h0]; decide)).trans hf_o7
    refine tpk_pos (tp_in hG ht_h0 (by decide)) hf_21 (fun q22 eq22 => ?_)
    refine va_get (D := (dC, dI)) (ci := 11) (v := .ref (ρ h0 3)) (C := RX11) (T := TX11) (N := 7) hx hb hts hfX11 hown hK hP q22 eq22 rfl 3 (by decide) (hts (.fieldLink RX11 32 "ColdShips" "reader" "LColdShips$Reader;") wa_24) (fun _ h9 => h9) rfl dX11_feed_21 ?_
    refine lv_iload_n hx hb dX11_feed_24 rfl (lv_at hl 2 rfl) ?_
    refine tpk_3 hT y4 (fun o23_x1 o23_x2 o23_x3 o23_x4 o23_x5 o23_x6 o23_x8 o23_x10 o23_x11 o23_x12 o23_x13 o23_x14 o23_x15 hf_o23 ro23_0 ro23_1 ro23_2 ro23_3 ro23_4 ro23_5 ro23_6 => ?_)
    refine tpk_pos (tp_in hG y4 (by decide)) hf_o23 (fun q24 eq24 => ?_)
    have hFc := tp_fr hD hS hA
    refine va_callv (va_runV (As := [.int u]) (rest := []) ⟨hx, hb, hml, hown, hts⟩ (t_X2_addFour l dC dI _ Ω κ τ ν ρ L f19 hG hT (ρ h0 3) u y4) (cwV 1 hts gX11_feed_X2_addFour rfl rfl rfl ⟨rfl, pd_X2_addFour⟩ ⟨Nat.le_of_ble_eq_true rfl, Nat.le_of_ble_eq_true rfl⟩) ⟨pz_blind, va_recv hK hP (ci := 2) (q0 := q24) rfl eq24, pz_pre hP hK hD hN⟩ rfl rfl hl.1 rfl (lv_room (Nat.le_of_ble_eq_true rfl)) dX11_feed_25 ⟨Nat.le_of_ble_eq_true rfl, Nat.le_of_ble_eq_true rfl⟩) hS (fun q _ h => hFc q h) hFc (fun f27 t H1 locs ht hvm hw26 hB hz1 hk1 hS => ?_)
    refine tn_3 hw26 (fun hT hF28 hw26p => ?_); clear hw26
    have hR := hR.then hF28 (by decide)
    have hP := hB.1; rw [ht] at hP; have hD := tp_ad f27 hD; clear hB hFc hz1 hk1; subst ht; generalize t.heap = H at hP hS ⊢
    refine lv_aload_n hx hb dX11_feed_28 rfl (lv_at hl 0 rfl) ?_
    have hf_29 : f27 h0 = .inr (11, [.ref (ρ h0 0), .ref (ρ h0 1), .ref (ρ h0 2), .ref (ρ h0 3), .ref (ρ h0 4), .ref (ρ h0 5), .int o7_x6]) := (hF28 _ (by rw [ht_h0]; decide)).trans hf_21
    refine tpk_pos (tp_in hG ht_h0 (by decide)) hf_29 (fun q30 eq30 => ?_)
    refine va_get (D := (dC, dI)) (ci := 11) (v := .ref (ρ h0 3)) (C := RX11) (T := TX11) (N := 7) hx hb hts hfX11 hown hK hP q30 eq30 rfl 3 (by decide) (hts (.fieldLink RX11 32 "ColdShips" "reader" "LColdShips$Reader;") wa_24) (fun _ h9 => h9) rfl dX11_feed_29 ?_
    refine lv_iload_n hx hb dX11_feed_32 rfl (lv_at hl 3 rfl) ?_
    refine tpk_3 hT y4 (fun o31_x1 o31_x2 o31_x3 o31_x4 o31_x5 o31_x6 o31_x8 o31_x10 o31_x11 o31_x12 o31_x13 o31_x14 o31_x15 hf_o31 ro31_0 ro31_1 ro31_2 ro31_3 ro31_4 ro31_5 ro31_6 => ?_)
    refine tpk_pos (tp_in hG y4 (by decide)) hf_o31 (fun q32 eq32 => ?_)
    have hFc := tp_fr hD hS hA
    refine va_callv (va_runV (As := [.int a]) (rest := []) ⟨hx, hb, hml, hown, hts⟩ (t_X2_addFour l dC dI _ Ω κ τ ν ρ L f27 hG hT (ρ h0 3) a y4) (cwV 1 hts gX11_feed_X2_addFour rfl rfl rfl ⟨rfl, pd_X2_addFour⟩ ⟨Nat.le_of_ble_eq_true rfl, Nat.le_of_ble_eq_true rfl⟩) ⟨pz_blind, va_recv hK hP (ci := 2) (q0 := q32) rfl eq32, pz_pre hP hK hD hN⟩ rfl rfl hl.1 rfl (lv_room (Nat.le_of_ble_eq_true rfl)) dX11_feed_33 ⟨Nat.le_of_ble_eq_true rfl, Nat.le_of_ble_eq_true rfl⟩) hS (fun q _ h => hFc q h) hFc (fun f35 t H1 locs ht hvm hw34 hB hz1 hk1 hS => ?_)
    refine tn_3 hw34 (fun hT hF36 hw34p => ?_); clear hw34
    have hR := hR.then hF36 (by decide)
    have hP := hB.1; rw [ht] at hP; have hD := tp_ad f35 hD; clear hB hFc hz1 hk1; subst ht; generalize t.heap = H at hP hS ⊢
    refine lv_aload_n hx hb dX11_feed_36 rfl (lv_at hl 0 rfl) ?_
    have hf_37 : f35 h0 = .inr (11, [.ref (ρ h0 0), .ref (ρ h0 1), .ref (ρ h0 2), .ref (ρ h0 3), .ref (ρ h0 4), .ref (ρ h0 5), .int o7_x6]) := (hF36 _ (by rw [ht_h0]; decide)).trans hf_29
    refine tpk_pos (tp_in hG ht_h0 (by decide)) hf_37 (fun q38 eq38 => ?_)
    refine va_get (D := (dC, dI)) (ci := 11) (v := .ref (ρ h0 3)) (C := RX11) (T := TX11) (N := 7) hx hb hts hfX11 hown hK hP q38 eq38 rfl 3 (by decide) (hts (.fieldLink RX11 32 "ColdShips" "reader" "LColdShips$Reader;") wa_24) (fun _ h9 => h9) rfl dX11_feed_37 ?_
    refine lv_iload hx hb dX11_feed_40 (lv_at hl 4 rfl) ?_
    refine tpk_3 hT y4 (fun o39_x1 o39_x2 o39_x3 o39_x4 o39_x5 o39_x6 o39_x8 o39_x10 o39_x11 o39_x12 o39_x13 o39_x14 o39_x15 hf_o39 ro39_0 ro39_1 ro39_2 ro39_3 ro39_4 ro39_5 ro39_6 => ?_)
    refine tpk_pos (tp_in hG y4 (by decide)) hf_o39 (fun q40 eq40 => ?_)
    have hFc := tp_fr hD hS hA
    refine va_callv (va_runV (As := [.int b]) (rest := []) ⟨hx, hb, hml, hown, hts⟩ (t_X2_addFour l dC dI _ Ω κ τ ν ρ L f35 hG hT (ρ h0 3) b y4) (cwV 1 hts gX11_feed_X2_addFour rfl rfl rfl ⟨rfl, pd_X2_addFour⟩ ⟨Nat.le_of_ble_eq_true rfl, Nat.le_of_ble_eq_true rfl⟩) ⟨pz_blind, va_recv hK hP (ci := 2) (q0 := q40) rfl eq40, pz_pre hP hK hD hN⟩ rfl rfl hl.1 rfl (lv_room (Nat.le_of_ble_eq_true rfl)) dX11_feed_42 ⟨Nat.le_of_ble_eq_true rfl, Nat.le_of_ble_eq_true rfl⟩) hS (fun q _ h => hFc q h) hFc (fun f43 t H1 locs ht hvm hw42 hB hz1 hk1 hS => ?_)
    refine tn_3 hw42 (fun hT hF44 hw42p => ?_); clear hw42
    have hR := hR.then hF44 (by decide)
    have hP := hB.1; rw [ht] at hP; have hD := tp_ad f43 hD; clear hB hFc hz1 hk1; subst ht; generalize t.heap = H at hP hS ⊢
    refine lv_aload_n hx hb dX11_feed_45 rfl (lv_at hl 0 rfl) ?_
    have hf_45 : f43 h0 = .inr (11, [.ref (ρ h0 0), .ref (ρ h0 1), .ref (ρ h0 2), .ref (ρ h0 3), .ref (ρ h0 4), .ref (ρ h0 5), .int o7_x6]) := (hF44 _ (by rw [ht_h0]; decide)).trans hf_37
    refine tpk_pos (tp_in hG ht_h0 (by decide)) hf_45 (fun q46 eq46 => ?_)
    refine va_get (D := (dC, dI)) (ci := 11) (v := .ref (ρ h0 3)) (C := RX11) (T := TX11) (N := 7) hx hb hts hfX11 hown hK hP q46 eq46 rfl 3 (by decide) (hts (.fieldLink RX11 32 "ColdShips" "reader" "LColdShips$Reader;") wa_24) (fun _ h9 => h9) rfl dX11_feed_46 ?_
    refine lv_iload hx hb dX11_feed_49 (lv_at hl 5 rfl) ?_
    refine tpk_3 hT y4 (fun o47_x1 o47_x2 o47_x3 o47_x4 o47_x5 o47_x6 o47_x8 o47_x10 o47_x11 o47_x12 o47_x13 o47_x14 o47_x15 hf_o47 ro47_0 ro47_1 ro47_2 ro47_3 ro47_4 ro47_5 ro47_6 => ?_)
    refine tpk_pos (tp_in hG y4 (by decide)) hf_o47 (fun q48 eq48 => ?_)
    have hFc := tp_fr hD hS hA
    refine va_callv (va_runV (As := [.int a5]) (rest := []) ⟨hx, hb, hml, hown, hts⟩ (t_X2_addFour l dC dI _ Ω κ τ ν ρ L f43 hG hT (ρ h0 3) a5 y4) (cwV 1 hts gX11_feed_X2_addFour rfl rfl rfl ⟨rfl, pd_X2_addFour⟩ ⟨Nat.le_of_ble_eq_true rfl, Nat.le_of_ble_eq_true rfl⟩) ⟨pz_blind, va_recv hK hP (ci := 2) (q0 := q48) rfl eq48, pz_pre hP hK hD hN⟩ rfl rfl hl.1 rfl (lv_room (Nat.le_of_ble_eq_true rfl)) dX11_feed_51 ⟨Nat.le_of_ble_eq_true rfl, Nat.le_of_ble_eq_true rfl⟩) hS (fun q _ h => hFc q h) hFc (fun f51 t H1 locs ht hvm hw50 hB hz1 hk1 hS => ?_)
    refine tn_3 hw50 (fun hT hF52 hw50p => ?_); clear hw50
    have hR := hR.then hF52 (by decide)
    have hP := hB.1; rw [ht] at hP; have hD := tp_ad f51 hD; clear hB hFc hz1 hk1; subst ht; generalize t.heap = H at hP hS ⊢
    refine lv_aload_n hx hb dX11_feed_54 rfl (lv_at hl 0 rfl) ?_
    have hf_53 : f51 h0 = .inr (11, [.ref (ρ h0 0), .ref (ρ h0 1), .ref (ρ h0 2), .ref (ρ h0 3), .ref (ρ h0 4), .ref (ρ h0 5), .int o7_x6]) := (hF52 _ (by rw [ht_h0]; decide)).trans hf_45
    refine tpk_pos (tp_in hG ht_h0 (by decide)) hf_53 (fun q54 eq54 => ?_)
    refine va_get (D := (dC, dI)) (ci := 11) (v := .ref (ρ h0 3)) (C := RX11) (T := TX11) (N := 7) hx hb hts hfX11 hown hK hP q54 eq54 rfl 3 (by decide) (hts (.fieldLink RX11 32 "ColdShips" "reader" "LColdShips$Reader;") wa_24) (fun _ h9 => h9) rfl dX11_feed_55 ?_
    refine tpk_3 hT y4 (fun o55_x1 o55_x2 o55_x3 o55_x4 o55_x5 o55_x6 o55_x8 o55_x10 o55_x11 o55_x12 o55_x13 o55_x14 o55_x15 hf_o55 ro55_0 ro55_1 ro55_2 ro55_3 ro55_4 ro55_5 ro55_6 => ?_)
    refine tpk_pos (tp_in hG y4 (by decide)) hf_o55 (fun q56 eq56 => ?_)
    refine va_getN (D := (dC, dI)) (ci := 2) (v := .int o55_x1) (C := RX2) (T := TX2) (N := 16) hx hb hts hfX2 hown hK hP q56 eq56 rfl 1 (by decide) (va_Nw.use rfl (hN.1 (.fieldLinkNest RX11 260 "ColdShips$Reader" "size" "I" "ColdShips") nzw_88)) (fun _ h9 => h9) rfl dX11_feed_58 ?_
    exact W.iret (v := o55_x1) hx hb hr (fun t ht hW => ⟨⟨o55_x1, f51, rfl, ⟨hT, hR, trivial, trivial⟩, by rw [ht]; exact hP, va_K.moved hW.alike hK, hD⟩, hS.F ht⟩) hS.2.2 dX11_feed_61
  · have ic16 : r14.toInt = 0 := zi_nef rfl rfl c16
    refine lv_iconst (v := (-1)) hx hb dX11_feed_10 (by decide) ?_
    exact W.iret (v := (-1)) hx hb hr (fun t ht hW => ⟨⟨(-1), f, rfl, ⟨hT, hR, trivial, trivial⟩, by rw [ht]; exact hP, va_K.moved hW.alike hK, hD⟩, hS.F ht⟩) hS.2.2 dX11_feed_11
set_option maxHeartbeats 4000000 in
set_option maxRecDepth 100000 in
theorem t_X11_end (l : Launch) (dC : Nat → ClassId) (dI : Nat → Nat → Nat) (sz : Nat) (Ω : Nat → (Nat → Nat) → va_E → Prop) (κ : Nat → ClassId) (τ ν : Nat → Nat) (ρ : Nat → Nat → Nat) (L : List Nat) (f : Nat → va_E) (hG : tp_G τ ν ρ L) (hT : tp_T Ω κ τ ν ρ f) (h0 : Nat) (v : Int32) (ht_h0 : τ h0 = 12) : Met l yX11_end wqX11_end ({ frames := 3, cells := 0, slots := 0, locals := 800 }) (va_Pc [.ref h0, .int v] (pz_B dC dI (tp_K κ) (va_pl L f) sz)) (va_Qi (fun (r : Int32) (f1 : Nat → va_E) => tp_T Ω κ τ ν ρ f1 ∧ tp_F τ [2, 3, 4, 5, 6, 7, 8, 9, 10, 11, 12, 20, 21, 22, 26, 27, 28] f f1 ∧ True ∧ True) (fun (f1 : Nat → va_E) (t : State) => pz_E dC dI (tp_K κ) (va_A (va_pl L f) sz) (va_pl L f1) t) (va_A (va_pl L f) sz)) 0 0 (va_A (va_pl L f) sz) := by
  refine Met.ofW (cc := cX11_end) (maxL := 2) (ret := some .int) (by decide) rfl ?_
  intro p e s m args below meth c s₁ B hml hv
  obtain ⟨rfl, hsz, hP, hK, hD0, hN⟩ := hv
  have hx := B.exec
  have hb := B.bytes
  have hr := B.returns
  have hts := fun (w : Cond) (h : w ∈ WALL) => atoms_spec (ws := wqX11_end) B.pre w (List.mem_cons_of_mem _ h)
  have hown : s.vm.findClass RX11 = some m.cls := findClass_of_methodNamed B.named
  have hlocks := B.notSynchronized
  subst hsz
  have hD := hD0.self (sz := s.heap.size)
  generalize hAe : va_A (va_pl L f) s.heap.size = A at hD ⊢
  have hA : ∀ q : Nat, s.heap.size ≤ q → A q := fun q h => by rw [← hAe]; exact Or.inr h
  have hS : va_S A s.heap s.heap [] := va_S.rf
  have hR : tp_F τ [2, 3, 4, 5, 6, 7, 8, 9, 10, 11, 12, 20, 21, 22, 26, 27, 28] f f := tp_F.rf
  have hl := lv_entry ([.ref h0, .int v]) (n := 2) (Nat.le_of_ble_eq_true rfl)
  rw [lg_entry_eq]
  generalize (lg_sl ([.ref h0, .int v]) ++ List.replicate (2 - (lg_sl ([.ref h0, .int v])).length) Slot.unset).toArray = ls at hl ⊢
  have hl : lv_has ls 2 [(0, .ref h0), (1, .int v)] := hl
  refine lv_iload_n hx hb dX11_end_0 rfl (lv_at hl 1 rfl) ?_
  refine lv_iconst (v := 0) hx hb dX11_end_1 (by decide) ?_
  refine lv_aload_n hx hb dX11_end_2 rfl (lv_at hl 0 rfl) ?_
  refine tgk_12 hG ht_h0 (fun y1 y2 y3 y4 y5 y6 => ?_)
  refine tpk_12 hT ht_h0 (fun o7_x6 hf_o7 => ?_)
  refine tpk_pos (tp_in hG ht_h0 (by decide)) hf_o7 (fun q8 eq8 => ?_)
  refine va_get (D := (dC, dI)) (ci := 11) (v := .ref (ρ h0 3)) (C := RX11) (T := TX11) (N := 7) hx hb hts hfX11 hown hK hP q8 eq8 rfl 3 (by decide) (hts (.fieldLink RX11 32 "ColdShips" "reader" "LColdShips$Reader;") wa_24) (fun _ h9 => h9) rfl dX11_end_3 ?_
  refine tgk_3 hG y4 (fun y9 y9n y10 y10n y11 y11n => ?_)
  refine tpk_3 hT y4 (fun o12_x1 o12_x2 o12_x3 o12_x4 o12_x5 o12_x6 o12_x8 o12_x10 o12_x11 o12_x12 o12_x13 o12_x14 o12_x15 hf_o12 ro12_0 ro12_1 ro12_2 ro12_3 ro12_4 ro12_5 ro12_6 => ?_)
  refine tpk_pos (tp_in hG y4 (by decide)) hf_o12 (fun q13 eq13 => ?_)
  refine va_getN (D := (dC, dI)) (ci := 2) (v := .int o12_x1) (C := RX2) (T := TX2) (N := 16) hx hb hts hfX2 hown hK hP q13 eq13 rfl 1 (by decide) (va_Nw.use rfl (hN.1 (.fieldLinkNest RX11 260 "ColdShips$Reader" "size" "I" "ColdShips") nzw_88)) (fun _ h9 => h9) rfl dX11_end_6 ?_
  refine pz_calli (va_runS (As := [.int v, .int 0, .int o12_x1]) (rest := []) ⟨hx, hb, hml, hown, hts⟩ (t_X11_within l dC dI _ v (0) o12_x1 (v.toInt) (0) (o12_x1.toInt) rfl rfl rfl) (va_cwS 3 hts gX11_end_X11_within rfl rfl rfl pd_X11_within ⟨Nat.le_of_ble_eq_true rfl, Nat.le_of_ble_eq_true rfl⟩) ⟨pz_blind, pz_pre pz_P0 (hK.sub (tys' := []) [] rfl) (pz_D0 (A := fun _ => True)) hN⟩ rfl rfl hl.1 rfl (lv_room (Nat.le_of_ble_eq_true rfl)) dX11_end_9 ⟨Nat.le_of_ble_eq_true rfl, Nat.le_of_ble_eq_true rfl⟩) (fun r14 hw15 => ?_)
  obtain ⟨hw15r, hw15p⟩ := hw15
  refine lv_if_ne (tgt := 17) hx hb dX11_end_12 (by decide) (fun c16 => ?_) (fun c16 => ?_)
  · have ic16 : r14.toInt ≠ 0 := zi_ne rfl rfl c16
    have p17 : (0) ≤ (v.toInt) ∧ (v.toInt) ≤ (o12_x1.toInt) := (tp_cond.yes hw15p) (by omega)
    refine lv_aload_n hx hb dX11_end_17 rfl (lv_at hl 0 rfl) ?_
    refine va_get (D := (dC, dI)) (ci := 11) (v := .ref (ρ h0 3)) (C := RX11) (T := TX11) (N := 7) hx hb hts hfX11 hown hK hP q8 eq8 rfl 3 (by decide) (hts (.fieldLink RX11 32 "ColdShips" "reader" "LColdShips$Reader;") wa_24) (fun _ h9 => h9) rfl dX11_end_18 ?_
    refine lv_iload_n hx hb dX11_end_21 rfl (lv_at hl 1 rfl) ?_
    refine va_putN (D := (dC, dI)) (ci := 2) (v := .int v) (ty := .int) (C := RX2) (T := TX2) (N := 16) hx hb hts hfX2 tyX2 tyX2_ok nmX2 hown hK hP hD hS q13 eq13 rfl 1 (by decide) (va_Nw.use rfl (hN.1 (.fieldLinkNest RX11 260 "ColdShips$Reader" "size" "I" "ColdShips") nzw_88)) (fun _ h9 => h9) rfl (tyX2_ok 1 (by decide)) rfl rfl (Nat.le_of_ble_eq_true rfl) dX11_end_22 (tp_k (.inr (2, [.ref (ρ (ρ h0 3) 0), .int v, .int o12_x2, .int o12_x3, .int o12_x4, .int o12_x5, .int o12_x6, .ref (ρ (ρ h0 3) 7), .int o12_x8, .ref (ρ (ρ h0 3) 9), .int o12_x10, .int o12_x11, .int o12_x12, .int o12_x13, .int o12_x14, .int o12_x15])) hD (tp_in hG y4 (by decide)) eq13 (fun f18 H locs hP hD hS g20 k19 => ?_))
    have hT := hT.up y4 g20 k19 ⟨_, _, _, _, _, _, _, _, _, _, _, _, _, rfl, (by first | decide | omega | (omega)), (by first | decide | omega | (omega)), (by first | decide | omega | (omega)), (by first | decide | omega | (omega)), (by first | decide | omega | (omega)), (by first | decide | omega | (omega)), (by first | decide | omega | (omega))⟩
    have hR := hR.up y4 (by decide) k19
    refine lv_iload_n hx hb dX11_end_25 rfl (lv_at hl 1 rfl) ?_
    exact W.iret (v := v) hx hb hr (fun t ht hW => ⟨⟨v, f18, rfl, ⟨hT, hR, trivial, trivial⟩, by rw [ht]; exact hP, va_K.moved hW.alike hK, hD⟩, hS.F ht⟩) hS.2.2 dX11_end_26
  · have ic16 : r14.toInt = 0 := zi_nef rfl rfl c16
    refine lv_iconst (v := (-1)) hx hb dX11_end_15 (by decide) ?_
    exact W.iret (v := (-1)) hx hb hr (fun t ht hW => ⟨⟨(-1), f, rfl, ⟨hT, hR, trivial, trivial⟩, by rw [ht]; exact hP, va_K.moved hW.alike hK, hD⟩, hS.F ht⟩) hS.2.2 dX11_end_16
set_option maxHeartbeats 4000000 in
set_option maxRecDepth 100000 in
theorem t_X11_fault (l : Launch) (dC : Nat → ClassId) (dI : Nat → Nat → Nat) (sz : Nat) (Ω : Nat → (Nat → Nat) → va_E → Prop) (κ : Nat → ClassId) (τ ν : Nat → Nat) (ρ : Nat → Nat → Nat) (L : List Nat) (f : Nat → va_E) (hG : tp_G τ ν ρ L) (hT : tp_T Ω κ τ ν ρ f) (h0 : Nat) (ht_h0 : τ h0 = 12) : Met l yX11_fault wqX11_fault ({ frames := 2, cells := 0, slots := 0, locals := 400 }) (va_Pc [.ref h0] (pz_B dC dI (tp_K κ) (va_pl L f) sz)) (va_Qi (fun (r : Int32) (f1 : Nat → va_E) => tp_T Ω κ τ ν ρ f1 ∧ tp_F τ [2, 3, 4, 5, 6, 7, 8, 9, 10, 11, 12, 20, 21, 22, 26, 27, 28] f f1 ∧ True ∧ True) (fun (f1 : Nat → va_E) (t : State) => pz_E dC dI (tp_K κ) (va_A (va_pl L f) sz) (va_pl L f1) t) (va_A (va_pl L f) sz)) 0 0 (va_A (va_pl L f) sz) := by
  refine Met.ofW (cc := cX11_fault) (maxL := 1) (ret := some .int) (by decide) rfl ?_
  intro p e s m args below meth c s₁ B hml hv
  obtain ⟨rfl, hsz, hP, hK, hD0, hN⟩ := hv
  have hx := B.exec
  have hb := B.bytes
  have hr := B.returns
  have hts := fun (w : Cond) (h : w ∈ WALL) => atoms_spec (ws := wqX11_fault) B.pre w (List.mem_cons_of_mem _ h)
  have hown : s.vm.findClass RX11 = some m.cls := findClass_of_methodNamed B.named
  have hlocks := B.notSynchronized
  subst hsz
  have hD := hD0.self (sz := s.heap.size)
  generalize hAe : va_A (va_pl L f) s.heap.size = A at hD ⊢
  have hA : ∀ q : Nat, s.heap.size ≤ q → A q := fun q h => by rw [← hAe]; exact Or.inr h
  have hS : va_S A s.heap s.heap [] := va_S.rf
  have hR : tp_F τ [2, 3, 4, 5, 6, 7, 8, 9, 10, 11, 12, 20, 21, 22, 26, 27, 28] f f := tp_F.rf
  have hl := lv_entry ([.ref h0]) (n := 1) (Nat.le_of_ble_eq_true rfl)
  rw [lg_entry_eq]
  generalize (lg_sl ([.ref h0]) ++ List.replicate (1 - (lg_sl ([.ref h0])).length) Slot.unset).toArray = ls at hl ⊢
  have hl : lv_has ls 1 [(0, .ref h0)] := hl
  refine lv_aload_n hx hb dX11_fault_0 rfl (lv_at hl 0 rfl) ?_
  refine tgk_12 hG ht_h0 (fun y1 y2 y3 y4 y5 y6 => ?_)
  refine tpk_12 hT ht_h0 (fun o7_x6 hf_o7 => ?_)
  refine tpk_pos (tp_in hG ht_h0 (by decide)) hf_o7 (fun q8 eq8 => ?_)
  refine va_get (D := (dC, dI)) (ci := 11) (v := .ref (ρ h0 3)) (C := RX11) (T := TX11) (N := 7) hx hb hts hfX11 hown hK hP q8 eq8 rfl 3 (by decide) (hts (.fieldLink RX11 32 "ColdShips" "reader" "LColdShips$Reader;") wa_24) (fun _ h9 => h9) rfl dX11_fault_1 ?_
  refine tgk_3 hG y4 (fun y9 y9n y10 y10n y11 y11n => ?_)
  refine tpk_3 hT y4 (fun o12_x1 o12_x2 o12_x3 o12_x4 o12_x5 o12_x6 o12_x8 o12_x10 o12_x11 o12_x12 o12_x13 o12_x14 o12_x15 hf_o12 ro12_0 ro12_1 ro12_2 ro12_3 ro12_4 ro12_5 ro12_6 => ?_)
  refine tpk_pos (tp_in hG y4 (by decide)) hf_o12 (fun q13 eq13 => ?_)
  refine va_getN (D := (dC, dI)) (ci := 2) (v := .int o12_x2) (C := RX2) (T := TX2) (N := 16) hx hb hts hfX2 hown hK hP q13 eq13 rfl 2 (by decide) (va_Nw.use rfl (hN.1 (.fieldLinkNest RX11 275 "ColdShips$Reader" "faultAt" "I" "ColdShips") nzw_89)) (fun _ h9 => h9) rfl dX11_fault_4 ?_
  exact W.iret (v := o12_x2) hx hb hr (fun t ht hW => ⟨⟨o12_x2, f, rfl, ⟨hT, hR, trivial, trivial⟩, by rw [ht]; exact hP, va_K.moved hW.alike hK, hD⟩, hS.F ht⟩) hS.2.2 dX11_fault_7
set_option maxHeartbeats 4000000 in
set_option maxRecDepth 100000 in
theorem t_X11_due (l : Launch) (dC : Nat → ClassId) (dI : Nat → Nat → Nat) (sz : Nat) (Ω : Nat → (Nat → Nat) → va_E → Prop) (κ : Nat → ClassId) (τ ν : Nat → Nat) (ρ : Nat → Nat → Nat) (L : List Nat) (f : Nat → va_E) (hG : tp_G τ ν ρ L) (hT : tp_T Ω κ τ ν ρ f) (h0 : Nat) (v : Int32) (u : Int32) (a : Int32) (b : Int32) (ht_h0 : τ h0 = 12) : Met l yX11_due wqX11_due ({ frames := 7, cells := 0, slots := 0, locals := 2400 }) (va_Pc [.ref h0, .int v, .int u, .int a, .int b] (pz_B dC dI (tp_K κ) (va_pl L f) sz)) (va_Ql (fun (r : Int64) (f1 : Nat → va_E) => tp_T Ω κ τ ν ρ f1 ∧ tp_F τ [2, 3, 4, 5, 6, 7, 8, 9, 10, 11, 12, 20, 21, 22, 26, 27, 28] f f1 ∧ True ∧ True) (fun (f1 : Nat → va_E) (t : State) => pz_E dC dI (tp_K κ) (va_A (va_pl L f) sz) (va_pl L f1) t) (va_A (va_pl L f) sz)) 0 0 (va_A (va_pl L f) sz) := by
  refine Met.ofW (cc := cX11_due) (maxL := 5) (ret := some .long) (by decide) rfl ?_
  intro p e s m args below meth c s₁ B hml hv
  obtain ⟨rfl, hsz, hP, hK, hD0, hN⟩ := hv
  have hx := B.exec
  have hb := B.bytes
  have hr := B.returns
  have hts := fun (w : Cond) (h : w ∈ WALL) => atoms_spec (ws := wqX11_due) B.pre w (List.mem_cons_of_mem _ h)
  have hown : s.vm.findClass RX11 = some m.cls := findClass_of_methodNamed B.named
  have hlocks := B.notSynchronized
  subst hsz
  have hD := hD0.self (sz := s.heap.size)
  generalize hAe : va_A (va_pl L f) s.heap.size = A at hD ⊢
  have hA : ∀ q : Nat, s.heap.size ≤ q → A q := fun q h => by rw [← hAe]; exact Or.inr h
  have hS : va_S A s.heap s.heap [] := va_S.rf
  have hR : tp_F τ [2, 3, 4, 5, 6, 7, 8, 9, 10, 11, 12, 20, 21, 22, 26, 27, 28] f f := tp_F.rf
  have hl := lv_entry ([.ref h0, .int v, .int u, .int a, .int b]) (n := 5) (Nat.le_of_ble_eq_true rfl)
  rw [lg_entry_eq]
  generalize (lg_sl ([.ref h0, .int v, .int u, .int a, .int b]) ++ List.replicate (5 - (lg_sl ([.ref h0, .int v, .int u, .int a, .int b])).length) Slot.unset).toArray = ls at hl ⊢
  have hl : lv_has ls 5 [(0, .ref h0), (1, .int v), (2, .int u), (3, .int a), (4, .int b)] := hl
  refine lv_aload_n hx hb dX11_due_0 rfl (lv_at hl 0 rfl) ?_
  refine tgk_12 hG ht_h0 (fun y1 y2 y3 y4 y5 y6 => ?_)
  refine tpk_12 hT ht_h0 (fun o7_x6 hf_o7 => ?_)
  refine tpk_pos (tp_in hG ht_h0 (by decide)) hf_o7 (fun q8 eq8 => ?_)
  refine va_get (D := (dC, dI)) (ci := 11) (v := .ref (ρ h0 0)) (C := RX11) (T := TX11) (N := 7) hx hb hts hfX11 hown hK hP q8 eq8 rfl 0 (by decide) (hts (.fieldLink RX11 10 "ColdShips" "world" "LColdShips$World;") wa_15) (fun _ h9 => h9) rfl dX11_due_1 ?_
  refine tgk_11 hG y1 (fun y9 y9n y10 y10n y11 y12 y13 y14 y15 y16 y17 y17w y17m y18 y18w y18m y19 y19w y19m y20 y20w y20m => ?_)
  refine tpk_11 hT y1 (fun o21_x0 o21_x1 o21_x2 o21_x3 o21_x4 o21_x5 o21_x6 hf_o21 ro21_0 ro21_1 ro21_2 ro21_3 => ?_)
  refine tpk_pos (tp_in hG y1 (by decide)) hf_o21 (fun q22 eq22 => ?_)
  refine va_getN (D := (dC, dI)) (ci := 10) (v := .ref (ρ (ρ h0 0) 17)) (C := RX10) (T := TX10) (N := 19) hx hb hts hfX10 hown hK hP q22 eq22 rfl 17 (by decide) (va_Nw.use rfl (hN.1 (.fieldLinkNest RX11 207 "ColdShips$World" "landings" "LColdShips$Rows;" "ColdShips") nzw_85)) (fun _ h9 => h9) rfl dX11_due_4 ?_
  refine lv_iload_n hx hb dX11_due_7 rfl (lv_at hl 1 rfl) ?_
  refine tgk_5 hG y19 (fun y23 y23n y24a y24b y24c => ?_)
  refine tpk_5 hT y19 (fun o25_x0 o25_x2 hf_o25 ro25_0 ro25_1 => ?_)
  refine tpk_pos (tp_in hG y19 (by decide)) hf_o25 (fun q26 eq26 => ?_)
  refine pz_calli (va_runV (As := [.int v]) (rest := []) ⟨hx, hb, hml, hown, hts⟩ (t_X4_has l dC dI _ Ω κ τ ν ρ L f hG hT (ρ (ρ h0 0) 17) v y19 o25_x0 o25_x2 hf_o25) (cwV 1 hts gX11_due_X4_has rfl rfl rfl ⟨rfl, pd_X4_has⟩ ⟨Nat.le_of_ble_eq_true rfl, Nat.le_of_ble_eq_true rfl⟩) ⟨pz_blind, va_recv hK hP (ci := 4) (q0 := q26) rfl eq26, pz_pre hP hK hD hN⟩ rfl rfl hl.1 rfl (lv_room (Nat.le_of_ble_eq_true rfl)) dX11_due_8 ⟨Nat.le_of_ble_eq_true rfl, Nat.le_of_ble_eq_true rfl⟩) (fun r27 hw28 => ?_)
  obtain ⟨hw28r, hw28p⟩ := hw28
  refine lv_if_eq (tgt := 32) hx hb dX11_due_11 (by decide) (fun c29 => ?_) (fun c29 => ?_)
  · have ic29 : r27.toInt = 0 := zi_eq rfl rfl c29
    refine lv_ldc2 (own := RX11) (v := (-2000000000000000)) hx hb hown (hts (.constantLong RX11 281 (-2000000000000000)) wa_1124) dX11_due_32 ?_
    exact W.lret (v := (-2000000000000000)) hx hb hr (fun t ht hW => ⟨⟨(-2000000000000000), f, rfl, ⟨hT, hR, trivial, trivial⟩, by rw [ht]; exact hP, va_K.moved hW.alike hK, hD⟩, hS.F ht⟩) hS.2.2 dX11_due_35
  · have ic29 : r27.toInt ≠ 0 := zi_eqf rfl rfl c29
    have p30 : 0 ≤ v.toInt ∧ v.toInt < o25_x2.toInt := (tp_cond.yes hw28p) (by omega)
    refine lv_aload_n hx hb dX11_due_14 rfl (lv_at hl 0 rfl) ?_
    refine va_get (D := (dC, dI)) (ci := 11) (v := .ref (ρ h0 0)) (C := RX11) (T := TX11) (N := 7) hx hb hts hfX11 hown hK hP q8 eq8 rfl 0 (by decide) (hts (.fieldLink RX11 10 "ColdShips" "world" "LColdShips$World;") wa_15) (fun _ h9 => h9) rfl dX11_due_15 ?_
    refine lv_iload_n hx hb dX11_due_18 rfl (lv_at hl 2 rfl) ?_
    refine tpk_26 hT y13 (fun g32 hf_o31 hf_o31e => ?_)
    refine pz_calli (va_runV (As := [.int u]) (rest := []) ⟨hx, hb, hml, hown, hts⟩ (t_X10_hasContract l dC dI _ Ω κ τ ν ρ L f hG hT (ρ h0 0) u y1 o21_x0 o21_x1 o21_x2 o21_x3 o21_x4 o21_x5 o21_x6 hf_o21 g32 hf_o31) (cwV 1 hts gX11_due_X10_hasContract rfl rfl rfl ⟨rfl, pd_X10_hasContract⟩ ⟨Nat.le_of_ble_eq_true rfl, Nat.le_of_ble_eq_true rfl⟩) ⟨pz_blind, va_recv hK hP (ci := 10) (q0 := q22) rfl eq22, pz_pre hP hK hD hN⟩ rfl rfl hl.1 rfl (lv_room (Nat.le_of_ble_eq_true rfl)) dX11_due_19 ⟨Nat.le_of_ble_eq_true rfl, Nat.le_of_ble_eq_true rfl⟩) (fun r33 hw34 => ?_)
    obtain ⟨hw34r, hw34p⟩ := hw34
    refine lv_if_eq (tgt := 32) hx hb dX11_due_22 (by decide) (fun c35 => ?_) (fun c35 => ?_)
    · have ic35 : r33.toInt = 0 := zi_eq rfl rfl c35
      refine lv_ldc2 (own := RX11) (v := (-2000000000000000)) hx hb hown (hts (.constantLong RX11 281 (-2000000000000000)) wa_1124) dX11_due_32 ?_
      exact W.lret (v := (-2000000000000000)) hx hb hr (fun t ht hW => ⟨⟨(-2000000000000000), f, rfl, ⟨hT, hR, trivial, trivial⟩, by rw [ht]; exact hP, va_K.moved hW.alike hK, hD⟩, hS.F ht⟩) hS.2.2 dX11_due_35
    · have ic35 : r33.toInt ≠ 0 := zi_eqf rfl rfl c35
      have p36 : ((0 ≤ u.toInt ∧ u.toInt ≤ 11) ∧ ∃ b : Nat, g32 u.toNatClampNeg = some b ∧ τ b = 1) := hw34p (by omega)
      obtain ⟨p36, b37, hq38, hq38t⟩ := p36
      refine lv_iload_n hx hb dX11_due_25 rfl (lv_at hl 3 rfl) ?_
      refine pz_calli (va_runS (As := [.int a]) (rest := []) ⟨hx, hb, hml, hown, hts⟩ (t_X11_isHour l dC dI _ a (a.toInt) rfl) (va_cwS 1 hts gX11_due_X11_isHour rfl rfl rfl pd_X11_isHour ⟨Nat.le_of_ble_eq_true rfl, Nat.le_of_ble_eq_true rfl⟩) ⟨pz_blind, pz_pre pz_P0 (hK.sub (tys' := []) [] rfl) (pz_D0 (A := fun _ => True)) hN⟩ rfl rfl hl.1 rfl (lv_room (Nat.le_of_ble_eq_true rfl)) dX11_due_26 ⟨Nat.le_of_ble_eq_true rfl, Nat.le_of_ble_eq_true rfl⟩) (fun r39 hw40 => ?_)
      obtain ⟨hw40r, hw40p⟩ := hw40
      refine lv_if_ne (tgt := 36) hx hb dX11_due_29 (by decide) (fun c41 => ?_) (fun c41 => ?_)
      · have ic41 : r39.toInt ≠ 0 := zi_ne rfl rfl c41
        have p42 : 0 ≤ (a.toInt) ∧ (a.toInt) ≤ 2399 := (tp_cond.yes hw40p) (by omega)
        refine lv_aload_n hx hb dX11_due_36 rfl (lv_at hl 0 rfl) ?_
        refine va_get (D := (dC, dI)) (ci := 11) (v := .ref (ρ h0 4)) (C := RX11) (T := TX11) (N := 7) hx hb hts hfX11 hown hK hP q8 eq8 rfl 4 (by decide) (hts (.fieldLink RX11 39 "ColdShips" "reckoner" "LColdShips$Reckoner;") wa_28) (fun _ h9 => h9) rfl dX11_due_37 ?_
        refine lv_iload_n hx hb dX11_due_40 rfl (lv_at hl 1 rfl) ?_
        refine lv_aload_n hx hb dX11_due_41 rfl (lv_at hl 0 rfl) ?_
        refine va_get (D := (dC, dI)) (ci := 11) (v := .ref (ρ h0 0)) (C := RX11) (T := TX11) (N := 7) hx hb hts hfX11 hown hK hP q8 eq8 rfl 0 (by decide) (hts (.fieldLink RX11 10 "ColdShips" "world" "LColdShips$World;") wa_15) (fun _ h9 => h9) rfl dX11_due_42 ?_
        refine va_getN (D := (dC, dI)) (ci := 10) (v := .ref (ρ (ρ h0 0) 11)) (C := RX10) (T := TX10) (N := 19) hx hb hts hfX10 hown hK hP q22 eq22 rfl 11 (by decide) (va_Nw.use rfl (hN.1 (.fieldLinkNest RX11 271 "ColdShips$World" "contracts" "[LColdShips$Contract;" "ColdShips") nzw_72)) (fun _ h9 => h9) rfl dX11_due_45 ?_
        refine lv_iload_n hx hb dX11_due_48 rfl (lv_at hl 2 rfl) ?_
        refine tpk_pos (tp_in hG y13 (by decide)) hf_o31 (fun q43 eq43 => ?_)
        refine va_aldq hx hb hK hP q43 6 eq43 rfl (vp_in_iff.mpr ⟨by omega, by omega⟩) dX11_due_49 ?_
        refine W.eq (g2 := F0 m 50 ls (.ref b37 :: [.int v, .ref (ρ h0 4)])) (congrArg (fun o => F0 m 50 ls (va_rf o :: [.int v, .ref (ρ h0 4)])) hq38) ?_
        refine lv_iload_n hx hb dX11_due_50 rfl (lv_at hl 3 rfl) ?_
        refine tgk_4 hG y5 (fun y44 y45 y45n y46 y46n => ?_)
        refine tpk_4 hT y5 (fun o47_x3 o47_x4 o47_x5 hf_o47 ro47_0 => ?_)
        refine tpk_pos (tp_in hG y5 (by decide)) hf_o47 (fun q48 eq48 => ?_)
        have hFc := tp_fr hD hS hA
        refine va_callv (va_runV (As := [.int v, .ref b37, .int a]) (rest := []) ⟨hx, hb, hml, hown, hts⟩ (t_X3_reckon l dC dI _ Ω κ τ ν ρ L f hG hT (ρ h0 4) v b37 a y5 hq38t) (cwV 3 hts gX11_due_X3_reckon rfl rfl rfl ⟨rfl, pd_X3_reckon⟩ ⟨Nat.le_of_ble_eq_true rfl, Nat.le_of_ble_eq_true rfl⟩) ⟨pz_blind, va_recv hK hP (ci := 3) (q0 := q48) rfl eq48, pz_pre hP hK hD hN⟩ rfl rfl hl.1 rfl (lv_room (Nat.le_of_ble_eq_true rfl)) dX11_due_51 ⟨Nat.le_of_ble_eq_true rfl, Nat.le_of_ble_eq_true rfl⟩) hS (fun q _ h => hFc q h) hFc (fun f51 t H1 locs ht hvm hw50 hB hz1 hk1 hS => ?_)
        refine tn_3 hw50 (fun hT hF52 hw50p => ?_); clear hw50
        have hR := hR.then hF52 (by decide)
        have hP := hB.1; rw [ht] at hP; have hD := tp_ad f51 hD; clear hB hFc hz1 hk1; subst ht; generalize t.heap = H at hP hS ⊢
        refine lv_iload hx hb dX11_due_54 (lv_at hl 4 rfl) ?_
        rcases zi_sw b 0 4 with h53 | h53
        · refine lv_tableOut (tgt := 144) hx hb dX11_due_56 h53 (by decide) ?_
          refine lv_ldc2 (own := RX11) (v := (-2000000000000000)) hx hb hown (hts (.constantLong RX11 281 (-2000000000000000)) wa_1124) dX11_due_144 ?_
          exact W.lret (v := (-2000000000000000)) hx hb hr (fun t ht hW => ⟨⟨(-2000000000000000), f51, rfl, ⟨hT, hR, trivial, trivial⟩, by rw [ht]; exact hP, va_K.moved hW.alike hK, hD⟩, hS.F ht⟩) hS.2.2 dX11_due_147
        · rcases (show b.toInt = 0 ∨ b.toInt = 1 ∨ b.toInt = 2 ∨ b.toInt = 3 ∨ b.toInt = 4 by omega) with h53k | h53k | h53k | h53k | h53k
          · refine lv_tableIn (tgt := 92) hx hb dX11_due_56 (by omega) (by omega) (by rw [h53k]; rfl) (by decide) ?_
            refine lv_aload_n hx hb dX11_due_92 rfl (lv_at hl 0 rfl) ?_
            have hf_54 : f51 h0 = .inr (11, [.ref (ρ h0 0), .ref (ρ h0 1), .ref (ρ h0 2), .ref (ρ h0 3), .ref (ρ h0 4), .ref (ρ h0 5), .int o7_x6]) := (hF52 _ (by rw [ht_h0]; decide)).trans hf_o7
            refine tpk_pos (tp_in hG ht_h0 (by decide)) hf_54 (fun q55 eq55 => ?_)
            refine va_get (D := (dC, dI)) (ci := 11) (v := .ref (ρ h0 4)) (C := RX11) (T := TX11) (N := 7) hx hb hts hfX11 hown hK hP q55 eq55 rfl 4 (by decide) (hts (.fieldLink RX11 39 "ColdShips" "reckoner" "LColdShips$Reckoner;") wa_28) (fun _ h9 => h9) rfl dX11_due_93 ?_
            refine tpk_4 hT y5 (fun o56_x3 o56_x4 o56_x5 hf_o56 ro56_0 => ?_)
            refine tpk_pos (tp_in hG y5 (by decide)) hf_o56 (fun q57 eq57 => ?_)
            refine va_getN (D := (dC, dI)) (ci := 3) (v := .long o56_x4) (C := RX3) (T := TX3) (N := 6) hx hb hts hfX3 hown hK hP q57 eq57 rfl 4 (by decide) (va_Nw.use rfl (hN.1 (.fieldLinkNest RX11 287 "ColdShips$Reckoner" "pays" "J" "ColdShips") nzw_91)) (fun _ h9 => h9) rfl dX11_due_96 ?_
            refine lv_aload_n hx hb dX11_due_99 rfl (lv_at hl 0 rfl) ?_
            refine va_get (D := (dC, dI)) (ci := 11) (v := .ref (ρ h0 4)) (C := RX11) (T := TX11) (N := 7) hx hb hts hfX11 hown hK hP q55 eq55 rfl 4 (by decide) (hts (.fieldLink RX11 39 "ColdShips" "reckoner" "LColdShips$Reckoner;") wa_28) (fun _ h9 => h9) rfl dX11_due_100 ?_
            refine va_getN (D := (dC, dI)) (ci := 3) (v := .long o56_x5) (C := RX3) (T := TX3) (N := 6) hx hb hts hfX3 hown hK hP q57 eq57 rfl 5 (by decide) (va_Nw.use rfl (hN.1 (.fieldLinkNest RX11 291 "ColdShips$Reckoner" "fines" "J" "ColdShips") nzw_92)) (fun _ h9 => h9) rfl dX11_due_103 ?_
            refine lv_lsub hx hb dX11_due_106 ?_
            refine lv_topl (fun z58 ez58 => ?_)
            exact W.lret (v := z58) hx hb hr (fun t ht hW => ⟨⟨z58, f51, rfl, ⟨hT, hR, trivial, trivial⟩, by rw [ht]; exact hP, va_K.moved hW.alike hK, hD⟩, hS.F ht⟩) hS.2.2 dX11_due_107
          · refine lv_tableIn (tgt := 108) hx hb dX11_due_56 (by omega) (by omega) (by rw [h53k]; rfl) (by decide) ?_
            refine lv_aload_n hx hb dX11_due_108 rfl (lv_at hl 0 rfl) ?_
            have hf_59 : f51 h0 = .inr (11, [.ref (ρ h0 0), .ref (ρ h0 1), .ref (ρ h0 2), .ref (ρ h0 3), .ref (ρ h0 4), .ref (ρ h0 5), .int o7_x6]) := (hF52 _ (by rw [ht_h0]; decide)).trans hf_o7
            refine tpk_pos (tp_in hG ht_h0 (by decide)) hf_59 (fun q60 eq60 => ?_)
            refine va_get (D := (dC, dI)) (ci := 11) (v := .ref (ρ h0 4)) (C := RX11) (T := TX11) (N := 7) hx hb hts hfX11 hown hK hP q60 eq60 rfl 4 (by decide) (hts (.fieldLink RX11 39 "ColdShips" "reckoner" "LColdShips$Reckoner;") wa_28) (fun _ h9 => h9) rfl dX11_due_109 ?_
            refine tpk_4 hT y5 (fun o61_x3 o61_x4 o61_x5 hf_o61 ro61_0 => ?_)
            refine tpk_pos (tp_in hG y5 (by decide)) hf_o61 (fun q62 eq62 => ?_)
            refine va_getN (D := (dC, dI)) (ci := 3) (v := .long o61_x4) (C := RX3) (T := TX3) (N := 6) hx hb hts hfX3 hown hK hP q62 eq62 rfl 4 (by decide) (va_Nw.use rfl (hN.1 (.fieldLinkNest RX11 287 "ColdShips$Reckoner" "pays" "J" "ColdShips") nzw_91)) (fun _ h9 => h9) rfl dX11_due_112 ?_
            exact W.lret (v := o61_x4) hx hb hr (fun t ht hW => ⟨⟨o61_x4, f51, rfl, ⟨hT, hR, trivial, trivial⟩, by rw [ht]; exact hP, va_K.moved hW.alike hK, hD⟩, hS.F ht⟩) hS.2.2 dX11_due_115
          · refine lv_tableIn (tgt := 116) hx hb dX11_due_56 (by omega) (by omega) (by rw [h53k]; rfl) (by decide) ?_
            refine lv_aload_n hx hb dX11_due_116 rfl (lv_at hl 0 rfl) ?_
            have hf_63 : f51 h0 = .inr (11, [.ref (ρ h0 0), .ref (ρ h0 1), .ref (ρ h0 2), .ref (ρ h0 3), .ref (ρ h0 4), .ref (ρ h0 5), .int o7_x6]) := (hF52 _ (by rw [ht_h0]; decide)).trans hf_o7
            refine tpk_pos (tp_in hG ht_h0 (by decide)) hf_63 (fun q64 eq64 => ?_)
            refine va_get (D := (dC, dI)) (ci := 11) (v := .ref (ρ h0 4)) (C := RX11) (T := TX11) (N := 7) hx hb hts hfX11 hown hK hP q64 eq64 rfl 4 (by decide) (hts (.fieldLink RX11 39 "ColdShips" "reckoner" "LColdShips$Reckoner;") wa_28) (fun _ h9 => h9) rfl dX11_due_117 ?_
            refine tpk_4 hT y5 (fun o65_x3 o65_x4 o65_x5 hf_o65 ro65_0 => ?_)
            refine tpk_pos (tp_in hG y5 (by decide)) hf_o65 (fun q66 eq66 => ?_)
            refine va_getN (D := (dC, dI)) (ci := 3) (v := .long o65_x5) (C := RX3) (T := TX3) (N := 6) hx hb hts hfX3 hown hK hP q66 eq66 rfl 5 (by decide) (va_Nw.use rfl (hN.1 (.fieldLinkNest RX11 291 "ColdShips$Reckoner" "fines" "J" "ColdShips") nzw_92)) (fun _ h9 => h9) rfl dX11_due_120 ?_
            exact W.lret (v := o65_x5) hx hb hr (fun t ht hW => ⟨⟨o65_x5, f51, rfl, ⟨hT, hR, trivial, trivial⟩, by rw [ht]; exact hP, va_K.moved hW.alike hK, hD⟩, hS.F ht⟩) hS.2.2 dX11_due_123
          · refine lv_tableIn (tgt := 124) hx hb dX11_due_56 (by omega) (by omega) (by rw [h53k]; rfl) (by decide) ?_
            refine lv_aload_n hx hb dX11_due_124 rfl (lv_at hl 0 rfl) ?_
            have hf_67 : f51 h0 = .inr (11, [.ref (ρ h0 0), .ref (ρ h0 1), .ref (ρ h0 2), .ref (ρ h0 3), .ref (ρ h0 4), .ref (ρ h0 5), .int o7_x6]) := (hF52 _ (by rw [ht_h0]; decide)).trans hf_o7
            refine tpk_pos (tp_in hG ht_h0 (by decide)) hf_67 (fun q68 eq68 => ?_)
            refine va_get (D := (dC, dI)) (ci := 11) (v := .ref (ρ h0 4)) (C := RX11) (T := TX11) (N := 7) hx hb hts hfX11 hown hK hP q68 eq68 rfl 4 (by decide) (hts (.fieldLink RX11 39 "ColdShips" "reckoner" "LColdShips$Reckoner;") wa_28) (fun _ h9 => h9) rfl dX11_due_125 ?_
            refine tpk_4 hT y5 (fun o69_x3 o69_x4 o69_x5 hf_o69 ro69_0 => ?_)
            refine tpk_pos (tp_in hG y5 (by decide)) hf_o69 (fun q70 eq70 => ?_)
            refine va_getN (D := (dC, dI)) (ci := 3) (v := .ref (ρ (ρ h0 4) 1)) (C := RX3) (T := TX3) (N := 6) hx hb hts hfX3 hown hK hP q70 eq70 rfl 1 (by decide) (va_Nw.use rfl (hN.1 (.fieldLinkNest RX11 294 "ColdShips$Reckoner" "facts" "[J" "ColdShips") nzw_90)) (fun _ h9 => h9) rfl dX11_due_128 ?_
            refine lv_iconst (v := 3) hx hb dX11_due_131 (by decide) ?_
            refine tpk_21 hT y45 y45n (fun g72 hf_o71 => ?_)
            refine tpk_pos (tp_in hG y45 (by decide)) hf_o71 (fun q73 eq73 => ?_)
            refine va_lald hx hb hK hP q73 1 eq73 rfl (vp_in_iff.mpr ⟨by decide, by decide⟩) dX11_due_132 ?_
            refine lv_topl (fun z74 ez74 => ?_)
            exact W.lret (v := z74) hx hb hr (fun t ht hW => ⟨⟨z74, f51, rfl, ⟨hT, hR, trivial, trivial⟩, by rw [ht]; exact hP, va_K.moved hW.alike hK, hD⟩, hS.F ht⟩) hS.2.2 dX11_due_133
          · refine lv_tableIn (tgt := 134) hx hb dX11_due_56 (by omega) (by omega) (by rw [h53k]; rfl) (by decide) ?_
            refine lv_aload_n hx hb dX11_due_134 rfl (lv_at hl 0 rfl) ?_
            have hf_75 : f51 h0 = .inr (11, [.ref (ρ h0 0), .ref (ρ h0 1), .ref (ρ h0 2), .ref (ρ h0 3), .ref (ρ h0 4), .ref (ρ h0 5), .int o7_x6]) := (hF52 _ (by rw [ht_h0]; decide)).trans hf_o7
            refine tpk_pos (tp_in hG ht_h0 (by decide)) hf_75 (fun q76 eq76 => ?_)
            refine va_get (D := (dC, dI)) (ci := 11) (v := .ref (ρ h0 4)) (C := RX11) (T := TX11) (N := 7) hx hb hts hfX11 hown hK hP q76 eq76 rfl 4 (by decide) (hts (.fieldLink RX11 39 "ColdShips" "reckoner" "LColdShips$Reckoner;") wa_28) (fun _ h9 => h9) rfl dX11_due_135 ?_
            refine tpk_4 hT y5 (fun o77_x3 o77_x4 o77_x5 hf_o77 ro77_0 => ?_)
            refine tpk_pos (tp_in hG y5 (by decide)) hf_o77 (fun q78 eq78 => ?_)
            refine va_getN (D := (dC, dI)) (ci := 3) (v := .ref (ρ (ρ h0 4) 1)) (C := RX3) (T := TX3) (N := 6) hx hb hts hfX3 hown hK hP q78 eq78 rfl 1 (by decide) (va_Nw.use rfl (hN.1 (.fieldLinkNest RX11 294 "ColdShips$Reckoner" "facts" "[J" "ColdShips") nzw_90)) (fun _ h9 => h9) rfl dX11_due_138 ?_
            refine lv_iconst (v := 5) hx hb dX11_due_141 (by decide) ?_
            refine tpk_21 hT y45 y45n (fun g80 hf_o79 => ?_)
            refine tpk_pos (tp_in hG y45 (by decide)) hf_o79 (fun q81 eq81 => ?_)
            refine va_lald hx hb hK hP q81 1 eq81 rfl (vp_in_iff.mpr ⟨by decide, by decide⟩) dX11_due_142 ?_
            refine lv_topl (fun z82 ez82 => ?_)
            exact W.lret (v := z82) hx hb hr (fun t ht hW => ⟨⟨z82, f51, rfl, ⟨hT, hR, trivial, trivial⟩, by rw [ht]; exact hP, va_K.moved hW.alike hK, hD⟩, hS.F ht⟩) hS.2.2 dX11_due_143
      · have ic41 : r39.toInt = 0 := zi_nef rfl rfl c41
        refine lv_ldc2 (own := RX11) (v := (-2000000000000000)) hx hb hown (hts (.constantLong RX11 281 (-2000000000000000)) wa_1124) dX11_due_32 ?_
        exact W.lret (v := (-2000000000000000)) hx hb hr (fun t ht hW => ⟨⟨(-2000000000000000), f, rfl, ⟨hT, hR, trivial, trivial⟩, by rw [ht]; exact hP, va_K.moved hW.alike hK, hD⟩, hS.F ht⟩) hS.2.2 dX11_due_35
set_option maxHeartbeats 4000000 in
set_option maxRecDepth 100000 in
theorem t_X11_settle (l : Launch) (dC : Nat → ClassId) (dI : Nat → Nat → Nat) (sz : Nat) (Ω : Nat → (Nat → Nat) → va_E → Prop) (κ : Nat → ClassId) (τ ν : Nat → Nat) (ρ : Nat → Nat → Nat) (L : List Nat) (f : Nat → va_E) (hG : tp_G τ ν ρ L) (hT : tp_T Ω κ τ ν ρ f) (h0 : Nat) (v : Int32) (u : Int32) (ht_h0 : τ h0 = 12) : Met l yX11_settle wqX11_settle ({ frames := 7, cells := 0, slots := 0, locals := 2400 }) (va_Pc [.ref h0, .int v, .int u] (pz_B dC dI (tp_K κ) (va_pl L f) sz)) (va_Qi (fun (r : Int32) (f1 : Nat → va_E) => tp_T Ω κ τ ν ρ f1 ∧ tp_F τ [2, 3, 4, 5, 6, 7, 8, 9, 10, 11, 12, 20, 21, 22, 26, 27, 28] f f1 ∧ True ∧ True) (fun (f1 : Nat → va_E) (t : State) => pz_E dC dI (tp_K κ) (va_A (va_pl L f) sz) (va_pl L f1) t) (va_A (va_pl L f) sz)) 0 0 (va_A (va_pl L f) sz) := by
  refine Met.ofW (cc := cX11_settle) (maxL := 3) (ret := some .int) (by decide) rfl ?_
  intro p e s m args below meth c s₁ B hml hv
  obtain ⟨rfl, hsz, hP, hK, hD0, hN⟩ := hv
  have hx := B.exec
  have hb := B.bytes
  have hr := B.returns
  have hts := fun (w : Cond) (h : w ∈ WALL) => atoms_spec (ws := wqX11_settle) B.pre w (List.mem_cons_of_mem _ h)
  have hown : s.vm.findClass RX11 = some m.cls := findClass_of_methodNamed B.named
  have hlocks := B.notSynchronized
  subst hsz
  have hD := hD0.self (sz := s.heap.size)
  generalize hAe : va_A (va_pl L f) s.heap.size = A at hD ⊢
  have hA : ∀ q : Nat, s.heap.size ≤ q → A q := fun q h => by rw [← hAe]; exact Or.inr h
  have hS : va_S A s.heap s.heap [] := va_S.rf
  have hR : tp_F τ [2, 3, 4, 5, 6, 7, 8, 9, 10, 11, 12, 20, 21, 22, 26, 27, 28] f f := tp_F.rf
  have hl := lv_entry ([.ref h0, .int v, .int u]) (n := 3) (Nat.le_of_ble_eq_true rfl)
  rw [lg_entry_eq]
  generalize (lg_sl ([.ref h0, .int v, .int u]) ++ List.replicate (3 - (lg_sl ([.ref h0, .int v, .int u])).length) Slot.unset).toArray = ls at hl ⊢
  have hl : lv_has ls 3 [(0, .ref h0), (1, .int v), (2, .int u)] := hl
  refine lv_aload_n hx hb dX11_settle_0 rfl (lv_at hl 0 rfl) ?_
  refine tgk_12 hG ht_h0 (fun y1 y2 y3 y4 y5 y6 => ?_)
  refine tpk_12 hT ht_h0 (fun o7_x6 hf_o7 => ?_)
  refine tpk_pos (tp_in hG ht_h0 (by decide)) hf_o7 (fun q8 eq8 => ?_)
  refine va_get (D := (dC, dI)) (ci := 11) (v := .ref (ρ h0 0)) (C := RX11) (T := TX11) (N := 7) hx hb hts hfX11 hown hK hP q8 eq8 rfl 0 (by decide) (hts (.fieldLink RX11 10 "ColdShips" "world" "LColdShips$World;") wa_15) (fun _ h9 => h9) rfl dX11_settle_1 ?_
  refine tgk_11 hG y1 (fun y9 y9n y10 y10n y11 y12 y13 y14 y15 y16 y17 y17w y17m y18 y18w y18m y19 y19w y19m y20 y20w y20m => ?_)
  refine tpk_11 hT y1 (fun o21_x0 o21_x1 o21_x2 o21_x3 o21_x4 o21_x5 o21_x6 hf_o21 ro21_0 ro21_1 ro21_2 ro21_3 => ?_)
  refine tpk_pos (tp_in hG y1 (by decide)) hf_o21 (fun q22 eq22 => ?_)
  refine va_getN (D := (dC, dI)) (ci := 10) (v := .ref (ρ (ρ h0 0) 17)) (C := RX10) (T := TX10) (N := 19) hx hb hts hfX10 hown hK hP q22 eq22 rfl 17 (by decide) (va_Nw.use rfl (hN.1 (.fieldLinkNest RX11 207 "ColdShips$World" "landings" "LColdShips$Rows;" "ColdShips") nzw_85)) (fun _ h9 => h9) rfl dX11_settle_4 ?_
  refine lv_iload_n hx hb dX11_settle_7 rfl (lv_at hl 1 rfl) ?_
  refine tgk_5 hG y19 (fun y23 y23n y24a y24b y24c => ?_)
  refine tpk_5 hT y19 (fun o25_x0 o25_x2 hf_o25 ro25_0 ro25_1 => ?_)
  refine tpk_pos (tp_in hG y19 (by decide)) hf_o25 (fun q26 eq26 => ?_)
  refine pz_calli (va_runV (As := [.int v]) (rest := []) ⟨hx, hb, hml, hown, hts⟩ (t_X4_has l dC dI _ Ω κ τ ν ρ L f hG hT (ρ (ρ h0 0) 17) v y19 o25_x0 o25_x2 hf_o25) (cwV 1 hts gX11_settle_X4_has rfl rfl rfl ⟨rfl, pd_X4_has⟩ ⟨Nat.le_of_ble_eq_true rfl, Nat.le_of_ble_eq_true rfl⟩) ⟨pz_blind, va_recv hK hP (ci := 4) (q0 := q26) rfl eq26, pz_pre hP hK hD hN⟩ rfl rfl hl.1 rfl (lv_room (Nat.le_of_ble_eq_true rfl)) dX11_settle_8 ⟨Nat.le_of_ble_eq_true rfl, Nat.le_of_ble_eq_true rfl⟩) (fun r27 hw28 => ?_)
  obtain ⟨hw28r, hw28p⟩ := hw28
  refine lv_if_eq (tgt := 25) hx hb dX11_settle_11 (by decide) (fun c29 => ?_) (fun c29 => ?_)
  · have ic29 : r27.toInt = 0 := zi_eq rfl rfl c29
    refine lv_aload_n hx hb dX11_settle_25 rfl (lv_at hl 0 rfl) ?_
    refine lv_bipush (v := (-2)) hx hb dX11_settle_26 (by decide) ?_
    have hFc := tp_fr hD hS hA
    refine va_calli (va_runV (As := [.int (-2)]) (rest := []) ⟨hx, hb, hml, hown, hts⟩ (t_X11_refuse l dC dI _ Ω κ τ ν ρ L f hG hT h0 ((-2)) ht_h0) (cwV 1 hts gX11_settle_X11_refuse rfl rfl rfl ⟨rfl, pd_X11_refuse⟩ ⟨Nat.le_of_ble_eq_true rfl, Nat.le_of_ble_eq_true rfl⟩) ⟨pz_blind, va_recv hK hP (ci := 11) (q0 := q8) rfl eq8, pz_pre hP hK hD hN⟩ rfl rfl hl.1 rfl (lv_room (Nat.le_of_ble_eq_true rfl)) dX11_settle_28 ⟨Nat.le_of_ble_eq_true rfl, Nat.le_of_ble_eq_true rfl⟩) hS (fun q _ h => hFc q h) hFc (fun r30 f32 t H1 locs ht hvm hw31 hB hz1 hk1 hS => ?_)
    refine tn_4 hw31 (fun hT hF33 hw31r hw31p => ?_); clear hw31
    have hR := hR.then hF33 (by decide)
    have hP := hB.1; rw [ht] at hP; have hD := tp_ad f32 hD; clear hB hFc hz1 hk1; subst ht; generalize t.heap = H at hP hS ⊢
    exact W.iret (v := r30) hx hb hr (fun t ht hW => ⟨⟨r30, f32, rfl, ⟨hT, hR, trivial, trivial⟩, by rw [ht]; exact hP, va_K.moved hW.alike hK, hD⟩, hS.F ht⟩) hS.2.2 dX11_settle_31
  · have ic29 : r27.toInt ≠ 0 := zi_eqf rfl rfl c29
    have p34 : 0 ≤ v.toInt ∧ v.toInt < o25_x2.toInt := (tp_cond.yes hw28p) (by omega)
    refine lv_aload_n hx hb dX11_settle_14 rfl (lv_at hl 0 rfl) ?_
    refine va_get (D := (dC, dI)) (ci := 11) (v := .ref (ρ h0 0)) (C := RX11) (T := TX11) (N := 7) hx hb hts hfX11 hown hK hP q8 eq8 rfl 0 (by decide) (hts (.fieldLink RX11 10 "ColdShips" "world" "LColdShips$World;") wa_15) (fun _ h9 => h9) rfl dX11_settle_15 ?_
    refine lv_iload_n hx hb dX11_settle_18 rfl (lv_at hl 2 rfl) ?_
    refine tpk_26 hT y13 (fun g36 hf_o35 hf_o35e => ?_)
    refine pz_calli (va_runV (As := [.int u]) (rest := []) ⟨hx, hb, hml, hown, hts⟩ (t_X10_hasContract l dC dI _ Ω κ τ ν ρ L f hG hT (ρ h0 0) u y1 o21_x0 o21_x1 o21_x2 o21_x3 o21_x4 o21_x5 o21_x6 hf_o21 g36 hf_o35) (cwV 1 hts gX11_settle_X10_hasContract rfl rfl rfl ⟨rfl, pd_X10_hasContract⟩ ⟨Nat.le_of_ble_eq_true rfl, Nat.le_of_ble_eq_true rfl⟩) ⟨pz_blind, va_recv hK hP (ci := 10) (q0 := q22) rfl eq22, pz_pre hP hK hD hN⟩ rfl rfl hl.1 rfl (lv_room (Nat.le_of_ble_eq_true rfl)) dX11_settle_19 ⟨Nat.le_of_ble_eq_true rfl, Nat.le_of_ble_eq_true rfl⟩) (fun r37 hw38 => ?_)
    obtain ⟨hw38r, hw38p⟩ := hw38
    refine lv_if_ne (tgt := 32) hx hb dX11_settle_22 (by decide) (fun c39 => ?_) (fun c39 => ?_)
    · have ic39 : r37.toInt ≠ 0 := zi_ne rfl rfl c39
      have p40 : ((0 ≤ u.toInt ∧ u.toInt ≤ 11) ∧ ∃ b : Nat, g36 u.toNatClampNeg = some b ∧ τ b = 1) := hw38p (by omega)
      obtain ⟨p40, b41, hq42, hq42t⟩ := p40
      refine lv_aload_n hx hb dX11_settle_32 rfl (lv_at hl 0 rfl) ?_
      refine va_get (D := (dC, dI)) (ci := 11) (v := .ref (ρ h0 0)) (C := RX11) (T := TX11) (N := 7) hx hb hts hfX11 hown hK hP q8 eq8 rfl 0 (by decide) (hts (.fieldLink RX11 10 "ColdShips" "world" "LColdShips$World;") wa_15) (fun _ h9 => h9) rfl dX11_settle_33 ?_
      refine lv_iload_n hx hb dX11_settle_36 rfl (lv_at hl 1 rfl) ?_
      refine pz_calli (va_runV (As := [.int v]) (rest := []) ⟨hx, hb, hml, hown, hts⟩ (t_X10_isSettled l dC dI _ Ω κ τ ν ρ L f hG hT (ρ h0 0) v y1) (cwV 1 hts gX11_settle_X10_isSettled rfl rfl rfl ⟨rfl, pd_X10_isSettled⟩ ⟨Nat.le_of_ble_eq_true rfl, Nat.le_of_ble_eq_true rfl⟩) ⟨pz_blind, va_recv hK hP (ci := 10) (q0 := q22) rfl eq22, pz_pre hP hK hD hN⟩ rfl rfl hl.1 rfl (lv_room (Nat.le_of_ble_eq_true rfl)) dX11_settle_37 ⟨Nat.le_of_ble_eq_true rfl, Nat.le_of_ble_eq_true rfl⟩) (fun r43 hw44 => ?_)
      obtain ⟨hw44r, hw44p⟩ := hw44
      refine lv_if_eq (tgt := 50) hx hb dX11_settle_40 (by decide) (fun c45 => ?_) (fun c45 => ?_)
      · have ic45 : r43.toInt = 0 := zi_eq rfl rfl c45
        refine lv_aload_n hx hb dX11_settle_50 rfl (lv_at hl 0 rfl) ?_
        refine va_get (D := (dC, dI)) (ci := 11) (v := .ref (ρ h0 4)) (C := RX11) (T := TX11) (N := 7) hx hb hts hfX11 hown hK hP q8 eq8 rfl 4 (by decide) (hts (.fieldLink RX11 39 "ColdShips" "reckoner" "LColdShips$Reckoner;") wa_28) (fun _ h9 => h9) rfl dX11_settle_51 ?_
        refine lv_iload_n hx hb dX11_settle_54 rfl (lv_at hl 1 rfl) ?_
        refine lv_aload_n hx hb dX11_settle_55 rfl (lv_at hl 0 rfl) ?_
        refine va_get (D := (dC, dI)) (ci := 11) (v := .ref (ρ h0 0)) (C := RX11) (T := TX11) (N := 7) hx hb hts hfX11 hown hK hP q8 eq8 rfl 0 (by decide) (hts (.fieldLink RX11 10 "ColdShips" "world" "LColdShips$World;") wa_15) (fun _ h9 => h9) rfl dX11_settle_56 ?_
        refine va_getN (D := (dC, dI)) (ci := 10) (v := .ref (ρ (ρ h0 0) 11)) (C := RX10) (T := TX10) (N := 19) hx hb hts hfX10 hown hK hP q22 eq22 rfl 11 (by decide) (va_Nw.use rfl (hN.1 (.fieldLinkNest RX11 271 "ColdShips$World" "contracts" "[LColdShips$Contract;" "ColdShips") nzw_72)) (fun _ h9 => h9) rfl dX11_settle_59 ?_
        refine lv_iload_n hx hb dX11_settle_62 rfl (lv_at hl 2 rfl) ?_
        refine tpk_pos (tp_in hG y13 (by decide)) hf_o35 (fun q46 eq46 => ?_)
        refine va_aldq hx hb hK hP q46 6 eq46 rfl (vp_in_iff.mpr ⟨by omega, by omega⟩) dX11_settle_63 ?_
        refine W.eq (g2 := F0 m 64 ls (.ref b41 :: [.int v, .ref (ρ h0 4)])) (congrArg (fun o => F0 m 64 ls (va_rf o :: [.int v, .ref (ρ h0 4)])) hq42) ?_
        refine lv_aload_n hx hb dX11_settle_64 rfl (lv_at hl 0 rfl) ?_
        refine va_get (D := (dC, dI)) (ci := 11) (v := .ref (ρ h0 0)) (C := RX11) (T := TX11) (N := 7) hx hb hts hfX11 hown hK hP q8 eq8 rfl 0 (by decide) (hts (.fieldLink RX11 10 "ColdShips" "world" "LColdShips$World;") wa_15) (fun _ h9 => h9) rfl dX11_settle_65 ?_
        refine va_getN (D := (dC, dI)) (ci := 10) (v := .int o21_x0) (C := RX10) (T := TX10) (N := 19) hx hb hts hfX10 hown hK hP q22 eq22 rfl 0 (by decide) (va_Nw.use rfl (hN.1 (.fieldLinkNest RX11 154 "ColdShips$World" "now" "I" "ColdShips") nzw_49)) (fun _ h9 => h9) rfl dX11_settle_68 ?_
        refine tgk_4 hG y5 (fun y47 y48 y48n y49 y49n => ?_)
        refine tpk_4 hT y5 (fun o50_x3 o50_x4 o50_x5 hf_o50 ro50_0 => ?_)
        refine tpk_pos (tp_in hG y5 (by decide)) hf_o50 (fun q51 eq51 => ?_)
        have hFc := tp_fr hD hS hA
        refine va_callv (va_runV (As := [.int v, .ref b41, .int o21_x0]) (rest := []) ⟨hx, hb, hml, hown, hts⟩ (t_X3_reckon l dC dI _ Ω κ τ ν ρ L f hG hT (ρ h0 4) v b41 o21_x0 y5 hq42t) (cwV 3 hts gX11_settle_X3_reckon rfl rfl rfl ⟨rfl, pd_X3_reckon⟩ ⟨Nat.le_of_ble_eq_true rfl, Nat.le_of_ble_eq_true rfl⟩) ⟨pz_blind, va_recv hK hP (ci := 3) (q0 := q51) rfl eq51, pz_pre hP hK hD hN⟩ rfl rfl hl.1 rfl (lv_room (Nat.le_of_ble_eq_true rfl)) dX11_settle_71 ⟨Nat.le_of_ble_eq_true rfl, Nat.le_of_ble_eq_true rfl⟩) hS (fun q _ h => hFc q h) hFc (fun f54 t H1 locs ht hvm hw53 hB hz1 hk1 hS => ?_)
        refine tn_3 hw53 (fun hT hF55 hw53p => ?_); clear hw53
        have hR := hR.then hF55 (by decide)
        have hP := hB.1; rw [ht] at hP; have hD := tp_ad f54 hD; clear hB hFc hz1 hk1; subst ht; generalize t.heap = H at hP hS ⊢
        refine lv_aload_n hx hb dX11_settle_74 rfl (lv_at hl 0 rfl) ?_
        have hf_56 : f54 h0 = .inr (11, [.ref (ρ h0 0), .ref (ρ h0 1), .ref (ρ h0 2), .ref (ρ h0 3), .ref (ρ h0 4), .ref (ρ h0 5), .int o7_x6]) := (hF55 _ (by rw [ht_h0]; decide)).trans hf_o7
        refine tpk_pos (tp_in hG ht_h0 (by decide)) hf_56 (fun q57 eq57 => ?_)
        refine va_get (D := (dC, dI)) (ci := 11) (v := .ref (ρ h0 0)) (C := RX11) (T := TX11) (N := 7) hx hb hts hfX11 hown hK hP q57 eq57 rfl 0 (by decide) (hts (.fieldLink RX11 10 "ColdShips" "world" "LColdShips$World;") wa_15) (fun _ h9 => h9) rfl dX11_settle_75 ?_
        have hf_58 : f54 (ρ h0 0) = .inr (10, [.int o21_x0, .int o21_x1, .int o21_x2, .int o21_x3, .int o21_x4, .int o21_x5, .int o21_x6, .ref (ρ (ρ h0 0) 7), .ref (ρ (ρ h0 0) 8), .ref (ρ (ρ h0 0) 9), .ref (ρ (ρ h0 0) 10), .ref (ρ (ρ h0 0) 11), .ref (ρ (ρ h0 0) 12), .ref (ρ (ρ h0 0) 13), .ref (ρ (ρ h0 0) 14), .ref (ρ (ρ h0 0) 15), .ref (ρ (ρ h0 0) 16), .ref (ρ (ρ h0 0) 17), .ref (ρ (ρ h0 0) 18)]) := (hF55 _ (by rw [y1]; decide)).trans hf_o21
        refine tpk_pos (tp_in hG y1 (by decide)) hf_58 (fun q59 eq59 => ?_)
        refine va_getN (D := (dC, dI)) (ci := 10) (v := .ref (ρ (ρ h0 0) 17)) (C := RX10) (T := TX10) (N := 19) hx hb hts hfX10 hown hK hP q59 eq59 rfl 17 (by decide) (va_Nw.use rfl (hN.1 (.fieldLinkNest RX11 207 "ColdShips$World" "landings" "LColdShips$Rows;" "ColdShips") nzw_85)) (fun _ h9 => h9) rfl dX11_settle_78 ?_
        refine lv_iload_n hx hb dX11_settle_81 rfl (lv_at hl 1 rfl) ?_
        refine lv_bipush (v := 12) hx hb dX11_settle_82 (by decide) ?_
        refine lv_iload_n hx hb dX11_settle_84 rfl (lv_at hl 2 rfl) ?_
        refine lv_i2l hx hb dX11_settle_85 rfl ?_
        have hf_60 : f54 (ρ (ρ h0 0) 17) = .inr (4, [.int o25_x0, .ref (ρ (ρ (ρ h0 0) 17) 1), .int o25_x2]) := (hF55 _ (by rw [y19]; decide)).trans hf_o25
        refine tpk_pos (tp_in hG y19 (by decide)) hf_60 (fun q61 eq61 => ?_)
        have hFc := tp_fr hD hS hA
        refine va_callv (va_runV (As := [.int v, .int 12, .long u.toInt64]) (rest := []) ⟨hx, hb, hml, hown, hts⟩ (t_X4_set l dC dI _ Ω κ τ ν ρ L f54 hG hT (ρ (ρ h0 0) 17) v (12) u.toInt64 y19 o25_x0 o25_x2 hf_60) (cwV 3 hts gX11_settle_X4_set rfl rfl rfl ⟨rfl, pd_X4_set⟩ ⟨Nat.le_of_ble_eq_true rfl, Nat.le_of_ble_eq_true rfl⟩) ⟨pz_blind, va_recv hK hP (ci := 4) (q0 := q61) rfl eq61, pz_pre hP hK hD hN⟩ rfl rfl hl.1 rfl (lv_room (Nat.le_of_ble_eq_true rfl)) dX11_settle_86 ⟨Nat.le_of_ble_eq_true rfl, Nat.le_of_ble_eq_true rfl⟩) hS (fun q _ h => hFc q h) hFc (fun f64 t H1 locs ht hvm hw63 hB hz1 hk1 hS => ?_)
        refine tn_3 hw63 (fun hT hF65 hw63p => ?_); clear hw63
        have hR := hR.then hF65 (by decide)
        have hP := hB.1; rw [ht] at hP; have hD := tp_ad f64 hD; clear hB hFc hz1 hk1; subst ht; generalize t.heap = H at hP hS ⊢
        refine lv_aload_n hx hb dX11_settle_89 rfl (lv_at hl 0 rfl) ?_
        have hf_66 : f64 h0 = .inr (11, [.ref (ρ h0 0), .ref (ρ h0 1), .ref (ρ h0 2), .ref (ρ h0 3), .ref (ρ h0 4), .ref (ρ h0 5), .int o7_x6]) := (hF65 _ (by rw [ht_h0]; decide)).trans hf_56
        refine tpk_pos (tp_in hG ht_h0 (by decide)) hf_66 (fun q67 eq67 => ?_)
        refine va_get (D := (dC, dI)) (ci := 11) (v := .ref (ρ h0 0)) (C := RX11) (T := TX11) (N := 7) hx hb hts hfX11 hown hK hP q67 eq67 rfl 0 (by decide) (hts (.fieldLink RX11 10 "ColdShips" "world" "LColdShips$World;") wa_15) (fun _ h9 => h9) rfl dX11_settle_90 ?_
        have hf_68 : f64 (ρ h0 0) = .inr (10, [.int o21_x0, .int o21_x1, .int o21_x2, .int o21_x3, .int o21_x4, .int o21_x5, .int o21_x6, .ref (ρ (ρ h0 0) 7), .ref (ρ (ρ h0 0) 8), .ref (ρ (ρ h0 0) 9), .ref (ρ (ρ h0 0) 10), .ref (ρ (ρ h0 0) 11), .ref (ρ (ρ h0 0) 12), .ref (ρ (ρ h0 0) 13), .ref (ρ (ρ h0 0) 14), .ref (ρ (ρ h0 0) 15), .ref (ρ (ρ h0 0) 16), .ref (ρ (ρ h0 0) 17), .ref (ρ (ρ h0 0) 18)]) := (hF65 _ (by rw [y1]; decide)).trans hf_58
        refine tpk_pos (tp_in hG y1 (by decide)) hf_68 (fun q69 eq69 => ?_)
        refine va_getN (D := (dC, dI)) (ci := 10) (v := .ref (ρ (ρ h0 0) 17)) (C := RX10) (T := TX10) (N := 19) hx hb hts hfX10 hown hK hP q69 eq69 rfl 17 (by decide) (va_Nw.use rfl (hN.1 (.fieldLinkNest RX11 207 "ColdShips$World" "landings" "LColdShips$Rows;" "ColdShips") nzw_85)) (fun _ h9 => h9) rfl dX11_settle_93 ?_
        refine lv_iload_n hx hb dX11_settle_96 rfl (lv_at hl 1 rfl) ?_
        refine lv_bipush (v := 13) hx hb dX11_settle_97 (by decide) ?_
        refine lv_aload_n hx hb dX11_settle_99 rfl (lv_at hl 0 rfl) ?_
        refine va_get (D := (dC, dI)) (ci := 11) (v := .ref (ρ h0 4)) (C := RX11) (T := TX11) (N := 7) hx hb hts hfX11 hown hK hP q67 eq67 rfl 4 (by decide) (hts (.fieldLink RX11 39 "ColdShips" "reckoner" "LColdShips$Reckoner;") wa_28) (fun _ h9 => h9) rfl dX11_settle_100 ?_
        refine tpk_4 hT y5 (fun o70_x3 o70_x4 o70_x5 hf_o70 ro70_0 => ?_)
        refine tpk_pos (tp_in hG y5 (by decide)) hf_o70 (fun q71 eq71 => ?_)
        refine va_getN (D := (dC, dI)) (ci := 3) (v := .long o70_x4) (C := RX3) (T := TX3) (N := 6) hx hb hts hfX3 hown hK hP q71 eq71 rfl 4 (by decide) (va_Nw.use rfl (hN.1 (.fieldLinkNest RX11 287 "ColdShips$Reckoner" "pays" "J" "ColdShips") nzw_91)) (fun _ h9 => h9) rfl dX11_settle_103 ?_
        refine lv_aload_n hx hb dX11_settle_106 rfl (lv_at hl 0 rfl) ?_
        refine va_get (D := (dC, dI)) (ci := 11) (v := .ref (ρ h0 4)) (C := RX11) (T := TX11) (N := 7) hx hb hts hfX11 hown hK hP q67 eq67 rfl 4 (by decide) (hts (.fieldLink RX11 39 "ColdShips" "reckoner" "LColdShips$Reckoner;") wa_28) (fun _ h9 => h9) rfl dX11_settle_107 ?_
        refine va_getN (D := (dC, dI)) (ci := 3) (v := .long o70_x5) (C := RX3) (T := TX3) (N := 6) hx hb hts hfX3 hown hK hP q71 eq71 rfl 5 (by decide) (va_Nw.use rfl (hN.1 (.fieldLinkNest RX11 291 "ColdShips$Reckoner" "fines" "J" "ColdShips") nzw_92)) (fun _ h9 => h9) rfl dX11_settle_110 ?_
        refine lv_lsub hx hb dX11_settle_113 ?_
        refine lv_topl (fun z72 ez72 => ?_)
        have hf_73 : f64 (ρ (ρ h0 0) 17) = .inr (4, [.int o25_x0, .ref (ρ (ρ (ρ h0 0) 17) 1), .int o25_x2]) := (hF65 _ (by rw [y19]; decide)).trans hf_60
        refine tpk_pos (tp_in hG y19 (by decide)) hf_73 (fun q74 eq74 => ?_)
        have hFc := tp_fr hD hS hA
        refine va_callv (va_runV (As := [.int v, .int 13, .long z72]) (rest := []) ⟨hx, hb, hml, hown, hts⟩ (t_X4_set l dC dI _ Ω κ τ ν ρ L f64 hG hT (ρ (ρ h0 0) 17) v (13) z72 y19 o25_x0 o25_x2 hf_73) (cwV 3 hts gX11_settle_X4_set rfl rfl rfl ⟨rfl, pd_X4_set⟩ ⟨Nat.le_of_ble_eq_true rfl, Nat.le_of_ble_eq_true rfl⟩) ⟨pz_blind, va_recv hK hP (ci := 4) (q0 := q74) rfl eq74, pz_pre hP hK hD hN⟩ rfl rfl hl.1 rfl (lv_room (Nat.le_of_ble_eq_true rfl)) dX11_settle_114 ⟨Nat.le_of_ble_eq_true rfl, Nat.le_of_ble_eq_true rfl⟩) hS (fun q _ h => hFc q h) hFc (fun f77 t H1 locs ht hvm hw76 hB hz1 hk1 hS => ?_)
        refine tn_3 hw76 (fun hT hF78 hw76p => ?_); clear hw76
        have hR := hR.then hF78 (by decide)
        have hP := hB.1; rw [ht] at hP; have hD := tp_ad f77 hD; clear hB hFc hz1 hk1; subst ht; generalize t.heap = H at hP hS ⊢
        refine lv_aload_n hx hb dX11_settle_117 rfl (lv_at hl 0 rfl) ?_
        have hf_79 : f77 h0 = .inr (11, [.ref (ρ h0 0), .ref (ρ h0 1), .ref (ρ h0 2), .ref (ρ h0 3), .ref (ρ h0 4), .ref (ρ h0 5), .int o7_x6]) := (hF78 _ (by rw [ht_h0]; decide)).trans hf_66
        refine tpk_pos (tp_in hG ht_h0 (by decide)) hf_79 (fun q80 eq80 => ?_)
        refine va_get (D := (dC, dI)) (ci := 11) (v := .ref (ρ h0 0)) (C := RX11) (T := TX11) (N := 7) hx hb hts hfX11 hown hK hP q80 eq80 rfl 0 (by decide) (hts (.fieldLink RX11 10 "ColdShips" "world" "LColdShips$World;") wa_15) (fun _ h9 => h9) rfl dX11_settle_118 ?_
        have hf_81 : f77 (ρ h0 0) = .inr (10, [.int o21_x0, .int o21_x1, .int o21_x2, .int o21_x3, .int o21_x4, .int o21_x5, .int o21_x6, .ref (ρ (ρ h0 0) 7), .ref (ρ (ρ h0 0) 8), .ref (ρ (ρ h0 0) 9), .ref (ρ (ρ h0 0) 10), .ref (ρ (ρ h0 0) 11), .ref (ρ (ρ h0 0) 12), .ref (ρ (ρ h0 0) 13), .ref (ρ (ρ h0 0) 14), .ref (ρ (ρ h0 0) 15), .ref (ρ (ρ h0 0) 16), .ref (ρ (ρ h0 0) 17), .ref (ρ (ρ h0 0) 18)]) := (hF78 _ (by rw [y1]; decide)).trans hf_68
        refine tpk_pos (tp_in hG y1 (by decide)) hf_81 (fun q82 eq82 => ?_)
        refine va_getN (D := (dC, dI)) (ci := 10) (v := .ref (ρ (ρ h0 0) 17)) (C := RX10) (T := TX10) (N := 19) hx hb hts hfX10 hown hK hP q82 eq82 rfl 17 (by decide) (va_Nw.use rfl (hN.1 (.fieldLinkNest RX11 207 "ColdShips$World" "landings" "LColdShips$Rows;" "ColdShips") nzw_85)) (fun _ h9 => h9) rfl dX11_settle_121 ?_
        refine lv_iload_n hx hb dX11_settle_124 rfl (lv_at hl 1 rfl) ?_
        refine lv_bipush (v := 14) hx hb dX11_settle_125 (by decide) ?_
        refine lv_aload_n hx hb dX11_settle_127 rfl (lv_at hl 0 rfl) ?_
        refine va_get (D := (dC, dI)) (ci := 11) (v := .ref (ρ h0 0)) (C := RX11) (T := TX11) (N := 7) hx hb hts hfX11 hown hK hP q80 eq80 rfl 0 (by decide) (hts (.fieldLink RX11 10 "ColdShips" "world" "LColdShips$World;") wa_15) (fun _ h9 => h9) rfl dX11_settle_128 ?_
        refine va_getN (D := (dC, dI)) (ci := 10) (v := .int o21_x0) (C := RX10) (T := TX10) (N := 19) hx hb hts hfX10 hown hK hP q82 eq82 rfl 0 (by decide) (va_Nw.use rfl (hN.1 (.fieldLinkNest RX11 154 "ColdShips$World" "now" "I" "ColdShips") nzw_49)) (fun _ h9 => h9) rfl dX11_settle_131 ?_
        refine lv_i2l hx hb dX11_settle_134 rfl ?_
        have hf_83 : f77 (ρ (ρ h0 0) 17) = .inr (4, [.int o25_x0, .ref (ρ (ρ (ρ h0 0) 17) 1), .int o25_x2]) := (hF78 _ (by rw [y19]; decide)).trans hf_73
        refine tpk_pos (tp_in hG y19 (by decide)) hf_83 (fun q84 eq84 => ?_)
        have hFc := tp_fr hD hS hA
        refine va_callv (va_runV (As := [.int v, .int 14, .long o21_x0.toInt64]) (rest := []) ⟨hx, hb, hml, hown, hts⟩ (t_X4_set l dC dI _ Ω κ τ ν ρ L f77 hG hT (ρ (ρ h0 0) 17) v (14) o21_x0.toInt64 y19 o25_x0 o25_x2 hf_83) (cwV 3 hts gX11_settle_X4_set rfl rfl rfl ⟨rfl, pd_X4_set⟩ ⟨Nat.le_of_ble_eq_true rfl, Nat.le_of_ble_eq_true rfl⟩) ⟨pz_blind, va_recv hK hP (ci := 4) (q0 := q84) rfl eq84, pz_pre hP hK hD hN⟩ rfl rfl hl.1 rfl (lv_room (Nat.le_of_ble_eq_true rfl)) dX11_settle_135 ⟨Nat.le_of_ble_eq_true rfl, Nat.le_of_ble_eq_true rfl⟩) hS (fun q _ h => hFc q h) hFc (fun f87 t H1 locs ht hvm hw86 hB hz1 hk1 hS => ?_)
        refine tn_3 hw86 (fun hT hF88 hw86p => ?_); clear hw86
        have hR := hR.then hF88 (by decide)
        have hP := hB.1; rw [ht] at hP; have hD := tp_ad f87 hD; clear hB hFc hz1 hk1; subst ht; generalize t.heap = H at hP hS ⊢
        refine lv_aload_n hx hb dX11_settle_138 rfl (lv_at hl 0 rfl) ?_
        refine lv_iconst (v := 0) hx hb dX11_settle_139 (by decide) ?_
        have hf_89 : f87 h0 = .inr (11, [.ref (ρ h0 0), .ref (ρ h0 1), .ref (ρ h0 2), .ref (ρ h0 3), .ref (ρ h0 4), .ref (ρ h0 5), .int o7_x6]) := (hF88 _ (by rw [ht_h0]; decide)).trans hf_79
        refine tpk_pos (tp_in hG ht_h0 (by decide)) hf_89 (fun q90 eq90 => ?_)
        have hFc := tp_fr hD hS hA
        refine va_calli (va_runV (As := [.int 0]) (rest := []) ⟨hx, hb, hml, hown, hts⟩ (t_X11_accept l dC dI _ Ω κ τ ν ρ L f87 hG hT h0 (0) ht_h0) (cwV 1 hts gX11_settle_X11_accept rfl rfl rfl ⟨rfl, pd_X11_accept⟩ ⟨Nat.le_of_ble_eq_true rfl, Nat.le_of_ble_eq_true rfl⟩) ⟨pz_blind, va_recv hK hP (ci := 11) (q0 := q90) rfl eq90, pz_pre hP hK hD hN⟩ rfl rfl hl.1 rfl (lv_room (Nat.le_of_ble_eq_true rfl)) dX11_settle_140 ⟨Nat.le_of_ble_eq_true rfl, Nat.le_of_ble_eq_true rfl⟩) hS (fun q _ h => hFc q h) hFc (fun r91 f93 t H1 locs ht hvm hw92 hB hz1 hk1 hS => ?_)
        refine tn_4 hw92 (fun hT hF94 hw92r hw92p => ?_); clear hw92
        have hR := hR.then hF94 (by decide)
        have hP := hB.1; rw [ht] at hP; have hD := tp_ad f93 hD; clear hB hFc hz1 hk1; subst ht; generalize t.heap = H at hP hS ⊢
        exact W.iret (v := r91) hx hb hr (fun t ht hW => ⟨⟨r91, f93, rfl, ⟨hT, hR, trivial, trivial⟩, by rw [ht]; exact hP, va_K.moved hW.alike hK, hD⟩, hS.F ht⟩) hS.2.2 dX11_settle_143
      · have ic45 : r43.toInt ≠ 0 := zi_eqf rfl rfl c45
        refine lv_aload_n hx hb dX11_settle_43 rfl (lv_at hl 0 rfl) ?_
        refine lv_bipush (v := (-4)) hx hb dX11_settle_44 (by decide) ?_
        have hFc := tp_fr hD hS hA
        refine va_calli (va_runV (As := [.int (-4)]) (rest := []) ⟨hx, hb, hml, hown, hts⟩ (t_X11_refuse l dC dI _ Ω κ τ ν ρ L f hG hT h0 ((-4)) ht_h0) (cwV 1 hts gX11_settle_X11_refuse rfl rfl rfl ⟨rfl, pd_X11_refuse⟩ ⟨Nat.le_of_ble_eq_true rfl, Nat.le_of_ble_eq_true rfl⟩) ⟨pz_blind, va_recv hK hP (ci := 11) (q0 := q8) rfl eq8, pz_pre hP hK hD hN⟩ rfl rfl hl.1 rfl (lv_room (Nat.le_of_ble_eq_true rfl)) dX11_settle_46 ⟨Nat.le_of_ble_eq_true rfl, Nat.le_of_ble_eq_true rfl⟩) hS (fun q _ h => hFc q h) hFc (fun r95 f97 t H1 locs ht hvm hw96 hB hz1 hk1 hS => ?_)
        refine tn_4 hw96 (fun hT hF98 hw96r hw96p => ?_); clear hw96
        have hR := hR.then hF98 (by decide)
        have hP := hB.1; rw [ht] at hP; have hD := tp_ad f97 hD; clear hB hFc hz1 hk1; subst ht; generalize t.heap = H at hP hS ⊢
        exact W.iret (v := r95) hx hb hr (fun t ht hW => ⟨⟨r95, f97, rfl, ⟨hT, hR, trivial, trivial⟩, by rw [ht]; exact hP, va_K.moved hW.alike hK, hD⟩, hS.F ht⟩) hS.2.2 dX11_settle_49
    · have ic39 : r37.toInt = 0 := zi_nef rfl rfl c39
      refine lv_aload_n hx hb dX11_settle_25 rfl (lv_at hl 0 rfl) ?_
      refine lv_bipush (v := (-2)) hx hb dX11_settle_26 (by decide) ?_
      have hFc := tp_fr hD hS hA
      refine va_calli (va_runV (As := [.int (-2)]) (rest := []) ⟨hx, hb, hml, hown, hts⟩ (t_X11_refuse l dC dI _ Ω κ τ ν ρ L f hG hT h0 ((-2)) ht_h0) (cwV 1 hts gX11_settle_X11_refuse rfl rfl rfl ⟨rfl, pd_X11_refuse⟩ ⟨Nat.le_of_ble_eq_true rfl, Nat.le_of_ble_eq_true rfl⟩) ⟨pz_blind, va_recv hK hP (ci := 11) (q0 := q8) rfl eq8, pz_pre hP hK hD hN⟩ rfl rfl hl.1 rfl (lv_room (Nat.le_of_ble_eq_true rfl)) dX11_settle_28 ⟨Nat.le_of_ble_eq_true rfl, Nat.le_of_ble_eq_true rfl⟩) hS (fun q _ h => hFc q h) hFc (fun r99 f101 t H1 locs ht hvm hw100 hB hz1 hk1 hS => ?_)
      refine tn_4 hw100 (fun hT hF102 hw100r hw100p => ?_); clear hw100
      have hR := hR.then hF102 (by decide)
      have hP := hB.1; rw [ht] at hP; have hD := tp_ad f101 hD; clear hB hFc hz1 hk1; subst ht; generalize t.heap = H at hP hS ⊢
      exact W.iret (v := r99) hx hb hr (fun t ht hW => ⟨⟨r99, f101, rfl, ⟨hT, hR, trivial, trivial⟩, by rw [ht]; exact hP, va_K.moved hW.alike hK, hD⟩, hS.F ht⟩) hS.2.2 dX11_settle_31
set_option maxHeartbeats 4000000 in
set_option maxRecDepth 100000 in
theorem t_X11_settled (l : Launch) (dC : Nat → ClassId) (dI : Nat → Nat → Nat) (sz : Nat) (Ω : Nat → (Nat → Nat) → va_E → Prop) (κ : Nat → ClassId) (τ ν : Nat → Nat) (ρ : Nat → Nat → Nat) (L : List Nat) (f : Nat → va_E) (hG : tp_G τ ν ρ L) (hT : tp_T Ω κ τ ν ρ f) (h0 : Nat) (v : Int32) (u : Int32) (ht_h0 : τ h0 = 12) : Met l yX11_settled wqX11_settled ({ frames := 4, cells := 0, slots := 0, locals := 1200 }) (va_Pc [.ref h0, .int v, .int u] (pz_B dC dI (tp_K κ) (va_pl L f) sz)) (va_Ql (fun (r : Int64) (f1 : Nat → va_E) => tp_T Ω κ τ ν ρ f1 ∧ tp_F τ [2, 3, 4, 5, 6, 7, 8, 9, 10, 11, 12, 20, 21, 22, 26, 27, 28] f f1 ∧ True ∧ True) (fun (f1 : Nat → va_E) (t : State) => pz_E dC dI (tp_K κ) (va_A (va_pl L f) sz) (va_pl L f1) t) (va_A (va_pl L f) sz)) 0 0 (va_A (va_pl L f) sz) := by
  refine Met.ofW (cc := cX11_settled) (maxL := 3) (ret := some .long) (by decide) rfl ?_
  intro p e s m args below meth c s₁ B hml hv
  obtain ⟨rfl, hsz, hP, hK, hD0, hN⟩ := hv
  have hx := B.exec
  have hb := B.bytes
  have hr := B.returns
  have hts := fun (w : Cond) (h : w ∈ WALL) => atoms_spec (ws := wqX11_settled) B.pre w (List.mem_cons_of_mem _ h)
  have hown : s.vm.findClass RX11 = some m.cls := findClass_of_methodNamed B.named
  have hlocks := B.notSynchronized
  subst hsz
  have hD := hD0.self (sz := s.heap.size)
  generalize hAe : va_A (va_pl L f) s.heap.size = A at hD ⊢
  have hA : ∀ q : Nat, s.heap.size ≤ q → A q := fun q h => by rw [← hAe]; exact Or.inr h
  have hS : va_S A s.heap s.heap [] := va_S.rf
  have hR : tp_F τ [2, 3, 4, 5, 6, 7, 8, 9, 10, 11, 12, 20, 21, 22, 26, 27, 28] f f := tp_F.rf
  have hl := lv_entry ([.ref h0, .int v, .int u]) (n := 3) (Nat.le_of_ble_eq_true rfl)
  rw [lg_entry_eq]
  generalize (lg_sl ([.ref h0, .int v, .int u]) ++ List.replicate (3 - (lg_sl ([.ref h0, .int v, .int u])).length) Slot.unset).toArray = ls at hl ⊢
  have hl : lv_has ls 3 [(0, .ref h0), (1, .int v), (2, .int u)] := hl
  refine lv_aload_n hx hb dX11_settled_0 rfl (lv_at hl 0 rfl) ?_
  refine tgk_12 hG ht_h0 (fun y1 y2 y3 y4 y5 y6 => ?_)
  refine tpk_12 hT ht_h0 (fun o7_x6 hf_o7 => ?_)
  refine tpk_pos (tp_in hG ht_h0 (by decide)) hf_o7 (fun q8 eq8 => ?_)
  refine va_get (D := (dC, dI)) (ci := 11) (v := .ref (ρ h0 0)) (C := RX11) (T := TX11) (N := 7) hx hb hts hfX11 hown hK hP q8 eq8 rfl 0 (by decide) (hts (.fieldLink RX11 10 "ColdShips" "world" "LColdShips$World;") wa_15) (fun _ h9 => h9) rfl dX11_settled_1 ?_
  refine tgk_11 hG y1 (fun y9 y9n y10 y10n y11 y12 y13 y14 y15 y16 y17 y17w y17m y18 y18w y18m y19 y19w y19m y20 y20w y20m => ?_)
  refine tpk_11 hT y1 (fun o21_x0 o21_x1 o21_x2 o21_x3 o21_x4 o21_x5 o21_x6 hf_o21 ro21_0 ro21_1 ro21_2 ro21_3 => ?_)
  refine tpk_pos (tp_in hG y1 (by decide)) hf_o21 (fun q22 eq22 => ?_)
  refine va_getN (D := (dC, dI)) (ci := 10) (v := .ref (ρ (ρ h0 0) 17)) (C := RX10) (T := TX10) (N := 19) hx hb hts hfX10 hown hK hP q22 eq22 rfl 17 (by decide) (va_Nw.use rfl (hN.1 (.fieldLinkNest RX11 207 "ColdShips$World" "landings" "LColdShips$Rows;" "ColdShips") nzw_85)) (fun _ h9 => h9) rfl dX11_settled_4 ?_
  refine lv_iload_n hx hb dX11_settled_7 rfl (lv_at hl 1 rfl) ?_
  refine tgk_5 hG y19 (fun y23 y23n y24a y24b y24c => ?_)
  refine tpk_5 hT y19 (fun o25_x0 o25_x2 hf_o25 ro25_0 ro25_1 => ?_)
  refine tpk_pos (tp_in hG y19 (by decide)) hf_o25 (fun q26 eq26 => ?_)
  refine pz_calli (va_runV (As := [.int v]) (rest := []) ⟨hx, hb, hml, hown, hts⟩ (t_X4_has l dC dI _ Ω κ τ ν ρ L f hG hT (ρ (ρ h0 0) 17) v y19 o25_x0 o25_x2 hf_o25) (cwV 1 hts gX11_settled_X4_has rfl rfl rfl ⟨rfl, pd_X4_has⟩ ⟨Nat.le_of_ble_eq_true rfl, Nat.le_of_ble_eq_true rfl⟩) ⟨pz_blind, va_recv hK hP (ci := 4) (q0 := q26) rfl eq26, pz_pre hP hK hD hN⟩ rfl rfl hl.1 rfl (lv_room (Nat.le_of_ble_eq_true rfl)) dX11_settled_8 ⟨Nat.le_of_ble_eq_true rfl, Nat.le_of_ble_eq_true rfl⟩) (fun r27 hw28 => ?_)
  obtain ⟨hw28r, hw28p⟩ := hw28
  refine lv_if_eq (tgt := 25) hx hb dX11_settled_11 (by decide) (fun c29 => ?_) (fun c29 => ?_)
  · have ic29 : r27.toInt = 0 := zi_eq rfl rfl c29
    refine lv_ldc2 (own := RX11) (v := (-2000000000000000)) hx hb hown (hts (.constantLong RX11 281 (-2000000000000000)) wa_1124) dX11_settled_25 ?_
    exact W.lret (v := (-2000000000000000)) hx hb hr (fun t ht hW => ⟨⟨(-2000000000000000), f, rfl, ⟨hT, hR, trivial, trivial⟩, by rw [ht]; exact hP, va_K.moved hW.alike hK, hD⟩, hS.F ht⟩) hS.2.2 dX11_settled_28
  · have ic29 : r27.toInt ≠ 0 := zi_eqf rfl rfl c29
    have p30 : 0 ≤ v.toInt ∧ v.toInt < o25_x2.toInt := (tp_cond.yes hw28p) (by omega)
    refine lv_aload_n hx hb dX11_settled_14 rfl (lv_at hl 0 rfl) ?_
    refine va_get (D := (dC, dI)) (ci := 11) (v := .ref (ρ h0 0)) (C := RX11) (T := TX11) (N := 7) hx hb hts hfX11 hown hK hP q8 eq8 rfl 0 (by decide) (hts (.fieldLink RX11 10 "ColdShips" "world" "LColdShips$World;") wa_15) (fun _ h9 => h9) rfl dX11_settled_15 ?_
    refine lv_iload_n hx hb dX11_settled_18 rfl (lv_at hl 1 rfl) ?_
    refine pz_calli (va_runV (As := [.int v]) (rest := []) ⟨hx, hb, hml, hown, hts⟩ (t_X10_isSettled l dC dI _ Ω κ τ ν ρ L f hG hT (ρ h0 0) v y1) (cwV 1 hts gX11_settled_X10_isSettled rfl rfl rfl ⟨rfl, pd_X10_isSettled⟩ ⟨Nat.le_of_ble_eq_true rfl, Nat.le_of_ble_eq_true rfl⟩) ⟨pz_blind, va_recv hK hP (ci := 10) (q0 := q22) rfl eq22, pz_pre hP hK hD hN⟩ rfl rfl hl.1 rfl (lv_room (Nat.le_of_ble_eq_true rfl)) dX11_settled_19 ⟨Nat.le_of_ble_eq_true rfl, Nat.le_of_ble_eq_true rfl⟩) (fun r31 hw32 => ?_)
    obtain ⟨hw32r, hw32p⟩ := hw32
    refine lv_if_ne (tgt := 29) hx hb dX11_settled_22 (by decide) (fun c33 => ?_) (fun c33 => ?_)
    · have ic33 : r31.toInt ≠ 0 := zi_ne rfl rfl c33
      refine lv_iload_n hx hb dX11_settled_29 rfl (lv_at hl 2 rfl) ?_
      rcases zi_sw u 0 2 with h34 | h34
      · refine lv_tableOut (tgt := 98) hx hb dX11_settled_30 h34 (by decide) ?_
        refine lv_ldc2 (own := RX11) (v := (-2000000000000000)) hx hb hown (hts (.constantLong RX11 281 (-2000000000000000)) wa_1124) dX11_settled_98 ?_
        exact W.lret (v := (-2000000000000000)) hx hb hr (fun t ht hW => ⟨⟨(-2000000000000000), f, rfl, ⟨hT, hR, trivial, trivial⟩, by rw [ht]; exact hP, va_K.moved hW.alike hK, hD⟩, hS.F ht⟩) hS.2.2 dX11_settled_101
      · rcases (show u.toInt = 0 ∨ u.toInt = 1 ∨ u.toInt = 2 by omega) with h34k | h34k | h34k
        · refine lv_tableIn (tgt := 56) hx hb dX11_settled_30 (by omega) (by omega) (by rw [h34k]; rfl) (by decide) ?_
          refine lv_aload_n hx hb dX11_settled_56 rfl (lv_at hl 0 rfl) ?_
          refine va_get (D := (dC, dI)) (ci := 11) (v := .ref (ρ h0 0)) (C := RX11) (T := TX11) (N := 7) hx hb hts hfX11 hown hK hP q8 eq8 rfl 0 (by decide) (hts (.fieldLink RX11 10 "ColdShips" "world" "LColdShips$World;") wa_15) (fun _ h9 => h9) rfl dX11_settled_57 ?_
          refine va_getN (D := (dC, dI)) (ci := 10) (v := .ref (ρ (ρ h0 0) 17)) (C := RX10) (T := TX10) (N := 19) hx hb hts hfX10 hown hK hP q22 eq22 rfl 17 (by decide) (va_Nw.use rfl (hN.1 (.fieldLinkNest RX11 207 "ColdShips$World" "landings" "LColdShips$Rows;" "ColdShips") nzw_85)) (fun _ h9 => h9) rfl dX11_settled_60 ?_
          refine lv_iload_n hx hb dX11_settled_63 rfl (lv_at hl 1 rfl) ?_
          refine lv_bipush (v := 13) hx hb dX11_settled_64 (by decide) ?_
          refine pz_calll (va_runV (As := [.int v, .int 13]) (rest := []) ⟨hx, hb, hml, hown, hts⟩ (t_X4_at l dC dI _ Ω κ τ ν ρ L f hG hT (ρ (ρ h0 0) 17) v (13) y19 o25_x0 o25_x2 hf_o25) (cwV 2 hts gX11_settled_X4_at rfl rfl rfl ⟨rfl, pd_X4_at⟩ ⟨Nat.le_of_ble_eq_true rfl, Nat.le_of_ble_eq_true rfl⟩) ⟨pz_blind, va_recv hK hP (ci := 4) (q0 := q26) rfl eq26, pz_pre hP hK hD hN⟩ rfl rfl hl.1 rfl (lv_room (Nat.le_of_ble_eq_true rfl)) dX11_settled_66 ⟨Nat.le_of_ble_eq_true rfl, Nat.le_of_ble_eq_true rfl⟩) (fun r35 hw36 => ?_)
          obtain ⟨hw36r, hw36p⟩ := hw36
          exact W.lret (v := r35) hx hb hr (fun t ht hW => ⟨⟨r35, f, rfl, ⟨hT, hR, trivial, trivial⟩, by rw [ht]; exact hP, va_K.moved hW.alike hK, hD⟩, hS.F ht⟩) hS.2.2 dX11_settled_69
        · refine lv_tableIn (tgt := 70) hx hb dX11_settled_30 (by omega) (by omega) (by rw [h34k]; rfl) (by decide) ?_
          refine lv_aload_n hx hb dX11_settled_70 rfl (lv_at hl 0 rfl) ?_
          refine va_get (D := (dC, dI)) (ci := 11) (v := .ref (ρ h0 0)) (C := RX11) (T := TX11) (N := 7) hx hb hts hfX11 hown hK hP q8 eq8 rfl 0 (by decide) (hts (.fieldLink RX11 10 "ColdShips" "world" "LColdShips$World;") wa_15) (fun _ h9 => h9) rfl dX11_settled_71 ?_
          refine va_getN (D := (dC, dI)) (ci := 10) (v := .ref (ρ (ρ h0 0) 17)) (C := RX10) (T := TX10) (N := 19) hx hb hts hfX10 hown hK hP q22 eq22 rfl 17 (by decide) (va_Nw.use rfl (hN.1 (.fieldLinkNest RX11 207 "ColdShips$World" "landings" "LColdShips$Rows;" "ColdShips") nzw_85)) (fun _ h9 => h9) rfl dX11_settled_74 ?_
          refine lv_iload_n hx hb dX11_settled_77 rfl (lv_at hl 1 rfl) ?_
          refine lv_bipush (v := 12) hx hb dX11_settled_78 (by decide) ?_
          refine pz_calll (va_runV (As := [.int v, .int 12]) (rest := []) ⟨hx, hb, hml, hown, hts⟩ (t_X4_at l dC dI _ Ω κ τ ν ρ L f hG hT (ρ (ρ h0 0) 17) v (12) y19 o25_x0 o25_x2 hf_o25) (cwV 2 hts gX11_settled_X4_at rfl rfl rfl ⟨rfl, pd_X4_at⟩ ⟨Nat.le_of_ble_eq_true rfl, Nat.le_of_ble_eq_true rfl⟩) ⟨pz_blind, va_recv hK hP (ci := 4) (q0 := q26) rfl eq26, pz_pre hP hK hD hN⟩ rfl rfl hl.1 rfl (lv_room (Nat.le_of_ble_eq_true rfl)) dX11_settled_80 ⟨Nat.le_of_ble_eq_true rfl, Nat.le_of_ble_eq_true rfl⟩) (fun r37 hw38 => ?_)
          obtain ⟨hw38r, hw38p⟩ := hw38
          exact W.lret (v := r37) hx hb hr (fun t ht hW => ⟨⟨r37, f, rfl, ⟨hT, hR, trivial, trivial⟩, by rw [ht]; exact hP, va_K.moved hW.alike hK, hD⟩, hS.F ht⟩) hS.2.2 dX11_settled_83
        · refine lv_tableIn (tgt := 84) hx hb dX11_settled_30 (by omega) (by omega) (by rw [h34k]; rfl) (by decide) ?_
          refine lv_aload_n hx hb dX11_settled_84 rfl (lv_at hl 0 rfl) ?_
          refine va_get (D := (dC, dI)) (ci := 11) (v := .ref (ρ h0 0)) (C := RX11) (T := TX11) (N := 7) hx hb hts hfX11 hown hK hP q8 eq8 rfl 0 (by decide) (hts (.fieldLink RX11 10 "ColdShips" "world" "LColdShips$World;") wa_15) (fun _ h9 => h9) rfl dX11_settled_85 ?_
          refine va_getN (D := (dC, dI)) (ci := 10) (v := .ref (ρ (ρ h0 0) 17)) (C := RX10) (T := TX10) (N := 19) hx hb hts hfX10 hown hK hP q22 eq22 rfl 17 (by decide) (va_Nw.use rfl (hN.1 (.fieldLinkNest RX11 207 "ColdShips$World" "landings" "LColdShips$Rows;" "ColdShips") nzw_85)) (fun _ h9 => h9) rfl dX11_settled_88 ?_
          refine lv_iload_n hx hb dX11_settled_91 rfl (lv_at hl 1 rfl) ?_
          refine lv_bipush (v := 14) hx hb dX11_settled_92 (by decide) ?_
          refine pz_calll (va_runV (As := [.int v, .int 14]) (rest := []) ⟨hx, hb, hml, hown, hts⟩ (t_X4_at l dC dI _ Ω κ τ ν ρ L f hG hT (ρ (ρ h0 0) 17) v (14) y19 o25_x0 o25_x2 hf_o25) (cwV 2 hts gX11_settled_X4_at rfl rfl rfl ⟨rfl, pd_X4_at⟩ ⟨Nat.le_of_ble_eq_true rfl, Nat.le_of_ble_eq_true rfl⟩) ⟨pz_blind, va_recv hK hP (ci := 4) (q0 := q26) rfl eq26, pz_pre hP hK hD hN⟩ rfl rfl hl.1 rfl (lv_room (Nat.le_of_ble_eq_true rfl)) dX11_settled_94 ⟨Nat.le_of_ble_eq_true rfl, Nat.le_of_ble_eq_true rfl⟩) (fun r39 hw40 => ?_)
          obtain ⟨hw40r, hw40p⟩ := hw40
          exact W.lret (v := r39) hx hb hr (fun t ht hW => ⟨⟨r39, f, rfl, ⟨hT, hR, trivial, trivial⟩, by rw [ht]; exact hP, va_K.moved hW.alike hK, hD⟩, hS.F ht⟩) hS.2.2 dX11_settled_97
    · have ic33 : r31.toInt = 0 := zi_nef rfl rfl c33
      refine lv_ldc2 (own := RX11) (v := (-2000000000000000)) hx hb hown (hts (.constantLong RX11 281 (-2000000000000000)) wa_1124) dX11_settled_25 ?_
      exact W.lret (v := (-2000000000000000)) hx hb hr (fun t ht hW => ⟨⟨(-2000000000000000), f, rfl, ⟨hT, hR, trivial, trivial⟩, by rw [ht]; exact hP, va_K.moved hW.alike hK, hD⟩, hS.F ht⟩) hS.2.2 dX11_settled_28
set_option maxHeartbeats 4000000 in
set_option maxRecDepth 100000 in
theorem t_X11_table (l : Launch) (dC : Nat → ClassId) (dI : Nat → Nat → Nat) (sz : Nat) (Ω : Nat → (Nat → Nat) → va_E → Prop) (κ : Nat → ClassId) (τ ν : Nat → Nat) (ρ : Nat → Nat → Nat) (L : List Nat) (f : Nat → va_E) (hG : tp_G τ ν ρ L) (hT : tp_T Ω κ τ ν ρ f) (h0 : Nat) (v : Int32) (u : Int32) (a : Int32) (b : Int32) (ht_h0 : τ h0 = 12) : Met l yX11_table wqX11_table ({ frames := 3, cells := 0, slots := 0, locals := 800 }) (va_Pc [.ref h0, .int v, .int u, .int a, .int b] (pz_B dC dI (tp_K κ) (va_pl L f) sz)) (va_Qi (fun (r : Int32) (f1 : Nat → va_E) => tp_T Ω κ τ ν ρ f1 ∧ tp_F τ [2, 3, 4, 5, 6, 7, 8, 9, 10, 11, 12, 20, 21, 22, 26, 27, 28] f f1 ∧ True ∧ True) (fun (f1 : Nat → va_E) (t : State) => pz_E dC dI (tp_K κ) (va_A (va_pl L f) sz) (va_pl L f1) t) (va_A (va_pl L f) sz)) 0 0 (va_A (va_pl L f) sz) := by
  refine Met.ofW (cc := cX11_table) (maxL := 5) (ret := some .int) (by decide) rfl ?_
  intro p e s m args below meth c s₁ B hml hv
  obtain ⟨rfl, hsz, hP, hK, hD0, hN⟩ := hv
  have hx := B.exec
  have hb := B.bytes
  have hr := B.returns
  have hts := fun (w : Cond) (h : w ∈ WALL) => atoms_spec (ws := wqX11_table) B.pre w (List.mem_cons_of_mem _ h)
  have hown : s.vm.findClass RX11 = some m.cls := findClass_of_methodNamed B.named
  have hlocks := B.notSynchronized
  subst hsz
  have hD := hD0.self (sz := s.heap.size)
  generalize hAe : va_A (va_pl L f) s.heap.size = A at hD ⊢
  have hA : ∀ q : Nat, s.heap.size ≤ q → A q := fun q h => by rw [← hAe]; exact Or.inr h
  have hS : va_S A s.heap s.heap [] := va_S.rf
  have hR : tp_F τ [2, 3, 4, 5, 6, 7, 8, 9, 10, 11, 12, 20, 21, 22, 26, 27, 28] f f := tp_F.rf
  have hl := lv_entry ([.ref h0, .int v, .int u, .int a, .int b]) (n := 5) (Nat.le_of_ble_eq_true rfl)
  rw [lg_entry_eq]
  generalize (lg_sl ([.ref h0, .int v, .int u, .int a, .int b]) ++ List.replicate (5 - (lg_sl ([.ref h0, .int v, .int u, .int a, .int b])).length) Slot.unset).toArray = ls at hl ⊢
  have hl : lv_has ls 5 [(0, .ref h0), (1, .int v), (2, .int u), (3, .int a), (4, .int b)] := hl
  refine lv_iload_n hx hb dX11_table_0 rfl (lv_at hl 2 rfl) ?_
  refine lv_iconst (v := 0) hx hb dX11_table_1 (by decide) ?_
  refine lv_iconst (v := 3) hx hb dX11_table_2 (by decide) ?_
  refine pz_calli (va_runS (As := [.int u, .int 0, .int 3]) (rest := []) ⟨hx, hb, hml, hown, hts⟩ (t_X11_within l dC dI _ u (0) (3) (u.toInt) (0) (3) rfl rfl rfl) (va_cwS 3 hts gX11_table_X11_within rfl rfl rfl pd_X11_within ⟨Nat.le_of_ble_eq_true rfl, Nat.le_of_ble_eq_true rfl⟩) ⟨pz_blind, pz_pre pz_P0 (hK.sub (tys' := []) [] rfl) (pz_D0 (A := fun _ => True)) hN⟩ rfl rfl hl.1 rfl (lv_room (Nat.le_of_ble_eq_true rfl)) dX11_table_3 ⟨Nat.le_of_ble_eq_true rfl, Nat.le_of_ble_eq_true rfl⟩) (fun r1 hw2 => ?_)
  obtain ⟨hw2r, hw2p⟩ := hw2
  refine lv_if_eq (tgt := 31) hx hb dX11_table_6 (by decide) (fun c3 => ?_) (fun c3 => ?_)
  · have ic3 : r1.toInt = 0 := zi_eq rfl rfl c3
    refine lv_aload_n hx hb dX11_table_31 rfl (lv_at hl 0 rfl) ?_
    refine lv_iconst (v := (-1)) hx hb dX11_table_32 (by decide) ?_
    refine tgk_12 hG ht_h0 (fun y4 y5 y6 y7 y8 y9 => ?_)
    refine tpk_12 hT ht_h0 (fun o10_x6 hf_o10 => ?_)
    refine tpk_pos (tp_in hG ht_h0 (by decide)) hf_o10 (fun q11 eq11 => ?_)
    have hFc := tp_fr hD hS hA
    refine va_calli (va_runV (As := [.int (-1)]) (rest := []) ⟨hx, hb, hml, hown, hts⟩ (t_X11_refuse l dC dI _ Ω κ τ ν ρ L f hG hT h0 ((-1)) ht_h0) (cwV 1 hts gX11_table_X11_refuse rfl rfl rfl ⟨rfl, pd_X11_refuse⟩ ⟨Nat.le_of_ble_eq_true rfl, Nat.le_of_ble_eq_true rfl⟩) ⟨pz_blind, va_recv hK hP (ci := 11) (q0 := q11) rfl eq11, pz_pre hP hK hD hN⟩ rfl rfl hl.1 rfl (lv_room (Nat.le_of_ble_eq_true rfl)) dX11_table_33 ⟨Nat.le_of_ble_eq_true rfl, Nat.le_of_ble_eq_true rfl⟩) hS (fun q _ h => hFc q h) hFc (fun r12 f14 t H1 locs ht hvm hw13 hB hz1 hk1 hS => ?_)
    refine tn_4 hw13 (fun hT hF15 hw13r hw13p => ?_); clear hw13
    have hR := hR.then hF15 (by decide)
    have hP := hB.1; rw [ht] at hP; have hD := tp_ad f14 hD; clear hB hFc hz1 hk1; subst ht; generalize t.heap = H at hP hS ⊢
    exact W.iret (v := r12) hx hb hr (fun t ht hW => ⟨⟨r12, f14, rfl, ⟨hT, hR, trivial, trivial⟩, by rw [ht]; exact hP, va_K.moved hW.alike hK, hD⟩, hS.F ht⟩) hS.2.2 dX11_table_36
  · have ic3 : r1.toInt ≠ 0 := zi_eqf rfl rfl c3
    have p16 : (0) ≤ (u.toInt) ∧ (u.toInt) ≤ (3) := (tp_cond.yes hw2p) (by omega)
    refine lv_iload_n hx hb dX11_table_9 rfl (lv_at hl 3 rfl) ?_
    refine lv_iconst (v := 0) hx hb dX11_table_10 (by decide) ?_
    refine lv_sipush (v := 5000) hx hb dX11_table_11 (by decide) ?_
    refine pz_calli (va_runS (As := [.int a, .int 0, .int 5000]) (rest := []) ⟨hx, hb, hml, hown, hts⟩ (t_X11_within l dC dI _ a (0) (5000) (a.toInt) (0) (5000) rfl rfl rfl) (va_cwS 3 hts gX11_table_X11_within rfl rfl rfl pd_X11_within ⟨Nat.le_of_ble_eq_true rfl, Nat.le_of_ble_eq_true rfl⟩) ⟨pz_blind, pz_pre pz_P0 (hK.sub (tys' := []) [] rfl) (pz_D0 (A := fun _ => True)) hN⟩ rfl rfl hl.1 rfl (lv_room (Nat.le_of_ble_eq_true rfl)) dX11_table_14 ⟨Nat.le_of_ble_eq_true rfl, Nat.le_of_ble_eq_true rfl⟩) (fun r17 hw18 => ?_)
    obtain ⟨hw18r, hw18p⟩ := hw18
    refine lv_if_eq (tgt := 31) hx hb dX11_table_17 (by decide) (fun c19 => ?_) (fun c19 => ?_)
    · have ic19 : r17.toInt = 0 := zi_eq rfl rfl c19
      refine lv_aload_n hx hb dX11_table_31 rfl (lv_at hl 0 rfl) ?_
      refine lv_iconst (v := (-1)) hx hb dX11_table_32 (by decide) ?_
      refine tgk_12 hG ht_h0 (fun y20 y21 y22 y23 y24 y25 => ?_)
      refine tpk_12 hT ht_h0 (fun o26_x6 hf_o26 => ?_)
      refine tpk_pos (tp_in hG ht_h0 (by decide)) hf_o26 (fun q27 eq27 => ?_)
      have hFc := tp_fr hD hS hA
      refine va_calli (va_runV (As := [.int (-1)]) (rest := []) ⟨hx, hb, hml, hown, hts⟩ (t_X11_refuse l dC dI _ Ω κ τ ν ρ L f hG hT h0 ((-1)) ht_h0) (cwV 1 hts gX11_table_X11_refuse rfl rfl rfl ⟨rfl, pd_X11_refuse⟩ ⟨Nat.le_of_ble_eq_true rfl, Nat.le_of_ble_eq_true rfl⟩) ⟨pz_blind, va_recv hK hP (ci := 11) (q0 := q27) rfl eq27, pz_pre hP hK hD hN⟩ rfl rfl hl.1 rfl (lv_room (Nat.le_of_ble_eq_true rfl)) dX11_table_33 ⟨Nat.le_of_ble_eq_true rfl, Nat.le_of_ble_eq_true rfl⟩) hS (fun q _ h => hFc q h) hFc (fun r28 f30 t H1 locs ht hvm hw29 hB hz1 hk1 hS => ?_)
      refine tn_4 hw29 (fun hT hF31 hw29r hw29p => ?_); clear hw29
      have hR := hR.then hF31 (by decide)
      have hP := hB.1; rw [ht] at hP; have hD := tp_ad f30 hD; clear hB hFc hz1 hk1; subst ht; generalize t.heap = H at hP hS ⊢
      exact W.iret (v := r28) hx hb hr (fun t ht hW => ⟨⟨r28, f30, rfl, ⟨hT, hR, trivial, trivial⟩, by rw [ht]; exact hP, va_K.moved hW.alike hK, hD⟩, hS.F ht⟩) hS.2.2 dX11_table_36
    · have ic19 : r17.toInt ≠ 0 := zi_eqf rfl rfl c19
      have p32 : (0) ≤ (a.toInt) ∧ (a.toInt) ≤ (5000) := (tp_cond.yes hw18p) (by omega)
      refine lv_iload hx hb dX11_table_20 (lv_at hl 4 rfl) ?_
      refine lv_iconst (v := 0) hx hb dX11_table_22 (by decide) ?_
      refine lv_ldc (own := RX11) (v := 200000) hx hb hown (hts (.constant RX11 76 (200000)) wa_232) dX11_table_23 ?_
      refine pz_calli (va_runS (As := [.int b, .int 0, .int 200000]) (rest := []) ⟨hx, hb, hml, hown, hts⟩ (t_X11_within l dC dI _ b (0) (200000) (b.toInt) (0) (200000) rfl rfl rfl) (va_cwS 3 hts gX11_table_X11_within rfl rfl rfl pd_X11_within ⟨Nat.le_of_ble_eq_true rfl, Nat.le_of_ble_eq_true rfl⟩) ⟨pz_blind, pz_pre pz_P0 (hK.sub (tys' := []) [] rfl) (pz_D0 (A := fun _ => True)) hN⟩ rfl rfl hl.1 rfl (lv_room (Nat.le_of_ble_eq_true rfl)) dX11_table_25 ⟨Nat.le_of_ble_eq_true rfl, Nat.le_of_ble_eq_true rfl⟩) (fun r33 hw34 => ?_)
      obtain ⟨hw34r, hw34p⟩ := hw34
      refine lv_if_ne (tgt := 37) hx hb dX11_table_28 (by decide) (fun c35 => ?_) (fun c35 => ?_)
      · have ic35 : r33.toInt ≠ 0 := zi_ne rfl rfl c35
        have p36 : (0) ≤ (b.toInt) ∧ (b.toInt) ≤ (200000) := (tp_cond.yes hw34p) (by omega)
        refine lv_aload_n hx hb dX11_table_37 rfl (lv_at hl 0 rfl) ?_
        refine tgk_12 hG ht_h0 (fun y37 y38 y39 y40 y41 y42 => ?_)
        refine tpk_12 hT ht_h0 (fun o43_x6 hf_o43 => ?_)
        refine tpk_pos (tp_in hG ht_h0 (by decide)) hf_o43 (fun q44 eq44 => ?_)
        refine va_get (D := (dC, dI)) (ci := 11) (v := .ref (ρ h0 0)) (C := RX11) (T := TX11) (N := 7) hx hb hts hfX11 hown hK hP q44 eq44 rfl 0 (by decide) (hts (.fieldLink RX11 10 "ColdShips" "world" "LColdShips$World;") wa_15) (fun _ h9 => h9) rfl dX11_table_38 ?_
        refine lv_iload_n hx hb dX11_table_41 rfl (lv_at hl 1 rfl) ?_
        refine tgk_11 hG y37 (fun y45 y45n y46 y46n y47 y48 y49 y50 y51 y52 y53 y53w y53m y54 y54w y54m y55 y55w y55m y56 y56w y56m => ?_)
        refine tpk_11 hT y37 (fun o57_x0 o57_x1 o57_x2 o57_x3 o57_x4 o57_x5 o57_x6 hf_o57 ro57_0 ro57_1 ro57_2 ro57_3 => ?_)
        refine tpk_pos (tp_in hG y37 (by decide)) hf_o57 (fun q58 eq58 => ?_)
        refine pz_calli (va_runV (As := [.int v]) (rest := []) ⟨hx, hb, hml, hown, hts⟩ (t_X10_hasShip l dC dI _ Ω κ τ ν ρ L f hG hT (ρ h0 0) v y37 o57_x0 o57_x1 o57_x2 o57_x3 o57_x4 o57_x5 o57_x6 hf_o57) (cwV 1 hts gX11_table_X10_hasShip rfl rfl rfl ⟨rfl, pd_X10_hasShip⟩ ⟨Nat.le_of_ble_eq_true rfl, Nat.le_of_ble_eq_true rfl⟩) ⟨pz_blind, va_recv hK hP (ci := 10) (q0 := q58) rfl eq58, pz_pre hP hK hD hN⟩ rfl rfl hl.1 rfl (lv_room (Nat.le_of_ble_eq_true rfl)) dX11_table_42 ⟨Nat.le_of_ble_eq_true rfl, Nat.le_of_ble_eq_true rfl⟩) (fun r59 hw60 => ?_)
        obtain ⟨hw60r, hw60p⟩ := hw60
        refine lv_if_ne (tgt := 55) hx hb dX11_table_45 (by decide) (fun c61 => ?_) (fun c61 => ?_)
        · have ic61 : r59.toInt ≠ 0 := zi_ne rfl rfl c61
          have p62 : 0 ≤ v.toInt ∧ v.toInt < o57_x5.toInt := (tp_cond.yes hw60p) (by omega)
          refine lv_aload_n hx hb dX11_table_55 rfl (lv_at hl 0 rfl) ?_
          refine va_get (D := (dC, dI)) (ci := 11) (v := .ref (ρ h0 0)) (C := RX11) (T := TX11) (N := 7) hx hb hts hfX11 hown hK hP q44 eq44 rfl 0 (by decide) (hts (.fieldLink RX11 10 "ColdShips" "world" "LColdShips$World;") wa_15) (fun _ h9 => h9) rfl dX11_table_56 ?_
          refine va_getN (D := (dC, dI)) (ci := 10) (v := .ref (ρ (ρ h0 0) 10)) (C := RX10) (T := TX10) (N := 19) hx hb hts hfX10 hown hK hP q58 eq58 rfl 10 (by decide) (va_Nw.use rfl (hN.1 (.fieldLinkNest RX11 84 "ColdShips$World" "ships" "[LColdShips$Ship;" "ColdShips") nzw_69)) (fun _ h9 => h9) rfl dX11_table_59 ?_
          refine lv_iload_n hx hb dX11_table_62 rfl (lv_at hl 1 rfl) ?_
          refine tpk_25 hT y48 (fun g64 hf_o63 hf_o63e => ?_)
          refine tpk_pos (tp_in hG y48 (by decide)) hf_o63 (fun q65 eq65 => ?_)
          refine va_aldq hx hb hK hP q65 5 eq65 rfl (vp_in_iff.mpr ⟨by omega, by omega⟩) dX11_table_63 ?_
          obtain ⟨b66, hb67⟩ : ∃ b : Nat, b = ρ (ρ (ρ h0 0) 10) v.toNatClampNeg := ⟨_, rfl⟩
          have hb67t : τ b66 = 6 := by rw [hb67]; exact tpg_25 hG y48 _ (zi_cl (vp_in_iff.mpr ⟨by omega, by omega⟩))
          have hb67g : g64 v.toNatClampNeg = some b66 := by rw [hb67]; exact hf_o63e _ (zi_cl (vp_in_iff.mpr ⟨by omega, by omega⟩))
          refine W.eq (g2 := F0 m 64 ls (.ref b66 :: [])) (congrArg (fun o => F0 m 64 ls (va_rf o :: [])) hb67g) ?_
          refine tgk_6 hG hb67t (fun y68 y69 y69n y70 y70n y71 y71n y72 y72n y73 y73n y74 y74n => ?_)
          refine tpk_6 hT hb67t (fun o75_x1 o75_x2 o75_x3 o75_x4 o75_x5 o75_x6 o75_x10 o75_x11 o75_x12 o75_x14 hf_o75 ro75_0 ro75_1 ro75_2 => ?_)
          refine tpk_pos (tp_in hG hb67t (by decide)) hf_o75 (fun q76 eq76 => ?_)
          refine va_getN (D := (dC, dI)) (ci := 5) (v := .ref (ρ b66 15)) (C := RX5) (T := TX5) (N := 17) hx hb hts hfX5 hown hK hP q76 eq76 rfl 15 (by decide) (va_Nw.use rfl (hN.1 (.fieldLinkNest RX11 297 "ColdShips$Ship" "gaugeCentimetres" "[I" "ColdShips") nzw_46)) (fun _ h9 => h9) rfl dX11_table_64 ?_
          refine lv_iload_n hx hb dX11_table_67 rfl (lv_at hl 2 rfl) ?_
          refine lv_iload_n hx hb dX11_table_68 rfl (lv_at hl 3 rfl) ?_
          refine tpk_20 hT y73 y73n (fun g78 hf_o77 => ?_)
          refine tpk_pos (tp_in hG y73 (by decide)) hf_o77 (fun q79 eq79 => ?_)
          refine va_iast hx hb hK hP hD hS q79 0 eq79 rfl (vp_in_iff.mpr ⟨by omega, by omega⟩) dX11_table_69 (tp_k (.inl (κ 0, 4, .inl (upd g78 u.toNatClampNeg a))) hD (tp_in hG y73 (by decide)) eq79 (fun f80 H locs hP hD hS g82 k81 => ?_))
          have hT := hT.up y73 g82 k81 (tp_o20 y73n)
          have hR := hR.up y73 (by decide) k81
          generalize (upd g78 u.toNatClampNeg a) = g83 at g82
          refine lv_aload_n hx hb dX11_table_70 rfl (lv_at hl 0 rfl) ?_
          have hf_84 : f80 h0 = .inr (11, [.ref (ρ h0 0), .ref (ρ h0 1), .ref (ρ h0 2), .ref (ρ h0 3), .ref (ρ h0 4), .ref (ρ h0 5), .int o43_x6]) := (k81 _ (tp_ne ht_h0 y73 (by decide))).trans hf_o43
          refine tpk_pos (tp_in hG ht_h0 (by decide)) hf_84 (fun q85 eq85 => ?_)
          refine va_get (D := (dC, dI)) (ci := 11) (v := .ref (ρ h0 0)) (C := RX11) (T := TX11) (N := 7) hx hb hts hfX11 hown hK hP q85 eq85 rfl 0 (by decide) (hts (.fieldLink RX11 10 "ColdShips" "world" "LColdShips$World;") wa_15) (fun _ h9 => h9) rfl dX11_table_71 ?_
          have hf_86 : f80 (ρ h0 0) = .inr (10, [.int o57_x0, .int o57_x1, .int o57_x2, .int o57_x3, .int o57_x4, .int o57_x5, .int o57_x6, .ref (ρ (ρ h0 0) 7), .ref (ρ (ρ h0 0) 8), .ref (ρ (ρ h0 0) 9), .ref (ρ (ρ h0 0) 10), .ref (ρ (ρ h0 0) 11), .ref (ρ (ρ h0 0) 12), .ref (ρ (ρ h0 0) 13), .ref (ρ (ρ h0 0) 14), .ref (ρ (ρ h0 0) 15), .ref (ρ (ρ h0 0) 16), .ref (ρ (ρ h0 0) 17), .ref (ρ (ρ h0 0) 18)]) := (k81 _ (tp_ne y37 y73 (by decide))).trans hf_o57
          refine tpk_pos (tp_in hG y37 (by decide)) hf_86 (fun q87 eq87 => ?_)
          refine va_getN (D := (dC, dI)) (ci := 10) (v := .ref (ρ (ρ h0 0) 10)) (C := RX10) (T := TX10) (N := 19) hx hb hts hfX10 hown hK hP q87 eq87 rfl 10 (by decide) (va_Nw.use rfl (hN.1 (.fieldLinkNest RX11 84 "ColdShips$World" "ships" "[LColdShips$Ship;" "ColdShips") nzw_69)) (fun _ h9 => h9) rfl dX11_table_74 ?_
          refine lv_iload_n hx hb dX11_table_77 rfl (lv_at hl 1 rfl) ?_
          have hf_88 : f80 (ρ (ρ h0 0) 10) = .inl (κ 5, 6, .inr (.inr (.inr (.inr g64)))) := (k81 _ (tp_ne y48 y73 (by decide))).trans hf_o63
          refine tpk_pos (tp_in hG y48 (by decide)) hf_88 (fun q89 eq89 => ?_)
          refine va_aldq hx hb hK hP q89 5 eq89 rfl (vp_in_iff.mpr ⟨by omega, by omega⟩) dX11_table_78 ?_
          obtain ⟨b90, hb91⟩ : ∃ b : Nat, b = ρ (ρ (ρ h0 0) 10) v.toNatClampNeg := ⟨_, rfl⟩
          have hb91t : τ b90 = 6 := by rw [hb91]; exact tpg_25 hG y48 _ (zi_cl (vp_in_iff.mpr ⟨by omega, by omega⟩))
          have hb91g : g64 v.toNatClampNeg = some b90 := by rw [hb91]; exact hf_o63e _ (zi_cl (vp_in_iff.mpr ⟨by omega, by omega⟩))
          refine W.eq (g2 := F0 m 79 ls (.ref b90 :: [])) (congrArg (fun o => F0 m 79 ls (va_rf o :: [])) hb91g) ?_
          refine tgk_6 hG hb91t (fun y92 y93 y93n y94 y94n y95 y95n y96 y96n y97 y97n y98 y98n => ?_)
          refine tpk_6 hT hb91t (fun o99_x1 o99_x2 o99_x3 o99_x4 o99_x5 o99_x6 o99_x10 o99_x11 o99_x12 o99_x14 hf_o99 ro99_0 ro99_1 ro99_2 => ?_)
          refine tpk_pos (tp_in hG hb91t (by decide)) hf_o99 (fun q100 eq100 => ?_)
          refine va_getN (D := (dC, dI)) (ci := 5) (v := .ref (ρ b90 16)) (C := RX5) (T := TX5) (N := 17) hx hb hts hfX5 hown hK hP q100 eq100 rfl 16 (by decide) (va_Nw.use rfl (hN.1 (.fieldLinkNest RX11 300 "ColdShips$Ship" "gaugeTons" "[I" "ColdShips") nzw_47)) (fun _ h9 => h9) rfl dX11_table_79 ?_
          refine lv_iload_n hx hb dX11_table_82 rfl (lv_at hl 2 rfl) ?_
          refine lv_iload hx hb dX11_table_83 (lv_at hl 4 rfl) ?_
          refine tpk_20 hT y98 y98n (fun g102 hf_o101 => ?_)
          refine tpk_pos (tp_in hG y98 (by decide)) hf_o101 (fun q103 eq103 => ?_)
          refine va_iast hx hb hK hP hD hS q103 0 eq103 rfl (vp_in_iff.mpr ⟨by omega, by omega⟩) dX11_table_85 (tp_k (.inl (κ 0, 4, .inl (upd g102 u.toNatClampNeg b))) hD (tp_in hG y98 (by decide)) eq103 (fun f104 H locs hP hD hS g106 k105 => ?_))
          have hT := hT.up y98 g106 k105 (tp_o20 y98n)
          have hR := hR.up y98 (by decide) k105
          generalize (upd g102 u.toNatClampNeg b) = g107 at g106
          refine lv_aload_n hx hb dX11_table_86 rfl (lv_at hl 0 rfl) ?_
          refine lv_iconst (v := 0) hx hb dX11_table_87 (by decide) ?_
          have hf_108 : f104 h0 = .inr (11, [.ref (ρ h0 0), .ref (ρ h0 1), .ref (ρ h0 2), .ref (ρ h0 3), .ref (ρ h0 4), .ref (ρ h0 5), .int o43_x6]) := (k105 _ (tp_ne ht_h0 y98 (by decide))).trans hf_84
          refine tpk_pos (tp_in hG ht_h0 (by decide)) hf_108 (fun q109 eq109 => ?_)
          have hFc := tp_fr hD hS hA
          refine va_calli (va_runV (As := [.int 0]) (rest := []) ⟨hx, hb, hml, hown, hts⟩ (t_X11_accept l dC dI _ Ω κ τ ν ρ L f104 hG hT h0 (0) ht_h0) (cwV 1 hts gX11_table_X11_accept rfl rfl rfl ⟨rfl, pd_X11_accept⟩ ⟨Nat.le_of_ble_eq_true rfl, Nat.le_of_ble_eq_true rfl⟩) ⟨pz_blind, va_recv hK hP (ci := 11) (q0 := q109) rfl eq109, pz_pre hP hK hD hN⟩ rfl rfl hl.1 rfl (lv_room (Nat.le_of_ble_eq_true rfl)) dX11_table_88 ⟨Nat.le_of_ble_eq_true rfl, Nat.le_of_ble_eq_true rfl⟩) hS (fun q _ h => hFc q h) hFc (fun r110 f112 t H1 locs ht hvm hw111 hB hz1 hk1 hS => ?_)
          refine tn_4 hw111 (fun hT hF113 hw111r hw111p => ?_); clear hw111
          have hR := hR.then hF113 (by decide)
          have hP := hB.1; rw [ht] at hP; have hD := tp_ad f112 hD; clear hB hFc hz1 hk1; subst ht; generalize t.heap = H at hP hS ⊢
          exact W.iret (v := r110) hx hb hr (fun t ht hW => ⟨⟨r110, f112, rfl, ⟨hT, hR, trivial, trivial⟩, by rw [ht]; exact hP, va_K.moved hW.alike hK, hD⟩, hS.F ht⟩) hS.2.2 dX11_table_91
        · have ic61 : r59.toInt = 0 := zi_nef rfl rfl c61
          refine lv_aload_n hx hb dX11_table_48 rfl (lv_at hl 0 rfl) ?_
          refine lv_bipush (v := (-2)) hx hb dX11_table_49 (by decide) ?_
          have hFc := tp_fr hD hS hA
          refine va_calli (va_runV (As := [.int (-2)]) (rest := []) ⟨hx, hb, hml, hown, hts⟩ (t_X11_refuse l dC dI _ Ω κ τ ν ρ L f hG hT h0 ((-2)) ht_h0) (cwV 1 hts gX11_table_X11_refuse rfl rfl rfl ⟨rfl, pd_X11_refuse⟩ ⟨Nat.le_of_ble_eq_true rfl, Nat.le_of_ble_eq_true rfl⟩) ⟨pz_blind, va_recv hK hP (ci := 11) (q0 := q44) rfl eq44, pz_pre hP hK hD hN⟩ rfl rfl hl.1 rfl (lv_room (Nat.le_of_ble_eq_true rfl)) dX11_table_51 ⟨Nat.le_of_ble_eq_true rfl, Nat.le_of_ble_eq_true rfl⟩) hS (fun q _ h => hFc q h) hFc (fun r114 f116 t H1 locs ht hvm hw115 hB hz1 hk1 hS => ?_)
          refine tn_4 hw115 (fun hT hF117 hw115r hw115p => ?_); clear hw115
          have hR := hR.then hF117 (by decide)
          have hP := hB.1; rw [ht] at hP; have hD := tp_ad f116 hD; clear hB hFc hz1 hk1; subst ht; generalize t.heap = H at hP hS ⊢
          exact W.iret (v := r114) hx hb hr (fun t ht hW => ⟨⟨r114, f116, rfl, ⟨hT, hR, trivial, trivial⟩, by rw [ht]; exact hP, va_K.moved hW.alike hK, hD⟩, hS.F ht⟩) hS.2.2 dX11_table_54
      · have ic35 : r33.toInt = 0 := zi_nef rfl rfl c35
        refine lv_aload_n hx hb dX11_table_31 rfl (lv_at hl 0 rfl) ?_
        refine lv_iconst (v := (-1)) hx hb dX11_table_32 (by decide) ?_
        refine tgk_12 hG ht_h0 (fun y118 y119 y120 y121 y122 y123 => ?_)
        refine tpk_12 hT ht_h0 (fun o124_x6 hf_o124 => ?_)
        refine tpk_pos (tp_in hG ht_h0 (by decide)) hf_o124 (fun q125 eq125 => ?_)
        have hFc := tp_fr hD hS hA
        refine va_calli (va_runV (As := [.int (-1)]) (rest := []) ⟨hx, hb, hml, hown, hts⟩ (t_X11_refuse l dC dI _ Ω κ τ ν ρ L f hG hT h0 ((-1)) ht_h0) (cwV 1 hts gX11_table_X11_refuse rfl rfl rfl ⟨rfl, pd_X11_refuse⟩ ⟨Nat.le_of_ble_eq_true rfl, Nat.le_of_ble_eq_true rfl⟩) ⟨pz_blind, va_recv hK hP (ci := 11) (q0 := q125) rfl eq125, pz_pre hP hK hD hN⟩ rfl rfl hl.1 rfl (lv_room (Nat.le_of_ble_eq_true rfl)) dX11_table_33 ⟨Nat.le_of_ble_eq_true rfl, Nat.le_of_ble_eq_true rfl⟩) hS (fun q _ h => hFc q h) hFc (fun r126 f128 t H1 locs ht hvm hw127 hB hz1 hk1 hS => ?_)
        refine tn_4 hw127 (fun hT hF129 hw127r hw127p => ?_); clear hw127
        have hR := hR.then hF129 (by decide)
        have hP := hB.1; rw [ht] at hP; have hD := tp_ad f128 hD; clear hB hFc hz1 hk1; subst ht; generalize t.heap = H at hP hS ⊢
        exact W.iret (v := r126) hx hb hr (fun t ht hW => ⟨⟨r126, f128, rfl, ⟨hT, hR, trivial, trivial⟩, by rw [ht]; exact hP, va_K.moved hW.alike hK, hD⟩, hS.F ht⟩) hS.2.2 dX11_table_36
set_option maxHeartbeats 4000000 in
set_option maxRecDepth 100000 in
theorem t_X11_list (l : Launch) (dC : Nat → ClassId) (dI : Nat → Nat → Nat) (sz : Nat) (Ω : Nat → (Nat → Nat) → va_E → Prop) (κ : Nat → ClassId) (τ ν : Nat → Nat) (ρ : Nat → Nat → Nat) (L : List Nat) (f : Nat → va_E) (hG : tp_G τ ν ρ L) (hT : tp_T Ω κ τ ν ρ f) (h0 : Nat) (v : Int32) (u : Int32) (ht_h0 : τ h0 = 12) : Met l yX11_list wqX11_list ({ frames := 3, cells := 0, slots := 0, locals := 800 }) (va_Pc [.ref h0, .int v, .int u] (pz_B dC dI (tp_K κ) (va_pl L f) sz)) (va_Qi (fun (r : Int32) (f1 : Nat → va_E) => tp_T Ω κ τ ν ρ f1 ∧ tp_F τ [2, 3, 4, 5, 6, 7, 8, 9, 10, 11, 12, 20, 21, 22, 26, 27, 28] f f1 ∧ True ∧ True) (fun (f1 : Nat → va_E) (t : State) => pz_E dC dI (tp_K κ) (va_A (va_pl L f) sz) (va_pl L f1) t) (va_A (va_pl L f) sz)) 0 0 (va_A (va_pl L f) sz) := by
  refine Met.ofW (cc := cX11_list) (maxL := 4) (ret := some .int) (by decide) rfl ?_
  intro p e s m args below meth c s₁ B hml hv
  obtain ⟨rfl, hsz, hP, hK, hD0, hN⟩ := hv
  have hx := B.exec
  have hb := B.bytes
  have hr := B.returns
  have hts := fun (w : Cond) (h : w ∈ WALL) => atoms_spec (ws := wqX11_list) B.pre w (List.mem_cons_of_mem _ h)
  have hown : s.vm.findClass RX11 = some m.cls := findClass_of_methodNamed B.named
  have hlocks := B.notSynchronized
  subst hsz
  have hD := hD0.self (sz := s.heap.size)
  generalize hAe : va_A (va_pl L f) s.heap.size = A at hD ⊢
  have hA : ∀ q : Nat, s.heap.size ≤ q → A q := fun q h => by rw [← hAe]; exact Or.inr h
  have hS : va_S A s.heap s.heap [] := va_S.rf
  have hR : tp_F τ [2, 3, 4, 5, 6, 7, 8, 9, 10, 11, 12, 20, 21, 22, 26, 27, 28] f f := tp_F.rf
  have hl := lv_entry ([.ref h0, .int v, .int u]) (n := 4) (Nat.le_of_ble_eq_true rfl)
  rw [lg_entry_eq]
  generalize (lg_sl ([.ref h0, .int v, .int u]) ++ List.replicate (4 - (lg_sl ([.ref h0, .int v, .int u])).length) Slot.unset).toArray = ls at hl ⊢
  have hl : lv_has ls 4 [(0, .ref h0), (1, .int v), (2, .int u)] := hl
  refine lv_iload_n hx hb dX11_list_0 rfl (lv_at hl 2 rfl) ?_
  refine lv_bipush (v := (-50)) hx hb dX11_list_1 (by decide) ?_
  refine lv_bipush (v := 50) hx hb dX11_list_3 (by decide) ?_
  refine pz_calli (va_runS (As := [.int u, .int (-50), .int 50]) (rest := []) ⟨hx, hb, hml, hown, hts⟩ (t_X11_within l dC dI _ u ((-50)) (50) (u.toInt) ((-50)) (50) rfl rfl rfl) (va_cwS 3 hts gX11_list_X11_within rfl rfl rfl pd_X11_within ⟨Nat.le_of_ble_eq_true rfl, Nat.le_of_ble_eq_true rfl⟩) ⟨pz_blind, pz_pre pz_P0 (hK.sub (tys' := []) [] rfl) (pz_D0 (A := fun _ => True)) hN⟩ rfl rfl hl.1 rfl (lv_room (Nat.le_of_ble_eq_true rfl)) dX11_list_5 ⟨Nat.le_of_ble_eq_true rfl, Nat.le_of_ble_eq_true rfl⟩) (fun r1 hw2 => ?_)
  obtain ⟨hw2r, hw2p⟩ := hw2
  refine lv_if_ne (tgt := 17) hx hb dX11_list_8 (by decide) (fun c3 => ?_) (fun c3 => ?_)
  · have ic3 : r1.toInt ≠ 0 := zi_ne rfl rfl c3
    have p4 : ((-50)) ≤ (u.toInt) ∧ (u.toInt) ≤ (50) := (tp_cond.yes hw2p) (by omega)
    refine lv_aload_n hx hb dX11_list_17 rfl (lv_at hl 0 rfl) ?_
    refine tgk_12 hG ht_h0 (fun y5 y6 y7 y8 y9 y10 => ?_)
    refine tpk_12 hT ht_h0 (fun o11_x6 hf_o11 => ?_)
    refine tpk_pos (tp_in hG ht_h0 (by decide)) hf_o11 (fun q12 eq12 => ?_)
    refine va_get (D := (dC, dI)) (ci := 11) (v := .ref (ρ h0 0)) (C := RX11) (T := TX11) (N := 7) hx hb hts hfX11 hown hK hP q12 eq12 rfl 0 (by decide) (hts (.fieldLink RX11 10 "ColdShips" "world" "LColdShips$World;") wa_15) (fun _ h9 => h9) rfl dX11_list_18 ?_
    refine lv_iload_n hx hb dX11_list_21 rfl (lv_at hl 1 rfl) ?_
    refine tgk_11 hG y5 (fun y13 y13n y14 y14n y15 y16 y17 y18 y19 y20 y21 y21w y21m y22 y22w y22m y23 y23w y23m y24 y24w y24m => ?_)
    refine tpk_11 hT y5 (fun o25_x0 o25_x1 o25_x2 o25_x3 o25_x4 o25_x5 o25_x6 hf_o25 ro25_0 ro25_1 ro25_2 ro25_3 => ?_)
    refine tpk_pos (tp_in hG y5 (by decide)) hf_o25 (fun q26 eq26 => ?_)
    refine pz_calli (va_runV (As := [.int v]) (rest := []) ⟨hx, hb, hml, hown, hts⟩ (t_X10_hasShip l dC dI _ Ω κ τ ν ρ L f hG hT (ρ h0 0) v y5 o25_x0 o25_x1 o25_x2 o25_x3 o25_x4 o25_x5 o25_x6 hf_o25) (cwV 1 hts gX11_list_X10_hasShip rfl rfl rfl ⟨rfl, pd_X10_hasShip⟩ ⟨Nat.le_of_ble_eq_true rfl, Nat.le_of_ble_eq_true rfl⟩) ⟨pz_blind, va_recv hK hP (ci := 10) (q0 := q26) rfl eq26, pz_pre hP hK hD hN⟩ rfl rfl hl.1 rfl (lv_room (Nat.le_of_ble_eq_true rfl)) dX11_list_22 ⟨Nat.le_of_ble_eq_true rfl, Nat.le_of_ble_eq_true rfl⟩) (fun r27 hw28 => ?_)
    obtain ⟨hw28r, hw28p⟩ := hw28
    refine lv_if_ne (tgt := 35) hx hb dX11_list_25 (by decide) (fun c29 => ?_) (fun c29 => ?_)
    · have ic29 : r27.toInt ≠ 0 := zi_ne rfl rfl c29
      have p30 : 0 ≤ v.toInt ∧ v.toInt < o25_x5.toInt := (tp_cond.yes hw28p) (by omega)
      refine lv_aload_n hx hb dX11_list_35 rfl (lv_at hl 0 rfl) ?_
      refine va_get (D := (dC, dI)) (ci := 11) (v := .ref (ρ h0 0)) (C := RX11) (T := TX11) (N := 7) hx hb hts hfX11 hown hK hP q12 eq12 rfl 0 (by decide) (hts (.fieldLink RX11 10 "ColdShips" "world" "LColdShips$World;") wa_15) (fun _ h9 => h9) rfl dX11_list_36 ?_
      refine va_getN (D := (dC, dI)) (ci := 10) (v := .ref (ρ (ρ h0 0) 10)) (C := RX10) (T := TX10) (N := 19) hx hb hts hfX10 hown hK hP q26 eq26 rfl 10 (by decide) (va_Nw.use rfl (hN.1 (.fieldLinkNest RX11 84 "ColdShips$World" "ships" "[LColdShips$Ship;" "ColdShips") nzw_69)) (fun _ h9 => h9) rfl dX11_list_39 ?_
      refine lv_iload_n hx hb dX11_list_42 rfl (lv_at hl 1 rfl) ?_
      refine tpk_25 hT y16 (fun g32 hf_o31 hf_o31e => ?_)
      refine tpk_pos (tp_in hG y16 (by decide)) hf_o31 (fun q33 eq33 => ?_)
      refine va_aldq hx hb hK hP q33 5 eq33 rfl (vp_in_iff.mpr ⟨by omega, by omega⟩) dX11_list_43 ?_
      obtain ⟨b34, hb35⟩ : ∃ b : Nat, b = ρ (ρ (ρ h0 0) 10) v.toNatClampNeg := ⟨_, rfl⟩
      have hb35t : τ b34 = 6 := by rw [hb35]; exact tpg_25 hG y16 _ (zi_cl (vp_in_iff.mpr ⟨by omega, by omega⟩))
      have hb35g : g32 v.toNatClampNeg = some b34 := by rw [hb35]; exact hf_o31e _ (zi_cl (vp_in_iff.mpr ⟨by omega, by omega⟩))
      refine W.eq (g2 := F0 m 44 ls (.ref b34 :: [])) (congrArg (fun o => F0 m 44 ls (va_rf o :: [])) hb35g) ?_
      refine tgk_6 hG hb35t (fun y36 y37 y37n y38 y38n y39 y39n y40 y40n y41 y41n y42 y42n => ?_)
      refine tpk_6 hT hb35t (fun o43_x1 o43_x2 o43_x3 o43_x4 o43_x5 o43_x6 o43_x10 o43_x11 o43_x12 o43_x14 hf_o43 ro43_0 ro43_1 ro43_2 => ?_)
      refine tpk_pos (tp_in hG hb35t (by decide)) hf_o43 (fun q44 eq44 => ?_)
      refine va_getN (D := (dC, dI)) (ci := 5) (v := .int o43_x14) (C := RX5) (T := TX5) (N := 17) hx hb hts hfX5 hown hK hP q44 eq44 rfl 14 (by decide) (va_Nw.use rfl (hN.1 (.fieldLinkNest RX11 303 "ColdShips$Ship" "list" "I" "ColdShips") nzw_45)) (fun _ h9 => h9) rfl dX11_list_44 ?_
      refine lv_istore_n (lv' := [(3, .int o43_x14), (0, .ref h0), (1, .int v), (2, .int u)]) hx hb dX11_list_47 rfl hl (by decide) rfl (fun ls hl => ?_)
      refine lv_aload_n hx hb dX11_list_48 rfl (lv_at hl 1 rfl) ?_
      refine va_get (D := (dC, dI)) (ci := 11) (v := .ref (ρ h0 0)) (C := RX11) (T := TX11) (N := 7) hx hb hts hfX11 hown hK hP q12 eq12 rfl 0 (by decide) (hts (.fieldLink RX11 10 "ColdShips" "world" "LColdShips$World;") wa_15) (fun _ h9 => h9) rfl dX11_list_49 ?_
      refine va_getN (D := (dC, dI)) (ci := 10) (v := .ref (ρ (ρ h0 0) 10)) (C := RX10) (T := TX10) (N := 19) hx hb hts hfX10 hown hK hP q26 eq26 rfl 10 (by decide) (va_Nw.use rfl (hN.1 (.fieldLinkNest RX11 84 "ColdShips$World" "ships" "[LColdShips$Ship;" "ColdShips") nzw_69)) (fun _ h9 => h9) rfl dX11_list_52 ?_
      refine lv_iload_n hx hb dX11_list_55 rfl (lv_at hl 2 rfl) ?_
      refine va_aldq hx hb hK hP q33 5 eq33 rfl (vp_in_iff.mpr ⟨by omega, by omega⟩) dX11_list_56 ?_
      obtain ⟨b45, hb46⟩ : ∃ b : Nat, b = ρ (ρ (ρ h0 0) 10) v.toNatClampNeg := ⟨_, rfl⟩
      have hb46t : τ b45 = 6 := by rw [hb46]; exact tpg_25 hG y16 _ (zi_cl (vp_in_iff.mpr ⟨by omega, by omega⟩))
      have hb46g : g32 v.toNatClampNeg = some b45 := by rw [hb46]; exact hf_o31e _ (zi_cl (vp_in_iff.mpr ⟨by omega, by omega⟩))
      refine W.eq (g2 := F0 m 57 ls (.ref b45 :: [])) (congrArg (fun o => F0 m 57 ls (va_rf o :: [])) hb46g) ?_
      refine lv_iload_n hx hb dX11_list_57 rfl (lv_at hl 3 rfl) ?_
      refine tgk_6 hG hb46t (fun y47 y48 y48n y49 y49n y50 y50n y51 y51n y52 y52n y53 y53n => ?_)
      refine tpk_6 hT hb46t (fun o54_x1 o54_x2 o54_x3 o54_x4 o54_x5 o54_x6 o54_x10 o54_x11 o54_x12 o54_x14 hf_o54 ro54_0 ro54_1 ro54_2 => ?_)
      refine tpk_pos (tp_in hG hb46t (by decide)) hf_o54 (fun q55 eq55 => ?_)
      refine va_putN (D := (dC, dI)) (ci := 5) (v := .int u) (ty := .int) (C := RX5) (T := TX5) (N := 17) hx hb hts hfX5 tyX5 tyX5_ok nmX5 hown hK hP hD hS q55 eq55 rfl 14 (by decide) (va_Nw.use rfl (hN.1 (.fieldLinkNest RX11 303 "ColdShips$Ship" "list" "I" "ColdShips") nzw_45)) (fun _ h9 => h9) rfl (tyX5_ok 14 (by decide)) rfl rfl (Nat.le_of_ble_eq_true rfl) dX11_list_58 (tp_k (.inr (5, [.ref (ρ b45 0), .int o54_x1, .int o54_x2, .int o54_x3, .int o54_x4, .int o54_x5, .int o54_x6, .ref (ρ b45 7), .ref (ρ b45 8), .ref (ρ b45 9), .int o54_x10, .int o54_x11, .int o54_x12, .ref (ρ b45 13), .int u, .ref (ρ b45 15), .ref (ρ b45 16)])) hD (tp_in hG hb46t (by decide)) eq55 (fun f56 H locs hP hD hS g58 k57 => ?_))
      have hT := hT.up hb46t g58 k57 ⟨_, _, _, _, _, _, _, _, _, _, rfl, (by first | decide | omega | (omega)), (by first | decide | omega | (omega)), (by first | decide | omega | (omega))⟩
      have hR := hR.up hb46t (by decide) k57
      refine lv_aload_n hx hb dX11_list_61 rfl (lv_at hl 1 rfl) ?_
      refine lv_iload_n hx hb dX11_list_62 rfl (lv_at hl 0 rfl) ?_
      have hf_59 : f56 h0 = .inr (11, [.ref (ρ h0 0), .ref (ρ h0 1), .ref (ρ h0 2), .ref (ρ h0 3), .ref (ρ h0 4), .ref (ρ h0 5), .int o11_x6]) := (k57 _ (tp_ne ht_h0 hb46t (by decide))).trans hf_o11
      refine tpk_pos (tp_in hG ht_h0 (by decide)) hf_59 (fun q60 eq60 => ?_)
      have hFc := tp_fr hD hS hA
      refine va_calli (va_runV (As := [.int o43_x14]) (rest := []) ⟨hx, hb, hml, hown, hts⟩ (t_X11_accept l dC dI _ Ω κ τ ν ρ L f56 hG hT h0 o43_x14 ht_h0) (cwV 1 hts gX11_list_X11_accept rfl rfl rfl ⟨rfl, pd_X11_accept⟩ ⟨Nat.le_of_ble_eq_true rfl, Nat.le_of_ble_eq_true rfl⟩) ⟨pz_blind, va_recv hK hP (ci := 11) (q0 := q60) rfl eq60, pz_pre hP hK hD hN⟩ rfl rfl hl.1 rfl (lv_room (Nat.le_of_ble_eq_true rfl)) dX11_list_63 ⟨Nat.le_of_ble_eq_true rfl, Nat.le_of_ble_eq_true rfl⟩) hS (fun q _ h => hFc q h) hFc (fun r61 f63 t H1 locs ht hvm hw62 hB hz1 hk1 hS => ?_)
      refine tn_4 hw62 (fun hT hF64 hw62r hw62p => ?_); clear hw62
      have hR := hR.then hF64 (by decide)
      have hP := hB.1; rw [ht] at hP; have hD := tp_ad f63 hD; clear hB hFc hz1 hk1; subst ht; generalize t.heap = H at hP hS ⊢
      exact W.iret (v := r61) hx hb hr (fun t ht hW => ⟨⟨r61, f63, rfl, ⟨hT, hR, trivial, trivial⟩, by rw [ht]; exact hP, va_K.moved hW.alike hK, hD⟩, hS.F ht⟩) hS.2.2 dX11_list_66
    · have ic29 : r27.toInt = 0 := zi_nef rfl rfl c29
      refine lv_aload_n hx hb dX11_list_28 rfl (lv_at hl 0 rfl) ?_
      refine lv_bipush (v := (-2)) hx hb dX11_list_29 (by decide) ?_
      have hFc := tp_fr hD hS hA
      refine va_calli (va_runV (As := [.int (-2)]) (rest := []) ⟨hx, hb, hml, hown, hts⟩ (t_X11_refuse l dC dI _ Ω κ τ ν ρ L f hG hT h0 ((-2)) ht_h0) (cwV 1 hts gX11_list_X11_refuse rfl rfl rfl ⟨rfl, pd_X11_refuse⟩ ⟨Nat.le_of_ble_eq_true rfl, Nat.le_of_ble_eq_true rfl⟩) ⟨pz_blind, va_recv hK hP (ci := 11) (q0 := q12) rfl eq12, pz_pre hP hK hD hN⟩ rfl rfl hl.1 rfl (lv_room (Nat.le_of_ble_eq_true rfl)) dX11_list_31 ⟨Nat.le_of_ble_eq_true rfl, Nat.le_of_ble_eq_true rfl⟩) hS (fun q _ h => hFc q h) hFc (fun r65 f67 t H1 locs ht hvm hw66 hB hz1 hk1 hS => ?_)
      refine tn_4 hw66 (fun hT hF68 hw66r hw66p => ?_); clear hw66
      have hR := hR.then hF68 (by decide)
      have hP := hB.1; rw [ht] at hP; have hD := tp_ad f67 hD; clear hB hFc hz1 hk1; subst ht; generalize t.heap = H at hP hS ⊢
      exact W.iret (v := r65) hx hb hr (fun t ht hW => ⟨⟨r65, f67, rfl, ⟨hT, hR, trivial, trivial⟩, by rw [ht]; exact hP, va_K.moved hW.alike hK, hD⟩, hS.F ht⟩) hS.2.2 dX11_list_34
  · have ic3 : r1.toInt = 0 := zi_nef rfl rfl c3
    refine lv_aload_n hx hb dX11_list_11 rfl (lv_at hl 0 rfl) ?_
    refine lv_iconst (v := (-1)) hx hb dX11_list_12 (by decide) ?_
    refine tgk_12 hG ht_h0 (fun y69 y70 y71 y72 y73 y74 => ?_)
    refine tpk_12 hT ht_h0 (fun o75_x6 hf_o75 => ?_)
    refine tpk_pos (tp_in hG ht_h0 (by decide)) hf_o75 (fun q76 eq76 => ?_)
    have hFc := tp_fr hD hS hA
    refine va_calli (va_runV (As := [.int (-1)]) (rest := []) ⟨hx, hb, hml, hown, hts⟩ (t_X11_refuse l dC dI _ Ω κ τ ν ρ L f hG hT h0 ((-1)) ht_h0) (cwV 1 hts gX11_list_X11_refuse rfl rfl rfl ⟨rfl, pd_X11_refuse⟩ ⟨Nat.le_of_ble_eq_true rfl, Nat.le_of_ble_eq_true rfl⟩) ⟨pz_blind, va_recv hK hP (ci := 11) (q0 := q76) rfl eq76, pz_pre hP hK hD hN⟩ rfl rfl hl.1 rfl (lv_room (Nat.le_of_ble_eq_true rfl)) dX11_list_13 ⟨Nat.le_of_ble_eq_true rfl, Nat.le_of_ble_eq_true rfl⟩) hS (fun q _ h => hFc q h) hFc (fun r77 f79 t H1 locs ht hvm hw78 hB hz1 hk1 hS => ?_)
    refine tn_4 hw78 (fun hT hF80 hw78r hw78p => ?_); clear hw78
    have hR := hR.then hF80 (by decide)
    have hP := hB.1; rw [ht] at hP; have hD := tp_ad f79 hD; clear hB hFc hz1 hk1; subst ht; generalize t.heap = H at hP hS ⊢
    exact W.iret (v := r77) hx hb hr (fun t ht hW => ⟨⟨r77, f79, rfl, ⟨hT, hR, trivial, trivial⟩, by rw [ht]; exact hP, va_K.moved hW.alike hK, hD⟩, hS.F ht⟩) hS.2.2 dX11_list_16
set_option maxHeartbeats 4000000 in
set_option maxRecDepth 100000 in
theorem t_X11_reading (l : Launch) (dC : Nat → ClassId) (dI : Nat → Nat → Nat) (sz : Nat) (Ω : Nat → (Nat → Nat) → va_E → Prop) (κ : Nat → ClassId) (τ ν : Nat → Nat) (ρ : Nat → Nat → Nat) (L : List Nat) (f : Nat → va_E) (hG : tp_G τ ν ρ L) (hT : tp_T Ω κ τ ν ρ f) (h0 : Nat) (v : Int32) (u : Int32) (a : Int32) (b : Int32) (a5 : Int32) (ht_h0 : τ h0 = 12) : Met l yX11_reading wqX11_reading ({ frames := 5, cells := 0, slots := 0, locals := 1600 }) (va_Pc [.ref h0, .int v, .int u, .int a, .int b, .int a5] (pz_B dC dI (tp_K κ) (va_pl L f) sz)) (va_Qi (fun (r : Int32) (f1 : Nat → va_E) => tp_T Ω κ τ ν ρ f1 ∧ tp_F τ [2, 3, 4, 5, 6, 7, 8, 9, 10, 11, 12, 20, 21, 22, 26, 27, 28] f f1 ∧ True ∧ True) (fun (f1 : Nat → va_E) (t : State) => pz_E dC dI (tp_K κ) (va_A (va_pl L f) sz) (va_pl L f1) t) (va_A (va_pl L f) sz)) 0 0 (va_A (va_pl L f) sz) := by
  refine Met.ofW (cc := cX11_reading) (maxL := 7) (ret := some .int) (by decide) rfl ?_
  intro p e s m args below meth c s₁ B hml hv
  obtain ⟨rfl, hsz, hP, hK, hD0, hN⟩ := hv
  have hx := B.exec
  have hb := B.bytes
  have hr := B.returns
  have hts := fun (w : Cond) (h : w ∈ WALL) => atoms_spec (ws := wqX11_reading) B.pre w (List.mem_cons_of_mem _ h)
  have hown : s.vm.findClass RX11 = some m.cls := findClass_of_methodNamed B.named
  have hlocks := B.notSynchronized
  subst hsz
  have hD := hD0.self (sz := s.heap.size)
  generalize hAe : va_A (va_pl L f) s.heap.size = A at hD ⊢
  have hA : ∀ q : Nat, s.heap.size ≤ q → A q := fun q h => by rw [← hAe]; exact Or.inr h
  have hS : va_S A s.heap s.heap [] := va_S.rf
  have hR : tp_F τ [2, 3, 4, 5, 6, 7, 8, 9, 10, 11, 12, 20, 21, 22, 26, 27, 28] f f := tp_F.rf
  have hl := lv_entry ([.ref h0, .int v, .int u, .int a, .int b, .int a5]) (n := 7) (Nat.le_of_ble_eq_true rfl)
  rw [lg_entry_eq]
  generalize (lg_sl ([.ref h0, .int v, .int u, .int a, .int b, .int a5]) ++ List.replicate (7 - (lg_sl ([.ref h0, .int v, .int u, .int a, .int b, .int a5])).length) Slot.unset).toArray = ls at hl ⊢
  have hl : lv_has ls 7 [(0, .ref h0), (1, .int v), (2, .int u), (3, .int a), (4, .int b), (5, .int a5)] := hl
  refine lv_iload_n hx hb dX11_reading_0 rfl (lv_at hl 2 rfl) ?_
  refine lv_iconst (v := 0) hx hb dX11_reading_1 (by decide) ?_
  refine lv_iconst (v := 1) hx hb dX11_reading_2 (by decide) ?_
  refine pz_calli (va_runS (As := [.int u, .int 0, .int 1]) (rest := []) ⟨hx, hb, hml, hown, hts⟩ (t_X11_within l dC dI _ u (0) (1) (u.toInt) (0) (1) rfl rfl rfl) (va_cwS 3 hts gX11_reading_X11_within rfl rfl rfl pd_X11_within ⟨Nat.le_of_ble_eq_true rfl, Nat.le_of_ble_eq_true rfl⟩) ⟨pz_blind, pz_pre pz_P0 (hK.sub (tys' := []) [] rfl) (pz_D0 (A := fun _ => True)) hN⟩ rfl rfl hl.1 rfl (lv_room (Nat.le_of_ble_eq_true rfl)) dX11_reading_3 ⟨Nat.le_of_ble_eq_true rfl, Nat.le_of_ble_eq_true rfl⟩) (fun r1 hw2 => ?_)
  obtain ⟨hw2r, hw2p⟩ := hw2
  refine lv_if_eq (tgt := 40) hx hb dX11_reading_6 (by decide) (fun c3 => ?_) (fun c3 => ?_)
  · have ic3 : r1.toInt = 0 := zi_eq rfl rfl c3
    refine lv_aload_n hx hb dX11_reading_40 rfl (lv_at hl 0 rfl) ?_
    refine lv_iconst (v := (-1)) hx hb dX11_reading_41 (by decide) ?_
    refine tgk_12 hG ht_h0 (fun y4 y5 y6 y7 y8 y9 => ?_)
    refine tpk_12 hT ht_h0 (fun o10_x6 hf_o10 => ?_)
    refine tpk_pos (tp_in hG ht_h0 (by decide)) hf_o10 (fun q11 eq11 => ?_)
    have hFc := tp_fr hD hS hA
    refine va_calli (va_runV (As := [.int (-1)]) (rest := []) ⟨hx, hb, hml, hown, hts⟩ (t_X11_refuse l dC dI _ Ω κ τ ν ρ L f hG hT h0 ((-1)) ht_h0) (cwV 1 hts gX11_reading_X11_refuse rfl rfl rfl ⟨rfl, pd_X11_refuse⟩ ⟨Nat.le_of_ble_eq_true rfl, Nat.le_of_ble_eq_true rfl⟩) ⟨pz_blind, va_recv hK hP (ci := 11) (q0 := q11) rfl eq11, pz_pre hP hK hD hN⟩ rfl rfl hl.1 rfl (lv_room (Nat.le_of_ble_eq_true rfl)) dX11_reading_42 ⟨Nat.le_of_ble_eq_true rfl, Nat.le_of_ble_eq_true rfl⟩) hS (fun q _ h => hFc q h) hFc (fun r12 f14 t H1 locs ht hvm hw13 hB hz1 hk1 hS => ?_)
    refine tn_4 hw13 (fun hT hF15 hw13r hw13p => ?_); clear hw13
    have hR := hR.then hF15 (by decide)
    have hP := hB.1; rw [ht] at hP; have hD := tp_ad f14 hD; clear hB hFc hz1 hk1; subst ht; generalize t.heap = H at hP hS ⊢
    exact W.iret (v := r12) hx hb hr (fun t ht hW => ⟨⟨r12, f14, rfl, ⟨hT, hR, trivial, trivial⟩, by rw [ht]; exact hP, va_K.moved hW.alike hK, hD⟩, hS.F ht⟩) hS.2.2 dX11_reading_45
  · have ic3 : r1.toInt ≠ 0 := zi_eqf rfl rfl c3
    have p16 : (0) ≤ (u.toInt) ∧ (u.toInt) ≤ (1) := (tp_cond.yes hw2p) (by omega)
    refine lv_iload_n hx hb dX11_reading_9 rfl (lv_at hl 3 rfl) ?_
    refine lv_iconst (v := 0) hx hb dX11_reading_10 (by decide) ?_
    refine lv_sipush (v := 5000) hx hb dX11_reading_11 (by decide) ?_
    refine pz_calli (va_runS (As := [.int a, .int 0, .int 5000]) (rest := []) ⟨hx, hb, hml, hown, hts⟩ (t_X11_within l dC dI _ a (0) (5000) (a.toInt) (0) (5000) rfl rfl rfl) (va_cwS 3 hts gX11_reading_X11_within rfl rfl rfl pd_X11_within ⟨Nat.le_of_ble_eq_true rfl, Nat.le_of_ble_eq_true rfl⟩) ⟨pz_blind, pz_pre pz_P0 (hK.sub (tys' := []) [] rfl) (pz_D0 (A := fun _ => True)) hN⟩ rfl rfl hl.1 rfl (lv_room (Nat.le_of_ble_eq_true rfl)) dX11_reading_14 ⟨Nat.le_of_ble_eq_true rfl, Nat.le_of_ble_eq_true rfl⟩) (fun r17 hw18 => ?_)
    obtain ⟨hw18r, hw18p⟩ := hw18
    refine lv_if_eq (tgt := 40) hx hb dX11_reading_17 (by decide) (fun c19 => ?_) (fun c19 => ?_)
    · have ic19 : r17.toInt = 0 := zi_eq rfl rfl c19
      refine lv_aload_n hx hb dX11_reading_40 rfl (lv_at hl 0 rfl) ?_
      refine lv_iconst (v := (-1)) hx hb dX11_reading_41 (by decide) ?_
      refine tgk_12 hG ht_h0 (fun y20 y21 y22 y23 y24 y25 => ?_)
      refine tpk_12 hT ht_h0 (fun o26_x6 hf_o26 => ?_)
      refine tpk_pos (tp_in hG ht_h0 (by decide)) hf_o26 (fun q27 eq27 => ?_)
      have hFc := tp_fr hD hS hA
      refine va_calli (va_runV (As := [.int (-1)]) (rest := []) ⟨hx, hb, hml, hown, hts⟩ (t_X11_refuse l dC dI _ Ω κ τ ν ρ L f hG hT h0 ((-1)) ht_h0) (cwV 1 hts gX11_reading_X11_refuse rfl rfl rfl ⟨rfl, pd_X11_refuse⟩ ⟨Nat.le_of_ble_eq_true rfl, Nat.le_of_ble_eq_true rfl⟩) ⟨pz_blind, va_recv hK hP (ci := 11) (q0 := q27) rfl eq27, pz_pre hP hK hD hN⟩ rfl rfl hl.1 rfl (lv_room (Nat.le_of_ble_eq_true rfl)) dX11_reading_42 ⟨Nat.le_of_ble_eq_true rfl, Nat.le_of_ble_eq_true rfl⟩) hS (fun q _ h => hFc q h) hFc (fun r28 f30 t H1 locs ht hvm hw29 hB hz1 hk1 hS => ?_)
      refine tn_4 hw29 (fun hT hF31 hw29r hw29p => ?_); clear hw29
      have hR := hR.then hF31 (by decide)
      have hP := hB.1; rw [ht] at hP; have hD := tp_ad f30 hD; clear hB hFc hz1 hk1; subst ht; generalize t.heap = H at hP hS ⊢
      exact W.iret (v := r28) hx hb hr (fun t ht hW => ⟨⟨r28, f30, rfl, ⟨hT, hR, trivial, trivial⟩, by rw [ht]; exact hP, va_K.moved hW.alike hK, hD⟩, hS.F ht⟩) hS.2.2 dX11_reading_45
    · have ic19 : r17.toInt ≠ 0 := zi_eqf rfl rfl c19
      have p32 : (0) ≤ (a.toInt) ∧ (a.toInt) ≤ (5000) := (tp_cond.yes hw18p) (by omega)
      refine lv_iload hx hb dX11_reading_20 (lv_at hl 4 rfl) ?_
      refine lv_bipush (v := (-20)) hx hb dX11_reading_22 (by decide) ?_
      refine lv_bipush (v := 20) hx hb dX11_reading_24 (by decide) ?_
      refine pz_calli (va_runS (As := [.int b, .int (-20), .int 20]) (rest := []) ⟨hx, hb, hml, hown, hts⟩ (t_X11_within l dC dI _ b ((-20)) (20) (b.toInt) ((-20)) (20) rfl rfl rfl) (va_cwS 3 hts gX11_reading_X11_within rfl rfl rfl pd_X11_within ⟨Nat.le_of_ble_eq_true rfl, Nat.le_of_ble_eq_true rfl⟩) ⟨pz_blind, pz_pre pz_P0 (hK.sub (tys' := []) [] rfl) (pz_D0 (A := fun _ => True)) hN⟩ rfl rfl hl.1 rfl (lv_room (Nat.le_of_ble_eq_true rfl)) dX11_reading_26 ⟨Nat.le_of_ble_eq_true rfl, Nat.le_of_ble_eq_true rfl⟩) (fun r33 hw34 => ?_)
      obtain ⟨hw34r, hw34p⟩ := hw34
      refine lv_if_eq (tgt := 40) hx hb dX11_reading_29 (by decide) (fun c35 => ?_) (fun c35 => ?_)
      · have ic35 : r33.toInt = 0 := zi_eq rfl rfl c35
        refine lv_aload_n hx hb dX11_reading_40 rfl (lv_at hl 0 rfl) ?_
        refine lv_iconst (v := (-1)) hx hb dX11_reading_41 (by decide) ?_
        refine tgk_12 hG ht_h0 (fun y36 y37 y38 y39 y40 y41 => ?_)
        refine tpk_12 hT ht_h0 (fun o42_x6 hf_o42 => ?_)
        refine tpk_pos (tp_in hG ht_h0 (by decide)) hf_o42 (fun q43 eq43 => ?_)
        have hFc := tp_fr hD hS hA
        refine va_calli (va_runV (As := [.int (-1)]) (rest := []) ⟨hx, hb, hml, hown, hts⟩ (t_X11_refuse l dC dI _ Ω κ τ ν ρ L f hG hT h0 ((-1)) ht_h0) (cwV 1 hts gX11_reading_X11_refuse rfl rfl rfl ⟨rfl, pd_X11_refuse⟩ ⟨Nat.le_of_ble_eq_true rfl, Nat.le_of_ble_eq_true rfl⟩) ⟨pz_blind, va_recv hK hP (ci := 11) (q0 := q43) rfl eq43, pz_pre hP hK hD hN⟩ rfl rfl hl.1 rfl (lv_room (Nat.le_of_ble_eq_true rfl)) dX11_reading_42 ⟨Nat.le_of_ble_eq_true rfl, Nat.le_of_ble_eq_true rfl⟩) hS (fun q _ h => hFc q h) hFc (fun r44 f46 t H1 locs ht hvm hw45 hB hz1 hk1 hS => ?_)
        refine tn_4 hw45 (fun hT hF47 hw45r hw45p => ?_); clear hw45
        have hR := hR.then hF47 (by decide)
        have hP := hB.1; rw [ht] at hP; have hD := tp_ad f46 hD; clear hB hFc hz1 hk1; subst ht; generalize t.heap = H at hP hS ⊢
        exact W.iret (v := r44) hx hb hr (fun t ht hW => ⟨⟨r44, f46, rfl, ⟨hT, hR, trivial, trivial⟩, by rw [ht]; exact hP, va_K.moved hW.alike hK, hD⟩, hS.F ht⟩) hS.2.2 dX11_reading_45
      · have ic35 : r33.toInt ≠ 0 := zi_eqf rfl rfl c35
        have p48 : ((-20)) ≤ (b.toInt) ∧ (b.toInt) ≤ (20) := (tp_cond.yes hw34p) (by omega)
        refine lv_iload hx hb dX11_reading_32 (lv_at hl 5 rfl) ?_
        refine pz_calli (va_runS (As := [.int a5]) (rest := []) ⟨hx, hb, hml, hown, hts⟩ (t_X11_isHour l dC dI _ a5 (a5.toInt) rfl) (va_cwS 1 hts gX11_reading_X11_isHour rfl rfl rfl pd_X11_isHour ⟨Nat.le_of_ble_eq_true rfl, Nat.le_of_ble_eq_true rfl⟩) ⟨pz_blind, pz_pre pz_P0 (hK.sub (tys' := []) [] rfl) (pz_D0 (A := fun _ => True)) hN⟩ rfl rfl hl.1 rfl (lv_room (Nat.le_of_ble_eq_true rfl)) dX11_reading_34 ⟨Nat.le_of_ble_eq_true rfl, Nat.le_of_ble_eq_true rfl⟩) (fun r49 hw50 => ?_)
        obtain ⟨hw50r, hw50p⟩ := hw50
        refine lv_if_ne (tgt := 46) hx hb dX11_reading_37 (by decide) (fun c51 => ?_) (fun c51 => ?_)
        · have ic51 : r49.toInt ≠ 0 := zi_ne rfl rfl c51
          have p52 : 0 ≤ (a5.toInt) ∧ (a5.toInt) ≤ 2399 := (tp_cond.yes hw50p) (by omega)
          refine lv_aload_n hx hb dX11_reading_46 rfl (lv_at hl 0 rfl) ?_
          refine tgk_12 hG ht_h0 (fun y53 y54 y55 y56 y57 y58 => ?_)
          refine tpk_12 hT ht_h0 (fun o59_x6 hf_o59 => ?_)
          refine tpk_pos (tp_in hG ht_h0 (by decide)) hf_o59 (fun q60 eq60 => ?_)
          refine va_get (D := (dC, dI)) (ci := 11) (v := .ref (ρ h0 0)) (C := RX11) (T := TX11) (N := 7) hx hb hts hfX11 hown hK hP q60 eq60 rfl 0 (by decide) (hts (.fieldLink RX11 10 "ColdShips" "world" "LColdShips$World;") wa_15) (fun _ h9 => h9) rfl dX11_reading_47 ?_
          refine tgk_11 hG y53 (fun y61 y61n y62 y62n y63 y64 y65 y66 y67 y68 y69 y69w y69m y70 y70w y70m y71 y71w y71m y72 y72w y72m => ?_)
          refine tpk_11 hT y53 (fun o73_x0 o73_x1 o73_x2 o73_x3 o73_x4 o73_x5 o73_x6 hf_o73 ro73_0 ro73_1 ro73_2 ro73_3 => ?_)
          refine tpk_pos (tp_in hG y53 (by decide)) hf_o73 (fun q74 eq74 => ?_)
          refine va_getN (D := (dC, dI)) (ci := 10) (v := .ref (ρ (ρ h0 0) 17)) (C := RX10) (T := TX10) (N := 19) hx hb hts hfX10 hown hK hP q74 eq74 rfl 17 (by decide) (va_Nw.use rfl (hN.1 (.fieldLinkNest RX11 207 "ColdShips$World" "landings" "LColdShips$Rows;" "ColdShips") nzw_85)) (fun _ h9 => h9) rfl dX11_reading_50 ?_
          refine lv_iload_n hx hb dX11_reading_53 rfl (lv_at hl 1 rfl) ?_
          refine tgk_5 hG y71 (fun y75 y75n y76a y76b y76c => ?_)
          refine tpk_5 hT y71 (fun o77_x0 o77_x2 hf_o77 ro77_0 ro77_1 => ?_)
          refine tpk_pos (tp_in hG y71 (by decide)) hf_o77 (fun q78 eq78 => ?_)
          refine pz_calli (va_runV (As := [.int v]) (rest := []) ⟨hx, hb, hml, hown, hts⟩ (t_X4_has l dC dI _ Ω κ τ ν ρ L f hG hT (ρ (ρ h0 0) 17) v y71 o77_x0 o77_x2 hf_o77) (cwV 1 hts gX11_reading_X4_has rfl rfl rfl ⟨rfl, pd_X4_has⟩ ⟨Nat.le_of_ble_eq_true rfl, Nat.le_of_ble_eq_true rfl⟩) ⟨pz_blind, va_recv hK hP (ci := 4) (q0 := q78) rfl eq78, pz_pre hP hK hD hN⟩ rfl rfl hl.1 rfl (lv_room (Nat.le_of_ble_eq_true rfl)) dX11_reading_54 ⟨Nat.le_of_ble_eq_true rfl, Nat.le_of_ble_eq_true rfl⟩) (fun r79 hw80 => ?_)
          obtain ⟨hw80r, hw80p⟩ := hw80
          refine lv_if_ne (tgt := 67) hx hb dX11_reading_57 (by decide) (fun c81 => ?_) (fun c81 => ?_)
          · have ic81 : r79.toInt ≠ 0 := zi_ne rfl rfl c81
            have p82 : 0 ≤ v.toInt ∧ v.toInt < o77_x2.toInt := (tp_cond.yes hw80p) (by omega)
            refine lv_aload_n hx hb dX11_reading_67 rfl (lv_at hl 0 rfl) ?_
            refine va_get (D := (dC, dI)) (ci := 11) (v := .ref (ρ h0 0)) (C := RX11) (T := TX11) (N := 7) hx hb hts hfX11 hown hK hP q60 eq60 rfl 0 (by decide) (hts (.fieldLink RX11 10 "ColdShips" "world" "LColdShips$World;") wa_15) (fun _ h9 => h9) rfl dX11_reading_68 ?_
            refine va_getN (D := (dC, dI)) (ci := 10) (v := .ref (ρ (ρ h0 0) 16)) (C := RX10) (T := TX10) (N := 19) hx hb hts hfX10 hown hK hP q74 eq74 rfl 16 (by decide) (va_Nw.use rfl (hN.1 (.fieldLinkNest RX11 306 "ColdShips$World" "readings" "LColdShips$Rows;" "ColdShips") nzw_82)) (fun _ h9 => h9) rfl dX11_reading_71 ?_
            refine tgk_5 hG y70 (fun y83 y83n y84a y84b y84c => ?_)
            refine tpk_5 hT y70 (fun o85_x0 o85_x2 hf_o85 ro85_0 ro85_1 => ?_)
            refine tpk_pos (tp_in hG y70 (by decide)) hf_o85 (fun q86 eq86 => ?_)
            have hFc := tp_fr hD hS hA
            refine va_calli (va_runV (As := []) (rest := []) ⟨hx, hb, hml, hown, hts⟩ (t_X4_addRow l dC dI _ Ω κ τ ν ρ L f hG hT (ρ (ρ h0 0) 16) y70 o85_x0 o85_x2 hf_o85) (cwV 0 hts gX11_reading_X4_addRow rfl rfl rfl ⟨rfl, pd_X4_addRow⟩ ⟨Nat.le_of_ble_eq_true rfl, Nat.le_of_ble_eq_true rfl⟩) ⟨pz_blind, va_recv hK hP (ci := 4) (q0 := q86) rfl eq86, pz_pre hP hK hD hN⟩ rfl rfl hl.1 rfl (lv_room (Nat.le_of_ble_eq_true rfl)) dX11_reading_74 ⟨Nat.le_of_ble_eq_true rfl, Nat.le_of_ble_eq_true rfl⟩) hS (fun q _ h => hFc q h) hFc (fun r87 f89 t H1 locs ht hvm hw88 hB hz1 hk1 hS => ?_)
            refine tn_4 hw88 (fun hT hF90 hw88r hw88p => ?_); clear hw88
            have hR := hR.then hF90 (by decide)
            have hP := hB.1; rw [ht] at hP; have hD := tp_ad f89 hD; clear hB hFc hz1 hk1; subst ht; generalize t.heap = H at hP hS ⊢
            refine lv_istore (lv' := [(6, .int r87), (0, .ref h0), (1, .int v), (2, .int u), (3, .int a), (4, .int b), (5, .int a5)]) hx hb dX11_reading_77 hl (by decide) rfl (fun ls hl => ?_)
            refine lv_iload hx hb dX11_reading_79 (lv_at hl 0 rfl) ?_
            refine lv_iconst (v := (-1)) hx hb dX11_reading_81 (by decide) ?_
            refine lv_icmp_ne (tgt := 92) hx hb dX11_reading_82 (by decide) (fun c91 => ?_) (fun c91 => ?_)
            · have ic91 : r87.toInt ≠ (-1) := zi_ne rfl rfl c91
              refine lv_aload_n hx hb dX11_reading_92 rfl (lv_at hl 1 rfl) ?_
              have hf_92 : f89 h0 = .inr (11, [.ref (ρ h0 0), .ref (ρ h0 1), .ref (ρ h0 2), .ref (ρ h0 3), .ref (ρ h0 4), .ref (ρ h0 5), .int o59_x6]) := (hF90 _ (by rw [ht_h0]; decide)).trans hf_o59
              refine tpk_pos (tp_in hG ht_h0 (by decide)) hf_92 (fun q93 eq93 => ?_)
              refine va_get (D := (dC, dI)) (ci := 11) (v := .ref (ρ h0 0)) (C := RX11) (T := TX11) (N := 7) hx hb hts hfX11 hown hK hP q93 eq93 rfl 0 (by decide) (hts (.fieldLink RX11 10 "ColdShips" "world" "LColdShips$World;") wa_15) (fun _ h9 => h9) rfl dX11_reading_93 ?_
              have hf_94 : f89 (ρ h0 0) = .inr (10, [.int o73_x0, .int o73_x1, .int o73_x2, .int o73_x3, .int o73_x4, .int o73_x5, .int o73_x6, .ref (ρ (ρ h0 0) 7), .ref (ρ (ρ h0 0) 8), .ref (ρ (ρ h0 0) 9), .ref (ρ (ρ h0 0) 10), .ref (ρ (ρ h0 0) 11), .ref (ρ (ρ h0 0) 12), .ref (ρ (ρ h0 0) 13), .ref (ρ (ρ h0 0) 14), .ref (ρ (ρ h0 0) 15), .ref (ρ (ρ h0 0) 16), .ref (ρ (ρ h0 0) 17), .ref (ρ (ρ h0 0) 18)]) := (hF90 _ (by rw [y53]; decide)).trans hf_o73
              refine tpk_pos (tp_in hG y53 (by decide)) hf_94 (fun q95 eq95 => ?_)
              refine va_getN (D := (dC, dI)) (ci := 10) (v := .ref (ρ (ρ h0 0) 16)) (C := RX10) (T := TX10) (N := 19) hx hb hts hfX10 hown hK hP q95 eq95 rfl 16 (by decide) (va_Nw.use rfl (hN.1 (.fieldLinkNest RX11 306 "ColdShips$World" "readings" "LColdShips$Rows;" "ColdShips") nzw_82)) (fun _ h9 => h9) rfl dX11_reading_96 ?_
              refine lv_iload hx hb dX11_reading_99 (lv_at hl 0 rfl) ?_
              refine lv_iconst (v := 0) hx hb dX11_reading_101 (by decide) ?_
              refine lv_iload_n hx hb dX11_reading_102 rfl (lv_at hl 2 rfl) ?_
              refine lv_i2l hx hb dX11_reading_103 rfl ?_
              refine tpk_5 hT y70 (fun o96_x0 o96_x2 hf_o96 ro96_0 ro96_1 => ?_)
              refine tpk_pos (tp_in hG y70 (by decide)) hf_o96 (fun q97 eq97 => ?_)
              have hFc := tp_fr hD hS hA
              refine va_callv (va_runV (As := [.int r87, .int 0, .long v.toInt64]) (rest := []) ⟨hx, hb, hml, hown, hts⟩ (t_X4_set l dC dI _ Ω κ τ ν ρ L f89 hG hT (ρ (ρ h0 0) 16) r87 (0) v.toInt64 y70 o96_x0 o96_x2 hf_o96) (cwV 3 hts gX11_reading_X4_set rfl rfl rfl ⟨rfl, pd_X4_set⟩ ⟨Nat.le_of_ble_eq_true rfl, Nat.le_of_ble_eq_true rfl⟩) ⟨pz_blind, va_recv hK hP (ci := 4) (q0 := q97) rfl eq97, pz_pre hP hK hD hN⟩ rfl rfl hl.1 rfl (lv_room (Nat.le_of_ble_eq_true rfl)) dX11_reading_104 ⟨Nat.le_of_ble_eq_true rfl, Nat.le_of_ble_eq_true rfl⟩) hS (fun q _ h => hFc q h) hFc (fun f100 t H1 locs ht hvm hw99 hB hz1 hk1 hS => ?_)
              refine tn_3 hw99 (fun hT hF101 hw99p => ?_); clear hw99
              have hR := hR.then hF101 (by decide)
              have hP := hB.1; rw [ht] at hP; have hD := tp_ad f100 hD; clear hB hFc hz1 hk1; subst ht; generalize t.heap = H at hP hS ⊢
              refine lv_aload_n hx hb dX11_reading_107 rfl (lv_at hl 1 rfl) ?_
              have hf_102 : f100 h0 = .inr (11, [.ref (ρ h0 0), .ref (ρ h0 1), .ref (ρ h0 2), .ref (ρ h0 3), .ref (ρ h0 4), .ref (ρ h0 5), .int o59_x6]) := (hF101 _ (by rw [ht_h0]; decide)).trans hf_92
              refine tpk_pos (tp_in hG ht_h0 (by decide)) hf_102 (fun q103 eq103 => ?_)
              refine va_get (D := (dC, dI)) (ci := 11) (v := .ref (ρ h0 0)) (C := RX11) (T := TX11) (N := 7) hx hb hts hfX11 hown hK hP q103 eq103 rfl 0 (by decide) (hts (.fieldLink RX11 10 "ColdShips" "world" "LColdShips$World;") wa_15) (fun _ h9 => h9) rfl dX11_reading_108 ?_
              have hf_104 : f100 (ρ h0 0) = .inr (10, [.int o73_x0, .int o73_x1, .int o73_x2, .int o73_x3, .int o73_x4, .int o73_x5, .int o73_x6, .ref (ρ (ρ h0 0) 7), .ref (ρ (ρ h0 0) 8), .ref (ρ (ρ h0 0) 9), .ref (ρ (ρ h0 0) 10), .ref (ρ (ρ h0 0) 11), .ref (ρ (ρ h0 0) 12), .ref (ρ (ρ h0 0) 13), .ref (ρ (ρ h0 0) 14), .ref (ρ (ρ h0 0) 15), .ref (ρ (ρ h0 0) 16), .ref (ρ (ρ h0 0) 17), .ref (ρ (ρ h0 0) 18)]) := (hF101 _ (by rw [y53]; decide)).trans hf_94
              refine tpk_pos (tp_in hG y53 (by decide)) hf_104 (fun q105 eq105 => ?_)
              refine va_getN (D := (dC, dI)) (ci := 10) (v := .ref (ρ (ρ h0 0) 16)) (C := RX10) (T := TX10) (N := 19) hx hb hts hfX10 hown hK hP q105 eq105 rfl 16 (by decide) (va_Nw.use rfl (hN.1 (.fieldLinkNest RX11 306 "ColdShips$World" "readings" "LColdShips$Rows;" "ColdShips") nzw_82)) (fun _ h9 => h9) rfl dX11_reading_111 ?_
              refine lv_iload hx hb dX11_reading_114 (lv_at hl 0 rfl) ?_
              refine lv_iconst (v := 1) hx hb dX11_reading_116 (by decide) ?_
              refine lv_iload_n hx hb dX11_reading_117 rfl (lv_at hl 3 rfl) ?_
              refine lv_i2l hx hb dX11_reading_118 rfl ?_
              have hf_106 : f100 (ρ (ρ h0 0) 16) = .inr (4, [.int o96_x0, .ref (ρ (ρ (ρ h0 0) 16) 1), .int o96_x2]) := (hF101 _ (by rw [y70]; decide)).trans hf_o96
              refine tpk_pos (tp_in hG y70 (by decide)) hf_106 (fun q107 eq107 => ?_)
              have hFc := tp_fr hD hS hA
              refine va_callv (va_runV (As := [.int r87, .int 1, .long u.toInt64]) (rest := []) ⟨hx, hb, hml, hown, hts⟩ (t_X4_set l dC dI _ Ω κ τ ν ρ L f100 hG hT (ρ (ρ h0 0) 16) r87 (1) u.toInt64 y70 o96_x0 o96_x2 hf_106) (cwV 3 hts gX11_reading_X4_set rfl rfl rfl ⟨rfl, pd_X4_set⟩ ⟨Nat.le_of_ble_eq_true rfl, Nat.le_of_ble_eq_true rfl⟩) ⟨pz_blind, va_recv hK hP (ci := 4) (q0 := q107) rfl eq107, pz_pre hP hK hD hN⟩ rfl rfl hl.1 rfl (lv_room (Nat.le_of_ble_eq_true rfl)) dX11_reading_119 ⟨Nat.le_of_ble_eq_true rfl, Nat.le_of_ble_eq_true rfl⟩) hS (fun q _ h => hFc q h) hFc (fun f110 t H1 locs ht hvm hw109 hB hz1 hk1 hS => ?_)
              refine tn_3 hw109 (fun hT hF111 hw109p => ?_); clear hw109
              have hR := hR.then hF111 (by decide)
              have hP := hB.1; rw [ht] at hP; have hD := tp_ad f110 hD; clear hB hFc hz1 hk1; subst ht; generalize t.heap = H at hP hS ⊢
              refine lv_aload_n hx hb dX11_reading_122 rfl (lv_at hl 1 rfl) ?_
              have hf_112 : f110 h0 = .inr (11, [.ref (ρ h0 0), .ref (ρ h0 1), .ref (ρ h0 2), .ref (ρ h0 3), .ref (ρ h0 4), .ref (ρ h0 5), .int o59_x6]) := (hF111 _ (by rw [ht_h0]; decide)).trans hf_102
              refine tpk_pos (tp_in hG ht_h0 (by decide)) hf_112 (fun q113 eq113 => ?_)
              refine va_get (D := (dC, dI)) (ci := 11) (v := .ref (ρ h0 0)) (C := RX11) (T := TX11) (N := 7) hx hb hts hfX11 hown hK hP q113 eq113 rfl 0 (by decide) (hts (.fieldLink RX11 10 "ColdShips" "world" "LColdShips$World;") wa_15) (fun _ h9 => h9) rfl dX11_reading_123 ?_
              have hf_114 : f110 (ρ h0 0) = .inr (10, [.int o73_x0, .int o73_x1, .int o73_x2, .int o73_x3, .int o73_x4, .int o73_x5, .int o73_x6, .ref (ρ (ρ h0 0) 7), .ref (ρ (ρ h0 0) 8), .ref (ρ (ρ h0 0) 9), .ref (ρ (ρ h0 0) 10), .ref (ρ (ρ h0 0) 11), .ref (ρ (ρ h0 0) 12), .ref (ρ (ρ h0 0) 13), .ref (ρ (ρ h0 0) 14), .ref (ρ (ρ h0 0) 15), .ref (ρ (ρ h0 0) 16), .ref (ρ (ρ h0 0) 17), .ref (ρ (ρ h0 0) 18)]) := (hF111 _ (by rw [y53]; decide)).trans hf_104
              refine tpk_pos (tp_in hG y53 (by decide)) hf_114 (fun q115 eq115 => ?_)
              refine va_getN (D := (dC, dI)) (ci := 10) (v := .ref (ρ (ρ h0 0) 16)) (C := RX10) (T := TX10) (N := 19) hx hb hts hfX10 hown hK hP q115 eq115 rfl 16 (by decide) (va_Nw.use rfl (hN.1 (.fieldLinkNest RX11 306 "ColdShips$World" "readings" "LColdShips$Rows;" "ColdShips") nzw_82)) (fun _ h9 => h9) rfl dX11_reading_126 ?_
              refine lv_iload hx hb dX11_reading_129 (lv_at hl 0 rfl) ?_
              refine lv_iconst (v := 2) hx hb dX11_reading_131 (by decide) ?_
              refine lv_iload_n hx hb dX11_reading_132 rfl (lv_at hl 4 rfl) ?_
              refine lv_i2l hx hb dX11_reading_133 rfl ?_
              have hf_116 : f110 (ρ (ρ h0 0) 16) = .inr (4, [.int o96_x0, .ref (ρ (ρ (ρ h0 0) 16) 1), .int o96_x2]) := (hF111 _ (by rw [y70]; decide)).trans hf_106
              refine tpk_pos (tp_in hG y70 (by decide)) hf_116 (fun q117 eq117 => ?_)
              have hFc := tp_fr hD hS hA
              refine va_callv (va_runV (As := [.int r87, .int 2, .long a.toInt64]) (rest := []) ⟨hx, hb, hml, hown, hts⟩ (t_X4_set l dC dI _ Ω κ τ ν ρ L f110 hG hT (ρ (ρ h0 0) 16) r87 (2) a.toInt64 y70 o96_x0 o96_x2 hf_116) (cwV 3 hts gX11_reading_X4_set rfl rfl rfl ⟨rfl, pd_X4_set⟩ ⟨Nat.le_of_ble_eq_true rfl, Nat.le_of_ble_eq_true rfl⟩) ⟨pz_blind, va_recv hK hP (ci := 4) (q0 := q117) rfl eq117, pz_pre hP hK hD hN⟩ rfl rfl hl.1 rfl (lv_room (Nat.le_of_ble_eq_true rfl)) dX11_reading_134 ⟨Nat.le_of_ble_eq_true rfl, Nat.le_of_ble_eq_true rfl⟩) hS (fun q _ h => hFc q h) hFc (fun f120 t H1 locs ht hvm hw119 hB hz1 hk1 hS => ?_)
              refine tn_3 hw119 (fun hT hF121 hw119p => ?_); clear hw119
              have hR := hR.then hF121 (by decide)
              have hP := hB.1; rw [ht] at hP; have hD := tp_ad f120 hD; clear hB hFc hz1 hk1; subst ht; generalize t.heap = H at hP hS ⊢
              refine lv_aload_n hx hb dX11_reading_137 rfl (lv_at hl 1 rfl) ?_
              have hf_122 : f120 h0 = .inr (11, [.ref (ρ h0 0), .ref (ρ h0 1), .ref (ρ h0 2), .ref (ρ h0 3), .ref (ρ h0 4), .ref (ρ h0 5), .int o59_x6]) := (hF121 _ (by rw [ht_h0]; decide)).trans hf_112
              refine tpk_pos (tp_in hG ht_h0 (by decide)) hf_122 (fun q123 eq123 => ?_)
              refine va_get (D := (dC, dI)) (ci := 11) (v := .ref (ρ h0 0)) (C := RX11) (T := TX11) (N := 7) hx hb hts hfX11 hown hK hP q123 eq123 rfl 0 (by decide) (hts (.fieldLink RX11 10 "ColdShips" "world" "LColdShips$World;") wa_15) (fun _ h9 => h9) rfl dX11_reading_138 ?_
              have hf_124 : f120 (ρ h0 0) = .inr (10, [.int o73_x0, .int o73_x1, .int o73_x2, .int o73_x3, .int o73_x4, .int o73_x5, .int o73_x6, .ref (ρ (ρ h0 0) 7), .ref (ρ (ρ h0 0) 8), .ref (ρ (ρ h0 0) 9), .ref (ρ (ρ h0 0) 10), .ref (ρ (ρ h0 0) 11), .ref (ρ (ρ h0 0) 12), .ref (ρ (ρ h0 0) 13), .ref (ρ (ρ h0 0) 14), .ref (ρ (ρ h0 0) 15), .ref (ρ (ρ h0 0) 16), .ref (ρ (ρ h0 0) 17), .ref (ρ (ρ h0 0) 18)]) := (hF121 _ (by rw [y53]; decide)).trans hf_114
              refine tpk_pos (tp_in hG y53 (by decide)) hf_124 (fun q125 eq125 => ?_)
              refine va_getN (D := (dC, dI)) (ci := 10) (v := .ref (ρ (ρ h0 0) 16)) (C := RX10) (T := TX10) (N := 19) hx hb hts hfX10 hown hK hP q125 eq125 rfl 16 (by decide) (va_Nw.use rfl (hN.1 (.fieldLinkNest RX11 306 "ColdShips$World" "readings" "LColdShips$Rows;" "ColdShips") nzw_82)) (fun _ h9 => h9) rfl dX11_reading_141 ?_
              refine lv_iload hx hb dX11_reading_144 (lv_at hl 0 rfl) ?_
              refine lv_iconst (v := 3) hx hb dX11_reading_146 (by decide) ?_
              refine lv_iload hx hb dX11_reading_147 (lv_at hl 5 rfl) ?_
              refine lv_i2l hx hb dX11_reading_149 rfl ?_
              have hf_126 : f120 (ρ (ρ h0 0) 16) = .inr (4, [.int o96_x0, .ref (ρ (ρ (ρ h0 0) 16) 1), .int o96_x2]) := (hF121 _ (by rw [y70]; decide)).trans hf_116
              refine tpk_pos (tp_in hG y70 (by decide)) hf_126 (fun q127 eq127 => ?_)
              have hFc := tp_fr hD hS hA
              refine va_callv (va_runV (As := [.int r87, .int 3, .long b.toInt64]) (rest := []) ⟨hx, hb, hml, hown, hts⟩ (t_X4_set l dC dI _ Ω κ τ ν ρ L f120 hG hT (ρ (ρ h0 0) 16) r87 (3) b.toInt64 y70 o96_x0 o96_x2 hf_126) (cwV 3 hts gX11_reading_X4_set rfl rfl rfl ⟨rfl, pd_X4_set⟩ ⟨Nat.le_of_ble_eq_true rfl, Nat.le_of_ble_eq_true rfl⟩) ⟨pz_blind, va_recv hK hP (ci := 4) (q0 := q127) rfl eq127, pz_pre hP hK hD hN⟩ rfl rfl hl.1 rfl (lv_room (Nat.le_of_ble_eq_true rfl)) dX11_reading_150 ⟨Nat.le_of_ble_eq_true rfl, Nat.le_of_ble_eq_true rfl⟩) hS (fun q _ h => hFc q h) hFc (fun f130 t H1 locs ht hvm hw129 hB hz1 hk1 hS => ?_)
              refine tn_3 hw129 (fun hT hF131 hw129p => ?_); clear hw129
              have hR := hR.then hF131 (by decide)
              have hP := hB.1; rw [ht] at hP; have hD := tp_ad f130 hD; clear hB hFc hz1 hk1; subst ht; generalize t.heap = H at hP hS ⊢
              refine lv_aload_n hx hb dX11_reading_153 rfl (lv_at hl 1 rfl) ?_
              have hf_132 : f130 h0 = .inr (11, [.ref (ρ h0 0), .ref (ρ h0 1), .ref (ρ h0 2), .ref (ρ h0 3), .ref (ρ h0 4), .ref (ρ h0 5), .int o59_x6]) := (hF131 _ (by rw [ht_h0]; decide)).trans hf_122
              refine tpk_pos (tp_in hG ht_h0 (by decide)) hf_132 (fun q133 eq133 => ?_)
              refine va_get (D := (dC, dI)) (ci := 11) (v := .ref (ρ h0 0)) (C := RX11) (T := TX11) (N := 7) hx hb hts hfX11 hown hK hP q133 eq133 rfl 0 (by decide) (hts (.fieldLink RX11 10 "ColdShips" "world" "LColdShips$World;") wa_15) (fun _ h9 => h9) rfl dX11_reading_154 ?_
              have hf_134 : f130 (ρ h0 0) = .inr (10, [.int o73_x0, .int o73_x1, .int o73_x2, .int o73_x3, .int o73_x4, .int o73_x5, .int o73_x6, .ref (ρ (ρ h0 0) 7), .ref (ρ (ρ h0 0) 8), .ref (ρ (ρ h0 0) 9), .ref (ρ (ρ h0 0) 10), .ref (ρ (ρ h0 0) 11), .ref (ρ (ρ h0 0) 12), .ref (ρ (ρ h0 0) 13), .ref (ρ (ρ h0 0) 14), .ref (ρ (ρ h0 0) 15), .ref (ρ (ρ h0 0) 16), .ref (ρ (ρ h0 0) 17), .ref (ρ (ρ h0 0) 18)]) := (hF131 _ (by rw [y53]; decide)).trans hf_124
              refine tpk_pos (tp_in hG y53 (by decide)) hf_134 (fun q135 eq135 => ?_)
              refine va_getN (D := (dC, dI)) (ci := 10) (v := .ref (ρ (ρ h0 0) 16)) (C := RX10) (T := TX10) (N := 19) hx hb hts hfX10 hown hK hP q135 eq135 rfl 16 (by decide) (va_Nw.use rfl (hN.1 (.fieldLinkNest RX11 306 "ColdShips$World" "readings" "LColdShips$Rows;" "ColdShips") nzw_82)) (fun _ h9 => h9) rfl dX11_reading_157 ?_
              refine lv_iload hx hb dX11_reading_160 (lv_at hl 0 rfl) ?_
              refine lv_iconst (v := 4) hx hb dX11_reading_162 (by decide) ?_
              refine lv_iload hx hb dX11_reading_163 (lv_at hl 6 rfl) ?_
              refine lv_i2l hx hb dX11_reading_165 rfl ?_
              have hf_136 : f130 (ρ (ρ h0 0) 16) = .inr (4, [.int o96_x0, .ref (ρ (ρ (ρ h0 0) 16) 1), .int o96_x2]) := (hF131 _ (by rw [y70]; decide)).trans hf_126
              refine tpk_pos (tp_in hG y70 (by decide)) hf_136 (fun q137 eq137 => ?_)
              have hFc := tp_fr hD hS hA
              refine va_callv (va_runV (As := [.int r87, .int 4, .long a5.toInt64]) (rest := []) ⟨hx, hb, hml, hown, hts⟩ (t_X4_set l dC dI _ Ω κ τ ν ρ L f130 hG hT (ρ (ρ h0 0) 16) r87 (4) a5.toInt64 y70 o96_x0 o96_x2 hf_136) (cwV 3 hts gX11_reading_X4_set rfl rfl rfl ⟨rfl, pd_X4_set⟩ ⟨Nat.le_of_ble_eq_true rfl, Nat.le_of_ble_eq_true rfl⟩) ⟨pz_blind, va_recv hK hP (ci := 4) (q0 := q137) rfl eq137, pz_pre hP hK hD hN⟩ rfl rfl hl.1 rfl (lv_room (Nat.le_of_ble_eq_true rfl)) dX11_reading_166 ⟨Nat.le_of_ble_eq_true rfl, Nat.le_of_ble_eq_true rfl⟩) hS (fun q _ h => hFc q h) hFc (fun f140 t H1 locs ht hvm hw139 hB hz1 hk1 hS => ?_)
              refine tn_3 hw139 (fun hT hF141 hw139p => ?_); clear hw139
              have hR := hR.then hF141 (by decide)
              have hP := hB.1; rw [ht] at hP; have hD := tp_ad f140 hD; clear hB hFc hz1 hk1; subst ht; generalize t.heap = H at hP hS ⊢
              refine lv_aload_n hx hb dX11_reading_169 rfl (lv_at hl 1 rfl) ?_
              refine lv_aload_n hx hb dX11_reading_170 rfl (lv_at hl 1 rfl) ?_
              have hf_142 : f140 h0 = .inr (11, [.ref (ρ h0 0), .ref (ρ h0 1), .ref (ρ h0 2), .ref (ρ h0 3), .ref (ρ h0 4), .ref (ρ h0 5), .int o59_x6]) := (hF141 _ (by rw [ht_h0]; decide)).trans hf_132
              refine tpk_pos (tp_in hG ht_h0 (by decide)) hf_142 (fun q143 eq143 => ?_)
              refine va_get (D := (dC, dI)) (ci := 11) (v := .ref (ρ h0 0)) (C := RX11) (T := TX11) (N := 7) hx hb hts hfX11 hown hK hP q143 eq143 rfl 0 (by decide) (hts (.fieldLink RX11 10 "ColdShips" "world" "LColdShips$World;") wa_15) (fun _ h9 => h9) rfl dX11_reading_171 ?_
              have hf_144 : f140 (ρ h0 0) = .inr (10, [.int o73_x0, .int o73_x1, .int o73_x2, .int o73_x3, .int o73_x4, .int o73_x5, .int o73_x6, .ref (ρ (ρ h0 0) 7), .ref (ρ (ρ h0 0) 8), .ref (ρ (ρ h0 0) 9), .ref (ρ (ρ h0 0) 10), .ref (ρ (ρ h0 0) 11), .ref (ρ (ρ h0 0) 12), .ref (ρ (ρ h0 0) 13), .ref (ρ (ρ h0 0) 14), .ref (ρ (ρ h0 0) 15), .ref (ρ (ρ h0 0) 16), .ref (ρ (ρ h0 0) 17), .ref (ρ (ρ h0 0) 18)]) := (hF141 _ (by rw [y53]; decide)).trans hf_134
              refine tpk_pos (tp_in hG y53 (by decide)) hf_144 (fun q145 eq145 => ?_)
              refine va_getN (D := (dC, dI)) (ci := 10) (v := .ref (ρ (ρ h0 0) 16)) (C := RX10) (T := TX10) (N := 19) hx hb hts hfX10 hown hK hP q145 eq145 rfl 16 (by decide) (va_Nw.use rfl (hN.1 (.fieldLinkNest RX11 306 "ColdShips$World" "readings" "LColdShips$Rows;" "ColdShips") nzw_82)) (fun _ h9 => h9) rfl dX11_reading_174 ?_
              have hf_146 : f140 (ρ (ρ h0 0) 16) = .inr (4, [.int o96_x0, .ref (ρ (ρ (ρ h0 0) 16) 1), .int o96_x2]) := (hF141 _ (by rw [y70]; decide)).trans hf_136
              refine tpk_pos (tp_in hG y70 (by decide)) hf_146 (fun q147 eq147 => ?_)
              refine va_getN (D := (dC, dI)) (ci := 4) (v := .int o96_x2) (C := RX4) (T := TX4) (N := 3) hx hb hts hfX4 hown hK hP q147 eq147 rfl 2 (by decide) (va_Nw.use rfl (hN.1 (.fieldLinkNest RX11 242 "ColdShips$Rows" "size" "I" "ColdShips") nzw_4)) (fun _ h9 => h9) rfl dX11_reading_177 ?_
              have hFc := tp_fr hD hS hA
              refine va_calli (va_runV (As := [.int o96_x2]) (rest := []) ⟨hx, hb, hml, hown, hts⟩ (t_X11_accept l dC dI _ Ω κ τ ν ρ L f140 hG hT h0 o96_x2 ht_h0) (cwV 1 hts gX11_reading_X11_accept rfl rfl rfl ⟨rfl, pd_X11_accept⟩ ⟨Nat.le_of_ble_eq_true rfl, Nat.le_of_ble_eq_true rfl⟩) ⟨pz_blind, va_recv hK hP (ci := 11) (q0 := q143) rfl eq143, pz_pre hP hK hD hN⟩ rfl rfl hl.1 rfl (lv_room (Nat.le_of_ble_eq_true rfl)) dX11_reading_180 ⟨Nat.le_of_ble_eq_true rfl, Nat.le_of_ble_eq_true rfl⟩) hS (fun q _ h => hFc q h) hFc (fun r148 f150 t H1 locs ht hvm hw149 hB hz1 hk1 hS => ?_)
              refine tn_4 hw149 (fun hT hF151 hw149r hw149p => ?_); clear hw149
              have hR := hR.then hF151 (by decide)
              have hP := hB.1; rw [ht] at hP; have hD := tp_ad f150 hD; clear hB hFc hz1 hk1; subst ht; generalize t.heap = H at hP hS ⊢
              exact W.iret (v := r148) hx hb hr (fun t ht hW => ⟨⟨r148, f150, rfl, ⟨hT, hR, trivial, trivial⟩, by rw [ht]; exact hP, va_K.moved hW.alike hK, hD⟩, hS.F ht⟩) hS.2.2 dX11_reading_183
            · have ic91 : r87.toInt = (-1) := zi_nef rfl rfl c91
              refine lv_aload_n hx hb dX11_reading_85 rfl (lv_at hl 1 rfl) ?_
              refine lv_bipush (v := (-5)) hx hb dX11_reading_86 (by decide) ?_
              have hf_152 : f89 h0 = .inr (11, [.ref (ρ h0 0), .ref (ρ h0 1), .ref (ρ h0 2), .ref (ρ h0 3), .ref (ρ h0 4), .ref (ρ h0 5), .int o59_x6]) := (hF90 _ (by rw [ht_h0]; decide)).trans hf_o59
              refine tpk_pos (tp_in hG ht_h0 (by decide)) hf_152 (fun q153 eq153 => ?_)
              have hFc := tp_fr hD hS hA
              refine va_calli (va_runV (As := [.int (-5)]) (rest := []) ⟨hx, hb, hml, hown, hts⟩ (t_X11_refuse l dC dI _ Ω κ τ ν ρ L f89 hG hT h0 ((-5)) ht_h0) (cwV 1 hts gX11_reading_X11_refuse rfl rfl rfl ⟨rfl, pd_X11_refuse⟩ ⟨Nat.le_of_ble_eq_true rfl, Nat.le_of_ble_eq_true rfl⟩) ⟨pz_blind, va_recv hK hP (ci := 11) (q0 := q153) rfl eq153, pz_pre hP hK hD hN⟩ rfl rfl hl.1 rfl (lv_room (Nat.le_of_ble_eq_true rfl)) dX11_reading_88 ⟨Nat.le_of_ble_eq_true rfl, Nat.le_of_ble_eq_true rfl⟩) hS (fun q _ h => hFc q h) hFc (fun r154 f156 t H1 locs ht hvm hw155 hB hz1 hk1 hS => ?_)
              refine tn_4 hw155 (fun hT hF157 hw155r hw155p => ?_); clear hw155
              have hR := hR.then hF157 (by decide)
              have hP := hB.1; rw [ht] at hP; have hD := tp_ad f156 hD; clear hB hFc hz1 hk1; subst ht; generalize t.heap = H at hP hS ⊢
              exact W.iret (v := r154) hx hb hr (fun t ht hW => ⟨⟨r154, f156, rfl, ⟨hT, hR, trivial, trivial⟩, by rw [ht]; exact hP, va_K.moved hW.alike hK, hD⟩, hS.F ht⟩) hS.2.2 dX11_reading_91
          · have ic81 : r79.toInt = 0 := zi_nef rfl rfl c81
            refine lv_aload_n hx hb dX11_reading_60 rfl (lv_at hl 0 rfl) ?_
            refine lv_bipush (v := (-2)) hx hb dX11_reading_61 (by decide) ?_
            have hFc := tp_fr hD hS hA
            refine va_calli (va_runV (As := [.int (-2)]) (rest := []) ⟨hx, hb, hml, hown, hts⟩ (t_X11_refuse l dC dI _ Ω κ τ ν ρ L f hG hT h0 ((-2)) ht_h0) (cwV 1 hts gX11_reading_X11_refuse rfl rfl rfl ⟨rfl, pd_X11_refuse⟩ ⟨Nat.le_of_ble_eq_true rfl, Nat.le_of_ble_eq_true rfl⟩) ⟨pz_blind, va_recv hK hP (ci := 11) (q0 := q60) rfl eq60, pz_pre hP hK hD hN⟩ rfl rfl hl.1 rfl (lv_room (Nat.le_of_ble_eq_true rfl)) dX11_reading_63 ⟨Nat.le_of_ble_eq_true rfl, Nat.le_of_ble_eq_true rfl⟩) hS (fun q _ h => hFc q h) hFc (fun r158 f160 t H1 locs ht hvm hw159 hB hz1 hk1 hS => ?_)
            refine tn_4 hw159 (fun hT hF161 hw159r hw159p => ?_); clear hw159
            have hR := hR.then hF161 (by decide)
            have hP := hB.1; rw [ht] at hP; have hD := tp_ad f160 hD; clear hB hFc hz1 hk1; subst ht; generalize t.heap = H at hP hS ⊢
            exact W.iret (v := r158) hx hb hr (fun t ht hW => ⟨⟨r158, f160, rfl, ⟨hT, hR, trivial, trivial⟩, by rw [ht]; exact hP, va_K.moved hW.alike hK, hD⟩, hS.F ht⟩) hS.2.2 dX11_reading_66
        · have ic51 : r49.toInt = 0 := zi_nef rfl rfl c51
          refine lv_aload_n hx hb dX11_reading_40 rfl (lv_at hl 0 rfl) ?_
          refine lv_iconst (v := (-1)) hx hb dX11_reading_41 (by decide) ?_
          refine tgk_12 hG ht_h0 (fun y162 y163 y164 y165 y166 y167 => ?_)
          refine tpk_12 hT ht_h0 (fun o168_x6 hf_o168 => ?_)
          refine tpk_pos (tp_in hG ht_h0 (by decide)) hf_o168 (fun q169 eq169 => ?_)
          have hFc := tp_fr hD hS hA
          refine va_calli (va_runV (As := [.int (-1)]) (rest := []) ⟨hx, hb, hml, hown, hts⟩ (t_X11_refuse l dC dI _ Ω κ τ ν ρ L f hG hT h0 ((-1)) ht_h0) (cwV 1 hts gX11_reading_X11_refuse rfl rfl rfl ⟨rfl, pd_X11_refuse⟩ ⟨Nat.le_of_ble_eq_true rfl, Nat.le_of_ble_eq_true rfl⟩) ⟨pz_blind, va_recv hK hP (ci := 11) (q0 := q169) rfl eq169, pz_pre hP hK hD hN⟩ rfl rfl hl.1 rfl (lv_room (Nat.le_of_ble_eq_true rfl)) dX11_reading_42 ⟨Nat.le_of_ble_eq_true rfl, Nat.le_of_ble_eq_true rfl⟩) hS (fun q _ h => hFc q h) hFc (fun r170 f172 t H1 locs ht hvm hw171 hB hz1 hk1 hS => ?_)
          refine tn_4 hw171 (fun hT hF173 hw171r hw171p => ?_); clear hw171
          have hR := hR.then hF173 (by decide)
          have hP := hB.1; rw [ht] at hP; have hD := tp_ad f172 hD; clear hB hFc hz1 hk1; subst ht; generalize t.heap = H at hP hS ⊢
          exact W.iret (v := r170) hx hb hr (fun t ht hW => ⟨⟨r170, f172, rfl, ⟨hT, hR, trivial, trivial⟩, by rw [ht]; exact hP, va_K.moved hW.alike hK, hD⟩, hS.F ht⟩) hS.2.2 dX11_reading_45
set_option maxHeartbeats 4000000 in
set_option maxRecDepth 100000 in
theorem t_X11_gauged (l : Launch) (dC : Nat → ClassId) (dI : Nat → Nat → Nat) (sz : Nat) (Ω : Nat → (Nat → Nat) → va_E → Prop) (κ : Nat → ClassId) (τ ν : Nat → Nat) (ρ : Nat → Nat → Nat) (L : List Nat) (f : Nat → va_E) (hG : tp_G τ ν ρ L) (hT : tp_T Ω κ τ ν ρ f) (h0 : Nat) (v : Int32) (u : Int32) (a : Int32) (ht_h0 : τ h0 = 12) : Met l yX11_gauged wqX11_gauged ({ frames := 7, cells := 0, slots := 0, locals := 2400 }) (va_Pc [.ref h0, .int v, .int u, .int a] (pz_B dC dI (tp_K κ) (va_pl L f) sz)) (va_Ql (fun (r : Int64) (f1 : Nat → va_E) => tp_T Ω κ τ ν ρ f1 ∧ tp_F τ [2, 3, 4, 5, 6, 7, 8, 9, 10, 11, 12, 20, 21, 22, 26, 27, 28] f f1 ∧ True ∧ True) (fun (f1 : Nat → va_E) (t : State) => pz_E dC dI (tp_K κ) (va_A (va_pl L f) sz) (va_pl L f1) t) (va_A (va_pl L f) sz)) 0 0 (va_A (va_pl L f) sz) := by
  refine Met.ofW (cc := cX11_gauged) (maxL := 4) (ret := some .long) (by decide) rfl ?_
  intro p e s m args below meth c s₁ B hml hv
  obtain ⟨rfl, hsz, hP, hK, hD0, hN⟩ := hv
  have hx := B.exec
  have hb := B.bytes
  have hr := B.returns
  have hts := fun (w : Cond) (h : w ∈ WALL) => atoms_spec (ws := wqX11_gauged) B.pre w (List.mem_cons_of_mem _ h)
  have hown : s.vm.findClass RX11 = some m.cls := findClass_of_methodNamed B.named
  have hlocks := B.notSynchronized
  subst hsz
  have hD := hD0.self (sz := s.heap.size)
  generalize hAe : va_A (va_pl L f) s.heap.size = A at hD ⊢
  have hA : ∀ q : Nat, s.heap.size ≤ q → A q := fun q h => by rw [← hAe]; exact Or.inr h
  have hS : va_S A s.heap s.heap [] := va_S.rf
  have hR : tp_F τ [2, 3, 4, 5, 6, 7, 8, 9, 10, 11, 12, 20, 21, 22, 26, 27, 28] f f := tp_F.rf
  have hl := lv_entry ([.ref h0, .int v, .int u, .int a]) (n := 4) (Nat.le_of_ble_eq_true rfl)
  rw [lg_entry_eq]
  generalize (lg_sl ([.ref h0, .int v, .int u, .int a]) ++ List.replicate (4 - (lg_sl ([.ref h0, .int v, .int u, .int a])).length) Slot.unset).toArray = ls at hl ⊢
  have hl : lv_has ls 4 [(0, .ref h0), (1, .int v), (2, .int u), (3, .int a)] := hl
  refine lv_aload_n hx hb dX11_gauged_0 rfl (lv_at hl 0 rfl) ?_
  refine tgk_12 hG ht_h0 (fun y1 y2 y3 y4 y5 y6 => ?_)
  refine tpk_12 hT ht_h0 (fun o7_x6 hf_o7 => ?_)
  refine tpk_pos (tp_in hG ht_h0 (by decide)) hf_o7 (fun q8 eq8 => ?_)
  refine va_get (D := (dC, dI)) (ci := 11) (v := .ref (ρ h0 0)) (C := RX11) (T := TX11) (N := 7) hx hb hts hfX11 hown hK hP q8 eq8 rfl 0 (by decide) (hts (.fieldLink RX11 10 "ColdShips" "world" "LColdShips$World;") wa_15) (fun _ h9 => h9) rfl dX11_gauged_1 ?_
  refine tgk_11 hG y1 (fun y9 y9n y10 y10n y11 y12 y13 y14 y15 y16 y17 y17w y17m y18 y18w y18m y19 y19w y19m y20 y20w y20m => ?_)
  refine tpk_11 hT y1 (fun o21_x0 o21_x1 o21_x2 o21_x3 o21_x4 o21_x5 o21_x6 hf_o21 ro21_0 ro21_1 ro21_2 ro21_3 => ?_)
  refine tpk_pos (tp_in hG y1 (by decide)) hf_o21 (fun q22 eq22 => ?_)
  refine va_getN (D := (dC, dI)) (ci := 10) (v := .ref (ρ (ρ h0 0) 17)) (C := RX10) (T := TX10) (N := 19) hx hb hts hfX10 hown hK hP q22 eq22 rfl 17 (by decide) (va_Nw.use rfl (hN.1 (.fieldLinkNest RX11 207 "ColdShips$World" "landings" "LColdShips$Rows;" "ColdShips") nzw_85)) (fun _ h9 => h9) rfl dX11_gauged_4 ?_
  refine lv_iload_n hx hb dX11_gauged_7 rfl (lv_at hl 1 rfl) ?_
  refine tgk_5 hG y19 (fun y23 y23n y24a y24b y24c => ?_)
  refine tpk_5 hT y19 (fun o25_x0 o25_x2 hf_o25 ro25_0 ro25_1 => ?_)
  refine tpk_pos (tp_in hG y19 (by decide)) hf_o25 (fun q26 eq26 => ?_)
  refine pz_calli (va_runV (As := [.int v]) (rest := []) ⟨hx, hb, hml, hown, hts⟩ (t_X4_has l dC dI _ Ω κ τ ν ρ L f hG hT (ρ (ρ h0 0) 17) v y19 o25_x0 o25_x2 hf_o25) (cwV 1 hts gX11_gauged_X4_has rfl rfl rfl ⟨rfl, pd_X4_has⟩ ⟨Nat.le_of_ble_eq_true rfl, Nat.le_of_ble_eq_true rfl⟩) ⟨pz_blind, va_recv hK hP (ci := 4) (q0 := q26) rfl eq26, pz_pre hP hK hD hN⟩ rfl rfl hl.1 rfl (lv_room (Nat.le_of_ble_eq_true rfl)) dX11_gauged_8 ⟨Nat.le_of_ble_eq_true rfl, Nat.le_of_ble_eq_true rfl⟩) (fun r27 hw28 => ?_)
  obtain ⟨hw28r, hw28p⟩ := hw28
  refine lv_if_eq (tgt := 21) hx hb dX11_gauged_11 (by decide) (fun c29 => ?_) (fun c29 => ?_)
  · have ic29 : r27.toInt = 0 := zi_eq rfl rfl c29
    refine lv_ldc2 (own := RX11) (v := (-2000000000000000)) hx hb hown (hts (.constantLong RX11 281 (-2000000000000000)) wa_1124) dX11_gauged_21 ?_
    exact W.lret (v := (-2000000000000000)) hx hb hr (fun t ht hW => ⟨⟨(-2000000000000000), f, rfl, ⟨hT, hR, trivial, trivial⟩, by rw [ht]; exact hP, va_K.moved hW.alike hK, hD⟩, hS.F ht⟩) hS.2.2 dX11_gauged_24
  · have ic29 : r27.toInt ≠ 0 := zi_eqf rfl rfl c29
    have p30 : 0 ≤ v.toInt ∧ v.toInt < o25_x2.toInt := (tp_cond.yes hw28p) (by omega)
    refine lv_iload_n hx hb dX11_gauged_14 rfl (lv_at hl 2 rfl) ?_
    refine pz_calli (va_runS (As := [.int u]) (rest := []) ⟨hx, hb, hml, hown, hts⟩ (t_X11_isHour l dC dI _ u (u.toInt) rfl) (va_cwS 1 hts gX11_gauged_X11_isHour rfl rfl rfl pd_X11_isHour ⟨Nat.le_of_ble_eq_true rfl, Nat.le_of_ble_eq_true rfl⟩) ⟨pz_blind, pz_pre pz_P0 (hK.sub (tys' := []) [] rfl) (pz_D0 (A := fun _ => True)) hN⟩ rfl rfl hl.1 rfl (lv_room (Nat.le_of_ble_eq_true rfl)) dX11_gauged_15 ⟨Nat.le_of_ble_eq_true rfl, Nat.le_of_ble_eq_true rfl⟩) (fun r31 hw32 => ?_)
    obtain ⟨hw32r, hw32p⟩ := hw32
    refine lv_if_ne (tgt := 25) hx hb dX11_gauged_18 (by decide) (fun c33 => ?_) (fun c33 => ?_)
    · have ic33 : r31.toInt ≠ 0 := zi_ne rfl rfl c33
      have p34 : 0 ≤ (u.toInt) ∧ (u.toInt) ≤ 2399 := (tp_cond.yes hw32p) (by omega)
      refine lv_iload_n hx hb dX11_gauged_25 rfl (lv_at hl 3 rfl) ?_
      rcases zi_sw a 0 3 with h35 | h35
      · refine lv_tableOut (tgt := 98) hx hb dX11_gauged_26 h35 (by decide) ?_
        refine lv_ldc2 (own := RX11) (v := (-2000000000000000)) hx hb hown (hts (.constantLong RX11 281 (-2000000000000000)) wa_1124) dX11_gauged_98 ?_
        exact W.lret (v := (-2000000000000000)) hx hb hr (fun t ht hW => ⟨⟨(-2000000000000000), f, rfl, ⟨hT, hR, trivial, trivial⟩, by rw [ht]; exact hP, va_K.moved hW.alike hK, hD⟩, hS.F ht⟩) hS.2.2 dX11_gauged_101
      · rcases (show a.toInt = 0 ∨ a.toInt = 1 ∨ a.toInt = 2 ∨ a.toInt = 3 by omega) with h35k | h35k | h35k | h35k
        · refine lv_tableIn (tgt := 56) hx hb dX11_gauged_26 (by omega) (by omega) (by rw [h35k]; rfl) (by decide) ?_
          refine lv_aload_n hx hb dX11_gauged_56 rfl (lv_at hl 0 rfl) ?_
          refine va_get (D := (dC, dI)) (ci := 11) (v := .ref (ρ h0 4)) (C := RX11) (T := TX11) (N := 7) hx hb hts hfX11 hown hK hP q8 eq8 rfl 4 (by decide) (hts (.fieldLink RX11 39 "ColdShips" "reckoner" "LColdShips$Reckoner;") wa_28) (fun _ h9 => h9) rfl dX11_gauged_57 ?_
          refine lv_iload_n hx hb dX11_gauged_60 rfl (lv_at hl 1 rfl) ?_
          refine lv_iconst (v := 0) hx hb dX11_gauged_61 (by decide) ?_
          refine lv_iload_n hx hb dX11_gauged_62 rfl (lv_at hl 2 rfl) ?_
          refine tgk_4 hG y5 (fun y36 y37 y37n y38 y38n => ?_)
          refine tpk_4 hT y5 (fun o39_x3 o39_x4 o39_x5 hf_o39 ro39_0 => ?_)
          refine tpk_pos (tp_in hG y5 (by decide)) hf_o39 (fun q40 eq40 => ?_)
          refine pz_calll (va_runV (As := [.int v, .int 0, .int u]) (rest := []) ⟨hx, hb, hml, hown, hts⟩ (t_X3_tonsRead l dC dI _ Ω κ τ ν ρ L f hG hT (ρ h0 4) v (0) u y5) (cwV 3 hts gX11_gauged_X3_tonsRead rfl rfl rfl ⟨rfl, pd_X3_tonsRead⟩ ⟨Nat.le_of_ble_eq_true rfl, Nat.le_of_ble_eq_true rfl⟩) ⟨pz_blind, va_recv hK hP (ci := 3) (q0 := q40) rfl eq40, pz_pre hP hK hD hN⟩ rfl rfl hl.1 rfl (lv_room (Nat.le_of_ble_eq_true rfl)) dX11_gauged_63 ⟨Nat.le_of_ble_eq_true rfl, Nat.le_of_ble_eq_true rfl⟩) (fun r41 hw42 => ?_)
          obtain ⟨hw42r, hw42p⟩ := hw42
          exact W.lret (v := r41) hx hb hr (fun t ht hW => ⟨⟨r41, f, rfl, ⟨hT, hR, trivial, trivial⟩, by rw [ht]; exact hP, va_K.moved hW.alike hK, hD⟩, hS.F ht⟩) hS.2.2 dX11_gauged_66
        · refine lv_tableIn (tgt := 67) hx hb dX11_gauged_26 (by omega) (by omega) (by rw [h35k]; rfl) (by decide) ?_
          refine lv_aload_n hx hb dX11_gauged_67 rfl (lv_at hl 0 rfl) ?_
          refine va_get (D := (dC, dI)) (ci := 11) (v := .ref (ρ h0 4)) (C := RX11) (T := TX11) (N := 7) hx hb hts hfX11 hown hK hP q8 eq8 rfl 4 (by decide) (hts (.fieldLink RX11 39 "ColdShips" "reckoner" "LColdShips$Reckoner;") wa_28) (fun _ h9 => h9) rfl dX11_gauged_68 ?_
          refine lv_iload_n hx hb dX11_gauged_71 rfl (lv_at hl 1 rfl) ?_
          refine lv_iconst (v := 1) hx hb dX11_gauged_72 (by decide) ?_
          refine lv_iload_n hx hb dX11_gauged_73 rfl (lv_at hl 2 rfl) ?_
          refine tgk_4 hG y5 (fun y43 y44 y44n y45 y45n => ?_)
          refine tpk_4 hT y5 (fun o46_x3 o46_x4 o46_x5 hf_o46 ro46_0 => ?_)
          refine tpk_pos (tp_in hG y5 (by decide)) hf_o46 (fun q47 eq47 => ?_)
          refine pz_calll (va_runV (As := [.int v, .int 1, .int u]) (rest := []) ⟨hx, hb, hml, hown, hts⟩ (t_X3_tonsRead l dC dI _ Ω κ τ ν ρ L f hG hT (ρ h0 4) v (1) u y5) (cwV 3 hts gX11_gauged_X3_tonsRead rfl rfl rfl ⟨rfl, pd_X3_tonsRead⟩ ⟨Nat.le_of_ble_eq_true rfl, Nat.le_of_ble_eq_true rfl⟩) ⟨pz_blind, va_recv hK hP (ci := 3) (q0 := q47) rfl eq47, pz_pre hP hK hD hN⟩ rfl rfl hl.1 rfl (lv_room (Nat.le_of_ble_eq_true rfl)) dX11_gauged_74 ⟨Nat.le_of_ble_eq_true rfl, Nat.le_of_ble_eq_true rfl⟩) (fun r48 hw49 => ?_)
          obtain ⟨hw49r, hw49p⟩ := hw49
          exact W.lret (v := r48) hx hb hr (fun t ht hW => ⟨⟨r48, f, rfl, ⟨hT, hR, trivial, trivial⟩, by rw [ht]; exact hP, va_K.moved hW.alike hK, hD⟩, hS.F ht⟩) hS.2.2 dX11_gauged_77
        · refine lv_tableIn (tgt := 78) hx hb dX11_gauged_26 (by omega) (by omega) (by rw [h35k]; rfl) (by decide) ?_
          refine lv_aload_n hx hb dX11_gauged_78 rfl (lv_at hl 0 rfl) ?_
          refine va_get (D := (dC, dI)) (ci := 11) (v := .ref (ρ h0 4)) (C := RX11) (T := TX11) (N := 7) hx hb hts hfX11 hown hK hP q8 eq8 rfl 4 (by decide) (hts (.fieldLink RX11 39 "ColdShips" "reckoner" "LColdShips$Reckoner;") wa_28) (fun _ h9 => h9) rfl dX11_gauged_79 ?_
          refine lv_iload_n hx hb dX11_gauged_82 rfl (lv_at hl 1 rfl) ?_
          refine lv_iload_n hx hb dX11_gauged_83 rfl (lv_at hl 2 rfl) ?_
          refine tgk_4 hG y5 (fun y50 y51 y51n y52 y52n => ?_)
          refine tpk_4 hT y5 (fun o53_x3 o53_x4 o53_x5 hf_o53 ro53_0 => ?_)
          refine tpk_pos (tp_in hG y5 (by decide)) hf_o53 (fun q54 eq54 => ?_)
          refine pz_calll (va_runV (As := [.int v, .int u]) (rest := []) ⟨hx, hb, hml, hown, hts⟩ (t_X3_tonsGauged l dC dI _ Ω κ τ ν ρ L f hG hT (ρ h0 4) v u y5) (cwV 2 hts gX11_gauged_X3_tonsGauged rfl rfl rfl ⟨rfl, pd_X3_tonsGauged⟩ ⟨Nat.le_of_ble_eq_true rfl, Nat.le_of_ble_eq_true rfl⟩) ⟨pz_blind, va_recv hK hP (ci := 3) (q0 := q54) rfl eq54, pz_pre hP hK hD hN⟩ rfl rfl hl.1 rfl (lv_room (Nat.le_of_ble_eq_true rfl)) dX11_gauged_84 ⟨Nat.le_of_ble_eq_true rfl, Nat.le_of_ble_eq_true rfl⟩) (fun r55 hw56 => ?_)
          obtain ⟨hw56r, hw56p⟩ := hw56
          exact W.lret (v := r55) hx hb hr (fun t ht hW => ⟨⟨r55, f, rfl, ⟨hT, hR, trivial, trivial⟩, by rw [ht]; exact hP, va_K.moved hW.alike hK, hD⟩, hS.F ht⟩) hS.2.2 dX11_gauged_87
        · refine lv_tableIn (tgt := 88) hx hb dX11_gauged_26 (by omega) (by omega) (by rw [h35k]; rfl) (by decide) ?_
          refine lv_aload_n hx hb dX11_gauged_88 rfl (lv_at hl 0 rfl) ?_
          refine va_get (D := (dC, dI)) (ci := 11) (v := .ref (ρ h0 4)) (C := RX11) (T := TX11) (N := 7) hx hb hts hfX11 hown hK hP q8 eq8 rfl 4 (by decide) (hts (.fieldLink RX11 39 "ColdShips" "reckoner" "LColdShips$Reckoner;") wa_28) (fun _ h9 => h9) rfl dX11_gauged_89 ?_
          refine lv_iload_n hx hb dX11_gauged_92 rfl (lv_at hl 1 rfl) ?_
          refine lv_iload_n hx hb dX11_gauged_93 rfl (lv_at hl 2 rfl) ?_
          refine tgk_4 hG y5 (fun y57 y58 y58n y59 y59n => ?_)
          refine tpk_4 hT y5 (fun o60_x3 o60_x4 o60_x5 hf_o60 ro60_0 => ?_)
          refine tpk_pos (tp_in hG y5 (by decide)) hf_o60 (fun q61 eq61 => ?_)
          refine pz_calll (va_runV (As := [.int v, .int u]) (rest := []) ⟨hx, hb, hml, hown, hts⟩ (t_X3_claimOf l dC dI _ Ω κ τ ν ρ L f hG hT (ρ h0 4) v u y5) (cwV 2 hts gX11_gauged_X3_claimOf rfl rfl rfl ⟨rfl, pd_X3_claimOf⟩ ⟨Nat.le_of_ble_eq_true rfl, Nat.le_of_ble_eq_true rfl⟩) ⟨pz_blind, va_recv hK hP (ci := 3) (q0 := q61) rfl eq61, pz_pre hP hK hD hN⟩ rfl rfl hl.1 rfl (lv_room (Nat.le_of_ble_eq_true rfl)) dX11_gauged_94 ⟨Nat.le_of_ble_eq_true rfl, Nat.le_of_ble_eq_true rfl⟩) (fun r62 hw63 => ?_)
          obtain ⟨hw63r, hw63p⟩ := hw63
          exact W.lret (v := r62) hx hb hr (fun t ht hW => ⟨⟨r62, f, rfl, ⟨hT, hR, trivial, trivial⟩, by rw [ht]; exact hP, va_K.moved hW.alike hK, hD⟩, hS.F ht⟩) hS.2.2 dX11_gauged_97
    · have ic33 : r31.toInt = 0 := zi_nef rfl rfl c33
      refine lv_ldc2 (own := RX11) (v := (-2000000000000000)) hx hb hown (hts (.constantLong RX11 281 (-2000000000000000)) wa_1124) dX11_gauged_21 ?_
      exact W.lret (v := (-2000000000000000)) hx hb hr (fun t ht hW => ⟨⟨(-2000000000000000), f, rfl, ⟨hT, hR, trivial, trivial⟩, by rw [ht]; exact hP, va_K.moved hW.alike hK, hD⟩, hS.F ht⟩) hS.2.2 dX11_gauged_24
