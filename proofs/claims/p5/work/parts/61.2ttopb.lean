set_option maxHeartbeats 4000000 in
set_option maxRecDepth 100000 in
theorem t_X11_cargo (l : Launch) (dC : Nat → ClassId) (dI : Nat → Nat → Nat) (sz : Nat) (Ω : Nat → (Nat → Nat) → va_E → Prop) (κ : Nat → ClassId) (τ ν : Nat → Nat) (ρ : Nat → Nat → Nat) (L : List Nat) (f : Nat → va_E) (hG : tp_G τ ν ρ L) (hT : tp_T Ω κ τ ν ρ f) (h0 : Nat) (v : Int32) (u : Int32) (a : Int32) (b : Int32) (a5 : Int32) (a6 : Int32) (a7 : Int32) (a8 : Int32) (ht_h0 : τ h0 = 12) : Met l yX11_cargo wqX11_cargo ({ frames := 5, cells := 0, slots := 0, locals := 1600 }) (va_Pc [.ref h0, .int v, .int u, .int a, .int b, .int a5, .int a6, .int a7, .int a8] (pz_B dC dI (tp_K κ) (va_pl L f) sz)) (va_Qi (fun (r : Int32) (f1 : Nat → va_E) => tp_T Ω κ τ ν ρ f1 ∧ tp_F τ [2, 3, 4, 5, 6, 7, 8, 9, 10, 11, 12, 20, 21, 22, 26, 27, 28] f f1 ∧ True ∧ True) (fun (f1 : Nat → va_E) (t : State) => pz_E dC dI (tp_K κ) (va_A (va_pl L f) sz) (va_pl L f1) t) (va_A (va_pl L f) sz)) 0 0 (va_A (va_pl L f) sz) := by
  refine Met.ofW (cc := cX11_cargo) (maxL := 10) (ret := some .int) (by decide) rfl ?_
  intro p e s m args below meth c s₁ B hml hv
  obtain ⟨rfl, hsz, hP, hK, hD0, hN⟩ := hv
  have hx := B.exec
  have hb := B.bytes
  have hr := B.returns
  have hts := fun (w : Cond) (h : w ∈ WALL) => atoms_spec (ws := wqX11_cargo) B.pre w (List.mem_cons_of_mem _ h)
  have hown : s.vm.findClass RX11 = some m.cls := findClass_of_methodNamed B.named
  have hlocks := B.notSynchronized
  subst hsz
  have hD := hD0.self (sz := s.heap.size)
  generalize hAe : va_A (va_pl L f) s.heap.size = A at hD ⊢
  have hA : ∀ q : Nat, s.heap.size ≤ q → A q := fun q h => by rw [← hAe]; exact Or.inr h
  have hS : va_S A s.heap s.heap [] := va_S.rf
  have hR : tp_F τ [2, 3, 4, 5, 6, 7, 8, 9, 10, 11, 12, 20, 21, 22, 26, 27, 28] f f := tp_F.rf
  have hl := lv_entry ([.ref h0, .int v, .int u, .int a, .int b, .int a5, .int a6, .int a7, .int a8]) (n := 10) (Nat.le_of_ble_eq_true rfl)
  rw [lg_entry_eq]
  generalize (lg_sl ([.ref h0, .int v, .int u, .int a, .int b, .int a5, .int a6, .int a7, .int a8]) ++ List.replicate (10 - (lg_sl ([.ref h0, .int v, .int u, .int a, .int b, .int a5, .int a6, .int a7, .int a8])).length) Slot.unset).toArray = ls at hl ⊢
  have hl : lv_has ls 10 [(0, .ref h0), (1, .int v), (2, .int u), (3, .int a), (4, .int b), (5, .int a5), (6, .int a6), (7, .int a7), (8, .int a8)] := hl
  refine lv_iload_n hx hb dX11_cargo_0 rfl (lv_at hl 3 rfl) ?_
  refine lv_iload hx hb dX11_cargo_1 (lv_at hl 4 rfl) ?_
  refine pz_calli (va_runS (As := [.int a, .int b]) (rest := []) ⟨hx, hb, hml, hown, hts⟩ (t_X11_isSpan l dC dI _ a b (a.toInt) (b.toInt) rfl rfl) (va_cwS 2 hts gX11_cargo_X11_isSpan rfl rfl rfl pd_X11_isSpan ⟨Nat.le_of_ble_eq_true rfl, Nat.le_of_ble_eq_true rfl⟩) ⟨pz_blind, pz_pre pz_P0 (hK.sub (tys' := []) [] rfl) (pz_D0 (A := fun _ => True)) hN⟩ rfl rfl hl.1 rfl (lv_room (Nat.le_of_ble_eq_true rfl)) dX11_cargo_3 ⟨Nat.le_of_ble_eq_true rfl, Nat.le_of_ble_eq_true rfl⟩) (fun r1 hw2 => ?_)
  obtain ⟨hw2r, hw2p⟩ := hw2
  refine lv_if_eq (tgt := 42) hx hb dX11_cargo_6 (by decide) (fun c3 => ?_) (fun c3 => ?_)
  · have ic3 : r1.toInt = 0 := zi_eq rfl rfl c3
    refine lv_aload_n hx hb dX11_cargo_42 rfl (lv_at hl 0 rfl) ?_
    refine lv_iconst (v := (-1)) hx hb dX11_cargo_43 (by decide) ?_
    refine tgk_12 hG ht_h0 (fun y4 y5 y6 y7 y8 y9 => ?_)
    refine tpk_12 hT ht_h0 (fun o10_x6 hf_o10 => ?_)
    refine tpk_pos (tp_in hG ht_h0 (by decide)) hf_o10 (fun q11 eq11 => ?_)
    have hFc := tp_fr hD hS hA
    refine va_calli (va_runV (As := [.int (-1)]) (rest := []) ⟨hx, hb, hml, hown, hts⟩ (t_X11_refuse l dC dI _ Ω κ τ ν ρ L f hG hT h0 ((-1)) ht_h0) (cwV 1 hts gX11_cargo_X11_refuse rfl rfl rfl ⟨rfl, pd_X11_refuse⟩ ⟨Nat.le_of_ble_eq_true rfl, Nat.le_of_ble_eq_true rfl⟩) ⟨pz_blind, va_recv hK hP (ci := 11) (q0 := q11) rfl eq11, pz_pre hP hK hD hN⟩ rfl rfl hl.1 rfl (lv_room (Nat.le_of_ble_eq_true rfl)) dX11_cargo_44 ⟨Nat.le_of_ble_eq_true rfl, Nat.le_of_ble_eq_true rfl⟩) hS (fun q _ h => hFc q h) hFc (fun r12 f14 t H1 locs ht hvm hw13 hB hz1 hk1 hS => ?_)
    refine tn_4 hw13 (fun hT hF15 hw13r hw13p => ?_); clear hw13
    have hR := hR.then hF15 (by decide)
    have hP := hB.1; rw [ht] at hP; have hD := tp_ad f14 hD; clear hB hFc hz1 hk1; subst ht; generalize t.heap = H at hP hS ⊢
    exact W.iret (v := r12) hx hb hr (fun t ht hW => ⟨⟨r12, f14, rfl, ⟨hT, hR, trivial, trivial⟩, by rw [ht]; exact hP, va_K.moved hW.alike hK, hD⟩, hS.F ht⟩) hS.2.2 dX11_cargo_47
  · have ic3 : r1.toInt ≠ 0 := zi_eqf rfl rfl c3
    have p16 : (0 ≤ (a.toInt) ∧ (a.toInt) ≤ 2399) ∧ (0 ≤ (b.toInt) ∧ (b.toInt) ≤ 2399) ∧ (a.toInt) ≤ (b.toInt) := (tp_cond.yes hw2p) (by omega)
    refine lv_iload hx hb dX11_cargo_9 (lv_at hl 5 rfl) ?_
    refine lv_iload hx hb dX11_cargo_11 (lv_at hl 6 rfl) ?_
    refine pz_calli (va_runS (As := [.int a5, .int a6]) (rest := []) ⟨hx, hb, hml, hown, hts⟩ (t_X11_isSpan l dC dI _ a5 a6 (a5.toInt) (a6.toInt) rfl rfl) (va_cwS 2 hts gX11_cargo_X11_isSpan rfl rfl rfl pd_X11_isSpan ⟨Nat.le_of_ble_eq_true rfl, Nat.le_of_ble_eq_true rfl⟩) ⟨pz_blind, pz_pre pz_P0 (hK.sub (tys' := []) [] rfl) (pz_D0 (A := fun _ => True)) hN⟩ rfl rfl hl.1 rfl (lv_room (Nat.le_of_ble_eq_true rfl)) dX11_cargo_13 ⟨Nat.le_of_ble_eq_true rfl, Nat.le_of_ble_eq_true rfl⟩) (fun r17 hw18 => ?_)
    obtain ⟨hw18r, hw18p⟩ := hw18
    refine lv_if_eq (tgt := 42) hx hb dX11_cargo_16 (by decide) (fun c19 => ?_) (fun c19 => ?_)
    · have ic19 : r17.toInt = 0 := zi_eq rfl rfl c19
      refine lv_aload_n hx hb dX11_cargo_42 rfl (lv_at hl 0 rfl) ?_
      refine lv_iconst (v := (-1)) hx hb dX11_cargo_43 (by decide) ?_
      refine tgk_12 hG ht_h0 (fun y20 y21 y22 y23 y24 y25 => ?_)
      refine tpk_12 hT ht_h0 (fun o26_x6 hf_o26 => ?_)
      refine tpk_pos (tp_in hG ht_h0 (by decide)) hf_o26 (fun q27 eq27 => ?_)
      have hFc := tp_fr hD hS hA
      refine va_calli (va_runV (As := [.int (-1)]) (rest := []) ⟨hx, hb, hml, hown, hts⟩ (t_X11_refuse l dC dI _ Ω κ τ ν ρ L f hG hT h0 ((-1)) ht_h0) (cwV 1 hts gX11_cargo_X11_refuse rfl rfl rfl ⟨rfl, pd_X11_refuse⟩ ⟨Nat.le_of_ble_eq_true rfl, Nat.le_of_ble_eq_true rfl⟩) ⟨pz_blind, va_recv hK hP (ci := 11) (q0 := q27) rfl eq27, pz_pre hP hK hD hN⟩ rfl rfl hl.1 rfl (lv_room (Nat.le_of_ble_eq_true rfl)) dX11_cargo_44 ⟨Nat.le_of_ble_eq_true rfl, Nat.le_of_ble_eq_true rfl⟩) hS (fun q _ h => hFc q h) hFc (fun r28 f30 t H1 locs ht hvm hw29 hB hz1 hk1 hS => ?_)
      refine tn_4 hw29 (fun hT hF31 hw29r hw29p => ?_); clear hw29
      have hR := hR.then hF31 (by decide)
      have hP := hB.1; rw [ht] at hP; have hD := tp_ad f30 hD; clear hB hFc hz1 hk1; subst ht; generalize t.heap = H at hP hS ⊢
      exact W.iret (v := r28) hx hb hr (fun t ht hW => ⟨⟨r28, f30, rfl, ⟨hT, hR, trivial, trivial⟩, by rw [ht]; exact hP, va_K.moved hW.alike hK, hD⟩, hS.F ht⟩) hS.2.2 dX11_cargo_47
    · have ic19 : r17.toInt ≠ 0 := zi_eqf rfl rfl c19
      have p32 : (0 ≤ (a5.toInt) ∧ (a5.toInt) ≤ 2399) ∧ (0 ≤ (a6.toInt) ∧ (a6.toInt) ≤ 2399) ∧ (a5.toInt) ≤ (a6.toInt) := (tp_cond.yes hw18p) (by omega)
      refine lv_iload hx hb dX11_cargo_19 (lv_at hl 7 rfl) ?_
      refine lv_iconst (v := 1) hx hb dX11_cargo_21 (by decide) ?_
      refine lv_ldc (own := RX11) (v := 200000) hx hb hown (hts (.constant RX11 76 (200000)) wa_232) dX11_cargo_22 ?_
      refine pz_calli (va_runS (As := [.int a7, .int 1, .int 200000]) (rest := []) ⟨hx, hb, hml, hown, hts⟩ (t_X11_within l dC dI _ a7 (1) (200000) (a7.toInt) (1) (200000) rfl rfl rfl) (va_cwS 3 hts gX11_cargo_X11_within rfl rfl rfl pd_X11_within ⟨Nat.le_of_ble_eq_true rfl, Nat.le_of_ble_eq_true rfl⟩) ⟨pz_blind, pz_pre pz_P0 (hK.sub (tys' := []) [] rfl) (pz_D0 (A := fun _ => True)) hN⟩ rfl rfl hl.1 rfl (lv_room (Nat.le_of_ble_eq_true rfl)) dX11_cargo_24 ⟨Nat.le_of_ble_eq_true rfl, Nat.le_of_ble_eq_true rfl⟩) (fun r33 hw34 => ?_)
      obtain ⟨hw34r, hw34p⟩ := hw34
      refine lv_if_eq (tgt := 42) hx hb dX11_cargo_27 (by decide) (fun c35 => ?_) (fun c35 => ?_)
      · have ic35 : r33.toInt = 0 := zi_eq rfl rfl c35
        refine lv_aload_n hx hb dX11_cargo_42 rfl (lv_at hl 0 rfl) ?_
        refine lv_iconst (v := (-1)) hx hb dX11_cargo_43 (by decide) ?_
        refine tgk_12 hG ht_h0 (fun y36 y37 y38 y39 y40 y41 => ?_)
        refine tpk_12 hT ht_h0 (fun o42_x6 hf_o42 => ?_)
        refine tpk_pos (tp_in hG ht_h0 (by decide)) hf_o42 (fun q43 eq43 => ?_)
        have hFc := tp_fr hD hS hA
        refine va_calli (va_runV (As := [.int (-1)]) (rest := []) ⟨hx, hb, hml, hown, hts⟩ (t_X11_refuse l dC dI _ Ω κ τ ν ρ L f hG hT h0 ((-1)) ht_h0) (cwV 1 hts gX11_cargo_X11_refuse rfl rfl rfl ⟨rfl, pd_X11_refuse⟩ ⟨Nat.le_of_ble_eq_true rfl, Nat.le_of_ble_eq_true rfl⟩) ⟨pz_blind, va_recv hK hP (ci := 11) (q0 := q43) rfl eq43, pz_pre hP hK hD hN⟩ rfl rfl hl.1 rfl (lv_room (Nat.le_of_ble_eq_true rfl)) dX11_cargo_44 ⟨Nat.le_of_ble_eq_true rfl, Nat.le_of_ble_eq_true rfl⟩) hS (fun q _ h => hFc q h) hFc (fun r44 f46 t H1 locs ht hvm hw45 hB hz1 hk1 hS => ?_)
        refine tn_4 hw45 (fun hT hF47 hw45r hw45p => ?_); clear hw45
        have hR := hR.then hF47 (by decide)
        have hP := hB.1; rw [ht] at hP; have hD := tp_ad f46 hD; clear hB hFc hz1 hk1; subst ht; generalize t.heap = H at hP hS ⊢
        exact W.iret (v := r44) hx hb hr (fun t ht hW => ⟨⟨r44, f46, rfl, ⟨hT, hR, trivial, trivial⟩, by rw [ht]; exact hP, va_K.moved hW.alike hK, hD⟩, hS.F ht⟩) hS.2.2 dX11_cargo_47
      · have ic35 : r33.toInt ≠ 0 := zi_eqf rfl rfl c35
        have p48 : (1) ≤ (a7.toInt) ∧ (a7.toInt) ≤ (200000) := (tp_cond.yes hw34p) (by omega)
        refine lv_iload hx hb dX11_cargo_30 (lv_at hl 8 rfl) ?_
        refine lv_iconst (v := 0) hx hb dX11_cargo_32 (by decide) ?_
        refine lv_sipush (v := 1000) hx hb dX11_cargo_33 (by decide) ?_
        refine pz_calli (va_runS (As := [.int a8, .int 0, .int 1000]) (rest := []) ⟨hx, hb, hml, hown, hts⟩ (t_X11_within l dC dI _ a8 (0) (1000) (a8.toInt) (0) (1000) rfl rfl rfl) (va_cwS 3 hts gX11_cargo_X11_within rfl rfl rfl pd_X11_within ⟨Nat.le_of_ble_eq_true rfl, Nat.le_of_ble_eq_true rfl⟩) ⟨pz_blind, pz_pre pz_P0 (hK.sub (tys' := []) [] rfl) (pz_D0 (A := fun _ => True)) hN⟩ rfl rfl hl.1 rfl (lv_room (Nat.le_of_ble_eq_true rfl)) dX11_cargo_36 ⟨Nat.le_of_ble_eq_true rfl, Nat.le_of_ble_eq_true rfl⟩) (fun r49 hw50 => ?_)
        obtain ⟨hw50r, hw50p⟩ := hw50
        refine lv_if_ne (tgt := 48) hx hb dX11_cargo_39 (by decide) (fun c51 => ?_) (fun c51 => ?_)
        · have ic51 : r49.toInt ≠ 0 := zi_ne rfl rfl c51
          have p52 : (0) ≤ (a8.toInt) ∧ (a8.toInt) ≤ (1000) := (tp_cond.yes hw50p) (by omega)
          refine lv_aload_n hx hb dX11_cargo_48 rfl (lv_at hl 0 rfl) ?_
          refine tgk_12 hG ht_h0 (fun y53 y54 y55 y56 y57 y58 => ?_)
          refine tpk_12 hT ht_h0 (fun o59_x6 hf_o59 => ?_)
          refine tpk_pos (tp_in hG ht_h0 (by decide)) hf_o59 (fun q60 eq60 => ?_)
          refine va_get (D := (dC, dI)) (ci := 11) (v := .ref (ρ h0 0)) (C := RX11) (T := TX11) (N := 7) hx hb hts hfX11 hown hK hP q60 eq60 rfl 0 (by decide) (hts (.fieldLink RX11 10 "ColdShips" "world" "LColdShips$World;") wa_15) (fun _ h9 => h9) rfl dX11_cargo_49 ?_
          refine lv_iload_n hx hb dX11_cargo_52 rfl (lv_at hl 1 rfl) ?_
          refine tgk_11 hG y53 (fun y61 y61n y62 y62n y63 y64 y65 y66 y67 y68 y69 y69w y69m y70 y70w y70m y71 y71w y71m y72 y72w y72m => ?_)
          refine tpk_11 hT y53 (fun o73_x0 o73_x1 o73_x2 o73_x3 o73_x4 o73_x5 o73_x6 hf_o73 ro73_0 ro73_1 ro73_2 ro73_3 => ?_)
          refine tpk_pos (tp_in hG y53 (by decide)) hf_o73 (fun q74 eq74 => ?_)
          refine pz_calli (va_runV (As := [.int v]) (rest := []) ⟨hx, hb, hml, hown, hts⟩ (t_X10_hasTerminal l dC dI _ Ω κ τ ν ρ L f hG hT (ρ h0 0) v y53 o73_x0 o73_x1 o73_x2 o73_x3 o73_x4 o73_x5 o73_x6 hf_o73) (cwV 1 hts gX11_cargo_X10_hasTerminal rfl rfl rfl ⟨rfl, pd_X10_hasTerminal⟩ ⟨Nat.le_of_ble_eq_true rfl, Nat.le_of_ble_eq_true rfl⟩) ⟨pz_blind, va_recv hK hP (ci := 10) (q0 := q74) rfl eq74, pz_pre hP hK hD hN⟩ rfl rfl hl.1 rfl (lv_room (Nat.le_of_ble_eq_true rfl)) dX11_cargo_53 ⟨Nat.le_of_ble_eq_true rfl, Nat.le_of_ble_eq_true rfl⟩) (fun r75 hw76 => ?_)
          obtain ⟨hw76r, hw76p⟩ := hw76
          refine lv_if_eq (tgt := 70) hx hb dX11_cargo_56 (by decide) (fun c77 => ?_) (fun c77 => ?_)
          · have ic77 : r75.toInt = 0 := zi_eq rfl rfl c77
            refine lv_aload_n hx hb dX11_cargo_70 rfl (lv_at hl 0 rfl) ?_
            refine lv_bipush (v := (-2)) hx hb dX11_cargo_71 (by decide) ?_
            have hFc := tp_fr hD hS hA
            refine va_calli (va_runV (As := [.int (-2)]) (rest := []) ⟨hx, hb, hml, hown, hts⟩ (t_X11_refuse l dC dI _ Ω κ τ ν ρ L f hG hT h0 ((-2)) ht_h0) (cwV 1 hts gX11_cargo_X11_refuse rfl rfl rfl ⟨rfl, pd_X11_refuse⟩ ⟨Nat.le_of_ble_eq_true rfl, Nat.le_of_ble_eq_true rfl⟩) ⟨pz_blind, va_recv hK hP (ci := 11) (q0 := q60) rfl eq60, pz_pre hP hK hD hN⟩ rfl rfl hl.1 rfl (lv_room (Nat.le_of_ble_eq_true rfl)) dX11_cargo_73 ⟨Nat.le_of_ble_eq_true rfl, Nat.le_of_ble_eq_true rfl⟩) hS (fun q _ h => hFc q h) hFc (fun r78 f80 t H1 locs ht hvm hw79 hB hz1 hk1 hS => ?_)
            refine tn_4 hw79 (fun hT hF81 hw79r hw79p => ?_); clear hw79
            have hR := hR.then hF81 (by decide)
            have hP := hB.1; rw [ht] at hP; have hD := tp_ad f80 hD; clear hB hFc hz1 hk1; subst ht; generalize t.heap = H at hP hS ⊢
            exact W.iret (v := r78) hx hb hr (fun t ht hW => ⟨⟨r78, f80, rfl, ⟨hT, hR, trivial, trivial⟩, by rw [ht]; exact hP, va_K.moved hW.alike hK, hD⟩, hS.F ht⟩) hS.2.2 dX11_cargo_76
          · have ic77 : r75.toInt ≠ 0 := zi_eqf rfl rfl c77
            have p82 : 0 ≤ v.toInt ∧ v.toInt < o73_x4.toInt := (tp_cond.yes hw76p) (by omega)
            refine lv_aload_n hx hb dX11_cargo_59 rfl (lv_at hl 0 rfl) ?_
            refine va_get (D := (dC, dI)) (ci := 11) (v := .ref (ρ h0 0)) (C := RX11) (T := TX11) (N := 7) hx hb hts hfX11 hown hK hP q60 eq60 rfl 0 (by decide) (hts (.fieldLink RX11 10 "ColdShips" "world" "LColdShips$World;") wa_15) (fun _ h9 => h9) rfl dX11_cargo_60 ?_
            refine lv_iload_n hx hb dX11_cargo_63 rfl (lv_at hl 2 rfl) ?_
            refine pz_calli (va_runV (As := [.int u]) (rest := []) ⟨hx, hb, hml, hown, hts⟩ (t_X10_hasTerminal l dC dI _ Ω κ τ ν ρ L f hG hT (ρ h0 0) u y53 o73_x0 o73_x1 o73_x2 o73_x3 o73_x4 o73_x5 o73_x6 hf_o73) (cwV 1 hts gX11_cargo_X10_hasTerminal rfl rfl rfl ⟨rfl, pd_X10_hasTerminal⟩ ⟨Nat.le_of_ble_eq_true rfl, Nat.le_of_ble_eq_true rfl⟩) ⟨pz_blind, va_recv hK hP (ci := 10) (q0 := q74) rfl eq74, pz_pre hP hK hD hN⟩ rfl rfl hl.1 rfl (lv_room (Nat.le_of_ble_eq_true rfl)) dX11_cargo_64 ⟨Nat.le_of_ble_eq_true rfl, Nat.le_of_ble_eq_true rfl⟩) (fun r83 hw84 => ?_)
            obtain ⟨hw84r, hw84p⟩ := hw84
            refine lv_if_ne (tgt := 77) hx hb dX11_cargo_67 (by decide) (fun c85 => ?_) (fun c85 => ?_)
            · have ic85 : r83.toInt ≠ 0 := zi_ne rfl rfl c85
              have p86 : 0 ≤ u.toInt ∧ u.toInt < o73_x4.toInt := (tp_cond.yes hw84p) (by omega)
              refine lv_iload_n hx hb dX11_cargo_77 rfl (lv_at hl 1 rfl) ?_
              refine lv_iload_n hx hb dX11_cargo_78 rfl (lv_at hl 2 rfl) ?_
              refine lv_icmp_ne (tgt := 89) hx hb dX11_cargo_79 (by decide) (fun c87 => ?_) (fun c87 => ?_)
              · have ic87 : v.toInt ≠ u.toInt := zi_ne rfl rfl c87
                refine lv_aload_n hx hb dX11_cargo_89 rfl (lv_at hl 0 rfl) ?_
                refine va_get (D := (dC, dI)) (ci := 11) (v := .ref (ρ h0 0)) (C := RX11) (T := TX11) (N := 7) hx hb hts hfX11 hown hK hP q60 eq60 rfl 0 (by decide) (hts (.fieldLink RX11 10 "ColdShips" "world" "LColdShips$World;") wa_15) (fun _ h9 => h9) rfl dX11_cargo_90 ?_
                refine va_getN (D := (dC, dI)) (ci := 10) (v := .ref (ρ (ρ h0 0) 18)) (C := RX10) (T := TX10) (N := 19) hx hb hts hfX10 hown hK hP q74 eq74 rfl 18 (by decide) (va_Nw.use rfl (hN.1 (.fieldLinkNest RX11 319 "ColdShips$World" "cargoes" "LColdShips$Rows;" "ColdShips") nzw_87)) (fun _ h9 => h9) rfl dX11_cargo_93 ?_
                refine tgk_5 hG y72 (fun y88 y88n y89a y89b y89c => ?_)
                refine tpk_5 hT y72 (fun o90_x0 o90_x2 hf_o90 ro90_0 ro90_1 => ?_)
                refine tpk_pos (tp_in hG y72 (by decide)) hf_o90 (fun q91 eq91 => ?_)
                have hFc := tp_fr hD hS hA
                refine va_calli (va_runV (As := []) (rest := []) ⟨hx, hb, hml, hown, hts⟩ (t_X4_addRow l dC dI _ Ω κ τ ν ρ L f hG hT (ρ (ρ h0 0) 18) y72 o90_x0 o90_x2 hf_o90) (cwV 0 hts gX11_cargo_X4_addRow rfl rfl rfl ⟨rfl, pd_X4_addRow⟩ ⟨Nat.le_of_ble_eq_true rfl, Nat.le_of_ble_eq_true rfl⟩) ⟨pz_blind, va_recv hK hP (ci := 4) (q0 := q91) rfl eq91, pz_pre hP hK hD hN⟩ rfl rfl hl.1 rfl (lv_room (Nat.le_of_ble_eq_true rfl)) dX11_cargo_96 ⟨Nat.le_of_ble_eq_true rfl, Nat.le_of_ble_eq_true rfl⟩) hS (fun q _ h => hFc q h) hFc (fun r92 f94 t H1 locs ht hvm hw93 hB hz1 hk1 hS => ?_)
                refine tn_4 hw93 (fun hT hF95 hw93r hw93p => ?_); clear hw93
                have hR := hR.then hF95 (by decide)
                have hP := hB.1; rw [ht] at hP; have hD := tp_ad f94 hD; clear hB hFc hz1 hk1; subst ht; generalize t.heap = H at hP hS ⊢
                refine lv_istore (lv' := [(9, .int r92), (0, .ref h0), (1, .int v), (2, .int u), (3, .int a), (4, .int b), (5, .int a5), (6, .int a6), (7, .int a7), (8, .int a8)]) hx hb dX11_cargo_99 hl (by decide) rfl (fun ls hl => ?_)
                refine lv_iload hx hb dX11_cargo_101 (lv_at hl 0 rfl) ?_
                refine lv_iconst (v := (-1)) hx hb dX11_cargo_103 (by decide) ?_
                refine lv_icmp_ne (tgt := 114) hx hb dX11_cargo_104 (by decide) (fun c96 => ?_) (fun c96 => ?_)
                · have ic96 : r92.toInt ≠ (-1) := zi_ne rfl rfl c96
                  refine lv_aload_n hx hb dX11_cargo_114 rfl (lv_at hl 1 rfl) ?_
                  have hf_97 : f94 h0 = .inr (11, [.ref (ρ h0 0), .ref (ρ h0 1), .ref (ρ h0 2), .ref (ρ h0 3), .ref (ρ h0 4), .ref (ρ h0 5), .int o59_x6]) := (hF95 _ (by rw [ht_h0]; decide)).trans hf_o59
                  refine tpk_pos (tp_in hG ht_h0 (by decide)) hf_97 (fun q98 eq98 => ?_)
                  refine va_get (D := (dC, dI)) (ci := 11) (v := .ref (ρ h0 0)) (C := RX11) (T := TX11) (N := 7) hx hb hts hfX11 hown hK hP q98 eq98 rfl 0 (by decide) (hts (.fieldLink RX11 10 "ColdShips" "world" "LColdShips$World;") wa_15) (fun _ h9 => h9) rfl dX11_cargo_115 ?_
                  have hf_99 : f94 (ρ h0 0) = .inr (10, [.int o73_x0, .int o73_x1, .int o73_x2, .int o73_x3, .int o73_x4, .int o73_x5, .int o73_x6, .ref (ρ (ρ h0 0) 7), .ref (ρ (ρ h0 0) 8), .ref (ρ (ρ h0 0) 9), .ref (ρ (ρ h0 0) 10), .ref (ρ (ρ h0 0) 11), .ref (ρ (ρ h0 0) 12), .ref (ρ (ρ h0 0) 13), .ref (ρ (ρ h0 0) 14), .ref (ρ (ρ h0 0) 15), .ref (ρ (ρ h0 0) 16), .ref (ρ (ρ h0 0) 17), .ref (ρ (ρ h0 0) 18)]) := (hF95 _ (by rw [y53]; decide)).trans hf_o73
                  refine tpk_pos (tp_in hG y53 (by decide)) hf_99 (fun q100 eq100 => ?_)
                  refine va_getN (D := (dC, dI)) (ci := 10) (v := .ref (ρ (ρ h0 0) 18)) (C := RX10) (T := TX10) (N := 19) hx hb hts hfX10 hown hK hP q100 eq100 rfl 18 (by decide) (va_Nw.use rfl (hN.1 (.fieldLinkNest RX11 319 "ColdShips$World" "cargoes" "LColdShips$Rows;" "ColdShips") nzw_87)) (fun _ h9 => h9) rfl dX11_cargo_118 ?_
                  refine lv_iload hx hb dX11_cargo_121 (lv_at hl 0 rfl) ?_
                  refine lv_iconst (v := 0) hx hb dX11_cargo_123 (by decide) ?_
                  refine lv_iload_n hx hb dX11_cargo_124 rfl (lv_at hl 2 rfl) ?_
                  refine lv_i2l hx hb dX11_cargo_125 rfl ?_
                  refine tpk_5 hT y72 (fun o101_x0 o101_x2 hf_o101 ro101_0 ro101_1 => ?_)
                  refine tpk_pos (tp_in hG y72 (by decide)) hf_o101 (fun q102 eq102 => ?_)
                  have hFc := tp_fr hD hS hA
                  refine va_callv (va_runV (As := [.int r92, .int 0, .long v.toInt64]) (rest := []) ⟨hx, hb, hml, hown, hts⟩ (t_X4_set l dC dI _ Ω κ τ ν ρ L f94 hG hT (ρ (ρ h0 0) 18) r92 (0) v.toInt64 y72 o101_x0 o101_x2 hf_o101) (cwV 3 hts gX11_cargo_X4_set rfl rfl rfl ⟨rfl, pd_X4_set⟩ ⟨Nat.le_of_ble_eq_true rfl, Nat.le_of_ble_eq_true rfl⟩) ⟨pz_blind, va_recv hK hP (ci := 4) (q0 := q102) rfl eq102, pz_pre hP hK hD hN⟩ rfl rfl hl.1 rfl (lv_room (Nat.le_of_ble_eq_true rfl)) dX11_cargo_126 ⟨Nat.le_of_ble_eq_true rfl, Nat.le_of_ble_eq_true rfl⟩) hS (fun q _ h => hFc q h) hFc (fun f105 t H1 locs ht hvm hw104 hB hz1 hk1 hS => ?_)
                  refine tn_3 hw104 (fun hT hF106 hw104p => ?_); clear hw104
                  have hR := hR.then hF106 (by decide)
                  have hP := hB.1; rw [ht] at hP; have hD := tp_ad f105 hD; clear hB hFc hz1 hk1; subst ht; generalize t.heap = H at hP hS ⊢
                  refine lv_aload_n hx hb dX11_cargo_129 rfl (lv_at hl 1 rfl) ?_
                  have hf_107 : f105 h0 = .inr (11, [.ref (ρ h0 0), .ref (ρ h0 1), .ref (ρ h0 2), .ref (ρ h0 3), .ref (ρ h0 4), .ref (ρ h0 5), .int o59_x6]) := (hF106 _ (by rw [ht_h0]; decide)).trans hf_97
                  refine tpk_pos (tp_in hG ht_h0 (by decide)) hf_107 (fun q108 eq108 => ?_)
                  refine va_get (D := (dC, dI)) (ci := 11) (v := .ref (ρ h0 0)) (C := RX11) (T := TX11) (N := 7) hx hb hts hfX11 hown hK hP q108 eq108 rfl 0 (by decide) (hts (.fieldLink RX11 10 "ColdShips" "world" "LColdShips$World;") wa_15) (fun _ h9 => h9) rfl dX11_cargo_130 ?_
                  have hf_109 : f105 (ρ h0 0) = .inr (10, [.int o73_x0, .int o73_x1, .int o73_x2, .int o73_x3, .int o73_x4, .int o73_x5, .int o73_x6, .ref (ρ (ρ h0 0) 7), .ref (ρ (ρ h0 0) 8), .ref (ρ (ρ h0 0) 9), .ref (ρ (ρ h0 0) 10), .ref (ρ (ρ h0 0) 11), .ref (ρ (ρ h0 0) 12), .ref (ρ (ρ h0 0) 13), .ref (ρ (ρ h0 0) 14), .ref (ρ (ρ h0 0) 15), .ref (ρ (ρ h0 0) 16), .ref (ρ (ρ h0 0) 17), .ref (ρ (ρ h0 0) 18)]) := (hF106 _ (by rw [y53]; decide)).trans hf_99
                  refine tpk_pos (tp_in hG y53 (by decide)) hf_109 (fun q110 eq110 => ?_)
                  refine va_getN (D := (dC, dI)) (ci := 10) (v := .ref (ρ (ρ h0 0) 18)) (C := RX10) (T := TX10) (N := 19) hx hb hts hfX10 hown hK hP q110 eq110 rfl 18 (by decide) (va_Nw.use rfl (hN.1 (.fieldLinkNest RX11 319 "ColdShips$World" "cargoes" "LColdShips$Rows;" "ColdShips") nzw_87)) (fun _ h9 => h9) rfl dX11_cargo_133 ?_
                  refine lv_iload hx hb dX11_cargo_136 (lv_at hl 0 rfl) ?_
                  refine lv_iconst (v := 1) hx hb dX11_cargo_138 (by decide) ?_
                  refine lv_iload_n hx hb dX11_cargo_139 rfl (lv_at hl 3 rfl) ?_
                  refine lv_i2l hx hb dX11_cargo_140 rfl ?_
                  have hf_111 : f105 (ρ (ρ h0 0) 18) = .inr (4, [.int o101_x0, .ref (ρ (ρ (ρ h0 0) 18) 1), .int o101_x2]) := (hF106 _ (by rw [y72]; decide)).trans hf_o101
                  refine tpk_pos (tp_in hG y72 (by decide)) hf_111 (fun q112 eq112 => ?_)
                  have hFc := tp_fr hD hS hA
                  refine va_callv (va_runV (As := [.int r92, .int 1, .long u.toInt64]) (rest := []) ⟨hx, hb, hml, hown, hts⟩ (t_X4_set l dC dI _ Ω κ τ ν ρ L f105 hG hT (ρ (ρ h0 0) 18) r92 (1) u.toInt64 y72 o101_x0 o101_x2 hf_111) (cwV 3 hts gX11_cargo_X4_set rfl rfl rfl ⟨rfl, pd_X4_set⟩ ⟨Nat.le_of_ble_eq_true rfl, Nat.le_of_ble_eq_true rfl⟩) ⟨pz_blind, va_recv hK hP (ci := 4) (q0 := q112) rfl eq112, pz_pre hP hK hD hN⟩ rfl rfl hl.1 rfl (lv_room (Nat.le_of_ble_eq_true rfl)) dX11_cargo_141 ⟨Nat.le_of_ble_eq_true rfl, Nat.le_of_ble_eq_true rfl⟩) hS (fun q _ h => hFc q h) hFc (fun f115 t H1 locs ht hvm hw114 hB hz1 hk1 hS => ?_)
                  refine tn_3 hw114 (fun hT hF116 hw114p => ?_); clear hw114
                  have hR := hR.then hF116 (by decide)
                  have hP := hB.1; rw [ht] at hP; have hD := tp_ad f115 hD; clear hB hFc hz1 hk1; subst ht; generalize t.heap = H at hP hS ⊢
                  refine lv_aload_n hx hb dX11_cargo_144 rfl (lv_at hl 1 rfl) ?_
                  have hf_117 : f115 h0 = .inr (11, [.ref (ρ h0 0), .ref (ρ h0 1), .ref (ρ h0 2), .ref (ρ h0 3), .ref (ρ h0 4), .ref (ρ h0 5), .int o59_x6]) := (hF116 _ (by rw [ht_h0]; decide)).trans hf_107
                  refine tpk_pos (tp_in hG ht_h0 (by decide)) hf_117 (fun q118 eq118 => ?_)
                  refine va_get (D := (dC, dI)) (ci := 11) (v := .ref (ρ h0 0)) (C := RX11) (T := TX11) (N := 7) hx hb hts hfX11 hown hK hP q118 eq118 rfl 0 (by decide) (hts (.fieldLink RX11 10 "ColdShips" "world" "LColdShips$World;") wa_15) (fun _ h9 => h9) rfl dX11_cargo_145 ?_
                  have hf_119 : f115 (ρ h0 0) = .inr (10, [.int o73_x0, .int o73_x1, .int o73_x2, .int o73_x3, .int o73_x4, .int o73_x5, .int o73_x6, .ref (ρ (ρ h0 0) 7), .ref (ρ (ρ h0 0) 8), .ref (ρ (ρ h0 0) 9), .ref (ρ (ρ h0 0) 10), .ref (ρ (ρ h0 0) 11), .ref (ρ (ρ h0 0) 12), .ref (ρ (ρ h0 0) 13), .ref (ρ (ρ h0 0) 14), .ref (ρ (ρ h0 0) 15), .ref (ρ (ρ h0 0) 16), .ref (ρ (ρ h0 0) 17), .ref (ρ (ρ h0 0) 18)]) := (hF116 _ (by rw [y53]; decide)).trans hf_109
                  refine tpk_pos (tp_in hG y53 (by decide)) hf_119 (fun q120 eq120 => ?_)
                  refine va_getN (D := (dC, dI)) (ci := 10) (v := .ref (ρ (ρ h0 0) 18)) (C := RX10) (T := TX10) (N := 19) hx hb hts hfX10 hown hK hP q120 eq120 rfl 18 (by decide) (va_Nw.use rfl (hN.1 (.fieldLinkNest RX11 319 "ColdShips$World" "cargoes" "LColdShips$Rows;" "ColdShips") nzw_87)) (fun _ h9 => h9) rfl dX11_cargo_148 ?_
                  refine lv_iload hx hb dX11_cargo_151 (lv_at hl 0 rfl) ?_
                  refine lv_iconst (v := 2) hx hb dX11_cargo_153 (by decide) ?_
                  refine lv_iload_n hx hb dX11_cargo_154 rfl (lv_at hl 4 rfl) ?_
                  refine lv_i2l hx hb dX11_cargo_155 rfl ?_
                  have hf_121 : f115 (ρ (ρ h0 0) 18) = .inr (4, [.int o101_x0, .ref (ρ (ρ (ρ h0 0) 18) 1), .int o101_x2]) := (hF116 _ (by rw [y72]; decide)).trans hf_111
                  refine tpk_pos (tp_in hG y72 (by decide)) hf_121 (fun q122 eq122 => ?_)
                  have hFc := tp_fr hD hS hA
                  refine va_callv (va_runV (As := [.int r92, .int 2, .long a.toInt64]) (rest := []) ⟨hx, hb, hml, hown, hts⟩ (t_X4_set l dC dI _ Ω κ τ ν ρ L f115 hG hT (ρ (ρ h0 0) 18) r92 (2) a.toInt64 y72 o101_x0 o101_x2 hf_121) (cwV 3 hts gX11_cargo_X4_set rfl rfl rfl ⟨rfl, pd_X4_set⟩ ⟨Nat.le_of_ble_eq_true rfl, Nat.le_of_ble_eq_true rfl⟩) ⟨pz_blind, va_recv hK hP (ci := 4) (q0 := q122) rfl eq122, pz_pre hP hK hD hN⟩ rfl rfl hl.1 rfl (lv_room (Nat.le_of_ble_eq_true rfl)) dX11_cargo_156 ⟨Nat.le_of_ble_eq_true rfl, Nat.le_of_ble_eq_true rfl⟩) hS (fun q _ h => hFc q h) hFc (fun f125 t H1 locs ht hvm hw124 hB hz1 hk1 hS => ?_)
                  refine tn_3 hw124 (fun hT hF126 hw124p => ?_); clear hw124
                  have hR := hR.then hF126 (by decide)
                  have hP := hB.1; rw [ht] at hP; have hD := tp_ad f125 hD; clear hB hFc hz1 hk1; subst ht; generalize t.heap = H at hP hS ⊢
                  refine lv_aload_n hx hb dX11_cargo_159 rfl (lv_at hl 1 rfl) ?_
                  have hf_127 : f125 h0 = .inr (11, [.ref (ρ h0 0), .ref (ρ h0 1), .ref (ρ h0 2), .ref (ρ h0 3), .ref (ρ h0 4), .ref (ρ h0 5), .int o59_x6]) := (hF126 _ (by rw [ht_h0]; decide)).trans hf_117
                  refine tpk_pos (tp_in hG ht_h0 (by decide)) hf_127 (fun q128 eq128 => ?_)
                  refine va_get (D := (dC, dI)) (ci := 11) (v := .ref (ρ h0 0)) (C := RX11) (T := TX11) (N := 7) hx hb hts hfX11 hown hK hP q128 eq128 rfl 0 (by decide) (hts (.fieldLink RX11 10 "ColdShips" "world" "LColdShips$World;") wa_15) (fun _ h9 => h9) rfl dX11_cargo_160 ?_
                  have hf_129 : f125 (ρ h0 0) = .inr (10, [.int o73_x0, .int o73_x1, .int o73_x2, .int o73_x3, .int o73_x4, .int o73_x5, .int o73_x6, .ref (ρ (ρ h0 0) 7), .ref (ρ (ρ h0 0) 8), .ref (ρ (ρ h0 0) 9), .ref (ρ (ρ h0 0) 10), .ref (ρ (ρ h0 0) 11), .ref (ρ (ρ h0 0) 12), .ref (ρ (ρ h0 0) 13), .ref (ρ (ρ h0 0) 14), .ref (ρ (ρ h0 0) 15), .ref (ρ (ρ h0 0) 16), .ref (ρ (ρ h0 0) 17), .ref (ρ (ρ h0 0) 18)]) := (hF126 _ (by rw [y53]; decide)).trans hf_119
                  refine tpk_pos (tp_in hG y53 (by decide)) hf_129 (fun q130 eq130 => ?_)
                  refine va_getN (D := (dC, dI)) (ci := 10) (v := .ref (ρ (ρ h0 0) 18)) (C := RX10) (T := TX10) (N := 19) hx hb hts hfX10 hown hK hP q130 eq130 rfl 18 (by decide) (va_Nw.use rfl (hN.1 (.fieldLinkNest RX11 319 "ColdShips$World" "cargoes" "LColdShips$Rows;" "ColdShips") nzw_87)) (fun _ h9 => h9) rfl dX11_cargo_163 ?_
                  refine lv_iload hx hb dX11_cargo_166 (lv_at hl 0 rfl) ?_
                  refine lv_iconst (v := 3) hx hb dX11_cargo_168 (by decide) ?_
                  refine lv_iload hx hb dX11_cargo_169 (lv_at hl 5 rfl) ?_
                  refine lv_i2l hx hb dX11_cargo_171 rfl ?_
                  have hf_131 : f125 (ρ (ρ h0 0) 18) = .inr (4, [.int o101_x0, .ref (ρ (ρ (ρ h0 0) 18) 1), .int o101_x2]) := (hF126 _ (by rw [y72]; decide)).trans hf_121
                  refine tpk_pos (tp_in hG y72 (by decide)) hf_131 (fun q132 eq132 => ?_)
                  have hFc := tp_fr hD hS hA
                  refine va_callv (va_runV (As := [.int r92, .int 3, .long b.toInt64]) (rest := []) ⟨hx, hb, hml, hown, hts⟩ (t_X4_set l dC dI _ Ω κ τ ν ρ L f125 hG hT (ρ (ρ h0 0) 18) r92 (3) b.toInt64 y72 o101_x0 o101_x2 hf_131) (cwV 3 hts gX11_cargo_X4_set rfl rfl rfl ⟨rfl, pd_X4_set⟩ ⟨Nat.le_of_ble_eq_true rfl, Nat.le_of_ble_eq_true rfl⟩) ⟨pz_blind, va_recv hK hP (ci := 4) (q0 := q132) rfl eq132, pz_pre hP hK hD hN⟩ rfl rfl hl.1 rfl (lv_room (Nat.le_of_ble_eq_true rfl)) dX11_cargo_172 ⟨Nat.le_of_ble_eq_true rfl, Nat.le_of_ble_eq_true rfl⟩) hS (fun q _ h => hFc q h) hFc (fun f135 t H1 locs ht hvm hw134 hB hz1 hk1 hS => ?_)
                  refine tn_3 hw134 (fun hT hF136 hw134p => ?_); clear hw134
                  have hR := hR.then hF136 (by decide)
                  have hP := hB.1; rw [ht] at hP; have hD := tp_ad f135 hD; clear hB hFc hz1 hk1; subst ht; generalize t.heap = H at hP hS ⊢
                  refine lv_aload_n hx hb dX11_cargo_175 rfl (lv_at hl 1 rfl) ?_
                  have hf_137 : f135 h0 = .inr (11, [.ref (ρ h0 0), .ref (ρ h0 1), .ref (ρ h0 2), .ref (ρ h0 3), .ref (ρ h0 4), .ref (ρ h0 5), .int o59_x6]) := (hF136 _ (by rw [ht_h0]; decide)).trans hf_127
                  refine tpk_pos (tp_in hG ht_h0 (by decide)) hf_137 (fun q138 eq138 => ?_)
                  refine va_get (D := (dC, dI)) (ci := 11) (v := .ref (ρ h0 0)) (C := RX11) (T := TX11) (N := 7) hx hb hts hfX11 hown hK hP q138 eq138 rfl 0 (by decide) (hts (.fieldLink RX11 10 "ColdShips" "world" "LColdShips$World;") wa_15) (fun _ h9 => h9) rfl dX11_cargo_176 ?_
                  have hf_139 : f135 (ρ h0 0) = .inr (10, [.int o73_x0, .int o73_x1, .int o73_x2, .int o73_x3, .int o73_x4, .int o73_x5, .int o73_x6, .ref (ρ (ρ h0 0) 7), .ref (ρ (ρ h0 0) 8), .ref (ρ (ρ h0 0) 9), .ref (ρ (ρ h0 0) 10), .ref (ρ (ρ h0 0) 11), .ref (ρ (ρ h0 0) 12), .ref (ρ (ρ h0 0) 13), .ref (ρ (ρ h0 0) 14), .ref (ρ (ρ h0 0) 15), .ref (ρ (ρ h0 0) 16), .ref (ρ (ρ h0 0) 17), .ref (ρ (ρ h0 0) 18)]) := (hF136 _ (by rw [y53]; decide)).trans hf_129
                  refine tpk_pos (tp_in hG y53 (by decide)) hf_139 (fun q140 eq140 => ?_)
                  refine va_getN (D := (dC, dI)) (ci := 10) (v := .ref (ρ (ρ h0 0) 18)) (C := RX10) (T := TX10) (N := 19) hx hb hts hfX10 hown hK hP q140 eq140 rfl 18 (by decide) (va_Nw.use rfl (hN.1 (.fieldLinkNest RX11 319 "ColdShips$World" "cargoes" "LColdShips$Rows;" "ColdShips") nzw_87)) (fun _ h9 => h9) rfl dX11_cargo_179 ?_
                  refine lv_iload hx hb dX11_cargo_182 (lv_at hl 0 rfl) ?_
                  refine lv_iconst (v := 4) hx hb dX11_cargo_184 (by decide) ?_
                  refine lv_iload hx hb dX11_cargo_185 (lv_at hl 6 rfl) ?_
                  refine lv_i2l hx hb dX11_cargo_187 rfl ?_
                  have hf_141 : f135 (ρ (ρ h0 0) 18) = .inr (4, [.int o101_x0, .ref (ρ (ρ (ρ h0 0) 18) 1), .int o101_x2]) := (hF136 _ (by rw [y72]; decide)).trans hf_131
                  refine tpk_pos (tp_in hG y72 (by decide)) hf_141 (fun q142 eq142 => ?_)
                  have hFc := tp_fr hD hS hA
                  refine va_callv (va_runV (As := [.int r92, .int 4, .long a5.toInt64]) (rest := []) ⟨hx, hb, hml, hown, hts⟩ (t_X4_set l dC dI _ Ω κ τ ν ρ L f135 hG hT (ρ (ρ h0 0) 18) r92 (4) a5.toInt64 y72 o101_x0 o101_x2 hf_141) (cwV 3 hts gX11_cargo_X4_set rfl rfl rfl ⟨rfl, pd_X4_set⟩ ⟨Nat.le_of_ble_eq_true rfl, Nat.le_of_ble_eq_true rfl⟩) ⟨pz_blind, va_recv hK hP (ci := 4) (q0 := q142) rfl eq142, pz_pre hP hK hD hN⟩ rfl rfl hl.1 rfl (lv_room (Nat.le_of_ble_eq_true rfl)) dX11_cargo_188 ⟨Nat.le_of_ble_eq_true rfl, Nat.le_of_ble_eq_true rfl⟩) hS (fun q _ h => hFc q h) hFc (fun f145 t H1 locs ht hvm hw144 hB hz1 hk1 hS => ?_)
                  refine tn_3 hw144 (fun hT hF146 hw144p => ?_); clear hw144
                  have hR := hR.then hF146 (by decide)
                  have hP := hB.1; rw [ht] at hP; have hD := tp_ad f145 hD; clear hB hFc hz1 hk1; subst ht; generalize t.heap = H at hP hS ⊢
                  refine lv_aload_n hx hb dX11_cargo_191 rfl (lv_at hl 1 rfl) ?_
                  have hf_147 : f145 h0 = .inr (11, [.ref (ρ h0 0), .ref (ρ h0 1), .ref (ρ h0 2), .ref (ρ h0 3), .ref (ρ h0 4), .ref (ρ h0 5), .int o59_x6]) := (hF146 _ (by rw [ht_h0]; decide)).trans hf_137
                  refine tpk_pos (tp_in hG ht_h0 (by decide)) hf_147 (fun q148 eq148 => ?_)
                  refine va_get (D := (dC, dI)) (ci := 11) (v := .ref (ρ h0 0)) (C := RX11) (T := TX11) (N := 7) hx hb hts hfX11 hown hK hP q148 eq148 rfl 0 (by decide) (hts (.fieldLink RX11 10 "ColdShips" "world" "LColdShips$World;") wa_15) (fun _ h9 => h9) rfl dX11_cargo_192 ?_
                  have hf_149 : f145 (ρ h0 0) = .inr (10, [.int o73_x0, .int o73_x1, .int o73_x2, .int o73_x3, .int o73_x4, .int o73_x5, .int o73_x6, .ref (ρ (ρ h0 0) 7), .ref (ρ (ρ h0 0) 8), .ref (ρ (ρ h0 0) 9), .ref (ρ (ρ h0 0) 10), .ref (ρ (ρ h0 0) 11), .ref (ρ (ρ h0 0) 12), .ref (ρ (ρ h0 0) 13), .ref (ρ (ρ h0 0) 14), .ref (ρ (ρ h0 0) 15), .ref (ρ (ρ h0 0) 16), .ref (ρ (ρ h0 0) 17), .ref (ρ (ρ h0 0) 18)]) := (hF146 _ (by rw [y53]; decide)).trans hf_139
                  refine tpk_pos (tp_in hG y53 (by decide)) hf_149 (fun q150 eq150 => ?_)
                  refine va_getN (D := (dC, dI)) (ci := 10) (v := .ref (ρ (ρ h0 0) 18)) (C := RX10) (T := TX10) (N := 19) hx hb hts hfX10 hown hK hP q150 eq150 rfl 18 (by decide) (va_Nw.use rfl (hN.1 (.fieldLinkNest RX11 319 "ColdShips$World" "cargoes" "LColdShips$Rows;" "ColdShips") nzw_87)) (fun _ h9 => h9) rfl dX11_cargo_195 ?_
                  refine lv_iload hx hb dX11_cargo_198 (lv_at hl 0 rfl) ?_
                  refine lv_iconst (v := 5) hx hb dX11_cargo_200 (by decide) ?_
                  refine lv_iload hx hb dX11_cargo_201 (lv_at hl 7 rfl) ?_
                  refine lv_i2l hx hb dX11_cargo_203 rfl ?_
                  have hf_151 : f145 (ρ (ρ h0 0) 18) = .inr (4, [.int o101_x0, .ref (ρ (ρ (ρ h0 0) 18) 1), .int o101_x2]) := (hF146 _ (by rw [y72]; decide)).trans hf_141
                  refine tpk_pos (tp_in hG y72 (by decide)) hf_151 (fun q152 eq152 => ?_)
                  have hFc := tp_fr hD hS hA
                  refine va_callv (va_runV (As := [.int r92, .int 5, .long a6.toInt64]) (rest := []) ⟨hx, hb, hml, hown, hts⟩ (t_X4_set l dC dI _ Ω κ τ ν ρ L f145 hG hT (ρ (ρ h0 0) 18) r92 (5) a6.toInt64 y72 o101_x0 o101_x2 hf_151) (cwV 3 hts gX11_cargo_X4_set rfl rfl rfl ⟨rfl, pd_X4_set⟩ ⟨Nat.le_of_ble_eq_true rfl, Nat.le_of_ble_eq_true rfl⟩) ⟨pz_blind, va_recv hK hP (ci := 4) (q0 := q152) rfl eq152, pz_pre hP hK hD hN⟩ rfl rfl hl.1 rfl (lv_room (Nat.le_of_ble_eq_true rfl)) dX11_cargo_204 ⟨Nat.le_of_ble_eq_true rfl, Nat.le_of_ble_eq_true rfl⟩) hS (fun q _ h => hFc q h) hFc (fun f155 t H1 locs ht hvm hw154 hB hz1 hk1 hS => ?_)
                  refine tn_3 hw154 (fun hT hF156 hw154p => ?_); clear hw154
                  have hR := hR.then hF156 (by decide)
                  have hP := hB.1; rw [ht] at hP; have hD := tp_ad f155 hD; clear hB hFc hz1 hk1; subst ht; generalize t.heap = H at hP hS ⊢
                  refine lv_aload_n hx hb dX11_cargo_207 rfl (lv_at hl 1 rfl) ?_
                  have hf_157 : f155 h0 = .inr (11, [.ref (ρ h0 0), .ref (ρ h0 1), .ref (ρ h0 2), .ref (ρ h0 3), .ref (ρ h0 4), .ref (ρ h0 5), .int o59_x6]) := (hF156 _ (by rw [ht_h0]; decide)).trans hf_147
                  refine tpk_pos (tp_in hG ht_h0 (by decide)) hf_157 (fun q158 eq158 => ?_)
                  refine va_get (D := (dC, dI)) (ci := 11) (v := .ref (ρ h0 0)) (C := RX11) (T := TX11) (N := 7) hx hb hts hfX11 hown hK hP q158 eq158 rfl 0 (by decide) (hts (.fieldLink RX11 10 "ColdShips" "world" "LColdShips$World;") wa_15) (fun _ h9 => h9) rfl dX11_cargo_208 ?_
                  have hf_159 : f155 (ρ h0 0) = .inr (10, [.int o73_x0, .int o73_x1, .int o73_x2, .int o73_x3, .int o73_x4, .int o73_x5, .int o73_x6, .ref (ρ (ρ h0 0) 7), .ref (ρ (ρ h0 0) 8), .ref (ρ (ρ h0 0) 9), .ref (ρ (ρ h0 0) 10), .ref (ρ (ρ h0 0) 11), .ref (ρ (ρ h0 0) 12), .ref (ρ (ρ h0 0) 13), .ref (ρ (ρ h0 0) 14), .ref (ρ (ρ h0 0) 15), .ref (ρ (ρ h0 0) 16), .ref (ρ (ρ h0 0) 17), .ref (ρ (ρ h0 0) 18)]) := (hF156 _ (by rw [y53]; decide)).trans hf_149
                  refine tpk_pos (tp_in hG y53 (by decide)) hf_159 (fun q160 eq160 => ?_)
                  refine va_getN (D := (dC, dI)) (ci := 10) (v := .ref (ρ (ρ h0 0) 18)) (C := RX10) (T := TX10) (N := 19) hx hb hts hfX10 hown hK hP q160 eq160 rfl 18 (by decide) (va_Nw.use rfl (hN.1 (.fieldLinkNest RX11 319 "ColdShips$World" "cargoes" "LColdShips$Rows;" "ColdShips") nzw_87)) (fun _ h9 => h9) rfl dX11_cargo_211 ?_
                  refine lv_iload hx hb dX11_cargo_214 (lv_at hl 0 rfl) ?_
                  refine lv_bipush (v := 6) hx hb dX11_cargo_216 (by decide) ?_
                  refine lv_iload hx hb dX11_cargo_218 (lv_at hl 8 rfl) ?_
                  refine lv_i2l hx hb dX11_cargo_220 rfl ?_
                  have hf_161 : f155 (ρ (ρ h0 0) 18) = .inr (4, [.int o101_x0, .ref (ρ (ρ (ρ h0 0) 18) 1), .int o101_x2]) := (hF156 _ (by rw [y72]; decide)).trans hf_151
                  refine tpk_pos (tp_in hG y72 (by decide)) hf_161 (fun q162 eq162 => ?_)
                  have hFc := tp_fr hD hS hA
                  refine va_callv (va_runV (As := [.int r92, .int 6, .long a7.toInt64]) (rest := []) ⟨hx, hb, hml, hown, hts⟩ (t_X4_set l dC dI _ Ω κ τ ν ρ L f155 hG hT (ρ (ρ h0 0) 18) r92 (6) a7.toInt64 y72 o101_x0 o101_x2 hf_161) (cwV 3 hts gX11_cargo_X4_set rfl rfl rfl ⟨rfl, pd_X4_set⟩ ⟨Nat.le_of_ble_eq_true rfl, Nat.le_of_ble_eq_true rfl⟩) ⟨pz_blind, va_recv hK hP (ci := 4) (q0 := q162) rfl eq162, pz_pre hP hK hD hN⟩ rfl rfl hl.1 rfl (lv_room (Nat.le_of_ble_eq_true rfl)) dX11_cargo_221 ⟨Nat.le_of_ble_eq_true rfl, Nat.le_of_ble_eq_true rfl⟩) hS (fun q _ h => hFc q h) hFc (fun f165 t H1 locs ht hvm hw164 hB hz1 hk1 hS => ?_)
                  refine tn_3 hw164 (fun hT hF166 hw164p => ?_); clear hw164
                  have hR := hR.then hF166 (by decide)
                  have hP := hB.1; rw [ht] at hP; have hD := tp_ad f165 hD; clear hB hFc hz1 hk1; subst ht; generalize t.heap = H at hP hS ⊢
                  refine lv_aload_n hx hb dX11_cargo_224 rfl (lv_at hl 1 rfl) ?_
                  have hf_167 : f165 h0 = .inr (11, [.ref (ρ h0 0), .ref (ρ h0 1), .ref (ρ h0 2), .ref (ρ h0 3), .ref (ρ h0 4), .ref (ρ h0 5), .int o59_x6]) := (hF166 _ (by rw [ht_h0]; decide)).trans hf_157
                  refine tpk_pos (tp_in hG ht_h0 (by decide)) hf_167 (fun q168 eq168 => ?_)
                  refine va_get (D := (dC, dI)) (ci := 11) (v := .ref (ρ h0 0)) (C := RX11) (T := TX11) (N := 7) hx hb hts hfX11 hown hK hP q168 eq168 rfl 0 (by decide) (hts (.fieldLink RX11 10 "ColdShips" "world" "LColdShips$World;") wa_15) (fun _ h9 => h9) rfl dX11_cargo_225 ?_
                  have hf_169 : f165 (ρ h0 0) = .inr (10, [.int o73_x0, .int o73_x1, .int o73_x2, .int o73_x3, .int o73_x4, .int o73_x5, .int o73_x6, .ref (ρ (ρ h0 0) 7), .ref (ρ (ρ h0 0) 8), .ref (ρ (ρ h0 0) 9), .ref (ρ (ρ h0 0) 10), .ref (ρ (ρ h0 0) 11), .ref (ρ (ρ h0 0) 12), .ref (ρ (ρ h0 0) 13), .ref (ρ (ρ h0 0) 14), .ref (ρ (ρ h0 0) 15), .ref (ρ (ρ h0 0) 16), .ref (ρ (ρ h0 0) 17), .ref (ρ (ρ h0 0) 18)]) := (hF166 _ (by rw [y53]; decide)).trans hf_159
                  refine tpk_pos (tp_in hG y53 (by decide)) hf_169 (fun q170 eq170 => ?_)
                  refine va_getN (D := (dC, dI)) (ci := 10) (v := .ref (ρ (ρ h0 0) 18)) (C := RX10) (T := TX10) (N := 19) hx hb hts hfX10 hown hK hP q170 eq170 rfl 18 (by decide) (va_Nw.use rfl (hN.1 (.fieldLinkNest RX11 319 "ColdShips$World" "cargoes" "LColdShips$Rows;" "ColdShips") nzw_87)) (fun _ h9 => h9) rfl dX11_cargo_228 ?_
                  refine lv_iload hx hb dX11_cargo_231 (lv_at hl 0 rfl) ?_
                  refine lv_bipush (v := 7) hx hb dX11_cargo_233 (by decide) ?_
                  refine lv_iload hx hb dX11_cargo_235 (lv_at hl 9 rfl) ?_
                  refine lv_i2l hx hb dX11_cargo_237 rfl ?_
                  have hf_171 : f165 (ρ (ρ h0 0) 18) = .inr (4, [.int o101_x0, .ref (ρ (ρ (ρ h0 0) 18) 1), .int o101_x2]) := (hF166 _ (by rw [y72]; decide)).trans hf_161
                  refine tpk_pos (tp_in hG y72 (by decide)) hf_171 (fun q172 eq172 => ?_)
                  have hFc := tp_fr hD hS hA
                  refine va_callv (va_runV (As := [.int r92, .int 7, .long a8.toInt64]) (rest := []) ⟨hx, hb, hml, hown, hts⟩ (t_X4_set l dC dI _ Ω κ τ ν ρ L f165 hG hT (ρ (ρ h0 0) 18) r92 (7) a8.toInt64 y72 o101_x0 o101_x2 hf_171) (cwV 3 hts gX11_cargo_X4_set rfl rfl rfl ⟨rfl, pd_X4_set⟩ ⟨Nat.le_of_ble_eq_true rfl, Nat.le_of_ble_eq_true rfl⟩) ⟨pz_blind, va_recv hK hP (ci := 4) (q0 := q172) rfl eq172, pz_pre hP hK hD hN⟩ rfl rfl hl.1 rfl (lv_room (Nat.le_of_ble_eq_true rfl)) dX11_cargo_238 ⟨Nat.le_of_ble_eq_true rfl, Nat.le_of_ble_eq_true rfl⟩) hS (fun q _ h => hFc q h) hFc (fun f175 t H1 locs ht hvm hw174 hB hz1 hk1 hS => ?_)
                  refine tn_3 hw174 (fun hT hF176 hw174p => ?_); clear hw174
                  have hR := hR.then hF176 (by decide)
                  have hP := hB.1; rw [ht] at hP; have hD := tp_ad f175 hD; clear hB hFc hz1 hk1; subst ht; generalize t.heap = H at hP hS ⊢
                  refine lv_aload_n hx hb dX11_cargo_241 rfl (lv_at hl 1 rfl) ?_
                  refine lv_aload_n hx hb dX11_cargo_242 rfl (lv_at hl 1 rfl) ?_
                  have hf_177 : f175 h0 = .inr (11, [.ref (ρ h0 0), .ref (ρ h0 1), .ref (ρ h0 2), .ref (ρ h0 3), .ref (ρ h0 4), .ref (ρ h0 5), .int o59_x6]) := (hF176 _ (by rw [ht_h0]; decide)).trans hf_167
                  refine tpk_pos (tp_in hG ht_h0 (by decide)) hf_177 (fun q178 eq178 => ?_)
                  refine va_get (D := (dC, dI)) (ci := 11) (v := .ref (ρ h0 0)) (C := RX11) (T := TX11) (N := 7) hx hb hts hfX11 hown hK hP q178 eq178 rfl 0 (by decide) (hts (.fieldLink RX11 10 "ColdShips" "world" "LColdShips$World;") wa_15) (fun _ h9 => h9) rfl dX11_cargo_243 ?_
                  have hf_179 : f175 (ρ h0 0) = .inr (10, [.int o73_x0, .int o73_x1, .int o73_x2, .int o73_x3, .int o73_x4, .int o73_x5, .int o73_x6, .ref (ρ (ρ h0 0) 7), .ref (ρ (ρ h0 0) 8), .ref (ρ (ρ h0 0) 9), .ref (ρ (ρ h0 0) 10), .ref (ρ (ρ h0 0) 11), .ref (ρ (ρ h0 0) 12), .ref (ρ (ρ h0 0) 13), .ref (ρ (ρ h0 0) 14), .ref (ρ (ρ h0 0) 15), .ref (ρ (ρ h0 0) 16), .ref (ρ (ρ h0 0) 17), .ref (ρ (ρ h0 0) 18)]) := (hF176 _ (by rw [y53]; decide)).trans hf_169
                  refine tpk_pos (tp_in hG y53 (by decide)) hf_179 (fun q180 eq180 => ?_)
                  refine va_getN (D := (dC, dI)) (ci := 10) (v := .ref (ρ (ρ h0 0) 18)) (C := RX10) (T := TX10) (N := 19) hx hb hts hfX10 hown hK hP q180 eq180 rfl 18 (by decide) (va_Nw.use rfl (hN.1 (.fieldLinkNest RX11 319 "ColdShips$World" "cargoes" "LColdShips$Rows;" "ColdShips") nzw_87)) (fun _ h9 => h9) rfl dX11_cargo_246 ?_
                  have hf_181 : f175 (ρ (ρ h0 0) 18) = .inr (4, [.int o101_x0, .ref (ρ (ρ (ρ h0 0) 18) 1), .int o101_x2]) := (hF176 _ (by rw [y72]; decide)).trans hf_171
                  refine tpk_pos (tp_in hG y72 (by decide)) hf_181 (fun q182 eq182 => ?_)
                  refine va_getN (D := (dC, dI)) (ci := 4) (v := .int o101_x2) (C := RX4) (T := TX4) (N := 3) hx hb hts hfX4 hown hK hP q182 eq182 rfl 2 (by decide) (va_Nw.use rfl (hN.1 (.fieldLinkNest RX11 242 "ColdShips$Rows" "size" "I" "ColdShips") nzw_4)) (fun _ h9 => h9) rfl dX11_cargo_249 ?_
                  have hFc := tp_fr hD hS hA
                  refine va_calli (va_runV (As := [.int o101_x2]) (rest := []) ⟨hx, hb, hml, hown, hts⟩ (t_X11_accept l dC dI _ Ω κ τ ν ρ L f175 hG hT h0 o101_x2 ht_h0) (cwV 1 hts gX11_cargo_X11_accept rfl rfl rfl ⟨rfl, pd_X11_accept⟩ ⟨Nat.le_of_ble_eq_true rfl, Nat.le_of_ble_eq_true rfl⟩) ⟨pz_blind, va_recv hK hP (ci := 11) (q0 := q178) rfl eq178, pz_pre hP hK hD hN⟩ rfl rfl hl.1 rfl (lv_room (Nat.le_of_ble_eq_true rfl)) dX11_cargo_252 ⟨Nat.le_of_ble_eq_true rfl, Nat.le_of_ble_eq_true rfl⟩) hS (fun q _ h => hFc q h) hFc (fun r183 f185 t H1 locs ht hvm hw184 hB hz1 hk1 hS => ?_)
                  refine tn_4 hw184 (fun hT hF186 hw184r hw184p => ?_); clear hw184
                  have hR := hR.then hF186 (by decide)
                  have hP := hB.1; rw [ht] at hP; have hD := tp_ad f185 hD; clear hB hFc hz1 hk1; subst ht; generalize t.heap = H at hP hS ⊢
                  exact W.iret (v := r183) hx hb hr (fun t ht hW => ⟨⟨r183, f185, rfl, ⟨hT, hR, trivial, trivial⟩, by rw [ht]; exact hP, va_K.moved hW.alike hK, hD⟩, hS.F ht⟩) hS.2.2 dX11_cargo_255
                · have ic96 : r92.toInt = (-1) := zi_nef rfl rfl c96
                  refine lv_aload_n hx hb dX11_cargo_107 rfl (lv_at hl 1 rfl) ?_
                  refine lv_bipush (v := (-5)) hx hb dX11_cargo_108 (by decide) ?_
                  have hf_187 : f94 h0 = .inr (11, [.ref (ρ h0 0), .ref (ρ h0 1), .ref (ρ h0 2), .ref (ρ h0 3), .ref (ρ h0 4), .ref (ρ h0 5), .int o59_x6]) := (hF95 _ (by rw [ht_h0]; decide)).trans hf_o59
                  refine tpk_pos (tp_in hG ht_h0 (by decide)) hf_187 (fun q188 eq188 => ?_)
                  have hFc := tp_fr hD hS hA
                  refine va_calli (va_runV (As := [.int (-5)]) (rest := []) ⟨hx, hb, hml, hown, hts⟩ (t_X11_refuse l dC dI _ Ω κ τ ν ρ L f94 hG hT h0 ((-5)) ht_h0) (cwV 1 hts gX11_cargo_X11_refuse rfl rfl rfl ⟨rfl, pd_X11_refuse⟩ ⟨Nat.le_of_ble_eq_true rfl, Nat.le_of_ble_eq_true rfl⟩) ⟨pz_blind, va_recv hK hP (ci := 11) (q0 := q188) rfl eq188, pz_pre hP hK hD hN⟩ rfl rfl hl.1 rfl (lv_room (Nat.le_of_ble_eq_true rfl)) dX11_cargo_110 ⟨Nat.le_of_ble_eq_true rfl, Nat.le_of_ble_eq_true rfl⟩) hS (fun q _ h => hFc q h) hFc (fun r189 f191 t H1 locs ht hvm hw190 hB hz1 hk1 hS => ?_)
                  refine tn_4 hw190 (fun hT hF192 hw190r hw190p => ?_); clear hw190
                  have hR := hR.then hF192 (by decide)
                  have hP := hB.1; rw [ht] at hP; have hD := tp_ad f191 hD; clear hB hFc hz1 hk1; subst ht; generalize t.heap = H at hP hS ⊢
                  exact W.iret (v := r189) hx hb hr (fun t ht hW => ⟨⟨r189, f191, rfl, ⟨hT, hR, trivial, trivial⟩, by rw [ht]; exact hP, va_K.moved hW.alike hK, hD⟩, hS.F ht⟩) hS.2.2 dX11_cargo_113
              · have ic87 : v.toInt = u.toInt := zi_nef rfl rfl c87
                refine lv_aload_n hx hb dX11_cargo_82 rfl (lv_at hl 0 rfl) ?_
                refine lv_bipush (v := (-3)) hx hb dX11_cargo_83 (by decide) ?_
                have hFc := tp_fr hD hS hA
                refine va_calli (va_runV (As := [.int (-3)]) (rest := []) ⟨hx, hb, hml, hown, hts⟩ (t_X11_refuse l dC dI _ Ω κ τ ν ρ L f hG hT h0 ((-3)) ht_h0) (cwV 1 hts gX11_cargo_X11_refuse rfl rfl rfl ⟨rfl, pd_X11_refuse⟩ ⟨Nat.le_of_ble_eq_true rfl, Nat.le_of_ble_eq_true rfl⟩) ⟨pz_blind, va_recv hK hP (ci := 11) (q0 := q60) rfl eq60, pz_pre hP hK hD hN⟩ rfl rfl hl.1 rfl (lv_room (Nat.le_of_ble_eq_true rfl)) dX11_cargo_85 ⟨Nat.le_of_ble_eq_true rfl, Nat.le_of_ble_eq_true rfl⟩) hS (fun q _ h => hFc q h) hFc (fun r193 f195 t H1 locs ht hvm hw194 hB hz1 hk1 hS => ?_)
                refine tn_4 hw194 (fun hT hF196 hw194r hw194p => ?_); clear hw194
                have hR := hR.then hF196 (by decide)
                have hP := hB.1; rw [ht] at hP; have hD := tp_ad f195 hD; clear hB hFc hz1 hk1; subst ht; generalize t.heap = H at hP hS ⊢
                exact W.iret (v := r193) hx hb hr (fun t ht hW => ⟨⟨r193, f195, rfl, ⟨hT, hR, trivial, trivial⟩, by rw [ht]; exact hP, va_K.moved hW.alike hK, hD⟩, hS.F ht⟩) hS.2.2 dX11_cargo_88
            · have ic85 : r83.toInt = 0 := zi_nef rfl rfl c85
              refine lv_aload_n hx hb dX11_cargo_70 rfl (lv_at hl 0 rfl) ?_
              refine lv_bipush (v := (-2)) hx hb dX11_cargo_71 (by decide) ?_
              have hFc := tp_fr hD hS hA
              refine va_calli (va_runV (As := [.int (-2)]) (rest := []) ⟨hx, hb, hml, hown, hts⟩ (t_X11_refuse l dC dI _ Ω κ τ ν ρ L f hG hT h0 ((-2)) ht_h0) (cwV 1 hts gX11_cargo_X11_refuse rfl rfl rfl ⟨rfl, pd_X11_refuse⟩ ⟨Nat.le_of_ble_eq_true rfl, Nat.le_of_ble_eq_true rfl⟩) ⟨pz_blind, va_recv hK hP (ci := 11) (q0 := q60) rfl eq60, pz_pre hP hK hD hN⟩ rfl rfl hl.1 rfl (lv_room (Nat.le_of_ble_eq_true rfl)) dX11_cargo_73 ⟨Nat.le_of_ble_eq_true rfl, Nat.le_of_ble_eq_true rfl⟩) hS (fun q _ h => hFc q h) hFc (fun r197 f199 t H1 locs ht hvm hw198 hB hz1 hk1 hS => ?_)
              refine tn_4 hw198 (fun hT hF200 hw198r hw198p => ?_); clear hw198
              have hR := hR.then hF200 (by decide)
              have hP := hB.1; rw [ht] at hP; have hD := tp_ad f199 hD; clear hB hFc hz1 hk1; subst ht; generalize t.heap = H at hP hS ⊢
              exact W.iret (v := r197) hx hb hr (fun t ht hW => ⟨⟨r197, f199, rfl, ⟨hT, hR, trivial, trivial⟩, by rw [ht]; exact hP, va_K.moved hW.alike hK, hD⟩, hS.F ht⟩) hS.2.2 dX11_cargo_76
        · have ic51 : r49.toInt = 0 := zi_nef rfl rfl c51
          refine lv_aload_n hx hb dX11_cargo_42 rfl (lv_at hl 0 rfl) ?_
          refine lv_iconst (v := (-1)) hx hb dX11_cargo_43 (by decide) ?_
          refine tgk_12 hG ht_h0 (fun y201 y202 y203 y204 y205 y206 => ?_)
          refine tpk_12 hT ht_h0 (fun o207_x6 hf_o207 => ?_)
          refine tpk_pos (tp_in hG ht_h0 (by decide)) hf_o207 (fun q208 eq208 => ?_)
          have hFc := tp_fr hD hS hA
          refine va_calli (va_runV (As := [.int (-1)]) (rest := []) ⟨hx, hb, hml, hown, hts⟩ (t_X11_refuse l dC dI _ Ω κ τ ν ρ L f hG hT h0 ((-1)) ht_h0) (cwV 1 hts gX11_cargo_X11_refuse rfl rfl rfl ⟨rfl, pd_X11_refuse⟩ ⟨Nat.le_of_ble_eq_true rfl, Nat.le_of_ble_eq_true rfl⟩) ⟨pz_blind, va_recv hK hP (ci := 11) (q0 := q208) rfl eq208, pz_pre hP hK hD hN⟩ rfl rfl hl.1 rfl (lv_room (Nat.le_of_ble_eq_true rfl)) dX11_cargo_44 ⟨Nat.le_of_ble_eq_true rfl, Nat.le_of_ble_eq_true rfl⟩) hS (fun q _ h => hFc q h) hFc (fun r209 f211 t H1 locs ht hvm hw210 hB hz1 hk1 hS => ?_)
          refine tn_4 hw210 (fun hT hF212 hw210r hw210p => ?_); clear hw210
          have hR := hR.then hF212 (by decide)
          have hP := hB.1; rw [ht] at hP; have hD := tp_ad f211 hD; clear hB hFc hz1 hk1; subst ht; generalize t.heap = H at hP hS ⊢
          exact W.iret (v := r209) hx hb hr (fun t ht hW => ⟨⟨r209, f211, rfl, ⟨hT, hR, trivial, trivial⟩, by rw [ht]; exact hP, va_K.moved hW.alike hK, hD⟩, hS.F ht⟩) hS.2.2 dX11_cargo_47
set_option maxHeartbeats 4000000 in
set_option maxRecDepth 100000 in
theorem t_X11_clear (l : Launch) (dC : Nat → ClassId) (dI : Nat → Nat → Nat) (sz : Nat) (Ω : Nat → (Nat → Nat) → va_E → Prop) (κ : Nat → ClassId) (τ ν : Nat → Nat) (ρ : Nat → Nat → Nat) (L : List Nat) (f : Nat → va_E) (hG : tp_G τ ν ρ L) (hT : tp_T Ω κ τ ν ρ f) (h0 : Nat) (ht_h0 : τ h0 = 12) : Met l yX11_clear wqX11_clear ({ frames := 2, cells := 0, slots := 0, locals := 400 }) (va_Pc [.ref h0] (pz_B dC dI (tp_K κ) (va_pl L f) sz)) (va_Qi (fun (r : Int32) (f1 : Nat → va_E) => tp_T Ω κ τ ν ρ f1 ∧ tp_F τ [2, 3, 4, 5, 6, 7, 8, 9, 10, 11, 12, 20, 21, 22, 26, 27, 28] f f1 ∧ True ∧ True) (fun (f1 : Nat → va_E) (t : State) => pz_E dC dI (tp_K κ) (va_A (va_pl L f) sz) (va_pl L f1) t) (va_A (va_pl L f) sz)) 0 0 (va_A (va_pl L f) sz) := by
  refine Met.ofW (cc := cX11_clear) (maxL := 2) (ret := some .int) (by decide) rfl ?_
  intro p e s m args below meth c s₁ B hml hv
  obtain ⟨rfl, hsz, hP, hK, hD0, hN⟩ := hv
  have hx := B.exec
  have hb := B.bytes
  have hr := B.returns
  have hts := fun (w : Cond) (h : w ∈ WALL) => atoms_spec (ws := wqX11_clear) B.pre w (List.mem_cons_of_mem _ h)
  have hown : s.vm.findClass RX11 = some m.cls := findClass_of_methodNamed B.named
  have hlocks := B.notSynchronized
  subst hsz
  have hD := hD0.self (sz := s.heap.size)
  generalize hAe : va_A (va_pl L f) s.heap.size = A at hD ⊢
  have hA : ∀ q : Nat, s.heap.size ≤ q → A q := fun q h => by rw [← hAe]; exact Or.inr h
  have hS : va_S A s.heap s.heap [] := va_S.rf
  have hR : tp_F τ [2, 3, 4, 5, 6, 7, 8, 9, 10, 11, 12, 20, 21, 22, 26, 27, 28] f f := tp_F.rf
  have hl := lv_entry ([.ref h0]) (n := 2) (Nat.le_of_ble_eq_true rfl)
  rw [lg_entry_eq]
  generalize (lg_sl ([.ref h0]) ++ List.replicate (2 - (lg_sl ([.ref h0])).length) Slot.unset).toArray = ls at hl ⊢
  have hl : lv_has ls 2 [(0, .ref h0)] := hl
  refine lv_aload_n hx hb dX11_clear_0 rfl (lv_at hl 0 rfl) ?_
  refine tgk_12 hG ht_h0 (fun y1 y2 y3 y4 y5 y6 => ?_)
  refine tpk_12 hT ht_h0 (fun o7_x6 hf_o7 => ?_)
  refine tpk_pos (tp_in hG ht_h0 (by decide)) hf_o7 (fun q8 eq8 => ?_)
  refine va_get (D := (dC, dI)) (ci := 11) (v := .ref (ρ h0 0)) (C := RX11) (T := TX11) (N := 7) hx hb hts hfX11 hown hK hP q8 eq8 rfl 0 (by decide) (hts (.fieldLink RX11 10 "ColdShips" "world" "LColdShips$World;") wa_15) (fun _ h9 => h9) rfl dX11_clear_1 ?_
  refine tgk_11 hG y1 (fun y9 y9n y10 y10n y11 y12 y13 y14 y15 y16 y17 y17w y17m y18 y18w y18m y19 y19w y19m y20 y20w y20m => ?_)
  refine tpk_11 hT y1 (fun o21_x0 o21_x1 o21_x2 o21_x3 o21_x4 o21_x5 o21_x6 hf_o21 ro21_0 ro21_1 ro21_2 ro21_3 => ?_)
  refine tpk_pos (tp_in hG y1 (by decide)) hf_o21 (fun q22 eq22 => ?_)
  refine va_getN (D := (dC, dI)) (ci := 10) (v := .ref (ρ (ρ h0 0) 18)) (C := RX10) (T := TX10) (N := 19) hx hb hts hfX10 hown hK hP q22 eq22 rfl 18 (by decide) (va_Nw.use rfl (hN.1 (.fieldLinkNest RX11 319 "ColdShips$World" "cargoes" "LColdShips$Rows;" "ColdShips") nzw_87)) (fun _ h9 => h9) rfl dX11_clear_4 ?_
  refine tgk_5 hG y20 (fun y23 y23n y24a y24b y24c => ?_)
  refine tpk_5 hT y20 (fun o25_x0 o25_x2 hf_o25 ro25_0 ro25_1 => ?_)
  refine tpk_pos (tp_in hG y20 (by decide)) hf_o25 (fun q26 eq26 => ?_)
  refine va_getN (D := (dC, dI)) (ci := 4) (v := .int o25_x2) (C := RX4) (T := TX4) (N := 3) hx hb hts hfX4 hown hK hP q26 eq26 rfl 2 (by decide) (va_Nw.use rfl (hN.1 (.fieldLinkNest RX11 242 "ColdShips$Rows" "size" "I" "ColdShips") nzw_4)) (fun _ h9 => h9) rfl dX11_clear_7 ?_
  refine lv_istore_n (lv' := [(1, .int o25_x2), (0, .ref h0)]) hx hb dX11_clear_10 rfl hl (by decide) rfl (fun ls hl => ?_)
  refine lv_aload_n hx hb dX11_clear_11 rfl (lv_at hl 1 rfl) ?_
  refine va_get (D := (dC, dI)) (ci := 11) (v := .ref (ρ h0 0)) (C := RX11) (T := TX11) (N := 7) hx hb hts hfX11 hown hK hP q8 eq8 rfl 0 (by decide) (hts (.fieldLink RX11 10 "ColdShips" "world" "LColdShips$World;") wa_15) (fun _ h9 => h9) rfl dX11_clear_12 ?_
  refine va_getN (D := (dC, dI)) (ci := 10) (v := .ref (ρ (ρ h0 0) 18)) (C := RX10) (T := TX10) (N := 19) hx hb hts hfX10 hown hK hP q22 eq22 rfl 18 (by decide) (va_Nw.use rfl (hN.1 (.fieldLinkNest RX11 319 "ColdShips$World" "cargoes" "LColdShips$Rows;" "ColdShips") nzw_87)) (fun _ h9 => h9) rfl dX11_clear_15 ?_
  refine lv_iconst (v := 0) hx hb dX11_clear_18 (by decide) ?_
  refine va_putN (D := (dC, dI)) (ci := 4) (v := .int 0) (ty := .int) (C := RX4) (T := TX4) (N := 3) hx hb hts hfX4 tyX4 tyX4_ok nmX4 hown hK hP hD hS q26 eq26 rfl 2 (by decide) (va_Nw.use rfl (hN.1 (.fieldLinkNest RX11 242 "ColdShips$Rows" "size" "I" "ColdShips") nzw_4)) (fun _ h9 => h9) rfl (tyX4_ok 2 (by decide)) rfl rfl (Nat.le_of_ble_eq_true rfl) dX11_clear_19 (tp_k (.inr (4, [.int o25_x0, .ref (ρ (ρ (ρ h0 0) 18) 1), .int 0])) hD (tp_in hG y20 (by decide)) eq26 (fun f27 H locs hP hD hS g29 k28 => ?_))
  have hT := hT.up y20 g29 k28 ⟨_, _, rfl, (by first | decide | omega | (have : (0 : Int32).toInt = 0 := rfl; omega)), (by first | decide | omega | (have : (0 : Int32).toInt = 0 := rfl; omega))⟩
  have hR := hR.up y20 (by decide) k28
  refine lv_iload_n hx hb dX11_clear_22 rfl (lv_at hl 0 rfl) ?_
  exact W.iret (v := o25_x2) hx hb hr (fun t ht hW => ⟨⟨o25_x2, f27, rfl, ⟨hT, hR, trivial, trivial⟩, by rw [ht]; exact hP, va_K.moved hW.alike hK, hD⟩, hS.F ht⟩) hS.2.2 dX11_clear_23
set_option maxHeartbeats 4000000 in
set_option maxRecDepth 100000 in
theorem t_X11_best (l : Launch) (dC : Nat → ClassId) (dI : Nat → Nat → Nat) (sz : Nat) (Ω : Nat → (Nat → Nat) → va_E → Prop) (κ : Nat → ClassId) (τ ν : Nat → Nat) (ρ : Nat → Nat → Nat) (L : List Nat) (f : Nat → va_E) (hG : tp_G τ ν ρ L) (hT : tp_T Ω κ τ ν ρ f) (h0 : Nat) (v : Int32) (ht_h0 : τ h0 = 12) : Met l yX11_best wqX11_best ({ frames := 12, cells := 0, slots := 0, locals := 4400 }) (va_Pc [.ref h0, .int v] (pz_B dC dI (tp_K κ) (va_pl L f) sz)) (va_Ql (fun (r : Int64) (f1 : Nat → va_E) => tp_T Ω κ τ ν ρ f1 ∧ tp_F τ [2, 3, 4, 5, 6, 7, 8, 9, 10, 11, 12, 20, 21, 22, 26, 27, 28] f f1 ∧ True ∧ True) (fun (f1 : Nat → va_E) (t : State) => pz_E dC dI (tp_K κ) (va_A (va_pl L f) sz) (va_pl L f1) t) (va_A (va_pl L f) sz)) 0 0 (va_A (va_pl L f) sz) := by
  refine Met.ofW (cc := cX11_best) (maxL := 2) (ret := some .long) (by decide) rfl ?_
  intro p e s m args below meth c s₁ B hml hv
  obtain ⟨rfl, hsz, hP, hK, hD0, hN⟩ := hv
  have hx := B.exec
  have hb := B.bytes
  have hr := B.returns
  have hts := fun (w : Cond) (h : w ∈ WALL) => atoms_spec (ws := wqX11_best) B.pre w (List.mem_cons_of_mem _ h)
  have hown : s.vm.findClass RX11 = some m.cls := findClass_of_methodNamed B.named
  have hlocks := B.notSynchronized
  subst hsz
  have hD := hD0.self (sz := s.heap.size)
  generalize hAe : va_A (va_pl L f) s.heap.size = A at hD ⊢
  have hA : ∀ q : Nat, s.heap.size ≤ q → A q := fun q h => by rw [← hAe]; exact Or.inr h
  have hS : va_S A s.heap s.heap [] := va_S.rf
  have hR : tp_F τ [2, 3, 4, 5, 6, 7, 8, 9, 10, 11, 12, 20, 21, 22, 26, 27, 28] f f := tp_F.rf
  have hl := lv_entry ([.ref h0, .int v]) (n := 2) (Nat.le_of_ble_eq_true rfl)
  rw [lg_entry_eq]
  generalize (lg_sl ([.ref h0, .int v]) ++ List.replicate (2 - (lg_sl ([.ref h0, .int v])).length) Slot.unset).toArray = ls at hl ⊢
  have hl : lv_has ls 2 [(0, .ref h0), (1, .int v)] := hl
  refine lv_iload_n hx hb dX11_best_0 rfl (lv_at hl 1 rfl) ?_
  refine pz_calli (va_runS (As := [.int v]) (rest := []) ⟨hx, hb, hml, hown, hts⟩ (t_X11_isHour l dC dI _ v (v.toInt) rfl) (va_cwS 1 hts gX11_best_X11_isHour rfl rfl rfl pd_X11_isHour ⟨Nat.le_of_ble_eq_true rfl, Nat.le_of_ble_eq_true rfl⟩) ⟨pz_blind, pz_pre pz_P0 (hK.sub (tys' := []) [] rfl) (pz_D0 (A := fun _ => True)) hN⟩ rfl rfl hl.1 rfl (lv_room (Nat.le_of_ble_eq_true rfl)) dX11_best_1 ⟨Nat.le_of_ble_eq_true rfl, Nat.le_of_ble_eq_true rfl⟩) (fun r1 hw2 => ?_)
  obtain ⟨hw2r, hw2p⟩ := hw2
  refine lv_if_eq (tgt := 18) hx hb dX11_best_4 (by decide) (fun c3 => ?_) (fun c3 => ?_)
  · have ic3 : r1.toInt = 0 := zi_eq rfl rfl c3
    refine lv_ldc2 (own := RX11) (v := (-1)) hx hb hown (hts (.constantLong RX11 198 (-1)) wa_660) dX11_best_18 ?_
    exact W.lret (v := (-1)) hx hb hr (fun t ht hW => ⟨⟨(-1), f, rfl, ⟨hT, hR, trivial, trivial⟩, by rw [ht]; exact hP, va_K.moved hW.alike hK, hD⟩, hS.F ht⟩) hS.2.2 dX11_best_21
  · have ic3 : r1.toInt ≠ 0 := zi_eqf rfl rfl c3
    have p4 : 0 ≤ (v.toInt) ∧ (v.toInt) ≤ 2399 := (tp_cond.yes hw2p) (by omega)
    refine lv_aload_n hx hb dX11_best_7 rfl (lv_at hl 0 rfl) ?_
    refine tgk_12 hG ht_h0 (fun y5 y6 y7 y8 y9 y10 => ?_)
    refine tpk_12 hT ht_h0 (fun o11_x6 hf_o11 => ?_)
    refine tpk_pos (tp_in hG ht_h0 (by decide)) hf_o11 (fun q12 eq12 => ?_)
    refine va_get (D := (dC, dI)) (ci := 11) (v := .ref (ρ h0 5)) (C := RX11) (T := TX11) (N := 7) hx hb hts hfX11 hown hK hP q12 eq12 rfl 5 (by decide) (hts (.fieldLink RX11 46 "ColdShips" "planner" "LColdShips$Planner;") wa_32) (fun _ h9 => h9) rfl dX11_best_8 ?_
    refine lv_iload_n hx hb dX11_best_11 rfl (lv_at hl 1 rfl) ?_
    refine tgk_2 hG y10 (fun y13 y14 y14n y15 y15n y16 y16n y17 y17n y18 y18n y19 y19n y20 y20n y21 y21n y22 y22n => ?_)
    refine tpk_2 hT y10 (fun o23_x5 o23_x6 o23_x7 o23_x8 o23_x9 hf_o23 ro23_0 => ?_)
    refine tpk_pos (tp_in hG y10 (by decide)) hf_o23 (fun q24 eq24 => ?_)
    have hFc := tp_fr hD hS hA
    refine va_calll (va_runV (As := [.int v]) (rest := []) ⟨hx, hb, hml, hown, hts⟩ (t_X1_findBest l dC dI _ Ω κ τ ν ρ L f hG hT (ρ h0 5) v y10) (cwV 1 hts gX11_best_X1_findBest rfl rfl rfl ⟨rfl, pd_X1_findBest⟩ ⟨Nat.le_of_ble_eq_true rfl, Nat.le_of_ble_eq_true rfl⟩) ⟨pz_blind, va_recv hK hP (ci := 1) (q0 := q24) rfl eq24, pz_pre hP hK hD hN⟩ rfl rfl hl.1 rfl (lv_room (Nat.le_of_ble_eq_true rfl)) dX11_best_12 ⟨Nat.le_of_ble_eq_true rfl, Nat.le_of_ble_eq_true rfl⟩) hS (fun q _ h => hFc q h) hFc (fun r25 f27 t H1 locs ht hvm hw26 hB hz1 hk1 hS => ?_)
    refine tn_4 hw26 (fun hT hF28 hw26r hw26p => ?_); clear hw26
    have hR := hR.then hF28 (by decide)
    have hP := hB.1; rw [ht] at hP; have hD := tp_ad f27 hD; clear hB hFc hz1 hk1; subst ht; generalize t.heap = H at hP hS ⊢
    refine lv_goto (tgt := 21) hx hb dX11_best_15 (by decide) ?_
    exact W.lret (v := r25) hx hb hr (fun t ht hW => ⟨⟨r25, f27, rfl, ⟨hT, hR, trivial, trivial⟩, by rw [ht]; exact hP, va_K.moved hW.alike hK, hD⟩, hS.F ht⟩) hS.2.2 dX11_best_21
set_option maxHeartbeats 4000000 in
set_option maxRecDepth 100000 in
theorem t_X11_voyage (l : Launch) (dC : Nat → ClassId) (dI : Nat → Nat → Nat) (sz : Nat) (Ω : Nat → (Nat → Nat) → va_E → Prop) (κ : Nat → ClassId) (τ ν : Nat → Nat) (ρ : Nat → Nat → Nat) (L : List Nat) (f : Nat → va_E) (hG : tp_G τ ν ρ L) (hT : tp_T Ω κ τ ν ρ f) (h0 : Nat) (v : Int32) (u : Int32) (ht_h0 : τ h0 = 12) : Met l yX11_voyage wqX11_voyage ({ frames := 3, cells := 0, slots := 0, locals := 800 }) (va_Pc [.ref h0, .int v, .int u] (pz_B dC dI (tp_K κ) (va_pl L f) sz)) (va_Ql (fun (r : Int64) (f1 : Nat → va_E) => tp_T Ω κ τ ν ρ f1 ∧ tp_F τ [2, 3, 4, 5, 6, 7, 8, 9, 10, 11, 12, 20, 21, 22, 26, 27, 28] f f1 ∧ True ∧ True) (fun (f1 : Nat → va_E) (t : State) => pz_E dC dI (tp_K κ) (va_A (va_pl L f) sz) (va_pl L f1) t) (va_A (va_pl L f) sz)) 0 0 (va_A (va_pl L f) sz) := by
  refine Met.ofW (cc := cX11_voyage) (maxL := 3) (ret := some .long) (by decide) rfl ?_
  intro p e s m args below meth c s₁ B hml hv
  obtain ⟨rfl, hsz, hP, hK, hD0, hN⟩ := hv
  have hx := B.exec
  have hb := B.bytes
  have hr := B.returns
  have hts := fun (w : Cond) (h : w ∈ WALL) => atoms_spec (ws := wqX11_voyage) B.pre w (List.mem_cons_of_mem _ h)
  have hown : s.vm.findClass RX11 = some m.cls := findClass_of_methodNamed B.named
  have hlocks := B.notSynchronized
  subst hsz
  have hD := hD0.self (sz := s.heap.size)
  generalize hAe : va_A (va_pl L f) s.heap.size = A at hD ⊢
  have hA : ∀ q : Nat, s.heap.size ≤ q → A q := fun q h => by rw [← hAe]; exact Or.inr h
  have hS : va_S A s.heap s.heap [] := va_S.rf
  have hR : tp_F τ [2, 3, 4, 5, 6, 7, 8, 9, 10, 11, 12, 20, 21, 22, 26, 27, 28] f f := tp_F.rf
  have hl := lv_entry ([.ref h0, .int v, .int u]) (n := 3) (Nat.le_of_ble_eq_true rfl)
  rw [lg_entry_eq]
  generalize (lg_sl ([.ref h0, .int v, .int u]) ++ List.replicate (3 - (lg_sl ([.ref h0, .int v, .int u])).length) Slot.unset).toArray = ls at hl ⊢
  have hl : lv_has ls 3 [(0, .ref h0), (1, .int v), (2, .int u)] := hl
  refine lv_iload_n hx hb dX11_voyage_0 rfl (lv_at hl 1 rfl) ?_
  refine lv_iconst (v := 0) hx hb dX11_voyage_1 (by decide) ?_
  refine lv_aload_n hx hb dX11_voyage_2 rfl (lv_at hl 0 rfl) ?_
  refine tgk_12 hG ht_h0 (fun y1 y2 y3 y4 y5 y6 => ?_)
  refine tpk_12 hT ht_h0 (fun o7_x6 hf_o7 => ?_)
  refine tpk_pos (tp_in hG ht_h0 (by decide)) hf_o7 (fun q8 eq8 => ?_)
  refine va_get (D := (dC, dI)) (ci := 11) (v := .ref (ρ h0 5)) (C := RX11) (T := TX11) (N := 7) hx hb hts hfX11 hown hK hP q8 eq8 rfl 5 (by decide) (hts (.fieldLink RX11 46 "ColdShips" "planner" "LColdShips$Planner;") wa_32) (fun _ h9 => h9) rfl dX11_voyage_3 ?_
  refine tgk_2 hG y6 (fun y9 y10 y10n y11 y11n y12 y12n y13 y13n y14 y14n y15 y15n y16 y16n y17 y17n y18 y18n => ?_)
  refine tpk_2 hT y6 (fun o19_x5 o19_x6 o19_x7 o19_x8 o19_x9 hf_o19 ro19_0 => ?_)
  refine tpk_pos (tp_in hG y6 (by decide)) hf_o19 (fun q20 eq20 => ?_)
  refine va_getN (D := (dC, dI)) (ci := 1) (v := .int o19_x9) (C := RX1) (T := TX1) (N := 15) hx hb hts hfX1 hown hK hP q20 eq20 rfl 9 (by decide) (va_Nw.use rfl (hN.1 (.fieldLinkNest RX11 325 "ColdShips$Planner" "planned" "I" "ColdShips") nzw_93)) (fun _ h9 => h9) rfl dX11_voyage_6 ?_
  refine lv_iconst (v := 1) hx hb dX11_voyage_9 (by decide) ?_
  refine lv_isub hx hb dX11_voyage_10 ?_
  refine lv_topi (fun z21 ez21 => ?_)
  have iz21 : z21.toInt = o19_x9.toInt - 1 := zi_sub ez21 rfl rfl (by omega) (by omega)
  refine pz_calli (va_runS (As := [.int v, .int 0, .int z21]) (rest := []) ⟨hx, hb, hml, hown, hts⟩ (t_X11_within l dC dI _ v (0) z21 (v.toInt) (0) (z21.toInt) rfl rfl rfl) (va_cwS 3 hts gX11_voyage_X11_within rfl rfl rfl pd_X11_within ⟨Nat.le_of_ble_eq_true rfl, Nat.le_of_ble_eq_true rfl⟩) ⟨pz_blind, pz_pre pz_P0 (hK.sub (tys' := []) [] rfl) (pz_D0 (A := fun _ => True)) hN⟩ rfl rfl hl.1 rfl (lv_room (Nat.le_of_ble_eq_true rfl)) dX11_voyage_11 ⟨Nat.le_of_ble_eq_true rfl, Nat.le_of_ble_eq_true rfl⟩) (fun r22 hw23 => ?_)
  obtain ⟨hw23r, hw23p⟩ := hw23
  refine lv_if_ne (tgt := 21) hx hb dX11_voyage_14 (by decide) (fun c24 => ?_) (fun c24 => ?_)
  · have ic24 : r22.toInt ≠ 0 := zi_ne rfl rfl c24
    have p25 : (0) ≤ (v.toInt) ∧ (v.toInt) ≤ (z21.toInt) := (tp_cond.yes hw23p) (by omega)
    refine lv_iload_n hx hb dX11_voyage_21 rfl (lv_at hl 2 rfl) ?_
    refine lv_if_ne (tgt := 36) hx hb dX11_voyage_22 (by decide) (fun c26 => ?_) (fun c26 => ?_)
    · have ic26 : u.toInt ≠ 0 := zi_ne rfl rfl c26
      refine lv_aload_n hx hb dX11_voyage_36 rfl (lv_at hl 0 rfl) ?_
      refine va_get (D := (dC, dI)) (ci := 11) (v := .ref (ρ h0 5)) (C := RX11) (T := TX11) (N := 7) hx hb hts hfX11 hown hK hP q8 eq8 rfl 5 (by decide) (hts (.fieldLink RX11 46 "ColdShips" "planner" "LColdShips$Planner;") wa_32) (fun _ h9 => h9) rfl dX11_voyage_37 ?_
      refine va_getN (D := (dC, dI)) (ci := 1) (v := .ref (ρ (ρ h0 5) 10)) (C := RX1) (T := TX1) (N := 15) hx hb hts hfX1 hown hK hP q20 eq20 rfl 10 (by decide) (va_Nw.use rfl (hN.1 (.fieldLinkNest RX11 328 "ColdShips$Planner" "shipOf" "[I" "ColdShips") nzw_94)) (fun _ h9 => h9) rfl dX11_voyage_40 ?_
      refine lv_iload_n hx hb dX11_voyage_43 rfl (lv_at hl 1 rfl) ?_
      refine tpk_20 hT y14 y14n (fun g28 hf_o27 => ?_)
      refine tpk_pos (tp_in hG y14 (by decide)) hf_o27 (fun q29 eq29 => ?_)
      refine va_iald hx hb hK hP q29 0 eq29 rfl (vp_in_iff.mpr ⟨by omega, by omega⟩) dX11_voyage_44 ?_
      refine lv_topi (fun z30 ez30 => ?_)
      refine lv_iconst (v := (-1)) hx hb dX11_voyage_45 (by decide) ?_
      refine lv_icmp_ne (tgt := 53) hx hb dX11_voyage_46 (by decide) (fun c31 => ?_) (fun c31 => ?_)
      · have ic31 : z30.toInt ≠ (-1) := zi_ne rfl rfl c31
        refine lv_iload_n hx hb dX11_voyage_53 rfl (lv_at hl 2 rfl) ?_
        rcases zi_sw u 1 4 with h32 | h32
        · refine lv_tableOut (tgt := 127) hx hb dX11_voyage_54 h32 (by decide) ?_
          refine lv_ldc2 (own := RX11) (v := (-2000000000000000)) hx hb hown (hts (.constantLong RX11 281 (-2000000000000000)) wa_1124) dX11_voyage_127 ?_
          exact W.lret (v := (-2000000000000000)) hx hb hr (fun t ht hW => ⟨⟨(-2000000000000000), f, rfl, ⟨hT, hR, trivial, trivial⟩, by rw [ht]; exact hP, va_K.moved hW.alike hK, hD⟩, hS.F ht⟩) hS.2.2 dX11_voyage_130
        · rcases (show u.toInt = 1 ∨ u.toInt = 2 ∨ u.toInt = 3 ∨ u.toInt = 4 by omega) with h32k | h32k | h32k | h32k
          · refine lv_tableIn (tgt := 84) hx hb dX11_voyage_54 (by omega) (by omega) (by rw [h32k]; rfl) (by decide) ?_
            refine lv_aload_n hx hb dX11_voyage_84 rfl (lv_at hl 0 rfl) ?_
            refine va_get (D := (dC, dI)) (ci := 11) (v := .ref (ρ h0 5)) (C := RX11) (T := TX11) (N := 7) hx hb hts hfX11 hown hK hP q8 eq8 rfl 5 (by decide) (hts (.fieldLink RX11 46 "ColdShips" "planner" "LColdShips$Planner;") wa_32) (fun _ h9 => h9) rfl dX11_voyage_85 ?_
            refine va_getN (D := (dC, dI)) (ci := 1) (v := .ref (ρ (ρ h0 5) 11)) (C := RX1) (T := TX1) (N := 15) hx hb hts hfX1 hown hK hP q20 eq20 rfl 11 (by decide) (va_Nw.use rfl (hN.1 (.fieldLinkNest RX11 331 "ColdShips$Planner" "placeOf" "[I" "ColdShips") nzw_95)) (fun _ h9 => h9) rfl dX11_voyage_88 ?_
            refine lv_iload_n hx hb dX11_voyage_91 rfl (lv_at hl 1 rfl) ?_
            refine tpk_20 hT y15 y15n (fun g34 hf_o33 => ?_)
            refine tpk_pos (tp_in hG y15 (by decide)) hf_o33 (fun q35 eq35 => ?_)
            refine va_iald hx hb hK hP q35 0 eq35 rfl (vp_in_iff.mpr ⟨by omega, by omega⟩) dX11_voyage_92 ?_
            refine lv_topi (fun z36 ez36 => ?_)
            refine lv_i2l hx hb dX11_voyage_93 rfl ?_
            exact W.lret (v := z36.toInt64) hx hb hr (fun t ht hW => ⟨⟨z36.toInt64, f, rfl, ⟨hT, hR, trivial, trivial⟩, by rw [ht]; exact hP, va_K.moved hW.alike hK, hD⟩, hS.F ht⟩) hS.2.2 dX11_voyage_94
          · refine lv_tableIn (tgt := 95) hx hb dX11_voyage_54 (by omega) (by omega) (by rw [h32k]; rfl) (by decide) ?_
            refine lv_aload_n hx hb dX11_voyage_95 rfl (lv_at hl 0 rfl) ?_
            refine va_get (D := (dC, dI)) (ci := 11) (v := .ref (ρ h0 5)) (C := RX11) (T := TX11) (N := 7) hx hb hts hfX11 hown hK hP q8 eq8 rfl 5 (by decide) (hts (.fieldLink RX11 46 "ColdShips" "planner" "LColdShips$Planner;") wa_32) (fun _ h9 => h9) rfl dX11_voyage_96 ?_
            refine va_getN (D := (dC, dI)) (ci := 1) (v := .ref (ρ (ρ h0 5) 12)) (C := RX1) (T := TX1) (N := 15) hx hb hts hfX1 hown hK hP q20 eq20 rfl 12 (by decide) (va_Nw.use rfl (hN.1 (.fieldLinkNest RX11 334 "ColdShips$Planner" "loadOf" "[I" "ColdShips") nzw_96)) (fun _ h9 => h9) rfl dX11_voyage_99 ?_
            refine lv_iload_n hx hb dX11_voyage_102 rfl (lv_at hl 1 rfl) ?_
            refine tpk_20 hT y16 y16n (fun g38 hf_o37 => ?_)
            refine tpk_pos (tp_in hG y16 (by decide)) hf_o37 (fun q39 eq39 => ?_)
            refine va_iald hx hb hK hP q39 0 eq39 rfl (vp_in_iff.mpr ⟨by omega, by omega⟩) dX11_voyage_103 ?_
            refine lv_topi (fun z40 ez40 => ?_)
            refine lv_i2l hx hb dX11_voyage_104 rfl ?_
            exact W.lret (v := z40.toInt64) hx hb hr (fun t ht hW => ⟨⟨z40.toInt64, f, rfl, ⟨hT, hR, trivial, trivial⟩, by rw [ht]; exact hP, va_K.moved hW.alike hK, hD⟩, hS.F ht⟩) hS.2.2 dX11_voyage_105
          · refine lv_tableIn (tgt := 106) hx hb dX11_voyage_54 (by omega) (by omega) (by rw [h32k]; rfl) (by decide) ?_
            refine lv_aload_n hx hb dX11_voyage_106 rfl (lv_at hl 0 rfl) ?_
            refine va_get (D := (dC, dI)) (ci := 11) (v := .ref (ρ h0 5)) (C := RX11) (T := TX11) (N := 7) hx hb hts hfX11 hown hK hP q8 eq8 rfl 5 (by decide) (hts (.fieldLink RX11 46 "ColdShips" "planner" "LColdShips$Planner;") wa_32) (fun _ h9 => h9) rfl dX11_voyage_107 ?_
            refine va_getN (D := (dC, dI)) (ci := 1) (v := .ref (ρ (ρ h0 5) 13)) (C := RX1) (T := TX1) (N := 15) hx hb hts hfX1 hown hK hP q20 eq20 rfl 13 (by decide) (va_Nw.use rfl (hN.1 (.fieldLinkNest RX11 337 "ColdShips$Planner" "landOf" "[I" "ColdShips") nzw_97)) (fun _ h9 => h9) rfl dX11_voyage_110 ?_
            refine lv_iload_n hx hb dX11_voyage_113 rfl (lv_at hl 1 rfl) ?_
            refine tpk_20 hT y17 y17n (fun g42 hf_o41 => ?_)
            refine tpk_pos (tp_in hG y17 (by decide)) hf_o41 (fun q43 eq43 => ?_)
            refine va_iald hx hb hK hP q43 0 eq43 rfl (vp_in_iff.mpr ⟨by omega, by omega⟩) dX11_voyage_114 ?_
            refine lv_topi (fun z44 ez44 => ?_)
            refine lv_i2l hx hb dX11_voyage_115 rfl ?_
            exact W.lret (v := z44.toInt64) hx hb hr (fun t ht hW => ⟨⟨z44.toInt64, f, rfl, ⟨hT, hR, trivial, trivial⟩, by rw [ht]; exact hP, va_K.moved hW.alike hK, hD⟩, hS.F ht⟩) hS.2.2 dX11_voyage_116
          · refine lv_tableIn (tgt := 117) hx hb dX11_voyage_54 (by omega) (by omega) (by rw [h32k]; rfl) (by decide) ?_
            refine lv_aload_n hx hb dX11_voyage_117 rfl (lv_at hl 0 rfl) ?_
            refine va_get (D := (dC, dI)) (ci := 11) (v := .ref (ρ h0 5)) (C := RX11) (T := TX11) (N := 7) hx hb hts hfX11 hown hK hP q8 eq8 rfl 5 (by decide) (hts (.fieldLink RX11 46 "ColdShips" "planner" "LColdShips$Planner;") wa_32) (fun _ h9 => h9) rfl dX11_voyage_118 ?_
            refine va_getN (D := (dC, dI)) (ci := 1) (v := .ref (ρ (ρ h0 5) 14)) (C := RX1) (T := TX1) (N := 15) hx hb hts hfX1 hown hK hP q20 eq20 rfl 14 (by decide) (va_Nw.use rfl (hN.1 (.fieldLinkNest RX11 340 "ColdShips$Planner" "worthOf" "[J" "ColdShips") nzw_98)) (fun _ h9 => h9) rfl dX11_voyage_121 ?_
            refine lv_iload_n hx hb dX11_voyage_124 rfl (lv_at hl 1 rfl) ?_
            refine tpk_21 hT y18 y18n (fun g46 hf_o45 => ?_)
            refine tpk_pos (tp_in hG y18 (by decide)) hf_o45 (fun q47 eq47 => ?_)
            refine va_lald hx hb hK hP q47 1 eq47 rfl (vp_in_iff.mpr ⟨by omega, by omega⟩) dX11_voyage_125 ?_
            refine lv_topl (fun z48 ez48 => ?_)
            exact W.lret (v := z48) hx hb hr (fun t ht hW => ⟨⟨z48, f, rfl, ⟨hT, hR, trivial, trivial⟩, by rw [ht]; exact hP, va_K.moved hW.alike hK, hD⟩, hS.F ht⟩) hS.2.2 dX11_voyage_126
      · have ic31 : z30.toInt = (-1) := zi_nef rfl rfl c31
        refine lv_ldc2 (own := RX11) (v := (-2000000000000000)) hx hb hown (hts (.constantLong RX11 281 (-2000000000000000)) wa_1124) dX11_voyage_49 ?_
        exact W.lret (v := (-2000000000000000)) hx hb hr (fun t ht hW => ⟨⟨(-2000000000000000), f, rfl, ⟨hT, hR, trivial, trivial⟩, by rw [ht]; exact hP, va_K.moved hW.alike hK, hD⟩, hS.F ht⟩) hS.2.2 dX11_voyage_52
    · have ic26 : u.toInt = 0 := zi_nef rfl rfl c26
      refine lv_aload_n hx hb dX11_voyage_25 rfl (lv_at hl 0 rfl) ?_
      refine va_get (D := (dC, dI)) (ci := 11) (v := .ref (ρ h0 5)) (C := RX11) (T := TX11) (N := 7) hx hb hts hfX11 hown hK hP q8 eq8 rfl 5 (by decide) (hts (.fieldLink RX11 46 "ColdShips" "planner" "LColdShips$Planner;") wa_32) (fun _ h9 => h9) rfl dX11_voyage_26 ?_
      refine va_getN (D := (dC, dI)) (ci := 1) (v := .ref (ρ (ρ h0 5) 10)) (C := RX1) (T := TX1) (N := 15) hx hb hts hfX1 hown hK hP q20 eq20 rfl 10 (by decide) (va_Nw.use rfl (hN.1 (.fieldLinkNest RX11 328 "ColdShips$Planner" "shipOf" "[I" "ColdShips") nzw_94)) (fun _ h9 => h9) rfl dX11_voyage_29 ?_
      refine lv_iload_n hx hb dX11_voyage_32 rfl (lv_at hl 1 rfl) ?_
      refine tpk_20 hT y14 y14n (fun g50 hf_o49 => ?_)
      refine tpk_pos (tp_in hG y14 (by decide)) hf_o49 (fun q51 eq51 => ?_)
      refine va_iald hx hb hK hP q51 0 eq51 rfl (vp_in_iff.mpr ⟨by omega, by omega⟩) dX11_voyage_33 ?_
      refine lv_topi (fun z52 ez52 => ?_)
      refine lv_i2l hx hb dX11_voyage_34 rfl ?_
      exact W.lret (v := z52.toInt64) hx hb hr (fun t ht hW => ⟨⟨z52.toInt64, f, rfl, ⟨hT, hR, trivial, trivial⟩, by rw [ht]; exact hP, va_K.moved hW.alike hK, hD⟩, hS.F ht⟩) hS.2.2 dX11_voyage_35
  · have ic24 : r22.toInt = 0 := zi_nef rfl rfl c24
    refine lv_ldc2 (own := RX11) (v := (-2000000000000000)) hx hb hown (hts (.constantLong RX11 281 (-2000000000000000)) wa_1124) dX11_voyage_17 ?_
    exact W.lret (v := (-2000000000000000)) hx hb hr (fun t ht hW => ⟨⟨(-2000000000000000), f, rfl, ⟨hT, hR, trivial, trivial⟩, by rw [ht]; exact hP, va_K.moved hW.alike hK, hD⟩, hS.F ht⟩) hS.2.2 dX11_voyage_20
set_option maxHeartbeats 4000000 in
set_option maxRecDepth 100000 in
theorem t_X11_judge (l : Launch) (dC : Nat → ClassId) (dI : Nat → Nat → Nat) (sz : Nat) (Ω : Nat → (Nat → Nat) → va_E → Prop) (κ : Nat → ClassId) (τ ν : Nat → Nat) (ρ : Nat → Nat → Nat) (L : List Nat) (f : Nat → va_E) (hG : tp_G τ ν ρ L) (hT : tp_T Ω κ τ ν ρ f) (h0 : Nat) (v : Int32) (u : Int32) (a : Int32) (b : Int32) (a5 : Int32) (ht_h0 : τ h0 = 12) : Met l yX11_judge wqX11_judge ({ frames := 6, cells := 0, slots := 0, locals := 2000 }) (va_Pc [.ref h0, .int v, .int u, .int a, .int b, .int a5] (pz_B dC dI (tp_K κ) (va_pl L f) sz)) (va_Ql (fun (r : Int64) (f1 : Nat → va_E) => tp_T Ω κ τ ν ρ f1 ∧ tp_F τ [2, 3, 4, 5, 6, 7, 8, 9, 10, 11, 12, 20, 21, 22, 26, 27, 28] f f1 ∧ True ∧ True) (fun (f1 : Nat → va_E) (t : State) => pz_E dC dI (tp_K κ) (va_A (va_pl L f) sz) (va_pl L f1) t) (va_A (va_pl L f) sz)) 0 0 (va_A (va_pl L f) sz) := by
  refine Met.ofW (cc := cX11_judge) (maxL := 6) (ret := some .long) (by decide) rfl ?_
  intro p e s m args below meth c s₁ B hml hv
  obtain ⟨rfl, hsz, hP, hK, hD0, hN⟩ := hv
  have hx := B.exec
  have hb := B.bytes
  have hr := B.returns
  have hts := fun (w : Cond) (h : w ∈ WALL) => atoms_spec (ws := wqX11_judge) B.pre w (List.mem_cons_of_mem _ h)
  have hown : s.vm.findClass RX11 = some m.cls := findClass_of_methodNamed B.named
  have hlocks := B.notSynchronized
  subst hsz
  have hD := hD0.self (sz := s.heap.size)
  generalize hAe : va_A (va_pl L f) s.heap.size = A at hD ⊢
  have hA : ∀ q : Nat, s.heap.size ≤ q → A q := fun q h => by rw [← hAe]; exact Or.inr h
  have hS : va_S A s.heap s.heap [] := va_S.rf
  have hR : tp_F τ [2, 3, 4, 5, 6, 7, 8, 9, 10, 11, 12, 20, 21, 22, 26, 27, 28] f f := tp_F.rf
  have hl := lv_entry ([.ref h0, .int v, .int u, .int a, .int b, .int a5]) (n := 6) (Nat.le_of_ble_eq_true rfl)
  rw [lg_entry_eq]
  generalize (lg_sl ([.ref h0, .int v, .int u, .int a, .int b, .int a5]) ++ List.replicate (6 - (lg_sl ([.ref h0, .int v, .int u, .int a, .int b, .int a5])).length) Slot.unset).toArray = ls at hl ⊢
  have hl : lv_has ls 6 [(0, .ref h0), (1, .int v), (2, .int u), (3, .int a), (4, .int b), (5, .int a5)] := hl
  refine lv_aload_n hx hb dX11_judge_0 rfl (lv_at hl 0 rfl) ?_
  refine tgk_12 hG ht_h0 (fun y1 y2 y3 y4 y5 y6 => ?_)
  refine tpk_12 hT ht_h0 (fun o7_x6 hf_o7 => ?_)
  refine tpk_pos (tp_in hG ht_h0 (by decide)) hf_o7 (fun q8 eq8 => ?_)
  refine va_get (D := (dC, dI)) (ci := 11) (v := .ref (ρ h0 5)) (C := RX11) (T := TX11) (N := 7) hx hb hts hfX11 hown hK hP q8 eq8 rfl 5 (by decide) (hts (.fieldLink RX11 46 "ColdShips" "planner" "LColdShips$Planner;") wa_32) (fun _ h9 => h9) rfl dX11_judge_1 ?_
  refine lv_iload_n hx hb dX11_judge_4 rfl (lv_at hl 1 rfl) ?_
  refine tgk_2 hG y6 (fun y9 y10 y10n y11 y11n y12 y12n y13 y13n y14 y14n y15 y15n y16 y16n y17 y17n y18 y18n => ?_)
  refine tpk_2 hT y6 (fun o19_x5 o19_x6 o19_x7 o19_x8 o19_x9 hf_o19 ro19_0 => ?_)
  refine tpk_pos (tp_in hG y6 (by decide)) hf_o19 (fun q20 eq20 => ?_)
  refine pz_calli (va_runV (As := [.int v]) (rest := []) ⟨hx, hb, hml, hown, hts⟩ (t_X1_sails l dC dI _ Ω κ τ ν ρ L f hG hT (ρ h0 5) v y6) (cwV 1 hts gX11_judge_X1_sails rfl rfl rfl ⟨rfl, pd_X1_sails⟩ ⟨Nat.le_of_ble_eq_true rfl, Nat.le_of_ble_eq_true rfl⟩) ⟨pz_blind, va_recv hK hP (ci := 1) (q0 := q20) rfl eq20, pz_pre hP hK hD hN⟩ rfl rfl hl.1 rfl (lv_room (Nat.le_of_ble_eq_true rfl)) dX11_judge_5 ⟨Nat.le_of_ble_eq_true rfl, Nat.le_of_ble_eq_true rfl⟩) (fun r21 hw22 => ?_)
  obtain ⟨hw22r, hw22p⟩ := hw22
  refine lv_if_eq (tgt := 19) hx hb dX11_judge_8 (by decide) (fun c23 => ?_) (fun c23 => ?_)
  · have ic23 : r21.toInt = 0 := zi_eq rfl rfl c23
    refine lv_ldc2 (own := RX11) (v := (-2000000000000000)) hx hb hown (hts (.constantLong RX11 281 (-2000000000000000)) wa_1124) dX11_judge_19 ?_
    exact W.lret (v := (-2000000000000000)) hx hb hr (fun t ht hW => ⟨⟨(-2000000000000000), f, rfl, ⟨hT, hR, trivial, trivial⟩, by rw [ht]; exact hP, va_K.moved hW.alike hK, hD⟩, hS.F ht⟩) hS.2.2 dX11_judge_22
  · have ic23 : r21.toInt ≠ 0 := zi_eqf rfl rfl c23
    have p24 : 0 ≤ v.toInt ∧ v.toInt ≤ 2 := hw22p (by omega)
    refine lv_iload hx hb dX11_judge_11 (lv_at hl 5 rfl) ?_
    refine pz_calli (va_runS (As := [.int a5]) (rest := []) ⟨hx, hb, hml, hown, hts⟩ (t_X11_isHour l dC dI _ a5 (a5.toInt) rfl) (va_cwS 1 hts gX11_judge_X11_isHour rfl rfl rfl pd_X11_isHour ⟨Nat.le_of_ble_eq_true rfl, Nat.le_of_ble_eq_true rfl⟩) ⟨pz_blind, pz_pre pz_P0 (hK.sub (tys' := []) [] rfl) (pz_D0 (A := fun _ => True)) hN⟩ rfl rfl hl.1 rfl (lv_room (Nat.le_of_ble_eq_true rfl)) dX11_judge_13 ⟨Nat.le_of_ble_eq_true rfl, Nat.le_of_ble_eq_true rfl⟩) (fun r25 hw26 => ?_)
    obtain ⟨hw26r, hw26p⟩ := hw26
    refine lv_if_ne (tgt := 23) hx hb dX11_judge_16 (by decide) (fun c27 => ?_) (fun c27 => ?_)
    · have ic27 : r25.toInt ≠ 0 := zi_ne rfl rfl c27
      have p28 : 0 ≤ (a5.toInt) ∧ (a5.toInt) ≤ 2399 := (tp_cond.yes hw26p) (by omega)
      refine lv_aload_n hx hb dX11_judge_23 rfl (lv_at hl 0 rfl) ?_
      refine va_get (D := (dC, dI)) (ci := 11) (v := .ref (ρ h0 5)) (C := RX11) (T := TX11) (N := 7) hx hb hts hfX11 hown hK hP q8 eq8 rfl 5 (by decide) (hts (.fieldLink RX11 46 "ColdShips" "planner" "LColdShips$Planner;") wa_32) (fun _ h9 => h9) rfl dX11_judge_24 ?_
      refine lv_iload_n hx hb dX11_judge_27 rfl (lv_at hl 1 rfl) ?_
      refine lv_iload_n hx hb dX11_judge_28 rfl (lv_at hl 2 rfl) ?_
      refine lv_iload_n hx hb dX11_judge_29 rfl (lv_at hl 3 rfl) ?_
      refine lv_iload hx hb dX11_judge_30 (lv_at hl 4 rfl) ?_
      refine lv_iload hx hb dX11_judge_32 (lv_at hl 5 rfl) ?_
      have hFc := tp_fr hD hS hA
      refine va_calll (va_runV (As := [.int v, .int u, .int a, .int b, .int a5]) (rest := []) ⟨hx, hb, hml, hown, hts⟩ (t_X1_worthOfRow l dC dI _ Ω κ τ ν ρ L f hG hT (ρ h0 5) v u a b a5 y6 (by first | decide | omega)) (cwV 5 hts gX11_judge_X1_worthOfRow rfl rfl rfl ⟨rfl, pd_X1_worthOfRow⟩ ⟨Nat.le_of_ble_eq_true rfl, Nat.le_of_ble_eq_true rfl⟩) ⟨pz_blind, va_recv hK hP (ci := 1) (q0 := q20) rfl eq20, pz_pre hP hK hD hN⟩ rfl rfl hl.1 rfl (lv_room (Nat.le_of_ble_eq_true rfl)) dX11_judge_34 ⟨Nat.le_of_ble_eq_true rfl, Nat.le_of_ble_eq_true rfl⟩) hS (fun q _ h => hFc q h) hFc (fun r29 f31 t H1 locs ht hvm hw30 hB hz1 hk1 hS => ?_)
      refine tn_4 hw30 (fun hT hF32 hw30r hw30p => ?_); clear hw30
      have hR := hR.then hF32 (by decide)
      have hP := hB.1; rw [ht] at hP; have hD := tp_ad f31 hD; clear hB hFc hz1 hk1; subst ht; generalize t.heap = H at hP hS ⊢
      exact W.lret (v := r29) hx hb hr (fun t ht hW => ⟨⟨r29, f31, rfl, ⟨hT, hR, trivial, trivial⟩, by rw [ht]; exact hP, va_K.moved hW.alike hK, hD⟩, hS.F ht⟩) hS.2.2 dX11_judge_37
    · have ic27 : r25.toInt = 0 := zi_nef rfl rfl c27
      refine lv_ldc2 (own := RX11) (v := (-2000000000000000)) hx hb hown (hts (.constantLong RX11 281 (-2000000000000000)) wa_1124) dX11_judge_19 ?_
      exact W.lret (v := (-2000000000000000)) hx hb hr (fun t ht hW => ⟨⟨(-2000000000000000), f, rfl, ⟨hT, hR, trivial, trivial⟩, by rw [ht]; exact hP, va_K.moved hW.alike hK, hD⟩, hS.F ht⟩) hS.2.2 dX11_judge_22
set_option maxHeartbeats 4000000 in
set_option maxRecDepth 100000 in
theorem t_X11_back (l : Launch) (dC : Nat → ClassId) (dI : Nat → Nat → Nat) (sz : Nat) (Ω : Nat → (Nat → Nat) → va_E → Prop) (κ : Nat → ClassId) (τ ν : Nat → Nat) (ρ : Nat → Nat → Nat) (L : List Nat) (f : Nat → va_E) (hG : tp_G τ ν ρ L) (hT : tp_T Ω κ τ ν ρ f) (h0 : Nat) (v : Int32) (ht_h0 : τ h0 = 12) : Met l yX11_back wqX11_back ({ frames := 5, cells := 0, slots := 0, locals := 1600 }) (va_Pc [.ref h0, .int v] (pz_B dC dI (tp_K κ) (va_pl L f) sz)) (va_Qi (fun (r : Int32) (f1 : Nat → va_E) => tp_T Ω κ τ ν ρ f1 ∧ tp_F τ [2, 3, 4, 5, 6, 7, 8, 9, 10, 11, 12, 20, 21, 22, 26, 27, 28] f f1 ∧ True ∧ True) (fun (f1 : Nat → va_E) (t : State) => pz_E dC dI (tp_K κ) (va_A (va_pl L f) sz) (va_pl L f1) t) (va_A (va_pl L f) sz)) 0 0 (va_A (va_pl L f) sz) := by
  refine Met.ofW (cc := cX11_back) (maxL := 2) (ret := some .int) (by decide) rfl ?_
  intro p e s m args below meth c s₁ B hml hv
  obtain ⟨rfl, hsz, hP, hK, hD0, hN⟩ := hv
  have hx := B.exec
  have hb := B.bytes
  have hr := B.returns
  have hts := fun (w : Cond) (h : w ∈ WALL) => atoms_spec (ws := wqX11_back) B.pre w (List.mem_cons_of_mem _ h)
  have hown : s.vm.findClass RX11 = some m.cls := findClass_of_methodNamed B.named
  have hlocks := B.notSynchronized
  subst hsz
  have hD := hD0.self (sz := s.heap.size)
  generalize hAe : va_A (va_pl L f) s.heap.size = A at hD ⊢
  have hA : ∀ q : Nat, s.heap.size ≤ q → A q := fun q h => by rw [← hAe]; exact Or.inr h
  have hS : va_S A s.heap s.heap [] := va_S.rf
  have hR : tp_F τ [2, 3, 4, 5, 6, 7, 8, 9, 10, 11, 12, 20, 21, 22, 26, 27, 28] f f := tp_F.rf
  have hl := lv_entry ([.ref h0, .int v]) (n := 2) (Nat.le_of_ble_eq_true rfl)
  rw [lg_entry_eq]
  generalize (lg_sl ([.ref h0, .int v]) ++ List.replicate (2 - (lg_sl ([.ref h0, .int v])).length) Slot.unset).toArray = ls at hl ⊢
  have hl : lv_has ls 2 [(0, .ref h0), (1, .int v)] := hl
  refine lv_iload_n hx hb dX11_back_0 rfl (lv_at hl 1 rfl) ?_
  refine lv_iconst (v := 0) hx hb dX11_back_1 (by decide) ?_
  refine lv_aload_n hx hb dX11_back_2 rfl (lv_at hl 0 rfl) ?_
  refine tgk_12 hG ht_h0 (fun y1 y2 y3 y4 y5 y6 => ?_)
  refine tpk_12 hT ht_h0 (fun o7_x6 hf_o7 => ?_)
  refine tpk_pos (tp_in hG ht_h0 (by decide)) hf_o7 (fun q8 eq8 => ?_)
  refine va_get (D := (dC, dI)) (ci := 11) (v := .ref (ρ h0 1)) (C := RX11) (T := TX11) (N := 7) hx hb hts hfX11 hown hK hP q8 eq8 rfl 1 (by decide) (hts (.fieldLink RX11 16 "ColdShips" "images" "[LColdShips$World;") wa_16) (fun _ h9 => h9) rfl dX11_back_3 ?_
  refine tpk_27 hT y2 (fun g10 hf_o9 hf_o9e => ?_)
  refine tpk_pos (tp_in hG y2 (by decide)) hf_o9 (fun q11 eq11 => ?_)
  refine va_alen hx hb hK hP q11 7 eq11 rfl (rfl : Int32.ofNat 2 = (2 : Int32)) dX11_back_6 ?_
  refine lv_iconst (v := 1) hx hb dX11_back_7 (by decide) ?_
  refine lv_isub hx hb dX11_back_8 ?_
  refine lv_topi (fun z12 ez12 => ?_)
  obtain rfl : z12 = 1 := ez12.trans (by first | rfl | decide)
  refine pz_calli (va_runS (As := [.int v, .int 0, .int 1]) (rest := []) ⟨hx, hb, hml, hown, hts⟩ (t_X11_within l dC dI _ v (0) (1) (v.toInt) (0) (1) rfl rfl rfl) (va_cwS 3 hts gX11_back_X11_within rfl rfl rfl pd_X11_within ⟨Nat.le_of_ble_eq_true rfl, Nat.le_of_ble_eq_true rfl⟩) ⟨pz_blind, pz_pre pz_P0 (hK.sub (tys' := []) [] rfl) (pz_D0 (A := fun _ => True)) hN⟩ rfl rfl hl.1 rfl (lv_room (Nat.le_of_ble_eq_true rfl)) dX11_back_9 ⟨Nat.le_of_ble_eq_true rfl, Nat.le_of_ble_eq_true rfl⟩) (fun r13 hw14 => ?_)
  obtain ⟨hw14r, hw14p⟩ := hw14
  refine lv_if_ne (tgt := 21) hx hb dX11_back_12 (by decide) (fun c15 => ?_) (fun c15 => ?_)
  · have ic15 : r13.toInt ≠ 0 := zi_ne rfl rfl c15
    have p16 : (0) ≤ (v.toInt) ∧ (v.toInt) ≤ (1) := (tp_cond.yes hw14p) (by omega)
    refine lv_aload_n hx hb dX11_back_21 rfl (lv_at hl 0 rfl) ?_
    refine va_get (D := (dC, dI)) (ci := 11) (v := .ref (ρ h0 1)) (C := RX11) (T := TX11) (N := 7) hx hb hts hfX11 hown hK hP q8 eq8 rfl 1 (by decide) (hts (.fieldLink RX11 16 "ColdShips" "images" "[LColdShips$World;") wa_16) (fun _ h9 => h9) rfl dX11_back_22 ?_
    refine lv_iload_n hx hb dX11_back_25 rfl (lv_at hl 1 rfl) ?_
    refine va_aldq hx hb hK hP q11 7 eq11 rfl (vp_in_iff.mpr ⟨by omega, by omega⟩) dX11_back_26 ?_
    have hq17 := hf_o9e v.toNatClampNeg (zi_cl (vp_in_iff.mpr ⟨by omega, by omega⟩))
    rcases hq17 with hq19 | ⟨b18, hq19, hq19t⟩
    · rw [hq19]
      refine lv_ifnonnullN hx hb dX11_back_27 ?_
      refine lv_aload_n hx hb dX11_back_30 rfl (lv_at hl 0 rfl) ?_
      refine lv_bipush (v := (-2)) hx hb dX11_back_31 (by decide) ?_
      have hFc := tp_fr hD hS hA
      refine va_calli (va_runV (As := [.int (-2)]) (rest := []) ⟨hx, hb, hml, hown, hts⟩ (t_X11_refuse l dC dI _ Ω κ τ ν ρ L f hG hT h0 ((-2)) ht_h0) (cwV 1 hts gX11_back_X11_refuse rfl rfl rfl ⟨rfl, pd_X11_refuse⟩ ⟨Nat.le_of_ble_eq_true rfl, Nat.le_of_ble_eq_true rfl⟩) ⟨pz_blind, va_recv hK hP (ci := 11) (q0 := q8) rfl eq8, pz_pre hP hK hD hN⟩ rfl rfl hl.1 rfl (lv_room (Nat.le_of_ble_eq_true rfl)) dX11_back_33 ⟨Nat.le_of_ble_eq_true rfl, Nat.le_of_ble_eq_true rfl⟩) hS (fun q _ h => hFc q h) hFc (fun r20 f22 t H1 locs ht hvm hw21 hB hz1 hk1 hS => ?_)
      refine tn_4 hw21 (fun hT hF23 hw21r hw21p => ?_); clear hw21
      have hR := hR.then hF23 (by decide)
      have hP := hB.1; rw [ht] at hP; have hD := tp_ad f22 hD; clear hB hFc hz1 hk1; subst ht; generalize t.heap = H at hP hS ⊢
      exact W.iret (v := r20) hx hb hr (fun t ht hW => ⟨⟨r20, f22, rfl, ⟨hT, hR, trivial, trivial⟩, by rw [ht]; exact hP, va_K.moved hW.alike hK, hD⟩, hS.F ht⟩) hS.2.2 dX11_back_36
    · rw [hq19]
      refine lv_ifnonnull (tgt := 37) hx hb dX11_back_27 (by decide) ?_
      refine lv_aload_n hx hb dX11_back_37 rfl (lv_at hl 0 rfl) ?_
      refine va_get (D := (dC, dI)) (ci := 11) (v := .ref (ρ h0 0)) (C := RX11) (T := TX11) (N := 7) hx hb hts hfX11 hown hK hP q8 eq8 rfl 0 (by decide) (hts (.fieldLink RX11 10 "ColdShips" "world" "LColdShips$World;") wa_15) (fun _ h9 => h9) rfl dX11_back_38 ?_
      refine lv_aload_n hx hb dX11_back_41 rfl (lv_at hl 0 rfl) ?_
      refine va_get (D := (dC, dI)) (ci := 11) (v := .ref (ρ h0 1)) (C := RX11) (T := TX11) (N := 7) hx hb hts hfX11 hown hK hP q8 eq8 rfl 1 (by decide) (hts (.fieldLink RX11 16 "ColdShips" "images" "[LColdShips$World;") wa_16) (fun _ h9 => h9) rfl dX11_back_42 ?_
      refine lv_iload_n hx hb dX11_back_45 rfl (lv_at hl 1 rfl) ?_
      refine va_aldq hx hb hK hP q11 7 eq11 rfl (vp_in_iff.mpr ⟨by omega, by omega⟩) dX11_back_46 ?_
      refine W.eq (g2 := F0 m 47 ls (.ref b18 :: [.ref (ρ h0 0)])) (congrArg (fun o => F0 m 47 ls (va_rf o :: [.ref (ρ h0 0)])) hq19) ?_
      refine tgk_11 hG y1 (fun y24 y24n y25 y25n y26 y27 y28 y29 y30 y31 y32 y32w y32m y33 y33w y33m y34 y34w y34m y35 y35w y35m => ?_)
      refine tpk_11 hT y1 (fun o36_x0 o36_x1 o36_x2 o36_x3 o36_x4 o36_x5 o36_x6 hf_o36 ro36_0 ro36_1 ro36_2 ro36_3 => ?_)
      refine tpk_pos (tp_in hG y1 (by decide)) hf_o36 (fun q37 eq37 => ?_)
      have hFc := tp_fr hD hS hA
      refine va_callv (va_runV (As := [.ref b18]) (rest := []) ⟨hx, hb, hml, hown, hts⟩ (t_X10_copyFrom l dC dI _ Ω κ τ ν ρ L f hG hT (ρ h0 0) b18 y1 hq19t) (cwV 1 hts gX11_back_X10_copyFrom rfl rfl rfl ⟨rfl, pd_X10_copyFrom⟩ ⟨Nat.le_of_ble_eq_true rfl, Nat.le_of_ble_eq_true rfl⟩) ⟨pz_blind, va_recv hK hP (ci := 10) (q0 := q37) rfl eq37, pz_pre hP hK hD hN⟩ rfl rfl hl.1 rfl (lv_room (Nat.le_of_ble_eq_true rfl)) dX11_back_47 ⟨Nat.le_of_ble_eq_true rfl, Nat.le_of_ble_eq_true rfl⟩) hS (fun q _ h => hFc q h) hFc (fun f40 t H1 locs ht hvm hw39 hB hz1 hk1 hS => ?_)
      refine tn_3 hw39 (fun hT hF41 hw39p => ?_); clear hw39
      have hR := hR.then hF41 (by decide)
      have hP := hB.1; rw [ht] at hP; have hD := tp_ad f40 hD; clear hB hFc hz1 hk1; subst ht; generalize t.heap = H at hP hS ⊢
      refine lv_aload_n hx hb dX11_back_50 rfl (lv_at hl 0 rfl) ?_
      refine lv_iconst (v := 0) hx hb dX11_back_51 (by decide) ?_
      have hf_42 : f40 h0 = .inr (11, [.ref (ρ h0 0), .ref (ρ h0 1), .ref (ρ h0 2), .ref (ρ h0 3), .ref (ρ h0 4), .ref (ρ h0 5), .int o7_x6]) := (hF41 _ (by rw [ht_h0]; decide)).trans hf_o7
      refine tpk_pos (tp_in hG ht_h0 (by decide)) hf_42 (fun q43 eq43 => ?_)
      have hFc := tp_fr hD hS hA
      refine va_calli (va_runV (As := [.int 0]) (rest := []) ⟨hx, hb, hml, hown, hts⟩ (t_X11_accept l dC dI _ Ω κ τ ν ρ L f40 hG hT h0 (0) ht_h0) (cwV 1 hts gX11_back_X11_accept rfl rfl rfl ⟨rfl, pd_X11_accept⟩ ⟨Nat.le_of_ble_eq_true rfl, Nat.le_of_ble_eq_true rfl⟩) ⟨pz_blind, va_recv hK hP (ci := 11) (q0 := q43) rfl eq43, pz_pre hP hK hD hN⟩ rfl rfl hl.1 rfl (lv_room (Nat.le_of_ble_eq_true rfl)) dX11_back_52 ⟨Nat.le_of_ble_eq_true rfl, Nat.le_of_ble_eq_true rfl⟩) hS (fun q _ h => hFc q h) hFc (fun r44 f46 t H1 locs ht hvm hw45 hB hz1 hk1 hS => ?_)
      refine tn_4 hw45 (fun hT hF47 hw45r hw45p => ?_); clear hw45
      have hR := hR.then hF47 (by decide)
      have hP := hB.1; rw [ht] at hP; have hD := tp_ad f46 hD; clear hB hFc hz1 hk1; subst ht; generalize t.heap = H at hP hS ⊢
      exact W.iret (v := r44) hx hb hr (fun t ht hW => ⟨⟨r44, f46, rfl, ⟨hT, hR, trivial, trivial⟩, by rw [ht]; exact hP, va_K.moved hW.alike hK, hD⟩, hS.F ht⟩) hS.2.2 dX11_back_55
  · have ic15 : r13.toInt = 0 := zi_nef rfl rfl c15
    refine lv_aload_n hx hb dX11_back_15 rfl (lv_at hl 0 rfl) ?_
    refine lv_iconst (v := (-1)) hx hb dX11_back_16 (by decide) ?_
    have hFc := tp_fr hD hS hA
    refine va_calli (va_runV (As := [.int (-1)]) (rest := []) ⟨hx, hb, hml, hown, hts⟩ (t_X11_refuse l dC dI _ Ω κ τ ν ρ L f hG hT h0 ((-1)) ht_h0) (cwV 1 hts gX11_back_X11_refuse rfl rfl rfl ⟨rfl, pd_X11_refuse⟩ ⟨Nat.le_of_ble_eq_true rfl, Nat.le_of_ble_eq_true rfl⟩) ⟨pz_blind, va_recv hK hP (ci := 11) (q0 := q8) rfl eq8, pz_pre hP hK hD hN⟩ rfl rfl hl.1 rfl (lv_room (Nat.le_of_ble_eq_true rfl)) dX11_back_17 ⟨Nat.le_of_ble_eq_true rfl, Nat.le_of_ble_eq_true rfl⟩) hS (fun q _ h => hFc q h) hFc (fun r48 f50 t H1 locs ht hvm hw49 hB hz1 hk1 hS => ?_)
    refine tn_4 hw49 (fun hT hF51 hw49r hw49p => ?_); clear hw49
    have hR := hR.then hF51 (by decide)
    have hP := hB.1; rw [ht] at hP; have hD := tp_ad f50 hD; clear hB hFc hz1 hk1; subst ht; generalize t.heap = H at hP hS ⊢
    exact W.iret (v := r48) hx hb hr (fun t ht hW => ⟨⟨r48, f50, rfl, ⟨hT, hR, trivial, trivial⟩, by rw [ht]; exact hP, va_K.moved hW.alike hK, hD⟩, hS.F ht⟩) hS.2.2 dX11_back_20
set_option maxHeartbeats 4000000 in
set_option maxRecDepth 100000 in
theorem t_X11_count (l : Launch) (dC : Nat → ClassId) (dI : Nat → Nat → Nat) (sz : Nat) (Ω : Nat → (Nat → Nat) → va_E → Prop) (κ : Nat → ClassId) (τ ν : Nat → Nat) (ρ : Nat → Nat → Nat) (L : List Nat) (f : Nat → va_E) (hG : tp_G τ ν ρ L) (hT : tp_T Ω κ τ ν ρ f) (h0 : Nat) (v : Int32) (ht_h0 : τ h0 = 12) : Met l yX11_count wqX11_count ({ frames := 2, cells := 0, slots := 0, locals := 400 }) (va_Pc [.ref h0, .int v] (pz_B dC dI (tp_K κ) (va_pl L f) sz)) (va_Qi (fun (r : Int32) (f1 : Nat → va_E) => tp_T Ω κ τ ν ρ f1 ∧ tp_F τ [2, 3, 4, 5, 6, 7, 8, 9, 10, 11, 12, 20, 21, 22, 26, 27, 28] f f1 ∧ True ∧ True) (fun (f1 : Nat → va_E) (t : State) => pz_E dC dI (tp_K κ) (va_A (va_pl L f) sz) (va_pl L f1) t) (va_A (va_pl L f) sz)) 0 0 (va_A (va_pl L f) sz) := by
  refine Met.ofW (cc := cX11_count) (maxL := 2) (ret := some .int) (by decide) rfl ?_
  intro p e s m args below meth c s₁ B hml hv
  obtain ⟨rfl, hsz, hP, hK, hD0, hN⟩ := hv
  have hx := B.exec
  have hb := B.bytes
  have hr := B.returns
  have hts := fun (w : Cond) (h : w ∈ WALL) => atoms_spec (ws := wqX11_count) B.pre w (List.mem_cons_of_mem _ h)
  have hown : s.vm.findClass RX11 = some m.cls := findClass_of_methodNamed B.named
  have hlocks := B.notSynchronized
  subst hsz
  have hD := hD0.self (sz := s.heap.size)
  generalize hAe : va_A (va_pl L f) s.heap.size = A at hD ⊢
  have hA : ∀ q : Nat, s.heap.size ≤ q → A q := fun q h => by rw [← hAe]; exact Or.inr h
  have hS : va_S A s.heap s.heap [] := va_S.rf
  have hR : tp_F τ [2, 3, 4, 5, 6, 7, 8, 9, 10, 11, 12, 20, 21, 22, 26, 27, 28] f f := tp_F.rf
  have hl := lv_entry ([.ref h0, .int v]) (n := 2) (Nat.le_of_ble_eq_true rfl)
  rw [lg_entry_eq]
  generalize (lg_sl ([.ref h0, .int v]) ++ List.replicate (2 - (lg_sl ([.ref h0, .int v])).length) Slot.unset).toArray = ls at hl ⊢
  have hl : lv_has ls 2 [(0, .ref h0), (1, .int v)] := hl
  refine lv_iload_n hx hb dX11_count_0 rfl (lv_at hl 1 rfl) ?_
  rcases zi_sw v 0 8 with h1 | h1
  · refine lv_tableOut (tgt := 136) hx hb dX11_count_1 h1 (by decide) ?_
    refine lv_iconst (v := (-1)) hx hb dX11_count_136 (by decide) ?_
    exact W.iret (v := (-1)) hx hb hr (fun t ht hW => ⟨⟨(-1), f, rfl, ⟨hT, hR, trivial, trivial⟩, by rw [ht]; exact hP, va_K.moved hW.alike hK, hD⟩, hS.F ht⟩) hS.2.2 dX11_count_137
  · rcases (show v.toInt = 0 ∨ v.toInt = 1 ∨ v.toInt = 2 ∨ v.toInt = 3 ∨ v.toInt = 4 ∨ v.toInt = 5 ∨ v.toInt = 6 ∨ v.toInt = 7 ∨ v.toInt = 8 by omega) with h1k | h1k | h1k | h1k | h1k | h1k | h1k | h1k | h1k
    · refine lv_tableIn (tgt := 52) hx hb dX11_count_1 (by omega) (by omega) (by rw [h1k]; rfl) (by decide) ?_
      refine lv_aload_n hx hb dX11_count_52 rfl (lv_at hl 0 rfl) ?_
      refine tgk_12 hG ht_h0 (fun y2 y3 y4 y5 y6 y7 => ?_)
      refine tpk_12 hT ht_h0 (fun o8_x6 hf_o8 => ?_)
      refine tpk_pos (tp_in hG ht_h0 (by decide)) hf_o8 (fun q9 eq9 => ?_)
      refine va_get (D := (dC, dI)) (ci := 11) (v := .ref (ρ h0 0)) (C := RX11) (T := TX11) (N := 7) hx hb hts hfX11 hown hK hP q9 eq9 rfl 0 (by decide) (hts (.fieldLink RX11 10 "ColdShips" "world" "LColdShips$World;") wa_15) (fun _ h9 => h9) rfl dX11_count_53 ?_
      refine tgk_11 hG y2 (fun y10 y10n y11 y11n y12 y13 y14 y15 y16 y17 y18 y18w y18m y19 y19w y19m y20 y20w y20m y21 y21w y21m => ?_)
      refine tpk_11 hT y2 (fun o22_x0 o22_x1 o22_x2 o22_x3 o22_x4 o22_x5 o22_x6 hf_o22 ro22_0 ro22_1 ro22_2 ro22_3 => ?_)
      refine tpk_pos (tp_in hG y2 (by decide)) hf_o22 (fun q23 eq23 => ?_)
      refine va_getN (D := (dC, dI)) (ci := 10) (v := .int o22_x0) (C := RX10) (T := TX10) (N := 19) hx hb hts hfX10 hown hK hP q23 eq23 rfl 0 (by decide) (va_Nw.use rfl (hN.1 (.fieldLinkNest RX11 154 "ColdShips$World" "now" "I" "ColdShips") nzw_49)) (fun _ h9 => h9) rfl dX11_count_56 ?_
      exact W.iret (v := o22_x0) hx hb hr (fun t ht hW => ⟨⟨o22_x0, f, rfl, ⟨hT, hR, trivial, trivial⟩, by rw [ht]; exact hP, va_K.moved hW.alike hK, hD⟩, hS.F ht⟩) hS.2.2 dX11_count_59
    · refine lv_tableIn (tgt := 60) hx hb dX11_count_1 (by omega) (by omega) (by rw [h1k]; rfl) (by decide) ?_
      refine lv_aload_n hx hb dX11_count_60 rfl (lv_at hl 0 rfl) ?_
      refine tgk_12 hG ht_h0 (fun y24 y25 y26 y27 y28 y29 => ?_)
      refine tpk_12 hT ht_h0 (fun o30_x6 hf_o30 => ?_)
      refine tpk_pos (tp_in hG ht_h0 (by decide)) hf_o30 (fun q31 eq31 => ?_)
      refine va_get (D := (dC, dI)) (ci := 11) (v := .ref (ρ h0 0)) (C := RX11) (T := TX11) (N := 7) hx hb hts hfX11 hown hK hP q31 eq31 rfl 0 (by decide) (hts (.fieldLink RX11 10 "ColdShips" "world" "LColdShips$World;") wa_15) (fun _ h9 => h9) rfl dX11_count_61 ?_
      refine tgk_11 hG y24 (fun y32 y32n y33 y33n y34 y35 y36 y37 y38 y39 y40 y40w y40m y41 y41w y41m y42 y42w y42m y43 y43w y43m => ?_)
      refine tpk_11 hT y24 (fun o44_x0 o44_x1 o44_x2 o44_x3 o44_x4 o44_x5 o44_x6 hf_o44 ro44_0 ro44_1 ro44_2 ro44_3 => ?_)
      refine tpk_pos (tp_in hG y24 (by decide)) hf_o44 (fun q45 eq45 => ?_)
      refine va_getN (D := (dC, dI)) (ci := 10) (v := .int o44_x4) (C := RX10) (T := TX10) (N := 19) hx hb hts hfX10 hown hK hP q45 eq45 rfl 4 (by decide) (va_Nw.use rfl (hN.1 (.fieldLinkNest RX11 59 "ColdShips$World" "terminalCount" "I" "ColdShips") nzw_56)) (fun _ h9 => h9) rfl dX11_count_64 ?_
      exact W.iret (v := o44_x4) hx hb hr (fun t ht hW => ⟨⟨o44_x4, f, rfl, ⟨hT, hR, trivial, trivial⟩, by rw [ht]; exact hP, va_K.moved hW.alike hK, hD⟩, hS.F ht⟩) hS.2.2 dX11_count_67
    · refine lv_tableIn (tgt := 68) hx hb dX11_count_1 (by omega) (by omega) (by rw [h1k]; rfl) (by decide) ?_
      refine lv_aload_n hx hb dX11_count_68 rfl (lv_at hl 0 rfl) ?_
      refine tgk_12 hG ht_h0 (fun y46 y47 y48 y49 y50 y51 => ?_)
      refine tpk_12 hT ht_h0 (fun o52_x6 hf_o52 => ?_)
      refine tpk_pos (tp_in hG ht_h0 (by decide)) hf_o52 (fun q53 eq53 => ?_)
      refine va_get (D := (dC, dI)) (ci := 11) (v := .ref (ρ h0 0)) (C := RX11) (T := TX11) (N := 7) hx hb hts hfX11 hown hK hP q53 eq53 rfl 0 (by decide) (hts (.fieldLink RX11 10 "ColdShips" "world" "LColdShips$World;") wa_15) (fun _ h9 => h9) rfl dX11_count_69 ?_
      refine tgk_11 hG y46 (fun y54 y54n y55 y55n y56 y57 y58 y59 y60 y61 y62 y62w y62m y63 y63w y63m y64 y64w y64m y65 y65w y65m => ?_)
      refine tpk_11 hT y46 (fun o66_x0 o66_x1 o66_x2 o66_x3 o66_x4 o66_x5 o66_x6 hf_o66 ro66_0 ro66_1 ro66_2 ro66_3 => ?_)
      refine tpk_pos (tp_in hG y46 (by decide)) hf_o66 (fun q67 eq67 => ?_)
      refine va_getN (D := (dC, dI)) (ci := 10) (v := .int o66_x5) (C := RX10) (T := TX10) (N := 19) hx hb hts hfX10 hown hK hP q67 eq67 rfl 5 (by decide) (va_Nw.use rfl (hN.1 (.fieldLinkNest RX11 81 "ColdShips$World" "shipCount" "I" "ColdShips") nzw_58)) (fun _ h9 => h9) rfl dX11_count_72 ?_
      exact W.iret (v := o66_x5) hx hb hr (fun t ht hW => ⟨⟨o66_x5, f, rfl, ⟨hT, hR, trivial, trivial⟩, by rw [ht]; exact hP, va_K.moved hW.alike hK, hD⟩, hS.F ht⟩) hS.2.2 dX11_count_75
    · refine lv_tableIn (tgt := 76) hx hb dX11_count_1 (by omega) (by omega) (by rw [h1k]; rfl) (by decide) ?_
      refine lv_aload_n hx hb dX11_count_76 rfl (lv_at hl 0 rfl) ?_
      refine tgk_12 hG ht_h0 (fun y68 y69 y70 y71 y72 y73 => ?_)
      refine tpk_12 hT ht_h0 (fun o74_x6 hf_o74 => ?_)
      refine tpk_pos (tp_in hG ht_h0 (by decide)) hf_o74 (fun q75 eq75 => ?_)
      refine va_get (D := (dC, dI)) (ci := 11) (v := .ref (ρ h0 0)) (C := RX11) (T := TX11) (N := 7) hx hb hts hfX11 hown hK hP q75 eq75 rfl 0 (by decide) (hts (.fieldLink RX11 10 "ColdShips" "world" "LColdShips$World;") wa_15) (fun _ h9 => h9) rfl dX11_count_77 ?_
      refine tgk_11 hG y68 (fun y76 y76n y77 y77n y78 y79 y80 y81 y82 y83 y84 y84w y84m y85 y85w y85m y86 y86w y86m y87 y87w y87m => ?_)
      refine tpk_11 hT y68 (fun o88_x0 o88_x1 o88_x2 o88_x3 o88_x4 o88_x5 o88_x6 hf_o88 ro88_0 ro88_1 ro88_2 ro88_3 => ?_)
      refine tpk_pos (tp_in hG y68 (by decide)) hf_o88 (fun q89 eq89 => ?_)
      refine va_getN (D := (dC, dI)) (ci := 10) (v := .ref (ρ (ρ h0 0) 12)) (C := RX10) (T := TX10) (N := 19) hx hb hts hfX10 hown hK hP q89 eq89 rfl 12 (by decide) (va_Nw.use rfl (hN.1 (.fieldLinkNest RX11 111 "ColdShips$World" "slots" "LColdShips$Spans;" "ColdShips") nzw_74)) (fun _ h9 => h9) rfl dX11_count_80 ?_
      refine tgk_7 hG y81 (fun y90 y90n y91 y91n y92 y92n => ?_)
      refine tpk_7 hT y81 (fun o93_x3 hf_o93 ro93_0 => ?_)
      refine tpk_pos (tp_in hG y81 (by decide)) hf_o93 (fun q94 eq94 => ?_)
      refine va_getN (D := (dC, dI)) (ci := 6) (v := .int o93_x3) (C := RX6) (T := TX6) (N := 4) hx hb hts hfX6 hown hK hP q94 eq94 rfl 3 (by decide) (va_Nw.use rfl (hN.1 (.fieldLinkNest RX11 353 "ColdShips$Spans" "size" "I" "ColdShips") nzw_0)) (fun _ h9 => h9) rfl dX11_count_83 ?_
      exact W.iret (v := o93_x3) hx hb hr (fun t ht hW => ⟨⟨o93_x3, f, rfl, ⟨hT, hR, trivial, trivial⟩, by rw [ht]; exact hP, va_K.moved hW.alike hK, hD⟩, hS.F ht⟩) hS.2.2 dX11_count_86
    · refine lv_tableIn (tgt := 87) hx hb dX11_count_1 (by omega) (by omega) (by rw [h1k]; rfl) (by decide) ?_
      refine lv_aload_n hx hb dX11_count_87 rfl (lv_at hl 0 rfl) ?_
      refine tgk_12 hG ht_h0 (fun y95 y96 y97 y98 y99 y100 => ?_)
      refine tpk_12 hT ht_h0 (fun o101_x6 hf_o101 => ?_)
      refine tpk_pos (tp_in hG ht_h0 (by decide)) hf_o101 (fun q102 eq102 => ?_)
      refine va_get (D := (dC, dI)) (ci := 11) (v := .ref (ρ h0 0)) (C := RX11) (T := TX11) (N := 7) hx hb hts hfX11 hown hK hP q102 eq102 rfl 0 (by decide) (hts (.fieldLink RX11 10 "ColdShips" "world" "LColdShips$World;") wa_15) (fun _ h9 => h9) rfl dX11_count_88 ?_
      refine tgk_11 hG y95 (fun y103 y103n y104 y104n y105 y106 y107 y108 y109 y110 y111 y111w y111m y112 y112w y112m y113 y113w y113m y114 y114w y114m => ?_)
      refine tpk_11 hT y95 (fun o115_x0 o115_x1 o115_x2 o115_x3 o115_x4 o115_x5 o115_x6 hf_o115 ro115_0 ro115_1 ro115_2 ro115_3 => ?_)
      refine tpk_pos (tp_in hG y95 (by decide)) hf_o115 (fun q116 eq116 => ?_)
      refine va_getN (D := (dC, dI)) (ci := 10) (v := .ref (ρ (ρ h0 0) 17)) (C := RX10) (T := TX10) (N := 19) hx hb hts hfX10 hown hK hP q116 eq116 rfl 17 (by decide) (va_Nw.use rfl (hN.1 (.fieldLinkNest RX11 207 "ColdShips$World" "landings" "LColdShips$Rows;" "ColdShips") nzw_85)) (fun _ h9 => h9) rfl dX11_count_91 ?_
      refine tgk_5 hG y113 (fun y117 y117n y118a y118b y118c => ?_)
      refine tpk_5 hT y113 (fun o119_x0 o119_x2 hf_o119 ro119_0 ro119_1 => ?_)
      refine tpk_pos (tp_in hG y113 (by decide)) hf_o119 (fun q120 eq120 => ?_)
      refine va_getN (D := (dC, dI)) (ci := 4) (v := .int o119_x2) (C := RX4) (T := TX4) (N := 3) hx hb hts hfX4 hown hK hP q120 eq120 rfl 2 (by decide) (va_Nw.use rfl (hN.1 (.fieldLinkNest RX11 242 "ColdShips$Rows" "size" "I" "ColdShips") nzw_4)) (fun _ h9 => h9) rfl dX11_count_94 ?_
      exact W.iret (v := o119_x2) hx hb hr (fun t ht hW => ⟨⟨o119_x2, f, rfl, ⟨hT, hR, trivial, trivial⟩, by rw [ht]; exact hP, va_K.moved hW.alike hK, hD⟩, hS.F ht⟩) hS.2.2 dX11_count_97
    · refine lv_tableIn (tgt := 98) hx hb dX11_count_1 (by omega) (by omega) (by rw [h1k]; rfl) (by decide) ?_
      refine lv_aload_n hx hb dX11_count_98 rfl (lv_at hl 0 rfl) ?_
      refine tgk_12 hG ht_h0 (fun y121 y122 y123 y124 y125 y126 => ?_)
      refine tpk_12 hT ht_h0 (fun o127_x6 hf_o127 => ?_)
      refine tpk_pos (tp_in hG ht_h0 (by decide)) hf_o127 (fun q128 eq128 => ?_)
      refine va_get (D := (dC, dI)) (ci := 11) (v := .ref (ρ h0 0)) (C := RX11) (T := TX11) (N := 7) hx hb hts hfX11 hown hK hP q128 eq128 rfl 0 (by decide) (hts (.fieldLink RX11 10 "ColdShips" "world" "LColdShips$World;") wa_15) (fun _ h9 => h9) rfl dX11_count_99 ?_
      refine tgk_11 hG y121 (fun y129 y129n y130 y130n y131 y132 y133 y134 y135 y136 y137 y137w y137m y138 y138w y138m y139 y139w y139m y140 y140w y140m => ?_)
      refine tpk_11 hT y121 (fun o141_x0 o141_x1 o141_x2 o141_x3 o141_x4 o141_x5 o141_x6 hf_o141 ro141_0 ro141_1 ro141_2 ro141_3 => ?_)
      refine tpk_pos (tp_in hG y121 (by decide)) hf_o141 (fun q142 eq142 => ?_)
      refine va_getN (D := (dC, dI)) (ci := 10) (v := .int o141_x6) (C := RX10) (T := TX10) (N := 19) hx hb hts hfX10 hown hK hP q142 eq142 rfl 6 (by decide) (va_Nw.use rfl (hN.1 (.fieldLinkNest RX11 261 "ColdShips$World" "contractCount" "I" "ColdShips") nzw_60)) (fun _ h9 => h9) rfl dX11_count_102 ?_
      exact W.iret (v := o141_x6) hx hb hr (fun t ht hW => ⟨⟨o141_x6, f, rfl, ⟨hT, hR, trivial, trivial⟩, by rw [ht]; exact hP, va_K.moved hW.alike hK, hD⟩, hS.F ht⟩) hS.2.2 dX11_count_105
    · refine lv_tableIn (tgt := 106) hx hb dX11_count_1 (by omega) (by omega) (by rw [h1k]; rfl) (by decide) ?_
      refine lv_aload_n hx hb dX11_count_106 rfl (lv_at hl 0 rfl) ?_
      refine tgk_12 hG ht_h0 (fun y143 y144 y145 y146 y147 y148 => ?_)
      refine tpk_12 hT ht_h0 (fun o149_x6 hf_o149 => ?_)
      refine tpk_pos (tp_in hG ht_h0 (by decide)) hf_o149 (fun q150 eq150 => ?_)
      refine va_get (D := (dC, dI)) (ci := 11) (v := .ref (ρ h0 0)) (C := RX11) (T := TX11) (N := 7) hx hb hts hfX11 hown hK hP q150 eq150 rfl 0 (by decide) (hts (.fieldLink RX11 10 "ColdShips" "world" "LColdShips$World;") wa_15) (fun _ h9 => h9) rfl dX11_count_107 ?_
      refine tgk_11 hG y143 (fun y151 y151n y152 y152n y153 y154 y155 y156 y157 y158 y159 y159w y159m y160 y160w y160m y161 y161w y161m y162 y162w y162m => ?_)
      refine tpk_11 hT y143 (fun o163_x0 o163_x1 o163_x2 o163_x3 o163_x4 o163_x5 o163_x6 hf_o163 ro163_0 ro163_1 ro163_2 ro163_3 => ?_)
      refine tpk_pos (tp_in hG y143 (by decide)) hf_o163 (fun q164 eq164 => ?_)
      refine va_getN (D := (dC, dI)) (ci := 10) (v := .ref (ρ (ρ h0 0) 18)) (C := RX10) (T := TX10) (N := 19) hx hb hts hfX10 hown hK hP q164 eq164 rfl 18 (by decide) (va_Nw.use rfl (hN.1 (.fieldLinkNest RX11 319 "ColdShips$World" "cargoes" "LColdShips$Rows;" "ColdShips") nzw_87)) (fun _ h9 => h9) rfl dX11_count_110 ?_
      refine tgk_5 hG y162 (fun y165 y165n y166a y166b y166c => ?_)
      refine tpk_5 hT y162 (fun o167_x0 o167_x2 hf_o167 ro167_0 ro167_1 => ?_)
      refine tpk_pos (tp_in hG y162 (by decide)) hf_o167 (fun q168 eq168 => ?_)
      refine va_getN (D := (dC, dI)) (ci := 4) (v := .int o167_x2) (C := RX4) (T := TX4) (N := 3) hx hb hts hfX4 hown hK hP q168 eq168 rfl 2 (by decide) (va_Nw.use rfl (hN.1 (.fieldLinkNest RX11 242 "ColdShips$Rows" "size" "I" "ColdShips") nzw_4)) (fun _ h9 => h9) rfl dX11_count_113 ?_
      exact W.iret (v := o167_x2) hx hb hr (fun t ht hW => ⟨⟨o167_x2, f, rfl, ⟨hT, hR, trivial, trivial⟩, by rw [ht]; exact hP, va_K.moved hW.alike hK, hD⟩, hS.F ht⟩) hS.2.2 dX11_count_116
    · refine lv_tableIn (tgt := 117) hx hb dX11_count_1 (by omega) (by omega) (by rw [h1k]; rfl) (by decide) ?_
      refine lv_aload_n hx hb dX11_count_117 rfl (lv_at hl 0 rfl) ?_
      refine tgk_12 hG ht_h0 (fun y169 y170 y171 y172 y173 y174 => ?_)
      refine tpk_12 hT ht_h0 (fun o175_x6 hf_o175 => ?_)
      refine tpk_pos (tp_in hG ht_h0 (by decide)) hf_o175 (fun q176 eq176 => ?_)
      refine va_get (D := (dC, dI)) (ci := 11) (v := .ref (ρ h0 0)) (C := RX11) (T := TX11) (N := 7) hx hb hts hfX11 hown hK hP q176 eq176 rfl 0 (by decide) (hts (.fieldLink RX11 10 "ColdShips" "world" "LColdShips$World;") wa_15) (fun _ h9 => h9) rfl dX11_count_118 ?_
      refine tgk_11 hG y169 (fun y177 y177n y178 y178n y179 y180 y181 y182 y183 y184 y185 y185w y185m y186 y186w y186m y187 y187w y187m y188 y188w y188m => ?_)
      refine tpk_11 hT y169 (fun o189_x0 o189_x1 o189_x2 o189_x3 o189_x4 o189_x5 o189_x6 hf_o189 ro189_0 ro189_1 ro189_2 ro189_3 => ?_)
      refine tpk_pos (tp_in hG y169 (by decide)) hf_o189 (fun q190 eq190 => ?_)
      refine va_getN (D := (dC, dI)) (ci := 10) (v := .ref (ρ (ρ h0 0) 16)) (C := RX10) (T := TX10) (N := 19) hx hb hts hfX10 hown hK hP q190 eq190 rfl 16 (by decide) (va_Nw.use rfl (hN.1 (.fieldLinkNest RX11 306 "ColdShips$World" "readings" "LColdShips$Rows;" "ColdShips") nzw_82)) (fun _ h9 => h9) rfl dX11_count_121 ?_
      refine tgk_5 hG y186 (fun y191 y191n y192a y192b y192c => ?_)
      refine tpk_5 hT y186 (fun o193_x0 o193_x2 hf_o193 ro193_0 ro193_1 => ?_)
      refine tpk_pos (tp_in hG y186 (by decide)) hf_o193 (fun q194 eq194 => ?_)
      refine va_getN (D := (dC, dI)) (ci := 4) (v := .int o193_x2) (C := RX4) (T := TX4) (N := 3) hx hb hts hfX4 hown hK hP q194 eq194 rfl 2 (by decide) (va_Nw.use rfl (hN.1 (.fieldLinkNest RX11 242 "ColdShips$Rows" "size" "I" "ColdShips") nzw_4)) (fun _ h9 => h9) rfl dX11_count_124 ?_
      exact W.iret (v := o193_x2) hx hb hr (fun t ht hW => ⟨⟨o193_x2, f, rfl, ⟨hT, hR, trivial, trivial⟩, by rw [ht]; exact hP, va_K.moved hW.alike hK, hD⟩, hS.F ht⟩) hS.2.2 dX11_count_127
    · refine lv_tableIn (tgt := 128) hx hb dX11_count_1 (by omega) (by omega) (by rw [h1k]; rfl) (by decide) ?_
      refine lv_aload_n hx hb dX11_count_128 rfl (lv_at hl 0 rfl) ?_
      refine tgk_12 hG ht_h0 (fun y195 y196 y197 y198 y199 y200 => ?_)
      refine tpk_12 hT ht_h0 (fun o201_x6 hf_o201 => ?_)
      refine tpk_pos (tp_in hG ht_h0 (by decide)) hf_o201 (fun q202 eq202 => ?_)
      refine va_get (D := (dC, dI)) (ci := 11) (v := .ref (ρ h0 3)) (C := RX11) (T := TX11) (N := 7) hx hb hts hfX11 hown hK hP q202 eq202 rfl 3 (by decide) (hts (.fieldLink RX11 32 "ColdShips" "reader" "LColdShips$Reader;") wa_24) (fun _ h9 => h9) rfl dX11_count_129 ?_
      refine tgk_3 hG y198 (fun y203 y203n y204 y204n y205 y205n => ?_)
      refine tpk_3 hT y198 (fun o206_x1 o206_x2 o206_x3 o206_x4 o206_x5 o206_x6 o206_x8 o206_x10 o206_x11 o206_x12 o206_x13 o206_x14 o206_x15 hf_o206 ro206_0 ro206_1 ro206_2 ro206_3 ro206_4 ro206_5 ro206_6 => ?_)
      refine tpk_pos (tp_in hG y198 (by decide)) hf_o206 (fun q207 eq207 => ?_)
      refine va_getN (D := (dC, dI)) (ci := 2) (v := .int o206_x1) (C := RX2) (T := TX2) (N := 16) hx hb hts hfX2 hown hK hP q207 eq207 rfl 1 (by decide) (va_Nw.use rfl (hN.1 (.fieldLinkNest RX11 260 "ColdShips$Reader" "size" "I" "ColdShips") nzw_88)) (fun _ h9 => h9) rfl dX11_count_132 ?_
      exact W.iret (v := o206_x1) hx hb hr (fun t ht hW => ⟨⟨o206_x1, f, rfl, ⟨hT, hR, trivial, trivial⟩, by rw [ht]; exact hP, va_K.moved hW.alike hK, hD⟩, hS.F ht⟩) hS.2.2 dX11_count_135
set_option maxHeartbeats 4000000 in
set_option maxRecDepth 100000 in
theorem t_X11_status (l : Launch) (dC : Nat → ClassId) (dI : Nat → Nat → Nat) (sz : Nat) (Ω : Nat → (Nat → Nat) → va_E → Prop) (κ : Nat → ClassId) (τ ν : Nat → Nat) (ρ : Nat → Nat → Nat) (L : List Nat) (f : Nat → va_E) (hG : tp_G τ ν ρ L) (hT : tp_T Ω κ τ ν ρ f) (h0 : Nat) (ht_h0 : τ h0 = 12) : Met l yX11_status wqX11_status ({ frames := 2, cells := 0, slots := 0, locals := 400 }) (va_Pc [.ref h0] (pz_B dC dI (tp_K κ) (va_pl L f) sz)) (va_Qi (fun (r : Int32) (f1 : Nat → va_E) => tp_T Ω κ τ ν ρ f1 ∧ tp_F τ [2, 3, 4, 5, 6, 7, 8, 9, 10, 11, 12, 20, 21, 22, 26, 27, 28] f f1 ∧ True ∧ True) (fun (f1 : Nat → va_E) (t : State) => pz_E dC dI (tp_K κ) (va_A (va_pl L f) sz) (va_pl L f1) t) (va_A (va_pl L f) sz)) 0 0 (va_A (va_pl L f) sz) := by
  refine Met.ofW (cc := cX11_status) (maxL := 1) (ret := some .int) (by decide) rfl ?_
  intro p e s m args below meth c s₁ B hml hv
  obtain ⟨rfl, hsz, hP, hK, hD0, hN⟩ := hv
  have hx := B.exec
  have hb := B.bytes
  have hr := B.returns
  have hts := fun (w : Cond) (h : w ∈ WALL) => atoms_spec (ws := wqX11_status) B.pre w (List.mem_cons_of_mem _ h)
  have hown : s.vm.findClass RX11 = some m.cls := findClass_of_methodNamed B.named
  have hlocks := B.notSynchronized
  subst hsz
  have hD := hD0.self (sz := s.heap.size)
  generalize hAe : va_A (va_pl L f) s.heap.size = A at hD ⊢
  have hA : ∀ q : Nat, s.heap.size ≤ q → A q := fun q h => by rw [← hAe]; exact Or.inr h
  have hS : va_S A s.heap s.heap [] := va_S.rf
  have hR : tp_F τ [2, 3, 4, 5, 6, 7, 8, 9, 10, 11, 12, 20, 21, 22, 26, 27, 28] f f := tp_F.rf
  have hl := lv_entry ([.ref h0]) (n := 1) (Nat.le_of_ble_eq_true rfl)
  rw [lg_entry_eq]
  generalize (lg_sl ([.ref h0]) ++ List.replicate (1 - (lg_sl ([.ref h0])).length) Slot.unset).toArray = ls at hl ⊢
  have hl : lv_has ls 1 [(0, .ref h0)] := hl
  refine lv_aload_n hx hb dX11_status_0 rfl (lv_at hl 0 rfl) ?_
  refine tgk_12 hG ht_h0 (fun y1 y2 y3 y4 y5 y6 => ?_)
  refine tpk_12 hT ht_h0 (fun o7_x6 hf_o7 => ?_)
  refine tpk_pos (tp_in hG ht_h0 (by decide)) hf_o7 (fun q8 eq8 => ?_)
  refine va_get (D := (dC, dI)) (ci := 11) (v := .int o7_x6) (C := RX11) (T := TX11) (N := 7) hx hb hts hfX11 hown hK hP q8 eq8 rfl 6 (by decide) (hts (.fieldLink RX11 354 "ColdShips" "refusal" "I") wa_187) (fun _ h9 => h9) rfl dX11_status_1 ?_
  exact W.iret (v := o7_x6) hx hb hr (fun t ht hW => ⟨⟨o7_x6, f, rfl, ⟨hT, hR, trivial, trivial⟩, by rw [ht]; exact hP, va_K.moved hW.alike hK, hD⟩, hS.F ht⟩) hS.2.2 dX11_status_4
