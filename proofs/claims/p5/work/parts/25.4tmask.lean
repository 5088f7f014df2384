set_option maxHeartbeats 4000000 in
set_option maxRecDepth 100000 in
theorem t_X12_cargo (l : Launch) (dC : Nat → ClassId) (dI : Nat → Nat → Nat) (sz : Nat) (κ : Nat → ClassId) (τ ν : Nat → Nat) (ρ : Nat → Nat → Nat) (L : List Nat) (f : Nat → va_E) (hG : tp_G τ ν ρ L) (hT : tp_T (mo_O κ) κ τ ν ρ f) (h0 : Nat) (v : Int32) (u : Int32) (a : Int32) (a4 : Int32) (a5 : Int32) (a6 : Int32) (a7 : Int32) (a8 : Int32) (ht_h0 : τ h0 = 13) (hJ : mo_RI (-1) 0 (mo_R (mo_i (f (ρ h0 2))))) : Met l yX12_cargo wqX12_cargo ({ frames := 4, cells := 0, slots := 0, locals := 1200 }) (va_Pc [.ref h0, .int v, .int u, .int a, .int a4, .int a5, .int a6, .int a7, .int a8] (pz_B dC dI (tp_K κ) (va_pl L f) sz)) (va_Qi (fun (r : Int32) (f1 : Nat → va_E) => tp_T (mo_O κ) κ τ ν ρ f1 ∧ tp_F τ [13, 32] f f1 ∧ True ∧ mo_RI (-1) 0 (mo_R (mo_i (f1 (ρ h0 2))))) (fun (f1 : Nat → va_E) (t : State) => pz_E dC dI (tp_K κ) (va_A (va_pl L f) sz) (va_pl L f1) t) (va_A (va_pl L f) sz)) 0 0 (va_A (va_pl L f) sz) := by
  refine Met.ofW (cc := cX12_cargo) (maxL := 10) (ret := some .int) (by decide) rfl ?_
  intro p e s m args below meth c s₁ B hml hv
  obtain ⟨rfl, hsz, hP, hK, hD0, hN⟩ := hv
  have hx := B.exec
  have hb := B.bytes
  have hr := B.returns
  have hts := fun (w : Cond) (h : w ∈ WALL) => atoms_spec (ws := wqX12_cargo) B.pre w (List.mem_cons_of_mem _ h)
  have hown : s.vm.findClass RX12 = some m.cls := findClass_of_methodNamed B.named
  have hlocks := B.notSynchronized
  subst hsz
  have hD := hD0.self (sz := s.heap.size)
  generalize hAe : va_A (va_pl L f) s.heap.size = A at hD ⊢
  have hA : ∀ q : Nat, s.heap.size ≤ q → A q := fun q h => by rw [← hAe]; exact Or.inr h
  have hS : va_S A s.heap s.heap [] := va_S.rf
  have hR : tp_F τ [13, 32] f f := tp_F.rf
  have hl := lv_entry ([.ref h0, .int v, .int u, .int a, .int a4, .int a5, .int a6, .int a7, .int a8]) (n := 10) (Nat.le_of_ble_eq_true rfl)
  rw [lg_entry_eq]
  generalize (lg_sl ([.ref h0, .int v, .int u, .int a, .int a4, .int a5, .int a6, .int a7, .int a8]) ++ List.replicate (10 - (lg_sl ([.ref h0, .int v, .int u, .int a, .int a4, .int a5, .int a6, .int a7, .int a8])).length) Slot.unset).toArray = ls at hl ⊢
  have hl : lv_has ls 10 [(0, .ref h0), (1, .int v), (2, .int u), (3, .int a), (4, .int a4), (5, .int a5), (6, .int a6), (7, .int a7), (8, .int a8)] := hl
  refine tgk_13 hG ht_h0 (fun y1 y2 y3 y4 y5 y6 y7 y8 y9 y10 y11 y12 y13 y14 y15 y16 y17 y18 y19 y20 y21 y22 y23 y24 y25 => ?_)
  refine tpk_32 hT y1 (fun g27 hf_o26 => ?_)
  have hI : mo_RI (-1) 0 (mo_R g27) := by have q9 := hJ; rw [hf_o26, mo_i1] at q9; exact q9
  obtain ⟨n0x, en0x⟩ : ∃ n : Int, n = mo_R g27 (0) := ⟨_, rfl⟩
  have kn0x := hI.k0
  refine lv_aload_n hx hb dX12_cargo_0 rfl (lv_at hl 0 rfl) ?_
  refine lv_iconst (v := 0) hx hb dX12_cargo_1 (by decide) ?_
  refine tpk_13 hT ht_h0 (fun o28_x0 o28_x1 o28_x7 o28_x9 o28_x10 o28_x11 o28_x12 o28_x13 o28_x14 o28_x15 o28_x16 o28_x17 o28_x18 o28_x19 o28_x20 o28_x22 o28_x25 o28_x28 o28_x29 o28_x32 o28_x33 o28_x34 o28_x35 o28_x36 o28_x37 o28_x38 o28_x47 o28_x48 hf_o28 ro28_0 ro28_1 ro28_2 ro28_3 ro28_4 ro28_5 ro28_6 ro28_7 ro28_8 ro28_9 ro28_10 ro28_11 ro28_12 ro28_13 => ?_)
  refine tpk_pos (tp_in hG ht_h0 (by decide)) hf_o28 (fun q29 eq29 => ?_)
  refine va_put (D := (dC, dI)) (ci := 12) (v := .int 0) (ty := .int) (C := RX12) (T := TX12) (N := 53) hx hb hts hfX12 tyX12 tyX12_ok nmX12 hown hK hP hD hS q29 eq29 rfl 0 (by decide) (hts (.fieldLink RX12 91 "ColdShipsModel" "thrown" "I") wa_209) (fun _ h9 => h9) rfl (tyX12_ok 0 (by decide)) rfl rfl (Nat.le_of_ble_eq_true rfl) dX12_cargo_2 (tp_k (.inr (12, [.int 0, .int o28_x1, .ref (ρ h0 2), .ref (ρ h0 3), .ref (ρ h0 4), .ref (ρ h0 5), .ref (ρ h0 6), .int o28_x7, .ref (ρ h0 8), .int o28_x9, .int o28_x10, .int o28_x11, .int o28_x12, .long o28_x13, .int o28_x14, .int o28_x15, .int o28_x16, .int o28_x17, .int o28_x18, .int o28_x19, .int o28_x20, .ref (ρ h0 21), .int o28_x22, .ref (ρ h0 23), .ref (ρ h0 24), .int o28_x25, .ref (ρ h0 26), .ref (ρ h0 27), .int o28_x28, .int o28_x29, .ref (ρ h0 30), .ref (ρ h0 31), .int o28_x32, .long o28_x33, .long o28_x34, .long o28_x35, .int o28_x36, .int o28_x37, .int o28_x38, .ref (ρ h0 39), .ref (ρ h0 40), .ref (ρ h0 41), .ref (ρ h0 42), .ref (ρ h0 43), .ref (ρ h0 44), .ref (ρ h0 45), .ref (ρ h0 46), .int o28_x47, .int o28_x48, .ref (ρ h0 49), .ref (ρ h0 50), .ref (ρ h0 51), .ref (ρ h0 52)])) hD (tp_in hG ht_h0 (by decide)) eq29 (fun f30 H locs hP hD hS g32 k31 => ?_))
  have hT := hT.up ht_h0 g32 k31 ⟨_, _, _, _, _, _, _, _, _, _, _, _, _, _, _, _, _, _, _, _, _, _, _, _, _, _, _, _, rfl, ro28_0, ro28_1, ro28_2, ro28_3, ro28_4, ro28_5, ro28_6, ro28_7, ro28_8, ro28_9, ro28_10, ro28_11, ro28_12, ro28_13⟩
  have hR := hR.up ht_h0 (by decide) k31
  refine lv_iload hx hb dX12_cargo_5 (lv_at hl 4 rfl) ?_
  have hf_33 : f30 (ρ h0 2) = .inl (κ 0, 12967, .inl g27) := (k31 _ (tp_ne y1 ht_h0 (by decide))).trans hf_o26
  refine pz_calli (va_runS (As := [.int a4]) (rest := []) ⟨hx, hb, hml, hown, hts⟩ (t_X12_isHour l dC dI _ a4 (a4.toInt) rfl) (va_cwS 1 hts gX12_cargo_X12_isHour rfl rfl rfl pd_X12_isHour ⟨Nat.le_of_ble_eq_true rfl, Nat.le_of_ble_eq_true rfl⟩) ⟨pz_blind, pz_pre pz_P0 (hK.sub (tys' := []) [] rfl) (pz_D0 (A := fun _ => True)) hN⟩ rfl rfl hl.1 rfl (lv_room (Nat.le_of_ble_eq_true rfl)) dX12_cargo_7 ⟨Nat.le_of_ble_eq_true rfl, Nat.le_of_ble_eq_true rfl⟩) (fun r34 hw35 => ?_)
  obtain ⟨hw35r, hw35p⟩ := hw35
  refine lv_if_eq (tgt := 72) hx hb dX12_cargo_10 (by decide) (fun c36 => ?_) (fun c36 => ?_)
  · have ic36 : r34.toInt = 0 := zi_eq rfl rfl c36
    refine lv_aload_n hx hb dX12_cargo_72 rfl (lv_at hl 0 rfl) ?_
    refine lv_iconst (v := (-1)) hx hb dX12_cargo_73 (by decide) ?_
    refine tpk_pos (tp_in hG ht_h0 (by decide)) g32 (fun q37 eq37 => ?_)
    have hFc := tp_fr hD hS hA
    refine va_calli (va_runV (As := [.int (-1)]) (rest := []) ⟨hx, hb, hml, hown, hts⟩ (t_X12_told l dC dI _ κ τ ν ρ L f30 hG hT h0 ((-1)) ht_h0) (cwV 1 hts gX12_cargo_X12_told rfl rfl rfl ⟨rfl, pd_X12_told⟩ ⟨Nat.le_of_ble_eq_true rfl, Nat.le_of_ble_eq_true rfl⟩) ⟨pz_blind, va_recv hK hP (ci := 12) (q0 := q37) rfl eq37, pz_pre hP hK hD hN⟩ rfl rfl hl.1 rfl (lv_room (Nat.le_of_ble_eq_true rfl)) dX12_cargo_74 ⟨Nat.le_of_ble_eq_true rfl, Nat.le_of_ble_eq_true rfl⟩) hS (fun q _ h => hFc q h) hFc (fun r38 f40 t H1 locs ht hvm hw39 hB hz1 hk1 hS => ?_)
    refine tn_4 hw39 (fun hT hF41 hw39r hw39p => ?_); clear hw39
    have hR := hR.then hF41 (by decide)
    have hP := hB.1; rw [ht] at hP; have hD := tp_ad f40 hD; clear hB hFc hz1 hk1; subst ht; generalize t.heap = H at hP hS ⊢
    have hw39pq : r38.toInt = (-1) := by rw [hw39p]; rfl
    have hf_42 : f40 (ρ h0 2) = .inl (κ 0, 12967, .inl g27) := (hF41 _ (by rw [y1]; decide)).trans hf_33
    exact W.iret (v := r38) hx hb hr (fun t ht hW => ⟨⟨r38, f40, rfl, ⟨hT, hR, trivial, (by rw [hf_42, mo_i1]; exact hI)⟩, by rw [ht]; exact hP, va_K.moved hW.alike hK, hD⟩, hS.F ht⟩) hS.2.2 dX12_cargo_77
  · have ic36 : r34.toInt ≠ 0 := zi_eqf rfl rfl c36
    replace ic36 : 1 ≤ r34.toInt := by omega
    have p43 : 0 ≤ (a4.toInt) ∧ (a4.toInt) ≤ 2399 := (tp_cond.yes hw35p) (by omega)
    refine lv_iload_n hx hb dX12_cargo_13 rfl (lv_at hl 3 rfl) ?_
    refine lv_i2l hx hb dX12_cargo_14 rfl ?_
    refine lv_lconst (v := 0) hx hb dX12_cargo_15 (by decide) ?_
    refine lv_iload hx hb dX12_cargo_16 (lv_at hl 4 rfl) ?_
    refine lv_i2l hx hb dX12_cargo_18 rfl ?_
    refine pz_calli (va_runS (As := [.long a.toInt64, .long 0, .long a4.toInt64]) (rest := []) ⟨hx, hb, hml, hown, hts⟩ (t_X12_in l dC dI _ a.toInt64 (0) a4.toInt64 (a.toInt) (0) (a4.toInt) (Int32.toInt_toInt64 a) rfl (Int32.toInt_toInt64 a4)) (va_cwS 3 hts gX12_cargo_X12_in rfl rfl rfl pd_X12_in ⟨Nat.le_of_ble_eq_true rfl, Nat.le_of_ble_eq_true rfl⟩) ⟨pz_blind, pz_pre pz_P0 (hK.sub (tys' := []) [] rfl) (pz_D0 (A := fun _ => True)) hN⟩ rfl rfl hl.1 rfl (lv_room (Nat.le_of_ble_eq_true rfl)) dX12_cargo_19 ⟨Nat.le_of_ble_eq_true rfl, Nat.le_of_ble_eq_true rfl⟩) (fun r44 hw45 => ?_)
    obtain ⟨hw45r, hw45p⟩ := hw45
    refine lv_if_eq (tgt := 72) hx hb dX12_cargo_22 (by decide) (fun c46 => ?_) (fun c46 => ?_)
    · have ic46 : r44.toInt = 0 := zi_eq rfl rfl c46
      refine lv_aload_n hx hb dX12_cargo_72 rfl (lv_at hl 0 rfl) ?_
      refine lv_iconst (v := (-1)) hx hb dX12_cargo_73 (by decide) ?_
      refine tpk_pos (tp_in hG ht_h0 (by decide)) g32 (fun q47 eq47 => ?_)
      have hFc := tp_fr hD hS hA
      refine va_calli (va_runV (As := [.int (-1)]) (rest := []) ⟨hx, hb, hml, hown, hts⟩ (t_X12_told l dC dI _ κ τ ν ρ L f30 hG hT h0 ((-1)) ht_h0) (cwV 1 hts gX12_cargo_X12_told rfl rfl rfl ⟨rfl, pd_X12_told⟩ ⟨Nat.le_of_ble_eq_true rfl, Nat.le_of_ble_eq_true rfl⟩) ⟨pz_blind, va_recv hK hP (ci := 12) (q0 := q47) rfl eq47, pz_pre hP hK hD hN⟩ rfl rfl hl.1 rfl (lv_room (Nat.le_of_ble_eq_true rfl)) dX12_cargo_74 ⟨Nat.le_of_ble_eq_true rfl, Nat.le_of_ble_eq_true rfl⟩) hS (fun q _ h => hFc q h) hFc (fun r48 f50 t H1 locs ht hvm hw49 hB hz1 hk1 hS => ?_)
      refine tn_4 hw49 (fun hT hF51 hw49r hw49p => ?_); clear hw49
      have hR := hR.then hF51 (by decide)
      have hP := hB.1; rw [ht] at hP; have hD := tp_ad f50 hD; clear hB hFc hz1 hk1; subst ht; generalize t.heap = H at hP hS ⊢
      have hw49pq : r48.toInt = (-1) := by rw [hw49p]; rfl
      have hf_52 : f50 (ρ h0 2) = .inl (κ 0, 12967, .inl g27) := (hF51 _ (by rw [y1]; decide)).trans hf_33
      exact W.iret (v := r48) hx hb hr (fun t ht hW => ⟨⟨r48, f50, rfl, ⟨hT, hR, trivial, (by rw [hf_52, mo_i1]; exact hI)⟩, by rw [ht]; exact hP, va_K.moved hW.alike hK, hD⟩, hS.F ht⟩) hS.2.2 dX12_cargo_77
    · have ic46 : r44.toInt ≠ 0 := zi_eqf rfl rfl c46
      replace ic46 : 1 ≤ r44.toInt := by omega
      have p53 : (0) ≤ (a.toInt) ∧ (a.toInt) ≤ (a4.toInt) := (tp_cond.yes hw45p) (by omega)
      refine lv_iload hx hb dX12_cargo_25 (lv_at hl 6 rfl) ?_
      refine pz_calli (va_runS (As := [.int a6]) (rest := []) ⟨hx, hb, hml, hown, hts⟩ (t_X12_isHour l dC dI _ a6 (a6.toInt) rfl) (va_cwS 1 hts gX12_cargo_X12_isHour rfl rfl rfl pd_X12_isHour ⟨Nat.le_of_ble_eq_true rfl, Nat.le_of_ble_eq_true rfl⟩) ⟨pz_blind, pz_pre pz_P0 (hK.sub (tys' := []) [] rfl) (pz_D0 (A := fun _ => True)) hN⟩ rfl rfl hl.1 rfl (lv_room (Nat.le_of_ble_eq_true rfl)) dX12_cargo_27 ⟨Nat.le_of_ble_eq_true rfl, Nat.le_of_ble_eq_true rfl⟩) (fun r54 hw55 => ?_)
      obtain ⟨hw55r, hw55p⟩ := hw55
      refine lv_if_eq (tgt := 72) hx hb dX12_cargo_30 (by decide) (fun c56 => ?_) (fun c56 => ?_)
      · have ic56 : r54.toInt = 0 := zi_eq rfl rfl c56
        refine lv_aload_n hx hb dX12_cargo_72 rfl (lv_at hl 0 rfl) ?_
        refine lv_iconst (v := (-1)) hx hb dX12_cargo_73 (by decide) ?_
        refine tpk_pos (tp_in hG ht_h0 (by decide)) g32 (fun q57 eq57 => ?_)
        have hFc := tp_fr hD hS hA
        refine va_calli (va_runV (As := [.int (-1)]) (rest := []) ⟨hx, hb, hml, hown, hts⟩ (t_X12_told l dC dI _ κ τ ν ρ L f30 hG hT h0 ((-1)) ht_h0) (cwV 1 hts gX12_cargo_X12_told rfl rfl rfl ⟨rfl, pd_X12_told⟩ ⟨Nat.le_of_ble_eq_true rfl, Nat.le_of_ble_eq_true rfl⟩) ⟨pz_blind, va_recv hK hP (ci := 12) (q0 := q57) rfl eq57, pz_pre hP hK hD hN⟩ rfl rfl hl.1 rfl (lv_room (Nat.le_of_ble_eq_true rfl)) dX12_cargo_74 ⟨Nat.le_of_ble_eq_true rfl, Nat.le_of_ble_eq_true rfl⟩) hS (fun q _ h => hFc q h) hFc (fun r58 f60 t H1 locs ht hvm hw59 hB hz1 hk1 hS => ?_)
        refine tn_4 hw59 (fun hT hF61 hw59r hw59p => ?_); clear hw59
        have hR := hR.then hF61 (by decide)
        have hP := hB.1; rw [ht] at hP; have hD := tp_ad f60 hD; clear hB hFc hz1 hk1; subst ht; generalize t.heap = H at hP hS ⊢
        have hw59pq : r58.toInt = (-1) := by rw [hw59p]; rfl
        have hf_62 : f60 (ρ h0 2) = .inl (κ 0, 12967, .inl g27) := (hF61 _ (by rw [y1]; decide)).trans hf_33
        exact W.iret (v := r58) hx hb hr (fun t ht hW => ⟨⟨r58, f60, rfl, ⟨hT, hR, trivial, (by rw [hf_62, mo_i1]; exact hI)⟩, by rw [ht]; exact hP, va_K.moved hW.alike hK, hD⟩, hS.F ht⟩) hS.2.2 dX12_cargo_77
      · have ic56 : r54.toInt ≠ 0 := zi_eqf rfl rfl c56
        replace ic56 : 1 ≤ r54.toInt := by omega
        have p63 : 0 ≤ (a6.toInt) ∧ (a6.toInt) ≤ 2399 := (tp_cond.yes hw55p) (by omega)
        refine lv_iload hx hb dX12_cargo_33 (lv_at hl 5 rfl) ?_
        refine lv_i2l hx hb dX12_cargo_35 rfl ?_
        refine lv_lconst (v := 0) hx hb dX12_cargo_36 (by decide) ?_
        refine lv_iload hx hb dX12_cargo_37 (lv_at hl 6 rfl) ?_
        refine lv_i2l hx hb dX12_cargo_39 rfl ?_
        refine pz_calli (va_runS (As := [.long a5.toInt64, .long 0, .long a6.toInt64]) (rest := []) ⟨hx, hb, hml, hown, hts⟩ (t_X12_in l dC dI _ a5.toInt64 (0) a6.toInt64 (a5.toInt) (0) (a6.toInt) (Int32.toInt_toInt64 a5) rfl (Int32.toInt_toInt64 a6)) (va_cwS 3 hts gX12_cargo_X12_in rfl rfl rfl pd_X12_in ⟨Nat.le_of_ble_eq_true rfl, Nat.le_of_ble_eq_true rfl⟩) ⟨pz_blind, pz_pre pz_P0 (hK.sub (tys' := []) [] rfl) (pz_D0 (A := fun _ => True)) hN⟩ rfl rfl hl.1 rfl (lv_room (Nat.le_of_ble_eq_true rfl)) dX12_cargo_40 ⟨Nat.le_of_ble_eq_true rfl, Nat.le_of_ble_eq_true rfl⟩) (fun r64 hw65 => ?_)
        obtain ⟨hw65r, hw65p⟩ := hw65
        refine lv_if_eq (tgt := 72) hx hb dX12_cargo_43 (by decide) (fun c66 => ?_) (fun c66 => ?_)
        · have ic66 : r64.toInt = 0 := zi_eq rfl rfl c66
          refine lv_aload_n hx hb dX12_cargo_72 rfl (lv_at hl 0 rfl) ?_
          refine lv_iconst (v := (-1)) hx hb dX12_cargo_73 (by decide) ?_
          refine tpk_pos (tp_in hG ht_h0 (by decide)) g32 (fun q67 eq67 => ?_)
          have hFc := tp_fr hD hS hA
          refine va_calli (va_runV (As := [.int (-1)]) (rest := []) ⟨hx, hb, hml, hown, hts⟩ (t_X12_told l dC dI _ κ τ ν ρ L f30 hG hT h0 ((-1)) ht_h0) (cwV 1 hts gX12_cargo_X12_told rfl rfl rfl ⟨rfl, pd_X12_told⟩ ⟨Nat.le_of_ble_eq_true rfl, Nat.le_of_ble_eq_true rfl⟩) ⟨pz_blind, va_recv hK hP (ci := 12) (q0 := q67) rfl eq67, pz_pre hP hK hD hN⟩ rfl rfl hl.1 rfl (lv_room (Nat.le_of_ble_eq_true rfl)) dX12_cargo_74 ⟨Nat.le_of_ble_eq_true rfl, Nat.le_of_ble_eq_true rfl⟩) hS (fun q _ h => hFc q h) hFc (fun r68 f70 t H1 locs ht hvm hw69 hB hz1 hk1 hS => ?_)
          refine tn_4 hw69 (fun hT hF71 hw69r hw69p => ?_); clear hw69
          have hR := hR.then hF71 (by decide)
          have hP := hB.1; rw [ht] at hP; have hD := tp_ad f70 hD; clear hB hFc hz1 hk1; subst ht; generalize t.heap = H at hP hS ⊢
          have hw69pq : r68.toInt = (-1) := by rw [hw69p]; rfl
          have hf_72 : f70 (ρ h0 2) = .inl (κ 0, 12967, .inl g27) := (hF71 _ (by rw [y1]; decide)).trans hf_33
          exact W.iret (v := r68) hx hb hr (fun t ht hW => ⟨⟨r68, f70, rfl, ⟨hT, hR, trivial, (by rw [hf_72, mo_i1]; exact hI)⟩, by rw [ht]; exact hP, va_K.moved hW.alike hK, hD⟩, hS.F ht⟩) hS.2.2 dX12_cargo_77
        · have ic66 : r64.toInt ≠ 0 := zi_eqf rfl rfl c66
          replace ic66 : 1 ≤ r64.toInt := by omega
          have p73 : (0) ≤ (a5.toInt) ∧ (a5.toInt) ≤ (a6.toInt) := (tp_cond.yes hw65p) (by omega)
          refine lv_iload hx hb dX12_cargo_46 (lv_at hl 7 rfl) ?_
          refine lv_i2l hx hb dX12_cargo_48 rfl ?_
          refine lv_lconst (v := 1) hx hb dX12_cargo_49 (by decide) ?_
          refine lv_ldc2 (own := RX12) (v := 200000) hx hb hown (hts (.constantLong RX12 124 (200000)) wa_272) dX12_cargo_50 ?_
          refine pz_calli (va_runS (As := [.long a7.toInt64, .long 1, .long 200000]) (rest := []) ⟨hx, hb, hml, hown, hts⟩ (t_X12_in l dC dI _ a7.toInt64 (1) (200000) (a7.toInt) (1) (200000) (Int32.toInt_toInt64 a7) rfl rfl) (va_cwS 3 hts gX12_cargo_X12_in rfl rfl rfl pd_X12_in ⟨Nat.le_of_ble_eq_true rfl, Nat.le_of_ble_eq_true rfl⟩) ⟨pz_blind, pz_pre pz_P0 (hK.sub (tys' := []) [] rfl) (pz_D0 (A := fun _ => True)) hN⟩ rfl rfl hl.1 rfl (lv_room (Nat.le_of_ble_eq_true rfl)) dX12_cargo_53 ⟨Nat.le_of_ble_eq_true rfl, Nat.le_of_ble_eq_true rfl⟩) (fun r74 hw75 => ?_)
          obtain ⟨hw75r, hw75p⟩ := hw75
          refine lv_if_eq (tgt := 72) hx hb dX12_cargo_56 (by decide) (fun c76 => ?_) (fun c76 => ?_)
          · have ic76 : r74.toInt = 0 := zi_eq rfl rfl c76
            refine lv_aload_n hx hb dX12_cargo_72 rfl (lv_at hl 0 rfl) ?_
            refine lv_iconst (v := (-1)) hx hb dX12_cargo_73 (by decide) ?_
            refine tpk_pos (tp_in hG ht_h0 (by decide)) g32 (fun q77 eq77 => ?_)
            have hFc := tp_fr hD hS hA
            refine va_calli (va_runV (As := [.int (-1)]) (rest := []) ⟨hx, hb, hml, hown, hts⟩ (t_X12_told l dC dI _ κ τ ν ρ L f30 hG hT h0 ((-1)) ht_h0) (cwV 1 hts gX12_cargo_X12_told rfl rfl rfl ⟨rfl, pd_X12_told⟩ ⟨Nat.le_of_ble_eq_true rfl, Nat.le_of_ble_eq_true rfl⟩) ⟨pz_blind, va_recv hK hP (ci := 12) (q0 := q77) rfl eq77, pz_pre hP hK hD hN⟩ rfl rfl hl.1 rfl (lv_room (Nat.le_of_ble_eq_true rfl)) dX12_cargo_74 ⟨Nat.le_of_ble_eq_true rfl, Nat.le_of_ble_eq_true rfl⟩) hS (fun q _ h => hFc q h) hFc (fun r78 f80 t H1 locs ht hvm hw79 hB hz1 hk1 hS => ?_)
            refine tn_4 hw79 (fun hT hF81 hw79r hw79p => ?_); clear hw79
            have hR := hR.then hF81 (by decide)
            have hP := hB.1; rw [ht] at hP; have hD := tp_ad f80 hD; clear hB hFc hz1 hk1; subst ht; generalize t.heap = H at hP hS ⊢
            have hw79pq : r78.toInt = (-1) := by rw [hw79p]; rfl
            have hf_82 : f80 (ρ h0 2) = .inl (κ 0, 12967, .inl g27) := (hF81 _ (by rw [y1]; decide)).trans hf_33
            exact W.iret (v := r78) hx hb hr (fun t ht hW => ⟨⟨r78, f80, rfl, ⟨hT, hR, trivial, (by rw [hf_82, mo_i1]; exact hI)⟩, by rw [ht]; exact hP, va_K.moved hW.alike hK, hD⟩, hS.F ht⟩) hS.2.2 dX12_cargo_77
          · have ic76 : r74.toInt ≠ 0 := zi_eqf rfl rfl c76
            replace ic76 : 1 ≤ r74.toInt := by omega
            have p83 : (1) ≤ (a7.toInt) ∧ (a7.toInt) ≤ (200000) := (tp_cond.yes hw75p) (by omega)
            refine lv_iload hx hb dX12_cargo_59 (lv_at hl 8 rfl) ?_
            refine lv_i2l hx hb dX12_cargo_61 rfl ?_
            refine lv_lconst (v := 0) hx hb dX12_cargo_62 (by decide) ?_
            refine lv_ldc2 (own := RX12) (v := 1000) hx hb hown (hts (.constantLong RX12 122 (1000)) wa_271) dX12_cargo_63 ?_
            refine pz_calli (va_runS (As := [.long a8.toInt64, .long 0, .long 1000]) (rest := []) ⟨hx, hb, hml, hown, hts⟩ (t_X12_in l dC dI _ a8.toInt64 (0) (1000) (a8.toInt) (0) (1000) (Int32.toInt_toInt64 a8) rfl rfl) (va_cwS 3 hts gX12_cargo_X12_in rfl rfl rfl pd_X12_in ⟨Nat.le_of_ble_eq_true rfl, Nat.le_of_ble_eq_true rfl⟩) ⟨pz_blind, pz_pre pz_P0 (hK.sub (tys' := []) [] rfl) (pz_D0 (A := fun _ => True)) hN⟩ rfl rfl hl.1 rfl (lv_room (Nat.le_of_ble_eq_true rfl)) dX12_cargo_66 ⟨Nat.le_of_ble_eq_true rfl, Nat.le_of_ble_eq_true rfl⟩) (fun r84 hw85 => ?_)
            obtain ⟨hw85r, hw85p⟩ := hw85
            refine lv_if_ne (tgt := 78) hx hb dX12_cargo_69 (by decide) (fun c86 => ?_) (fun c86 => ?_)
            · have ic86 : r84.toInt ≠ 0 := zi_ne rfl rfl c86
              replace ic86 : 1 ≤ r84.toInt := by omega
              have p87 : (0) ≤ (a8.toInt) ∧ (a8.toInt) ≤ (1000) := (tp_cond.yes hw85p) (by omega)
              refine lv_aload_n hx hb dX12_cargo_78 rfl (lv_at hl 0 rfl) ?_
              refine lv_iload_n hx hb dX12_cargo_79 rfl (lv_at hl 1 rfl) ?_
              refine tpk_pos (tp_in hG ht_h0 (by decide)) g32 (fun q88 eq88 => ?_)
              refine pz_calli (va_runV (As := [.int v]) (rest := []) ⟨hx, hb, hml, hown, hts⟩ (t_X12_isTerminal l dC dI _ κ τ ν ρ L f30 hG hT h0 v (-1) 0 ht_h0 (by omega) (by rw [hf_33, mo_i1]; exact hI)) (cwV 1 hts gX12_cargo_X12_isTerminal rfl rfl rfl ⟨rfl, pd_X12_isTerminal⟩ ⟨Nat.le_of_ble_eq_true rfl, Nat.le_of_ble_eq_true rfl⟩) ⟨pz_blind, va_recv hK hP (ci := 12) (q0 := q88) rfl eq88, pz_pre hP hK hD hN⟩ rfl rfl hl.1 rfl (lv_room (Nat.le_of_ble_eq_true rfl)) dX12_cargo_80 ⟨Nat.le_of_ble_eq_true rfl, Nat.le_of_ble_eq_true rfl⟩) (fun r89 hw90 => ?_)
              obtain ⟨hw90r, hw90p⟩ := hw90
              have := hI.k0
              rw [hf_33, mo_i1] at hw90p
              refine lv_if_eq (tgt := 94) hx hb dX12_cargo_83 (by decide) (fun c91 => ?_) (fun c91 => ?_)
              · have ic91 : r89.toInt = 0 := zi_eq rfl rfl c91
                refine lv_aload_n hx hb dX12_cargo_94 rfl (lv_at hl 0 rfl) ?_
                refine lv_bipush (v := (-2)) hx hb dX12_cargo_95 (by decide) ?_
                have hFc := tp_fr hD hS hA
                refine va_calli (va_runV (As := [.int (-2)]) (rest := []) ⟨hx, hb, hml, hown, hts⟩ (t_X12_told l dC dI _ κ τ ν ρ L f30 hG hT h0 ((-2)) ht_h0) (cwV 1 hts gX12_cargo_X12_told rfl rfl rfl ⟨rfl, pd_X12_told⟩ ⟨Nat.le_of_ble_eq_true rfl, Nat.le_of_ble_eq_true rfl⟩) ⟨pz_blind, va_recv hK hP (ci := 12) (q0 := q88) rfl eq88, pz_pre hP hK hD hN⟩ rfl rfl hl.1 rfl (lv_room (Nat.le_of_ble_eq_true rfl)) dX12_cargo_97 ⟨Nat.le_of_ble_eq_true rfl, Nat.le_of_ble_eq_true rfl⟩) hS (fun q _ h => hFc q h) hFc (fun r92 f94 t H1 locs ht hvm hw93 hB hz1 hk1 hS => ?_)
                refine tn_4 hw93 (fun hT hF95 hw93r hw93p => ?_); clear hw93
                have hR := hR.then hF95 (by decide)
                have hP := hB.1; rw [ht] at hP; have hD := tp_ad f94 hD; clear hB hFc hz1 hk1; subst ht; generalize t.heap = H at hP hS ⊢
                have hw93pq : r92.toInt = (-2) := by rw [hw93p]; rfl
                have hf_96 : f94 (ρ h0 2) = .inl (κ 0, 12967, .inl g27) := (hF95 _ (by rw [y1]; decide)).trans hf_33
                exact W.iret (v := r92) hx hb hr (fun t ht hW => ⟨⟨r92, f94, rfl, ⟨hT, hR, trivial, (by rw [hf_96, mo_i1]; exact hI)⟩, by rw [ht]; exact hP, va_K.moved hW.alike hK, hD⟩, hS.F ht⟩) hS.2.2 dX12_cargo_100
              · have ic91 : r89.toInt ≠ 0 := zi_eqf rfl rfl c91
                replace ic91 : 1 ≤ r89.toInt := by omega
                have p97 : 0 ≤ v.toInt ∧ v.toInt < mo_R g27 0 := (tp_cond.yes hw90p) (by omega)
                refine lv_aload_n hx hb dX12_cargo_86 rfl (lv_at hl 0 rfl) ?_
                refine lv_iload_n hx hb dX12_cargo_87 rfl (lv_at hl 2 rfl) ?_
                refine pz_calli (va_runV (As := [.int u]) (rest := []) ⟨hx, hb, hml, hown, hts⟩ (t_X12_isTerminal l dC dI _ κ τ ν ρ L f30 hG hT h0 u (-1) 0 ht_h0 (by omega) (by rw [hf_33, mo_i1]; exact hI)) (cwV 1 hts gX12_cargo_X12_isTerminal rfl rfl rfl ⟨rfl, pd_X12_isTerminal⟩ ⟨Nat.le_of_ble_eq_true rfl, Nat.le_of_ble_eq_true rfl⟩) ⟨pz_blind, va_recv hK hP (ci := 12) (q0 := q88) rfl eq88, pz_pre hP hK hD hN⟩ rfl rfl hl.1 rfl (lv_room (Nat.le_of_ble_eq_true rfl)) dX12_cargo_88 ⟨Nat.le_of_ble_eq_true rfl, Nat.le_of_ble_eq_true rfl⟩) (fun r98 hw99 => ?_)
                obtain ⟨hw99r, hw99p⟩ := hw99
                have := hI.k0
                rw [hf_33, mo_i1] at hw99p
                refine lv_if_ne (tgt := 101) hx hb dX12_cargo_91 (by decide) (fun c100 => ?_) (fun c100 => ?_)
                · have ic100 : r98.toInt ≠ 0 := zi_ne rfl rfl c100
                  replace ic100 : 1 ≤ r98.toInt := by omega
                  have p101 : 0 ≤ u.toInt ∧ u.toInt < mo_R g27 0 := (tp_cond.yes hw99p) (by omega)
                  refine lv_iload_n hx hb dX12_cargo_101 rfl (lv_at hl 1 rfl) ?_
                  refine lv_iload_n hx hb dX12_cargo_102 rfl (lv_at hl 2 rfl) ?_
                  refine lv_icmp_ne (tgt := 113) hx hb dX12_cargo_103 (by decide) (fun c102 => ?_) (fun c102 => ?_)
                  · have ic102 : v.toInt ≠ u.toInt := zi_ne rfl rfl c102
                    refine lv_aload_n hx hb dX12_cargo_113 rfl (lv_at hl 0 rfl) ?_
                    refine va_get (D := (dC, dI)) (ci := 12) (v := .ref (ρ h0 2)) (C := RX12) (T := TX12) (N := 53) hx hb hts hfX12 hown hK hP q88 eq88 rfl 2 (by decide) (hts (.fieldLink RX12 7 "ColdShipsModel" "row" "[I") wa_148) (fun _ h9 => h9) rfl dX12_cargo_114 ?_
                    refine lv_bipush (v := 10) hx hb dX12_cargo_117 (by decide) ?_
                    refine tpk_pos (tp_in hG y1 (by decide)) hf_33 (fun q103 eq103 => ?_)
                    refine va_iald hx hb hK hP q103 0 eq103 rfl (vp_in_iff.mpr ⟨by decide, by decide⟩) dX12_cargo_119 ?_
                    refine lv_topi (fun z104 ez104 => ?_)
                    have jz104 : z104.toInt = mo_R g27 (10) := mo_rd ez104 (show (10 : Int32).toInt = (10) from by decide)
                    have kz104 := hI.k10
                    refine lv_bipush (v := 6) hx hb dX12_cargo_120 (by decide) ?_
                    refine lv_icmp_ne (tgt := 132) hx hb dX12_cargo_122 (by decide) (fun c105 => ?_) (fun c105 => ?_)
                    · have ic105 : z104.toInt ≠ 6 := zi_ne rfl rfl c105
                      replace ic105 : z104.toInt ≤ 5 := by omega
                      refine lv_sipush (v := 12919) hx hb dX12_cargo_132 (by decide) ?_
                      refine lv_bipush (v := 8) hx hb dX12_cargo_135 (by decide) ?_
                      refine lv_aload_n hx hb dX12_cargo_137 rfl (lv_at hl 0 rfl) ?_
                      refine va_get (D := (dC, dI)) (ci := 12) (v := .ref (ρ h0 2)) (C := RX12) (T := TX12) (N := 53) hx hb hts hfX12 hown hK hP q88 eq88 rfl 2 (by decide) (hts (.fieldLink RX12 7 "ColdShipsModel" "row" "[I") wa_148) (fun _ h9 => h9) rfl dX12_cargo_138 ?_
                      refine lv_bipush (v := 10) hx hb dX12_cargo_141 (by decide) ?_
                      refine va_iald hx hb hK hP q103 0 eq103 rfl (vp_in_iff.mpr ⟨by decide, by decide⟩) dX12_cargo_143 ?_
                      refine lv_topi (fun z106 ez106 => ?_)
                      have jz106 : z106.toInt = mo_R g27 (10) := mo_rd ez106 (show (10 : Int32).toInt = (10) from by decide)
                      have kz106 := hI.k10
                      have vz106 : z106.toInt = z104.toInt := jz106.trans (jz104).symm
                      refine lv_imul hx hb dX12_cargo_144 ?_
                      refine lv_topi (fun z107 ez107 => ?_)
                      have iz107 : z107.toInt = 8 * z106.toInt := zi_mul ez107 rfl rfl (by omega) (by omega)
                      refine lv_iadd hx hb dX12_cargo_145 ?_
                      refine lv_topi (fun z108 ez108 => ?_)
                      have iz108 : z108.toInt = 12919 + z107.toInt := zi_add ez108 rfl rfl (by omega) (by omega)
                      refine lv_istore (lv' := [(9, .int z108), (0, .ref h0), (1, .int v), (2, .int u), (3, .int a), (4, .int a4), (5, .int a5), (6, .int a6), (7, .int a7), (8, .int a8)]) hx hb dX12_cargo_146 hl (by decide) rfl (fun ls hl => ?_)
                      refine lv_aload_n hx hb dX12_cargo_148 rfl (lv_at hl 1 rfl) ?_
                      refine lv_iload hx hb dX12_cargo_149 (lv_at hl 0 rfl) ?_
                      refine lv_iload_n hx hb dX12_cargo_151 rfl (lv_at hl 2 rfl) ?_
                      refine lv_iload_n hx hb dX12_cargo_152 rfl (lv_at hl 3 rfl) ?_
                      refine lv_iload_n hx hb dX12_cargo_153 rfl (lv_at hl 4 rfl) ?_
                      refine lv_iload hx hb dX12_cargo_154 (lv_at hl 5 rfl) ?_
                      have hFc := tp_fr hD hS hA
                      refine va_callv (va_runV (As := [.int z108, .int v, .int u, .int a, .int a4]) (rest := []) ⟨hx, hb, hml, hown, hts⟩ (t_X12_addFour l dC dI _ κ τ ν ρ L f30 hG hT h0 z108 v u a a4 ht_h0 (by first | decide | omega)) (cwV 5 hts gX12_cargo_X12_addFour rfl rfl rfl ⟨rfl, pd_X12_addFour⟩ ⟨Nat.le_of_ble_eq_true rfl, Nat.le_of_ble_eq_true rfl⟩) ⟨pz_blind, va_recv hK hP (ci := 12) (q0 := q88) rfl eq88, pz_pre hP hK hD hN⟩ rfl rfl hl.1 rfl (lv_room (Nat.le_of_ble_eq_true rfl)) dX12_cargo_156 ⟨Nat.le_of_ble_eq_true rfl, Nat.le_of_ble_eq_true rfl⟩) hS (fun q _ h => hFc q h) hFc (fun f111 t H1 locs ht hvm hw110 hB hz1 hk1 hS => ?_)
                      refine tn_3 hw110 (fun hT hF112 hw110p => ?_); clear hw110
                      have hR := hR.then hF112 (by decide)
                      have hP := hB.1; rw [ht] at hP; have hD := tp_ad f111 hD; clear hB hFc hz1 hk1; subst ht; generalize t.heap = H at hP hS ⊢
                      rw [hf_33, mo_i1] at hw110p
                      obtain ⟨Q1_112, Q2_112, Q3_112, u1_112, u2_112, u3_112, u4_112⟩ := hw110p
                      refine tpk_32 hT y1 (fun g114 hf_o113 => ?_)
                      rw [hf_o113, mo_i1] at u4_112
                      have hU : mo_U (mo_R g27) (Q1_112) (12919 + 8 * z104.toInt + 0) (v.toInt) := by have q9 := u1_112; rw [show z108.toInt = (12919 + 8 * z104.toInt + 0) by omega] at q9; exact q9
                      have hI := mo_w_cargo hI hU z104.toInt (0) (by omega) (by omega) (by omega)
                      have pn115 : Q1_112 (0) = n0x := (hU.ne (by omega) (by omega)).trans en0x.symm
                      have pn116 : Q1_112 (10) = z104.toInt := (hU.ne (by omega) (by omega)).trans (jz104).symm
                      have pn117 : Q1_112 (12919 + 8 * z104.toInt + 0) = v.toInt := hU.eq (by omega)
                      have hU : mo_U (Q1_112) (Q2_112) (12919 + 8 * z104.toInt + 1) (u.toInt) := by have q9 := u2_112; rw [show z108.toInt + 1 = (12919 + 8 * z104.toInt + 1) by omega] at q9; exact q9
                      have hI := mo_w_cargo hI hU z104.toInt (1) (by omega) (by omega) (by omega)
                      have pn118 : Q2_112 (0) = n0x := (hU.ne (by omega) (by omega)).trans pn115
                      have pn119 : Q2_112 (10) = z104.toInt := (hU.ne (by omega) (by omega)).trans pn116
                      have pn120 : Q2_112 (12919 + 8 * z104.toInt + 0) = v.toInt := (hU.ne (by omega) (by omega)).trans pn117
                      have pn121 : Q2_112 (12919 + 8 * z104.toInt + 1) = u.toInt := hU.eq (by omega)
                      have hU : mo_U (Q2_112) (Q3_112) (12919 + 8 * z104.toInt + 2) (a.toInt) := by have q9 := u3_112; rw [show z108.toInt + 2 = (12919 + 8 * z104.toInt + 2) by omega] at q9; exact q9
                      have hI := mo_w_cargo hI hU z104.toInt (2) (by omega) (by omega) (by omega)
                      have pn122 : Q3_112 (0) = n0x := (hU.ne (by omega) (by omega)).trans pn118
                      have pn123 : Q3_112 (10) = z104.toInt := (hU.ne (by omega) (by omega)).trans pn119
                      have pn124 : Q3_112 (12919 + 8 * z104.toInt + 0) = v.toInt := (hU.ne (by omega) (by omega)).trans pn120
                      have pn125 : Q3_112 (12919 + 8 * z104.toInt + 1) = u.toInt := (hU.ne (by omega) (by omega)).trans pn121
                      have hU : mo_U (Q3_112) (mo_R g114) (12919 + 8 * z104.toInt + 3) (a4.toInt) := by have q9 := u4_112; rw [show z108.toInt + 3 = (12919 + 8 * z104.toInt + 3) by omega] at q9; exact q9
                      have hI := mo_w_cargo hI hU z104.toInt (3) (by omega) (by omega) (by omega)
                      have pn126 : mo_R g114 (0) = n0x := (hU.ne (by omega) (by omega)).trans pn122
                      have pn127 : mo_R g114 (10) = z104.toInt := (hU.ne (by omega) (by omega)).trans pn123
                      have pn128 : mo_R g114 (12919 + 8 * z104.toInt + 0) = v.toInt := (hU.ne (by omega) (by omega)).trans pn124
                      have pn129 : mo_R g114 (12919 + 8 * z104.toInt + 1) = u.toInt := (hU.ne (by omega) (by omega)).trans pn125
                      refine lv_aload_n hx hb dX12_cargo_159 rfl (lv_at hl 1 rfl) ?_
                      refine lv_iload hx hb dX12_cargo_160 (lv_at hl 0 rfl) ?_
                      refine lv_iconst (v := 4) hx hb dX12_cargo_162 (by decide) ?_
                      refine lv_iadd hx hb dX12_cargo_163 ?_
                      refine lv_topi (fun z130 ez130 => ?_)
                      have iz130 : z130.toInt = z108.toInt + 4 := zi_add ez130 rfl rfl (by omega) (by omega)
                      refine lv_iload hx hb dX12_cargo_164 (lv_at hl 6 rfl) ?_
                      refine lv_iload hx hb dX12_cargo_166 (lv_at hl 7 rfl) ?_
                      refine lv_iload hx hb dX12_cargo_168 (lv_at hl 8 rfl) ?_
                      refine lv_iload hx hb dX12_cargo_170 (lv_at hl 9 rfl) ?_
                      have hf_131 : f111 h0 = .inr (12, [.int 0, .int o28_x1, .ref (ρ h0 2), .ref (ρ h0 3), .ref (ρ h0 4), .ref (ρ h0 5), .ref (ρ h0 6), .int o28_x7, .ref (ρ h0 8), .int o28_x9, .int o28_x10, .int o28_x11, .int o28_x12, .long o28_x13, .int o28_x14, .int o28_x15, .int o28_x16, .int o28_x17, .int o28_x18, .int o28_x19, .int o28_x20, .ref (ρ h0 21), .int o28_x22, .ref (ρ h0 23), .ref (ρ h0 24), .int o28_x25, .ref (ρ h0 26), .ref (ρ h0 27), .int o28_x28, .int o28_x29, .ref (ρ h0 30), .ref (ρ h0 31), .int o28_x32, .long o28_x33, .long o28_x34, .long o28_x35, .int o28_x36, .int o28_x37, .int o28_x38, .ref (ρ h0 39), .ref (ρ h0 40), .ref (ρ h0 41), .ref (ρ h0 42), .ref (ρ h0 43), .ref (ρ h0 44), .ref (ρ h0 45), .ref (ρ h0 46), .int o28_x47, .int o28_x48, .ref (ρ h0 49), .ref (ρ h0 50), .ref (ρ h0 51), .ref (ρ h0 52)]) := (hF112 _ (by rw [ht_h0]; decide)).trans g32
                      refine tpk_pos (tp_in hG ht_h0 (by decide)) hf_131 (fun q132 eq132 => ?_)
                      have hFc := tp_fr hD hS hA
                      refine va_callv (va_runV (As := [.int z130, .int a5, .int a6, .int a7, .int a8]) (rest := []) ⟨hx, hb, hml, hown, hts⟩ (t_X12_addFour l dC dI _ κ τ ν ρ L f111 hG hT h0 z130 a5 a6 a7 a8 ht_h0 (by first | decide | omega)) (cwV 5 hts gX12_cargo_X12_addFour rfl rfl rfl ⟨rfl, pd_X12_addFour⟩ ⟨Nat.le_of_ble_eq_true rfl, Nat.le_of_ble_eq_true rfl⟩) ⟨pz_blind, va_recv hK hP (ci := 12) (q0 := q132) rfl eq132, pz_pre hP hK hD hN⟩ rfl rfl hl.1 rfl (lv_room (Nat.le_of_ble_eq_true rfl)) dX12_cargo_172 ⟨Nat.le_of_ble_eq_true rfl, Nat.le_of_ble_eq_true rfl⟩) hS (fun q _ h => hFc q h) hFc (fun f135 t H1 locs ht hvm hw134 hB hz1 hk1 hS => ?_)
                      refine tn_3 hw134 (fun hT hF136 hw134p => ?_); clear hw134
                      have hR := hR.then hF136 (by decide)
                      have hP := hB.1; rw [ht] at hP; have hD := tp_ad f135 hD; clear hB hFc hz1 hk1; subst ht; generalize t.heap = H at hP hS ⊢
                      rw [hf_o113, mo_i1] at hw134p
                      obtain ⟨Q1_136, Q2_136, Q3_136, u1_136, u2_136, u3_136, u4_136⟩ := hw134p
                      refine tpk_32 hT y1 (fun g138 hf_o137 => ?_)
                      rw [hf_o137, mo_i1] at u4_136
                      have hU : mo_U (mo_R g114) (Q1_136) (12919 + 8 * z104.toInt + 4) (a5.toInt) := by have q9 := u1_136; rw [show z130.toInt = (12919 + 8 * z104.toInt + 4) by omega] at q9; exact q9
                      have hI := mo_w_cargo hI hU z104.toInt (4) (by omega) (by omega) (by omega)
                      have pn139 : Q1_136 (0) = n0x := (hU.ne (by omega) (by omega)).trans pn126
                      have pn140 : Q1_136 (10) = z104.toInt := (hU.ne (by omega) (by omega)).trans pn127
                      have pn141 : Q1_136 (12919 + 8 * z104.toInt + 0) = v.toInt := (hU.ne (by omega) (by omega)).trans pn128
                      have pn142 : Q1_136 (12919 + 8 * z104.toInt + 1) = u.toInt := (hU.ne (by omega) (by omega)).trans pn129
                      have hU : mo_U (Q1_136) (Q2_136) (12919 + 8 * z104.toInt + 5) (a6.toInt) := by have q9 := u2_136; rw [show z130.toInt + 1 = (12919 + 8 * z104.toInt + 5) by omega] at q9; exact q9
                      have hI := mo_w_cargo hI hU z104.toInt (5) (by omega) (by omega) (by omega)
                      have pn143 : Q2_136 (0) = n0x := (hU.ne (by omega) (by omega)).trans pn139
                      have pn144 : Q2_136 (10) = z104.toInt := (hU.ne (by omega) (by omega)).trans pn140
                      have pn145 : Q2_136 (12919 + 8 * z104.toInt + 0) = v.toInt := (hU.ne (by omega) (by omega)).trans pn141
                      have pn146 : Q2_136 (12919 + 8 * z104.toInt + 1) = u.toInt := (hU.ne (by omega) (by omega)).trans pn142
                      have hU : mo_U (Q2_136) (Q3_136) (12919 + 8 * z104.toInt + 6) (a7.toInt) := by have q9 := u3_136; rw [show z130.toInt + 2 = (12919 + 8 * z104.toInt + 6) by omega] at q9; exact q9
                      have hI := mo_w_cargo hI hU z104.toInt (6) (by omega) (by omega) (by omega)
                      have pn147 : Q3_136 (0) = n0x := (hU.ne (by omega) (by omega)).trans pn143
                      have pn148 : Q3_136 (10) = z104.toInt := (hU.ne (by omega) (by omega)).trans pn144
                      have pn149 : Q3_136 (12919 + 8 * z104.toInt + 0) = v.toInt := (hU.ne (by omega) (by omega)).trans pn145
                      have pn150 : Q3_136 (12919 + 8 * z104.toInt + 1) = u.toInt := (hU.ne (by omega) (by omega)).trans pn146
                      have hU : mo_U (Q3_136) (mo_R g138) (12919 + 8 * z104.toInt + 7) (a8.toInt) := by have q9 := u4_136; rw [show z130.toInt + 3 = (12919 + 8 * z104.toInt + 7) by omega] at q9; exact q9
                      have hI := mo_w_cargo hI hU z104.toInt (7) (by omega) (by omega) (by omega)
                      have pn151 : mo_R g138 (0) = n0x := (hU.ne (by omega) (by omega)).trans pn147
                      have pn152 : mo_R g138 (10) = z104.toInt := (hU.ne (by omega) (by omega)).trans pn148
                      have pn153 : mo_R g138 (12919 + 8 * z104.toInt + 0) = v.toInt := (hU.ne (by omega) (by omega)).trans pn149
                      have pn154 : mo_R g138 (12919 + 8 * z104.toInt + 1) = u.toInt := (hU.ne (by omega) (by omega)).trans pn150
                      refine lv_aload_n hx hb dX12_cargo_175 rfl (lv_at hl 1 rfl) ?_
                      have hf_155 : f135 h0 = .inr (12, [.int 0, .int o28_x1, .ref (ρ h0 2), .ref (ρ h0 3), .ref (ρ h0 4), .ref (ρ h0 5), .ref (ρ h0 6), .int o28_x7, .ref (ρ h0 8), .int o28_x9, .int o28_x10, .int o28_x11, .int o28_x12, .long o28_x13, .int o28_x14, .int o28_x15, .int o28_x16, .int o28_x17, .int o28_x18, .int o28_x19, .int o28_x20, .ref (ρ h0 21), .int o28_x22, .ref (ρ h0 23), .ref (ρ h0 24), .int o28_x25, .ref (ρ h0 26), .ref (ρ h0 27), .int o28_x28, .int o28_x29, .ref (ρ h0 30), .ref (ρ h0 31), .int o28_x32, .long o28_x33, .long o28_x34, .long o28_x35, .int o28_x36, .int o28_x37, .int o28_x38, .ref (ρ h0 39), .ref (ρ h0 40), .ref (ρ h0 41), .ref (ρ h0 42), .ref (ρ h0 43), .ref (ρ h0 44), .ref (ρ h0 45), .ref (ρ h0 46), .int o28_x47, .int o28_x48, .ref (ρ h0 49), .ref (ρ h0 50), .ref (ρ h0 51), .ref (ρ h0 52)]) := (hF136 _ (by rw [ht_h0]; decide)).trans hf_131
                      refine tpk_pos (tp_in hG ht_h0 (by decide)) hf_155 (fun q156 eq156 => ?_)
                      refine va_get (D := (dC, dI)) (ci := 12) (v := .ref (ρ h0 2)) (C := RX12) (T := TX12) (N := 53) hx hb hts hfX12 hown hK hP q156 eq156 rfl 2 (by decide) (hts (.fieldLink RX12 7 "ColdShipsModel" "row" "[I") wa_148) (fun _ h9 => h9) rfl dX12_cargo_176 ?_
                      refine lv_bipush (v := 10) hx hb dX12_cargo_179 (by decide) ?_
                      refine lv_dup2_11 hx hb dX12_cargo_181 rfl rfl ?_
                      refine tpk_pos (tp_in hG y1 (by decide)) hf_o137 (fun q157 eq157 => ?_)
                      refine va_iald hx hb hK hP q157 0 eq157 rfl (vp_in_iff.mpr ⟨by decide, by decide⟩) dX12_cargo_182 ?_
                      refine lv_topi (fun z158 ez158 => ?_)
                      have jz158 : z158.toInt = mo_R g138 (10) := mo_rd ez158 (show (10 : Int32).toInt = (10) from by decide)
                      have kz158 := hI.k10
                      have vz158 : z158.toInt = z104.toInt := jz158.trans pn152
                      refine lv_iconst (v := 1) hx hb dX12_cargo_183 (by decide) ?_
                      refine lv_iadd hx hb dX12_cargo_184 ?_
                      refine lv_topi (fun z159 ez159 => ?_)
                      have iz159 : z159.toInt = z158.toInt + 1 := zi_add ez159 rfl rfl (by omega) (by omega)
                      refine va_iast hx hb hK hP hD hS q157 0 eq157 rfl (vp_in_iff.mpr ⟨by decide, by decide⟩) dX12_cargo_185 (tp_k (.inl (κ 0, 12967, .inl (upd g138 (10 : Int32).toNatClampNeg z159))) hD (tp_in hG y1 (by decide)) eq157 (fun f160 H locs hP hD hS g162 k161 => ?_))
                      have hT := hT.up y1 g162 k161 tp_o32
                      have hR := hR.up y1 (by decide) k161
                      have hU : mo_U (mo_R g138) (mo_R (upd g138 (10 : Int32).toNatClampNeg z159)) (10) (z159.toInt) := mo_up (show (10 : Int32).toInt = (10) from by decide) (rfl : z159.toInt = _) (by omega)
                      generalize (upd g138 (10 : Int32).toNatClampNeg z159) = g163 at g162 hU
                      have hI := mo_w_nA hI hU (z104.toInt) rfl pn152 (by omega) (by omega) (by omega)
                      have pn164 : mo_R g163 (0) = n0x := (hU.ne (by omega) (by omega)).trans pn151
                      have pn165 : mo_R g163 (12919 + 8 * z104.toInt + 0) = v.toInt := (hU.ne (by omega) (by omega)).trans pn153
                      have pn166 : mo_R g163 (12919 + 8 * z104.toInt + 1) = u.toInt := (hU.ne (by omega) (by omega)).trans pn154
                      have pn167 : mo_R g163 (10) = z159.toInt := hU.eq (by omega)
                      refine lv_aload_n hx hb dX12_cargo_186 rfl (lv_at hl 1 rfl) ?_
                      refine lv_aload_n hx hb dX12_cargo_187 rfl (lv_at hl 1 rfl) ?_
                      have hf_168 : f160 h0 = .inr (12, [.int 0, .int o28_x1, .ref (ρ h0 2), .ref (ρ h0 3), .ref (ρ h0 4), .ref (ρ h0 5), .ref (ρ h0 6), .int o28_x7, .ref (ρ h0 8), .int o28_x9, .int o28_x10, .int o28_x11, .int o28_x12, .long o28_x13, .int o28_x14, .int o28_x15, .int o28_x16, .int o28_x17, .int o28_x18, .int o28_x19, .int o28_x20, .ref (ρ h0 21), .int o28_x22, .ref (ρ h0 23), .ref (ρ h0 24), .int o28_x25, .ref (ρ h0 26), .ref (ρ h0 27), .int o28_x28, .int o28_x29, .ref (ρ h0 30), .ref (ρ h0 31), .int o28_x32, .long o28_x33, .long o28_x34, .long o28_x35, .int o28_x36, .int o28_x37, .int o28_x38, .ref (ρ h0 39), .ref (ρ h0 40), .ref (ρ h0 41), .ref (ρ h0 42), .ref (ρ h0 43), .ref (ρ h0 44), .ref (ρ h0 45), .ref (ρ h0 46), .int o28_x47, .int o28_x48, .ref (ρ h0 49), .ref (ρ h0 50), .ref (ρ h0 51), .ref (ρ h0 52)]) := (k161 _ (tp_ne ht_h0 y1 (by decide))).trans hf_155
                      refine tpk_pos (tp_in hG ht_h0 (by decide)) hf_168 (fun q169 eq169 => ?_)
                      refine va_get (D := (dC, dI)) (ci := 12) (v := .ref (ρ h0 2)) (C := RX12) (T := TX12) (N := 53) hx hb hts hfX12 hown hK hP q169 eq169 rfl 2 (by decide) (hts (.fieldLink RX12 7 "ColdShipsModel" "row" "[I") wa_148) (fun _ h9 => h9) rfl dX12_cargo_188 ?_
                      refine lv_bipush (v := 10) hx hb dX12_cargo_191 (by decide) ?_
                      refine tpk_pos (tp_in hG y1 (by decide)) g162 (fun q170 eq170 => ?_)
                      refine va_iald hx hb hK hP q170 0 eq170 rfl (vp_in_iff.mpr ⟨by decide, by decide⟩) dX12_cargo_193 ?_
                      refine lv_topi (fun z171 ez171 => ?_)
                      have jz171 : z171.toInt = mo_R g163 (10) := mo_rd ez171 (show (10 : Int32).toInt = (10) from by decide)
                      have kz171 := hI.k10
                      have vz171 : z171.toInt = z159.toInt := jz171.trans pn167
                      have hFc := tp_fr hD hS hA
                      refine va_calli (va_runV (As := [.int z171]) (rest := []) ⟨hx, hb, hml, hown, hts⟩ (t_X12_told l dC dI _ κ τ ν ρ L f160 hG hT h0 z171 ht_h0) (cwV 1 hts gX12_cargo_X12_told rfl rfl rfl ⟨rfl, pd_X12_told⟩ ⟨Nat.le_of_ble_eq_true rfl, Nat.le_of_ble_eq_true rfl⟩) ⟨pz_blind, va_recv hK hP (ci := 12) (q0 := q169) rfl eq169, pz_pre hP hK hD hN⟩ rfl rfl hl.1 rfl (lv_room (Nat.le_of_ble_eq_true rfl)) dX12_cargo_194 ⟨Nat.le_of_ble_eq_true rfl, Nat.le_of_ble_eq_true rfl⟩) hS (fun q _ h => hFc q h) hFc (fun r172 f174 t H1 locs ht hvm hw173 hB hz1 hk1 hS => ?_)
                      refine tn_4 hw173 (fun hT hF175 hw173r hw173p => ?_); clear hw173
                      have hR := hR.then hF175 (by decide)
                      have hP := hB.1; rw [ht] at hP; have hD := tp_ad f174 hD; clear hB hFc hz1 hk1; subst ht; generalize t.heap = H at hP hS ⊢
                      have hw173pq : r172.toInt = z171.toInt := by rw [hw173p]
                      have hf_176 : f174 (ρ h0 2) = .inl (κ 0, 12967, .inl g163) := (hF175 _ (by rw [y1]; decide)).trans g162
                      exact W.iret (v := r172) hx hb hr (fun t ht hW => ⟨⟨r172, f174, rfl, ⟨hT, hR, trivial, (by rw [hf_176, mo_i1]; exact hI)⟩, by rw [ht]; exact hP, va_K.moved hW.alike hK, hD⟩, hS.F ht⟩) hS.2.2 dX12_cargo_197
                    · have ic105 : z104.toInt = 6 := zi_nef rfl rfl c105
                      refine lv_aload_n hx hb dX12_cargo_125 rfl (lv_at hl 0 rfl) ?_
                      refine lv_bipush (v := (-5)) hx hb dX12_cargo_126 (by decide) ?_
                      have hFc := tp_fr hD hS hA
                      refine va_calli (va_runV (As := [.int (-5)]) (rest := []) ⟨hx, hb, hml, hown, hts⟩ (t_X12_told l dC dI _ κ τ ν ρ L f30 hG hT h0 ((-5)) ht_h0) (cwV 1 hts gX12_cargo_X12_told rfl rfl rfl ⟨rfl, pd_X12_told⟩ ⟨Nat.le_of_ble_eq_true rfl, Nat.le_of_ble_eq_true rfl⟩) ⟨pz_blind, va_recv hK hP (ci := 12) (q0 := q88) rfl eq88, pz_pre hP hK hD hN⟩ rfl rfl hl.1 rfl (lv_room (Nat.le_of_ble_eq_true rfl)) dX12_cargo_128 ⟨Nat.le_of_ble_eq_true rfl, Nat.le_of_ble_eq_true rfl⟩) hS (fun q _ h => hFc q h) hFc (fun r177 f179 t H1 locs ht hvm hw178 hB hz1 hk1 hS => ?_)
                      refine tn_4 hw178 (fun hT hF180 hw178r hw178p => ?_); clear hw178
                      have hR := hR.then hF180 (by decide)
                      have hP := hB.1; rw [ht] at hP; have hD := tp_ad f179 hD; clear hB hFc hz1 hk1; subst ht; generalize t.heap = H at hP hS ⊢
                      have hw178pq : r177.toInt = (-5) := by rw [hw178p]; rfl
                      have hf_181 : f179 (ρ h0 2) = .inl (κ 0, 12967, .inl g27) := (hF180 _ (by rw [y1]; decide)).trans hf_33
                      exact W.iret (v := r177) hx hb hr (fun t ht hW => ⟨⟨r177, f179, rfl, ⟨hT, hR, trivial, (by rw [hf_181, mo_i1]; exact hI)⟩, by rw [ht]; exact hP, va_K.moved hW.alike hK, hD⟩, hS.F ht⟩) hS.2.2 dX12_cargo_131
                  · have ic102 : v.toInt = u.toInt := zi_nef rfl rfl c102
                    refine lv_aload_n hx hb dX12_cargo_106 rfl (lv_at hl 0 rfl) ?_
                    refine lv_bipush (v := (-3)) hx hb dX12_cargo_107 (by decide) ?_
                    have hFc := tp_fr hD hS hA
                    refine va_calli (va_runV (As := [.int (-3)]) (rest := []) ⟨hx, hb, hml, hown, hts⟩ (t_X12_told l dC dI _ κ τ ν ρ L f30 hG hT h0 ((-3)) ht_h0) (cwV 1 hts gX12_cargo_X12_told rfl rfl rfl ⟨rfl, pd_X12_told⟩ ⟨Nat.le_of_ble_eq_true rfl, Nat.le_of_ble_eq_true rfl⟩) ⟨pz_blind, va_recv hK hP (ci := 12) (q0 := q88) rfl eq88, pz_pre hP hK hD hN⟩ rfl rfl hl.1 rfl (lv_room (Nat.le_of_ble_eq_true rfl)) dX12_cargo_109 ⟨Nat.le_of_ble_eq_true rfl, Nat.le_of_ble_eq_true rfl⟩) hS (fun q _ h => hFc q h) hFc (fun r182 f184 t H1 locs ht hvm hw183 hB hz1 hk1 hS => ?_)
                    refine tn_4 hw183 (fun hT hF185 hw183r hw183p => ?_); clear hw183
                    have hR := hR.then hF185 (by decide)
                    have hP := hB.1; rw [ht] at hP; have hD := tp_ad f184 hD; clear hB hFc hz1 hk1; subst ht; generalize t.heap = H at hP hS ⊢
                    have hw183pq : r182.toInt = (-3) := by rw [hw183p]; rfl
                    have hf_186 : f184 (ρ h0 2) = .inl (κ 0, 12967, .inl g27) := (hF185 _ (by rw [y1]; decide)).trans hf_33
                    exact W.iret (v := r182) hx hb hr (fun t ht hW => ⟨⟨r182, f184, rfl, ⟨hT, hR, trivial, (by rw [hf_186, mo_i1]; exact hI)⟩, by rw [ht]; exact hP, va_K.moved hW.alike hK, hD⟩, hS.F ht⟩) hS.2.2 dX12_cargo_112
                · have ic100 : r98.toInt = 0 := zi_nef rfl rfl c100
                  refine lv_aload_n hx hb dX12_cargo_94 rfl (lv_at hl 0 rfl) ?_
                  refine lv_bipush (v := (-2)) hx hb dX12_cargo_95 (by decide) ?_
                  have hFc := tp_fr hD hS hA
                  refine va_calli (va_runV (As := [.int (-2)]) (rest := []) ⟨hx, hb, hml, hown, hts⟩ (t_X12_told l dC dI _ κ τ ν ρ L f30 hG hT h0 ((-2)) ht_h0) (cwV 1 hts gX12_cargo_X12_told rfl rfl rfl ⟨rfl, pd_X12_told⟩ ⟨Nat.le_of_ble_eq_true rfl, Nat.le_of_ble_eq_true rfl⟩) ⟨pz_blind, va_recv hK hP (ci := 12) (q0 := q88) rfl eq88, pz_pre hP hK hD hN⟩ rfl rfl hl.1 rfl (lv_room (Nat.le_of_ble_eq_true rfl)) dX12_cargo_97 ⟨Nat.le_of_ble_eq_true rfl, Nat.le_of_ble_eq_true rfl⟩) hS (fun q _ h => hFc q h) hFc (fun r187 f189 t H1 locs ht hvm hw188 hB hz1 hk1 hS => ?_)
                  refine tn_4 hw188 (fun hT hF190 hw188r hw188p => ?_); clear hw188
                  have hR := hR.then hF190 (by decide)
                  have hP := hB.1; rw [ht] at hP; have hD := tp_ad f189 hD; clear hB hFc hz1 hk1; subst ht; generalize t.heap = H at hP hS ⊢
                  have hw188pq : r187.toInt = (-2) := by rw [hw188p]; rfl
                  have hf_191 : f189 (ρ h0 2) = .inl (κ 0, 12967, .inl g27) := (hF190 _ (by rw [y1]; decide)).trans hf_33
                  exact W.iret (v := r187) hx hb hr (fun t ht hW => ⟨⟨r187, f189, rfl, ⟨hT, hR, trivial, (by rw [hf_191, mo_i1]; exact hI)⟩, by rw [ht]; exact hP, va_K.moved hW.alike hK, hD⟩, hS.F ht⟩) hS.2.2 dX12_cargo_100
            · have ic86 : r84.toInt = 0 := zi_nef rfl rfl c86
              refine lv_aload_n hx hb dX12_cargo_72 rfl (lv_at hl 0 rfl) ?_
              refine lv_iconst (v := (-1)) hx hb dX12_cargo_73 (by decide) ?_
              refine tpk_pos (tp_in hG ht_h0 (by decide)) g32 (fun q192 eq192 => ?_)
              have hFc := tp_fr hD hS hA
              refine va_calli (va_runV (As := [.int (-1)]) (rest := []) ⟨hx, hb, hml, hown, hts⟩ (t_X12_told l dC dI _ κ τ ν ρ L f30 hG hT h0 ((-1)) ht_h0) (cwV 1 hts gX12_cargo_X12_told rfl rfl rfl ⟨rfl, pd_X12_told⟩ ⟨Nat.le_of_ble_eq_true rfl, Nat.le_of_ble_eq_true rfl⟩) ⟨pz_blind, va_recv hK hP (ci := 12) (q0 := q192) rfl eq192, pz_pre hP hK hD hN⟩ rfl rfl hl.1 rfl (lv_room (Nat.le_of_ble_eq_true rfl)) dX12_cargo_74 ⟨Nat.le_of_ble_eq_true rfl, Nat.le_of_ble_eq_true rfl⟩) hS (fun q _ h => hFc q h) hFc (fun r193 f195 t H1 locs ht hvm hw194 hB hz1 hk1 hS => ?_)
              refine tn_4 hw194 (fun hT hF196 hw194r hw194p => ?_); clear hw194
              have hR := hR.then hF196 (by decide)
              have hP := hB.1; rw [ht] at hP; have hD := tp_ad f195 hD; clear hB hFc hz1 hk1; subst ht; generalize t.heap = H at hP hS ⊢
              have hw194pq : r193.toInt = (-1) := by rw [hw194p]; rfl
              have hf_197 : f195 (ρ h0 2) = .inl (κ 0, 12967, .inl g27) := (hF196 _ (by rw [y1]; decide)).trans hf_33
              exact W.iret (v := r193) hx hb hr (fun t ht hW => ⟨⟨r193, f195, rfl, ⟨hT, hR, trivial, (by rw [hf_197, mo_i1]; exact hI)⟩, by rw [ht]; exact hP, va_K.moved hW.alike hK, hD⟩, hS.F ht⟩) hS.2.2 dX12_cargo_77
set_option maxHeartbeats 4000000 in
set_option maxRecDepth 100000 in
theorem t_X12_settled (l : Launch) (dC : Nat → ClassId) (dI : Nat → Nat → Nat) (sz : Nat) (κ : Nat → ClassId) (τ ν : Nat → Nat) (ρ : Nat → Nat → Nat) (L : List Nat) (f : Nat → va_E) (hG : tp_G τ ν ρ L) (hT : tp_T (mo_O κ) κ τ ν ρ f) (h0 : Nat) (v : Int32) (u : Int32) (ht_h0 : τ h0 = 13) (hJ : mo_RI (-1) 0 (mo_R (mo_i (f (ρ h0 2))))) : Met l yX12_settled wqX12_settled ({ frames := 4, cells := 0, slots := 0, locals := 1200 }) (va_Pc [.ref h0, .int v, .int u] (pz_B dC dI (tp_K κ) (va_pl L f) sz)) (va_Ql (fun (r : Int64) (f1 : Nat → va_E) => tp_T (mo_O κ) κ τ ν ρ f1 ∧ tp_F τ [13] f f1 ∧ True ∧ True) (fun (f1 : Nat → va_E) (t : State) => pz_E dC dI (tp_K κ) (va_A (va_pl L f) sz) (va_pl L f1) t) (va_A (va_pl L f) sz)) 0 0 (va_A (va_pl L f) sz) := by
  refine Met.ofW (cc := cX12_settled) (maxL := 4) (ret := some .long) (by decide) rfl ?_
  intro p e s m args below meth c s₁ B hml hv
  obtain ⟨rfl, hsz, hP, hK, hD0, hN⟩ := hv
  have hx := B.exec
  have hb := B.bytes
  have hr := B.returns
  have hts := fun (w : Cond) (h : w ∈ WALL) => atoms_spec (ws := wqX12_settled) B.pre w (List.mem_cons_of_mem _ h)
  have hown : s.vm.findClass RX12 = some m.cls := findClass_of_methodNamed B.named
  have hlocks := B.notSynchronized
  subst hsz
  have hD := hD0.self (sz := s.heap.size)
  generalize hAe : va_A (va_pl L f) s.heap.size = A at hD ⊢
  have hA : ∀ q : Nat, s.heap.size ≤ q → A q := fun q h => by rw [← hAe]; exact Or.inr h
  have hS : va_S A s.heap s.heap [] := va_S.rf
  have hR : tp_F τ [13] f f := tp_F.rf
  have hl := lv_entry ([.ref h0, .int v, .int u]) (n := 4) (Nat.le_of_ble_eq_true rfl)
  rw [lg_entry_eq]
  generalize (lg_sl ([.ref h0, .int v, .int u]) ++ List.replicate (4 - (lg_sl ([.ref h0, .int v, .int u])).length) Slot.unset).toArray = ls at hl ⊢
  have hl : lv_has ls 4 [(0, .ref h0), (1, .int v), (2, .int u)] := hl
  refine tgk_13 hG ht_h0 (fun y1 y2 y3 y4 y5 y6 y7 y8 y9 y10 y11 y12 y13 y14 y15 y16 y17 y18 y19 y20 y21 y22 y23 y24 y25 => ?_)
  refine tpk_32 hT y1 (fun g27 hf_o26 => ?_)
  have hI : mo_RI (-1) 0 (mo_R g27) := by have q9 := hJ; rw [hf_o26, mo_i1] at q9; exact q9
  refine lv_aload_n hx hb dX12_settled_0 rfl (lv_at hl 0 rfl) ?_
  refine lv_iconst (v := 0) hx hb dX12_settled_1 (by decide) ?_
  refine tpk_13 hT ht_h0 (fun o28_x0 o28_x1 o28_x7 o28_x9 o28_x10 o28_x11 o28_x12 o28_x13 o28_x14 o28_x15 o28_x16 o28_x17 o28_x18 o28_x19 o28_x20 o28_x22 o28_x25 o28_x28 o28_x29 o28_x32 o28_x33 o28_x34 o28_x35 o28_x36 o28_x37 o28_x38 o28_x47 o28_x48 hf_o28 ro28_0 ro28_1 ro28_2 ro28_3 ro28_4 ro28_5 ro28_6 ro28_7 ro28_8 ro28_9 ro28_10 ro28_11 ro28_12 ro28_13 => ?_)
  refine tpk_pos (tp_in hG ht_h0 (by decide)) hf_o28 (fun q29 eq29 => ?_)
  refine va_put (D := (dC, dI)) (ci := 12) (v := .int 0) (ty := .int) (C := RX12) (T := TX12) (N := 53) hx hb hts hfX12 tyX12 tyX12_ok nmX12 hown hK hP hD hS q29 eq29 rfl 0 (by decide) (hts (.fieldLink RX12 91 "ColdShipsModel" "thrown" "I") wa_209) (fun _ h9 => h9) rfl (tyX12_ok 0 (by decide)) rfl rfl (Nat.le_of_ble_eq_true rfl) dX12_settled_2 (tp_k (.inr (12, [.int 0, .int o28_x1, .ref (ρ h0 2), .ref (ρ h0 3), .ref (ρ h0 4), .ref (ρ h0 5), .ref (ρ h0 6), .int o28_x7, .ref (ρ h0 8), .int o28_x9, .int o28_x10, .int o28_x11, .int o28_x12, .long o28_x13, .int o28_x14, .int o28_x15, .int o28_x16, .int o28_x17, .int o28_x18, .int o28_x19, .int o28_x20, .ref (ρ h0 21), .int o28_x22, .ref (ρ h0 23), .ref (ρ h0 24), .int o28_x25, .ref (ρ h0 26), .ref (ρ h0 27), .int o28_x28, .int o28_x29, .ref (ρ h0 30), .ref (ρ h0 31), .int o28_x32, .long o28_x33, .long o28_x34, .long o28_x35, .int o28_x36, .int o28_x37, .int o28_x38, .ref (ρ h0 39), .ref (ρ h0 40), .ref (ρ h0 41), .ref (ρ h0 42), .ref (ρ h0 43), .ref (ρ h0 44), .ref (ρ h0 45), .ref (ρ h0 46), .int o28_x47, .int o28_x48, .ref (ρ h0 49), .ref (ρ h0 50), .ref (ρ h0 51), .ref (ρ h0 52)])) hD (tp_in hG ht_h0 (by decide)) eq29 (fun f30 H locs hP hD hS g32 k31 => ?_))
  have hT := hT.up ht_h0 g32 k31 ⟨_, _, _, _, _, _, _, _, _, _, _, _, _, _, _, _, _, _, _, _, _, _, _, _, _, _, _, _, rfl, ro28_0, ro28_1, ro28_2, ro28_3, ro28_4, ro28_5, ro28_6, ro28_7, ro28_8, ro28_9, ro28_10, ro28_11, ro28_12, ro28_13⟩
  have hR := hR.up ht_h0 (by decide) k31
  refine lv_aload_n hx hb dX12_settled_5 rfl (lv_at hl 0 rfl) ?_
  refine lv_iload_n hx hb dX12_settled_6 rfl (lv_at hl 1 rfl) ?_
  have hf_33 : f30 (ρ h0 2) = .inl (κ 0, 12967, .inl g27) := (k31 _ (tp_ne y1 ht_h0 (by decide))).trans hf_o26
  refine tpk_pos (tp_in hG ht_h0 (by decide)) g32 (fun q34 eq34 => ?_)
  refine pz_calli (va_runV (As := [.int v]) (rest := []) ⟨hx, hb, hml, hown, hts⟩ (t_X12_isLanding l dC dI _ κ τ ν ρ L f30 hG hT h0 v (-1) 0 ht_h0 (by omega) (by rw [hf_33, mo_i1]; exact hI)) (cwV 1 hts gX12_settled_X12_isLanding rfl rfl rfl ⟨rfl, pd_X12_isLanding⟩ ⟨Nat.le_of_ble_eq_true rfl, Nat.le_of_ble_eq_true rfl⟩) ⟨pz_blind, va_recv hK hP (ci := 12) (q0 := q34) rfl eq34, pz_pre hP hK hD hN⟩ rfl rfl hl.1 rfl (lv_room (Nat.le_of_ble_eq_true rfl)) dX12_settled_7 ⟨Nat.le_of_ble_eq_true rfl, Nat.le_of_ble_eq_true rfl⟩) (fun r35 hw36 => ?_)
  obtain ⟨hw36r, hw36p⟩ := hw36
  have := hI.k5
  rw [hf_33, mo_i1] at hw36p
  refine lv_if_eq (tgt := 41) hx hb dX12_settled_10 (by decide) (fun c37 => ?_) (fun c37 => ?_)
  · have ic37 : r35.toInt = 0 := zi_eq rfl rfl c37
    refine lv_ldc2 (own := RX12) (v := (-2000000000000000)) hx hb hown (hts (.constantLong RX12 466 (-2000000000000000)) wa_1189) dX12_settled_41 ?_
    exact W.lret (v := (-2000000000000000)) hx hb hr (fun t ht hW => ⟨⟨(-2000000000000000), f30, rfl, ⟨hT, hR, trivial, trivial⟩, by rw [ht]; exact hP, va_K.moved hW.alike hK, hD⟩, hS.F ht⟩) hS.2.2 dX12_settled_44
  · have ic37 : r35.toInt ≠ 0 := zi_eqf rfl rfl c37
    replace ic37 : 1 ≤ r35.toInt := by omega
    have p38 : 0 ≤ v.toInt ∧ v.toInt < mo_R g27 5 := (tp_cond.yes hw36p) (by omega)
    refine lv_iload_n hx hb dX12_settled_13 rfl (lv_at hl 2 rfl) ?_
    refine lv_i2l hx hb dX12_settled_14 rfl ?_
    refine lv_lconst (v := 0) hx hb dX12_settled_15 (by decide) ?_
    refine lv_ldc2 (own := RX12) (v := 2) hx hb hown (hts (.constantLong RX12 477 (2)) wa_1250) dX12_settled_16 ?_
    refine pz_calli (va_runS (As := [.long u.toInt64, .long 0, .long 2]) (rest := []) ⟨hx, hb, hml, hown, hts⟩ (t_X12_in l dC dI _ u.toInt64 (0) (2) (u.toInt) (0) (2) (Int32.toInt_toInt64 u) rfl rfl) (va_cwS 3 hts gX12_settled_X12_in rfl rfl rfl pd_X12_in ⟨Nat.le_of_ble_eq_true rfl, Nat.le_of_ble_eq_true rfl⟩) ⟨pz_blind, pz_pre pz_P0 (hK.sub (tys' := []) [] rfl) (pz_D0 (A := fun _ => True)) hN⟩ rfl rfl hl.1 rfl (lv_room (Nat.le_of_ble_eq_true rfl)) dX12_settled_19 ⟨Nat.le_of_ble_eq_true rfl, Nat.le_of_ble_eq_true rfl⟩) (fun r39 hw40 => ?_)
    obtain ⟨hw40r, hw40p⟩ := hw40
    refine lv_if_eq (tgt := 41) hx hb dX12_settled_22 (by decide) (fun c41 => ?_) (fun c41 => ?_)
    · have ic41 : r39.toInt = 0 := zi_eq rfl rfl c41
      refine lv_ldc2 (own := RX12) (v := (-2000000000000000)) hx hb hown (hts (.constantLong RX12 466 (-2000000000000000)) wa_1189) dX12_settled_41 ?_
      exact W.lret (v := (-2000000000000000)) hx hb hr (fun t ht hW => ⟨⟨(-2000000000000000), f30, rfl, ⟨hT, hR, trivial, trivial⟩, by rw [ht]; exact hP, va_K.moved hW.alike hK, hD⟩, hS.F ht⟩) hS.2.2 dX12_settled_44
    · have ic41 : r39.toInt ≠ 0 := zi_eqf rfl rfl c41
      replace ic41 : 1 ≤ r39.toInt := by omega
      have p42 : (0) ≤ (u.toInt) ∧ (u.toInt) ≤ (2) := (tp_cond.yes hw40p) (by omega)
      refine lv_aload_n hx hb dX12_settled_25 rfl (lv_at hl 0 rfl) ?_
      refine va_get (D := (dC, dI)) (ci := 12) (v := .ref (ρ h0 2)) (C := RX12) (T := TX12) (N := 53) hx hb hts hfX12 hown hK hP q34 eq34 rfl 2 (by decide) (hts (.fieldLink RX12 7 "ColdShipsModel" "row" "[I") wa_148) (fun _ h9 => h9) rfl dX12_settled_26 ?_
      refine lv_iload_n hx hb dX12_settled_29 rfl (lv_at hl 1 rfl) ?_
      refine pz_calli (va_runS (As := [.int v]) (rest := [.ref (ρ h0 2)]) ⟨hx, hb, hml, hown, hts⟩ (t_X12_landingAt l dC dI _ v (v.toInt) (by omega) rfl) (va_cwS 1 hts gX12_settled_X12_landingAt rfl rfl rfl pd_X12_landingAt ⟨Nat.le_of_ble_eq_true rfl, Nat.le_of_ble_eq_true rfl⟩) ⟨pz_blind, pz_pre pz_P0 (hK.sub (tys' := []) [] rfl) (pz_D0 (A := fun _ => True)) hN⟩ rfl rfl hl.1 rfl (lv_room (Nat.le_of_ble_eq_true rfl)) dX12_settled_30 ⟨Nat.le_of_ble_eq_true rfl, Nat.le_of_ble_eq_true rfl⟩) (fun r43 hw44 => ?_)
      obtain ⟨hw44r, hw44p⟩ := hw44
      refine lv_bipush (v := 12) hx hb dX12_settled_33 (by decide) ?_
      refine lv_iadd hx hb dX12_settled_35 ?_
      refine lv_topi (fun z45 ez45 => ?_)
      have iz45 : z45.toInt = r43.toInt + 12 := zi_add ez45 rfl rfl (by omega) (by omega)
      refine tpk_pos (tp_in hG y1 (by decide)) hf_33 (fun q46 eq46 => ?_)
      refine va_iald hx hb hK hP q46 0 eq46 rfl (vp_in_iff.mpr ⟨by omega, by omega⟩) dX12_settled_36 ?_
      refine lv_topi (fun z47 ez47 => ?_)
      refine lv_iconst (v := (-1)) hx hb dX12_settled_37 (by decide) ?_
      refine lv_icmp_ne (tgt := 45) hx hb dX12_settled_38 (by decide) (fun c48 => ?_) (fun c48 => ?_)
      · have ic48 : z47.toInt ≠ (-1) := zi_ne rfl rfl c48
        refine lv_iload_n hx hb dX12_settled_45 rfl (lv_at hl 1 rfl) ?_
        refine pz_calli (va_runS (As := [.int v]) (rest := []) ⟨hx, hb, hml, hown, hts⟩ (t_X12_landingAt l dC dI _ v (v.toInt) (by omega) rfl) (va_cwS 1 hts gX12_settled_X12_landingAt rfl rfl rfl pd_X12_landingAt ⟨Nat.le_of_ble_eq_true rfl, Nat.le_of_ble_eq_true rfl⟩) ⟨pz_blind, pz_pre pz_P0 (hK.sub (tys' := []) [] rfl) (pz_D0 (A := fun _ => True)) hN⟩ rfl rfl hl.1 rfl (lv_room (Nat.le_of_ble_eq_true rfl)) dX12_settled_46 ⟨Nat.le_of_ble_eq_true rfl, Nat.le_of_ble_eq_true rfl⟩) (fun r49 hw50 => ?_)
        obtain ⟨hw50r, hw50p⟩ := hw50
        refine lv_istore_n (lv' := [(3, .int r49), (0, .ref h0), (1, .int v), (2, .int u)]) hx hb dX12_settled_49 rfl hl (by decide) rfl (fun ls hl => ?_)
        refine lv_iload_n hx hb dX12_settled_50 rfl (lv_at hl 3 rfl) ?_
        refine lv_if_ne (tgt := 85) hx hb dX12_settled_51 (by decide) (fun c51 => ?_) (fun c51 => ?_)
        · have ic51 : u.toInt ≠ 0 := zi_ne rfl rfl c51
          replace ic51 : 1 ≤ u.toInt := by omega
          refine lv_aload_n hx hb dX12_settled_85 rfl (lv_at hl 1 rfl) ?_
          refine va_get (D := (dC, dI)) (ci := 12) (v := .ref (ρ h0 2)) (C := RX12) (T := TX12) (N := 53) hx hb hts hfX12 hown hK hP q34 eq34 rfl 2 (by decide) (hts (.fieldLink RX12 7 "ColdShipsModel" "row" "[I") wa_148) (fun _ h9 => h9) rfl dX12_settled_86 ?_
          refine lv_iload_n hx hb dX12_settled_89 rfl (lv_at hl 0 rfl) ?_
          refine lv_bipush (v := 11) hx hb dX12_settled_90 (by decide) ?_
          refine lv_iadd hx hb dX12_settled_92 ?_
          refine lv_topi (fun z52 ez52 => ?_)
          have iz52 : z52.toInt = r49.toInt + 11 := zi_add ez52 rfl rfl (by omega) (by omega)
          refine lv_iload_n hx hb dX12_settled_93 rfl (lv_at hl 3 rfl) ?_
          refine lv_iadd hx hb dX12_settled_94 ?_
          refine lv_topi (fun z53 ez53 => ?_)
          have iz53 : z53.toInt = z52.toInt + u.toInt := zi_add ez53 rfl rfl (by omega) (by omega)
          refine va_iald hx hb hK hP q46 0 eq46 rfl (vp_in_iff.mpr ⟨by omega, by omega⟩) dX12_settled_95 ?_
          refine lv_topi (fun z54 ez54 => ?_)
          refine lv_i2l hx hb dX12_settled_96 rfl ?_
          exact W.lret (v := z54.toInt64) hx hb hr (fun t ht hW => ⟨⟨z54.toInt64, f30, rfl, ⟨hT, hR, trivial, trivial⟩, by rw [ht]; exact hP, va_K.moved hW.alike hK, hD⟩, hS.F ht⟩) hS.2.2 dX12_settled_97
        · have ic51 : u.toInt = 0 := zi_nef rfl rfl c51
          refine lv_aload_n hx hb dX12_settled_54 rfl (lv_at hl 1 rfl) ?_
          refine va_get (D := (dC, dI)) (ci := 12) (v := .ref (ρ h0 2)) (C := RX12) (T := TX12) (N := 53) hx hb hts hfX12 hown hK hP q34 eq34 rfl 2 (by decide) (hts (.fieldLink RX12 7 "ColdShipsModel" "row" "[I") wa_148) (fun _ h9 => h9) rfl dX12_settled_55 ?_
          refine lv_iload_n hx hb dX12_settled_58 rfl (lv_at hl 0 rfl) ?_
          refine lv_bipush (v := 14) hx hb dX12_settled_59 (by decide) ?_
          refine lv_iadd hx hb dX12_settled_61 ?_
          refine lv_topi (fun z55 ez55 => ?_)
          have iz55 : z55.toInt = r49.toInt + 14 := zi_add ez55 rfl rfl (by omega) (by omega)
          refine va_iald hx hb hK hP q46 0 eq46 rfl (vp_in_iff.mpr ⟨by omega, by omega⟩) dX12_settled_62 ?_
          refine lv_topi (fun z56 ez56 => ?_)
          refine lv_i2l hx hb dX12_settled_63 rfl ?_
          refine lv_bipush (v := 32) hx hb dX12_settled_64 (by decide) ?_
          refine lv_lshl hx hb dX12_settled_66 rfl ?_
          refine lv_topl (fun z57 ez57 => ?_)
          refine lv_aload_n hx hb dX12_settled_67 rfl (lv_at hl 1 rfl) ?_
          refine va_get (D := (dC, dI)) (ci := 12) (v := .ref (ρ h0 2)) (C := RX12) (T := TX12) (N := 53) hx hb hts hfX12 hown hK hP q34 eq34 rfl 2 (by decide) (hts (.fieldLink RX12 7 "ColdShipsModel" "row" "[I") wa_148) (fun _ h9 => h9) rfl dX12_settled_68 ?_
          refine lv_iload_n hx hb dX12_settled_71 rfl (lv_at hl 0 rfl) ?_
          refine lv_bipush (v := 15) hx hb dX12_settled_72 (by decide) ?_
          refine lv_iadd hx hb dX12_settled_74 ?_
          refine lv_topi (fun z58 ez58 => ?_)
          have iz58 : z58.toInt = r49.toInt + 15 := zi_add ez58 rfl rfl (by omega) (by omega)
          refine va_iald hx hb hK hP q46 0 eq46 rfl (vp_in_iff.mpr ⟨by omega, by omega⟩) dX12_settled_75 ?_
          refine lv_topi (fun z59 ez59 => ?_)
          refine lv_i2l hx hb dX12_settled_76 rfl ?_
          refine lv_ldc2 (own := RX12) (v := 4294967295) hx hb hown (hts (.constantLong RX12 479 (4294967295)) wa_1251) dX12_settled_77 ?_
          refine lv_land hx hb dX12_settled_80 ?_
          refine lv_topl (fun z60 ez60 => ?_)
          refine lv_lor hx hb dX12_settled_81 ?_
          refine lv_topl (fun z61 ez61 => ?_)
          refine lv_goto (tgt := 97) hx hb dX12_settled_82 (by decide) ?_
          exact W.lret (v := z61) hx hb hr (fun t ht hW => ⟨⟨z61, f30, rfl, ⟨hT, hR, trivial, trivial⟩, by rw [ht]; exact hP, va_K.moved hW.alike hK, hD⟩, hS.F ht⟩) hS.2.2 dX12_settled_97
      · have ic48 : z47.toInt = (-1) := zi_nef rfl rfl c48
        refine lv_ldc2 (own := RX12) (v := (-2000000000000000)) hx hb hown (hts (.constantLong RX12 466 (-2000000000000000)) wa_1189) dX12_settled_41 ?_
        exact W.lret (v := (-2000000000000000)) hx hb hr (fun t ht hW => ⟨⟨(-2000000000000000), f30, rfl, ⟨hT, hR, trivial, trivial⟩, by rw [ht]; exact hP, va_K.moved hW.alike hK, hD⟩, hS.F ht⟩) hS.2.2 dX12_settled_44
set_option maxHeartbeats 4000000 in
set_option maxRecDepth 100000 in
theorem t_X12_voyage (l : Launch) (dC : Nat → ClassId) (dI : Nat → Nat → Nat) (sz : Nat) (κ : Nat → ClassId) (τ ν : Nat → Nat) (ρ : Nat → Nat → Nat) (L : List Nat) (f : Nat → va_E) (hG : tp_G τ ν ρ L) (hT : tp_T (mo_O κ) κ τ ν ρ f) (h0 : Nat) (v : Int32) (u : Int32) (ht_h0 : τ h0 = 13) (hJ : mo_RI (-1) 0 (mo_R (mo_i (f (ρ h0 2))))) : Met l yX12_voyage wqX12_voyage ({ frames := 3, cells := 0, slots := 0, locals := 800 }) (va_Pc [.ref h0, .int v, .int u] (pz_B dC dI (tp_K κ) (va_pl L f) sz)) (va_Ql (fun (r : Int64) (f1 : Nat → va_E) => tp_T (mo_O κ) κ τ ν ρ f1 ∧ tp_F τ [13] f f1 ∧ True ∧ True) (fun (f1 : Nat → va_E) (t : State) => pz_E dC dI (tp_K κ) (va_A (va_pl L f) sz) (va_pl L f1) t) (va_A (va_pl L f) sz)) 0 0 (va_A (va_pl L f) sz) := by
  refine Met.ofW (cc := cX12_voyage) (maxL := 3) (ret := some .long) (by decide) rfl ?_
  intro p e s m args below meth c s₁ B hml hv
  obtain ⟨rfl, hsz, hP, hK, hD0, hN⟩ := hv
  have hx := B.exec
  have hb := B.bytes
  have hr := B.returns
  have hts := fun (w : Cond) (h : w ∈ WALL) => atoms_spec (ws := wqX12_voyage) B.pre w (List.mem_cons_of_mem _ h)
  have hown : s.vm.findClass RX12 = some m.cls := findClass_of_methodNamed B.named
  have hlocks := B.notSynchronized
  subst hsz
  have hD := hD0.self (sz := s.heap.size)
  generalize hAe : va_A (va_pl L f) s.heap.size = A at hD ⊢
  have hA : ∀ q : Nat, s.heap.size ≤ q → A q := fun q h => by rw [← hAe]; exact Or.inr h
  have hS : va_S A s.heap s.heap [] := va_S.rf
  have hR : tp_F τ [13] f f := tp_F.rf
  have hl := lv_entry ([.ref h0, .int v, .int u]) (n := 3) (Nat.le_of_ble_eq_true rfl)
  rw [lg_entry_eq]
  generalize (lg_sl ([.ref h0, .int v, .int u]) ++ List.replicate (3 - (lg_sl ([.ref h0, .int v, .int u])).length) Slot.unset).toArray = ls at hl ⊢
  have hl : lv_has ls 3 [(0, .ref h0), (1, .int v), (2, .int u)] := hl
  refine tgk_13 hG ht_h0 (fun y1 y2 y3 y4 y5 y6 y7 y8 y9 y10 y11 y12 y13 y14 y15 y16 y17 y18 y19 y20 y21 y22 y23 y24 y25 => ?_)
  refine tpk_32 hT y1 (fun g27 hf_o26 => ?_)
  have hI : mo_RI (-1) 0 (mo_R g27) := by have q9 := hJ; rw [hf_o26, mo_i1] at q9; exact q9
  refine lv_aload_n hx hb dX12_voyage_0 rfl (lv_at hl 0 rfl) ?_
  refine lv_iconst (v := 0) hx hb dX12_voyage_1 (by decide) ?_
  refine tpk_13 hT ht_h0 (fun o28_x0 o28_x1 o28_x7 o28_x9 o28_x10 o28_x11 o28_x12 o28_x13 o28_x14 o28_x15 o28_x16 o28_x17 o28_x18 o28_x19 o28_x20 o28_x22 o28_x25 o28_x28 o28_x29 o28_x32 o28_x33 o28_x34 o28_x35 o28_x36 o28_x37 o28_x38 o28_x47 o28_x48 hf_o28 ro28_0 ro28_1 ro28_2 ro28_3 ro28_4 ro28_5 ro28_6 ro28_7 ro28_8 ro28_9 ro28_10 ro28_11 ro28_12 ro28_13 => ?_)
  refine tpk_pos (tp_in hG ht_h0 (by decide)) hf_o28 (fun q29 eq29 => ?_)
  refine va_put (D := (dC, dI)) (ci := 12) (v := .int 0) (ty := .int) (C := RX12) (T := TX12) (N := 53) hx hb hts hfX12 tyX12 tyX12_ok nmX12 hown hK hP hD hS q29 eq29 rfl 0 (by decide) (hts (.fieldLink RX12 91 "ColdShipsModel" "thrown" "I") wa_209) (fun _ h9 => h9) rfl (tyX12_ok 0 (by decide)) rfl rfl (Nat.le_of_ble_eq_true rfl) dX12_voyage_2 (tp_k (.inr (12, [.int 0, .int o28_x1, .ref (ρ h0 2), .ref (ρ h0 3), .ref (ρ h0 4), .ref (ρ h0 5), .ref (ρ h0 6), .int o28_x7, .ref (ρ h0 8), .int o28_x9, .int o28_x10, .int o28_x11, .int o28_x12, .long o28_x13, .int o28_x14, .int o28_x15, .int o28_x16, .int o28_x17, .int o28_x18, .int o28_x19, .int o28_x20, .ref (ρ h0 21), .int o28_x22, .ref (ρ h0 23), .ref (ρ h0 24), .int o28_x25, .ref (ρ h0 26), .ref (ρ h0 27), .int o28_x28, .int o28_x29, .ref (ρ h0 30), .ref (ρ h0 31), .int o28_x32, .long o28_x33, .long o28_x34, .long o28_x35, .int o28_x36, .int o28_x37, .int o28_x38, .ref (ρ h0 39), .ref (ρ h0 40), .ref (ρ h0 41), .ref (ρ h0 42), .ref (ρ h0 43), .ref (ρ h0 44), .ref (ρ h0 45), .ref (ρ h0 46), .int o28_x47, .int o28_x48, .ref (ρ h0 49), .ref (ρ h0 50), .ref (ρ h0 51), .ref (ρ h0 52)])) hD (tp_in hG ht_h0 (by decide)) eq29 (fun f30 H locs hP hD hS g32 k31 => ?_))
  have hT := hT.up ht_h0 g32 k31 ⟨_, _, _, _, _, _, _, _, _, _, _, _, _, _, _, _, _, _, _, _, _, _, _, _, _, _, _, _, rfl, ro28_0, ro28_1, ro28_2, ro28_3, ro28_4, ro28_5, ro28_6, ro28_7, ro28_8, ro28_9, ro28_10, ro28_11, ro28_12, ro28_13⟩
  have hR := hR.up ht_h0 (by decide) k31
  refine lv_aload_n hx hb dX12_voyage_5 rfl (lv_at hl 0 rfl) ?_
  refine tpk_pos (tp_in hG ht_h0 (by decide)) g32 (fun q33 eq33 => ?_)
  refine va_get (D := (dC, dI)) (ci := 12) (v := .int o28_x47) (C := RX12) (T := TX12) (N := 53) hx hb hts hfX12 hown hK hP q33 eq33 rfl 47 (by decide) (hts (.fieldLink RX12 538 "ColdShipsModel" "hasBest" "Z") wa_1459) (fun _ h9 => h9) rfl dX12_voyage_6 ?_
  refine lv_if_eq (tgt := 53) hx hb dX12_voyage_9 (by decide) (fun c34 => ?_) (fun c34 => ?_)
  · have ic34 : o28_x47.toInt = 0 := zi_eq rfl rfl c34
    refine lv_ldc2 (own := RX12) (v := (-2000000000000000)) hx hb hown (hts (.constantLong RX12 466 (-2000000000000000)) wa_1189) dX12_voyage_53 ?_
    exact W.lret (v := (-2000000000000000)) hx hb hr (fun t ht hW => ⟨⟨(-2000000000000000), f30, rfl, ⟨hT, hR, trivial, trivial⟩, by rw [ht]; exact hP, va_K.moved hW.alike hK, hD⟩, hS.F ht⟩) hS.2.2 dX12_voyage_56
  · have ic34 : o28_x47.toInt ≠ 0 := zi_eqf rfl rfl c34
    replace ic34 : 1 ≤ o28_x47.toInt := by omega
    refine lv_iload_n hx hb dX12_voyage_12 rfl (lv_at hl 1 rfl) ?_
    refine lv_i2l hx hb dX12_voyage_13 rfl ?_
    refine lv_lconst (v := 0) hx hb dX12_voyage_14 (by decide) ?_
    refine lv_aload_n hx hb dX12_voyage_15 rfl (lv_at hl 0 rfl) ?_
    refine va_get (D := (dC, dI)) (ci := 12) (v := .int o28_x48) (C := RX12) (T := TX12) (N := 53) hx hb hts hfX12 hown hK hP q33 eq33 rfl 48 (by decide) (hts (.fieldLink RX12 541 "ColdShipsModel" "bestCargoes" "I") wa_1460) (fun _ h9 => h9) rfl dX12_voyage_16 ?_
    refine lv_i2l hx hb dX12_voyage_19 rfl ?_
    refine lv_lconst (v := 1) hx hb dX12_voyage_20 (by decide) ?_
    refine lv_lsub hx hb dX12_voyage_21 ?_
    refine lv_topl (fun z35 ez35 => ?_)
    have iz35 : z35.toInt = o28_x48.toInt - 1 := zl_sub ez35 (Int32.toInt_toInt64 o28_x48) rfl (by omega) (by omega)
    have hf_36 : f30 (ρ h0 2) = .inl (κ 0, 12967, .inl g27) := (k31 _ (tp_ne y1 ht_h0 (by decide))).trans hf_o26
    refine pz_calli (va_runS (As := [.long v.toInt64, .long 0, .long z35]) (rest := []) ⟨hx, hb, hml, hown, hts⟩ (t_X12_in l dC dI _ v.toInt64 (0) z35 (v.toInt) (0) (z35.toInt) (Int32.toInt_toInt64 v) rfl rfl) (va_cwS 3 hts gX12_voyage_X12_in rfl rfl rfl pd_X12_in ⟨Nat.le_of_ble_eq_true rfl, Nat.le_of_ble_eq_true rfl⟩) ⟨pz_blind, pz_pre pz_P0 (hK.sub (tys' := []) [] rfl) (pz_D0 (A := fun _ => True)) hN⟩ rfl rfl hl.1 rfl (lv_room (Nat.le_of_ble_eq_true rfl)) dX12_voyage_22 ⟨Nat.le_of_ble_eq_true rfl, Nat.le_of_ble_eq_true rfl⟩) (fun r37 hw38 => ?_)
    obtain ⟨hw38r, hw38p⟩ := hw38
    refine lv_if_eq (tgt := 53) hx hb dX12_voyage_25 (by decide) (fun c39 => ?_) (fun c39 => ?_)
    · have ic39 : r37.toInt = 0 := zi_eq rfl rfl c39
      refine lv_ldc2 (own := RX12) (v := (-2000000000000000)) hx hb hown (hts (.constantLong RX12 466 (-2000000000000000)) wa_1189) dX12_voyage_53 ?_
      exact W.lret (v := (-2000000000000000)) hx hb hr (fun t ht hW => ⟨⟨(-2000000000000000), f30, rfl, ⟨hT, hR, trivial, trivial⟩, by rw [ht]; exact hP, va_K.moved hW.alike hK, hD⟩, hS.F ht⟩) hS.2.2 dX12_voyage_56
    · have ic39 : r37.toInt ≠ 0 := zi_eqf rfl rfl c39
      replace ic39 : 1 ≤ r37.toInt := by omega
      have p40 : (0) ≤ (v.toInt) ∧ (v.toInt) ≤ (z35.toInt) := (tp_cond.yes hw38p) (by omega)
      refine lv_iload_n hx hb dX12_voyage_28 rfl (lv_at hl 2 rfl) ?_
      refine lv_i2l hx hb dX12_voyage_29 rfl ?_
      refine lv_lconst (v := 0) hx hb dX12_voyage_30 (by decide) ?_
      refine lv_ldc2 (own := RX12) (v := 4) hx hb hown (hts (.constantLong RX12 464 (4)) wa_1188) dX12_voyage_31 ?_
      refine pz_calli (va_runS (As := [.long u.toInt64, .long 0, .long 4]) (rest := []) ⟨hx, hb, hml, hown, hts⟩ (t_X12_in l dC dI _ u.toInt64 (0) (4) (u.toInt) (0) (4) (Int32.toInt_toInt64 u) rfl rfl) (va_cwS 3 hts gX12_voyage_X12_in rfl rfl rfl pd_X12_in ⟨Nat.le_of_ble_eq_true rfl, Nat.le_of_ble_eq_true rfl⟩) ⟨pz_blind, pz_pre pz_P0 (hK.sub (tys' := []) [] rfl) (pz_D0 (A := fun _ => True)) hN⟩ rfl rfl hl.1 rfl (lv_room (Nat.le_of_ble_eq_true rfl)) dX12_voyage_34 ⟨Nat.le_of_ble_eq_true rfl, Nat.le_of_ble_eq_true rfl⟩) (fun r41 hw42 => ?_)
      obtain ⟨hw42r, hw42p⟩ := hw42
      refine lv_if_eq (tgt := 53) hx hb dX12_voyage_37 (by decide) (fun c43 => ?_) (fun c43 => ?_)
      · have ic43 : r41.toInt = 0 := zi_eq rfl rfl c43
        refine lv_ldc2 (own := RX12) (v := (-2000000000000000)) hx hb hown (hts (.constantLong RX12 466 (-2000000000000000)) wa_1189) dX12_voyage_53 ?_
        exact W.lret (v := (-2000000000000000)) hx hb hr (fun t ht hW => ⟨⟨(-2000000000000000), f30, rfl, ⟨hT, hR, trivial, trivial⟩, by rw [ht]; exact hP, va_K.moved hW.alike hK, hD⟩, hS.F ht⟩) hS.2.2 dX12_voyage_56
      · have ic43 : r41.toInt ≠ 0 := zi_eqf rfl rfl c43
        replace ic43 : 1 ≤ r41.toInt := by omega
        have p44 : (0) ≤ (u.toInt) ∧ (u.toInt) ≤ (4) := (tp_cond.yes hw42p) (by omega)
        refine lv_aload_n hx hb dX12_voyage_40 rfl (lv_at hl 0 rfl) ?_
        refine va_get (D := (dC, dI)) (ci := 12) (v := .ref (ρ h0 50)) (C := RX12) (T := TX12) (N := 53) hx hb hts hfX12 hown hK hP q33 eq33 rfl 50 (by decide) (hts (.fieldLink RX12 82 "ColdShipsModel" "bestTold" "[J") wa_172) (fun _ h9 => h9) rfl dX12_voyage_41 ?_
        refine lv_iconst (v := 5) hx hb dX12_voyage_44 (by decide) ?_
        refine lv_iload_n hx hb dX12_voyage_45 rfl (lv_at hl 1 rfl) ?_
        refine lv_imul hx hb dX12_voyage_46 ?_
        refine lv_topi (fun z45 ez45 => ?_)
        have iz45 : z45.toInt = 5 * v.toInt := zi_mul ez45 rfl rfl (by omega) (by omega)
        refine lv_iload_n hx hb dX12_voyage_47 rfl (lv_at hl 2 rfl) ?_
        refine lv_iadd hx hb dX12_voyage_48 ?_
        refine lv_topi (fun z46 ez46 => ?_)
        have iz46 : z46.toInt = z45.toInt + u.toInt := zi_add ez46 rfl rfl (by omega) (by omega)
        refine tpk_80 hT y23 (fun g48 hf_o47 => ?_)
        refine tpk_pos (tp_in hG y23 (by decide)) hf_o47 (fun q49 eq49 => ?_)
        refine va_lald hx hb hK hP q49 1 eq49 rfl (vp_in_iff.mpr ⟨by omega, by omega⟩) dX12_voyage_49 ?_
        refine lv_topl (fun z50 ez50 => ?_)
        refine lv_goto (tgt := 56) hx hb dX12_voyage_50 (by decide) ?_
        exact W.lret (v := z50) hx hb hr (fun t ht hW => ⟨⟨z50, f30, rfl, ⟨hT, hR, trivial, trivial⟩, by rw [ht]; exact hP, va_K.moved hW.alike hK, hD⟩, hS.F ht⟩) hS.2.2 dX12_voyage_56
set_option maxHeartbeats 4000000 in
set_option maxRecDepth 100000 in
theorem t_X12_end (l : Launch) (dC : Nat → ClassId) (dI : Nat → Nat → Nat) (sz : Nat) (κ : Nat → ClassId) (τ ν : Nat → Nat) (ρ : Nat → Nat → Nat) (L : List Nat) (f : Nat → va_E) (hG : tp_G τ ν ρ L) (hT : tp_T (mo_O κ) κ τ ν ρ f) (h0 : Nat) (v : Int32) (ht_h0 : τ h0 = 13) (hJ : mo_RI (-1) 0 (mo_R (mo_i (f (ρ h0 2))))) : Met l yX12_end wqX12_end ({ frames := 2, cells := 0, slots := 0, locals := 400 }) (va_Pc [.ref h0, .int v] (pz_B dC dI (tp_K κ) (va_pl L f) sz)) (va_Qi (fun (r : Int32) (f1 : Nat → va_E) => tp_T (mo_O κ) κ τ ν ρ f1 ∧ tp_F τ [13] f f1 ∧ True ∧ True) (fun (f1 : Nat → va_E) (t : State) => pz_E dC dI (tp_K κ) (va_A (va_pl L f) sz) (va_pl L f1) t) (va_A (va_pl L f) sz)) 0 0 (va_A (va_pl L f) sz) := by
  refine Met.ofW (cc := cX12_end) (maxL := 2) (ret := some .int) (by decide) rfl ?_
  intro p e s m args below meth c s₁ B hml hv
  obtain ⟨rfl, hsz, hP, hK, hD0, hN⟩ := hv
  have hx := B.exec
  have hb := B.bytes
  have hr := B.returns
  have hts := fun (w : Cond) (h : w ∈ WALL) => atoms_spec (ws := wqX12_end) B.pre w (List.mem_cons_of_mem _ h)
  have hown : s.vm.findClass RX12 = some m.cls := findClass_of_methodNamed B.named
  have hlocks := B.notSynchronized
  subst hsz
  have hD := hD0.self (sz := s.heap.size)
  generalize hAe : va_A (va_pl L f) s.heap.size = A at hD ⊢
  have hA : ∀ q : Nat, s.heap.size ≤ q → A q := fun q h => by rw [← hAe]; exact Or.inr h
  have hS : va_S A s.heap s.heap [] := va_S.rf
  have hR : tp_F τ [13] f f := tp_F.rf
  have hl := lv_entry ([.ref h0, .int v]) (n := 2) (Nat.le_of_ble_eq_true rfl)
  rw [lg_entry_eq]
  generalize (lg_sl ([.ref h0, .int v]) ++ List.replicate (2 - (lg_sl ([.ref h0, .int v])).length) Slot.unset).toArray = ls at hl ⊢
  have hl : lv_has ls 2 [(0, .ref h0), (1, .int v)] := hl
  refine tgk_13 hG ht_h0 (fun y1 y2 y3 y4 y5 y6 y7 y8 y9 y10 y11 y12 y13 y14 y15 y16 y17 y18 y19 y20 y21 y22 y23 y24 y25 => ?_)
  refine tpk_32 hT y1 (fun g27 hf_o26 => ?_)
  have hI : mo_RI (-1) 0 (mo_R g27) := by have q9 := hJ; rw [hf_o26, mo_i1] at q9; exact q9
  refine lv_aload_n hx hb dX12_end_0 rfl (lv_at hl 0 rfl) ?_
  refine lv_iconst (v := 0) hx hb dX12_end_1 (by decide) ?_
  refine tpk_13 hT ht_h0 (fun o28_x0 o28_x1 o28_x7 o28_x9 o28_x10 o28_x11 o28_x12 o28_x13 o28_x14 o28_x15 o28_x16 o28_x17 o28_x18 o28_x19 o28_x20 o28_x22 o28_x25 o28_x28 o28_x29 o28_x32 o28_x33 o28_x34 o28_x35 o28_x36 o28_x37 o28_x38 o28_x47 o28_x48 hf_o28 ro28_0 ro28_1 ro28_2 ro28_3 ro28_4 ro28_5 ro28_6 ro28_7 ro28_8 ro28_9 ro28_10 ro28_11 ro28_12 ro28_13 => ?_)
  refine tpk_pos (tp_in hG ht_h0 (by decide)) hf_o28 (fun q29 eq29 => ?_)
  refine va_put (D := (dC, dI)) (ci := 12) (v := .int 0) (ty := .int) (C := RX12) (T := TX12) (N := 53) hx hb hts hfX12 tyX12 tyX12_ok nmX12 hown hK hP hD hS q29 eq29 rfl 0 (by decide) (hts (.fieldLink RX12 91 "ColdShipsModel" "thrown" "I") wa_209) (fun _ h9 => h9) rfl (tyX12_ok 0 (by decide)) rfl rfl (Nat.le_of_ble_eq_true rfl) dX12_end_2 (tp_k (.inr (12, [.int 0, .int o28_x1, .ref (ρ h0 2), .ref (ρ h0 3), .ref (ρ h0 4), .ref (ρ h0 5), .ref (ρ h0 6), .int o28_x7, .ref (ρ h0 8), .int o28_x9, .int o28_x10, .int o28_x11, .int o28_x12, .long o28_x13, .int o28_x14, .int o28_x15, .int o28_x16, .int o28_x17, .int o28_x18, .int o28_x19, .int o28_x20, .ref (ρ h0 21), .int o28_x22, .ref (ρ h0 23), .ref (ρ h0 24), .int o28_x25, .ref (ρ h0 26), .ref (ρ h0 27), .int o28_x28, .int o28_x29, .ref (ρ h0 30), .ref (ρ h0 31), .int o28_x32, .long o28_x33, .long o28_x34, .long o28_x35, .int o28_x36, .int o28_x37, .int o28_x38, .ref (ρ h0 39), .ref (ρ h0 40), .ref (ρ h0 41), .ref (ρ h0 42), .ref (ρ h0 43), .ref (ρ h0 44), .ref (ρ h0 45), .ref (ρ h0 46), .int o28_x47, .int o28_x48, .ref (ρ h0 49), .ref (ρ h0 50), .ref (ρ h0 51), .ref (ρ h0 52)])) hD (tp_in hG ht_h0 (by decide)) eq29 (fun f30 H locs hP hD hS g32 k31 => ?_))
  have hT := hT.up ht_h0 g32 k31 ⟨_, _, _, _, _, _, _, _, _, _, _, _, _, _, _, _, _, _, _, _, _, _, _, _, _, _, _, _, rfl, ro28_0, ro28_1, ro28_2, ro28_3, ro28_4, ro28_5, ro28_6, ro28_7, ro28_8, ro28_9, ro28_10, ro28_11, ro28_12, ro28_13⟩
  have hR := hR.up ht_h0 (by decide) k31
  refine lv_iload_n hx hb dX12_end_5 rfl (lv_at hl 1 rfl) ?_
  refine lv_if_lt (tgt := 17) hx hb dX12_end_6 (by decide) (fun c33 => ?_) (fun c33 => ?_)
  · have ic33 : v.toInt < 0 := zi_lt rfl rfl c33
    refine lv_iconst (v := (-1)) hx hb dX12_end_17 (by decide) ?_
    exact W.iret (v := (-1)) hx hb hr (fun t ht hW => ⟨⟨(-1), f30, rfl, ⟨hT, hR, trivial, trivial⟩, by rw [ht]; exact hP, va_K.moved hW.alike hK, hD⟩, hS.F ht⟩) hS.2.2 dX12_end_18
  · have ic33 : v.toInt ≥ 0 := zi_ltf rfl rfl c33
    refine lv_iload_n hx hb dX12_end_9 rfl (lv_at hl 1 rfl) ?_
    refine lv_aload_n hx hb dX12_end_10 rfl (lv_at hl 0 rfl) ?_
    refine tpk_pos (tp_in hG ht_h0 (by decide)) g32 (fun q34 eq34 => ?_)
    refine va_get (D := (dC, dI)) (ci := 12) (v := .int o28_x9) (C := RX12) (T := TX12) (N := 53) hx hb hts hfX12 hown hK hP q34 eq34 rfl 9 (by decide) (hts (.fieldLink RX12 252 "ColdShipsModel" "taped" "I") wa_774) (fun _ h9 => h9) rfl dX12_end_11 ?_
    refine lv_icmp_le (tgt := 19) hx hb dX12_end_14 (by decide) (fun c35 => ?_) (fun c35 => ?_)
    · have ic35 : v.toInt ≤ o28_x9.toInt := zi_le rfl rfl c35
      refine lv_aload_n hx hb dX12_end_19 rfl (lv_at hl 0 rfl) ?_
      refine lv_iload_n hx hb dX12_end_20 rfl (lv_at hl 1 rfl) ?_
      refine va_put (D := (dC, dI)) (ci := 12) (v := .int v) (ty := .int) (C := RX12) (T := TX12) (N := 53) hx hb hts hfX12 tyX12 tyX12_ok nmX12 hown hK hP hD hS q34 eq34 rfl 9 (by decide) (hts (.fieldLink RX12 252 "ColdShipsModel" "taped" "I") wa_774) (fun _ h9 => h9) rfl (tyX12_ok 9 (by decide)) rfl rfl (Nat.le_of_ble_eq_true rfl) dX12_end_21 (tp_k (.inr (12, [.int 0, .int o28_x1, .ref (ρ h0 2), .ref (ρ h0 3), .ref (ρ h0 4), .ref (ρ h0 5), .ref (ρ h0 6), .int o28_x7, .ref (ρ h0 8), .int v, .int o28_x10, .int o28_x11, .int o28_x12, .long o28_x13, .int o28_x14, .int o28_x15, .int o28_x16, .int o28_x17, .int o28_x18, .int o28_x19, .int o28_x20, .ref (ρ h0 21), .int o28_x22, .ref (ρ h0 23), .ref (ρ h0 24), .int o28_x25, .ref (ρ h0 26), .ref (ρ h0 27), .int o28_x28, .int o28_x29, .ref (ρ h0 30), .ref (ρ h0 31), .int o28_x32, .long o28_x33, .long o28_x34, .long o28_x35, .int o28_x36, .int o28_x37, .int o28_x38, .ref (ρ h0 39), .ref (ρ h0 40), .ref (ρ h0 41), .ref (ρ h0 42), .ref (ρ h0 43), .ref (ρ h0 44), .ref (ρ h0 45), .ref (ρ h0 46), .int o28_x47, .int o28_x48, .ref (ρ h0 49), .ref (ρ h0 50), .ref (ρ h0 51), .ref (ρ h0 52)])) hD (tp_in hG ht_h0 (by decide)) eq34 (fun f36 H locs hP hD hS g38 k37 => ?_))
      have hT := hT.up ht_h0 g38 k37 ⟨_, _, _, _, _, _, _, _, _, _, _, _, _, _, _, _, _, _, _, _, _, _, _, _, _, _, _, _, rfl, ro28_0, (by omega), ro28_2, ro28_3, ro28_4, ro28_5, ro28_6, ro28_7, ro28_8, ro28_9, ro28_10, ro28_11, ro28_12, ro28_13⟩
      have hR := hR.up ht_h0 (by decide) k37
      refine lv_iload_n hx hb dX12_end_24 rfl (lv_at hl 1 rfl) ?_
      exact W.iret (v := v) hx hb hr (fun t ht hW => ⟨⟨v, f36, rfl, ⟨hT, hR, trivial, trivial⟩, by rw [ht]; exact hP, va_K.moved hW.alike hK, hD⟩, hS.F ht⟩) hS.2.2 dX12_end_25
    · have ic35 : v.toInt > o28_x9.toInt := zi_lef rfl rfl c35
      refine lv_iconst (v := (-1)) hx hb dX12_end_17 (by decide) ?_
      exact W.iret (v := (-1)) hx hb hr (fun t ht hW => ⟨⟨(-1), f30, rfl, ⟨hT, hR, trivial, trivial⟩, by rw [ht]; exact hP, va_K.moved hW.alike hK, hD⟩, hS.F ht⟩) hS.2.2 dX12_end_18
set_option maxHeartbeats 4000000 in
set_option maxRecDepth 100000 in
theorem t_X12_four (l : Launch) (dC : Nat → ClassId) (dI : Nat → Nat → Nat) (sz : Nat) (κ : Nat → ClassId) (τ ν : Nat → Nat) (ρ : Nat → Nat → Nat) (L : List Nat) (f : Nat → va_E) (hG : tp_G τ ν ρ L) (hT : tp_T (mo_O κ) κ τ ν ρ f) (h0 : Nat) (v : Int32) (ht_h0 : τ h0 = 13) (h9 : (tp_fld (f h0) 9) ≤ 396) : Met l yX12_four wqX12_four ({ frames := 2, cells := 0, slots := 0, locals := 400 }) (va_Pc [.ref h0, .int v] (pz_B dC dI (tp_K κ) (va_pl L f) sz)) (va_Qv (fun (f1 : Nat → va_E) => tp_T (mo_O κ) κ τ ν ρ f1 ∧ tp_F τ [13, 38] f f1 ∧ (tp_fld (f1 h0) 9) = (tp_fld (f h0) 9) + 4) (fun (f1 : Nat → va_E) (t : State) => pz_E dC dI (tp_K κ) (va_A (va_pl L f) sz) (va_pl L f1) t) (va_A (va_pl L f) sz)) 0 0 (va_A (va_pl L f) sz) := by
  refine Met.ofW (cc := cX12_four) (maxL := 3) (ret := none) (by decide) rfl ?_
  intro p e s m args below meth c s₁ B hml hv
  obtain ⟨rfl, hsz, hP, hK, hD0, hN⟩ := hv
  have hx := B.exec
  have hb := B.bytes
  have hr := B.returns
  have hts := fun (w : Cond) (h : w ∈ WALL) => atoms_spec (ws := wqX12_four) B.pre w (List.mem_cons_of_mem _ h)
  have hown : s.vm.findClass RX12 = some m.cls := findClass_of_methodNamed B.named
  have hlocks := B.notSynchronized
  subst hsz
  have hD := hD0.self (sz := s.heap.size)
  generalize hAe : va_A (va_pl L f) s.heap.size = A at hD ⊢
  have hA : ∀ q : Nat, s.heap.size ≤ q → A q := fun q h => by rw [← hAe]; exact Or.inr h
  have hS : va_S A s.heap s.heap [] := va_S.rf
  have hR : tp_F τ [13, 38] f f := tp_F.rf
  have hl := lv_entry ([.ref h0, .int v]) (n := 3) (Nat.le_of_ble_eq_true rfl)
  rw [lg_entry_eq]
  generalize (lg_sl ([.ref h0, .int v]) ++ List.replicate (3 - (lg_sl ([.ref h0, .int v])).length) Slot.unset).toArray = ls at hl ⊢
  have hl : lv_has ls 3 [(0, .ref h0), (1, .int v)] := hl
  refine tgk_13 hG ht_h0 (fun y1 y2 y3 y4 y5 y6 y7 y8 y9 y10 y11 y12 y13 y14 y15 y16 y17 y18 y19 y20 y21 y22 y23 y24 y25 => ?_)
  refine tpk_13 hT ht_h0 (fun o26_x0 o26_x1 o26_x7 o26_x9 o26_x10 o26_x11 o26_x12 o26_x13 o26_x14 o26_x15 o26_x16 o26_x17 o26_x18 o26_x19 o26_x20 o26_x22 o26_x25 o26_x28 o26_x29 o26_x32 o26_x33 o26_x34 o26_x35 o26_x36 o26_x37 o26_x38 o26_x47 o26_x48 hf_o26 ro26_0 ro26_1 ro26_2 ro26_3 ro26_4 ro26_5 ro26_6 ro26_7 ro26_8 ro26_9 ro26_10 ro26_11 ro26_12 ro26_13 => ?_)
  have tf27 : mo_hd (tp_fld (f h0) 9 = o26_x9.toInt) := tff_9 hf_o26
  replace h9 : o26_x9.toInt ≤ 396 := by have q9 := h9; first | (simp only [(mo_un tf27), mo_i1, mo_l1] at q9; exact q9) | (rw [(mo_un tf27)] at q9; exact q9)
  refine lv_bipush (v := 24) hx hb dX12_four_0 (by decide) ?_
  refine lv_istore_n (lv' := [(2, .int 24), (0, .ref h0), (1, .int v)]) hx hb dX12_four_2 rfl hl (by decide) rfl (fun ls hl => ?_)
  refine pz_loop (fun n0 H locs ls => ∃ f29 : Nat → va_E, ∃ w28 : Int32, n0 = ((w28.toInt) + 8).toNat ∧ tp_T (mo_O κ) κ τ ν ρ f29 ∧ tp_F τ [13, 38] f f29 ∧ ((4 * 2 * (tp_fld (f29 h0) 9) = 8 * o26_x9.toInt + 24 - (w28.toInt))) ∧ (((tp_fld (f29 h0) 9) ≤ 400)) ∧ ((-8) ≤ w28.toInt ∧ w28.toInt ≤ 24) ∧ va_P (dC, dI) vwCl (va_pl L f29) H ∧ va_D A (va_pl L f29) ∧ va_S A s.heap H locs ∧ lv_has ls 3 [(2, .int w28), (0, .ref h0), (1, .int v)]) ?_ _ _ _ _ ⟨f, 24, rfl, hT, hR, (by first | (simp only [(mo_un tf27), mo_i1, mo_l1]; exact (show 4 * 2 * o26_x9.toInt = 8 * o26_x9.toInt + 24 - (24 : Int32).toInt from by have : (24 : Int32).toInt = 24 := rfl; first | omega | decide)) | (rw [(mo_un tf27)]; exact (show 4 * 2 * o26_x9.toInt = 8 * o26_x9.toInt + 24 - (24 : Int32).toInt from by have : (24 : Int32).toInt = 24 := rfl; first | omega | decide))), (by first | (simp only [(mo_un tf27), mo_i1, mo_l1]; exact (show o26_x9.toInt ≤ 400 from by have : (24 : Int32).toInt = 24 := rfl; first | omega | decide)) | (rw [(mo_un tf27)]; exact (show o26_x9.toInt ≤ 400 from by have : (24 : Int32).toInt = 24 := rfl; first | omega | decide))), (by have : (24 : Int32).toInt = 24 := rfl; omega), hP, hD, hS, lv_sub hl [0, 1, 2] rfl⟩
  intro n0 H locs ls hI ih31
  refine Exists.elim hI (fun f29 hE90 => Exists.elim hE90 (fun w28 hE91 => tn_10 hE91 (fun hn32 hT hR jf33 jf34 rw28 hP hD hS hl => ?_)))
  clear hE91 hE90 hI
  refine tpk_13 hT ht_h0 (fun o35_x0 o35_x1 o35_x7 o35_x9 o35_x10 o35_x11 o35_x12 o35_x13 o35_x14 o35_x15 o35_x16 o35_x17 o35_x18 o35_x19 o35_x20 o35_x22 o35_x25 o35_x28 o35_x29 o35_x32 o35_x33 o35_x34 o35_x35 o35_x36 o35_x37 o35_x38 o35_x47 o35_x48 hf_o35 ro35_0 ro35_1 ro35_2 ro35_3 ro35_4 ro35_5 ro35_6 ro35_7 ro35_8 ro35_9 ro35_10 ro35_11 ro35_12 ro35_13 => ?_)
  have tf36 : mo_hd (tp_fld (f29 h0) 9 = o35_x9.toInt) := tff_9 hf_o35
  replace jf33 : 4 * 2 * o35_x9.toInt = 8 * o26_x9.toInt + 24 - (w28.toInt) := by have q9 := jf33; first | (simp only [(mo_un tf36), mo_i1, mo_l1] at q9; exact q9) | (rw [(mo_un tf36)] at q9; exact q9)
  replace jf34 : o35_x9.toInt ≤ 400 := by have q9 := jf34; first | (simp only [(mo_un tf36), mo_i1, mo_l1] at q9; exact q9) | (rw [(mo_un tf36)] at q9; exact q9)
  refine lv_iload_n hx hb dX12_four_3 rfl (lv_at hl 0 rfl) ?_
  refine lv_if_lt (tgt := 39) hx hb dX12_four_4 (by decide) (fun c37 => ?_) (fun c37 => ?_)
  · have ic37 : w28.toInt < 0 := zi_lt rfl rfl c37
    exact W.vret hx hb hr (fun t ht hW => ⟨⟨f29, rfl, ⟨hT, hR, (by first | (simp only [(mo_un tf36), (mo_un tf27), mo_i1, mo_l1]; exact (show o35_x9.toInt = o26_x9.toInt + 4 from by first | omega | decide)) | (rw [(mo_un tf36), (mo_un tf27)]; exact (show o35_x9.toInt = o26_x9.toInt + 4 from by first | omega | decide)))⟩, by rw [ht]; exact hP, va_K.moved hW.alike hK, hD⟩, hS.F ht⟩) hS.2.2 dX12_four_39
  · have ic37 : w28.toInt ≥ 0 := zi_ltf rfl rfl c37
    refine lv_aload_n hx hb dX12_four_7 rfl (lv_at hl 1 rfl) ?_
    refine tpk_pos (tp_in hG ht_h0 (by decide)) hf_o35 (fun q38 eq38 => ?_)
    refine va_get (D := (dC, dI)) (ci := 12) (v := .ref (ρ h0 8)) (C := RX12) (T := TX12) (N := 53) hx hb hts hfX12 hown hK hP q38 eq38 rfl 8 (by decide) (hts (.fieldLink RX12 27 "ColdShipsModel" "tape" "[I") wa_154) (fun _ h9 => h9) rfl dX12_four_8 ?_
    refine lv_aload_n hx hb dX12_four_11 rfl (lv_at hl 1 rfl) ?_
    refine va_get (D := (dC, dI)) (ci := 12) (v := .int o35_x9) (C := RX12) (T := TX12) (N := 53) hx hb hts hfX12 hown hK hP q38 eq38 rfl 9 (by decide) (hts (.fieldLink RX12 252 "ColdShipsModel" "taped" "I") wa_774) (fun _ h9 => h9) rfl dX12_four_12 ?_
    refine lv_iload_n hx hb dX12_four_15 rfl (lv_at hl 2 rfl) ?_
    refine lv_iload_n hx hb dX12_four_16 rfl (lv_at hl 0 rfl) ?_
    refine lv_ishr hx hb dX12_four_17 ?_
    refine lv_topi (fun z39 ez39 => ?_)
    refine lv_sipush (v := 255) hx hb dX12_four_18 (by decide) ?_
    refine lv_iand hx hb dX12_four_21 ?_
    refine lv_topi (fun z40 ez40 => ?_)
    have iz40 : 0 ≤ z40.toInt ∧ z40.toInt ≤ 255 := zb_mask ez40 (by decide)
    refine tpk_38 hT y6 (fun g42 hf_o41 => ?_)
    refine tpk_pos (tp_in hG y6 (by decide)) hf_o41 (fun q43 eq43 => ?_)
    refine va_iast hx hb hK hP hD hS q43 0 eq43 rfl (vp_in_iff.mpr ⟨by omega, by omega⟩) dX12_four_22 (tp_k (.inl (κ 0, 400, .inl (upd g42 o35_x9.toNatClampNeg z40))) hD (tp_in hG y6 (by decide)) eq43 (fun f44 H locs hP hD hS g46 k45 => ?_))
    have hT := hT.up y6 g46 k45 tp_o38
    have hR := hR.up y6 (by decide) k45
    generalize (upd g42 o35_x9.toNatClampNeg z40) = g47 at g46
    refine lv_aload_n hx hb dX12_four_23 rfl (lv_at hl 1 rfl) ?_
    refine lv_dup hx hb dX12_four_24 rfl ?_
    have hf_48 : f44 h0 = .inr (12, [.int o35_x0, .int o35_x1, .ref (ρ h0 2), .ref (ρ h0 3), .ref (ρ h0 4), .ref (ρ h0 5), .ref (ρ h0 6), .int o35_x7, .ref (ρ h0 8), .int o35_x9, .int o35_x10, .int o35_x11, .int o35_x12, .long o35_x13, .int o35_x14, .int o35_x15, .int o35_x16, .int o35_x17, .int o35_x18, .int o35_x19, .int o35_x20, .ref (ρ h0 21), .int o35_x22, .ref (ρ h0 23), .ref (ρ h0 24), .int o35_x25, .ref (ρ h0 26), .ref (ρ h0 27), .int o35_x28, .int o35_x29, .ref (ρ h0 30), .ref (ρ h0 31), .int o35_x32, .long o35_x33, .long o35_x34, .long o35_x35, .int o35_x36, .int o35_x37, .int o35_x38, .ref (ρ h0 39), .ref (ρ h0 40), .ref (ρ h0 41), .ref (ρ h0 42), .ref (ρ h0 43), .ref (ρ h0 44), .ref (ρ h0 45), .ref (ρ h0 46), .int o35_x47, .int o35_x48, .ref (ρ h0 49), .ref (ρ h0 50), .ref (ρ h0 51), .ref (ρ h0 52)]) := (k45 _ (tp_ne ht_h0 y6 (by decide))).trans hf_o35
    refine tpk_pos (tp_in hG ht_h0 (by decide)) hf_48 (fun q49 eq49 => ?_)
    refine va_get (D := (dC, dI)) (ci := 12) (v := .int o35_x9) (C := RX12) (T := TX12) (N := 53) hx hb hts hfX12 hown hK hP q49 eq49 rfl 9 (by decide) (hts (.fieldLink RX12 252 "ColdShipsModel" "taped" "I") wa_774) (fun _ h9 => h9) rfl dX12_four_25 ?_
    refine lv_iconst (v := 1) hx hb dX12_four_28 (by decide) ?_
    refine lv_iadd hx hb dX12_four_29 ?_
    refine lv_topi (fun z50 ez50 => ?_)
    have iz50 : z50.toInt = o35_x9.toInt + 1 := zi_add ez50 rfl rfl (by omega) (by omega)
    refine va_put (D := (dC, dI)) (ci := 12) (v := .int z50) (ty := .int) (C := RX12) (T := TX12) (N := 53) hx hb hts hfX12 tyX12 tyX12_ok nmX12 hown hK hP hD hS q49 eq49 rfl 9 (by decide) (hts (.fieldLink RX12 252 "ColdShipsModel" "taped" "I") wa_774) (fun _ h9 => h9) rfl (tyX12_ok 9 (by decide)) rfl rfl (Nat.le_of_ble_eq_true rfl) dX12_four_30 (tp_k (.inr (12, [.int o35_x0, .int o35_x1, .ref (ρ h0 2), .ref (ρ h0 3), .ref (ρ h0 4), .ref (ρ h0 5), .ref (ρ h0 6), .int o35_x7, .ref (ρ h0 8), .int z50, .int o35_x10, .int o35_x11, .int o35_x12, .long o35_x13, .int o35_x14, .int o35_x15, .int o35_x16, .int o35_x17, .int o35_x18, .int o35_x19, .int o35_x20, .ref (ρ h0 21), .int o35_x22, .ref (ρ h0 23), .ref (ρ h0 24), .int o35_x25, .ref (ρ h0 26), .ref (ρ h0 27), .int o35_x28, .int o35_x29, .ref (ρ h0 30), .ref (ρ h0 31), .int o35_x32, .long o35_x33, .long o35_x34, .long o35_x35, .int o35_x36, .int o35_x37, .int o35_x38, .ref (ρ h0 39), .ref (ρ h0 40), .ref (ρ h0 41), .ref (ρ h0 42), .ref (ρ h0 43), .ref (ρ h0 44), .ref (ρ h0 45), .ref (ρ h0 46), .int o35_x47, .int o35_x48, .ref (ρ h0 49), .ref (ρ h0 50), .ref (ρ h0 51), .ref (ρ h0 52)])) hD (tp_in hG ht_h0 (by decide)) eq49 (fun f51 H locs hP hD hS g53 k52 => ?_))
    have hT := hT.up ht_h0 g53 k52 ⟨_, _, _, _, _, _, _, _, _, _, _, _, _, _, _, _, _, _, _, _, _, _, _, _, _, _, _, _, rfl, ro35_0, (by omega), ro35_2, ro35_3, ro35_4, ro35_5, ro35_6, ro35_7, ro35_8, ro35_9, ro35_10, ro35_11, ro35_12, ro35_13⟩
    have hR := hR.up ht_h0 (by decide) k52
    obtain ⟨z54, ez54⟩ : ∃ y : Int32, y = w28 + (-8) := ⟨_, rfl⟩
    refine lv_iinc (v := z54) (lv' := [(2, .int z54), (0, .ref h0), (1, .int v)]) hx hb dX12_four_33 hl (k := 0) rfl (by rw [ez54]; rfl) (by decide) rfl (fun ls hl => ?_)
    have iz54 : z54.toInt = w28.toInt + (-8) := zi_add ez54 rfl rfl (by omega) (by omega)
    refine lv_goto (tgt := 3) hx hb dX12_four_36 (by decide) ?_
    have tf55 : mo_hd (tp_fld (f51 h0) 9 = z50.toInt) := tff_9 g53
    exact ih31 _ _ _ _ (by rw [hn32]; omega) ⟨f51, z54, rfl, hT, hR, (by first | (simp only [(mo_un tf55), mo_i1, mo_l1]; exact (show 4 * 2 * z50.toInt = 8 * o26_x9.toInt + 24 - (z54.toInt) from by first | omega | decide)) | (rw [(mo_un tf55)]; exact (show 4 * 2 * z50.toInt = 8 * o26_x9.toInt + 24 - (z54.toInt) from by first | omega | decide))), (by first | (simp only [(mo_un tf55), mo_i1, mo_l1]; exact (show z50.toInt ≤ 400 from by first | omega | decide)) | (rw [(mo_un tf55)]; exact (show z50.toInt ≤ 400 from by first | omega | decide))), (by omega), hP, hD, hS, lv_sub hl [0, 1, 2] rfl⟩
