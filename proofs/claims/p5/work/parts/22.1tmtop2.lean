set_option maxHeartbeats 4000000 in
set_option maxRecDepth 100000 in
theorem t_X12_terminal (l : Launch) (dC : Nat → ClassId) (dI : Nat → Nat → Nat) (sz : Nat) (κ : Nat → ClassId) (τ ν : Nat → Nat) (ρ : Nat → Nat → Nat) (L : List Nat) (f : Nat → va_E) (hG : tp_G τ ν ρ L) (hT : tp_T (mo_O κ) κ τ ν ρ f) (h0 : Nat) (v : Int32) (u : Int32) (a : Int32) (a4 : Int32) (ht_h0 : τ h0 = 13) (hJ : mo_RI (-1) 0 (mo_R (mo_i (f (ρ h0 2))))) : Met l yX12_terminal wqX12_terminal ({ frames := 3, cells := 0, slots := 0, locals := 800 }) (va_Pc [.ref h0, .int v, .int u, .int a, .int a4] (pz_B dC dI (tp_K κ) (va_pl L f) sz)) (va_Qi (fun (r : Int32) (f1 : Nat → va_E) => tp_T (mo_O κ) κ τ ν ρ f1 ∧ tp_F τ [13, 32] f f1 ∧ True ∧ mo_RI (-1) 0 (mo_R (mo_i (f1 (ρ h0 2))))) (fun (f1 : Nat → va_E) (t : State) => pz_E dC dI (tp_K κ) (va_A (va_pl L f) sz) (va_pl L f1) t) (va_A (va_pl L f) sz)) 0 0 (va_A (va_pl L f) sz) := by
  refine Met.ofW (cc := cX12_terminal) (maxL := 6) (ret := some .int) (by decide) rfl ?_
  intro p e s m args below meth c s₁ B hml hv
  obtain ⟨rfl, hsz, hP, hK, hD0, hN⟩ := hv
  have hx := B.exec
  have hb := B.bytes
  have hr := B.returns
  have hts := fun (w : Cond) (h : w ∈ WALL) => atoms_spec (ws := wqX12_terminal) B.pre w (List.mem_cons_of_mem _ h)
  have hown : s.vm.findClass RX12 = some m.cls := findClass_of_methodNamed B.named
  have hlocks := B.notSynchronized
  subst hsz
  have hD := hD0.self (sz := s.heap.size)
  generalize hAe : va_A (va_pl L f) s.heap.size = A at hD ⊢
  have hA : ∀ q : Nat, s.heap.size ≤ q → A q := fun q h => by rw [← hAe]; exact Or.inr h
  have hS : va_S A s.heap s.heap [] := va_S.rf
  have hR : tp_F τ [13, 32] f f := tp_F.rf
  have hl := lv_entry ([.ref h0, .int v, .int u, .int a, .int a4]) (n := 6) (Nat.le_of_ble_eq_true rfl)
  rw [lg_entry_eq]
  generalize (lg_sl ([.ref h0, .int v, .int u, .int a, .int a4]) ++ List.replicate (6 - (lg_sl ([.ref h0, .int v, .int u, .int a, .int a4])).length) Slot.unset).toArray = ls at hl ⊢
  have hl : lv_has ls 6 [(0, .ref h0), (1, .int v), (2, .int u), (3, .int a), (4, .int a4)] := hl
  refine tgk_13 hG ht_h0 (fun y1 y2 y3 y4 y5 y6 y7 y8 y9 y10 y11 y12 y13 y14 y15 y16 y17 y18 y19 y20 y21 y22 y23 y24 y25 => ?_)
  refine tpk_32 hT y1 (fun g27 hf_o26 => ?_)
  have hI : mo_RI (-1) 0 (mo_R g27) := by have q9 := hJ; rw [hf_o26, mo_i1] at q9; exact q9
  refine lv_aload_n hx hb dX12_terminal_0 rfl (lv_at hl 0 rfl) ?_
  refine lv_iconst (v := 0) hx hb dX12_terminal_1 (by decide) ?_
  refine tpk_13 hT ht_h0 (fun o28_x0 o28_x1 o28_x7 o28_x9 o28_x10 o28_x11 o28_x12 o28_x13 o28_x14 o28_x15 o28_x16 o28_x17 o28_x18 o28_x19 o28_x20 o28_x22 o28_x25 o28_x28 o28_x29 o28_x32 o28_x33 o28_x34 o28_x35 o28_x36 o28_x37 o28_x38 o28_x47 o28_x48 hf_o28 ro28_0 ro28_1 ro28_2 ro28_3 ro28_4 ro28_5 ro28_6 ro28_7 ro28_8 ro28_9 ro28_10 ro28_11 ro28_12 ro28_13 => ?_)
  refine tpk_pos (tp_in hG ht_h0 (by decide)) hf_o28 (fun q29 eq29 => ?_)
  refine va_put (D := (dC, dI)) (ci := 12) (v := .int 0) (ty := .int) (C := RX12) (T := TX12) (N := 53) hx hb hts hfX12 tyX12 tyX12_ok nmX12 hown hK hP hD hS q29 eq29 rfl 0 (by decide) (hts (.fieldLink RX12 91 "ColdShipsModel" "thrown" "I") wa_209) (fun _ h9 => h9) rfl (tyX12_ok 0 (by decide)) rfl rfl (Nat.le_of_ble_eq_true rfl) dX12_terminal_2 (tp_k (.inr (12, [.int 0, .int o28_x1, .ref (ρ h0 2), .ref (ρ h0 3), .ref (ρ h0 4), .ref (ρ h0 5), .ref (ρ h0 6), .int o28_x7, .ref (ρ h0 8), .int o28_x9, .int o28_x10, .int o28_x11, .int o28_x12, .long o28_x13, .int o28_x14, .int o28_x15, .int o28_x16, .int o28_x17, .int o28_x18, .int o28_x19, .int o28_x20, .ref (ρ h0 21), .int o28_x22, .ref (ρ h0 23), .ref (ρ h0 24), .int o28_x25, .ref (ρ h0 26), .ref (ρ h0 27), .int o28_x28, .int o28_x29, .ref (ρ h0 30), .ref (ρ h0 31), .int o28_x32, .long o28_x33, .long o28_x34, .long o28_x35, .int o28_x36, .int o28_x37, .int o28_x38, .ref (ρ h0 39), .ref (ρ h0 40), .ref (ρ h0 41), .ref (ρ h0 42), .ref (ρ h0 43), .ref (ρ h0 44), .ref (ρ h0 45), .ref (ρ h0 46), .int o28_x47, .int o28_x48, .ref (ρ h0 49), .ref (ρ h0 50), .ref (ρ h0 51), .ref (ρ h0 52)])) hD (tp_in hG ht_h0 (by decide)) eq29 (fun f30 H locs hP hD hS g32 k31 => ?_))
  have hT := hT.up ht_h0 g32 k31 ⟨_, _, _, _, _, _, _, _, _, _, _, _, _, _, _, _, _, _, _, _, _, _, _, _, _, _, _, _, rfl, ro28_0, ro28_1, ro28_2, ro28_3, ro28_4, ro28_5, ro28_6, ro28_7, ro28_8, ro28_9, ro28_10, ro28_11, ro28_12, ro28_13⟩
  have hR := hR.up ht_h0 (by decide) k31
  refine lv_iload_n hx hb dX12_terminal_5 rfl (lv_at hl 2 rfl) ?_
  refine lv_i2l hx hb dX12_terminal_6 rfl ?_
  refine lv_lconst (v := 0) hx hb dX12_terminal_7 (by decide) ?_
  refine lv_ldc2 (own := RX12) (v := 500000) hx hb hown (hts (.constantLong RX12 109 (500000)) wa_210) dX12_terminal_8 ?_
  have hf_33 : f30 (ρ h0 2) = .inl (κ 0, 12967, .inl g27) := (k31 _ (tp_ne y1 ht_h0 (by decide))).trans hf_o26
  refine pz_calli (va_runS (As := [.long u.toInt64, .long 0, .long 500000]) (rest := []) ⟨hx, hb, hml, hown, hts⟩ (t_X12_in l dC dI _ u.toInt64 (0) (500000) (u.toInt) (0) (500000) (Int32.toInt_toInt64 u) rfl rfl) (va_cwS 3 hts gX12_terminal_X12_in rfl rfl rfl pd_X12_in ⟨Nat.le_of_ble_eq_true rfl, Nat.le_of_ble_eq_true rfl⟩) ⟨pz_blind, pz_pre pz_P0 (hK.sub (tys' := []) [] rfl) (pz_D0 (A := fun _ => True)) hN⟩ rfl rfl hl.1 rfl (lv_room (Nat.le_of_ble_eq_true rfl)) dX12_terminal_11 ⟨Nat.le_of_ble_eq_true rfl, Nat.le_of_ble_eq_true rfl⟩) (fun r34 hw35 => ?_)
  obtain ⟨hw35r, hw35p⟩ := hw35
  refine lv_if_eq (tgt := 53) hx hb dX12_terminal_14 (by decide) (fun c36 => ?_) (fun c36 => ?_)
  · have ic36 : r34.toInt = 0 := zi_eq rfl rfl c36
    refine lv_aload_n hx hb dX12_terminal_53 rfl (lv_at hl 0 rfl) ?_
    refine lv_iconst (v := (-1)) hx hb dX12_terminal_54 (by decide) ?_
    refine tpk_pos (tp_in hG ht_h0 (by decide)) g32 (fun q37 eq37 => ?_)
    have hFc := tp_fr hD hS hA
    refine va_calli (va_runV (As := [.int (-1)]) (rest := []) ⟨hx, hb, hml, hown, hts⟩ (t_X12_told l dC dI _ κ τ ν ρ L f30 hG hT h0 ((-1)) ht_h0) (cwV 1 hts gX12_terminal_X12_told rfl rfl rfl ⟨rfl, pd_X12_told⟩ ⟨Nat.le_of_ble_eq_true rfl, Nat.le_of_ble_eq_true rfl⟩) ⟨pz_blind, va_recv hK hP (ci := 12) (q0 := q37) rfl eq37, pz_pre hP hK hD hN⟩ rfl rfl hl.1 rfl (lv_room (Nat.le_of_ble_eq_true rfl)) dX12_terminal_55 ⟨Nat.le_of_ble_eq_true rfl, Nat.le_of_ble_eq_true rfl⟩) hS (fun q _ h => hFc q h) hFc (fun r38 f40 t H1 locs ht hvm hw39 hB hz1 hk1 hS => ?_)
    refine tn_4 hw39 (fun hT hF41 hw39r hw39p => ?_); clear hw39
    have hR := hR.then hF41 (by decide)
    have hP := hB.1; rw [ht] at hP; have hD := tp_ad f40 hD; clear hB hFc hz1 hk1; subst ht; generalize t.heap = H at hP hS ⊢
    have hw39pq : r38.toInt = (-1) := by rw [hw39p]; rfl
    have hf_42 : f40 (ρ h0 2) = .inl (κ 0, 12967, .inl g27) := (hF41 _ (by rw [y1]; decide)).trans hf_33
    exact W.iret (v := r38) hx hb hr (fun t ht hW => ⟨⟨r38, f40, rfl, ⟨hT, hR, trivial, (by rw [hf_42, mo_i1]; exact hI)⟩, by rw [ht]; exact hP, va_K.moved hW.alike hK, hD⟩, hS.F ht⟩) hS.2.2 dX12_terminal_58
  · have ic36 : r34.toInt ≠ 0 := zi_eqf rfl rfl c36
    replace ic36 : 1 ≤ r34.toInt := by omega
    have p43 : (0) ≤ (u.toInt) ∧ (u.toInt) ≤ (500000) := (tp_cond.yes hw35p) (by omega)
    refine lv_iload_n hx hb dX12_terminal_17 rfl (lv_at hl 1 rfl) ?_
    refine lv_i2l hx hb dX12_terminal_18 rfl ?_
    refine lv_lconst (v := 0) hx hb dX12_terminal_19 (by decide) ?_
    refine lv_iload_n hx hb dX12_terminal_20 rfl (lv_at hl 2 rfl) ?_
    refine lv_i2l hx hb dX12_terminal_21 rfl ?_
    refine pz_calli (va_runS (As := [.long v.toInt64, .long 0, .long u.toInt64]) (rest := []) ⟨hx, hb, hml, hown, hts⟩ (t_X12_in l dC dI _ v.toInt64 (0) u.toInt64 (v.toInt) (0) (u.toInt) (Int32.toInt_toInt64 v) rfl (Int32.toInt_toInt64 u)) (va_cwS 3 hts gX12_terminal_X12_in rfl rfl rfl pd_X12_in ⟨Nat.le_of_ble_eq_true rfl, Nat.le_of_ble_eq_true rfl⟩) ⟨pz_blind, pz_pre pz_P0 (hK.sub (tys' := []) [] rfl) (pz_D0 (A := fun _ => True)) hN⟩ rfl rfl hl.1 rfl (lv_room (Nat.le_of_ble_eq_true rfl)) dX12_terminal_22 ⟨Nat.le_of_ble_eq_true rfl, Nat.le_of_ble_eq_true rfl⟩) (fun r44 hw45 => ?_)
    obtain ⟨hw45r, hw45p⟩ := hw45
    refine lv_if_eq (tgt := 53) hx hb dX12_terminal_25 (by decide) (fun c46 => ?_) (fun c46 => ?_)
    · have ic46 : r44.toInt = 0 := zi_eq rfl rfl c46
      refine lv_aload_n hx hb dX12_terminal_53 rfl (lv_at hl 0 rfl) ?_
      refine lv_iconst (v := (-1)) hx hb dX12_terminal_54 (by decide) ?_
      refine tpk_pos (tp_in hG ht_h0 (by decide)) g32 (fun q47 eq47 => ?_)
      have hFc := tp_fr hD hS hA
      refine va_calli (va_runV (As := [.int (-1)]) (rest := []) ⟨hx, hb, hml, hown, hts⟩ (t_X12_told l dC dI _ κ τ ν ρ L f30 hG hT h0 ((-1)) ht_h0) (cwV 1 hts gX12_terminal_X12_told rfl rfl rfl ⟨rfl, pd_X12_told⟩ ⟨Nat.le_of_ble_eq_true rfl, Nat.le_of_ble_eq_true rfl⟩) ⟨pz_blind, va_recv hK hP (ci := 12) (q0 := q47) rfl eq47, pz_pre hP hK hD hN⟩ rfl rfl hl.1 rfl (lv_room (Nat.le_of_ble_eq_true rfl)) dX12_terminal_55 ⟨Nat.le_of_ble_eq_true rfl, Nat.le_of_ble_eq_true rfl⟩) hS (fun q _ h => hFc q h) hFc (fun r48 f50 t H1 locs ht hvm hw49 hB hz1 hk1 hS => ?_)
      refine tn_4 hw49 (fun hT hF51 hw49r hw49p => ?_); clear hw49
      have hR := hR.then hF51 (by decide)
      have hP := hB.1; rw [ht] at hP; have hD := tp_ad f50 hD; clear hB hFc hz1 hk1; subst ht; generalize t.heap = H at hP hS ⊢
      have hw49pq : r48.toInt = (-1) := by rw [hw49p]; rfl
      have hf_52 : f50 (ρ h0 2) = .inl (κ 0, 12967, .inl g27) := (hF51 _ (by rw [y1]; decide)).trans hf_33
      exact W.iret (v := r48) hx hb hr (fun t ht hW => ⟨⟨r48, f50, rfl, ⟨hT, hR, trivial, (by rw [hf_52, mo_i1]; exact hI)⟩, by rw [ht]; exact hP, va_K.moved hW.alike hK, hD⟩, hS.F ht⟩) hS.2.2 dX12_terminal_58
    · have ic46 : r44.toInt ≠ 0 := zi_eqf rfl rfl c46
      replace ic46 : 1 ≤ r44.toInt := by omega
      have p53 : (0) ≤ (v.toInt) ∧ (v.toInt) ≤ (u.toInt) := (tp_cond.yes hw45p) (by omega)
      refine lv_iload_n hx hb dX12_terminal_28 rfl (lv_at hl 3 rfl) ?_
      refine lv_i2l hx hb dX12_terminal_29 rfl ?_
      refine lv_lconst (v := 1) hx hb dX12_terminal_30 (by decide) ?_
      refine lv_ldc2 (own := RX12) (v := 10000) hx hb hown (hts (.constantLong RX12 111 (10000)) wa_211) dX12_terminal_31 ?_
      refine pz_calli (va_runS (As := [.long a.toInt64, .long 1, .long 10000]) (rest := []) ⟨hx, hb, hml, hown, hts⟩ (t_X12_in l dC dI _ a.toInt64 (1) (10000) (a.toInt) (1) (10000) (Int32.toInt_toInt64 a) rfl rfl) (va_cwS 3 hts gX12_terminal_X12_in rfl rfl rfl pd_X12_in ⟨Nat.le_of_ble_eq_true rfl, Nat.le_of_ble_eq_true rfl⟩) ⟨pz_blind, pz_pre pz_P0 (hK.sub (tys' := []) [] rfl) (pz_D0 (A := fun _ => True)) hN⟩ rfl rfl hl.1 rfl (lv_room (Nat.le_of_ble_eq_true rfl)) dX12_terminal_34 ⟨Nat.le_of_ble_eq_true rfl, Nat.le_of_ble_eq_true rfl⟩) (fun r54 hw55 => ?_)
      obtain ⟨hw55r, hw55p⟩ := hw55
      refine lv_if_eq (tgt := 53) hx hb dX12_terminal_37 (by decide) (fun c56 => ?_) (fun c56 => ?_)
      · have ic56 : r54.toInt = 0 := zi_eq rfl rfl c56
        refine lv_aload_n hx hb dX12_terminal_53 rfl (lv_at hl 0 rfl) ?_
        refine lv_iconst (v := (-1)) hx hb dX12_terminal_54 (by decide) ?_
        refine tpk_pos (tp_in hG ht_h0 (by decide)) g32 (fun q57 eq57 => ?_)
        have hFc := tp_fr hD hS hA
        refine va_calli (va_runV (As := [.int (-1)]) (rest := []) ⟨hx, hb, hml, hown, hts⟩ (t_X12_told l dC dI _ κ τ ν ρ L f30 hG hT h0 ((-1)) ht_h0) (cwV 1 hts gX12_terminal_X12_told rfl rfl rfl ⟨rfl, pd_X12_told⟩ ⟨Nat.le_of_ble_eq_true rfl, Nat.le_of_ble_eq_true rfl⟩) ⟨pz_blind, va_recv hK hP (ci := 12) (q0 := q57) rfl eq57, pz_pre hP hK hD hN⟩ rfl rfl hl.1 rfl (lv_room (Nat.le_of_ble_eq_true rfl)) dX12_terminal_55 ⟨Nat.le_of_ble_eq_true rfl, Nat.le_of_ble_eq_true rfl⟩) hS (fun q _ h => hFc q h) hFc (fun r58 f60 t H1 locs ht hvm hw59 hB hz1 hk1 hS => ?_)
        refine tn_4 hw59 (fun hT hF61 hw59r hw59p => ?_); clear hw59
        have hR := hR.then hF61 (by decide)
        have hP := hB.1; rw [ht] at hP; have hD := tp_ad f60 hD; clear hB hFc hz1 hk1; subst ht; generalize t.heap = H at hP hS ⊢
        have hw59pq : r58.toInt = (-1) := by rw [hw59p]; rfl
        have hf_62 : f60 (ρ h0 2) = .inl (κ 0, 12967, .inl g27) := (hF61 _ (by rw [y1]; decide)).trans hf_33
        exact W.iret (v := r58) hx hb hr (fun t ht hW => ⟨⟨r58, f60, rfl, ⟨hT, hR, trivial, (by rw [hf_62, mo_i1]; exact hI)⟩, by rw [ht]; exact hP, va_K.moved hW.alike hK, hD⟩, hS.F ht⟩) hS.2.2 dX12_terminal_58
      · have ic56 : r54.toInt ≠ 0 := zi_eqf rfl rfl c56
        replace ic56 : 1 ≤ r54.toInt := by omega
        have p63 : (1) ≤ (a.toInt) ∧ (a.toInt) ≤ (10000) := (tp_cond.yes hw55p) (by omega)
        refine lv_iload hx hb dX12_terminal_40 (lv_at hl 4 rfl) ?_
        refine lv_i2l hx hb dX12_terminal_42 rfl ?_
        refine lv_lconst (v := 0) hx hb dX12_terminal_43 (by decide) ?_
        refine lv_ldc2 (own := RX12) (v := 30) hx hb hown (hts (.constantLong RX12 113 (30)) wa_212) dX12_terminal_44 ?_
        refine pz_calli (va_runS (As := [.long a4.toInt64, .long 0, .long 30]) (rest := []) ⟨hx, hb, hml, hown, hts⟩ (t_X12_in l dC dI _ a4.toInt64 (0) (30) (a4.toInt) (0) (30) (Int32.toInt_toInt64 a4) rfl rfl) (va_cwS 3 hts gX12_terminal_X12_in rfl rfl rfl pd_X12_in ⟨Nat.le_of_ble_eq_true rfl, Nat.le_of_ble_eq_true rfl⟩) ⟨pz_blind, pz_pre pz_P0 (hK.sub (tys' := []) [] rfl) (pz_D0 (A := fun _ => True)) hN⟩ rfl rfl hl.1 rfl (lv_room (Nat.le_of_ble_eq_true rfl)) dX12_terminal_47 ⟨Nat.le_of_ble_eq_true rfl, Nat.le_of_ble_eq_true rfl⟩) (fun r64 hw65 => ?_)
        obtain ⟨hw65r, hw65p⟩ := hw65
        refine lv_if_ne (tgt := 59) hx hb dX12_terminal_50 (by decide) (fun c66 => ?_) (fun c66 => ?_)
        · have ic66 : r64.toInt ≠ 0 := zi_ne rfl rfl c66
          replace ic66 : 1 ≤ r64.toInt := by omega
          have p67 : (0) ≤ (a4.toInt) ∧ (a4.toInt) ≤ (30) := (tp_cond.yes hw65p) (by omega)
          refine lv_aload_n hx hb dX12_terminal_59 rfl (lv_at hl 0 rfl) ?_
          refine tpk_pos (tp_in hG ht_h0 (by decide)) g32 (fun q68 eq68 => ?_)
          refine va_get (D := (dC, dI)) (ci := 12) (v := .ref (ρ h0 2)) (C := RX12) (T := TX12) (N := 53) hx hb hts hfX12 hown hK hP q68 eq68 rfl 2 (by decide) (hts (.fieldLink RX12 7 "ColdShipsModel" "row" "[I") wa_148) (fun _ h9 => h9) rfl dX12_terminal_60 ?_
          refine lv_iconst (v := 0) hx hb dX12_terminal_63 (by decide) ?_
          refine tpk_pos (tp_in hG y1 (by decide)) hf_33 (fun q69 eq69 => ?_)
          refine va_iald hx hb hK hP q69 0 eq69 rfl (vp_in_iff.mpr ⟨by decide, by decide⟩) dX12_terminal_64 ?_
          refine lv_topi (fun z70 ez70 => ?_)
          have jz70 : z70.toInt = mo_R g27 (0) := mo_rd ez70 (show (0 : Int32).toInt = (0) from by decide)
          have kz70 := hI.k0
          refine lv_bipush (v := 6) hx hb dX12_terminal_65 (by decide) ?_
          refine lv_icmp_ne (tgt := 77) hx hb dX12_terminal_67 (by decide) (fun c71 => ?_) (fun c71 => ?_)
          · have ic71 : z70.toInt ≠ 6 := zi_ne rfl rfl c71
            replace ic71 : z70.toInt ≤ 5 := by omega
            refine lv_aload_n hx hb dX12_terminal_77 rfl (lv_at hl 0 rfl) ?_
            refine va_get (D := (dC, dI)) (ci := 12) (v := .ref (ρ h0 2)) (C := RX12) (T := TX12) (N := 53) hx hb hts hfX12 hown hK hP q68 eq68 rfl 2 (by decide) (hts (.fieldLink RX12 7 "ColdShipsModel" "row" "[I") wa_148) (fun _ h9 => h9) rfl dX12_terminal_78 ?_
            refine lv_iconst (v := 0) hx hb dX12_terminal_81 (by decide) ?_
            refine va_iald hx hb hK hP q69 0 eq69 rfl (vp_in_iff.mpr ⟨by decide, by decide⟩) dX12_terminal_82 ?_
            refine lv_topi (fun z72 ez72 => ?_)
            have jz72 : z72.toInt = mo_R g27 (0) := mo_rd ez72 (show (0 : Int32).toInt = (0) from by decide)
            have kz72 := hI.k0
            have vz72 : z72.toInt = z70.toInt := jz72.trans (jz70).symm
            refine pz_calli (va_runS (As := [.int z72]) (rest := []) ⟨hx, hb, hml, hown, hts⟩ (t_X12_terminalAt l dC dI _ z72 (z72.toInt) (by omega) rfl) (va_cwS 1 hts gX12_terminal_X12_terminalAt rfl rfl rfl pd_X12_terminalAt ⟨Nat.le_of_ble_eq_true rfl, Nat.le_of_ble_eq_true rfl⟩) ⟨pz_blind, pz_pre pz_P0 (hK.sub (tys' := []) [] rfl) (pz_D0 (A := fun _ => True)) hN⟩ rfl rfl hl.1 rfl (lv_room (Nat.le_of_ble_eq_true rfl)) dX12_terminal_83 ⟨Nat.le_of_ble_eq_true rfl, Nat.le_of_ble_eq_true rfl⟩) (fun r73 hw74 => ?_)
            obtain ⟨hw74r, hw74p⟩ := hw74
            refine lv_istore (lv' := [(5, .int r73), (0, .ref h0), (1, .int v), (2, .int u), (3, .int a), (4, .int a4)]) hx hb dX12_terminal_86 hl (by decide) rfl (fun ls hl => ?_)
            refine lv_aload_n hx hb dX12_terminal_88 rfl (lv_at hl 1 rfl) ?_
            refine lv_iload hx hb dX12_terminal_89 (lv_at hl 0 rfl) ?_
            refine lv_iload_n hx hb dX12_terminal_91 rfl (lv_at hl 2 rfl) ?_
            refine lv_iload_n hx hb dX12_terminal_92 rfl (lv_at hl 3 rfl) ?_
            refine lv_iload_n hx hb dX12_terminal_93 rfl (lv_at hl 4 rfl) ?_
            refine lv_iload hx hb dX12_terminal_94 (lv_at hl 5 rfl) ?_
            have hFc := tp_fr hD hS hA
            refine va_callv (va_runV (As := [.int r73, .int v, .int u, .int a, .int a4]) (rest := []) ⟨hx, hb, hml, hown, hts⟩ (t_X12_addFour l dC dI _ κ τ ν ρ L f30 hG hT h0 r73 v u a a4 ht_h0 (by first | decide | omega)) (cwV 5 hts gX12_terminal_X12_addFour rfl rfl rfl ⟨rfl, pd_X12_addFour⟩ ⟨Nat.le_of_ble_eq_true rfl, Nat.le_of_ble_eq_true rfl⟩) ⟨pz_blind, va_recv hK hP (ci := 12) (q0 := q68) rfl eq68, pz_pre hP hK hD hN⟩ rfl rfl hl.1 rfl (lv_room (Nat.le_of_ble_eq_true rfl)) dX12_terminal_96 ⟨Nat.le_of_ble_eq_true rfl, Nat.le_of_ble_eq_true rfl⟩) hS (fun q _ h => hFc q h) hFc (fun f77 t H1 locs ht hvm hw76 hB hz1 hk1 hS => ?_)
            refine tn_3 hw76 (fun hT hF78 hw76p => ?_); clear hw76
            have hR := hR.then hF78 (by decide)
            have hP := hB.1; rw [ht] at hP; have hD := tp_ad f77 hD; clear hB hFc hz1 hk1; subst ht; generalize t.heap = H at hP hS ⊢
            rw [hf_33, mo_i1] at hw76p
            obtain ⟨Q1_78, Q2_78, Q3_78, u1_78, u2_78, u3_78, u4_78⟩ := hw76p
            refine tpk_32 hT y1 (fun g80 hf_o79 => ?_)
            rw [hf_o79, mo_i1] at u4_78
            have hU : mo_U (mo_R g27) (Q1_78) (20 + 5 * z70.toInt + 0) (v.toInt) := by have q9 := u1_78; rw [show r73.toInt = (20 + 5 * z70.toInt + 0) by omega] at q9; exact q9
            have hI := mo_w_term hI hU z70.toInt 0 (by omega) (by omega) (by omega)
            have pn81 : Q1_78 (0) = z70.toInt := (hU.ne (by omega) (by omega)).trans (jz70).symm
            have hU : mo_U (Q1_78) (Q2_78) (20 + 5 * z70.toInt + 1) (u.toInt) := by have q9 := u2_78; rw [show r73.toInt + 1 = (20 + 5 * z70.toInt + 1) by omega] at q9; exact q9
            have hI := mo_w_term hI hU z70.toInt 1 (by omega) (by omega) (by omega)
            have pn82 : Q2_78 (0) = z70.toInt := (hU.ne (by omega) (by omega)).trans pn81
            have hU : mo_U (Q2_78) (Q3_78) (20 + 5 * z70.toInt + 2) (a.toInt) := by have q9 := u3_78; rw [show r73.toInt + 2 = (20 + 5 * z70.toInt + 2) by omega] at q9; exact q9
            have hI := mo_w_term hI hU z70.toInt 2 (by omega) (by omega) (by omega)
            have pn83 : Q3_78 (0) = z70.toInt := (hU.ne (by omega) (by omega)).trans pn82
            have pn84 : Q3_78 (20 + 5 * z70.toInt + 2) = a.toInt := hU.eq (by omega)
            have hU : mo_U (Q3_78) (mo_R g80) (20 + 5 * z70.toInt + 3) (a4.toInt) := by have q9 := u4_78; rw [show r73.toInt + 3 = (20 + 5 * z70.toInt + 3) by omega] at q9; exact q9
            have hI := mo_w_term hI hU z70.toInt 3 (by omega) (by omega) (by omega)
            have pn85 : mo_R g80 (0) = z70.toInt := (hU.ne (by omega) (by omega)).trans pn83
            have pn86 : mo_R g80 (20 + 5 * z70.toInt + 2) = a.toInt := (hU.ne (by omega) (by omega)).trans pn84
            refine lv_aload_n hx hb dX12_terminal_99 rfl (lv_at hl 1 rfl) ?_
            have hf_87 : f77 h0 = .inr (12, [.int 0, .int o28_x1, .ref (ρ h0 2), .ref (ρ h0 3), .ref (ρ h0 4), .ref (ρ h0 5), .ref (ρ h0 6), .int o28_x7, .ref (ρ h0 8), .int o28_x9, .int o28_x10, .int o28_x11, .int o28_x12, .long o28_x13, .int o28_x14, .int o28_x15, .int o28_x16, .int o28_x17, .int o28_x18, .int o28_x19, .int o28_x20, .ref (ρ h0 21), .int o28_x22, .ref (ρ h0 23), .ref (ρ h0 24), .int o28_x25, .ref (ρ h0 26), .ref (ρ h0 27), .int o28_x28, .int o28_x29, .ref (ρ h0 30), .ref (ρ h0 31), .int o28_x32, .long o28_x33, .long o28_x34, .long o28_x35, .int o28_x36, .int o28_x37, .int o28_x38, .ref (ρ h0 39), .ref (ρ h0 40), .ref (ρ h0 41), .ref (ρ h0 42), .ref (ρ h0 43), .ref (ρ h0 44), .ref (ρ h0 45), .ref (ρ h0 46), .int o28_x47, .int o28_x48, .ref (ρ h0 49), .ref (ρ h0 50), .ref (ρ h0 51), .ref (ρ h0 52)]) := (hF78 _ (by rw [ht_h0]; decide)).trans g32
            refine tpk_pos (tp_in hG ht_h0 (by decide)) hf_87 (fun q88 eq88 => ?_)
            refine va_get (D := (dC, dI)) (ci := 12) (v := .ref (ρ h0 2)) (C := RX12) (T := TX12) (N := 53) hx hb hts hfX12 hown hK hP q88 eq88 rfl 2 (by decide) (hts (.fieldLink RX12 7 "ColdShipsModel" "row" "[I") wa_148) (fun _ h9 => h9) rfl dX12_terminal_100 ?_
            refine lv_iload hx hb dX12_terminal_103 (lv_at hl 0 rfl) ?_
            refine lv_iconst (v := 4) hx hb dX12_terminal_105 (by decide) ?_
            refine lv_iadd hx hb dX12_terminal_106 ?_
            refine lv_topi (fun z89 ez89 => ?_)
            have iz89 : z89.toInt = r73.toInt + 4 := zi_add ez89 rfl rfl (by omega) (by omega)
            refine lv_sipush (v := 1000) hx hb dX12_terminal_107 (by decide) ?_
            refine tpk_pos (tp_in hG y1 (by decide)) hf_o79 (fun q90 eq90 => ?_)
            refine va_iast hx hb hK hP hD hS q90 0 eq90 rfl (vp_in_iff.mpr ⟨by omega, by omega⟩) dX12_terminal_110 (tp_k (.inl (κ 0, 12967, .inl (upd g80 z89.toNatClampNeg (1000 : Int32)))) hD (tp_in hG y1 (by decide)) eq90 (fun f91 H locs hP hD hS g93 k92 => ?_))
            have hT := hT.up y1 g93 k92 tp_o32
            have hR := hR.up y1 (by decide) k92
            have hU : mo_U (mo_R g80) (mo_R (upd g80 z89.toNatClampNeg (1000 : Int32))) (20 + 5 * z70.toInt + 4) (1000) := mo_up (by omega) (show (1000 : Int32).toInt = 1000 from rfl) (by omega)
            generalize (upd g80 z89.toNatClampNeg (1000 : Int32)) = g94 at g93 hU
            have hI := mo_w_term hI hU z70.toInt 4 (by omega) (by omega) (by omega)
            have pn95 : mo_R g94 (0) = z70.toInt := (hU.ne (by omega) (by omega)).trans pn85
            have pn96 : mo_R g94 (20 + 5 * z70.toInt + 2) = a.toInt := (hU.ne (by omega) (by omega)).trans pn86
            refine lv_aload_n hx hb dX12_terminal_111 rfl (lv_at hl 1 rfl) ?_
            have hf_97 : f91 h0 = .inr (12, [.int 0, .int o28_x1, .ref (ρ h0 2), .ref (ρ h0 3), .ref (ρ h0 4), .ref (ρ h0 5), .ref (ρ h0 6), .int o28_x7, .ref (ρ h0 8), .int o28_x9, .int o28_x10, .int o28_x11, .int o28_x12, .long o28_x13, .int o28_x14, .int o28_x15, .int o28_x16, .int o28_x17, .int o28_x18, .int o28_x19, .int o28_x20, .ref (ρ h0 21), .int o28_x22, .ref (ρ h0 23), .ref (ρ h0 24), .int o28_x25, .ref (ρ h0 26), .ref (ρ h0 27), .int o28_x28, .int o28_x29, .ref (ρ h0 30), .ref (ρ h0 31), .int o28_x32, .long o28_x33, .long o28_x34, .long o28_x35, .int o28_x36, .int o28_x37, .int o28_x38, .ref (ρ h0 39), .ref (ρ h0 40), .ref (ρ h0 41), .ref (ρ h0 42), .ref (ρ h0 43), .ref (ρ h0 44), .ref (ρ h0 45), .ref (ρ h0 46), .int o28_x47, .int o28_x48, .ref (ρ h0 49), .ref (ρ h0 50), .ref (ρ h0 51), .ref (ρ h0 52)]) := (k92 _ (tp_ne ht_h0 y1 (by decide))).trans hf_87
            refine tpk_pos (tp_in hG ht_h0 (by decide)) hf_97 (fun q98 eq98 => ?_)
            refine va_get (D := (dC, dI)) (ci := 12) (v := .ref (ρ h0 2)) (C := RX12) (T := TX12) (N := 53) hx hb hts hfX12 hown hK hP q98 eq98 rfl 2 (by decide) (hts (.fieldLink RX12 7 "ColdShipsModel" "row" "[I") wa_148) (fun _ h9 => h9) rfl dX12_terminal_112 ?_
            refine lv_iconst (v := 0) hx hb dX12_terminal_115 (by decide) ?_
            refine lv_dup2_11 hx hb dX12_terminal_116 rfl rfl ?_
            refine tpk_pos (tp_in hG y1 (by decide)) g93 (fun q99 eq99 => ?_)
            refine va_iald hx hb hK hP q99 0 eq99 rfl (vp_in_iff.mpr ⟨by decide, by decide⟩) dX12_terminal_117 ?_
            refine lv_topi (fun z100 ez100 => ?_)
            have jz100 : z100.toInt = mo_R g94 (0) := mo_rd ez100 (show (0 : Int32).toInt = (0) from by decide)
            have kz100 := hI.k0
            have vz100 : z100.toInt = z70.toInt := jz100.trans pn95
            refine lv_iconst (v := 1) hx hb dX12_terminal_118 (by decide) ?_
            refine lv_iadd hx hb dX12_terminal_119 ?_
            refine lv_topi (fun z101 ez101 => ?_)
            have iz101 : z101.toInt = z100.toInt + 1 := zi_add ez101 rfl rfl (by omega) (by omega)
            refine va_iast hx hb hK hP hD hS q99 0 eq99 rfl (vp_in_iff.mpr ⟨by decide, by decide⟩) dX12_terminal_120 (tp_k (.inl (κ 0, 12967, .inl (upd g94 (0 : Int32).toNatClampNeg z101))) hD (tp_in hG y1 (by decide)) eq99 (fun f102 H locs hP hD hS g104 k103 => ?_))
            have hT := hT.up y1 g104 k103 tp_o32
            have hR := hR.up y1 (by decide) k103
            have hU : mo_U (mo_R g94) (mo_R (upd g94 (0 : Int32).toNatClampNeg z101)) (0) (z101.toInt) := mo_up (show (0 : Int32).toInt = (0) from by decide) (rfl : z101.toInt = _) (by omega)
            generalize (upd g94 (0 : Int32).toNatClampNeg z101) = g105 at g104 hU
            have hI := mo_w_nT hI hU (z70.toInt) rfl pn95 (by omega) (by omega)
            have pn106 : mo_R g105 (20 + 5 * z70.toInt + 2) = a.toInt := (hU.ne (by omega) (by omega)).trans pn96
            have pn107 : mo_R g105 (0) = z101.toInt := hU.eq (by omega)
            refine lv_aload_n hx hb dX12_terminal_121 rfl (lv_at hl 1 rfl) ?_
            refine lv_aload_n hx hb dX12_terminal_122 rfl (lv_at hl 1 rfl) ?_
            have hf_108 : f102 h0 = .inr (12, [.int 0, .int o28_x1, .ref (ρ h0 2), .ref (ρ h0 3), .ref (ρ h0 4), .ref (ρ h0 5), .ref (ρ h0 6), .int o28_x7, .ref (ρ h0 8), .int o28_x9, .int o28_x10, .int o28_x11, .int o28_x12, .long o28_x13, .int o28_x14, .int o28_x15, .int o28_x16, .int o28_x17, .int o28_x18, .int o28_x19, .int o28_x20, .ref (ρ h0 21), .int o28_x22, .ref (ρ h0 23), .ref (ρ h0 24), .int o28_x25, .ref (ρ h0 26), .ref (ρ h0 27), .int o28_x28, .int o28_x29, .ref (ρ h0 30), .ref (ρ h0 31), .int o28_x32, .long o28_x33, .long o28_x34, .long o28_x35, .int o28_x36, .int o28_x37, .int o28_x38, .ref (ρ h0 39), .ref (ρ h0 40), .ref (ρ h0 41), .ref (ρ h0 42), .ref (ρ h0 43), .ref (ρ h0 44), .ref (ρ h0 45), .ref (ρ h0 46), .int o28_x47, .int o28_x48, .ref (ρ h0 49), .ref (ρ h0 50), .ref (ρ h0 51), .ref (ρ h0 52)]) := (k103 _ (tp_ne ht_h0 y1 (by decide))).trans hf_97
            refine tpk_pos (tp_in hG ht_h0 (by decide)) hf_108 (fun q109 eq109 => ?_)
            refine va_get (D := (dC, dI)) (ci := 12) (v := .ref (ρ h0 2)) (C := RX12) (T := TX12) (N := 53) hx hb hts hfX12 hown hK hP q109 eq109 rfl 2 (by decide) (hts (.fieldLink RX12 7 "ColdShipsModel" "row" "[I") wa_148) (fun _ h9 => h9) rfl dX12_terminal_123 ?_
            refine lv_iconst (v := 0) hx hb dX12_terminal_126 (by decide) ?_
            refine tpk_pos (tp_in hG y1 (by decide)) g104 (fun q110 eq110 => ?_)
            refine va_iald hx hb hK hP q110 0 eq110 rfl (vp_in_iff.mpr ⟨by decide, by decide⟩) dX12_terminal_127 ?_
            refine lv_topi (fun z111 ez111 => ?_)
            have jz111 : z111.toInt = mo_R g105 (0) := mo_rd ez111 (show (0 : Int32).toInt = (0) from by decide)
            have kz111 := hI.k0
            have vz111 : z111.toInt = z101.toInt := jz111.trans pn107
            refine lv_iconst (v := 1) hx hb dX12_terminal_128 (by decide) ?_
            refine lv_isub hx hb dX12_terminal_129 ?_
            refine lv_topi (fun z112 ez112 => ?_)
            have iz112 : z112.toInt = z111.toInt - 1 := zi_sub ez112 rfl rfl (by omega) (by omega)
            have hFc := tp_fr hD hS hA
            refine va_calli (va_runV (As := [.int z112]) (rest := []) ⟨hx, hb, hml, hown, hts⟩ (t_X12_told l dC dI _ κ τ ν ρ L f102 hG hT h0 z112 ht_h0) (cwV 1 hts gX12_terminal_X12_told rfl rfl rfl ⟨rfl, pd_X12_told⟩ ⟨Nat.le_of_ble_eq_true rfl, Nat.le_of_ble_eq_true rfl⟩) ⟨pz_blind, va_recv hK hP (ci := 12) (q0 := q109) rfl eq109, pz_pre hP hK hD hN⟩ rfl rfl hl.1 rfl (lv_room (Nat.le_of_ble_eq_true rfl)) dX12_terminal_130 ⟨Nat.le_of_ble_eq_true rfl, Nat.le_of_ble_eq_true rfl⟩) hS (fun q _ h => hFc q h) hFc (fun r113 f115 t H1 locs ht hvm hw114 hB hz1 hk1 hS => ?_)
            refine tn_4 hw114 (fun hT hF116 hw114r hw114p => ?_); clear hw114
            have hR := hR.then hF116 (by decide)
            have hP := hB.1; rw [ht] at hP; have hD := tp_ad f115 hD; clear hB hFc hz1 hk1; subst ht; generalize t.heap = H at hP hS ⊢
            have hw114pq : r113.toInt = z112.toInt := by rw [hw114p]
            have hf_117 : f115 (ρ h0 2) = .inl (κ 0, 12967, .inl g105) := (hF116 _ (by rw [y1]; decide)).trans g104
            exact W.iret (v := r113) hx hb hr (fun t ht hW => ⟨⟨r113, f115, rfl, ⟨hT, hR, trivial, (by rw [hf_117, mo_i1]; exact hI)⟩, by rw [ht]; exact hP, va_K.moved hW.alike hK, hD⟩, hS.F ht⟩) hS.2.2 dX12_terminal_133
          · have ic71 : z70.toInt = 6 := zi_nef rfl rfl c71
            refine lv_aload_n hx hb dX12_terminal_70 rfl (lv_at hl 0 rfl) ?_
            refine lv_bipush (v := (-5)) hx hb dX12_terminal_71 (by decide) ?_
            have hFc := tp_fr hD hS hA
            refine va_calli (va_runV (As := [.int (-5)]) (rest := []) ⟨hx, hb, hml, hown, hts⟩ (t_X12_told l dC dI _ κ τ ν ρ L f30 hG hT h0 ((-5)) ht_h0) (cwV 1 hts gX12_terminal_X12_told rfl rfl rfl ⟨rfl, pd_X12_told⟩ ⟨Nat.le_of_ble_eq_true rfl, Nat.le_of_ble_eq_true rfl⟩) ⟨pz_blind, va_recv hK hP (ci := 12) (q0 := q68) rfl eq68, pz_pre hP hK hD hN⟩ rfl rfl hl.1 rfl (lv_room (Nat.le_of_ble_eq_true rfl)) dX12_terminal_73 ⟨Nat.le_of_ble_eq_true rfl, Nat.le_of_ble_eq_true rfl⟩) hS (fun q _ h => hFc q h) hFc (fun r118 f120 t H1 locs ht hvm hw119 hB hz1 hk1 hS => ?_)
            refine tn_4 hw119 (fun hT hF121 hw119r hw119p => ?_); clear hw119
            have hR := hR.then hF121 (by decide)
            have hP := hB.1; rw [ht] at hP; have hD := tp_ad f120 hD; clear hB hFc hz1 hk1; subst ht; generalize t.heap = H at hP hS ⊢
            have hw119pq : r118.toInt = (-5) := by rw [hw119p]; rfl
            have hf_122 : f120 (ρ h0 2) = .inl (κ 0, 12967, .inl g27) := (hF121 _ (by rw [y1]; decide)).trans hf_33
            exact W.iret (v := r118) hx hb hr (fun t ht hW => ⟨⟨r118, f120, rfl, ⟨hT, hR, trivial, (by rw [hf_122, mo_i1]; exact hI)⟩, by rw [ht]; exact hP, va_K.moved hW.alike hK, hD⟩, hS.F ht⟩) hS.2.2 dX12_terminal_76
        · have ic66 : r64.toInt = 0 := zi_nef rfl rfl c66
          refine lv_aload_n hx hb dX12_terminal_53 rfl (lv_at hl 0 rfl) ?_
          refine lv_iconst (v := (-1)) hx hb dX12_terminal_54 (by decide) ?_
          refine tpk_pos (tp_in hG ht_h0 (by decide)) g32 (fun q123 eq123 => ?_)
          have hFc := tp_fr hD hS hA
          refine va_calli (va_runV (As := [.int (-1)]) (rest := []) ⟨hx, hb, hml, hown, hts⟩ (t_X12_told l dC dI _ κ τ ν ρ L f30 hG hT h0 ((-1)) ht_h0) (cwV 1 hts gX12_terminal_X12_told rfl rfl rfl ⟨rfl, pd_X12_told⟩ ⟨Nat.le_of_ble_eq_true rfl, Nat.le_of_ble_eq_true rfl⟩) ⟨pz_blind, va_recv hK hP (ci := 12) (q0 := q123) rfl eq123, pz_pre hP hK hD hN⟩ rfl rfl hl.1 rfl (lv_room (Nat.le_of_ble_eq_true rfl)) dX12_terminal_55 ⟨Nat.le_of_ble_eq_true rfl, Nat.le_of_ble_eq_true rfl⟩) hS (fun q _ h => hFc q h) hFc (fun r124 f126 t H1 locs ht hvm hw125 hB hz1 hk1 hS => ?_)
          refine tn_4 hw125 (fun hT hF127 hw125r hw125p => ?_); clear hw125
          have hR := hR.then hF127 (by decide)
          have hP := hB.1; rw [ht] at hP; have hD := tp_ad f126 hD; clear hB hFc hz1 hk1; subst ht; generalize t.heap = H at hP hS ⊢
          have hw125pq : r124.toInt = (-1) := by rw [hw125p]; rfl
          have hf_128 : f126 (ρ h0 2) = .inl (κ 0, 12967, .inl g27) := (hF127 _ (by rw [y1]; decide)).trans hf_33
          exact W.iret (v := r124) hx hb hr (fun t ht hW => ⟨⟨r124, f126, rfl, ⟨hT, hR, trivial, (by rw [hf_128, mo_i1]; exact hI)⟩, by rw [ht]; exact hP, va_K.moved hW.alike hK, hD⟩, hS.F ht⟩) hS.2.2 dX12_terminal_58
set_option maxHeartbeats 4000000 in
set_option maxRecDepth 100000 in
theorem t_X12_ship (l : Launch) (dC : Nat → ClassId) (dI : Nat → Nat → Nat) (sz : Nat) (κ : Nat → ClassId) (τ ν : Nat → Nat) (ρ : Nat → Nat → Nat) (L : List Nat) (f : Nat → va_E) (hG : tp_G τ ν ρ L) (hT : tp_T (mo_O κ) κ τ ν ρ f) (h0 : Nat) (v : Int32) (u : Int32) (a : Int32) (ht_h0 : τ h0 = 13) (hJ : mo_RI (-1) 0 (mo_R (mo_i (f (ρ h0 2))))) : Met l yX12_ship wqX12_ship ({ frames := 4, cells := 0, slots := 0, locals := 1200 }) (va_Pc [.ref h0, .int v, .int u, .int a] (pz_B dC dI (tp_K κ) (va_pl L f) sz)) (va_Qi (fun (r : Int32) (f1 : Nat → va_E) => tp_T (mo_O κ) κ τ ν ρ f1 ∧ tp_F τ [13, 32] f f1 ∧ True ∧ mo_RI (-1) 0 (mo_R (mo_i (f1 (ρ h0 2))))) (fun (f1 : Nat → va_E) (t : State) => pz_E dC dI (tp_K κ) (va_A (va_pl L f) sz) (va_pl L f1) t) (va_A (va_pl L f) sz)) 0 0 (va_A (va_pl L f) sz) := by
  refine Met.ofW (cc := cX12_ship) (maxL := 6) (ret := some .int) (by decide) rfl ?_
  intro p e s m args below meth c s₁ B hml hv
  obtain ⟨rfl, hsz, hP, hK, hD0, hN⟩ := hv
  have hx := B.exec
  have hb := B.bytes
  have hr := B.returns
  have hts := fun (w : Cond) (h : w ∈ WALL) => atoms_spec (ws := wqX12_ship) B.pre w (List.mem_cons_of_mem _ h)
  have hown : s.vm.findClass RX12 = some m.cls := findClass_of_methodNamed B.named
  have hlocks := B.notSynchronized
  subst hsz
  have hD := hD0.self (sz := s.heap.size)
  generalize hAe : va_A (va_pl L f) s.heap.size = A at hD ⊢
  have hA : ∀ q : Nat, s.heap.size ≤ q → A q := fun q h => by rw [← hAe]; exact Or.inr h
  have hS : va_S A s.heap s.heap [] := va_S.rf
  have hR : tp_F τ [13, 32] f f := tp_F.rf
  have hl := lv_entry ([.ref h0, .int v, .int u, .int a]) (n := 6) (Nat.le_of_ble_eq_true rfl)
  rw [lg_entry_eq]
  generalize (lg_sl ([.ref h0, .int v, .int u, .int a]) ++ List.replicate (6 - (lg_sl ([.ref h0, .int v, .int u, .int a])).length) Slot.unset).toArray = ls at hl ⊢
  have hl : lv_has ls 6 [(0, .ref h0), (1, .int v), (2, .int u), (3, .int a)] := hl
  refine tgk_13 hG ht_h0 (fun y1 y2 y3 y4 y5 y6 y7 y8 y9 y10 y11 y12 y13 y14 y15 y16 y17 y18 y19 y20 y21 y22 y23 y24 y25 => ?_)
  refine tpk_32 hT y1 (fun g27 hf_o26 => ?_)
  have hI : mo_RI (-1) 0 (mo_R g27) := by have q9 := hJ; rw [hf_o26, mo_i1] at q9; exact q9
  refine lv_aload_n hx hb dX12_ship_0 rfl (lv_at hl 0 rfl) ?_
  refine lv_iconst (v := 0) hx hb dX12_ship_1 (by decide) ?_
  refine tpk_13 hT ht_h0 (fun o28_x0 o28_x1 o28_x7 o28_x9 o28_x10 o28_x11 o28_x12 o28_x13 o28_x14 o28_x15 o28_x16 o28_x17 o28_x18 o28_x19 o28_x20 o28_x22 o28_x25 o28_x28 o28_x29 o28_x32 o28_x33 o28_x34 o28_x35 o28_x36 o28_x37 o28_x38 o28_x47 o28_x48 hf_o28 ro28_0 ro28_1 ro28_2 ro28_3 ro28_4 ro28_5 ro28_6 ro28_7 ro28_8 ro28_9 ro28_10 ro28_11 ro28_12 ro28_13 => ?_)
  refine tpk_pos (tp_in hG ht_h0 (by decide)) hf_o28 (fun q29 eq29 => ?_)
  refine va_put (D := (dC, dI)) (ci := 12) (v := .int 0) (ty := .int) (C := RX12) (T := TX12) (N := 53) hx hb hts hfX12 tyX12 tyX12_ok nmX12 hown hK hP hD hS q29 eq29 rfl 0 (by decide) (hts (.fieldLink RX12 91 "ColdShipsModel" "thrown" "I") wa_209) (fun _ h9 => h9) rfl (tyX12_ok 0 (by decide)) rfl rfl (Nat.le_of_ble_eq_true rfl) dX12_ship_2 (tp_k (.inr (12, [.int 0, .int o28_x1, .ref (ρ h0 2), .ref (ρ h0 3), .ref (ρ h0 4), .ref (ρ h0 5), .ref (ρ h0 6), .int o28_x7, .ref (ρ h0 8), .int o28_x9, .int o28_x10, .int o28_x11, .int o28_x12, .long o28_x13, .int o28_x14, .int o28_x15, .int o28_x16, .int o28_x17, .int o28_x18, .int o28_x19, .int o28_x20, .ref (ρ h0 21), .int o28_x22, .ref (ρ h0 23), .ref (ρ h0 24), .int o28_x25, .ref (ρ h0 26), .ref (ρ h0 27), .int o28_x28, .int o28_x29, .ref (ρ h0 30), .ref (ρ h0 31), .int o28_x32, .long o28_x33, .long o28_x34, .long o28_x35, .int o28_x36, .int o28_x37, .int o28_x38, .ref (ρ h0 39), .ref (ρ h0 40), .ref (ρ h0 41), .ref (ρ h0 42), .ref (ρ h0 43), .ref (ρ h0 44), .ref (ρ h0 45), .ref (ρ h0 46), .int o28_x47, .int o28_x48, .ref (ρ h0 49), .ref (ρ h0 50), .ref (ρ h0 51), .ref (ρ h0 52)])) hD (tp_in hG ht_h0 (by decide)) eq29 (fun f30 H locs hP hD hS g32 k31 => ?_))
  have hT := hT.up ht_h0 g32 k31 ⟨_, _, _, _, _, _, _, _, _, _, _, _, _, _, _, _, _, _, _, _, _, _, _, _, _, _, _, _, rfl, ro28_0, ro28_1, ro28_2, ro28_3, ro28_4, ro28_5, ro28_6, ro28_7, ro28_8, ro28_9, ro28_10, ro28_11, ro28_12, ro28_13⟩
  have hR := hR.up ht_h0 (by decide) k31
  refine lv_iload_n hx hb dX12_ship_5 rfl (lv_at hl 2 rfl) ?_
  refine lv_i2l hx hb dX12_ship_6 rfl ?_
  refine lv_ldc2 (own := RX12) (v := 1000) hx hb hown (hts (.constantLong RX12 122 (1000)) wa_271) dX12_ship_7 ?_
  refine lv_ldc2 (own := RX12) (v := 200000) hx hb hown (hts (.constantLong RX12 124 (200000)) wa_272) dX12_ship_10 ?_
  have hf_33 : f30 (ρ h0 2) = .inl (κ 0, 12967, .inl g27) := (k31 _ (tp_ne y1 ht_h0 (by decide))).trans hf_o26
  refine pz_calli (va_runS (As := [.long u.toInt64, .long 1000, .long 200000]) (rest := []) ⟨hx, hb, hml, hown, hts⟩ (t_X12_in l dC dI _ u.toInt64 (1000) (200000) (u.toInt) (1000) (200000) (Int32.toInt_toInt64 u) rfl rfl) (va_cwS 3 hts gX12_ship_X12_in rfl rfl rfl pd_X12_in ⟨Nat.le_of_ble_eq_true rfl, Nat.le_of_ble_eq_true rfl⟩) ⟨pz_blind, pz_pre pz_P0 (hK.sub (tys' := []) [] rfl) (pz_D0 (A := fun _ => True)) hN⟩ rfl rfl hl.1 rfl (lv_room (Nat.le_of_ble_eq_true rfl)) dX12_ship_13 ⟨Nat.le_of_ble_eq_true rfl, Nat.le_of_ble_eq_true rfl⟩) (fun r34 hw35 => ?_)
  obtain ⟨hw35r, hw35p⟩ := hw35
  refine lv_if_eq (tgt := 31) hx hb dX12_ship_16 (by decide) (fun c36 => ?_) (fun c36 => ?_)
  · have ic36 : r34.toInt = 0 := zi_eq rfl rfl c36
    refine lv_aload_n hx hb dX12_ship_31 rfl (lv_at hl 0 rfl) ?_
    refine lv_iconst (v := (-1)) hx hb dX12_ship_32 (by decide) ?_
    refine tpk_pos (tp_in hG ht_h0 (by decide)) g32 (fun q37 eq37 => ?_)
    have hFc := tp_fr hD hS hA
    refine va_calli (va_runV (As := [.int (-1)]) (rest := []) ⟨hx, hb, hml, hown, hts⟩ (t_X12_told l dC dI _ κ τ ν ρ L f30 hG hT h0 ((-1)) ht_h0) (cwV 1 hts gX12_ship_X12_told rfl rfl rfl ⟨rfl, pd_X12_told⟩ ⟨Nat.le_of_ble_eq_true rfl, Nat.le_of_ble_eq_true rfl⟩) ⟨pz_blind, va_recv hK hP (ci := 12) (q0 := q37) rfl eq37, pz_pre hP hK hD hN⟩ rfl rfl hl.1 rfl (lv_room (Nat.le_of_ble_eq_true rfl)) dX12_ship_33 ⟨Nat.le_of_ble_eq_true rfl, Nat.le_of_ble_eq_true rfl⟩) hS (fun q _ h => hFc q h) hFc (fun r38 f40 t H1 locs ht hvm hw39 hB hz1 hk1 hS => ?_)
    refine tn_4 hw39 (fun hT hF41 hw39r hw39p => ?_); clear hw39
    have hR := hR.then hF41 (by decide)
    have hP := hB.1; rw [ht] at hP; have hD := tp_ad f40 hD; clear hB hFc hz1 hk1; subst ht; generalize t.heap = H at hP hS ⊢
    have hw39pq : r38.toInt = (-1) := by rw [hw39p]; rfl
    have hf_42 : f40 (ρ h0 2) = .inl (κ 0, 12967, .inl g27) := (hF41 _ (by rw [y1]; decide)).trans hf_33
    exact W.iret (v := r38) hx hb hr (fun t ht hW => ⟨⟨r38, f40, rfl, ⟨hT, hR, trivial, (by rw [hf_42, mo_i1]; exact hI)⟩, by rw [ht]; exact hP, va_K.moved hW.alike hK, hD⟩, hS.F ht⟩) hS.2.2 dX12_ship_36
  · have ic36 : r34.toInt ≠ 0 := zi_eqf rfl rfl c36
    replace ic36 : 1 ≤ r34.toInt := by omega
    have p43 : (1000) ≤ (u.toInt) ∧ (u.toInt) ≤ (200000) := (tp_cond.yes hw35p) (by omega)
    refine lv_iload_n hx hb dX12_ship_19 rfl (lv_at hl 3 rfl) ?_
    refine lv_i2l hx hb dX12_ship_20 rfl ?_
    refine lv_lconst (v := 1) hx hb dX12_ship_21 (by decide) ?_
    refine lv_ldc2 (own := RX12) (v := 50) hx hb hown (hts (.constantLong RX12 126 (50)) wa_273) dX12_ship_22 ?_
    refine pz_calli (va_runS (As := [.long a.toInt64, .long 1, .long 50]) (rest := []) ⟨hx, hb, hml, hown, hts⟩ (t_X12_in l dC dI _ a.toInt64 (1) (50) (a.toInt) (1) (50) (Int32.toInt_toInt64 a) rfl rfl) (va_cwS 3 hts gX12_ship_X12_in rfl rfl rfl pd_X12_in ⟨Nat.le_of_ble_eq_true rfl, Nat.le_of_ble_eq_true rfl⟩) ⟨pz_blind, pz_pre pz_P0 (hK.sub (tys' := []) [] rfl) (pz_D0 (A := fun _ => True)) hN⟩ rfl rfl hl.1 rfl (lv_room (Nat.le_of_ble_eq_true rfl)) dX12_ship_25 ⟨Nat.le_of_ble_eq_true rfl, Nat.le_of_ble_eq_true rfl⟩) (fun r44 hw45 => ?_)
    obtain ⟨hw45r, hw45p⟩ := hw45
    refine lv_if_ne (tgt := 37) hx hb dX12_ship_28 (by decide) (fun c46 => ?_) (fun c46 => ?_)
    · have ic46 : r44.toInt ≠ 0 := zi_ne rfl rfl c46
      replace ic46 : 1 ≤ r44.toInt := by omega
      have p47 : (1) ≤ (a.toInt) ∧ (a.toInt) ≤ (50) := (tp_cond.yes hw45p) (by omega)
      refine lv_aload_n hx hb dX12_ship_37 rfl (lv_at hl 0 rfl) ?_
      refine lv_iload_n hx hb dX12_ship_38 rfl (lv_at hl 1 rfl) ?_
      refine tpk_pos (tp_in hG ht_h0 (by decide)) g32 (fun q48 eq48 => ?_)
      refine pz_calli (va_runV (As := [.int v]) (rest := []) ⟨hx, hb, hml, hown, hts⟩ (t_X12_isTerminal l dC dI _ κ τ ν ρ L f30 hG hT h0 v (-1) 0 ht_h0 (by omega) (by rw [hf_33, mo_i1]; exact hI)) (cwV 1 hts gX12_ship_X12_isTerminal rfl rfl rfl ⟨rfl, pd_X12_isTerminal⟩ ⟨Nat.le_of_ble_eq_true rfl, Nat.le_of_ble_eq_true rfl⟩) ⟨pz_blind, va_recv hK hP (ci := 12) (q0 := q48) rfl eq48, pz_pre hP hK hD hN⟩ rfl rfl hl.1 rfl (lv_room (Nat.le_of_ble_eq_true rfl)) dX12_ship_39 ⟨Nat.le_of_ble_eq_true rfl, Nat.le_of_ble_eq_true rfl⟩) (fun r49 hw50 => ?_)
      obtain ⟨hw50r, hw50p⟩ := hw50
      have := hI.k0
      rw [hf_33, mo_i1] at hw50p
      refine lv_if_ne (tgt := 52) hx hb dX12_ship_42 (by decide) (fun c51 => ?_) (fun c51 => ?_)
      · have ic51 : r49.toInt ≠ 0 := zi_ne rfl rfl c51
        replace ic51 : 1 ≤ r49.toInt := by omega
        have p52 : 0 ≤ v.toInt ∧ v.toInt < mo_R g27 0 := (tp_cond.yes hw50p) (by omega)
        refine lv_aload_n hx hb dX12_ship_52 rfl (lv_at hl 0 rfl) ?_
        refine va_get (D := (dC, dI)) (ci := 12) (v := .ref (ρ h0 2)) (C := RX12) (T := TX12) (N := 53) hx hb hts hfX12 hown hK hP q48 eq48 rfl 2 (by decide) (hts (.fieldLink RX12 7 "ColdShipsModel" "row" "[I") wa_148) (fun _ h9 => h9) rfl dX12_ship_53 ?_
        refine lv_iconst (v := 1) hx hb dX12_ship_56 (by decide) ?_
        refine tpk_pos (tp_in hG y1 (by decide)) hf_33 (fun q53 eq53 => ?_)
        refine va_iald hx hb hK hP q53 0 eq53 rfl (vp_in_iff.mpr ⟨by decide, by decide⟩) dX12_ship_57 ?_
        refine lv_topi (fun z54 ez54 => ?_)
        have jz54 : z54.toInt = mo_R g27 (1) := mo_rd ez54 (show (1 : Int32).toInt = (1) from by decide)
        have kz54 := hI.k1
        refine lv_bipush (v := 6) hx hb dX12_ship_58 (by decide) ?_
        refine lv_icmp_ne (tgt := 70) hx hb dX12_ship_60 (by decide) (fun c55 => ?_) (fun c55 => ?_)
        · have ic55 : z54.toInt ≠ 6 := zi_ne rfl rfl c55
          replace ic55 : z54.toInt ≤ 5 := by omega
          refine lv_aload_n hx hb dX12_ship_70 rfl (lv_at hl 0 rfl) ?_
          refine va_get (D := (dC, dI)) (ci := 12) (v := .ref (ρ h0 2)) (C := RX12) (T := TX12) (N := 53) hx hb hts hfX12 hown hK hP q48 eq48 rfl 2 (by decide) (hts (.fieldLink RX12 7 "ColdShipsModel" "row" "[I") wa_148) (fun _ h9 => h9) rfl dX12_ship_71 ?_
          refine lv_iconst (v := 1) hx hb dX12_ship_74 (by decide) ?_
          refine va_iald hx hb hK hP q53 0 eq53 rfl (vp_in_iff.mpr ⟨by decide, by decide⟩) dX12_ship_75 ?_
          refine lv_topi (fun z56 ez56 => ?_)
          have jz56 : z56.toInt = mo_R g27 (1) := mo_rd ez56 (show (1 : Int32).toInt = (1) from by decide)
          have kz56 := hI.k1
          have vz56 : z56.toInt = z54.toInt := jz56.trans (jz54).symm
          refine pz_calli (va_runS (As := [.int z56]) (rest := []) ⟨hx, hb, hml, hown, hts⟩ (t_X12_shipAt l dC dI _ z56 (z56.toInt) (by omega) rfl) (va_cwS 1 hts gX12_ship_X12_shipAt rfl rfl rfl pd_X12_shipAt ⟨Nat.le_of_ble_eq_true rfl, Nat.le_of_ble_eq_true rfl⟩) ⟨pz_blind, pz_pre pz_P0 (hK.sub (tys' := []) [] rfl) (pz_D0 (A := fun _ => True)) hN⟩ rfl rfl hl.1 rfl (lv_room (Nat.le_of_ble_eq_true rfl)) dX12_ship_76 ⟨Nat.le_of_ble_eq_true rfl, Nat.le_of_ble_eq_true rfl⟩) (fun r57 hw58 => ?_)
          obtain ⟨hw58r, hw58p⟩ := hw58
          refine lv_istore (lv' := [(4, .int r57), (0, .ref h0), (1, .int v), (2, .int u), (3, .int a)]) hx hb dX12_ship_79 hl (by decide) rfl (fun ls hl => ?_)
          refine lv_iconst (v := 0) hx hb dX12_ship_81 (by decide) ?_
          refine lv_istore (lv' := [(5, .int 0), (4, .int r57), (0, .ref h0), (1, .int v), (2, .int u), (3, .int a)]) hx hb dX12_ship_82 hl (by decide) rfl (fun ls hl => ?_)
          refine pz_loop (fun n0 H locs ls => ∃ f60 : Nat → va_E, ∃ w59 : Int32, n0 = (84 - (w59.toInt)).toNat ∧ tp_T (mo_O κ) κ τ ν ρ f60 ∧ tp_F τ [13, 32] f f60 ∧ ((mo_RI (-1) 0 (mo_R (mo_i (f60 (ρ h0 2)))))) ∧ (((mo_R (mo_i (f60 (ρ h0 2)))) (1) = z54.toInt)) ∧ ((∀ j, 0 ≤ j → j < (w59.toInt) → (mo_R (mo_i (f60 (ρ h0 2)))) (547 + 84 * z54.toInt + j) = 0)) ∧ (0 ≤ w59.toInt ∧ w59.toInt ≤ 84) ∧ va_P (dC, dI) vwCl (va_pl L f60) H ∧ va_D A (va_pl L f60) ∧ va_S A s.heap H locs ∧ lv_has ls 6 [(5, .int w59), (4, .int r57), (0, .ref h0), (1, .int v), (2, .int u), (3, .int a)]) ?_ _ _ _ _ ⟨f30, 0, rfl, hT, hR, (by rw [hf_33, mo_i1]; exact hI), (by rw [hf_33, mo_i1]; have : (0 : Int32).toInt = 0 := rfl; omega), (fun j j1 j2 => absurd j2 (by have : (0 : Int32).toInt = 0 := rfl; omega)), (by have : (0 : Int32).toInt = 0 := rfl; omega), hP, hD, hS, lv_sub hl [0, 1, 2, 3, 4, 5] rfl⟩
          intro n0 H locs ls hI ih62
          refine Exists.elim hI (fun f60 hE90 => Exists.elim hE90 (fun w59 hE91 => tn_11 hE91 (fun hn63 hT hR hJ jf64 jf65 rw59 hP hD hS hl => ?_)))
          clear hE91 hE90 hI
          refine tpk_32 hT y1 (fun g67 hf_o66 => ?_)
          have hI : mo_RI (-1) 0 (mo_R g67) := by have q9 := hJ; rw [hf_o66, mo_i1] at q9; exact q9
          rw [hf_o66, mo_i1] at jf64
          rw [hf_o66, mo_i1] at jf65
          refine lv_iload hx hb dX12_ship_84 (lv_at hl 0 rfl) ?_
          refine lv_bipush (v := 84) hx hb dX12_ship_86 (by decide) ?_
          refine lv_icmp_ge (tgt := 108) hx hb dX12_ship_88 (by decide) (fun c68 => ?_) (fun c68 => ?_)
          · have ic68 : w59.toInt ≥ 84 := zi_ge rfl rfl c68
            have hz : ∀ j, 0 ≤ j → j < 84 → j ≠ 0 → j ≠ 6 → j ≠ 7 → j ≠ 8 → mo_R g67 (547 + 84 * z54.toInt + j) = 0 := fun j j1 j2 _ _ _ _ => jf65 j j1 (by omega)
            refine lv_aload_n hx hb dX12_ship_108 rfl (lv_at hl 2 rfl) ?_
            refine tpk_13 hT ht_h0 (fun o69_x0 o69_x1 o69_x7 o69_x9 o69_x10 o69_x11 o69_x12 o69_x13 o69_x14 o69_x15 o69_x16 o69_x17 o69_x18 o69_x19 o69_x20 o69_x22 o69_x25 o69_x28 o69_x29 o69_x32 o69_x33 o69_x34 o69_x35 o69_x36 o69_x37 o69_x38 o69_x47 o69_x48 hf_o69 ro69_0 ro69_1 ro69_2 ro69_3 ro69_4 ro69_5 ro69_6 ro69_7 ro69_8 ro69_9 ro69_10 ro69_11 ro69_12 ro69_13 => ?_)
            refine tpk_pos (tp_in hG ht_h0 (by decide)) hf_o69 (fun q70 eq70 => ?_)
            refine va_get (D := (dC, dI)) (ci := 12) (v := .ref (ρ h0 2)) (C := RX12) (T := TX12) (N := 53) hx hb hts hfX12 hown hK hP q70 eq70 rfl 2 (by decide) (hts (.fieldLink RX12 7 "ColdShipsModel" "row" "[I") wa_148) (fun _ h9 => h9) rfl dX12_ship_109 ?_
            refine lv_iload hx hb dX12_ship_112 (lv_at hl 1 rfl) ?_
            refine lv_iconst (v := 0) hx hb dX12_ship_114 (by decide) ?_
            refine lv_iadd hx hb dX12_ship_115 ?_
            refine lv_topi (fun z71 ez71 => ?_)
            have iz71 : z71.toInt = r57.toInt + 0 := zi_add ez71 rfl rfl (by omega) (by omega)
            refine lv_iload_n hx hb dX12_ship_116 rfl (lv_at hl 3 rfl) ?_
            refine tpk_pos (tp_in hG y1 (by decide)) hf_o66 (fun q72 eq72 => ?_)
            refine va_iast hx hb hK hP hD hS q72 0 eq72 rfl (vp_in_iff.mpr ⟨by omega, by omega⟩) dX12_ship_117 (tp_k (.inl (κ 0, 12967, .inl (upd g67 z71.toNatClampNeg v))) hD (tp_in hG y1 (by decide)) eq72 (fun f73 H locs hP hD hS g75 k74 => ?_))
            have hT := hT.up y1 g75 k74 tp_o32
            have hR := hR.up y1 (by decide) k74
            have hU : mo_U (mo_R g67) (mo_R (upd g67 z71.toNatClampNeg v)) (547 + 84 * z54.toInt + 0) (v.toInt) := mo_up (by omega) (rfl : v.toInt = _) (by omega)
            generalize (upd g67 z71.toNatClampNeg v) = g76 at g75 hU
            have hI := mo_w_snew hI hU z54.toInt 0 (by omega) (by omega) (by omega)
            have pn77 : mo_R g76 (1) = z54.toInt := (hU.ne (by omega) (by omega)).trans jf64
            have pn78 : mo_R g76 (547 + 84 * z54.toInt + 0) = v.toInt := hU.eq (by omega)
            have hz : ∀ j, 0 ≤ j → j < 84 → j ≠ 0 → j ≠ 6 → j ≠ 7 → j ≠ 8 → mo_R g76 (547 + 84 * z54.toInt + j) = 0 := fun j j1 j2 j3 j4 j5 j6 => (hU.ne (by omega) (by omega)).trans (hz j j1 j2 j3 j4 j5 j6)
            refine lv_aload_n hx hb dX12_ship_118 rfl (lv_at hl 2 rfl) ?_
            have hf_79 : f73 h0 = .inr (12, [.int o69_x0, .int o69_x1, .ref (ρ h0 2), .ref (ρ h0 3), .ref (ρ h0 4), .ref (ρ h0 5), .ref (ρ h0 6), .int o69_x7, .ref (ρ h0 8), .int o69_x9, .int o69_x10, .int o69_x11, .int o69_x12, .long o69_x13, .int o69_x14, .int o69_x15, .int o69_x16, .int o69_x17, .int o69_x18, .int o69_x19, .int o69_x20, .ref (ρ h0 21), .int o69_x22, .ref (ρ h0 23), .ref (ρ h0 24), .int o69_x25, .ref (ρ h0 26), .ref (ρ h0 27), .int o69_x28, .int o69_x29, .ref (ρ h0 30), .ref (ρ h0 31), .int o69_x32, .long o69_x33, .long o69_x34, .long o69_x35, .int o69_x36, .int o69_x37, .int o69_x38, .ref (ρ h0 39), .ref (ρ h0 40), .ref (ρ h0 41), .ref (ρ h0 42), .ref (ρ h0 43), .ref (ρ h0 44), .ref (ρ h0 45), .ref (ρ h0 46), .int o69_x47, .int o69_x48, .ref (ρ h0 49), .ref (ρ h0 50), .ref (ρ h0 51), .ref (ρ h0 52)]) := (k74 _ (tp_ne ht_h0 y1 (by decide))).trans hf_o69
            refine tpk_pos (tp_in hG ht_h0 (by decide)) hf_79 (fun q80 eq80 => ?_)
            refine va_get (D := (dC, dI)) (ci := 12) (v := .ref (ρ h0 2)) (C := RX12) (T := TX12) (N := 53) hx hb hts hfX12 hown hK hP q80 eq80 rfl 2 (by decide) (hts (.fieldLink RX12 7 "ColdShipsModel" "row" "[I") wa_148) (fun _ h9 => h9) rfl dX12_ship_119 ?_
            refine lv_iload hx hb dX12_ship_122 (lv_at hl 1 rfl) ?_
            refine lv_bipush (v := 6) hx hb dX12_ship_124 (by decide) ?_
            refine lv_iadd hx hb dX12_ship_126 ?_
            refine lv_topi (fun z81 ez81 => ?_)
            have iz81 : z81.toInt = r57.toInt + 6 := zi_add ez81 rfl rfl (by omega) (by omega)
            refine lv_sipush (v := 1800) hx hb dX12_ship_127 (by decide) ?_
            refine tpk_pos (tp_in hG y1 (by decide)) g75 (fun q82 eq82 => ?_)
            refine va_iast hx hb hK hP hD hS q82 0 eq82 rfl (vp_in_iff.mpr ⟨by omega, by omega⟩) dX12_ship_130 (tp_k (.inl (κ 0, 12967, .inl (upd g76 z81.toNatClampNeg (1800 : Int32)))) hD (tp_in hG y1 (by decide)) eq82 (fun f83 H locs hP hD hS g85 k84 => ?_))
            have hT := hT.up y1 g85 k84 tp_o32
            have hR := hR.up y1 (by decide) k84
            have hU : mo_U (mo_R g76) (mo_R (upd g76 z81.toNatClampNeg (1800 : Int32))) (547 + 84 * z54.toInt + 6) (1800) := mo_up (by omega) (show (1800 : Int32).toInt = 1800 from rfl) (by omega)
            generalize (upd g76 z81.toNatClampNeg (1800 : Int32)) = g86 at g85 hU
            have hI := mo_w_snew hI hU z54.toInt 6 (by omega) (by omega) (by omega)
            have pn87 : mo_R g86 (1) = z54.toInt := (hU.ne (by omega) (by omega)).trans pn77
            have pn88 : mo_R g86 (547 + 84 * z54.toInt + 0) = v.toInt := (hU.ne (by omega) (by omega)).trans pn78
            have hz : ∀ j, 0 ≤ j → j < 84 → j ≠ 0 → j ≠ 6 → j ≠ 7 → j ≠ 8 → mo_R g86 (547 + 84 * z54.toInt + j) = 0 := fun j j1 j2 j3 j4 j5 j6 => (hU.ne (by omega) (by omega)).trans (hz j j1 j2 j3 j4 j5 j6)
            refine lv_aload_n hx hb dX12_ship_131 rfl (lv_at hl 2 rfl) ?_
            have hf_89 : f83 h0 = .inr (12, [.int o69_x0, .int o69_x1, .ref (ρ h0 2), .ref (ρ h0 3), .ref (ρ h0 4), .ref (ρ h0 5), .ref (ρ h0 6), .int o69_x7, .ref (ρ h0 8), .int o69_x9, .int o69_x10, .int o69_x11, .int o69_x12, .long o69_x13, .int o69_x14, .int o69_x15, .int o69_x16, .int o69_x17, .int o69_x18, .int o69_x19, .int o69_x20, .ref (ρ h0 21), .int o69_x22, .ref (ρ h0 23), .ref (ρ h0 24), .int o69_x25, .ref (ρ h0 26), .ref (ρ h0 27), .int o69_x28, .int o69_x29, .ref (ρ h0 30), .ref (ρ h0 31), .int o69_x32, .long o69_x33, .long o69_x34, .long o69_x35, .int o69_x36, .int o69_x37, .int o69_x38, .ref (ρ h0 39), .ref (ρ h0 40), .ref (ρ h0 41), .ref (ρ h0 42), .ref (ρ h0 43), .ref (ρ h0 44), .ref (ρ h0 45), .ref (ρ h0 46), .int o69_x47, .int o69_x48, .ref (ρ h0 49), .ref (ρ h0 50), .ref (ρ h0 51), .ref (ρ h0 52)]) := (k84 _ (tp_ne ht_h0 y1 (by decide))).trans hf_79
            refine tpk_pos (tp_in hG ht_h0 (by decide)) hf_89 (fun q90 eq90 => ?_)
            refine va_get (D := (dC, dI)) (ci := 12) (v := .ref (ρ h0 2)) (C := RX12) (T := TX12) (N := 53) hx hb hts hfX12 hown hK hP q90 eq90 rfl 2 (by decide) (hts (.fieldLink RX12 7 "ColdShipsModel" "row" "[I") wa_148) (fun _ h9 => h9) rfl dX12_ship_132 ?_
            refine lv_iload hx hb dX12_ship_135 (lv_at hl 1 rfl) ?_
            refine lv_bipush (v := 7) hx hb dX12_ship_137 (by decide) ?_
            refine lv_iadd hx hb dX12_ship_139 ?_
            refine lv_topi (fun z91 ez91 => ?_)
            have iz91 : z91.toInt = r57.toInt + 7 := zi_add ez91 rfl rfl (by omega) (by omega)
            refine lv_iload_n hx hb dX12_ship_140 rfl (lv_at hl 4 rfl) ?_
            refine tpk_pos (tp_in hG y1 (by decide)) g85 (fun q92 eq92 => ?_)
            refine va_iast hx hb hK hP hD hS q92 0 eq92 rfl (vp_in_iff.mpr ⟨by omega, by omega⟩) dX12_ship_141 (tp_k (.inl (κ 0, 12967, .inl (upd g86 z91.toNatClampNeg u))) hD (tp_in hG y1 (by decide)) eq92 (fun f93 H locs hP hD hS g95 k94 => ?_))
            have hT := hT.up y1 g95 k94 tp_o32
            have hR := hR.up y1 (by decide) k94
            have hU : mo_U (mo_R g86) (mo_R (upd g86 z91.toNatClampNeg u)) (547 + 84 * z54.toInt + 7) (u.toInt) := mo_up (by omega) (rfl : u.toInt = _) (by omega)
            generalize (upd g86 z91.toNatClampNeg u) = g96 at g95 hU
            have hI := mo_w_snew hI hU z54.toInt 7 (by omega) (by omega) (by omega)
            have pn97 : mo_R g96 (1) = z54.toInt := (hU.ne (by omega) (by omega)).trans pn87
            have pn98 : mo_R g96 (547 + 84 * z54.toInt + 0) = v.toInt := (hU.ne (by omega) (by omega)).trans pn88
            have pn99 : mo_R g96 (547 + 84 * z54.toInt + 7) = u.toInt := hU.eq (by omega)
            have hz : ∀ j, 0 ≤ j → j < 84 → j ≠ 0 → j ≠ 6 → j ≠ 7 → j ≠ 8 → mo_R g96 (547 + 84 * z54.toInt + j) = 0 := fun j j1 j2 j3 j4 j5 j6 => (hU.ne (by omega) (by omega)).trans (hz j j1 j2 j3 j4 j5 j6)
            refine lv_aload_n hx hb dX12_ship_142 rfl (lv_at hl 2 rfl) ?_
            have hf_100 : f93 h0 = .inr (12, [.int o69_x0, .int o69_x1, .ref (ρ h0 2), .ref (ρ h0 3), .ref (ρ h0 4), .ref (ρ h0 5), .ref (ρ h0 6), .int o69_x7, .ref (ρ h0 8), .int o69_x9, .int o69_x10, .int o69_x11, .int o69_x12, .long o69_x13, .int o69_x14, .int o69_x15, .int o69_x16, .int o69_x17, .int o69_x18, .int o69_x19, .int o69_x20, .ref (ρ h0 21), .int o69_x22, .ref (ρ h0 23), .ref (ρ h0 24), .int o69_x25, .ref (ρ h0 26), .ref (ρ h0 27), .int o69_x28, .int o69_x29, .ref (ρ h0 30), .ref (ρ h0 31), .int o69_x32, .long o69_x33, .long o69_x34, .long o69_x35, .int o69_x36, .int o69_x37, .int o69_x38, .ref (ρ h0 39), .ref (ρ h0 40), .ref (ρ h0 41), .ref (ρ h0 42), .ref (ρ h0 43), .ref (ρ h0 44), .ref (ρ h0 45), .ref (ρ h0 46), .int o69_x47, .int o69_x48, .ref (ρ h0 49), .ref (ρ h0 50), .ref (ρ h0 51), .ref (ρ h0 52)]) := (k94 _ (tp_ne ht_h0 y1 (by decide))).trans hf_89
            refine tpk_pos (tp_in hG ht_h0 (by decide)) hf_100 (fun q101 eq101 => ?_)
            refine va_get (D := (dC, dI)) (ci := 12) (v := .ref (ρ h0 2)) (C := RX12) (T := TX12) (N := 53) hx hb hts hfX12 hown hK hP q101 eq101 rfl 2 (by decide) (hts (.fieldLink RX12 7 "ColdShipsModel" "row" "[I") wa_148) (fun _ h9 => h9) rfl dX12_ship_143 ?_
            refine lv_iload hx hb dX12_ship_146 (lv_at hl 1 rfl) ?_
            refine lv_bipush (v := 8) hx hb dX12_ship_148 (by decide) ?_
            refine lv_iadd hx hb dX12_ship_150 ?_
            refine lv_topi (fun z102 ez102 => ?_)
            have iz102 : z102.toInt = r57.toInt + 8 := zi_add ez102 rfl rfl (by omega) (by omega)
            refine lv_iload_n hx hb dX12_ship_151 rfl (lv_at hl 5 rfl) ?_
            refine tpk_pos (tp_in hG y1 (by decide)) g95 (fun q103 eq103 => ?_)
            refine va_iast hx hb hK hP hD hS q103 0 eq103 rfl (vp_in_iff.mpr ⟨by omega, by omega⟩) dX12_ship_152 (tp_k (.inl (κ 0, 12967, .inl (upd g96 z102.toNatClampNeg a))) hD (tp_in hG y1 (by decide)) eq103 (fun f104 H locs hP hD hS g106 k105 => ?_))
            have hT := hT.up y1 g106 k105 tp_o32
            have hR := hR.up y1 (by decide) k105
            have hU : mo_U (mo_R g96) (mo_R (upd g96 z102.toNatClampNeg a)) (547 + 84 * z54.toInt + 8) (a.toInt) := mo_up (by omega) (rfl : a.toInt = _) (by omega)
            generalize (upd g96 z102.toNatClampNeg a) = g107 at g106 hU
            have hI := mo_w_snew hI hU z54.toInt 8 (by omega) (by omega) (by omega)
            have pn108 : mo_R g107 (1) = z54.toInt := (hU.ne (by omega) (by omega)).trans pn97
            have pn109 : mo_R g107 (547 + 84 * z54.toInt + 0) = v.toInt := (hU.ne (by omega) (by omega)).trans pn98
            have pn110 : mo_R g107 (547 + 84 * z54.toInt + 7) = u.toInt := (hU.ne (by omega) (by omega)).trans pn99
            have pn111 : mo_R g107 (547 + 84 * z54.toInt + 8) = a.toInt := hU.eq (by omega)
            have hz : ∀ j, 0 ≤ j → j < 84 → j ≠ 0 → j ≠ 6 → j ≠ 7 → j ≠ 8 → mo_R g107 (547 + 84 * z54.toInt + j) = 0 := fun j j1 j2 j3 j4 j5 j6 => (hU.ne (by omega) (by omega)).trans (hz j j1 j2 j3 j4 j5 j6)
            refine lv_aload_n hx hb dX12_ship_153 rfl (lv_at hl 2 rfl) ?_
            have hf_112 : f104 h0 = .inr (12, [.int o69_x0, .int o69_x1, .ref (ρ h0 2), .ref (ρ h0 3), .ref (ρ h0 4), .ref (ρ h0 5), .ref (ρ h0 6), .int o69_x7, .ref (ρ h0 8), .int o69_x9, .int o69_x10, .int o69_x11, .int o69_x12, .long o69_x13, .int o69_x14, .int o69_x15, .int o69_x16, .int o69_x17, .int o69_x18, .int o69_x19, .int o69_x20, .ref (ρ h0 21), .int o69_x22, .ref (ρ h0 23), .ref (ρ h0 24), .int o69_x25, .ref (ρ h0 26), .ref (ρ h0 27), .int o69_x28, .int o69_x29, .ref (ρ h0 30), .ref (ρ h0 31), .int o69_x32, .long o69_x33, .long o69_x34, .long o69_x35, .int o69_x36, .int o69_x37, .int o69_x38, .ref (ρ h0 39), .ref (ρ h0 40), .ref (ρ h0 41), .ref (ρ h0 42), .ref (ρ h0 43), .ref (ρ h0 44), .ref (ρ h0 45), .ref (ρ h0 46), .int o69_x47, .int o69_x48, .ref (ρ h0 49), .ref (ρ h0 50), .ref (ρ h0 51), .ref (ρ h0 52)]) := (k105 _ (tp_ne ht_h0 y1 (by decide))).trans hf_100
            refine tpk_pos (tp_in hG ht_h0 (by decide)) hf_112 (fun q113 eq113 => ?_)
            refine va_get (D := (dC, dI)) (ci := 12) (v := .ref (ρ h0 2)) (C := RX12) (T := TX12) (N := 53) hx hb hts hfX12 hown hK hP q113 eq113 rfl 2 (by decide) (hts (.fieldLink RX12 7 "ColdShipsModel" "row" "[I") wa_148) (fun _ h9 => h9) rfl dX12_ship_154 ?_
            refine lv_iconst (v := 1) hx hb dX12_ship_157 (by decide) ?_
            refine lv_dup2_11 hx hb dX12_ship_158 rfl rfl ?_
            refine tpk_pos (tp_in hG y1 (by decide)) g106 (fun q114 eq114 => ?_)
            refine va_iald hx hb hK hP q114 0 eq114 rfl (vp_in_iff.mpr ⟨by decide, by decide⟩) dX12_ship_159 ?_
            refine lv_topi (fun z115 ez115 => ?_)
            have jz115 : z115.toInt = mo_R g107 (1) := mo_rd ez115 (show (1 : Int32).toInt = (1) from by decide)
            have kz115 := hI.k1
            have vz115 : z115.toInt = z54.toInt := jz115.trans pn108
            refine lv_iconst (v := 1) hx hb dX12_ship_160 (by decide) ?_
            refine lv_iadd hx hb dX12_ship_161 ?_
            refine lv_topi (fun z116 ez116 => ?_)
            have iz116 : z116.toInt = z115.toInt + 1 := zi_add ez116 rfl rfl (by omega) (by omega)
            refine va_iast hx hb hK hP hD hS q114 0 eq114 rfl (vp_in_iff.mpr ⟨by decide, by decide⟩) dX12_ship_162 (tp_k (.inl (κ 0, 12967, .inl (upd g107 (1 : Int32).toNatClampNeg z116))) hD (tp_in hG y1 (by decide)) eq114 (fun f117 H locs hP hD hS g119 k118 => ?_))
            have hT := hT.up y1 g119 k118 tp_o32
            have hR := hR.up y1 (by decide) k118
            have hU : mo_U (mo_R g107) (mo_R (upd g107 (1 : Int32).toNatClampNeg z116)) (1) (z116.toInt) := mo_up (show (1 : Int32).toInt = (1) from by decide) (rfl : z116.toInt = _) (by omega)
            generalize (upd g107 (1 : Int32).toNatClampNeg z116) = g120 at g119 hU
            have hI := mo_w_nS hI hU (z54.toInt) rfl pn108 (by omega) (by omega) (by omega) (by omega) (by omega) hz
            have pn121 : mo_R g120 (547 + 84 * z54.toInt + 0) = v.toInt := (hU.ne (by omega) (by omega)).trans pn109
            have pn122 : mo_R g120 (547 + 84 * z54.toInt + 7) = u.toInt := (hU.ne (by omega) (by omega)).trans pn110
            have pn123 : mo_R g120 (547 + 84 * z54.toInt + 8) = a.toInt := (hU.ne (by omega) (by omega)).trans pn111
            have pn124 : mo_R g120 (1) = z116.toInt := hU.eq (by omega)
            refine lv_aload_n hx hb dX12_ship_163 rfl (lv_at hl 2 rfl) ?_
            refine lv_aload_n hx hb dX12_ship_164 rfl (lv_at hl 2 rfl) ?_
            have hf_125 : f117 h0 = .inr (12, [.int o69_x0, .int o69_x1, .ref (ρ h0 2), .ref (ρ h0 3), .ref (ρ h0 4), .ref (ρ h0 5), .ref (ρ h0 6), .int o69_x7, .ref (ρ h0 8), .int o69_x9, .int o69_x10, .int o69_x11, .int o69_x12, .long o69_x13, .int o69_x14, .int o69_x15, .int o69_x16, .int o69_x17, .int o69_x18, .int o69_x19, .int o69_x20, .ref (ρ h0 21), .int o69_x22, .ref (ρ h0 23), .ref (ρ h0 24), .int o69_x25, .ref (ρ h0 26), .ref (ρ h0 27), .int o69_x28, .int o69_x29, .ref (ρ h0 30), .ref (ρ h0 31), .int o69_x32, .long o69_x33, .long o69_x34, .long o69_x35, .int o69_x36, .int o69_x37, .int o69_x38, .ref (ρ h0 39), .ref (ρ h0 40), .ref (ρ h0 41), .ref (ρ h0 42), .ref (ρ h0 43), .ref (ρ h0 44), .ref (ρ h0 45), .ref (ρ h0 46), .int o69_x47, .int o69_x48, .ref (ρ h0 49), .ref (ρ h0 50), .ref (ρ h0 51), .ref (ρ h0 52)]) := (k118 _ (tp_ne ht_h0 y1 (by decide))).trans hf_112
            refine tpk_pos (tp_in hG ht_h0 (by decide)) hf_125 (fun q126 eq126 => ?_)
            refine va_get (D := (dC, dI)) (ci := 12) (v := .ref (ρ h0 2)) (C := RX12) (T := TX12) (N := 53) hx hb hts hfX12 hown hK hP q126 eq126 rfl 2 (by decide) (hts (.fieldLink RX12 7 "ColdShipsModel" "row" "[I") wa_148) (fun _ h9 => h9) rfl dX12_ship_165 ?_
            refine lv_iconst (v := 1) hx hb dX12_ship_168 (by decide) ?_
            refine tpk_pos (tp_in hG y1 (by decide)) g119 (fun q127 eq127 => ?_)
            refine va_iald hx hb hK hP q127 0 eq127 rfl (vp_in_iff.mpr ⟨by decide, by decide⟩) dX12_ship_169 ?_
            refine lv_topi (fun z128 ez128 => ?_)
            have jz128 : z128.toInt = mo_R g120 (1) := mo_rd ez128 (show (1 : Int32).toInt = (1) from by decide)
            have kz128 := hI.k1
            have vz128 : z128.toInt = z116.toInt := jz128.trans pn124
            refine lv_iconst (v := 1) hx hb dX12_ship_170 (by decide) ?_
            refine lv_isub hx hb dX12_ship_171 ?_
            refine lv_topi (fun z129 ez129 => ?_)
            have iz129 : z129.toInt = z128.toInt - 1 := zi_sub ez129 rfl rfl (by omega) (by omega)
            have hFc := tp_fr hD hS hA
            refine va_calli (va_runV (As := [.int z129]) (rest := []) ⟨hx, hb, hml, hown, hts⟩ (t_X12_told l dC dI _ κ τ ν ρ L f117 hG hT h0 z129 ht_h0) (cwV 1 hts gX12_ship_X12_told rfl rfl rfl ⟨rfl, pd_X12_told⟩ ⟨Nat.le_of_ble_eq_true rfl, Nat.le_of_ble_eq_true rfl⟩) ⟨pz_blind, va_recv hK hP (ci := 12) (q0 := q126) rfl eq126, pz_pre hP hK hD hN⟩ rfl rfl hl.1 rfl (lv_room (Nat.le_of_ble_eq_true rfl)) dX12_ship_172 ⟨Nat.le_of_ble_eq_true rfl, Nat.le_of_ble_eq_true rfl⟩) hS (fun q _ h => hFc q h) hFc (fun r130 f132 t H1 locs ht hvm hw131 hB hz1 hk1 hS => ?_)
            refine tn_4 hw131 (fun hT hF133 hw131r hw131p => ?_); clear hw131
            have hR := hR.then hF133 (by decide)
            have hP := hB.1; rw [ht] at hP; have hD := tp_ad f132 hD; clear hB hFc hz1 hk1; subst ht; generalize t.heap = H at hP hS ⊢
            have hw131pq : r130.toInt = z129.toInt := by rw [hw131p]
            have hf_134 : f132 (ρ h0 2) = .inl (κ 0, 12967, .inl g120) := (hF133 _ (by rw [y1]; decide)).trans g119
            exact W.iret (v := r130) hx hb hr (fun t ht hW => ⟨⟨r130, f132, rfl, ⟨hT, hR, trivial, (by rw [hf_134, mo_i1]; exact hI)⟩, by rw [ht]; exact hP, va_K.moved hW.alike hK, hD⟩, hS.F ht⟩) hS.2.2 dX12_ship_175
          · have ic68 : w59.toInt < 84 := zi_gef rfl rfl c68
            refine lv_aload_n hx hb dX12_ship_91 rfl (lv_at hl 2 rfl) ?_
            refine tpk_13 hT ht_h0 (fun o135_x0 o135_x1 o135_x7 o135_x9 o135_x10 o135_x11 o135_x12 o135_x13 o135_x14 o135_x15 o135_x16 o135_x17 o135_x18 o135_x19 o135_x20 o135_x22 o135_x25 o135_x28 o135_x29 o135_x32 o135_x33 o135_x34 o135_x35 o135_x36 o135_x37 o135_x38 o135_x47 o135_x48 hf_o135 ro135_0 ro135_1 ro135_2 ro135_3 ro135_4 ro135_5 ro135_6 ro135_7 ro135_8 ro135_9 ro135_10 ro135_11 ro135_12 ro135_13 => ?_)
            refine tpk_pos (tp_in hG ht_h0 (by decide)) hf_o135 (fun q136 eq136 => ?_)
            refine va_get (D := (dC, dI)) (ci := 12) (v := .ref (ρ h0 2)) (C := RX12) (T := TX12) (N := 53) hx hb hts hfX12 hown hK hP q136 eq136 rfl 2 (by decide) (hts (.fieldLink RX12 7 "ColdShipsModel" "row" "[I") wa_148) (fun _ h9 => h9) rfl dX12_ship_92 ?_
            refine lv_iload hx hb dX12_ship_95 (lv_at hl 1 rfl) ?_
            refine lv_iload hx hb dX12_ship_97 (lv_at hl 0 rfl) ?_
            refine lv_iadd hx hb dX12_ship_99 ?_
            refine lv_topi (fun z137 ez137 => ?_)
            have iz137 : z137.toInt = r57.toInt + w59.toInt := zi_add ez137 rfl rfl (by omega) (by omega)
            refine lv_iconst (v := 0) hx hb dX12_ship_100 (by decide) ?_
            refine tpk_pos (tp_in hG y1 (by decide)) hf_o66 (fun q138 eq138 => ?_)
            refine va_iast hx hb hK hP hD hS q138 0 eq138 rfl (vp_in_iff.mpr ⟨by omega, by omega⟩) dX12_ship_101 (tp_k (.inl (κ 0, 12967, .inl (upd g67 z137.toNatClampNeg (0 : Int32)))) hD (tp_in hG y1 (by decide)) eq138 (fun f139 H locs hP hD hS g141 k140 => ?_))
            have hT := hT.up y1 g141 k140 tp_o32
            have hR := hR.up y1 (by decide) k140
            have hU : mo_U (mo_R g67) (mo_R (upd g67 z137.toNatClampNeg (0 : Int32))) (547 + 84 * z54.toInt + 0 + w59.toInt) (0) := mo_up (by omega) (show (0 : Int32).toInt = 0 from rfl) (by omega)
            generalize (upd g67 z137.toNatClampNeg (0 : Int32)) = g142 at g141 hU
            have hI := mo_w_snew hI hU z54.toInt (0 + w59.toInt) (by omega) (by omega) (by omega)
            have pn143 : mo_R g142 (1) = z54.toInt := (hU.ne (by omega) (by omega)).trans jf64
            have pn144 : mo_R g142 (547 + 84 * z54.toInt + 0 + w59.toInt) = 0 := hU.eq (by omega)
            obtain ⟨z145, ez145⟩ : ∃ y : Int32, y = w59 + 1 := ⟨_, rfl⟩
            refine lv_iinc (v := z145) (lv' := [(5, .int z145), (4, .int r57), (0, .ref h0), (1, .int v), (2, .int u), (3, .int a)]) hx hb dX12_ship_102 hl (k := 0) rfl (by rw [ez145]; rfl) (by decide) rfl (fun ls hl => ?_)
            have iz145 : z145.toInt = w59.toInt + 1 := zi_add ez145 rfl rfl (by omega) (by omega)
            refine lv_goto (tgt := 84) hx hb dX12_ship_105 (by decide) ?_
            exact ih62 _ _ _ _ (by rw [hn63]; omega) ⟨f139, z145, rfl, hT, hR, (by rw [g141, mo_i1]; exact hI), (by rw [g141, mo_i1]; omega), (by rw [g141, mo_i1]; intro j j1 j2; rcases hU.at (547 + 84 * z54.toInt + j) (by omega) with ⟨z0, a0⟩ | ⟨z0, a0⟩ <;> first | exact a0 | (rw [a0]; exact jf65 j j1 (by omega))), (by omega), hP, hD, hS, lv_sub hl [0, 1, 2, 3, 4, 5] rfl⟩
        · have ic55 : z54.toInt = 6 := zi_nef rfl rfl c55
          refine lv_aload_n hx hb dX12_ship_63 rfl (lv_at hl 0 rfl) ?_
          refine lv_bipush (v := (-5)) hx hb dX12_ship_64 (by decide) ?_
          have hFc := tp_fr hD hS hA
          refine va_calli (va_runV (As := [.int (-5)]) (rest := []) ⟨hx, hb, hml, hown, hts⟩ (t_X12_told l dC dI _ κ τ ν ρ L f30 hG hT h0 ((-5)) ht_h0) (cwV 1 hts gX12_ship_X12_told rfl rfl rfl ⟨rfl, pd_X12_told⟩ ⟨Nat.le_of_ble_eq_true rfl, Nat.le_of_ble_eq_true rfl⟩) ⟨pz_blind, va_recv hK hP (ci := 12) (q0 := q48) rfl eq48, pz_pre hP hK hD hN⟩ rfl rfl hl.1 rfl (lv_room (Nat.le_of_ble_eq_true rfl)) dX12_ship_66 ⟨Nat.le_of_ble_eq_true rfl, Nat.le_of_ble_eq_true rfl⟩) hS (fun q _ h => hFc q h) hFc (fun r146 f148 t H1 locs ht hvm hw147 hB hz1 hk1 hS => ?_)
          refine tn_4 hw147 (fun hT hF149 hw147r hw147p => ?_); clear hw147
          have hR := hR.then hF149 (by decide)
          have hP := hB.1; rw [ht] at hP; have hD := tp_ad f148 hD; clear hB hFc hz1 hk1; subst ht; generalize t.heap = H at hP hS ⊢
          have hw147pq : r146.toInt = (-5) := by rw [hw147p]; rfl
          have hf_150 : f148 (ρ h0 2) = .inl (κ 0, 12967, .inl g27) := (hF149 _ (by rw [y1]; decide)).trans hf_33
          exact W.iret (v := r146) hx hb hr (fun t ht hW => ⟨⟨r146, f148, rfl, ⟨hT, hR, trivial, (by rw [hf_150, mo_i1]; exact hI)⟩, by rw [ht]; exact hP, va_K.moved hW.alike hK, hD⟩, hS.F ht⟩) hS.2.2 dX12_ship_69
      · have ic51 : r49.toInt = 0 := zi_nef rfl rfl c51
        refine lv_aload_n hx hb dX12_ship_45 rfl (lv_at hl 0 rfl) ?_
        refine lv_bipush (v := (-2)) hx hb dX12_ship_46 (by decide) ?_
        have hFc := tp_fr hD hS hA
        refine va_calli (va_runV (As := [.int (-2)]) (rest := []) ⟨hx, hb, hml, hown, hts⟩ (t_X12_told l dC dI _ κ τ ν ρ L f30 hG hT h0 ((-2)) ht_h0) (cwV 1 hts gX12_ship_X12_told rfl rfl rfl ⟨rfl, pd_X12_told⟩ ⟨Nat.le_of_ble_eq_true rfl, Nat.le_of_ble_eq_true rfl⟩) ⟨pz_blind, va_recv hK hP (ci := 12) (q0 := q48) rfl eq48, pz_pre hP hK hD hN⟩ rfl rfl hl.1 rfl (lv_room (Nat.le_of_ble_eq_true rfl)) dX12_ship_48 ⟨Nat.le_of_ble_eq_true rfl, Nat.le_of_ble_eq_true rfl⟩) hS (fun q _ h => hFc q h) hFc (fun r151 f153 t H1 locs ht hvm hw152 hB hz1 hk1 hS => ?_)
        refine tn_4 hw152 (fun hT hF154 hw152r hw152p => ?_); clear hw152
        have hR := hR.then hF154 (by decide)
        have hP := hB.1; rw [ht] at hP; have hD := tp_ad f153 hD; clear hB hFc hz1 hk1; subst ht; generalize t.heap = H at hP hS ⊢
        have hw152pq : r151.toInt = (-2) := by rw [hw152p]; rfl
        have hf_155 : f153 (ρ h0 2) = .inl (κ 0, 12967, .inl g27) := (hF154 _ (by rw [y1]; decide)).trans hf_33
        exact W.iret (v := r151) hx hb hr (fun t ht hW => ⟨⟨r151, f153, rfl, ⟨hT, hR, trivial, (by rw [hf_155, mo_i1]; exact hI)⟩, by rw [ht]; exact hP, va_K.moved hW.alike hK, hD⟩, hS.F ht⟩) hS.2.2 dX12_ship_51
    · have ic46 : r44.toInt = 0 := zi_nef rfl rfl c46
      refine lv_aload_n hx hb dX12_ship_31 rfl (lv_at hl 0 rfl) ?_
      refine lv_iconst (v := (-1)) hx hb dX12_ship_32 (by decide) ?_
      refine tpk_pos (tp_in hG ht_h0 (by decide)) g32 (fun q156 eq156 => ?_)
      have hFc := tp_fr hD hS hA
      refine va_calli (va_runV (As := [.int (-1)]) (rest := []) ⟨hx, hb, hml, hown, hts⟩ (t_X12_told l dC dI _ κ τ ν ρ L f30 hG hT h0 ((-1)) ht_h0) (cwV 1 hts gX12_ship_X12_told rfl rfl rfl ⟨rfl, pd_X12_told⟩ ⟨Nat.le_of_ble_eq_true rfl, Nat.le_of_ble_eq_true rfl⟩) ⟨pz_blind, va_recv hK hP (ci := 12) (q0 := q156) rfl eq156, pz_pre hP hK hD hN⟩ rfl rfl hl.1 rfl (lv_room (Nat.le_of_ble_eq_true rfl)) dX12_ship_33 ⟨Nat.le_of_ble_eq_true rfl, Nat.le_of_ble_eq_true rfl⟩) hS (fun q _ h => hFc q h) hFc (fun r157 f159 t H1 locs ht hvm hw158 hB hz1 hk1 hS => ?_)
      refine tn_4 hw158 (fun hT hF160 hw158r hw158p => ?_); clear hw158
      have hR := hR.then hF160 (by decide)
      have hP := hB.1; rw [ht] at hP; have hD := tp_ad f159 hD; clear hB hFc hz1 hk1; subst ht; generalize t.heap = H at hP hS ⊢
      have hw158pq : r157.toInt = (-1) := by rw [hw158p]; rfl
      have hf_161 : f159 (ρ h0 2) = .inl (κ 0, 12967, .inl g27) := (hF160 _ (by rw [y1]; decide)).trans hf_33
      exact W.iret (v := r157) hx hb hr (fun t ht hW => ⟨⟨r157, f159, rfl, ⟨hT, hR, trivial, (by rw [hf_161, mo_i1]; exact hI)⟩, by rw [ht]; exact hP, va_K.moved hW.alike hK, hD⟩, hS.F ht⟩) hS.2.2 dX12_ship_36
set_option maxHeartbeats 4000000 in
set_option maxRecDepth 100000 in
theorem t_X12_way (l : Launch) (dC : Nat → ClassId) (dI : Nat → Nat → Nat) (sz : Nat) (κ : Nat → ClassId) (τ ν : Nat → Nat) (ρ : Nat → Nat → Nat) (L : List Nat) (f : Nat → va_E) (hG : tp_G τ ν ρ L) (hT : tp_T (mo_O κ) κ τ ν ρ f) (h0 : Nat) (v : Int32) (u : Int32) (a : Int32) (a4 : Int32) (ht_h0 : τ h0 = 13) (hJ : mo_RI (-1) 0 (mo_R (mo_i (f (ρ h0 2))))) : Met l yX12_way wqX12_way ({ frames := 4, cells := 0, slots := 0, locals := 1200 }) (va_Pc [.ref h0, .int v, .int u, .int a, .int a4] (pz_B dC dI (tp_K κ) (va_pl L f) sz)) (va_Qi (fun (r : Int32) (f1 : Nat → va_E) => tp_T (mo_O κ) κ τ ν ρ f1 ∧ tp_F τ [13, 32] f f1 ∧ True ∧ mo_RI (-1) 0 (mo_R (mo_i (f1 (ρ h0 2))))) (fun (f1 : Nat → va_E) (t : State) => pz_E dC dI (tp_K κ) (va_A (va_pl L f) sz) (va_pl L f1) t) (va_A (va_pl L f) sz)) 0 0 (va_A (va_pl L f) sz) := by
  refine Met.ofW (cc := cX12_way) (maxL := 7) (ret := some .int) (by decide) rfl ?_
  intro p e s m args below meth c s₁ B hml hv
  obtain ⟨rfl, hsz, hP, hK, hD0, hN⟩ := hv
  have hx := B.exec
  have hb := B.bytes
  have hr := B.returns
  have hts := fun (w : Cond) (h : w ∈ WALL) => atoms_spec (ws := wqX12_way) B.pre w (List.mem_cons_of_mem _ h)
  have hown : s.vm.findClass RX12 = some m.cls := findClass_of_methodNamed B.named
  have hlocks := B.notSynchronized
  subst hsz
  have hD := hD0.self (sz := s.heap.size)
  generalize hAe : va_A (va_pl L f) s.heap.size = A at hD ⊢
  have hA : ∀ q : Nat, s.heap.size ≤ q → A q := fun q h => by rw [← hAe]; exact Or.inr h
  have hS : va_S A s.heap s.heap [] := va_S.rf
  have hR : tp_F τ [13, 32] f f := tp_F.rf
  have hl := lv_entry ([.ref h0, .int v, .int u, .int a, .int a4]) (n := 7) (Nat.le_of_ble_eq_true rfl)
  rw [lg_entry_eq]
  generalize (lg_sl ([.ref h0, .int v, .int u, .int a, .int a4]) ++ List.replicate (7 - (lg_sl ([.ref h0, .int v, .int u, .int a, .int a4])).length) Slot.unset).toArray = ls at hl ⊢
  have hl : lv_has ls 7 [(0, .ref h0), (1, .int v), (2, .int u), (3, .int a), (4, .int a4)] := hl
  refine tgk_13 hG ht_h0 (fun y1 y2 y3 y4 y5 y6 y7 y8 y9 y10 y11 y12 y13 y14 y15 y16 y17 y18 y19 y20 y21 y22 y23 y24 y25 => ?_)
  refine tpk_32 hT y1 (fun g27 hf_o26 => ?_)
  have hI : mo_RI (-1) 0 (mo_R g27) := by have q9 := hJ; rw [hf_o26, mo_i1] at q9; exact q9
  refine lv_aload_n hx hb dX12_way_0 rfl (lv_at hl 0 rfl) ?_
  refine lv_iconst (v := 0) hx hb dX12_way_1 (by decide) ?_
  refine tpk_13 hT ht_h0 (fun o28_x0 o28_x1 o28_x7 o28_x9 o28_x10 o28_x11 o28_x12 o28_x13 o28_x14 o28_x15 o28_x16 o28_x17 o28_x18 o28_x19 o28_x20 o28_x22 o28_x25 o28_x28 o28_x29 o28_x32 o28_x33 o28_x34 o28_x35 o28_x36 o28_x37 o28_x38 o28_x47 o28_x48 hf_o28 ro28_0 ro28_1 ro28_2 ro28_3 ro28_4 ro28_5 ro28_6 ro28_7 ro28_8 ro28_9 ro28_10 ro28_11 ro28_12 ro28_13 => ?_)
  refine tpk_pos (tp_in hG ht_h0 (by decide)) hf_o28 (fun q29 eq29 => ?_)
  refine va_put (D := (dC, dI)) (ci := 12) (v := .int 0) (ty := .int) (C := RX12) (T := TX12) (N := 53) hx hb hts hfX12 tyX12 tyX12_ok nmX12 hown hK hP hD hS q29 eq29 rfl 0 (by decide) (hts (.fieldLink RX12 91 "ColdShipsModel" "thrown" "I") wa_209) (fun _ h9 => h9) rfl (tyX12_ok 0 (by decide)) rfl rfl (Nat.le_of_ble_eq_true rfl) dX12_way_2 (tp_k (.inr (12, [.int 0, .int o28_x1, .ref (ρ h0 2), .ref (ρ h0 3), .ref (ρ h0 4), .ref (ρ h0 5), .ref (ρ h0 6), .int o28_x7, .ref (ρ h0 8), .int o28_x9, .int o28_x10, .int o28_x11, .int o28_x12, .long o28_x13, .int o28_x14, .int o28_x15, .int o28_x16, .int o28_x17, .int o28_x18, .int o28_x19, .int o28_x20, .ref (ρ h0 21), .int o28_x22, .ref (ρ h0 23), .ref (ρ h0 24), .int o28_x25, .ref (ρ h0 26), .ref (ρ h0 27), .int o28_x28, .int o28_x29, .ref (ρ h0 30), .ref (ρ h0 31), .int o28_x32, .long o28_x33, .long o28_x34, .long o28_x35, .int o28_x36, .int o28_x37, .int o28_x38, .ref (ρ h0 39), .ref (ρ h0 40), .ref (ρ h0 41), .ref (ρ h0 42), .ref (ρ h0 43), .ref (ρ h0 44), .ref (ρ h0 45), .ref (ρ h0 46), .int o28_x47, .int o28_x48, .ref (ρ h0 49), .ref (ρ h0 50), .ref (ρ h0 51), .ref (ρ h0 52)])) hD (tp_in hG ht_h0 (by decide)) eq29 (fun f30 H locs hP hD hS g32 k31 => ?_))
  have hT := hT.up ht_h0 g32 k31 ⟨_, _, _, _, _, _, _, _, _, _, _, _, _, _, _, _, _, _, _, _, _, _, _, _, _, _, _, _, rfl, ro28_0, ro28_1, ro28_2, ro28_3, ro28_4, ro28_5, ro28_6, ro28_7, ro28_8, ro28_9, ro28_10, ro28_11, ro28_12, ro28_13⟩
  have hR := hR.up ht_h0 (by decide) k31
  refine lv_iload_n hx hb dX12_way_5 rfl (lv_at hl 3 rfl) ?_
  refine lv_i2l hx hb dX12_way_6 rfl ?_
  refine lv_lconst (v := 1) hx hb dX12_way_7 (by decide) ?_
  refine lv_ldc2 (own := RX12) (v := 400) hx hb hown (hts (.constantLong RX12 135 (400)) wa_293) dX12_way_8 ?_
  have hf_33 : f30 (ρ h0 2) = .inl (κ 0, 12967, .inl g27) := (k31 _ (tp_ne y1 ht_h0 (by decide))).trans hf_o26
  refine pz_calli (va_runS (As := [.long a.toInt64, .long 1, .long 400]) (rest := []) ⟨hx, hb, hml, hown, hts⟩ (t_X12_in l dC dI _ a.toInt64 (1) (400) (a.toInt) (1) (400) (Int32.toInt_toInt64 a) rfl rfl) (va_cwS 3 hts gX12_way_X12_in rfl rfl rfl pd_X12_in ⟨Nat.le_of_ble_eq_true rfl, Nat.le_of_ble_eq_true rfl⟩) ⟨pz_blind, pz_pre pz_P0 (hK.sub (tys' := []) [] rfl) (pz_D0 (A := fun _ => True)) hN⟩ rfl rfl hl.1 rfl (lv_room (Nat.le_of_ble_eq_true rfl)) dX12_way_11 ⟨Nat.le_of_ble_eq_true rfl, Nat.le_of_ble_eq_true rfl⟩) (fun r34 hw35 => ?_)
  obtain ⟨hw35r, hw35p⟩ := hw35
  refine lv_if_ne (tgt := 23) hx hb dX12_way_14 (by decide) (fun c36 => ?_) (fun c36 => ?_)
  · have ic36 : r34.toInt ≠ 0 := zi_ne rfl rfl c36
    replace ic36 : 1 ≤ r34.toInt := by omega
    have p37 : (1) ≤ (a.toInt) ∧ (a.toInt) ≤ (400) := (tp_cond.yes hw35p) (by omega)
    refine lv_aload_n hx hb dX12_way_23 rfl (lv_at hl 0 rfl) ?_
    refine lv_iload_n hx hb dX12_way_24 rfl (lv_at hl 1 rfl) ?_
    refine tpk_pos (tp_in hG ht_h0 (by decide)) g32 (fun q38 eq38 => ?_)
    refine pz_calli (va_runV (As := [.int v]) (rest := []) ⟨hx, hb, hml, hown, hts⟩ (t_X12_isTerminal l dC dI _ κ τ ν ρ L f30 hG hT h0 v (-1) 0 ht_h0 (by omega) (by rw [hf_33, mo_i1]; exact hI)) (cwV 1 hts gX12_way_X12_isTerminal rfl rfl rfl ⟨rfl, pd_X12_isTerminal⟩ ⟨Nat.le_of_ble_eq_true rfl, Nat.le_of_ble_eq_true rfl⟩) ⟨pz_blind, va_recv hK hP (ci := 12) (q0 := q38) rfl eq38, pz_pre hP hK hD hN⟩ rfl rfl hl.1 rfl (lv_room (Nat.le_of_ble_eq_true rfl)) dX12_way_25 ⟨Nat.le_of_ble_eq_true rfl, Nat.le_of_ble_eq_true rfl⟩) (fun r39 hw40 => ?_)
    obtain ⟨hw40r, hw40p⟩ := hw40
    have := hI.k0
    rw [hf_33, mo_i1] at hw40p
    refine lv_if_eq (tgt := 39) hx hb dX12_way_28 (by decide) (fun c41 => ?_) (fun c41 => ?_)
    · have ic41 : r39.toInt = 0 := zi_eq rfl rfl c41
      refine lv_aload_n hx hb dX12_way_39 rfl (lv_at hl 0 rfl) ?_
      refine lv_bipush (v := (-2)) hx hb dX12_way_40 (by decide) ?_
      have hFc := tp_fr hD hS hA
      refine va_calli (va_runV (As := [.int (-2)]) (rest := []) ⟨hx, hb, hml, hown, hts⟩ (t_X12_told l dC dI _ κ τ ν ρ L f30 hG hT h0 ((-2)) ht_h0) (cwV 1 hts gX12_way_X12_told rfl rfl rfl ⟨rfl, pd_X12_told⟩ ⟨Nat.le_of_ble_eq_true rfl, Nat.le_of_ble_eq_true rfl⟩) ⟨pz_blind, va_recv hK hP (ci := 12) (q0 := q38) rfl eq38, pz_pre hP hK hD hN⟩ rfl rfl hl.1 rfl (lv_room (Nat.le_of_ble_eq_true rfl)) dX12_way_42 ⟨Nat.le_of_ble_eq_true rfl, Nat.le_of_ble_eq_true rfl⟩) hS (fun q _ h => hFc q h) hFc (fun r42 f44 t H1 locs ht hvm hw43 hB hz1 hk1 hS => ?_)
      refine tn_4 hw43 (fun hT hF45 hw43r hw43p => ?_); clear hw43
      have hR := hR.then hF45 (by decide)
      have hP := hB.1; rw [ht] at hP; have hD := tp_ad f44 hD; clear hB hFc hz1 hk1; subst ht; generalize t.heap = H at hP hS ⊢
      have hw43pq : r42.toInt = (-2) := by rw [hw43p]; rfl
      have hf_46 : f44 (ρ h0 2) = .inl (κ 0, 12967, .inl g27) := (hF45 _ (by rw [y1]; decide)).trans hf_33
      exact W.iret (v := r42) hx hb hr (fun t ht hW => ⟨⟨r42, f44, rfl, ⟨hT, hR, trivial, (by rw [hf_46, mo_i1]; exact hI)⟩, by rw [ht]; exact hP, va_K.moved hW.alike hK, hD⟩, hS.F ht⟩) hS.2.2 dX12_way_45
    · have ic41 : r39.toInt ≠ 0 := zi_eqf rfl rfl c41
      replace ic41 : 1 ≤ r39.toInt := by omega
      have p47 : 0 ≤ v.toInt ∧ v.toInt < mo_R g27 0 := (tp_cond.yes hw40p) (by omega)
      refine lv_aload_n hx hb dX12_way_31 rfl (lv_at hl 0 rfl) ?_
      refine lv_iload_n hx hb dX12_way_32 rfl (lv_at hl 2 rfl) ?_
      refine pz_calli (va_runV (As := [.int u]) (rest := []) ⟨hx, hb, hml, hown, hts⟩ (t_X12_isTerminal l dC dI _ κ τ ν ρ L f30 hG hT h0 u (-1) 0 ht_h0 (by omega) (by rw [hf_33, mo_i1]; exact hI)) (cwV 1 hts gX12_way_X12_isTerminal rfl rfl rfl ⟨rfl, pd_X12_isTerminal⟩ ⟨Nat.le_of_ble_eq_true rfl, Nat.le_of_ble_eq_true rfl⟩) ⟨pz_blind, va_recv hK hP (ci := 12) (q0 := q38) rfl eq38, pz_pre hP hK hD hN⟩ rfl rfl hl.1 rfl (lv_room (Nat.le_of_ble_eq_true rfl)) dX12_way_33 ⟨Nat.le_of_ble_eq_true rfl, Nat.le_of_ble_eq_true rfl⟩) (fun r48 hw49 => ?_)
      obtain ⟨hw49r, hw49p⟩ := hw49
      have := hI.k0
      rw [hf_33, mo_i1] at hw49p
      refine lv_if_ne (tgt := 46) hx hb dX12_way_36 (by decide) (fun c50 => ?_) (fun c50 => ?_)
      · have ic50 : r48.toInt ≠ 0 := zi_ne rfl rfl c50
        replace ic50 : 1 ≤ r48.toInt := by omega
        have p51 : 0 ≤ u.toInt ∧ u.toInt < mo_R g27 0 := (tp_cond.yes hw49p) (by omega)
        refine lv_iload_n hx hb dX12_way_46 rfl (lv_at hl 1 rfl) ?_
        refine lv_iload_n hx hb dX12_way_47 rfl (lv_at hl 2 rfl) ?_
        refine lv_icmp_ne (tgt := 58) hx hb dX12_way_48 (by decide) (fun c52 => ?_) (fun c52 => ?_)
        · have ic52 : v.toInt ≠ u.toInt := zi_ne rfl rfl c52
          refine lv_bipush (v := 50) hx hb dX12_way_58 (by decide) ?_
          refine lv_iconst (v := 2) hx hb dX12_way_60 (by decide) ?_
          refine lv_bipush (v := 6) hx hb dX12_way_61 (by decide) ?_
          refine lv_iload_n hx hb dX12_way_63 rfl (lv_at hl 1 rfl) ?_
          refine lv_imul hx hb dX12_way_64 ?_
          refine lv_topi (fun z53 ez53 => ?_)
          have iz53 : z53.toInt = 6 * v.toInt := zi_mul ez53 rfl rfl (by omega) (by omega)
          refine lv_iload_n hx hb dX12_way_65 rfl (lv_at hl 2 rfl) ?_
          refine lv_iadd hx hb dX12_way_66 ?_
          refine lv_topi (fun z54 ez54 => ?_)
          have iz54 : z54.toInt = z53.toInt + u.toInt := zi_add ez54 rfl rfl (by omega) (by omega)
          refine lv_imul hx hb dX12_way_67 ?_
          refine lv_topi (fun z55 ez55 => ?_)
          have iz55 : z55.toInt = 2 * z54.toInt := zi_mul ez55 rfl rfl (by omega) (by omega)
          refine lv_iadd hx hb dX12_way_68 ?_
          refine lv_topi (fun z56 ez56 => ?_)
          have iz56 : z56.toInt = 50 + z55.toInt := zi_add ez56 rfl rfl (by omega) (by omega)
          refine lv_istore (lv' := [(5, .int z56), (0, .ref h0), (1, .int v), (2, .int u), (3, .int a), (4, .int a4)]) hx hb dX12_way_69 hl (by decide) rfl (fun ls hl => ?_)
          refine lv_bipush (v := 50) hx hb dX12_way_71 (by decide) ?_
          refine lv_iconst (v := 2) hx hb dX12_way_73 (by decide) ?_
          refine lv_bipush (v := 6) hx hb dX12_way_74 (by decide) ?_
          refine lv_iload_n hx hb dX12_way_76 rfl (lv_at hl 3 rfl) ?_
          refine lv_imul hx hb dX12_way_77 ?_
          refine lv_topi (fun z57 ez57 => ?_)
          have iz57 : z57.toInt = 6 * u.toInt := zi_mul ez57 rfl rfl (by omega) (by omega)
          refine lv_iload_n hx hb dX12_way_78 rfl (lv_at hl 2 rfl) ?_
          refine lv_iadd hx hb dX12_way_79 ?_
          refine lv_topi (fun z58 ez58 => ?_)
          have iz58 : z58.toInt = z57.toInt + v.toInt := zi_add ez58 rfl rfl (by omega) (by omega)
          refine lv_imul hx hb dX12_way_80 ?_
          refine lv_topi (fun z59 ez59 => ?_)
          have iz59 : z59.toInt = 2 * z58.toInt := zi_mul ez59 rfl rfl (by omega) (by omega)
          refine lv_iadd hx hb dX12_way_81 ?_
          refine lv_topi (fun z60 ez60 => ?_)
          have iz60 : z60.toInt = 50 + z59.toInt := zi_add ez60 rfl rfl (by omega) (by omega)
          refine lv_istore (lv' := [(6, .int z60), (5, .int z56), (0, .ref h0), (1, .int v), (2, .int u), (3, .int a), (4, .int a4)]) hx hb dX12_way_82 hl (by decide) rfl (fun ls hl => ?_)
          refine lv_aload_n hx hb dX12_way_84 rfl (lv_at hl 2 rfl) ?_
          refine va_get (D := (dC, dI)) (ci := 12) (v := .ref (ρ h0 2)) (C := RX12) (T := TX12) (N := 53) hx hb hts hfX12 hown hK hP q38 eq38 rfl 2 (by decide) (hts (.fieldLink RX12 7 "ColdShipsModel" "row" "[I") wa_148) (fun _ h9 => h9) rfl dX12_way_85 ?_
          refine lv_iload hx hb dX12_way_88 (lv_at hl 1 rfl) ?_
          refine lv_iload_n hx hb dX12_way_90 rfl (lv_at hl 5 rfl) ?_
          refine tpk_pos (tp_in hG y1 (by decide)) hf_33 (fun q61 eq61 => ?_)
          refine va_iast hx hb hK hP hD hS q61 0 eq61 rfl (vp_in_iff.mpr ⟨by omega, by omega⟩) dX12_way_91 (tp_k (.inl (κ 0, 12967, .inl (upd g27 z56.toNatClampNeg a))) hD (tp_in hG y1 (by decide)) eq61 (fun f62 H locs hP hD hS g64 k63 => ?_))
          have hT := hT.up y1 g64 k63 tp_o32
          have hR := hR.up y1 (by decide) k63
          have hU : mo_U (mo_R g27) (mo_R (upd g27 z56.toNatClampNeg a)) (50 + 12 * v.toInt + 2 * u.toInt) (a.toInt) := mo_up (by omega) (rfl : a.toInt = _) (by omega)
          generalize (upd g27 z56.toNatClampNeg a) = g65 at g64 hU
          have hI := mo_w_flat hI hU (by omega)
          refine lv_aload_n hx hb dX12_way_92 rfl (lv_at hl 2 rfl) ?_
          have hf_66 : f62 h0 = .inr (12, [.int 0, .int o28_x1, .ref (ρ h0 2), .ref (ρ h0 3), .ref (ρ h0 4), .ref (ρ h0 5), .ref (ρ h0 6), .int o28_x7, .ref (ρ h0 8), .int o28_x9, .int o28_x10, .int o28_x11, .int o28_x12, .long o28_x13, .int o28_x14, .int o28_x15, .int o28_x16, .int o28_x17, .int o28_x18, .int o28_x19, .int o28_x20, .ref (ρ h0 21), .int o28_x22, .ref (ρ h0 23), .ref (ρ h0 24), .int o28_x25, .ref (ρ h0 26), .ref (ρ h0 27), .int o28_x28, .int o28_x29, .ref (ρ h0 30), .ref (ρ h0 31), .int o28_x32, .long o28_x33, .long o28_x34, .long o28_x35, .int o28_x36, .int o28_x37, .int o28_x38, .ref (ρ h0 39), .ref (ρ h0 40), .ref (ρ h0 41), .ref (ρ h0 42), .ref (ρ h0 43), .ref (ρ h0 44), .ref (ρ h0 45), .ref (ρ h0 46), .int o28_x47, .int o28_x48, .ref (ρ h0 49), .ref (ρ h0 50), .ref (ρ h0 51), .ref (ρ h0 52)]) := (k63 _ (tp_ne ht_h0 y1 (by decide))).trans g32
          refine tpk_pos (tp_in hG ht_h0 (by decide)) hf_66 (fun q67 eq67 => ?_)
          refine va_get (D := (dC, dI)) (ci := 12) (v := .ref (ρ h0 2)) (C := RX12) (T := TX12) (N := 53) hx hb hts hfX12 hown hK hP q67 eq67 rfl 2 (by decide) (hts (.fieldLink RX12 7 "ColdShipsModel" "row" "[I") wa_148) (fun _ h9 => h9) rfl dX12_way_93 ?_
          refine lv_iload hx hb dX12_way_96 (lv_at hl 1 rfl) ?_
          refine lv_iconst (v := 1) hx hb dX12_way_98 (by decide) ?_
          refine lv_iadd hx hb dX12_way_99 ?_
          refine lv_topi (fun z68 ez68 => ?_)
          have iz68 : z68.toInt = z56.toInt + 1 := zi_add ez68 rfl rfl (by omega) (by omega)
          refine lv_iload hx hb dX12_way_100 (lv_at hl 6 rfl) ?_
          refine tp_join 110 (fun H locs ls stk => ∃ w69 : Int32, stk = [.int w69, .int z68, .ref (ρ h0 2)] ∧ (0 ≤ w69.toInt ∧ w69.toInt ≤ 1) ∧ va_P (dC, dI) vwCl (va_pl L f62) H ∧ va_D A (va_pl L f62) ∧ va_S A s.heap H locs ∧ lv_has ls 7 [(6, .int z60), (5, .int z56), (0, .ref h0), (1, .int v), (2, .int u), (3, .int a), (4, .int a4)]) ?_ (fun hj70 => ?_)
          · intro H locs ls stk hI
            refine Exists.elim hI (fun w69 hE90 => tn_6 hE90 (fun e90 rw69 hP hD hS hl => ?_))
            clear hE90 hI; subst e90
            refine tpk_pos (tp_in hG y1 (by decide)) g64 (fun q71 eq71 => ?_)
            refine va_iast hx hb hK hP hD hS q71 0 eq71 rfl (vp_in_iff.mpr ⟨by omega, by omega⟩) dX12_way_110 (tp_k (.inl (κ 0, 12967, .inl (upd g65 z68.toNatClampNeg w69))) hD (tp_in hG y1 (by decide)) eq71 (fun f72 H locs hP hD hS g74 k73 => ?_))
            have hT := hT.up y1 g74 k73 tp_o32
            have hR := hR.up y1 (by decide) k73
            have hU : mo_U (mo_R g65) (mo_R (upd g65 z68.toNatClampNeg w69)) (51 + 12 * v.toInt + 2 * u.toInt) (w69.toInt) := mo_up (by omega) (rfl : w69.toInt = _) (by omega)
            generalize (upd g65 z68.toNatClampNeg w69) = g75 at g74 hU
            have hI := mo_w_flat hI hU (by omega)
            refine lv_aload_n hx hb dX12_way_111 rfl (lv_at hl 2 rfl) ?_
            have hf_76 : f72 h0 = .inr (12, [.int 0, .int o28_x1, .ref (ρ h0 2), .ref (ρ h0 3), .ref (ρ h0 4), .ref (ρ h0 5), .ref (ρ h0 6), .int o28_x7, .ref (ρ h0 8), .int o28_x9, .int o28_x10, .int o28_x11, .int o28_x12, .long o28_x13, .int o28_x14, .int o28_x15, .int o28_x16, .int o28_x17, .int o28_x18, .int o28_x19, .int o28_x20, .ref (ρ h0 21), .int o28_x22, .ref (ρ h0 23), .ref (ρ h0 24), .int o28_x25, .ref (ρ h0 26), .ref (ρ h0 27), .int o28_x28, .int o28_x29, .ref (ρ h0 30), .ref (ρ h0 31), .int o28_x32, .long o28_x33, .long o28_x34, .long o28_x35, .int o28_x36, .int o28_x37, .int o28_x38, .ref (ρ h0 39), .ref (ρ h0 40), .ref (ρ h0 41), .ref (ρ h0 42), .ref (ρ h0 43), .ref (ρ h0 44), .ref (ρ h0 45), .ref (ρ h0 46), .int o28_x47, .int o28_x48, .ref (ρ h0 49), .ref (ρ h0 50), .ref (ρ h0 51), .ref (ρ h0 52)]) := (k73 _ (tp_ne ht_h0 y1 (by decide))).trans hf_66
            refine tpk_pos (tp_in hG ht_h0 (by decide)) hf_76 (fun q77 eq77 => ?_)
            refine va_get (D := (dC, dI)) (ci := 12) (v := .ref (ρ h0 2)) (C := RX12) (T := TX12) (N := 53) hx hb hts hfX12 hown hK hP q77 eq77 rfl 2 (by decide) (hts (.fieldLink RX12 7 "ColdShipsModel" "row" "[I") wa_148) (fun _ h9 => h9) rfl dX12_way_112 ?_
            refine lv_iload hx hb dX12_way_115 (lv_at hl 0 rfl) ?_
            refine lv_iload_n hx hb dX12_way_117 rfl (lv_at hl 5 rfl) ?_
            refine tpk_pos (tp_in hG y1 (by decide)) g74 (fun q78 eq78 => ?_)
            refine va_iast hx hb hK hP hD hS q78 0 eq78 rfl (vp_in_iff.mpr ⟨by omega, by omega⟩) dX12_way_118 (tp_k (.inl (κ 0, 12967, .inl (upd g75 z60.toNatClampNeg a))) hD (tp_in hG y1 (by decide)) eq78 (fun f79 H locs hP hD hS g81 k80 => ?_))
            have hT := hT.up y1 g81 k80 tp_o32
            have hR := hR.up y1 (by decide) k80
            have hU : mo_U (mo_R g75) (mo_R (upd g75 z60.toNatClampNeg a)) (50 + 12 * u.toInt + 2 * v.toInt) (a.toInt) := mo_up (by omega) (rfl : a.toInt = _) (by omega)
            generalize (upd g75 z60.toNatClampNeg a) = g82 at g81 hU
            have hI := mo_w_flat hI hU (by omega)
            refine lv_aload_n hx hb dX12_way_119 rfl (lv_at hl 2 rfl) ?_
            have hf_83 : f79 h0 = .inr (12, [.int 0, .int o28_x1, .ref (ρ h0 2), .ref (ρ h0 3), .ref (ρ h0 4), .ref (ρ h0 5), .ref (ρ h0 6), .int o28_x7, .ref (ρ h0 8), .int o28_x9, .int o28_x10, .int o28_x11, .int o28_x12, .long o28_x13, .int o28_x14, .int o28_x15, .int o28_x16, .int o28_x17, .int o28_x18, .int o28_x19, .int o28_x20, .ref (ρ h0 21), .int o28_x22, .ref (ρ h0 23), .ref (ρ h0 24), .int o28_x25, .ref (ρ h0 26), .ref (ρ h0 27), .int o28_x28, .int o28_x29, .ref (ρ h0 30), .ref (ρ h0 31), .int o28_x32, .long o28_x33, .long o28_x34, .long o28_x35, .int o28_x36, .int o28_x37, .int o28_x38, .ref (ρ h0 39), .ref (ρ h0 40), .ref (ρ h0 41), .ref (ρ h0 42), .ref (ρ h0 43), .ref (ρ h0 44), .ref (ρ h0 45), .ref (ρ h0 46), .int o28_x47, .int o28_x48, .ref (ρ h0 49), .ref (ρ h0 50), .ref (ρ h0 51), .ref (ρ h0 52)]) := (k80 _ (tp_ne ht_h0 y1 (by decide))).trans hf_76
            refine tpk_pos (tp_in hG ht_h0 (by decide)) hf_83 (fun q84 eq84 => ?_)
            refine va_get (D := (dC, dI)) (ci := 12) (v := .ref (ρ h0 2)) (C := RX12) (T := TX12) (N := 53) hx hb hts hfX12 hown hK hP q84 eq84 rfl 2 (by decide) (hts (.fieldLink RX12 7 "ColdShipsModel" "row" "[I") wa_148) (fun _ h9 => h9) rfl dX12_way_120 ?_
            refine lv_iload hx hb dX12_way_123 (lv_at hl 0 rfl) ?_
            refine lv_iconst (v := 1) hx hb dX12_way_125 (by decide) ?_
            refine lv_iadd hx hb dX12_way_126 ?_
            refine lv_topi (fun z85 ez85 => ?_)
            have iz85 : z85.toInt = z60.toInt + 1 := zi_add ez85 rfl rfl (by omega) (by omega)
            refine lv_iload hx hb dX12_way_127 (lv_at hl 6 rfl) ?_
            refine lv_if_eq (tgt := 136) hx hb dX12_way_129 (by decide) (fun c86 => ?_) (fun c86 => ?_)
            · have ic86 : a4.toInt = 0 := zi_eq rfl rfl c86
              refine lv_iconst (v := 0) hx hb dX12_way_136 (by decide) ?_
              refine tpk_pos (tp_in hG y1 (by decide)) g81 (fun q87 eq87 => ?_)
              refine va_iast hx hb hK hP hD hS q87 0 eq87 rfl (vp_in_iff.mpr ⟨by omega, by omega⟩) dX12_way_137 (tp_k (.inl (κ 0, 12967, .inl (upd g82 z85.toNatClampNeg (0 : Int32)))) hD (tp_in hG y1 (by decide)) eq87 (fun f88 H locs hP hD hS g90 k89 => ?_))
              have hT := hT.up y1 g90 k89 tp_o32
              have hR := hR.up y1 (by decide) k89
              have hU : mo_U (mo_R g82) (mo_R (upd g82 z85.toNatClampNeg (0 : Int32))) (51 + 12 * u.toInt + 2 * v.toInt) (0) := mo_up (by omega) (show (0 : Int32).toInt = 0 from rfl) (by omega)
              generalize (upd g82 z85.toNatClampNeg (0 : Int32)) = g91 at g90 hU
              have hI := mo_w_flat hI hU (by omega)
              refine lv_aload_n hx hb dX12_way_138 rfl (lv_at hl 2 rfl) ?_
              refine lv_iconst (v := 0) hx hb dX12_way_139 (by decide) ?_
              have hf_92 : f88 h0 = .inr (12, [.int 0, .int o28_x1, .ref (ρ h0 2), .ref (ρ h0 3), .ref (ρ h0 4), .ref (ρ h0 5), .ref (ρ h0 6), .int o28_x7, .ref (ρ h0 8), .int o28_x9, .int o28_x10, .int o28_x11, .int o28_x12, .long o28_x13, .int o28_x14, .int o28_x15, .int o28_x16, .int o28_x17, .int o28_x18, .int o28_x19, .int o28_x20, .ref (ρ h0 21), .int o28_x22, .ref (ρ h0 23), .ref (ρ h0 24), .int o28_x25, .ref (ρ h0 26), .ref (ρ h0 27), .int o28_x28, .int o28_x29, .ref (ρ h0 30), .ref (ρ h0 31), .int o28_x32, .long o28_x33, .long o28_x34, .long o28_x35, .int o28_x36, .int o28_x37, .int o28_x38, .ref (ρ h0 39), .ref (ρ h0 40), .ref (ρ h0 41), .ref (ρ h0 42), .ref (ρ h0 43), .ref (ρ h0 44), .ref (ρ h0 45), .ref (ρ h0 46), .int o28_x47, .int o28_x48, .ref (ρ h0 49), .ref (ρ h0 50), .ref (ρ h0 51), .ref (ρ h0 52)]) := (k89 _ (tp_ne ht_h0 y1 (by decide))).trans hf_83
              refine tpk_pos (tp_in hG ht_h0 (by decide)) hf_92 (fun q93 eq93 => ?_)
              have hFc := tp_fr hD hS hA
              refine va_calli (va_runV (As := [.int 0]) (rest := []) ⟨hx, hb, hml, hown, hts⟩ (t_X12_told l dC dI _ κ τ ν ρ L f88 hG hT h0 (0) ht_h0) (cwV 1 hts gX12_way_X12_told rfl rfl rfl ⟨rfl, pd_X12_told⟩ ⟨Nat.le_of_ble_eq_true rfl, Nat.le_of_ble_eq_true rfl⟩) ⟨pz_blind, va_recv hK hP (ci := 12) (q0 := q93) rfl eq93, pz_pre hP hK hD hN⟩ rfl rfl hl.1 rfl (lv_room (Nat.le_of_ble_eq_true rfl)) dX12_way_140 ⟨Nat.le_of_ble_eq_true rfl, Nat.le_of_ble_eq_true rfl⟩) hS (fun q _ h => hFc q h) hFc (fun r94 f96 t H1 locs ht hvm hw95 hB hz1 hk1 hS => ?_)
              refine tn_4 hw95 (fun hT hF97 hw95r hw95p => ?_); clear hw95
              have hR := hR.then hF97 (by decide)
              have hP := hB.1; rw [ht] at hP; have hD := tp_ad f96 hD; clear hB hFc hz1 hk1; subst ht; generalize t.heap = H at hP hS ⊢
              have hw95pq : r94.toInt = 0 := by rw [hw95p]; rfl
              have hf_98 : f96 (ρ h0 2) = .inl (κ 0, 12967, .inl g91) := (hF97 _ (by rw [y1]; decide)).trans g90
              exact W.iret (v := r94) hx hb hr (fun t ht hW => ⟨⟨r94, f96, rfl, ⟨hT, hR, trivial, (by rw [hf_98, mo_i1]; exact hI)⟩, by rw [ht]; exact hP, va_K.moved hW.alike hK, hD⟩, hS.F ht⟩) hS.2.2 dX12_way_143
            · have ic86 : a4.toInt ≠ 0 := zi_eqf rfl rfl c86
              refine lv_iconst (v := 1) hx hb dX12_way_132 (by decide) ?_
              refine lv_goto (tgt := 137) hx hb dX12_way_133 (by decide) ?_
              refine tpk_pos (tp_in hG y1 (by decide)) g81 (fun q99 eq99 => ?_)
              refine va_iast hx hb hK hP hD hS q99 0 eq99 rfl (vp_in_iff.mpr ⟨by omega, by omega⟩) dX12_way_137 (tp_k (.inl (κ 0, 12967, .inl (upd g82 z85.toNatClampNeg (1 : Int32)))) hD (tp_in hG y1 (by decide)) eq99 (fun f100 H locs hP hD hS g102 k101 => ?_))
              have hT := hT.up y1 g102 k101 tp_o32
              have hR := hR.up y1 (by decide) k101
              have hU : mo_U (mo_R g82) (mo_R (upd g82 z85.toNatClampNeg (1 : Int32))) (51 + 12 * u.toInt + 2 * v.toInt) (1) := mo_up (by omega) (show (1 : Int32).toInt = 1 from rfl) (by omega)
              generalize (upd g82 z85.toNatClampNeg (1 : Int32)) = g103 at g102 hU
              have hI := mo_w_flat hI hU (by omega)
              refine lv_aload_n hx hb dX12_way_138 rfl (lv_at hl 2 rfl) ?_
              refine lv_iconst (v := 0) hx hb dX12_way_139 (by decide) ?_
              have hf_104 : f100 h0 = .inr (12, [.int 0, .int o28_x1, .ref (ρ h0 2), .ref (ρ h0 3), .ref (ρ h0 4), .ref (ρ h0 5), .ref (ρ h0 6), .int o28_x7, .ref (ρ h0 8), .int o28_x9, .int o28_x10, .int o28_x11, .int o28_x12, .long o28_x13, .int o28_x14, .int o28_x15, .int o28_x16, .int o28_x17, .int o28_x18, .int o28_x19, .int o28_x20, .ref (ρ h0 21), .int o28_x22, .ref (ρ h0 23), .ref (ρ h0 24), .int o28_x25, .ref (ρ h0 26), .ref (ρ h0 27), .int o28_x28, .int o28_x29, .ref (ρ h0 30), .ref (ρ h0 31), .int o28_x32, .long o28_x33, .long o28_x34, .long o28_x35, .int o28_x36, .int o28_x37, .int o28_x38, .ref (ρ h0 39), .ref (ρ h0 40), .ref (ρ h0 41), .ref (ρ h0 42), .ref (ρ h0 43), .ref (ρ h0 44), .ref (ρ h0 45), .ref (ρ h0 46), .int o28_x47, .int o28_x48, .ref (ρ h0 49), .ref (ρ h0 50), .ref (ρ h0 51), .ref (ρ h0 52)]) := (k101 _ (tp_ne ht_h0 y1 (by decide))).trans hf_83
              refine tpk_pos (tp_in hG ht_h0 (by decide)) hf_104 (fun q105 eq105 => ?_)
              have hFc := tp_fr hD hS hA
              refine va_calli (va_runV (As := [.int 0]) (rest := []) ⟨hx, hb, hml, hown, hts⟩ (t_X12_told l dC dI _ κ τ ν ρ L f100 hG hT h0 (0) ht_h0) (cwV 1 hts gX12_way_X12_told rfl rfl rfl ⟨rfl, pd_X12_told⟩ ⟨Nat.le_of_ble_eq_true rfl, Nat.le_of_ble_eq_true rfl⟩) ⟨pz_blind, va_recv hK hP (ci := 12) (q0 := q105) rfl eq105, pz_pre hP hK hD hN⟩ rfl rfl hl.1 rfl (lv_room (Nat.le_of_ble_eq_true rfl)) dX12_way_140 ⟨Nat.le_of_ble_eq_true rfl, Nat.le_of_ble_eq_true rfl⟩) hS (fun q _ h => hFc q h) hFc (fun r106 f108 t H1 locs ht hvm hw107 hB hz1 hk1 hS => ?_)
              refine tn_4 hw107 (fun hT hF109 hw107r hw107p => ?_); clear hw107
              have hR := hR.then hF109 (by decide)
              have hP := hB.1; rw [ht] at hP; have hD := tp_ad f108 hD; clear hB hFc hz1 hk1; subst ht; generalize t.heap = H at hP hS ⊢
              have hw107pq : r106.toInt = 0 := by rw [hw107p]; rfl
              have hf_110 : f108 (ρ h0 2) = .inl (κ 0, 12967, .inl g103) := (hF109 _ (by rw [y1]; decide)).trans g102
              exact W.iret (v := r106) hx hb hr (fun t ht hW => ⟨⟨r106, f108, rfl, ⟨hT, hR, trivial, (by rw [hf_110, mo_i1]; exact hI)⟩, by rw [ht]; exact hP, va_K.moved hW.alike hK, hD⟩, hS.F ht⟩) hS.2.2 dX12_way_143
          · refine lv_if_eq (tgt := 109) hx hb dX12_way_102 (by decide) (fun c111 => ?_) (fun c111 => ?_)
            · have ic111 : a4.toInt = 0 := zi_eq rfl rfl c111
              refine lv_iconst (v := 0) hx hb dX12_way_109 (by decide) ?_
              exact hj70 _ _ _ _ ⟨0, rfl, (by have : (0 : Int32).toInt = 0 := rfl; omega), hP, hD, hS, lv_sub hl [0, 1, 2, 3, 4, 5, 6] rfl⟩
            · have ic111 : a4.toInt ≠ 0 := zi_eqf rfl rfl c111
              refine lv_iconst (v := 1) hx hb dX12_way_105 (by decide) ?_
              refine lv_goto (tgt := 110) hx hb dX12_way_106 (by decide) ?_
              exact hj70 _ _ _ _ ⟨1, rfl, (by have : (1 : Int32).toInt = 1 := rfl; omega), hP, hD, hS, lv_sub hl [0, 1, 2, 3, 4, 5, 6] rfl⟩
        · have ic52 : v.toInt = u.toInt := zi_nef rfl rfl c52
          refine lv_aload_n hx hb dX12_way_51 rfl (lv_at hl 0 rfl) ?_
          refine lv_bipush (v := (-3)) hx hb dX12_way_52 (by decide) ?_
          have hFc := tp_fr hD hS hA
          refine va_calli (va_runV (As := [.int (-3)]) (rest := []) ⟨hx, hb, hml, hown, hts⟩ (t_X12_told l dC dI _ κ τ ν ρ L f30 hG hT h0 ((-3)) ht_h0) (cwV 1 hts gX12_way_X12_told rfl rfl rfl ⟨rfl, pd_X12_told⟩ ⟨Nat.le_of_ble_eq_true rfl, Nat.le_of_ble_eq_true rfl⟩) ⟨pz_blind, va_recv hK hP (ci := 12) (q0 := q38) rfl eq38, pz_pre hP hK hD hN⟩ rfl rfl hl.1 rfl (lv_room (Nat.le_of_ble_eq_true rfl)) dX12_way_54 ⟨Nat.le_of_ble_eq_true rfl, Nat.le_of_ble_eq_true rfl⟩) hS (fun q _ h => hFc q h) hFc (fun r112 f114 t H1 locs ht hvm hw113 hB hz1 hk1 hS => ?_)
          refine tn_4 hw113 (fun hT hF115 hw113r hw113p => ?_); clear hw113
          have hR := hR.then hF115 (by decide)
          have hP := hB.1; rw [ht] at hP; have hD := tp_ad f114 hD; clear hB hFc hz1 hk1; subst ht; generalize t.heap = H at hP hS ⊢
          have hw113pq : r112.toInt = (-3) := by rw [hw113p]; rfl
          have hf_116 : f114 (ρ h0 2) = .inl (κ 0, 12967, .inl g27) := (hF115 _ (by rw [y1]; decide)).trans hf_33
          exact W.iret (v := r112) hx hb hr (fun t ht hW => ⟨⟨r112, f114, rfl, ⟨hT, hR, trivial, (by rw [hf_116, mo_i1]; exact hI)⟩, by rw [ht]; exact hP, va_K.moved hW.alike hK, hD⟩, hS.F ht⟩) hS.2.2 dX12_way_57
      · have ic50 : r48.toInt = 0 := zi_nef rfl rfl c50
        refine lv_aload_n hx hb dX12_way_39 rfl (lv_at hl 0 rfl) ?_
        refine lv_bipush (v := (-2)) hx hb dX12_way_40 (by decide) ?_
        have hFc := tp_fr hD hS hA
        refine va_calli (va_runV (As := [.int (-2)]) (rest := []) ⟨hx, hb, hml, hown, hts⟩ (t_X12_told l dC dI _ κ τ ν ρ L f30 hG hT h0 ((-2)) ht_h0) (cwV 1 hts gX12_way_X12_told rfl rfl rfl ⟨rfl, pd_X12_told⟩ ⟨Nat.le_of_ble_eq_true rfl, Nat.le_of_ble_eq_true rfl⟩) ⟨pz_blind, va_recv hK hP (ci := 12) (q0 := q38) rfl eq38, pz_pre hP hK hD hN⟩ rfl rfl hl.1 rfl (lv_room (Nat.le_of_ble_eq_true rfl)) dX12_way_42 ⟨Nat.le_of_ble_eq_true rfl, Nat.le_of_ble_eq_true rfl⟩) hS (fun q _ h => hFc q h) hFc (fun r117 f119 t H1 locs ht hvm hw118 hB hz1 hk1 hS => ?_)
        refine tn_4 hw118 (fun hT hF120 hw118r hw118p => ?_); clear hw118
        have hR := hR.then hF120 (by decide)
        have hP := hB.1; rw [ht] at hP; have hD := tp_ad f119 hD; clear hB hFc hz1 hk1; subst ht; generalize t.heap = H at hP hS ⊢
        have hw118pq : r117.toInt = (-2) := by rw [hw118p]; rfl
        have hf_121 : f119 (ρ h0 2) = .inl (κ 0, 12967, .inl g27) := (hF120 _ (by rw [y1]; decide)).trans hf_33
        exact W.iret (v := r117) hx hb hr (fun t ht hW => ⟨⟨r117, f119, rfl, ⟨hT, hR, trivial, (by rw [hf_121, mo_i1]; exact hI)⟩, by rw [ht]; exact hP, va_K.moved hW.alike hK, hD⟩, hS.F ht⟩) hS.2.2 dX12_way_45
  · have ic36 : r34.toInt = 0 := zi_nef rfl rfl c36
    refine lv_aload_n hx hb dX12_way_17 rfl (lv_at hl 0 rfl) ?_
    refine lv_iconst (v := (-1)) hx hb dX12_way_18 (by decide) ?_
    refine tpk_pos (tp_in hG ht_h0 (by decide)) g32 (fun q122 eq122 => ?_)
    have hFc := tp_fr hD hS hA
    refine va_calli (va_runV (As := [.int (-1)]) (rest := []) ⟨hx, hb, hml, hown, hts⟩ (t_X12_told l dC dI _ κ τ ν ρ L f30 hG hT h0 ((-1)) ht_h0) (cwV 1 hts gX12_way_X12_told rfl rfl rfl ⟨rfl, pd_X12_told⟩ ⟨Nat.le_of_ble_eq_true rfl, Nat.le_of_ble_eq_true rfl⟩) ⟨pz_blind, va_recv hK hP (ci := 12) (q0 := q122) rfl eq122, pz_pre hP hK hD hN⟩ rfl rfl hl.1 rfl (lv_room (Nat.le_of_ble_eq_true rfl)) dX12_way_19 ⟨Nat.le_of_ble_eq_true rfl, Nat.le_of_ble_eq_true rfl⟩) hS (fun q _ h => hFc q h) hFc (fun r123 f125 t H1 locs ht hvm hw124 hB hz1 hk1 hS => ?_)
    refine tn_4 hw124 (fun hT hF126 hw124r hw124p => ?_); clear hw124
    have hR := hR.then hF126 (by decide)
    have hP := hB.1; rw [ht] at hP; have hD := tp_ad f125 hD; clear hB hFc hz1 hk1; subst ht; generalize t.heap = H at hP hS ⊢
    have hw124pq : r123.toInt = (-1) := by rw [hw124p]; rfl
    have hf_127 : f125 (ρ h0 2) = .inl (κ 0, 12967, .inl g27) := (hF126 _ (by rw [y1]; decide)).trans hf_33
    exact W.iret (v := r123) hx hb hr (fun t ht hW => ⟨⟨r123, f125, rfl, ⟨hT, hR, trivial, (by rw [hf_127, mo_i1]; exact hI)⟩, by rw [ht]; exact hP, va_K.moved hW.alike hK, hD⟩, hS.F ht⟩) hS.2.2 dX12_way_22
