set_option maxHeartbeats 4000000 in
set_option maxRecDepth 100000 in
theorem t_X12_terminal (l : Launch) (dC : Nat → ClassId) (dI : Nat → Nat → Nat) (sz : Nat) (κ : Nat → ClassId) (τ ν : Nat → Nat) (ρ : Nat → Nat → Nat) (L : List Nat) (f : Nat → va_E) (hG : tp_G τ ν ρ L) (hT : tp_T (mo_O κ) κ τ ν ρ f) (h0 : Nat) (v : Int32) (u : Int32) (a : Int32) (a4 : Int32) (ht_h0 : τ h0 = 13) (hJ : mo_RI (-1) 0 (mo_R (mo_i (f (ρ h0 2))))) : Met l yX12_terminal wqX12_terminal ({ frames := 3, cells := 0, slots := 0, locals := 800 }) (va_Pc [.ref h0, .int v, .int u, .int a, .int a4] (pz_B dC dI (tp_K κ) (va_pl L f) sz)) (va_Qi (fun (r : Int32) (f1 : Nat → va_E) => tp_T (mo_O κ) κ τ ν ρ f1 ∧ tp_F τ [13, 32] f f1 ∧ True ∧ mo_RI (-1) 0 (mo_R (mo_i (f1 (ρ h0 2))))) (fun (f1 : Nat → va_E) (t : State) => pz_E dC dI (tp_K κ) (va_A (va_pl L f) sz) (va_pl L f1) t) (va_A (va_pl L f) sz)) 0 0 (va_A (va_pl L f) sz) := by
  refine Met.ofW (cc := cX12_terminal) (maxL := 6) (ret := some .int) (by decide) rfl ?_
  intro p e s m args below meth c s₁ B hml hv
  obtain ⟨rfl, hsz, hP, hK, hD0, hN⟩ := hv
  have hx := B.exec
  have hb := B.bytes
  have hr := B.returns
  have hts := fun (w : Cond) (h : w ∈ WALL) => atoms_spec (ws := wqX12_terminal) B.pre w (List.mem_cons_of_mem _ h)
  have hown : s.vm.findClass RX12 = some m.cls := findClass_of_methodNamed B.named
  have hlocks := B.notSynchronized
  subst hsz
  have hD := hD0.self (sz := s.heap.size)
  generalize hAe : va_A (va_pl L f) s.heap.size = A at hD ⊢
  have hA : ∀ q : Nat, s.heap.size ≤ q → A q := fun q h => by rw [← hAe]; exact Or.inr h
  have hS : va_S A s.heap s.heap [] := va_S.rf
  have hR : tp_F τ [13, 32] f f := tp_F.rf
  have hl := lv_entry ([.ref h0, .int v, .int u, .int a, .int a4]) (n := 6) (Nat.le_of_ble_eq_true rfl)
  rw [lg_entry_eq]
  generalize (lg_sl ([.ref h0, .int v, .int u, .int a, .int a4]) ++ List.replicate (6 - (lg_sl ([.ref h0, .int v, .int u, .int a, .int a4])).length) Slot.unset).toArray = ls at hl ⊢
  have hl : lv_has ls 6 [(0, .ref h0), (1, .int v), (2, .int u), (3, .int a), (4, .int a4)] := hl
  obtain ⟨y1, y2, y3, y4, y5, y6, y7, y8, y9, y10, y11, y12, y13, y14, y15, y16, y17, y18, y19, y20, y21, y22, y23, y24, y25⟩ := tpg_13 hG ht_h0
  obtain ⟨g27, hf_o26⟩ := tpo_32 hT y1
  have hI : mo_RI (-1) 0 (mo_R g27) := by have q9 := hJ; rw [hf_o26, mo_i1] at q9; exact q9
  refine lv_aload_n hx hb dX12_terminal_0 rfl (lv_at hl 0 rfl) ?_
  refine lv_iconst (v := 0) hx hb dX12_terminal_1 (by decide) ?_
  obtain ⟨o28_x0, o28_x1, o28_x7, o28_x9, o28_x10, o28_x11, o28_x12, o28_x13, o28_x14, o28_x15, o28_x16, o28_x17, o28_x18, o28_x19, o28_x20, o28_x22, o28_x25, o28_x28, o28_x29, o28_x32, o28_x33, o28_x34, o28_x35, o28_x36, o28_x37, o28_x38, o28_x47, o28_x48, hf_o28, ro28_0, ro28_1, ro28_2, ro28_3, ro28_4, ro28_5, ro28_6, ro28_7, ro28_8, ro28_9, ro28_10, ro28_11, ro28_12, ro28_13⟩ := tpo_13 hT ht_h0
  obtain ⟨q29, eq29⟩ := tp_pos (tp_in hG ht_h0 (by decide)) hf_o28
  refine va_put (D := (dC, dI)) (ci := 12) (v := .int 0) (ty := .int) (C := RX12) (T := TX12) (N := 53) hx hb hts hfX12 tyX12 tyX12_ok nmX12 hown hK hP hD hS q29 eq29 rfl 0 (by decide) (hts (.fieldLink RX12 91 "ColdShipsModel" "thrown" "I") wa_209) (fun _ h9 => h9) rfl (tyX12_ok 0 (by decide)) rfl rfl (Nat.le_of_ble_eq_true rfl) dX12_terminal_2 (tp_k (.inr (12, [.int 0, .int o28_x1, .ref (ρ h0 2), .ref (ρ h0 3), .ref (ρ h0 4), .ref (ρ h0 5), .ref (ρ h0 6), .int o28_x7, .ref (ρ h0 8), .int o28_x9, .int o28_x10, .int o28_x11, .int o28_x12, .long o28_x13, .int o28_x14, .int o28_x15, .int o28_x16, .int o28_x17, .int o28_x18, .int o28_x19, .int o28_x20, .ref (ρ h0 21), .int o28_x22, .ref (ρ h0 23), .ref (ρ h0 24), .int o28_x25, .ref (ρ h0 26), .ref (ρ h0 27), .int o28_x28, .int o28_x29, .ref (ρ h0 30), .ref (ρ h0 31), .int o28_x32, .long o28_x33, .long o28_x34, .long o28_x35, .int o28_x36, .int o28_x37, .int o28_x38, .ref (ρ h0 39), .ref (ρ h0 40), .ref (ρ h0 41), .ref (ρ h0 42), .ref (ρ h0 43), .ref (ρ h0 44), .ref (ρ h0 45), .ref (ρ h0 46), .int o28_x47, .int o28_x48, .ref (ρ h0 49), .ref (ρ h0 50), .ref (ρ h0 51), .ref (ρ h0 52)])) hD (tp_in hG ht_h0 (by decide)) eq29 (fun f30 H locs hP hD hS g32 k31 => ?_))
  have hT := hT.up ht_h0 g32 k31 ⟨_, _, _, _, _, _, _, _, _, _, _, _, _, _, _, _, _, _, _, _, _, _, _, _, _, _, _, _, rfl, ro28_0, ro28_1, ro28_2, ro28_3, ro28_4, ro28_5, ro28_6, ro28_7, ro28_8, ro28_9, ro28_10, ro28_11, ro28_12, ro28_13⟩
  have hR := hR.up ht_h0 (by decide) k31
  refine lv_iload_n hx hb dX12_terminal_5 rfl (lv_at hl 2 rfl) ?_
  refine lv_i2l hx hb dX12_terminal_6 rfl ?_
  refine lv_lconst (v := 0) hx hb dX12_terminal_7 (by decide) ?_
  refine lv_ldc2 (own := RX12) (v := 500000) hx hb hown (hts (.constantLong RX12 109 (500000)) wa_210) dX12_terminal_8 ?_
  have hf_33 : f30 (ρ h0 2) = .inl (κ 0, 12967, .inl g27) := (k31 _ (tp_ne y1 ht_h0 (by decide))).trans hf_o26
  refine pz_calli (va_runS (As := [.long u.toInt64, .long 0, .long 500000]) (rest := []) ⟨hx, hb, hml, hown, hts⟩ (t_X12_in l dC dI _ u.toInt64 (0) (500000) (u.toInt) (0) (500000) (Int32.toInt_toInt64 u) rfl rfl) (va_cwS 3 hts gX12_terminal_X12_in rfl rfl rfl pd_X12_in ⟨Nat.le_of_ble_eq_true rfl, Nat.le_of_ble_eq_true rfl⟩) ⟨pz_blind, pz_pre pz_P0 (hK.sub (tys' := []) [] rfl) (pz_D0 (A := fun _ => True)) hN⟩ rfl rfl hl.1 rfl (lv_room (Nat.le_of_ble_eq_true rfl)) dX12_terminal_11 ⟨Nat.le_of_ble_eq_true rfl, Nat.le_of_ble_eq_true rfl⟩) (fun r34 hw35 => ?_)
  obtain ⟨hw35r, hw35p⟩ := hw35
  refine lv_if_eq (tgt := 53) hx hb dX12_terminal_14 (by decide) (fun c36 => ?_) (fun c36 => ?_)
  · have ic36 : r34.toInt = 0 := zi_eq rfl rfl c36
    refine lv_aload_n hx hb dX12_terminal_53 rfl (lv_at hl 0 rfl) ?_
    refine lv_iconst (v := (-1)) hx hb dX12_terminal_54 (by decide) ?_
    obtain ⟨q37, eq37⟩ := tp_pos (tp_in hG ht_h0 (by decide)) g32
    have hFc := tp_fr hD hS hA
    refine va_calli (va_runV (As := [.int (-1)]) (rest := []) ⟨hx, hb, hml, hown, hts⟩ (t_X12_told l dC dI _ κ τ ν ρ L f30 hG hT h0 ((-1)) ht_h0) (cwV 1 hts gX12_terminal_X12_told rfl rfl rfl ⟨rfl, pd_X12_told⟩ ⟨Nat.le_of_ble_eq_true rfl, Nat.le_of_ble_eq_true rfl⟩) ⟨pz_blind, va_recv hK hP (ci := 12) (q0 := q37) rfl eq37, pz_pre hP hK hD hN⟩ rfl rfl hl.1 rfl (lv_room (Nat.le_of_ble_eq_true rfl)) dX12_terminal_55 ⟨Nat.le_of_ble_eq_true rfl, Nat.le_of_ble_eq_true rfl⟩) hS (fun q _ h => hFc q h) hFc (fun r38 f40 t H1 locs ht hvm hw39 hB hz1 hk1 hS => ?_)
    obtain ⟨hT, hF41, hw39r, hw39p⟩ := hw39
    have hR := hR.then hF41 (by decide)
    have hP := hB.1; rw [ht] at hP; have hD := tp_ad f40 hD; clear hB hFc hz1 hk1; subst ht; generalize t.heap = H at hP hS ⊢
    have hw39pq : r38.toInt = (-1) := by rw [hw39p]; rfl
    have hf_42 : f40 (ρ h0 2) = .inl (κ 0, 12967, .inl g27) := (hF41 _ (by rw [y1]; decide)).trans hf_33
    exact W.iret (v := r38) hx hb hr (fun t ht hW => ⟨⟨r38, f40, rfl, ⟨hT, hR, trivial, (by rw [hf_42, mo_i1]; exact hI)⟩, by rw [ht]; exact hP, va_K.moved hW.alike hK, hD⟩, hS.F ht⟩) hS.2.2 dX12_terminal_58
  · have ic36 : r34.toInt ≠ 0 := zi_eqf rfl rfl c36
    have p43 : (0) ≤ (u.toInt) ∧ (u.toInt) ≤ (500000) := (tp_cond.yes hw35p) (by omega)
    refine lv_iload_n hx hb dX12_terminal_17 rfl (lv_at hl 1 rfl) ?_
    refine lv_i2l hx hb dX12_terminal_18 rfl ?_
    refine lv_lconst (v := 0) hx hb dX12_terminal_19 (by decide) ?_
    refine lv_iload_n hx hb dX12_terminal_20 rfl (lv_at hl 2 rfl) ?_
    refine lv_i2l hx hb dX12_terminal_21 rfl ?_
    refine pz_calli (va_runS (As := [.long v.toInt64, .long 0, .long u.toInt64]) (rest := []) ⟨hx, hb, hml, hown, hts⟩ (t_X12_in l dC dI _ v.toInt64 (0) u.toInt64 (v.toInt) (0) (u.toInt) (Int32.toInt_toInt64 v) rfl (Int32.toInt_toInt64 u)) (va_cwS 3 hts gX12_terminal_X12_in rfl rfl rfl pd_X12_in ⟨Nat.le_of_ble_eq_true rfl, Nat.le_of_ble_eq_true rfl⟩) ⟨pz_blind, pz_pre pz_P0 (hK.sub (tys' := []) [] rfl) (pz_D0 (A := fun _ => True)) hN⟩ rfl rfl hl.1 rfl (lv_room (Nat.le_of_ble_eq_true rfl)) dX12_terminal_22 ⟨Nat.le_of_ble_eq_true rfl, Nat.le_of_ble_eq_true rfl⟩) (fun r44 hw45 => ?_)
    obtain ⟨hw45r, hw45p⟩ := hw45
    refine lv_if_eq (tgt := 53) hx hb dX12_terminal_25 (by decide) (fun c46 => ?_) (fun c46 => ?_)
    · have ic46 : r44.toInt = 0 := zi_eq rfl rfl c46
      refine lv_aload_n hx hb dX12_terminal_53 rfl (lv_at hl 0 rfl) ?_
      refine lv_iconst (v := (-1)) hx hb dX12_terminal_54 (by decide) ?_
      obtain ⟨q47, eq47⟩ := tp_pos (tp_in hG ht_h0 (by decide)) g32
      have hFc := tp_fr hD hS hA
      refine va_calli (va_runV (As := [.int (-1)]) (rest := []) ⟨hx, hb, hml, hown, hts⟩ (t_X12_told l dC dI _ κ τ ν ρ L f30 hG hT h0 ((-1)) ht_h0) (cwV 1 hts gX12_terminal_X12_told rfl rfl rfl ⟨rfl, pd_X12_told⟩ ⟨Nat.le_of_ble_eq_true rfl, Nat.le_of_ble_eq_true rfl⟩) ⟨pz_blind, va_recv hK hP (ci := 12) (q0 := q47) rfl eq47, pz_pre hP hK hD hN⟩ rfl rfl hl.1 rfl (lv_room (Nat.le_of_ble_eq_true rfl)) dX12_terminal_55 ⟨Nat.le_of_ble_eq_true rfl, Nat.le_of_ble_eq_true rfl⟩) hS (fun q _ h => hFc q h) hFc (fun r48 f50 t H1 locs ht hvm hw49 hB hz1 hk1 hS => ?_)
      obtain ⟨hT, hF51, hw49r, hw49p⟩ := hw49
      have hR := hR.then hF51 (by decide)
      have hP := hB.1; rw [ht] at hP; have hD := tp_ad f50 hD; clear hB hFc hz1 hk1; subst ht; generalize t.heap = H at hP hS ⊢
      have hw49pq : r48.toInt = (-1) := by rw [hw49p]; rfl
      have hf_52 : f50 (ρ h0 2) = .inl (κ 0, 12967, .inl g27) := (hF51 _ (by rw [y1]; decide)).trans hf_33
      exact W.iret (v := r48) hx hb hr (fun t ht hW => ⟨⟨r48, f50, rfl, ⟨hT, hR, trivial, (by rw [hf_52, mo_i1]; exact hI)⟩, by rw [ht]; exact hP, va_K.moved hW.alike hK, hD⟩, hS.F ht⟩) hS.2.2 dX12_terminal_58
    · have ic46 : r44.toInt ≠ 0 := zi_eqf rfl rfl c46
      have p53 : (0) ≤ (v.toInt) ∧ (v.toInt) ≤ (u.toInt) := (tp_cond.yes hw45p) (by omega)
      refine lv_iload_n hx hb dX12_terminal_28 rfl (lv_at hl 3 rfl) ?_
      refine lv_i2l hx hb dX12_terminal_29 rfl ?_
      refine lv_lconst (v := 1) hx hb dX12_terminal_30 (by decide) ?_
      refine lv_ldc2 (own := RX12) (v := 10000) hx hb hown (hts (.constantLong RX12 111 (10000)) wa_211) dX12_terminal_31 ?_
      refine pz_calli (va_runS (As := [.long a.toInt64, .long 1, .long 10000]) (rest := []) ⟨hx, hb, hml, hown, hts⟩ (t_X12_in l dC dI _ a.toInt64 (1) (10000) (a.toInt) (1) (10000) (Int32.toInt_toInt64 a) rfl rfl) (va_cwS 3 hts gX12_terminal_X12_in rfl rfl rfl pd_X12_in ⟨Nat.le_of_ble_eq_true rfl, Nat.le_of_ble_eq_true rfl⟩) ⟨pz_blind, pz_pre pz_P0 (hK.sub (tys' := []) [] rfl) (pz_D0 (A := fun _ => True)) hN⟩ rfl rfl hl.1 rfl (lv_room (Nat.le_of_ble_eq_true rfl)) dX12_terminal_34 ⟨Nat.le_of_ble_eq_true rfl, Nat.le_of_ble_eq_true rfl⟩) (fun r54 hw55 => ?_)
      obtain ⟨hw55r, hw55p⟩ := hw55
      refine lv_if_eq (tgt := 53) hx hb dX12_terminal_37 (by decide) (fun c56 => ?_) (fun c56 => ?_)
      · have ic56 : r54.toInt = 0 := zi_eq rfl rfl c56
        refine lv_aload_n hx hb dX12_terminal_53 rfl (lv_at hl 0 rfl) ?_
        refine lv_iconst (v := (-1)) hx hb dX12_terminal_54 (by decide) ?_
        obtain ⟨q57, eq57⟩ := tp_pos (tp_in hG ht_h0 (by decide)) g32
        have hFc := tp_fr hD hS hA
        refine va_calli (va_runV (As := [.int (-1)]) (rest := []) ⟨hx, hb, hml, hown, hts⟩ (t_X12_told l dC dI _ κ τ ν ρ L f30 hG hT h0 ((-1)) ht_h0) (cwV 1 hts gX12_terminal_X12_told rfl rfl rfl ⟨rfl, pd_X12_told⟩ ⟨Nat.le_of_ble_eq_true rfl, Nat.le_of_ble_eq_true rfl⟩) ⟨pz_blind, va_recv hK hP (ci := 12) (q0 := q57) rfl eq57, pz_pre hP hK hD hN⟩ rfl rfl hl.1 rfl (lv_room (Nat.le_of_ble_eq_true rfl)) dX12_terminal_55 ⟨Nat.le_of_ble_eq_true rfl, Nat.le_of_ble_eq_true rfl⟩) hS (fun q _ h => hFc q h) hFc (fun r58 f60 t H1 locs ht hvm hw59 hB hz1 hk1 hS => ?_)
        obtain ⟨hT, hF61, hw59r, hw59p⟩ := hw59
        have hR := hR.then hF61 (by decide)
        have hP := hB.1; rw [ht] at hP; have hD := tp_ad f60 hD; clear hB hFc hz1 hk1; subst ht; generalize t.heap = H at hP hS ⊢
        have hw59pq : r58.toInt = (-1) := by rw [hw59p]; rfl
        have hf_62 : f60 (ρ h0 2) = .inl (κ 0, 12967, .inl g27) := (hF61 _ (by rw [y1]; decide)).trans hf_33
        exact W.iret (v := r58) hx hb hr (fun t ht hW => ⟨⟨r58, f60, rfl, ⟨hT, hR, trivial, (by rw [hf_62, mo_i1]; exact hI)⟩, by rw [ht]; exact hP, va_K.moved hW.alike hK, hD⟩, hS.F ht⟩) hS.2.2 dX12_terminal_58
      · have ic56 : r54.toInt ≠ 0 := zi_eqf rfl rfl c56
        have p63 : (1) ≤ (a.toInt) ∧ (a.toInt) ≤ (10000) := (tp_cond.yes hw55p) (by omega)
        refine lv_iload hx hb dX12_terminal_40 (lv_at hl 4 rfl) ?_
        refine lv_i2l hx hb dX12_terminal_42 rfl ?_
        refine lv_lconst (v := 0) hx hb dX12_terminal_43 (by decide) ?_
        refine lv_ldc2 (own := RX12) (v := 30) hx hb hown (hts (.constantLong RX12 113 (30)) wa_212) dX12_terminal_44 ?_
        refine pz_calli (va_runS (As := [.long a4.toInt64, .long 0, .long 30]) (rest := []) ⟨hx, hb, hml, hown, hts⟩ (t_X12_in l dC dI _ a4.toInt64 (0) (30) (a4.toInt) (0) (30) (Int32.toInt_toInt64 a4) rfl rfl) (va_cwS 3 hts gX12_terminal_X12_in rfl rfl rfl pd_X12_in ⟨Nat.le_of_ble_eq_true rfl, Nat.le_of_ble_eq_true rfl⟩) ⟨pz_blind, pz_pre pz_P0 (hK.sub (tys' := []) [] rfl) (pz_D0 (A := fun _ => True)) hN⟩ rfl rfl hl.1 rfl (lv_room (Nat.le_of_ble_eq_true rfl)) dX12_terminal_47 ⟨Nat.le_of_ble_eq_true rfl, Nat.le_of_ble_eq_true rfl⟩) (fun r64 hw65 => ?_)
        obtain ⟨hw65r, hw65p⟩ := hw65
        refine lv_if_ne (tgt := 59) hx hb dX12_terminal_50 (by decide) (fun c66 => ?_) (fun c66 => ?_)
        · have ic66 : r64.toInt ≠ 0 := zi_ne rfl rfl c66
          have p67 : (0) ≤ (a4.toInt) ∧ (a4.toInt) ≤ (30) := (tp_cond.yes hw65p) (by omega)
          refine lv_aload_n hx hb dX12_terminal_59 rfl (lv_at hl 0 rfl) ?_
          obtain ⟨q68, eq68⟩ := tp_pos (tp_in hG ht_h0 (by decide)) g32
          refine va_get (D := (dC, dI)) (ci := 12) (v := .ref (ρ h0 2)) (C := RX12) (T := TX12) (N := 53) hx hb hts hfX12 hown hK hP q68 eq68 rfl 2 (by decide) (hts (.fieldLink RX12 7 "ColdShipsModel" "row" "[I") wa_148) (fun _ h9 => h9) rfl dX12_terminal_60 ?_
          refine lv_iconst (v := 0) hx hb dX12_terminal_63 (by decide) ?_
          obtain ⟨q69, eq69⟩ := tp_pos (tp_in hG y1 (by decide)) hf_33
          refine va_iald hx hb hK hP q69 0 eq69 rfl (vp_in_iff.mpr ⟨by decide, by decide⟩) dX12_terminal_64 ?_
          refine lv_topi (fun z70 ez70 => ?_)
          have jz70 : z70.toInt = mo_R g27 (0) := mo_rd ez70 (show (0 : Int32).toInt = (0) from by decide)
          have kz70 := hI.k0
          refine lv_bipush (v := 6) hx hb dX12_terminal_65 (by decide) ?_
          refine lv_icmp_ne (tgt := 77) hx hb dX12_terminal_67 (by decide) (fun c71 => ?_) (fun c71 => ?_)
          · have ic71 : z70.toInt ≠ 6 := zi_ne rfl rfl c71
            refine lv_aload_n hx hb dX12_terminal_77 rfl (lv_at hl 0 rfl) ?_
            refine va_get (D := (dC, dI)) (ci := 12) (v := .ref (ρ h0 2)) (C := RX12) (T := TX12) (N := 53) hx hb hts hfX12 hown hK hP q68 eq68 rfl 2 (by decide) (hts (.fieldLink RX12 7 "ColdShipsModel" "row" "[I") wa_148) (fun _ h9 => h9) rfl dX12_terminal_78 ?_
            refine lv_iconst (v := 0) hx hb dX12_terminal_81 (by decide) ?_
            refine va_iald hx hb hK hP q69 0 eq69 rfl (vp_in_iff.mpr ⟨by decide, by decide⟩) dX12_terminal_82 ?_
            refine lv_topi (fun z72 ez72 => ?_)
            have jz72 : z72.toInt = mo_R g27 (0) := mo_rd ez72 (show (0 : Int32).toInt = (0) from by decide)
            have kz72 := hI.k0
            refine pz_calli (va_runS (As := [.int z72]) (rest := []) ⟨hx, hb, hml, hown, hts⟩ (t_X12_terminalAt l dC dI _ z72 (z72.toInt) (by omega) rfl) (va_cwS 1 hts gX12_terminal_X12_terminalAt rfl rfl rfl pd_X12_terminalAt ⟨Nat.le_of_ble_eq_true rfl, Nat.le_of_ble_eq_true rfl⟩) ⟨pz_blind, pz_pre pz_P0 (hK.sub (tys' := []) [] rfl) (pz_D0 (A := fun _ => True)) hN⟩ rfl rfl hl.1 rfl (lv_room (Nat.le_of_ble_eq_true rfl)) dX12_terminal_83 ⟨Nat.le_of_ble_eq_true rfl, Nat.le_of_ble_eq_true rfl⟩) (fun r73 hw74 => ?_)
            obtain ⟨hw74r, hw74p⟩ := hw74
            refine lv_istore (lv' := [(5, .int r73), (0, .ref h0), (1, .int v), (2, .int u), (3, .int a), (4, .int a4)]) hx hb dX12_terminal_86 hl (by decide) rfl (fun ls hl => ?_)
            refine lv_aload_n hx hb dX12_terminal_88 rfl (lv_at hl 1 rfl) ?_
            refine lv_iload hx hb dX12_terminal_89 (lv_at hl 0 rfl) ?_
            refine lv_iload_n hx hb dX12_terminal_91 rfl (lv_at hl 2 rfl) ?_
            refine lv_iload_n hx hb dX12_terminal_92 rfl (lv_at hl 3 rfl) ?_
            refine lv_iload_n hx hb dX12_terminal_93 rfl (lv_at hl 4 rfl) ?_
            refine lv_iload hx hb dX12_terminal_94 (lv_at hl 5 rfl) ?_
            have hFc := tp_fr hD hS hA
            refine va_callv (va_runV (As := [.int r73, .int v, .int u, .int a, .int a4]) (rest := []) ⟨hx, hb, hml, hown, hts⟩ (t_X12_addFour l dC dI _ κ τ ν ρ L f30 hG hT h0 r73 v u a a4 ht_h0 (by first | decide | omega)) (cwV 5 hts gX12_terminal_X12_addFour rfl rfl rfl ⟨rfl, pd_X12_addFour⟩ ⟨Nat.le_of_ble_eq_true rfl, Nat.le_of_ble_eq_true rfl⟩) ⟨pz_blind, va_recv hK hP (ci := 12) (q0 := q68) rfl eq68, pz_pre hP hK hD hN⟩ rfl rfl hl.1 rfl (lv_room (Nat.le_of_ble_eq_true rfl)) dX12_terminal_96 ⟨Nat.le_of_ble_eq_true rfl, Nat.le_of_ble_eq_true rfl⟩) hS (fun q _ h => hFc q h) hFc (fun f77 t H1 locs ht hvm hw76 hB hz1 hk1 hS => ?_)
            obtain ⟨hT, hF78, hw76p⟩ := hw76
            have hR := hR.then hF78 (by decide)
            have hP := hB.1; rw [ht] at hP; have hD := tp_ad f77 hD; clear hB hFc hz1 hk1; subst ht; generalize t.heap = H at hP hS ⊢
            rw [hf_33, mo_i1] at hw76p
            obtain ⟨Q1_78, Q2_78, Q3_78, u1_78, u2_78, u3_78, u4_78⟩ := hw76p
            obtain ⟨g80, hf_o79⟩ := tpo_32 hT y1
            rw [hf_o79, mo_i1] at u4_78
            have hU : mo_U (mo_R g27) (Q1_78) (20 + 5 * z70.toInt + 0) (v.toInt) := by have q9 := u1_78; rw [show r73.toInt = (20 + 5 * z70.toInt + 0) by omega] at q9; exact q9
            have hI := mo_w_term hI hU z70.toInt 0 (by omega) (by omega) (by omega)
            have pn81 : Q1_78 (0) = z70.toInt := (hU.ne (by omega) (by omega)).trans (jz70).symm
            have hU : mo_U (Q1_78) (Q2_78) (20 + 5 * z70.toInt + 1) (u.toInt) := by have q9 := u2_78; rw [show r73.toInt + 1 = (20 + 5 * z70.toInt + 1) by omega] at q9; exact q9
            have hI := mo_w_term hI hU z70.toInt 1 (by omega) (by omega) (by omega)
            have pn82 : Q2_78 (0) = z70.toInt := (hU.ne (by omega) (by omega)).trans pn81
            have hU : mo_U (Q2_78) (Q3_78) (20 + 5 * z70.toInt + 2) (a.toInt) := by have q9 := u3_78; rw [show r73.toInt + 2 = (20 + 5 * z70.toInt + 2) by omega] at q9; exact q9
            have hI := mo_w_term hI hU z70.toInt 2 (by omega) (by omega) (by omega)
            have pn83 : Q3_78 (0) = z70.toInt := (hU.ne (by omega) (by omega)).trans pn82
            have pn84 : Q3_78 (20 + 5 * z70.toInt + 2) = a.toInt := hU.eq (by omega)
            have hU : mo_U (Q3_78) (mo_R g80) (20 + 5 * z70.toInt + 3) (a4.toInt) := by have q9 := u4_78; rw [show r73.toInt + 3 = (20 + 5 * z70.toInt + 3) by omega] at q9; exact q9
            have hI := mo_w_term hI hU z70.toInt 3 (by omega) (by omega) (by omega)
            have pn85 : mo_R g80 (0) = z70.toInt := (hU.ne (by omega) (by omega)).trans pn83
            have pn86 : mo_R g80 (20 + 5 * z70.toInt + 2) = a.toInt := (hU.ne (by omega) (by omega)).trans pn84
            refine lv_aload_n hx hb dX12_terminal_99 rfl (lv_at hl 1 rfl) ?_
            have hf_87 : f77 h0 = .inr (12, [.int 0, .int o28_x1, .ref (ρ h0 2), .ref (ρ h0 3), .ref (ρ h0 4), .ref (ρ h0 5), .ref (ρ h0 6), .int o28_x7, .ref (ρ h0 8), .int o28_x9, .int o28_x10, .int o28_x11, .int o28_x12, .long o28_x13, .int o28_x14, .int o28_x15, .int o28_x16, .int o28_x17, .int o28_x18, .int o28_x19, .int o28_x20, .ref (ρ h0 21), .int o28_x22, .ref (ρ h0 23), .ref (ρ h0 24), .int o28_x25, .ref (ρ h0 26), .ref (ρ h0 27), .int o28_x28, .int o28_x29, .ref (ρ h0 30), .ref (ρ h0 31), .int o28_x32, .long o28_x33, .long o28_x34, .long o28_x35, .int o28_x36, .int o28_x37, .int o28_x38, .ref (ρ h0 39), .ref (ρ h0 40), .ref (ρ h0 41), .ref (ρ h0 42), .ref (ρ h0 43), .ref (ρ h0 44), .ref (ρ h0 45), .ref (ρ h0 46), .int o28_x47, .int o28_x48, .ref (ρ h0 49), .ref (ρ h0 50), .ref (ρ h0 51), .ref (ρ h0 52)]) := (hF78 _ (by rw [ht_h0]; decide)).trans g32
            obtain ⟨q88, eq88⟩ := tp_pos (tp_in hG ht_h0 (by decide)) hf_87
            refine va_get (D := (dC, dI)) (ci := 12) (v := .ref (ρ h0 2)) (C := RX12) (T := TX12) (N := 53) hx hb hts hfX12 hown hK hP q88 eq88 rfl 2 (by decide) (hts (.fieldLink RX12 7 "ColdShipsModel" "row" "[I") wa_148) (fun _ h9 => h9) rfl dX12_terminal_100 ?_
            refine lv_iload hx hb dX12_terminal_103 (lv_at hl 0 rfl) ?_
            refine lv_iconst (v := 4) hx hb dX12_terminal_105 (by decide) ?_
            refine lv_iadd hx hb dX12_terminal_106 ?_
            refine lv_topi (fun z89 ez89 => ?_)
            have iz89 : z89.toInt = r73.toInt + 4 := zi_add ez89 rfl rfl (by omega) (by omega)
            refine lv_sipush (v := 1000) hx hb dX12_terminal_107 (by decide) ?_
            obtain ⟨q90, eq90⟩ := tp_pos (tp_in hG y1 (by decide)) hf_o79
            refine va_iast hx hb hK hP hD hS q90 0 eq90 rfl (vp_in_iff.mpr ⟨by omega, by omega⟩) dX12_terminal_110 (tp_k (.inl (κ 0, 12967, .inl (upd g80 z89.toNatClampNeg (1000 : Int32)))) hD (tp_in hG y1 (by decide)) eq90 (fun f91 H locs hP hD hS g93 k92 => ?_))
            have hT := hT.up y1 g93 k92 tp_o32
            have hR := hR.up y1 (by decide) k92
            have hU : mo_U (mo_R g80) (mo_R (upd g80 z89.toNatClampNeg (1000 : Int32))) (20 + 5 * z70.toInt + 4) (1000) := mo_up (by omega) (show (1000 : Int32).toInt = 1000 from rfl) (by omega)
            generalize (upd g80 z89.toNatClampNeg (1000 : Int32)) = g94 at g93 hU
            have hI := mo_w_term hI hU z70.toInt 4 (by omega) (by omega) (by omega)
            have pn95 : mo_R g94 (0) = z70.toInt := (hU.ne (by omega) (by omega)).trans pn85
            have pn96 : mo_R g94 (20 + 5 * z70.toInt + 2) = a.toInt := (hU.ne (by omega) (by omega)).trans pn86
            refine lv_aload_n hx hb dX12_terminal_111 rfl (lv_at hl 1 rfl) ?_
            have hf_97 : f91 h0 = .inr (12, [.int 0, .int o28_x1, .ref (ρ h0 2), .ref (ρ h0 3), .ref (ρ h0 4), .ref (ρ h0 5), .ref (ρ h0 6), .int o28_x7, .ref (ρ h0 8), .int o28_x9, .int o28_x10, .int o28_x11, .int o28_x12, .long o28_x13, .int o28_x14, .int o28_x15, .int o28_x16, .int o28_x17, .int o28_x18, .int o28_x19, .int o28_x20, .ref (ρ h0 21), .int o28_x22, .ref (ρ h0 23), .ref (ρ h0 24), .int o28_x25, .ref (ρ h0 26), .ref (ρ h0 27), .int o28_x28, .int o28_x29, .ref (ρ h0 30), .ref (ρ h0 31), .int o28_x32, .long o28_x33, .long o28_x34, .long o28_x35, .int o28_x36, .int o28_x37, .int o28_x38, .ref (ρ h0 39), .ref (ρ h0 40), .ref (ρ h0 41), .ref (ρ h0 42), .ref (ρ h0 43), .ref (ρ h0 44), .ref (ρ h0 45), .ref (ρ h0 46), .int o28_x47, .int o28_x48, .ref (ρ h0 49), .ref (ρ h0 50), .ref (ρ h0 51), .ref (ρ h0 52)]) := (k92 _ (tp_ne ht_h0 y1 (by decide))).trans hf_87
            obtain ⟨q98, eq98⟩ := tp_pos (tp_in hG ht_h0 (by decide)) hf_97
            refine va_get (D := (dC, dI)) (ci := 12) (v := .ref (ρ h0 2)) (C := RX12) (T := TX12) (N := 53) hx hb hts hfX12 hown hK hP q98 eq98 rfl 2 (by decide) (hts (.fieldLink RX12 7 "ColdShipsModel" "row" "[I") wa_148) (fun _ h9 => h9) rfl dX12_terminal_112 ?_
            refine lv_iconst (v := 0) hx hb dX12_terminal_115 (by decide) ?_
            refine lv_dup2_11 hx hb dX12_terminal_116 rfl rfl ?_
            obtain ⟨q99, eq99⟩ := tp_pos (tp_in hG y1 (by decide)) g93
            refine va_iald hx hb hK hP q99 0 eq99 rfl (vp_in_iff.mpr ⟨by decide, by decide⟩) dX12_terminal_117 ?_
            refine lv_topi (fun z100 ez100 => ?_)
            have jz100 : z100.toInt = mo_R g94 (0) := mo_rd ez100 (show (0 : Int32).toInt = (0) from by decide)
            have kz100 := hI.k0
            refine lv_iconst (v := 1) hx hb dX12_terminal_118 (by decide) ?_
            refine lv_iadd hx hb dX12_terminal_119 ?_
            refine lv_topi (fun z101 ez101 => ?_)
            have iz101 : z101.toInt = z100.toInt + 1 := zi_add ez101 rfl rfl (by omega) (by omega)
            refine va_iast hx hb hK hP hD hS q99 0 eq99 rfl (vp_in_iff.mpr ⟨by decide, by decide⟩) dX12_terminal_120 (tp_k (.inl (κ 0, 12967, .inl (upd g94 (0 : Int32).toNatClampNeg z101))) hD (tp_in hG y1 (by decide)) eq99 (fun f102 H locs hP hD hS g104 k103 => ?_))
            have hT := hT.up y1 g104 k103 tp_o32
            have hR := hR.up y1 (by decide) k103
            have hU : mo_U (mo_R g94) (mo_R (upd g94 (0 : Int32).toNatClampNeg z101)) (0) (z101.toInt) := mo_up (show (0 : Int32).toInt = (0) from by decide) (rfl : z101.toInt = _) (by omega)
            generalize (upd g94 (0 : Int32).toNatClampNeg z101) = g105 at g104 hU
            have hI := mo_w_nT hI hU (z70.toInt) rfl pn95 (by omega) (by omega)
            have pn106 : mo_R g105 (20 + 5 * z70.toInt + 2) = a.toInt := (hU.ne (by omega) (by omega)).trans pn96
            have pn107 : mo_R g105 (0) = z101.toInt := hU.eq (by omega)
            refine lv_aload_n hx hb dX12_terminal_121 rfl (lv_at hl 1 rfl) ?_
            refine lv_aload_n hx hb dX12_terminal_122 rfl (lv_at hl 1 rfl) ?_
            have hf_108 : f102 h0 = .inr (12, [.int 0, .int o28_x1, .ref (ρ h0 2), .ref (ρ h0 3), .ref (ρ h0 4), .ref (ρ h0 5), .ref (ρ h0 6), .int o28_x7, .ref (ρ h0 8), .int o28_x9, .int o28_x10, .int o28_x11, .int o28_x12, .long o28_x13, .int o28_x14, .int o28_x15, .int o28_x16, .int o28_x17, .int o28_x18, .int o28_x19, .int o28_x20, .ref (ρ h0 21), .int o28_x22, .ref (ρ h0 23), .ref (ρ h0 24), .int o28_x25, .ref (ρ h0 26), .ref (ρ h0 27), .int o28_x28, .int o28_x29, .ref (ρ h0 30), .ref (ρ h0 31), .int o28_x32, .long o28_x33, .long o28_x34, .long o28_x35, .int o28_x36, .int o28_x37, .int o28_x38, .ref (ρ h0 39), .ref (ρ h0 40), .ref (ρ h0 41), .ref (ρ h0 42), .ref (ρ h0 43), .ref (ρ h0 44), .ref (ρ h0 45), .ref (ρ h0 46), .int o28_x47, .int o28_x48, .ref (ρ h0 49), .ref (ρ h0 50), .ref (ρ h0 51), .ref (ρ h0 52)]) := (k103 _ (tp_ne ht_h0 y1 (by decide))).trans hf_97
            obtain ⟨q109, eq109⟩ := tp_pos (tp_in hG ht_h0 (by decide)) hf_108
            refine va_get (D := (dC, dI)) (ci := 12) (v := .ref (ρ h0 2)) (C := RX12) (T := TX12) (N := 53) hx hb hts hfX12 hown hK hP q109 eq109 rfl 2 (by decide) (hts (.fieldLink RX12 7 "ColdShipsModel" "row" "[I") wa_148) (fun _ h9 => h9) rfl dX12_terminal_123 ?_
            refine lv_iconst (v := 0) hx hb dX12_terminal_126 (by decide) ?_
            obtain ⟨q110, eq110⟩ := tp_pos (tp_in hG y1 (by decide)) g104
            refine va_iald hx hb hK hP q110 0 eq110 rfl (vp_in_iff.mpr ⟨by decide, by decide⟩) dX12_terminal_127 ?_
            refine lv_topi (fun z111 ez111 => ?_)
            have jz111 : z111.toInt = mo_R g105 (0) := mo_rd ez111 (show (0 : Int32).toInt = (0) from by decide)
            have kz111 := hI.k0
            refine lv_iconst (v := 1) hx hb dX12_terminal_128 (by decide) ?_
            refine lv_isub hx hb dX12_terminal_129 ?_
            refine lv_topi (fun z112 ez112 => ?_)
            have iz112 : z112.toInt = z111.toInt - 1 := zi_sub ez112 rfl rfl (by omega) (by omega)
            have hFc := tp_fr hD hS hA
            refine va_calli (va_runV (As := [.int z112]) (rest := []) ⟨hx, hb, hml, hown, hts⟩ (t_X12_told l dC dI _ κ τ ν ρ L f102 hG hT h0 z112 ht_h0) (cwV 1 hts gX12_terminal_X12_told rfl rfl rfl ⟨rfl, pd_X12_told⟩ ⟨Nat.le_of_ble_eq_true rfl, Nat.le_of_ble_eq_true rfl⟩) ⟨pz_blind, va_recv hK hP (ci := 12) (q0 := q109) rfl eq109, pz_pre hP hK hD hN⟩ rfl rfl hl.1 rfl (lv_room (Nat.le_of_ble_eq_true rfl)) dX12_terminal_130 ⟨Nat.le_of_ble_eq_true rfl, Nat.le_of_ble_eq_true rfl⟩) hS (fun q _ h => hFc q h) hFc (fun r113 f115 t H1 locs ht hvm hw114 hB hz1 hk1 hS => ?_)
            obtain ⟨hT, hF116, hw114r, hw114p⟩ := hw114
            have hR := hR.then hF116 (by decide)
            have hP := hB.1; rw [ht] at hP; have hD := tp_ad f115 hD; clear hB hFc hz1 hk1; subst ht; generalize t.heap = H at hP hS ⊢
            have hw114pq : r113.toInt = z112.toInt := by rw [hw114p]
            have hf_117 : f115 (ρ h0 2) = .inl (κ 0, 12967, .inl g105) := (hF116 _ (by rw [y1]; decide)).trans g104
            exact W.iret (v := r113) hx hb hr (fun t ht hW => ⟨⟨r113, f115, rfl, ⟨hT, hR, trivial, (by rw [hf_117, mo_i1]; exact hI)⟩, by rw [ht]; exact hP, va_K.moved hW.alike hK, hD⟩, hS.F ht⟩) hS.2.2 dX12_terminal_133
          · have ic71 : z70.toInt = 6 := zi_nef rfl rfl c71
            refine lv_aload_n hx hb dX12_terminal_70 rfl (lv_at hl 0 rfl) ?_
            refine lv_bipush (v := (-5)) hx hb dX12_terminal_71 (by decide) ?_
            have hFc := tp_fr hD hS hA
            refine va_calli (va_runV (As := [.int (-5)]) (rest := []) ⟨hx, hb, hml, hown, hts⟩ (t_X12_told l dC dI _ κ τ ν ρ L f30 hG hT h0 ((-5)) ht_h0) (cwV 1 hts gX12_terminal_X12_told rfl rfl rfl ⟨rfl, pd_X12_told⟩ ⟨Nat.le_of_ble_eq_true rfl, Nat.le_of_ble_eq_true rfl⟩) ⟨pz_blind, va_recv hK hP (ci := 12) (q0 := q68) rfl eq68, pz_pre hP hK hD hN⟩ rfl rfl hl.1 rfl (lv_room (Nat.le_of_ble_eq_true rfl)) dX12_terminal_73 ⟨Nat.le_of_ble_eq_true rfl, Nat.le_of_ble_eq_true rfl⟩) hS (fun q _ h => hFc q h) hFc (fun r118 f120 t H1 locs ht hvm hw119 hB hz1 hk1 hS => ?_)
            obtain ⟨hT, hF121, hw119r, hw119p⟩ := hw119
            have hR := hR.then hF121 (by decide)
            have hP := hB.1; rw [ht] at hP; have hD := tp_ad f120 hD; clear hB hFc hz1 hk1; subst ht; generalize t.heap = H at hP hS ⊢
            have hw119pq : r118.toInt = (-5) := by rw [hw119p]; rfl
            have hf_122 : f120 (ρ h0 2) = .inl (κ 0, 12967, .inl g27) := (hF121 _ (by rw [y1]; decide)).trans hf_33
            exact W.iret (v := r118) hx hb hr (fun t ht hW => ⟨⟨r118, f120, rfl, ⟨hT, hR, trivial, (by rw [hf_122, mo_i1]; exact hI)⟩, by rw [ht]; exact hP, va_K.moved hW.alike hK, hD⟩, hS.F ht⟩) hS.2.2 dX12_terminal_76
        · have ic66 : r64.toInt = 0 := zi_nef rfl rfl c66
          refine lv_aload_n hx hb dX12_terminal_53 rfl (lv_at hl 0 rfl) ?_
          refine lv_iconst (v := (-1)) hx hb dX12_terminal_54 (by decide) ?_
          obtain ⟨q123, eq123⟩ := tp_pos (tp_in hG ht_h0 (by decide)) g32
          have hFc := tp_fr hD hS hA
          refine va_calli (va_runV (As := [.int (-1)]) (rest := []) ⟨hx, hb, hml, hown, hts⟩ (t_X12_told l dC dI _ κ τ ν ρ L f30 hG hT h0 ((-1)) ht_h0) (cwV 1 hts gX12_terminal_X12_told rfl rfl rfl ⟨rfl, pd_X12_told⟩ ⟨Nat.le_of_ble_eq_true rfl, Nat.le_of_ble_eq_true rfl⟩) ⟨pz_blind, va_recv hK hP (ci := 12) (q0 := q123) rfl eq123, pz_pre hP hK hD hN⟩ rfl rfl hl.1 rfl (lv_room (Nat.le_of_ble_eq_true rfl)) dX12_terminal_55 ⟨Nat.le_of_ble_eq_true rfl, Nat.le_of_ble_eq_true rfl⟩) hS (fun q _ h => hFc q h) hFc (fun r124 f126 t H1 locs ht hvm hw125 hB hz1 hk1 hS => ?_)
          obtain ⟨hT, hF127, hw125r, hw125p⟩ := hw125
          have hR := hR.then hF127 (by decide)
          have hP := hB.1; rw [ht] at hP; have hD := tp_ad f126 hD; clear hB hFc hz1 hk1; subst ht; generalize t.heap = H at hP hS ⊢
          have hw125pq : r124.toInt = (-1) := by rw [hw125p]; rfl
          have hf_128 : f126 (ρ h0 2) = .inl (κ 0, 12967, .inl g27) := (hF127 _ (by rw [y1]; decide)).trans hf_33
          exact W.iret (v := r124) hx hb hr (fun t ht hW => ⟨⟨r124, f126, rfl, ⟨hT, hR, trivial, (by rw [hf_128, mo_i1]; exact hI)⟩, by rw [ht]; exact hP, va_K.moved hW.alike hK, hD⟩, hS.F ht⟩) hS.2.2 dX12_terminal_58
set_option maxHeartbeats 4000000 in
set_option maxRecDepth 100000 in
theorem t_X12_ship (l : Launch) (dC : Nat → ClassId) (dI : Nat → Nat → Nat) (sz : Nat) (κ : Nat → ClassId) (τ ν : Nat → Nat) (ρ : Nat → Nat → Nat) (L : List Nat) (f : Nat → va_E) (hG : tp_G τ ν ρ L) (hT : tp_T (mo_O κ) κ τ ν ρ f) (h0 : Nat) (v : Int32) (u : Int32) (a : Int32) (ht_h0 : τ h0 = 13) (hJ : mo_RI (-1) 0 (mo_R (mo_i (f (ρ h0 2))))) : Met l yX12_ship wqX12_ship ({ frames := 4, cells := 0, slots := 0, locals := 1200 }) (va_Pc [.ref h0, .int v, .int u, .int a] (pz_B dC dI (tp_K κ) (va_pl L f) sz)) (va_Qi (fun (r : Int32) (f1 : Nat → va_E) => tp_T (mo_O κ) κ τ ν ρ f1 ∧ tp_F τ [13, 32] f f1 ∧ True ∧ mo_RI (-1) 0 (mo_R (mo_i (f1 (ρ h0 2))))) (fun (f1 : Nat → va_E) (t : State) => pz_E dC dI (tp_K κ) (va_A (va_pl L f) sz) (va_pl L f1) t) (va_A (va_pl L f) sz)) 0 0 (va_A (va_pl L f) sz) := by
  refine Met.ofW (cc := cX12_ship) (maxL := 6) (ret := some .int) (by decide) rfl ?_
  intro p e s m args below meth c s₁ B hml hv
  obtain ⟨rfl, hsz, hP, hK, hD0, hN⟩ := hv
  have hx := B.exec
  have hb := B.bytes
  have hr := B.returns
  have hts := fun (w : Cond) (h : w ∈ WALL) => atoms_spec (ws := wqX12_ship) B.pre w (List.mem_cons_of_mem _ h)
  have hown : s.vm.findClass RX12 = some m.cls := findClass_of_methodNamed B.named
  have hlocks := B.notSynchronized
  subst hsz
  have hD := hD0.self (sz := s.heap.size)
  generalize hAe : va_A (va_pl L f) s.heap.size = A at hD ⊢
  have hA : ∀ q : Nat, s.heap.size ≤ q → A q := fun q h => by rw [← hAe]; exact Or.inr h
  have hS : va_S A s.heap s.heap [] := va_S.rf
  have hR : tp_F τ [13, 32] f f := tp_F.rf
  have hl := lv_entry ([.ref h0, .int v, .int u, .int a]) (n := 6) (Nat.le_of_ble_eq_true rfl)
  rw [lg_entry_eq]
  generalize (lg_sl ([.ref h0, .int v, .int u, .int a]) ++ List.replicate (6 - (lg_sl ([.ref h0, .int v, .int u, .int a])).length) Slot.unset).toArray = ls at hl ⊢
  have hl : lv_has ls 6 [(0, .ref h0), (1, .int v), (2, .int u), (3, .int a)] := hl
  obtain ⟨y1, y2, y3, y4, y5, y6, y7, y8, y9, y10, y11, y12, y13, y14, y15, y16, y17, y18, y19, y20, y21, y22, y23, y24, y25⟩ := tpg_13 hG ht_h0
  obtain ⟨g27, hf_o26⟩ := tpo_32 hT y1
  have hI : mo_RI (-1) 0 (mo_R g27) := by have q9 := hJ; rw [hf_o26, mo_i1] at q9; exact q9
  refine lv_aload_n hx hb dX12_ship_0 rfl (lv_at hl 0 rfl) ?_
  refine lv_iconst (v := 0) hx hb dX12_ship_1 (by decide) ?_
  obtain ⟨o28_x0, o28_x1, o28_x7, o28_x9, o28_x10, o28_x11, o28_x12, o28_x13, o28_x14, o28_x15, o28_x16, o28_x17, o28_x18, o28_x19, o28_x20, o28_x22, o28_x25, o28_x28, o28_x29, o28_x32, o28_x33, o28_x34, o28_x35, o28_x36, o28_x37, o28_x38, o28_x47, o28_x48, hf_o28, ro28_0, ro28_1, ro28_2, ro28_3, ro28_4, ro28_5, ro28_6, ro28_7, ro28_8, ro28_9, ro28_10, ro28_11, ro28_12, ro28_13⟩ := tpo_13 hT ht_h0
  obtain ⟨q29, eq29⟩ := tp_pos (tp_in hG ht_h0 (by decide)) hf_o28
  refine va_put (D := (dC, dI)) (ci := 12) (v := .int 0) (ty := .int) (C := RX12) (T := TX12) (N := 53) hx hb hts hfX12 tyX12 tyX12_ok nmX12 hown hK hP hD hS q29 eq29 rfl 0 (by decide) (hts (.fieldLink RX12 91 "ColdShipsModel" "thrown" "I") wa_209) (fun _ h9 => h9) rfl (tyX12_ok 0 (by decide)) rfl rfl (Nat.le_of_ble_eq_true rfl) dX12_ship_2 (tp_k (.inr (12, [.int 0, .int o28_x1, .ref (ρ h0 2), .ref (ρ h0 3), .ref (ρ h0 4), .ref (ρ h0 5), .ref (ρ h0 6), .int o28_x7, .ref (ρ h0 8), .int o28_x9, .int o28_x10, .int o28_x11, .int o28_x12, .long o28_x13, .int o28_x14, .int o28_x15, .int o28_x16, .int o28_x17, .int o28_x18, .int o28_x19, .int o28_x20, .ref (ρ h0 21), .int o28_x22, .ref (ρ h0 23), .ref (ρ h0 24), .int o28_x25, .ref (ρ h0 26), .ref (ρ h0 27), .int o28_x28, .int o28_x29, .ref (ρ h0 30), .ref (ρ h0 31), .int o28_x32, .long o28_x33, .long o28_x34, .long o28_x35, .int o28_x36, .int o28_x37, .int o28_x38, .ref (ρ h0 39), .ref (ρ h0 40), .ref (ρ h0 41), .ref (ρ h0 42), .ref (ρ h0 43), .ref (ρ h0 44), .ref (ρ h0 45), .ref (ρ h0 46), .int o28_x47, .int o28_x48, .ref (ρ h0 49), .ref (ρ h0 50), .ref (ρ h0 51), .ref (ρ h0 52)])) hD (tp_in hG ht_h0 (by decide)) eq29 (fun f30 H locs hP hD hS g32 k31 => ?_))
  have hT := hT.up ht_h0 g32 k31 ⟨_, _, _, _, _, _, _, _, _, _, _, _, _, _, _, _, _, _, _, _, _, _, _, _, _, _, _, _, rfl, ro28_0, ro28_1, ro28_2, ro28_3, ro28_4, ro28_5, ro28_6, ro28_7, ro28_8, ro28_9, ro28_10, ro28_11, ro28_12, ro28_13⟩
  have hR := hR.up ht_h0 (by decide) k31
  refine lv_iload_n hx hb dX12_ship_5 rfl (lv_at hl 2 rfl) ?_
  refine lv_i2l hx hb dX12_ship_6 rfl ?_
  refine lv_ldc2 (own := RX12) (v := 1000) hx hb hown (hts (.constantLong RX12 122 (1000)) wa_271) dX12_ship_7 ?_
  refine lv_ldc2 (own := RX12) (v := 200000) hx hb hown (hts (.constantLong RX12 124 (200000)) wa_272) dX12_ship_10 ?_
  have hf_33 : f30 (ρ h0 2) = .inl (κ 0, 12967, .inl g27) := (k31 _ (tp_ne y1 ht_h0 (by decide))).trans hf_o26
  refine pz_calli (va_runS (As := [.long u.toInt64, .long 1000, .long 200000]) (rest := []) ⟨hx, hb, hml, hown, hts⟩ (t_X12_in l dC dI _ u.toInt64 (1000) (200000) (u.toInt) (1000) (200000) (Int32.toInt_toInt64 u) rfl rfl) (va_cwS 3 hts gX12_ship_X12_in rfl rfl rfl pd_X12_in ⟨Nat.le_of_ble_eq_true rfl, Nat.le_of_ble_eq_true rfl⟩) ⟨pz_blind, pz_pre pz_P0 (hK.sub (tys' := []) [] rfl) (pz_D0 (A := fun _ => True)) hN⟩ rfl rfl hl.1 rfl (lv_room (Nat.le_of_ble_eq_true rfl)) dX12_ship_13 ⟨Nat.le_of_ble_eq_true rfl, Nat.le_of_ble_eq_true rfl⟩) (fun r34 hw35 => ?_)
  obtain ⟨hw35r, hw35p⟩ := hw35
  refine lv_if_eq (tgt := 31) hx hb dX12_ship_16 (by decide) (fun c36 => ?_) (fun c36 => ?_)
  · have ic36 : r34.toInt = 0 := zi_eq rfl rfl c36
    refine lv_aload_n hx hb dX12_ship_31 rfl (lv_at hl 0 rfl) ?_
    refine lv_iconst (v := (-1)) hx hb dX12_ship_32 (by decide) ?_
    obtain ⟨q37, eq37⟩ := tp_pos (tp_in hG ht_h0 (by decide)) g32
    have hFc := tp_fr hD hS hA
    refine va_calli (va_runV (As := [.int (-1)]) (rest := []) ⟨hx, hb, hml, hown, hts⟩ (t_X12_told l dC dI _ κ τ ν ρ L f30 hG hT h0 ((-1)) ht_h0) (cwV 1 hts gX12_ship_X12_told rfl rfl rfl ⟨rfl, pd_X12_told⟩ ⟨Nat.le_of_ble_eq_true rfl, Nat.le_of_ble_eq_true rfl⟩) ⟨pz_blind, va_recv hK hP (ci := 12) (q0 := q37) rfl eq37, pz_pre hP hK hD hN⟩ rfl rfl hl.1 rfl (lv_room (Nat.le_of_ble_eq_true rfl)) dX12_ship_33 ⟨Nat.le_of_ble_eq_true rfl, Nat.le_of_ble_eq_true rfl⟩) hS (fun q _ h => hFc q h) hFc (fun r38 f40 t H1 locs ht hvm hw39 hB hz1 hk1 hS => ?_)
    obtain ⟨hT, hF41, hw39r, hw39p⟩ := hw39
    have hR := hR.then hF41 (by decide)
    have hP := hB.1; rw [ht] at hP; have hD := tp_ad f40 hD; clear hB hFc hz1 hk1; subst ht; generalize t.heap = H at hP hS ⊢
    have hw39pq : r38.toInt = (-1) := by rw [hw39p]; rfl
    have hf_42 : f40 (ρ h0 2) = .inl (κ 0, 12967, .inl g27) := (hF41 _ (by rw [y1]; decide)).trans hf_33
    exact W.iret (v := r38) hx hb hr (fun t ht hW => ⟨⟨r38, f40, rfl, ⟨hT, hR, trivial, (by rw [hf_42, mo_i1]; exact hI)⟩, by rw [ht]; exact hP, va_K.moved hW.alike hK, hD⟩, hS.F ht⟩) hS.2.2 dX12_ship_36
  · have ic36 : r34.toInt ≠ 0 := zi_eqf rfl rfl c36
    have p43 : (1000) ≤ (u.toInt) ∧ (u.toInt) ≤ (200000) := (tp_cond.yes hw35p) (by omega)
    refine lv_iload_n hx hb dX12_ship_19 rfl (lv_at hl 3 rfl) ?_
    refine lv_i2l hx hb dX12_ship_20 rfl ?_
    refine lv_lconst (v := 1) hx hb dX12_ship_21 (by decide) ?_
    refine lv_ldc2 (own := RX12) (v := 50) hx hb hown (hts (.constantLong RX12 126 (50)) wa_273) dX12_ship_22 ?_
    refine pz_calli (va_runS (As := [.long a.toInt64, .long 1, .long 50]) (rest := []) ⟨hx, hb, hml, hown, hts⟩ (t_X12_in l dC dI _ a.toInt64 (1) (50) (a.toInt) (1) (50) (Int32.toInt_toInt64 a) rfl rfl) (va_cwS 3 hts gX12_ship_X12_in rfl rfl rfl pd_X12_in ⟨Nat.le_of_ble_eq_true rfl, Nat.le_of_ble_eq_true rfl⟩) ⟨pz_blind, pz_pre pz_P0 (hK.sub (tys' := []) [] rfl) (pz_D0 (A := fun _ => True)) hN⟩ rfl rfl hl.1 rfl (lv_room (Nat.le_of_ble_eq_true rfl)) dX12_ship_25 ⟨Nat.le_of_ble_eq_true rfl, Nat.le_of_ble_eq_true rfl⟩) (fun r44 hw45 => ?_)
    obtain ⟨hw45r, hw45p⟩ := hw45
    refine lv_if_ne (tgt := 37) hx hb dX12_ship_28 (by decide) (fun c46 => ?_) (fun c46 => ?_)
    · have ic46 : r44.toInt ≠ 0 := zi_ne rfl rfl c46
      have p47 : (1) ≤ (a.toInt) ∧ (a.toInt) ≤ (50) := (tp_cond.yes hw45p) (by omega)
      refine lv_aload_n hx hb dX12_ship_37 rfl (lv_at hl 0 rfl) ?_
      refine lv_iload_n hx hb dX12_ship_38 rfl (lv_at hl 1 rfl) ?_
      obtain ⟨q48, eq48⟩ := tp_pos (tp_in hG ht_h0 (by decide)) g32
      refine pz_calli (va_runV (As := [.int v]) (rest := []) ⟨hx, hb, hml, hown, hts⟩ (t_X12_isTerminal l dC dI _ κ τ ν ρ L f30 hG hT h0 v (-1) 0 ht_h0 (by omega) (by rw [hf_33, mo_i1]; exact hI)) (cwV 1 hts gX12_ship_X12_isTerminal rfl rfl rfl ⟨rfl, pd_X12_isTerminal⟩ ⟨Nat.le_of_ble_eq_true rfl, Nat.le_of_ble_eq_true rfl⟩) ⟨pz_blind, va_recv hK hP (ci := 12) (q0 := q48) rfl eq48, pz_pre hP hK hD hN⟩ rfl rfl hl.1 rfl (lv_room (Nat.le_of_ble_eq_true rfl)) dX12_ship_39 ⟨Nat.le_of_ble_eq_true rfl, Nat.le_of_ble_eq_true rfl⟩) (fun r49 hw50 => ?_)
      obtain ⟨hw50r, hw50p⟩ := hw50
      have := hI.k0
      rw [hf_33, mo_i1] at hw50p
      refine lv_if_ne (tgt := 52) hx hb dX12_ship_42 (by decide) (fun c51 => ?_) (fun c51 => ?_)
      · have ic51 : r49.toInt ≠ 0 := zi_ne rfl rfl c51
        have p52 : 0 ≤ v.toInt ∧ v.toInt < mo_R g27 0 := (tp_cond.yes hw50p) (by omega)
        refine lv_aload_n hx hb dX12_ship_52 rfl (lv_at hl 0 rfl) ?_
        refine va_get (D := (dC, dI)) (ci := 12) (v := .ref (ρ h0 2)) (C := RX12) (T := TX12) (N := 53) hx hb hts hfX12 hown hK hP q48 eq48 rfl 2 (by decide) (hts (.fieldLink RX12 7 "ColdShipsModel" "row" "[I") wa_148) (fun _ h9 => h9) rfl dX12_ship_53 ?_
        refine lv_iconst (v := 1) hx hb dX12_ship_56 (by decide) ?_
        obtain ⟨q53, eq53⟩ := tp_pos (tp_in hG y1 (by decide)) hf_33
        refine va_iald hx hb hK hP q53 0 eq53 rfl (vp_in_iff.mpr ⟨by decide, by decide⟩) dX12_ship_57 ?_
        refine lv_topi (fun z54 ez54 => ?_)
        have jz54 : z54.toInt = mo_R g27 (1) := mo_rd ez54 (show (1 : Int32).toInt = (1) from by decide)
        have kz54 := hI.k1
        refine lv_bipush (v := 6) hx hb dX12_ship_58 (by decide) ?_
        refine lv_icmp_ne (tgt := 70) hx hb dX12_ship_60 (by decide) (fun c55 => ?_) (fun c55 => ?_)
        · have ic55 : z54.toInt ≠ 6 := zi_ne rfl rfl c55
          refine lv_aload_n hx hb dX12_ship_70 rfl (lv_at hl 0 rfl) ?_
          refine va_get (D := (dC, dI)) (ci := 12) (v := .ref (ρ h0 2)) (C := RX12) (T := TX12) (N := 53) hx hb hts hfX12 hown hK hP q48 eq48 rfl 2 (by decide) (hts (.fieldLink RX12 7 "ColdShipsModel" "row" "[I") wa_148) (fun _ h9 => h9) rfl dX12_ship_71 ?_
          refine lv_iconst (v := 1) hx hb dX12_ship_74 (by decide) ?_
          refine va_iald hx hb hK hP q53 0 eq53 rfl (vp_in_iff.mpr ⟨by decide, by decide⟩) dX12_ship_75 ?_
          refine lv_topi (fun z56 ez56 => ?_)
          have jz56 : z56.toInt = mo_R g27 (1) := mo_rd ez56 (show (1 : Int32).toInt = (1) from by decide)
          have kz56 := hI.k1
          refine pz_calli (va_runS (As := [.int z56]) (rest := []) ⟨hx, hb, hml, hown, hts⟩ (t_X12_shipAt l dC dI _ z56 (z56.toInt) (by omega) rfl) (va_cwS 1 hts gX12_ship_X12_shipAt rfl rfl rfl pd_X12_shipAt ⟨Nat.le_of_ble_eq_true rfl, Nat.le_of_ble_eq_true rfl⟩) ⟨pz_blind, pz_pre pz_P0 (hK.sub (tys' := []) [] rfl) (pz_D0 (A := fun _ => True)) hN⟩ rfl rfl hl.1 rfl (lv_room (Nat.le_of_ble_eq_true rfl)) dX12_ship_76 ⟨Nat.le_of_ble_eq_true rfl, Nat.le_of_ble_eq_true rfl⟩) (fun r57 hw58 => ?_)
          obtain ⟨hw58r, hw58p⟩ := hw58
          refine lv_istore (lv' := [(4, .int r57), (0, .ref h0), (1, .int v), (2, .int u), (3, .int a)]) hx hb dX12_ship_79 hl (by decide) rfl (fun ls hl => ?_)
          refine lv_iconst (v := 0) hx hb dX12_ship_81 (by decide) ?_
          refine lv_istore (lv' := [(5, .int 0), (4, .int r57), (0, .ref h0), (1, .int v), (2, .int u), (3, .int a)]) hx hb dX12_ship_82 hl (by decide) rfl (fun ls hl => ?_)
          refine pz_loop (fun n0 H locs ls => ∃ f60 : Nat → va_E, ∃ w59 : Int32, n0 = (84 - (w59.toInt)).toNat ∧ tp_T (mo_O κ) κ τ ν ρ f60 ∧ tp_F τ [13, 32] f f60 ∧ ((mo_RI (-1) 0 (mo_R (mo_i (f60 (ρ h0 2)))))) ∧ (((mo_R (mo_i (f60 (ρ h0 2)))) (1) = z54.toInt)) ∧ ((∀ j, 0 ≤ j → j < (w59.toInt) → (mo_R (mo_i (f60 (ρ h0 2)))) (547 + 84 * z54.toInt + j) = 0)) ∧ (0 ≤ w59.toInt ∧ w59.toInt ≤ 84) ∧ va_P (dC, dI) vwCl (va_pl L f60) H ∧ va_D A (va_pl L f60) ∧ va_S A s.heap H locs ∧ lv_has ls 6 [(5, .int w59), (4, .int r57), (0, .ref h0), (1, .int v), (2, .int u), (3, .int a)]) ?_ _ _ _ _ ⟨f30, 0, rfl, hT, hR, (by rw [hf_33, mo_i1]; exact hI), (by rw [hf_33, mo_i1]; have : (0 : Int32).toInt = 0 := rfl; omega), (fun j j1 j2 => absurd j2 (by have : (0 : Int32).toInt = 0 := rfl; omega)), (by have : (0 : Int32).toInt = 0 := rfl; omega), hP, hD, hS, lv_sub hl [0, 1, 2, 3, 4, 5] rfl⟩
          intro n0 H locs ls hI ih62
          obtain ⟨f60, w59, hn63, hT, hR, hJ, jf64, jf65, rw59, hP, hD, hS, hl⟩ := hI
          obtain ⟨g67, hf_o66⟩ := tpo_32 hT y1
          have hI : mo_RI (-1) 0 (mo_R g67) := by have q9 := hJ; rw [hf_o66, mo_i1] at q9; exact q9
          rw [hf_o66, mo_i1] at jf64
          rw [hf_o66, mo_i1] at jf65
          refine lv_iload hx hb dX12_ship_84 (lv_at hl 0 rfl) ?_
          refine lv_bipush (v := 84) hx hb dX12_ship_86 (by decide) ?_
          refine lv_icmp_ge (tgt := 108) hx hb dX12_ship_88 (by decide) (fun c68 => ?_) (fun c68 => ?_)
          · have ic68 : w59.toInt ≥ 84 := zi_ge rfl rfl c68
            have hz : ∀ j, 0 ≤ j → j < 84 → j ≠ 0 → j ≠ 6 → j ≠ 7 → j ≠ 8 → mo_R g67 (547 + 84 * z54.toInt + j) = 0 := fun j j1 j2 _ _ _ _ => jf65 j j1 (by omega)
            refine lv_aload_n hx hb dX12_ship_108 rfl (lv_at hl 2 rfl) ?_
            obtain ⟨o69_x0, o69_x1, o69_x7, o69_x9, o69_x10, o69_x11, o69_x12, o69_x13, o69_x14, o69_x15, o69_x16, o69_x17, o69_x18, o69_x19, o69_x20, o69_x22, o69_x25, o69_x28, o69_x29, o69_x32, o69_x33, o69_x34, o69_x35, o69_x36, o69_x37, o69_x38, o69_x47, o69_x48, hf_o69, ro69_0, ro69_1, ro69_2, ro69_3, ro69_4, ro69_5, ro69_6, ro69_7, ro69_8, ro69_9, ro69_10, ro69_11, ro69_12, ro69_13⟩ := tpo_13 hT ht_h0
            obtain ⟨q70, eq70⟩ := tp_pos (tp_in hG ht_h0 (by decide)) hf_o69
            refine va_get (D := (dC, dI)) (ci := 12) (v := .ref (ρ h0 2)) (C := RX12) (T := TX12) (N := 53) hx hb hts hfX12 hown hK hP q70 eq70 rfl 2 (by decide) (hts (.fieldLink RX12 7 "ColdShipsModel" "row" "[I") wa_148) (fun _ h9 => h9) rfl dX12_ship_109 ?_
            refine lv_iload hx hb dX12_ship_112 (lv_at hl 1 rfl) ?_
            refine lv_iconst (v := 0) hx hb dX12_ship_114 (by decide) ?_
            refine lv_iadd hx hb dX12_ship_115 ?_
            refine lv_topi (fun z71 ez71 => ?_)
            have iz71 : z71.toInt = r57.toInt + 0 := zi_add ez71 rfl rfl (by omega) (by omega)
            refine lv_iload_n hx hb dX12_ship_116 rfl (lv_at hl 3 rfl) ?_
            obtain ⟨q72, eq72⟩ := tp_pos (tp_in hG y1 (by decide)) hf_o66
            refine va_iast hx hb hK hP hD hS q72 0 eq72 rfl (vp_in_iff.mpr ⟨by omega, by omega⟩) dX12_ship_117 (tp_k (.inl (κ 0, 12967, .inl (upd g67 z71.toNatClampNeg v))) hD (tp_in hG y1 (by decide)) eq72 (fun f73 H locs hP hD hS g75 k74 => ?_))
            have hT := hT.up y1 g75 k74 tp_o32
            have hR := hR.up y1 (by decide) k74
            have hU : mo_U (mo_R g67) (mo_R (upd g67 z71.toNatClampNeg v)) (547 + 84 * z54.toInt + 0) (v.toInt) := mo_up (by omega) (rfl : v.toInt = _) (by omega)
            generalize (upd g67 z71.toNatClampNeg v) = g76 at g75 hU
            have hI := mo_w_snew hI hU z54.toInt 0 (by omega) (by omega) (by omega)
            have pn77 : mo_R g76 (1) = z54.toInt := (hU.ne (by omega) (by omega)).trans jf64
            have pn78 : mo_R g76 (547 + 84 * z54.toInt + 0) = v.toInt := hU.eq (by omega)
            have hz : ∀ j, 0 ≤ j → j < 84 → j ≠ 0 → j ≠ 6 → j ≠ 7 → j ≠ 8 → mo_R g76 (547 + 84 * z54.toInt + j) = 0 := fun j j1 j2 j3 j4 j5 j6 => (hU.ne (by omega) (by omega)).trans (hz j j1 j2 j3 j4 j5 j6)
            refine lv_aload_n hx hb dX12_ship_118 rfl (lv_at hl 2 rfl) ?_
            have hf_79 : f73 h0 = .inr (12, [.int o69_x0, .int o69_x1, .ref (ρ h0 2), .ref (ρ h0 3), .ref (ρ h0 4), .ref (ρ h0 5), .ref (ρ h0 6), .int o69_x7, .ref (ρ h0 8), .int o69_x9, .int o69_x10, .int o69_x11, .int o69_x12, .long o69_x13, .int o69_x14, .int o69_x15, .int o69_x16, .int o69_x17, .int o69_x18, .int o69_x19, .int o69_x20, .ref (ρ h0 21), .int o69_x22, .ref (ρ h0 23), .ref (ρ h0 24), .int o69_x25, .ref (ρ h0 26), .ref (ρ h0 27), .int o69_x28, .int o69_x29, .ref (ρ h0 30), .ref (ρ h0 31), .int o69_x32, .long o69_x33, .long o69_x34, .long o69_x35, .int o69_x36, .int o69_x37, .int o69_x38, .ref (ρ h0 39), .ref (ρ h0 40), .ref (ρ h0 41), .ref (ρ h0 42), .ref (ρ h0 43), .ref (ρ h0 44), .ref (ρ h0 45), .ref (ρ h0 46), .int o69_x47, .int o69_x48, .ref (ρ h0 49), .ref (ρ h0 50), .ref (ρ h0 51), .ref (ρ h0 52)]) := (k74 _ (tp_ne ht_h0 y1 (by decide))).trans hf_o69
            obtain ⟨q80, eq80⟩ := tp_pos (tp_in hG ht_h0 (by decide)) hf_79
            refine va_get (D := (dC, dI)) (ci := 12) (v := .ref (ρ h0 2)) (C := RX12) (T := TX12) (N := 53) hx hb hts hfX12 hown hK hP q80 eq80 rfl 2 (by decide) (hts (.fieldLink RX12 7 "ColdShipsModel" "row" "[I") wa_148) (fun _ h9 => h9) rfl dX12_ship_119 ?_
            refine lv_iload hx hb dX12_ship_122 (lv_at hl 1 rfl) ?_
            refine lv_bipush (v := 6) hx hb dX12_ship_124 (by decide) ?_
            refine lv_iadd hx hb dX12_ship_126 ?_
            refine lv_topi (fun z81 ez81 => ?_)
            have iz81 : z81.toInt = r57.toInt + 6 := zi_add ez81 rfl rfl (by omega) (by omega)
            refine lv_sipush (v := 1800) hx hb dX12_ship_127 (by decide) ?_
            obtain ⟨q82, eq82⟩ := tp_pos (tp_in hG y1 (by decide)) g75
            refine va_iast hx hb hK hP hD hS q82 0 eq82 rfl (vp_in_iff.mpr ⟨by omega, by omega⟩) dX12_ship_130 (tp_k (.inl (κ 0, 12967, .inl (upd g76 z81.toNatClampNeg (1800 : Int32)))) hD (tp_in hG y1 (by decide)) eq82 (fun f83 H locs hP hD hS g85 k84 => ?_))
            have hT := hT.up y1 g85 k84 tp_o32
            have hR := hR.up y1 (by decide) k84
            have hU : mo_U (mo_R g76) (mo_R (upd g76 z81.toNatClampNeg (1800 : Int32))) (547 + 84 * z54.toInt + 6) (1800) := mo_up (by omega) (show (1800 : Int32).toInt = 1800 from rfl) (by omega)
            generalize (upd g76 z81.toNatClampNeg (1800 : Int32)) = g86 at g85 hU
            have hI := mo_w_snew hI hU z54.toInt 6 (by omega) (by omega) (by omega)
            have pn87 : mo_R g86 (1) = z54.toInt := (hU.ne (by omega) (by omega)).trans pn77
            have pn88 : mo_R g86 (547 + 84 * z54.toInt + 0) = v.toInt := (hU.ne (by omega) (by omega)).trans pn78
            have hz : ∀ j, 0 ≤ j → j < 84 → j ≠ 0 → j ≠ 6 → j ≠ 7 → j ≠ 8 → mo_R g86 (547 + 84 * z54.toInt + j) = 0 := fun j j1 j2 j3 j4 j5 j6 => (hU.ne (by omega) (by omega)).trans (hz j j1 j2 j3 j4 j5 j6)
            refine lv_aload_n hx hb dX12_ship_131 rfl (lv_at hl 2 rfl) ?_
            have hf_89 : f83 h0 = .inr (12, [.int o69_x0, .int o69_x1, .ref (ρ h0 2), .ref (ρ h0 3), .ref (ρ h0 4), .ref (ρ h0 5), .ref (ρ h0 6), .int o69_x7, .ref (ρ h0 8), .int o69_x9, .int o69_x10, .int o69_x11, .int o69_x12, .long o69_x13, .int o69_x14, .int o69_x15, .int o69_x16, .int o69_x17, .int o69_x18, .int o69_x19, .int o69_x20, .ref (ρ h0 21), .int o69_x22, .ref (ρ h0 23), .ref (ρ h0 24), .int o69_x25, .ref (ρ h0 26), .ref (ρ h0 27), .int o69_x28, .int o69_x29, .ref (ρ h0 30), .ref (ρ h0 31), .int o69_x32, .long o69_x33, .long o69_x34, .long o69_x35, .int o69_x36, .int o69_x37, .int o69_x38, .ref (ρ h0 39), .ref (ρ h0 40), .ref (ρ h0 41), .ref (ρ h0 42), .ref (ρ h0 43), .ref (ρ h0 44), .ref (ρ h0 45), .ref (ρ h0 46), .int o69_x47, .int o69_x48, .ref (ρ h0 49), .ref (ρ h0 50), .ref (ρ h0 51), .ref (ρ h0 52)]) := (k84 _ (tp_ne ht_h0 y1 (by decide))).trans hf_79
            obtain ⟨q90, eq90⟩ := tp_pos (tp_in hG ht_h0 (by decide)) hf_89
            refine va_get (D := (dC, dI)) (ci := 12) (v := .ref (ρ h0 2)) (C := RX12) (T := TX12) (N := 53) hx hb hts hfX12 hown hK hP q90 eq90 rfl 2 (by decide) (hts (.fieldLink RX12 7 "ColdShipsModel" "row" "[I") wa_148) (fun _ h9 => h9) rfl dX12_ship_132 ?_
            refine lv_iload hx hb dX12_ship_135 (lv_at hl 1 rfl) ?_
            refine lv_bipush (v := 7) hx hb dX12_ship_137 (by decide) ?_
            refine lv_iadd hx hb dX12_ship_139 ?_
            refine lv_topi (fun z91 ez91 => ?_)
            have iz91 : z91.toInt = r57.toInt + 7 := zi_add ez91 rfl rfl (by omega) (by omega)
            refine lv_iload_n hx hb dX12_ship_140 rfl (lv_at hl 4 rfl) ?_
            obtain ⟨q92, eq92⟩ := tp_pos (tp_in hG y1 (by decide)) g85
            refine va_iast hx hb hK hP hD hS q92 0 eq92 rfl (vp_in_iff.mpr ⟨by omega, by omega⟩) dX12_ship_141 (tp_k (.inl (κ 0, 12967, .inl (upd g86 z91.toNatClampNeg u))) hD (tp_in hG y1 (by decide)) eq92 (fun f93 H locs hP hD hS g95 k94 => ?_))
            have hT := hT.up y1 g95 k94 tp_o32
            have hR := hR.up y1 (by decide) k94
            have hU : mo_U (mo_R g86) (mo_R (upd g86 z91.toNatClampNeg u)) (547 + 84 * z54.toInt + 7) (u.toInt) := mo_up (by omega) (rfl : u.toInt = _) (by omega)
            generalize (upd g86 z91.toNatClampNeg u) = g96 at g95 hU
            have hI := mo_w_snew hI hU z54.toInt 7 (by omega) (by omega) (by omega)
            have pn97 : mo_R g96 (1) = z54.toInt := (hU.ne (by omega) (by omega)).trans pn87
            have pn98 : mo_R g96 (547 + 84 * z54.toInt + 0) = v.toInt := (hU.ne (by omega) (by omega)).trans pn88
            have pn99 : mo_R g96 (547 + 84 * z54.toInt + 7) = u.toInt := hU.eq (by omega)
            have hz : ∀ j, 0 ≤ j → j < 84 → j ≠ 0 → j ≠ 6 → j ≠ 7 → j ≠ 8 → mo_R g96 (547 + 84 * z54.toInt + j) = 0 := fun j j1 j2 j3 j4 j5 j6 => (hU.ne (by omega) (by omega)).trans (hz j j1 j2 j3 j4 j5 j6)
            refine lv_aload_n hx hb dX12_ship_142 rfl (lv_at hl 2 rfl) ?_
            have hf_100 : f93 h0 = .inr (12, [.int o69_x0, .int o69_x1, .ref (ρ h0 2), .ref (ρ h0 3), .ref (ρ h0 4), .ref (ρ h0 5), .ref (ρ h0 6), .int o69_x7, .ref (ρ h0 8), .int o69_x9, .int o69_x10, .int o69_x11, .int o69_x12, .long o69_x13, .int o69_x14, .int o69_x15, .int o69_x16, .int o69_x17, .int o69_x18, .int o69_x19, .int o69_x20, .ref (ρ h0 21), .int o69_x22, .ref (ρ h0 23), .ref (ρ h0 24), .int o69_x25, .ref (ρ h0 26), .ref (ρ h0 27), .int o69_x28, .int o69_x29, .ref (ρ h0 30), .ref (ρ h0 31), .int o69_x32, .long o69_x33, .long o69_x34, .long o69_x35, .int o69_x36, .int o69_x37, .int o69_x38, .ref (ρ h0 39), .ref (ρ h0 40), .ref (ρ h0 41), .ref (ρ h0 42), .ref (ρ h0 43), .ref (ρ h0 44), .ref (ρ h0 45), .ref (ρ h0 46), .int o69_x47, .int o69_x48, .ref (ρ h0 49), .ref (ρ h0 50), .ref (ρ h0 51), .ref (ρ h0 52)]) := (k94 _ (tp_ne ht_h0 y1 (by decide))).trans hf_89
            obtain ⟨q101, eq101⟩ := tp_pos (tp_in hG ht_h0 (by decide)) hf_100
            refine va_get (D := (dC, dI)) (ci := 12) (v := .ref (ρ h0 2)) (C := RX12) (T := TX12) (N := 53) hx hb hts hfX12 hown hK hP q101 eq101 rfl 2 (by decide) (hts (.fieldLink RX12 7 "ColdShipsModel" "row" "[I") wa_148) (fun _ h9 => h9) rfl dX12_ship_143 ?_
            refine lv_iload hx hb dX12_ship_146 (lv_at hl 1 rfl) ?_
            refine lv_bipush (v := 8) hx hb dX12_ship_148 (by decide) ?_
            refine lv_iadd hx hb dX12_ship_150 ?_
            refine lv_topi (fun z102 ez102 => ?_)
            have iz102 : z102.toInt = r57.toInt + 8 := zi_add ez102 rfl rfl (by omega) (by omega)
            refine lv_iload_n hx hb dX12_ship_151 rfl (lv_at hl 5 rfl) ?_
            obtain ⟨q103, eq103⟩ := tp_pos (tp_in hG y1 (by decide)) g95
            refine va_iast hx hb hK hP hD hS q103 0 eq103 rfl (vp_in_iff.mpr ⟨by omega, by omega⟩) dX12_ship_152 (tp_k (.inl (κ 0, 12967, .inl (upd g96 z102.toNatClampNeg a))) hD (tp_in hG y1 (by decide)) eq103 (fun f104 H locs hP hD hS g106 k105 => ?_))
            have hT := hT.up y1 g106 k105 tp_o32
            have hR := hR.up y1 (by decide) k105
            have hU : mo_U (mo_R g96) (mo_R (upd g96 z102.toNatClampNeg a)) (547 + 84 * z54.toInt + 8) (a.toInt) := mo_up (by omega) (rfl : a.toInt = _) (by omega)
            generalize (upd g96 z102.toNatClampNeg a) = g107 at g106 hU
            have hI := mo_w_snew hI hU z54.toInt 8 (by omega) (by omega) (by omega)
            have pn108 : mo_R g107 (1) = z54.toInt := (hU.ne (by omega) (by omega)).trans pn97
            have pn109 : mo_R g107 (547 + 84 * z54.toInt + 0) = v.toInt := (hU.ne (by omega) (by omega)).trans pn98
            have pn110 : mo_R g107 (547 + 84 * z54.toInt + 7) = u.toInt := (hU.ne (by omega) (by omega)).trans pn99
            have pn111 : mo_R g107 (547 + 84 * z54.toInt + 8) = a.toInt := hU.eq (by omega)
            have hz : ∀ j, 0 ≤ j → j < 84 → j ≠ 0 → j ≠ 6 → j ≠ 7 → j ≠ 8 → mo_R g107 (547 + 84 * z54.toInt + j) = 0 := fun j j1 j2 j3 j4 j5 j6 => (hU.ne (by omega) (by omega)).trans (hz j j1 j2 j3 j4 j5 j6)
            refine lv_aload_n hx hb dX12_ship_153 rfl (lv_at hl 2 rfl) ?_
            have hf_112 : f104 h0 = .inr (12, [.int o69_x0, .int o69_x1, .ref (ρ h0 2), .ref (ρ h0 3), .ref (ρ h0 4), .ref (ρ h0 5), .ref (ρ h0 6), .int o69_x7, .ref (ρ h0 8), .int o69_x9, .int o69_x10, .int o69_x11, .int o69_x12, .long o69_x13, .int o69_x14, .int o69_x15, .int o69_x16, .int o69_x17, .int o69_x18, .int o69_x19, .int o69_x20, .ref (ρ h0 21), .int o69_x22, .ref (ρ h0 23), .ref (ρ h0 24), .int o69_x25, .ref (ρ h0 26), .ref (ρ h0 27), .int o69_x28, .int o69_x29, .ref (ρ h0 30), .ref (ρ h0 31), .int o69_x32, .long o69_x33, .long o69_x34, .long o69_x35, .int o69_x36, .int o69_x37, .int o69_x38, .ref (ρ h0 39), .ref (ρ h0 40), .ref (ρ h0 41), .ref (ρ h0 42), .ref (ρ h0 43), .ref (ρ h0 44), .ref (ρ h0 45), .ref (ρ h0 46), .int o69_x47, .int o69_x48, .ref (ρ h0 49), .ref (ρ h0 50), .ref (ρ h0 51), .ref (ρ h0 52)]) := (k105 _ (tp_ne ht_h0 y1 (by decide))).trans hf_100
            obtain ⟨q113, eq113⟩ := tp_pos (tp_in hG ht_h0 (by decide)) hf_112
            refine va_get (D := (dC, dI)) (ci := 12) (v := .ref (ρ h0 2)) (C := RX12) (T := TX12) (N := 53) hx hb hts hfX12 hown hK hP q113 eq113 rfl 2 (by decide) (hts (.fieldLink RX12 7 "ColdShipsModel" "row" "[I") wa_148) (fun _ h9 => h9) rfl dX12_ship_154 ?_
            refine lv_iconst (v := 1) hx hb dX12_ship_157 (by decide) ?_
            refine lv_dup2_11 hx hb dX12_ship_158 rfl rfl ?_
            obtain ⟨q114, eq114⟩ := tp_pos (tp_in hG y1 (by decide)) g106
            refine va_iald hx hb hK hP q114 0 eq114 rfl (vp_in_iff.mpr ⟨by decide, by decide⟩) dX12_ship_159 ?_
            refine lv_topi (fun z115 ez115 => ?_)
            have jz115 : z115.toInt = mo_R g107 (1) := mo_rd ez115 (show (1 : Int32).toInt = (1) from by decide)
            have kz115 := hI.k1
            refine lv_iconst (v := 1) hx hb dX12_ship_160 (by decide) ?_
            refine lv_iadd hx hb dX12_ship_161 ?_
            refine lv_topi (fun z116 ez116 => ?_)
            have iz116 : z116.toInt = z115.toInt + 1 := zi_add ez116 rfl rfl (by omega) (by omega)
            refine va_iast hx hb hK hP hD hS q114 0 eq114 rfl (vp_in_iff.mpr ⟨by decide, by decide⟩) dX12_ship_162 (tp_k (.inl (κ 0, 12967, .inl (upd g107 (1 : Int32).toNatClampNeg z116))) hD (tp_in hG y1 (by decide)) eq114 (fun f117 H locs hP hD hS g119 k118 => ?_))
            have hT := hT.up y1 g119 k118 tp_o32
            have hR := hR.up y1 (by decide) k118
            have hU : mo_U (mo_R g107) (mo_R (upd g107 (1 : Int32).toNatClampNeg z116)) (1) (z116.toInt) := mo_up (show (1 : Int32).toInt = (1) from by decide) (rfl : z116.toInt = _) (by omega)
            generalize (upd g107 (1 : Int32).toNatClampNeg z116) = g120 at g119 hU
            have hI := mo_w_nS hI hU (z54.toInt) rfl pn108 (by omega) (by omega) (by omega) (by omega) (by omega) hz
            have pn121 : mo_R g120 (547 + 84 * z54.toInt + 0) = v.toInt := (hU.ne (by omega) (by omega)).trans pn109
            have pn122 : mo_R g120 (547 + 84 * z54.toInt + 7) = u.toInt := (hU.ne (by omega) (by omega)).trans pn110
            have pn123 : mo_R g120 (547 + 84 * z54.toInt + 8) = a.toInt := (hU.ne (by omega) (by omega)).trans pn111
            have pn124 : mo_R g120 (1) = z116.toInt := hU.eq (by omega)
            refine lv_aload_n hx hb dX12_ship_163 rfl (lv_at hl 2 rfl) ?_
            refine lv_aload_n hx hb dX12_ship_164 rfl (lv_at hl 2 rfl) ?_
            have hf_125 : f117 h0 = .inr (12, [.int o69_x0, .int o69_x1, .ref (ρ h0 2), .ref (ρ h0 3), .ref (ρ h0 4), .ref (ρ h0 5), .ref (ρ h0 6), .int o69_x7, .ref (ρ h0 8), .int o69_x9, .int o69_x10, .int o69_x11, .int o69_x12, .long o69_x13, .int o69_x14, .int o69_x15, .int o69_x16, .int o69_x17, .int o69_x18, .int o69_x19, .int o69_x20, .ref (ρ h0 21), .int o69_x22, .ref (ρ h0 23), .ref (ρ h0 24), .int o69_x25, .ref (ρ h0 26), .ref (ρ h0 27), .int o69_x28, .int o69_x29, .ref (ρ h0 30), .ref (ρ h0 31), .int o69_x32, .long o69_x33, .long o69_x34, .long o69_x35, .int o69_x36, .int o69_x37, .int o69_x38, .ref (ρ h0 39), .ref (ρ h0 40), .ref (ρ h0 41), .ref (ρ h0 42), .ref (ρ h0 43), .ref (ρ h0 44), .ref (ρ h0 45), .ref (ρ h0 46), .int o69_x47, .int o69_x48, .ref (ρ h0 49), .ref (ρ h0 50), .ref (ρ h0 51), .ref (ρ h0 52)]) := (k118 _ (tp_ne ht_h0 y1 (by decide))).trans hf_112
            obtain ⟨q126, eq126⟩ := tp_pos (tp_in hG ht_h0 (by decide)) hf_125
            refine va_get (D := (dC, dI)) (ci := 12) (v := .ref (ρ h0 2)) (C := RX12) (T := TX12) (N := 53) hx hb hts hfX12 hown hK hP q126 eq126 rfl 2 (by decide) (hts (.fieldLink RX12 7 "ColdShipsModel" "row" "[I") wa_148) (fun _ h9 => h9) rfl dX12_ship_165 ?_
            refine lv_iconst (v := 1) hx hb dX12_ship_168 (by decide) ?_
            obtain ⟨q127, eq127⟩ := tp_pos (tp_in hG y1 (by decide)) g119
            refine va_iald hx hb hK hP q127 0 eq127 rfl (vp_in_iff.mpr ⟨by decide, by decide⟩) dX12_ship_169 ?_
            refine lv_topi (fun z128 ez128 => ?_)
            have jz128 : z128.toInt = mo_R g120 (1) := mo_rd ez128 (show (1 : Int32).toInt = (1) from by decide)
            have kz128 := hI.k1
            refine lv_iconst (v := 1) hx hb dX12_ship_170 (by decide) ?_
            refine lv_isub hx hb dX12_ship_171 ?_
            refine lv_topi (fun z129 ez129 => ?_)
            have iz129 : z129.toInt = z128.toInt - 1 := zi_sub ez129 rfl rfl (by omega) (by omega)
            have hFc := tp_fr hD hS hA
            refine va_calli (va_runV (As := [.int z129]) (rest := []) ⟨hx, hb, hml, hown, hts⟩ (t_X12_told l dC dI _ κ τ ν ρ L f117 hG hT h0 z129 ht_h0) (cwV 1 hts gX12_ship_X12_told rfl rfl rfl ⟨rfl, pd_X12_told⟩ ⟨Nat.le_of_ble_eq_true rfl, Nat.le_of_ble_eq_true rfl⟩) ⟨pz_blind, va_recv hK hP (ci := 12) (q0 := q126) rfl eq126, pz_pre hP hK hD hN⟩ rfl rfl hl.1 rfl (lv_room (Nat.le_of_ble_eq_true rfl)) dX12_ship_172 ⟨Nat.le_of_ble_eq_true rfl, Nat.le_of_ble_eq_true rfl⟩) hS (fun q _ h => hFc q h) hFc (fun r130 f132 t H1 locs ht hvm hw131 hB hz1 hk1 hS => ?_)
            obtain ⟨hT, hF133, hw131r, hw131p⟩ := hw131
            have hR := hR.then hF133 (by decide)
            have hP := hB.1; rw [ht] at hP; have hD := tp_ad f132 hD; clear hB hFc hz1 hk1; subst ht; generalize t.heap = H at hP hS ⊢
            have hw131pq : r130.toInt = z129.toInt := by rw [hw131p]
            have hf_134 : f132 (ρ h0 2) = .inl (κ 0, 12967, .inl g120) := (hF133 _ (by rw [y1]; decide)).trans g119
            exact W.iret (v := r130) hx hb hr (fun t ht hW => ⟨⟨r130, f132, rfl, ⟨hT, hR, trivial, (by rw [hf_134, mo_i1]; exact hI)⟩, by rw [ht]; exact hP, va_K.moved hW.alike hK, hD⟩, hS.F ht⟩) hS.2.2 dX12_ship_175
          · have ic68 : w59.toInt < 84 := zi_gef rfl rfl c68
            refine lv_aload_n hx hb dX12_ship_91 rfl (lv_at hl 2 rfl) ?_
            obtain ⟨o135_x0, o135_x1, o135_x7, o135_x9, o135_x10, o135_x11, o135_x12, o135_x13, o135_x14, o135_x15, o135_x16, o135_x17, o135_x18, o135_x19, o135_x20, o135_x22, o135_x25, o135_x28, o135_x29, o135_x32, o135_x33, o135_x34, o135_x35, o135_x36, o135_x37, o135_x38, o135_x47, o135_x48, hf_o135, ro135_0, ro135_1, ro135_2, ro135_3, ro135_4, ro135_5, ro135_6, ro135_7, ro135_8, ro135_9, ro135_10, ro135_11, ro135_12, ro135_13⟩ := tpo_13 hT ht_h0
            obtain ⟨q136, eq136⟩ := tp_pos (tp_in hG ht_h0 (by decide)) hf_o135
            refine va_get (D := (dC, dI)) (ci := 12) (v := .ref (ρ h0 2)) (C := RX12) (T := TX12) (N := 53) hx hb hts hfX12 hown hK hP q136 eq136 rfl 2 (by decide) (hts (.fieldLink RX12 7 "ColdShipsModel" "row" "[I") wa_148) (fun _ h9 => h9) rfl dX12_ship_92 ?_
            refine lv_iload hx hb dX12_ship_95 (lv_at hl 1 rfl) ?_
            refine lv_iload hx hb dX12_ship_97 (lv_at hl 0 rfl) ?_
            refine lv_iadd hx hb dX12_ship_99 ?_
            refine lv_topi (fun z137 ez137 => ?_)
            have iz137 : z137.toInt = r57.toInt + w59.toInt := zi_add ez137 rfl rfl (by omega) (by omega)
            refine lv_iconst (v := 0) hx hb dX12_ship_100 (by decide) ?_
            obtain ⟨q138, eq138⟩ := tp_pos (tp_in hG y1 (by decide)) hf_o66
            refine va_iast hx hb hK hP hD hS q138 0 eq138 rfl (vp_in_iff.mpr ⟨by omega, by omega⟩) dX12_ship_101 (tp_k (.inl (κ 0, 12967, .inl (upd g67 z137.toNatClampNeg (0 : Int32)))) hD (tp_in hG y1 (by decide)) eq138 (fun f139 H locs hP hD hS g141 k140 => ?_))
            have hT := hT.up y1 g141 k140 tp_o32
            have hR := hR.up y1 (by decide) k140
            have hU : mo_U (mo_R g67) (mo_R (upd g67 z137.toNatClampNeg (0 : Int32))) (547 + 84 * z54.toInt + 0 + w59.toInt) (0) := mo_up (by omega) (show (0 : Int32).toInt = 0 from rfl) (by omega)
            generalize (upd g67 z137.toNatClampNeg (0 : Int32)) = g142 at g141 hU
            have hI := mo_w_snew hI hU z54.toInt (0 + w59.toInt) (by omega) (by omega) (by omega)
            have pn143 : mo_R g142 (1) = z54.toInt := (hU.ne (by omega) (by omega)).trans jf64
            have pn144 : mo_R g142 (547 + 84 * z54.toInt + 0 + w59.toInt) = 0 := hU.eq (by omega)
            obtain ⟨z145, ez145⟩ : ∃ y : Int32, y = w59 + 1 := ⟨_, rfl⟩
            refine lv_iinc (v := z145) (lv' := [(5, .int z145), (4, .int r57), (0, .ref h0), (1, .int v), (2, .int u), (3, .int a)]) hx hb dX12_ship_102 hl (k := 0) rfl (by rw [ez145]; rfl) (by decide) rfl (fun ls hl => ?_)
            have iz145 : z145.toInt = w59.toInt + 1 := zi_add ez145 rfl rfl (by omega) (by omega)
            refine lv_goto (tgt := 84) hx hb dX12_ship_105 (by decide) ?_
            exact ih62 _ _ _ _ (by rw [hn63]; omega) ⟨f139, z145, rfl, hT, hR, (by rw [g141, mo_i1]; exact hI), (by rw [g141, mo_i1]; omega), (by rw [g141, mo_i1]; intro j j1 j2; rcases hU.at (547 + 84 * z54.toInt + j) (by omega) with ⟨z0, a0⟩ | ⟨z0, a0⟩ <;> first | exact a0 | (rw [a0]; exact jf65 j j1 (by omega))), (by omega), hP, hD, hS, lv_sub hl [0, 1, 2, 3, 4, 5] rfl⟩
        · have ic55 : z54.toInt = 6 := zi_nef rfl rfl c55
          refine lv_aload_n hx hb dX12_ship_63 rfl (lv_at hl 0 rfl) ?_
          refine lv_bipush (v := (-5)) hx hb dX12_ship_64 (by decide) ?_
          have hFc := tp_fr hD hS hA
          refine va_calli (va_runV (As := [.int (-5)]) (rest := []) ⟨hx, hb, hml, hown, hts⟩ (t_X12_told l dC dI _ κ τ ν ρ L f30 hG hT h0 ((-5)) ht_h0) (cwV 1 hts gX12_ship_X12_told rfl rfl rfl ⟨rfl, pd_X12_told⟩ ⟨Nat.le_of_ble_eq_true rfl, Nat.le_of_ble_eq_true rfl⟩) ⟨pz_blind, va_recv hK hP (ci := 12) (q0 := q48) rfl eq48, pz_pre hP hK hD hN⟩ rfl rfl hl.1 rfl (lv_room (Nat.le_of_ble_eq_true rfl)) dX12_ship_66 ⟨Nat.le_of_ble_eq_true rfl, Nat.le_of_ble_eq_true rfl⟩) hS (fun q _ h => hFc q h) hFc (fun r146 f148 t H1 locs ht hvm hw147 hB hz1 hk1 hS => ?_)
          obtain ⟨hT, hF149, hw147r, hw147p⟩ := hw147
          have hR := hR.then hF149 (by decide)
          have hP := hB.1; rw [ht] at hP; have hD := tp_ad f148 hD; clear hB hFc hz1 hk1; subst ht; generalize t.heap = H at hP hS ⊢
          have hw147pq : r146.toInt = (-5) := by rw [hw147p]; rfl
          have hf_150 : f148 (ρ h0 2) = .inl (κ 0, 12967, .inl g27) := (hF149 _ (by rw [y1]; decide)).trans hf_33
          exact W.iret (v := r146) hx hb hr (fun t ht hW => ⟨⟨r146, f148, rfl, ⟨hT, hR, trivial, (by rw [hf_150, mo_i1]; exact hI)⟩, by rw [ht]; exact hP, va_K.moved hW.alike hK, hD⟩, hS.F ht⟩) hS.2.2 dX12_ship_69
      · have ic51 : r49.toInt = 0 := zi_nef rfl rfl c51
        refine lv_aload_n hx hb dX12_ship_45 rfl (lv_at hl 0 rfl) ?_
        refine lv_bipush (v := (-2)) hx hb dX12_ship_46 (by decide) ?_
        have hFc := tp_fr hD hS hA
        refine va_calli (va_runV (As := [.int (-2)]) (rest := []) ⟨hx, hb, hml, hown, hts⟩ (t_X12_told l dC dI _ κ τ ν ρ L f30 hG hT h0 ((-2)) ht_h0) (cwV 1 hts gX12_ship_X12_told rfl rfl rfl ⟨rfl, pd_X12_told⟩ ⟨Nat.le_of_ble_eq_true rfl, Nat.le_of_ble_eq_true rfl⟩) ⟨pz_blind, va_recv hK hP (ci := 12) (q0 := q48) rfl eq48, pz_pre hP hK hD hN⟩ rfl rfl hl.1 rfl (lv_room (Nat.le_of_ble_eq_true rfl)) dX12_ship_48 ⟨Nat.le_of_ble_eq_true rfl, Nat.le_of_ble_eq_true rfl⟩) hS (fun q _ h => hFc q h) hFc (fun r151 f153 t H1 locs ht hvm hw152 hB hz1 hk1 hS => ?_)
        obtain ⟨hT, hF154, hw152r, hw152p⟩ := hw152
        have hR := hR.then hF154 (by decide)
        have hP := hB.1; rw [ht] at hP; have hD := tp_ad f153 hD; clear hB hFc hz1 hk1; subst ht; generalize t.heap = H at hP hS ⊢
        have hw152pq : r151.toInt = (-2) := by rw [hw152p]; rfl
        have hf_155 : f153 (ρ h0 2) = .inl (κ 0, 12967, .inl g27) := (hF154 _ (by rw [y1]; decide)).trans hf_33
        exact W.iret (v := r151) hx hb hr (fun t ht hW => ⟨⟨r151, f153, rfl, ⟨hT, hR, trivial, (by rw [hf_155, mo_i1]; exact hI)⟩, by rw [ht]; exact hP, va_K.moved hW.alike hK, hD⟩, hS.F ht⟩) hS.2.2 dX12_ship_51
    · have ic46 : r44.toInt = 0 := zi_nef rfl rfl c46
      refine lv_aload_n hx hb dX12_ship_31 rfl (lv_at hl 0 rfl) ?_
      refine lv_iconst (v := (-1)) hx hb dX12_ship_32 (by decide) ?_
      obtain ⟨q156, eq156⟩ := tp_pos (tp_in hG ht_h0 (by decide)) g32
      have hFc := tp_fr hD hS hA
      refine va_calli (va_runV (As := [.int (-1)]) (rest := []) ⟨hx, hb, hml, hown, hts⟩ (t_X12_told l dC dI _ κ τ ν ρ L f30 hG hT h0 ((-1)) ht_h0) (cwV 1 hts gX12_ship_X12_told rfl rfl rfl ⟨rfl, pd_X12_told⟩ ⟨Nat.le_of_ble_eq_true rfl, Nat.le_of_ble_eq_true rfl⟩) ⟨pz_blind, va_recv hK hP (ci := 12) (q0 := q156) rfl eq156, pz_pre hP hK hD hN⟩ rfl rfl hl.1 rfl (lv_room (Nat.le_of_ble_eq_true rfl)) dX12_ship_33 ⟨Nat.le_of_ble_eq_true rfl, Nat.le_of_ble_eq_true rfl⟩) hS (fun q _ h => hFc q h) hFc (fun r157 f159 t H1 locs ht hvm hw158 hB hz1 hk1 hS => ?_)
      obtain ⟨hT, hF160, hw158r, hw158p⟩ := hw158
      have hR := hR.then hF160 (by decide)
      have hP := hB.1; rw [ht] at hP; have hD := tp_ad f159 hD; clear hB hFc hz1 hk1; subst ht; generalize t.heap = H at hP hS ⊢
      have hw158pq : r157.toInt = (-1) := by rw [hw158p]; rfl
      have hf_161 : f159 (ρ h0 2) = .inl (κ 0, 12967, .inl g27) := (hF160 _ (by rw [y1]; decide)).trans hf_33
      exact W.iret (v := r157) hx hb hr (fun t ht hW => ⟨⟨r157, f159, rfl, ⟨hT, hR, trivial, (by rw [hf_161, mo_i1]; exact hI)⟩, by rw [ht]; exact hP, va_K.moved hW.alike hK, hD⟩, hS.F ht⟩) hS.2.2 dX12_ship_36
set_option maxHeartbeats 4000000 in
set_option maxRecDepth 100000 in
theorem t_X12_way (l : Launch) (dC : Nat → ClassId) (dI : Nat → Nat → Nat) (sz : Nat) (κ : Nat → ClassId) (τ ν : Nat → Nat) (ρ : Nat → Nat → Nat) (L : List Nat) (f : Nat → va_E) (hG : tp_G τ ν ρ L) (hT : tp_T (mo_O κ) κ τ ν ρ f) (h0 : Nat) (v : Int32) (u : Int32) (a : Int32) (a4 : Int32) (ht_h0 : τ h0 = 13) (hJ : mo_RI (-1) 0 (mo_R (mo_i (f (ρ h0 2))))) : Met l yX12_way wqX12_way ({ frames := 4, cells := 0, slots := 0, locals := 1200 }) (va_Pc [.ref h0, .int v, .int u, .int a, .int a4] (pz_B dC dI (tp_K κ) (va_pl L f) sz)) (va_Qi (fun (r : Int32) (f1 : Nat → va_E) => tp_T (mo_O κ) κ τ ν ρ f1 ∧ tp_F τ [13, 32] f f1 ∧ True ∧ mo_RI (-1) 0 (mo_R (mo_i (f1 (ρ h0 2))))) (fun (f1 : Nat → va_E) (t : State) => pz_E dC dI (tp_K κ) (va_A (va_pl L f) sz) (va_pl L f1) t) (va_A (va_pl L f) sz)) 0 0 (va_A (va_pl L f) sz) := by
  refine Met.ofW (cc := cX12_way) (maxL := 7) (ret := some .int) (by decide) rfl ?_
  intro p e s m args below meth c s₁ B hml hv
  obtain ⟨rfl, hsz, hP, hK, hD0, hN⟩ := hv
  have hx := B.exec
  have hb := B.bytes
  have hr := B.returns
  have hts := fun (w : Cond) (h : w ∈ WALL) => atoms_spec (ws := wqX12_way) B.pre w (List.mem_cons_of_mem _ h)
  have hown : s.vm.findClass RX12 = some m.cls := findClass_of_methodNamed B.named
  have hlocks := B.notSynchronized
  subst hsz
  have hD := hD0.self (sz := s.heap.size)
  generalize hAe : va_A (va_pl L f) s.heap.size = A at hD ⊢
  have hA : ∀ q : Nat, s.heap.size ≤ q → A q := fun q h => by rw [← hAe]; exact Or.inr h
  have hS : va_S A s.heap s.heap [] := va_S.rf
  have hR : tp_F τ [13, 32] f f := tp_F.rf
  have hl := lv_entry ([.ref h0, .int v, .int u, .int a, .int a4]) (n := 7) (Nat.le_of_ble_eq_true rfl)
  rw [lg_entry_eq]
  generalize (lg_sl ([.ref h0, .int v, .int u, .int a, .int a4]) ++ List.replicate (7 - (lg_sl ([.ref h0, .int v, .int u, .int a, .int a4])).length) Slot.unset).toArray = ls at hl ⊢
  have hl : lv_has ls 7 [(0, .ref h0), (1, .int v), (2, .int u), (3, .int a), (4, .int a4)] := hl
  obtain ⟨y1, y2, y3, y4, y5, y6, y7, y8, y9, y10, y11, y12, y13, y14, y15, y16, y17, y18, y19, y20, y21, y22, y23, y24, y25⟩ := tpg_13 hG ht_h0
  obtain ⟨g27, hf_o26⟩ := tpo_32 hT y1
  have hI : mo_RI (-1) 0 (mo_R g27) := by have q9 := hJ; rw [hf_o26, mo_i1] at q9; exact q9
  refine lv_aload_n hx hb dX12_way_0 rfl (lv_at hl 0 rfl) ?_
  refine lv_iconst (v := 0) hx hb dX12_way_1 (by decide) ?_
  obtain ⟨o28_x0, o28_x1, o28_x7, o28_x9, o28_x10, o28_x11, o28_x12, o28_x13, o28_x14, o28_x15, o28_x16, o28_x17, o28_x18, o28_x19, o28_x20, o28_x22, o28_x25, o28_x28, o28_x29, o28_x32, o28_x33, o28_x34, o28_x35, o28_x36, o28_x37, o28_x38, o28_x47, o28_x48, hf_o28, ro28_0, ro28_1, ro28_2, ro28_3, ro28_4, ro28_5, ro28_6, ro28_7, ro28_8, ro28_9, ro28_10, ro28_11, ro28_12, ro28_13⟩ := tpo_13 hT ht_h0
  obtain ⟨q29, eq29⟩ := tp_pos (tp_in hG ht_h0 (by decide)) hf_o28
  refine va_put (D := (dC, dI)) (ci := 12) (v := .int 0) (ty := .int) (C := RX12) (T := TX12) (N := 53) hx hb hts hfX12 tyX12 tyX12_ok nmX12 hown hK hP hD hS q29 eq29 rfl 0 (by decide) (hts (.fieldLink RX12 91 "ColdShipsModel" "thrown" "I") wa_209) (fun _ h9 => h9) rfl (tyX12_ok 0 (by decide)) rfl rfl (Nat.le_of_ble_eq_true rfl) dX12_way_2 (tp_k (.inr (12, [.int 0, .int o28_x1, .ref (ρ h0 2), .ref (ρ h0 3), .ref (ρ h0 4), .ref (ρ h0 5), .ref (ρ h0 6), .int o28_x7, .ref (ρ h0 8), .int o28_x9, .int o28_x10, .int o28_x11, .int o28_x12, .long o28_x13, .int o28_x14, .int o28_x15, .int o28_x16, .int o28_x17, .int o28_x18, .int o28_x19, .int o28_x20, .ref (ρ h0 21), .int o28_x22, .ref (ρ h0 23), .ref (ρ h0 24), .int o28_x25, .ref (ρ h0 26), .ref (ρ h0 27), .int o28_x28, .int o28_x29, .ref (ρ h0 30), .ref (ρ h0 31), .int o28_x32, .long o28_x33, .long o28_x34, .long o28_x35, .int o28_x36, .int o28_x37, .int o28_x38, .ref (ρ h0 39), .ref (ρ h0 40), .ref (ρ h0 41), .ref (ρ h0 42), .ref (ρ h0 43), .ref (ρ h0 44), .ref (ρ h0 45), .ref (ρ h0 46), .int o28_x47, .int o28_x48, .ref (ρ h0 49), .ref (ρ h0 50), .ref (ρ h0 51), .ref (ρ h0 52)])) hD (tp_in hG ht_h0 (by decide)) eq29 (fun f30 H locs hP hD hS g32 k31 => ?_))
  have hT := hT.up ht_h0 g32 k31 ⟨_, _, _, _, _, _, _, _, _, _, _, _, _, _, _, _, _, _, _, _, _, _, _, _, _, _, _, _, rfl, ro28_0, ro28_1, ro28_2, ro28_3, ro28_4, ro28_5, ro28_6, ro28_7, ro28_8, ro28_9, ro28_10, ro28_11, ro28_12, ro28_13⟩
  have hR := hR.up ht_h0 (by decide) k31
  refine lv_iload_n hx hb dX12_way_5 rfl (lv_at hl 3 rfl) ?_
  refine lv_i2l hx hb dX12_way_6 rfl ?_
  refine lv_lconst (v := 1) hx hb dX12_way_7 (by decide) ?_
  refine lv_ldc2 (own := RX12) (v := 400) hx hb hown (hts (.constantLong RX12 135 (400)) wa_293) dX12_way_8 ?_
  have hf_33 : f30 (ρ h0 2) = .inl (κ 0, 12967, .inl g27) := (k31 _ (tp_ne y1 ht_h0 (by decide))).trans hf_o26
  refine pz_calli (va_runS (As := [.long a.toInt64, .long 1, .long 400]) (rest := []) ⟨hx, hb, hml, hown, hts⟩ (t_X12_in l dC dI _ a.toInt64 (1) (400) (a.toInt) (1) (400) (Int32.toInt_toInt64 a) rfl rfl) (va_cwS 3 hts gX12_way_X12_in rfl rfl rfl pd_X12_in ⟨Nat.le_of_ble_eq_true rfl, Nat.le_of_ble_eq_true rfl⟩) ⟨pz_blind, pz_pre pz_P0 (hK.sub (tys' := []) [] rfl) (pz_D0 (A := fun _ => True)) hN⟩ rfl rfl hl.1 rfl (lv_room (Nat.le_of_ble_eq_true rfl)) dX12_way_11 ⟨Nat.le_of_ble_eq_true rfl, Nat.le_of_ble_eq_true rfl⟩) (fun r34 hw35 => ?_)
  obtain ⟨hw35r, hw35p⟩ := hw35
  refine lv_if_ne (tgt := 23) hx hb dX12_way_14 (by decide) (fun c36 => ?_) (fun c36 => ?_)
  · have ic36 : r34.toInt ≠ 0 := zi_ne rfl rfl c36
    have p37 : (1) ≤ (a.toInt) ∧ (a.toInt) ≤ (400) := (tp_cond.yes hw35p) (by omega)
    refine lv_aload_n hx hb dX12_way_23 rfl (lv_at hl 0 rfl) ?_
    refine lv_iload_n hx hb dX12_way_24 rfl (lv_at hl 1 rfl) ?_
    obtain ⟨q38, eq38⟩ := tp_pos (tp_in hG ht_h0 (by decide)) g32
    refine pz_calli (va_runV (As := [.int v]) (rest := []) ⟨hx, hb, hml, hown, hts⟩ (t_X12_isTerminal l dC dI _ κ τ ν ρ L f30 hG hT h0 v (-1) 0 ht_h0 (by omega) (by rw [hf_33, mo_i1]; exact hI)) (cwV 1 hts gX12_way_X12_isTerminal rfl rfl rfl ⟨rfl, pd_X12_isTerminal⟩ ⟨Nat.le_of_ble_eq_true rfl, Nat.le_of_ble_eq_true rfl⟩) ⟨pz_blind, va_recv hK hP (ci := 12) (q0 := q38) rfl eq38, pz_pre hP hK hD hN⟩ rfl rfl hl.1 rfl (lv_room (Nat.le_of_ble_eq_true rfl)) dX12_way_25 ⟨Nat.le_of_ble_eq_true rfl, Nat.le_of_ble_eq_true rfl⟩) (fun r39 hw40 => ?_)
    obtain ⟨hw40r, hw40p⟩ := hw40
    have := hI.k0
    rw [hf_33, mo_i1] at hw40p
    refine lv_if_eq (tgt := 39) hx hb dX12_way_28 (by decide) (fun c41 => ?_) (fun c41 => ?_)
    · have ic41 : r39.toInt = 0 := zi_eq rfl rfl c41
      refine lv_aload_n hx hb dX12_way_39 rfl (lv_at hl 0 rfl) ?_
      refine lv_bipush (v := (-2)) hx hb dX12_way_40 (by decide) ?_
      have hFc := tp_fr hD hS hA
      refine va_calli (va_runV (As := [.int (-2)]) (rest := []) ⟨hx, hb, hml, hown, hts⟩ (t_X12_told l dC dI _ κ τ ν ρ L f30 hG hT h0 ((-2)) ht_h0) (cwV 1 hts gX12_way_X12_told rfl rfl rfl ⟨rfl, pd_X12_told⟩ ⟨Nat.le_of_ble_eq_true rfl, Nat.le_of_ble_eq_true rfl⟩) ⟨pz_blind, va_recv hK hP (ci := 12) (q0 := q38) rfl eq38, pz_pre hP hK hD hN⟩ rfl rfl hl.1 rfl (lv_room (Nat.le_of_ble_eq_true rfl)) dX12_way_42 ⟨Nat.le_of_ble_eq_true rfl, Nat.le_of_ble_eq_true rfl⟩) hS (fun q _ h => hFc q h) hFc (fun r42 f44 t H1 locs ht hvm hw43 hB hz1 hk1 hS => ?_)
      obtain ⟨hT, hF45, hw43r, hw43p⟩ := hw43
      have hR := hR.then hF45 (by decide)
      have hP := hB.1; rw [ht] at hP; have hD := tp_ad f44 hD; clear hB hFc hz1 hk1; subst ht; generalize t.heap = H at hP hS ⊢
      have hw43pq : r42.toInt = (-2) := by rw [hw43p]; rfl
      have hf_46 : f44 (ρ h0 2) = .inl (κ 0, 12967, .inl g27) := (hF45 _ (by rw [y1]; decide)).trans hf_33
      exact W.iret (v := r42) hx hb hr (fun t ht hW => ⟨⟨r42, f44, rfl, ⟨hT, hR, trivial, (by rw [hf_46, mo_i1]; exact hI)⟩, by rw [ht]; exact hP, va_K.moved hW.alike hK, hD⟩, hS.F ht⟩) hS.2.2 dX12_way_45
    · have ic41 : r39.toInt ≠ 0 := zi_eqf rfl rfl c41
      have p47 : 0 ≤ v.toInt ∧ v.toInt < mo_R g27 0 := (tp_cond.yes hw40p) (by omega)
      refine lv_aload_n hx hb dX12_way_31 rfl (lv_at hl 0 rfl) ?_
      refine lv_iload_n hx hb dX12_way_32 rfl (lv_at hl 2 rfl) ?_
      refine pz_calli (va_runV (As := [.int u]) (rest := []) ⟨hx, hb, hml, hown, hts⟩ (t_X12_isTerminal l dC dI _ κ τ ν ρ L f30 hG hT h0 u (-1) 0 ht_h0 (by omega) (by rw [hf_33, mo_i1]; exact hI)) (cwV 1 hts gX12_way_X12_isTerminal rfl rfl rfl ⟨rfl, pd_X12_isTerminal⟩ ⟨Nat.le_of_ble_eq_true rfl, Nat.le_of_ble_eq_true rfl⟩) ⟨pz_blind, va_recv hK hP (ci := 12) (q0 := q38) rfl eq38, pz_pre hP hK hD hN⟩ rfl rfl hl.1 rfl (lv_room (Nat.le_of_ble_eq_true rfl)) dX12_way_33 ⟨Nat.le_of_ble_eq_true rfl, Nat.le_of_ble_eq_true rfl⟩) (fun r48 hw49 => ?_)
      obtain ⟨hw49r, hw49p⟩ := hw49
      have := hI.k0
      rw [hf_33, mo_i1] at hw49p
      refine lv_if_ne (tgt := 46) hx hb dX12_way_36 (by decide) (fun c50 => ?_) (fun c50 => ?_)
      · have ic50 : r48.toInt ≠ 0 := zi_ne rfl rfl c50
        have p51 : 0 ≤ u.toInt ∧ u.toInt < mo_R g27 0 := (tp_cond.yes hw49p) (by omega)
        refine lv_iload_n hx hb dX12_way_46 rfl (lv_at hl 1 rfl) ?_
        refine lv_iload_n hx hb dX12_way_47 rfl (lv_at hl 2 rfl) ?_
        refine lv_icmp_ne (tgt := 58) hx hb dX12_way_48 (by decide) (fun c52 => ?_) (fun c52 => ?_)
        · have ic52 : v.toInt ≠ u.toInt := zi_ne rfl rfl c52
          refine lv_bipush (v := 50) hx hb dX12_way_58 (by decide) ?_
          refine lv_iconst (v := 2) hx hb dX12_way_60 (by decide) ?_
          refine lv_bipush (v := 6) hx hb dX12_way_61 (by decide) ?_
          refine lv_iload_n hx hb dX12_way_63 rfl (lv_at hl 1 rfl) ?_
          refine lv_imul hx hb dX12_way_64 ?_
          refine lv_topi (fun z53 ez53 => ?_)
          have iz53 : z53.toInt = 6 * v.toInt := zi_mul ez53 rfl rfl (by omega) (by omega)
          refine lv_iload_n hx hb dX12_way_65 rfl (lv_at hl 2 rfl) ?_
          refine lv_iadd hx hb dX12_way_66 ?_
          refine lv_topi (fun z54 ez54 => ?_)
          have iz54 : z54.toInt = z53.toInt + u.toInt := zi_add ez54 rfl rfl (by omega) (by omega)
          refine lv_imul hx hb dX12_way_67 ?_
          refine lv_topi (fun z55 ez55 => ?_)
          have iz55 : z55.toInt = 2 * z54.toInt := zi_mul ez55 rfl rfl (by omega) (by omega)
          refine lv_iadd hx hb dX12_way_68 ?_
          refine lv_topi (fun z56 ez56 => ?_)
          have iz56 : z56.toInt = 50 + z55.toInt := zi_add ez56 rfl rfl (by omega) (by omega)
          refine lv_istore (lv' := [(5, .int z56), (0, .ref h0), (1, .int v), (2, .int u), (3, .int a), (4, .int a4)]) hx hb dX12_way_69 hl (by decide) rfl (fun ls hl => ?_)
          refine lv_bipush (v := 50) hx hb dX12_way_71 (by decide) ?_
          refine lv_iconst (v := 2) hx hb dX12_way_73 (by decide) ?_
          refine lv_bipush (v := 6) hx hb dX12_way_74 (by decide) ?_
          refine lv_iload_n hx hb dX12_way_76 rfl (lv_at hl 3 rfl) ?_
          refine lv_imul hx hb dX12_way_77 ?_
          refine lv_topi (fun z57 ez57 => ?_)
          have iz57 : z57.toInt = 6 * u.toInt := zi_mul ez57 rfl rfl (by omega) (by omega)
          refine lv_iload_n hx hb dX12_way_78 rfl (lv_at hl 2 rfl) ?_
          refine lv_iadd hx hb dX12_way_79 ?_
          refine lv_topi (fun z58 ez58 => ?_)
          have iz58 : z58.toInt = z57.toInt + v.toInt := zi_add ez58 rfl rfl (by omega) (by omega)
          refine lv_imul hx hb dX12_way_80 ?_
          refine lv_topi (fun z59 ez59 => ?_)
          have iz59 : z59.toInt = 2 * z58.toInt := zi_mul ez59 rfl rfl (by omega) (by omega)
          refine lv_iadd hx hb dX12_way_81 ?_
          refine lv_topi (fun z60 ez60 => ?_)
          have iz60 : z60.toInt = 50 + z59.toInt := zi_add ez60 rfl rfl (by omega) (by omega)
          refine lv_istore (lv' := [(6, .int z60), (5, .int z56), (0, .ref h0), (1, .int v), (2, .int u), (3, .int a), (4, .int a4)]) hx hb dX12_way_82 hl (by decide) rfl (fun ls hl => ?_)
          refine lv_aload_n hx hb dX12_way_84 rfl (lv_at hl 2 rfl) ?_
          refine va_get (D := (dC, dI)) (ci := 12) (v := .ref (ρ h0 2)) (C := RX12) (T := TX12) (N := 53) hx hb hts hfX12 hown hK hP q38 eq38 rfl 2 (by decide) (hts (.fieldLink RX12 7 "ColdShipsModel" "row" "[I") wa_148) (fun _ h9 => h9) rfl dX12_way_85 ?_
          refine lv_iload hx hb dX12_way_88 (lv_at hl 1 rfl) ?_
          refine lv_iload_n hx hb dX12_way_90 rfl (lv_at hl 5 rfl) ?_
          obtain ⟨q61, eq61⟩ := tp_pos (tp_in hG y1 (by decide)) hf_33
          refine va_iast hx hb hK hP hD hS q61 0 eq61 rfl (vp_in_iff.mpr ⟨by omega, by omega⟩) dX12_way_91 (tp_k (.inl (κ 0, 12967, .inl (upd g27 z56.toNatClampNeg a))) hD (tp_in hG y1 (by decide)) eq61 (fun f62 H locs hP hD hS g64 k63 => ?_))
          have hT := hT.up y1 g64 k63 tp_o32
          have hR := hR.up y1 (by decide) k63
          have hU : mo_U (mo_R g27) (mo_R (upd g27 z56.toNatClampNeg a)) (50 + 12 * v.toInt + 2 * u.toInt) (a.toInt) := mo_up (by omega) (rfl : a.toInt = _) (by omega)
          generalize (upd g27 z56.toNatClampNeg a) = g65 at g64 hU
          have hI := mo_w_flat hI hU (by omega)
          refine lv_aload_n hx hb dX12_way_92 rfl (lv_at hl 2 rfl) ?_
          have hf_66 : f62 h0 = .inr (12, [.int 0, .int o28_x1, .ref (ρ h0 2), .ref (ρ h0 3), .ref (ρ h0 4), .ref (ρ h0 5), .ref (ρ h0 6), .int o28_x7, .ref (ρ h0 8), .int o28_x9, .int o28_x10, .int o28_x11, .int o28_x12, .long o28_x13, .int o28_x14, .int o28_x15, .int o28_x16, .int o28_x17, .int o28_x18, .int o28_x19, .int o28_x20, .ref (ρ h0 21), .int o28_x22, .ref (ρ h0 23), .ref (ρ h0 24), .int o28_x25, .ref (ρ h0 26), .ref (ρ h0 27), .int o28_x28, .int o28_x29, .ref (ρ h0 30), .ref (ρ h0 31), .int o28_x32, .long o28_x33, .long o28_x34, .long o28_x35, .int o28_x36, .int o28_x37, .int o28_x38, .ref (ρ h0 39), .ref (ρ h0 40), .ref (ρ h0 41), .ref (ρ h0 42), .ref (ρ h0 43), .ref (ρ h0 44), .ref (ρ h0 45), .ref (ρ h0 46), .int o28_x47, .int o28_x48, .ref (ρ h0 49), .ref (ρ h0 50), .ref (ρ h0 51), .ref (ρ h0 52)]) := (k63 _ (tp_ne ht_h0 y1 (by decide))).trans g32
          obtain ⟨q67, eq67⟩ := tp_pos (tp_in hG ht_h0 (by decide)) hf_66
          refine va_get (D := (dC, dI)) (ci := 12) (v := .ref (ρ h0 2)) (C := RX12) (T := TX12) (N := 53) hx hb hts hfX12 hown hK hP q67 eq67 rfl 2 (by decide) (hts (.fieldLink RX12 7 "ColdShipsModel" "row" "[I") wa_148) (fun _ h9 => h9) rfl dX12_way_93 ?_
          refine lv_iload hx hb dX12_way_96 (lv_at hl 1 rfl) ?_
          refine lv_iconst (v := 1) hx hb dX12_way_98 (by decide) ?_
          refine lv_iadd hx hb dX12_way_99 ?_
          refine lv_topi (fun z68 ez68 => ?_)
          have iz68 : z68.toInt = z56.toInt + 1 := zi_add ez68 rfl rfl (by omega) (by omega)
          refine lv_iload hx hb dX12_way_100 (lv_at hl 6 rfl) ?_
          refine tp_join 110 (fun H locs ls stk => ∃ w69 : Int32, stk = [.int w69, .int z68, .ref (ρ h0 2)] ∧ (0 ≤ w69.toInt ∧ w69.toInt ≤ 1) ∧ va_P (dC, dI) vwCl (va_pl L f62) H ∧ va_D A (va_pl L f62) ∧ va_S A s.heap H locs ∧ lv_has ls 7 [(6, .int z60), (5, .int z56), (0, .ref h0), (1, .int v), (2, .int u), (3, .int a), (4, .int a4)]) ?_ (fun hj70 => ?_)
          · intro H locs ls stk hI
            obtain ⟨w69, rfl, rw69, hP, hD, hS, hl⟩ := hI
            obtain ⟨q71, eq71⟩ := tp_pos (tp_in hG y1 (by decide)) g64
            refine va_iast hx hb hK hP hD hS q71 0 eq71 rfl (vp_in_iff.mpr ⟨by omega, by omega⟩) dX12_way_110 (tp_k (.inl (κ 0, 12967, .inl (upd g65 z68.toNatClampNeg w69))) hD (tp_in hG y1 (by decide)) eq71 (fun f72 H locs hP hD hS g74 k73 => ?_))
            have hT := hT.up y1 g74 k73 tp_o32
            have hR := hR.up y1 (by decide) k73
            have hU : mo_U (mo_R g65) (mo_R (upd g65 z68.toNatClampNeg w69)) (51 + 12 * v.toInt + 2 * u.toInt) (w69.toInt) := mo_up (by omega) (rfl : w69.toInt = _) (by omega)
            generalize (upd g65 z68.toNatClampNeg w69) = g75 at g74 hU
            have hI := mo_w_flat hI hU (by omega)
            refine lv_aload_n hx hb dX12_way_111 rfl (lv_at hl 2 rfl) ?_
            have hf_76 : f72 h0 = .inr (12, [.int 0, .int o28_x1, .ref (ρ h0 2), .ref (ρ h0 3), .ref (ρ h0 4), .ref (ρ h0 5), .ref (ρ h0 6), .int o28_x7, .ref (ρ h0 8), .int o28_x9, .int o28_x10, .int o28_x11, .int o28_x12, .long o28_x13, .int o28_x14, .int o28_x15, .int o28_x16, .int o28_x17, .int o28_x18, .int o28_x19, .int o28_x20, .ref (ρ h0 21), .int o28_x22, .ref (ρ h0 23), .ref (ρ h0 24), .int o28_x25, .ref (ρ h0 26), .ref (ρ h0 27), .int o28_x28, .int o28_x29, .ref (ρ h0 30), .ref (ρ h0 31), .int o28_x32, .long o28_x33, .long o28_x34, .long o28_x35, .int o28_x36, .int o28_x37, .int o28_x38, .ref (ρ h0 39), .ref (ρ h0 40), .ref (ρ h0 41), .ref (ρ h0 42), .ref (ρ h0 43), .ref (ρ h0 44), .ref (ρ h0 45), .ref (ρ h0 46), .int o28_x47, .int o28_x48, .ref (ρ h0 49), .ref (ρ h0 50), .ref (ρ h0 51), .ref (ρ h0 52)]) := (k73 _ (tp_ne ht_h0 y1 (by decide))).trans hf_66
            obtain ⟨q77, eq77⟩ := tp_pos (tp_in hG ht_h0 (by decide)) hf_76
            refine va_get (D := (dC, dI)) (ci := 12) (v := .ref (ρ h0 2)) (C := RX12) (T := TX12) (N := 53) hx hb hts hfX12 hown hK hP q77 eq77 rfl 2 (by decide) (hts (.fieldLink RX12 7 "ColdShipsModel" "row" "[I") wa_148) (fun _ h9 => h9) rfl dX12_way_112 ?_
            refine lv_iload hx hb dX12_way_115 (lv_at hl 0 rfl) ?_
            refine lv_iload_n hx hb dX12_way_117 rfl (lv_at hl 5 rfl) ?_
            obtain ⟨q78, eq78⟩ := tp_pos (tp_in hG y1 (by decide)) g74
            refine va_iast hx hb hK hP hD hS q78 0 eq78 rfl (vp_in_iff.mpr ⟨by omega, by omega⟩) dX12_way_118 (tp_k (.inl (κ 0, 12967, .inl (upd g75 z60.toNatClampNeg a))) hD (tp_in hG y1 (by decide)) eq78 (fun f79 H locs hP hD hS g81 k80 => ?_))
            have hT := hT.up y1 g81 k80 tp_o32
            have hR := hR.up y1 (by decide) k80
            have hU : mo_U (mo_R g75) (mo_R (upd g75 z60.toNatClampNeg a)) (50 + 12 * u.toInt + 2 * v.toInt) (a.toInt) := mo_up (by omega) (rfl : a.toInt = _) (by omega)
            generalize (upd g75 z60.toNatClampNeg a) = g82 at g81 hU
            have hI := mo_w_flat hI hU (by omega)
            refine lv_aload_n hx hb dX12_way_119 rfl (lv_at hl 2 rfl) ?_
            have hf_83 : f79 h0 = .inr (12, [.int 0, .int o28_x1, .ref (ρ h0 2), .ref (ρ h0 3), .ref (ρ h0 4), .ref (ρ h0 5), .ref (ρ h0 6), .int o28_x7, .ref (ρ h0 8), .int o28_x9, .int o28_x10, .int o28_x11, .int o28_x12, .long o28_x13, .int o28_x14, .int o28_x15, .int o28_x16, .int o28_x17, .int o28_x18, .int o28_x19, .int o28_x20, .ref (ρ h0 21), .int o28_x22, .ref (ρ h0 23), .ref (ρ h0 24), .int o28_x25, .ref (ρ h0 26), .ref (ρ h0 27), .int o28_x28, .int o28_x29, .ref (ρ h0 30), .ref (ρ h0 31), .int o28_x32, .long o28_x33, .long o28_x34, .long o28_x35, .int o28_x36, .int o28_x37, .int o28_x38, .ref (ρ h0 39), .ref (ρ h0 40), .ref (ρ h0 41), .ref (ρ h0 42), .ref (ρ h0 43), .ref (ρ h0 44), .ref (ρ h0 45), .ref (ρ h0 46), .int o28_x47, .int o28_x48, .ref (ρ h0 49), .ref (ρ h0 50), .ref (ρ h0 51), .ref (ρ h0 52)]) := (k80 _ (tp_ne ht_h0 y1 (by decide))).trans hf_76
            obtain ⟨q84, eq84⟩ := tp_pos (tp_in hG ht_h0 (by decide)) hf_83
            refine va_get (D := (dC, dI)) (ci := 12) (v := .ref (ρ h0 2)) (C := RX12) (T := TX12) (N := 53) hx hb hts hfX12 hown hK hP q84 eq84 rfl 2 (by decide) (hts (.fieldLink RX12 7 "ColdShipsModel" "row" "[I") wa_148) (fun _ h9 => h9) rfl dX12_way_120 ?_
            refine lv_iload hx hb dX12_way_123 (lv_at hl 0 rfl) ?_
            refine lv_iconst (v := 1) hx hb dX12_way_125 (by decide) ?_
            refine lv_iadd hx hb dX12_way_126 ?_
            refine lv_topi (fun z85 ez85 => ?_)
            have iz85 : z85.toInt = z60.toInt + 1 := zi_add ez85 rfl rfl (by omega) (by omega)
            refine lv_iload hx hb dX12_way_127 (lv_at hl 6 rfl) ?_
            refine lv_if_eq (tgt := 136) hx hb dX12_way_129 (by decide) (fun c86 => ?_) (fun c86 => ?_)
            · have ic86 : a4.toInt = 0 := zi_eq rfl rfl c86
              refine lv_iconst (v := 0) hx hb dX12_way_136 (by decide) ?_
              obtain ⟨q87, eq87⟩ := tp_pos (tp_in hG y1 (by decide)) g81
              refine va_iast hx hb hK hP hD hS q87 0 eq87 rfl (vp_in_iff.mpr ⟨by omega, by omega⟩) dX12_way_137 (tp_k (.inl (κ 0, 12967, .inl (upd g82 z85.toNatClampNeg (0 : Int32)))) hD (tp_in hG y1 (by decide)) eq87 (fun f88 H locs hP hD hS g90 k89 => ?_))
              have hT := hT.up y1 g90 k89 tp_o32
              have hR := hR.up y1 (by decide) k89
              have hU : mo_U (mo_R g82) (mo_R (upd g82 z85.toNatClampNeg (0 : Int32))) (51 + 12 * u.toInt + 2 * v.toInt) (0) := mo_up (by omega) (show (0 : Int32).toInt = 0 from rfl) (by omega)
              generalize (upd g82 z85.toNatClampNeg (0 : Int32)) = g91 at g90 hU
              have hI := mo_w_flat hI hU (by omega)
              refine lv_aload_n hx hb dX12_way_138 rfl (lv_at hl 2 rfl) ?_
              refine lv_iconst (v := 0) hx hb dX12_way_139 (by decide) ?_
              have hf_92 : f88 h0 = .inr (12, [.int 0, .int o28_x1, .ref (ρ h0 2), .ref (ρ h0 3), .ref (ρ h0 4), .ref (ρ h0 5), .ref (ρ h0 6), .int o28_x7, .ref (ρ h0 8), .int o28_x9, .int o28_x10, .int o28_x11, .int o28_x12, .long o28_x13, .int o28_x14, .int o28_x15, .int o28_x16, .int o28_x17, .int o28_x18, .int o28_x19, .int o28_x20, .ref (ρ h0 21), .int o28_x22, .ref (ρ h0 23), .ref (ρ h0 24), .int o28_x25, .ref (ρ h0 26), .ref (ρ h0 27), .int o28_x28, .int o28_x29, .ref (ρ h0 30), .ref (ρ h0 31), .int o28_x32, .long o28_x33, .long o28_x34, .long o28_x35, .int o28_x36, .int o28_x37, .int o28_x38, .ref (ρ h0 39), .ref (ρ h0 40), .ref (ρ h0 41), .ref (ρ h0 42), .ref (ρ h0 43), .ref (ρ h0 44), .ref (ρ h0 45), .ref (ρ h0 46), .int o28_x47, .int o28_x48, .ref (ρ h0 49), .ref (ρ h0 50), .ref (ρ h0 51), .ref (ρ h0 52)]) := (k89 _ (tp_ne ht_h0 y1 (by decide))).trans hf_83
              obtain ⟨q93, eq93⟩ := tp_pos (tp_in hG ht_h0 (by decide)) hf_92
              have hFc := tp_fr hD hS hA
              refine va_calli (va_runV (As := [.int 0]) (rest := []) ⟨hx, hb, hml, hown, hts⟩ (t_X12_told l dC dI _ κ τ ν ρ L f88 hG hT h0 (0) ht_h0) (cwV 1 hts gX12_way_X12_told rfl rfl rfl ⟨rfl, pd_X12_told⟩ ⟨Nat.le_of_ble_eq_true rfl, Nat.le_of_ble_eq_true rfl⟩) ⟨pz_blind, va_recv hK hP (ci := 12) (q0 := q93) rfl eq93, pz_pre hP hK hD hN⟩ rfl rfl hl.1 rfl (lv_room (Nat.le_of_ble_eq_true rfl)) dX12_way_140 ⟨Nat.le_of_ble_eq_true rfl, Nat.le_of_ble_eq_true rfl⟩) hS (fun q _ h => hFc q h) hFc (fun r94 f96 t H1 locs ht hvm hw95 hB hz1 hk1 hS => ?_)
              obtain ⟨hT, hF97, hw95r, hw95p⟩ := hw95
              have hR := hR.then hF97 (by decide)
              have hP := hB.1; rw [ht] at hP; have hD := tp_ad f96 hD; clear hB hFc hz1 hk1; subst ht; generalize t.heap = H at hP hS ⊢
              have hw95pq : r94.toInt = 0 := by rw [hw95p]; rfl
              have hf_98 : f96 (ρ h0 2) = .inl (κ 0, 12967, .inl g91) := (hF97 _ (by rw [y1]; decide)).trans g90
              exact W.iret (v := r94) hx hb hr (fun t ht hW => ⟨⟨r94, f96, rfl, ⟨hT, hR, trivial, (by rw [hf_98, mo_i1]; exact hI)⟩, by rw [ht]; exact hP, va_K.moved hW.alike hK, hD⟩, hS.F ht⟩) hS.2.2 dX12_way_143
            · have ic86 : a4.toInt ≠ 0 := zi_eqf rfl rfl c86
              refine lv_iconst (v := 1) hx hb dX12_way_132 (by decide) ?_
              refine lv_goto (tgt := 137) hx hb dX12_way_133 (by decide) ?_
              obtain ⟨q99, eq99⟩ := tp_pos (tp_in hG y1 (by decide)) g81
              refine va_iast hx hb hK hP hD hS q99 0 eq99 rfl (vp_in_iff.mpr ⟨by omega, by omega⟩) dX12_way_137 (tp_k (.inl (κ 0, 12967, .inl (upd g82 z85.toNatClampNeg (1 : Int32)))) hD (tp_in hG y1 (by decide)) eq99 (fun f100 H locs hP hD hS g102 k101 => ?_))
              have hT := hT.up y1 g102 k101 tp_o32
              have hR := hR.up y1 (by decide) k101
              have hU : mo_U (mo_R g82) (mo_R (upd g82 z85.toNatClampNeg (1 : Int32))) (51 + 12 * u.toInt + 2 * v.toInt) (1) := mo_up (by omega) (show (1 : Int32).toInt = 1 from rfl) (by omega)
              generalize (upd g82 z85.toNatClampNeg (1 : Int32)) = g103 at g102 hU
              have hI := mo_w_flat hI hU (by omega)
              refine lv_aload_n hx hb dX12_way_138 rfl (lv_at hl 2 rfl) ?_
              refine lv_iconst (v := 0) hx hb dX12_way_139 (by decide) ?_
              have hf_104 : f100 h0 = .inr (12, [.int 0, .int o28_x1, .ref (ρ h0 2), .ref (ρ h0 3), .ref (ρ h0 4), .ref (ρ h0 5), .ref (ρ h0 6), .int o28_x7, .ref (ρ h0 8), .int o28_x9, .int o28_x10, .int o28_x11, .int o28_x12, .long o28_x13, .int o28_x14, .int o28_x15, .int o28_x16, .int o28_x17, .int o28_x18, .int o28_x19, .int o28_x20, .ref (ρ h0 21), .int o28_x22, .ref (ρ h0 23), .ref (ρ h0 24), .int o28_x25, .ref (ρ h0 26), .ref (ρ h0 27), .int o28_x28, .int o28_x29, .ref (ρ h0 30), .ref (ρ h0 31), .int o28_x32, .long o28_x33, .long o28_x34, .long o28_x35, .int o28_x36, .int o28_x37, .int o28_x38, .ref (ρ h0 39), .ref (ρ h0 40), .ref (ρ h0 41), .ref (ρ h0 42), .ref (ρ h0 43), .ref (ρ h0 44), .ref (ρ h0 45), .ref (ρ h0 46), .int o28_x47, .int o28_x48, .ref (ρ h0 49), .ref (ρ h0 50), .ref (ρ h0 51), .ref (ρ h0 52)]) := (k101 _ (tp_ne ht_h0 y1 (by decide))).trans hf_83
              obtain ⟨q105, eq105⟩ := tp_pos (tp_in hG ht_h0 (by decide)) hf_104
              have hFc := tp_fr hD hS hA
              refine va_calli (va_runV (As := [.int 0]) (rest := []) ⟨hx, hb, hml, hown, hts⟩ (t_X12_told l dC dI _ κ τ ν ρ L f100 hG hT h0 (0) ht_h0) (cwV 1 hts gX12_way_X12_told rfl rfl rfl ⟨rfl, pd_X12_told⟩ ⟨Nat.le_of_ble_eq_true rfl, Nat.le_of_ble_eq_true rfl⟩) ⟨pz_blind, va_recv hK hP (ci := 12) (q0 := q105) rfl eq105, pz_pre hP hK hD hN⟩ rfl rfl hl.1 rfl (lv_room (Nat.le_of_ble_eq_true rfl)) dX12_way_140 ⟨Nat.le_of_ble_eq_true rfl, Nat.le_of_ble_eq_true rfl⟩) hS (fun q _ h => hFc q h) hFc (fun r106 f108 t H1 locs ht hvm hw107 hB hz1 hk1 hS => ?_)
              obtain ⟨hT, hF109, hw107r, hw107p⟩ := hw107
              have hR := hR.then hF109 (by decide)
              have hP := hB.1; rw [ht] at hP; have hD := tp_ad f108 hD; clear hB hFc hz1 hk1; subst ht; generalize t.heap = H at hP hS ⊢
              have hw107pq : r106.toInt = 0 := by rw [hw107p]; rfl
              have hf_110 : f108 (ρ h0 2) = .inl (κ 0, 12967, .inl g103) := (hF109 _ (by rw [y1]; decide)).trans g102
              exact W.iret (v := r106) hx hb hr (fun t ht hW => ⟨⟨r106, f108, rfl, ⟨hT, hR, trivial, (by rw [hf_110, mo_i1]; exact hI)⟩, by rw [ht]; exact hP, va_K.moved hW.alike hK, hD⟩, hS.F ht⟩) hS.2.2 dX12_way_143
          · refine lv_if_eq (tgt := 109) hx hb dX12_way_102 (by decide) (fun c111 => ?_) (fun c111 => ?_)
            · have ic111 : a4.toInt = 0 := zi_eq rfl rfl c111
              refine lv_iconst (v := 0) hx hb dX12_way_109 (by decide) ?_
              exact hj70 _ _ _ _ ⟨0, rfl, (by have : (0 : Int32).toInt = 0 := rfl; omega), hP, hD, hS, lv_sub hl [0, 1, 2, 3, 4, 5, 6] rfl⟩
            · have ic111 : a4.toInt ≠ 0 := zi_eqf rfl rfl c111
              refine lv_iconst (v := 1) hx hb dX12_way_105 (by decide) ?_
              refine lv_goto (tgt := 110) hx hb dX12_way_106 (by decide) ?_
              exact hj70 _ _ _ _ ⟨1, rfl, (by have : (1 : Int32).toInt = 1 := rfl; omega), hP, hD, hS, lv_sub hl [0, 1, 2, 3, 4, 5, 6] rfl⟩
        · have ic52 : v.toInt = u.toInt := zi_nef rfl rfl c52
          refine lv_aload_n hx hb dX12_way_51 rfl (lv_at hl 0 rfl) ?_
          refine lv_bipush (v := (-3)) hx hb dX12_way_52 (by decide) ?_
          have hFc := tp_fr hD hS hA
          refine va_calli (va_runV (As := [.int (-3)]) (rest := []) ⟨hx, hb, hml, hown, hts⟩ (t_X12_told l dC dI _ κ τ ν ρ L f30 hG hT h0 ((-3)) ht_h0) (cwV 1 hts gX12_way_X12_told rfl rfl rfl ⟨rfl, pd_X12_told⟩ ⟨Nat.le_of_ble_eq_true rfl, Nat.le_of_ble_eq_true rfl⟩) ⟨pz_blind, va_recv hK hP (ci := 12) (q0 := q38) rfl eq38, pz_pre hP hK hD hN⟩ rfl rfl hl.1 rfl (lv_room (Nat.le_of_ble_eq_true rfl)) dX12_way_54 ⟨Nat.le_of_ble_eq_true rfl, Nat.le_of_ble_eq_true rfl⟩) hS (fun q _ h => hFc q h) hFc (fun r112 f114 t H1 locs ht hvm hw113 hB hz1 hk1 hS => ?_)
          obtain ⟨hT, hF115, hw113r, hw113p⟩ := hw113
          have hR := hR.then hF115 (by decide)
          have hP := hB.1; rw [ht] at hP; have hD := tp_ad f114 hD; clear hB hFc hz1 hk1; subst ht; generalize t.heap = H at hP hS ⊢
          have hw113pq : r112.toInt = (-3) := by rw [hw113p]; rfl
          have hf_116 : f114 (ρ h0 2) = .inl (κ 0, 12967, .inl g27) := (hF115 _ (by rw [y1]; decide)).trans hf_33
          exact W.iret (v := r112) hx hb hr (fun t ht hW => ⟨⟨r112, f114, rfl, ⟨hT, hR, trivial, (by rw [hf_116, mo_i1]; exact hI)⟩, by rw [ht]; exact hP, va_K.moved hW.alike hK, hD⟩, hS.F ht⟩) hS.2.2 dX12_way_57
      · have ic50 : r48.toInt = 0 := zi_nef rfl rfl c50
        refine lv_aload_n hx hb dX12_way_39 rfl (lv_at hl 0 rfl) ?_
        refine lv_bipush (v := (-2)) hx hb dX12_way_40 (by decide) ?_
        have hFc := tp_fr hD hS hA
        refine va_calli (va_runV (As := [.int (-2)]) (rest := []) ⟨hx, hb, hml, hown, hts⟩ (t_X12_told l dC dI _ κ τ ν ρ L f30 hG hT h0 ((-2)) ht_h0) (cwV 1 hts gX12_way_X12_told rfl rfl rfl ⟨rfl, pd_X12_told⟩ ⟨Nat.le_of_ble_eq_true rfl, Nat.le_of_ble_eq_true rfl⟩) ⟨pz_blind, va_recv hK hP (ci := 12) (q0 := q38) rfl eq38, pz_pre hP hK hD hN⟩ rfl rfl hl.1 rfl (lv_room (Nat.le_of_ble_eq_true rfl)) dX12_way_42 ⟨Nat.le_of_ble_eq_true rfl, Nat.le_of_ble_eq_true rfl⟩) hS (fun q _ h => hFc q h) hFc (fun r117 f119 t H1 locs ht hvm hw118 hB hz1 hk1 hS => ?_)
        obtain ⟨hT, hF120, hw118r, hw118p⟩ := hw118
        have hR := hR.then hF120 (by decide)
        have hP := hB.1; rw [ht] at hP; have hD := tp_ad f119 hD; clear hB hFc hz1 hk1; subst ht; generalize t.heap = H at hP hS ⊢
        have hw118pq : r117.toInt = (-2) := by rw [hw118p]; rfl
        have hf_121 : f119 (ρ h0 2) = .inl (κ 0, 12967, .inl g27) := (hF120 _ (by rw [y1]; decide)).trans hf_33
        exact W.iret (v := r117) hx hb hr (fun t ht hW => ⟨⟨r117, f119, rfl, ⟨hT, hR, trivial, (by rw [hf_121, mo_i1]; exact hI)⟩, by rw [ht]; exact hP, va_K.moved hW.alike hK, hD⟩, hS.F ht⟩) hS.2.2 dX12_way_45
  · have ic36 : r34.toInt = 0 := zi_nef rfl rfl c36
    refine lv_aload_n hx hb dX12_way_17 rfl (lv_at hl 0 rfl) ?_
    refine lv_iconst (v := (-1)) hx hb dX12_way_18 (by decide) ?_
    obtain ⟨q122, eq122⟩ := tp_pos (tp_in hG ht_h0 (by decide)) g32
    have hFc := tp_fr hD hS hA
    refine va_calli (va_runV (As := [.int (-1)]) (rest := []) ⟨hx, hb, hml, hown, hts⟩ (t_X12_told l dC dI _ κ τ ν ρ L f30 hG hT h0 ((-1)) ht_h0) (cwV 1 hts gX12_way_X12_told rfl rfl rfl ⟨rfl, pd_X12_told⟩ ⟨Nat.le_of_ble_eq_true rfl, Nat.le_of_ble_eq_true rfl⟩) ⟨pz_blind, va_recv hK hP (ci := 12) (q0 := q122) rfl eq122, pz_pre hP hK hD hN⟩ rfl rfl hl.1 rfl (lv_room (Nat.le_of_ble_eq_true rfl)) dX12_way_19 ⟨Nat.le_of_ble_eq_true rfl, Nat.le_of_ble_eq_true rfl⟩) hS (fun q _ h => hFc q h) hFc (fun r123 f125 t H1 locs ht hvm hw124 hB hz1 hk1 hS => ?_)
    obtain ⟨hT, hF126, hw124r, hw124p⟩ := hw124
    have hR := hR.then hF126 (by decide)
    have hP := hB.1; rw [ht] at hP; have hD := tp_ad f125 hD; clear hB hFc hz1 hk1; subst ht; generalize t.heap = H at hP hS ⊢
    have hw124pq : r123.toInt = (-1) := by rw [hw124p]; rfl
    have hf_127 : f125 (ρ h0 2) = .inl (κ 0, 12967, .inl g27) := (hF126 _ (by rw [y1]; decide)).trans hf_33
    exact W.iret (v := r123) hx hb hr (fun t ht hW => ⟨⟨r123, f125, rfl, ⟨hT, hR, trivial, (by rw [hf_127, mo_i1]; exact hI)⟩, by rw [ht]; exact hP, va_K.moved hW.alike hK, hD⟩, hS.F ht⟩) hS.2.2 dX12_way_22
set_option maxHeartbeats 4000000 in
set_option maxRecDepth 100000 in
theorem t_X12_wayOf (l : Launch) (dC : Nat → ClassId) (dI : Nat → Nat → Nat) (sz : Nat) (κ : Nat → ClassId) (τ ν : Nat → Nat) (ρ : Nat → Nat → Nat) (L : List Nat) (f : Nat → va_E) (hG : tp_G τ ν ρ L) (hT : tp_T (mo_O κ) κ τ ν ρ f) (h0 : Nat) (v : Int32) (u : Int32) (x : Int) (b : Int) (ht_h0 : τ h0 = 13) (hr_v : 0 ≤ v.toInt ∧ v.toInt ≤ 5) (hr_u : 0 ≤ u.toInt ∧ u.toInt ≤ 5) (hbb : 0 ≤ b ∧ b ≤ 1000) (hJ : mo_RI x b (mo_R (mo_i (f (ρ h0 2))))) : Met l yX12_wayOf wqX12_wayOf ({ frames := 2, cells := 0, slots := 0, locals := 400 }) (va_Pc [.ref h0, .int v, .int u] (pz_B dC dI (tp_K κ) (va_pl L f) sz)) (vp_Si (fun r => True ∧ True)) 0 0 (fun _ => False) := by
  refine Met.ofW (cc := cX12_wayOf) (maxL := 3) (ret := some .int) (by decide) rfl ?_
  intro p e s m args below meth c s₁ B hml hv
  obtain ⟨rfl, hsz, hP, hK, hD0, hN⟩ := hv
  have hx := B.exec
  have hb := B.bytes
  have hr := B.returns
  have hts := fun (w : Cond) (h : w ∈ WALL) => atoms_spec (ws := wqX12_wayOf) B.pre w (List.mem_cons_of_mem _ h)
  have hown : s.vm.findClass RX12 = some m.cls := findClass_of_methodNamed B.named
  have hlocks := B.notSynchronized
  subst hsz
  have hD := hD0
  have hS : va_S (fun _ => True) s.heap s.heap [] := va_S.rf
  have hl := lv_entry ([.ref h0, .int v, .int u]) (n := 3) (Nat.le_of_ble_eq_true rfl)
  rw [lg_entry_eq]
  generalize (lg_sl ([.ref h0, .int v, .int u]) ++ List.replicate (3 - (lg_sl ([.ref h0, .int v, .int u])).length) Slot.unset).toArray = ls at hl ⊢
  have hl : lv_has ls 3 [(0, .ref h0), (1, .int v), (2, .int u)] := hl
  obtain ⟨y1, y2, y3, y4, y5, y6, y7, y8, y9, y10, y11, y12, y13, y14, y15, y16, y17, y18, y19, y20, y21, y22, y23, y24, y25⟩ := tpg_13 hG ht_h0
  obtain ⟨g27, hf_o26⟩ := tpo_32 hT y1
  have hI : mo_RI x b (mo_R g27) := by have q9 := hJ; rw [hf_o26, mo_i1] at q9; exact q9
  refine lv_aload_n hx hb dX12_wayOf_0 rfl (lv_at hl 0 rfl) ?_
  obtain ⟨o28_x0, o28_x1, o28_x7, o28_x9, o28_x10, o28_x11, o28_x12, o28_x13, o28_x14, o28_x15, o28_x16, o28_x17, o28_x18, o28_x19, o28_x20, o28_x22, o28_x25, o28_x28, o28_x29, o28_x32, o28_x33, o28_x34, o28_x35, o28_x36, o28_x37, o28_x38, o28_x47, o28_x48, hf_o28, ro28_0, ro28_1, ro28_2, ro28_3, ro28_4, ro28_5, ro28_6, ro28_7, ro28_8, ro28_9, ro28_10, ro28_11, ro28_12, ro28_13⟩ := tpo_13 hT ht_h0
  obtain ⟨q29, eq29⟩ := tp_pos (tp_in hG ht_h0 (by decide)) hf_o28
  refine va_get (D := (dC, dI)) (ci := 12) (v := .ref (ρ h0 2)) (C := RX12) (T := TX12) (N := 53) hx hb hts hfX12 hown hK hP q29 eq29 rfl 2 (by decide) (hts (.fieldLink RX12 7 "ColdShipsModel" "row" "[I") wa_148) (fun _ h9 => h9) rfl dX12_wayOf_1 ?_
  refine lv_bipush (v := 50) hx hb dX12_wayOf_4 (by decide) ?_
  refine lv_iconst (v := 2) hx hb dX12_wayOf_6 (by decide) ?_
  refine lv_bipush (v := 6) hx hb dX12_wayOf_7 (by decide) ?_
  refine lv_iload_n hx hb dX12_wayOf_9 rfl (lv_at hl 1 rfl) ?_
  refine lv_imul hx hb dX12_wayOf_10 ?_
  refine lv_topi (fun z30 ez30 => ?_)
  have iz30 : z30.toInt = 6 * v.toInt := zi_mul ez30 rfl rfl (by omega) (by omega)
  refine lv_iload_n hx hb dX12_wayOf_11 rfl (lv_at hl 2 rfl) ?_
  refine lv_iadd hx hb dX12_wayOf_12 ?_
  refine lv_topi (fun z31 ez31 => ?_)
  have iz31 : z31.toInt = z30.toInt + u.toInt := zi_add ez31 rfl rfl (by omega) (by omega)
  refine lv_imul hx hb dX12_wayOf_13 ?_
  refine lv_topi (fun z32 ez32 => ?_)
  have iz32 : z32.toInt = 2 * z31.toInt := zi_mul ez32 rfl rfl (by omega) (by omega)
  refine lv_iadd hx hb dX12_wayOf_14 ?_
  refine lv_topi (fun z33 ez33 => ?_)
  have iz33 : z33.toInt = 50 + z32.toInt := zi_add ez33 rfl rfl (by omega) (by omega)
  obtain ⟨q34, eq34⟩ := tp_pos (tp_in hG y1 (by decide)) hf_o26
  refine va_iald hx hb hK hP q34 0 eq34 rfl (vp_in_iff.mpr ⟨by omega, by omega⟩) dX12_wayOf_15 ?_
  refine lv_topi (fun z35 ez35 => ?_)
  exact W.iret (v := z35) hx hb hr (fun t ht hW => ⟨z35, rfl, ⟨trivial, trivial⟩, ht⟩) (fun _ h => by cases h) dX12_wayOf_16
set_option maxHeartbeats 4000000 in
set_option maxRecDepth 100000 in
theorem t_X12_slot (l : Launch) (dC : Nat → ClassId) (dI : Nat → Nat → Nat) (sz : Nat) (κ : Nat → ClassId) (τ ν : Nat → Nat) (ρ : Nat → Nat → Nat) (L : List Nat) (f : Nat → va_E) (hG : tp_G τ ν ρ L) (hT : tp_T (mo_O κ) κ τ ν ρ f) (h0 : Nat) (v : Int32) (u : Int32) (a : Int32) (a4 : Int32) (ht_h0 : τ h0 = 13) (hJ : mo_RI (-1) 0 (mo_R (mo_i (f (ρ h0 2))))) : Met l yX12_slot wqX12_slot ({ frames := 4, cells := 0, slots := 0, locals := 1200 }) (va_Pc [.ref h0, .int v, .int u, .int a, .int a4] (pz_B dC dI (tp_K κ) (va_pl L f) sz)) (va_Qi (fun (r : Int32) (f1 : Nat → va_E) => tp_T (mo_O κ) κ τ ν ρ f1 ∧ tp_F τ [13, 32] f f1 ∧ True ∧ mo_RI (-1) 0 (mo_R (mo_i (f1 (ρ h0 2))))) (fun (f1 : Nat → va_E) (t : State) => pz_E dC dI (tp_K κ) (va_A (va_pl L f) sz) (va_pl L f1) t) (va_A (va_pl L f) sz)) 0 0 (va_A (va_pl L f) sz) := by
  refine Met.ofW (cc := cX12_slot) (maxL := 7) (ret := some .int) (by decide) rfl ?_
  intro p e s m args below meth c s₁ B hml hv
  obtain ⟨rfl, hsz, hP, hK, hD0, hN⟩ := hv
  have hx := B.exec
  have hb := B.bytes
  have hr := B.returns
  have hts := fun (w : Cond) (h : w ∈ WALL) => atoms_spec (ws := wqX12_slot) B.pre w (List.mem_cons_of_mem _ h)
  have hown : s.vm.findClass RX12 = some m.cls := findClass_of_methodNamed B.named
  have hlocks := B.notSynchronized
  subst hsz
  have hD := hD0.self (sz := s.heap.size)
  generalize hAe : va_A (va_pl L f) s.heap.size = A at hD ⊢
  have hA : ∀ q : Nat, s.heap.size ≤ q → A q := fun q h => by rw [← hAe]; exact Or.inr h
  have hS : va_S A s.heap s.heap [] := va_S.rf
  have hR : tp_F τ [13, 32] f f := tp_F.rf
  have hl := lv_entry ([.ref h0, .int v, .int u, .int a, .int a4]) (n := 7) (Nat.le_of_ble_eq_true rfl)
  rw [lg_entry_eq]
  generalize (lg_sl ([.ref h0, .int v, .int u, .int a, .int a4]) ++ List.replicate (7 - (lg_sl ([.ref h0, .int v, .int u, .int a, .int a4])).length) Slot.unset).toArray = ls at hl ⊢
  have hl : lv_has ls 7 [(0, .ref h0), (1, .int v), (2, .int u), (3, .int a), (4, .int a4)] := hl
  obtain ⟨y1, y2, y3, y4, y5, y6, y7, y8, y9, y10, y11, y12, y13, y14, y15, y16, y17, y18, y19, y20, y21, y22, y23, y24, y25⟩ := tpg_13 hG ht_h0
  obtain ⟨g27, hf_o26⟩ := tpo_32 hT y1
  have hI : mo_RI (-1) 0 (mo_R g27) := by have q9 := hJ; rw [hf_o26, mo_i1] at q9; exact q9
  refine lv_aload_n hx hb dX12_slot_0 rfl (lv_at hl 0 rfl) ?_
  refine lv_iconst (v := 0) hx hb dX12_slot_1 (by decide) ?_
  obtain ⟨o28_x0, o28_x1, o28_x7, o28_x9, o28_x10, o28_x11, o28_x12, o28_x13, o28_x14, o28_x15, o28_x16, o28_x17, o28_x18, o28_x19, o28_x20, o28_x22, o28_x25, o28_x28, o28_x29, o28_x32, o28_x33, o28_x34, o28_x35, o28_x36, o28_x37, o28_x38, o28_x47, o28_x48, hf_o28, ro28_0, ro28_1, ro28_2, ro28_3, ro28_4, ro28_5, ro28_6, ro28_7, ro28_8, ro28_9, ro28_10, ro28_11, ro28_12, ro28_13⟩ := tpo_13 hT ht_h0
  obtain ⟨q29, eq29⟩ := tp_pos (tp_in hG ht_h0 (by decide)) hf_o28
  refine va_put (D := (dC, dI)) (ci := 12) (v := .int 0) (ty := .int) (C := RX12) (T := TX12) (N := 53) hx hb hts hfX12 tyX12 tyX12_ok nmX12 hown hK hP hD hS q29 eq29 rfl 0 (by decide) (hts (.fieldLink RX12 91 "ColdShipsModel" "thrown" "I") wa_209) (fun _ h9 => h9) rfl (tyX12_ok 0 (by decide)) rfl rfl (Nat.le_of_ble_eq_true rfl) dX12_slot_2 (tp_k (.inr (12, [.int 0, .int o28_x1, .ref (ρ h0 2), .ref (ρ h0 3), .ref (ρ h0 4), .ref (ρ h0 5), .ref (ρ h0 6), .int o28_x7, .ref (ρ h0 8), .int o28_x9, .int o28_x10, .int o28_x11, .int o28_x12, .long o28_x13, .int o28_x14, .int o28_x15, .int o28_x16, .int o28_x17, .int o28_x18, .int o28_x19, .int o28_x20, .ref (ρ h0 21), .int o28_x22, .ref (ρ h0 23), .ref (ρ h0 24), .int o28_x25, .ref (ρ h0 26), .ref (ρ h0 27), .int o28_x28, .int o28_x29, .ref (ρ h0 30), .ref (ρ h0 31), .int o28_x32, .long o28_x33, .long o28_x34, .long o28_x35, .int o28_x36, .int o28_x37, .int o28_x38, .ref (ρ h0 39), .ref (ρ h0 40), .ref (ρ h0 41), .ref (ρ h0 42), .ref (ρ h0 43), .ref (ρ h0 44), .ref (ρ h0 45), .ref (ρ h0 46), .int o28_x47, .int o28_x48, .ref (ρ h0 49), .ref (ρ h0 50), .ref (ρ h0 51), .ref (ρ h0 52)])) hD (tp_in hG ht_h0 (by decide)) eq29 (fun f30 H locs hP hD hS g32 k31 => ?_))
  have hT := hT.up ht_h0 g32 k31 ⟨_, _, _, _, _, _, _, _, _, _, _, _, _, _, _, _, _, _, _, _, _, _, _, _, _, _, _, _, rfl, ro28_0, ro28_1, ro28_2, ro28_3, ro28_4, ro28_5, ro28_6, ro28_7, ro28_8, ro28_9, ro28_10, ro28_11, ro28_12, ro28_13⟩
  have hR := hR.up ht_h0 (by decide) k31
  refine lv_iload hx hb dX12_slot_5 (lv_at hl 4 rfl) ?_
  have hf_33 : f30 (ρ h0 2) = .inl (κ 0, 12967, .inl g27) := (k31 _ (tp_ne y1 ht_h0 (by decide))).trans hf_o26
  refine pz_calli (va_runS (As := [.int a4]) (rest := []) ⟨hx, hb, hml, hown, hts⟩ (t_X12_isHour l dC dI _ a4 (a4.toInt) rfl) (va_cwS 1 hts gX12_slot_X12_isHour rfl rfl rfl pd_X12_isHour ⟨Nat.le_of_ble_eq_true rfl, Nat.le_of_ble_eq_true rfl⟩) ⟨pz_blind, pz_pre pz_P0 (hK.sub (tys' := []) [] rfl) (pz_D0 (A := fun _ => True)) hN⟩ rfl rfl hl.1 rfl (lv_room (Nat.le_of_ble_eq_true rfl)) dX12_slot_7 ⟨Nat.le_of_ble_eq_true rfl, Nat.le_of_ble_eq_true rfl⟩) (fun r34 hw35 => ?_)
  obtain ⟨hw35r, hw35p⟩ := hw35
  refine lv_if_eq (tgt := 25) hx hb dX12_slot_10 (by decide) (fun c36 => ?_) (fun c36 => ?_)
  · have ic36 : r34.toInt = 0 := zi_eq rfl rfl c36
    refine lv_aload_n hx hb dX12_slot_25 rfl (lv_at hl 0 rfl) ?_
    refine lv_iconst (v := (-1)) hx hb dX12_slot_26 (by decide) ?_
    obtain ⟨q37, eq37⟩ := tp_pos (tp_in hG ht_h0 (by decide)) g32
    have hFc := tp_fr hD hS hA
    refine va_calli (va_runV (As := [.int (-1)]) (rest := []) ⟨hx, hb, hml, hown, hts⟩ (t_X12_told l dC dI _ κ τ ν ρ L f30 hG hT h0 ((-1)) ht_h0) (cwV 1 hts gX12_slot_X12_told rfl rfl rfl ⟨rfl, pd_X12_told⟩ ⟨Nat.le_of_ble_eq_true rfl, Nat.le_of_ble_eq_true rfl⟩) ⟨pz_blind, va_recv hK hP (ci := 12) (q0 := q37) rfl eq37, pz_pre hP hK hD hN⟩ rfl rfl hl.1 rfl (lv_room (Nat.le_of_ble_eq_true rfl)) dX12_slot_27 ⟨Nat.le_of_ble_eq_true rfl, Nat.le_of_ble_eq_true rfl⟩) hS (fun q _ h => hFc q h) hFc (fun r38 f40 t H1 locs ht hvm hw39 hB hz1 hk1 hS => ?_)
    obtain ⟨hT, hF41, hw39r, hw39p⟩ := hw39
    have hR := hR.then hF41 (by decide)
    have hP := hB.1; rw [ht] at hP; have hD := tp_ad f40 hD; clear hB hFc hz1 hk1; subst ht; generalize t.heap = H at hP hS ⊢
    have hw39pq : r38.toInt = (-1) := by rw [hw39p]; rfl
    have hf_42 : f40 (ρ h0 2) = .inl (κ 0, 12967, .inl g27) := (hF41 _ (by rw [y1]; decide)).trans hf_33
    exact W.iret (v := r38) hx hb hr (fun t ht hW => ⟨⟨r38, f40, rfl, ⟨hT, hR, trivial, (by rw [hf_42, mo_i1]; exact hI)⟩, by rw [ht]; exact hP, va_K.moved hW.alike hK, hD⟩, hS.F ht⟩) hS.2.2 dX12_slot_30
  · have ic36 : r34.toInt ≠ 0 := zi_eqf rfl rfl c36
    have p43 : 0 ≤ (a4.toInt) ∧ (a4.toInt) ≤ 2399 := (tp_cond.yes hw35p) (by omega)
    refine lv_iload_n hx hb dX12_slot_13 rfl (lv_at hl 3 rfl) ?_
    refine lv_i2l hx hb dX12_slot_14 rfl ?_
    refine lv_lconst (v := 0) hx hb dX12_slot_15 (by decide) ?_
    refine lv_iload hx hb dX12_slot_16 (lv_at hl 4 rfl) ?_
    refine lv_i2l hx hb dX12_slot_18 rfl ?_
    refine pz_calli (va_runS (As := [.long a.toInt64, .long 0, .long a4.toInt64]) (rest := []) ⟨hx, hb, hml, hown, hts⟩ (t_X12_in l dC dI _ a.toInt64 (0) a4.toInt64 (a.toInt) (0) (a4.toInt) (Int32.toInt_toInt64 a) rfl (Int32.toInt_toInt64 a4)) (va_cwS 3 hts gX12_slot_X12_in rfl rfl rfl pd_X12_in ⟨Nat.le_of_ble_eq_true rfl, Nat.le_of_ble_eq_true rfl⟩) ⟨pz_blind, pz_pre pz_P0 (hK.sub (tys' := []) [] rfl) (pz_D0 (A := fun _ => True)) hN⟩ rfl rfl hl.1 rfl (lv_room (Nat.le_of_ble_eq_true rfl)) dX12_slot_19 ⟨Nat.le_of_ble_eq_true rfl, Nat.le_of_ble_eq_true rfl⟩) (fun r44 hw45 => ?_)
    obtain ⟨hw45r, hw45p⟩ := hw45
    refine lv_if_ne (tgt := 31) hx hb dX12_slot_22 (by decide) (fun c46 => ?_) (fun c46 => ?_)
    · have ic46 : r44.toInt ≠ 0 := zi_ne rfl rfl c46
      have p47 : (0) ≤ (a.toInt) ∧ (a.toInt) ≤ (a4.toInt) := (tp_cond.yes hw45p) (by omega)
      refine lv_aload_n hx hb dX12_slot_31 rfl (lv_at hl 0 rfl) ?_
      refine lv_iload_n hx hb dX12_slot_32 rfl (lv_at hl 1 rfl) ?_
      obtain ⟨q48, eq48⟩ := tp_pos (tp_in hG ht_h0 (by decide)) g32
      refine pz_calli (va_runV (As := [.int v]) (rest := []) ⟨hx, hb, hml, hown, hts⟩ (t_X12_isTerminal l dC dI _ κ τ ν ρ L f30 hG hT h0 v (-1) 0 ht_h0 (by omega) (by rw [hf_33, mo_i1]; exact hI)) (cwV 1 hts gX12_slot_X12_isTerminal rfl rfl rfl ⟨rfl, pd_X12_isTerminal⟩ ⟨Nat.le_of_ble_eq_true rfl, Nat.le_of_ble_eq_true rfl⟩) ⟨pz_blind, va_recv hK hP (ci := 12) (q0 := q48) rfl eq48, pz_pre hP hK hD hN⟩ rfl rfl hl.1 rfl (lv_room (Nat.le_of_ble_eq_true rfl)) dX12_slot_33 ⟨Nat.le_of_ble_eq_true rfl, Nat.le_of_ble_eq_true rfl⟩) (fun r49 hw50 => ?_)
      obtain ⟨hw50r, hw50p⟩ := hw50
      have := hI.k0
      rw [hf_33, mo_i1] at hw50p
      refine lv_if_eq (tgt := 47) hx hb dX12_slot_36 (by decide) (fun c51 => ?_) (fun c51 => ?_)
      · have ic51 : r49.toInt = 0 := zi_eq rfl rfl c51
        refine lv_aload_n hx hb dX12_slot_47 rfl (lv_at hl 0 rfl) ?_
        refine lv_bipush (v := (-2)) hx hb dX12_slot_48 (by decide) ?_
        have hFc := tp_fr hD hS hA
        refine va_calli (va_runV (As := [.int (-2)]) (rest := []) ⟨hx, hb, hml, hown, hts⟩ (t_X12_told l dC dI _ κ τ ν ρ L f30 hG hT h0 ((-2)) ht_h0) (cwV 1 hts gX12_slot_X12_told rfl rfl rfl ⟨rfl, pd_X12_told⟩ ⟨Nat.le_of_ble_eq_true rfl, Nat.le_of_ble_eq_true rfl⟩) ⟨pz_blind, va_recv hK hP (ci := 12) (q0 := q48) rfl eq48, pz_pre hP hK hD hN⟩ rfl rfl hl.1 rfl (lv_room (Nat.le_of_ble_eq_true rfl)) dX12_slot_50 ⟨Nat.le_of_ble_eq_true rfl, Nat.le_of_ble_eq_true rfl⟩) hS (fun q _ h => hFc q h) hFc (fun r52 f54 t H1 locs ht hvm hw53 hB hz1 hk1 hS => ?_)
        obtain ⟨hT, hF55, hw53r, hw53p⟩ := hw53
        have hR := hR.then hF55 (by decide)
        have hP := hB.1; rw [ht] at hP; have hD := tp_ad f54 hD; clear hB hFc hz1 hk1; subst ht; generalize t.heap = H at hP hS ⊢
        have hw53pq : r52.toInt = (-2) := by rw [hw53p]; rfl
        have hf_56 : f54 (ρ h0 2) = .inl (κ 0, 12967, .inl g27) := (hF55 _ (by rw [y1]; decide)).trans hf_33
        exact W.iret (v := r52) hx hb hr (fun t ht hW => ⟨⟨r52, f54, rfl, ⟨hT, hR, trivial, (by rw [hf_56, mo_i1]; exact hI)⟩, by rw [ht]; exact hP, va_K.moved hW.alike hK, hD⟩, hS.F ht⟩) hS.2.2 dX12_slot_53
      · have ic51 : r49.toInt ≠ 0 := zi_eqf rfl rfl c51
        have p57 : 0 ≤ v.toInt ∧ v.toInt < mo_R g27 0 := (tp_cond.yes hw50p) (by omega)
        refine lv_aload_n hx hb dX12_slot_39 rfl (lv_at hl 0 rfl) ?_
        refine lv_iload_n hx hb dX12_slot_40 rfl (lv_at hl 2 rfl) ?_
        refine pz_calli (va_runV (As := [.int u]) (rest := []) ⟨hx, hb, hml, hown, hts⟩ (t_X12_isShip l dC dI _ κ τ ν ρ L f30 hG hT h0 u (-1) 0 ht_h0 (by omega) (by rw [hf_33, mo_i1]; exact hI)) (cwV 1 hts gX12_slot_X12_isShip rfl rfl rfl ⟨rfl, pd_X12_isShip⟩ ⟨Nat.le_of_ble_eq_true rfl, Nat.le_of_ble_eq_true rfl⟩) ⟨pz_blind, va_recv hK hP (ci := 12) (q0 := q48) rfl eq48, pz_pre hP hK hD hN⟩ rfl rfl hl.1 rfl (lv_room (Nat.le_of_ble_eq_true rfl)) dX12_slot_41 ⟨Nat.le_of_ble_eq_true rfl, Nat.le_of_ble_eq_true rfl⟩) (fun r58 hw59 => ?_)
        obtain ⟨hw59r, hw59p⟩ := hw59
        have := hI.k1
        rw [hf_33, mo_i1] at hw59p
        refine lv_if_ne (tgt := 54) hx hb dX12_slot_44 (by decide) (fun c60 => ?_) (fun c60 => ?_)
        · have ic60 : r58.toInt ≠ 0 := zi_ne rfl rfl c60
          have p61 : 0 ≤ u.toInt ∧ u.toInt < mo_R g27 1 := (tp_cond.yes hw59p) (by omega)
          refine lv_iconst (v := 0) hx hb dX12_slot_54 (by decide) ?_
          refine lv_istore (lv' := [(5, .int 0), (0, .ref h0), (1, .int v), (2, .int u), (3, .int a), (4, .int a4)]) hx hb dX12_slot_55 hl (by decide) rfl (fun ls hl => ?_)
          refine pz_loop (fun n0 H locs ls => ∃ w62 : Int32, n0 = (60 - (w62.toInt)).toNat ∧ (0 ≤ w62.toInt ∧ w62.toInt ≤ 60) ∧ va_P (dC, dI) vwCl (va_pl L f30) H ∧ va_D A (va_pl L f30) ∧ va_S A s.heap H locs ∧ lv_has ls 7 [(5, .int w62), (0, .ref h0), (1, .int v), (2, .int u), (3, .int a), (4, .int a4)]) ?_ _ _ _ _ ⟨0, rfl, (by have : (0 : Int32).toInt = 0 := rfl; omega), hP, hD, hS, lv_sub hl [0, 1, 2, 3, 4, 5] rfl⟩
          intro n0 H locs ls hI ih63
          obtain ⟨w62, hn64, rw62, hP, hD, hS, hl⟩ := hI
          refine lv_iload hx hb dX12_slot_57 (lv_at hl 0 rfl) ?_
          refine lv_aload_n hx hb dX12_slot_59 rfl (lv_at hl 1 rfl) ?_
          refine va_get (D := (dC, dI)) (ci := 12) (v := .ref (ρ h0 2)) (C := RX12) (T := TX12) (N := 53) hx hb hts hfX12 hown hK hP q48 eq48 rfl 2 (by decide) (hts (.fieldLink RX12 7 "ColdShipsModel" "row" "[I") wa_148) (fun _ h9 => h9) rfl dX12_slot_60 ?_
          refine lv_iconst (v := 2) hx hb dX12_slot_63 (by decide) ?_
          obtain ⟨q65, eq65⟩ := tp_pos (tp_in hG y1 (by decide)) hf_33
          refine va_iald hx hb hK hP q65 0 eq65 rfl (vp_in_iff.mpr ⟨by decide, by decide⟩) dX12_slot_64 ?_
          refine lv_topi (fun z66 ez66 => ?_)
          have jz66 : z66.toInt = mo_R g27 (2) := mo_rd ez66 (show (2 : Int32).toInt = (2) from by decide)
          have kz66 := hI.k2
          refine lv_icmp_ge (tgt := 129) hx hb dX12_slot_65 (by decide) (fun c67 => ?_) (fun c67 => ?_)
          · have ic67 : w62.toInt ≥ z66.toInt := zi_ge rfl rfl c67
            refine lv_aload_n hx hb dX12_slot_129 rfl (lv_at hl 1 rfl) ?_
            refine va_get (D := (dC, dI)) (ci := 12) (v := .ref (ρ h0 2)) (C := RX12) (T := TX12) (N := 53) hx hb hts hfX12 hown hK hP q48 eq48 rfl 2 (by decide) (hts (.fieldLink RX12 7 "ColdShipsModel" "row" "[I") wa_148) (fun _ h9 => h9) rfl dX12_slot_130 ?_
            refine lv_iconst (v := 2) hx hb dX12_slot_133 (by decide) ?_
            refine va_iald hx hb hK hP q65 0 eq65 rfl (vp_in_iff.mpr ⟨by decide, by decide⟩) dX12_slot_134 ?_
            refine lv_topi (fun z68 ez68 => ?_)
            have jz68 : z68.toInt = mo_R g27 (2) := mo_rd ez68 (show (2 : Int32).toInt = (2) from by decide)
            have kz68 := hI.k2
            refine lv_bipush (v := 60) hx hb dX12_slot_135 (by decide) ?_
            refine lv_icmp_ne (tgt := 147) hx hb dX12_slot_137 (by decide) (fun c69 => ?_) (fun c69 => ?_)
            · have ic69 : z68.toInt ≠ 60 := zi_ne rfl rfl c69
              refine lv_aload_n hx hb dX12_slot_147 rfl (lv_at hl 1 rfl) ?_
              refine lv_sipush (v := 247) hx hb dX12_slot_148 (by decide) ?_
              refine lv_iconst (v := 4) hx hb dX12_slot_151 (by decide) ?_
              refine lv_aload_n hx hb dX12_slot_152 rfl (lv_at hl 1 rfl) ?_
              refine va_get (D := (dC, dI)) (ci := 12) (v := .ref (ρ h0 2)) (C := RX12) (T := TX12) (N := 53) hx hb hts hfX12 hown hK hP q48 eq48 rfl 2 (by decide) (hts (.fieldLink RX12 7 "ColdShipsModel" "row" "[I") wa_148) (fun _ h9 => h9) rfl dX12_slot_153 ?_
              refine lv_iconst (v := 2) hx hb dX12_slot_156 (by decide) ?_
              refine va_iald hx hb hK hP q65 0 eq65 rfl (vp_in_iff.mpr ⟨by decide, by decide⟩) dX12_slot_157 ?_
              refine lv_topi (fun z70 ez70 => ?_)
              have jz70 : z70.toInt = mo_R g27 (2) := mo_rd ez70 (show (2 : Int32).toInt = (2) from by decide)
              have kz70 := hI.k2
              refine lv_imul hx hb dX12_slot_158 ?_
              refine lv_topi (fun z71 ez71 => ?_)
              have iz71 : z71.toInt = 4 * z70.toInt := zi_mul ez71 rfl rfl (by omega) (by omega)
              refine lv_iadd hx hb dX12_slot_159 ?_
              refine lv_topi (fun z72 ez72 => ?_)
              have iz72 : z72.toInt = 247 + z71.toInt := zi_add ez72 rfl rfl (by omega) (by omega)
              refine lv_iload_n hx hb dX12_slot_160 rfl (lv_at hl 2 rfl) ?_
              refine lv_iload_n hx hb dX12_slot_161 rfl (lv_at hl 3 rfl) ?_
              refine lv_iload_n hx hb dX12_slot_162 rfl (lv_at hl 4 rfl) ?_
              refine lv_iload hx hb dX12_slot_163 (lv_at hl 5 rfl) ?_
              have hFc := tp_fr hD hS hA
              refine va_callv (va_runV (As := [.int z72, .int v, .int u, .int a, .int a4]) (rest := []) ⟨hx, hb, hml, hown, hts⟩ (t_X12_addFour l dC dI _ κ τ ν ρ L f30 hG hT h0 z72 v u a a4 ht_h0 (by first | decide | omega)) (cwV 5 hts gX12_slot_X12_addFour rfl rfl rfl ⟨rfl, pd_X12_addFour⟩ ⟨Nat.le_of_ble_eq_true rfl, Nat.le_of_ble_eq_true rfl⟩) ⟨pz_blind, va_recv hK hP (ci := 12) (q0 := q48) rfl eq48, pz_pre hP hK hD hN⟩ rfl rfl hl.1 rfl (lv_room (Nat.le_of_ble_eq_true rfl)) dX12_slot_165 ⟨Nat.le_of_ble_eq_true rfl, Nat.le_of_ble_eq_true rfl⟩) hS (fun q _ h => hFc q h) hFc (fun f75 t H1 locs ht hvm hw74 hB hz1 hk1 hS => ?_)
              obtain ⟨hT, hF76, hw74p⟩ := hw74
              have hR := hR.then hF76 (by decide)
              have hP := hB.1; rw [ht] at hP; have hD := tp_ad f75 hD; clear hB hFc hz1 hk1; subst ht; generalize t.heap = H at hP hS ⊢
              rw [hf_33, mo_i1] at hw74p
              obtain ⟨Q1_76, Q2_76, Q3_76, u1_76, u2_76, u3_76, u4_76⟩ := hw74p
              obtain ⟨g78, hf_o77⟩ := tpo_32 hT y1
              rw [hf_o77, mo_i1] at u4_76
              have hU : mo_U (mo_R g27) (Q1_76) (247 + 4 * z66.toInt) (v.toInt) := by have q9 := u1_76; rw [show z72.toInt = (247 + 4 * z66.toInt) by omega] at q9; exact q9
              have hI := mo_w_flat hI hU (by omega)
              have pn79 : Q1_76 (2) = z66.toInt := (hU.ne (by omega) (by omega)).trans (jz66).symm
              have hU : mo_U (Q1_76) (Q2_76) (248 + 4 * z66.toInt) (u.toInt) := by have q9 := u2_76; rw [show z72.toInt + 1 = (248 + 4 * z66.toInt) by omega] at q9; exact q9
              have hI := mo_w_flat hI hU (by omega)
              have pn80 : Q2_76 (2) = z66.toInt := (hU.ne (by omega) (by omega)).trans pn79
              have hU : mo_U (Q2_76) (Q3_76) (249 + 4 * z66.toInt) (a.toInt) := by have q9 := u3_76; rw [show z72.toInt + 2 = (249 + 4 * z66.toInt) by omega] at q9; exact q9
              have hI := mo_w_flat hI hU (by omega)
              have pn81 : Q3_76 (2) = z66.toInt := (hU.ne (by omega) (by omega)).trans pn80
              have hU : mo_U (Q3_76) (mo_R g78) (250 + 4 * z66.toInt) (a4.toInt) := by have q9 := u4_76; rw [show z72.toInt + 3 = (250 + 4 * z66.toInt) by omega] at q9; exact q9
              have hI := mo_w_flat hI hU (by omega)
              have pn82 : mo_R g78 (2) = z66.toInt := (hU.ne (by omega) (by omega)).trans pn81
              refine lv_aload_n hx hb dX12_slot_168 rfl (lv_at hl 1 rfl) ?_
              have hf_83 : f75 h0 = .inr (12, [.int 0, .int o28_x1, .ref (ρ h0 2), .ref (ρ h0 3), .ref (ρ h0 4), .ref (ρ h0 5), .ref (ρ h0 6), .int o28_x7, .ref (ρ h0 8), .int o28_x9, .int o28_x10, .int o28_x11, .int o28_x12, .long o28_x13, .int o28_x14, .int o28_x15, .int o28_x16, .int o28_x17, .int o28_x18, .int o28_x19, .int o28_x20, .ref (ρ h0 21), .int o28_x22, .ref (ρ h0 23), .ref (ρ h0 24), .int o28_x25, .ref (ρ h0 26), .ref (ρ h0 27), .int o28_x28, .int o28_x29, .ref (ρ h0 30), .ref (ρ h0 31), .int o28_x32, .long o28_x33, .long o28_x34, .long o28_x35, .int o28_x36, .int o28_x37, .int o28_x38, .ref (ρ h0 39), .ref (ρ h0 40), .ref (ρ h0 41), .ref (ρ h0 42), .ref (ρ h0 43), .ref (ρ h0 44), .ref (ρ h0 45), .ref (ρ h0 46), .int o28_x47, .int o28_x48, .ref (ρ h0 49), .ref (ρ h0 50), .ref (ρ h0 51), .ref (ρ h0 52)]) := (hF76 _ (by rw [ht_h0]; decide)).trans g32
              obtain ⟨q84, eq84⟩ := tp_pos (tp_in hG ht_h0 (by decide)) hf_83
              refine va_get (D := (dC, dI)) (ci := 12) (v := .ref (ρ h0 2)) (C := RX12) (T := TX12) (N := 53) hx hb hts hfX12 hown hK hP q84 eq84 rfl 2 (by decide) (hts (.fieldLink RX12 7 "ColdShipsModel" "row" "[I") wa_148) (fun _ h9 => h9) rfl dX12_slot_169 ?_
              refine lv_iconst (v := 2) hx hb dX12_slot_172 (by decide) ?_
              refine lv_dup2_11 hx hb dX12_slot_173 rfl rfl ?_
              obtain ⟨q85, eq85⟩ := tp_pos (tp_in hG y1 (by decide)) hf_o77
              refine va_iald hx hb hK hP q85 0 eq85 rfl (vp_in_iff.mpr ⟨by decide, by decide⟩) dX12_slot_174 ?_
              refine lv_topi (fun z86 ez86 => ?_)
              have jz86 : z86.toInt = mo_R g78 (2) := mo_rd ez86 (show (2 : Int32).toInt = (2) from by decide)
              have kz86 := hI.k2
              refine lv_iconst (v := 1) hx hb dX12_slot_175 (by decide) ?_
              refine lv_iadd hx hb dX12_slot_176 ?_
              refine lv_topi (fun z87 ez87 => ?_)
              have iz87 : z87.toInt = z86.toInt + 1 := zi_add ez87 rfl rfl (by omega) (by omega)
              refine va_iast hx hb hK hP hD hS q85 0 eq85 rfl (vp_in_iff.mpr ⟨by decide, by decide⟩) dX12_slot_177 (tp_k (.inl (κ 0, 12967, .inl (upd g78 (2 : Int32).toNatClampNeg z87))) hD (tp_in hG y1 (by decide)) eq85 (fun f88 H locs hP hD hS g90 k89 => ?_))
              have hT := hT.up y1 g90 k89 tp_o32
              have hR := hR.up y1 (by decide) k89
              have hU : mo_U (mo_R g78) (mo_R (upd g78 (2 : Int32).toNatClampNeg z87)) (2) (z87.toInt) := mo_up (show (2 : Int32).toInt = (2) from by decide) (rfl : z87.toInt = _) (by omega)
              generalize (upd g78 (2 : Int32).toNatClampNeg z87) = g91 at g90 hU
              have hI := mo_w_cnt hI hU (by omega) (by omega)
              have pn92 : mo_R g91 (2) = z87.toInt := hU.eq (by omega)
              refine lv_aload_n hx hb dX12_slot_178 rfl (lv_at hl 1 rfl) ?_
              refine lv_aload_n hx hb dX12_slot_179 rfl (lv_at hl 1 rfl) ?_
              have hf_93 : f88 h0 = .inr (12, [.int 0, .int o28_x1, .ref (ρ h0 2), .ref (ρ h0 3), .ref (ρ h0 4), .ref (ρ h0 5), .ref (ρ h0 6), .int o28_x7, .ref (ρ h0 8), .int o28_x9, .int o28_x10, .int o28_x11, .int o28_x12, .long o28_x13, .int o28_x14, .int o28_x15, .int o28_x16, .int o28_x17, .int o28_x18, .int o28_x19, .int o28_x20, .ref (ρ h0 21), .int o28_x22, .ref (ρ h0 23), .ref (ρ h0 24), .int o28_x25, .ref (ρ h0 26), .ref (ρ h0 27), .int o28_x28, .int o28_x29, .ref (ρ h0 30), .ref (ρ h0 31), .int o28_x32, .long o28_x33, .long o28_x34, .long o28_x35, .int o28_x36, .int o28_x37, .int o28_x38, .ref (ρ h0 39), .ref (ρ h0 40), .ref (ρ h0 41), .ref (ρ h0 42), .ref (ρ h0 43), .ref (ρ h0 44), .ref (ρ h0 45), .ref (ρ h0 46), .int o28_x47, .int o28_x48, .ref (ρ h0 49), .ref (ρ h0 50), .ref (ρ h0 51), .ref (ρ h0 52)]) := (k89 _ (tp_ne ht_h0 y1 (by decide))).trans hf_83
              obtain ⟨q94, eq94⟩ := tp_pos (tp_in hG ht_h0 (by decide)) hf_93
              refine va_get (D := (dC, dI)) (ci := 12) (v := .ref (ρ h0 2)) (C := RX12) (T := TX12) (N := 53) hx hb hts hfX12 hown hK hP q94 eq94 rfl 2 (by decide) (hts (.fieldLink RX12 7 "ColdShipsModel" "row" "[I") wa_148) (fun _ h9 => h9) rfl dX12_slot_180 ?_
              refine lv_iconst (v := 2) hx hb dX12_slot_183 (by decide) ?_
              obtain ⟨q95, eq95⟩ := tp_pos (tp_in hG y1 (by decide)) g90
              refine va_iald hx hb hK hP q95 0 eq95 rfl (vp_in_iff.mpr ⟨by decide, by decide⟩) dX12_slot_184 ?_
              refine lv_topi (fun z96 ez96 => ?_)
              have jz96 : z96.toInt = mo_R g91 (2) := mo_rd ez96 (show (2 : Int32).toInt = (2) from by decide)
              have kz96 := hI.k2
              have hFc := tp_fr hD hS hA
              refine va_calli (va_runV (As := [.int z96]) (rest := []) ⟨hx, hb, hml, hown, hts⟩ (t_X12_told l dC dI _ κ τ ν ρ L f88 hG hT h0 z96 ht_h0) (cwV 1 hts gX12_slot_X12_told rfl rfl rfl ⟨rfl, pd_X12_told⟩ ⟨Nat.le_of_ble_eq_true rfl, Nat.le_of_ble_eq_true rfl⟩) ⟨pz_blind, va_recv hK hP (ci := 12) (q0 := q94) rfl eq94, pz_pre hP hK hD hN⟩ rfl rfl hl.1 rfl (lv_room (Nat.le_of_ble_eq_true rfl)) dX12_slot_185 ⟨Nat.le_of_ble_eq_true rfl, Nat.le_of_ble_eq_true rfl⟩) hS (fun q _ h => hFc q h) hFc (fun r97 f99 t H1 locs ht hvm hw98 hB hz1 hk1 hS => ?_)
              obtain ⟨hT, hF100, hw98r, hw98p⟩ := hw98
              have hR := hR.then hF100 (by decide)
              have hP := hB.1; rw [ht] at hP; have hD := tp_ad f99 hD; clear hB hFc hz1 hk1; subst ht; generalize t.heap = H at hP hS ⊢
              have hw98pq : r97.toInt = z96.toInt := by rw [hw98p]
              have hf_101 : f99 (ρ h0 2) = .inl (κ 0, 12967, .inl g91) := (hF100 _ (by rw [y1]; decide)).trans g90
              exact W.iret (v := r97) hx hb hr (fun t ht hW => ⟨⟨r97, f99, rfl, ⟨hT, hR, trivial, (by rw [hf_101, mo_i1]; exact hI)⟩, by rw [ht]; exact hP, va_K.moved hW.alike hK, hD⟩, hS.F ht⟩) hS.2.2 dX12_slot_188
            · have ic69 : z68.toInt = 60 := zi_nef rfl rfl c69
              refine lv_aload_n hx hb dX12_slot_140 rfl (lv_at hl 1 rfl) ?_
              refine lv_bipush (v := (-5)) hx hb dX12_slot_141 (by decide) ?_
              have hFc := tp_fr hD hS hA
              refine va_calli (va_runV (As := [.int (-5)]) (rest := []) ⟨hx, hb, hml, hown, hts⟩ (t_X12_told l dC dI _ κ τ ν ρ L f30 hG hT h0 ((-5)) ht_h0) (cwV 1 hts gX12_slot_X12_told rfl rfl rfl ⟨rfl, pd_X12_told⟩ ⟨Nat.le_of_ble_eq_true rfl, Nat.le_of_ble_eq_true rfl⟩) ⟨pz_blind, va_recv hK hP (ci := 12) (q0 := q48) rfl eq48, pz_pre hP hK hD hN⟩ rfl rfl hl.1 rfl (lv_room (Nat.le_of_ble_eq_true rfl)) dX12_slot_143 ⟨Nat.le_of_ble_eq_true rfl, Nat.le_of_ble_eq_true rfl⟩) hS (fun q _ h => hFc q h) hFc (fun r102 f104 t H1 locs ht hvm hw103 hB hz1 hk1 hS => ?_)
              obtain ⟨hT, hF105, hw103r, hw103p⟩ := hw103
              have hR := hR.then hF105 (by decide)
              have hP := hB.1; rw [ht] at hP; have hD := tp_ad f104 hD; clear hB hFc hz1 hk1; subst ht; generalize t.heap = H at hP hS ⊢
              have hw103pq : r102.toInt = (-5) := by rw [hw103p]; rfl
              have hf_106 : f104 (ρ h0 2) = .inl (κ 0, 12967, .inl g27) := (hF105 _ (by rw [y1]; decide)).trans hf_33
              exact W.iret (v := r102) hx hb hr (fun t ht hW => ⟨⟨r102, f104, rfl, ⟨hT, hR, trivial, (by rw [hf_106, mo_i1]; exact hI)⟩, by rw [ht]; exact hP, va_K.moved hW.alike hK, hD⟩, hS.F ht⟩) hS.2.2 dX12_slot_146
          · have ic67 : w62.toInt < z66.toInt := zi_gef rfl rfl c67
            refine lv_sipush (v := 247) hx hb dX12_slot_68 (by decide) ?_
            refine lv_iconst (v := 4) hx hb dX12_slot_71 (by decide) ?_
            refine lv_iload hx hb dX12_slot_72 (lv_at hl 0 rfl) ?_
            refine lv_imul hx hb dX12_slot_74 ?_
            refine lv_topi (fun z107 ez107 => ?_)
            have iz107 : z107.toInt = 4 * w62.toInt := zi_mul ez107 rfl rfl (by omega) (by omega)
            refine lv_iadd hx hb dX12_slot_75 ?_
            refine lv_topi (fun z108 ez108 => ?_)
            have iz108 : z108.toInt = 247 + z107.toInt := zi_add ez108 rfl rfl (by omega) (by omega)
            refine lv_istore (lv' := [(6, .int z108), (5, .int w62), (0, .ref h0), (1, .int v), (2, .int u), (3, .int a), (4, .int a4)]) hx hb dX12_slot_76 hl (by decide) rfl (fun ls hl => ?_)
            refine lv_aload_n hx hb dX12_slot_78 rfl (lv_at hl 2 rfl) ?_
            refine va_get (D := (dC, dI)) (ci := 12) (v := .ref (ρ h0 2)) (C := RX12) (T := TX12) (N := 53) hx hb hts hfX12 hown hK hP q48 eq48 rfl 2 (by decide) (hts (.fieldLink RX12 7 "ColdShipsModel" "row" "[I") wa_148) (fun _ h9 => h9) rfl dX12_slot_79 ?_
            refine lv_iload hx hb dX12_slot_82 (lv_at hl 0 rfl) ?_
            refine va_iald hx hb hK hP q65 0 eq65 rfl (vp_in_iff.mpr ⟨by omega, by omega⟩) dX12_slot_84 ?_
            refine lv_topi (fun z109 ez109 => ?_)
            refine lv_iload_n hx hb dX12_slot_85 rfl (lv_at hl 3 rfl) ?_
            refine lv_icmp_ne (tgt := 123) hx hb dX12_slot_86 (by decide) (fun c110 => ?_) (fun c110 => ?_)
            · have ic110 : z109.toInt ≠ v.toInt := zi_ne rfl rfl c110
              obtain ⟨z111, ez111⟩ : ∃ y : Int32, y = w62 + 1 := ⟨_, rfl⟩
              refine lv_iinc (v := z111) (lv' := [(5, .int z111), (6, .int z108), (0, .ref h0), (1, .int v), (2, .int u), (3, .int a), (4, .int a4)]) hx hb dX12_slot_123 hl (k := 1) rfl (by rw [ez111]; rfl) (by decide) rfl (fun ls hl => ?_)
              have iz111 : z111.toInt = w62.toInt + 1 := zi_add ez111 rfl rfl (by omega) (by omega)
              refine lv_goto (tgt := 57) hx hb dX12_slot_126 (by decide) ?_
              exact ih63 _ _ _ _ (by rw [hn64]; omega) ⟨z111, rfl, (by omega), hP, hD, hS, lv_sub hl [0, 2, 3, 4, 5, 6] rfl⟩
            · have ic110 : z109.toInt = v.toInt := zi_nef rfl rfl c110
              refine lv_iload_n hx hb dX12_slot_89 rfl (lv_at hl 5 rfl) ?_
              refine lv_aload_n hx hb dX12_slot_90 rfl (lv_at hl 2 rfl) ?_
              refine va_get (D := (dC, dI)) (ci := 12) (v := .ref (ρ h0 2)) (C := RX12) (T := TX12) (N := 53) hx hb hts hfX12 hown hK hP q48 eq48 rfl 2 (by decide) (hts (.fieldLink RX12 7 "ColdShipsModel" "row" "[I") wa_148) (fun _ h9 => h9) rfl dX12_slot_91 ?_
              refine lv_iload hx hb dX12_slot_94 (lv_at hl 0 rfl) ?_
              refine lv_iconst (v := 3) hx hb dX12_slot_96 (by decide) ?_
              refine lv_iadd hx hb dX12_slot_97 ?_
              refine lv_topi (fun z112 ez112 => ?_)
              have iz112 : z112.toInt = z108.toInt + 3 := zi_add ez112 rfl rfl (by omega) (by omega)
              refine va_iald hx hb hK hP q65 0 eq65 rfl (vp_in_iff.mpr ⟨by omega, by omega⟩) dX12_slot_98 ?_
              refine lv_topi (fun z113 ez113 => ?_)
              refine lv_icmp_gt (tgt := 123) hx hb dX12_slot_99 (by decide) (fun c114 => ?_) (fun c114 => ?_)
              · have ic114 : a.toInt > z113.toInt := zi_gt rfl rfl c114
                obtain ⟨z115, ez115⟩ : ∃ y : Int32, y = w62 + 1 := ⟨_, rfl⟩
                refine lv_iinc (v := z115) (lv' := [(5, .int z115), (6, .int z108), (0, .ref h0), (1, .int v), (2, .int u), (3, .int a), (4, .int a4)]) hx hb dX12_slot_123 hl (k := 1) rfl (by rw [ez115]; rfl) (by decide) rfl (fun ls hl => ?_)
                have iz115 : z115.toInt = w62.toInt + 1 := zi_add ez115 rfl rfl (by omega) (by omega)
                refine lv_goto (tgt := 57) hx hb dX12_slot_126 (by decide) ?_
                exact ih63 _ _ _ _ (by rw [hn64]; omega) ⟨z115, rfl, (by omega), hP, hD, hS, lv_sub hl [0, 2, 3, 4, 5, 6] rfl⟩
              · have ic114 : a.toInt ≤ z113.toInt := zi_gtf rfl rfl c114
                refine lv_iload hx hb dX12_slot_102 (lv_at hl 6 rfl) ?_
                refine lv_aload_n hx hb dX12_slot_104 rfl (lv_at hl 2 rfl) ?_
                refine va_get (D := (dC, dI)) (ci := 12) (v := .ref (ρ h0 2)) (C := RX12) (T := TX12) (N := 53) hx hb hts hfX12 hown hK hP q48 eq48 rfl 2 (by decide) (hts (.fieldLink RX12 7 "ColdShipsModel" "row" "[I") wa_148) (fun _ h9 => h9) rfl dX12_slot_105 ?_
                refine lv_iload hx hb dX12_slot_108 (lv_at hl 0 rfl) ?_
                refine lv_iconst (v := 2) hx hb dX12_slot_110 (by decide) ?_
                refine lv_iadd hx hb dX12_slot_111 ?_
                refine lv_topi (fun z116 ez116 => ?_)
                have iz116 : z116.toInt = z108.toInt + 2 := zi_add ez116 rfl rfl (by omega) (by omega)
                refine va_iald hx hb hK hP q65 0 eq65 rfl (vp_in_iff.mpr ⟨by omega, by omega⟩) dX12_slot_112 ?_
                refine lv_topi (fun z117 ez117 => ?_)
                refine lv_icmp_lt (tgt := 123) hx hb dX12_slot_113 (by decide) (fun c118 => ?_) (fun c118 => ?_)
                · have ic118 : a4.toInt < z117.toInt := zi_lt rfl rfl c118
                  obtain ⟨z119, ez119⟩ : ∃ y : Int32, y = w62 + 1 := ⟨_, rfl⟩
                  refine lv_iinc (v := z119) (lv' := [(5, .int z119), (6, .int z108), (0, .ref h0), (1, .int v), (2, .int u), (3, .int a), (4, .int a4)]) hx hb dX12_slot_123 hl (k := 1) rfl (by rw [ez119]; rfl) (by decide) rfl (fun ls hl => ?_)
                  have iz119 : z119.toInt = w62.toInt + 1 := zi_add ez119 rfl rfl (by omega) (by omega)
                  refine lv_goto (tgt := 57) hx hb dX12_slot_126 (by decide) ?_
                  exact ih63 _ _ _ _ (by rw [hn64]; omega) ⟨z119, rfl, (by omega), hP, hD, hS, lv_sub hl [0, 2, 3, 4, 5, 6] rfl⟩
                · have ic118 : a4.toInt ≥ z117.toInt := zi_ltf rfl rfl c118
                  refine lv_aload_n hx hb dX12_slot_116 rfl (lv_at hl 2 rfl) ?_
                  refine lv_bipush (v := (-3)) hx hb dX12_slot_117 (by decide) ?_
                  have hFc := tp_fr hD hS hA
                  refine va_calli (va_runV (As := [.int (-3)]) (rest := []) ⟨hx, hb, hml, hown, hts⟩ (t_X12_told l dC dI _ κ τ ν ρ L f30 hG hT h0 ((-3)) ht_h0) (cwV 1 hts gX12_slot_X12_told rfl rfl rfl ⟨rfl, pd_X12_told⟩ ⟨Nat.le_of_ble_eq_true rfl, Nat.le_of_ble_eq_true rfl⟩) ⟨pz_blind, va_recv hK hP (ci := 12) (q0 := q48) rfl eq48, pz_pre hP hK hD hN⟩ rfl rfl hl.1 rfl (lv_room (Nat.le_of_ble_eq_true rfl)) dX12_slot_119 ⟨Nat.le_of_ble_eq_true rfl, Nat.le_of_ble_eq_true rfl⟩) hS (fun q _ h => hFc q h) hFc (fun r120 f122 t H1 locs ht hvm hw121 hB hz1 hk1 hS => ?_)
                  obtain ⟨hT, hF123, hw121r, hw121p⟩ := hw121
                  have hR := hR.then hF123 (by decide)
                  have hP := hB.1; rw [ht] at hP; have hD := tp_ad f122 hD; clear hB hFc hz1 hk1; subst ht; generalize t.heap = H at hP hS ⊢
                  have hw121pq : r120.toInt = (-3) := by rw [hw121p]; rfl
                  have hf_124 : f122 (ρ h0 2) = .inl (κ 0, 12967, .inl g27) := (hF123 _ (by rw [y1]; decide)).trans hf_33
                  exact W.iret (v := r120) hx hb hr (fun t ht hW => ⟨⟨r120, f122, rfl, ⟨hT, hR, trivial, (by rw [hf_124, mo_i1]; exact hI)⟩, by rw [ht]; exact hP, va_K.moved hW.alike hK, hD⟩, hS.F ht⟩) hS.2.2 dX12_slot_122
        · have ic60 : r58.toInt = 0 := zi_nef rfl rfl c60
          refine lv_aload_n hx hb dX12_slot_47 rfl (lv_at hl 0 rfl) ?_
          refine lv_bipush (v := (-2)) hx hb dX12_slot_48 (by decide) ?_
          have hFc := tp_fr hD hS hA
          refine va_calli (va_runV (As := [.int (-2)]) (rest := []) ⟨hx, hb, hml, hown, hts⟩ (t_X12_told l dC dI _ κ τ ν ρ L f30 hG hT h0 ((-2)) ht_h0) (cwV 1 hts gX12_slot_X12_told rfl rfl rfl ⟨rfl, pd_X12_told⟩ ⟨Nat.le_of_ble_eq_true rfl, Nat.le_of_ble_eq_true rfl⟩) ⟨pz_blind, va_recv hK hP (ci := 12) (q0 := q48) rfl eq48, pz_pre hP hK hD hN⟩ rfl rfl hl.1 rfl (lv_room (Nat.le_of_ble_eq_true rfl)) dX12_slot_50 ⟨Nat.le_of_ble_eq_true rfl, Nat.le_of_ble_eq_true rfl⟩) hS (fun q _ h => hFc q h) hFc (fun r125 f127 t H1 locs ht hvm hw126 hB hz1 hk1 hS => ?_)
          obtain ⟨hT, hF128, hw126r, hw126p⟩ := hw126
          have hR := hR.then hF128 (by decide)
          have hP := hB.1; rw [ht] at hP; have hD := tp_ad f127 hD; clear hB hFc hz1 hk1; subst ht; generalize t.heap = H at hP hS ⊢
          have hw126pq : r125.toInt = (-2) := by rw [hw126p]; rfl
          have hf_129 : f127 (ρ h0 2) = .inl (κ 0, 12967, .inl g27) := (hF128 _ (by rw [y1]; decide)).trans hf_33
          exact W.iret (v := r125) hx hb hr (fun t ht hW => ⟨⟨r125, f127, rfl, ⟨hT, hR, trivial, (by rw [hf_129, mo_i1]; exact hI)⟩, by rw [ht]; exact hP, va_K.moved hW.alike hK, hD⟩, hS.F ht⟩) hS.2.2 dX12_slot_53
    · have ic46 : r44.toInt = 0 := zi_nef rfl rfl c46
      refine lv_aload_n hx hb dX12_slot_25 rfl (lv_at hl 0 rfl) ?_
      refine lv_iconst (v := (-1)) hx hb dX12_slot_26 (by decide) ?_
      obtain ⟨q130, eq130⟩ := tp_pos (tp_in hG ht_h0 (by decide)) g32
      have hFc := tp_fr hD hS hA
      refine va_calli (va_runV (As := [.int (-1)]) (rest := []) ⟨hx, hb, hml, hown, hts⟩ (t_X12_told l dC dI _ κ τ ν ρ L f30 hG hT h0 ((-1)) ht_h0) (cwV 1 hts gX12_slot_X12_told rfl rfl rfl ⟨rfl, pd_X12_told⟩ ⟨Nat.le_of_ble_eq_true rfl, Nat.le_of_ble_eq_true rfl⟩) ⟨pz_blind, va_recv hK hP (ci := 12) (q0 := q130) rfl eq130, pz_pre hP hK hD hN⟩ rfl rfl hl.1 rfl (lv_room (Nat.le_of_ble_eq_true rfl)) dX12_slot_27 ⟨Nat.le_of_ble_eq_true rfl, Nat.le_of_ble_eq_true rfl⟩) hS (fun q _ h => hFc q h) hFc (fun r131 f133 t H1 locs ht hvm hw132 hB hz1 hk1 hS => ?_)
      obtain ⟨hT, hF134, hw132r, hw132p⟩ := hw132
      have hR := hR.then hF134 (by decide)
      have hP := hB.1; rw [ht] at hP; have hD := tp_ad f133 hD; clear hB hFc hz1 hk1; subst ht; generalize t.heap = H at hP hS ⊢
      have hw132pq : r131.toInt = (-1) := by rw [hw132p]; rfl
      have hf_135 : f133 (ρ h0 2) = .inl (κ 0, 12967, .inl g27) := (hF134 _ (by rw [y1]; decide)).trans hf_33
      exact W.iret (v := r131) hx hb hr (fun t ht hW => ⟨⟨r131, f133, rfl, ⟨hT, hR, trivial, (by rw [hf_135, mo_i1]; exact hI)⟩, by rw [ht]; exact hP, va_K.moved hW.alike hK, hD⟩, hS.F ht⟩) hS.2.2 dX12_slot_30
set_option maxHeartbeats 4000000 in
set_option maxRecDepth 100000 in
theorem t_X12_broken (l : Launch) (dC : Nat → ClassId) (dI : Nat → Nat → Nat) (sz : Nat) (κ : Nat → ClassId) (τ ν : Nat → Nat) (ρ : Nat → Nat → Nat) (L : List Nat) (f : Nat → va_E) (hG : tp_G τ ν ρ L) (hT : tp_T (mo_O κ) κ τ ν ρ f) (h0 : Nat) (v : Int32) (u : Int32) (a : Int32) (ht_h0 : τ h0 = 13) (hJ : mo_RI (-1) 0 (mo_R (mo_i (f (ρ h0 2))))) : Met l yX12_broken wqX12_broken ({ frames := 4, cells := 0, slots := 0, locals := 1200 }) (va_Pc [.ref h0, .int v, .int u, .int a] (pz_B dC dI (tp_K κ) (va_pl L f) sz)) (va_Qi (fun (r : Int32) (f1 : Nat → va_E) => tp_T (mo_O κ) κ τ ν ρ f1 ∧ tp_F τ [13, 32] f f1 ∧ True ∧ mo_RI (-1) 0 (mo_R (mo_i (f1 (ρ h0 2))))) (fun (f1 : Nat → va_E) (t : State) => pz_E dC dI (tp_K κ) (va_A (va_pl L f) sz) (va_pl L f1) t) (va_A (va_pl L f) sz)) 0 0 (va_A (va_pl L f) sz) := by
  refine Met.ofW (cc := cX12_broken) (maxL := 5) (ret := some .int) (by decide) rfl ?_
  intro p e s m args below meth c s₁ B hml hv
  obtain ⟨rfl, hsz, hP, hK, hD0, hN⟩ := hv
  have hx := B.exec
  have hb := B.bytes
  have hr := B.returns
  have hts := fun (w : Cond) (h : w ∈ WALL) => atoms_spec (ws := wqX12_broken) B.pre w (List.mem_cons_of_mem _ h)
  have hown : s.vm.findClass RX12 = some m.cls := findClass_of_methodNamed B.named
  have hlocks := B.notSynchronized
  subst hsz
  have hD := hD0.self (sz := s.heap.size)
  generalize hAe : va_A (va_pl L f) s.heap.size = A at hD ⊢
  have hA : ∀ q : Nat, s.heap.size ≤ q → A q := fun q h => by rw [← hAe]; exact Or.inr h
  have hS : va_S A s.heap s.heap [] := va_S.rf
  have hR : tp_F τ [13, 32] f f := tp_F.rf
  have hl := lv_entry ([.ref h0, .int v, .int u, .int a]) (n := 5) (Nat.le_of_ble_eq_true rfl)
  rw [lg_entry_eq]
  generalize (lg_sl ([.ref h0, .int v, .int u, .int a]) ++ List.replicate (5 - (lg_sl ([.ref h0, .int v, .int u, .int a])).length) Slot.unset).toArray = ls at hl ⊢
  have hl : lv_has ls 5 [(0, .ref h0), (1, .int v), (2, .int u), (3, .int a)] := hl
  obtain ⟨y1, y2, y3, y4, y5, y6, y7, y8, y9, y10, y11, y12, y13, y14, y15, y16, y17, y18, y19, y20, y21, y22, y23, y24, y25⟩ := tpg_13 hG ht_h0
  obtain ⟨g27, hf_o26⟩ := tpo_32 hT y1
  have hI : mo_RI (-1) 0 (mo_R g27) := by have q9 := hJ; rw [hf_o26, mo_i1] at q9; exact q9
  refine lv_aload_n hx hb dX12_broken_0 rfl (lv_at hl 0 rfl) ?_
  refine lv_iconst (v := 0) hx hb dX12_broken_1 (by decide) ?_
  obtain ⟨o28_x0, o28_x1, o28_x7, o28_x9, o28_x10, o28_x11, o28_x12, o28_x13, o28_x14, o28_x15, o28_x16, o28_x17, o28_x18, o28_x19, o28_x20, o28_x22, o28_x25, o28_x28, o28_x29, o28_x32, o28_x33, o28_x34, o28_x35, o28_x36, o28_x37, o28_x38, o28_x47, o28_x48, hf_o28, ro28_0, ro28_1, ro28_2, ro28_3, ro28_4, ro28_5, ro28_6, ro28_7, ro28_8, ro28_9, ro28_10, ro28_11, ro28_12, ro28_13⟩ := tpo_13 hT ht_h0
  obtain ⟨q29, eq29⟩ := tp_pos (tp_in hG ht_h0 (by decide)) hf_o28
  refine va_put (D := (dC, dI)) (ci := 12) (v := .int 0) (ty := .int) (C := RX12) (T := TX12) (N := 53) hx hb hts hfX12 tyX12 tyX12_ok nmX12 hown hK hP hD hS q29 eq29 rfl 0 (by decide) (hts (.fieldLink RX12 91 "ColdShipsModel" "thrown" "I") wa_209) (fun _ h9 => h9) rfl (tyX12_ok 0 (by decide)) rfl rfl (Nat.le_of_ble_eq_true rfl) dX12_broken_2 (tp_k (.inr (12, [.int 0, .int o28_x1, .ref (ρ h0 2), .ref (ρ h0 3), .ref (ρ h0 4), .ref (ρ h0 5), .ref (ρ h0 6), .int o28_x7, .ref (ρ h0 8), .int o28_x9, .int o28_x10, .int o28_x11, .int o28_x12, .long o28_x13, .int o28_x14, .int o28_x15, .int o28_x16, .int o28_x17, .int o28_x18, .int o28_x19, .int o28_x20, .ref (ρ h0 21), .int o28_x22, .ref (ρ h0 23), .ref (ρ h0 24), .int o28_x25, .ref (ρ h0 26), .ref (ρ h0 27), .int o28_x28, .int o28_x29, .ref (ρ h0 30), .ref (ρ h0 31), .int o28_x32, .long o28_x33, .long o28_x34, .long o28_x35, .int o28_x36, .int o28_x37, .int o28_x38, .ref (ρ h0 39), .ref (ρ h0 40), .ref (ρ h0 41), .ref (ρ h0 42), .ref (ρ h0 43), .ref (ρ h0 44), .ref (ρ h0 45), .ref (ρ h0 46), .int o28_x47, .int o28_x48, .ref (ρ h0 49), .ref (ρ h0 50), .ref (ρ h0 51), .ref (ρ h0 52)])) hD (tp_in hG ht_h0 (by decide)) eq29 (fun f30 H locs hP hD hS g32 k31 => ?_))
  have hT := hT.up ht_h0 g32 k31 ⟨_, _, _, _, _, _, _, _, _, _, _, _, _, _, _, _, _, _, _, _, _, _, _, _, _, _, _, _, rfl, ro28_0, ro28_1, ro28_2, ro28_3, ro28_4, ro28_5, ro28_6, ro28_7, ro28_8, ro28_9, ro28_10, ro28_11, ro28_12, ro28_13⟩
  have hR := hR.up ht_h0 (by decide) k31
  refine lv_iload_n hx hb dX12_broken_5 rfl (lv_at hl 3 rfl) ?_
  have hf_33 : f30 (ρ h0 2) = .inl (κ 0, 12967, .inl g27) := (k31 _ (tp_ne y1 ht_h0 (by decide))).trans hf_o26
  refine pz_calli (va_runS (As := [.int a]) (rest := []) ⟨hx, hb, hml, hown, hts⟩ (t_X12_isHour l dC dI _ a (a.toInt) rfl) (va_cwS 1 hts gX12_broken_X12_isHour rfl rfl rfl pd_X12_isHour ⟨Nat.le_of_ble_eq_true rfl, Nat.le_of_ble_eq_true rfl⟩) ⟨pz_blind, pz_pre pz_P0 (hK.sub (tys' := []) [] rfl) (pz_D0 (A := fun _ => True)) hN⟩ rfl rfl hl.1 rfl (lv_room (Nat.le_of_ble_eq_true rfl)) dX12_broken_6 ⟨Nat.le_of_ble_eq_true rfl, Nat.le_of_ble_eq_true rfl⟩) (fun r34 hw35 => ?_)
  obtain ⟨hw35r, hw35p⟩ := hw35
  refine lv_if_eq (tgt := 23) hx hb dX12_broken_9 (by decide) (fun c36 => ?_) (fun c36 => ?_)
  · have ic36 : r34.toInt = 0 := zi_eq rfl rfl c36
    refine lv_aload_n hx hb dX12_broken_23 rfl (lv_at hl 0 rfl) ?_
    refine lv_iconst (v := (-1)) hx hb dX12_broken_24 (by decide) ?_
    obtain ⟨q37, eq37⟩ := tp_pos (tp_in hG ht_h0 (by decide)) g32
    have hFc := tp_fr hD hS hA
    refine va_calli (va_runV (As := [.int (-1)]) (rest := []) ⟨hx, hb, hml, hown, hts⟩ (t_X12_told l dC dI _ κ τ ν ρ L f30 hG hT h0 ((-1)) ht_h0) (cwV 1 hts gX12_broken_X12_told rfl rfl rfl ⟨rfl, pd_X12_told⟩ ⟨Nat.le_of_ble_eq_true rfl, Nat.le_of_ble_eq_true rfl⟩) ⟨pz_blind, va_recv hK hP (ci := 12) (q0 := q37) rfl eq37, pz_pre hP hK hD hN⟩ rfl rfl hl.1 rfl (lv_room (Nat.le_of_ble_eq_true rfl)) dX12_broken_25 ⟨Nat.le_of_ble_eq_true rfl, Nat.le_of_ble_eq_true rfl⟩) hS (fun q _ h => hFc q h) hFc (fun r38 f40 t H1 locs ht hvm hw39 hB hz1 hk1 hS => ?_)
    obtain ⟨hT, hF41, hw39r, hw39p⟩ := hw39
    have hR := hR.then hF41 (by decide)
    have hP := hB.1; rw [ht] at hP; have hD := tp_ad f40 hD; clear hB hFc hz1 hk1; subst ht; generalize t.heap = H at hP hS ⊢
    have hw39pq : r38.toInt = (-1) := by rw [hw39p]; rfl
    have hf_42 : f40 (ρ h0 2) = .inl (κ 0, 12967, .inl g27) := (hF41 _ (by rw [y1]; decide)).trans hf_33
    exact W.iret (v := r38) hx hb hr (fun t ht hW => ⟨⟨r38, f40, rfl, ⟨hT, hR, trivial, (by rw [hf_42, mo_i1]; exact hI)⟩, by rw [ht]; exact hP, va_K.moved hW.alike hK, hD⟩, hS.F ht⟩) hS.2.2 dX12_broken_28
  · have ic36 : r34.toInt ≠ 0 := zi_eqf rfl rfl c36
    have p43 : 0 ≤ (a.toInt) ∧ (a.toInt) ≤ 2399 := (tp_cond.yes hw35p) (by omega)
    refine lv_iload_n hx hb dX12_broken_12 rfl (lv_at hl 2 rfl) ?_
    refine lv_i2l hx hb dX12_broken_13 rfl ?_
    refine lv_lconst (v := 0) hx hb dX12_broken_14 (by decide) ?_
    refine lv_iload_n hx hb dX12_broken_15 rfl (lv_at hl 3 rfl) ?_
    refine lv_i2l hx hb dX12_broken_16 rfl ?_
    refine pz_calli (va_runS (As := [.long u.toInt64, .long 0, .long a.toInt64]) (rest := []) ⟨hx, hb, hml, hown, hts⟩ (t_X12_in l dC dI _ u.toInt64 (0) a.toInt64 (u.toInt) (0) (a.toInt) (Int32.toInt_toInt64 u) rfl (Int32.toInt_toInt64 a)) (va_cwS 3 hts gX12_broken_X12_in rfl rfl rfl pd_X12_in ⟨Nat.le_of_ble_eq_true rfl, Nat.le_of_ble_eq_true rfl⟩) ⟨pz_blind, pz_pre pz_P0 (hK.sub (tys' := []) [] rfl) (pz_D0 (A := fun _ => True)) hN⟩ rfl rfl hl.1 rfl (lv_room (Nat.le_of_ble_eq_true rfl)) dX12_broken_17 ⟨Nat.le_of_ble_eq_true rfl, Nat.le_of_ble_eq_true rfl⟩) (fun r44 hw45 => ?_)
    obtain ⟨hw45r, hw45p⟩ := hw45
    refine lv_if_ne (tgt := 29) hx hb dX12_broken_20 (by decide) (fun c46 => ?_) (fun c46 => ?_)
    · have ic46 : r44.toInt ≠ 0 := zi_ne rfl rfl c46
      have p47 : (0) ≤ (u.toInt) ∧ (u.toInt) ≤ (a.toInt) := (tp_cond.yes hw45p) (by omega)
      refine lv_aload_n hx hb dX12_broken_29 rfl (lv_at hl 0 rfl) ?_
      refine lv_iload_n hx hb dX12_broken_30 rfl (lv_at hl 1 rfl) ?_
      obtain ⟨q48, eq48⟩ := tp_pos (tp_in hG ht_h0 (by decide)) g32
      refine pz_calli (va_runV (As := [.int v]) (rest := []) ⟨hx, hb, hml, hown, hts⟩ (t_X12_isTerminal l dC dI _ κ τ ν ρ L f30 hG hT h0 v (-1) 0 ht_h0 (by omega) (by rw [hf_33, mo_i1]; exact hI)) (cwV 1 hts gX12_broken_X12_isTerminal rfl rfl rfl ⟨rfl, pd_X12_isTerminal⟩ ⟨Nat.le_of_ble_eq_true rfl, Nat.le_of_ble_eq_true rfl⟩) ⟨pz_blind, va_recv hK hP (ci := 12) (q0 := q48) rfl eq48, pz_pre hP hK hD hN⟩ rfl rfl hl.1 rfl (lv_room (Nat.le_of_ble_eq_true rfl)) dX12_broken_31 ⟨Nat.le_of_ble_eq_true rfl, Nat.le_of_ble_eq_true rfl⟩) (fun r49 hw50 => ?_)
      obtain ⟨hw50r, hw50p⟩ := hw50
      have := hI.k0
      rw [hf_33, mo_i1] at hw50p
      refine lv_if_ne (tgt := 44) hx hb dX12_broken_34 (by decide) (fun c51 => ?_) (fun c51 => ?_)
      · have ic51 : r49.toInt ≠ 0 := zi_ne rfl rfl c51
        have p52 : 0 ≤ v.toInt ∧ v.toInt < mo_R g27 0 := (tp_cond.yes hw50p) (by omega)
        refine lv_aload_n hx hb dX12_broken_44 rfl (lv_at hl 0 rfl) ?_
        refine va_get (D := (dC, dI)) (ci := 12) (v := .ref (ρ h0 2)) (C := RX12) (T := TX12) (N := 53) hx hb hts hfX12 hown hK hP q48 eq48 rfl 2 (by decide) (hts (.fieldLink RX12 7 "ColdShipsModel" "row" "[I") wa_148) (fun _ h9 => h9) rfl dX12_broken_45 ?_
        refine lv_iconst (v := 3) hx hb dX12_broken_48 (by decide) ?_
        obtain ⟨q53, eq53⟩ := tp_pos (tp_in hG y1 (by decide)) hf_33
        refine va_iald hx hb hK hP q53 0 eq53 rfl (vp_in_iff.mpr ⟨by decide, by decide⟩) dX12_broken_49 ?_
        refine lv_topi (fun z54 ez54 => ?_)
        have jz54 : z54.toInt = mo_R g27 (3) := mo_rd ez54 (show (3 : Int32).toInt = (3) from by decide)
        have kz54 := hI.k3
        refine lv_bipush (v := 20) hx hb dX12_broken_50 (by decide) ?_
        refine lv_icmp_ne (tgt := 62) hx hb dX12_broken_52 (by decide) (fun c55 => ?_) (fun c55 => ?_)
        · have ic55 : z54.toInt ≠ 20 := zi_ne rfl rfl c55
          refine lv_sipush (v := 487) hx hb dX12_broken_62 (by decide) ?_
          refine lv_iconst (v := 3) hx hb dX12_broken_65 (by decide) ?_
          refine lv_aload_n hx hb dX12_broken_66 rfl (lv_at hl 0 rfl) ?_
          refine va_get (D := (dC, dI)) (ci := 12) (v := .ref (ρ h0 2)) (C := RX12) (T := TX12) (N := 53) hx hb hts hfX12 hown hK hP q48 eq48 rfl 2 (by decide) (hts (.fieldLink RX12 7 "ColdShipsModel" "row" "[I") wa_148) (fun _ h9 => h9) rfl dX12_broken_67 ?_
          refine lv_iconst (v := 3) hx hb dX12_broken_70 (by decide) ?_
          refine va_iald hx hb hK hP q53 0 eq53 rfl (vp_in_iff.mpr ⟨by decide, by decide⟩) dX12_broken_71 ?_
          refine lv_topi (fun z56 ez56 => ?_)
          have jz56 : z56.toInt = mo_R g27 (3) := mo_rd ez56 (show (3 : Int32).toInt = (3) from by decide)
          have kz56 := hI.k3
          refine lv_imul hx hb dX12_broken_72 ?_
          refine lv_topi (fun z57 ez57 => ?_)
          have iz57 : z57.toInt = 3 * z56.toInt := zi_mul ez57 rfl rfl (by omega) (by omega)
          refine lv_iadd hx hb dX12_broken_73 ?_
          refine lv_topi (fun z58 ez58 => ?_)
          have iz58 : z58.toInt = 487 + z57.toInt := zi_add ez58 rfl rfl (by omega) (by omega)
          refine lv_istore (lv' := [(4, .int z58), (0, .ref h0), (1, .int v), (2, .int u), (3, .int a)]) hx hb dX12_broken_74 hl (by decide) rfl (fun ls hl => ?_)
          refine lv_aload_n hx hb dX12_broken_76 rfl (lv_at hl 1 rfl) ?_
          refine va_get (D := (dC, dI)) (ci := 12) (v := .ref (ρ h0 2)) (C := RX12) (T := TX12) (N := 53) hx hb hts hfX12 hown hK hP q48 eq48 rfl 2 (by decide) (hts (.fieldLink RX12 7 "ColdShipsModel" "row" "[I") wa_148) (fun _ h9 => h9) rfl dX12_broken_77 ?_
          refine lv_iload hx hb dX12_broken_80 (lv_at hl 0 rfl) ?_
          refine lv_iload_n hx hb dX12_broken_82 rfl (lv_at hl 2 rfl) ?_
          refine va_iast hx hb hK hP hD hS q53 0 eq53 rfl (vp_in_iff.mpr ⟨by omega, by omega⟩) dX12_broken_83 (tp_k (.inl (κ 0, 12967, .inl (upd g27 z58.toNatClampNeg v))) hD (tp_in hG y1 (by decide)) eq53 (fun f59 H locs hP hD hS g61 k60 => ?_))
          have hT := hT.up y1 g61 k60 tp_o32
          have hR := hR.up y1 (by decide) k60
          have hU : mo_U (mo_R g27) (mo_R (upd g27 z58.toNatClampNeg v)) (487 + 3 * z54.toInt) (v.toInt) := mo_up (by omega) (rfl : v.toInt = _) (by omega)
          generalize (upd g27 z58.toNatClampNeg v) = g62 at g61 hU
          have hI := mo_w_flat hI hU (by omega)
          have pn63 : mo_R g62 (3) = z54.toInt := (hU.ne (by omega) (by omega)).trans (jz54).symm
          refine lv_aload_n hx hb dX12_broken_84 rfl (lv_at hl 1 rfl) ?_
          have hf_64 : f59 h0 = .inr (12, [.int 0, .int o28_x1, .ref (ρ h0 2), .ref (ρ h0 3), .ref (ρ h0 4), .ref (ρ h0 5), .ref (ρ h0 6), .int o28_x7, .ref (ρ h0 8), .int o28_x9, .int o28_x10, .int o28_x11, .int o28_x12, .long o28_x13, .int o28_x14, .int o28_x15, .int o28_x16, .int o28_x17, .int o28_x18, .int o28_x19, .int o28_x20, .ref (ρ h0 21), .int o28_x22, .ref (ρ h0 23), .ref (ρ h0 24), .int o28_x25, .ref (ρ h0 26), .ref (ρ h0 27), .int o28_x28, .int o28_x29, .ref (ρ h0 30), .ref (ρ h0 31), .int o28_x32, .long o28_x33, .long o28_x34, .long o28_x35, .int o28_x36, .int o28_x37, .int o28_x38, .ref (ρ h0 39), .ref (ρ h0 40), .ref (ρ h0 41), .ref (ρ h0 42), .ref (ρ h0 43), .ref (ρ h0 44), .ref (ρ h0 45), .ref (ρ h0 46), .int o28_x47, .int o28_x48, .ref (ρ h0 49), .ref (ρ h0 50), .ref (ρ h0 51), .ref (ρ h0 52)]) := (k60 _ (tp_ne ht_h0 y1 (by decide))).trans g32
          obtain ⟨q65, eq65⟩ := tp_pos (tp_in hG ht_h0 (by decide)) hf_64
          refine va_get (D := (dC, dI)) (ci := 12) (v := .ref (ρ h0 2)) (C := RX12) (T := TX12) (N := 53) hx hb hts hfX12 hown hK hP q65 eq65 rfl 2 (by decide) (hts (.fieldLink RX12 7 "ColdShipsModel" "row" "[I") wa_148) (fun _ h9 => h9) rfl dX12_broken_85 ?_
          refine lv_iload hx hb dX12_broken_88 (lv_at hl 0 rfl) ?_
          refine lv_iconst (v := 1) hx hb dX12_broken_90 (by decide) ?_
          refine lv_iadd hx hb dX12_broken_91 ?_
          refine lv_topi (fun z66 ez66 => ?_)
          have iz66 : z66.toInt = z58.toInt + 1 := zi_add ez66 rfl rfl (by omega) (by omega)
          refine lv_iload_n hx hb dX12_broken_92 rfl (lv_at hl 3 rfl) ?_
          obtain ⟨q67, eq67⟩ := tp_pos (tp_in hG y1 (by decide)) g61
          refine va_iast hx hb hK hP hD hS q67 0 eq67 rfl (vp_in_iff.mpr ⟨by omega, by omega⟩) dX12_broken_93 (tp_k (.inl (κ 0, 12967, .inl (upd g62 z66.toNatClampNeg u))) hD (tp_in hG y1 (by decide)) eq67 (fun f68 H locs hP hD hS g70 k69 => ?_))
          have hT := hT.up y1 g70 k69 tp_o32
          have hR := hR.up y1 (by decide) k69
          have hU : mo_U (mo_R g62) (mo_R (upd g62 z66.toNatClampNeg u)) (488 + 3 * z54.toInt) (u.toInt) := mo_up (by omega) (rfl : u.toInt = _) (by omega)
          generalize (upd g62 z66.toNatClampNeg u) = g71 at g70 hU
          have hI := mo_w_flat hI hU (by omega)
          have pn72 : mo_R g71 (3) = z54.toInt := (hU.ne (by omega) (by omega)).trans pn63
          refine lv_aload_n hx hb dX12_broken_94 rfl (lv_at hl 1 rfl) ?_
          have hf_73 : f68 h0 = .inr (12, [.int 0, .int o28_x1, .ref (ρ h0 2), .ref (ρ h0 3), .ref (ρ h0 4), .ref (ρ h0 5), .ref (ρ h0 6), .int o28_x7, .ref (ρ h0 8), .int o28_x9, .int o28_x10, .int o28_x11, .int o28_x12, .long o28_x13, .int o28_x14, .int o28_x15, .int o28_x16, .int o28_x17, .int o28_x18, .int o28_x19, .int o28_x20, .ref (ρ h0 21), .int o28_x22, .ref (ρ h0 23), .ref (ρ h0 24), .int o28_x25, .ref (ρ h0 26), .ref (ρ h0 27), .int o28_x28, .int o28_x29, .ref (ρ h0 30), .ref (ρ h0 31), .int o28_x32, .long o28_x33, .long o28_x34, .long o28_x35, .int o28_x36, .int o28_x37, .int o28_x38, .ref (ρ h0 39), .ref (ρ h0 40), .ref (ρ h0 41), .ref (ρ h0 42), .ref (ρ h0 43), .ref (ρ h0 44), .ref (ρ h0 45), .ref (ρ h0 46), .int o28_x47, .int o28_x48, .ref (ρ h0 49), .ref (ρ h0 50), .ref (ρ h0 51), .ref (ρ h0 52)]) := (k69 _ (tp_ne ht_h0 y1 (by decide))).trans hf_64
          obtain ⟨q74, eq74⟩ := tp_pos (tp_in hG ht_h0 (by decide)) hf_73
          refine va_get (D := (dC, dI)) (ci := 12) (v := .ref (ρ h0 2)) (C := RX12) (T := TX12) (N := 53) hx hb hts hfX12 hown hK hP q74 eq74 rfl 2 (by decide) (hts (.fieldLink RX12 7 "ColdShipsModel" "row" "[I") wa_148) (fun _ h9 => h9) rfl dX12_broken_95 ?_
          refine lv_iload hx hb dX12_broken_98 (lv_at hl 0 rfl) ?_
          refine lv_iconst (v := 2) hx hb dX12_broken_100 (by decide) ?_
          refine lv_iadd hx hb dX12_broken_101 ?_
          refine lv_topi (fun z75 ez75 => ?_)
          have iz75 : z75.toInt = z58.toInt + 2 := zi_add ez75 rfl rfl (by omega) (by omega)
          refine lv_iload_n hx hb dX12_broken_102 rfl (lv_at hl 4 rfl) ?_
          obtain ⟨q76, eq76⟩ := tp_pos (tp_in hG y1 (by decide)) g70
          refine va_iast hx hb hK hP hD hS q76 0 eq76 rfl (vp_in_iff.mpr ⟨by omega, by omega⟩) dX12_broken_103 (tp_k (.inl (κ 0, 12967, .inl (upd g71 z75.toNatClampNeg a))) hD (tp_in hG y1 (by decide)) eq76 (fun f77 H locs hP hD hS g79 k78 => ?_))
          have hT := hT.up y1 g79 k78 tp_o32
          have hR := hR.up y1 (by decide) k78
          have hU : mo_U (mo_R g71) (mo_R (upd g71 z75.toNatClampNeg a)) (489 + 3 * z54.toInt) (a.toInt) := mo_up (by omega) (rfl : a.toInt = _) (by omega)
          generalize (upd g71 z75.toNatClampNeg a) = g80 at g79 hU
          have hI := mo_w_flat hI hU (by omega)
          have pn81 : mo_R g80 (3) = z54.toInt := (hU.ne (by omega) (by omega)).trans pn72
          refine lv_aload_n hx hb dX12_broken_104 rfl (lv_at hl 1 rfl) ?_
          have hf_82 : f77 h0 = .inr (12, [.int 0, .int o28_x1, .ref (ρ h0 2), .ref (ρ h0 3), .ref (ρ h0 4), .ref (ρ h0 5), .ref (ρ h0 6), .int o28_x7, .ref (ρ h0 8), .int o28_x9, .int o28_x10, .int o28_x11, .int o28_x12, .long o28_x13, .int o28_x14, .int o28_x15, .int o28_x16, .int o28_x17, .int o28_x18, .int o28_x19, .int o28_x20, .ref (ρ h0 21), .int o28_x22, .ref (ρ h0 23), .ref (ρ h0 24), .int o28_x25, .ref (ρ h0 26), .ref (ρ h0 27), .int o28_x28, .int o28_x29, .ref (ρ h0 30), .ref (ρ h0 31), .int o28_x32, .long o28_x33, .long o28_x34, .long o28_x35, .int o28_x36, .int o28_x37, .int o28_x38, .ref (ρ h0 39), .ref (ρ h0 40), .ref (ρ h0 41), .ref (ρ h0 42), .ref (ρ h0 43), .ref (ρ h0 44), .ref (ρ h0 45), .ref (ρ h0 46), .int o28_x47, .int o28_x48, .ref (ρ h0 49), .ref (ρ h0 50), .ref (ρ h0 51), .ref (ρ h0 52)]) := (k78 _ (tp_ne ht_h0 y1 (by decide))).trans hf_73
          obtain ⟨q83, eq83⟩ := tp_pos (tp_in hG ht_h0 (by decide)) hf_82
          refine va_get (D := (dC, dI)) (ci := 12) (v := .ref (ρ h0 2)) (C := RX12) (T := TX12) (N := 53) hx hb hts hfX12 hown hK hP q83 eq83 rfl 2 (by decide) (hts (.fieldLink RX12 7 "ColdShipsModel" "row" "[I") wa_148) (fun _ h9 => h9) rfl dX12_broken_105 ?_
          refine lv_iconst (v := 3) hx hb dX12_broken_108 (by decide) ?_
          refine lv_dup2_11 hx hb dX12_broken_109 rfl rfl ?_
          obtain ⟨q84, eq84⟩ := tp_pos (tp_in hG y1 (by decide)) g79
          refine va_iald hx hb hK hP q84 0 eq84 rfl (vp_in_iff.mpr ⟨by decide, by decide⟩) dX12_broken_110 ?_
          refine lv_topi (fun z85 ez85 => ?_)
          have jz85 : z85.toInt = mo_R g80 (3) := mo_rd ez85 (show (3 : Int32).toInt = (3) from by decide)
          have kz85 := hI.k3
          refine lv_iconst (v := 1) hx hb dX12_broken_111 (by decide) ?_
          refine lv_iadd hx hb dX12_broken_112 ?_
          refine lv_topi (fun z86 ez86 => ?_)
          have iz86 : z86.toInt = z85.toInt + 1 := zi_add ez86 rfl rfl (by omega) (by omega)
          refine va_iast hx hb hK hP hD hS q84 0 eq84 rfl (vp_in_iff.mpr ⟨by decide, by decide⟩) dX12_broken_113 (tp_k (.inl (κ 0, 12967, .inl (upd g80 (3 : Int32).toNatClampNeg z86))) hD (tp_in hG y1 (by decide)) eq84 (fun f87 H locs hP hD hS g89 k88 => ?_))
          have hT := hT.up y1 g89 k88 tp_o32
          have hR := hR.up y1 (by decide) k88
          have hU : mo_U (mo_R g80) (mo_R (upd g80 (3 : Int32).toNatClampNeg z86)) (3) (z86.toInt) := mo_up (show (3 : Int32).toInt = (3) from by decide) (rfl : z86.toInt = _) (by omega)
          generalize (upd g80 (3 : Int32).toNatClampNeg z86) = g90 at g89 hU
          have hI := mo_w_cnt hI hU (by omega) (by omega)
          have pn91 : mo_R g90 (3) = z86.toInt := hU.eq (by omega)
          refine lv_aload_n hx hb dX12_broken_114 rfl (lv_at hl 1 rfl) ?_
          refine lv_aload_n hx hb dX12_broken_115 rfl (lv_at hl 1 rfl) ?_
          have hf_92 : f87 h0 = .inr (12, [.int 0, .int o28_x1, .ref (ρ h0 2), .ref (ρ h0 3), .ref (ρ h0 4), .ref (ρ h0 5), .ref (ρ h0 6), .int o28_x7, .ref (ρ h0 8), .int o28_x9, .int o28_x10, .int o28_x11, .int o28_x12, .long o28_x13, .int o28_x14, .int o28_x15, .int o28_x16, .int o28_x17, .int o28_x18, .int o28_x19, .int o28_x20, .ref (ρ h0 21), .int o28_x22, .ref (ρ h0 23), .ref (ρ h0 24), .int o28_x25, .ref (ρ h0 26), .ref (ρ h0 27), .int o28_x28, .int o28_x29, .ref (ρ h0 30), .ref (ρ h0 31), .int o28_x32, .long o28_x33, .long o28_x34, .long o28_x35, .int o28_x36, .int o28_x37, .int o28_x38, .ref (ρ h0 39), .ref (ρ h0 40), .ref (ρ h0 41), .ref (ρ h0 42), .ref (ρ h0 43), .ref (ρ h0 44), .ref (ρ h0 45), .ref (ρ h0 46), .int o28_x47, .int o28_x48, .ref (ρ h0 49), .ref (ρ h0 50), .ref (ρ h0 51), .ref (ρ h0 52)]) := (k88 _ (tp_ne ht_h0 y1 (by decide))).trans hf_82
          obtain ⟨q93, eq93⟩ := tp_pos (tp_in hG ht_h0 (by decide)) hf_92
          refine va_get (D := (dC, dI)) (ci := 12) (v := .ref (ρ h0 2)) (C := RX12) (T := TX12) (N := 53) hx hb hts hfX12 hown hK hP q93 eq93 rfl 2 (by decide) (hts (.fieldLink RX12 7 "ColdShipsModel" "row" "[I") wa_148) (fun _ h9 => h9) rfl dX12_broken_116 ?_
          refine lv_iconst (v := 3) hx hb dX12_broken_119 (by decide) ?_
          obtain ⟨q94, eq94⟩ := tp_pos (tp_in hG y1 (by decide)) g89
          refine va_iald hx hb hK hP q94 0 eq94 rfl (vp_in_iff.mpr ⟨by decide, by decide⟩) dX12_broken_120 ?_
          refine lv_topi (fun z95 ez95 => ?_)
          have jz95 : z95.toInt = mo_R g90 (3) := mo_rd ez95 (show (3 : Int32).toInt = (3) from by decide)
          have kz95 := hI.k3
          have hFc := tp_fr hD hS hA
          refine va_calli (va_runV (As := [.int z95]) (rest := []) ⟨hx, hb, hml, hown, hts⟩ (t_X12_told l dC dI _ κ τ ν ρ L f87 hG hT h0 z95 ht_h0) (cwV 1 hts gX12_broken_X12_told rfl rfl rfl ⟨rfl, pd_X12_told⟩ ⟨Nat.le_of_ble_eq_true rfl, Nat.le_of_ble_eq_true rfl⟩) ⟨pz_blind, va_recv hK hP (ci := 12) (q0 := q93) rfl eq93, pz_pre hP hK hD hN⟩ rfl rfl hl.1 rfl (lv_room (Nat.le_of_ble_eq_true rfl)) dX12_broken_121 ⟨Nat.le_of_ble_eq_true rfl, Nat.le_of_ble_eq_true rfl⟩) hS (fun q _ h => hFc q h) hFc (fun r96 f98 t H1 locs ht hvm hw97 hB hz1 hk1 hS => ?_)
          obtain ⟨hT, hF99, hw97r, hw97p⟩ := hw97
          have hR := hR.then hF99 (by decide)
          have hP := hB.1; rw [ht] at hP; have hD := tp_ad f98 hD; clear hB hFc hz1 hk1; subst ht; generalize t.heap = H at hP hS ⊢
          have hw97pq : r96.toInt = z95.toInt := by rw [hw97p]
          have hf_100 : f98 (ρ h0 2) = .inl (κ 0, 12967, .inl g90) := (hF99 _ (by rw [y1]; decide)).trans g89
          exact W.iret (v := r96) hx hb hr (fun t ht hW => ⟨⟨r96, f98, rfl, ⟨hT, hR, trivial, (by rw [hf_100, mo_i1]; exact hI)⟩, by rw [ht]; exact hP, va_K.moved hW.alike hK, hD⟩, hS.F ht⟩) hS.2.2 dX12_broken_124
        · have ic55 : z54.toInt = 20 := zi_nef rfl rfl c55
          refine lv_aload_n hx hb dX12_broken_55 rfl (lv_at hl 0 rfl) ?_
          refine lv_bipush (v := (-5)) hx hb dX12_broken_56 (by decide) ?_
          have hFc := tp_fr hD hS hA
          refine va_calli (va_runV (As := [.int (-5)]) (rest := []) ⟨hx, hb, hml, hown, hts⟩ (t_X12_told l dC dI _ κ τ ν ρ L f30 hG hT h0 ((-5)) ht_h0) (cwV 1 hts gX12_broken_X12_told rfl rfl rfl ⟨rfl, pd_X12_told⟩ ⟨Nat.le_of_ble_eq_true rfl, Nat.le_of_ble_eq_true rfl⟩) ⟨pz_blind, va_recv hK hP (ci := 12) (q0 := q48) rfl eq48, pz_pre hP hK hD hN⟩ rfl rfl hl.1 rfl (lv_room (Nat.le_of_ble_eq_true rfl)) dX12_broken_58 ⟨Nat.le_of_ble_eq_true rfl, Nat.le_of_ble_eq_true rfl⟩) hS (fun q _ h => hFc q h) hFc (fun r101 f103 t H1 locs ht hvm hw102 hB hz1 hk1 hS => ?_)
          obtain ⟨hT, hF104, hw102r, hw102p⟩ := hw102
          have hR := hR.then hF104 (by decide)
          have hP := hB.1; rw [ht] at hP; have hD := tp_ad f103 hD; clear hB hFc hz1 hk1; subst ht; generalize t.heap = H at hP hS ⊢
          have hw102pq : r101.toInt = (-5) := by rw [hw102p]; rfl
          have hf_105 : f103 (ρ h0 2) = .inl (κ 0, 12967, .inl g27) := (hF104 _ (by rw [y1]; decide)).trans hf_33
          exact W.iret (v := r101) hx hb hr (fun t ht hW => ⟨⟨r101, f103, rfl, ⟨hT, hR, trivial, (by rw [hf_105, mo_i1]; exact hI)⟩, by rw [ht]; exact hP, va_K.moved hW.alike hK, hD⟩, hS.F ht⟩) hS.2.2 dX12_broken_61
      · have ic51 : r49.toInt = 0 := zi_nef rfl rfl c51
        refine lv_aload_n hx hb dX12_broken_37 rfl (lv_at hl 0 rfl) ?_
        refine lv_bipush (v := (-2)) hx hb dX12_broken_38 (by decide) ?_
        have hFc := tp_fr hD hS hA
        refine va_calli (va_runV (As := [.int (-2)]) (rest := []) ⟨hx, hb, hml, hown, hts⟩ (t_X12_told l dC dI _ κ τ ν ρ L f30 hG hT h0 ((-2)) ht_h0) (cwV 1 hts gX12_broken_X12_told rfl rfl rfl ⟨rfl, pd_X12_told⟩ ⟨Nat.le_of_ble_eq_true rfl, Nat.le_of_ble_eq_true rfl⟩) ⟨pz_blind, va_recv hK hP (ci := 12) (q0 := q48) rfl eq48, pz_pre hP hK hD hN⟩ rfl rfl hl.1 rfl (lv_room (Nat.le_of_ble_eq_true rfl)) dX12_broken_40 ⟨Nat.le_of_ble_eq_true rfl, Nat.le_of_ble_eq_true rfl⟩) hS (fun q _ h => hFc q h) hFc (fun r106 f108 t H1 locs ht hvm hw107 hB hz1 hk1 hS => ?_)
        obtain ⟨hT, hF109, hw107r, hw107p⟩ := hw107
        have hR := hR.then hF109 (by decide)
        have hP := hB.1; rw [ht] at hP; have hD := tp_ad f108 hD; clear hB hFc hz1 hk1; subst ht; generalize t.heap = H at hP hS ⊢
        have hw107pq : r106.toInt = (-2) := by rw [hw107p]; rfl
        have hf_110 : f108 (ρ h0 2) = .inl (κ 0, 12967, .inl g27) := (hF109 _ (by rw [y1]; decide)).trans hf_33
        exact W.iret (v := r106) hx hb hr (fun t ht hW => ⟨⟨r106, f108, rfl, ⟨hT, hR, trivial, (by rw [hf_110, mo_i1]; exact hI)⟩, by rw [ht]; exact hP, va_K.moved hW.alike hK, hD⟩, hS.F ht⟩) hS.2.2 dX12_broken_43
    · have ic46 : r44.toInt = 0 := zi_nef rfl rfl c46
      refine lv_aload_n hx hb dX12_broken_23 rfl (lv_at hl 0 rfl) ?_
      refine lv_iconst (v := (-1)) hx hb dX12_broken_24 (by decide) ?_
      obtain ⟨q111, eq111⟩ := tp_pos (tp_in hG ht_h0 (by decide)) g32
      have hFc := tp_fr hD hS hA
      refine va_calli (va_runV (As := [.int (-1)]) (rest := []) ⟨hx, hb, hml, hown, hts⟩ (t_X12_told l dC dI _ κ τ ν ρ L f30 hG hT h0 ((-1)) ht_h0) (cwV 1 hts gX12_broken_X12_told rfl rfl rfl ⟨rfl, pd_X12_told⟩ ⟨Nat.le_of_ble_eq_true rfl, Nat.le_of_ble_eq_true rfl⟩) ⟨pz_blind, va_recv hK hP (ci := 12) (q0 := q111) rfl eq111, pz_pre hP hK hD hN⟩ rfl rfl hl.1 rfl (lv_room (Nat.le_of_ble_eq_true rfl)) dX12_broken_25 ⟨Nat.le_of_ble_eq_true rfl, Nat.le_of_ble_eq_true rfl⟩) hS (fun q _ h => hFc q h) hFc (fun r112 f114 t H1 locs ht hvm hw113 hB hz1 hk1 hS => ?_)
      obtain ⟨hT, hF115, hw113r, hw113p⟩ := hw113
      have hR := hR.then hF115 (by decide)
      have hP := hB.1; rw [ht] at hP; have hD := tp_ad f114 hD; clear hB hFc hz1 hk1; subst ht; generalize t.heap = H at hP hS ⊢
      have hw113pq : r112.toInt = (-1) := by rw [hw113p]; rfl
      have hf_116 : f114 (ρ h0 2) = .inl (κ 0, 12967, .inl g27) := (hF115 _ (by rw [y1]; decide)).trans hf_33
      exact W.iret (v := r112) hx hb hr (fun t ht hW => ⟨⟨r112, f114, rfl, ⟨hT, hR, trivial, (by rw [hf_116, mo_i1]; exact hI)⟩, by rw [ht]; exact hP, va_K.moved hW.alike hK, hD⟩, hS.F ht⟩) hS.2.2 dX12_broken_28
set_option maxHeartbeats 4000000 in
set_option maxRecDepth 100000 in
theorem t_X12_isBroken (l : Launch) (dC : Nat → ClassId) (dI : Nat → Nat → Nat) (sz : Nat) (κ : Nat → ClassId) (τ ν : Nat → Nat) (ρ : Nat → Nat → Nat) (L : List Nat) (f : Nat → va_E) (hG : tp_G τ ν ρ L) (hT : tp_T (mo_O κ) κ τ ν ρ f) (h0 : Nat) (v : Int32) (u : Int32) (x : Int) (b : Int) (ht_h0 : τ h0 = 13) (hbb : 0 ≤ b ∧ b ≤ 1000) (hJ : mo_RI x b (mo_R (mo_i (f (ρ h0 2))))) : Met l yX12_isBroken wqX12_isBroken ({ frames := 3, cells := 0, slots := 0, locals := 800 }) (va_Pc [.ref h0, .int v, .int u] (pz_B dC dI (tp_K κ) (va_pl L f) sz)) (vp_Si (fun r => (0 ≤ r.toInt ∧ r.toInt ≤ 1) ∧ True)) 0 0 (fun _ => False) := by
  refine Met.ofW (cc := cX12_isBroken) (maxL := 6) (ret := some .boolean) (by decide) rfl ?_
  intro p e s m args below meth c s₁ B hml hv
  obtain ⟨rfl, hsz, hP, hK, hD0, hN⟩ := hv
  have hx := B.exec
  have hb := B.bytes
  have hr := B.returns
  have hts := fun (w : Cond) (h : w ∈ WALL) => atoms_spec (ws := wqX12_isBroken) B.pre w (List.mem_cons_of_mem _ h)
  have hown : s.vm.findClass RX12 = some m.cls := findClass_of_methodNamed B.named
  have hlocks := B.notSynchronized
  subst hsz
  have hD := hD0
  have hS : va_S (fun _ => True) s.heap s.heap [] := va_S.rf
  have hl := lv_entry ([.ref h0, .int v, .int u]) (n := 6) (Nat.le_of_ble_eq_true rfl)
  rw [lg_entry_eq]
  generalize (lg_sl ([.ref h0, .int v, .int u]) ++ List.replicate (6 - (lg_sl ([.ref h0, .int v, .int u])).length) Slot.unset).toArray = ls at hl ⊢
  have hl : lv_has ls 6 [(0, .ref h0), (1, .int v), (2, .int u)] := hl
  obtain ⟨y1, y2, y3, y4, y5, y6, y7, y8, y9, y10, y11, y12, y13, y14, y15, y16, y17, y18, y19, y20, y21, y22, y23, y24, y25⟩ := tpg_13 hG ht_h0
  obtain ⟨g27, hf_o26⟩ := tpo_32 hT y1
  have hI : mo_RI x b (mo_R g27) := by have q9 := hJ; rw [hf_o26, mo_i1] at q9; exact q9
  refine lv_iconst (v := 0) hx hb dX12_isBroken_0 (by decide) ?_
  refine lv_istore_n (lv' := [(3, .int 0), (0, .ref h0), (1, .int v), (2, .int u)]) hx hb dX12_isBroken_1 rfl hl (by decide) rfl (fun ls hl => ?_)
  refine lv_iconst (v := 0) hx hb dX12_isBroken_2 (by decide) ?_
  refine lv_istore (lv' := [(4, .int 0), (3, .int 0), (0, .ref h0), (1, .int v), (2, .int u)]) hx hb dX12_isBroken_3 hl (by decide) rfl (fun ls hl => ?_)
  refine pz_loop (fun n0 H locs ls => ∃ w28 : Int32, ∃ w29 : Int32, n0 = (20 - (w28.toInt)).toNat ∧ (0 ≤ w28.toInt ∧ w28.toInt ≤ 20) ∧ (0 ≤ w29.toInt ∧ w29.toInt ≤ 1) ∧ H = s.heap ∧ locs = [] ∧ lv_has ls 6 [(4, .int w28), (3, .int w29), (0, .ref h0), (1, .int v), (2, .int u)]) ?_ _ _ _ _ ⟨0, 0, rfl, (by have : (0 : Int32).toInt = 0 := rfl; have : (0 : Int32).toInt = 0 := rfl; omega), (by have : (0 : Int32).toInt = 0 := rfl; have : (0 : Int32).toInt = 0 := rfl; omega), rfl, rfl, lv_sub hl [0, 1, 2, 3, 4] rfl⟩
  intro n0 H locs ls hI ih30
  obtain ⟨w28, w29, hn31, rw28, rw29, rfl, rfl, hl⟩ := hI
  refine lv_iload hx hb dX12_isBroken_5 (lv_at hl 0 rfl) ?_
  refine lv_aload_n hx hb dX12_isBroken_7 rfl (lv_at hl 2 rfl) ?_
  obtain ⟨o32_x0, o32_x1, o32_x7, o32_x9, o32_x10, o32_x11, o32_x12, o32_x13, o32_x14, o32_x15, o32_x16, o32_x17, o32_x18, o32_x19, o32_x20, o32_x22, o32_x25, o32_x28, o32_x29, o32_x32, o32_x33, o32_x34, o32_x35, o32_x36, o32_x37, o32_x38, o32_x47, o32_x48, hf_o32, ro32_0, ro32_1, ro32_2, ro32_3, ro32_4, ro32_5, ro32_6, ro32_7, ro32_8, ro32_9, ro32_10, ro32_11, ro32_12, ro32_13⟩ := tpo_13 hT ht_h0
  obtain ⟨q33, eq33⟩ := tp_pos (tp_in hG ht_h0 (by decide)) hf_o32
  refine va_get (D := (dC, dI)) (ci := 12) (v := .ref (ρ h0 2)) (C := RX12) (T := TX12) (N := 53) hx hb hts hfX12 hown hK hP q33 eq33 rfl 2 (by decide) (hts (.fieldLink RX12 7 "ColdShipsModel" "row" "[I") wa_148) (fun _ h9 => h9) rfl dX12_isBroken_8 ?_
  refine lv_iconst (v := 3) hx hb dX12_isBroken_11 (by decide) ?_
  obtain ⟨q34, eq34⟩ := tp_pos (tp_in hG y1 (by decide)) hf_o26
  refine va_iald hx hb hK hP q34 0 eq34 rfl (vp_in_iff.mpr ⟨by decide, by decide⟩) dX12_isBroken_12 ?_
  refine lv_topi (fun z35 ez35 => ?_)
  have jz35 : z35.toInt = mo_R g27 (3) := mo_rd ez35 (show (3 : Int32).toInt = (3) from by decide)
  have kz35 := hI.k3
  refine lv_icmp_ge (tgt := 81) hx hb dX12_isBroken_13 (by decide) (fun c36 => ?_) (fun c36 => ?_)
  · have ic36 : w28.toInt ≥ z35.toInt := zi_ge rfl rfl c36
    refine lv_iload_n hx hb dX12_isBroken_81 rfl (lv_at hl 1 rfl) ?_
    exact W.zret (v := w29) hx hb hr (zi_narZ (by omega) (by omega)) (fun t ht hW => ⟨w29, rfl, ⟨(by first | decide | omega), trivial⟩, ht⟩) (fun _ h => by cases h) dX12_isBroken_82
  · have ic36 : w28.toInt < z35.toInt := zi_gef rfl rfl c36
    refine lv_sipush (v := 487) hx hb dX12_isBroken_16 (by decide) ?_
    refine lv_iconst (v := 3) hx hb dX12_isBroken_19 (by decide) ?_
    refine lv_iload hx hb dX12_isBroken_20 (lv_at hl 0 rfl) ?_
    refine lv_imul hx hb dX12_isBroken_22 ?_
    refine lv_topi (fun z37 ez37 => ?_)
    have iz37 : z37.toInt = 3 * w28.toInt := zi_mul ez37 rfl rfl (by omega) (by omega)
    refine lv_iadd hx hb dX12_isBroken_23 ?_
    refine lv_topi (fun z38 ez38 => ?_)
    have iz38 : z38.toInt = 487 + z37.toInt := zi_add ez38 rfl rfl (by omega) (by omega)
    refine lv_istore (lv' := [(5, .int z38), (4, .int w28), (3, .int w29), (0, .ref h0), (1, .int v), (2, .int u)]) hx hb dX12_isBroken_24 hl (by decide) rfl (fun ls hl => ?_)
    refine lv_iload_n hx hb dX12_isBroken_26 rfl (lv_at hl 2 rfl) ?_
    refine lv_if_ne (tgt := 69) hx hb dX12_isBroken_27 (by decide) (fun c39 => ?_) (fun c39 => ?_)
    · have ic39 : w29.toInt ≠ 0 := zi_ne rfl rfl c39
      refine lv_iconst (v := 1) hx hb dX12_isBroken_69 (by decide) ?_
      refine lv_goto (tgt := 74) hx hb dX12_isBroken_70 (by decide) ?_
      refine lv_istore_n (lv' := [(3, .int 1), (5, .int z38), (4, .int w28), (0, .ref h0), (1, .int v), (2, .int u)]) hx hb dX12_isBroken_74 rfl hl (by decide) rfl (fun ls hl => ?_)
      obtain ⟨z40, ez40⟩ : ∃ y : Int32, y = w28 + 1 := ⟨_, rfl⟩
      refine lv_iinc (v := z40) (lv' := [(4, .int z40), (3, .int 1), (5, .int z38), (0, .ref h0), (1, .int v), (2, .int u)]) hx hb dX12_isBroken_75 hl (k := 2) rfl (by rw [ez40]; rfl) (by decide) rfl (fun ls hl => ?_)
      have iz40 : z40.toInt = w28.toInt + 1 := zi_add ez40 rfl rfl (by omega) (by omega)
      refine lv_goto (tgt := 5) hx hb dX12_isBroken_78 (by decide) ?_
      exact ih30 _ _ _ _ (by rw [hn31]; omega) ⟨z40, 1, rfl, (by have : (1 : Int32).toInt = 1 := rfl; omega), (by have : (1 : Int32).toInt = 1 := rfl; omega), rfl, rfl, lv_sub hl [0, 1, 3, 4, 5] rfl⟩
    · have ic39 : w29.toInt = 0 := zi_nef rfl rfl c39
      refine lv_aload_n hx hb dX12_isBroken_30 rfl (lv_at hl 3 rfl) ?_
      refine va_get (D := (dC, dI)) (ci := 12) (v := .ref (ρ h0 2)) (C := RX12) (T := TX12) (N := 53) hx hb hts hfX12 hown hK hP q33 eq33 rfl 2 (by decide) (hts (.fieldLink RX12 7 "ColdShipsModel" "row" "[I") wa_148) (fun _ h9 => h9) rfl dX12_isBroken_31 ?_
      refine lv_iload hx hb dX12_isBroken_34 (lv_at hl 0 rfl) ?_
      refine va_iald hx hb hK hP q34 0 eq34 rfl (vp_in_iff.mpr ⟨by omega, by omega⟩) dX12_isBroken_36 ?_
      refine lv_topi (fun z41 ez41 => ?_)
      refine lv_iload_n hx hb dX12_isBroken_37 rfl (lv_at hl 4 rfl) ?_
      refine lv_icmp_ne (tgt := 73) hx hb dX12_isBroken_38 (by decide) (fun c42 => ?_) (fun c42 => ?_)
      · have ic42 : z41.toInt ≠ v.toInt := zi_ne rfl rfl c42
        refine lv_iconst (v := 0) hx hb dX12_isBroken_73 (by decide) ?_
        refine lv_istore_n (lv' := [(3, .int 0), (5, .int z38), (4, .int w28), (0, .ref h0), (1, .int v), (2, .int u)]) hx hb dX12_isBroken_74 rfl hl (by decide) rfl (fun ls hl => ?_)
        obtain ⟨z43, ez43⟩ : ∃ y : Int32, y = w28 + 1 := ⟨_, rfl⟩
        refine lv_iinc (v := z43) (lv' := [(4, .int z43), (3, .int 0), (5, .int z38), (0, .ref h0), (1, .int v), (2, .int u)]) hx hb dX12_isBroken_75 hl (k := 2) rfl (by rw [ez43]; rfl) (by decide) rfl (fun ls hl => ?_)
        have iz43 : z43.toInt = w28.toInt + 1 := zi_add ez43 rfl rfl (by omega) (by omega)
        refine lv_goto (tgt := 5) hx hb dX12_isBroken_78 (by decide) ?_
        exact ih30 _ _ _ _ (by rw [hn31]; omega) ⟨z43, 0, rfl, (by have : (0 : Int32).toInt = 0 := rfl; omega), (by have : (0 : Int32).toInt = 0 := rfl; omega), rfl, rfl, lv_sub hl [0, 1, 3, 4, 5] rfl⟩
      · have ic42 : z41.toInt = v.toInt := zi_nef rfl rfl c42
        refine lv_iload_n hx hb dX12_isBroken_41 rfl (lv_at hl 5 rfl) ?_
        refine lv_i2l hx hb dX12_isBroken_42 rfl ?_
        refine lv_aload_n hx hb dX12_isBroken_43 rfl (lv_at hl 3 rfl) ?_
        refine va_get (D := (dC, dI)) (ci := 12) (v := .ref (ρ h0 2)) (C := RX12) (T := TX12) (N := 53) hx hb hts hfX12 hown hK hP q33 eq33 rfl 2 (by decide) (hts (.fieldLink RX12 7 "ColdShipsModel" "row" "[I") wa_148) (fun _ h9 => h9) rfl dX12_isBroken_44 ?_
        refine lv_iload hx hb dX12_isBroken_47 (lv_at hl 0 rfl) ?_
        refine lv_iconst (v := 1) hx hb dX12_isBroken_49 (by decide) ?_
        refine lv_iadd hx hb dX12_isBroken_50 ?_
        refine lv_topi (fun z44 ez44 => ?_)
        have iz44 : z44.toInt = z38.toInt + 1 := zi_add ez44 rfl rfl (by omega) (by omega)
        refine va_iald hx hb hK hP q34 0 eq34 rfl (vp_in_iff.mpr ⟨by omega, by omega⟩) dX12_isBroken_51 ?_
        refine lv_topi (fun z45 ez45 => ?_)
        refine lv_i2l hx hb dX12_isBroken_52 rfl ?_
        refine lv_aload_n hx hb dX12_isBroken_53 rfl (lv_at hl 3 rfl) ?_
        refine va_get (D := (dC, dI)) (ci := 12) (v := .ref (ρ h0 2)) (C := RX12) (T := TX12) (N := 53) hx hb hts hfX12 hown hK hP q33 eq33 rfl 2 (by decide) (hts (.fieldLink RX12 7 "ColdShipsModel" "row" "[I") wa_148) (fun _ h9 => h9) rfl dX12_isBroken_54 ?_
        refine lv_iload hx hb dX12_isBroken_57 (lv_at hl 0 rfl) ?_
        refine lv_iconst (v := 2) hx hb dX12_isBroken_59 (by decide) ?_
        refine lv_iadd hx hb dX12_isBroken_60 ?_
        refine lv_topi (fun z46 ez46 => ?_)
        have iz46 : z46.toInt = z38.toInt + 2 := zi_add ez46 rfl rfl (by omega) (by omega)
        refine va_iald hx hb hK hP q34 0 eq34 rfl (vp_in_iff.mpr ⟨by omega, by omega⟩) dX12_isBroken_61 ?_
        refine lv_topi (fun z47 ez47 => ?_)
        refine lv_i2l hx hb dX12_isBroken_62 rfl ?_
        refine pz_calli (va_runS (As := [.long u.toInt64, .long z45.toInt64, .long z47.toInt64]) (rest := []) ⟨hx, hb, hml, hown, hts⟩ (t_X12_in l dC dI _ u.toInt64 z45.toInt64 z47.toInt64 (u.toInt) (z45.toInt) (z47.toInt) (Int32.toInt_toInt64 u) (Int32.toInt_toInt64 z45) (Int32.toInt_toInt64 z47)) (va_cwS 3 hts gX12_isBroken_X12_in rfl rfl rfl pd_X12_in ⟨Nat.le_of_ble_eq_true rfl, Nat.le_of_ble_eq_true rfl⟩) ⟨pz_blind, pz_pre pz_P0 (hK.sub (tys' := []) [] rfl) (pz_D0 (A := fun _ => True)) hN⟩ rfl rfl hl.1 rfl (lv_room (Nat.le_of_ble_eq_true rfl)) dX12_isBroken_63 ⟨Nat.le_of_ble_eq_true rfl, Nat.le_of_ble_eq_true rfl⟩) (fun r48 hw49 => ?_)
        obtain ⟨hw49r, hw49p⟩ := hw49
        refine lv_if_eq (tgt := 73) hx hb dX12_isBroken_66 (by decide) (fun c50 => ?_) (fun c50 => ?_)
        · have ic50 : r48.toInt = 0 := zi_eq rfl rfl c50
          refine lv_iconst (v := 0) hx hb dX12_isBroken_73 (by decide) ?_
          refine lv_istore_n (lv' := [(3, .int 0), (5, .int z38), (4, .int w28), (0, .ref h0), (1, .int v), (2, .int u)]) hx hb dX12_isBroken_74 rfl hl (by decide) rfl (fun ls hl => ?_)
          obtain ⟨z51, ez51⟩ : ∃ y : Int32, y = w28 + 1 := ⟨_, rfl⟩
          refine lv_iinc (v := z51) (lv' := [(4, .int z51), (3, .int 0), (5, .int z38), (0, .ref h0), (1, .int v), (2, .int u)]) hx hb dX12_isBroken_75 hl (k := 2) rfl (by rw [ez51]; rfl) (by decide) rfl (fun ls hl => ?_)
          have iz51 : z51.toInt = w28.toInt + 1 := zi_add ez51 rfl rfl (by omega) (by omega)
          refine lv_goto (tgt := 5) hx hb dX12_isBroken_78 (by decide) ?_
          exact ih30 _ _ _ _ (by rw [hn31]; omega) ⟨z51, 0, rfl, (by have : (0 : Int32).toInt = 0 := rfl; omega), (by have : (0 : Int32).toInt = 0 := rfl; omega), rfl, rfl, lv_sub hl [0, 1, 3, 4, 5] rfl⟩
        · have ic50 : r48.toInt ≠ 0 := zi_eqf rfl rfl c50
          have p52 : (z45.toInt) ≤ (u.toInt) ∧ (u.toInt) ≤ (z47.toInt) := (tp_cond.yes hw49p) (by omega)
          refine lv_iconst (v := 1) hx hb dX12_isBroken_69 (by decide) ?_
          refine lv_goto (tgt := 74) hx hb dX12_isBroken_70 (by decide) ?_
          refine lv_istore_n (lv' := [(3, .int 1), (5, .int z38), (4, .int w28), (0, .ref h0), (1, .int v), (2, .int u)]) hx hb dX12_isBroken_74 rfl hl (by decide) rfl (fun ls hl => ?_)
          obtain ⟨z53, ez53⟩ : ∃ y : Int32, y = w28 + 1 := ⟨_, rfl⟩
          refine lv_iinc (v := z53) (lv' := [(4, .int z53), (3, .int 1), (5, .int z38), (0, .ref h0), (1, .int v), (2, .int u)]) hx hb dX12_isBroken_75 hl (k := 2) rfl (by rw [ez53]; rfl) (by decide) rfl (fun ls hl => ?_)
          have iz53 : z53.toInt = w28.toInt + 1 := zi_add ez53 rfl rfl (by omega) (by omega)
          refine lv_goto (tgt := 5) hx hb dX12_isBroken_78 (by decide) ?_
          exact ih30 _ _ _ _ (by rw [hn31]; omega) ⟨z53, 1, rfl, (by have : (1 : Int32).toInt = 1 := rfl; omega), (by have : (1 : Int32).toInt = 1 := rfl; omega), rfl, rfl, lv_sub hl [0, 1, 3, 4, 5] rfl⟩
set_option maxHeartbeats 4000000 in
set_option maxRecDepth 100000 in
theorem t_X12_beginOrder (l : Launch) (dC : Nat → ClassId) (dI : Nat → Nat → Nat) (sz : Nat) (κ : Nat → ClassId) (τ ν : Nat → Nat) (ρ : Nat → Nat → Nat) (L : List Nat) (f : Nat → va_E) (hG : tp_G τ ν ρ L) (hT : tp_T (mo_O κ) κ τ ν ρ f) (h0 : Nat) (us : Int32) (x : Int) (b : Int) (qs : Int) (ht_h0 : τ h0 = 13) (hL_us : us.toInt = 547 + 84 * qs) (hq_us : 0 ≤ qs ∧ qs ≤ 5) (hbb : 0 ≤ b ∧ b ≤ 1000) (hJ : mo_RI x b (mo_R (mo_i (f (ρ h0 2))))) (hn1 : qs < (mo_R (mo_i (f (ρ h0 2)))) (1)) : Met l yX12_beginOrder wqX12_beginOrder ({ frames := 2, cells := 0, slots := 0, locals := 400 }) (va_Pc [.ref h0, .int us] (pz_B dC dI (tp_K κ) (va_pl L f) sz)) (va_Qv (fun (f1 : Nat → va_E) => tp_T (mo_O κ) κ τ ν ρ f1 ∧ tp_F τ [32] f f1 ∧ mo_RI x b (mo_R (mo_i (f1 (ρ h0 2)))) ∧ (mo_R (mo_i (f1 (ρ h0 2)))) (1) = (mo_R (mo_i (f (ρ h0 2)))) (1) ∧ (mo_R (mo_i (f1 (ρ h0 2)))) (11) = (mo_R (mo_i (f (ρ h0 2)))) (11) ∧ (mo_R (mo_i (f1 (ρ h0 2)))) (547 + 84 * qs + 10) = (mo_R (mo_i (f (ρ h0 2)))) (547 + 84 * qs + 10)) (fun (f1 : Nat → va_E) (t : State) => pz_E dC dI (tp_K κ) (va_A (va_pl L f) sz) (va_pl L f1) t) (va_A (va_pl L f) sz)) 0 0 (va_A (va_pl L f) sz) := by
  refine Met.ofW (cc := cX12_beginOrder) (maxL := 3) (ret := none) (by decide) rfl ?_
  intro p e s m args below meth c s₁ B hml hv
  obtain ⟨rfl, hsz, hP, hK, hD0, hN⟩ := hv
  have hx := B.exec
  have hb := B.bytes
  have hr := B.returns
  have hts := fun (w : Cond) (h : w ∈ WALL) => atoms_spec (ws := wqX12_beginOrder) B.pre w (List.mem_cons_of_mem _ h)
  have hown : s.vm.findClass RX12 = some m.cls := findClass_of_methodNamed B.named
  have hlocks := B.notSynchronized
  subst hsz
  have hD := hD0.self (sz := s.heap.size)
  generalize hAe : va_A (va_pl L f) s.heap.size = A at hD ⊢
  have hA : ∀ q : Nat, s.heap.size ≤ q → A q := fun q h => by rw [← hAe]; exact Or.inr h
  have hS : va_S A s.heap s.heap [] := va_S.rf
  have hR : tp_F τ [32] f f := tp_F.rf
  have hl := lv_entry ([.ref h0, .int us]) (n := 3) (Nat.le_of_ble_eq_true rfl)
  rw [lg_entry_eq]
  generalize (lg_sl ([.ref h0, .int us]) ++ List.replicate (3 - (lg_sl ([.ref h0, .int us])).length) Slot.unset).toArray = ls at hl ⊢
  have hl : lv_has ls 3 [(0, .ref h0), (1, .int us)] := hl
  obtain ⟨y1, y2, y3, y4, y5, y6, y7, y8, y9, y10, y11, y12, y13, y14, y15, y16, y17, y18, y19, y20, y21, y22, y23, y24, y25⟩ := tpg_13 hG ht_h0
  obtain ⟨g27, hf_o26⟩ := tpo_32 hT y1
  have hI : mo_RI x b (mo_R g27) := by have q9 := hJ; rw [hf_o26, mo_i1] at q9; exact q9
  rw [hf_o26, mo_i1] at hn1
  obtain ⟨n1, en1⟩ : ∃ n : Int, n = mo_R g27 (1) := ⟨_, rfl⟩
  have kn1 := hI.k1
  obtain ⟨n11, en11⟩ : ∃ n : Int, n = mo_R g27 (11) := ⟨_, rfl⟩
  have kn11 := hI.k11
  obtain ⟨ns10, ens10⟩ : ∃ n : Int, n = mo_R g27 (547 + 84 * qs + 10) := ⟨_, rfl⟩
  refine lv_aload_n hx hb dX12_beginOrder_0 rfl (lv_at hl 0 rfl) ?_
  obtain ⟨o28_x0, o28_x1, o28_x7, o28_x9, o28_x10, o28_x11, o28_x12, o28_x13, o28_x14, o28_x15, o28_x16, o28_x17, o28_x18, o28_x19, o28_x20, o28_x22, o28_x25, o28_x28, o28_x29, o28_x32, o28_x33, o28_x34, o28_x35, o28_x36, o28_x37, o28_x38, o28_x47, o28_x48, hf_o28, ro28_0, ro28_1, ro28_2, ro28_3, ro28_4, ro28_5, ro28_6, ro28_7, ro28_8, ro28_9, ro28_10, ro28_11, ro28_12, ro28_13⟩ := tpo_13 hT ht_h0
  obtain ⟨q29, eq29⟩ := tp_pos (tp_in hG ht_h0 (by decide)) hf_o28
  refine va_get (D := (dC, dI)) (ci := 12) (v := .ref (ρ h0 2)) (C := RX12) (T := TX12) (N := 53) hx hb hts hfX12 hown hK hP q29 eq29 rfl 2 (by decide) (hts (.fieldLink RX12 7 "ColdShipsModel" "row" "[I") wa_148) (fun _ h9 => h9) rfl dX12_beginOrder_1 ?_
  refine lv_iload_n hx hb dX12_beginOrder_4 rfl (lv_at hl 1 rfl) ?_
  refine lv_bipush (v := 10) hx hb dX12_beginOrder_5 (by decide) ?_
  refine lv_iadd hx hb dX12_beginOrder_7 ?_
  refine lv_topi (fun z30 ez30 => ?_)
  have iz30 : z30.toInt = us.toInt + 10 := zi_add ez30 rfl rfl (by omega) (by omega)
  obtain ⟨q31, eq31⟩ := tp_pos (tp_in hG y1 (by decide)) hf_o26
  refine va_iald hx hb hK hP q31 0 eq31 rfl (vp_in_iff.mpr ⟨by omega, by omega⟩) dX12_beginOrder_8 ?_
  refine lv_topi (fun z32 ez32 => ?_)
  have jz32 : z32.toInt = mo_R g27 (547 + 84 * qs + 10) := mo_rd ez32 (by omega)
  have kz32 := hI.SO (s := qs) (by omega) (by omega)
  refine tp_join 43 (fun H locs ls stk => ∃ w33 : Int32, stk = [.int w33] ∧ (0 ≤ w33.toInt ∧ w33.toInt ≤ 1) ∧ va_P (dC, dI) vwCl (va_pl L f) H ∧ va_D A (va_pl L f) ∧ va_S A s.heap H locs ∧ lv_has ls 3 [(0, .ref h0), (1, .int us)]) ?_ (fun hj34 => ?_)
  · intro H locs ls stk hI
    obtain ⟨w33, rfl, rw33, hP, hD, hS, hl⟩ := hI
    refine lv_istore_n (lv' := [(2, .int w33), (0, .ref h0), (1, .int us)]) hx hb dX12_beginOrder_43 rfl hl (by decide) rfl (fun ls hl => ?_)
    refine lv_aload_n hx hb dX12_beginOrder_44 rfl (lv_at hl 1 rfl) ?_
    refine va_get (D := (dC, dI)) (ci := 12) (v := .ref (ρ h0 2)) (C := RX12) (T := TX12) (N := 53) hx hb hts hfX12 hown hK hP q29 eq29 rfl 2 (by decide) (hts (.fieldLink RX12 7 "ColdShipsModel" "row" "[I") wa_148) (fun _ h9 => h9) rfl dX12_beginOrder_45 ?_
    refine lv_iload_n hx hb dX12_beginOrder_48 rfl (lv_at hl 2 rfl) ?_
    refine lv_bipush (v := 11) hx hb dX12_beginOrder_49 (by decide) ?_
    refine lv_iadd hx hb dX12_beginOrder_51 ?_
    refine lv_topi (fun z35 ez35 => ?_)
    have iz35 : z35.toInt = us.toInt + 11 := zi_add ez35 rfl rfl (by omega) (by omega)
    refine lv_iload_n hx hb dX12_beginOrder_52 rfl (lv_at hl 0 rfl) ?_
    refine lv_if_eq (tgt := 70) hx hb dX12_beginOrder_53 (by decide) (fun c36 => ?_) (fun c36 => ?_)
    · have ic36 : w33.toInt = 0 := zi_eq rfl rfl c36
      refine lv_iconst (v := 0) hx hb dX12_beginOrder_70 (by decide) ?_
      refine va_iast hx hb hK hP hD hS q31 0 eq31 rfl (vp_in_iff.mpr ⟨by omega, by omega⟩) dX12_beginOrder_71 (tp_k (.inl (κ 0, 12967, .inl (upd g27 z35.toNatClampNeg (0 : Int32)))) hD (tp_in hG y1 (by decide)) eq31 (fun f37 H locs hP hD hS g39 k38 => ?_))
      have hT := hT.up y1 g39 k38 tp_o32
      have hR := hR.up y1 (by decide) k38
      have hU : mo_U (mo_R g27) (mo_R (upd g27 z35.toNatClampNeg (0 : Int32))) (547 + 84 * qs + 11) (0) := mo_up (by omega) (show (0 : Int32).toInt = 0 from rfl) (by omega)
      generalize (upd g27 z35.toNatClampNeg (0 : Int32)) = g40 at g39 hU
      have hI := mo_w_sfree hI hU qs 11 (by omega) (by omega) (by omega)
      have pn41 : mo_R g40 (1) = n1 := (hU.ne (by omega) (by omega)).trans en1.symm
      have pn42 : mo_R g40 (11) = n11 := (hU.ne (by omega) (by omega)).trans en11.symm
      have pn43 : mo_R g40 (547 + 84 * qs + 10) = ns10 := (hU.ne (by omega) (by omega)).trans ens10.symm
      exact W.vret hx hb hr (fun t ht hW => ⟨⟨f37, rfl, ⟨hT, hR, ⟨(by rw [g39, mo_i1]; exact hI), (by first | (simp only [g39, hf_o26, mo_i1]; omega) | simp only [g39, hf_o26, mo_i1] | omega)⟩⟩, by rw [ht]; exact hP, va_K.moved hW.alike hK, hD⟩, hS.F ht⟩) hS.2.2 dX12_beginOrder_72
    · have ic36 : w33.toInt ≠ 0 := zi_eqf rfl rfl c36
      refine lv_aload_n hx hb dX12_beginOrder_56 rfl (lv_at hl 1 rfl) ?_
      refine va_get (D := (dC, dI)) (ci := 12) (v := .ref (ρ h0 2)) (C := RX12) (T := TX12) (N := 53) hx hb hts hfX12 hown hK hP q29 eq29 rfl 2 (by decide) (hts (.fieldLink RX12 7 "ColdShipsModel" "row" "[I") wa_148) (fun _ h9 => h9) rfl dX12_beginOrder_57 ?_
      refine lv_iload_n hx hb dX12_beginOrder_60 rfl (lv_at hl 2 rfl) ?_
      refine lv_bipush (v := 44) hx hb dX12_beginOrder_61 (by decide) ?_
      refine lv_iadd hx hb dX12_beginOrder_63 ?_
      refine lv_topi (fun z44 ez44 => ?_)
      have iz44 : z44.toInt = us.toInt + 44 := zi_add ez44 rfl rfl (by omega) (by omega)
      refine lv_iconst (v := 1) hx hb dX12_beginOrder_64 (by decide) ?_
      refine lv_iadd hx hb dX12_beginOrder_65 ?_
      refine lv_topi (fun z45 ez45 => ?_)
      have iz45 : z45.toInt = z44.toInt + 1 := zi_add ez45 rfl rfl (by omega) (by omega)
      refine va_iald hx hb hK hP q31 0 eq31 rfl (vp_in_iff.mpr ⟨by omega, by omega⟩) dX12_beginOrder_66 ?_
      refine lv_topi (fun z46 ez46 => ?_)
      refine lv_goto (tgt := 71) hx hb dX12_beginOrder_67 (by decide) ?_
      refine va_iast hx hb hK hP hD hS q31 0 eq31 rfl (vp_in_iff.mpr ⟨by omega, by omega⟩) dX12_beginOrder_71 (tp_k (.inl (κ 0, 12967, .inl (upd g27 z35.toNatClampNeg z46))) hD (tp_in hG y1 (by decide)) eq31 (fun f47 H locs hP hD hS g49 k48 => ?_))
      have hT := hT.up y1 g49 k48 tp_o32
      have hR := hR.up y1 (by decide) k48
      have hU : mo_U (mo_R g27) (mo_R (upd g27 z35.toNatClampNeg z46)) (547 + 84 * qs + 11) (z46.toInt) := mo_up (by omega) (rfl : z46.toInt = _) (by omega)
      generalize (upd g27 z35.toNatClampNeg z46) = g50 at g49 hU
      have hI := mo_w_sfree hI hU qs 11 (by omega) (by omega) (by omega)
      have pn51 : mo_R g50 (1) = n1 := (hU.ne (by omega) (by omega)).trans en1.symm
      have pn52 : mo_R g50 (11) = n11 := (hU.ne (by omega) (by omega)).trans en11.symm
      have pn53 : mo_R g50 (547 + 84 * qs + 10) = ns10 := (hU.ne (by omega) (by omega)).trans ens10.symm
      exact W.vret hx hb hr (fun t ht hW => ⟨⟨f47, rfl, ⟨hT, hR, ⟨(by rw [g49, mo_i1]; exact hI), (by first | (simp only [g49, hf_o26, mo_i1]; omega) | simp only [g49, hf_o26, mo_i1] | omega)⟩⟩, by rw [ht]; exact hP, va_K.moved hW.alike hK, hD⟩, hS.F ht⟩) hS.2.2 dX12_beginOrder_72
  · refine lv_if_le (tgt := 42) hx hb dX12_beginOrder_9 (by decide) (fun c54 => ?_) (fun c54 => ?_)
    · have ic54 : z32.toInt ≤ 0 := zi_le rfl rfl c54
      refine lv_iconst (v := 0) hx hb dX12_beginOrder_42 (by decide) ?_
      exact hj34 _ _ _ _ ⟨0, rfl, (by have : (0 : Int32).toInt = 0 := rfl; omega), hP, hD, hS, lv_sub hl [0, 1] rfl⟩
    · have ic54 : z32.toInt > 0 := zi_lef rfl rfl c54
      refine lv_aload_n hx hb dX12_beginOrder_12 rfl (lv_at hl 0 rfl) ?_
      refine va_get (D := (dC, dI)) (ci := 12) (v := .ref (ρ h0 2)) (C := RX12) (T := TX12) (N := 53) hx hb hts hfX12 hown hK hP q29 eq29 rfl 2 (by decide) (hts (.fieldLink RX12 7 "ColdShipsModel" "row" "[I") wa_148) (fun _ h9 => h9) rfl dX12_beginOrder_13 ?_
      refine lv_iload_n hx hb dX12_beginOrder_16 rfl (lv_at hl 1 rfl) ?_
      refine lv_bipush (v := 44) hx hb dX12_beginOrder_17 (by decide) ?_
      refine lv_iadd hx hb dX12_beginOrder_19 ?_
      refine lv_topi (fun z55 ez55 => ?_)
      have iz55 : z55.toInt = us.toInt + 44 := zi_add ez55 rfl rfl (by omega) (by omega)
      refine va_iald hx hb hK hP q31 0 eq31 rfl (vp_in_iff.mpr ⟨by omega, by omega⟩) dX12_beginOrder_20 ?_
      refine lv_topi (fun z56 ez56 => ?_)
      refine lv_iconst (v := 1) hx hb dX12_beginOrder_21 (by decide) ?_
      refine lv_icmp_eq (tgt := 38) hx hb dX12_beginOrder_22 (by decide) (fun c57 => ?_) (fun c57 => ?_)
      · have ic57 : z56.toInt = 1 := zi_eq rfl rfl c57
        refine lv_iconst (v := 1) hx hb dX12_beginOrder_38 (by decide) ?_
        refine lv_goto (tgt := 43) hx hb dX12_beginOrder_39 (by decide) ?_
        exact hj34 _ _ _ _ ⟨1, rfl, (by have : (1 : Int32).toInt = 1 := rfl; omega), hP, hD, hS, lv_sub hl [0, 1] rfl⟩
      · have ic57 : z56.toInt ≠ 1 := zi_eqf rfl rfl c57
        refine lv_aload_n hx hb dX12_beginOrder_25 rfl (lv_at hl 0 rfl) ?_
        refine va_get (D := (dC, dI)) (ci := 12) (v := .ref (ρ h0 2)) (C := RX12) (T := TX12) (N := 53) hx hb hts hfX12 hown hK hP q29 eq29 rfl 2 (by decide) (hts (.fieldLink RX12 7 "ColdShipsModel" "row" "[I") wa_148) (fun _ h9 => h9) rfl dX12_beginOrder_26 ?_
        refine lv_iload_n hx hb dX12_beginOrder_29 rfl (lv_at hl 1 rfl) ?_
        refine lv_bipush (v := 44) hx hb dX12_beginOrder_30 (by decide) ?_
        refine lv_iadd hx hb dX12_beginOrder_32 ?_
        refine lv_topi (fun z58 ez58 => ?_)
        have iz58 : z58.toInt = us.toInt + 44 := zi_add ez58 rfl rfl (by omega) (by omega)
        refine va_iald hx hb hK hP q31 0 eq31 rfl (vp_in_iff.mpr ⟨by omega, by omega⟩) dX12_beginOrder_33 ?_
        refine lv_topi (fun z59 ez59 => ?_)
        refine lv_iconst (v := 2) hx hb dX12_beginOrder_34 (by decide) ?_
        refine lv_icmp_ne (tgt := 42) hx hb dX12_beginOrder_35 (by decide) (fun c60 => ?_) (fun c60 => ?_)
        · have ic60 : z59.toInt ≠ 2 := zi_ne rfl rfl c60
          refine lv_iconst (v := 0) hx hb dX12_beginOrder_42 (by decide) ?_
          exact hj34 _ _ _ _ ⟨0, rfl, (by have : (0 : Int32).toInt = 0 := rfl; omega), hP, hD, hS, lv_sub hl [0, 1] rfl⟩
        · have ic60 : z59.toInt = 2 := zi_nef rfl rfl c60
          refine lv_iconst (v := 1) hx hb dX12_beginOrder_38 (by decide) ?_
          refine lv_goto (tgt := 43) hx hb dX12_beginOrder_39 (by decide) ?_
          exact hj34 _ _ _ _ ⟨1, rfl, (by have : (1 : Int32).toInt = 1 := rfl; omega), hP, hD, hS, lv_sub hl [0, 1] rfl⟩
set_option maxHeartbeats 4000000 in
set_option maxRecDepth 100000 in
theorem t_X12_order (l : Launch) (dC : Nat → ClassId) (dI : Nat → Nat → Nat) (sz : Nat) (κ : Nat → ClassId) (τ ν : Nat → Nat) (ρ : Nat → Nat → Nat) (L : List Nat) (f : Nat → va_E) (hG : tp_G τ ν ρ L) (hT : tp_T (mo_O κ) κ τ ν ρ f) (h0 : Nat) (v : Int32) (u : Int32) (a : Int32) (ht_h0 : τ h0 = 13) (hJ : mo_RI (-1) 0 (mo_R (mo_i (f (ρ h0 2))))) : Met l yX12_order wqX12_order ({ frames := 4, cells := 0, slots := 0, locals := 1200 }) (va_Pc [.ref h0, .int v, .int u, .int a] (pz_B dC dI (tp_K κ) (va_pl L f) sz)) (va_Qi (fun (r : Int32) (f1 : Nat → va_E) => tp_T (mo_O κ) κ τ ν ρ f1 ∧ tp_F τ [13, 32] f f1 ∧ True ∧ mo_RI (-1) 0 (mo_R (mo_i (f1 (ρ h0 2))))) (fun (f1 : Nat → va_E) (t : State) => pz_E dC dI (tp_K κ) (va_A (va_pl L f) sz) (va_pl L f1) t) (va_A (va_pl L f) sz)) 0 0 (va_A (va_pl L f) sz) := by
  refine Met.ofW (cc := cX12_order) (maxL := 7) (ret := some .int) (by decide) rfl ?_
  intro p e s m args below meth c s₁ B hml hv
  obtain ⟨rfl, hsz, hP, hK, hD0, hN⟩ := hv
  have hx := B.exec
  have hb := B.bytes
  have hr := B.returns
  have hts := fun (w : Cond) (h : w ∈ WALL) => atoms_spec (ws := wqX12_order) B.pre w (List.mem_cons_of_mem _ h)
  have hown : s.vm.findClass RX12 = some m.cls := findClass_of_methodNamed B.named
  have hlocks := B.notSynchronized
  subst hsz
  have hD := hD0.self (sz := s.heap.size)
  generalize hAe : va_A (va_pl L f) s.heap.size = A at hD ⊢
  have hA : ∀ q : Nat, s.heap.size ≤ q → A q := fun q h => by rw [← hAe]; exact Or.inr h
  have hS : va_S A s.heap s.heap [] := va_S.rf
  have hR : tp_F τ [13, 32] f f := tp_F.rf
  have hl := lv_entry ([.ref h0, .int v, .int u, .int a]) (n := 7) (Nat.le_of_ble_eq_true rfl)
  rw [lg_entry_eq]
  generalize (lg_sl ([.ref h0, .int v, .int u, .int a]) ++ List.replicate (7 - (lg_sl ([.ref h0, .int v, .int u, .int a])).length) Slot.unset).toArray = ls at hl ⊢
  have hl : lv_has ls 7 [(0, .ref h0), (1, .int v), (2, .int u), (3, .int a)] := hl
  obtain ⟨y1, y2, y3, y4, y5, y6, y7, y8, y9, y10, y11, y12, y13, y14, y15, y16, y17, y18, y19, y20, y21, y22, y23, y24, y25⟩ := tpg_13 hG ht_h0
  obtain ⟨g27, hf_o26⟩ := tpo_32 hT y1
  have hI : mo_RI (-1) 0 (mo_R g27) := by have q9 := hJ; rw [hf_o26, mo_i1] at q9; exact q9
  obtain ⟨n1, en1⟩ : ∃ n : Int, n = mo_R g27 (1) := ⟨_, rfl⟩
  have kn1 := hI.k1
  refine lv_aload_n hx hb dX12_order_0 rfl (lv_at hl 0 rfl) ?_
  refine lv_iconst (v := 0) hx hb dX12_order_1 (by decide) ?_
  obtain ⟨o28_x0, o28_x1, o28_x7, o28_x9, o28_x10, o28_x11, o28_x12, o28_x13, o28_x14, o28_x15, o28_x16, o28_x17, o28_x18, o28_x19, o28_x20, o28_x22, o28_x25, o28_x28, o28_x29, o28_x32, o28_x33, o28_x34, o28_x35, o28_x36, o28_x37, o28_x38, o28_x47, o28_x48, hf_o28, ro28_0, ro28_1, ro28_2, ro28_3, ro28_4, ro28_5, ro28_6, ro28_7, ro28_8, ro28_9, ro28_10, ro28_11, ro28_12, ro28_13⟩ := tpo_13 hT ht_h0
  obtain ⟨q29, eq29⟩ := tp_pos (tp_in hG ht_h0 (by decide)) hf_o28
  refine va_put (D := (dC, dI)) (ci := 12) (v := .int 0) (ty := .int) (C := RX12) (T := TX12) (N := 53) hx hb hts hfX12 tyX12 tyX12_ok nmX12 hown hK hP hD hS q29 eq29 rfl 0 (by decide) (hts (.fieldLink RX12 91 "ColdShipsModel" "thrown" "I") wa_209) (fun _ h9 => h9) rfl (tyX12_ok 0 (by decide)) rfl rfl (Nat.le_of_ble_eq_true rfl) dX12_order_2 (tp_k (.inr (12, [.int 0, .int o28_x1, .ref (ρ h0 2), .ref (ρ h0 3), .ref (ρ h0 4), .ref (ρ h0 5), .ref (ρ h0 6), .int o28_x7, .ref (ρ h0 8), .int o28_x9, .int o28_x10, .int o28_x11, .int o28_x12, .long o28_x13, .int o28_x14, .int o28_x15, .int o28_x16, .int o28_x17, .int o28_x18, .int o28_x19, .int o28_x20, .ref (ρ h0 21), .int o28_x22, .ref (ρ h0 23), .ref (ρ h0 24), .int o28_x25, .ref (ρ h0 26), .ref (ρ h0 27), .int o28_x28, .int o28_x29, .ref (ρ h0 30), .ref (ρ h0 31), .int o28_x32, .long o28_x33, .long o28_x34, .long o28_x35, .int o28_x36, .int o28_x37, .int o28_x38, .ref (ρ h0 39), .ref (ρ h0 40), .ref (ρ h0 41), .ref (ρ h0 42), .ref (ρ h0 43), .ref (ρ h0 44), .ref (ρ h0 45), .ref (ρ h0 46), .int o28_x47, .int o28_x48, .ref (ρ h0 49), .ref (ρ h0 50), .ref (ρ h0 51), .ref (ρ h0 52)])) hD (tp_in hG ht_h0 (by decide)) eq29 (fun f30 H locs hP hD hS g32 k31 => ?_))
  have hT := hT.up ht_h0 g32 k31 ⟨_, _, _, _, _, _, _, _, _, _, _, _, _, _, _, _, _, _, _, _, _, _, _, _, _, _, _, _, rfl, ro28_0, ro28_1, ro28_2, ro28_3, ro28_4, ro28_5, ro28_6, ro28_7, ro28_8, ro28_9, ro28_10, ro28_11, ro28_12, ro28_13⟩
  have hR := hR.up ht_h0 (by decide) k31
  refine lv_iload_n hx hb dX12_order_5 rfl (lv_at hl 2 rfl) ?_
  refine lv_i2l hx hb dX12_order_6 rfl ?_
  refine lv_lconst (v := 0) hx hb dX12_order_7 (by decide) ?_
  refine lv_ldc2 (own := RX12) (v := 3) hx hb hown (hts (.constantLong RX12 152 (3)) wa_391) dX12_order_8 ?_
  have hf_33 : f30 (ρ h0 2) = .inl (κ 0, 12967, .inl g27) := (k31 _ (tp_ne y1 ht_h0 (by decide))).trans hf_o26
  refine pz_calli (va_runS (As := [.long u.toInt64, .long 0, .long 3]) (rest := []) ⟨hx, hb, hml, hown, hts⟩ (t_X12_in l dC dI _ u.toInt64 (0) (3) (u.toInt) (0) (3) (Int32.toInt_toInt64 u) rfl rfl) (va_cwS 3 hts gX12_order_X12_in rfl rfl rfl pd_X12_in ⟨Nat.le_of_ble_eq_true rfl, Nat.le_of_ble_eq_true rfl⟩) ⟨pz_blind, pz_pre pz_P0 (hK.sub (tys' := []) [] rfl) (pz_D0 (A := fun _ => True)) hN⟩ rfl rfl hl.1 rfl (lv_room (Nat.le_of_ble_eq_true rfl)) dX12_order_11 ⟨Nat.le_of_ble_eq_true rfl, Nat.le_of_ble_eq_true rfl⟩) (fun r34 hw35 => ?_)
  obtain ⟨hw35r, hw35p⟩ := hw35
  refine lv_if_eq (tgt := 52) hx hb dX12_order_14 (by decide) (fun c36 => ?_) (fun c36 => ?_)
  · have ic36 : r34.toInt = 0 := zi_eq rfl rfl c36
    refine lv_iconst (v := 0) hx hb dX12_order_52 (by decide) ?_
    refine lv_istore (lv' := [(4, .int 0), (0, .ref h0), (1, .int v), (2, .int u), (3, .int a)]) hx hb dX12_order_53 hl (by decide) rfl (fun ls hl => ?_)
    refine lv_iload hx hb dX12_order_55 (lv_at hl 0 rfl) ?_
    refine lv_if_ne (tgt := 66) hx hb dX12_order_57 (by decide) (fun c9 => absurd c9 (by decide)) (fun _ => ?_)
    refine lv_aload_n hx hb dX12_order_60 rfl (lv_at hl 1 rfl) ?_
    refine lv_iconst (v := (-1)) hx hb dX12_order_61 (by decide) ?_
    obtain ⟨q37, eq37⟩ := tp_pos (tp_in hG ht_h0 (by decide)) g32
    have hFc := tp_fr hD hS hA
    refine va_calli (va_runV (As := [.int (-1)]) (rest := []) ⟨hx, hb, hml, hown, hts⟩ (t_X12_told l dC dI _ κ τ ν ρ L f30 hG hT h0 ((-1)) ht_h0) (cwV 1 hts gX12_order_X12_told rfl rfl rfl ⟨rfl, pd_X12_told⟩ ⟨Nat.le_of_ble_eq_true rfl, Nat.le_of_ble_eq_true rfl⟩) ⟨pz_blind, va_recv hK hP (ci := 12) (q0 := q37) rfl eq37, pz_pre hP hK hD hN⟩ rfl rfl hl.1 rfl (lv_room (Nat.le_of_ble_eq_true rfl)) dX12_order_62 ⟨Nat.le_of_ble_eq_true rfl, Nat.le_of_ble_eq_true rfl⟩) hS (fun q _ h => hFc q h) hFc (fun r38 f40 t H1 locs ht hvm hw39 hB hz1 hk1 hS => ?_)
    obtain ⟨hT, hF41, hw39r, hw39p⟩ := hw39
    have hR := hR.then hF41 (by decide)
    have hP := hB.1; rw [ht] at hP; have hD := tp_ad f40 hD; clear hB hFc hz1 hk1; subst ht; generalize t.heap = H at hP hS ⊢
    have hw39pq : r38.toInt = (-1) := by rw [hw39p]; rfl
    have hf_42 : f40 (ρ h0 2) = .inl (κ 0, 12967, .inl g27) := (hF41 _ (by rw [y1]; decide)).trans hf_33
    exact W.iret (v := r38) hx hb hr (fun t ht hW => ⟨⟨r38, f40, rfl, ⟨hT, hR, trivial, (by rw [hf_42, mo_i1]; exact hI)⟩, by rw [ht]; exact hP, va_K.moved hW.alike hK, hD⟩, hS.F ht⟩) hS.2.2 dX12_order_65
  · have ic36 : r34.toInt ≠ 0 := zi_eqf rfl rfl c36
    have p43 : (0) ≤ (u.toInt) ∧ (u.toInt) ≤ (3) := (tp_cond.yes hw35p) (by omega)
    refine lv_iload_n hx hb dX12_order_17 rfl (lv_at hl 2 rfl) ?_
    refine lv_if_eq (tgt := 48) hx hb dX12_order_18 (by decide) (fun c44 => ?_) (fun c44 => ?_)
    · have ic44 : u.toInt = 0 := zi_eq rfl rfl c44
      refine lv_iconst (v := 1) hx hb dX12_order_48 (by decide) ?_
      refine lv_goto (tgt := 53) hx hb dX12_order_49 (by decide) ?_
      refine lv_istore (lv' := [(4, .int 1), (0, .ref h0), (1, .int v), (2, .int u), (3, .int a)]) hx hb dX12_order_53 hl (by decide) rfl (fun ls hl => ?_)
      refine lv_iload hx hb dX12_order_55 (lv_at hl 0 rfl) ?_
      refine lv_if_ne (tgt := 66) hx hb dX12_order_57 (by decide) (fun _ => ?_) (fun c9 => absurd c9 (by decide))
      refine lv_aload_n hx hb dX12_order_66 rfl (lv_at hl 1 rfl) ?_
      refine lv_iload_n hx hb dX12_order_67 rfl (lv_at hl 2 rfl) ?_
      obtain ⟨q45, eq45⟩ := tp_pos (tp_in hG ht_h0 (by decide)) g32
      refine pz_calli (va_runV (As := [.int v]) (rest := []) ⟨hx, hb, hml, hown, hts⟩ (t_X12_isShip l dC dI _ κ τ ν ρ L f30 hG hT h0 v (-1) 0 ht_h0 (by omega) (by rw [hf_33, mo_i1]; exact hI)) (cwV 1 hts gX12_order_X12_isShip rfl rfl rfl ⟨rfl, pd_X12_isShip⟩ ⟨Nat.le_of_ble_eq_true rfl, Nat.le_of_ble_eq_true rfl⟩) ⟨pz_blind, va_recv hK hP (ci := 12) (q0 := q45) rfl eq45, pz_pre hP hK hD hN⟩ rfl rfl hl.1 rfl (lv_room (Nat.le_of_ble_eq_true rfl)) dX12_order_68 ⟨Nat.le_of_ble_eq_true rfl, Nat.le_of_ble_eq_true rfl⟩) (fun r46 hw47 => ?_)
      obtain ⟨hw47r, hw47p⟩ := hw47
      have := hI.k1
      rw [hf_33, mo_i1] at hw47p
      refine lv_if_eq (tgt := 86) hx hb dX12_order_71 (by decide) (fun c48 => ?_) (fun c48 => ?_)
      · have ic48 : r46.toInt = 0 := zi_eq rfl rfl c48
        refine lv_aload_n hx hb dX12_order_86 rfl (lv_at hl 1 rfl) ?_
        refine lv_bipush (v := (-2)) hx hb dX12_order_87 (by decide) ?_
        have hFc := tp_fr hD hS hA
        refine va_calli (va_runV (As := [.int (-2)]) (rest := []) ⟨hx, hb, hml, hown, hts⟩ (t_X12_told l dC dI _ κ τ ν ρ L f30 hG hT h0 ((-2)) ht_h0) (cwV 1 hts gX12_order_X12_told rfl rfl rfl ⟨rfl, pd_X12_told⟩ ⟨Nat.le_of_ble_eq_true rfl, Nat.le_of_ble_eq_true rfl⟩) ⟨pz_blind, va_recv hK hP (ci := 12) (q0 := q45) rfl eq45, pz_pre hP hK hD hN⟩ rfl rfl hl.1 rfl (lv_room (Nat.le_of_ble_eq_true rfl)) dX12_order_89 ⟨Nat.le_of_ble_eq_true rfl, Nat.le_of_ble_eq_true rfl⟩) hS (fun q _ h => hFc q h) hFc (fun r49 f51 t H1 locs ht hvm hw50 hB hz1 hk1 hS => ?_)
        obtain ⟨hT, hF52, hw50r, hw50p⟩ := hw50
        have hR := hR.then hF52 (by decide)
        have hP := hB.1; rw [ht] at hP; have hD := tp_ad f51 hD; clear hB hFc hz1 hk1; subst ht; generalize t.heap = H at hP hS ⊢
        have hw50pq : r49.toInt = (-2) := by rw [hw50p]; rfl
        have hf_53 : f51 (ρ h0 2) = .inl (κ 0, 12967, .inl g27) := (hF52 _ (by rw [y1]; decide)).trans hf_33
        exact W.iret (v := r49) hx hb hr (fun t ht hW => ⟨⟨r49, f51, rfl, ⟨hT, hR, trivial, (by rw [hf_53, mo_i1]; exact hI)⟩, by rw [ht]; exact hP, va_K.moved hW.alike hK, hD⟩, hS.F ht⟩) hS.2.2 dX12_order_92
      · have ic48 : r46.toInt ≠ 0 := zi_eqf rfl rfl c48
        have p54 : 0 ≤ v.toInt ∧ v.toInt < mo_R g27 1 := (tp_cond.yes hw47p) (by omega)
        refine lv_iload_n hx hb dX12_order_74 rfl (lv_at hl 3 rfl) ?_
        refine lv_if_ne (tgt := 93) hx hb dX12_order_75 (by decide) (fun c55 => ?_) (fun c55 => ?_)
        · have ic55 : u.toInt ≠ 0 := zi_ne rfl rfl c55
          exfalso; omega
        · have ic55 : u.toInt = 0 := zi_nef rfl rfl c55
          refine lv_aload_n hx hb dX12_order_78 rfl (lv_at hl 1 rfl) ?_
          refine lv_iload_n hx hb dX12_order_79 rfl (lv_at hl 4 rfl) ?_
          refine pz_calli (va_runV (As := [.int a]) (rest := []) ⟨hx, hb, hml, hown, hts⟩ (t_X12_isTerminal l dC dI _ κ τ ν ρ L f30 hG hT h0 a (-1) 0 ht_h0 (by omega) (by rw [hf_33, mo_i1]; exact hI)) (cwV 1 hts gX12_order_X12_isTerminal rfl rfl rfl ⟨rfl, pd_X12_isTerminal⟩ ⟨Nat.le_of_ble_eq_true rfl, Nat.le_of_ble_eq_true rfl⟩) ⟨pz_blind, va_recv hK hP (ci := 12) (q0 := q45) rfl eq45, pz_pre hP hK hD hN⟩ rfl rfl hl.1 rfl (lv_room (Nat.le_of_ble_eq_true rfl)) dX12_order_80 ⟨Nat.le_of_ble_eq_true rfl, Nat.le_of_ble_eq_true rfl⟩) (fun r56 hw57 => ?_)
          obtain ⟨hw57r, hw57p⟩ := hw57
          have := hI.k0
          rw [hf_33, mo_i1] at hw57p
          refine lv_if_ne (tgt := 93) hx hb dX12_order_83 (by decide) (fun c58 => ?_) (fun c58 => ?_)
          · have ic58 : r56.toInt ≠ 0 := zi_ne rfl rfl c58
            have p59 : 0 ≤ a.toInt ∧ a.toInt < mo_R g27 0 := (tp_cond.yes hw57p) (by omega)
            refine lv_iload_n hx hb dX12_order_93 rfl (lv_at hl 2 rfl) ?_
            refine pz_calli (va_runS (As := [.int v]) (rest := []) ⟨hx, hb, hml, hown, hts⟩ (t_X12_shipAt l dC dI _ v (v.toInt) (by omega) rfl) (va_cwS 1 hts gX12_order_X12_shipAt rfl rfl rfl pd_X12_shipAt ⟨Nat.le_of_ble_eq_true rfl, Nat.le_of_ble_eq_true rfl⟩) ⟨pz_blind, pz_pre pz_P0 (hK.sub (tys' := []) [] rfl) (pz_D0 (A := fun _ => True)) hN⟩ rfl rfl hl.1 rfl (lv_room (Nat.le_of_ble_eq_true rfl)) dX12_order_94 ⟨Nat.le_of_ble_eq_true rfl, Nat.le_of_ble_eq_true rfl⟩) (fun r60 hw61 => ?_)
            obtain ⟨hw61r, hw61p⟩ := hw61
            refine lv_istore (lv' := [(5, .int r60), (4, .int 1), (0, .ref h0), (1, .int v), (2, .int u), (3, .int a)]) hx hb dX12_order_97 hl (by decide) rfl (fun ls hl => ?_)
            refine lv_aload_n hx hb dX12_order_99 rfl (lv_at hl 2 rfl) ?_
            refine va_get (D := (dC, dI)) (ci := 12) (v := .ref (ρ h0 2)) (C := RX12) (T := TX12) (N := 53) hx hb hts hfX12 hown hK hP q45 eq45 rfl 2 (by decide) (hts (.fieldLink RX12 7 "ColdShipsModel" "row" "[I") wa_148) (fun _ h9 => h9) rfl dX12_order_100 ?_
            refine lv_iload hx hb dX12_order_103 (lv_at hl 0 rfl) ?_
            refine lv_bipush (v := 10) hx hb dX12_order_105 (by decide) ?_
            refine lv_iadd hx hb dX12_order_107 ?_
            refine lv_topi (fun z62 ez62 => ?_)
            have iz62 : z62.toInt = r60.toInt + 10 := zi_add ez62 rfl rfl (by omega) (by omega)
            obtain ⟨q63, eq63⟩ := tp_pos (tp_in hG y1 (by decide)) hf_33
            refine va_iald hx hb hK hP q63 0 eq63 rfl (vp_in_iff.mpr ⟨by omega, by omega⟩) dX12_order_108 ?_
            refine lv_topi (fun z64 ez64 => ?_)
            have jz64 : z64.toInt = mo_R g27 (547 + 84 * v.toInt + 10) := mo_rd ez64 (by omega)
            have kz64 := hI.SO (s := v.toInt) (by omega) (by omega)
            refine lv_bipush (v := 20) hx hb dX12_order_109 (by decide) ?_
            refine lv_icmp_eq (tgt := 126) hx hb dX12_order_111 (by decide) (fun c65 => ?_) (fun c65 => ?_)
            · have ic65 : z64.toInt = 20 := zi_eq rfl rfl c65
              refine lv_aload_n hx hb dX12_order_126 rfl (lv_at hl 2 rfl) ?_
              refine lv_bipush (v := (-5)) hx hb dX12_order_127 (by decide) ?_
              have hFc := tp_fr hD hS hA
              refine va_calli (va_runV (As := [.int (-5)]) (rest := []) ⟨hx, hb, hml, hown, hts⟩ (t_X12_told l dC dI _ κ τ ν ρ L f30 hG hT h0 ((-5)) ht_h0) (cwV 1 hts gX12_order_X12_told rfl rfl rfl ⟨rfl, pd_X12_told⟩ ⟨Nat.le_of_ble_eq_true rfl, Nat.le_of_ble_eq_true rfl⟩) ⟨pz_blind, va_recv hK hP (ci := 12) (q0 := q45) rfl eq45, pz_pre hP hK hD hN⟩ rfl rfl hl.1 rfl (lv_room (Nat.le_of_ble_eq_true rfl)) dX12_order_129 ⟨Nat.le_of_ble_eq_true rfl, Nat.le_of_ble_eq_true rfl⟩) hS (fun q _ h => hFc q h) hFc (fun r66 f68 t H1 locs ht hvm hw67 hB hz1 hk1 hS => ?_)
              obtain ⟨hT, hF69, hw67r, hw67p⟩ := hw67
              have hR := hR.then hF69 (by decide)
              have hP := hB.1; rw [ht] at hP; have hD := tp_ad f68 hD; clear hB hFc hz1 hk1; subst ht; generalize t.heap = H at hP hS ⊢
              have hw67pq : r66.toInt = (-5) := by rw [hw67p]; rfl
              have hf_70 : f68 (ρ h0 2) = .inl (κ 0, 12967, .inl g27) := (hF69 _ (by rw [y1]; decide)).trans hf_33
              exact W.iret (v := r66) hx hb hr (fun t ht hW => ⟨⟨r66, f68, rfl, ⟨hT, hR, trivial, (by rw [hf_70, mo_i1]; exact hI)⟩, by rw [ht]; exact hP, va_K.moved hW.alike hK, hD⟩, hS.F ht⟩) hS.2.2 dX12_order_132
            · have ic65 : z64.toInt ≠ 20 := zi_eqf rfl rfl c65
              refine lv_aload_n hx hb dX12_order_114 rfl (lv_at hl 2 rfl) ?_
              refine va_get (D := (dC, dI)) (ci := 12) (v := .ref (ρ h0 2)) (C := RX12) (T := TX12) (N := 53) hx hb hts hfX12 hown hK hP q45 eq45 rfl 2 (by decide) (hts (.fieldLink RX12 7 "ColdShipsModel" "row" "[I") wa_148) (fun _ h9 => h9) rfl dX12_order_115 ?_
              refine lv_iconst (v := 4) hx hb dX12_order_118 (by decide) ?_
              refine va_iald hx hb hK hP q63 0 eq63 rfl (vp_in_iff.mpr ⟨by decide, by decide⟩) dX12_order_119 ?_
              refine lv_topi (fun z71 ez71 => ?_)
              refine lv_sipush (v := 400) hx hb dX12_order_120 (by decide) ?_
              refine lv_icmp_ne (tgt := 133) hx hb dX12_order_123 (by decide) (fun c72 => ?_) (fun c72 => ?_)
              · have ic72 : z71.toInt ≠ 400 := zi_ne rfl rfl c72
                refine lv_iload hx hb dX12_order_133 (lv_at hl 0 rfl) ?_
                refine lv_bipush (v := 44) hx hb dX12_order_135 (by decide) ?_
                refine lv_iadd hx hb dX12_order_137 ?_
                refine lv_topi (fun z73 ez73 => ?_)
                have iz73 : z73.toInt = r60.toInt + 44 := zi_add ez73 rfl rfl (by omega) (by omega)
                refine lv_iconst (v := 2) hx hb dX12_order_138 (by decide) ?_
                refine lv_aload_n hx hb dX12_order_139 rfl (lv_at hl 2 rfl) ?_
                refine va_get (D := (dC, dI)) (ci := 12) (v := .ref (ρ h0 2)) (C := RX12) (T := TX12) (N := 53) hx hb hts hfX12 hown hK hP q45 eq45 rfl 2 (by decide) (hts (.fieldLink RX12 7 "ColdShipsModel" "row" "[I") wa_148) (fun _ h9 => h9) rfl dX12_order_140 ?_
                refine lv_iload hx hb dX12_order_143 (lv_at hl 0 rfl) ?_
                refine lv_bipush (v := 10) hx hb dX12_order_145 (by decide) ?_
                refine lv_iadd hx hb dX12_order_147 ?_
                refine lv_topi (fun z74 ez74 => ?_)
                have iz74 : z74.toInt = r60.toInt + 10 := zi_add ez74 rfl rfl (by omega) (by omega)
                refine va_iald hx hb hK hP q63 0 eq63 rfl (vp_in_iff.mpr ⟨by omega, by omega⟩) dX12_order_148 ?_
                refine lv_topi (fun z75 ez75 => ?_)
                have jz75 : z75.toInt = mo_R g27 (547 + 84 * v.toInt + 10) := mo_rd ez75 (by omega)
                have kz75 := hI.SO (s := v.toInt) (by omega) (by omega)
                refine lv_imul hx hb dX12_order_149 ?_
                refine lv_topi (fun z76 ez76 => ?_)
                have iz76 : z76.toInt = 2 * z75.toInt := zi_mul ez76 rfl rfl (by omega) (by omega)
                refine lv_iadd hx hb dX12_order_150 ?_
                refine lv_topi (fun z77 ez77 => ?_)
                have iz77 : z77.toInt = z73.toInt + z76.toInt := zi_add ez77 rfl rfl (by omega) (by omega)
                refine lv_istore (lv' := [(6, .int z77), (5, .int r60), (4, .int 1), (0, .ref h0), (1, .int v), (2, .int u), (3, .int a)]) hx hb dX12_order_151 hl (by decide) rfl (fun ls hl => ?_)
                refine lv_aload_n hx hb dX12_order_153 rfl (lv_at hl 3 rfl) ?_
                refine va_get (D := (dC, dI)) (ci := 12) (v := .ref (ρ h0 2)) (C := RX12) (T := TX12) (N := 53) hx hb hts hfX12 hown hK hP q45 eq45 rfl 2 (by decide) (hts (.fieldLink RX12 7 "ColdShipsModel" "row" "[I") wa_148) (fun _ h9 => h9) rfl dX12_order_154 ?_
                refine lv_iload hx hb dX12_order_157 (lv_at hl 0 rfl) ?_
                refine lv_iload_n hx hb dX12_order_159 rfl (lv_at hl 5 rfl) ?_
                refine va_iast hx hb hK hP hD hS q63 0 eq63 rfl (vp_in_iff.mpr ⟨by omega, by omega⟩) dX12_order_160 (tp_k (.inl (κ 0, 12967, .inl (upd g27 z77.toNatClampNeg u))) hD (tp_in hG y1 (by decide)) eq63 (fun f78 H locs hP hD hS g80 k79 => ?_))
                have hT := hT.up y1 g80 k79 tp_o32
                have hR := hR.up y1 (by decide) k79
                have hU : mo_U (mo_R g27) (mo_R (upd g27 z77.toNatClampNeg u)) (547 + 84 * v.toInt + 44 + 2 * z64.toInt) (u.toInt) := mo_up (by omega) (rfl : u.toInt = _) (by omega)
                generalize (upd g27 z77.toNatClampNeg u) = g81 at g80 hU
                have hI := mo_w_ord hI hU v.toInt (0 + 2 * z64.toInt) (by omega) (by omega) (by omega)
                have pn82 : mo_R g81 (1) = n1 := (hU.ne (by omega) (by omega)).trans en1.symm
                have pn83 : mo_R g81 (547 + 84 * v.toInt + 10) = z64.toInt := (hU.ne (by omega) (by omega)).trans (jz64).symm
                have pn84 : mo_R g81 (547 + 84 * v.toInt + 44 + 2 * z64.toInt) = u.toInt := hU.eq (by omega)
                refine lv_aload_n hx hb dX12_order_161 rfl (lv_at hl 3 rfl) ?_
                have hf_85 : f78 h0 = .inr (12, [.int 0, .int o28_x1, .ref (ρ h0 2), .ref (ρ h0 3), .ref (ρ h0 4), .ref (ρ h0 5), .ref (ρ h0 6), .int o28_x7, .ref (ρ h0 8), .int o28_x9, .int o28_x10, .int o28_x11, .int o28_x12, .long o28_x13, .int o28_x14, .int o28_x15, .int o28_x16, .int o28_x17, .int o28_x18, .int o28_x19, .int o28_x20, .ref (ρ h0 21), .int o28_x22, .ref (ρ h0 23), .ref (ρ h0 24), .int o28_x25, .ref (ρ h0 26), .ref (ρ h0 27), .int o28_x28, .int o28_x29, .ref (ρ h0 30), .ref (ρ h0 31), .int o28_x32, .long o28_x33, .long o28_x34, .long o28_x35, .int o28_x36, .int o28_x37, .int o28_x38, .ref (ρ h0 39), .ref (ρ h0 40), .ref (ρ h0 41), .ref (ρ h0 42), .ref (ρ h0 43), .ref (ρ h0 44), .ref (ρ h0 45), .ref (ρ h0 46), .int o28_x47, .int o28_x48, .ref (ρ h0 49), .ref (ρ h0 50), .ref (ρ h0 51), .ref (ρ h0 52)]) := (k79 _ (tp_ne ht_h0 y1 (by decide))).trans g32
                obtain ⟨q86, eq86⟩ := tp_pos (tp_in hG ht_h0 (by decide)) hf_85
                refine va_get (D := (dC, dI)) (ci := 12) (v := .ref (ρ h0 2)) (C := RX12) (T := TX12) (N := 53) hx hb hts hfX12 hown hK hP q86 eq86 rfl 2 (by decide) (hts (.fieldLink RX12 7 "ColdShipsModel" "row" "[I") wa_148) (fun _ h9 => h9) rfl dX12_order_162 ?_
                refine lv_iload hx hb dX12_order_165 (lv_at hl 0 rfl) ?_
                refine lv_iconst (v := 1) hx hb dX12_order_167 (by decide) ?_
                refine lv_iadd hx hb dX12_order_168 ?_
                refine lv_topi (fun z87 ez87 => ?_)
                have iz87 : z87.toInt = z77.toInt + 1 := zi_add ez87 rfl rfl (by omega) (by omega)
                refine lv_iload_n hx hb dX12_order_169 rfl (lv_at hl 6 rfl) ?_
                obtain ⟨q88, eq88⟩ := tp_pos (tp_in hG y1 (by decide)) g80
                refine va_iast hx hb hK hP hD hS q88 0 eq88 rfl (vp_in_iff.mpr ⟨by omega, by omega⟩) dX12_order_170 (tp_k (.inl (κ 0, 12967, .inl (upd g81 z87.toNatClampNeg a))) hD (tp_in hG y1 (by decide)) eq88 (fun f89 H locs hP hD hS g91 k90 => ?_))
                have hT := hT.up y1 g91 k90 tp_o32
                have hR := hR.up y1 (by decide) k90
                have hU : mo_U (mo_R g81) (mo_R (upd g81 z87.toNatClampNeg a)) (547 + 84 * v.toInt + 45 + 2 * z64.toInt) (a.toInt) := mo_up (by omega) (rfl : a.toInt = _) (by omega)
                generalize (upd g81 z87.toNatClampNeg a) = g92 at g91 hU
                have hI := mo_w_ord hI hU v.toInt (1 + 2 * z64.toInt) (by omega) (by omega) (by omega)
                have pn93 : mo_R g92 (1) = n1 := (hU.ne (by omega) (by omega)).trans pn82
                have pn94 : mo_R g92 (547 + 84 * v.toInt + 10) = z64.toInt := (hU.ne (by omega) (by omega)).trans pn83
                have pn95 : mo_R g92 (547 + 84 * v.toInt + 44 + 2 * z64.toInt) = u.toInt := (hU.ne (by omega) (by omega)).trans pn84
                have pn96 : mo_R g92 (547 + 84 * v.toInt + 45 + 2 * z64.toInt) = a.toInt := hU.eq (by omega)
                refine lv_aload_n hx hb dX12_order_171 rfl (lv_at hl 3 rfl) ?_
                have hf_97 : f89 h0 = .inr (12, [.int 0, .int o28_x1, .ref (ρ h0 2), .ref (ρ h0 3), .ref (ρ h0 4), .ref (ρ h0 5), .ref (ρ h0 6), .int o28_x7, .ref (ρ h0 8), .int o28_x9, .int o28_x10, .int o28_x11, .int o28_x12, .long o28_x13, .int o28_x14, .int o28_x15, .int o28_x16, .int o28_x17, .int o28_x18, .int o28_x19, .int o28_x20, .ref (ρ h0 21), .int o28_x22, .ref (ρ h0 23), .ref (ρ h0 24), .int o28_x25, .ref (ρ h0 26), .ref (ρ h0 27), .int o28_x28, .int o28_x29, .ref (ρ h0 30), .ref (ρ h0 31), .int o28_x32, .long o28_x33, .long o28_x34, .long o28_x35, .int o28_x36, .int o28_x37, .int o28_x38, .ref (ρ h0 39), .ref (ρ h0 40), .ref (ρ h0 41), .ref (ρ h0 42), .ref (ρ h0 43), .ref (ρ h0 44), .ref (ρ h0 45), .ref (ρ h0 46), .int o28_x47, .int o28_x48, .ref (ρ h0 49), .ref (ρ h0 50), .ref (ρ h0 51), .ref (ρ h0 52)]) := (k90 _ (tp_ne ht_h0 y1 (by decide))).trans hf_85
                obtain ⟨q98, eq98⟩ := tp_pos (tp_in hG ht_h0 (by decide)) hf_97
                refine va_get (D := (dC, dI)) (ci := 12) (v := .ref (ρ h0 2)) (C := RX12) (T := TX12) (N := 53) hx hb hts hfX12 hown hK hP q98 eq98 rfl 2 (by decide) (hts (.fieldLink RX12 7 "ColdShipsModel" "row" "[I") wa_148) (fun _ h9 => h9) rfl dX12_order_172 ?_
                refine lv_iload hx hb dX12_order_175 (lv_at hl 1 rfl) ?_
                refine lv_bipush (v := 10) hx hb dX12_order_177 (by decide) ?_
                refine lv_iadd hx hb dX12_order_179 ?_
                refine lv_topi (fun z99 ez99 => ?_)
                have iz99 : z99.toInt = r60.toInt + 10 := zi_add ez99 rfl rfl (by omega) (by omega)
                refine lv_dup2_11 hx hb dX12_order_180 rfl rfl ?_
                obtain ⟨q100, eq100⟩ := tp_pos (tp_in hG y1 (by decide)) g91
                refine va_iald hx hb hK hP q100 0 eq100 rfl (vp_in_iff.mpr ⟨by omega, by omega⟩) dX12_order_181 ?_
                refine lv_topi (fun z101 ez101 => ?_)
                have jz101 : z101.toInt = mo_R g92 (547 + 84 * v.toInt + 10) := mo_rd ez101 (by omega)
                have kz101 := hI.SO (s := v.toInt) (by omega) (by omega)
                refine lv_iconst (v := 1) hx hb dX12_order_182 (by decide) ?_
                refine lv_iadd hx hb dX12_order_183 ?_
                refine lv_topi (fun z102 ez102 => ?_)
                have iz102 : z102.toInt = z101.toInt + 1 := zi_add ez102 rfl rfl (by omega) (by omega)
                refine va_iast hx hb hK hP hD hS q100 0 eq100 rfl (vp_in_iff.mpr ⟨by omega, by omega⟩) dX12_order_184 (tp_k (.inl (κ 0, 12967, .inl (upd g92 z99.toNatClampNeg z102))) hD (tp_in hG y1 (by decide)) eq100 (fun f103 H locs hP hD hS g105 k104 => ?_))
                have hT := hT.up y1 g105 k104 tp_o32
                have hR := hR.up y1 (by decide) k104
                have hU : mo_U (mo_R g92) (mo_R (upd g92 z99.toNatClampNeg z102)) (547 + 84 * v.toInt + 10) (z102.toInt) := mo_up (by omega) (rfl : z102.toInt = _) (by omega)
                generalize (upd g92 z99.toNatClampNeg z102) = g106 at g105 hU
                have hI := mo_w_ORDS hI hU v.toInt (z64.toInt) (by omega) (by omega) pn94 (by omega) (by omega)
                have pn107 : mo_R g106 (1) = n1 := (hU.ne (by omega) (by omega)).trans pn93
                have pn108 : mo_R g106 (547 + 84 * v.toInt + 44 + 2 * z64.toInt) = u.toInt := (hU.ne (by omega) (by omega)).trans pn95
                have pn109 : mo_R g106 (547 + 84 * v.toInt + 45 + 2 * z64.toInt) = a.toInt := (hU.ne (by omega) (by omega)).trans pn96
                have pn110 : mo_R g106 (547 + 84 * v.toInt + 10) = z102.toInt := hU.eq (by omega)
                refine lv_aload_n hx hb dX12_order_185 rfl (lv_at hl 3 rfl) ?_
                have hf_111 : f103 h0 = .inr (12, [.int 0, .int o28_x1, .ref (ρ h0 2), .ref (ρ h0 3), .ref (ρ h0 4), .ref (ρ h0 5), .ref (ρ h0 6), .int o28_x7, .ref (ρ h0 8), .int o28_x9, .int o28_x10, .int o28_x11, .int o28_x12, .long o28_x13, .int o28_x14, .int o28_x15, .int o28_x16, .int o28_x17, .int o28_x18, .int o28_x19, .int o28_x20, .ref (ρ h0 21), .int o28_x22, .ref (ρ h0 23), .ref (ρ h0 24), .int o28_x25, .ref (ρ h0 26), .ref (ρ h0 27), .int o28_x28, .int o28_x29, .ref (ρ h0 30), .ref (ρ h0 31), .int o28_x32, .long o28_x33, .long o28_x34, .long o28_x35, .int o28_x36, .int o28_x37, .int o28_x38, .ref (ρ h0 39), .ref (ρ h0 40), .ref (ρ h0 41), .ref (ρ h0 42), .ref (ρ h0 43), .ref (ρ h0 44), .ref (ρ h0 45), .ref (ρ h0 46), .int o28_x47, .int o28_x48, .ref (ρ h0 49), .ref (ρ h0 50), .ref (ρ h0 51), .ref (ρ h0 52)]) := (k104 _ (tp_ne ht_h0 y1 (by decide))).trans hf_97
                obtain ⟨q112, eq112⟩ := tp_pos (tp_in hG ht_h0 (by decide)) hf_111
                refine va_get (D := (dC, dI)) (ci := 12) (v := .ref (ρ h0 2)) (C := RX12) (T := TX12) (N := 53) hx hb hts hfX12 hown hK hP q112 eq112 rfl 2 (by decide) (hts (.fieldLink RX12 7 "ColdShipsModel" "row" "[I") wa_148) (fun _ h9 => h9) rfl dX12_order_186 ?_
                refine lv_iconst (v := 4) hx hb dX12_order_189 (by decide) ?_
                refine lv_dup2_11 hx hb dX12_order_190 rfl rfl ?_
                obtain ⟨q113, eq113⟩ := tp_pos (tp_in hG y1 (by decide)) g105
                refine va_iald hx hb hK hP q113 0 eq113 rfl (vp_in_iff.mpr ⟨by decide, by decide⟩) dX12_order_191 ?_
                refine lv_topi (fun z114 ez114 => ?_)
                refine lv_iconst (v := 1) hx hb dX12_order_192 (by decide) ?_
                refine lv_iadd hx hb dX12_order_193 ?_
                refine lv_topi (fun z115 ez115 => ?_)
                refine va_iast hx hb hK hP hD hS q113 0 eq113 rfl (vp_in_iff.mpr ⟨by decide, by decide⟩) dX12_order_194 (tp_k (.inl (κ 0, 12967, .inl (upd g106 (4 : Int32).toNatClampNeg z115))) hD (tp_in hG y1 (by decide)) eq113 (fun f116 H locs hP hD hS g118 k117 => ?_))
                have hT := hT.up y1 g118 k117 tp_o32
                have hR := hR.up y1 (by decide) k117
                have hU : mo_U (mo_R g106) (mo_R (upd g106 (4 : Int32).toNatClampNeg z115)) (4) (z115.toInt) := mo_up (show (4 : Int32).toInt = (4) from by decide) (rfl : z115.toInt = _) (by omega)
                generalize (upd g106 (4 : Int32).toNatClampNeg z115) = g119 at g118 hU
                have hI := mo_w_flat hI hU (by omega)
                have pn120 : mo_R g119 (1) = n1 := (hU.ne (by omega) (by omega)).trans pn107
                have pn121 : mo_R g119 (547 + 84 * v.toInt + 44 + 2 * z64.toInt) = u.toInt := (hU.ne (by omega) (by omega)).trans pn108
                have pn122 : mo_R g119 (547 + 84 * v.toInt + 45 + 2 * z64.toInt) = a.toInt := (hU.ne (by omega) (by omega)).trans pn109
                have pn123 : mo_R g119 (547 + 84 * v.toInt + 10) = z102.toInt := (hU.ne (by omega) (by omega)).trans pn110
                refine lv_aload_n hx hb dX12_order_195 rfl (lv_at hl 3 rfl) ?_
                have hf_124 : f116 h0 = .inr (12, [.int 0, .int o28_x1, .ref (ρ h0 2), .ref (ρ h0 3), .ref (ρ h0 4), .ref (ρ h0 5), .ref (ρ h0 6), .int o28_x7, .ref (ρ h0 8), .int o28_x9, .int o28_x10, .int o28_x11, .int o28_x12, .long o28_x13, .int o28_x14, .int o28_x15, .int o28_x16, .int o28_x17, .int o28_x18, .int o28_x19, .int o28_x20, .ref (ρ h0 21), .int o28_x22, .ref (ρ h0 23), .ref (ρ h0 24), .int o28_x25, .ref (ρ h0 26), .ref (ρ h0 27), .int o28_x28, .int o28_x29, .ref (ρ h0 30), .ref (ρ h0 31), .int o28_x32, .long o28_x33, .long o28_x34, .long o28_x35, .int o28_x36, .int o28_x37, .int o28_x38, .ref (ρ h0 39), .ref (ρ h0 40), .ref (ρ h0 41), .ref (ρ h0 42), .ref (ρ h0 43), .ref (ρ h0 44), .ref (ρ h0 45), .ref (ρ h0 46), .int o28_x47, .int o28_x48, .ref (ρ h0 49), .ref (ρ h0 50), .ref (ρ h0 51), .ref (ρ h0 52)]) := (k117 _ (tp_ne ht_h0 y1 (by decide))).trans hf_111
                obtain ⟨q125, eq125⟩ := tp_pos (tp_in hG ht_h0 (by decide)) hf_124
                refine va_get (D := (dC, dI)) (ci := 12) (v := .ref (ρ h0 2)) (C := RX12) (T := TX12) (N := 53) hx hb hts hfX12 hown hK hP q125 eq125 rfl 2 (by decide) (hts (.fieldLink RX12 7 "ColdShipsModel" "row" "[I") wa_148) (fun _ h9 => h9) rfl dX12_order_196 ?_
                refine lv_iload hx hb dX12_order_199 (lv_at hl 1 rfl) ?_
                refine lv_bipush (v := 10) hx hb dX12_order_201 (by decide) ?_
                refine lv_iadd hx hb dX12_order_203 ?_
                refine lv_topi (fun z126 ez126 => ?_)
                have iz126 : z126.toInt = r60.toInt + 10 := zi_add ez126 rfl rfl (by omega) (by omega)
                obtain ⟨q127, eq127⟩ := tp_pos (tp_in hG y1 (by decide)) g118
                refine va_iald hx hb hK hP q127 0 eq127 rfl (vp_in_iff.mpr ⟨by omega, by omega⟩) dX12_order_204 ?_
                refine lv_topi (fun z128 ez128 => ?_)
                have jz128 : z128.toInt = mo_R g119 (547 + 84 * v.toInt + 10) := mo_rd ez128 (by omega)
                have kz128 := hI.SO (s := v.toInt) (by omega) (by omega)
                refine lv_iconst (v := 1) hx hb dX12_order_205 (by decide) ?_
                refine lv_icmp_ne (tgt := 215) hx hb dX12_order_206 (by decide) (fun c129 => ?_) (fun c129 => ?_)
                · have ic129 : z128.toInt ≠ 1 := zi_ne rfl rfl c129
                  refine lv_aload_n hx hb dX12_order_215 rfl (lv_at hl 3 rfl) ?_
                  refine lv_aload_n hx hb dX12_order_216 rfl (lv_at hl 3 rfl) ?_
                  refine va_get (D := (dC, dI)) (ci := 12) (v := .ref (ρ h0 2)) (C := RX12) (T := TX12) (N := 53) hx hb hts hfX12 hown hK hP q125 eq125 rfl 2 (by decide) (hts (.fieldLink RX12 7 "ColdShipsModel" "row" "[I") wa_148) (fun _ h9 => h9) rfl dX12_order_217 ?_
                  refine lv_iload hx hb dX12_order_220 (lv_at hl 1 rfl) ?_
                  refine lv_bipush (v := 10) hx hb dX12_order_222 (by decide) ?_
                  refine lv_iadd hx hb dX12_order_224 ?_
                  refine lv_topi (fun z130 ez130 => ?_)
                  have iz130 : z130.toInt = r60.toInt + 10 := zi_add ez130 rfl rfl (by omega) (by omega)
                  refine va_iald hx hb hK hP q127 0 eq127 rfl (vp_in_iff.mpr ⟨by omega, by omega⟩) dX12_order_225 ?_
                  refine lv_topi (fun z131 ez131 => ?_)
                  have jz131 : z131.toInt = mo_R g119 (547 + 84 * v.toInt + 10) := mo_rd ez131 (by omega)
                  have kz131 := hI.SO (s := v.toInt) (by omega) (by omega)
                  have hFc := tp_fr hD hS hA
                  refine va_calli (va_runV (As := [.int z131]) (rest := []) ⟨hx, hb, hml, hown, hts⟩ (t_X12_told l dC dI _ κ τ ν ρ L f116 hG hT h0 z131 ht_h0) (cwV 1 hts gX12_order_X12_told rfl rfl rfl ⟨rfl, pd_X12_told⟩ ⟨Nat.le_of_ble_eq_true rfl, Nat.le_of_ble_eq_true rfl⟩) ⟨pz_blind, va_recv hK hP (ci := 12) (q0 := q125) rfl eq125, pz_pre hP hK hD hN⟩ rfl rfl hl.1 rfl (lv_room (Nat.le_of_ble_eq_true rfl)) dX12_order_226 ⟨Nat.le_of_ble_eq_true rfl, Nat.le_of_ble_eq_true rfl⟩) hS (fun q _ h => hFc q h) hFc (fun r132 f134 t H1 locs ht hvm hw133 hB hz1 hk1 hS => ?_)
                  obtain ⟨hT, hF135, hw133r, hw133p⟩ := hw133
                  have hR := hR.then hF135 (by decide)
                  have hP := hB.1; rw [ht] at hP; have hD := tp_ad f134 hD; clear hB hFc hz1 hk1; subst ht; generalize t.heap = H at hP hS ⊢
                  have hw133pq : r132.toInt = z131.toInt := by rw [hw133p]
                  have hf_136 : f134 (ρ h0 2) = .inl (κ 0, 12967, .inl g119) := (hF135 _ (by rw [y1]; decide)).trans g118
                  exact W.iret (v := r132) hx hb hr (fun t ht hW => ⟨⟨r132, f134, rfl, ⟨hT, hR, trivial, (by rw [hf_136, mo_i1]; exact hI)⟩, by rw [ht]; exact hP, va_K.moved hW.alike hK, hD⟩, hS.F ht⟩) hS.2.2 dX12_order_229
                · have ic129 : z128.toInt = 1 := zi_nef rfl rfl c129
                  refine lv_aload_n hx hb dX12_order_209 rfl (lv_at hl 3 rfl) ?_
                  refine lv_iload hx hb dX12_order_210 (lv_at hl 1 rfl) ?_
                  have hFc := tp_fr hD hS hA
                  refine va_callv (va_runV (As := [.int r60]) (rest := []) ⟨hx, hb, hml, hown, hts⟩ (t_X12_beginOrder l dC dI _ κ τ ν ρ L f116 hG hT h0 r60 (-1) 0 v.toInt ht_h0 (by omega) (by omega) (by omega) (by rw [g118, mo_i1]; exact hI) (by first | (simp only [g118, hf_o26, mo_i1]; omega) | simp only [g118, hf_o26, mo_i1] | omega)) (cwV 1 hts gX12_order_X12_beginOrder rfl rfl rfl ⟨rfl, pd_X12_beginOrder⟩ ⟨Nat.le_of_ble_eq_true rfl, Nat.le_of_ble_eq_true rfl⟩) ⟨pz_blind, va_recv hK hP (ci := 12) (q0 := q125) rfl eq125, pz_pre hP hK hD hN⟩ rfl rfl hl.1 rfl (lv_room (Nat.le_of_ble_eq_true rfl)) dX12_order_212 ⟨Nat.le_of_ble_eq_true rfl, Nat.le_of_ble_eq_true rfl⟩) hS (fun q _ h => hFc q h) hFc (fun f139 t H1 locs ht hvm hw138 hB hz1 hk1 hS => ?_)
                  obtain ⟨hT, hF140, hw138p⟩ := hw138
                  have hR := hR.then hF140 (by decide)
                  have hP := hB.1; rw [ht] at hP; have hD := tp_ad f139 hD; clear hB hFc hz1 hk1; subst ht; generalize t.heap = H at hP hS ⊢
                  obtain ⟨hJ, hw138pe⟩ := hw138p
                  obtain ⟨g142, hf_o141⟩ := tpo_32 hT y1
                  have hI : mo_RI (-1) 0 (mo_R g142) := by have q9 := hJ; rw [hf_o141, mo_i1] at q9; exact q9
                  rw [g118, mo_i1] at hw138pe
                  rw [hf_o141, mo_i1] at hw138pe
                  have pn143 : mo_R g142 (1) = n1 := (hw138pe.1).trans pn120
                  have pn144 : mo_R g142 (547 + 84 * v.toInt + 10) = z102.toInt := (hw138pe.2.2).trans pn123
                  refine lv_aload_n hx hb dX12_order_215 rfl (lv_at hl 3 rfl) ?_
                  refine lv_aload_n hx hb dX12_order_216 rfl (lv_at hl 3 rfl) ?_
                  have hf_145 : f139 h0 = .inr (12, [.int 0, .int o28_x1, .ref (ρ h0 2), .ref (ρ h0 3), .ref (ρ h0 4), .ref (ρ h0 5), .ref (ρ h0 6), .int o28_x7, .ref (ρ h0 8), .int o28_x9, .int o28_x10, .int o28_x11, .int o28_x12, .long o28_x13, .int o28_x14, .int o28_x15, .int o28_x16, .int o28_x17, .int o28_x18, .int o28_x19, .int o28_x20, .ref (ρ h0 21), .int o28_x22, .ref (ρ h0 23), .ref (ρ h0 24), .int o28_x25, .ref (ρ h0 26), .ref (ρ h0 27), .int o28_x28, .int o28_x29, .ref (ρ h0 30), .ref (ρ h0 31), .int o28_x32, .long o28_x33, .long o28_x34, .long o28_x35, .int o28_x36, .int o28_x37, .int o28_x38, .ref (ρ h0 39), .ref (ρ h0 40), .ref (ρ h0 41), .ref (ρ h0 42), .ref (ρ h0 43), .ref (ρ h0 44), .ref (ρ h0 45), .ref (ρ h0 46), .int o28_x47, .int o28_x48, .ref (ρ h0 49), .ref (ρ h0 50), .ref (ρ h0 51), .ref (ρ h0 52)]) := (hF140 _ (by rw [ht_h0]; decide)).trans hf_124
                  obtain ⟨q146, eq146⟩ := tp_pos (tp_in hG ht_h0 (by decide)) hf_145
                  refine va_get (D := (dC, dI)) (ci := 12) (v := .ref (ρ h0 2)) (C := RX12) (T := TX12) (N := 53) hx hb hts hfX12 hown hK hP q146 eq146 rfl 2 (by decide) (hts (.fieldLink RX12 7 "ColdShipsModel" "row" "[I") wa_148) (fun _ h9 => h9) rfl dX12_order_217 ?_
                  refine lv_iload hx hb dX12_order_220 (lv_at hl 1 rfl) ?_
                  refine lv_bipush (v := 10) hx hb dX12_order_222 (by decide) ?_
                  refine lv_iadd hx hb dX12_order_224 ?_
                  refine lv_topi (fun z147 ez147 => ?_)
                  have iz147 : z147.toInt = r60.toInt + 10 := zi_add ez147 rfl rfl (by omega) (by omega)
                  obtain ⟨q148, eq148⟩ := tp_pos (tp_in hG y1 (by decide)) hf_o141
                  refine va_iald hx hb hK hP q148 0 eq148 rfl (vp_in_iff.mpr ⟨by omega, by omega⟩) dX12_order_225 ?_
                  refine lv_topi (fun z149 ez149 => ?_)
                  have jz149 : z149.toInt = mo_R g142 (547 + 84 * v.toInt + 10) := mo_rd ez149 (by omega)
                  have kz149 := hI.SO (s := v.toInt) (by omega) (by omega)
                  have hFc := tp_fr hD hS hA
                  refine va_calli (va_runV (As := [.int z149]) (rest := []) ⟨hx, hb, hml, hown, hts⟩ (t_X12_told l dC dI _ κ τ ν ρ L f139 hG hT h0 z149 ht_h0) (cwV 1 hts gX12_order_X12_told rfl rfl rfl ⟨rfl, pd_X12_told⟩ ⟨Nat.le_of_ble_eq_true rfl, Nat.le_of_ble_eq_true rfl⟩) ⟨pz_blind, va_recv hK hP (ci := 12) (q0 := q146) rfl eq146, pz_pre hP hK hD hN⟩ rfl rfl hl.1 rfl (lv_room (Nat.le_of_ble_eq_true rfl)) dX12_order_226 ⟨Nat.le_of_ble_eq_true rfl, Nat.le_of_ble_eq_true rfl⟩) hS (fun q _ h => hFc q h) hFc (fun r150 f152 t H1 locs ht hvm hw151 hB hz1 hk1 hS => ?_)
                  obtain ⟨hT, hF153, hw151r, hw151p⟩ := hw151
                  have hR := hR.then hF153 (by decide)
                  have hP := hB.1; rw [ht] at hP; have hD := tp_ad f152 hD; clear hB hFc hz1 hk1; subst ht; generalize t.heap = H at hP hS ⊢
                  have hw151pq : r150.toInt = z149.toInt := by rw [hw151p]
                  have hf_154 : f152 (ρ h0 2) = .inl (κ 0, 12967, .inl g142) := (hF153 _ (by rw [y1]; decide)).trans hf_o141
                  exact W.iret (v := r150) hx hb hr (fun t ht hW => ⟨⟨r150, f152, rfl, ⟨hT, hR, trivial, (by rw [hf_154, mo_i1]; exact hI)⟩, by rw [ht]; exact hP, va_K.moved hW.alike hK, hD⟩, hS.F ht⟩) hS.2.2 dX12_order_229
              · have ic72 : z71.toInt = 400 := zi_nef rfl rfl c72
                refine lv_aload_n hx hb dX12_order_126 rfl (lv_at hl 2 rfl) ?_
                refine lv_bipush (v := (-5)) hx hb dX12_order_127 (by decide) ?_
                have hFc := tp_fr hD hS hA
                refine va_calli (va_runV (As := [.int (-5)]) (rest := []) ⟨hx, hb, hml, hown, hts⟩ (t_X12_told l dC dI _ κ τ ν ρ L f30 hG hT h0 ((-5)) ht_h0) (cwV 1 hts gX12_order_X12_told rfl rfl rfl ⟨rfl, pd_X12_told⟩ ⟨Nat.le_of_ble_eq_true rfl, Nat.le_of_ble_eq_true rfl⟩) ⟨pz_blind, va_recv hK hP (ci := 12) (q0 := q45) rfl eq45, pz_pre hP hK hD hN⟩ rfl rfl hl.1 rfl (lv_room (Nat.le_of_ble_eq_true rfl)) dX12_order_129 ⟨Nat.le_of_ble_eq_true rfl, Nat.le_of_ble_eq_true rfl⟩) hS (fun q _ h => hFc q h) hFc (fun r155 f157 t H1 locs ht hvm hw156 hB hz1 hk1 hS => ?_)
                obtain ⟨hT, hF158, hw156r, hw156p⟩ := hw156
                have hR := hR.then hF158 (by decide)
                have hP := hB.1; rw [ht] at hP; have hD := tp_ad f157 hD; clear hB hFc hz1 hk1; subst ht; generalize t.heap = H at hP hS ⊢
                have hw156pq : r155.toInt = (-5) := by rw [hw156p]; rfl
                have hf_159 : f157 (ρ h0 2) = .inl (κ 0, 12967, .inl g27) := (hF158 _ (by rw [y1]; decide)).trans hf_33
                exact W.iret (v := r155) hx hb hr (fun t ht hW => ⟨⟨r155, f157, rfl, ⟨hT, hR, trivial, (by rw [hf_159, mo_i1]; exact hI)⟩, by rw [ht]; exact hP, va_K.moved hW.alike hK, hD⟩, hS.F ht⟩) hS.2.2 dX12_order_132
          · have ic58 : r56.toInt = 0 := zi_nef rfl rfl c58
            refine lv_aload_n hx hb dX12_order_86 rfl (lv_at hl 1 rfl) ?_
            refine lv_bipush (v := (-2)) hx hb dX12_order_87 (by decide) ?_
            have hFc := tp_fr hD hS hA
            refine va_calli (va_runV (As := [.int (-2)]) (rest := []) ⟨hx, hb, hml, hown, hts⟩ (t_X12_told l dC dI _ κ τ ν ρ L f30 hG hT h0 ((-2)) ht_h0) (cwV 1 hts gX12_order_X12_told rfl rfl rfl ⟨rfl, pd_X12_told⟩ ⟨Nat.le_of_ble_eq_true rfl, Nat.le_of_ble_eq_true rfl⟩) ⟨pz_blind, va_recv hK hP (ci := 12) (q0 := q45) rfl eq45, pz_pre hP hK hD hN⟩ rfl rfl hl.1 rfl (lv_room (Nat.le_of_ble_eq_true rfl)) dX12_order_89 ⟨Nat.le_of_ble_eq_true rfl, Nat.le_of_ble_eq_true rfl⟩) hS (fun q _ h => hFc q h) hFc (fun r160 f162 t H1 locs ht hvm hw161 hB hz1 hk1 hS => ?_)
            obtain ⟨hT, hF163, hw161r, hw161p⟩ := hw161
            have hR := hR.then hF163 (by decide)
            have hP := hB.1; rw [ht] at hP; have hD := tp_ad f162 hD; clear hB hFc hz1 hk1; subst ht; generalize t.heap = H at hP hS ⊢
            have hw161pq : r160.toInt = (-2) := by rw [hw161p]; rfl
            have hf_164 : f162 (ρ h0 2) = .inl (κ 0, 12967, .inl g27) := (hF163 _ (by rw [y1]; decide)).trans hf_33
            exact W.iret (v := r160) hx hb hr (fun t ht hW => ⟨⟨r160, f162, rfl, ⟨hT, hR, trivial, (by rw [hf_164, mo_i1]; exact hI)⟩, by rw [ht]; exact hP, va_K.moved hW.alike hK, hD⟩, hS.F ht⟩) hS.2.2 dX12_order_92
    · have ic44 : u.toInt ≠ 0 := zi_eqf rfl rfl c44
      refine lv_iload_n hx hb dX12_order_21 rfl (lv_at hl 2 rfl) ?_
      refine lv_iconst (v := 3) hx hb dX12_order_22 (by decide) ?_
      refine lv_icmp_ne (tgt := 36) hx hb dX12_order_23 (by decide) (fun c165 => ?_) (fun c165 => ?_)
      · have ic165 : u.toInt ≠ 3 := zi_ne rfl rfl c165
        refine lv_iload_n hx hb dX12_order_36 rfl (lv_at hl 3 rfl) ?_
        refine lv_i2l hx hb dX12_order_37 rfl ?_
        refine lv_lconst (v := 1) hx hb dX12_order_38 (by decide) ?_
        refine lv_ldc2 (own := RX12) (v := 200000) hx hb hown (hts (.constantLong RX12 124 (200000)) wa_272) dX12_order_39 ?_
        refine pz_calli (va_runS (As := [.long a.toInt64, .long 1, .long 200000]) (rest := []) ⟨hx, hb, hml, hown, hts⟩ (t_X12_in l dC dI _ a.toInt64 (1) (200000) (a.toInt) (1) (200000) (Int32.toInt_toInt64 a) rfl rfl) (va_cwS 3 hts gX12_order_X12_in rfl rfl rfl pd_X12_in ⟨Nat.le_of_ble_eq_true rfl, Nat.le_of_ble_eq_true rfl⟩) ⟨pz_blind, pz_pre pz_P0 (hK.sub (tys' := []) [] rfl) (pz_D0 (A := fun _ => True)) hN⟩ rfl rfl hl.1 rfl (lv_room (Nat.le_of_ble_eq_true rfl)) dX12_order_42 ⟨Nat.le_of_ble_eq_true rfl, Nat.le_of_ble_eq_true rfl⟩) (fun r166 hw167 => ?_)
        obtain ⟨hw167r, hw167p⟩ := hw167
        refine lv_if_eq (tgt := 52) hx hb dX12_order_45 (by decide) (fun c168 => ?_) (fun c168 => ?_)
        · have ic168 : r166.toInt = 0 := zi_eq rfl rfl c168
          refine lv_iconst (v := 0) hx hb dX12_order_52 (by decide) ?_
          refine lv_istore (lv' := [(4, .int 0), (0, .ref h0), (1, .int v), (2, .int u), (3, .int a)]) hx hb dX12_order_53 hl (by decide) rfl (fun ls hl => ?_)
          refine lv_iload hx hb dX12_order_55 (lv_at hl 0 rfl) ?_
          refine lv_if_ne (tgt := 66) hx hb dX12_order_57 (by decide) (fun c9 => absurd c9 (by decide)) (fun _ => ?_)
          refine lv_aload_n hx hb dX12_order_60 rfl (lv_at hl 1 rfl) ?_
          refine lv_iconst (v := (-1)) hx hb dX12_order_61 (by decide) ?_
          obtain ⟨q169, eq169⟩ := tp_pos (tp_in hG ht_h0 (by decide)) g32
          have hFc := tp_fr hD hS hA
          refine va_calli (va_runV (As := [.int (-1)]) (rest := []) ⟨hx, hb, hml, hown, hts⟩ (t_X12_told l dC dI _ κ τ ν ρ L f30 hG hT h0 ((-1)) ht_h0) (cwV 1 hts gX12_order_X12_told rfl rfl rfl ⟨rfl, pd_X12_told⟩ ⟨Nat.le_of_ble_eq_true rfl, Nat.le_of_ble_eq_true rfl⟩) ⟨pz_blind, va_recv hK hP (ci := 12) (q0 := q169) rfl eq169, pz_pre hP hK hD hN⟩ rfl rfl hl.1 rfl (lv_room (Nat.le_of_ble_eq_true rfl)) dX12_order_62 ⟨Nat.le_of_ble_eq_true rfl, Nat.le_of_ble_eq_true rfl⟩) hS (fun q _ h => hFc q h) hFc (fun r170 f172 t H1 locs ht hvm hw171 hB hz1 hk1 hS => ?_)
          obtain ⟨hT, hF173, hw171r, hw171p⟩ := hw171
          have hR := hR.then hF173 (by decide)
          have hP := hB.1; rw [ht] at hP; have hD := tp_ad f172 hD; clear hB hFc hz1 hk1; subst ht; generalize t.heap = H at hP hS ⊢
          have hw171pq : r170.toInt = (-1) := by rw [hw171p]; rfl
          have hf_174 : f172 (ρ h0 2) = .inl (κ 0, 12967, .inl g27) := (hF173 _ (by rw [y1]; decide)).trans hf_33
          exact W.iret (v := r170) hx hb hr (fun t ht hW => ⟨⟨r170, f172, rfl, ⟨hT, hR, trivial, (by rw [hf_174, mo_i1]; exact hI)⟩, by rw [ht]; exact hP, va_K.moved hW.alike hK, hD⟩, hS.F ht⟩) hS.2.2 dX12_order_65
        · have ic168 : r166.toInt ≠ 0 := zi_eqf rfl rfl c168
          have p175 : (1) ≤ (a.toInt) ∧ (a.toInt) ≤ (200000) := (tp_cond.yes hw167p) (by omega)
          refine lv_iconst (v := 1) hx hb dX12_order_48 (by decide) ?_
          refine lv_goto (tgt := 53) hx hb dX12_order_49 (by decide) ?_
          refine lv_istore (lv' := [(4, .int 1), (0, .ref h0), (1, .int v), (2, .int u), (3, .int a)]) hx hb dX12_order_53 hl (by decide) rfl (fun ls hl => ?_)
          refine lv_iload hx hb dX12_order_55 (lv_at hl 0 rfl) ?_
          refine lv_if_ne (tgt := 66) hx hb dX12_order_57 (by decide) (fun _ => ?_) (fun c9 => absurd c9 (by decide))
          refine lv_aload_n hx hb dX12_order_66 rfl (lv_at hl 1 rfl) ?_
          refine lv_iload_n hx hb dX12_order_67 rfl (lv_at hl 2 rfl) ?_
          obtain ⟨q176, eq176⟩ := tp_pos (tp_in hG ht_h0 (by decide)) g32
          refine pz_calli (va_runV (As := [.int v]) (rest := []) ⟨hx, hb, hml, hown, hts⟩ (t_X12_isShip l dC dI _ κ τ ν ρ L f30 hG hT h0 v (-1) 0 ht_h0 (by omega) (by rw [hf_33, mo_i1]; exact hI)) (cwV 1 hts gX12_order_X12_isShip rfl rfl rfl ⟨rfl, pd_X12_isShip⟩ ⟨Nat.le_of_ble_eq_true rfl, Nat.le_of_ble_eq_true rfl⟩) ⟨pz_blind, va_recv hK hP (ci := 12) (q0 := q176) rfl eq176, pz_pre hP hK hD hN⟩ rfl rfl hl.1 rfl (lv_room (Nat.le_of_ble_eq_true rfl)) dX12_order_68 ⟨Nat.le_of_ble_eq_true rfl, Nat.le_of_ble_eq_true rfl⟩) (fun r177 hw178 => ?_)
          obtain ⟨hw178r, hw178p⟩ := hw178
          have := hI.k1
          rw [hf_33, mo_i1] at hw178p
          refine lv_if_eq (tgt := 86) hx hb dX12_order_71 (by decide) (fun c179 => ?_) (fun c179 => ?_)
          · have ic179 : r177.toInt = 0 := zi_eq rfl rfl c179
            refine lv_aload_n hx hb dX12_order_86 rfl (lv_at hl 1 rfl) ?_
            refine lv_bipush (v := (-2)) hx hb dX12_order_87 (by decide) ?_
            have hFc := tp_fr hD hS hA
            refine va_calli (va_runV (As := [.int (-2)]) (rest := []) ⟨hx, hb, hml, hown, hts⟩ (t_X12_told l dC dI _ κ τ ν ρ L f30 hG hT h0 ((-2)) ht_h0) (cwV 1 hts gX12_order_X12_told rfl rfl rfl ⟨rfl, pd_X12_told⟩ ⟨Nat.le_of_ble_eq_true rfl, Nat.le_of_ble_eq_true rfl⟩) ⟨pz_blind, va_recv hK hP (ci := 12) (q0 := q176) rfl eq176, pz_pre hP hK hD hN⟩ rfl rfl hl.1 rfl (lv_room (Nat.le_of_ble_eq_true rfl)) dX12_order_89 ⟨Nat.le_of_ble_eq_true rfl, Nat.le_of_ble_eq_true rfl⟩) hS (fun q _ h => hFc q h) hFc (fun r180 f182 t H1 locs ht hvm hw181 hB hz1 hk1 hS => ?_)
            obtain ⟨hT, hF183, hw181r, hw181p⟩ := hw181
            have hR := hR.then hF183 (by decide)
            have hP := hB.1; rw [ht] at hP; have hD := tp_ad f182 hD; clear hB hFc hz1 hk1; subst ht; generalize t.heap = H at hP hS ⊢
            have hw181pq : r180.toInt = (-2) := by rw [hw181p]; rfl
            have hf_184 : f182 (ρ h0 2) = .inl (κ 0, 12967, .inl g27) := (hF183 _ (by rw [y1]; decide)).trans hf_33
            exact W.iret (v := r180) hx hb hr (fun t ht hW => ⟨⟨r180, f182, rfl, ⟨hT, hR, trivial, (by rw [hf_184, mo_i1]; exact hI)⟩, by rw [ht]; exact hP, va_K.moved hW.alike hK, hD⟩, hS.F ht⟩) hS.2.2 dX12_order_92
          · have ic179 : r177.toInt ≠ 0 := zi_eqf rfl rfl c179
            have p185 : 0 ≤ v.toInt ∧ v.toInt < mo_R g27 1 := (tp_cond.yes hw178p) (by omega)
            refine lv_iload_n hx hb dX12_order_74 rfl (lv_at hl 3 rfl) ?_
            refine lv_if_ne (tgt := 93) hx hb dX12_order_75 (by decide) (fun c186 => ?_) (fun c186 => ?_)
            · have ic186 : u.toInt ≠ 0 := zi_ne rfl rfl c186
              refine lv_iload_n hx hb dX12_order_93 rfl (lv_at hl 2 rfl) ?_
              refine pz_calli (va_runS (As := [.int v]) (rest := []) ⟨hx, hb, hml, hown, hts⟩ (t_X12_shipAt l dC dI _ v (v.toInt) (by omega) rfl) (va_cwS 1 hts gX12_order_X12_shipAt rfl rfl rfl pd_X12_shipAt ⟨Nat.le_of_ble_eq_true rfl, Nat.le_of_ble_eq_true rfl⟩) ⟨pz_blind, pz_pre pz_P0 (hK.sub (tys' := []) [] rfl) (pz_D0 (A := fun _ => True)) hN⟩ rfl rfl hl.1 rfl (lv_room (Nat.le_of_ble_eq_true rfl)) dX12_order_94 ⟨Nat.le_of_ble_eq_true rfl, Nat.le_of_ble_eq_true rfl⟩) (fun r187 hw188 => ?_)
              obtain ⟨hw188r, hw188p⟩ := hw188
              refine lv_istore (lv' := [(5, .int r187), (4, .int 1), (0, .ref h0), (1, .int v), (2, .int u), (3, .int a)]) hx hb dX12_order_97 hl (by decide) rfl (fun ls hl => ?_)
              refine lv_aload_n hx hb dX12_order_99 rfl (lv_at hl 2 rfl) ?_
              refine va_get (D := (dC, dI)) (ci := 12) (v := .ref (ρ h0 2)) (C := RX12) (T := TX12) (N := 53) hx hb hts hfX12 hown hK hP q176 eq176 rfl 2 (by decide) (hts (.fieldLink RX12 7 "ColdShipsModel" "row" "[I") wa_148) (fun _ h9 => h9) rfl dX12_order_100 ?_
              refine lv_iload hx hb dX12_order_103 (lv_at hl 0 rfl) ?_
              refine lv_bipush (v := 10) hx hb dX12_order_105 (by decide) ?_
              refine lv_iadd hx hb dX12_order_107 ?_
              refine lv_topi (fun z189 ez189 => ?_)
              have iz189 : z189.toInt = r187.toInt + 10 := zi_add ez189 rfl rfl (by omega) (by omega)
              obtain ⟨q190, eq190⟩ := tp_pos (tp_in hG y1 (by decide)) hf_33
              refine va_iald hx hb hK hP q190 0 eq190 rfl (vp_in_iff.mpr ⟨by omega, by omega⟩) dX12_order_108 ?_
              refine lv_topi (fun z191 ez191 => ?_)
              have jz191 : z191.toInt = mo_R g27 (547 + 84 * v.toInt + 10) := mo_rd ez191 (by omega)
              have kz191 := hI.SO (s := v.toInt) (by omega) (by omega)
              refine lv_bipush (v := 20) hx hb dX12_order_109 (by decide) ?_
              refine lv_icmp_eq (tgt := 126) hx hb dX12_order_111 (by decide) (fun c192 => ?_) (fun c192 => ?_)
              · have ic192 : z191.toInt = 20 := zi_eq rfl rfl c192
                refine lv_aload_n hx hb dX12_order_126 rfl (lv_at hl 2 rfl) ?_
                refine lv_bipush (v := (-5)) hx hb dX12_order_127 (by decide) ?_
                have hFc := tp_fr hD hS hA
                refine va_calli (va_runV (As := [.int (-5)]) (rest := []) ⟨hx, hb, hml, hown, hts⟩ (t_X12_told l dC dI _ κ τ ν ρ L f30 hG hT h0 ((-5)) ht_h0) (cwV 1 hts gX12_order_X12_told rfl rfl rfl ⟨rfl, pd_X12_told⟩ ⟨Nat.le_of_ble_eq_true rfl, Nat.le_of_ble_eq_true rfl⟩) ⟨pz_blind, va_recv hK hP (ci := 12) (q0 := q176) rfl eq176, pz_pre hP hK hD hN⟩ rfl rfl hl.1 rfl (lv_room (Nat.le_of_ble_eq_true rfl)) dX12_order_129 ⟨Nat.le_of_ble_eq_true rfl, Nat.le_of_ble_eq_true rfl⟩) hS (fun q _ h => hFc q h) hFc (fun r193 f195 t H1 locs ht hvm hw194 hB hz1 hk1 hS => ?_)
                obtain ⟨hT, hF196, hw194r, hw194p⟩ := hw194
                have hR := hR.then hF196 (by decide)
                have hP := hB.1; rw [ht] at hP; have hD := tp_ad f195 hD; clear hB hFc hz1 hk1; subst ht; generalize t.heap = H at hP hS ⊢
                have hw194pq : r193.toInt = (-5) := by rw [hw194p]; rfl
                have hf_197 : f195 (ρ h0 2) = .inl (κ 0, 12967, .inl g27) := (hF196 _ (by rw [y1]; decide)).trans hf_33
                exact W.iret (v := r193) hx hb hr (fun t ht hW => ⟨⟨r193, f195, rfl, ⟨hT, hR, trivial, (by rw [hf_197, mo_i1]; exact hI)⟩, by rw [ht]; exact hP, va_K.moved hW.alike hK, hD⟩, hS.F ht⟩) hS.2.2 dX12_order_132
              · have ic192 : z191.toInt ≠ 20 := zi_eqf rfl rfl c192
                refine lv_aload_n hx hb dX12_order_114 rfl (lv_at hl 2 rfl) ?_
                refine va_get (D := (dC, dI)) (ci := 12) (v := .ref (ρ h0 2)) (C := RX12) (T := TX12) (N := 53) hx hb hts hfX12 hown hK hP q176 eq176 rfl 2 (by decide) (hts (.fieldLink RX12 7 "ColdShipsModel" "row" "[I") wa_148) (fun _ h9 => h9) rfl dX12_order_115 ?_
                refine lv_iconst (v := 4) hx hb dX12_order_118 (by decide) ?_
                refine va_iald hx hb hK hP q190 0 eq190 rfl (vp_in_iff.mpr ⟨by decide, by decide⟩) dX12_order_119 ?_
                refine lv_topi (fun z198 ez198 => ?_)
                refine lv_sipush (v := 400) hx hb dX12_order_120 (by decide) ?_
                refine lv_icmp_ne (tgt := 133) hx hb dX12_order_123 (by decide) (fun c199 => ?_) (fun c199 => ?_)
                · have ic199 : z198.toInt ≠ 400 := zi_ne rfl rfl c199
                  refine lv_iload hx hb dX12_order_133 (lv_at hl 0 rfl) ?_
                  refine lv_bipush (v := 44) hx hb dX12_order_135 (by decide) ?_
                  refine lv_iadd hx hb dX12_order_137 ?_
                  refine lv_topi (fun z200 ez200 => ?_)
                  have iz200 : z200.toInt = r187.toInt + 44 := zi_add ez200 rfl rfl (by omega) (by omega)
                  refine lv_iconst (v := 2) hx hb dX12_order_138 (by decide) ?_
                  refine lv_aload_n hx hb dX12_order_139 rfl (lv_at hl 2 rfl) ?_
                  refine va_get (D := (dC, dI)) (ci := 12) (v := .ref (ρ h0 2)) (C := RX12) (T := TX12) (N := 53) hx hb hts hfX12 hown hK hP q176 eq176 rfl 2 (by decide) (hts (.fieldLink RX12 7 "ColdShipsModel" "row" "[I") wa_148) (fun _ h9 => h9) rfl dX12_order_140 ?_
                  refine lv_iload hx hb dX12_order_143 (lv_at hl 0 rfl) ?_
                  refine lv_bipush (v := 10) hx hb dX12_order_145 (by decide) ?_
                  refine lv_iadd hx hb dX12_order_147 ?_
                  refine lv_topi (fun z201 ez201 => ?_)
                  have iz201 : z201.toInt = r187.toInt + 10 := zi_add ez201 rfl rfl (by omega) (by omega)
                  refine va_iald hx hb hK hP q190 0 eq190 rfl (vp_in_iff.mpr ⟨by omega, by omega⟩) dX12_order_148 ?_
                  refine lv_topi (fun z202 ez202 => ?_)
                  have jz202 : z202.toInt = mo_R g27 (547 + 84 * v.toInt + 10) := mo_rd ez202 (by omega)
                  have kz202 := hI.SO (s := v.toInt) (by omega) (by omega)
                  refine lv_imul hx hb dX12_order_149 ?_
                  refine lv_topi (fun z203 ez203 => ?_)
                  have iz203 : z203.toInt = 2 * z202.toInt := zi_mul ez203 rfl rfl (by omega) (by omega)
                  refine lv_iadd hx hb dX12_order_150 ?_
                  refine lv_topi (fun z204 ez204 => ?_)
                  have iz204 : z204.toInt = z200.toInt + z203.toInt := zi_add ez204 rfl rfl (by omega) (by omega)
                  refine lv_istore (lv' := [(6, .int z204), (5, .int r187), (4, .int 1), (0, .ref h0), (1, .int v), (2, .int u), (3, .int a)]) hx hb dX12_order_151 hl (by decide) rfl (fun ls hl => ?_)
                  refine lv_aload_n hx hb dX12_order_153 rfl (lv_at hl 3 rfl) ?_
                  refine va_get (D := (dC, dI)) (ci := 12) (v := .ref (ρ h0 2)) (C := RX12) (T := TX12) (N := 53) hx hb hts hfX12 hown hK hP q176 eq176 rfl 2 (by decide) (hts (.fieldLink RX12 7 "ColdShipsModel" "row" "[I") wa_148) (fun _ h9 => h9) rfl dX12_order_154 ?_
                  refine lv_iload hx hb dX12_order_157 (lv_at hl 0 rfl) ?_
                  refine lv_iload_n hx hb dX12_order_159 rfl (lv_at hl 5 rfl) ?_
                  refine va_iast hx hb hK hP hD hS q190 0 eq190 rfl (vp_in_iff.mpr ⟨by omega, by omega⟩) dX12_order_160 (tp_k (.inl (κ 0, 12967, .inl (upd g27 z204.toNatClampNeg u))) hD (tp_in hG y1 (by decide)) eq190 (fun f205 H locs hP hD hS g207 k206 => ?_))
                  have hT := hT.up y1 g207 k206 tp_o32
                  have hR := hR.up y1 (by decide) k206
                  have hU : mo_U (mo_R g27) (mo_R (upd g27 z204.toNatClampNeg u)) (547 + 84 * v.toInt + 44 + 2 * z191.toInt) (u.toInt) := mo_up (by omega) (rfl : u.toInt = _) (by omega)
                  generalize (upd g27 z204.toNatClampNeg u) = g208 at g207 hU
                  have hI := mo_w_ord hI hU v.toInt (0 + 2 * z191.toInt) (by omega) (by omega) (by omega)
                  have pn209 : mo_R g208 (1) = n1 := (hU.ne (by omega) (by omega)).trans en1.symm
                  have pn210 : mo_R g208 (547 + 84 * v.toInt + 10) = z191.toInt := (hU.ne (by omega) (by omega)).trans (jz191).symm
                  have pn211 : mo_R g208 (547 + 84 * v.toInt + 44 + 2 * z191.toInt) = u.toInt := hU.eq (by omega)
                  refine lv_aload_n hx hb dX12_order_161 rfl (lv_at hl 3 rfl) ?_
                  have hf_212 : f205 h0 = .inr (12, [.int 0, .int o28_x1, .ref (ρ h0 2), .ref (ρ h0 3), .ref (ρ h0 4), .ref (ρ h0 5), .ref (ρ h0 6), .int o28_x7, .ref (ρ h0 8), .int o28_x9, .int o28_x10, .int o28_x11, .int o28_x12, .long o28_x13, .int o28_x14, .int o28_x15, .int o28_x16, .int o28_x17, .int o28_x18, .int o28_x19, .int o28_x20, .ref (ρ h0 21), .int o28_x22, .ref (ρ h0 23), .ref (ρ h0 24), .int o28_x25, .ref (ρ h0 26), .ref (ρ h0 27), .int o28_x28, .int o28_x29, .ref (ρ h0 30), .ref (ρ h0 31), .int o28_x32, .long o28_x33, .long o28_x34, .long o28_x35, .int o28_x36, .int o28_x37, .int o28_x38, .ref (ρ h0 39), .ref (ρ h0 40), .ref (ρ h0 41), .ref (ρ h0 42), .ref (ρ h0 43), .ref (ρ h0 44), .ref (ρ h0 45), .ref (ρ h0 46), .int o28_x47, .int o28_x48, .ref (ρ h0 49), .ref (ρ h0 50), .ref (ρ h0 51), .ref (ρ h0 52)]) := (k206 _ (tp_ne ht_h0 y1 (by decide))).trans g32
                  obtain ⟨q213, eq213⟩ := tp_pos (tp_in hG ht_h0 (by decide)) hf_212
                  refine va_get (D := (dC, dI)) (ci := 12) (v := .ref (ρ h0 2)) (C := RX12) (T := TX12) (N := 53) hx hb hts hfX12 hown hK hP q213 eq213 rfl 2 (by decide) (hts (.fieldLink RX12 7 "ColdShipsModel" "row" "[I") wa_148) (fun _ h9 => h9) rfl dX12_order_162 ?_
                  refine lv_iload hx hb dX12_order_165 (lv_at hl 0 rfl) ?_
                  refine lv_iconst (v := 1) hx hb dX12_order_167 (by decide) ?_
                  refine lv_iadd hx hb dX12_order_168 ?_
                  refine lv_topi (fun z214 ez214 => ?_)
                  have iz214 : z214.toInt = z204.toInt + 1 := zi_add ez214 rfl rfl (by omega) (by omega)
                  refine lv_iload_n hx hb dX12_order_169 rfl (lv_at hl 6 rfl) ?_
                  obtain ⟨q215, eq215⟩ := tp_pos (tp_in hG y1 (by decide)) g207
                  refine va_iast hx hb hK hP hD hS q215 0 eq215 rfl (vp_in_iff.mpr ⟨by omega, by omega⟩) dX12_order_170 (tp_k (.inl (κ 0, 12967, .inl (upd g208 z214.toNatClampNeg a))) hD (tp_in hG y1 (by decide)) eq215 (fun f216 H locs hP hD hS g218 k217 => ?_))
                  have hT := hT.up y1 g218 k217 tp_o32
                  have hR := hR.up y1 (by decide) k217
                  have hU : mo_U (mo_R g208) (mo_R (upd g208 z214.toNatClampNeg a)) (547 + 84 * v.toInt + 45 + 2 * z191.toInt) (a.toInt) := mo_up (by omega) (rfl : a.toInt = _) (by omega)
                  generalize (upd g208 z214.toNatClampNeg a) = g219 at g218 hU
                  have hI := mo_w_ord hI hU v.toInt (1 + 2 * z191.toInt) (by omega) (by omega) (by omega)
                  have pn220 : mo_R g219 (1) = n1 := (hU.ne (by omega) (by omega)).trans pn209
                  have pn221 : mo_R g219 (547 + 84 * v.toInt + 10) = z191.toInt := (hU.ne (by omega) (by omega)).trans pn210
                  have pn222 : mo_R g219 (547 + 84 * v.toInt + 44 + 2 * z191.toInt) = u.toInt := (hU.ne (by omega) (by omega)).trans pn211
                  have pn223 : mo_R g219 (547 + 84 * v.toInt + 45 + 2 * z191.toInt) = a.toInt := hU.eq (by omega)
                  refine lv_aload_n hx hb dX12_order_171 rfl (lv_at hl 3 rfl) ?_
                  have hf_224 : f216 h0 = .inr (12, [.int 0, .int o28_x1, .ref (ρ h0 2), .ref (ρ h0 3), .ref (ρ h0 4), .ref (ρ h0 5), .ref (ρ h0 6), .int o28_x7, .ref (ρ h0 8), .int o28_x9, .int o28_x10, .int o28_x11, .int o28_x12, .long o28_x13, .int o28_x14, .int o28_x15, .int o28_x16, .int o28_x17, .int o28_x18, .int o28_x19, .int o28_x20, .ref (ρ h0 21), .int o28_x22, .ref (ρ h0 23), .ref (ρ h0 24), .int o28_x25, .ref (ρ h0 26), .ref (ρ h0 27), .int o28_x28, .int o28_x29, .ref (ρ h0 30), .ref (ρ h0 31), .int o28_x32, .long o28_x33, .long o28_x34, .long o28_x35, .int o28_x36, .int o28_x37, .int o28_x38, .ref (ρ h0 39), .ref (ρ h0 40), .ref (ρ h0 41), .ref (ρ h0 42), .ref (ρ h0 43), .ref (ρ h0 44), .ref (ρ h0 45), .ref (ρ h0 46), .int o28_x47, .int o28_x48, .ref (ρ h0 49), .ref (ρ h0 50), .ref (ρ h0 51), .ref (ρ h0 52)]) := (k217 _ (tp_ne ht_h0 y1 (by decide))).trans hf_212
                  obtain ⟨q225, eq225⟩ := tp_pos (tp_in hG ht_h0 (by decide)) hf_224
                  refine va_get (D := (dC, dI)) (ci := 12) (v := .ref (ρ h0 2)) (C := RX12) (T := TX12) (N := 53) hx hb hts hfX12 hown hK hP q225 eq225 rfl 2 (by decide) (hts (.fieldLink RX12 7 "ColdShipsModel" "row" "[I") wa_148) (fun _ h9 => h9) rfl dX12_order_172 ?_
                  refine lv_iload hx hb dX12_order_175 (lv_at hl 1 rfl) ?_
                  refine lv_bipush (v := 10) hx hb dX12_order_177 (by decide) ?_
                  refine lv_iadd hx hb dX12_order_179 ?_
                  refine lv_topi (fun z226 ez226 => ?_)
                  have iz226 : z226.toInt = r187.toInt + 10 := zi_add ez226 rfl rfl (by omega) (by omega)
                  refine lv_dup2_11 hx hb dX12_order_180 rfl rfl ?_
                  obtain ⟨q227, eq227⟩ := tp_pos (tp_in hG y1 (by decide)) g218
                  refine va_iald hx hb hK hP q227 0 eq227 rfl (vp_in_iff.mpr ⟨by omega, by omega⟩) dX12_order_181 ?_
                  refine lv_topi (fun z228 ez228 => ?_)
                  have jz228 : z228.toInt = mo_R g219 (547 + 84 * v.toInt + 10) := mo_rd ez228 (by omega)
                  have kz228 := hI.SO (s := v.toInt) (by omega) (by omega)
                  refine lv_iconst (v := 1) hx hb dX12_order_182 (by decide) ?_
                  refine lv_iadd hx hb dX12_order_183 ?_
                  refine lv_topi (fun z229 ez229 => ?_)
                  have iz229 : z229.toInt = z228.toInt + 1 := zi_add ez229 rfl rfl (by omega) (by omega)
                  refine va_iast hx hb hK hP hD hS q227 0 eq227 rfl (vp_in_iff.mpr ⟨by omega, by omega⟩) dX12_order_184 (tp_k (.inl (κ 0, 12967, .inl (upd g219 z226.toNatClampNeg z229))) hD (tp_in hG y1 (by decide)) eq227 (fun f230 H locs hP hD hS g232 k231 => ?_))
                  have hT := hT.up y1 g232 k231 tp_o32
                  have hR := hR.up y1 (by decide) k231
                  have hU : mo_U (mo_R g219) (mo_R (upd g219 z226.toNatClampNeg z229)) (547 + 84 * v.toInt + 10) (z229.toInt) := mo_up (by omega) (rfl : z229.toInt = _) (by omega)
                  generalize (upd g219 z226.toNatClampNeg z229) = g233 at g232 hU
                  have hI := mo_w_ORDS hI hU v.toInt (z191.toInt) (by omega) (by omega) pn221 (by omega) (by omega)
                  have pn234 : mo_R g233 (1) = n1 := (hU.ne (by omega) (by omega)).trans pn220
                  have pn235 : mo_R g233 (547 + 84 * v.toInt + 44 + 2 * z191.toInt) = u.toInt := (hU.ne (by omega) (by omega)).trans pn222
                  have pn236 : mo_R g233 (547 + 84 * v.toInt + 45 + 2 * z191.toInt) = a.toInt := (hU.ne (by omega) (by omega)).trans pn223
                  have pn237 : mo_R g233 (547 + 84 * v.toInt + 10) = z229.toInt := hU.eq (by omega)
                  refine lv_aload_n hx hb dX12_order_185 rfl (lv_at hl 3 rfl) ?_
                  have hf_238 : f230 h0 = .inr (12, [.int 0, .int o28_x1, .ref (ρ h0 2), .ref (ρ h0 3), .ref (ρ h0 4), .ref (ρ h0 5), .ref (ρ h0 6), .int o28_x7, .ref (ρ h0 8), .int o28_x9, .int o28_x10, .int o28_x11, .int o28_x12, .long o28_x13, .int o28_x14, .int o28_x15, .int o28_x16, .int o28_x17, .int o28_x18, .int o28_x19, .int o28_x20, .ref (ρ h0 21), .int o28_x22, .ref (ρ h0 23), .ref (ρ h0 24), .int o28_x25, .ref (ρ h0 26), .ref (ρ h0 27), .int o28_x28, .int o28_x29, .ref (ρ h0 30), .ref (ρ h0 31), .int o28_x32, .long o28_x33, .long o28_x34, .long o28_x35, .int o28_x36, .int o28_x37, .int o28_x38, .ref (ρ h0 39), .ref (ρ h0 40), .ref (ρ h0 41), .ref (ρ h0 42), .ref (ρ h0 43), .ref (ρ h0 44), .ref (ρ h0 45), .ref (ρ h0 46), .int o28_x47, .int o28_x48, .ref (ρ h0 49), .ref (ρ h0 50), .ref (ρ h0 51), .ref (ρ h0 52)]) := (k231 _ (tp_ne ht_h0 y1 (by decide))).trans hf_224
                  obtain ⟨q239, eq239⟩ := tp_pos (tp_in hG ht_h0 (by decide)) hf_238
                  refine va_get (D := (dC, dI)) (ci := 12) (v := .ref (ρ h0 2)) (C := RX12) (T := TX12) (N := 53) hx hb hts hfX12 hown hK hP q239 eq239 rfl 2 (by decide) (hts (.fieldLink RX12 7 "ColdShipsModel" "row" "[I") wa_148) (fun _ h9 => h9) rfl dX12_order_186 ?_
                  refine lv_iconst (v := 4) hx hb dX12_order_189 (by decide) ?_
                  refine lv_dup2_11 hx hb dX12_order_190 rfl rfl ?_
                  obtain ⟨q240, eq240⟩ := tp_pos (tp_in hG y1 (by decide)) g232
                  refine va_iald hx hb hK hP q240 0 eq240 rfl (vp_in_iff.mpr ⟨by decide, by decide⟩) dX12_order_191 ?_
                  refine lv_topi (fun z241 ez241 => ?_)
                  refine lv_iconst (v := 1) hx hb dX12_order_192 (by decide) ?_
                  refine lv_iadd hx hb dX12_order_193 ?_
                  refine lv_topi (fun z242 ez242 => ?_)
                  refine va_iast hx hb hK hP hD hS q240 0 eq240 rfl (vp_in_iff.mpr ⟨by decide, by decide⟩) dX12_order_194 (tp_k (.inl (κ 0, 12967, .inl (upd g233 (4 : Int32).toNatClampNeg z242))) hD (tp_in hG y1 (by decide)) eq240 (fun f243 H locs hP hD hS g245 k244 => ?_))
                  have hT := hT.up y1 g245 k244 tp_o32
                  have hR := hR.up y1 (by decide) k244
                  have hU : mo_U (mo_R g233) (mo_R (upd g233 (4 : Int32).toNatClampNeg z242)) (4) (z242.toInt) := mo_up (show (4 : Int32).toInt = (4) from by decide) (rfl : z242.toInt = _) (by omega)
                  generalize (upd g233 (4 : Int32).toNatClampNeg z242) = g246 at g245 hU
                  have hI := mo_w_flat hI hU (by omega)
                  have pn247 : mo_R g246 (1) = n1 := (hU.ne (by omega) (by omega)).trans pn234
                  have pn248 : mo_R g246 (547 + 84 * v.toInt + 44 + 2 * z191.toInt) = u.toInt := (hU.ne (by omega) (by omega)).trans pn235
                  have pn249 : mo_R g246 (547 + 84 * v.toInt + 45 + 2 * z191.toInt) = a.toInt := (hU.ne (by omega) (by omega)).trans pn236
                  have pn250 : mo_R g246 (547 + 84 * v.toInt + 10) = z229.toInt := (hU.ne (by omega) (by omega)).trans pn237
                  refine lv_aload_n hx hb dX12_order_195 rfl (lv_at hl 3 rfl) ?_
                  have hf_251 : f243 h0 = .inr (12, [.int 0, .int o28_x1, .ref (ρ h0 2), .ref (ρ h0 3), .ref (ρ h0 4), .ref (ρ h0 5), .ref (ρ h0 6), .int o28_x7, .ref (ρ h0 8), .int o28_x9, .int o28_x10, .int o28_x11, .int o28_x12, .long o28_x13, .int o28_x14, .int o28_x15, .int o28_x16, .int o28_x17, .int o28_x18, .int o28_x19, .int o28_x20, .ref (ρ h0 21), .int o28_x22, .ref (ρ h0 23), .ref (ρ h0 24), .int o28_x25, .ref (ρ h0 26), .ref (ρ h0 27), .int o28_x28, .int o28_x29, .ref (ρ h0 30), .ref (ρ h0 31), .int o28_x32, .long o28_x33, .long o28_x34, .long o28_x35, .int o28_x36, .int o28_x37, .int o28_x38, .ref (ρ h0 39), .ref (ρ h0 40), .ref (ρ h0 41), .ref (ρ h0 42), .ref (ρ h0 43), .ref (ρ h0 44), .ref (ρ h0 45), .ref (ρ h0 46), .int o28_x47, .int o28_x48, .ref (ρ h0 49), .ref (ρ h0 50), .ref (ρ h0 51), .ref (ρ h0 52)]) := (k244 _ (tp_ne ht_h0 y1 (by decide))).trans hf_238
                  obtain ⟨q252, eq252⟩ := tp_pos (tp_in hG ht_h0 (by decide)) hf_251
                  refine va_get (D := (dC, dI)) (ci := 12) (v := .ref (ρ h0 2)) (C := RX12) (T := TX12) (N := 53) hx hb hts hfX12 hown hK hP q252 eq252 rfl 2 (by decide) (hts (.fieldLink RX12 7 "ColdShipsModel" "row" "[I") wa_148) (fun _ h9 => h9) rfl dX12_order_196 ?_
                  refine lv_iload hx hb dX12_order_199 (lv_at hl 1 rfl) ?_
                  refine lv_bipush (v := 10) hx hb dX12_order_201 (by decide) ?_
                  refine lv_iadd hx hb dX12_order_203 ?_
                  refine lv_topi (fun z253 ez253 => ?_)
                  have iz253 : z253.toInt = r187.toInt + 10 := zi_add ez253 rfl rfl (by omega) (by omega)
                  obtain ⟨q254, eq254⟩ := tp_pos (tp_in hG y1 (by decide)) g245
                  refine va_iald hx hb hK hP q254 0 eq254 rfl (vp_in_iff.mpr ⟨by omega, by omega⟩) dX12_order_204 ?_
                  refine lv_topi (fun z255 ez255 => ?_)
                  have jz255 : z255.toInt = mo_R g246 (547 + 84 * v.toInt + 10) := mo_rd ez255 (by omega)
                  have kz255 := hI.SO (s := v.toInt) (by omega) (by omega)
                  refine lv_iconst (v := 1) hx hb dX12_order_205 (by decide) ?_
                  refine lv_icmp_ne (tgt := 215) hx hb dX12_order_206 (by decide) (fun c256 => ?_) (fun c256 => ?_)
                  · have ic256 : z255.toInt ≠ 1 := zi_ne rfl rfl c256
                    refine lv_aload_n hx hb dX12_order_215 rfl (lv_at hl 3 rfl) ?_
                    refine lv_aload_n hx hb dX12_order_216 rfl (lv_at hl 3 rfl) ?_
                    refine va_get (D := (dC, dI)) (ci := 12) (v := .ref (ρ h0 2)) (C := RX12) (T := TX12) (N := 53) hx hb hts hfX12 hown hK hP q252 eq252 rfl 2 (by decide) (hts (.fieldLink RX12 7 "ColdShipsModel" "row" "[I") wa_148) (fun _ h9 => h9) rfl dX12_order_217 ?_
                    refine lv_iload hx hb dX12_order_220 (lv_at hl 1 rfl) ?_
                    refine lv_bipush (v := 10) hx hb dX12_order_222 (by decide) ?_
                    refine lv_iadd hx hb dX12_order_224 ?_
                    refine lv_topi (fun z257 ez257 => ?_)
                    have iz257 : z257.toInt = r187.toInt + 10 := zi_add ez257 rfl rfl (by omega) (by omega)
                    refine va_iald hx hb hK hP q254 0 eq254 rfl (vp_in_iff.mpr ⟨by omega, by omega⟩) dX12_order_225 ?_
                    refine lv_topi (fun z258 ez258 => ?_)
                    have jz258 : z258.toInt = mo_R g246 (547 + 84 * v.toInt + 10) := mo_rd ez258 (by omega)
                    have kz258 := hI.SO (s := v.toInt) (by omega) (by omega)
                    have hFc := tp_fr hD hS hA
                    refine va_calli (va_runV (As := [.int z258]) (rest := []) ⟨hx, hb, hml, hown, hts⟩ (t_X12_told l dC dI _ κ τ ν ρ L f243 hG hT h0 z258 ht_h0) (cwV 1 hts gX12_order_X12_told rfl rfl rfl ⟨rfl, pd_X12_told⟩ ⟨Nat.le_of_ble_eq_true rfl, Nat.le_of_ble_eq_true rfl⟩) ⟨pz_blind, va_recv hK hP (ci := 12) (q0 := q252) rfl eq252, pz_pre hP hK hD hN⟩ rfl rfl hl.1 rfl (lv_room (Nat.le_of_ble_eq_true rfl)) dX12_order_226 ⟨Nat.le_of_ble_eq_true rfl, Nat.le_of_ble_eq_true rfl⟩) hS (fun q _ h => hFc q h) hFc (fun r259 f261 t H1 locs ht hvm hw260 hB hz1 hk1 hS => ?_)
                    obtain ⟨hT, hF262, hw260r, hw260p⟩ := hw260
                    have hR := hR.then hF262 (by decide)
                    have hP := hB.1; rw [ht] at hP; have hD := tp_ad f261 hD; clear hB hFc hz1 hk1; subst ht; generalize t.heap = H at hP hS ⊢
                    have hw260pq : r259.toInt = z258.toInt := by rw [hw260p]
                    have hf_263 : f261 (ρ h0 2) = .inl (κ 0, 12967, .inl g246) := (hF262 _ (by rw [y1]; decide)).trans g245
                    exact W.iret (v := r259) hx hb hr (fun t ht hW => ⟨⟨r259, f261, rfl, ⟨hT, hR, trivial, (by rw [hf_263, mo_i1]; exact hI)⟩, by rw [ht]; exact hP, va_K.moved hW.alike hK, hD⟩, hS.F ht⟩) hS.2.2 dX12_order_229
                  · have ic256 : z255.toInt = 1 := zi_nef rfl rfl c256
                    refine lv_aload_n hx hb dX12_order_209 rfl (lv_at hl 3 rfl) ?_
                    refine lv_iload hx hb dX12_order_210 (lv_at hl 1 rfl) ?_
                    have hFc := tp_fr hD hS hA
                    refine va_callv (va_runV (As := [.int r187]) (rest := []) ⟨hx, hb, hml, hown, hts⟩ (t_X12_beginOrder l dC dI _ κ τ ν ρ L f243 hG hT h0 r187 (-1) 0 v.toInt ht_h0 (by omega) (by omega) (by omega) (by rw [g245, mo_i1]; exact hI) (by first | (simp only [g245, hf_o26, mo_i1]; omega) | simp only [g245, hf_o26, mo_i1] | omega)) (cwV 1 hts gX12_order_X12_beginOrder rfl rfl rfl ⟨rfl, pd_X12_beginOrder⟩ ⟨Nat.le_of_ble_eq_true rfl, Nat.le_of_ble_eq_true rfl⟩) ⟨pz_blind, va_recv hK hP (ci := 12) (q0 := q252) rfl eq252, pz_pre hP hK hD hN⟩ rfl rfl hl.1 rfl (lv_room (Nat.le_of_ble_eq_true rfl)) dX12_order_212 ⟨Nat.le_of_ble_eq_true rfl, Nat.le_of_ble_eq_true rfl⟩) hS (fun q _ h => hFc q h) hFc (fun f266 t H1 locs ht hvm hw265 hB hz1 hk1 hS => ?_)
                    obtain ⟨hT, hF267, hw265p⟩ := hw265
                    have hR := hR.then hF267 (by decide)
                    have hP := hB.1; rw [ht] at hP; have hD := tp_ad f266 hD; clear hB hFc hz1 hk1; subst ht; generalize t.heap = H at hP hS ⊢
                    obtain ⟨hJ, hw265pe⟩ := hw265p
                    obtain ⟨g269, hf_o268⟩ := tpo_32 hT y1
                    have hI : mo_RI (-1) 0 (mo_R g269) := by have q9 := hJ; rw [hf_o268, mo_i1] at q9; exact q9
                    rw [g245, mo_i1] at hw265pe
                    rw [hf_o268, mo_i1] at hw265pe
                    have pn270 : mo_R g269 (1) = n1 := (hw265pe.1).trans pn247
                    have pn271 : mo_R g269 (547 + 84 * v.toInt + 10) = z229.toInt := (hw265pe.2.2).trans pn250
                    refine lv_aload_n hx hb dX12_order_215 rfl (lv_at hl 3 rfl) ?_
                    refine lv_aload_n hx hb dX12_order_216 rfl (lv_at hl 3 rfl) ?_
                    have hf_272 : f266 h0 = .inr (12, [.int 0, .int o28_x1, .ref (ρ h0 2), .ref (ρ h0 3), .ref (ρ h0 4), .ref (ρ h0 5), .ref (ρ h0 6), .int o28_x7, .ref (ρ h0 8), .int o28_x9, .int o28_x10, .int o28_x11, .int o28_x12, .long o28_x13, .int o28_x14, .int o28_x15, .int o28_x16, .int o28_x17, .int o28_x18, .int o28_x19, .int o28_x20, .ref (ρ h0 21), .int o28_x22, .ref (ρ h0 23), .ref (ρ h0 24), .int o28_x25, .ref (ρ h0 26), .ref (ρ h0 27), .int o28_x28, .int o28_x29, .ref (ρ h0 30), .ref (ρ h0 31), .int o28_x32, .long o28_x33, .long o28_x34, .long o28_x35, .int o28_x36, .int o28_x37, .int o28_x38, .ref (ρ h0 39), .ref (ρ h0 40), .ref (ρ h0 41), .ref (ρ h0 42), .ref (ρ h0 43), .ref (ρ h0 44), .ref (ρ h0 45), .ref (ρ h0 46), .int o28_x47, .int o28_x48, .ref (ρ h0 49), .ref (ρ h0 50), .ref (ρ h0 51), .ref (ρ h0 52)]) := (hF267 _ (by rw [ht_h0]; decide)).trans hf_251
                    obtain ⟨q273, eq273⟩ := tp_pos (tp_in hG ht_h0 (by decide)) hf_272
                    refine va_get (D := (dC, dI)) (ci := 12) (v := .ref (ρ h0 2)) (C := RX12) (T := TX12) (N := 53) hx hb hts hfX12 hown hK hP q273 eq273 rfl 2 (by decide) (hts (.fieldLink RX12 7 "ColdShipsModel" "row" "[I") wa_148) (fun _ h9 => h9) rfl dX12_order_217 ?_
                    refine lv_iload hx hb dX12_order_220 (lv_at hl 1 rfl) ?_
                    refine lv_bipush (v := 10) hx hb dX12_order_222 (by decide) ?_
                    refine lv_iadd hx hb dX12_order_224 ?_
                    refine lv_topi (fun z274 ez274 => ?_)
                    have iz274 : z274.toInt = r187.toInt + 10 := zi_add ez274 rfl rfl (by omega) (by omega)
                    obtain ⟨q275, eq275⟩ := tp_pos (tp_in hG y1 (by decide)) hf_o268
                    refine va_iald hx hb hK hP q275 0 eq275 rfl (vp_in_iff.mpr ⟨by omega, by omega⟩) dX12_order_225 ?_
                    refine lv_topi (fun z276 ez276 => ?_)
                    have jz276 : z276.toInt = mo_R g269 (547 + 84 * v.toInt + 10) := mo_rd ez276 (by omega)
                    have kz276 := hI.SO (s := v.toInt) (by omega) (by omega)
                    have hFc := tp_fr hD hS hA
                    refine va_calli (va_runV (As := [.int z276]) (rest := []) ⟨hx, hb, hml, hown, hts⟩ (t_X12_told l dC dI _ κ τ ν ρ L f266 hG hT h0 z276 ht_h0) (cwV 1 hts gX12_order_X12_told rfl rfl rfl ⟨rfl, pd_X12_told⟩ ⟨Nat.le_of_ble_eq_true rfl, Nat.le_of_ble_eq_true rfl⟩) ⟨pz_blind, va_recv hK hP (ci := 12) (q0 := q273) rfl eq273, pz_pre hP hK hD hN⟩ rfl rfl hl.1 rfl (lv_room (Nat.le_of_ble_eq_true rfl)) dX12_order_226 ⟨Nat.le_of_ble_eq_true rfl, Nat.le_of_ble_eq_true rfl⟩) hS (fun q _ h => hFc q h) hFc (fun r277 f279 t H1 locs ht hvm hw278 hB hz1 hk1 hS => ?_)
                    obtain ⟨hT, hF280, hw278r, hw278p⟩ := hw278
                    have hR := hR.then hF280 (by decide)
                    have hP := hB.1; rw [ht] at hP; have hD := tp_ad f279 hD; clear hB hFc hz1 hk1; subst ht; generalize t.heap = H at hP hS ⊢
                    have hw278pq : r277.toInt = z276.toInt := by rw [hw278p]
                    have hf_281 : f279 (ρ h0 2) = .inl (κ 0, 12967, .inl g269) := (hF280 _ (by rw [y1]; decide)).trans hf_o268
                    exact W.iret (v := r277) hx hb hr (fun t ht hW => ⟨⟨r277, f279, rfl, ⟨hT, hR, trivial, (by rw [hf_281, mo_i1]; exact hI)⟩, by rw [ht]; exact hP, va_K.moved hW.alike hK, hD⟩, hS.F ht⟩) hS.2.2 dX12_order_229
                · have ic199 : z198.toInt = 400 := zi_nef rfl rfl c199
                  refine lv_aload_n hx hb dX12_order_126 rfl (lv_at hl 2 rfl) ?_
                  refine lv_bipush (v := (-5)) hx hb dX12_order_127 (by decide) ?_
                  have hFc := tp_fr hD hS hA
                  refine va_calli (va_runV (As := [.int (-5)]) (rest := []) ⟨hx, hb, hml, hown, hts⟩ (t_X12_told l dC dI _ κ τ ν ρ L f30 hG hT h0 ((-5)) ht_h0) (cwV 1 hts gX12_order_X12_told rfl rfl rfl ⟨rfl, pd_X12_told⟩ ⟨Nat.le_of_ble_eq_true rfl, Nat.le_of_ble_eq_true rfl⟩) ⟨pz_blind, va_recv hK hP (ci := 12) (q0 := q176) rfl eq176, pz_pre hP hK hD hN⟩ rfl rfl hl.1 rfl (lv_room (Nat.le_of_ble_eq_true rfl)) dX12_order_129 ⟨Nat.le_of_ble_eq_true rfl, Nat.le_of_ble_eq_true rfl⟩) hS (fun q _ h => hFc q h) hFc (fun r282 f284 t H1 locs ht hvm hw283 hB hz1 hk1 hS => ?_)
                  obtain ⟨hT, hF285, hw283r, hw283p⟩ := hw283
                  have hR := hR.then hF285 (by decide)
                  have hP := hB.1; rw [ht] at hP; have hD := tp_ad f284 hD; clear hB hFc hz1 hk1; subst ht; generalize t.heap = H at hP hS ⊢
                  have hw283pq : r282.toInt = (-5) := by rw [hw283p]; rfl
                  have hf_286 : f284 (ρ h0 2) = .inl (κ 0, 12967, .inl g27) := (hF285 _ (by rw [y1]; decide)).trans hf_33
                  exact W.iret (v := r282) hx hb hr (fun t ht hW => ⟨⟨r282, f284, rfl, ⟨hT, hR, trivial, (by rw [hf_286, mo_i1]; exact hI)⟩, by rw [ht]; exact hP, va_K.moved hW.alike hK, hD⟩, hS.F ht⟩) hS.2.2 dX12_order_132
            · have ic186 : u.toInt = 0 := zi_nef rfl rfl c186
              exfalso; omega
      · have ic165 : u.toInt = 3 := zi_nef rfl rfl c165
        refine lv_iload_n hx hb dX12_order_26 rfl (lv_at hl 3 rfl) ?_
        refine pz_calli (va_runS (As := [.int a]) (rest := []) ⟨hx, hb, hml, hown, hts⟩ (t_X12_isHour l dC dI _ a (a.toInt) rfl) (va_cwS 1 hts gX12_order_X12_isHour rfl rfl rfl pd_X12_isHour ⟨Nat.le_of_ble_eq_true rfl, Nat.le_of_ble_eq_true rfl⟩) ⟨pz_blind, pz_pre pz_P0 (hK.sub (tys' := []) [] rfl) (pz_D0 (A := fun _ => True)) hN⟩ rfl rfl hl.1 rfl (lv_room (Nat.le_of_ble_eq_true rfl)) dX12_order_27 ⟨Nat.le_of_ble_eq_true rfl, Nat.le_of_ble_eq_true rfl⟩) (fun r287 hw288 => ?_)
        obtain ⟨hw288r, hw288p⟩ := hw288
        refine lv_if_eq (tgt := 52) hx hb dX12_order_30 (by decide) (fun c289 => ?_) (fun c289 => ?_)
        · have ic289 : r287.toInt = 0 := zi_eq rfl rfl c289
          refine lv_iconst (v := 0) hx hb dX12_order_52 (by decide) ?_
          refine lv_istore (lv' := [(4, .int 0), (0, .ref h0), (1, .int v), (2, .int u), (3, .int a)]) hx hb dX12_order_53 hl (by decide) rfl (fun ls hl => ?_)
          refine lv_iload hx hb dX12_order_55 (lv_at hl 0 rfl) ?_
          refine lv_if_ne (tgt := 66) hx hb dX12_order_57 (by decide) (fun c9 => absurd c9 (by decide)) (fun _ => ?_)
          refine lv_aload_n hx hb dX12_order_60 rfl (lv_at hl 1 rfl) ?_
          refine lv_iconst (v := (-1)) hx hb dX12_order_61 (by decide) ?_
          obtain ⟨q290, eq290⟩ := tp_pos (tp_in hG ht_h0 (by decide)) g32
          have hFc := tp_fr hD hS hA
          refine va_calli (va_runV (As := [.int (-1)]) (rest := []) ⟨hx, hb, hml, hown, hts⟩ (t_X12_told l dC dI _ κ τ ν ρ L f30 hG hT h0 ((-1)) ht_h0) (cwV 1 hts gX12_order_X12_told rfl rfl rfl ⟨rfl, pd_X12_told⟩ ⟨Nat.le_of_ble_eq_true rfl, Nat.le_of_ble_eq_true rfl⟩) ⟨pz_blind, va_recv hK hP (ci := 12) (q0 := q290) rfl eq290, pz_pre hP hK hD hN⟩ rfl rfl hl.1 rfl (lv_room (Nat.le_of_ble_eq_true rfl)) dX12_order_62 ⟨Nat.le_of_ble_eq_true rfl, Nat.le_of_ble_eq_true rfl⟩) hS (fun q _ h => hFc q h) hFc (fun r291 f293 t H1 locs ht hvm hw292 hB hz1 hk1 hS => ?_)
          obtain ⟨hT, hF294, hw292r, hw292p⟩ := hw292
          have hR := hR.then hF294 (by decide)
          have hP := hB.1; rw [ht] at hP; have hD := tp_ad f293 hD; clear hB hFc hz1 hk1; subst ht; generalize t.heap = H at hP hS ⊢
          have hw292pq : r291.toInt = (-1) := by rw [hw292p]; rfl
          have hf_295 : f293 (ρ h0 2) = .inl (κ 0, 12967, .inl g27) := (hF294 _ (by rw [y1]; decide)).trans hf_33
          exact W.iret (v := r291) hx hb hr (fun t ht hW => ⟨⟨r291, f293, rfl, ⟨hT, hR, trivial, (by rw [hf_295, mo_i1]; exact hI)⟩, by rw [ht]; exact hP, va_K.moved hW.alike hK, hD⟩, hS.F ht⟩) hS.2.2 dX12_order_65
        · have ic289 : r287.toInt ≠ 0 := zi_eqf rfl rfl c289
          have p296 : 0 ≤ (a.toInt) ∧ (a.toInt) ≤ 2399 := (tp_cond.yes hw288p) (by omega)
          refine lv_goto (tgt := 48) hx hb dX12_order_33 (by decide) ?_
          refine lv_iconst (v := 1) hx hb dX12_order_48 (by decide) ?_
          refine lv_goto (tgt := 53) hx hb dX12_order_49 (by decide) ?_
          refine lv_istore (lv' := [(4, .int 1), (0, .ref h0), (1, .int v), (2, .int u), (3, .int a)]) hx hb dX12_order_53 hl (by decide) rfl (fun ls hl => ?_)
          refine lv_iload hx hb dX12_order_55 (lv_at hl 0 rfl) ?_
          refine lv_if_ne (tgt := 66) hx hb dX12_order_57 (by decide) (fun _ => ?_) (fun c9 => absurd c9 (by decide))
          refine lv_aload_n hx hb dX12_order_66 rfl (lv_at hl 1 rfl) ?_
          refine lv_iload_n hx hb dX12_order_67 rfl (lv_at hl 2 rfl) ?_
          obtain ⟨q297, eq297⟩ := tp_pos (tp_in hG ht_h0 (by decide)) g32
          refine pz_calli (va_runV (As := [.int v]) (rest := []) ⟨hx, hb, hml, hown, hts⟩ (t_X12_isShip l dC dI _ κ τ ν ρ L f30 hG hT h0 v (-1) 0 ht_h0 (by omega) (by rw [hf_33, mo_i1]; exact hI)) (cwV 1 hts gX12_order_X12_isShip rfl rfl rfl ⟨rfl, pd_X12_isShip⟩ ⟨Nat.le_of_ble_eq_true rfl, Nat.le_of_ble_eq_true rfl⟩) ⟨pz_blind, va_recv hK hP (ci := 12) (q0 := q297) rfl eq297, pz_pre hP hK hD hN⟩ rfl rfl hl.1 rfl (lv_room (Nat.le_of_ble_eq_true rfl)) dX12_order_68 ⟨Nat.le_of_ble_eq_true rfl, Nat.le_of_ble_eq_true rfl⟩) (fun r298 hw299 => ?_)
          obtain ⟨hw299r, hw299p⟩ := hw299
          have := hI.k1
          rw [hf_33, mo_i1] at hw299p
          refine lv_if_eq (tgt := 86) hx hb dX12_order_71 (by decide) (fun c300 => ?_) (fun c300 => ?_)
          · have ic300 : r298.toInt = 0 := zi_eq rfl rfl c300
            refine lv_aload_n hx hb dX12_order_86 rfl (lv_at hl 1 rfl) ?_
            refine lv_bipush (v := (-2)) hx hb dX12_order_87 (by decide) ?_
            have hFc := tp_fr hD hS hA
            refine va_calli (va_runV (As := [.int (-2)]) (rest := []) ⟨hx, hb, hml, hown, hts⟩ (t_X12_told l dC dI _ κ τ ν ρ L f30 hG hT h0 ((-2)) ht_h0) (cwV 1 hts gX12_order_X12_told rfl rfl rfl ⟨rfl, pd_X12_told⟩ ⟨Nat.le_of_ble_eq_true rfl, Nat.le_of_ble_eq_true rfl⟩) ⟨pz_blind, va_recv hK hP (ci := 12) (q0 := q297) rfl eq297, pz_pre hP hK hD hN⟩ rfl rfl hl.1 rfl (lv_room (Nat.le_of_ble_eq_true rfl)) dX12_order_89 ⟨Nat.le_of_ble_eq_true rfl, Nat.le_of_ble_eq_true rfl⟩) hS (fun q _ h => hFc q h) hFc (fun r301 f303 t H1 locs ht hvm hw302 hB hz1 hk1 hS => ?_)
            obtain ⟨hT, hF304, hw302r, hw302p⟩ := hw302
            have hR := hR.then hF304 (by decide)
            have hP := hB.1; rw [ht] at hP; have hD := tp_ad f303 hD; clear hB hFc hz1 hk1; subst ht; generalize t.heap = H at hP hS ⊢
            have hw302pq : r301.toInt = (-2) := by rw [hw302p]; rfl
            have hf_305 : f303 (ρ h0 2) = .inl (κ 0, 12967, .inl g27) := (hF304 _ (by rw [y1]; decide)).trans hf_33
            exact W.iret (v := r301) hx hb hr (fun t ht hW => ⟨⟨r301, f303, rfl, ⟨hT, hR, trivial, (by rw [hf_305, mo_i1]; exact hI)⟩, by rw [ht]; exact hP, va_K.moved hW.alike hK, hD⟩, hS.F ht⟩) hS.2.2 dX12_order_92
          · have ic300 : r298.toInt ≠ 0 := zi_eqf rfl rfl c300
            have p306 : 0 ≤ v.toInt ∧ v.toInt < mo_R g27 1 := (tp_cond.yes hw299p) (by omega)
            refine lv_iload_n hx hb dX12_order_74 rfl (lv_at hl 3 rfl) ?_
            refine lv_if_ne (tgt := 93) hx hb dX12_order_75 (by decide) (fun c307 => ?_) (fun c307 => ?_)
            · have ic307 : u.toInt ≠ 0 := zi_ne rfl rfl c307
              refine lv_iload_n hx hb dX12_order_93 rfl (lv_at hl 2 rfl) ?_
              refine pz_calli (va_runS (As := [.int v]) (rest := []) ⟨hx, hb, hml, hown, hts⟩ (t_X12_shipAt l dC dI _ v (v.toInt) (by omega) rfl) (va_cwS 1 hts gX12_order_X12_shipAt rfl rfl rfl pd_X12_shipAt ⟨Nat.le_of_ble_eq_true rfl, Nat.le_of_ble_eq_true rfl⟩) ⟨pz_blind, pz_pre pz_P0 (hK.sub (tys' := []) [] rfl) (pz_D0 (A := fun _ => True)) hN⟩ rfl rfl hl.1 rfl (lv_room (Nat.le_of_ble_eq_true rfl)) dX12_order_94 ⟨Nat.le_of_ble_eq_true rfl, Nat.le_of_ble_eq_true rfl⟩) (fun r308 hw309 => ?_)
              obtain ⟨hw309r, hw309p⟩ := hw309
              refine lv_istore (lv' := [(5, .int r308), (4, .int 1), (0, .ref h0), (1, .int v), (2, .int u), (3, .int a)]) hx hb dX12_order_97 hl (by decide) rfl (fun ls hl => ?_)
              refine lv_aload_n hx hb dX12_order_99 rfl (lv_at hl 2 rfl) ?_
              refine va_get (D := (dC, dI)) (ci := 12) (v := .ref (ρ h0 2)) (C := RX12) (T := TX12) (N := 53) hx hb hts hfX12 hown hK hP q297 eq297 rfl 2 (by decide) (hts (.fieldLink RX12 7 "ColdShipsModel" "row" "[I") wa_148) (fun _ h9 => h9) rfl dX12_order_100 ?_
              refine lv_iload hx hb dX12_order_103 (lv_at hl 0 rfl) ?_
              refine lv_bipush (v := 10) hx hb dX12_order_105 (by decide) ?_
              refine lv_iadd hx hb dX12_order_107 ?_
              refine lv_topi (fun z310 ez310 => ?_)
              have iz310 : z310.toInt = r308.toInt + 10 := zi_add ez310 rfl rfl (by omega) (by omega)
              obtain ⟨q311, eq311⟩ := tp_pos (tp_in hG y1 (by decide)) hf_33
              refine va_iald hx hb hK hP q311 0 eq311 rfl (vp_in_iff.mpr ⟨by omega, by omega⟩) dX12_order_108 ?_
              refine lv_topi (fun z312 ez312 => ?_)
              have jz312 : z312.toInt = mo_R g27 (547 + 84 * v.toInt + 10) := mo_rd ez312 (by omega)
              have kz312 := hI.SO (s := v.toInt) (by omega) (by omega)
              refine lv_bipush (v := 20) hx hb dX12_order_109 (by decide) ?_
              refine lv_icmp_eq (tgt := 126) hx hb dX12_order_111 (by decide) (fun c313 => ?_) (fun c313 => ?_)
              · have ic313 : z312.toInt = 20 := zi_eq rfl rfl c313
                refine lv_aload_n hx hb dX12_order_126 rfl (lv_at hl 2 rfl) ?_
                refine lv_bipush (v := (-5)) hx hb dX12_order_127 (by decide) ?_
                have hFc := tp_fr hD hS hA
                refine va_calli (va_runV (As := [.int (-5)]) (rest := []) ⟨hx, hb, hml, hown, hts⟩ (t_X12_told l dC dI _ κ τ ν ρ L f30 hG hT h0 ((-5)) ht_h0) (cwV 1 hts gX12_order_X12_told rfl rfl rfl ⟨rfl, pd_X12_told⟩ ⟨Nat.le_of_ble_eq_true rfl, Nat.le_of_ble_eq_true rfl⟩) ⟨pz_blind, va_recv hK hP (ci := 12) (q0 := q297) rfl eq297, pz_pre hP hK hD hN⟩ rfl rfl hl.1 rfl (lv_room (Nat.le_of_ble_eq_true rfl)) dX12_order_129 ⟨Nat.le_of_ble_eq_true rfl, Nat.le_of_ble_eq_true rfl⟩) hS (fun q _ h => hFc q h) hFc (fun r314 f316 t H1 locs ht hvm hw315 hB hz1 hk1 hS => ?_)
                obtain ⟨hT, hF317, hw315r, hw315p⟩ := hw315
                have hR := hR.then hF317 (by decide)
                have hP := hB.1; rw [ht] at hP; have hD := tp_ad f316 hD; clear hB hFc hz1 hk1; subst ht; generalize t.heap = H at hP hS ⊢
                have hw315pq : r314.toInt = (-5) := by rw [hw315p]; rfl
                have hf_318 : f316 (ρ h0 2) = .inl (κ 0, 12967, .inl g27) := (hF317 _ (by rw [y1]; decide)).trans hf_33
                exact W.iret (v := r314) hx hb hr (fun t ht hW => ⟨⟨r314, f316, rfl, ⟨hT, hR, trivial, (by rw [hf_318, mo_i1]; exact hI)⟩, by rw [ht]; exact hP, va_K.moved hW.alike hK, hD⟩, hS.F ht⟩) hS.2.2 dX12_order_132
              · have ic313 : z312.toInt ≠ 20 := zi_eqf rfl rfl c313
                refine lv_aload_n hx hb dX12_order_114 rfl (lv_at hl 2 rfl) ?_
                refine va_get (D := (dC, dI)) (ci := 12) (v := .ref (ρ h0 2)) (C := RX12) (T := TX12) (N := 53) hx hb hts hfX12 hown hK hP q297 eq297 rfl 2 (by decide) (hts (.fieldLink RX12 7 "ColdShipsModel" "row" "[I") wa_148) (fun _ h9 => h9) rfl dX12_order_115 ?_
                refine lv_iconst (v := 4) hx hb dX12_order_118 (by decide) ?_
                refine va_iald hx hb hK hP q311 0 eq311 rfl (vp_in_iff.mpr ⟨by decide, by decide⟩) dX12_order_119 ?_
                refine lv_topi (fun z319 ez319 => ?_)
                refine lv_sipush (v := 400) hx hb dX12_order_120 (by decide) ?_
                refine lv_icmp_ne (tgt := 133) hx hb dX12_order_123 (by decide) (fun c320 => ?_) (fun c320 => ?_)
                · have ic320 : z319.toInt ≠ 400 := zi_ne rfl rfl c320
                  refine lv_iload hx hb dX12_order_133 (lv_at hl 0 rfl) ?_
                  refine lv_bipush (v := 44) hx hb dX12_order_135 (by decide) ?_
                  refine lv_iadd hx hb dX12_order_137 ?_
                  refine lv_topi (fun z321 ez321 => ?_)
                  have iz321 : z321.toInt = r308.toInt + 44 := zi_add ez321 rfl rfl (by omega) (by omega)
                  refine lv_iconst (v := 2) hx hb dX12_order_138 (by decide) ?_
                  refine lv_aload_n hx hb dX12_order_139 rfl (lv_at hl 2 rfl) ?_
                  refine va_get (D := (dC, dI)) (ci := 12) (v := .ref (ρ h0 2)) (C := RX12) (T := TX12) (N := 53) hx hb hts hfX12 hown hK hP q297 eq297 rfl 2 (by decide) (hts (.fieldLink RX12 7 "ColdShipsModel" "row" "[I") wa_148) (fun _ h9 => h9) rfl dX12_order_140 ?_
                  refine lv_iload hx hb dX12_order_143 (lv_at hl 0 rfl) ?_
                  refine lv_bipush (v := 10) hx hb dX12_order_145 (by decide) ?_
                  refine lv_iadd hx hb dX12_order_147 ?_
                  refine lv_topi (fun z322 ez322 => ?_)
                  have iz322 : z322.toInt = r308.toInt + 10 := zi_add ez322 rfl rfl (by omega) (by omega)
                  refine va_iald hx hb hK hP q311 0 eq311 rfl (vp_in_iff.mpr ⟨by omega, by omega⟩) dX12_order_148 ?_
                  refine lv_topi (fun z323 ez323 => ?_)
                  have jz323 : z323.toInt = mo_R g27 (547 + 84 * v.toInt + 10) := mo_rd ez323 (by omega)
                  have kz323 := hI.SO (s := v.toInt) (by omega) (by omega)
                  refine lv_imul hx hb dX12_order_149 ?_
                  refine lv_topi (fun z324 ez324 => ?_)
                  have iz324 : z324.toInt = 2 * z323.toInt := zi_mul ez324 rfl rfl (by omega) (by omega)
                  refine lv_iadd hx hb dX12_order_150 ?_
                  refine lv_topi (fun z325 ez325 => ?_)
                  have iz325 : z325.toInt = z321.toInt + z324.toInt := zi_add ez325 rfl rfl (by omega) (by omega)
                  refine lv_istore (lv' := [(6, .int z325), (5, .int r308), (4, .int 1), (0, .ref h0), (1, .int v), (2, .int u), (3, .int a)]) hx hb dX12_order_151 hl (by decide) rfl (fun ls hl => ?_)
                  refine lv_aload_n hx hb dX12_order_153 rfl (lv_at hl 3 rfl) ?_
                  refine va_get (D := (dC, dI)) (ci := 12) (v := .ref (ρ h0 2)) (C := RX12) (T := TX12) (N := 53) hx hb hts hfX12 hown hK hP q297 eq297 rfl 2 (by decide) (hts (.fieldLink RX12 7 "ColdShipsModel" "row" "[I") wa_148) (fun _ h9 => h9) rfl dX12_order_154 ?_
                  refine lv_iload hx hb dX12_order_157 (lv_at hl 0 rfl) ?_
                  refine lv_iload_n hx hb dX12_order_159 rfl (lv_at hl 5 rfl) ?_
                  refine va_iast hx hb hK hP hD hS q311 0 eq311 rfl (vp_in_iff.mpr ⟨by omega, by omega⟩) dX12_order_160 (tp_k (.inl (κ 0, 12967, .inl (upd g27 z325.toNatClampNeg u))) hD (tp_in hG y1 (by decide)) eq311 (fun f326 H locs hP hD hS g328 k327 => ?_))
                  have hT := hT.up y1 g328 k327 tp_o32
                  have hR := hR.up y1 (by decide) k327
                  have hU : mo_U (mo_R g27) (mo_R (upd g27 z325.toNatClampNeg u)) (547 + 84 * v.toInt + 44 + 2 * z312.toInt) (u.toInt) := mo_up (by omega) (rfl : u.toInt = _) (by omega)
                  generalize (upd g27 z325.toNatClampNeg u) = g329 at g328 hU
                  have hI := mo_w_ord hI hU v.toInt (0 + 2 * z312.toInt) (by omega) (by omega) (by omega)
                  have pn330 : mo_R g329 (1) = n1 := (hU.ne (by omega) (by omega)).trans en1.symm
                  have pn331 : mo_R g329 (547 + 84 * v.toInt + 10) = z312.toInt := (hU.ne (by omega) (by omega)).trans (jz312).symm
                  have pn332 : mo_R g329 (547 + 84 * v.toInt + 44 + 2 * z312.toInt) = u.toInt := hU.eq (by omega)
                  refine lv_aload_n hx hb dX12_order_161 rfl (lv_at hl 3 rfl) ?_
                  have hf_333 : f326 h0 = .inr (12, [.int 0, .int o28_x1, .ref (ρ h0 2), .ref (ρ h0 3), .ref (ρ h0 4), .ref (ρ h0 5), .ref (ρ h0 6), .int o28_x7, .ref (ρ h0 8), .int o28_x9, .int o28_x10, .int o28_x11, .int o28_x12, .long o28_x13, .int o28_x14, .int o28_x15, .int o28_x16, .int o28_x17, .int o28_x18, .int o28_x19, .int o28_x20, .ref (ρ h0 21), .int o28_x22, .ref (ρ h0 23), .ref (ρ h0 24), .int o28_x25, .ref (ρ h0 26), .ref (ρ h0 27), .int o28_x28, .int o28_x29, .ref (ρ h0 30), .ref (ρ h0 31), .int o28_x32, .long o28_x33, .long o28_x34, .long o28_x35, .int o28_x36, .int o28_x37, .int o28_x38, .ref (ρ h0 39), .ref (ρ h0 40), .ref (ρ h0 41), .ref (ρ h0 42), .ref (ρ h0 43), .ref (ρ h0 44), .ref (ρ h0 45), .ref (ρ h0 46), .int o28_x47, .int o28_x48, .ref (ρ h0 49), .ref (ρ h0 50), .ref (ρ h0 51), .ref (ρ h0 52)]) := (k327 _ (tp_ne ht_h0 y1 (by decide))).trans g32
                  obtain ⟨q334, eq334⟩ := tp_pos (tp_in hG ht_h0 (by decide)) hf_333
                  refine va_get (D := (dC, dI)) (ci := 12) (v := .ref (ρ h0 2)) (C := RX12) (T := TX12) (N := 53) hx hb hts hfX12 hown hK hP q334 eq334 rfl 2 (by decide) (hts (.fieldLink RX12 7 "ColdShipsModel" "row" "[I") wa_148) (fun _ h9 => h9) rfl dX12_order_162 ?_
                  refine lv_iload hx hb dX12_order_165 (lv_at hl 0 rfl) ?_
                  refine lv_iconst (v := 1) hx hb dX12_order_167 (by decide) ?_
                  refine lv_iadd hx hb dX12_order_168 ?_
                  refine lv_topi (fun z335 ez335 => ?_)
                  have iz335 : z335.toInt = z325.toInt + 1 := zi_add ez335 rfl rfl (by omega) (by omega)
                  refine lv_iload_n hx hb dX12_order_169 rfl (lv_at hl 6 rfl) ?_
                  obtain ⟨q336, eq336⟩ := tp_pos (tp_in hG y1 (by decide)) g328
                  refine va_iast hx hb hK hP hD hS q336 0 eq336 rfl (vp_in_iff.mpr ⟨by omega, by omega⟩) dX12_order_170 (tp_k (.inl (κ 0, 12967, .inl (upd g329 z335.toNatClampNeg a))) hD (tp_in hG y1 (by decide)) eq336 (fun f337 H locs hP hD hS g339 k338 => ?_))
                  have hT := hT.up y1 g339 k338 tp_o32
                  have hR := hR.up y1 (by decide) k338
                  have hU : mo_U (mo_R g329) (mo_R (upd g329 z335.toNatClampNeg a)) (547 + 84 * v.toInt + 45 + 2 * z312.toInt) (a.toInt) := mo_up (by omega) (rfl : a.toInt = _) (by omega)
                  generalize (upd g329 z335.toNatClampNeg a) = g340 at g339 hU
                  have hI := mo_w_ord hI hU v.toInt (1 + 2 * z312.toInt) (by omega) (by omega) (by omega)
                  have pn341 : mo_R g340 (1) = n1 := (hU.ne (by omega) (by omega)).trans pn330
                  have pn342 : mo_R g340 (547 + 84 * v.toInt + 10) = z312.toInt := (hU.ne (by omega) (by omega)).trans pn331
                  have pn343 : mo_R g340 (547 + 84 * v.toInt + 44 + 2 * z312.toInt) = u.toInt := (hU.ne (by omega) (by omega)).trans pn332
                  have pn344 : mo_R g340 (547 + 84 * v.toInt + 45 + 2 * z312.toInt) = a.toInt := hU.eq (by omega)
                  refine lv_aload_n hx hb dX12_order_171 rfl (lv_at hl 3 rfl) ?_
                  have hf_345 : f337 h0 = .inr (12, [.int 0, .int o28_x1, .ref (ρ h0 2), .ref (ρ h0 3), .ref (ρ h0 4), .ref (ρ h0 5), .ref (ρ h0 6), .int o28_x7, .ref (ρ h0 8), .int o28_x9, .int o28_x10, .int o28_x11, .int o28_x12, .long o28_x13, .int o28_x14, .int o28_x15, .int o28_x16, .int o28_x17, .int o28_x18, .int o28_x19, .int o28_x20, .ref (ρ h0 21), .int o28_x22, .ref (ρ h0 23), .ref (ρ h0 24), .int o28_x25, .ref (ρ h0 26), .ref (ρ h0 27), .int o28_x28, .int o28_x29, .ref (ρ h0 30), .ref (ρ h0 31), .int o28_x32, .long o28_x33, .long o28_x34, .long o28_x35, .int o28_x36, .int o28_x37, .int o28_x38, .ref (ρ h0 39), .ref (ρ h0 40), .ref (ρ h0 41), .ref (ρ h0 42), .ref (ρ h0 43), .ref (ρ h0 44), .ref (ρ h0 45), .ref (ρ h0 46), .int o28_x47, .int o28_x48, .ref (ρ h0 49), .ref (ρ h0 50), .ref (ρ h0 51), .ref (ρ h0 52)]) := (k338 _ (tp_ne ht_h0 y1 (by decide))).trans hf_333
                  obtain ⟨q346, eq346⟩ := tp_pos (tp_in hG ht_h0 (by decide)) hf_345
                  refine va_get (D := (dC, dI)) (ci := 12) (v := .ref (ρ h0 2)) (C := RX12) (T := TX12) (N := 53) hx hb hts hfX12 hown hK hP q346 eq346 rfl 2 (by decide) (hts (.fieldLink RX12 7 "ColdShipsModel" "row" "[I") wa_148) (fun _ h9 => h9) rfl dX12_order_172 ?_
                  refine lv_iload hx hb dX12_order_175 (lv_at hl 1 rfl) ?_
                  refine lv_bipush (v := 10) hx hb dX12_order_177 (by decide) ?_
                  refine lv_iadd hx hb dX12_order_179 ?_
                  refine lv_topi (fun z347 ez347 => ?_)
                  have iz347 : z347.toInt = r308.toInt + 10 := zi_add ez347 rfl rfl (by omega) (by omega)
                  refine lv_dup2_11 hx hb dX12_order_180 rfl rfl ?_
                  obtain ⟨q348, eq348⟩ := tp_pos (tp_in hG y1 (by decide)) g339
                  refine va_iald hx hb hK hP q348 0 eq348 rfl (vp_in_iff.mpr ⟨by omega, by omega⟩) dX12_order_181 ?_
                  refine lv_topi (fun z349 ez349 => ?_)
                  have jz349 : z349.toInt = mo_R g340 (547 + 84 * v.toInt + 10) := mo_rd ez349 (by omega)
                  have kz349 := hI.SO (s := v.toInt) (by omega) (by omega)
                  refine lv_iconst (v := 1) hx hb dX12_order_182 (by decide) ?_
                  refine lv_iadd hx hb dX12_order_183 ?_
                  refine lv_topi (fun z350 ez350 => ?_)
                  have iz350 : z350.toInt = z349.toInt + 1 := zi_add ez350 rfl rfl (by omega) (by omega)
                  refine va_iast hx hb hK hP hD hS q348 0 eq348 rfl (vp_in_iff.mpr ⟨by omega, by omega⟩) dX12_order_184 (tp_k (.inl (κ 0, 12967, .inl (upd g340 z347.toNatClampNeg z350))) hD (tp_in hG y1 (by decide)) eq348 (fun f351 H locs hP hD hS g353 k352 => ?_))
                  have hT := hT.up y1 g353 k352 tp_o32
                  have hR := hR.up y1 (by decide) k352
                  have hU : mo_U (mo_R g340) (mo_R (upd g340 z347.toNatClampNeg z350)) (547 + 84 * v.toInt + 10) (z350.toInt) := mo_up (by omega) (rfl : z350.toInt = _) (by omega)
                  generalize (upd g340 z347.toNatClampNeg z350) = g354 at g353 hU
                  have hI := mo_w_ORDS hI hU v.toInt (z312.toInt) (by omega) (by omega) pn342 (by omega) (by omega)
                  have pn355 : mo_R g354 (1) = n1 := (hU.ne (by omega) (by omega)).trans pn341
                  have pn356 : mo_R g354 (547 + 84 * v.toInt + 44 + 2 * z312.toInt) = u.toInt := (hU.ne (by omega) (by omega)).trans pn343
                  have pn357 : mo_R g354 (547 + 84 * v.toInt + 45 + 2 * z312.toInt) = a.toInt := (hU.ne (by omega) (by omega)).trans pn344
                  have pn358 : mo_R g354 (547 + 84 * v.toInt + 10) = z350.toInt := hU.eq (by omega)
                  refine lv_aload_n hx hb dX12_order_185 rfl (lv_at hl 3 rfl) ?_
                  have hf_359 : f351 h0 = .inr (12, [.int 0, .int o28_x1, .ref (ρ h0 2), .ref (ρ h0 3), .ref (ρ h0 4), .ref (ρ h0 5), .ref (ρ h0 6), .int o28_x7, .ref (ρ h0 8), .int o28_x9, .int o28_x10, .int o28_x11, .int o28_x12, .long o28_x13, .int o28_x14, .int o28_x15, .int o28_x16, .int o28_x17, .int o28_x18, .int o28_x19, .int o28_x20, .ref (ρ h0 21), .int o28_x22, .ref (ρ h0 23), .ref (ρ h0 24), .int o28_x25, .ref (ρ h0 26), .ref (ρ h0 27), .int o28_x28, .int o28_x29, .ref (ρ h0 30), .ref (ρ h0 31), .int o28_x32, .long o28_x33, .long o28_x34, .long o28_x35, .int o28_x36, .int o28_x37, .int o28_x38, .ref (ρ h0 39), .ref (ρ h0 40), .ref (ρ h0 41), .ref (ρ h0 42), .ref (ρ h0 43), .ref (ρ h0 44), .ref (ρ h0 45), .ref (ρ h0 46), .int o28_x47, .int o28_x48, .ref (ρ h0 49), .ref (ρ h0 50), .ref (ρ h0 51), .ref (ρ h0 52)]) := (k352 _ (tp_ne ht_h0 y1 (by decide))).trans hf_345
                  obtain ⟨q360, eq360⟩ := tp_pos (tp_in hG ht_h0 (by decide)) hf_359
                  refine va_get (D := (dC, dI)) (ci := 12) (v := .ref (ρ h0 2)) (C := RX12) (T := TX12) (N := 53) hx hb hts hfX12 hown hK hP q360 eq360 rfl 2 (by decide) (hts (.fieldLink RX12 7 "ColdShipsModel" "row" "[I") wa_148) (fun _ h9 => h9) rfl dX12_order_186 ?_
                  refine lv_iconst (v := 4) hx hb dX12_order_189 (by decide) ?_
                  refine lv_dup2_11 hx hb dX12_order_190 rfl rfl ?_
                  obtain ⟨q361, eq361⟩ := tp_pos (tp_in hG y1 (by decide)) g353
                  refine va_iald hx hb hK hP q361 0 eq361 rfl (vp_in_iff.mpr ⟨by decide, by decide⟩) dX12_order_191 ?_
                  refine lv_topi (fun z362 ez362 => ?_)
                  refine lv_iconst (v := 1) hx hb dX12_order_192 (by decide) ?_
                  refine lv_iadd hx hb dX12_order_193 ?_
                  refine lv_topi (fun z363 ez363 => ?_)
                  refine va_iast hx hb hK hP hD hS q361 0 eq361 rfl (vp_in_iff.mpr ⟨by decide, by decide⟩) dX12_order_194 (tp_k (.inl (κ 0, 12967, .inl (upd g354 (4 : Int32).toNatClampNeg z363))) hD (tp_in hG y1 (by decide)) eq361 (fun f364 H locs hP hD hS g366 k365 => ?_))
                  have hT := hT.up y1 g366 k365 tp_o32
                  have hR := hR.up y1 (by decide) k365
                  have hU : mo_U (mo_R g354) (mo_R (upd g354 (4 : Int32).toNatClampNeg z363)) (4) (z363.toInt) := mo_up (show (4 : Int32).toInt = (4) from by decide) (rfl : z363.toInt = _) (by omega)
                  generalize (upd g354 (4 : Int32).toNatClampNeg z363) = g367 at g366 hU
                  have hI := mo_w_flat hI hU (by omega)
                  have pn368 : mo_R g367 (1) = n1 := (hU.ne (by omega) (by omega)).trans pn355
                  have pn369 : mo_R g367 (547 + 84 * v.toInt + 44 + 2 * z312.toInt) = u.toInt := (hU.ne (by omega) (by omega)).trans pn356
                  have pn370 : mo_R g367 (547 + 84 * v.toInt + 45 + 2 * z312.toInt) = a.toInt := (hU.ne (by omega) (by omega)).trans pn357
                  have pn371 : mo_R g367 (547 + 84 * v.toInt + 10) = z350.toInt := (hU.ne (by omega) (by omega)).trans pn358
                  refine lv_aload_n hx hb dX12_order_195 rfl (lv_at hl 3 rfl) ?_
                  have hf_372 : f364 h0 = .inr (12, [.int 0, .int o28_x1, .ref (ρ h0 2), .ref (ρ h0 3), .ref (ρ h0 4), .ref (ρ h0 5), .ref (ρ h0 6), .int o28_x7, .ref (ρ h0 8), .int o28_x9, .int o28_x10, .int o28_x11, .int o28_x12, .long o28_x13, .int o28_x14, .int o28_x15, .int o28_x16, .int o28_x17, .int o28_x18, .int o28_x19, .int o28_x20, .ref (ρ h0 21), .int o28_x22, .ref (ρ h0 23), .ref (ρ h0 24), .int o28_x25, .ref (ρ h0 26), .ref (ρ h0 27), .int o28_x28, .int o28_x29, .ref (ρ h0 30), .ref (ρ h0 31), .int o28_x32, .long o28_x33, .long o28_x34, .long o28_x35, .int o28_x36, .int o28_x37, .int o28_x38, .ref (ρ h0 39), .ref (ρ h0 40), .ref (ρ h0 41), .ref (ρ h0 42), .ref (ρ h0 43), .ref (ρ h0 44), .ref (ρ h0 45), .ref (ρ h0 46), .int o28_x47, .int o28_x48, .ref (ρ h0 49), .ref (ρ h0 50), .ref (ρ h0 51), .ref (ρ h0 52)]) := (k365 _ (tp_ne ht_h0 y1 (by decide))).trans hf_359
                  obtain ⟨q373, eq373⟩ := tp_pos (tp_in hG ht_h0 (by decide)) hf_372
                  refine va_get (D := (dC, dI)) (ci := 12) (v := .ref (ρ h0 2)) (C := RX12) (T := TX12) (N := 53) hx hb hts hfX12 hown hK hP q373 eq373 rfl 2 (by decide) (hts (.fieldLink RX12 7 "ColdShipsModel" "row" "[I") wa_148) (fun _ h9 => h9) rfl dX12_order_196 ?_
                  refine lv_iload hx hb dX12_order_199 (lv_at hl 1 rfl) ?_
                  refine lv_bipush (v := 10) hx hb dX12_order_201 (by decide) ?_
                  refine lv_iadd hx hb dX12_order_203 ?_
                  refine lv_topi (fun z374 ez374 => ?_)
                  have iz374 : z374.toInt = r308.toInt + 10 := zi_add ez374 rfl rfl (by omega) (by omega)
                  obtain ⟨q375, eq375⟩ := tp_pos (tp_in hG y1 (by decide)) g366
                  refine va_iald hx hb hK hP q375 0 eq375 rfl (vp_in_iff.mpr ⟨by omega, by omega⟩) dX12_order_204 ?_
                  refine lv_topi (fun z376 ez376 => ?_)
                  have jz376 : z376.toInt = mo_R g367 (547 + 84 * v.toInt + 10) := mo_rd ez376 (by omega)
                  have kz376 := hI.SO (s := v.toInt) (by omega) (by omega)
                  refine lv_iconst (v := 1) hx hb dX12_order_205 (by decide) ?_
                  refine lv_icmp_ne (tgt := 215) hx hb dX12_order_206 (by decide) (fun c377 => ?_) (fun c377 => ?_)
                  · have ic377 : z376.toInt ≠ 1 := zi_ne rfl rfl c377
                    refine lv_aload_n hx hb dX12_order_215 rfl (lv_at hl 3 rfl) ?_
                    refine lv_aload_n hx hb dX12_order_216 rfl (lv_at hl 3 rfl) ?_
                    refine va_get (D := (dC, dI)) (ci := 12) (v := .ref (ρ h0 2)) (C := RX12) (T := TX12) (N := 53) hx hb hts hfX12 hown hK hP q373 eq373 rfl 2 (by decide) (hts (.fieldLink RX12 7 "ColdShipsModel" "row" "[I") wa_148) (fun _ h9 => h9) rfl dX12_order_217 ?_
                    refine lv_iload hx hb dX12_order_220 (lv_at hl 1 rfl) ?_
                    refine lv_bipush (v := 10) hx hb dX12_order_222 (by decide) ?_
                    refine lv_iadd hx hb dX12_order_224 ?_
                    refine lv_topi (fun z378 ez378 => ?_)
                    have iz378 : z378.toInt = r308.toInt + 10 := zi_add ez378 rfl rfl (by omega) (by omega)
                    refine va_iald hx hb hK hP q375 0 eq375 rfl (vp_in_iff.mpr ⟨by omega, by omega⟩) dX12_order_225 ?_
                    refine lv_topi (fun z379 ez379 => ?_)
                    have jz379 : z379.toInt = mo_R g367 (547 + 84 * v.toInt + 10) := mo_rd ez379 (by omega)
                    have kz379 := hI.SO (s := v.toInt) (by omega) (by omega)
                    have hFc := tp_fr hD hS hA
                    refine va_calli (va_runV (As := [.int z379]) (rest := []) ⟨hx, hb, hml, hown, hts⟩ (t_X12_told l dC dI _ κ τ ν ρ L f364 hG hT h0 z379 ht_h0) (cwV 1 hts gX12_order_X12_told rfl rfl rfl ⟨rfl, pd_X12_told⟩ ⟨Nat.le_of_ble_eq_true rfl, Nat.le_of_ble_eq_true rfl⟩) ⟨pz_blind, va_recv hK hP (ci := 12) (q0 := q373) rfl eq373, pz_pre hP hK hD hN⟩ rfl rfl hl.1 rfl (lv_room (Nat.le_of_ble_eq_true rfl)) dX12_order_226 ⟨Nat.le_of_ble_eq_true rfl, Nat.le_of_ble_eq_true rfl⟩) hS (fun q _ h => hFc q h) hFc (fun r380 f382 t H1 locs ht hvm hw381 hB hz1 hk1 hS => ?_)
                    obtain ⟨hT, hF383, hw381r, hw381p⟩ := hw381
                    have hR := hR.then hF383 (by decide)
                    have hP := hB.1; rw [ht] at hP; have hD := tp_ad f382 hD; clear hB hFc hz1 hk1; subst ht; generalize t.heap = H at hP hS ⊢
                    have hw381pq : r380.toInt = z379.toInt := by rw [hw381p]
                    have hf_384 : f382 (ρ h0 2) = .inl (κ 0, 12967, .inl g367) := (hF383 _ (by rw [y1]; decide)).trans g366
                    exact W.iret (v := r380) hx hb hr (fun t ht hW => ⟨⟨r380, f382, rfl, ⟨hT, hR, trivial, (by rw [hf_384, mo_i1]; exact hI)⟩, by rw [ht]; exact hP, va_K.moved hW.alike hK, hD⟩, hS.F ht⟩) hS.2.2 dX12_order_229
                  · have ic377 : z376.toInt = 1 := zi_nef rfl rfl c377
                    refine lv_aload_n hx hb dX12_order_209 rfl (lv_at hl 3 rfl) ?_
                    refine lv_iload hx hb dX12_order_210 (lv_at hl 1 rfl) ?_
                    have hFc := tp_fr hD hS hA
                    refine va_callv (va_runV (As := [.int r308]) (rest := []) ⟨hx, hb, hml, hown, hts⟩ (t_X12_beginOrder l dC dI _ κ τ ν ρ L f364 hG hT h0 r308 (-1) 0 v.toInt ht_h0 (by omega) (by omega) (by omega) (by rw [g366, mo_i1]; exact hI) (by first | (simp only [g366, hf_o26, mo_i1]; omega) | simp only [g366, hf_o26, mo_i1] | omega)) (cwV 1 hts gX12_order_X12_beginOrder rfl rfl rfl ⟨rfl, pd_X12_beginOrder⟩ ⟨Nat.le_of_ble_eq_true rfl, Nat.le_of_ble_eq_true rfl⟩) ⟨pz_blind, va_recv hK hP (ci := 12) (q0 := q373) rfl eq373, pz_pre hP hK hD hN⟩ rfl rfl hl.1 rfl (lv_room (Nat.le_of_ble_eq_true rfl)) dX12_order_212 ⟨Nat.le_of_ble_eq_true rfl, Nat.le_of_ble_eq_true rfl⟩) hS (fun q _ h => hFc q h) hFc (fun f387 t H1 locs ht hvm hw386 hB hz1 hk1 hS => ?_)
                    obtain ⟨hT, hF388, hw386p⟩ := hw386
                    have hR := hR.then hF388 (by decide)
                    have hP := hB.1; rw [ht] at hP; have hD := tp_ad f387 hD; clear hB hFc hz1 hk1; subst ht; generalize t.heap = H at hP hS ⊢
                    obtain ⟨hJ, hw386pe⟩ := hw386p
                    obtain ⟨g390, hf_o389⟩ := tpo_32 hT y1
                    have hI : mo_RI (-1) 0 (mo_R g390) := by have q9 := hJ; rw [hf_o389, mo_i1] at q9; exact q9
                    rw [g366, mo_i1] at hw386pe
                    rw [hf_o389, mo_i1] at hw386pe
                    have pn391 : mo_R g390 (1) = n1 := (hw386pe.1).trans pn368
                    have pn392 : mo_R g390 (547 + 84 * v.toInt + 10) = z350.toInt := (hw386pe.2.2).trans pn371
                    refine lv_aload_n hx hb dX12_order_215 rfl (lv_at hl 3 rfl) ?_
                    refine lv_aload_n hx hb dX12_order_216 rfl (lv_at hl 3 rfl) ?_
                    have hf_393 : f387 h0 = .inr (12, [.int 0, .int o28_x1, .ref (ρ h0 2), .ref (ρ h0 3), .ref (ρ h0 4), .ref (ρ h0 5), .ref (ρ h0 6), .int o28_x7, .ref (ρ h0 8), .int o28_x9, .int o28_x10, .int o28_x11, .int o28_x12, .long o28_x13, .int o28_x14, .int o28_x15, .int o28_x16, .int o28_x17, .int o28_x18, .int o28_x19, .int o28_x20, .ref (ρ h0 21), .int o28_x22, .ref (ρ h0 23), .ref (ρ h0 24), .int o28_x25, .ref (ρ h0 26), .ref (ρ h0 27), .int o28_x28, .int o28_x29, .ref (ρ h0 30), .ref (ρ h0 31), .int o28_x32, .long o28_x33, .long o28_x34, .long o28_x35, .int o28_x36, .int o28_x37, .int o28_x38, .ref (ρ h0 39), .ref (ρ h0 40), .ref (ρ h0 41), .ref (ρ h0 42), .ref (ρ h0 43), .ref (ρ h0 44), .ref (ρ h0 45), .ref (ρ h0 46), .int o28_x47, .int o28_x48, .ref (ρ h0 49), .ref (ρ h0 50), .ref (ρ h0 51), .ref (ρ h0 52)]) := (hF388 _ (by rw [ht_h0]; decide)).trans hf_372
                    obtain ⟨q394, eq394⟩ := tp_pos (tp_in hG ht_h0 (by decide)) hf_393
                    refine va_get (D := (dC, dI)) (ci := 12) (v := .ref (ρ h0 2)) (C := RX12) (T := TX12) (N := 53) hx hb hts hfX12 hown hK hP q394 eq394 rfl 2 (by decide) (hts (.fieldLink RX12 7 "ColdShipsModel" "row" "[I") wa_148) (fun _ h9 => h9) rfl dX12_order_217 ?_
                    refine lv_iload hx hb dX12_order_220 (lv_at hl 1 rfl) ?_
                    refine lv_bipush (v := 10) hx hb dX12_order_222 (by decide) ?_
                    refine lv_iadd hx hb dX12_order_224 ?_
                    refine lv_topi (fun z395 ez395 => ?_)
                    have iz395 : z395.toInt = r308.toInt + 10 := zi_add ez395 rfl rfl (by omega) (by omega)
                    obtain ⟨q396, eq396⟩ := tp_pos (tp_in hG y1 (by decide)) hf_o389
                    refine va_iald hx hb hK hP q396 0 eq396 rfl (vp_in_iff.mpr ⟨by omega, by omega⟩) dX12_order_225 ?_
                    refine lv_topi (fun z397 ez397 => ?_)
                    have jz397 : z397.toInt = mo_R g390 (547 + 84 * v.toInt + 10) := mo_rd ez397 (by omega)
                    have kz397 := hI.SO (s := v.toInt) (by omega) (by omega)
                    have hFc := tp_fr hD hS hA
                    refine va_calli (va_runV (As := [.int z397]) (rest := []) ⟨hx, hb, hml, hown, hts⟩ (t_X12_told l dC dI _ κ τ ν ρ L f387 hG hT h0 z397 ht_h0) (cwV 1 hts gX12_order_X12_told rfl rfl rfl ⟨rfl, pd_X12_told⟩ ⟨Nat.le_of_ble_eq_true rfl, Nat.le_of_ble_eq_true rfl⟩) ⟨pz_blind, va_recv hK hP (ci := 12) (q0 := q394) rfl eq394, pz_pre hP hK hD hN⟩ rfl rfl hl.1 rfl (lv_room (Nat.le_of_ble_eq_true rfl)) dX12_order_226 ⟨Nat.le_of_ble_eq_true rfl, Nat.le_of_ble_eq_true rfl⟩) hS (fun q _ h => hFc q h) hFc (fun r398 f400 t H1 locs ht hvm hw399 hB hz1 hk1 hS => ?_)
                    obtain ⟨hT, hF401, hw399r, hw399p⟩ := hw399
                    have hR := hR.then hF401 (by decide)
                    have hP := hB.1; rw [ht] at hP; have hD := tp_ad f400 hD; clear hB hFc hz1 hk1; subst ht; generalize t.heap = H at hP hS ⊢
                    have hw399pq : r398.toInt = z397.toInt := by rw [hw399p]
                    have hf_402 : f400 (ρ h0 2) = .inl (κ 0, 12967, .inl g390) := (hF401 _ (by rw [y1]; decide)).trans hf_o389
                    exact W.iret (v := r398) hx hb hr (fun t ht hW => ⟨⟨r398, f400, rfl, ⟨hT, hR, trivial, (by rw [hf_402, mo_i1]; exact hI)⟩, by rw [ht]; exact hP, va_K.moved hW.alike hK, hD⟩, hS.F ht⟩) hS.2.2 dX12_order_229
                · have ic320 : z319.toInt = 400 := zi_nef rfl rfl c320
                  refine lv_aload_n hx hb dX12_order_126 rfl (lv_at hl 2 rfl) ?_
                  refine lv_bipush (v := (-5)) hx hb dX12_order_127 (by decide) ?_
                  have hFc := tp_fr hD hS hA
                  refine va_calli (va_runV (As := [.int (-5)]) (rest := []) ⟨hx, hb, hml, hown, hts⟩ (t_X12_told l dC dI _ κ τ ν ρ L f30 hG hT h0 ((-5)) ht_h0) (cwV 1 hts gX12_order_X12_told rfl rfl rfl ⟨rfl, pd_X12_told⟩ ⟨Nat.le_of_ble_eq_true rfl, Nat.le_of_ble_eq_true rfl⟩) ⟨pz_blind, va_recv hK hP (ci := 12) (q0 := q297) rfl eq297, pz_pre hP hK hD hN⟩ rfl rfl hl.1 rfl (lv_room (Nat.le_of_ble_eq_true rfl)) dX12_order_129 ⟨Nat.le_of_ble_eq_true rfl, Nat.le_of_ble_eq_true rfl⟩) hS (fun q _ h => hFc q h) hFc (fun r403 f405 t H1 locs ht hvm hw404 hB hz1 hk1 hS => ?_)
                  obtain ⟨hT, hF406, hw404r, hw404p⟩ := hw404
                  have hR := hR.then hF406 (by decide)
                  have hP := hB.1; rw [ht] at hP; have hD := tp_ad f405 hD; clear hB hFc hz1 hk1; subst ht; generalize t.heap = H at hP hS ⊢
                  have hw404pq : r403.toInt = (-5) := by rw [hw404p]; rfl
                  have hf_407 : f405 (ρ h0 2) = .inl (κ 0, 12967, .inl g27) := (hF406 _ (by rw [y1]; decide)).trans hf_33
                  exact W.iret (v := r403) hx hb hr (fun t ht hW => ⟨⟨r403, f405, rfl, ⟨hT, hR, trivial, (by rw [hf_407, mo_i1]; exact hI)⟩, by rw [ht]; exact hP, va_K.moved hW.alike hK, hD⟩, hS.F ht⟩) hS.2.2 dX12_order_132
            · have ic307 : u.toInt = 0 := zi_nef rfl rfl c307
              exfalso; omega
