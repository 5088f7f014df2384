section
set_option maxHeartbeats 4000000 in
set_option maxRecDepth 100000 in
theorem t_X12_tide (l : Launch) (dC : Nat → ClassId) (dI : Nat → Nat → Nat) (sz : Nat) (κ : Nat → ClassId) (Θ : Nat → Option Int) (τ ν : Nat → Nat) (ρ : Nat → Nat → Nat) (L : List Nat) (f : Nat → va_E) (hG : tp_G τ ν ρ L) (hT : tp_T (mo_O κ Θ) κ τ ν ρ f) (h0 : Nat) (v : Int32) (u : Int32) (ht_h0 : τ h0 = 13) (hJ : mo_RI (-1) 0 (mo_R (mo_i (f (ρ h0 2))))) : Met l yX12_tide wqX12_tide ({ frames := 3, cells := 0, slots := 0, locals := 800 }) (va_Pc [.ref h0, .int v, .int u] (pz_B dC dI (tp_K κ) (va_pl L f) sz)) (va_Qi (fun (r : Int32) (f1 : Nat → va_E) => tp_T (mo_O κ Θ) κ τ ν ρ f1 ∧ tp_F τ [13, 32] f f1 ∧ True ∧ mo_RI (-1) 0 (mo_R (mo_i (f1 (ρ h0 2)))) ∧ mo_KN (fun k => False) (mo_R (mo_i (f (ρ h0 2)))) (mo_R (mo_i (f1 (ρ h0 2)))) ∧ ((((¬ ((0 ≤ v.toInt ∧ v.toInt ≤ 24) ∧ (0 ≤ u.toInt ∧ u.toInt ≤ 9))) → r.toInt = -1) ∧ (¬ (¬ ((0 ≤ v.toInt ∧ v.toInt ≤ 24) ∧ (0 ≤ u.toInt ∧ u.toInt ≤ 9))) → r.toInt = 0)))) (fun (f1 : Nat → va_E) (t : State) => pz_E dC dI (tp_K κ) (va_A (va_pl L f) sz) (va_pl L f1) t) (va_A (va_pl L f) sz)) 0 0 (va_A (va_pl L f) sz) := by
  refine Met.ofW (cc := cX12_tide) (maxL := 3) (ret := some .int) (by decide) rfl ?_
  intro p e s m args below meth c s₁ B hml hv
  obtain ⟨rfl, hsz, hP, hK, hD0, hN⟩ := hv
  have hx := B.exec
  have hb := B.bytes
  have hr := B.returns
  have hts := fun (w : Cond) (h : w ∈ WALL) => atoms_spec (ws := wqX12_tide) B.pre w (List.mem_cons_of_mem _ h)
  have hown : s.vm.findClass RX12 = some m.cls := findClass_of_methodNamed B.named
  have hlocks := B.notSynchronized
  subst hsz
  have hD := hD0.self (sz := s.heap.size)
  generalize hAe : va_A (va_pl L f) s.heap.size = A at hD ⊢
  have hA : ∀ q : Nat, s.heap.size ≤ q → A q := fun q h => by rw [← hAe]; exact Or.inr h
  have hS : va_S A s.heap s.heap [] := va_S.rf
  have hR : tp_F τ [13, 32] f f := tp_F.rf
  have hl := lv_entry ([.ref h0, .int v, .int u]) (n := 3) (Nat.le_of_ble_eq_true rfl)
  rw [lg_entry_eq]
  generalize (lg_sl ([.ref h0, .int v, .int u]) ++ List.replicate (3 - (lg_sl ([.ref h0, .int v, .int u])).length) Slot.unset).toArray = ls at hl ⊢
  have hl : lv_has ls 3 [(0, .ref h0), (1, .int v), (2, .int u)] := hl
  refine tgk_13 hG ht_h0 (fun y1 y2 y3 y4 y5 y6 y7 y8 y9 y10 y11 y12 y13 y14 y15 y16 y17 y18 y19 y20 y21 y22 y23 y24 y25 => ?_)
  refine tpk_32 hT y1 (fun g27 hf_o26 => ?_)
  have hI : mo_RI (-1) 0 (mo_R g27) := by have q9 := hJ; rw [hf_o26, mo_i1] at q9; exact q9
  have hKN : mo_KN (fun k => False) (mo_R g27) (mo_R g27) := mo_KN.rf
  refine lv_aload_n hx hb dX12_tide_0 rfl (lv_at hl 0 rfl) ?_
  refine lv_iconst (v := 0) hx hb dX12_tide_1 (by decide) ?_
  refine tpk_13 hT ht_h0 (fun o28_x0 o28_x1 o28_x7 o28_x9 o28_x10 o28_x11 o28_x12 o28_x13 o28_x14 o28_x15 o28_x16 o28_x17 o28_x18 o28_x19 o28_x20 o28_x22 o28_x25 o28_x28 o28_x29 o28_x32 o28_x33 o28_x34 o28_x35 o28_x36 o28_x37 o28_x38 o28_x47 o28_x48 hf_o28 ro28_0 ro28_1 ro28_2 ro28_3 ro28_4 ro28_5 ro28_6 ro28_7 ro28_8 ro28_9 ro28_10 ro28_11 ro28_12 ro28_13 ro28_14 => ?_)
  refine tpk_pos (tp_in hG ht_h0 (by decide)) hf_o28 (fun q29 eq29 => ?_)
  refine va_put (D := (dC, dI)) (ci := 12) (v := .int 0) (ty := .int) (C := RX12) (T := TX12) (N := 53) hx hb hts hfX12 tyX12 tyX12_ok nmX12 hown hK hP hD hS q29 eq29 rfl 0 (by decide) (hts (.fieldLink RX12 91 "ColdShipsModel" "thrown" "I") wa_209) (fun _ h9 => h9) rfl (tyX12_ok 0 (by decide)) rfl rfl (Nat.le_of_ble_eq_true rfl) dX12_tide_2 (tp_k (.inr (12, [.int 0, .int o28_x1, .ref (ρ h0 2), .ref (ρ h0 3), .ref (ρ h0 4), .ref (ρ h0 5), .ref (ρ h0 6), .int o28_x7, .ref (ρ h0 8), .int o28_x9, .int o28_x10, .int o28_x11, .int o28_x12, .long o28_x13, .int o28_x14, .int o28_x15, .int o28_x16, .int o28_x17, .int o28_x18, .int o28_x19, .int o28_x20, .ref (ρ h0 21), .int o28_x22, .ref (ρ h0 23), .ref (ρ h0 24), .int o28_x25, .ref (ρ h0 26), .ref (ρ h0 27), .int o28_x28, .int o28_x29, .ref (ρ h0 30), .ref (ρ h0 31), .int o28_x32, .long o28_x33, .long o28_x34, .long o28_x35, .int o28_x36, .int o28_x37, .int o28_x38, .ref (ρ h0 39), .ref (ρ h0 40), .ref (ρ h0 41), .ref (ρ h0 42), .ref (ρ h0 43), .ref (ρ h0 44), .ref (ρ h0 45), .ref (ρ h0 46), .int o28_x47, .int o28_x48, .ref (ρ h0 49), .ref (ρ h0 50), .ref (ρ h0 51), .ref (ρ h0 52)])) hD (tp_in hG ht_h0 (by decide)) eq29 (fun f30 H locs hP hD hS g32 k31 => ?_))
  have hT := hT.up ht_h0 g32 k31 ⟨_, _, _, _, _, _, _, _, _, _, _, _, _, _, _, _, _, _, _, _, _, _, _, _, _, _, _, _, rfl, ro28_0, ro28_1, ro28_2, ro28_3, ro28_4, ro28_5, ro28_6, ro28_7, ro28_8, ro28_9, ro28_10, ro28_11, ro28_12, ro28_13, ro28_14⟩
  have hR := hR.up ht_h0 (by decide) k31
  refine lv_iload_n hx hb dX12_tide_5 rfl (lv_at hl 1 rfl) ?_
  refine lv_i2l hx hb dX12_tide_6 rfl ?_
  refine lv_lconst (v := 0) hx hb dX12_tide_7 (by decide) ?_
  refine lv_ldc2 (own := RX12) (v := 24) hx hb hown (hts (.constantLong RX12 137 (24)) wa_302) dX12_tide_8 ?_
  have hf_33 : f30 (ρ h0 2) = .inl (κ 0, 12967, .inl g27) := (k31 _ (tp_ne y1 ht_h0 (by decide))).trans hf_o26
  refine pz_calli (va_runS (As := [.long v.toInt64, .long 0, .long 24]) (rest := []) ⟨hx, hb, hml, hown, hts⟩ (t_X12_in l dC dI _ v.toInt64 (0) (24) (v.toInt) (0) (24) (Int32.toInt_toInt64 v) rfl rfl) (va_cwS 3 hts gX12_tide_X12_in rfl rfl rfl pd_X12_in ⟨Nat.le_of_ble_eq_true rfl, Nat.le_of_ble_eq_true rfl⟩) ⟨pz_blind, pz_pre pz_P0 (hK.sub (tys' := []) [] rfl) (pz_D0 (A := fun _ => True)) hN⟩ rfl rfl hl.1 rfl (lv_room (Nat.le_of_ble_eq_true rfl)) dX12_tide_11 ⟨Nat.le_of_ble_eq_true rfl, Nat.le_of_ble_eq_true rfl⟩) (fun r34 hw35 => ?_)
  obtain ⟨hw35r, hw35p⟩ := hw35
  refine lv_if_eq (tgt := 29) hx hb dX12_tide_14 (by decide) (fun c36 => ?_) (fun c36 => ?_)
  · have ic36 : r34.toInt = 0 := zi_eq rfl rfl c36
    have p37 : ¬ ((0) ≤ (v.toInt) ∧ (v.toInt) ≤ (24)) := (tp_cond.no hw35p) (by omega)
    clear hw35r ic36
    refine lv_aload_n hx hb dX12_tide_29 rfl (lv_at hl 0 rfl) ?_
    refine lv_iconst (v := (-1)) hx hb dX12_tide_30 (by decide) ?_
    refine tpk_pos (tp_in hG ht_h0 (by decide)) g32 (fun q38 eq38 => ?_)
    have hFc := tp_fr hD hS hA
    refine va_calli (va_runV (As := [.int (-1)]) (rest := []) ⟨hx, hb, hml, hown, hts⟩ (t_X12_told l dC dI _ κ Θ τ ν ρ L f30 hG hT h0 ((-1)) ht_h0) (cwV 1 hts gX12_tide_X12_told rfl rfl rfl ⟨rfl, pd_X12_told⟩ ⟨Nat.le_of_ble_eq_true rfl, Nat.le_of_ble_eq_true rfl⟩) ⟨pz_blind, va_recv hK hP (ci := 12) (q0 := q38) rfl eq38, pz_pre hP hK hD hN⟩ rfl rfl hl.1 rfl (lv_room (Nat.le_of_ble_eq_true rfl)) dX12_tide_31 ⟨Nat.le_of_ble_eq_true rfl, Nat.le_of_ble_eq_true rfl⟩) hS (fun q _ h => hFc q h) hFc (fun r39 f41 t H1 locs ht hvm hw40 hB hz1 hk1 hS => ?_)
    refine tn_4 hw40 (fun hT hF42 hw40r hw40p => ?_); clear hw40
    have hR := hR.then hF42 (by decide)
    have hP := hB.1; rw [ht] at hP; have hD := tp_ad f41 hD; clear hB hFc hz1 hk1; subst ht; generalize t.heap = H at hP hS ⊢
    have hw40pq : r39.toInt = (-1) := by rw [hw40p]; rfl
    have hf_43 : f41 (ρ h0 2) = .inl (κ 0, 12967, .inl g27) := (hF42 _ (by rw [tp_iu y1]; decide)).trans hf_33
    exact W.iret (v := r39) hx hb hr (fun t ht hW => ⟨⟨r39, f41, rfl, ⟨hT, hR, trivial, ⟨(by rw [hf_43, mo_i1]; exact hI), (by rw [hf_43, mo_i1, hf_o26, mo_i1]; exact hKN), ⟨fun q0 => by omega, fun q0 => (by omega)⟩⟩⟩, by rw [ht]; exact hP, va_K.moved hW.alike hK, hD⟩, hS.F ht⟩) hS.2.2 dX12_tide_34
  · have ic36 : r34.toInt ≠ 0 := zi_eqf rfl rfl c36
    replace ic36 : 1 ≤ r34.toInt := by omega
    have p44 : (0) ≤ (v.toInt) ∧ (v.toInt) ≤ (24) := (tp_cond.yes hw35p) (by omega)
    clear hw35r ic36
    refine lv_iload_n hx hb dX12_tide_17 rfl (lv_at hl 2 rfl) ?_
    refine lv_i2l hx hb dX12_tide_18 rfl ?_
    refine lv_lconst (v := 0) hx hb dX12_tide_19 (by decide) ?_
    refine lv_ldc2 (own := RX12) (v := 9) hx hb hown (hts (.constantLong RX12 139 (9)) wa_303) dX12_tide_20 ?_
    refine pz_calli (va_runS (As := [.long u.toInt64, .long 0, .long 9]) (rest := []) ⟨hx, hb, hml, hown, hts⟩ (t_X12_in l dC dI _ u.toInt64 (0) (9) (u.toInt) (0) (9) (Int32.toInt_toInt64 u) rfl rfl) (va_cwS 3 hts gX12_tide_X12_in rfl rfl rfl pd_X12_in ⟨Nat.le_of_ble_eq_true rfl, Nat.le_of_ble_eq_true rfl⟩) ⟨pz_blind, pz_pre pz_P0 (hK.sub (tys' := []) [] rfl) (pz_D0 (A := fun _ => True)) hN⟩ rfl rfl hl.1 rfl (lv_room (Nat.le_of_ble_eq_true rfl)) dX12_tide_23 ⟨Nat.le_of_ble_eq_true rfl, Nat.le_of_ble_eq_true rfl⟩) (fun r45 hw46 => ?_)
    obtain ⟨hw46r, hw46p⟩ := hw46
    refine lv_if_ne (tgt := 35) hx hb dX12_tide_26 (by decide) (fun c47 => ?_) (fun c47 => ?_)
    · have ic47 : r45.toInt ≠ 0 := zi_ne rfl rfl c47
      replace ic47 : 1 ≤ r45.toInt := by omega
      have p48 : (0) ≤ (u.toInt) ∧ (u.toInt) ≤ (9) := (tp_cond.yes hw46p) (by omega)
      clear hw46r ic47
      refine lv_aload_n hx hb dX12_tide_35 rfl (lv_at hl 0 rfl) ?_
      refine tpk_pos (tp_in hG ht_h0 (by decide)) g32 (fun q49 eq49 => ?_)
      refine va_get (D := (dC, dI)) (ci := 12) (v := .ref (ρ h0 2)) (C := RX12) (T := TX12) (N := 53) hx hb hts hfX12 hown hK hP q49 eq49 rfl 2 (by decide) (hts (.fieldLink RX12 7 "ColdShipsModel" "row" "[I") wa_148) (fun _ h9 => h9) rfl dX12_tide_36 ?_
      refine lv_bipush (v := 122) hx hb dX12_tide_39 (by decide) ?_
      refine lv_iload_n hx hb dX12_tide_41 rfl (lv_at hl 1 rfl) ?_
      refine lv_iadd hx hb dX12_tide_42 ?_
      refine lv_topi (fun z50 ez50 => ?_)
      have iz50 : z50.toInt = 122 + v.toInt := zi_add ez50 rfl rfl (by omega) (by omega)
      refine lv_iload_n hx hb dX12_tide_43 rfl (lv_at hl 2 rfl) ?_
      refine tpk_pos (tp_in hG y1 (by decide)) hf_33 (fun q51 eq51 => ?_)
      refine va_iast hx hb hK hP hD hS q51 0 eq51 rfl (vp_in_iff.mpr ⟨by omega, by omega⟩) dX12_tide_44 (tp_k (.inl (κ 0, 12967, .inl (upd g27 z50.toNatClampNeg u))) hD (tp_in hG y1 (by decide)) eq51 (fun f52 H locs hP hD hS g54 k53 => ?_))
      have hT := hT.up y1 g54 k53 tp_o32
      have hR := hR.up y1 (by decide) k53
      have hU : mo_U (mo_R g27) (mo_R (upd g27 z50.toNatClampNeg u)) (122 + v.toInt) (u.toInt) := mo_up (by omega) (rfl : u.toInt = _) (by omega)
      generalize (upd g27 z50.toNatClampNeg u) = g55 at g54 hU
      have hI := mo_w_flat hI hU (by omega)
      have hKN := hKN.up hU (Or.inl (by omega))
      refine lv_aload_n hx hb dX12_tide_45 rfl (lv_at hl 0 rfl) ?_
      refine lv_iconst (v := 0) hx hb dX12_tide_46 (by decide) ?_
      have hf_56 : f52 h0 = .inr (12, [.int 0, .int o28_x1, .ref (ρ h0 2), .ref (ρ h0 3), .ref (ρ h0 4), .ref (ρ h0 5), .ref (ρ h0 6), .int o28_x7, .ref (ρ h0 8), .int o28_x9, .int o28_x10, .int o28_x11, .int o28_x12, .long o28_x13, .int o28_x14, .int o28_x15, .int o28_x16, .int o28_x17, .int o28_x18, .int o28_x19, .int o28_x20, .ref (ρ h0 21), .int o28_x22, .ref (ρ h0 23), .ref (ρ h0 24), .int o28_x25, .ref (ρ h0 26), .ref (ρ h0 27), .int o28_x28, .int o28_x29, .ref (ρ h0 30), .ref (ρ h0 31), .int o28_x32, .long o28_x33, .long o28_x34, .long o28_x35, .int o28_x36, .int o28_x37, .int o28_x38, .ref (ρ h0 39), .ref (ρ h0 40), .ref (ρ h0 41), .ref (ρ h0 42), .ref (ρ h0 43), .ref (ρ h0 44), .ref (ρ h0 45), .ref (ρ h0 46), .int o28_x47, .int o28_x48, .ref (ρ h0 49), .ref (ρ h0 50), .ref (ρ h0 51), .ref (ρ h0 52)]) := (k53 _ (tp_ne ht_h0 y1 (by decide))).trans g32
      refine tpk_pos (tp_in hG ht_h0 (by decide)) hf_56 (fun q57 eq57 => ?_)
      have hFc := tp_fr hD hS hA
      refine va_calli (va_runV (As := [.int 0]) (rest := []) ⟨hx, hb, hml, hown, hts⟩ (t_X12_told l dC dI _ κ Θ τ ν ρ L f52 hG hT h0 (0) ht_h0) (cwV 1 hts gX12_tide_X12_told rfl rfl rfl ⟨rfl, pd_X12_told⟩ ⟨Nat.le_of_ble_eq_true rfl, Nat.le_of_ble_eq_true rfl⟩) ⟨pz_blind, va_recv hK hP (ci := 12) (q0 := q57) rfl eq57, pz_pre hP hK hD hN⟩ rfl rfl hl.1 rfl (lv_room (Nat.le_of_ble_eq_true rfl)) dX12_tide_47 ⟨Nat.le_of_ble_eq_true rfl, Nat.le_of_ble_eq_true rfl⟩) hS (fun q _ h => hFc q h) hFc (fun r58 f60 t H1 locs ht hvm hw59 hB hz1 hk1 hS => ?_)
      refine tn_4 hw59 (fun hT hF61 hw59r hw59p => ?_); clear hw59
      have hR := hR.then hF61 (by decide)
      have hP := hB.1; rw [ht] at hP; have hD := tp_ad f60 hD; clear hB hFc hz1 hk1; subst ht; generalize t.heap = H at hP hS ⊢
      have hw59pq : r58.toInt = 0 := by rw [hw59p]; rfl
      have hf_62 : f60 (ρ h0 2) = .inl (κ 0, 12967, .inl g55) := (hF61 _ (by rw [tp_iu y1]; decide)).trans g54
      exact W.iret (v := r58) hx hb hr (fun t ht hW => ⟨⟨r58, f60, rfl, ⟨hT, hR, trivial, ⟨(by rw [hf_62, mo_i1]; exact hI), (by rw [hf_62, mo_i1, hf_o26, mo_i1]; exact hKN), ⟨fun q0 => by omega, fun q0 => (by omega)⟩⟩⟩, by rw [ht]; exact hP, va_K.moved hW.alike hK, hD⟩, hS.F ht⟩) hS.2.2 dX12_tide_50
    · have ic47 : r45.toInt = 0 := zi_nef rfl rfl c47
      have p63 : ¬ ((0) ≤ (u.toInt) ∧ (u.toInt) ≤ (9)) := (tp_cond.no hw46p) (by omega)
      clear hw46r ic47
      refine lv_aload_n hx hb dX12_tide_29 rfl (lv_at hl 0 rfl) ?_
      refine lv_iconst (v := (-1)) hx hb dX12_tide_30 (by decide) ?_
      refine tpk_pos (tp_in hG ht_h0 (by decide)) g32 (fun q64 eq64 => ?_)
      have hFc := tp_fr hD hS hA
      refine va_calli (va_runV (As := [.int (-1)]) (rest := []) ⟨hx, hb, hml, hown, hts⟩ (t_X12_told l dC dI _ κ Θ τ ν ρ L f30 hG hT h0 ((-1)) ht_h0) (cwV 1 hts gX12_tide_X12_told rfl rfl rfl ⟨rfl, pd_X12_told⟩ ⟨Nat.le_of_ble_eq_true rfl, Nat.le_of_ble_eq_true rfl⟩) ⟨pz_blind, va_recv hK hP (ci := 12) (q0 := q64) rfl eq64, pz_pre hP hK hD hN⟩ rfl rfl hl.1 rfl (lv_room (Nat.le_of_ble_eq_true rfl)) dX12_tide_31 ⟨Nat.le_of_ble_eq_true rfl, Nat.le_of_ble_eq_true rfl⟩) hS (fun q _ h => hFc q h) hFc (fun r65 f67 t H1 locs ht hvm hw66 hB hz1 hk1 hS => ?_)
      refine tn_4 hw66 (fun hT hF68 hw66r hw66p => ?_); clear hw66
      have hR := hR.then hF68 (by decide)
      have hP := hB.1; rw [ht] at hP; have hD := tp_ad f67 hD; clear hB hFc hz1 hk1; subst ht; generalize t.heap = H at hP hS ⊢
      have hw66pq : r65.toInt = (-1) := by rw [hw66p]; rfl
      have hf_69 : f67 (ρ h0 2) = .inl (κ 0, 12967, .inl g27) := (hF68 _ (by rw [tp_iu y1]; decide)).trans hf_33
      exact W.iret (v := r65) hx hb hr (fun t ht hW => ⟨⟨r65, f67, rfl, ⟨hT, hR, trivial, ⟨(by rw [hf_69, mo_i1]; exact hI), (by rw [hf_69, mo_i1, hf_o26, mo_i1]; exact hKN), ⟨fun q0 => by omega, fun q0 => (by omega)⟩⟩⟩, by rw [ht]; exact hP, va_K.moved hW.alike hK, hD⟩, hS.F ht⟩) hS.2.2 dX12_tide_34
set_option maxHeartbeats 4000000 in
set_option maxRecDepth 100000 in
theorem t_X12_sea (l : Launch) (dC : Nat → ClassId) (dI : Nat → Nat → Nat) (sz : Nat) (κ : Nat → ClassId) (Θ : Nat → Option Int) (τ ν : Nat → Nat) (ρ : Nat → Nat → Nat) (L : List Nat) (f : Nat → va_E) (hG : tp_G τ ν ρ L) (hT : tp_T (mo_O κ Θ) κ τ ν ρ f) (h0 : Nat) (v : Int32) (u : Int32) (ht_h0 : τ h0 = 13) (hJ : mo_RI (-1) 0 (mo_R (mo_i (f (ρ h0 2))))) : Met l yX12_sea wqX12_sea ({ frames := 4, cells := 0, slots := 0, locals := 1200 }) (va_Pc [.ref h0, .int v, .int u] (pz_B dC dI (tp_K κ) (va_pl L f) sz)) (va_Qi (fun (r : Int32) (f1 : Nat → va_E) => tp_T (mo_O κ Θ) κ τ ν ρ f1 ∧ tp_F τ [13, 32] f f1 ∧ True ∧ mo_RI (-1) 0 (mo_R (mo_i (f1 (ρ h0 2)))) ∧ mo_KN (fun k => False) (mo_R (mo_i (f (ρ h0 2)))) (mo_R (mo_i (f1 (ρ h0 2)))) ∧ ((((¬ ((0 ≤ v.toInt ∧ v.toInt ≤ 99) ∧ (0 ≤ u.toInt ∧ u.toInt ≤ 9))) → r.toInt = -1) ∧ (¬ (¬ ((0 ≤ v.toInt ∧ v.toInt ≤ 99) ∧ (0 ≤ u.toInt ∧ u.toInt ≤ 9))) → r.toInt = 0)))) (fun (f1 : Nat → va_E) (t : State) => pz_E dC dI (tp_K κ) (va_A (va_pl L f) sz) (va_pl L f1) t) (va_A (va_pl L f) sz)) 0 0 (va_A (va_pl L f) sz) := by
  refine Met.ofW (cc := cX12_sea) (maxL := 3) (ret := some .int) (by decide) rfl ?_
  intro p e s m args below meth c s₁ B hml hv
  obtain ⟨rfl, hsz, hP, hK, hD0, hN⟩ := hv
  have hx := B.exec
  have hb := B.bytes
  have hr := B.returns
  have hts := fun (w : Cond) (h : w ∈ WALL) => atoms_spec (ws := wqX12_sea) B.pre w (List.mem_cons_of_mem _ h)
  have hown : s.vm.findClass RX12 = some m.cls := findClass_of_methodNamed B.named
  have hlocks := B.notSynchronized
  subst hsz
  have hD := hD0.self (sz := s.heap.size)
  generalize hAe : va_A (va_pl L f) s.heap.size = A at hD ⊢
  have hA : ∀ q : Nat, s.heap.size ≤ q → A q := fun q h => by rw [← hAe]; exact Or.inr h
  have hS : va_S A s.heap s.heap [] := va_S.rf
  have hR : tp_F τ [13, 32] f f := tp_F.rf
  have hl := lv_entry ([.ref h0, .int v, .int u]) (n := 3) (Nat.le_of_ble_eq_true rfl)
  rw [lg_entry_eq]
  generalize (lg_sl ([.ref h0, .int v, .int u]) ++ List.replicate (3 - (lg_sl ([.ref h0, .int v, .int u])).length) Slot.unset).toArray = ls at hl ⊢
  have hl : lv_has ls 3 [(0, .ref h0), (1, .int v), (2, .int u)] := hl
  refine tgk_13 hG ht_h0 (fun y1 y2 y3 y4 y5 y6 y7 y8 y9 y10 y11 y12 y13 y14 y15 y16 y17 y18 y19 y20 y21 y22 y23 y24 y25 => ?_)
  refine tpk_32 hT y1 (fun g27 hf_o26 => ?_)
  have hI : mo_RI (-1) 0 (mo_R g27) := by have q9 := hJ; rw [hf_o26, mo_i1] at q9; exact q9
  have hKN : mo_KN (fun k => False) (mo_R g27) (mo_R g27) := mo_KN.rf
  refine lv_aload_n hx hb dX12_sea_0 rfl (lv_at hl 0 rfl) ?_
  refine lv_iconst (v := 0) hx hb dX12_sea_1 (by decide) ?_
  refine tpk_13 hT ht_h0 (fun o28_x0 o28_x1 o28_x7 o28_x9 o28_x10 o28_x11 o28_x12 o28_x13 o28_x14 o28_x15 o28_x16 o28_x17 o28_x18 o28_x19 o28_x20 o28_x22 o28_x25 o28_x28 o28_x29 o28_x32 o28_x33 o28_x34 o28_x35 o28_x36 o28_x37 o28_x38 o28_x47 o28_x48 hf_o28 ro28_0 ro28_1 ro28_2 ro28_3 ro28_4 ro28_5 ro28_6 ro28_7 ro28_8 ro28_9 ro28_10 ro28_11 ro28_12 ro28_13 ro28_14 => ?_)
  refine tpk_pos (tp_in hG ht_h0 (by decide)) hf_o28 (fun q29 eq29 => ?_)
  refine va_put (D := (dC, dI)) (ci := 12) (v := .int 0) (ty := .int) (C := RX12) (T := TX12) (N := 53) hx hb hts hfX12 tyX12 tyX12_ok nmX12 hown hK hP hD hS q29 eq29 rfl 0 (by decide) (hts (.fieldLink RX12 91 "ColdShipsModel" "thrown" "I") wa_209) (fun _ h9 => h9) rfl (tyX12_ok 0 (by decide)) rfl rfl (Nat.le_of_ble_eq_true rfl) dX12_sea_2 (tp_k (.inr (12, [.int 0, .int o28_x1, .ref (ρ h0 2), .ref (ρ h0 3), .ref (ρ h0 4), .ref (ρ h0 5), .ref (ρ h0 6), .int o28_x7, .ref (ρ h0 8), .int o28_x9, .int o28_x10, .int o28_x11, .int o28_x12, .long o28_x13, .int o28_x14, .int o28_x15, .int o28_x16, .int o28_x17, .int o28_x18, .int o28_x19, .int o28_x20, .ref (ρ h0 21), .int o28_x22, .ref (ρ h0 23), .ref (ρ h0 24), .int o28_x25, .ref (ρ h0 26), .ref (ρ h0 27), .int o28_x28, .int o28_x29, .ref (ρ h0 30), .ref (ρ h0 31), .int o28_x32, .long o28_x33, .long o28_x34, .long o28_x35, .int o28_x36, .int o28_x37, .int o28_x38, .ref (ρ h0 39), .ref (ρ h0 40), .ref (ρ h0 41), .ref (ρ h0 42), .ref (ρ h0 43), .ref (ρ h0 44), .ref (ρ h0 45), .ref (ρ h0 46), .int o28_x47, .int o28_x48, .ref (ρ h0 49), .ref (ρ h0 50), .ref (ρ h0 51), .ref (ρ h0 52)])) hD (tp_in hG ht_h0 (by decide)) eq29 (fun f30 H locs hP hD hS g32 k31 => ?_))
  have hT := hT.up ht_h0 g32 k31 ⟨_, _, _, _, _, _, _, _, _, _, _, _, _, _, _, _, _, _, _, _, _, _, _, _, _, _, _, _, rfl, ro28_0, ro28_1, ro28_2, ro28_3, ro28_4, ro28_5, ro28_6, ro28_7, ro28_8, ro28_9, ro28_10, ro28_11, ro28_12, ro28_13, ro28_14⟩
  have hR := hR.up ht_h0 (by decide) k31
  refine lv_iload_n hx hb dX12_sea_5 rfl (lv_at hl 1 rfl) ?_
  have hf_33 : f30 (ρ h0 2) = .inl (κ 0, 12967, .inl g27) := (k31 _ (tp_ne y1 ht_h0 (by decide))).trans hf_o26
  refine pz_calli (va_runS (As := [.int v]) (rest := []) ⟨hx, hb, hml, hown, hts⟩ (t_X12_isDay l dC dI _ v (v.toInt) rfl) (va_cwS 1 hts gX12_sea_X12_isDay rfl rfl rfl pd_X12_isDay ⟨Nat.le_of_ble_eq_true rfl, Nat.le_of_ble_eq_true rfl⟩) ⟨pz_blind, pz_pre pz_P0 (hK.sub (tys' := []) [] rfl) (pz_D0 (A := fun _ => True)) hN⟩ rfl rfl hl.1 rfl (lv_room (Nat.le_of_ble_eq_true rfl)) dX12_sea_6 ⟨Nat.le_of_ble_eq_true rfl, Nat.le_of_ble_eq_true rfl⟩) (fun r34 hw35 => ?_)
  obtain ⟨hw35r, hw35p⟩ := hw35
  refine lv_if_eq (tgt := 24) hx hb dX12_sea_9 (by decide) (fun c36 => ?_) (fun c36 => ?_)
  · have ic36 : r34.toInt = 0 := zi_eq rfl rfl c36
    have p37 : ¬ (0 ≤ (v.toInt) ∧ (v.toInt) ≤ 99) := (tp_cond.no hw35p) (by omega)
    clear hw35r ic36
    refine lv_aload_n hx hb dX12_sea_24 rfl (lv_at hl 0 rfl) ?_
    refine lv_iconst (v := (-1)) hx hb dX12_sea_25 (by decide) ?_
    refine tpk_pos (tp_in hG ht_h0 (by decide)) g32 (fun q38 eq38 => ?_)
    have hFc := tp_fr hD hS hA
    refine va_calli (va_runV (As := [.int (-1)]) (rest := []) ⟨hx, hb, hml, hown, hts⟩ (t_X12_told l dC dI _ κ Θ τ ν ρ L f30 hG hT h0 ((-1)) ht_h0) (cwV 1 hts gX12_sea_X12_told rfl rfl rfl ⟨rfl, pd_X12_told⟩ ⟨Nat.le_of_ble_eq_true rfl, Nat.le_of_ble_eq_true rfl⟩) ⟨pz_blind, va_recv hK hP (ci := 12) (q0 := q38) rfl eq38, pz_pre hP hK hD hN⟩ rfl rfl hl.1 rfl (lv_room (Nat.le_of_ble_eq_true rfl)) dX12_sea_26 ⟨Nat.le_of_ble_eq_true rfl, Nat.le_of_ble_eq_true rfl⟩) hS (fun q _ h => hFc q h) hFc (fun r39 f41 t H1 locs ht hvm hw40 hB hz1 hk1 hS => ?_)
    refine tn_4 hw40 (fun hT hF42 hw40r hw40p => ?_); clear hw40
    have hR := hR.then hF42 (by decide)
    have hP := hB.1; rw [ht] at hP; have hD := tp_ad f41 hD; clear hB hFc hz1 hk1; subst ht; generalize t.heap = H at hP hS ⊢
    have hw40pq : r39.toInt = (-1) := by rw [hw40p]; rfl
    have hf_43 : f41 (ρ h0 2) = .inl (κ 0, 12967, .inl g27) := (hF42 _ (by rw [tp_iu y1]; decide)).trans hf_33
    exact W.iret (v := r39) hx hb hr (fun t ht hW => ⟨⟨r39, f41, rfl, ⟨hT, hR, trivial, ⟨(by rw [hf_43, mo_i1]; exact hI), (by rw [hf_43, mo_i1, hf_o26, mo_i1]; exact hKN), ⟨fun q0 => by omega, fun q0 => (by omega)⟩⟩⟩, by rw [ht]; exact hP, va_K.moved hW.alike hK, hD⟩, hS.F ht⟩) hS.2.2 dX12_sea_29
  · have ic36 : r34.toInt ≠ 0 := zi_eqf rfl rfl c36
    replace ic36 : 1 ≤ r34.toInt := by omega
    have p44 : 0 ≤ (v.toInt) ∧ (v.toInt) ≤ 99 := (tp_cond.yes hw35p) (by omega)
    clear hw35r ic36
    refine lv_iload_n hx hb dX12_sea_12 rfl (lv_at hl 2 rfl) ?_
    refine lv_i2l hx hb dX12_sea_13 rfl ?_
    refine lv_lconst (v := 0) hx hb dX12_sea_14 (by decide) ?_
    refine lv_ldc2 (own := RX12) (v := 9) hx hb hown (hts (.constantLong RX12 139 (9)) wa_303) dX12_sea_15 ?_
    refine pz_calli (va_runS (As := [.long u.toInt64, .long 0, .long 9]) (rest := []) ⟨hx, hb, hml, hown, hts⟩ (t_X12_in l dC dI _ u.toInt64 (0) (9) (u.toInt) (0) (9) (Int32.toInt_toInt64 u) rfl rfl) (va_cwS 3 hts gX12_sea_X12_in rfl rfl rfl pd_X12_in ⟨Nat.le_of_ble_eq_true rfl, Nat.le_of_ble_eq_true rfl⟩) ⟨pz_blind, pz_pre pz_P0 (hK.sub (tys' := []) [] rfl) (pz_D0 (A := fun _ => True)) hN⟩ rfl rfl hl.1 rfl (lv_room (Nat.le_of_ble_eq_true rfl)) dX12_sea_18 ⟨Nat.le_of_ble_eq_true rfl, Nat.le_of_ble_eq_true rfl⟩) (fun r45 hw46 => ?_)
    obtain ⟨hw46r, hw46p⟩ := hw46
    refine lv_if_ne (tgt := 30) hx hb dX12_sea_21 (by decide) (fun c47 => ?_) (fun c47 => ?_)
    · have ic47 : r45.toInt ≠ 0 := zi_ne rfl rfl c47
      replace ic47 : 1 ≤ r45.toInt := by omega
      have p48 : (0) ≤ (u.toInt) ∧ (u.toInt) ≤ (9) := (tp_cond.yes hw46p) (by omega)
      clear hw46r ic47
      refine lv_aload_n hx hb dX12_sea_30 rfl (lv_at hl 0 rfl) ?_
      refine tpk_pos (tp_in hG ht_h0 (by decide)) g32 (fun q49 eq49 => ?_)
      refine va_get (D := (dC, dI)) (ci := 12) (v := .ref (ρ h0 2)) (C := RX12) (T := TX12) (N := 53) hx hb hts hfX12 hown hK hP q49 eq49 rfl 2 (by decide) (hts (.fieldLink RX12 7 "ColdShipsModel" "row" "[I") wa_148) (fun _ h9 => h9) rfl dX12_sea_31 ?_
      refine lv_sipush (v := 147) hx hb dX12_sea_34 (by decide) ?_
      refine lv_iload_n hx hb dX12_sea_37 rfl (lv_at hl 1 rfl) ?_
      refine lv_iadd hx hb dX12_sea_38 ?_
      refine lv_topi (fun z50 ez50 => ?_)
      have iz50 : z50.toInt = 147 + v.toInt := zi_add ez50 rfl rfl (by omega) (by omega)
      refine lv_iload_n hx hb dX12_sea_39 rfl (lv_at hl 2 rfl) ?_
      refine tpk_pos (tp_in hG y1 (by decide)) hf_33 (fun q51 eq51 => ?_)
      refine va_iast hx hb hK hP hD hS q51 0 eq51 rfl (vp_in_iff.mpr ⟨by omega, by omega⟩) dX12_sea_40 (tp_k (.inl (κ 0, 12967, .inl (upd g27 z50.toNatClampNeg u))) hD (tp_in hG y1 (by decide)) eq51 (fun f52 H locs hP hD hS g54 k53 => ?_))
      have hT := hT.up y1 g54 k53 tp_o32
      have hR := hR.up y1 (by decide) k53
      have hU : mo_U (mo_R g27) (mo_R (upd g27 z50.toNatClampNeg u)) (147 + v.toInt) (u.toInt) := mo_up (by omega) (rfl : u.toInt = _) (by omega)
      generalize (upd g27 z50.toNatClampNeg u) = g55 at g54 hU
      have hI := mo_w_sea hI hU (by omega) (by omega)
      have hKN := hKN.up hU (Or.inl (by omega))
      refine lv_aload_n hx hb dX12_sea_41 rfl (lv_at hl 0 rfl) ?_
      refine lv_iconst (v := 0) hx hb dX12_sea_42 (by decide) ?_
      have hf_56 : f52 h0 = .inr (12, [.int 0, .int o28_x1, .ref (ρ h0 2), .ref (ρ h0 3), .ref (ρ h0 4), .ref (ρ h0 5), .ref (ρ h0 6), .int o28_x7, .ref (ρ h0 8), .int o28_x9, .int o28_x10, .int o28_x11, .int o28_x12, .long o28_x13, .int o28_x14, .int o28_x15, .int o28_x16, .int o28_x17, .int o28_x18, .int o28_x19, .int o28_x20, .ref (ρ h0 21), .int o28_x22, .ref (ρ h0 23), .ref (ρ h0 24), .int o28_x25, .ref (ρ h0 26), .ref (ρ h0 27), .int o28_x28, .int o28_x29, .ref (ρ h0 30), .ref (ρ h0 31), .int o28_x32, .long o28_x33, .long o28_x34, .long o28_x35, .int o28_x36, .int o28_x37, .int o28_x38, .ref (ρ h0 39), .ref (ρ h0 40), .ref (ρ h0 41), .ref (ρ h0 42), .ref (ρ h0 43), .ref (ρ h0 44), .ref (ρ h0 45), .ref (ρ h0 46), .int o28_x47, .int o28_x48, .ref (ρ h0 49), .ref (ρ h0 50), .ref (ρ h0 51), .ref (ρ h0 52)]) := (k53 _ (tp_ne ht_h0 y1 (by decide))).trans g32
      refine tpk_pos (tp_in hG ht_h0 (by decide)) hf_56 (fun q57 eq57 => ?_)
      have hFc := tp_fr hD hS hA
      refine va_calli (va_runV (As := [.int 0]) (rest := []) ⟨hx, hb, hml, hown, hts⟩ (t_X12_told l dC dI _ κ Θ τ ν ρ L f52 hG hT h0 (0) ht_h0) (cwV 1 hts gX12_sea_X12_told rfl rfl rfl ⟨rfl, pd_X12_told⟩ ⟨Nat.le_of_ble_eq_true rfl, Nat.le_of_ble_eq_true rfl⟩) ⟨pz_blind, va_recv hK hP (ci := 12) (q0 := q57) rfl eq57, pz_pre hP hK hD hN⟩ rfl rfl hl.1 rfl (lv_room (Nat.le_of_ble_eq_true rfl)) dX12_sea_43 ⟨Nat.le_of_ble_eq_true rfl, Nat.le_of_ble_eq_true rfl⟩) hS (fun q _ h => hFc q h) hFc (fun r58 f60 t H1 locs ht hvm hw59 hB hz1 hk1 hS => ?_)
      refine tn_4 hw59 (fun hT hF61 hw59r hw59p => ?_); clear hw59
      have hR := hR.then hF61 (by decide)
      have hP := hB.1; rw [ht] at hP; have hD := tp_ad f60 hD; clear hB hFc hz1 hk1; subst ht; generalize t.heap = H at hP hS ⊢
      have hw59pq : r58.toInt = 0 := by rw [hw59p]; rfl
      have hf_62 : f60 (ρ h0 2) = .inl (κ 0, 12967, .inl g55) := (hF61 _ (by rw [tp_iu y1]; decide)).trans g54
      exact W.iret (v := r58) hx hb hr (fun t ht hW => ⟨⟨r58, f60, rfl, ⟨hT, hR, trivial, ⟨(by rw [hf_62, mo_i1]; exact hI), (by rw [hf_62, mo_i1, hf_o26, mo_i1]; exact hKN), ⟨fun q0 => by omega, fun q0 => (by omega)⟩⟩⟩, by rw [ht]; exact hP, va_K.moved hW.alike hK, hD⟩, hS.F ht⟩) hS.2.2 dX12_sea_46
    · have ic47 : r45.toInt = 0 := zi_nef rfl rfl c47
      have p63 : ¬ ((0) ≤ (u.toInt) ∧ (u.toInt) ≤ (9)) := (tp_cond.no hw46p) (by omega)
      clear hw46r ic47
      refine lv_aload_n hx hb dX12_sea_24 rfl (lv_at hl 0 rfl) ?_
      refine lv_iconst (v := (-1)) hx hb dX12_sea_25 (by decide) ?_
      refine tpk_pos (tp_in hG ht_h0 (by decide)) g32 (fun q64 eq64 => ?_)
      have hFc := tp_fr hD hS hA
      refine va_calli (va_runV (As := [.int (-1)]) (rest := []) ⟨hx, hb, hml, hown, hts⟩ (t_X12_told l dC dI _ κ Θ τ ν ρ L f30 hG hT h0 ((-1)) ht_h0) (cwV 1 hts gX12_sea_X12_told rfl rfl rfl ⟨rfl, pd_X12_told⟩ ⟨Nat.le_of_ble_eq_true rfl, Nat.le_of_ble_eq_true rfl⟩) ⟨pz_blind, va_recv hK hP (ci := 12) (q0 := q64) rfl eq64, pz_pre hP hK hD hN⟩ rfl rfl hl.1 rfl (lv_room (Nat.le_of_ble_eq_true rfl)) dX12_sea_26 ⟨Nat.le_of_ble_eq_true rfl, Nat.le_of_ble_eq_true rfl⟩) hS (fun q _ h => hFc q h) hFc (fun r65 f67 t H1 locs ht hvm hw66 hB hz1 hk1 hS => ?_)
      refine tn_4 hw66 (fun hT hF68 hw66r hw66p => ?_); clear hw66
      have hR := hR.then hF68 (by decide)
      have hP := hB.1; rw [ht] at hP; have hD := tp_ad f67 hD; clear hB hFc hz1 hk1; subst ht; generalize t.heap = H at hP hS ⊢
      have hw66pq : r65.toInt = (-1) := by rw [hw66p]; rfl
      have hf_69 : f67 (ρ h0 2) = .inl (κ 0, 12967, .inl g27) := (hF68 _ (by rw [tp_iu y1]; decide)).trans hf_33
      exact W.iret (v := r65) hx hb hr (fun t ht hW => ⟨⟨r65, f67, rfl, ⟨hT, hR, trivial, ⟨(by rw [hf_69, mo_i1]; exact hI), (by rw [hf_69, mo_i1, hf_o26, mo_i1]; exact hKN), ⟨fun q0 => by omega, fun q0 => (by omega)⟩⟩⟩, by rw [ht]; exact hP, va_K.moved hW.alike hK, hD⟩, hS.F ht⟩) hS.2.2 dX12_sea_29
set_option maxHeartbeats 4000000 in
set_option maxRecDepth 100000 in
theorem t_X12_terms (l : Launch) (dC : Nat → ClassId) (dI : Nat → Nat → Nat) (sz : Nat) (κ : Nat → ClassId) (Θ : Nat → Option Int) (τ ν : Nat → Nat) (ρ : Nat → Nat → Nat) (L : List Nat) (f : Nat → va_E) (hG : tp_G τ ν ρ L) (hT : tp_T (mo_O κ Θ) κ τ ν ρ f) (h0 : Nat) (v : Int32) (u : Int32) (ht_h0 : τ h0 = 13) (hJ : mo_RI (-1) 0 (mo_R (mo_i (f (ρ h0 2))))) : Met l yX12_terms wqX12_terms ({ frames := 3, cells := 0, slots := 0, locals := 800 }) (va_Pc [.ref h0, .int v, .int u] (pz_B dC dI (tp_K κ) (va_pl L f) sz)) (va_Qi (fun (r : Int32) (f1 : Nat → va_E) => tp_T (mo_O κ Θ) κ τ ν ρ f1 ∧ tp_F τ [13, 32] f f1 ∧ True ∧ mo_RI (-1) 0 (mo_R (mo_i (f1 (ρ h0 2)))) ∧ mo_KN (fun k => (k = 12 ∨ k = 13)) (mo_R (mo_i (f (ρ h0 2)))) (mo_R (mo_i (f1 (ρ h0 2)))) ∧ ((((¬ ((0 ≤ v.toInt ∧ v.toInt ≤ 100) ∧ (1 ≤ u.toInt ∧ u.toInt ≤ 1000))) → r.toInt = -1) ∧ (¬ (¬ ((0 ≤ v.toInt ∧ v.toInt ≤ 100) ∧ (1 ≤ u.toInt ∧ u.toInt ≤ 1000))) → r.toInt = 0)))) (fun (f1 : Nat → va_E) (t : State) => pz_E dC dI (tp_K κ) (va_A (va_pl L f) sz) (va_pl L f1) t) (va_A (va_pl L f) sz)) 0 0 (va_A (va_pl L f) sz) := by
  refine Met.ofW (cc := cX12_terms) (maxL := 3) (ret := some .int) (by decide) rfl ?_
  intro p e s m args below meth c s₁ B hml hv
  obtain ⟨rfl, hsz, hP, hK, hD0, hN⟩ := hv
  have hx := B.exec
  have hb := B.bytes
  have hr := B.returns
  have hts := fun (w : Cond) (h : w ∈ WALL) => atoms_spec (ws := wqX12_terms) B.pre w (List.mem_cons_of_mem _ h)
  have hown : s.vm.findClass RX12 = some m.cls := findClass_of_methodNamed B.named
  have hlocks := B.notSynchronized
  subst hsz
  have hD := hD0.self (sz := s.heap.size)
  generalize hAe : va_A (va_pl L f) s.heap.size = A at hD ⊢
  have hA : ∀ q : Nat, s.heap.size ≤ q → A q := fun q h => by rw [← hAe]; exact Or.inr h
  have hS : va_S A s.heap s.heap [] := va_S.rf
  have hR : tp_F τ [13, 32] f f := tp_F.rf
  have hl := lv_entry ([.ref h0, .int v, .int u]) (n := 3) (Nat.le_of_ble_eq_true rfl)
  rw [lg_entry_eq]
  generalize (lg_sl ([.ref h0, .int v, .int u]) ++ List.replicate (3 - (lg_sl ([.ref h0, .int v, .int u])).length) Slot.unset).toArray = ls at hl ⊢
  have hl : lv_has ls 3 [(0, .ref h0), (1, .int v), (2, .int u)] := hl
  refine tgk_13 hG ht_h0 (fun y1 y2 y3 y4 y5 y6 y7 y8 y9 y10 y11 y12 y13 y14 y15 y16 y17 y18 y19 y20 y21 y22 y23 y24 y25 => ?_)
  refine tpk_32 hT y1 (fun g27 hf_o26 => ?_)
  have hI : mo_RI (-1) 0 (mo_R g27) := by have q9 := hJ; rw [hf_o26, mo_i1] at q9; exact q9
  have hKN : mo_KN (fun k => (k = 12 ∨ k = 13)) (mo_R g27) (mo_R g27) := mo_KN.rf
  refine lv_aload_n hx hb dX12_terms_0 rfl (lv_at hl 0 rfl) ?_
  refine lv_iconst (v := 0) hx hb dX12_terms_1 (by decide) ?_
  refine tpk_13 hT ht_h0 (fun o28_x0 o28_x1 o28_x7 o28_x9 o28_x10 o28_x11 o28_x12 o28_x13 o28_x14 o28_x15 o28_x16 o28_x17 o28_x18 o28_x19 o28_x20 o28_x22 o28_x25 o28_x28 o28_x29 o28_x32 o28_x33 o28_x34 o28_x35 o28_x36 o28_x37 o28_x38 o28_x47 o28_x48 hf_o28 ro28_0 ro28_1 ro28_2 ro28_3 ro28_4 ro28_5 ro28_6 ro28_7 ro28_8 ro28_9 ro28_10 ro28_11 ro28_12 ro28_13 ro28_14 => ?_)
  refine tpk_pos (tp_in hG ht_h0 (by decide)) hf_o28 (fun q29 eq29 => ?_)
  refine va_put (D := (dC, dI)) (ci := 12) (v := .int 0) (ty := .int) (C := RX12) (T := TX12) (N := 53) hx hb hts hfX12 tyX12 tyX12_ok nmX12 hown hK hP hD hS q29 eq29 rfl 0 (by decide) (hts (.fieldLink RX12 91 "ColdShipsModel" "thrown" "I") wa_209) (fun _ h9 => h9) rfl (tyX12_ok 0 (by decide)) rfl rfl (Nat.le_of_ble_eq_true rfl) dX12_terms_2 (tp_k (.inr (12, [.int 0, .int o28_x1, .ref (ρ h0 2), .ref (ρ h0 3), .ref (ρ h0 4), .ref (ρ h0 5), .ref (ρ h0 6), .int o28_x7, .ref (ρ h0 8), .int o28_x9, .int o28_x10, .int o28_x11, .int o28_x12, .long o28_x13, .int o28_x14, .int o28_x15, .int o28_x16, .int o28_x17, .int o28_x18, .int o28_x19, .int o28_x20, .ref (ρ h0 21), .int o28_x22, .ref (ρ h0 23), .ref (ρ h0 24), .int o28_x25, .ref (ρ h0 26), .ref (ρ h0 27), .int o28_x28, .int o28_x29, .ref (ρ h0 30), .ref (ρ h0 31), .int o28_x32, .long o28_x33, .long o28_x34, .long o28_x35, .int o28_x36, .int o28_x37, .int o28_x38, .ref (ρ h0 39), .ref (ρ h0 40), .ref (ρ h0 41), .ref (ρ h0 42), .ref (ρ h0 43), .ref (ρ h0 44), .ref (ρ h0 45), .ref (ρ h0 46), .int o28_x47, .int o28_x48, .ref (ρ h0 49), .ref (ρ h0 50), .ref (ρ h0 51), .ref (ρ h0 52)])) hD (tp_in hG ht_h0 (by decide)) eq29 (fun f30 H locs hP hD hS g32 k31 => ?_))
  have hT := hT.up ht_h0 g32 k31 ⟨_, _, _, _, _, _, _, _, _, _, _, _, _, _, _, _, _, _, _, _, _, _, _, _, _, _, _, _, rfl, ro28_0, ro28_1, ro28_2, ro28_3, ro28_4, ro28_5, ro28_6, ro28_7, ro28_8, ro28_9, ro28_10, ro28_11, ro28_12, ro28_13, ro28_14⟩
  have hR := hR.up ht_h0 (by decide) k31
  refine lv_iload_n hx hb dX12_terms_5 rfl (lv_at hl 1 rfl) ?_
  refine lv_i2l hx hb dX12_terms_6 rfl ?_
  refine lv_lconst (v := 0) hx hb dX12_terms_7 (by decide) ?_
  refine lv_ldc2 (own := RX12) (v := 100) hx hb hown (hts (.constantLong RX12 150 (100)) wa_375) dX12_terms_8 ?_
  have hf_33 : f30 (ρ h0 2) = .inl (κ 0, 12967, .inl g27) := (k31 _ (tp_ne y1 ht_h0 (by decide))).trans hf_o26
  refine pz_calli (va_runS (As := [.long v.toInt64, .long 0, .long 100]) (rest := []) ⟨hx, hb, hml, hown, hts⟩ (t_X12_in l dC dI _ v.toInt64 (0) (100) (v.toInt) (0) (100) (Int32.toInt_toInt64 v) rfl rfl) (va_cwS 3 hts gX12_terms_X12_in rfl rfl rfl pd_X12_in ⟨Nat.le_of_ble_eq_true rfl, Nat.le_of_ble_eq_true rfl⟩) ⟨pz_blind, pz_pre pz_P0 (hK.sub (tys' := []) [] rfl) (pz_D0 (A := fun _ => True)) hN⟩ rfl rfl hl.1 rfl (lv_room (Nat.le_of_ble_eq_true rfl)) dX12_terms_11 ⟨Nat.le_of_ble_eq_true rfl, Nat.le_of_ble_eq_true rfl⟩) (fun r34 hw35 => ?_)
  obtain ⟨hw35r, hw35p⟩ := hw35
  refine lv_if_eq (tgt := 29) hx hb dX12_terms_14 (by decide) (fun c36 => ?_) (fun c36 => ?_)
  · have ic36 : r34.toInt = 0 := zi_eq rfl rfl c36
    have p37 : ¬ ((0) ≤ (v.toInt) ∧ (v.toInt) ≤ (100)) := (tp_cond.no hw35p) (by omega)
    clear hw35r ic36
    refine lv_aload_n hx hb dX12_terms_29 rfl (lv_at hl 0 rfl) ?_
    refine lv_iconst (v := (-1)) hx hb dX12_terms_30 (by decide) ?_
    refine tpk_pos (tp_in hG ht_h0 (by decide)) g32 (fun q38 eq38 => ?_)
    have hFc := tp_fr hD hS hA
    refine va_calli (va_runV (As := [.int (-1)]) (rest := []) ⟨hx, hb, hml, hown, hts⟩ (t_X12_told l dC dI _ κ Θ τ ν ρ L f30 hG hT h0 ((-1)) ht_h0) (cwV 1 hts gX12_terms_X12_told rfl rfl rfl ⟨rfl, pd_X12_told⟩ ⟨Nat.le_of_ble_eq_true rfl, Nat.le_of_ble_eq_true rfl⟩) ⟨pz_blind, va_recv hK hP (ci := 12) (q0 := q38) rfl eq38, pz_pre hP hK hD hN⟩ rfl rfl hl.1 rfl (lv_room (Nat.le_of_ble_eq_true rfl)) dX12_terms_31 ⟨Nat.le_of_ble_eq_true rfl, Nat.le_of_ble_eq_true rfl⟩) hS (fun q _ h => hFc q h) hFc (fun r39 f41 t H1 locs ht hvm hw40 hB hz1 hk1 hS => ?_)
    refine tn_4 hw40 (fun hT hF42 hw40r hw40p => ?_); clear hw40
    have hR := hR.then hF42 (by decide)
    have hP := hB.1; rw [ht] at hP; have hD := tp_ad f41 hD; clear hB hFc hz1 hk1; subst ht; generalize t.heap = H at hP hS ⊢
    have hw40pq : r39.toInt = (-1) := by rw [hw40p]; rfl
    have hf_43 : f41 (ρ h0 2) = .inl (κ 0, 12967, .inl g27) := (hF42 _ (by rw [tp_iu y1]; decide)).trans hf_33
    exact W.iret (v := r39) hx hb hr (fun t ht hW => ⟨⟨r39, f41, rfl, ⟨hT, hR, trivial, ⟨(by rw [hf_43, mo_i1]; exact hI), (by rw [hf_43, mo_i1, hf_o26, mo_i1]; exact hKN), ⟨fun q0 => by omega, fun q0 => (by omega)⟩⟩⟩, by rw [ht]; exact hP, va_K.moved hW.alike hK, hD⟩, hS.F ht⟩) hS.2.2 dX12_terms_34
  · have ic36 : r34.toInt ≠ 0 := zi_eqf rfl rfl c36
    replace ic36 : 1 ≤ r34.toInt := by omega
    have p44 : (0) ≤ (v.toInt) ∧ (v.toInt) ≤ (100) := (tp_cond.yes hw35p) (by omega)
    clear hw35r ic36
    refine lv_iload_n hx hb dX12_terms_17 rfl (lv_at hl 2 rfl) ?_
    refine lv_i2l hx hb dX12_terms_18 rfl ?_
    refine lv_lconst (v := 1) hx hb dX12_terms_19 (by decide) ?_
    refine lv_ldc2 (own := RX12) (v := 1000) hx hb hown (hts (.constantLong RX12 122 (1000)) wa_271) dX12_terms_20 ?_
    refine pz_calli (va_runS (As := [.long u.toInt64, .long 1, .long 1000]) (rest := []) ⟨hx, hb, hml, hown, hts⟩ (t_X12_in l dC dI _ u.toInt64 (1) (1000) (u.toInt) (1) (1000) (Int32.toInt_toInt64 u) rfl rfl) (va_cwS 3 hts gX12_terms_X12_in rfl rfl rfl pd_X12_in ⟨Nat.le_of_ble_eq_true rfl, Nat.le_of_ble_eq_true rfl⟩) ⟨pz_blind, pz_pre pz_P0 (hK.sub (tys' := []) [] rfl) (pz_D0 (A := fun _ => True)) hN⟩ rfl rfl hl.1 rfl (lv_room (Nat.le_of_ble_eq_true rfl)) dX12_terms_23 ⟨Nat.le_of_ble_eq_true rfl, Nat.le_of_ble_eq_true rfl⟩) (fun r45 hw46 => ?_)
    obtain ⟨hw46r, hw46p⟩ := hw46
    refine lv_if_ne (tgt := 35) hx hb dX12_terms_26 (by decide) (fun c47 => ?_) (fun c47 => ?_)
    · have ic47 : r45.toInt ≠ 0 := zi_ne rfl rfl c47
      replace ic47 : 1 ≤ r45.toInt := by omega
      have p48 : (1) ≤ (u.toInt) ∧ (u.toInt) ≤ (1000) := (tp_cond.yes hw46p) (by omega)
      clear hw46r ic47
      refine lv_aload_n hx hb dX12_terms_35 rfl (lv_at hl 0 rfl) ?_
      refine tpk_pos (tp_in hG ht_h0 (by decide)) g32 (fun q49 eq49 => ?_)
      refine va_get (D := (dC, dI)) (ci := 12) (v := .ref (ρ h0 2)) (C := RX12) (T := TX12) (N := 53) hx hb hts hfX12 hown hK hP q49 eq49 rfl 2 (by decide) (hts (.fieldLink RX12 7 "ColdShipsModel" "row" "[I") wa_148) (fun _ h9 => h9) rfl dX12_terms_36 ?_
      refine lv_bipush (v := 12) hx hb dX12_terms_39 (by decide) ?_
      refine lv_iload_n hx hb dX12_terms_41 rfl (lv_at hl 1 rfl) ?_
      refine tpk_pos (tp_in hG y1 (by decide)) hf_33 (fun q50 eq50 => ?_)
      refine va_iast hx hb hK hP hD hS q50 0 eq50 rfl (vp_in_iff.mpr ⟨by decide, by decide⟩) dX12_terms_42 (tp_k (.inl (κ 0, 12967, .inl (upd g27 (12 : Int32).toNatClampNeg v))) hD (tp_in hG y1 (by decide)) eq50 (fun f51 H locs hP hD hS g53 k52 => ?_))
      have hT := hT.up y1 g53 k52 tp_o32
      have hR := hR.up y1 (by decide) k52
      have hU : mo_U (mo_R g27) (mo_R (upd g27 (12 : Int32).toNatClampNeg v)) (12) (v.toInt) := mo_up (show (12 : Int32).toInt = (12) from by decide) (rfl : v.toInt = _) (by omega)
      generalize (upd g27 (12 : Int32).toNatClampNeg v) = g54 at g53 hU
      have hI := mo_w_cnt hI hU (by omega) (by omega)
      have hKN := hKN.up hU (Or.inr (by show ((12) = 12 ∨ (12) = 13); omega))
      have pn55 : mo_R g54 (12) = v.toInt := hU.eq (by omega)
      refine lv_aload_n hx hb dX12_terms_43 rfl (lv_at hl 0 rfl) ?_
      have hf_56 : f51 h0 = .inr (12, [.int 0, .int o28_x1, .ref (ρ h0 2), .ref (ρ h0 3), .ref (ρ h0 4), .ref (ρ h0 5), .ref (ρ h0 6), .int o28_x7, .ref (ρ h0 8), .int o28_x9, .int o28_x10, .int o28_x11, .int o28_x12, .long o28_x13, .int o28_x14, .int o28_x15, .int o28_x16, .int o28_x17, .int o28_x18, .int o28_x19, .int o28_x20, .ref (ρ h0 21), .int o28_x22, .ref (ρ h0 23), .ref (ρ h0 24), .int o28_x25, .ref (ρ h0 26), .ref (ρ h0 27), .int o28_x28, .int o28_x29, .ref (ρ h0 30), .ref (ρ h0 31), .int o28_x32, .long o28_x33, .long o28_x34, .long o28_x35, .int o28_x36, .int o28_x37, .int o28_x38, .ref (ρ h0 39), .ref (ρ h0 40), .ref (ρ h0 41), .ref (ρ h0 42), .ref (ρ h0 43), .ref (ρ h0 44), .ref (ρ h0 45), .ref (ρ h0 46), .int o28_x47, .int o28_x48, .ref (ρ h0 49), .ref (ρ h0 50), .ref (ρ h0 51), .ref (ρ h0 52)]) := (k52 _ (tp_ne ht_h0 y1 (by decide))).trans g32
      refine tpk_pos (tp_in hG ht_h0 (by decide)) hf_56 (fun q57 eq57 => ?_)
      refine va_get (D := (dC, dI)) (ci := 12) (v := .ref (ρ h0 2)) (C := RX12) (T := TX12) (N := 53) hx hb hts hfX12 hown hK hP q57 eq57 rfl 2 (by decide) (hts (.fieldLink RX12 7 "ColdShipsModel" "row" "[I") wa_148) (fun _ h9 => h9) rfl dX12_terms_44 ?_
      refine lv_bipush (v := 13) hx hb dX12_terms_47 (by decide) ?_
      refine lv_iload_n hx hb dX12_terms_49 rfl (lv_at hl 2 rfl) ?_
      refine tpk_pos (tp_in hG y1 (by decide)) g53 (fun q58 eq58 => ?_)
      refine va_iast hx hb hK hP hD hS q58 0 eq58 rfl (vp_in_iff.mpr ⟨by decide, by decide⟩) dX12_terms_50 (tp_k (.inl (κ 0, 12967, .inl (upd g54 (13 : Int32).toNatClampNeg u))) hD (tp_in hG y1 (by decide)) eq58 (fun f59 H locs hP hD hS g61 k60 => ?_))
      have hT := hT.up y1 g61 k60 tp_o32
      have hR := hR.up y1 (by decide) k60
      have hU : mo_U (mo_R g54) (mo_R (upd g54 (13 : Int32).toNatClampNeg u)) (13) (u.toInt) := mo_up (show (13 : Int32).toInt = (13) from by decide) (rfl : u.toInt = _) (by omega)
      generalize (upd g54 (13 : Int32).toNatClampNeg u) = g62 at g61 hU
      have hI := mo_w_cnt hI hU (by omega) (by omega)
      have hKN := hKN.up hU (Or.inr (by show ((13) = 12 ∨ (13) = 13); omega))
      have pn63 : mo_R g62 (12) = v.toInt := (hU.ne (by omega) (by omega)).trans pn55
      have pn64 : mo_R g62 (13) = u.toInt := hU.eq (by omega)
      refine lv_aload_n hx hb dX12_terms_51 rfl (lv_at hl 0 rfl) ?_
      refine lv_iconst (v := 0) hx hb dX12_terms_52 (by decide) ?_
      have hf_65 : f59 h0 = .inr (12, [.int 0, .int o28_x1, .ref (ρ h0 2), .ref (ρ h0 3), .ref (ρ h0 4), .ref (ρ h0 5), .ref (ρ h0 6), .int o28_x7, .ref (ρ h0 8), .int o28_x9, .int o28_x10, .int o28_x11, .int o28_x12, .long o28_x13, .int o28_x14, .int o28_x15, .int o28_x16, .int o28_x17, .int o28_x18, .int o28_x19, .int o28_x20, .ref (ρ h0 21), .int o28_x22, .ref (ρ h0 23), .ref (ρ h0 24), .int o28_x25, .ref (ρ h0 26), .ref (ρ h0 27), .int o28_x28, .int o28_x29, .ref (ρ h0 30), .ref (ρ h0 31), .int o28_x32, .long o28_x33, .long o28_x34, .long o28_x35, .int o28_x36, .int o28_x37, .int o28_x38, .ref (ρ h0 39), .ref (ρ h0 40), .ref (ρ h0 41), .ref (ρ h0 42), .ref (ρ h0 43), .ref (ρ h0 44), .ref (ρ h0 45), .ref (ρ h0 46), .int o28_x47, .int o28_x48, .ref (ρ h0 49), .ref (ρ h0 50), .ref (ρ h0 51), .ref (ρ h0 52)]) := (k60 _ (tp_ne ht_h0 y1 (by decide))).trans hf_56
      refine tpk_pos (tp_in hG ht_h0 (by decide)) hf_65 (fun q66 eq66 => ?_)
      have hFc := tp_fr hD hS hA
      refine va_calli (va_runV (As := [.int 0]) (rest := []) ⟨hx, hb, hml, hown, hts⟩ (t_X12_told l dC dI _ κ Θ τ ν ρ L f59 hG hT h0 (0) ht_h0) (cwV 1 hts gX12_terms_X12_told rfl rfl rfl ⟨rfl, pd_X12_told⟩ ⟨Nat.le_of_ble_eq_true rfl, Nat.le_of_ble_eq_true rfl⟩) ⟨pz_blind, va_recv hK hP (ci := 12) (q0 := q66) rfl eq66, pz_pre hP hK hD hN⟩ rfl rfl hl.1 rfl (lv_room (Nat.le_of_ble_eq_true rfl)) dX12_terms_53 ⟨Nat.le_of_ble_eq_true rfl, Nat.le_of_ble_eq_true rfl⟩) hS (fun q _ h => hFc q h) hFc (fun r67 f69 t H1 locs ht hvm hw68 hB hz1 hk1 hS => ?_)
      refine tn_4 hw68 (fun hT hF70 hw68r hw68p => ?_); clear hw68
      have hR := hR.then hF70 (by decide)
      have hP := hB.1; rw [ht] at hP; have hD := tp_ad f69 hD; clear hB hFc hz1 hk1; subst ht; generalize t.heap = H at hP hS ⊢
      have hw68pq : r67.toInt = 0 := by rw [hw68p]; rfl
      have hf_71 : f69 (ρ h0 2) = .inl (κ 0, 12967, .inl g62) := (hF70 _ (by rw [tp_iu y1]; decide)).trans g61
      exact W.iret (v := r67) hx hb hr (fun t ht hW => ⟨⟨r67, f69, rfl, ⟨hT, hR, trivial, ⟨(by rw [hf_71, mo_i1]; exact hI), (by rw [hf_71, mo_i1, hf_o26, mo_i1]; exact hKN), ⟨fun q0 => by omega, fun q0 => (by omega)⟩⟩⟩, by rw [ht]; exact hP, va_K.moved hW.alike hK, hD⟩, hS.F ht⟩) hS.2.2 dX12_terms_56
    · have ic47 : r45.toInt = 0 := zi_nef rfl rfl c47
      have p72 : ¬ ((1) ≤ (u.toInt) ∧ (u.toInt) ≤ (1000)) := (tp_cond.no hw46p) (by omega)
      clear hw46r ic47
      refine lv_aload_n hx hb dX12_terms_29 rfl (lv_at hl 0 rfl) ?_
      refine lv_iconst (v := (-1)) hx hb dX12_terms_30 (by decide) ?_
      refine tpk_pos (tp_in hG ht_h0 (by decide)) g32 (fun q73 eq73 => ?_)
      have hFc := tp_fr hD hS hA
      refine va_calli (va_runV (As := [.int (-1)]) (rest := []) ⟨hx, hb, hml, hown, hts⟩ (t_X12_told l dC dI _ κ Θ τ ν ρ L f30 hG hT h0 ((-1)) ht_h0) (cwV 1 hts gX12_terms_X12_told rfl rfl rfl ⟨rfl, pd_X12_told⟩ ⟨Nat.le_of_ble_eq_true rfl, Nat.le_of_ble_eq_true rfl⟩) ⟨pz_blind, va_recv hK hP (ci := 12) (q0 := q73) rfl eq73, pz_pre hP hK hD hN⟩ rfl rfl hl.1 rfl (lv_room (Nat.le_of_ble_eq_true rfl)) dX12_terms_31 ⟨Nat.le_of_ble_eq_true rfl, Nat.le_of_ble_eq_true rfl⟩) hS (fun q _ h => hFc q h) hFc (fun r74 f76 t H1 locs ht hvm hw75 hB hz1 hk1 hS => ?_)
      refine tn_4 hw75 (fun hT hF77 hw75r hw75p => ?_); clear hw75
      have hR := hR.then hF77 (by decide)
      have hP := hB.1; rw [ht] at hP; have hD := tp_ad f76 hD; clear hB hFc hz1 hk1; subst ht; generalize t.heap = H at hP hS ⊢
      have hw75pq : r74.toInt = (-1) := by rw [hw75p]; rfl
      have hf_78 : f76 (ρ h0 2) = .inl (κ 0, 12967, .inl g27) := (hF77 _ (by rw [tp_iu y1]; decide)).trans hf_33
      exact W.iret (v := r74) hx hb hr (fun t ht hW => ⟨⟨r74, f76, rfl, ⟨hT, hR, trivial, ⟨(by rw [hf_78, mo_i1]; exact hI), (by rw [hf_78, mo_i1, hf_o26, mo_i1]; exact hKN), ⟨fun q0 => by omega, fun q0 => (by omega)⟩⟩⟩, by rw [ht]; exact hP, va_K.moved hW.alike hK, hD⟩, hS.F ht⟩) hS.2.2 dX12_terms_34
end
section
theorem gX12_terminal_X12_in : GoodIn WALL (va_wsS RX12 99 yX12_in wqX12_in) := wg_S wa_213 wa_214 wa_5 wa_215
theorem gX12_terminal_X12_told : GoodIn WALL (wsV RX12 105 RX12 yX12_told wqX12_told) := wg_V wa_216 wa_217 wa_218 wa_5 wa_219
theorem gX12_terminal_X12_terminalAt : GoodIn WALL (va_wsS RX12 115 yX12_terminalAt wqX12_terminalAt) := wg_S wa_221 wa_222 wa_5 wa_223
theorem gX12_terminal_X12_addFour : GoodIn WALL (wsV RX12 118 RX12 yX12_addFour wqX12_addFour) := wg_V wa_224 wa_225 wa_226 wa_5 wa_227
theorem dX12_terminal_0 : decode cX12_terminal 0 = .ok (.aload_n 0, 1) := od_42  (by decide +kernel)
theorem dX12_terminal_1 : decode cX12_terminal 1 = .ok (.iconst 0, 1) := od_3  (by decide +kernel)
theorem dX12_terminal_2 : decode cX12_terminal 2 = .ok (.putfield 91, 3) := od_181 (a := 0) (b := 91) (by decide +kernel) (by decide)
theorem dX12_terminal_5 : decode cX12_terminal 5 = .ok (.iload_n 2, 1) := od_28  (by decide +kernel)
theorem dX12_terminal_6 : decode cX12_terminal 6 = .ok (.i2l, 1) := od_133  (by decide +kernel)
theorem dX12_terminal_7 : decode cX12_terminal 7 = .ok (.lconst 0, 1) := od_9  (by decide +kernel)
theorem dX12_terminal_8 : decode cX12_terminal 8 = .ok (.ldc2_w 109, 3) := od_20 (a := 0) (b := 109) (by decide +kernel) (by decide)
theorem dX12_terminal_11 : decode cX12_terminal 11 = .ok (.invokestatic 99, 3) := od_184 (a := 0) (b := 99) (by decide +kernel) (by decide)
theorem dX12_terminal_14 : decode cX12_terminal 14 = .ok (.ifCond .eq 39, 3) := od_153 (a := 0) (b := 39) (by decide +kernel) (by decide +kernel)
theorem dX12_terminal_17 : decode cX12_terminal 17 = .ok (.iload_n 1, 1) := od_27  (by decide +kernel)
theorem dX12_terminal_18 : decode cX12_terminal 18 = .ok (.i2l, 1) := od_133  (by decide +kernel)
theorem dX12_terminal_19 : decode cX12_terminal 19 = .ok (.lconst 0, 1) := od_9  (by decide +kernel)
theorem dX12_terminal_20 : decode cX12_terminal 20 = .ok (.iload_n 2, 1) := od_28  (by decide +kernel)
theorem dX12_terminal_21 : decode cX12_terminal 21 = .ok (.i2l, 1) := od_133  (by decide +kernel)
theorem dX12_terminal_22 : decode cX12_terminal 22 = .ok (.invokestatic 99, 3) := od_184 (a := 0) (b := 99) (by decide +kernel) (by decide)
theorem dX12_terminal_25 : decode cX12_terminal 25 = .ok (.ifCond .eq 28, 3) := od_153 (a := 0) (b := 28) (by decide +kernel) (by decide +kernel)
theorem dX12_terminal_28 : decode cX12_terminal 28 = .ok (.iload_n 3, 1) := od_29  (by decide +kernel)
theorem dX12_terminal_29 : decode cX12_terminal 29 = .ok (.i2l, 1) := od_133  (by decide +kernel)
theorem dX12_terminal_30 : decode cX12_terminal 30 = .ok (.lconst 1, 1) := od_10  (by decide +kernel)
theorem dX12_terminal_31 : decode cX12_terminal 31 = .ok (.ldc2_w 111, 3) := od_20 (a := 0) (b := 111) (by decide +kernel) (by decide)
theorem dX12_terminal_34 : decode cX12_terminal 34 = .ok (.invokestatic 99, 3) := od_184 (a := 0) (b := 99) (by decide +kernel) (by decide)
theorem dX12_terminal_37 : decode cX12_terminal 37 = .ok (.ifCond .eq 16, 3) := od_153 (a := 0) (b := 16) (by decide +kernel) (by decide +kernel)
theorem dX12_terminal_40 : decode cX12_terminal 40 = .ok (.iload 4, 2) := od_21 (n := 4) (by decide +kernel)
theorem dX12_terminal_42 : decode cX12_terminal 42 = .ok (.i2l, 1) := od_133  (by decide +kernel)
theorem dX12_terminal_43 : decode cX12_terminal 43 = .ok (.lconst 0, 1) := od_9  (by decide +kernel)
theorem dX12_terminal_44 : decode cX12_terminal 44 = .ok (.ldc2_w 113, 3) := od_20 (a := 0) (b := 113) (by decide +kernel) (by decide)
theorem dX12_terminal_47 : decode cX12_terminal 47 = .ok (.invokestatic 99, 3) := od_184 (a := 0) (b := 99) (by decide +kernel) (by decide)
theorem dX12_terminal_50 : decode cX12_terminal 50 = .ok (.ifCond .ne 9, 3) := od_154 (a := 0) (b := 9) (by decide +kernel) (by decide +kernel)
theorem dX12_terminal_53 : decode cX12_terminal 53 = .ok (.aload_n 0, 1) := od_42  (by decide +kernel)
theorem dX12_terminal_54 : decode cX12_terminal 54 = .ok (.iconst (-1), 1) := od_2  (by decide +kernel)
theorem dX12_terminal_55 : decode cX12_terminal 55 = .ok (.invokevirtual 105, 3) := od_182 (a := 0) (b := 105) (by decide +kernel) (by decide)
theorem dX12_terminal_58 : decode cX12_terminal 58 = .ok (.ireturn, 1) := od_172  (by decide +kernel)
theorem dX12_terminal_59 : decode cX12_terminal 59 = .ok (.aload_n 0, 1) := od_42  (by decide +kernel)
theorem dX12_terminal_60 : decode cX12_terminal 60 = .ok (.getfield 7, 3) := od_180 (a := 0) (b := 7) (by decide +kernel) (by decide)
theorem dX12_terminal_63 : decode cX12_terminal 63 = .ok (.iconst 0, 1) := od_3  (by decide +kernel)
theorem dX12_terminal_64 : decode cX12_terminal 64 = .ok (.iaload, 1) := od_46  (by decide +kernel)
theorem dX12_terminal_65 : decode cX12_terminal 65 = .ok (.bipush 6, 2) := od_16 (a := 6) (by decide +kernel) (by decide +kernel)
theorem dX12_terminal_67 : decode cX12_terminal 67 = .ok (.if_icmp .ne 10, 3) := od_160 (a := 0) (b := 10) (by decide +kernel) (by decide +kernel)
theorem dX12_terminal_70 : decode cX12_terminal 70 = .ok (.aload_n 0, 1) := od_42  (by decide +kernel)
theorem dX12_terminal_71 : decode cX12_terminal 71 = .ok (.bipush (-5), 2) := od_16 (a := 251) (by decide +kernel) (by decide +kernel)
theorem dX12_terminal_73 : decode cX12_terminal 73 = .ok (.invokevirtual 105, 3) := od_182 (a := 0) (b := 105) (by decide +kernel) (by decide)
theorem dX12_terminal_76 : decode cX12_terminal 76 = .ok (.ireturn, 1) := od_172  (by decide +kernel)
theorem dX12_terminal_77 : decode cX12_terminal 77 = .ok (.aload_n 0, 1) := od_42  (by decide +kernel)
theorem dX12_terminal_78 : decode cX12_terminal 78 = .ok (.getfield 7, 3) := od_180 (a := 0) (b := 7) (by decide +kernel) (by decide)
theorem dX12_terminal_81 : decode cX12_terminal 81 = .ok (.iconst 0, 1) := od_3  (by decide +kernel)
theorem dX12_terminal_82 : decode cX12_terminal 82 = .ok (.iaload, 1) := od_46  (by decide +kernel)
theorem dX12_terminal_83 : decode cX12_terminal 83 = .ok (.invokestatic 115, 3) := od_184 (a := 0) (b := 115) (by decide +kernel) (by decide)
theorem dX12_terminal_86 : decode cX12_terminal 86 = .ok (.istore 5, 2) := od_54 (n := 5) (by decide +kernel)
theorem dX12_terminal_88 : decode cX12_terminal 88 = .ok (.aload_n 0, 1) := od_42  (by decide +kernel)
theorem dX12_terminal_89 : decode cX12_terminal 89 = .ok (.iload 5, 2) := od_21 (n := 5) (by decide +kernel)
theorem dX12_terminal_91 : decode cX12_terminal 91 = .ok (.iload_n 1, 1) := od_27  (by decide +kernel)
theorem dX12_terminal_92 : decode cX12_terminal 92 = .ok (.iload_n 2, 1) := od_28  (by decide +kernel)
theorem dX12_terminal_93 : decode cX12_terminal 93 = .ok (.iload_n 3, 1) := od_29  (by decide +kernel)
theorem dX12_terminal_94 : decode cX12_terminal 94 = .ok (.iload 4, 2) := od_21 (n := 4) (by decide +kernel)
theorem dX12_terminal_96 : decode cX12_terminal 96 = .ok (.invokevirtual 118, 3) := od_182 (a := 0) (b := 118) (by decide +kernel) (by decide)
theorem dX12_terminal_99 : decode cX12_terminal 99 = .ok (.aload_n 0, 1) := od_42  (by decide +kernel)
theorem dX12_terminal_100 : decode cX12_terminal 100 = .ok (.getfield 7, 3) := od_180 (a := 0) (b := 7) (by decide +kernel) (by decide)
theorem dX12_terminal_103 : decode cX12_terminal 103 = .ok (.iload 5, 2) := od_21 (n := 5) (by decide +kernel)
theorem dX12_terminal_105 : decode cX12_terminal 105 = .ok (.iconst 4, 1) := od_7  (by decide +kernel)
theorem dX12_terminal_106 : decode cX12_terminal 106 = .ok (.iadd, 1) := od_96  (by decide +kernel)
theorem dX12_terminal_107 : decode cX12_terminal 107 = .ok (.sipush 1000, 3) := od_17 (a := 3) (b := 232) (by decide +kernel) (by decide +kernel)
theorem dX12_terminal_110 : decode cX12_terminal 110 = .ok (.iastore, 1) := od_79  (by decide +kernel)
theorem dX12_terminal_111 : decode cX12_terminal 111 = .ok (.aload_n 0, 1) := od_42  (by decide +kernel)
theorem dX12_terminal_112 : decode cX12_terminal 112 = .ok (.getfield 7, 3) := od_180 (a := 0) (b := 7) (by decide +kernel) (by decide)
theorem dX12_terminal_115 : decode cX12_terminal 115 = .ok (.iconst 0, 1) := od_3  (by decide +kernel)
theorem dX12_terminal_116 : decode cX12_terminal 116 = .ok (.dup2, 1) := od_92  (by decide +kernel)
theorem dX12_terminal_117 : decode cX12_terminal 117 = .ok (.iaload, 1) := od_46  (by decide +kernel)
theorem dX12_terminal_118 : decode cX12_terminal 118 = .ok (.iconst 1, 1) := od_4  (by decide +kernel)
theorem dX12_terminal_119 : decode cX12_terminal 119 = .ok (.iadd, 1) := od_96  (by decide +kernel)
theorem dX12_terminal_120 : decode cX12_terminal 120 = .ok (.iastore, 1) := od_79  (by decide +kernel)
theorem dX12_terminal_121 : decode cX12_terminal 121 = .ok (.aload_n 0, 1) := od_42  (by decide +kernel)
theorem dX12_terminal_122 : decode cX12_terminal 122 = .ok (.aload_n 0, 1) := od_42  (by decide +kernel)
theorem dX12_terminal_123 : decode cX12_terminal 123 = .ok (.getfield 7, 3) := od_180 (a := 0) (b := 7) (by decide +kernel) (by decide)
theorem dX12_terminal_126 : decode cX12_terminal 126 = .ok (.iconst 0, 1) := od_3  (by decide +kernel)
theorem dX12_terminal_127 : decode cX12_terminal 127 = .ok (.iaload, 1) := od_46  (by decide +kernel)
theorem dX12_terminal_128 : decode cX12_terminal 128 = .ok (.iconst 1, 1) := od_4  (by decide +kernel)
theorem dX12_terminal_129 : decode cX12_terminal 129 = .ok (.isub, 1) := od_100  (by decide +kernel)
theorem dX12_terminal_130 : decode cX12_terminal 130 = .ok (.invokevirtual 105, 3) := od_182 (a := 0) (b := 105) (by decide +kernel) (by decide)
theorem dX12_terminal_133 : decode cX12_terminal 133 = .ok (.ireturn, 1) := od_172  (by decide +kernel)
theorem gX12_ship_X12_in : GoodIn WALL (va_wsS RX12 99 yX12_in wqX12_in) := wg_S wa_213 wa_214 wa_5 wa_215
theorem gX12_ship_X12_told : GoodIn WALL (wsV RX12 105 RX12 yX12_told wqX12_told) := wg_V wa_216 wa_217 wa_218 wa_5 wa_219
theorem gX12_ship_X12_isTerminal : GoodIn WALL (wsV RX12 128 RX12 yX12_isTerminal wqX12_isTerminal) := wg_V wa_274 wa_275 wa_276 wa_5 wa_277
theorem gX12_ship_X12_shipAt : GoodIn WALL (va_wsS RX12 132 yX12_shipAt wqX12_shipAt) := wg_S wa_278 wa_279 wa_5 wa_280
theorem dX12_ship_0 : decode cX12_ship 0 = .ok (.aload_n 0, 1) := od_42  (by decide +kernel)
theorem dX12_ship_1 : decode cX12_ship 1 = .ok (.iconst 0, 1) := od_3  (by decide +kernel)
theorem dX12_ship_2 : decode cX12_ship 2 = .ok (.putfield 91, 3) := od_181 (a := 0) (b := 91) (by decide +kernel) (by decide)
theorem dX12_ship_5 : decode cX12_ship 5 = .ok (.iload_n 2, 1) := od_28  (by decide +kernel)
theorem dX12_ship_6 : decode cX12_ship 6 = .ok (.i2l, 1) := od_133  (by decide +kernel)
theorem dX12_ship_7 : decode cX12_ship 7 = .ok (.ldc2_w 122, 3) := od_20 (a := 0) (b := 122) (by decide +kernel) (by decide)
theorem dX12_ship_10 : decode cX12_ship 10 = .ok (.ldc2_w 124, 3) := od_20 (a := 0) (b := 124) (by decide +kernel) (by decide)
theorem dX12_ship_13 : decode cX12_ship 13 = .ok (.invokestatic 99, 3) := od_184 (a := 0) (b := 99) (by decide +kernel) (by decide)
theorem dX12_ship_16 : decode cX12_ship 16 = .ok (.ifCond .eq 15, 3) := od_153 (a := 0) (b := 15) (by decide +kernel) (by decide +kernel)
theorem dX12_ship_19 : decode cX12_ship 19 = .ok (.iload_n 3, 1) := od_29  (by decide +kernel)
theorem dX12_ship_20 : decode cX12_ship 20 = .ok (.i2l, 1) := od_133  (by decide +kernel)
theorem dX12_ship_21 : decode cX12_ship 21 = .ok (.lconst 1, 1) := od_10  (by decide +kernel)
theorem dX12_ship_22 : decode cX12_ship 22 = .ok (.ldc2_w 126, 3) := od_20 (a := 0) (b := 126) (by decide +kernel) (by decide)
theorem dX12_ship_25 : decode cX12_ship 25 = .ok (.invokestatic 99, 3) := od_184 (a := 0) (b := 99) (by decide +kernel) (by decide)
theorem dX12_ship_28 : decode cX12_ship 28 = .ok (.ifCond .ne 9, 3) := od_154 (a := 0) (b := 9) (by decide +kernel) (by decide +kernel)
theorem dX12_ship_31 : decode cX12_ship 31 = .ok (.aload_n 0, 1) := od_42  (by decide +kernel)
theorem dX12_ship_32 : decode cX12_ship 32 = .ok (.iconst (-1), 1) := od_2  (by decide +kernel)
theorem dX12_ship_33 : decode cX12_ship 33 = .ok (.invokevirtual 105, 3) := od_182 (a := 0) (b := 105) (by decide +kernel) (by decide)
theorem dX12_ship_36 : decode cX12_ship 36 = .ok (.ireturn, 1) := od_172  (by decide +kernel)
theorem dX12_ship_37 : decode cX12_ship 37 = .ok (.aload_n 0, 1) := od_42  (by decide +kernel)
theorem dX12_ship_38 : decode cX12_ship 38 = .ok (.iload_n 1, 1) := od_27  (by decide +kernel)
theorem dX12_ship_39 : decode cX12_ship 39 = .ok (.invokevirtual 128, 3) := od_182 (a := 0) (b := 128) (by decide +kernel) (by decide)
theorem dX12_ship_42 : decode cX12_ship 42 = .ok (.ifCond .ne 10, 3) := od_154 (a := 0) (b := 10) (by decide +kernel) (by decide +kernel)
theorem dX12_ship_45 : decode cX12_ship 45 = .ok (.aload_n 0, 1) := od_42  (by decide +kernel)
theorem dX12_ship_46 : decode cX12_ship 46 = .ok (.bipush (-2), 2) := od_16 (a := 254) (by decide +kernel) (by decide +kernel)
theorem dX12_ship_48 : decode cX12_ship 48 = .ok (.invokevirtual 105, 3) := od_182 (a := 0) (b := 105) (by decide +kernel) (by decide)
theorem dX12_ship_51 : decode cX12_ship 51 = .ok (.ireturn, 1) := od_172  (by decide +kernel)
theorem dX12_ship_52 : decode cX12_ship 52 = .ok (.aload_n 0, 1) := od_42  (by decide +kernel)
theorem dX12_ship_53 : decode cX12_ship 53 = .ok (.getfield 7, 3) := od_180 (a := 0) (b := 7) (by decide +kernel) (by decide)
theorem dX12_ship_56 : decode cX12_ship 56 = .ok (.iconst 1, 1) := od_4  (by decide +kernel)
theorem dX12_ship_57 : decode cX12_ship 57 = .ok (.iaload, 1) := od_46  (by decide +kernel)
theorem dX12_ship_58 : decode cX12_ship 58 = .ok (.bipush 6, 2) := od_16 (a := 6) (by decide +kernel) (by decide +kernel)
theorem dX12_ship_60 : decode cX12_ship 60 = .ok (.if_icmp .ne 10, 3) := od_160 (a := 0) (b := 10) (by decide +kernel) (by decide +kernel)
theorem dX12_ship_63 : decode cX12_ship 63 = .ok (.aload_n 0, 1) := od_42  (by decide +kernel)
theorem dX12_ship_64 : decode cX12_ship 64 = .ok (.bipush (-5), 2) := od_16 (a := 251) (by decide +kernel) (by decide +kernel)
theorem dX12_ship_66 : decode cX12_ship 66 = .ok (.invokevirtual 105, 3) := od_182 (a := 0) (b := 105) (by decide +kernel) (by decide)
theorem dX12_ship_69 : decode cX12_ship 69 = .ok (.ireturn, 1) := od_172  (by decide +kernel)
theorem dX12_ship_70 : decode cX12_ship 70 = .ok (.aload_n 0, 1) := od_42  (by decide +kernel)
theorem dX12_ship_71 : decode cX12_ship 71 = .ok (.getfield 7, 3) := od_180 (a := 0) (b := 7) (by decide +kernel) (by decide)
theorem dX12_ship_74 : decode cX12_ship 74 = .ok (.iconst 1, 1) := od_4  (by decide +kernel)
theorem dX12_ship_75 : decode cX12_ship 75 = .ok (.iaload, 1) := od_46  (by decide +kernel)
theorem dX12_ship_76 : decode cX12_ship 76 = .ok (.invokestatic 132, 3) := od_184 (a := 0) (b := 132) (by decide +kernel) (by decide)
theorem dX12_ship_79 : decode cX12_ship 79 = .ok (.istore 4, 2) := od_54 (n := 4) (by decide +kernel)
theorem dX12_ship_81 : decode cX12_ship 81 = .ok (.iconst 0, 1) := od_3  (by decide +kernel)
theorem dX12_ship_82 : decode cX12_ship 82 = .ok (.istore 5, 2) := od_54 (n := 5) (by decide +kernel)
theorem dX12_ship_84 : decode cX12_ship 84 = .ok (.iload 5, 2) := od_21 (n := 5) (by decide +kernel)
theorem dX12_ship_86 : decode cX12_ship 86 = .ok (.bipush 84, 2) := od_16 (a := 84) (by decide +kernel) (by decide +kernel)
theorem dX12_ship_88 : decode cX12_ship 88 = .ok (.if_icmp .ge 20, 3) := od_162 (a := 0) (b := 20) (by decide +kernel) (by decide +kernel)
theorem dX12_ship_91 : decode cX12_ship 91 = .ok (.aload_n 0, 1) := od_42  (by decide +kernel)
theorem dX12_ship_92 : decode cX12_ship 92 = .ok (.getfield 7, 3) := od_180 (a := 0) (b := 7) (by decide +kernel) (by decide)
theorem dX12_ship_95 : decode cX12_ship 95 = .ok (.iload 4, 2) := od_21 (n := 4) (by decide +kernel)
theorem dX12_ship_97 : decode cX12_ship 97 = .ok (.iload 5, 2) := od_21 (n := 5) (by decide +kernel)
theorem dX12_ship_99 : decode cX12_ship 99 = .ok (.iadd, 1) := od_96  (by decide +kernel)
theorem dX12_ship_100 : decode cX12_ship 100 = .ok (.iconst 0, 1) := od_3  (by decide +kernel)
theorem dX12_ship_101 : decode cX12_ship 101 = .ok (.iastore, 1) := od_79  (by decide +kernel)
theorem dX12_ship_102 : decode cX12_ship 102 = .ok (.iinc 5 1, 3) := od_132 (a := 5) (b := 1) (by decide +kernel) (by decide +kernel)
theorem dX12_ship_105 : decode cX12_ship 105 = .ok (.goto (-21), 3) := od_167 (a := 255) (b := 235) (by decide +kernel) (by decide +kernel)
theorem dX12_ship_108 : decode cX12_ship 108 = .ok (.aload_n 0, 1) := od_42  (by decide +kernel)
theorem dX12_ship_109 : decode cX12_ship 109 = .ok (.getfield 7, 3) := od_180 (a := 0) (b := 7) (by decide +kernel) (by decide)
theorem dX12_ship_112 : decode cX12_ship 112 = .ok (.iload 4, 2) := od_21 (n := 4) (by decide +kernel)
theorem dX12_ship_114 : decode cX12_ship 114 = .ok (.iconst 0, 1) := od_3  (by decide +kernel)
theorem dX12_ship_115 : decode cX12_ship 115 = .ok (.iadd, 1) := od_96  (by decide +kernel)
theorem dX12_ship_116 : decode cX12_ship 116 = .ok (.iload_n 1, 1) := od_27  (by decide +kernel)
theorem dX12_ship_117 : decode cX12_ship 117 = .ok (.iastore, 1) := od_79  (by decide +kernel)
theorem dX12_ship_118 : decode cX12_ship 118 = .ok (.aload_n 0, 1) := od_42  (by decide +kernel)
theorem dX12_ship_119 : decode cX12_ship 119 = .ok (.getfield 7, 3) := od_180 (a := 0) (b := 7) (by decide +kernel) (by decide)
theorem dX12_ship_122 : decode cX12_ship 122 = .ok (.iload 4, 2) := od_21 (n := 4) (by decide +kernel)
theorem dX12_ship_124 : decode cX12_ship 124 = .ok (.bipush 6, 2) := od_16 (a := 6) (by decide +kernel) (by decide +kernel)
theorem dX12_ship_126 : decode cX12_ship 126 = .ok (.iadd, 1) := od_96  (by decide +kernel)
theorem dX12_ship_127 : decode cX12_ship 127 = .ok (.sipush 1800, 3) := od_17 (a := 7) (b := 8) (by decide +kernel) (by decide +kernel)
theorem dX12_ship_130 : decode cX12_ship 130 = .ok (.iastore, 1) := od_79  (by decide +kernel)
theorem dX12_ship_131 : decode cX12_ship 131 = .ok (.aload_n 0, 1) := od_42  (by decide +kernel)
theorem dX12_ship_132 : decode cX12_ship 132 = .ok (.getfield 7, 3) := od_180 (a := 0) (b := 7) (by decide +kernel) (by decide)
theorem dX12_ship_135 : decode cX12_ship 135 = .ok (.iload 4, 2) := od_21 (n := 4) (by decide +kernel)
theorem dX12_ship_137 : decode cX12_ship 137 = .ok (.bipush 7, 2) := od_16 (a := 7) (by decide +kernel) (by decide +kernel)
theorem dX12_ship_139 : decode cX12_ship 139 = .ok (.iadd, 1) := od_96  (by decide +kernel)
theorem dX12_ship_140 : decode cX12_ship 140 = .ok (.iload_n 2, 1) := od_28  (by decide +kernel)
theorem dX12_ship_141 : decode cX12_ship 141 = .ok (.iastore, 1) := od_79  (by decide +kernel)
theorem dX12_ship_142 : decode cX12_ship 142 = .ok (.aload_n 0, 1) := od_42  (by decide +kernel)
theorem dX12_ship_143 : decode cX12_ship 143 = .ok (.getfield 7, 3) := od_180 (a := 0) (b := 7) (by decide +kernel) (by decide)
theorem dX12_ship_146 : decode cX12_ship 146 = .ok (.iload 4, 2) := od_21 (n := 4) (by decide +kernel)
theorem dX12_ship_148 : decode cX12_ship 148 = .ok (.bipush 8, 2) := od_16 (a := 8) (by decide +kernel) (by decide +kernel)
theorem dX12_ship_150 : decode cX12_ship 150 = .ok (.iadd, 1) := od_96  (by decide +kernel)
theorem dX12_ship_151 : decode cX12_ship 151 = .ok (.iload_n 3, 1) := od_29  (by decide +kernel)
theorem dX12_ship_152 : decode cX12_ship 152 = .ok (.iastore, 1) := od_79  (by decide +kernel)
theorem dX12_ship_153 : decode cX12_ship 153 = .ok (.aload_n 0, 1) := od_42  (by decide +kernel)
theorem dX12_ship_154 : decode cX12_ship 154 = .ok (.getfield 7, 3) := od_180 (a := 0) (b := 7) (by decide +kernel) (by decide)
theorem dX12_ship_157 : decode cX12_ship 157 = .ok (.iconst 1, 1) := od_4  (by decide +kernel)
theorem dX12_ship_158 : decode cX12_ship 158 = .ok (.dup2, 1) := od_92  (by decide +kernel)
theorem dX12_ship_159 : decode cX12_ship 159 = .ok (.iaload, 1) := od_46  (by decide +kernel)
theorem dX12_ship_160 : decode cX12_ship 160 = .ok (.iconst 1, 1) := od_4  (by decide +kernel)
theorem dX12_ship_161 : decode cX12_ship 161 = .ok (.iadd, 1) := od_96  (by decide +kernel)
theorem dX12_ship_162 : decode cX12_ship 162 = .ok (.iastore, 1) := od_79  (by decide +kernel)
theorem dX12_ship_163 : decode cX12_ship 163 = .ok (.aload_n 0, 1) := od_42  (by decide +kernel)
theorem dX12_ship_164 : decode cX12_ship 164 = .ok (.aload_n 0, 1) := od_42  (by decide +kernel)
theorem dX12_ship_165 : decode cX12_ship 165 = .ok (.getfield 7, 3) := od_180 (a := 0) (b := 7) (by decide +kernel) (by decide)
theorem dX12_ship_168 : decode cX12_ship 168 = .ok (.iconst 1, 1) := od_4  (by decide +kernel)
theorem dX12_ship_169 : decode cX12_ship 169 = .ok (.iaload, 1) := od_46  (by decide +kernel)
theorem dX12_ship_170 : decode cX12_ship 170 = .ok (.iconst 1, 1) := od_4  (by decide +kernel)
theorem dX12_ship_171 : decode cX12_ship 171 = .ok (.isub, 1) := od_100  (by decide +kernel)
theorem dX12_ship_172 : decode cX12_ship 172 = .ok (.invokevirtual 105, 3) := od_182 (a := 0) (b := 105) (by decide +kernel) (by decide)
theorem dX12_ship_175 : decode cX12_ship 175 = .ok (.ireturn, 1) := od_172  (by decide +kernel)
theorem gX12_way_X12_in : GoodIn WALL (va_wsS RX12 99 yX12_in wqX12_in) := wg_S wa_213 wa_214 wa_5 wa_215
theorem gX12_way_X12_told : GoodIn WALL (wsV RX12 105 RX12 yX12_told wqX12_told) := wg_V wa_216 wa_217 wa_218 wa_5 wa_219
theorem gX12_way_X12_isTerminal : GoodIn WALL (wsV RX12 128 RX12 yX12_isTerminal wqX12_isTerminal) := wg_V wa_274 wa_275 wa_276 wa_5 wa_277
theorem dX12_way_0 : decode cX12_way 0 = .ok (.aload_n 0, 1) := od_42  (by decide +kernel)
theorem dX12_way_1 : decode cX12_way 1 = .ok (.iconst 0, 1) := od_3  (by decide +kernel)
theorem dX12_way_2 : decode cX12_way 2 = .ok (.putfield 91, 3) := od_181 (a := 0) (b := 91) (by decide +kernel) (by decide)
theorem dX12_way_5 : decode cX12_way 5 = .ok (.iload_n 3, 1) := od_29  (by decide +kernel)
theorem dX12_way_6 : decode cX12_way 6 = .ok (.i2l, 1) := od_133  (by decide +kernel)
theorem dX12_way_7 : decode cX12_way 7 = .ok (.lconst 1, 1) := od_10  (by decide +kernel)
theorem dX12_way_8 : decode cX12_way 8 = .ok (.ldc2_w 135, 3) := od_20 (a := 0) (b := 135) (by decide +kernel) (by decide)
theorem dX12_way_11 : decode cX12_way 11 = .ok (.invokestatic 99, 3) := od_184 (a := 0) (b := 99) (by decide +kernel) (by decide)
theorem dX12_way_14 : decode cX12_way 14 = .ok (.ifCond .ne 9, 3) := od_154 (a := 0) (b := 9) (by decide +kernel) (by decide +kernel)
theorem dX12_way_17 : decode cX12_way 17 = .ok (.aload_n 0, 1) := od_42  (by decide +kernel)
theorem dX12_way_18 : decode cX12_way 18 = .ok (.iconst (-1), 1) := od_2  (by decide +kernel)
theorem dX12_way_19 : decode cX12_way 19 = .ok (.invokevirtual 105, 3) := od_182 (a := 0) (b := 105) (by decide +kernel) (by decide)
theorem dX12_way_22 : decode cX12_way 22 = .ok (.ireturn, 1) := od_172  (by decide +kernel)
theorem dX12_way_23 : decode cX12_way 23 = .ok (.aload_n 0, 1) := od_42  (by decide +kernel)
theorem dX12_way_24 : decode cX12_way 24 = .ok (.iload_n 1, 1) := od_27  (by decide +kernel)
theorem dX12_way_25 : decode cX12_way 25 = .ok (.invokevirtual 128, 3) := od_182 (a := 0) (b := 128) (by decide +kernel) (by decide)
theorem dX12_way_28 : decode cX12_way 28 = .ok (.ifCond .eq 11, 3) := od_153 (a := 0) (b := 11) (by decide +kernel) (by decide +kernel)
theorem dX12_way_31 : decode cX12_way 31 = .ok (.aload_n 0, 1) := od_42  (by decide +kernel)
theorem dX12_way_32 : decode cX12_way 32 = .ok (.iload_n 2, 1) := od_28  (by decide +kernel)
theorem dX12_way_33 : decode cX12_way 33 = .ok (.invokevirtual 128, 3) := od_182 (a := 0) (b := 128) (by decide +kernel) (by decide)
theorem dX12_way_36 : decode cX12_way 36 = .ok (.ifCond .ne 10, 3) := od_154 (a := 0) (b := 10) (by decide +kernel) (by decide +kernel)
theorem dX12_way_39 : decode cX12_way 39 = .ok (.aload_n 0, 1) := od_42  (by decide +kernel)
theorem dX12_way_40 : decode cX12_way 40 = .ok (.bipush (-2), 2) := od_16 (a := 254) (by decide +kernel) (by decide +kernel)
theorem dX12_way_42 : decode cX12_way 42 = .ok (.invokevirtual 105, 3) := od_182 (a := 0) (b := 105) (by decide +kernel) (by decide)
theorem dX12_way_45 : decode cX12_way 45 = .ok (.ireturn, 1) := od_172  (by decide +kernel)
theorem dX12_way_46 : decode cX12_way 46 = .ok (.iload_n 1, 1) := od_27  (by decide +kernel)
theorem dX12_way_47 : decode cX12_way 47 = .ok (.iload_n 2, 1) := od_28  (by decide +kernel)
theorem dX12_way_48 : decode cX12_way 48 = .ok (.if_icmp .ne 10, 3) := od_160 (a := 0) (b := 10) (by decide +kernel) (by decide +kernel)
theorem dX12_way_51 : decode cX12_way 51 = .ok (.aload_n 0, 1) := od_42  (by decide +kernel)
theorem dX12_way_52 : decode cX12_way 52 = .ok (.bipush (-3), 2) := od_16 (a := 253) (by decide +kernel) (by decide +kernel)
theorem dX12_way_54 : decode cX12_way 54 = .ok (.invokevirtual 105, 3) := od_182 (a := 0) (b := 105) (by decide +kernel) (by decide)
theorem dX12_way_57 : decode cX12_way 57 = .ok (.ireturn, 1) := od_172  (by decide +kernel)
theorem dX12_way_58 : decode cX12_way 58 = .ok (.bipush 50, 2) := od_16 (a := 50) (by decide +kernel) (by decide +kernel)
theorem dX12_way_60 : decode cX12_way 60 = .ok (.iconst 2, 1) := od_5  (by decide +kernel)
theorem dX12_way_61 : decode cX12_way 61 = .ok (.bipush 6, 2) := od_16 (a := 6) (by decide +kernel) (by decide +kernel)
theorem dX12_way_63 : decode cX12_way 63 = .ok (.iload_n 1, 1) := od_27  (by decide +kernel)
theorem dX12_way_64 : decode cX12_way 64 = .ok (.imul, 1) := od_104  (by decide +kernel)
theorem dX12_way_65 : decode cX12_way 65 = .ok (.iload_n 2, 1) := od_28  (by decide +kernel)
theorem dX12_way_66 : decode cX12_way 66 = .ok (.iadd, 1) := od_96  (by decide +kernel)
theorem dX12_way_67 : decode cX12_way 67 = .ok (.imul, 1) := od_104  (by decide +kernel)
theorem dX12_way_68 : decode cX12_way 68 = .ok (.iadd, 1) := od_96  (by decide +kernel)
theorem dX12_way_69 : decode cX12_way 69 = .ok (.istore 5, 2) := od_54 (n := 5) (by decide +kernel)
theorem dX12_way_71 : decode cX12_way 71 = .ok (.bipush 50, 2) := od_16 (a := 50) (by decide +kernel) (by decide +kernel)
theorem dX12_way_73 : decode cX12_way 73 = .ok (.iconst 2, 1) := od_5  (by decide +kernel)
theorem dX12_way_74 : decode cX12_way 74 = .ok (.bipush 6, 2) := od_16 (a := 6) (by decide +kernel) (by decide +kernel)
theorem dX12_way_76 : decode cX12_way 76 = .ok (.iload_n 2, 1) := od_28  (by decide +kernel)
theorem dX12_way_77 : decode cX12_way 77 = .ok (.imul, 1) := od_104  (by decide +kernel)
theorem dX12_way_78 : decode cX12_way 78 = .ok (.iload_n 1, 1) := od_27  (by decide +kernel)
theorem dX12_way_79 : decode cX12_way 79 = .ok (.iadd, 1) := od_96  (by decide +kernel)
theorem dX12_way_80 : decode cX12_way 80 = .ok (.imul, 1) := od_104  (by decide +kernel)
theorem dX12_way_81 : decode cX12_way 81 = .ok (.iadd, 1) := od_96  (by decide +kernel)
theorem dX12_way_82 : decode cX12_way 82 = .ok (.istore 6, 2) := od_54 (n := 6) (by decide +kernel)
theorem dX12_way_84 : decode cX12_way 84 = .ok (.aload_n 0, 1) := od_42  (by decide +kernel)
theorem dX12_way_85 : decode cX12_way 85 = .ok (.getfield 7, 3) := od_180 (a := 0) (b := 7) (by decide +kernel) (by decide)
theorem dX12_way_88 : decode cX12_way 88 = .ok (.iload 5, 2) := od_21 (n := 5) (by decide +kernel)
theorem dX12_way_90 : decode cX12_way 90 = .ok (.iload_n 3, 1) := od_29  (by decide +kernel)
theorem dX12_way_91 : decode cX12_way 91 = .ok (.iastore, 1) := od_79  (by decide +kernel)
theorem dX12_way_92 : decode cX12_way 92 = .ok (.aload_n 0, 1) := od_42  (by decide +kernel)
theorem dX12_way_93 : decode cX12_way 93 = .ok (.getfield 7, 3) := od_180 (a := 0) (b := 7) (by decide +kernel) (by decide)
theorem dX12_way_96 : decode cX12_way 96 = .ok (.iload 5, 2) := od_21 (n := 5) (by decide +kernel)
theorem dX12_way_98 : decode cX12_way 98 = .ok (.iconst 1, 1) := od_4  (by decide +kernel)
theorem dX12_way_99 : decode cX12_way 99 = .ok (.iadd, 1) := od_96  (by decide +kernel)
theorem dX12_way_100 : decode cX12_way 100 = .ok (.iload 4, 2) := od_21 (n := 4) (by decide +kernel)
theorem dX12_way_102 : decode cX12_way 102 = .ok (.ifCond .eq 7, 3) := od_153 (a := 0) (b := 7) (by decide +kernel) (by decide +kernel)
theorem dX12_way_105 : decode cX12_way 105 = .ok (.iconst 1, 1) := od_4  (by decide +kernel)
theorem dX12_way_106 : decode cX12_way 106 = .ok (.goto 4, 3) := od_167 (a := 0) (b := 4) (by decide +kernel) (by decide +kernel)
theorem dX12_way_109 : decode cX12_way 109 = .ok (.iconst 0, 1) := od_3  (by decide +kernel)
theorem dX12_way_110 : decode cX12_way 110 = .ok (.iastore, 1) := od_79  (by decide +kernel)
theorem dX12_way_111 : decode cX12_way 111 = .ok (.aload_n 0, 1) := od_42  (by decide +kernel)
theorem dX12_way_112 : decode cX12_way 112 = .ok (.getfield 7, 3) := od_180 (a := 0) (b := 7) (by decide +kernel) (by decide)
theorem dX12_way_115 : decode cX12_way 115 = .ok (.iload 6, 2) := od_21 (n := 6) (by decide +kernel)
theorem dX12_way_117 : decode cX12_way 117 = .ok (.iload_n 3, 1) := od_29  (by decide +kernel)
theorem dX12_way_118 : decode cX12_way 118 = .ok (.iastore, 1) := od_79  (by decide +kernel)
theorem dX12_way_119 : decode cX12_way 119 = .ok (.aload_n 0, 1) := od_42  (by decide +kernel)
theorem dX12_way_120 : decode cX12_way 120 = .ok (.getfield 7, 3) := od_180 (a := 0) (b := 7) (by decide +kernel) (by decide)
theorem dX12_way_123 : decode cX12_way 123 = .ok (.iload 6, 2) := od_21 (n := 6) (by decide +kernel)
theorem dX12_way_125 : decode cX12_way 125 = .ok (.iconst 1, 1) := od_4  (by decide +kernel)
theorem dX12_way_126 : decode cX12_way 126 = .ok (.iadd, 1) := od_96  (by decide +kernel)
theorem dX12_way_127 : decode cX12_way 127 = .ok (.iload 4, 2) := od_21 (n := 4) (by decide +kernel)
theorem dX12_way_129 : decode cX12_way 129 = .ok (.ifCond .eq 7, 3) := od_153 (a := 0) (b := 7) (by decide +kernel) (by decide +kernel)
theorem dX12_way_132 : decode cX12_way 132 = .ok (.iconst 1, 1) := od_4  (by decide +kernel)
theorem dX12_way_133 : decode cX12_way 133 = .ok (.goto 4, 3) := od_167 (a := 0) (b := 4) (by decide +kernel) (by decide +kernel)
theorem dX12_way_136 : decode cX12_way 136 = .ok (.iconst 0, 1) := od_3  (by decide +kernel)
theorem dX12_way_137 : decode cX12_way 137 = .ok (.iastore, 1) := od_79  (by decide +kernel)
theorem dX12_way_138 : decode cX12_way 138 = .ok (.aload_n 0, 1) := od_42  (by decide +kernel)
theorem dX12_way_139 : decode cX12_way 139 = .ok (.iconst 0, 1) := od_3  (by decide +kernel)
theorem dX12_way_140 : decode cX12_way 140 = .ok (.invokevirtual 105, 3) := od_182 (a := 0) (b := 105) (by decide +kernel) (by decide)
theorem dX12_way_143 : decode cX12_way 143 = .ok (.ireturn, 1) := od_172  (by decide +kernel)
theorem dX12_wayOf_0 : decode cX12_wayOf 0 = .ok (.aload_n 0, 1) := od_42  (by decide +kernel)
theorem dX12_wayOf_1 : decode cX12_wayOf 1 = .ok (.getfield 7, 3) := od_180 (a := 0) (b := 7) (by decide +kernel) (by decide)
theorem dX12_wayOf_4 : decode cX12_wayOf 4 = .ok (.bipush 50, 2) := od_16 (a := 50) (by decide +kernel) (by decide +kernel)
theorem dX12_wayOf_6 : decode cX12_wayOf 6 = .ok (.iconst 2, 1) := od_5  (by decide +kernel)
theorem dX12_wayOf_7 : decode cX12_wayOf 7 = .ok (.bipush 6, 2) := od_16 (a := 6) (by decide +kernel) (by decide +kernel)
theorem dX12_wayOf_9 : decode cX12_wayOf 9 = .ok (.iload_n 1, 1) := od_27  (by decide +kernel)
theorem dX12_wayOf_10 : decode cX12_wayOf 10 = .ok (.imul, 1) := od_104  (by decide +kernel)
theorem dX12_wayOf_11 : decode cX12_wayOf 11 = .ok (.iload_n 2, 1) := od_28  (by decide +kernel)
theorem dX12_wayOf_12 : decode cX12_wayOf 12 = .ok (.iadd, 1) := od_96  (by decide +kernel)
theorem dX12_wayOf_13 : decode cX12_wayOf 13 = .ok (.imul, 1) := od_104  (by decide +kernel)
theorem dX12_wayOf_14 : decode cX12_wayOf 14 = .ok (.iadd, 1) := od_96  (by decide +kernel)
theorem dX12_wayOf_15 : decode cX12_wayOf 15 = .ok (.iaload, 1) := od_46  (by decide +kernel)
theorem dX12_wayOf_16 : decode cX12_wayOf 16 = .ok (.ireturn, 1) := od_172  (by decide +kernel)
theorem gX12_slot_X12_isHour : GoodIn WALL (va_wsS RX12 144 yX12_isHour wqX12_isHour) := wg_S wa_351 wa_352 wa_5 wa_353
theorem gX12_slot_X12_in : GoodIn WALL (va_wsS RX12 99 yX12_in wqX12_in) := wg_S wa_213 wa_214 wa_5 wa_215
theorem gX12_slot_X12_told : GoodIn WALL (wsV RX12 105 RX12 yX12_told wqX12_told) := wg_V wa_216 wa_217 wa_218 wa_5 wa_219
theorem gX12_slot_X12_isTerminal : GoodIn WALL (wsV RX12 128 RX12 yX12_isTerminal wqX12_isTerminal) := wg_V wa_274 wa_275 wa_276 wa_5 wa_277
theorem gX12_slot_X12_isShip : GoodIn WALL (wsV RX12 147 RX12 yX12_isShip wqX12_isShip) := wg_V wa_355 wa_356 wa_357 wa_5 wa_358
theorem gX12_slot_X12_addFour : GoodIn WALL (wsV RX12 118 RX12 yX12_addFour wqX12_addFour) := wg_V wa_224 wa_225 wa_226 wa_5 wa_227
theorem dX12_slot_0 : decode cX12_slot 0 = .ok (.aload_n 0, 1) := od_42  (by decide +kernel)
theorem dX12_slot_1 : decode cX12_slot 1 = .ok (.iconst 0, 1) := od_3  (by decide +kernel)
theorem dX12_slot_2 : decode cX12_slot 2 = .ok (.putfield 91, 3) := od_181 (a := 0) (b := 91) (by decide +kernel) (by decide)
theorem dX12_slot_5 : decode cX12_slot 5 = .ok (.iload 4, 2) := od_21 (n := 4) (by decide +kernel)
theorem dX12_slot_7 : decode cX12_slot 7 = .ok (.invokestatic 144, 3) := od_184 (a := 0) (b := 144) (by decide +kernel) (by decide)
theorem dX12_slot_10 : decode cX12_slot 10 = .ok (.ifCond .eq 15, 3) := od_153 (a := 0) (b := 15) (by decide +kernel) (by decide +kernel)
theorem dX12_slot_13 : decode cX12_slot 13 = .ok (.iload_n 3, 1) := od_29  (by decide +kernel)
theorem dX12_slot_14 : decode cX12_slot 14 = .ok (.i2l, 1) := od_133  (by decide +kernel)
theorem dX12_slot_15 : decode cX12_slot 15 = .ok (.lconst 0, 1) := od_9  (by decide +kernel)
theorem dX12_slot_16 : decode cX12_slot 16 = .ok (.iload 4, 2) := od_21 (n := 4) (by decide +kernel)
theorem dX12_slot_18 : decode cX12_slot 18 = .ok (.i2l, 1) := od_133  (by decide +kernel)
theorem dX12_slot_19 : decode cX12_slot 19 = .ok (.invokestatic 99, 3) := od_184 (a := 0) (b := 99) (by decide +kernel) (by decide)
theorem dX12_slot_22 : decode cX12_slot 22 = .ok (.ifCond .ne 9, 3) := od_154 (a := 0) (b := 9) (by decide +kernel) (by decide +kernel)
theorem dX12_slot_25 : decode cX12_slot 25 = .ok (.aload_n 0, 1) := od_42  (by decide +kernel)
theorem dX12_slot_26 : decode cX12_slot 26 = .ok (.iconst (-1), 1) := od_2  (by decide +kernel)
theorem dX12_slot_27 : decode cX12_slot 27 = .ok (.invokevirtual 105, 3) := od_182 (a := 0) (b := 105) (by decide +kernel) (by decide)
theorem dX12_slot_30 : decode cX12_slot 30 = .ok (.ireturn, 1) := od_172  (by decide +kernel)
theorem dX12_slot_31 : decode cX12_slot 31 = .ok (.aload_n 0, 1) := od_42  (by decide +kernel)
theorem dX12_slot_32 : decode cX12_slot 32 = .ok (.iload_n 1, 1) := od_27  (by decide +kernel)
theorem dX12_slot_33 : decode cX12_slot 33 = .ok (.invokevirtual 128, 3) := od_182 (a := 0) (b := 128) (by decide +kernel) (by decide)
theorem dX12_slot_36 : decode cX12_slot 36 = .ok (.ifCond .eq 11, 3) := od_153 (a := 0) (b := 11) (by decide +kernel) (by decide +kernel)
theorem dX12_slot_39 : decode cX12_slot 39 = .ok (.aload_n 0, 1) := od_42  (by decide +kernel)
theorem dX12_slot_40 : decode cX12_slot 40 = .ok (.iload_n 2, 1) := od_28  (by decide +kernel)
theorem dX12_slot_41 : decode cX12_slot 41 = .ok (.invokevirtual 147, 3) := od_182 (a := 0) (b := 147) (by decide +kernel) (by decide)
theorem dX12_slot_44 : decode cX12_slot 44 = .ok (.ifCond .ne 10, 3) := od_154 (a := 0) (b := 10) (by decide +kernel) (by decide +kernel)
theorem dX12_slot_47 : decode cX12_slot 47 = .ok (.aload_n 0, 1) := od_42  (by decide +kernel)
theorem dX12_slot_48 : decode cX12_slot 48 = .ok (.bipush (-2), 2) := od_16 (a := 254) (by decide +kernel) (by decide +kernel)
theorem dX12_slot_50 : decode cX12_slot 50 = .ok (.invokevirtual 105, 3) := od_182 (a := 0) (b := 105) (by decide +kernel) (by decide)
theorem dX12_slot_53 : decode cX12_slot 53 = .ok (.ireturn, 1) := od_172  (by decide +kernel)
theorem dX12_slot_54 : decode cX12_slot 54 = .ok (.iconst 0, 1) := od_3  (by decide +kernel)
theorem dX12_slot_55 : decode cX12_slot 55 = .ok (.istore 5, 2) := od_54 (n := 5) (by decide +kernel)
theorem dX12_slot_57 : decode cX12_slot 57 = .ok (.iload 5, 2) := od_21 (n := 5) (by decide +kernel)
theorem dX12_slot_59 : decode cX12_slot 59 = .ok (.aload_n 0, 1) := od_42  (by decide +kernel)
theorem dX12_slot_60 : decode cX12_slot 60 = .ok (.getfield 7, 3) := od_180 (a := 0) (b := 7) (by decide +kernel) (by decide)
theorem dX12_slot_63 : decode cX12_slot 63 = .ok (.iconst 2, 1) := od_5  (by decide +kernel)
theorem dX12_slot_64 : decode cX12_slot 64 = .ok (.iaload, 1) := od_46  (by decide +kernel)
theorem dX12_slot_65 : decode cX12_slot 65 = .ok (.if_icmp .ge 64, 3) := od_162 (a := 0) (b := 64) (by decide +kernel) (by decide +kernel)
theorem dX12_slot_68 : decode cX12_slot 68 = .ok (.sipush 247, 3) := od_17 (a := 0) (b := 247) (by decide +kernel) (by decide +kernel)
theorem dX12_slot_71 : decode cX12_slot 71 = .ok (.iconst 4, 1) := od_7  (by decide +kernel)
theorem dX12_slot_72 : decode cX12_slot 72 = .ok (.iload 5, 2) := od_21 (n := 5) (by decide +kernel)
theorem dX12_slot_74 : decode cX12_slot 74 = .ok (.imul, 1) := od_104  (by decide +kernel)
theorem dX12_slot_75 : decode cX12_slot 75 = .ok (.iadd, 1) := od_96  (by decide +kernel)
theorem dX12_slot_76 : decode cX12_slot 76 = .ok (.istore 6, 2) := od_54 (n := 6) (by decide +kernel)
theorem dX12_slot_78 : decode cX12_slot 78 = .ok (.aload_n 0, 1) := od_42  (by decide +kernel)
theorem dX12_slot_79 : decode cX12_slot 79 = .ok (.getfield 7, 3) := od_180 (a := 0) (b := 7) (by decide +kernel) (by decide)
theorem dX12_slot_82 : decode cX12_slot 82 = .ok (.iload 6, 2) := od_21 (n := 6) (by decide +kernel)
theorem dX12_slot_84 : decode cX12_slot 84 = .ok (.iaload, 1) := od_46  (by decide +kernel)
theorem dX12_slot_85 : decode cX12_slot 85 = .ok (.iload_n 1, 1) := od_27  (by decide +kernel)
theorem dX12_slot_86 : decode cX12_slot 86 = .ok (.if_icmp .ne 37, 3) := od_160 (a := 0) (b := 37) (by decide +kernel) (by decide +kernel)
theorem dX12_slot_89 : decode cX12_slot 89 = .ok (.iload_n 3, 1) := od_29  (by decide +kernel)
theorem dX12_slot_90 : decode cX12_slot 90 = .ok (.aload_n 0, 1) := od_42  (by decide +kernel)
theorem dX12_slot_91 : decode cX12_slot 91 = .ok (.getfield 7, 3) := od_180 (a := 0) (b := 7) (by decide +kernel) (by decide)
theorem dX12_slot_94 : decode cX12_slot 94 = .ok (.iload 6, 2) := od_21 (n := 6) (by decide +kernel)
theorem dX12_slot_96 : decode cX12_slot 96 = .ok (.iconst 3, 1) := od_6  (by decide +kernel)
theorem dX12_slot_97 : decode cX12_slot 97 = .ok (.iadd, 1) := od_96  (by decide +kernel)
theorem dX12_slot_98 : decode cX12_slot 98 = .ok (.iaload, 1) := od_46  (by decide +kernel)
theorem dX12_slot_99 : decode cX12_slot 99 = .ok (.if_icmp .gt 24, 3) := od_163 (a := 0) (b := 24) (by decide +kernel) (by decide +kernel)
theorem dX12_slot_102 : decode cX12_slot 102 = .ok (.iload 4, 2) := od_21 (n := 4) (by decide +kernel)
theorem dX12_slot_104 : decode cX12_slot 104 = .ok (.aload_n 0, 1) := od_42  (by decide +kernel)
theorem dX12_slot_105 : decode cX12_slot 105 = .ok (.getfield 7, 3) := od_180 (a := 0) (b := 7) (by decide +kernel) (by decide)
theorem dX12_slot_108 : decode cX12_slot 108 = .ok (.iload 6, 2) := od_21 (n := 6) (by decide +kernel)
theorem dX12_slot_110 : decode cX12_slot 110 = .ok (.iconst 2, 1) := od_5  (by decide +kernel)
theorem dX12_slot_111 : decode cX12_slot 111 = .ok (.iadd, 1) := od_96  (by decide +kernel)
theorem dX12_slot_112 : decode cX12_slot 112 = .ok (.iaload, 1) := od_46  (by decide +kernel)
theorem dX12_slot_113 : decode cX12_slot 113 = .ok (.if_icmp .lt 10, 3) := od_161 (a := 0) (b := 10) (by decide +kernel) (by decide +kernel)
theorem dX12_slot_116 : decode cX12_slot 116 = .ok (.aload_n 0, 1) := od_42  (by decide +kernel)
theorem dX12_slot_117 : decode cX12_slot 117 = .ok (.bipush (-3), 2) := od_16 (a := 253) (by decide +kernel) (by decide +kernel)
theorem dX12_slot_119 : decode cX12_slot 119 = .ok (.invokevirtual 105, 3) := od_182 (a := 0) (b := 105) (by decide +kernel) (by decide)
theorem dX12_slot_122 : decode cX12_slot 122 = .ok (.ireturn, 1) := od_172  (by decide +kernel)
theorem dX12_slot_123 : decode cX12_slot 123 = .ok (.iinc 5 1, 3) := od_132 (a := 5) (b := 1) (by decide +kernel) (by decide +kernel)
theorem dX12_slot_126 : decode cX12_slot 126 = .ok (.goto (-69), 3) := od_167 (a := 255) (b := 187) (by decide +kernel) (by decide +kernel)
theorem dX12_slot_129 : decode cX12_slot 129 = .ok (.aload_n 0, 1) := od_42  (by decide +kernel)
theorem dX12_slot_130 : decode cX12_slot 130 = .ok (.getfield 7, 3) := od_180 (a := 0) (b := 7) (by decide +kernel) (by decide)
theorem dX12_slot_133 : decode cX12_slot 133 = .ok (.iconst 2, 1) := od_5  (by decide +kernel)
theorem dX12_slot_134 : decode cX12_slot 134 = .ok (.iaload, 1) := od_46  (by decide +kernel)
theorem dX12_slot_135 : decode cX12_slot 135 = .ok (.bipush 60, 2) := od_16 (a := 60) (by decide +kernel) (by decide +kernel)
theorem dX12_slot_137 : decode cX12_slot 137 = .ok (.if_icmp .ne 10, 3) := od_160 (a := 0) (b := 10) (by decide +kernel) (by decide +kernel)
theorem dX12_slot_140 : decode cX12_slot 140 = .ok (.aload_n 0, 1) := od_42  (by decide +kernel)
theorem dX12_slot_141 : decode cX12_slot 141 = .ok (.bipush (-5), 2) := od_16 (a := 251) (by decide +kernel) (by decide +kernel)
theorem dX12_slot_143 : decode cX12_slot 143 = .ok (.invokevirtual 105, 3) := od_182 (a := 0) (b := 105) (by decide +kernel) (by decide)
theorem dX12_slot_146 : decode cX12_slot 146 = .ok (.ireturn, 1) := od_172  (by decide +kernel)
theorem dX12_slot_147 : decode cX12_slot 147 = .ok (.aload_n 0, 1) := od_42  (by decide +kernel)
theorem dX12_slot_148 : decode cX12_slot 148 = .ok (.sipush 247, 3) := od_17 (a := 0) (b := 247) (by decide +kernel) (by decide +kernel)
theorem dX12_slot_151 : decode cX12_slot 151 = .ok (.iconst 4, 1) := od_7  (by decide +kernel)
theorem dX12_slot_152 : decode cX12_slot 152 = .ok (.aload_n 0, 1) := od_42  (by decide +kernel)
theorem dX12_slot_153 : decode cX12_slot 153 = .ok (.getfield 7, 3) := od_180 (a := 0) (b := 7) (by decide +kernel) (by decide)
theorem dX12_slot_156 : decode cX12_slot 156 = .ok (.iconst 2, 1) := od_5  (by decide +kernel)
theorem dX12_slot_157 : decode cX12_slot 157 = .ok (.iaload, 1) := od_46  (by decide +kernel)
theorem dX12_slot_158 : decode cX12_slot 158 = .ok (.imul, 1) := od_104  (by decide +kernel)
theorem dX12_slot_159 : decode cX12_slot 159 = .ok (.iadd, 1) := od_96  (by decide +kernel)
theorem dX12_slot_160 : decode cX12_slot 160 = .ok (.iload_n 1, 1) := od_27  (by decide +kernel)
theorem dX12_slot_161 : decode cX12_slot 161 = .ok (.iload_n 2, 1) := od_28  (by decide +kernel)
theorem dX12_slot_162 : decode cX12_slot 162 = .ok (.iload_n 3, 1) := od_29  (by decide +kernel)
theorem dX12_slot_163 : decode cX12_slot 163 = .ok (.iload 4, 2) := od_21 (n := 4) (by decide +kernel)
theorem dX12_slot_165 : decode cX12_slot 165 = .ok (.invokevirtual 118, 3) := od_182 (a := 0) (b := 118) (by decide +kernel) (by decide)
theorem dX12_slot_168 : decode cX12_slot 168 = .ok (.aload_n 0, 1) := od_42  (by decide +kernel)
theorem dX12_slot_169 : decode cX12_slot 169 = .ok (.getfield 7, 3) := od_180 (a := 0) (b := 7) (by decide +kernel) (by decide)
theorem dX12_slot_172 : decode cX12_slot 172 = .ok (.iconst 2, 1) := od_5  (by decide +kernel)
theorem dX12_slot_173 : decode cX12_slot 173 = .ok (.dup2, 1) := od_92  (by decide +kernel)
theorem dX12_slot_174 : decode cX12_slot 174 = .ok (.iaload, 1) := od_46  (by decide +kernel)
theorem dX12_slot_175 : decode cX12_slot 175 = .ok (.iconst 1, 1) := od_4  (by decide +kernel)
theorem dX12_slot_176 : decode cX12_slot 176 = .ok (.iadd, 1) := od_96  (by decide +kernel)
theorem dX12_slot_177 : decode cX12_slot 177 = .ok (.iastore, 1) := od_79  (by decide +kernel)
theorem dX12_slot_178 : decode cX12_slot 178 = .ok (.aload_n 0, 1) := od_42  (by decide +kernel)
theorem dX12_slot_179 : decode cX12_slot 179 = .ok (.aload_n 0, 1) := od_42  (by decide +kernel)
theorem dX12_slot_180 : decode cX12_slot 180 = .ok (.getfield 7, 3) := od_180 (a := 0) (b := 7) (by decide +kernel) (by decide)
theorem dX12_slot_183 : decode cX12_slot 183 = .ok (.iconst 2, 1) := od_5  (by decide +kernel)
theorem dX12_slot_184 : decode cX12_slot 184 = .ok (.iaload, 1) := od_46  (by decide +kernel)
theorem dX12_slot_185 : decode cX12_slot 185 = .ok (.invokevirtual 105, 3) := od_182 (a := 0) (b := 105) (by decide +kernel) (by decide)
theorem dX12_slot_188 : decode cX12_slot 188 = .ok (.ireturn, 1) := od_172  (by decide +kernel)
theorem gX12_broken_X12_isHour : GoodIn WALL (va_wsS RX12 144 yX12_isHour wqX12_isHour) := wg_S wa_351 wa_352 wa_5 wa_353
theorem gX12_broken_X12_in : GoodIn WALL (va_wsS RX12 99 yX12_in wqX12_in) := wg_S wa_213 wa_214 wa_5 wa_215
theorem gX12_broken_X12_told : GoodIn WALL (wsV RX12 105 RX12 yX12_told wqX12_told) := wg_V wa_216 wa_217 wa_218 wa_5 wa_219
theorem gX12_broken_X12_isTerminal : GoodIn WALL (wsV RX12 128 RX12 yX12_isTerminal wqX12_isTerminal) := wg_V wa_274 wa_275 wa_276 wa_5 wa_277
theorem dX12_broken_0 : decode cX12_broken 0 = .ok (.aload_n 0, 1) := od_42  (by decide +kernel)
theorem dX12_broken_1 : decode cX12_broken 1 = .ok (.iconst 0, 1) := od_3  (by decide +kernel)
theorem dX12_broken_2 : decode cX12_broken 2 = .ok (.putfield 91, 3) := od_181 (a := 0) (b := 91) (by decide +kernel) (by decide)
theorem dX12_broken_5 : decode cX12_broken 5 = .ok (.iload_n 3, 1) := od_29  (by decide +kernel)
theorem dX12_broken_6 : decode cX12_broken 6 = .ok (.invokestatic 144, 3) := od_184 (a := 0) (b := 144) (by decide +kernel) (by decide)
theorem dX12_broken_9 : decode cX12_broken 9 = .ok (.ifCond .eq 14, 3) := od_153 (a := 0) (b := 14) (by decide +kernel) (by decide +kernel)
theorem dX12_broken_12 : decode cX12_broken 12 = .ok (.iload_n 2, 1) := od_28  (by decide +kernel)
theorem dX12_broken_13 : decode cX12_broken 13 = .ok (.i2l, 1) := od_133  (by decide +kernel)
theorem dX12_broken_14 : decode cX12_broken 14 = .ok (.lconst 0, 1) := od_9  (by decide +kernel)
theorem dX12_broken_15 : decode cX12_broken 15 = .ok (.iload_n 3, 1) := od_29  (by decide +kernel)
theorem dX12_broken_16 : decode cX12_broken 16 = .ok (.i2l, 1) := od_133  (by decide +kernel)
theorem dX12_broken_17 : decode cX12_broken 17 = .ok (.invokestatic 99, 3) := od_184 (a := 0) (b := 99) (by decide +kernel) (by decide)
theorem dX12_broken_20 : decode cX12_broken 20 = .ok (.ifCond .ne 9, 3) := od_154 (a := 0) (b := 9) (by decide +kernel) (by decide +kernel)
theorem dX12_broken_23 : decode cX12_broken 23 = .ok (.aload_n 0, 1) := od_42  (by decide +kernel)
theorem dX12_broken_24 : decode cX12_broken 24 = .ok (.iconst (-1), 1) := od_2  (by decide +kernel)
theorem dX12_broken_25 : decode cX12_broken 25 = .ok (.invokevirtual 105, 3) := od_182 (a := 0) (b := 105) (by decide +kernel) (by decide)
theorem dX12_broken_28 : decode cX12_broken 28 = .ok (.ireturn, 1) := od_172  (by decide +kernel)
theorem dX12_broken_29 : decode cX12_broken 29 = .ok (.aload_n 0, 1) := od_42  (by decide +kernel)
theorem dX12_broken_30 : decode cX12_broken 30 = .ok (.iload_n 1, 1) := od_27  (by decide +kernel)
theorem dX12_broken_31 : decode cX12_broken 31 = .ok (.invokevirtual 128, 3) := od_182 (a := 0) (b := 128) (by decide +kernel) (by decide)
theorem dX12_broken_34 : decode cX12_broken 34 = .ok (.ifCond .ne 10, 3) := od_154 (a := 0) (b := 10) (by decide +kernel) (by decide +kernel)
theorem dX12_broken_37 : decode cX12_broken 37 = .ok (.aload_n 0, 1) := od_42  (by decide +kernel)
theorem dX12_broken_38 : decode cX12_broken 38 = .ok (.bipush (-2), 2) := od_16 (a := 254) (by decide +kernel) (by decide +kernel)
theorem dX12_broken_40 : decode cX12_broken 40 = .ok (.invokevirtual 105, 3) := od_182 (a := 0) (b := 105) (by decide +kernel) (by decide)
theorem dX12_broken_43 : decode cX12_broken 43 = .ok (.ireturn, 1) := od_172  (by decide +kernel)
theorem dX12_broken_44 : decode cX12_broken 44 = .ok (.aload_n 0, 1) := od_42  (by decide +kernel)
theorem dX12_broken_45 : decode cX12_broken 45 = .ok (.getfield 7, 3) := od_180 (a := 0) (b := 7) (by decide +kernel) (by decide)
theorem dX12_broken_48 : decode cX12_broken 48 = .ok (.iconst 3, 1) := od_6  (by decide +kernel)
theorem dX12_broken_49 : decode cX12_broken 49 = .ok (.iaload, 1) := od_46  (by decide +kernel)
theorem dX12_broken_50 : decode cX12_broken 50 = .ok (.bipush 20, 2) := od_16 (a := 20) (by decide +kernel) (by decide +kernel)
theorem dX12_broken_52 : decode cX12_broken 52 = .ok (.if_icmp .ne 10, 3) := od_160 (a := 0) (b := 10) (by decide +kernel) (by decide +kernel)
theorem dX12_broken_55 : decode cX12_broken 55 = .ok (.aload_n 0, 1) := od_42  (by decide +kernel)
theorem dX12_broken_56 : decode cX12_broken 56 = .ok (.bipush (-5), 2) := od_16 (a := 251) (by decide +kernel) (by decide +kernel)
theorem dX12_broken_58 : decode cX12_broken 58 = .ok (.invokevirtual 105, 3) := od_182 (a := 0) (b := 105) (by decide +kernel) (by decide)
theorem dX12_broken_61 : decode cX12_broken 61 = .ok (.ireturn, 1) := od_172  (by decide +kernel)
theorem dX12_broken_62 : decode cX12_broken 62 = .ok (.sipush 487, 3) := od_17 (a := 1) (b := 231) (by decide +kernel) (by decide +kernel)
theorem dX12_broken_65 : decode cX12_broken 65 = .ok (.iconst 3, 1) := od_6  (by decide +kernel)
theorem dX12_broken_66 : decode cX12_broken 66 = .ok (.aload_n 0, 1) := od_42  (by decide +kernel)
theorem dX12_broken_67 : decode cX12_broken 67 = .ok (.getfield 7, 3) := od_180 (a := 0) (b := 7) (by decide +kernel) (by decide)
theorem dX12_broken_70 : decode cX12_broken 70 = .ok (.iconst 3, 1) := od_6  (by decide +kernel)
theorem dX12_broken_71 : decode cX12_broken 71 = .ok (.iaload, 1) := od_46  (by decide +kernel)
theorem dX12_broken_72 : decode cX12_broken 72 = .ok (.imul, 1) := od_104  (by decide +kernel)
theorem dX12_broken_73 : decode cX12_broken 73 = .ok (.iadd, 1) := od_96  (by decide +kernel)
theorem dX12_broken_74 : decode cX12_broken 74 = .ok (.istore 4, 2) := od_54 (n := 4) (by decide +kernel)
theorem dX12_broken_76 : decode cX12_broken 76 = .ok (.aload_n 0, 1) := od_42  (by decide +kernel)
theorem dX12_broken_77 : decode cX12_broken 77 = .ok (.getfield 7, 3) := od_180 (a := 0) (b := 7) (by decide +kernel) (by decide)
theorem dX12_broken_80 : decode cX12_broken 80 = .ok (.iload 4, 2) := od_21 (n := 4) (by decide +kernel)
theorem dX12_broken_82 : decode cX12_broken 82 = .ok (.iload_n 1, 1) := od_27  (by decide +kernel)
theorem dX12_broken_83 : decode cX12_broken 83 = .ok (.iastore, 1) := od_79  (by decide +kernel)
theorem dX12_broken_84 : decode cX12_broken 84 = .ok (.aload_n 0, 1) := od_42  (by decide +kernel)
theorem dX12_broken_85 : decode cX12_broken 85 = .ok (.getfield 7, 3) := od_180 (a := 0) (b := 7) (by decide +kernel) (by decide)
theorem dX12_broken_88 : decode cX12_broken 88 = .ok (.iload 4, 2) := od_21 (n := 4) (by decide +kernel)
theorem dX12_broken_90 : decode cX12_broken 90 = .ok (.iconst 1, 1) := od_4  (by decide +kernel)
theorem dX12_broken_91 : decode cX12_broken 91 = .ok (.iadd, 1) := od_96  (by decide +kernel)
theorem dX12_broken_92 : decode cX12_broken 92 = .ok (.iload_n 2, 1) := od_28  (by decide +kernel)
theorem dX12_broken_93 : decode cX12_broken 93 = .ok (.iastore, 1) := od_79  (by decide +kernel)
theorem dX12_broken_94 : decode cX12_broken 94 = .ok (.aload_n 0, 1) := od_42  (by decide +kernel)
theorem dX12_broken_95 : decode cX12_broken 95 = .ok (.getfield 7, 3) := od_180 (a := 0) (b := 7) (by decide +kernel) (by decide)
theorem dX12_broken_98 : decode cX12_broken 98 = .ok (.iload 4, 2) := od_21 (n := 4) (by decide +kernel)
theorem dX12_broken_100 : decode cX12_broken 100 = .ok (.iconst 2, 1) := od_5  (by decide +kernel)
theorem dX12_broken_101 : decode cX12_broken 101 = .ok (.iadd, 1) := od_96  (by decide +kernel)
theorem dX12_broken_102 : decode cX12_broken 102 = .ok (.iload_n 3, 1) := od_29  (by decide +kernel)
theorem dX12_broken_103 : decode cX12_broken 103 = .ok (.iastore, 1) := od_79  (by decide +kernel)
theorem dX12_broken_104 : decode cX12_broken 104 = .ok (.aload_n 0, 1) := od_42  (by decide +kernel)
theorem dX12_broken_105 : decode cX12_broken 105 = .ok (.getfield 7, 3) := od_180 (a := 0) (b := 7) (by decide +kernel) (by decide)
theorem dX12_broken_108 : decode cX12_broken 108 = .ok (.iconst 3, 1) := od_6  (by decide +kernel)
theorem dX12_broken_109 : decode cX12_broken 109 = .ok (.dup2, 1) := od_92  (by decide +kernel)
theorem dX12_broken_110 : decode cX12_broken 110 = .ok (.iaload, 1) := od_46  (by decide +kernel)
theorem dX12_broken_111 : decode cX12_broken 111 = .ok (.iconst 1, 1) := od_4  (by decide +kernel)
theorem dX12_broken_112 : decode cX12_broken 112 = .ok (.iadd, 1) := od_96  (by decide +kernel)
theorem dX12_broken_113 : decode cX12_broken 113 = .ok (.iastore, 1) := od_79  (by decide +kernel)
theorem dX12_broken_114 : decode cX12_broken 114 = .ok (.aload_n 0, 1) := od_42  (by decide +kernel)
theorem dX12_broken_115 : decode cX12_broken 115 = .ok (.aload_n 0, 1) := od_42  (by decide +kernel)
theorem dX12_broken_116 : decode cX12_broken 116 = .ok (.getfield 7, 3) := od_180 (a := 0) (b := 7) (by decide +kernel) (by decide)
theorem dX12_broken_119 : decode cX12_broken 119 = .ok (.iconst 3, 1) := od_6  (by decide +kernel)
theorem dX12_broken_120 : decode cX12_broken 120 = .ok (.iaload, 1) := od_46  (by decide +kernel)
theorem dX12_broken_121 : decode cX12_broken 121 = .ok (.invokevirtual 105, 3) := od_182 (a := 0) (b := 105) (by decide +kernel) (by decide)
theorem dX12_broken_124 : decode cX12_broken 124 = .ok (.ireturn, 1) := od_172  (by decide +kernel)
theorem gX12_isBroken_X12_in : GoodIn WALL (va_wsS RX12 99 yX12_in wqX12_in) := wg_S wa_213 wa_214 wa_5 wa_215
theorem dX12_isBroken_0 : decode cX12_isBroken 0 = .ok (.iconst 0, 1) := od_3  (by decide +kernel)
theorem dX12_isBroken_1 : decode cX12_isBroken 1 = .ok (.istore_n 3, 1) := od_62  (by decide +kernel)
theorem dX12_isBroken_2 : decode cX12_isBroken 2 = .ok (.iconst 0, 1) := od_3  (by decide +kernel)
theorem dX12_isBroken_3 : decode cX12_isBroken 3 = .ok (.istore 4, 2) := od_54 (n := 4) (by decide +kernel)
theorem dX12_isBroken_5 : decode cX12_isBroken 5 = .ok (.iload 4, 2) := od_21 (n := 4) (by decide +kernel)
theorem dX12_isBroken_7 : decode cX12_isBroken 7 = .ok (.aload_n 0, 1) := od_42  (by decide +kernel)
theorem dX12_isBroken_8 : decode cX12_isBroken 8 = .ok (.getfield 7, 3) := od_180 (a := 0) (b := 7) (by decide +kernel) (by decide)
theorem dX12_isBroken_11 : decode cX12_isBroken 11 = .ok (.iconst 3, 1) := od_6  (by decide +kernel)
theorem dX12_isBroken_12 : decode cX12_isBroken 12 = .ok (.iaload, 1) := od_46  (by decide +kernel)
theorem dX12_isBroken_13 : decode cX12_isBroken 13 = .ok (.if_icmp .ge 68, 3) := od_162 (a := 0) (b := 68) (by decide +kernel) (by decide +kernel)
theorem dX12_isBroken_16 : decode cX12_isBroken 16 = .ok (.sipush 487, 3) := od_17 (a := 1) (b := 231) (by decide +kernel) (by decide +kernel)
theorem dX12_isBroken_19 : decode cX12_isBroken 19 = .ok (.iconst 3, 1) := od_6  (by decide +kernel)
theorem dX12_isBroken_20 : decode cX12_isBroken 20 = .ok (.iload 4, 2) := od_21 (n := 4) (by decide +kernel)
theorem dX12_isBroken_22 : decode cX12_isBroken 22 = .ok (.imul, 1) := od_104  (by decide +kernel)
theorem dX12_isBroken_23 : decode cX12_isBroken 23 = .ok (.iadd, 1) := od_96  (by decide +kernel)
theorem dX12_isBroken_24 : decode cX12_isBroken 24 = .ok (.istore 5, 2) := od_54 (n := 5) (by decide +kernel)
theorem dX12_isBroken_26 : decode cX12_isBroken 26 = .ok (.iload_n 3, 1) := od_29  (by decide +kernel)
theorem dX12_isBroken_27 : decode cX12_isBroken 27 = .ok (.ifCond .ne 42, 3) := od_154 (a := 0) (b := 42) (by decide +kernel) (by decide +kernel)
theorem dX12_isBroken_30 : decode cX12_isBroken 30 = .ok (.aload_n 0, 1) := od_42  (by decide +kernel)
theorem dX12_isBroken_31 : decode cX12_isBroken 31 = .ok (.getfield 7, 3) := od_180 (a := 0) (b := 7) (by decide +kernel) (by decide)
theorem dX12_isBroken_34 : decode cX12_isBroken 34 = .ok (.iload 5, 2) := od_21 (n := 5) (by decide +kernel)
theorem dX12_isBroken_36 : decode cX12_isBroken 36 = .ok (.iaload, 1) := od_46  (by decide +kernel)
theorem dX12_isBroken_37 : decode cX12_isBroken 37 = .ok (.iload_n 1, 1) := od_27  (by decide +kernel)
theorem dX12_isBroken_38 : decode cX12_isBroken 38 = .ok (.if_icmp .ne 35, 3) := od_160 (a := 0) (b := 35) (by decide +kernel) (by decide +kernel)
theorem dX12_isBroken_41 : decode cX12_isBroken 41 = .ok (.iload_n 2, 1) := od_28  (by decide +kernel)
theorem dX12_isBroken_42 : decode cX12_isBroken 42 = .ok (.i2l, 1) := od_133  (by decide +kernel)
theorem dX12_isBroken_43 : decode cX12_isBroken 43 = .ok (.aload_n 0, 1) := od_42  (by decide +kernel)
theorem dX12_isBroken_44 : decode cX12_isBroken 44 = .ok (.getfield 7, 3) := od_180 (a := 0) (b := 7) (by decide +kernel) (by decide)
theorem dX12_isBroken_47 : decode cX12_isBroken 47 = .ok (.iload 5, 2) := od_21 (n := 5) (by decide +kernel)
theorem dX12_isBroken_49 : decode cX12_isBroken 49 = .ok (.iconst 1, 1) := od_4  (by decide +kernel)
theorem dX12_isBroken_50 : decode cX12_isBroken 50 = .ok (.iadd, 1) := od_96  (by decide +kernel)
theorem dX12_isBroken_51 : decode cX12_isBroken 51 = .ok (.iaload, 1) := od_46  (by decide +kernel)
theorem dX12_isBroken_52 : decode cX12_isBroken 52 = .ok (.i2l, 1) := od_133  (by decide +kernel)
theorem dX12_isBroken_53 : decode cX12_isBroken 53 = .ok (.aload_n 0, 1) := od_42  (by decide +kernel)
theorem dX12_isBroken_54 : decode cX12_isBroken 54 = .ok (.getfield 7, 3) := od_180 (a := 0) (b := 7) (by decide +kernel) (by decide)
theorem dX12_isBroken_57 : decode cX12_isBroken 57 = .ok (.iload 5, 2) := od_21 (n := 5) (by decide +kernel)
theorem dX12_isBroken_59 : decode cX12_isBroken 59 = .ok (.iconst 2, 1) := od_5  (by decide +kernel)
theorem dX12_isBroken_60 : decode cX12_isBroken 60 = .ok (.iadd, 1) := od_96  (by decide +kernel)
theorem dX12_isBroken_61 : decode cX12_isBroken 61 = .ok (.iaload, 1) := od_46  (by decide +kernel)
theorem dX12_isBroken_62 : decode cX12_isBroken 62 = .ok (.i2l, 1) := od_133  (by decide +kernel)
theorem dX12_isBroken_63 : decode cX12_isBroken 63 = .ok (.invokestatic 99, 3) := od_184 (a := 0) (b := 99) (by decide +kernel) (by decide)
theorem dX12_isBroken_66 : decode cX12_isBroken 66 = .ok (.ifCond .eq 7, 3) := od_153 (a := 0) (b := 7) (by decide +kernel) (by decide +kernel)
theorem dX12_isBroken_69 : decode cX12_isBroken 69 = .ok (.iconst 1, 1) := od_4  (by decide +kernel)
theorem dX12_isBroken_70 : decode cX12_isBroken 70 = .ok (.goto 4, 3) := od_167 (a := 0) (b := 4) (by decide +kernel) (by decide +kernel)
theorem dX12_isBroken_73 : decode cX12_isBroken 73 = .ok (.iconst 0, 1) := od_3  (by decide +kernel)
theorem dX12_isBroken_74 : decode cX12_isBroken 74 = .ok (.istore_n 3, 1) := od_62  (by decide +kernel)
theorem dX12_isBroken_75 : decode cX12_isBroken 75 = .ok (.iinc 4 1, 3) := od_132 (a := 4) (b := 1) (by decide +kernel) (by decide +kernel)
theorem dX12_isBroken_78 : decode cX12_isBroken 78 = .ok (.goto (-73), 3) := od_167 (a := 255) (b := 183) (by decide +kernel) (by decide +kernel)
theorem dX12_isBroken_81 : decode cX12_isBroken 81 = .ok (.iload_n 3, 1) := od_29  (by decide +kernel)
theorem dX12_isBroken_82 : decode cX12_isBroken 82 = .ok (.ireturn, 1) := od_172  (by decide +kernel)
theorem gX12_order_X12_in : GoodIn WALL (va_wsS RX12 99 yX12_in wqX12_in) := wg_S wa_213 wa_214 wa_5 wa_215
theorem gX12_order_X12_isHour : GoodIn WALL (va_wsS RX12 144 yX12_isHour wqX12_isHour) := wg_S wa_351 wa_352 wa_5 wa_353
theorem gX12_order_X12_told : GoodIn WALL (wsV RX12 105 RX12 yX12_told wqX12_told) := wg_V wa_216 wa_217 wa_218 wa_5 wa_219
theorem gX12_order_X12_isShip : GoodIn WALL (wsV RX12 147 RX12 yX12_isShip wqX12_isShip) := wg_V wa_355 wa_356 wa_357 wa_5 wa_358
theorem gX12_order_X12_isTerminal : GoodIn WALL (wsV RX12 128 RX12 yX12_isTerminal wqX12_isTerminal) := wg_V wa_274 wa_275 wa_276 wa_5 wa_277
theorem gX12_order_X12_shipAt : GoodIn WALL (va_wsS RX12 132 yX12_shipAt wqX12_shipAt) := wg_S wa_278 wa_279 wa_5 wa_280
theorem gX12_order_X12_beginOrder : GoodIn WALL (wsV RX12 154 RX12 yX12_beginOrder wqX12_beginOrder) := wg_V wa_392 wa_393 wa_394 wa_5 wa_395
theorem dX12_order_0 : decode cX12_order 0 = .ok (.aload_n 0, 1) := od_42  (by decide +kernel)
theorem dX12_order_1 : decode cX12_order 1 = .ok (.iconst 0, 1) := od_3  (by decide +kernel)
theorem dX12_order_2 : decode cX12_order 2 = .ok (.putfield 91, 3) := od_181 (a := 0) (b := 91) (by decide +kernel) (by decide)
theorem dX12_order_5 : decode cX12_order 5 = .ok (.iload_n 2, 1) := od_28  (by decide +kernel)
theorem dX12_order_6 : decode cX12_order 6 = .ok (.i2l, 1) := od_133  (by decide +kernel)
theorem dX12_order_7 : decode cX12_order 7 = .ok (.lconst 0, 1) := od_9  (by decide +kernel)
theorem dX12_order_8 : decode cX12_order 8 = .ok (.ldc2_w 152, 3) := od_20 (a := 0) (b := 152) (by decide +kernel) (by decide)
theorem dX12_order_11 : decode cX12_order 11 = .ok (.invokestatic 99, 3) := od_184 (a := 0) (b := 99) (by decide +kernel) (by decide)
theorem dX12_order_14 : decode cX12_order 14 = .ok (.ifCond .eq 38, 3) := od_153 (a := 0) (b := 38) (by decide +kernel) (by decide +kernel)
theorem dX12_order_17 : decode cX12_order 17 = .ok (.iload_n 2, 1) := od_28  (by decide +kernel)
theorem dX12_order_18 : decode cX12_order 18 = .ok (.ifCond .eq 30, 3) := od_153 (a := 0) (b := 30) (by decide +kernel) (by decide +kernel)
theorem dX12_order_21 : decode cX12_order 21 = .ok (.iload_n 2, 1) := od_28  (by decide +kernel)
theorem dX12_order_22 : decode cX12_order 22 = .ok (.iconst 3, 1) := od_6  (by decide +kernel)
theorem dX12_order_23 : decode cX12_order 23 = .ok (.if_icmp .ne 13, 3) := od_160 (a := 0) (b := 13) (by decide +kernel) (by decide +kernel)
theorem dX12_order_26 : decode cX12_order 26 = .ok (.iload_n 3, 1) := od_29  (by decide +kernel)
theorem dX12_order_27 : decode cX12_order 27 = .ok (.invokestatic 144, 3) := od_184 (a := 0) (b := 144) (by decide +kernel) (by decide)
theorem dX12_order_30 : decode cX12_order 30 = .ok (.ifCond .eq 22, 3) := od_153 (a := 0) (b := 22) (by decide +kernel) (by decide +kernel)
theorem dX12_order_33 : decode cX12_order 33 = .ok (.goto 15, 3) := od_167 (a := 0) (b := 15) (by decide +kernel) (by decide +kernel)
theorem dX12_order_36 : decode cX12_order 36 = .ok (.iload_n 3, 1) := od_29  (by decide +kernel)
theorem dX12_order_37 : decode cX12_order 37 = .ok (.i2l, 1) := od_133  (by decide +kernel)
theorem dX12_order_38 : decode cX12_order 38 = .ok (.lconst 1, 1) := od_10  (by decide +kernel)
theorem dX12_order_39 : decode cX12_order 39 = .ok (.ldc2_w 124, 3) := od_20 (a := 0) (b := 124) (by decide +kernel) (by decide)
theorem dX12_order_42 : decode cX12_order 42 = .ok (.invokestatic 99, 3) := od_184 (a := 0) (b := 99) (by decide +kernel) (by decide)
theorem dX12_order_45 : decode cX12_order 45 = .ok (.ifCond .eq 7, 3) := od_153 (a := 0) (b := 7) (by decide +kernel) (by decide +kernel)
theorem dX12_order_48 : decode cX12_order 48 = .ok (.iconst 1, 1) := od_4  (by decide +kernel)
theorem dX12_order_49 : decode cX12_order 49 = .ok (.goto 4, 3) := od_167 (a := 0) (b := 4) (by decide +kernel) (by decide +kernel)
theorem dX12_order_52 : decode cX12_order 52 = .ok (.iconst 0, 1) := od_3  (by decide +kernel)
theorem dX12_order_53 : decode cX12_order 53 = .ok (.istore 4, 2) := od_54 (n := 4) (by decide +kernel)
theorem dX12_order_55 : decode cX12_order 55 = .ok (.iload 4, 2) := od_21 (n := 4) (by decide +kernel)
theorem dX12_order_57 : decode cX12_order 57 = .ok (.ifCond .ne 9, 3) := od_154 (a := 0) (b := 9) (by decide +kernel) (by decide +kernel)
theorem dX12_order_60 : decode cX12_order 60 = .ok (.aload_n 0, 1) := od_42  (by decide +kernel)
theorem dX12_order_61 : decode cX12_order 61 = .ok (.iconst (-1), 1) := od_2  (by decide +kernel)
theorem dX12_order_62 : decode cX12_order 62 = .ok (.invokevirtual 105, 3) := od_182 (a := 0) (b := 105) (by decide +kernel) (by decide)
theorem dX12_order_65 : decode cX12_order 65 = .ok (.ireturn, 1) := od_172  (by decide +kernel)
theorem dX12_order_66 : decode cX12_order 66 = .ok (.aload_n 0, 1) := od_42  (by decide +kernel)
theorem dX12_order_67 : decode cX12_order 67 = .ok (.iload_n 1, 1) := od_27  (by decide +kernel)
theorem dX12_order_68 : decode cX12_order 68 = .ok (.invokevirtual 147, 3) := od_182 (a := 0) (b := 147) (by decide +kernel) (by decide)
theorem dX12_order_71 : decode cX12_order 71 = .ok (.ifCond .eq 15, 3) := od_153 (a := 0) (b := 15) (by decide +kernel) (by decide +kernel)
theorem dX12_order_74 : decode cX12_order 74 = .ok (.iload_n 2, 1) := od_28  (by decide +kernel)
theorem dX12_order_75 : decode cX12_order 75 = .ok (.ifCond .ne 18, 3) := od_154 (a := 0) (b := 18) (by decide +kernel) (by decide +kernel)
theorem dX12_order_78 : decode cX12_order 78 = .ok (.aload_n 0, 1) := od_42  (by decide +kernel)
theorem dX12_order_79 : decode cX12_order 79 = .ok (.iload_n 3, 1) := od_29  (by decide +kernel)
theorem dX12_order_80 : decode cX12_order 80 = .ok (.invokevirtual 128, 3) := od_182 (a := 0) (b := 128) (by decide +kernel) (by decide)
theorem dX12_order_83 : decode cX12_order 83 = .ok (.ifCond .ne 10, 3) := od_154 (a := 0) (b := 10) (by decide +kernel) (by decide +kernel)
theorem dX12_order_86 : decode cX12_order 86 = .ok (.aload_n 0, 1) := od_42  (by decide +kernel)
theorem dX12_order_87 : decode cX12_order 87 = .ok (.bipush (-2), 2) := od_16 (a := 254) (by decide +kernel) (by decide +kernel)
theorem dX12_order_89 : decode cX12_order 89 = .ok (.invokevirtual 105, 3) := od_182 (a := 0) (b := 105) (by decide +kernel) (by decide)
theorem dX12_order_92 : decode cX12_order 92 = .ok (.ireturn, 1) := od_172  (by decide +kernel)
theorem dX12_order_93 : decode cX12_order 93 = .ok (.iload_n 1, 1) := od_27  (by decide +kernel)
theorem dX12_order_94 : decode cX12_order 94 = .ok (.invokestatic 132, 3) := od_184 (a := 0) (b := 132) (by decide +kernel) (by decide)
theorem dX12_order_97 : decode cX12_order 97 = .ok (.istore 5, 2) := od_54 (n := 5) (by decide +kernel)
theorem dX12_order_99 : decode cX12_order 99 = .ok (.aload_n 0, 1) := od_42  (by decide +kernel)
theorem dX12_order_100 : decode cX12_order 100 = .ok (.getfield 7, 3) := od_180 (a := 0) (b := 7) (by decide +kernel) (by decide)
theorem dX12_order_103 : decode cX12_order 103 = .ok (.iload 5, 2) := od_21 (n := 5) (by decide +kernel)
theorem dX12_order_105 : decode cX12_order 105 = .ok (.bipush 10, 2) := od_16 (a := 10) (by decide +kernel) (by decide +kernel)
theorem dX12_order_107 : decode cX12_order 107 = .ok (.iadd, 1) := od_96  (by decide +kernel)
theorem dX12_order_108 : decode cX12_order 108 = .ok (.iaload, 1) := od_46  (by decide +kernel)
theorem dX12_order_109 : decode cX12_order 109 = .ok (.bipush 20, 2) := od_16 (a := 20) (by decide +kernel) (by decide +kernel)
theorem dX12_order_111 : decode cX12_order 111 = .ok (.if_icmp .eq 15, 3) := od_159 (a := 0) (b := 15) (by decide +kernel) (by decide +kernel)
theorem dX12_order_114 : decode cX12_order 114 = .ok (.aload_n 0, 1) := od_42  (by decide +kernel)
theorem dX12_order_115 : decode cX12_order 115 = .ok (.getfield 7, 3) := od_180 (a := 0) (b := 7) (by decide +kernel) (by decide)
theorem dX12_order_118 : decode cX12_order 118 = .ok (.iconst 4, 1) := od_7  (by decide +kernel)
theorem dX12_order_119 : decode cX12_order 119 = .ok (.iaload, 1) := od_46  (by decide +kernel)
theorem dX12_order_120 : decode cX12_order 120 = .ok (.sipush 400, 3) := od_17 (a := 1) (b := 144) (by decide +kernel) (by decide +kernel)
theorem dX12_order_123 : decode cX12_order 123 = .ok (.if_icmp .ne 10, 3) := od_160 (a := 0) (b := 10) (by decide +kernel) (by decide +kernel)
theorem dX12_order_126 : decode cX12_order 126 = .ok (.aload_n 0, 1) := od_42  (by decide +kernel)
theorem dX12_order_127 : decode cX12_order 127 = .ok (.bipush (-5), 2) := od_16 (a := 251) (by decide +kernel) (by decide +kernel)
theorem dX12_order_129 : decode cX12_order 129 = .ok (.invokevirtual 105, 3) := od_182 (a := 0) (b := 105) (by decide +kernel) (by decide)
theorem dX12_order_132 : decode cX12_order 132 = .ok (.ireturn, 1) := od_172  (by decide +kernel)
theorem dX12_order_133 : decode cX12_order 133 = .ok (.iload 5, 2) := od_21 (n := 5) (by decide +kernel)
theorem dX12_order_135 : decode cX12_order 135 = .ok (.bipush 44, 2) := od_16 (a := 44) (by decide +kernel) (by decide +kernel)
theorem dX12_order_137 : decode cX12_order 137 = .ok (.iadd, 1) := od_96  (by decide +kernel)
theorem dX12_order_138 : decode cX12_order 138 = .ok (.iconst 2, 1) := od_5  (by decide +kernel)
theorem dX12_order_139 : decode cX12_order 139 = .ok (.aload_n 0, 1) := od_42  (by decide +kernel)
theorem dX12_order_140 : decode cX12_order 140 = .ok (.getfield 7, 3) := od_180 (a := 0) (b := 7) (by decide +kernel) (by decide)
theorem dX12_order_143 : decode cX12_order 143 = .ok (.iload 5, 2) := od_21 (n := 5) (by decide +kernel)
theorem dX12_order_145 : decode cX12_order 145 = .ok (.bipush 10, 2) := od_16 (a := 10) (by decide +kernel) (by decide +kernel)
theorem dX12_order_147 : decode cX12_order 147 = .ok (.iadd, 1) := od_96  (by decide +kernel)
theorem dX12_order_148 : decode cX12_order 148 = .ok (.iaload, 1) := od_46  (by decide +kernel)
theorem dX12_order_149 : decode cX12_order 149 = .ok (.imul, 1) := od_104  (by decide +kernel)
theorem dX12_order_150 : decode cX12_order 150 = .ok (.iadd, 1) := od_96  (by decide +kernel)
theorem dX12_order_151 : decode cX12_order 151 = .ok (.istore 6, 2) := od_54 (n := 6) (by decide +kernel)
theorem dX12_order_153 : decode cX12_order 153 = .ok (.aload_n 0, 1) := od_42  (by decide +kernel)
theorem dX12_order_154 : decode cX12_order 154 = .ok (.getfield 7, 3) := od_180 (a := 0) (b := 7) (by decide +kernel) (by decide)
theorem dX12_order_157 : decode cX12_order 157 = .ok (.iload 6, 2) := od_21 (n := 6) (by decide +kernel)
theorem dX12_order_159 : decode cX12_order 159 = .ok (.iload_n 2, 1) := od_28  (by decide +kernel)
theorem dX12_order_160 : decode cX12_order 160 = .ok (.iastore, 1) := od_79  (by decide +kernel)
theorem dX12_order_161 : decode cX12_order 161 = .ok (.aload_n 0, 1) := od_42  (by decide +kernel)
theorem dX12_order_162 : decode cX12_order 162 = .ok (.getfield 7, 3) := od_180 (a := 0) (b := 7) (by decide +kernel) (by decide)
theorem dX12_order_165 : decode cX12_order 165 = .ok (.iload 6, 2) := od_21 (n := 6) (by decide +kernel)
theorem dX12_order_167 : decode cX12_order 167 = .ok (.iconst 1, 1) := od_4  (by decide +kernel)
theorem dX12_order_168 : decode cX12_order 168 = .ok (.iadd, 1) := od_96  (by decide +kernel)
theorem dX12_order_169 : decode cX12_order 169 = .ok (.iload_n 3, 1) := od_29  (by decide +kernel)
theorem dX12_order_170 : decode cX12_order 170 = .ok (.iastore, 1) := od_79  (by decide +kernel)
theorem dX12_order_171 : decode cX12_order 171 = .ok (.aload_n 0, 1) := od_42  (by decide +kernel)
theorem dX12_order_172 : decode cX12_order 172 = .ok (.getfield 7, 3) := od_180 (a := 0) (b := 7) (by decide +kernel) (by decide)
theorem dX12_order_175 : decode cX12_order 175 = .ok (.iload 5, 2) := od_21 (n := 5) (by decide +kernel)
theorem dX12_order_177 : decode cX12_order 177 = .ok (.bipush 10, 2) := od_16 (a := 10) (by decide +kernel) (by decide +kernel)
theorem dX12_order_179 : decode cX12_order 179 = .ok (.iadd, 1) := od_96  (by decide +kernel)
theorem dX12_order_180 : decode cX12_order 180 = .ok (.dup2, 1) := od_92  (by decide +kernel)
theorem dX12_order_181 : decode cX12_order 181 = .ok (.iaload, 1) := od_46  (by decide +kernel)
theorem dX12_order_182 : decode cX12_order 182 = .ok (.iconst 1, 1) := od_4  (by decide +kernel)
theorem dX12_order_183 : decode cX12_order 183 = .ok (.iadd, 1) := od_96  (by decide +kernel)
theorem dX12_order_184 : decode cX12_order 184 = .ok (.iastore, 1) := od_79  (by decide +kernel)
theorem dX12_order_185 : decode cX12_order 185 = .ok (.aload_n 0, 1) := od_42  (by decide +kernel)
theorem dX12_order_186 : decode cX12_order 186 = .ok (.getfield 7, 3) := od_180 (a := 0) (b := 7) (by decide +kernel) (by decide)
theorem dX12_order_189 : decode cX12_order 189 = .ok (.iconst 4, 1) := od_7  (by decide +kernel)
theorem dX12_order_190 : decode cX12_order 190 = .ok (.dup2, 1) := od_92  (by decide +kernel)
theorem dX12_order_191 : decode cX12_order 191 = .ok (.iaload, 1) := od_46  (by decide +kernel)
theorem dX12_order_192 : decode cX12_order 192 = .ok (.iconst 1, 1) := od_4  (by decide +kernel)
theorem dX12_order_193 : decode cX12_order 193 = .ok (.iadd, 1) := od_96  (by decide +kernel)
theorem dX12_order_194 : decode cX12_order 194 = .ok (.iastore, 1) := od_79  (by decide +kernel)
theorem dX12_order_195 : decode cX12_order 195 = .ok (.aload_n 0, 1) := od_42  (by decide +kernel)
theorem dX12_order_196 : decode cX12_order 196 = .ok (.getfield 7, 3) := od_180 (a := 0) (b := 7) (by decide +kernel) (by decide)
theorem dX12_order_199 : decode cX12_order 199 = .ok (.iload 5, 2) := od_21 (n := 5) (by decide +kernel)
theorem dX12_order_201 : decode cX12_order 201 = .ok (.bipush 10, 2) := od_16 (a := 10) (by decide +kernel) (by decide +kernel)
theorem dX12_order_203 : decode cX12_order 203 = .ok (.iadd, 1) := od_96  (by decide +kernel)
theorem dX12_order_204 : decode cX12_order 204 = .ok (.iaload, 1) := od_46  (by decide +kernel)
theorem dX12_order_205 : decode cX12_order 205 = .ok (.iconst 1, 1) := od_4  (by decide +kernel)
theorem dX12_order_206 : decode cX12_order 206 = .ok (.if_icmp .ne 9, 3) := od_160 (a := 0) (b := 9) (by decide +kernel) (by decide +kernel)
theorem dX12_order_209 : decode cX12_order 209 = .ok (.aload_n 0, 1) := od_42  (by decide +kernel)
theorem dX12_order_210 : decode cX12_order 210 = .ok (.iload 5, 2) := od_21 (n := 5) (by decide +kernel)
theorem dX12_order_212 : decode cX12_order 212 = .ok (.invokevirtual 154, 3) := od_182 (a := 0) (b := 154) (by decide +kernel) (by decide)
theorem dX12_order_215 : decode cX12_order 215 = .ok (.aload_n 0, 1) := od_42  (by decide +kernel)
theorem dX12_order_216 : decode cX12_order 216 = .ok (.aload_n 0, 1) := od_42  (by decide +kernel)
theorem dX12_order_217 : decode cX12_order 217 = .ok (.getfield 7, 3) := od_180 (a := 0) (b := 7) (by decide +kernel) (by decide)
theorem dX12_order_220 : decode cX12_order 220 = .ok (.iload 5, 2) := od_21 (n := 5) (by decide +kernel)
theorem dX12_order_222 : decode cX12_order 222 = .ok (.bipush 10, 2) := od_16 (a := 10) (by decide +kernel) (by decide +kernel)
theorem dX12_order_224 : decode cX12_order 224 = .ok (.iadd, 1) := od_96  (by decide +kernel)
theorem dX12_order_225 : decode cX12_order 225 = .ok (.iaload, 1) := od_46  (by decide +kernel)
theorem dX12_order_226 : decode cX12_order 226 = .ok (.invokevirtual 105, 3) := od_182 (a := 0) (b := 105) (by decide +kernel) (by decide)
theorem dX12_order_229 : decode cX12_order 229 = .ok (.ireturn, 1) := od_172  (by decide +kernel)
theorem dX12_beginOrder_0 : decode cX12_beginOrder 0 = .ok (.aload_n 0, 1) := od_42  (by decide +kernel)
theorem dX12_beginOrder_1 : decode cX12_beginOrder 1 = .ok (.getfield 7, 3) := od_180 (a := 0) (b := 7) (by decide +kernel) (by decide)
theorem dX12_beginOrder_4 : decode cX12_beginOrder 4 = .ok (.iload_n 1, 1) := od_27  (by decide +kernel)
theorem dX12_beginOrder_5 : decode cX12_beginOrder 5 = .ok (.bipush 10, 2) := od_16 (a := 10) (by decide +kernel) (by decide +kernel)
theorem dX12_beginOrder_7 : decode cX12_beginOrder 7 = .ok (.iadd, 1) := od_96  (by decide +kernel)
theorem dX12_beginOrder_8 : decode cX12_beginOrder 8 = .ok (.iaload, 1) := od_46  (by decide +kernel)
theorem dX12_beginOrder_9 : decode cX12_beginOrder 9 = .ok (.ifCond .le 33, 3) := od_158 (a := 0) (b := 33) (by decide +kernel) (by decide +kernel)
theorem dX12_beginOrder_12 : decode cX12_beginOrder 12 = .ok (.aload_n 0, 1) := od_42  (by decide +kernel)
theorem dX12_beginOrder_13 : decode cX12_beginOrder 13 = .ok (.getfield 7, 3) := od_180 (a := 0) (b := 7) (by decide +kernel) (by decide)
theorem dX12_beginOrder_16 : decode cX12_beginOrder 16 = .ok (.iload_n 1, 1) := od_27  (by decide +kernel)
theorem dX12_beginOrder_17 : decode cX12_beginOrder 17 = .ok (.bipush 44, 2) := od_16 (a := 44) (by decide +kernel) (by decide +kernel)
theorem dX12_beginOrder_19 : decode cX12_beginOrder 19 = .ok (.iadd, 1) := od_96  (by decide +kernel)
theorem dX12_beginOrder_20 : decode cX12_beginOrder 20 = .ok (.iaload, 1) := od_46  (by decide +kernel)
theorem dX12_beginOrder_21 : decode cX12_beginOrder 21 = .ok (.iconst 1, 1) := od_4  (by decide +kernel)
theorem dX12_beginOrder_22 : decode cX12_beginOrder 22 = .ok (.if_icmp .eq 16, 3) := od_159 (a := 0) (b := 16) (by decide +kernel) (by decide +kernel)
theorem dX12_beginOrder_25 : decode cX12_beginOrder 25 = .ok (.aload_n 0, 1) := od_42  (by decide +kernel)
theorem dX12_beginOrder_26 : decode cX12_beginOrder 26 = .ok (.getfield 7, 3) := od_180 (a := 0) (b := 7) (by decide +kernel) (by decide)
theorem dX12_beginOrder_29 : decode cX12_beginOrder 29 = .ok (.iload_n 1, 1) := od_27  (by decide +kernel)
theorem dX12_beginOrder_30 : decode cX12_beginOrder 30 = .ok (.bipush 44, 2) := od_16 (a := 44) (by decide +kernel) (by decide +kernel)
theorem dX12_beginOrder_32 : decode cX12_beginOrder 32 = .ok (.iadd, 1) := od_96  (by decide +kernel)
theorem dX12_beginOrder_33 : decode cX12_beginOrder 33 = .ok (.iaload, 1) := od_46  (by decide +kernel)
theorem dX12_beginOrder_34 : decode cX12_beginOrder 34 = .ok (.iconst 2, 1) := od_5  (by decide +kernel)
theorem dX12_beginOrder_35 : decode cX12_beginOrder 35 = .ok (.if_icmp .ne 7, 3) := od_160 (a := 0) (b := 7) (by decide +kernel) (by decide +kernel)
theorem dX12_beginOrder_38 : decode cX12_beginOrder 38 = .ok (.iconst 1, 1) := od_4  (by decide +kernel)
theorem dX12_beginOrder_39 : decode cX12_beginOrder 39 = .ok (.goto 4, 3) := od_167 (a := 0) (b := 4) (by decide +kernel) (by decide +kernel)
theorem dX12_beginOrder_42 : decode cX12_beginOrder 42 = .ok (.iconst 0, 1) := od_3  (by decide +kernel)
theorem dX12_beginOrder_43 : decode cX12_beginOrder 43 = .ok (.istore_n 2, 1) := od_61  (by decide +kernel)
theorem dX12_beginOrder_44 : decode cX12_beginOrder 44 = .ok (.aload_n 0, 1) := od_42  (by decide +kernel)
theorem dX12_beginOrder_45 : decode cX12_beginOrder 45 = .ok (.getfield 7, 3) := od_180 (a := 0) (b := 7) (by decide +kernel) (by decide)
theorem dX12_beginOrder_48 : decode cX12_beginOrder 48 = .ok (.iload_n 1, 1) := od_27  (by decide +kernel)
theorem dX12_beginOrder_49 : decode cX12_beginOrder 49 = .ok (.bipush 11, 2) := od_16 (a := 11) (by decide +kernel) (by decide +kernel)
theorem dX12_beginOrder_51 : decode cX12_beginOrder 51 = .ok (.iadd, 1) := od_96  (by decide +kernel)
theorem dX12_beginOrder_52 : decode cX12_beginOrder 52 = .ok (.iload_n 2, 1) := od_28  (by decide +kernel)
theorem dX12_beginOrder_53 : decode cX12_beginOrder 53 = .ok (.ifCond .eq 17, 3) := od_153 (a := 0) (b := 17) (by decide +kernel) (by decide +kernel)
theorem dX12_beginOrder_56 : decode cX12_beginOrder 56 = .ok (.aload_n 0, 1) := od_42  (by decide +kernel)
theorem dX12_beginOrder_57 : decode cX12_beginOrder 57 = .ok (.getfield 7, 3) := od_180 (a := 0) (b := 7) (by decide +kernel) (by decide)
theorem dX12_beginOrder_60 : decode cX12_beginOrder 60 = .ok (.iload_n 1, 1) := od_27  (by decide +kernel)
theorem dX12_beginOrder_61 : decode cX12_beginOrder 61 = .ok (.bipush 44, 2) := od_16 (a := 44) (by decide +kernel) (by decide +kernel)
theorem dX12_beginOrder_63 : decode cX12_beginOrder 63 = .ok (.iadd, 1) := od_96  (by decide +kernel)
theorem dX12_beginOrder_64 : decode cX12_beginOrder 64 = .ok (.iconst 1, 1) := od_4  (by decide +kernel)
theorem dX12_beginOrder_65 : decode cX12_beginOrder 65 = .ok (.iadd, 1) := od_96  (by decide +kernel)
theorem dX12_beginOrder_66 : decode cX12_beginOrder 66 = .ok (.iaload, 1) := od_46  (by decide +kernel)
theorem dX12_beginOrder_67 : decode cX12_beginOrder 67 = .ok (.goto 4, 3) := od_167 (a := 0) (b := 4) (by decide +kernel) (by decide +kernel)
theorem dX12_beginOrder_70 : decode cX12_beginOrder 70 = .ok (.iconst 0, 1) := od_3  (by decide +kernel)
theorem dX12_beginOrder_71 : decode cX12_beginOrder 71 = .ok (.iastore, 1) := od_79  (by decide +kernel)
theorem dX12_beginOrder_72 : decode cX12_beginOrder 72 = .ok (.return_, 1) := od_177  (by decide +kernel)
end
section
set_option maxHeartbeats 4000000 in
set_option maxRecDepth 100000 in
theorem t_X12_terminal (l : Launch) (dC : Nat → ClassId) (dI : Nat → Nat → Nat) (sz : Nat) (κ : Nat → ClassId) (Θ : Nat → Option Int) (τ ν : Nat → Nat) (ρ : Nat → Nat → Nat) (L : List Nat) (f : Nat → va_E) (hG : tp_G τ ν ρ L) (hT : tp_T (mo_O κ Θ) κ τ ν ρ f) (h0 : Nat) (v : Int32) (u : Int32) (a : Int32) (a4 : Int32) (ht_h0 : τ h0 = 13) (hJ : mo_RI (-1) 0 (mo_R (mo_i (f (ρ h0 2))))) : Met l yX12_terminal wqX12_terminal ({ frames := 3, cells := 0, slots := 0, locals := 800 }) (va_Pc [.ref h0, .int v, .int u, .int a, .int a4] (pz_B dC dI (tp_K κ) (va_pl L f) sz)) (va_Qi (fun (r : Int32) (f1 : Nat → va_E) => tp_T (mo_O κ Θ) κ τ ν ρ f1 ∧ tp_F τ [13, 32] f f1 ∧ True ∧ mo_RI (-1) 0 (mo_R (mo_i (f1 (ρ h0 2)))) ∧ mo_KN (fun k => k = 0) (mo_R (mo_i (f (ρ h0 2)))) (mo_R (mo_i (f1 (ρ h0 2)))) ∧ ((((¬ ((0 ≤ u.toInt ∧ u.toInt ≤ 500000) ∧ (0 ≤ v.toInt ∧ v.toInt ≤ u.toInt) ∧ (1 ≤ a.toInt ∧ a.toInt ≤ 10000) ∧ (0 ≤ a4.toInt ∧ a4.toInt ≤ 30))) → r.toInt = -1) ∧ (¬ (¬ ((0 ≤ u.toInt ∧ u.toInt ≤ 500000) ∧ (0 ≤ v.toInt ∧ v.toInt ≤ u.toInt) ∧ (1 ≤ a.toInt ∧ a.toInt ≤ 10000) ∧ (0 ≤ a4.toInt ∧ a4.toInt ≤ 30))) → ((((mo_R (mo_i (f (ρ h0 2)))) (0) = 6) → r.toInt = -5) ∧ (¬ ((mo_R (mo_i (f (ρ h0 2)))) (0) = 6) → r.toInt = (mo_R (mo_i (f (ρ h0 2)))) (0)))))) ∧ ((((¬ ((0 ≤ u.toInt ∧ u.toInt ≤ 500000) ∧ (0 ≤ v.toInt ∧ v.toInt ≤ u.toInt) ∧ (1 ≤ a.toInt ∧ a.toInt ≤ 10000) ∧ (0 ≤ a4.toInt ∧ a4.toInt ≤ 30))) → (mo_R (mo_i (f1 (ρ h0 2)))) (0) = (mo_R (mo_i (f (ρ h0 2)))) (0)) ∧ (¬ (¬ ((0 ≤ u.toInt ∧ u.toInt ≤ 500000) ∧ (0 ≤ v.toInt ∧ v.toInt ≤ u.toInt) ∧ (1 ≤ a.toInt ∧ a.toInt ≤ 10000) ∧ (0 ≤ a4.toInt ∧ a4.toInt ≤ 30))) → ((((mo_R (mo_i (f (ρ h0 2)))) (0) = 6) → (mo_R (mo_i (f1 (ρ h0 2)))) (0) = (mo_R (mo_i (f (ρ h0 2)))) (0)) ∧ (¬ ((mo_R (mo_i (f (ρ h0 2)))) (0) = 6) → (mo_R (mo_i (f1 (ρ h0 2)))) (0) = (mo_R (mo_i (f (ρ h0 2)))) (0) + 1)))))) (fun (f1 : Nat → va_E) (t : State) => pz_E dC dI (tp_K κ) (va_A (va_pl L f) sz) (va_pl L f1) t) (va_A (va_pl L f) sz)) 0 0 (va_A (va_pl L f) sz) := by
  refine Met.ofW (cc := cX12_terminal) (maxL := 6) (ret := some .int) (by decide) rfl ?_
  intro p e s m args below meth c s₁ B hml hv
  obtain ⟨rfl, hsz, hP, hK, hD0, hN⟩ := hv
  have hx := B.exec
  have hb := B.bytes
  have hr := B.returns
  have hts := fun (w : Cond) (h : w ∈ WALL) => atoms_spec (ws := wqX12_terminal) B.pre w (List.mem_cons_of_mem _ h)
  have hown : s.vm.findClass RX12 = some m.cls := findClass_of_methodNamed B.named
  have hlocks := B.notSynchronized
  subst hsz
  have hD := hD0.self (sz := s.heap.size)
  generalize hAe : va_A (va_pl L f) s.heap.size = A at hD ⊢
  have hA : ∀ q : Nat, s.heap.size ≤ q → A q := fun q h => by rw [← hAe]; exact Or.inr h
  have hS : va_S A s.heap s.heap [] := va_S.rf
  have hR : tp_F τ [13, 32] f f := tp_F.rf
  have hl := lv_entry ([.ref h0, .int v, .int u, .int a, .int a4]) (n := 6) (Nat.le_of_ble_eq_true rfl)
  rw [lg_entry_eq]
  generalize (lg_sl ([.ref h0, .int v, .int u, .int a, .int a4]) ++ List.replicate (6 - (lg_sl ([.ref h0, .int v, .int u, .int a, .int a4])).length) Slot.unset).toArray = ls at hl ⊢
  have hl : lv_has ls 6 [(0, .ref h0), (1, .int v), (2, .int u), (3, .int a), (4, .int a4)] := hl
  refine tgk_13 hG ht_h0 (fun y1 y2 y3 y4 y5 y6 y7 y8 y9 y10 y11 y12 y13 y14 y15 y16 y17 y18 y19 y20 y21 y22 y23 y24 y25 => ?_)
  refine tpk_32 hT y1 (fun g27 hf_o26 => ?_)
  have hI : mo_RI (-1) 0 (mo_R g27) := by have q9 := hJ; rw [hf_o26, mo_i1] at q9; exact q9
  have hKN : mo_KN (fun k => k = 0) (mo_R g27) (mo_R g27) := mo_KN.rf
  refine lv_aload_n hx hb dX12_terminal_0 rfl (lv_at hl 0 rfl) ?_
  refine lv_iconst (v := 0) hx hb dX12_terminal_1 (by decide) ?_
  refine tpk_13 hT ht_h0 (fun o28_x0 o28_x1 o28_x7 o28_x9 o28_x10 o28_x11 o28_x12 o28_x13 o28_x14 o28_x15 o28_x16 o28_x17 o28_x18 o28_x19 o28_x20 o28_x22 o28_x25 o28_x28 o28_x29 o28_x32 o28_x33 o28_x34 o28_x35 o28_x36 o28_x37 o28_x38 o28_x47 o28_x48 hf_o28 ro28_0 ro28_1 ro28_2 ro28_3 ro28_4 ro28_5 ro28_6 ro28_7 ro28_8 ro28_9 ro28_10 ro28_11 ro28_12 ro28_13 ro28_14 => ?_)
  refine tpk_pos (tp_in hG ht_h0 (by decide)) hf_o28 (fun q29 eq29 => ?_)
  refine va_put (D := (dC, dI)) (ci := 12) (v := .int 0) (ty := .int) (C := RX12) (T := TX12) (N := 53) hx hb hts hfX12 tyX12 tyX12_ok nmX12 hown hK hP hD hS q29 eq29 rfl 0 (by decide) (hts (.fieldLink RX12 91 "ColdShipsModel" "thrown" "I") wa_209) (fun _ h9 => h9) rfl (tyX12_ok 0 (by decide)) rfl rfl (Nat.le_of_ble_eq_true rfl) dX12_terminal_2 (tp_k (.inr (12, [.int 0, .int o28_x1, .ref (ρ h0 2), .ref (ρ h0 3), .ref (ρ h0 4), .ref (ρ h0 5), .ref (ρ h0 6), .int o28_x7, .ref (ρ h0 8), .int o28_x9, .int o28_x10, .int o28_x11, .int o28_x12, .long o28_x13, .int o28_x14, .int o28_x15, .int o28_x16, .int o28_x17, .int o28_x18, .int o28_x19, .int o28_x20, .ref (ρ h0 21), .int o28_x22, .ref (ρ h0 23), .ref (ρ h0 24), .int o28_x25, .ref (ρ h0 26), .ref (ρ h0 27), .int o28_x28, .int o28_x29, .ref (ρ h0 30), .ref (ρ h0 31), .int o28_x32, .long o28_x33, .long o28_x34, .long o28_x35, .int o28_x36, .int o28_x37, .int o28_x38, .ref (ρ h0 39), .ref (ρ h0 40), .ref (ρ h0 41), .ref (ρ h0 42), .ref (ρ h0 43), .ref (ρ h0 44), .ref (ρ h0 45), .ref (ρ h0 46), .int o28_x47, .int o28_x48, .ref (ρ h0 49), .ref (ρ h0 50), .ref (ρ h0 51), .ref (ρ h0 52)])) hD (tp_in hG ht_h0 (by decide)) eq29 (fun f30 H locs hP hD hS g32 k31 => ?_))
  have hT := hT.up ht_h0 g32 k31 ⟨_, _, _, _, _, _, _, _, _, _, _, _, _, _, _, _, _, _, _, _, _, _, _, _, _, _, _, _, rfl, ro28_0, ro28_1, ro28_2, ro28_3, ro28_4, ro28_5, ro28_6, ro28_7, ro28_8, ro28_9, ro28_10, ro28_11, ro28_12, ro28_13, ro28_14⟩
  have hR := hR.up ht_h0 (by decide) k31
  refine lv_iload_n hx hb dX12_terminal_5 rfl (lv_at hl 2 rfl) ?_
  refine lv_i2l hx hb dX12_terminal_6 rfl ?_
  refine lv_lconst (v := 0) hx hb dX12_terminal_7 (by decide) ?_
  refine lv_ldc2 (own := RX12) (v := 500000) hx hb hown (hts (.constantLong RX12 109 (500000)) wa_210) dX12_terminal_8 ?_
  have hf_33 : f30 (ρ h0 2) = .inl (κ 0, 12967, .inl g27) := (k31 _ (tp_ne y1 ht_h0 (by decide))).trans hf_o26
  refine pz_calli (va_runS (As := [.long u.toInt64, .long 0, .long 500000]) (rest := []) ⟨hx, hb, hml, hown, hts⟩ (t_X12_in l dC dI _ u.toInt64 (0) (500000) (u.toInt) (0) (500000) (Int32.toInt_toInt64 u) rfl rfl) (va_cwS 3 hts gX12_terminal_X12_in rfl rfl rfl pd_X12_in ⟨Nat.le_of_ble_eq_true rfl, Nat.le_of_ble_eq_true rfl⟩) ⟨pz_blind, pz_pre pz_P0 (hK.sub (tys' := []) [] rfl) (pz_D0 (A := fun _ => True)) hN⟩ rfl rfl hl.1 rfl (lv_room (Nat.le_of_ble_eq_true rfl)) dX12_terminal_11 ⟨Nat.le_of_ble_eq_true rfl, Nat.le_of_ble_eq_true rfl⟩) (fun r34 hw35 => ?_)
  obtain ⟨hw35r, hw35p⟩ := hw35
  refine lv_if_eq (tgt := 53) hx hb dX12_terminal_14 (by decide) (fun c36 => ?_) (fun c36 => ?_)
  · have ic36 : r34.toInt = 0 := zi_eq rfl rfl c36
    have p37 : ¬ ((0) ≤ (u.toInt) ∧ (u.toInt) ≤ (500000)) := (tp_cond.no hw35p) (by omega)
    clear hw35r ic36
    refine lv_aload_n hx hb dX12_terminal_53 rfl (lv_at hl 0 rfl) ?_
    refine lv_iconst (v := (-1)) hx hb dX12_terminal_54 (by decide) ?_
    refine tpk_pos (tp_in hG ht_h0 (by decide)) g32 (fun q38 eq38 => ?_)
    have hFc := tp_fr hD hS hA
    refine va_calli (va_runV (As := [.int (-1)]) (rest := []) ⟨hx, hb, hml, hown, hts⟩ (t_X12_told l dC dI _ κ Θ τ ν ρ L f30 hG hT h0 ((-1)) ht_h0) (cwV 1 hts gX12_terminal_X12_told rfl rfl rfl ⟨rfl, pd_X12_told⟩ ⟨Nat.le_of_ble_eq_true rfl, Nat.le_of_ble_eq_true rfl⟩) ⟨pz_blind, va_recv hK hP (ci := 12) (q0 := q38) rfl eq38, pz_pre hP hK hD hN⟩ rfl rfl hl.1 rfl (lv_room (Nat.le_of_ble_eq_true rfl)) dX12_terminal_55 ⟨Nat.le_of_ble_eq_true rfl, Nat.le_of_ble_eq_true rfl⟩) hS (fun q _ h => hFc q h) hFc (fun r39 f41 t H1 locs ht hvm hw40 hB hz1 hk1 hS => ?_)
    refine tn_4 hw40 (fun hT hF42 hw40r hw40p => ?_); clear hw40
    have hR := hR.then hF42 (by decide)
    have hP := hB.1; rw [ht] at hP; have hD := tp_ad f41 hD; clear hB hFc hz1 hk1; subst ht; generalize t.heap = H at hP hS ⊢
    have hw40pq : r39.toInt = (-1) := by rw [hw40p]; rfl
    have hf_43 : f41 (ρ h0 2) = .inl (κ 0, 12967, .inl g27) := (hF42 _ (by rw [tp_iu y1]; decide)).trans hf_33
    exact W.iret (v := r39) hx hb hr (fun t ht hW => ⟨⟨r39, f41, rfl, ⟨hT, hR, trivial, ⟨(by rw [hf_43, mo_i1]; exact hI), (by rw [hf_43, mo_i1, hf_o26, mo_i1]; exact hKN), (by simp only [hf_43, hf_o26, mo_i1]; exact ⟨⟨fun q0 => by omega, fun q0 => ⟨fun q1 => by omega, fun q1 => (by omega)⟩⟩, ⟨fun q0 => by omega, fun q0 => ⟨fun q1 => by omega, fun q1 => (by omega)⟩⟩⟩)⟩⟩, by rw [ht]; exact hP, va_K.moved hW.alike hK, hD⟩, hS.F ht⟩) hS.2.2 dX12_terminal_58
  · have ic36 : r34.toInt ≠ 0 := zi_eqf rfl rfl c36
    replace ic36 : 1 ≤ r34.toInt := by omega
    have p44 : (0) ≤ (u.toInt) ∧ (u.toInt) ≤ (500000) := (tp_cond.yes hw35p) (by omega)
    clear hw35r ic36
    refine lv_iload_n hx hb dX12_terminal_17 rfl (lv_at hl 1 rfl) ?_
    refine lv_i2l hx hb dX12_terminal_18 rfl ?_
    refine lv_lconst (v := 0) hx hb dX12_terminal_19 (by decide) ?_
    refine lv_iload_n hx hb dX12_terminal_20 rfl (lv_at hl 2 rfl) ?_
    refine lv_i2l hx hb dX12_terminal_21 rfl ?_
    refine pz_calli (va_runS (As := [.long v.toInt64, .long 0, .long u.toInt64]) (rest := []) ⟨hx, hb, hml, hown, hts⟩ (t_X12_in l dC dI _ v.toInt64 (0) u.toInt64 (v.toInt) (0) (u.toInt) (Int32.toInt_toInt64 v) rfl (Int32.toInt_toInt64 u)) (va_cwS 3 hts gX12_terminal_X12_in rfl rfl rfl pd_X12_in ⟨Nat.le_of_ble_eq_true rfl, Nat.le_of_ble_eq_true rfl⟩) ⟨pz_blind, pz_pre pz_P0 (hK.sub (tys' := []) [] rfl) (pz_D0 (A := fun _ => True)) hN⟩ rfl rfl hl.1 rfl (lv_room (Nat.le_of_ble_eq_true rfl)) dX12_terminal_22 ⟨Nat.le_of_ble_eq_true rfl, Nat.le_of_ble_eq_true rfl⟩) (fun r45 hw46 => ?_)
    obtain ⟨hw46r, hw46p⟩ := hw46
    refine lv_if_eq (tgt := 53) hx hb dX12_terminal_25 (by decide) (fun c47 => ?_) (fun c47 => ?_)
    · have ic47 : r45.toInt = 0 := zi_eq rfl rfl c47
      have p48 : ¬ ((0) ≤ (v.toInt) ∧ (v.toInt) ≤ (u.toInt)) := (tp_cond.no hw46p) (by omega)
      clear hw46r ic47
      refine lv_aload_n hx hb dX12_terminal_53 rfl (lv_at hl 0 rfl) ?_
      refine lv_iconst (v := (-1)) hx hb dX12_terminal_54 (by decide) ?_
      refine tpk_pos (tp_in hG ht_h0 (by decide)) g32 (fun q49 eq49 => ?_)
      have hFc := tp_fr hD hS hA
      refine va_calli (va_runV (As := [.int (-1)]) (rest := []) ⟨hx, hb, hml, hown, hts⟩ (t_X12_told l dC dI _ κ Θ τ ν ρ L f30 hG hT h0 ((-1)) ht_h0) (cwV 1 hts gX12_terminal_X12_told rfl rfl rfl ⟨rfl, pd_X12_told⟩ ⟨Nat.le_of_ble_eq_true rfl, Nat.le_of_ble_eq_true rfl⟩) ⟨pz_blind, va_recv hK hP (ci := 12) (q0 := q49) rfl eq49, pz_pre hP hK hD hN⟩ rfl rfl hl.1 rfl (lv_room (Nat.le_of_ble_eq_true rfl)) dX12_terminal_55 ⟨Nat.le_of_ble_eq_true rfl, Nat.le_of_ble_eq_true rfl⟩) hS (fun q _ h => hFc q h) hFc (fun r50 f52 t H1 locs ht hvm hw51 hB hz1 hk1 hS => ?_)
      refine tn_4 hw51 (fun hT hF53 hw51r hw51p => ?_); clear hw51
      have hR := hR.then hF53 (by decide)
      have hP := hB.1; rw [ht] at hP; have hD := tp_ad f52 hD; clear hB hFc hz1 hk1; subst ht; generalize t.heap = H at hP hS ⊢
      have hw51pq : r50.toInt = (-1) := by rw [hw51p]; rfl
      have hf_54 : f52 (ρ h0 2) = .inl (κ 0, 12967, .inl g27) := (hF53 _ (by rw [tp_iu y1]; decide)).trans hf_33
      exact W.iret (v := r50) hx hb hr (fun t ht hW => ⟨⟨r50, f52, rfl, ⟨hT, hR, trivial, ⟨(by rw [hf_54, mo_i1]; exact hI), (by rw [hf_54, mo_i1, hf_o26, mo_i1]; exact hKN), (by simp only [hf_54, hf_o26, mo_i1]; exact ⟨⟨fun q0 => by omega, fun q0 => ⟨fun q1 => by omega, fun q1 => (by omega)⟩⟩, ⟨fun q0 => by omega, fun q0 => ⟨fun q1 => by omega, fun q1 => (by omega)⟩⟩⟩)⟩⟩, by rw [ht]; exact hP, va_K.moved hW.alike hK, hD⟩, hS.F ht⟩) hS.2.2 dX12_terminal_58
    · have ic47 : r45.toInt ≠ 0 := zi_eqf rfl rfl c47
      replace ic47 : 1 ≤ r45.toInt := by omega
      have p55 : (0) ≤ (v.toInt) ∧ (v.toInt) ≤ (u.toInt) := (tp_cond.yes hw46p) (by omega)
      clear hw46r ic47
      refine lv_iload_n hx hb dX12_terminal_28 rfl (lv_at hl 3 rfl) ?_
      refine lv_i2l hx hb dX12_terminal_29 rfl ?_
      refine lv_lconst (v := 1) hx hb dX12_terminal_30 (by decide) ?_
      refine lv_ldc2 (own := RX12) (v := 10000) hx hb hown (hts (.constantLong RX12 111 (10000)) wa_211) dX12_terminal_31 ?_
      refine pz_calli (va_runS (As := [.long a.toInt64, .long 1, .long 10000]) (rest := []) ⟨hx, hb, hml, hown, hts⟩ (t_X12_in l dC dI _ a.toInt64 (1) (10000) (a.toInt) (1) (10000) (Int32.toInt_toInt64 a) rfl rfl) (va_cwS 3 hts gX12_terminal_X12_in rfl rfl rfl pd_X12_in ⟨Nat.le_of_ble_eq_true rfl, Nat.le_of_ble_eq_true rfl⟩) ⟨pz_blind, pz_pre pz_P0 (hK.sub (tys' := []) [] rfl) (pz_D0 (A := fun _ => True)) hN⟩ rfl rfl hl.1 rfl (lv_room (Nat.le_of_ble_eq_true rfl)) dX12_terminal_34 ⟨Nat.le_of_ble_eq_true rfl, Nat.le_of_ble_eq_true rfl⟩) (fun r56 hw57 => ?_)
      obtain ⟨hw57r, hw57p⟩ := hw57
      refine lv_if_eq (tgt := 53) hx hb dX12_terminal_37 (by decide) (fun c58 => ?_) (fun c58 => ?_)
      · have ic58 : r56.toInt = 0 := zi_eq rfl rfl c58
        have p59 : ¬ ((1) ≤ (a.toInt) ∧ (a.toInt) ≤ (10000)) := (tp_cond.no hw57p) (by omega)
        clear hw57r ic58
        refine lv_aload_n hx hb dX12_terminal_53 rfl (lv_at hl 0 rfl) ?_
        refine lv_iconst (v := (-1)) hx hb dX12_terminal_54 (by decide) ?_
        refine tpk_pos (tp_in hG ht_h0 (by decide)) g32 (fun q60 eq60 => ?_)
        have hFc := tp_fr hD hS hA
        refine va_calli (va_runV (As := [.int (-1)]) (rest := []) ⟨hx, hb, hml, hown, hts⟩ (t_X12_told l dC dI _ κ Θ τ ν ρ L f30 hG hT h0 ((-1)) ht_h0) (cwV 1 hts gX12_terminal_X12_told rfl rfl rfl ⟨rfl, pd_X12_told⟩ ⟨Nat.le_of_ble_eq_true rfl, Nat.le_of_ble_eq_true rfl⟩) ⟨pz_blind, va_recv hK hP (ci := 12) (q0 := q60) rfl eq60, pz_pre hP hK hD hN⟩ rfl rfl hl.1 rfl (lv_room (Nat.le_of_ble_eq_true rfl)) dX12_terminal_55 ⟨Nat.le_of_ble_eq_true rfl, Nat.le_of_ble_eq_true rfl⟩) hS (fun q _ h => hFc q h) hFc (fun r61 f63 t H1 locs ht hvm hw62 hB hz1 hk1 hS => ?_)
        refine tn_4 hw62 (fun hT hF64 hw62r hw62p => ?_); clear hw62
        have hR := hR.then hF64 (by decide)
        have hP := hB.1; rw [ht] at hP; have hD := tp_ad f63 hD; clear hB hFc hz1 hk1; subst ht; generalize t.heap = H at hP hS ⊢
        have hw62pq : r61.toInt = (-1) := by rw [hw62p]; rfl
        have hf_65 : f63 (ρ h0 2) = .inl (κ 0, 12967, .inl g27) := (hF64 _ (by rw [tp_iu y1]; decide)).trans hf_33
        exact W.iret (v := r61) hx hb hr (fun t ht hW => ⟨⟨r61, f63, rfl, ⟨hT, hR, trivial, ⟨(by rw [hf_65, mo_i1]; exact hI), (by rw [hf_65, mo_i1, hf_o26, mo_i1]; exact hKN), (by simp only [hf_65, hf_o26, mo_i1]; exact ⟨⟨fun q0 => by omega, fun q0 => ⟨fun q1 => by omega, fun q1 => (by omega)⟩⟩, ⟨fun q0 => by omega, fun q0 => ⟨fun q1 => by omega, fun q1 => (by omega)⟩⟩⟩)⟩⟩, by rw [ht]; exact hP, va_K.moved hW.alike hK, hD⟩, hS.F ht⟩) hS.2.2 dX12_terminal_58
      · have ic58 : r56.toInt ≠ 0 := zi_eqf rfl rfl c58
        replace ic58 : 1 ≤ r56.toInt := by omega
        have p66 : (1) ≤ (a.toInt) ∧ (a.toInt) ≤ (10000) := (tp_cond.yes hw57p) (by omega)
        clear hw57r ic58
        refine lv_iload hx hb dX12_terminal_40 (lv_at hl 4 rfl) ?_
        refine lv_i2l hx hb dX12_terminal_42 rfl ?_
        refine lv_lconst (v := 0) hx hb dX12_terminal_43 (by decide) ?_
        refine lv_ldc2 (own := RX12) (v := 30) hx hb hown (hts (.constantLong RX12 113 (30)) wa_212) dX12_terminal_44 ?_
        refine pz_calli (va_runS (As := [.long a4.toInt64, .long 0, .long 30]) (rest := []) ⟨hx, hb, hml, hown, hts⟩ (t_X12_in l dC dI _ a4.toInt64 (0) (30) (a4.toInt) (0) (30) (Int32.toInt_toInt64 a4) rfl rfl) (va_cwS 3 hts gX12_terminal_X12_in rfl rfl rfl pd_X12_in ⟨Nat.le_of_ble_eq_true rfl, Nat.le_of_ble_eq_true rfl⟩) ⟨pz_blind, pz_pre pz_P0 (hK.sub (tys' := []) [] rfl) (pz_D0 (A := fun _ => True)) hN⟩ rfl rfl hl.1 rfl (lv_room (Nat.le_of_ble_eq_true rfl)) dX12_terminal_47 ⟨Nat.le_of_ble_eq_true rfl, Nat.le_of_ble_eq_true rfl⟩) (fun r67 hw68 => ?_)
        obtain ⟨hw68r, hw68p⟩ := hw68
        refine lv_if_ne (tgt := 59) hx hb dX12_terminal_50 (by decide) (fun c69 => ?_) (fun c69 => ?_)
        · have ic69 : r67.toInt ≠ 0 := zi_ne rfl rfl c69
          replace ic69 : 1 ≤ r67.toInt := by omega
          have p70 : (0) ≤ (a4.toInt) ∧ (a4.toInt) ≤ (30) := (tp_cond.yes hw68p) (by omega)
          clear hw68r ic69
          refine lv_aload_n hx hb dX12_terminal_59 rfl (lv_at hl 0 rfl) ?_
          refine tpk_pos (tp_in hG ht_h0 (by decide)) g32 (fun q71 eq71 => ?_)
          refine va_get (D := (dC, dI)) (ci := 12) (v := .ref (ρ h0 2)) (C := RX12) (T := TX12) (N := 53) hx hb hts hfX12 hown hK hP q71 eq71 rfl 2 (by decide) (hts (.fieldLink RX12 7 "ColdShipsModel" "row" "[I") wa_148) (fun _ h9 => h9) rfl dX12_terminal_60 ?_
          refine lv_iconst (v := 0) hx hb dX12_terminal_63 (by decide) ?_
          refine tpk_pos (tp_in hG y1 (by decide)) hf_33 (fun q72 eq72 => ?_)
          refine va_iald hx hb hK hP q72 0 eq72 rfl (vp_in_iff.mpr ⟨by decide, by decide⟩) dX12_terminal_64 ?_
          refine lv_topi (fun z73 ez73 => ?_)
          have jz73 : z73.toInt = mo_R g27 (0) := mo_rd ez73 (show (0 : Int32).toInt = (0) from by decide)
          have kz73 := hI.k0
          refine lv_bipush (v := 6) hx hb dX12_terminal_65 (by decide) ?_
          refine lv_icmp_ne (tgt := 77) hx hb dX12_terminal_67 (by decide) (fun c74 => ?_) (fun c74 => ?_)
          · have ic74 : z73.toInt ≠ 6 := zi_ne rfl rfl c74
            replace ic74 : z73.toInt ≤ 5 := by omega
            refine lv_aload_n hx hb dX12_terminal_77 rfl (lv_at hl 0 rfl) ?_
            refine va_get (D := (dC, dI)) (ci := 12) (v := .ref (ρ h0 2)) (C := RX12) (T := TX12) (N := 53) hx hb hts hfX12 hown hK hP q71 eq71 rfl 2 (by decide) (hts (.fieldLink RX12 7 "ColdShipsModel" "row" "[I") wa_148) (fun _ h9 => h9) rfl dX12_terminal_78 ?_
            refine lv_iconst (v := 0) hx hb dX12_terminal_81 (by decide) ?_
            refine va_iald hx hb hK hP q72 0 eq72 rfl (vp_in_iff.mpr ⟨by decide, by decide⟩) dX12_terminal_82 ?_
            refine lv_topi (fun z75 ez75 => ?_)
            have jz75 : z75.toInt = mo_R g27 (0) := mo_rd ez75 (show (0 : Int32).toInt = (0) from by decide)
            have kz75 := hI.k0
            have vz75 : z75.toInt = z73.toInt := jz75.trans (jz73).symm
            refine pz_calli (va_runS (As := [.int z75]) (rest := []) ⟨hx, hb, hml, hown, hts⟩ (t_X12_terminalAt l dC dI _ z75 (z75.toInt) (by omega) rfl) (va_cwS 1 hts gX12_terminal_X12_terminalAt rfl rfl rfl pd_X12_terminalAt ⟨Nat.le_of_ble_eq_true rfl, Nat.le_of_ble_eq_true rfl⟩) ⟨pz_blind, pz_pre pz_P0 (hK.sub (tys' := []) [] rfl) (pz_D0 (A := fun _ => True)) hN⟩ rfl rfl hl.1 rfl (lv_room (Nat.le_of_ble_eq_true rfl)) dX12_terminal_83 ⟨Nat.le_of_ble_eq_true rfl, Nat.le_of_ble_eq_true rfl⟩) (fun r76 hw77 => ?_)
            obtain ⟨hw77r, hw77p⟩ := hw77
            refine lv_istore (lv' := [(5, .int r76), (0, .ref h0), (1, .int v), (2, .int u), (3, .int a), (4, .int a4)]) hx hb dX12_terminal_86 hl (by decide) rfl (fun ls hl => ?_)
            refine lv_aload_n hx hb dX12_terminal_88 rfl (lv_at hl 1 rfl) ?_
            refine lv_iload hx hb dX12_terminal_89 (lv_at hl 0 rfl) ?_
            refine lv_iload_n hx hb dX12_terminal_91 rfl (lv_at hl 2 rfl) ?_
            refine lv_iload_n hx hb dX12_terminal_92 rfl (lv_at hl 3 rfl) ?_
            refine lv_iload_n hx hb dX12_terminal_93 rfl (lv_at hl 4 rfl) ?_
            refine lv_iload hx hb dX12_terminal_94 (lv_at hl 5 rfl) ?_
            have hFc := tp_fr hD hS hA
            refine va_callv (va_runV (As := [.int r76, .int v, .int u, .int a, .int a4]) (rest := []) ⟨hx, hb, hml, hown, hts⟩ (t_X12_addFour l dC dI _ κ Θ τ ν ρ L f30 hG hT h0 r76 v u a a4 ht_h0 (by first | decide | omega)) (cwV 5 hts gX12_terminal_X12_addFour rfl rfl rfl ⟨rfl, pd_X12_addFour⟩ ⟨Nat.le_of_ble_eq_true rfl, Nat.le_of_ble_eq_true rfl⟩) ⟨pz_blind, va_recv hK hP (ci := 12) (q0 := q71) rfl eq71, pz_pre hP hK hD hN⟩ rfl rfl hl.1 rfl (lv_room (Nat.le_of_ble_eq_true rfl)) dX12_terminal_96 ⟨Nat.le_of_ble_eq_true rfl, Nat.le_of_ble_eq_true rfl⟩) hS (fun q _ h => hFc q h) hFc (fun f80 t H1 locs ht hvm hw79 hB hz1 hk1 hS => ?_)
            refine tn_3 hw79 (fun hT hF81 hw79p => ?_); clear hw79
            have hR := hR.then hF81 (by decide)
            have hP := hB.1; rw [ht] at hP; have hD := tp_ad f80 hD; clear hB hFc hz1 hk1; subst ht; generalize t.heap = H at hP hS ⊢
            rw [hf_33, mo_i1] at hw79p
            obtain ⟨Q1_81, Q2_81, Q3_81, u1_81, u2_81, u3_81, u4_81⟩ := hw79p
            refine tpk_32 hT y1 (fun g83 hf_o82 => ?_)
            rw [hf_o82, mo_i1] at u4_81
            have hU : mo_U (mo_R g27) (Q1_81) (20 + 5 * z73.toInt + 0) (v.toInt) := by have q9 := u1_81; rw [show r76.toInt = (20 + 5 * z73.toInt + 0) by omega] at q9; exact q9
            have hI := mo_w_term hI hU z73.toInt 0 (by omega) (by omega) (by omega)
            have hKN := hKN.up hU (Or.inl (by omega))
            have pn84 : Q1_81 (0) = z73.toInt := (hU.ne (by omega) (by omega)).trans (jz73).symm
            have hU : mo_U (Q1_81) (Q2_81) (20 + 5 * z73.toInt + 1) (u.toInt) := by have q9 := u2_81; rw [show r76.toInt + 1 = (20 + 5 * z73.toInt + 1) by omega] at q9; exact q9
            have hI := mo_w_term hI hU z73.toInt 1 (by omega) (by omega) (by omega)
            have hKN := hKN.up hU (Or.inl (by omega))
            have pn85 : Q2_81 (0) = z73.toInt := (hU.ne (by omega) (by omega)).trans pn84
            have hU : mo_U (Q2_81) (Q3_81) (20 + 5 * z73.toInt + 2) (a.toInt) := by have q9 := u3_81; rw [show r76.toInt + 2 = (20 + 5 * z73.toInt + 2) by omega] at q9; exact q9
            have hI := mo_w_term hI hU z73.toInt 2 (by omega) (by omega) (by omega)
            have hKN := hKN.up hU (Or.inl (by omega))
            have pn86 : Q3_81 (0) = z73.toInt := (hU.ne (by omega) (by omega)).trans pn85
            have pn87 : Q3_81 (20 + 5 * z73.toInt + 2) = a.toInt := hU.eq (by omega)
            have hU : mo_U (Q3_81) (mo_R g83) (20 + 5 * z73.toInt + 3) (a4.toInt) := by have q9 := u4_81; rw [show r76.toInt + 3 = (20 + 5 * z73.toInt + 3) by omega] at q9; exact q9
            have hI := mo_w_term hI hU z73.toInt 3 (by omega) (by omega) (by omega)
            have hKN := hKN.up hU (Or.inl (by omega))
            have pn88 : mo_R g83 (0) = z73.toInt := (hU.ne (by omega) (by omega)).trans pn86
            have pn89 : mo_R g83 (20 + 5 * z73.toInt + 2) = a.toInt := (hU.ne (by omega) (by omega)).trans pn87
            refine lv_aload_n hx hb dX12_terminal_99 rfl (lv_at hl 1 rfl) ?_
            have hf_90 : f80 h0 = .inr (12, [.int 0, .int o28_x1, .ref (ρ h0 2), .ref (ρ h0 3), .ref (ρ h0 4), .ref (ρ h0 5), .ref (ρ h0 6), .int o28_x7, .ref (ρ h0 8), .int o28_x9, .int o28_x10, .int o28_x11, .int o28_x12, .long o28_x13, .int o28_x14, .int o28_x15, .int o28_x16, .int o28_x17, .int o28_x18, .int o28_x19, .int o28_x20, .ref (ρ h0 21), .int o28_x22, .ref (ρ h0 23), .ref (ρ h0 24), .int o28_x25, .ref (ρ h0 26), .ref (ρ h0 27), .int o28_x28, .int o28_x29, .ref (ρ h0 30), .ref (ρ h0 31), .int o28_x32, .long o28_x33, .long o28_x34, .long o28_x35, .int o28_x36, .int o28_x37, .int o28_x38, .ref (ρ h0 39), .ref (ρ h0 40), .ref (ρ h0 41), .ref (ρ h0 42), .ref (ρ h0 43), .ref (ρ h0 44), .ref (ρ h0 45), .ref (ρ h0 46), .int o28_x47, .int o28_x48, .ref (ρ h0 49), .ref (ρ h0 50), .ref (ρ h0 51), .ref (ρ h0 52)]) := (hF81 _ (by rw [ht_h0]; decide)).trans g32
            refine tpk_pos (tp_in hG ht_h0 (by decide)) hf_90 (fun q91 eq91 => ?_)
            refine va_get (D := (dC, dI)) (ci := 12) (v := .ref (ρ h0 2)) (C := RX12) (T := TX12) (N := 53) hx hb hts hfX12 hown hK hP q91 eq91 rfl 2 (by decide) (hts (.fieldLink RX12 7 "ColdShipsModel" "row" "[I") wa_148) (fun _ h9 => h9) rfl dX12_terminal_100 ?_
            refine lv_iload hx hb dX12_terminal_103 (lv_at hl 0 rfl) ?_
            refine lv_iconst (v := 4) hx hb dX12_terminal_105 (by decide) ?_
            refine lv_iadd hx hb dX12_terminal_106 ?_
            refine lv_topi (fun z92 ez92 => ?_)
            have iz92 : z92.toInt = r76.toInt + 4 := zi_add ez92 rfl rfl (by omega) (by omega)
            refine lv_sipush (v := 1000) hx hb dX12_terminal_107 (by decide) ?_
            refine tpk_pos (tp_in hG y1 (by decide)) hf_o82 (fun q93 eq93 => ?_)
            refine va_iast hx hb hK hP hD hS q93 0 eq93 rfl (vp_in_iff.mpr ⟨by omega, by omega⟩) dX12_terminal_110 (tp_k (.inl (κ 0, 12967, .inl (upd g83 z92.toNatClampNeg (1000 : Int32)))) hD (tp_in hG y1 (by decide)) eq93 (fun f94 H locs hP hD hS g96 k95 => ?_))
            have hT := hT.up y1 g96 k95 tp_o32
            have hR := hR.up y1 (by decide) k95
            have hU : mo_U (mo_R g83) (mo_R (upd g83 z92.toNatClampNeg (1000 : Int32))) (20 + 5 * z73.toInt + 4) (1000) := mo_up (by omega) (show (1000 : Int32).toInt = 1000 from rfl) (by omega)
            generalize (upd g83 z92.toNatClampNeg (1000 : Int32)) = g97 at g96 hU
            have hI := mo_w_term hI hU z73.toInt 4 (by omega) (by omega) (by omega)
            have hKN := hKN.up hU (Or.inl (by omega))
            have pn98 : mo_R g97 (0) = z73.toInt := (hU.ne (by omega) (by omega)).trans pn88
            have pn99 : mo_R g97 (20 + 5 * z73.toInt + 2) = a.toInt := (hU.ne (by omega) (by omega)).trans pn89
            refine lv_aload_n hx hb dX12_terminal_111 rfl (lv_at hl 1 rfl) ?_
            have hf_100 : f94 h0 = .inr (12, [.int 0, .int o28_x1, .ref (ρ h0 2), .ref (ρ h0 3), .ref (ρ h0 4), .ref (ρ h0 5), .ref (ρ h0 6), .int o28_x7, .ref (ρ h0 8), .int o28_x9, .int o28_x10, .int o28_x11, .int o28_x12, .long o28_x13, .int o28_x14, .int o28_x15, .int o28_x16, .int o28_x17, .int o28_x18, .int o28_x19, .int o28_x20, .ref (ρ h0 21), .int o28_x22, .ref (ρ h0 23), .ref (ρ h0 24), .int o28_x25, .ref (ρ h0 26), .ref (ρ h0 27), .int o28_x28, .int o28_x29, .ref (ρ h0 30), .ref (ρ h0 31), .int o28_x32, .long o28_x33, .long o28_x34, .long o28_x35, .int o28_x36, .int o28_x37, .int o28_x38, .ref (ρ h0 39), .ref (ρ h0 40), .ref (ρ h0 41), .ref (ρ h0 42), .ref (ρ h0 43), .ref (ρ h0 44), .ref (ρ h0 45), .ref (ρ h0 46), .int o28_x47, .int o28_x48, .ref (ρ h0 49), .ref (ρ h0 50), .ref (ρ h0 51), .ref (ρ h0 52)]) := (k95 _ (tp_ne ht_h0 y1 (by decide))).trans hf_90
            refine tpk_pos (tp_in hG ht_h0 (by decide)) hf_100 (fun q101 eq101 => ?_)
            refine va_get (D := (dC, dI)) (ci := 12) (v := .ref (ρ h0 2)) (C := RX12) (T := TX12) (N := 53) hx hb hts hfX12 hown hK hP q101 eq101 rfl 2 (by decide) (hts (.fieldLink RX12 7 "ColdShipsModel" "row" "[I") wa_148) (fun _ h9 => h9) rfl dX12_terminal_112 ?_
            refine lv_iconst (v := 0) hx hb dX12_terminal_115 (by decide) ?_
            refine lv_dup2_11 hx hb dX12_terminal_116 rfl rfl ?_
            refine tpk_pos (tp_in hG y1 (by decide)) g96 (fun q102 eq102 => ?_)
            refine va_iald hx hb hK hP q102 0 eq102 rfl (vp_in_iff.mpr ⟨by decide, by decide⟩) dX12_terminal_117 ?_
            refine lv_topi (fun z103 ez103 => ?_)
            have jz103 : z103.toInt = mo_R g97 (0) := mo_rd ez103 (show (0 : Int32).toInt = (0) from by decide)
            have kz103 := hI.k0
            have vz103 : z103.toInt = z73.toInt := jz103.trans pn98
            refine lv_iconst (v := 1) hx hb dX12_terminal_118 (by decide) ?_
            refine lv_iadd hx hb dX12_terminal_119 ?_
            refine lv_topi (fun z104 ez104 => ?_)
            have iz104 : z104.toInt = z103.toInt + 1 := zi_add ez104 rfl rfl (by omega) (by omega)
            refine va_iast hx hb hK hP hD hS q102 0 eq102 rfl (vp_in_iff.mpr ⟨by decide, by decide⟩) dX12_terminal_120 (tp_k (.inl (κ 0, 12967, .inl (upd g97 (0 : Int32).toNatClampNeg z104))) hD (tp_in hG y1 (by decide)) eq102 (fun f105 H locs hP hD hS g107 k106 => ?_))
            have hT := hT.up y1 g107 k106 tp_o32
            have hR := hR.up y1 (by decide) k106
            have hU : mo_U (mo_R g97) (mo_R (upd g97 (0 : Int32).toNatClampNeg z104)) (0) (z104.toInt) := mo_up (show (0 : Int32).toInt = (0) from by decide) (rfl : z104.toInt = _) (by omega)
            generalize (upd g97 (0 : Int32).toNatClampNeg z104) = g108 at g107 hU
            have hI := mo_w_nT hI hU (z73.toInt) rfl pn98 (by omega) (by omega)
            have hKN := hKN.up hU (Or.inr (by show (0) = 0; omega))
            have pn109 : mo_R g108 (20 + 5 * z73.toInt + 2) = a.toInt := (hU.ne (by omega) (by omega)).trans pn99
            have pn110 : mo_R g108 (0) = z104.toInt := hU.eq (by omega)
            refine lv_aload_n hx hb dX12_terminal_121 rfl (lv_at hl 1 rfl) ?_
            refine lv_aload_n hx hb dX12_terminal_122 rfl (lv_at hl 1 rfl) ?_
            have hf_111 : f105 h0 = .inr (12, [.int 0, .int o28_x1, .ref (ρ h0 2), .ref (ρ h0 3), .ref (ρ h0 4), .ref (ρ h0 5), .ref (ρ h0 6), .int o28_x7, .ref (ρ h0 8), .int o28_x9, .int o28_x10, .int o28_x11, .int o28_x12, .long o28_x13, .int o28_x14, .int o28_x15, .int o28_x16, .int o28_x17, .int o28_x18, .int o28_x19, .int o28_x20, .ref (ρ h0 21), .int o28_x22, .ref (ρ h0 23), .ref (ρ h0 24), .int o28_x25, .ref (ρ h0 26), .ref (ρ h0 27), .int o28_x28, .int o28_x29, .ref (ρ h0 30), .ref (ρ h0 31), .int o28_x32, .long o28_x33, .long o28_x34, .long o28_x35, .int o28_x36, .int o28_x37, .int o28_x38, .ref (ρ h0 39), .ref (ρ h0 40), .ref (ρ h0 41), .ref (ρ h0 42), .ref (ρ h0 43), .ref (ρ h0 44), .ref (ρ h0 45), .ref (ρ h0 46), .int o28_x47, .int o28_x48, .ref (ρ h0 49), .ref (ρ h0 50), .ref (ρ h0 51), .ref (ρ h0 52)]) := (k106 _ (tp_ne ht_h0 y1 (by decide))).trans hf_100
            refine tpk_pos (tp_in hG ht_h0 (by decide)) hf_111 (fun q112 eq112 => ?_)
            refine va_get (D := (dC, dI)) (ci := 12) (v := .ref (ρ h0 2)) (C := RX12) (T := TX12) (N := 53) hx hb hts hfX12 hown hK hP q112 eq112 rfl 2 (by decide) (hts (.fieldLink RX12 7 "ColdShipsModel" "row" "[I") wa_148) (fun _ h9 => h9) rfl dX12_terminal_123 ?_
            refine lv_iconst (v := 0) hx hb dX12_terminal_126 (by decide) ?_
            refine tpk_pos (tp_in hG y1 (by decide)) g107 (fun q113 eq113 => ?_)
            refine va_iald hx hb hK hP q113 0 eq113 rfl (vp_in_iff.mpr ⟨by decide, by decide⟩) dX12_terminal_127 ?_
            refine lv_topi (fun z114 ez114 => ?_)
            have jz114 : z114.toInt = mo_R g108 (0) := mo_rd ez114 (show (0 : Int32).toInt = (0) from by decide)
            have kz114 := hI.k0
            have vz114 : z114.toInt = z104.toInt := jz114.trans pn110
            refine lv_iconst (v := 1) hx hb dX12_terminal_128 (by decide) ?_
            refine lv_isub hx hb dX12_terminal_129 ?_
            refine lv_topi (fun z115 ez115 => ?_)
            have iz115 : z115.toInt = z114.toInt - 1 := zi_sub ez115 rfl rfl (by omega) (by omega)
            have hFc := tp_fr hD hS hA
            refine va_calli (va_runV (As := [.int z115]) (rest := []) ⟨hx, hb, hml, hown, hts⟩ (t_X12_told l dC dI _ κ Θ τ ν ρ L f105 hG hT h0 z115 ht_h0) (cwV 1 hts gX12_terminal_X12_told rfl rfl rfl ⟨rfl, pd_X12_told⟩ ⟨Nat.le_of_ble_eq_true rfl, Nat.le_of_ble_eq_true rfl⟩) ⟨pz_blind, va_recv hK hP (ci := 12) (q0 := q112) rfl eq112, pz_pre hP hK hD hN⟩ rfl rfl hl.1 rfl (lv_room (Nat.le_of_ble_eq_true rfl)) dX12_terminal_130 ⟨Nat.le_of_ble_eq_true rfl, Nat.le_of_ble_eq_true rfl⟩) hS (fun q _ h => hFc q h) hFc (fun r116 f118 t H1 locs ht hvm hw117 hB hz1 hk1 hS => ?_)
            refine tn_4 hw117 (fun hT hF119 hw117r hw117p => ?_); clear hw117
            have hR := hR.then hF119 (by decide)
            have hP := hB.1; rw [ht] at hP; have hD := tp_ad f118 hD; clear hB hFc hz1 hk1; subst ht; generalize t.heap = H at hP hS ⊢
            have hw117pq : r116.toInt = z115.toInt := by rw [hw117p]
            have hf_120 : f118 (ρ h0 2) = .inl (κ 0, 12967, .inl g108) := (hF119 _ (by rw [tp_iu y1]; decide)).trans g107
            exact W.iret (v := r116) hx hb hr (fun t ht hW => ⟨⟨r116, f118, rfl, ⟨hT, hR, trivial, ⟨(by rw [hf_120, mo_i1]; exact hI), (by rw [hf_120, mo_i1, hf_o26, mo_i1]; exact hKN), (by simp only [hf_120, hf_o26, mo_i1]; exact ⟨⟨fun q0 => by omega, fun q0 => ⟨fun q1 => by omega, fun q1 => (by omega)⟩⟩, ⟨fun q0 => by omega, fun q0 => ⟨fun q1 => by omega, fun q1 => (by omega)⟩⟩⟩)⟩⟩, by rw [ht]; exact hP, va_K.moved hW.alike hK, hD⟩, hS.F ht⟩) hS.2.2 dX12_terminal_133
          · have ic74 : z73.toInt = 6 := zi_nef rfl rfl c74
            refine lv_aload_n hx hb dX12_terminal_70 rfl (lv_at hl 0 rfl) ?_
            refine lv_bipush (v := (-5)) hx hb dX12_terminal_71 (by decide) ?_
            have hFc := tp_fr hD hS hA
            refine va_calli (va_runV (As := [.int (-5)]) (rest := []) ⟨hx, hb, hml, hown, hts⟩ (t_X12_told l dC dI _ κ Θ τ ν ρ L f30 hG hT h0 ((-5)) ht_h0) (cwV 1 hts gX12_terminal_X12_told rfl rfl rfl ⟨rfl, pd_X12_told⟩ ⟨Nat.le_of_ble_eq_true rfl, Nat.le_of_ble_eq_true rfl⟩) ⟨pz_blind, va_recv hK hP (ci := 12) (q0 := q71) rfl eq71, pz_pre hP hK hD hN⟩ rfl rfl hl.1 rfl (lv_room (Nat.le_of_ble_eq_true rfl)) dX12_terminal_73 ⟨Nat.le_of_ble_eq_true rfl, Nat.le_of_ble_eq_true rfl⟩) hS (fun q _ h => hFc q h) hFc (fun r121 f123 t H1 locs ht hvm hw122 hB hz1 hk1 hS => ?_)
            refine tn_4 hw122 (fun hT hF124 hw122r hw122p => ?_); clear hw122
            have hR := hR.then hF124 (by decide)
            have hP := hB.1; rw [ht] at hP; have hD := tp_ad f123 hD; clear hB hFc hz1 hk1; subst ht; generalize t.heap = H at hP hS ⊢
            have hw122pq : r121.toInt = (-5) := by rw [hw122p]; rfl
            have hf_125 : f123 (ρ h0 2) = .inl (κ 0, 12967, .inl g27) := (hF124 _ (by rw [tp_iu y1]; decide)).trans hf_33
            exact W.iret (v := r121) hx hb hr (fun t ht hW => ⟨⟨r121, f123, rfl, ⟨hT, hR, trivial, ⟨(by rw [hf_125, mo_i1]; exact hI), (by rw [hf_125, mo_i1, hf_o26, mo_i1]; exact hKN), (by simp only [hf_125, hf_o26, mo_i1]; exact ⟨⟨fun q0 => by omega, fun q0 => ⟨fun q1 => by omega, fun q1 => (by omega)⟩⟩, ⟨fun q0 => by omega, fun q0 => ⟨fun q1 => by omega, fun q1 => (by omega)⟩⟩⟩)⟩⟩, by rw [ht]; exact hP, va_K.moved hW.alike hK, hD⟩, hS.F ht⟩) hS.2.2 dX12_terminal_76
        · have ic69 : r67.toInt = 0 := zi_nef rfl rfl c69
          have p126 : ¬ ((0) ≤ (a4.toInt) ∧ (a4.toInt) ≤ (30)) := (tp_cond.no hw68p) (by omega)
          clear hw68r ic69
          refine lv_aload_n hx hb dX12_terminal_53 rfl (lv_at hl 0 rfl) ?_
          refine lv_iconst (v := (-1)) hx hb dX12_terminal_54 (by decide) ?_
          refine tpk_pos (tp_in hG ht_h0 (by decide)) g32 (fun q127 eq127 => ?_)
          have hFc := tp_fr hD hS hA
          refine va_calli (va_runV (As := [.int (-1)]) (rest := []) ⟨hx, hb, hml, hown, hts⟩ (t_X12_told l dC dI _ κ Θ τ ν ρ L f30 hG hT h0 ((-1)) ht_h0) (cwV 1 hts gX12_terminal_X12_told rfl rfl rfl ⟨rfl, pd_X12_told⟩ ⟨Nat.le_of_ble_eq_true rfl, Nat.le_of_ble_eq_true rfl⟩) ⟨pz_blind, va_recv hK hP (ci := 12) (q0 := q127) rfl eq127, pz_pre hP hK hD hN⟩ rfl rfl hl.1 rfl (lv_room (Nat.le_of_ble_eq_true rfl)) dX12_terminal_55 ⟨Nat.le_of_ble_eq_true rfl, Nat.le_of_ble_eq_true rfl⟩) hS (fun q _ h => hFc q h) hFc (fun r128 f130 t H1 locs ht hvm hw129 hB hz1 hk1 hS => ?_)
          refine tn_4 hw129 (fun hT hF131 hw129r hw129p => ?_); clear hw129
          have hR := hR.then hF131 (by decide)
          have hP := hB.1; rw [ht] at hP; have hD := tp_ad f130 hD; clear hB hFc hz1 hk1; subst ht; generalize t.heap = H at hP hS ⊢
          have hw129pq : r128.toInt = (-1) := by rw [hw129p]; rfl
          have hf_132 : f130 (ρ h0 2) = .inl (κ 0, 12967, .inl g27) := (hF131 _ (by rw [tp_iu y1]; decide)).trans hf_33
          exact W.iret (v := r128) hx hb hr (fun t ht hW => ⟨⟨r128, f130, rfl, ⟨hT, hR, trivial, ⟨(by rw [hf_132, mo_i1]; exact hI), (by rw [hf_132, mo_i1, hf_o26, mo_i1]; exact hKN), (by simp only [hf_132, hf_o26, mo_i1]; exact ⟨⟨fun q0 => by omega, fun q0 => ⟨fun q1 => by omega, fun q1 => (by omega)⟩⟩, ⟨fun q0 => by omega, fun q0 => ⟨fun q1 => by omega, fun q1 => (by omega)⟩⟩⟩)⟩⟩, by rw [ht]; exact hP, va_K.moved hW.alike hK, hD⟩, hS.F ht⟩) hS.2.2 dX12_terminal_58
set_option maxHeartbeats 4000000 in
set_option maxRecDepth 100000 in
theorem t_X12_ship (l : Launch) (dC : Nat → ClassId) (dI : Nat → Nat → Nat) (sz : Nat) (κ : Nat → ClassId) (Θ : Nat → Option Int) (τ ν : Nat → Nat) (ρ : Nat → Nat → Nat) (L : List Nat) (f : Nat → va_E) (hG : tp_G τ ν ρ L) (hT : tp_T (mo_O κ Θ) κ τ ν ρ f) (h0 : Nat) (v : Int32) (u : Int32) (a : Int32) (ht_h0 : τ h0 = 13) (hJ : mo_RI (-1) 0 (mo_R (mo_i (f (ρ h0 2))))) : Met l yX12_ship wqX12_ship ({ frames := 4, cells := 0, slots := 0, locals := 1200 }) (va_Pc [.ref h0, .int v, .int u, .int a] (pz_B dC dI (tp_K κ) (va_pl L f) sz)) (va_Qi (fun (r : Int32) (f1 : Nat → va_E) => tp_T (mo_O κ Θ) κ τ ν ρ f1 ∧ tp_F τ [13, 32] f f1 ∧ True ∧ mo_RI (-1) 0 (mo_R (mo_i (f1 (ρ h0 2)))) ∧ mo_KN (fun k => k = 1) (mo_R (mo_i (f (ρ h0 2)))) (mo_R (mo_i (f1 (ρ h0 2)))) ∧ ((((¬ ((1000 ≤ u.toInt ∧ u.toInt ≤ 200000) ∧ (1 ≤ a.toInt ∧ a.toInt ≤ 50))) → r.toInt = -1) ∧ (¬ (¬ ((1000 ≤ u.toInt ∧ u.toInt ≤ 200000) ∧ (1 ≤ a.toInt ∧ a.toInt ≤ 50))) → (((¬ (0 ≤ v.toInt ∧ v.toInt < (mo_R (mo_i (f (ρ h0 2)))) (0))) → r.toInt = -2) ∧ (¬ (¬ (0 ≤ v.toInt ∧ v.toInt < (mo_R (mo_i (f (ρ h0 2)))) (0))) → ((((mo_R (mo_i (f (ρ h0 2)))) (1) = 6) → r.toInt = -5) ∧ (¬ ((mo_R (mo_i (f (ρ h0 2)))) (1) = 6) → r.toInt = (mo_R (mo_i (f (ρ h0 2)))) (1)))))))) ∧ ((((¬ ((1000 ≤ u.toInt ∧ u.toInt ≤ 200000) ∧ (1 ≤ a.toInt ∧ a.toInt ≤ 50))) → (mo_R (mo_i (f1 (ρ h0 2)))) (1) = (mo_R (mo_i (f (ρ h0 2)))) (1)) ∧ (¬ (¬ ((1000 ≤ u.toInt ∧ u.toInt ≤ 200000) ∧ (1 ≤ a.toInt ∧ a.toInt ≤ 50))) → (((¬ (0 ≤ v.toInt ∧ v.toInt < (mo_R (mo_i (f (ρ h0 2)))) (0))) → (mo_R (mo_i (f1 (ρ h0 2)))) (1) = (mo_R (mo_i (f (ρ h0 2)))) (1)) ∧ (¬ (¬ (0 ≤ v.toInt ∧ v.toInt < (mo_R (mo_i (f (ρ h0 2)))) (0))) → ((((mo_R (mo_i (f (ρ h0 2)))) (1) = 6) → (mo_R (mo_i (f1 (ρ h0 2)))) (1) = (mo_R (mo_i (f (ρ h0 2)))) (1)) ∧ (¬ ((mo_R (mo_i (f (ρ h0 2)))) (1) = 6) → (mo_R (mo_i (f1 (ρ h0 2)))) (1) = (mo_R (mo_i (f (ρ h0 2)))) (1) + 1)))))))) (fun (f1 : Nat → va_E) (t : State) => pz_E dC dI (tp_K κ) (va_A (va_pl L f) sz) (va_pl L f1) t) (va_A (va_pl L f) sz)) 0 0 (va_A (va_pl L f) sz) := by
  refine Met.ofW (cc := cX12_ship) (maxL := 6) (ret := some .int) (by decide) rfl ?_
  intro p e s m args below meth c s₁ B hml hv
  obtain ⟨rfl, hsz, hP, hK, hD0, hN⟩ := hv
  have hx := B.exec
  have hb := B.bytes
  have hr := B.returns
  have hts := fun (w : Cond) (h : w ∈ WALL) => atoms_spec (ws := wqX12_ship) B.pre w (List.mem_cons_of_mem _ h)
  have hown : s.vm.findClass RX12 = some m.cls := findClass_of_methodNamed B.named
  have hlocks := B.notSynchronized
  subst hsz
  have hD := hD0.self (sz := s.heap.size)
  generalize hAe : va_A (va_pl L f) s.heap.size = A at hD ⊢
  have hA : ∀ q : Nat, s.heap.size ≤ q → A q := fun q h => by rw [← hAe]; exact Or.inr h
  have hS : va_S A s.heap s.heap [] := va_S.rf
  have hR : tp_F τ [13, 32] f f := tp_F.rf
  have hl := lv_entry ([.ref h0, .int v, .int u, .int a]) (n := 6) (Nat.le_of_ble_eq_true rfl)
  rw [lg_entry_eq]
  generalize (lg_sl ([.ref h0, .int v, .int u, .int a]) ++ List.replicate (6 - (lg_sl ([.ref h0, .int v, .int u, .int a])).length) Slot.unset).toArray = ls at hl ⊢
  have hl : lv_has ls 6 [(0, .ref h0), (1, .int v), (2, .int u), (3, .int a)] := hl
  refine tgk_13 hG ht_h0 (fun y1 y2 y3 y4 y5 y6 y7 y8 y9 y10 y11 y12 y13 y14 y15 y16 y17 y18 y19 y20 y21 y22 y23 y24 y25 => ?_)
  refine tpk_32 hT y1 (fun g27 hf_o26 => ?_)
  have hI : mo_RI (-1) 0 (mo_R g27) := by have q9 := hJ; rw [hf_o26, mo_i1] at q9; exact q9
  have hKN : mo_KN (fun k => k = 1) (mo_R g27) (mo_R g27) := mo_KN.rf
  refine lv_aload_n hx hb dX12_ship_0 rfl (lv_at hl 0 rfl) ?_
  refine lv_iconst (v := 0) hx hb dX12_ship_1 (by decide) ?_
  refine tpk_13 hT ht_h0 (fun o28_x0 o28_x1 o28_x7 o28_x9 o28_x10 o28_x11 o28_x12 o28_x13 o28_x14 o28_x15 o28_x16 o28_x17 o28_x18 o28_x19 o28_x20 o28_x22 o28_x25 o28_x28 o28_x29 o28_x32 o28_x33 o28_x34 o28_x35 o28_x36 o28_x37 o28_x38 o28_x47 o28_x48 hf_o28 ro28_0 ro28_1 ro28_2 ro28_3 ro28_4 ro28_5 ro28_6 ro28_7 ro28_8 ro28_9 ro28_10 ro28_11 ro28_12 ro28_13 ro28_14 => ?_)
  refine tpk_pos (tp_in hG ht_h0 (by decide)) hf_o28 (fun q29 eq29 => ?_)
  refine va_put (D := (dC, dI)) (ci := 12) (v := .int 0) (ty := .int) (C := RX12) (T := TX12) (N := 53) hx hb hts hfX12 tyX12 tyX12_ok nmX12 hown hK hP hD hS q29 eq29 rfl 0 (by decide) (hts (.fieldLink RX12 91 "ColdShipsModel" "thrown" "I") wa_209) (fun _ h9 => h9) rfl (tyX12_ok 0 (by decide)) rfl rfl (Nat.le_of_ble_eq_true rfl) dX12_ship_2 (tp_k (.inr (12, [.int 0, .int o28_x1, .ref (ρ h0 2), .ref (ρ h0 3), .ref (ρ h0 4), .ref (ρ h0 5), .ref (ρ h0 6), .int o28_x7, .ref (ρ h0 8), .int o28_x9, .int o28_x10, .int o28_x11, .int o28_x12, .long o28_x13, .int o28_x14, .int o28_x15, .int o28_x16, .int o28_x17, .int o28_x18, .int o28_x19, .int o28_x20, .ref (ρ h0 21), .int o28_x22, .ref (ρ h0 23), .ref (ρ h0 24), .int o28_x25, .ref (ρ h0 26), .ref (ρ h0 27), .int o28_x28, .int o28_x29, .ref (ρ h0 30), .ref (ρ h0 31), .int o28_x32, .long o28_x33, .long o28_x34, .long o28_x35, .int o28_x36, .int o28_x37, .int o28_x38, .ref (ρ h0 39), .ref (ρ h0 40), .ref (ρ h0 41), .ref (ρ h0 42), .ref (ρ h0 43), .ref (ρ h0 44), .ref (ρ h0 45), .ref (ρ h0 46), .int o28_x47, .int o28_x48, .ref (ρ h0 49), .ref (ρ h0 50), .ref (ρ h0 51), .ref (ρ h0 52)])) hD (tp_in hG ht_h0 (by decide)) eq29 (fun f30 H locs hP hD hS g32 k31 => ?_))
  have hT := hT.up ht_h0 g32 k31 ⟨_, _, _, _, _, _, _, _, _, _, _, _, _, _, _, _, _, _, _, _, _, _, _, _, _, _, _, _, rfl, ro28_0, ro28_1, ro28_2, ro28_3, ro28_4, ro28_5, ro28_6, ro28_7, ro28_8, ro28_9, ro28_10, ro28_11, ro28_12, ro28_13, ro28_14⟩
  have hR := hR.up ht_h0 (by decide) k31
  refine lv_iload_n hx hb dX12_ship_5 rfl (lv_at hl 2 rfl) ?_
  refine lv_i2l hx hb dX12_ship_6 rfl ?_
  refine lv_ldc2 (own := RX12) (v := 1000) hx hb hown (hts (.constantLong RX12 122 (1000)) wa_271) dX12_ship_7 ?_
  refine lv_ldc2 (own := RX12) (v := 200000) hx hb hown (hts (.constantLong RX12 124 (200000)) wa_272) dX12_ship_10 ?_
  have hf_33 : f30 (ρ h0 2) = .inl (κ 0, 12967, .inl g27) := (k31 _ (tp_ne y1 ht_h0 (by decide))).trans hf_o26
  refine pz_calli (va_runS (As := [.long u.toInt64, .long 1000, .long 200000]) (rest := []) ⟨hx, hb, hml, hown, hts⟩ (t_X12_in l dC dI _ u.toInt64 (1000) (200000) (u.toInt) (1000) (200000) (Int32.toInt_toInt64 u) rfl rfl) (va_cwS 3 hts gX12_ship_X12_in rfl rfl rfl pd_X12_in ⟨Nat.le_of_ble_eq_true rfl, Nat.le_of_ble_eq_true rfl⟩) ⟨pz_blind, pz_pre pz_P0 (hK.sub (tys' := []) [] rfl) (pz_D0 (A := fun _ => True)) hN⟩ rfl rfl hl.1 rfl (lv_room (Nat.le_of_ble_eq_true rfl)) dX12_ship_13 ⟨Nat.le_of_ble_eq_true rfl, Nat.le_of_ble_eq_true rfl⟩) (fun r34 hw35 => ?_)
  obtain ⟨hw35r, hw35p⟩ := hw35
  refine lv_if_eq (tgt := 31) hx hb dX12_ship_16 (by decide) (fun c36 => ?_) (fun c36 => ?_)
  · have ic36 : r34.toInt = 0 := zi_eq rfl rfl c36
    have p37 : ¬ ((1000) ≤ (u.toInt) ∧ (u.toInt) ≤ (200000)) := (tp_cond.no hw35p) (by omega)
    clear hw35r ic36
    refine lv_aload_n hx hb dX12_ship_31 rfl (lv_at hl 0 rfl) ?_
    refine lv_iconst (v := (-1)) hx hb dX12_ship_32 (by decide) ?_
    refine tpk_pos (tp_in hG ht_h0 (by decide)) g32 (fun q38 eq38 => ?_)
    have hFc := tp_fr hD hS hA
    refine va_calli (va_runV (As := [.int (-1)]) (rest := []) ⟨hx, hb, hml, hown, hts⟩ (t_X12_told l dC dI _ κ Θ τ ν ρ L f30 hG hT h0 ((-1)) ht_h0) (cwV 1 hts gX12_ship_X12_told rfl rfl rfl ⟨rfl, pd_X12_told⟩ ⟨Nat.le_of_ble_eq_true rfl, Nat.le_of_ble_eq_true rfl⟩) ⟨pz_blind, va_recv hK hP (ci := 12) (q0 := q38) rfl eq38, pz_pre hP hK hD hN⟩ rfl rfl hl.1 rfl (lv_room (Nat.le_of_ble_eq_true rfl)) dX12_ship_33 ⟨Nat.le_of_ble_eq_true rfl, Nat.le_of_ble_eq_true rfl⟩) hS (fun q _ h => hFc q h) hFc (fun r39 f41 t H1 locs ht hvm hw40 hB hz1 hk1 hS => ?_)
    refine tn_4 hw40 (fun hT hF42 hw40r hw40p => ?_); clear hw40
    have hR := hR.then hF42 (by decide)
    have hP := hB.1; rw [ht] at hP; have hD := tp_ad f41 hD; clear hB hFc hz1 hk1; subst ht; generalize t.heap = H at hP hS ⊢
    have hw40pq : r39.toInt = (-1) := by rw [hw40p]; rfl
    have hf_43 : f41 (ρ h0 2) = .inl (κ 0, 12967, .inl g27) := (hF42 _ (by rw [tp_iu y1]; decide)).trans hf_33
    exact W.iret (v := r39) hx hb hr (fun t ht hW => ⟨⟨r39, f41, rfl, ⟨hT, hR, trivial, ⟨(by rw [hf_43, mo_i1]; exact hI), (by rw [hf_43, mo_i1, hf_o26, mo_i1]; exact hKN), (by simp only [hf_43, hf_o26, mo_i1]; exact ⟨⟨fun q0 => by omega, fun q0 => ⟨fun q1 => by omega, fun q1 => ⟨fun q2 => by omega, fun q2 => (by omega)⟩⟩⟩, ⟨fun q0 => by omega, fun q0 => ⟨fun q1 => by omega, fun q1 => ⟨fun q2 => by omega, fun q2 => (by omega)⟩⟩⟩⟩)⟩⟩, by rw [ht]; exact hP, va_K.moved hW.alike hK, hD⟩, hS.F ht⟩) hS.2.2 dX12_ship_36
  · have ic36 : r34.toInt ≠ 0 := zi_eqf rfl rfl c36
    replace ic36 : 1 ≤ r34.toInt := by omega
    have p44 : (1000) ≤ (u.toInt) ∧ (u.toInt) ≤ (200000) := (tp_cond.yes hw35p) (by omega)
    clear hw35r ic36
    refine lv_iload_n hx hb dX12_ship_19 rfl (lv_at hl 3 rfl) ?_
    refine lv_i2l hx hb dX12_ship_20 rfl ?_
    refine lv_lconst (v := 1) hx hb dX12_ship_21 (by decide) ?_
    refine lv_ldc2 (own := RX12) (v := 50) hx hb hown (hts (.constantLong RX12 126 (50)) wa_273) dX12_ship_22 ?_
    refine pz_calli (va_runS (As := [.long a.toInt64, .long 1, .long 50]) (rest := []) ⟨hx, hb, hml, hown, hts⟩ (t_X12_in l dC dI _ a.toInt64 (1) (50) (a.toInt) (1) (50) (Int32.toInt_toInt64 a) rfl rfl) (va_cwS 3 hts gX12_ship_X12_in rfl rfl rfl pd_X12_in ⟨Nat.le_of_ble_eq_true rfl, Nat.le_of_ble_eq_true rfl⟩) ⟨pz_blind, pz_pre pz_P0 (hK.sub (tys' := []) [] rfl) (pz_D0 (A := fun _ => True)) hN⟩ rfl rfl hl.1 rfl (lv_room (Nat.le_of_ble_eq_true rfl)) dX12_ship_25 ⟨Nat.le_of_ble_eq_true rfl, Nat.le_of_ble_eq_true rfl⟩) (fun r45 hw46 => ?_)
    obtain ⟨hw46r, hw46p⟩ := hw46
    refine lv_if_ne (tgt := 37) hx hb dX12_ship_28 (by decide) (fun c47 => ?_) (fun c47 => ?_)
    · have ic47 : r45.toInt ≠ 0 := zi_ne rfl rfl c47
      replace ic47 : 1 ≤ r45.toInt := by omega
      have p48 : (1) ≤ (a.toInt) ∧ (a.toInt) ≤ (50) := (tp_cond.yes hw46p) (by omega)
      clear hw46r ic47
      refine lv_aload_n hx hb dX12_ship_37 rfl (lv_at hl 0 rfl) ?_
      refine lv_iload_n hx hb dX12_ship_38 rfl (lv_at hl 1 rfl) ?_
      refine tpk_pos (tp_in hG ht_h0 (by decide)) g32 (fun q49 eq49 => ?_)
      refine pz_calli (va_runV (As := [.int v]) (rest := []) ⟨hx, hb, hml, hown, hts⟩ (t_X12_isTerminal l dC dI _ κ Θ τ ν ρ L f30 hG hT h0 v (-1) 0 ht_h0 (by omega) (by rw [hf_33, mo_i1]; exact hI)) (cwV 1 hts gX12_ship_X12_isTerminal rfl rfl rfl ⟨rfl, pd_X12_isTerminal⟩ ⟨Nat.le_of_ble_eq_true rfl, Nat.le_of_ble_eq_true rfl⟩) ⟨pz_blind, va_recv hK hP (ci := 12) (q0 := q49) rfl eq49, pz_pre hP hK hD hN⟩ rfl rfl hl.1 rfl (lv_room (Nat.le_of_ble_eq_true rfl)) dX12_ship_39 ⟨Nat.le_of_ble_eq_true rfl, Nat.le_of_ble_eq_true rfl⟩) (fun r50 hw51 => ?_)
      obtain ⟨hw51r, hw51p⟩ := hw51
      have := hI.k0
      rw [hf_33, mo_i1] at hw51p
      refine lv_if_ne (tgt := 52) hx hb dX12_ship_42 (by decide) (fun c52 => ?_) (fun c52 => ?_)
      · have ic52 : r50.toInt ≠ 0 := zi_ne rfl rfl c52
        replace ic52 : 1 ≤ r50.toInt := by omega
        have p53 : 0 ≤ v.toInt ∧ v.toInt < mo_R g27 0 := (tp_cond.yes hw51p) (by omega)
        clear hw51r ic52
        refine lv_aload_n hx hb dX12_ship_52 rfl (lv_at hl 0 rfl) ?_
        refine va_get (D := (dC, dI)) (ci := 12) (v := .ref (ρ h0 2)) (C := RX12) (T := TX12) (N := 53) hx hb hts hfX12 hown hK hP q49 eq49 rfl 2 (by decide) (hts (.fieldLink RX12 7 "ColdShipsModel" "row" "[I") wa_148) (fun _ h9 => h9) rfl dX12_ship_53 ?_
        refine lv_iconst (v := 1) hx hb dX12_ship_56 (by decide) ?_
        refine tpk_pos (tp_in hG y1 (by decide)) hf_33 (fun q54 eq54 => ?_)
        refine va_iald hx hb hK hP q54 0 eq54 rfl (vp_in_iff.mpr ⟨by decide, by decide⟩) dX12_ship_57 ?_
        refine lv_topi (fun z55 ez55 => ?_)
        have jz55 : z55.toInt = mo_R g27 (1) := mo_rd ez55 (show (1 : Int32).toInt = (1) from by decide)
        have kz55 := hI.k1
        refine lv_bipush (v := 6) hx hb dX12_ship_58 (by decide) ?_
        refine lv_icmp_ne (tgt := 70) hx hb dX12_ship_60 (by decide) (fun c56 => ?_) (fun c56 => ?_)
        · have ic56 : z55.toInt ≠ 6 := zi_ne rfl rfl c56
          replace ic56 : z55.toInt ≤ 5 := by omega
          refine lv_aload_n hx hb dX12_ship_70 rfl (lv_at hl 0 rfl) ?_
          refine va_get (D := (dC, dI)) (ci := 12) (v := .ref (ρ h0 2)) (C := RX12) (T := TX12) (N := 53) hx hb hts hfX12 hown hK hP q49 eq49 rfl 2 (by decide) (hts (.fieldLink RX12 7 "ColdShipsModel" "row" "[I") wa_148) (fun _ h9 => h9) rfl dX12_ship_71 ?_
          refine lv_iconst (v := 1) hx hb dX12_ship_74 (by decide) ?_
          refine va_iald hx hb hK hP q54 0 eq54 rfl (vp_in_iff.mpr ⟨by decide, by decide⟩) dX12_ship_75 ?_
          refine lv_topi (fun z57 ez57 => ?_)
          have jz57 : z57.toInt = mo_R g27 (1) := mo_rd ez57 (show (1 : Int32).toInt = (1) from by decide)
          have kz57 := hI.k1
          have vz57 : z57.toInt = z55.toInt := jz57.trans (jz55).symm
          refine pz_calli (va_runS (As := [.int z57]) (rest := []) ⟨hx, hb, hml, hown, hts⟩ (t_X12_shipAt l dC dI _ z57 (z57.toInt) (by omega) rfl) (va_cwS 1 hts gX12_ship_X12_shipAt rfl rfl rfl pd_X12_shipAt ⟨Nat.le_of_ble_eq_true rfl, Nat.le_of_ble_eq_true rfl⟩) ⟨pz_blind, pz_pre pz_P0 (hK.sub (tys' := []) [] rfl) (pz_D0 (A := fun _ => True)) hN⟩ rfl rfl hl.1 rfl (lv_room (Nat.le_of_ble_eq_true rfl)) dX12_ship_76 ⟨Nat.le_of_ble_eq_true rfl, Nat.le_of_ble_eq_true rfl⟩) (fun r58 hw59 => ?_)
          obtain ⟨hw59r, hw59p⟩ := hw59
          refine lv_istore (lv' := [(4, .int r58), (0, .ref h0), (1, .int v), (2, .int u), (3, .int a)]) hx hb dX12_ship_79 hl (by decide) rfl (fun ls hl => ?_)
          refine lv_iconst (v := 0) hx hb dX12_ship_81 (by decide) ?_
          refine lv_istore (lv' := [(5, .int 0), (4, .int r58), (0, .ref h0), (1, .int v), (2, .int u), (3, .int a)]) hx hb dX12_ship_82 hl (by decide) rfl (fun ls hl => ?_)
          refine pz_loop (fun n0 H locs ls => ∃ f61 : Nat → va_E, ∃ w60 : Int32, n0 = (84 - (w60.toInt)).toNat ∧ tp_T (mo_O κ Θ) κ τ ν ρ f61 ∧ tp_F τ [13, 32] f f61 ∧ ((mo_RI (-1) 0 (mo_R (mo_i (f61 (ρ h0 2)))))) ∧ ((mo_KN (fun k => k = 1) (mo_R g27) (mo_R (mo_i (f61 (ρ h0 2)))))) ∧ (((mo_R (mo_i (f61 (ρ h0 2)))) (1) = z55.toInt)) ∧ ((∀ j, 0 ≤ j → j < (w60.toInt) → (mo_R (mo_i (f61 (ρ h0 2)))) (547 + 84 * z55.toInt + j) = 0)) ∧ (0 ≤ w60.toInt ∧ w60.toInt ≤ 84) ∧ va_P (dC, dI) vwCl (va_pl L f61) H ∧ va_D A (va_pl L f61) ∧ va_S A s.heap H locs ∧ lv_has ls 6 [(5, .int w60), (4, .int r58), (0, .ref h0), (1, .int v), (2, .int u), (3, .int a)]) ?_ _ _ _ _ ⟨f30, 0, rfl, hT, hR, (by rw [hf_33, mo_i1]; exact hI), (by rw [hf_33, mo_i1]; exact hKN), (by rw [hf_33, mo_i1]; have : (0 : Int32).toInt = 0 := rfl; omega), (fun j j1 j2 => absurd j2 (by have : (0 : Int32).toInt = 0 := rfl; omega)), (by have : (0 : Int32).toInt = 0 := rfl; omega), hP, hD, hS, lv_sub hl [0, 1, 2, 3, 4, 5] rfl⟩
          intro n0 H locs ls hI ih63
          refine Exists.elim hI (fun f61 hE90 => Exists.elim hE90 (fun w60 hE91 => tn_12 hE91 (fun hn64 hT hR hJ jf65 jf66 jf67 rw60 hP hD hS hl => ?_)))
          clear hE91 hE90 hI
          refine tpk_32 hT y1 (fun g69 hf_o68 => ?_)
          have hI : mo_RI (-1) 0 (mo_R g69) := by have q9 := hJ; rw [hf_o68, mo_i1] at q9; exact q9
          rw [hf_o68, mo_i1] at jf65
          have hKN := jf65
          rw [hf_o68, mo_i1] at jf66
          rw [hf_o68, mo_i1] at jf67
          refine lv_iload hx hb dX12_ship_84 (lv_at hl 0 rfl) ?_
          refine lv_bipush (v := 84) hx hb dX12_ship_86 (by decide) ?_
          refine lv_icmp_ge (tgt := 108) hx hb dX12_ship_88 (by decide) (fun c70 => ?_) (fun c70 => ?_)
          · have ic70 : w60.toInt ≥ 84 := zi_ge rfl rfl c70
            have hz : ∀ j, 0 ≤ j → j < 84 → j ≠ 0 → j ≠ 6 → j ≠ 7 → j ≠ 8 → mo_R g69 (547 + 84 * z55.toInt + j) = 0 := fun j j1 j2 _ _ _ _ => jf67 j j1 (by omega)
            refine lv_aload_n hx hb dX12_ship_108 rfl (lv_at hl 2 rfl) ?_
            refine tpk_13 hT ht_h0 (fun o71_x0 o71_x1 o71_x7 o71_x9 o71_x10 o71_x11 o71_x12 o71_x13 o71_x14 o71_x15 o71_x16 o71_x17 o71_x18 o71_x19 o71_x20 o71_x22 o71_x25 o71_x28 o71_x29 o71_x32 o71_x33 o71_x34 o71_x35 o71_x36 o71_x37 o71_x38 o71_x47 o71_x48 hf_o71 ro71_0 ro71_1 ro71_2 ro71_3 ro71_4 ro71_5 ro71_6 ro71_7 ro71_8 ro71_9 ro71_10 ro71_11 ro71_12 ro71_13 ro71_14 => ?_)
            refine tpk_pos (tp_in hG ht_h0 (by decide)) hf_o71 (fun q72 eq72 => ?_)
            refine va_get (D := (dC, dI)) (ci := 12) (v := .ref (ρ h0 2)) (C := RX12) (T := TX12) (N := 53) hx hb hts hfX12 hown hK hP q72 eq72 rfl 2 (by decide) (hts (.fieldLink RX12 7 "ColdShipsModel" "row" "[I") wa_148) (fun _ h9 => h9) rfl dX12_ship_109 ?_
            refine lv_iload hx hb dX12_ship_112 (lv_at hl 1 rfl) ?_
            refine lv_iconst (v := 0) hx hb dX12_ship_114 (by decide) ?_
            refine lv_iadd hx hb dX12_ship_115 ?_
            refine lv_topi (fun z73 ez73 => ?_)
            have iz73 : z73.toInt = r58.toInt + 0 := zi_add ez73 rfl rfl (by omega) (by omega)
            refine lv_iload_n hx hb dX12_ship_116 rfl (lv_at hl 3 rfl) ?_
            refine tpk_pos (tp_in hG y1 (by decide)) hf_o68 (fun q74 eq74 => ?_)
            refine va_iast hx hb hK hP hD hS q74 0 eq74 rfl (vp_in_iff.mpr ⟨by omega, by omega⟩) dX12_ship_117 (tp_k (.inl (κ 0, 12967, .inl (upd g69 z73.toNatClampNeg v))) hD (tp_in hG y1 (by decide)) eq74 (fun f75 H locs hP hD hS g77 k76 => ?_))
            have hT := hT.up y1 g77 k76 tp_o32
            have hR := hR.up y1 (by decide) k76
            have hU : mo_U (mo_R g69) (mo_R (upd g69 z73.toNatClampNeg v)) (547 + 84 * z55.toInt + 0) (v.toInt) := mo_up (by omega) (rfl : v.toInt = _) (by omega)
            generalize (upd g69 z73.toNatClampNeg v) = g78 at g77 hU
            have hI := mo_w_snew hI hU z55.toInt 0 (by omega) (by omega) (by omega)
            have hKN := hKN.up hU (Or.inl (by omega))
            have pn79 : mo_R g78 (1) = z55.toInt := (hU.ne (by omega) (by omega)).trans jf66
            have pn80 : mo_R g78 (547 + 84 * z55.toInt + 0) = v.toInt := hU.eq (by omega)
            have hz : ∀ j, 0 ≤ j → j < 84 → j ≠ 0 → j ≠ 6 → j ≠ 7 → j ≠ 8 → mo_R g78 (547 + 84 * z55.toInt + j) = 0 := fun j j1 j2 j3 j4 j5 j6 => (hU.ne (by omega) (by omega)).trans (hz j j1 j2 j3 j4 j5 j6)
            refine lv_aload_n hx hb dX12_ship_118 rfl (lv_at hl 2 rfl) ?_
            have hf_81 : f75 h0 = .inr (12, [.int o71_x0, .int o71_x1, .ref (ρ h0 2), .ref (ρ h0 3), .ref (ρ h0 4), .ref (ρ h0 5), .ref (ρ h0 6), .int o71_x7, .ref (ρ h0 8), .int o71_x9, .int o71_x10, .int o71_x11, .int o71_x12, .long o71_x13, .int o71_x14, .int o71_x15, .int o71_x16, .int o71_x17, .int o71_x18, .int o71_x19, .int o71_x20, .ref (ρ h0 21), .int o71_x22, .ref (ρ h0 23), .ref (ρ h0 24), .int o71_x25, .ref (ρ h0 26), .ref (ρ h0 27), .int o71_x28, .int o71_x29, .ref (ρ h0 30), .ref (ρ h0 31), .int o71_x32, .long o71_x33, .long o71_x34, .long o71_x35, .int o71_x36, .int o71_x37, .int o71_x38, .ref (ρ h0 39), .ref (ρ h0 40), .ref (ρ h0 41), .ref (ρ h0 42), .ref (ρ h0 43), .ref (ρ h0 44), .ref (ρ h0 45), .ref (ρ h0 46), .int o71_x47, .int o71_x48, .ref (ρ h0 49), .ref (ρ h0 50), .ref (ρ h0 51), .ref (ρ h0 52)]) := (k76 _ (tp_ne ht_h0 y1 (by decide))).trans hf_o71
            refine tpk_pos (tp_in hG ht_h0 (by decide)) hf_81 (fun q82 eq82 => ?_)
            refine va_get (D := (dC, dI)) (ci := 12) (v := .ref (ρ h0 2)) (C := RX12) (T := TX12) (N := 53) hx hb hts hfX12 hown hK hP q82 eq82 rfl 2 (by decide) (hts (.fieldLink RX12 7 "ColdShipsModel" "row" "[I") wa_148) (fun _ h9 => h9) rfl dX12_ship_119 ?_
            refine lv_iload hx hb dX12_ship_122 (lv_at hl 1 rfl) ?_
            refine lv_bipush (v := 6) hx hb dX12_ship_124 (by decide) ?_
            refine lv_iadd hx hb dX12_ship_126 ?_
            refine lv_topi (fun z83 ez83 => ?_)
            have iz83 : z83.toInt = r58.toInt + 6 := zi_add ez83 rfl rfl (by omega) (by omega)
            refine lv_sipush (v := 1800) hx hb dX12_ship_127 (by decide) ?_
            refine tpk_pos (tp_in hG y1 (by decide)) g77 (fun q84 eq84 => ?_)
            refine va_iast hx hb hK hP hD hS q84 0 eq84 rfl (vp_in_iff.mpr ⟨by omega, by omega⟩) dX12_ship_130 (tp_k (.inl (κ 0, 12967, .inl (upd g78 z83.toNatClampNeg (1800 : Int32)))) hD (tp_in hG y1 (by decide)) eq84 (fun f85 H locs hP hD hS g87 k86 => ?_))
            have hT := hT.up y1 g87 k86 tp_o32
            have hR := hR.up y1 (by decide) k86
            have hU : mo_U (mo_R g78) (mo_R (upd g78 z83.toNatClampNeg (1800 : Int32))) (547 + 84 * z55.toInt + 6) (1800) := mo_up (by omega) (show (1800 : Int32).toInt = 1800 from rfl) (by omega)
            generalize (upd g78 z83.toNatClampNeg (1800 : Int32)) = g88 at g87 hU
            have hI := mo_w_snew hI hU z55.toInt 6 (by omega) (by omega) (by omega)
            have hKN := hKN.up hU (Or.inl (by omega))
            have pn89 : mo_R g88 (1) = z55.toInt := (hU.ne (by omega) (by omega)).trans pn79
            have pn90 : mo_R g88 (547 + 84 * z55.toInt + 0) = v.toInt := (hU.ne (by omega) (by omega)).trans pn80
            have hz : ∀ j, 0 ≤ j → j < 84 → j ≠ 0 → j ≠ 6 → j ≠ 7 → j ≠ 8 → mo_R g88 (547 + 84 * z55.toInt + j) = 0 := fun j j1 j2 j3 j4 j5 j6 => (hU.ne (by omega) (by omega)).trans (hz j j1 j2 j3 j4 j5 j6)
            refine lv_aload_n hx hb dX12_ship_131 rfl (lv_at hl 2 rfl) ?_
            have hf_91 : f85 h0 = .inr (12, [.int o71_x0, .int o71_x1, .ref (ρ h0 2), .ref (ρ h0 3), .ref (ρ h0 4), .ref (ρ h0 5), .ref (ρ h0 6), .int o71_x7, .ref (ρ h0 8), .int o71_x9, .int o71_x10, .int o71_x11, .int o71_x12, .long o71_x13, .int o71_x14, .int o71_x15, .int o71_x16, .int o71_x17, .int o71_x18, .int o71_x19, .int o71_x20, .ref (ρ h0 21), .int o71_x22, .ref (ρ h0 23), .ref (ρ h0 24), .int o71_x25, .ref (ρ h0 26), .ref (ρ h0 27), .int o71_x28, .int o71_x29, .ref (ρ h0 30), .ref (ρ h0 31), .int o71_x32, .long o71_x33, .long o71_x34, .long o71_x35, .int o71_x36, .int o71_x37, .int o71_x38, .ref (ρ h0 39), .ref (ρ h0 40), .ref (ρ h0 41), .ref (ρ h0 42), .ref (ρ h0 43), .ref (ρ h0 44), .ref (ρ h0 45), .ref (ρ h0 46), .int o71_x47, .int o71_x48, .ref (ρ h0 49), .ref (ρ h0 50), .ref (ρ h0 51), .ref (ρ h0 52)]) := (k86 _ (tp_ne ht_h0 y1 (by decide))).trans hf_81
            refine tpk_pos (tp_in hG ht_h0 (by decide)) hf_91 (fun q92 eq92 => ?_)
            refine va_get (D := (dC, dI)) (ci := 12) (v := .ref (ρ h0 2)) (C := RX12) (T := TX12) (N := 53) hx hb hts hfX12 hown hK hP q92 eq92 rfl 2 (by decide) (hts (.fieldLink RX12 7 "ColdShipsModel" "row" "[I") wa_148) (fun _ h9 => h9) rfl dX12_ship_132 ?_
            refine lv_iload hx hb dX12_ship_135 (lv_at hl 1 rfl) ?_
            refine lv_bipush (v := 7) hx hb dX12_ship_137 (by decide) ?_
            refine lv_iadd hx hb dX12_ship_139 ?_
            refine lv_topi (fun z93 ez93 => ?_)
            have iz93 : z93.toInt = r58.toInt + 7 := zi_add ez93 rfl rfl (by omega) (by omega)
            refine lv_iload_n hx hb dX12_ship_140 rfl (lv_at hl 4 rfl) ?_
            refine tpk_pos (tp_in hG y1 (by decide)) g87 (fun q94 eq94 => ?_)
            refine va_iast hx hb hK hP hD hS q94 0 eq94 rfl (vp_in_iff.mpr ⟨by omega, by omega⟩) dX12_ship_141 (tp_k (.inl (κ 0, 12967, .inl (upd g88 z93.toNatClampNeg u))) hD (tp_in hG y1 (by decide)) eq94 (fun f95 H locs hP hD hS g97 k96 => ?_))
            have hT := hT.up y1 g97 k96 tp_o32
            have hR := hR.up y1 (by decide) k96
            have hU : mo_U (mo_R g88) (mo_R (upd g88 z93.toNatClampNeg u)) (547 + 84 * z55.toInt + 7) (u.toInt) := mo_up (by omega) (rfl : u.toInt = _) (by omega)
            generalize (upd g88 z93.toNatClampNeg u) = g98 at g97 hU
            have hI := mo_w_snew hI hU z55.toInt 7 (by omega) (by omega) (by omega)
            have hKN := hKN.up hU (Or.inl (by omega))
            have pn99 : mo_R g98 (1) = z55.toInt := (hU.ne (by omega) (by omega)).trans pn89
            have pn100 : mo_R g98 (547 + 84 * z55.toInt + 0) = v.toInt := (hU.ne (by omega) (by omega)).trans pn90
            have pn101 : mo_R g98 (547 + 84 * z55.toInt + 7) = u.toInt := hU.eq (by omega)
            have hz : ∀ j, 0 ≤ j → j < 84 → j ≠ 0 → j ≠ 6 → j ≠ 7 → j ≠ 8 → mo_R g98 (547 + 84 * z55.toInt + j) = 0 := fun j j1 j2 j3 j4 j5 j6 => (hU.ne (by omega) (by omega)).trans (hz j j1 j2 j3 j4 j5 j6)
            refine lv_aload_n hx hb dX12_ship_142 rfl (lv_at hl 2 rfl) ?_
            have hf_102 : f95 h0 = .inr (12, [.int o71_x0, .int o71_x1, .ref (ρ h0 2), .ref (ρ h0 3), .ref (ρ h0 4), .ref (ρ h0 5), .ref (ρ h0 6), .int o71_x7, .ref (ρ h0 8), .int o71_x9, .int o71_x10, .int o71_x11, .int o71_x12, .long o71_x13, .int o71_x14, .int o71_x15, .int o71_x16, .int o71_x17, .int o71_x18, .int o71_x19, .int o71_x20, .ref (ρ h0 21), .int o71_x22, .ref (ρ h0 23), .ref (ρ h0 24), .int o71_x25, .ref (ρ h0 26), .ref (ρ h0 27), .int o71_x28, .int o71_x29, .ref (ρ h0 30), .ref (ρ h0 31), .int o71_x32, .long o71_x33, .long o71_x34, .long o71_x35, .int o71_x36, .int o71_x37, .int o71_x38, .ref (ρ h0 39), .ref (ρ h0 40), .ref (ρ h0 41), .ref (ρ h0 42), .ref (ρ h0 43), .ref (ρ h0 44), .ref (ρ h0 45), .ref (ρ h0 46), .int o71_x47, .int o71_x48, .ref (ρ h0 49), .ref (ρ h0 50), .ref (ρ h0 51), .ref (ρ h0 52)]) := (k96 _ (tp_ne ht_h0 y1 (by decide))).trans hf_91
            refine tpk_pos (tp_in hG ht_h0 (by decide)) hf_102 (fun q103 eq103 => ?_)
            refine va_get (D := (dC, dI)) (ci := 12) (v := .ref (ρ h0 2)) (C := RX12) (T := TX12) (N := 53) hx hb hts hfX12 hown hK hP q103 eq103 rfl 2 (by decide) (hts (.fieldLink RX12 7 "ColdShipsModel" "row" "[I") wa_148) (fun _ h9 => h9) rfl dX12_ship_143 ?_
            refine lv_iload hx hb dX12_ship_146 (lv_at hl 1 rfl) ?_
            refine lv_bipush (v := 8) hx hb dX12_ship_148 (by decide) ?_
            refine lv_iadd hx hb dX12_ship_150 ?_
            refine lv_topi (fun z104 ez104 => ?_)
            have iz104 : z104.toInt = r58.toInt + 8 := zi_add ez104 rfl rfl (by omega) (by omega)
            refine lv_iload_n hx hb dX12_ship_151 rfl (lv_at hl 5 rfl) ?_
            refine tpk_pos (tp_in hG y1 (by decide)) g97 (fun q105 eq105 => ?_)
            refine va_iast hx hb hK hP hD hS q105 0 eq105 rfl (vp_in_iff.mpr ⟨by omega, by omega⟩) dX12_ship_152 (tp_k (.inl (κ 0, 12967, .inl (upd g98 z104.toNatClampNeg a))) hD (tp_in hG y1 (by decide)) eq105 (fun f106 H locs hP hD hS g108 k107 => ?_))
            have hT := hT.up y1 g108 k107 tp_o32
            have hR := hR.up y1 (by decide) k107
            have hU : mo_U (mo_R g98) (mo_R (upd g98 z104.toNatClampNeg a)) (547 + 84 * z55.toInt + 8) (a.toInt) := mo_up (by omega) (rfl : a.toInt = _) (by omega)
            generalize (upd g98 z104.toNatClampNeg a) = g109 at g108 hU
            have hI := mo_w_snew hI hU z55.toInt 8 (by omega) (by omega) (by omega)
            have hKN := hKN.up hU (Or.inl (by omega))
            have pn110 : mo_R g109 (1) = z55.toInt := (hU.ne (by omega) (by omega)).trans pn99
            have pn111 : mo_R g109 (547 + 84 * z55.toInt + 0) = v.toInt := (hU.ne (by omega) (by omega)).trans pn100
            have pn112 : mo_R g109 (547 + 84 * z55.toInt + 7) = u.toInt := (hU.ne (by omega) (by omega)).trans pn101
            have pn113 : mo_R g109 (547 + 84 * z55.toInt + 8) = a.toInt := hU.eq (by omega)
            have hz : ∀ j, 0 ≤ j → j < 84 → j ≠ 0 → j ≠ 6 → j ≠ 7 → j ≠ 8 → mo_R g109 (547 + 84 * z55.toInt + j) = 0 := fun j j1 j2 j3 j4 j5 j6 => (hU.ne (by omega) (by omega)).trans (hz j j1 j2 j3 j4 j5 j6)
            refine lv_aload_n hx hb dX12_ship_153 rfl (lv_at hl 2 rfl) ?_
            have hf_114 : f106 h0 = .inr (12, [.int o71_x0, .int o71_x1, .ref (ρ h0 2), .ref (ρ h0 3), .ref (ρ h0 4), .ref (ρ h0 5), .ref (ρ h0 6), .int o71_x7, .ref (ρ h0 8), .int o71_x9, .int o71_x10, .int o71_x11, .int o71_x12, .long o71_x13, .int o71_x14, .int o71_x15, .int o71_x16, .int o71_x17, .int o71_x18, .int o71_x19, .int o71_x20, .ref (ρ h0 21), .int o71_x22, .ref (ρ h0 23), .ref (ρ h0 24), .int o71_x25, .ref (ρ h0 26), .ref (ρ h0 27), .int o71_x28, .int o71_x29, .ref (ρ h0 30), .ref (ρ h0 31), .int o71_x32, .long o71_x33, .long o71_x34, .long o71_x35, .int o71_x36, .int o71_x37, .int o71_x38, .ref (ρ h0 39), .ref (ρ h0 40), .ref (ρ h0 41), .ref (ρ h0 42), .ref (ρ h0 43), .ref (ρ h0 44), .ref (ρ h0 45), .ref (ρ h0 46), .int o71_x47, .int o71_x48, .ref (ρ h0 49), .ref (ρ h0 50), .ref (ρ h0 51), .ref (ρ h0 52)]) := (k107 _ (tp_ne ht_h0 y1 (by decide))).trans hf_102
            refine tpk_pos (tp_in hG ht_h0 (by decide)) hf_114 (fun q115 eq115 => ?_)
            refine va_get (D := (dC, dI)) (ci := 12) (v := .ref (ρ h0 2)) (C := RX12) (T := TX12) (N := 53) hx hb hts hfX12 hown hK hP q115 eq115 rfl 2 (by decide) (hts (.fieldLink RX12 7 "ColdShipsModel" "row" "[I") wa_148) (fun _ h9 => h9) rfl dX12_ship_154 ?_
            refine lv_iconst (v := 1) hx hb dX12_ship_157 (by decide) ?_
            refine lv_dup2_11 hx hb dX12_ship_158 rfl rfl ?_
            refine tpk_pos (tp_in hG y1 (by decide)) g108 (fun q116 eq116 => ?_)
            refine va_iald hx hb hK hP q116 0 eq116 rfl (vp_in_iff.mpr ⟨by decide, by decide⟩) dX12_ship_159 ?_
            refine lv_topi (fun z117 ez117 => ?_)
            have jz117 : z117.toInt = mo_R g109 (1) := mo_rd ez117 (show (1 : Int32).toInt = (1) from by decide)
            have kz117 := hI.k1
            have vz117 : z117.toInt = z55.toInt := jz117.trans pn110
            refine lv_iconst (v := 1) hx hb dX12_ship_160 (by decide) ?_
            refine lv_iadd hx hb dX12_ship_161 ?_
            refine lv_topi (fun z118 ez118 => ?_)
            have iz118 : z118.toInt = z117.toInt + 1 := zi_add ez118 rfl rfl (by omega) (by omega)
            refine va_iast hx hb hK hP hD hS q116 0 eq116 rfl (vp_in_iff.mpr ⟨by decide, by decide⟩) dX12_ship_162 (tp_k (.inl (κ 0, 12967, .inl (upd g109 (1 : Int32).toNatClampNeg z118))) hD (tp_in hG y1 (by decide)) eq116 (fun f119 H locs hP hD hS g121 k120 => ?_))
            have hT := hT.up y1 g121 k120 tp_o32
            have hR := hR.up y1 (by decide) k120
            have hU : mo_U (mo_R g109) (mo_R (upd g109 (1 : Int32).toNatClampNeg z118)) (1) (z118.toInt) := mo_up (show (1 : Int32).toInt = (1) from by decide) (rfl : z118.toInt = _) (by omega)
            generalize (upd g109 (1 : Int32).toNatClampNeg z118) = g122 at g121 hU
            have hI := mo_w_nS hI hU (z55.toInt) rfl pn110 (by omega) (by omega) (by omega) (by omega) (by omega) hz
            have hKN := hKN.up hU (Or.inr (by show (1) = 1; omega))
            have pn123 : mo_R g122 (547 + 84 * z55.toInt + 0) = v.toInt := (hU.ne (by omega) (by omega)).trans pn111
            have pn124 : mo_R g122 (547 + 84 * z55.toInt + 7) = u.toInt := (hU.ne (by omega) (by omega)).trans pn112
            have pn125 : mo_R g122 (547 + 84 * z55.toInt + 8) = a.toInt := (hU.ne (by omega) (by omega)).trans pn113
            have pn126 : mo_R g122 (1) = z118.toInt := hU.eq (by omega)
            refine lv_aload_n hx hb dX12_ship_163 rfl (lv_at hl 2 rfl) ?_
            refine lv_aload_n hx hb dX12_ship_164 rfl (lv_at hl 2 rfl) ?_
            have hf_127 : f119 h0 = .inr (12, [.int o71_x0, .int o71_x1, .ref (ρ h0 2), .ref (ρ h0 3), .ref (ρ h0 4), .ref (ρ h0 5), .ref (ρ h0 6), .int o71_x7, .ref (ρ h0 8), .int o71_x9, .int o71_x10, .int o71_x11, .int o71_x12, .long o71_x13, .int o71_x14, .int o71_x15, .int o71_x16, .int o71_x17, .int o71_x18, .int o71_x19, .int o71_x20, .ref (ρ h0 21), .int o71_x22, .ref (ρ h0 23), .ref (ρ h0 24), .int o71_x25, .ref (ρ h0 26), .ref (ρ h0 27), .int o71_x28, .int o71_x29, .ref (ρ h0 30), .ref (ρ h0 31), .int o71_x32, .long o71_x33, .long o71_x34, .long o71_x35, .int o71_x36, .int o71_x37, .int o71_x38, .ref (ρ h0 39), .ref (ρ h0 40), .ref (ρ h0 41), .ref (ρ h0 42), .ref (ρ h0 43), .ref (ρ h0 44), .ref (ρ h0 45), .ref (ρ h0 46), .int o71_x47, .int o71_x48, .ref (ρ h0 49), .ref (ρ h0 50), .ref (ρ h0 51), .ref (ρ h0 52)]) := (k120 _ (tp_ne ht_h0 y1 (by decide))).trans hf_114
            refine tpk_pos (tp_in hG ht_h0 (by decide)) hf_127 (fun q128 eq128 => ?_)
            refine va_get (D := (dC, dI)) (ci := 12) (v := .ref (ρ h0 2)) (C := RX12) (T := TX12) (N := 53) hx hb hts hfX12 hown hK hP q128 eq128 rfl 2 (by decide) (hts (.fieldLink RX12 7 "ColdShipsModel" "row" "[I") wa_148) (fun _ h9 => h9) rfl dX12_ship_165 ?_
            refine lv_iconst (v := 1) hx hb dX12_ship_168 (by decide) ?_
            refine tpk_pos (tp_in hG y1 (by decide)) g121 (fun q129 eq129 => ?_)
            refine va_iald hx hb hK hP q129 0 eq129 rfl (vp_in_iff.mpr ⟨by decide, by decide⟩) dX12_ship_169 ?_
            refine lv_topi (fun z130 ez130 => ?_)
            have jz130 : z130.toInt = mo_R g122 (1) := mo_rd ez130 (show (1 : Int32).toInt = (1) from by decide)
            have kz130 := hI.k1
            have vz130 : z130.toInt = z118.toInt := jz130.trans pn126
            refine lv_iconst (v := 1) hx hb dX12_ship_170 (by decide) ?_
            refine lv_isub hx hb dX12_ship_171 ?_
            refine lv_topi (fun z131 ez131 => ?_)
            have iz131 : z131.toInt = z130.toInt - 1 := zi_sub ez131 rfl rfl (by omega) (by omega)
            have hFc := tp_fr hD hS hA
            refine va_calli (va_runV (As := [.int z131]) (rest := []) ⟨hx, hb, hml, hown, hts⟩ (t_X12_told l dC dI _ κ Θ τ ν ρ L f119 hG hT h0 z131 ht_h0) (cwV 1 hts gX12_ship_X12_told rfl rfl rfl ⟨rfl, pd_X12_told⟩ ⟨Nat.le_of_ble_eq_true rfl, Nat.le_of_ble_eq_true rfl⟩) ⟨pz_blind, va_recv hK hP (ci := 12) (q0 := q128) rfl eq128, pz_pre hP hK hD hN⟩ rfl rfl hl.1 rfl (lv_room (Nat.le_of_ble_eq_true rfl)) dX12_ship_172 ⟨Nat.le_of_ble_eq_true rfl, Nat.le_of_ble_eq_true rfl⟩) hS (fun q _ h => hFc q h) hFc (fun r132 f134 t H1 locs ht hvm hw133 hB hz1 hk1 hS => ?_)
            refine tn_4 hw133 (fun hT hF135 hw133r hw133p => ?_); clear hw133
            have hR := hR.then hF135 (by decide)
            have hP := hB.1; rw [ht] at hP; have hD := tp_ad f134 hD; clear hB hFc hz1 hk1; subst ht; generalize t.heap = H at hP hS ⊢
            have hw133pq : r132.toInt = z131.toInt := by rw [hw133p]
            have hf_136 : f134 (ρ h0 2) = .inl (κ 0, 12967, .inl g122) := (hF135 _ (by rw [tp_iu y1]; decide)).trans g121
            exact W.iret (v := r132) hx hb hr (fun t ht hW => ⟨⟨r132, f134, rfl, ⟨hT, hR, trivial, ⟨(by rw [hf_136, mo_i1]; exact hI), (by rw [hf_136, mo_i1, hf_o26, mo_i1]; exact hKN), (by simp only [hf_136, hf_o26, mo_i1]; exact ⟨⟨fun q0 => by omega, fun q0 => ⟨fun q1 => by omega, fun q1 => ⟨fun q2 => by omega, fun q2 => (by omega)⟩⟩⟩, ⟨fun q0 => by omega, fun q0 => ⟨fun q1 => by omega, fun q1 => ⟨fun q2 => by omega, fun q2 => (by omega)⟩⟩⟩⟩)⟩⟩, by rw [ht]; exact hP, va_K.moved hW.alike hK, hD⟩, hS.F ht⟩) hS.2.2 dX12_ship_175
          · have ic70 : w60.toInt < 84 := zi_gef rfl rfl c70
            refine lv_aload_n hx hb dX12_ship_91 rfl (lv_at hl 2 rfl) ?_
            refine tpk_13 hT ht_h0 (fun o137_x0 o137_x1 o137_x7 o137_x9 o137_x10 o137_x11 o137_x12 o137_x13 o137_x14 o137_x15 o137_x16 o137_x17 o137_x18 o137_x19 o137_x20 o137_x22 o137_x25 o137_x28 o137_x29 o137_x32 o137_x33 o137_x34 o137_x35 o137_x36 o137_x37 o137_x38 o137_x47 o137_x48 hf_o137 ro137_0 ro137_1 ro137_2 ro137_3 ro137_4 ro137_5 ro137_6 ro137_7 ro137_8 ro137_9 ro137_10 ro137_11 ro137_12 ro137_13 ro137_14 => ?_)
            refine tpk_pos (tp_in hG ht_h0 (by decide)) hf_o137 (fun q138 eq138 => ?_)
            refine va_get (D := (dC, dI)) (ci := 12) (v := .ref (ρ h0 2)) (C := RX12) (T := TX12) (N := 53) hx hb hts hfX12 hown hK hP q138 eq138 rfl 2 (by decide) (hts (.fieldLink RX12 7 "ColdShipsModel" "row" "[I") wa_148) (fun _ h9 => h9) rfl dX12_ship_92 ?_
            refine lv_iload hx hb dX12_ship_95 (lv_at hl 1 rfl) ?_
            refine lv_iload hx hb dX12_ship_97 (lv_at hl 0 rfl) ?_
            refine lv_iadd hx hb dX12_ship_99 ?_
            refine lv_topi (fun z139 ez139 => ?_)
            have iz139 : z139.toInt = r58.toInt + w60.toInt := zi_add ez139 rfl rfl (by omega) (by omega)
            refine lv_iconst (v := 0) hx hb dX12_ship_100 (by decide) ?_
            refine tpk_pos (tp_in hG y1 (by decide)) hf_o68 (fun q140 eq140 => ?_)
            refine va_iast hx hb hK hP hD hS q140 0 eq140 rfl (vp_in_iff.mpr ⟨by omega, by omega⟩) dX12_ship_101 (tp_k (.inl (κ 0, 12967, .inl (upd g69 z139.toNatClampNeg (0 : Int32)))) hD (tp_in hG y1 (by decide)) eq140 (fun f141 H locs hP hD hS g143 k142 => ?_))
            have hT := hT.up y1 g143 k142 tp_o32
            have hR := hR.up y1 (by decide) k142
            have hU : mo_U (mo_R g69) (mo_R (upd g69 z139.toNatClampNeg (0 : Int32))) (547 + 84 * z55.toInt + 0 + w60.toInt) (0) := mo_up (by omega) (show (0 : Int32).toInt = 0 from rfl) (by omega)
            generalize (upd g69 z139.toNatClampNeg (0 : Int32)) = g144 at g143 hU
            have hI := mo_w_snew hI hU z55.toInt (0 + w60.toInt) (by omega) (by omega) (by omega)
            have hKN := hKN.up hU (Or.inl (by omega))
            have pn145 : mo_R g144 (1) = z55.toInt := (hU.ne (by omega) (by omega)).trans jf66
            have pn146 : mo_R g144 (547 + 84 * z55.toInt + 0 + w60.toInt) = 0 := hU.eq (by omega)
            obtain ⟨z147, ez147⟩ : ∃ y : Int32, y = w60 + 1 := ⟨_, rfl⟩
            refine lv_iinc (v := z147) (lv' := [(5, .int z147), (4, .int r58), (0, .ref h0), (1, .int v), (2, .int u), (3, .int a)]) hx hb dX12_ship_102 hl (k := 0) rfl (by rw [ez147]; rfl) (by decide) rfl (fun ls hl => ?_)
            have iz147 : z147.toInt = w60.toInt + 1 := zi_add ez147 rfl rfl (by omega) (by omega)
            refine lv_goto (tgt := 84) hx hb dX12_ship_105 (by decide) ?_
            exact ih63 _ _ _ _ (by rw [hn64]; omega) ⟨f141, z147, rfl, hT, hR, (by rw [g143, mo_i1]; exact hI), (by rw [g143, mo_i1]; exact hKN), (by rw [g143, mo_i1]; omega), (by rw [g143, mo_i1]; intro j j1 j2; rcases hU.at (547 + 84 * z55.toInt + j) (by omega) with ⟨z0, a0⟩ | ⟨z0, a0⟩ <;> first | exact a0 | (rw [a0]; exact jf67 j j1 (by omega))), (by omega), hP, hD, hS, lv_sub hl [0, 1, 2, 3, 4, 5] rfl⟩
        · have ic56 : z55.toInt = 6 := zi_nef rfl rfl c56
          refine lv_aload_n hx hb dX12_ship_63 rfl (lv_at hl 0 rfl) ?_
          refine lv_bipush (v := (-5)) hx hb dX12_ship_64 (by decide) ?_
          have hFc := tp_fr hD hS hA
          refine va_calli (va_runV (As := [.int (-5)]) (rest := []) ⟨hx, hb, hml, hown, hts⟩ (t_X12_told l dC dI _ κ Θ τ ν ρ L f30 hG hT h0 ((-5)) ht_h0) (cwV 1 hts gX12_ship_X12_told rfl rfl rfl ⟨rfl, pd_X12_told⟩ ⟨Nat.le_of_ble_eq_true rfl, Nat.le_of_ble_eq_true rfl⟩) ⟨pz_blind, va_recv hK hP (ci := 12) (q0 := q49) rfl eq49, pz_pre hP hK hD hN⟩ rfl rfl hl.1 rfl (lv_room (Nat.le_of_ble_eq_true rfl)) dX12_ship_66 ⟨Nat.le_of_ble_eq_true rfl, Nat.le_of_ble_eq_true rfl⟩) hS (fun q _ h => hFc q h) hFc (fun r148 f150 t H1 locs ht hvm hw149 hB hz1 hk1 hS => ?_)
          refine tn_4 hw149 (fun hT hF151 hw149r hw149p => ?_); clear hw149
          have hR := hR.then hF151 (by decide)
          have hP := hB.1; rw [ht] at hP; have hD := tp_ad f150 hD; clear hB hFc hz1 hk1; subst ht; generalize t.heap = H at hP hS ⊢
          have hw149pq : r148.toInt = (-5) := by rw [hw149p]; rfl
          have hf_152 : f150 (ρ h0 2) = .inl (κ 0, 12967, .inl g27) := (hF151 _ (by rw [tp_iu y1]; decide)).trans hf_33
          exact W.iret (v := r148) hx hb hr (fun t ht hW => ⟨⟨r148, f150, rfl, ⟨hT, hR, trivial, ⟨(by rw [hf_152, mo_i1]; exact hI), (by rw [hf_152, mo_i1, hf_o26, mo_i1]; exact hKN), (by simp only [hf_152, hf_o26, mo_i1]; exact ⟨⟨fun q0 => by omega, fun q0 => ⟨fun q1 => by omega, fun q1 => ⟨fun q2 => by omega, fun q2 => (by omega)⟩⟩⟩, ⟨fun q0 => by omega, fun q0 => ⟨fun q1 => by omega, fun q1 => ⟨fun q2 => by omega, fun q2 => (by omega)⟩⟩⟩⟩)⟩⟩, by rw [ht]; exact hP, va_K.moved hW.alike hK, hD⟩, hS.F ht⟩) hS.2.2 dX12_ship_69
      · have ic52 : r50.toInt = 0 := zi_nef rfl rfl c52
        have p153 : ¬ (0 ≤ v.toInt ∧ v.toInt < mo_R g27 0) := (tp_cond.no hw51p) (by omega)
        clear hw51r ic52
        refine lv_aload_n hx hb dX12_ship_45 rfl (lv_at hl 0 rfl) ?_
        refine lv_bipush (v := (-2)) hx hb dX12_ship_46 (by decide) ?_
        have hFc := tp_fr hD hS hA
        refine va_calli (va_runV (As := [.int (-2)]) (rest := []) ⟨hx, hb, hml, hown, hts⟩ (t_X12_told l dC dI _ κ Θ τ ν ρ L f30 hG hT h0 ((-2)) ht_h0) (cwV 1 hts gX12_ship_X12_told rfl rfl rfl ⟨rfl, pd_X12_told⟩ ⟨Nat.le_of_ble_eq_true rfl, Nat.le_of_ble_eq_true rfl⟩) ⟨pz_blind, va_recv hK hP (ci := 12) (q0 := q49) rfl eq49, pz_pre hP hK hD hN⟩ rfl rfl hl.1 rfl (lv_room (Nat.le_of_ble_eq_true rfl)) dX12_ship_48 ⟨Nat.le_of_ble_eq_true rfl, Nat.le_of_ble_eq_true rfl⟩) hS (fun q _ h => hFc q h) hFc (fun r154 f156 t H1 locs ht hvm hw155 hB hz1 hk1 hS => ?_)
        refine tn_4 hw155 (fun hT hF157 hw155r hw155p => ?_); clear hw155
        have hR := hR.then hF157 (by decide)
        have hP := hB.1; rw [ht] at hP; have hD := tp_ad f156 hD; clear hB hFc hz1 hk1; subst ht; generalize t.heap = H at hP hS ⊢
        have hw155pq : r154.toInt = (-2) := by rw [hw155p]; rfl
        have hf_158 : f156 (ρ h0 2) = .inl (κ 0, 12967, .inl g27) := (hF157 _ (by rw [tp_iu y1]; decide)).trans hf_33
        exact W.iret (v := r154) hx hb hr (fun t ht hW => ⟨⟨r154, f156, rfl, ⟨hT, hR, trivial, ⟨(by rw [hf_158, mo_i1]; exact hI), (by rw [hf_158, mo_i1, hf_o26, mo_i1]; exact hKN), (by simp only [hf_158, hf_o26, mo_i1]; exact ⟨⟨fun q0 => by omega, fun q0 => ⟨fun q1 => by omega, fun q1 => ⟨fun q2 => by omega, fun q2 => (by omega)⟩⟩⟩, ⟨fun q0 => by omega, fun q0 => ⟨fun q1 => by omega, fun q1 => ⟨fun q2 => by omega, fun q2 => (by omega)⟩⟩⟩⟩)⟩⟩, by rw [ht]; exact hP, va_K.moved hW.alike hK, hD⟩, hS.F ht⟩) hS.2.2 dX12_ship_51
    · have ic47 : r45.toInt = 0 := zi_nef rfl rfl c47
      have p159 : ¬ ((1) ≤ (a.toInt) ∧ (a.toInt) ≤ (50)) := (tp_cond.no hw46p) (by omega)
      clear hw46r ic47
      refine lv_aload_n hx hb dX12_ship_31 rfl (lv_at hl 0 rfl) ?_
      refine lv_iconst (v := (-1)) hx hb dX12_ship_32 (by decide) ?_
      refine tpk_pos (tp_in hG ht_h0 (by decide)) g32 (fun q160 eq160 => ?_)
      have hFc := tp_fr hD hS hA
      refine va_calli (va_runV (As := [.int (-1)]) (rest := []) ⟨hx, hb, hml, hown, hts⟩ (t_X12_told l dC dI _ κ Θ τ ν ρ L f30 hG hT h0 ((-1)) ht_h0) (cwV 1 hts gX12_ship_X12_told rfl rfl rfl ⟨rfl, pd_X12_told⟩ ⟨Nat.le_of_ble_eq_true rfl, Nat.le_of_ble_eq_true rfl⟩) ⟨pz_blind, va_recv hK hP (ci := 12) (q0 := q160) rfl eq160, pz_pre hP hK hD hN⟩ rfl rfl hl.1 rfl (lv_room (Nat.le_of_ble_eq_true rfl)) dX12_ship_33 ⟨Nat.le_of_ble_eq_true rfl, Nat.le_of_ble_eq_true rfl⟩) hS (fun q _ h => hFc q h) hFc (fun r161 f163 t H1 locs ht hvm hw162 hB hz1 hk1 hS => ?_)
      refine tn_4 hw162 (fun hT hF164 hw162r hw162p => ?_); clear hw162
      have hR := hR.then hF164 (by decide)
      have hP := hB.1; rw [ht] at hP; have hD := tp_ad f163 hD; clear hB hFc hz1 hk1; subst ht; generalize t.heap = H at hP hS ⊢
      have hw162pq : r161.toInt = (-1) := by rw [hw162p]; rfl
      have hf_165 : f163 (ρ h0 2) = .inl (κ 0, 12967, .inl g27) := (hF164 _ (by rw [tp_iu y1]; decide)).trans hf_33
      exact W.iret (v := r161) hx hb hr (fun t ht hW => ⟨⟨r161, f163, rfl, ⟨hT, hR, trivial, ⟨(by rw [hf_165, mo_i1]; exact hI), (by rw [hf_165, mo_i1, hf_o26, mo_i1]; exact hKN), (by simp only [hf_165, hf_o26, mo_i1]; exact ⟨⟨fun q0 => by omega, fun q0 => ⟨fun q1 => by omega, fun q1 => ⟨fun q2 => by omega, fun q2 => (by omega)⟩⟩⟩, ⟨fun q0 => by omega, fun q0 => ⟨fun q1 => by omega, fun q1 => ⟨fun q2 => by omega, fun q2 => (by omega)⟩⟩⟩⟩)⟩⟩, by rw [ht]; exact hP, va_K.moved hW.alike hK, hD⟩, hS.F ht⟩) hS.2.2 dX12_ship_36
set_option maxHeartbeats 4000000 in
set_option maxRecDepth 100000 in
theorem t_X12_way (l : Launch) (dC : Nat → ClassId) (dI : Nat → Nat → Nat) (sz : Nat) (κ : Nat → ClassId) (Θ : Nat → Option Int) (τ ν : Nat → Nat) (ρ : Nat → Nat → Nat) (L : List Nat) (f : Nat → va_E) (hG : tp_G τ ν ρ L) (hT : tp_T (mo_O κ Θ) κ τ ν ρ f) (h0 : Nat) (v : Int32) (u : Int32) (a : Int32) (a4 : Int32) (ht_h0 : τ h0 = 13) (hJ : mo_RI (-1) 0 (mo_R (mo_i (f (ρ h0 2))))) : Met l yX12_way wqX12_way ({ frames := 4, cells := 0, slots := 0, locals := 1200 }) (va_Pc [.ref h0, .int v, .int u, .int a, .int a4] (pz_B dC dI (tp_K κ) (va_pl L f) sz)) (va_Qi (fun (r : Int32) (f1 : Nat → va_E) => tp_T (mo_O κ Θ) κ τ ν ρ f1 ∧ tp_F τ [13, 32] f f1 ∧ True ∧ mo_RI (-1) 0 (mo_R (mo_i (f1 (ρ h0 2)))) ∧ mo_KN (fun k => False) (mo_R (mo_i (f (ρ h0 2)))) (mo_R (mo_i (f1 (ρ h0 2)))) ∧ ((((¬ (1 ≤ a.toInt ∧ a.toInt ≤ 400)) → r.toInt = -1) ∧ (¬ (¬ (1 ≤ a.toInt ∧ a.toInt ≤ 400)) → (((¬ ((0 ≤ v.toInt ∧ v.toInt < (mo_R (mo_i (f (ρ h0 2)))) (0)) ∧ (0 ≤ u.toInt ∧ u.toInt < (mo_R (mo_i (f (ρ h0 2)))) (0)))) → r.toInt = -2) ∧ (¬ (¬ ((0 ≤ v.toInt ∧ v.toInt < (mo_R (mo_i (f (ρ h0 2)))) (0)) ∧ (0 ≤ u.toInt ∧ u.toInt < (mo_R (mo_i (f (ρ h0 2)))) (0)))) → (((v.toInt = u.toInt) → r.toInt = -3) ∧ (¬ (v.toInt = u.toInt) → r.toInt = 0)))))))) (fun (f1 : Nat → va_E) (t : State) => pz_E dC dI (tp_K κ) (va_A (va_pl L f) sz) (va_pl L f1) t) (va_A (va_pl L f) sz)) 0 0 (va_A (va_pl L f) sz) := by
  refine Met.ofW (cc := cX12_way) (maxL := 7) (ret := some .int) (by decide) rfl ?_
  intro p e s m args below meth c s₁ B hml hv
  obtain ⟨rfl, hsz, hP, hK, hD0, hN⟩ := hv
  have hx := B.exec
  have hb := B.bytes
  have hr := B.returns
  have hts := fun (w : Cond) (h : w ∈ WALL) => atoms_spec (ws := wqX12_way) B.pre w (List.mem_cons_of_mem _ h)
  have hown : s.vm.findClass RX12 = some m.cls := findClass_of_methodNamed B.named
  have hlocks := B.notSynchronized
  subst hsz
  have hD := hD0.self (sz := s.heap.size)
  generalize hAe : va_A (va_pl L f) s.heap.size = A at hD ⊢
  have hA : ∀ q : Nat, s.heap.size ≤ q → A q := fun q h => by rw [← hAe]; exact Or.inr h
  have hS : va_S A s.heap s.heap [] := va_S.rf
  have hR : tp_F τ [13, 32] f f := tp_F.rf
  have hl := lv_entry ([.ref h0, .int v, .int u, .int a, .int a4]) (n := 7) (Nat.le_of_ble_eq_true rfl)
  rw [lg_entry_eq]
  generalize (lg_sl ([.ref h0, .int v, .int u, .int a, .int a4]) ++ List.replicate (7 - (lg_sl ([.ref h0, .int v, .int u, .int a, .int a4])).length) Slot.unset).toArray = ls at hl ⊢
  have hl : lv_has ls 7 [(0, .ref h0), (1, .int v), (2, .int u), (3, .int a), (4, .int a4)] := hl
  refine tgk_13 hG ht_h0 (fun y1 y2 y3 y4 y5 y6 y7 y8 y9 y10 y11 y12 y13 y14 y15 y16 y17 y18 y19 y20 y21 y22 y23 y24 y25 => ?_)
  refine tpk_32 hT y1 (fun g27 hf_o26 => ?_)
  have hI : mo_RI (-1) 0 (mo_R g27) := by have q9 := hJ; rw [hf_o26, mo_i1] at q9; exact q9
  have hKN : mo_KN (fun k => False) (mo_R g27) (mo_R g27) := mo_KN.rf
  refine lv_aload_n hx hb dX12_way_0 rfl (lv_at hl 0 rfl) ?_
  refine lv_iconst (v := 0) hx hb dX12_way_1 (by decide) ?_
  refine tpk_13 hT ht_h0 (fun o28_x0 o28_x1 o28_x7 o28_x9 o28_x10 o28_x11 o28_x12 o28_x13 o28_x14 o28_x15 o28_x16 o28_x17 o28_x18 o28_x19 o28_x20 o28_x22 o28_x25 o28_x28 o28_x29 o28_x32 o28_x33 o28_x34 o28_x35 o28_x36 o28_x37 o28_x38 o28_x47 o28_x48 hf_o28 ro28_0 ro28_1 ro28_2 ro28_3 ro28_4 ro28_5 ro28_6 ro28_7 ro28_8 ro28_9 ro28_10 ro28_11 ro28_12 ro28_13 ro28_14 => ?_)
  refine tpk_pos (tp_in hG ht_h0 (by decide)) hf_o28 (fun q29 eq29 => ?_)
  refine va_put (D := (dC, dI)) (ci := 12) (v := .int 0) (ty := .int) (C := RX12) (T := TX12) (N := 53) hx hb hts hfX12 tyX12 tyX12_ok nmX12 hown hK hP hD hS q29 eq29 rfl 0 (by decide) (hts (.fieldLink RX12 91 "ColdShipsModel" "thrown" "I") wa_209) (fun _ h9 => h9) rfl (tyX12_ok 0 (by decide)) rfl rfl (Nat.le_of_ble_eq_true rfl) dX12_way_2 (tp_k (.inr (12, [.int 0, .int o28_x1, .ref (ρ h0 2), .ref (ρ h0 3), .ref (ρ h0 4), .ref (ρ h0 5), .ref (ρ h0 6), .int o28_x7, .ref (ρ h0 8), .int o28_x9, .int o28_x10, .int o28_x11, .int o28_x12, .long o28_x13, .int o28_x14, .int o28_x15, .int o28_x16, .int o28_x17, .int o28_x18, .int o28_x19, .int o28_x20, .ref (ρ h0 21), .int o28_x22, .ref (ρ h0 23), .ref (ρ h0 24), .int o28_x25, .ref (ρ h0 26), .ref (ρ h0 27), .int o28_x28, .int o28_x29, .ref (ρ h0 30), .ref (ρ h0 31), .int o28_x32, .long o28_x33, .long o28_x34, .long o28_x35, .int o28_x36, .int o28_x37, .int o28_x38, .ref (ρ h0 39), .ref (ρ h0 40), .ref (ρ h0 41), .ref (ρ h0 42), .ref (ρ h0 43), .ref (ρ h0 44), .ref (ρ h0 45), .ref (ρ h0 46), .int o28_x47, .int o28_x48, .ref (ρ h0 49), .ref (ρ h0 50), .ref (ρ h0 51), .ref (ρ h0 52)])) hD (tp_in hG ht_h0 (by decide)) eq29 (fun f30 H locs hP hD hS g32 k31 => ?_))
  have hT := hT.up ht_h0 g32 k31 ⟨_, _, _, _, _, _, _, _, _, _, _, _, _, _, _, _, _, _, _, _, _, _, _, _, _, _, _, _, rfl, ro28_0, ro28_1, ro28_2, ro28_3, ro28_4, ro28_5, ro28_6, ro28_7, ro28_8, ro28_9, ro28_10, ro28_11, ro28_12, ro28_13, ro28_14⟩
  have hR := hR.up ht_h0 (by decide) k31
  refine lv_iload_n hx hb dX12_way_5 rfl (lv_at hl 3 rfl) ?_
  refine lv_i2l hx hb dX12_way_6 rfl ?_
  refine lv_lconst (v := 1) hx hb dX12_way_7 (by decide) ?_
  refine lv_ldc2 (own := RX12) (v := 400) hx hb hown (hts (.constantLong RX12 135 (400)) wa_293) dX12_way_8 ?_
  have hf_33 : f30 (ρ h0 2) = .inl (κ 0, 12967, .inl g27) := (k31 _ (tp_ne y1 ht_h0 (by decide))).trans hf_o26
  refine pz_calli (va_runS (As := [.long a.toInt64, .long 1, .long 400]) (rest := []) ⟨hx, hb, hml, hown, hts⟩ (t_X12_in l dC dI _ a.toInt64 (1) (400) (a.toInt) (1) (400) (Int32.toInt_toInt64 a) rfl rfl) (va_cwS 3 hts gX12_way_X12_in rfl rfl rfl pd_X12_in ⟨Nat.le_of_ble_eq_true rfl, Nat.le_of_ble_eq_true rfl⟩) ⟨pz_blind, pz_pre pz_P0 (hK.sub (tys' := []) [] rfl) (pz_D0 (A := fun _ => True)) hN⟩ rfl rfl hl.1 rfl (lv_room (Nat.le_of_ble_eq_true rfl)) dX12_way_11 ⟨Nat.le_of_ble_eq_true rfl, Nat.le_of_ble_eq_true rfl⟩) (fun r34 hw35 => ?_)
  obtain ⟨hw35r, hw35p⟩ := hw35
  refine lv_if_ne (tgt := 23) hx hb dX12_way_14 (by decide) (fun c36 => ?_) (fun c36 => ?_)
  · have ic36 : r34.toInt ≠ 0 := zi_ne rfl rfl c36
    replace ic36 : 1 ≤ r34.toInt := by omega
    have p37 : (1) ≤ (a.toInt) ∧ (a.toInt) ≤ (400) := (tp_cond.yes hw35p) (by omega)
    clear hw35r ic36
    refine lv_aload_n hx hb dX12_way_23 rfl (lv_at hl 0 rfl) ?_
    refine lv_iload_n hx hb dX12_way_24 rfl (lv_at hl 1 rfl) ?_
    refine tpk_pos (tp_in hG ht_h0 (by decide)) g32 (fun q38 eq38 => ?_)
    refine pz_calli (va_runV (As := [.int v]) (rest := []) ⟨hx, hb, hml, hown, hts⟩ (t_X12_isTerminal l dC dI _ κ Θ τ ν ρ L f30 hG hT h0 v (-1) 0 ht_h0 (by omega) (by rw [hf_33, mo_i1]; exact hI)) (cwV 1 hts gX12_way_X12_isTerminal rfl rfl rfl ⟨rfl, pd_X12_isTerminal⟩ ⟨Nat.le_of_ble_eq_true rfl, Nat.le_of_ble_eq_true rfl⟩) ⟨pz_blind, va_recv hK hP (ci := 12) (q0 := q38) rfl eq38, pz_pre hP hK hD hN⟩ rfl rfl hl.1 rfl (lv_room (Nat.le_of_ble_eq_true rfl)) dX12_way_25 ⟨Nat.le_of_ble_eq_true rfl, Nat.le_of_ble_eq_true rfl⟩) (fun r39 hw40 => ?_)
    obtain ⟨hw40r, hw40p⟩ := hw40
    have := hI.k0
    rw [hf_33, mo_i1] at hw40p
    refine lv_if_eq (tgt := 39) hx hb dX12_way_28 (by decide) (fun c41 => ?_) (fun c41 => ?_)
    · have ic41 : r39.toInt = 0 := zi_eq rfl rfl c41
      have p42 : ¬ (0 ≤ v.toInt ∧ v.toInt < mo_R g27 0) := (tp_cond.no hw40p) (by omega)
      clear hw40r ic41
      refine lv_aload_n hx hb dX12_way_39 rfl (lv_at hl 0 rfl) ?_
      refine lv_bipush (v := (-2)) hx hb dX12_way_40 (by decide) ?_
      have hFc := tp_fr hD hS hA
      refine va_calli (va_runV (As := [.int (-2)]) (rest := []) ⟨hx, hb, hml, hown, hts⟩ (t_X12_told l dC dI _ κ Θ τ ν ρ L f30 hG hT h0 ((-2)) ht_h0) (cwV 1 hts gX12_way_X12_told rfl rfl rfl ⟨rfl, pd_X12_told⟩ ⟨Nat.le_of_ble_eq_true rfl, Nat.le_of_ble_eq_true rfl⟩) ⟨pz_blind, va_recv hK hP (ci := 12) (q0 := q38) rfl eq38, pz_pre hP hK hD hN⟩ rfl rfl hl.1 rfl (lv_room (Nat.le_of_ble_eq_true rfl)) dX12_way_42 ⟨Nat.le_of_ble_eq_true rfl, Nat.le_of_ble_eq_true rfl⟩) hS (fun q _ h => hFc q h) hFc (fun r43 f45 t H1 locs ht hvm hw44 hB hz1 hk1 hS => ?_)
      refine tn_4 hw44 (fun hT hF46 hw44r hw44p => ?_); clear hw44
      have hR := hR.then hF46 (by decide)
      have hP := hB.1; rw [ht] at hP; have hD := tp_ad f45 hD; clear hB hFc hz1 hk1; subst ht; generalize t.heap = H at hP hS ⊢
      have hw44pq : r43.toInt = (-2) := by rw [hw44p]; rfl
      have hf_47 : f45 (ρ h0 2) = .inl (κ 0, 12967, .inl g27) := (hF46 _ (by rw [tp_iu y1]; decide)).trans hf_33
      exact W.iret (v := r43) hx hb hr (fun t ht hW => ⟨⟨r43, f45, rfl, ⟨hT, hR, trivial, ⟨(by rw [hf_47, mo_i1]; exact hI), (by rw [hf_47, mo_i1, hf_o26, mo_i1]; exact hKN), (by simp only [hf_47, hf_o26, mo_i1]; exact ⟨fun q0 => by omega, fun q0 => ⟨fun q1 => by omega, fun q1 => ⟨fun q2 => by omega, fun q2 => (by omega)⟩⟩⟩)⟩⟩, by rw [ht]; exact hP, va_K.moved hW.alike hK, hD⟩, hS.F ht⟩) hS.2.2 dX12_way_45
    · have ic41 : r39.toInt ≠ 0 := zi_eqf rfl rfl c41
      replace ic41 : 1 ≤ r39.toInt := by omega
      have p48 : 0 ≤ v.toInt ∧ v.toInt < mo_R g27 0 := (tp_cond.yes hw40p) (by omega)
      clear hw40r ic41
      refine lv_aload_n hx hb dX12_way_31 rfl (lv_at hl 0 rfl) ?_
      refine lv_iload_n hx hb dX12_way_32 rfl (lv_at hl 2 rfl) ?_
      refine pz_calli (va_runV (As := [.int u]) (rest := []) ⟨hx, hb, hml, hown, hts⟩ (t_X12_isTerminal l dC dI _ κ Θ τ ν ρ L f30 hG hT h0 u (-1) 0 ht_h0 (by omega) (by rw [hf_33, mo_i1]; exact hI)) (cwV 1 hts gX12_way_X12_isTerminal rfl rfl rfl ⟨rfl, pd_X12_isTerminal⟩ ⟨Nat.le_of_ble_eq_true rfl, Nat.le_of_ble_eq_true rfl⟩) ⟨pz_blind, va_recv hK hP (ci := 12) (q0 := q38) rfl eq38, pz_pre hP hK hD hN⟩ rfl rfl hl.1 rfl (lv_room (Nat.le_of_ble_eq_true rfl)) dX12_way_33 ⟨Nat.le_of_ble_eq_true rfl, Nat.le_of_ble_eq_true rfl⟩) (fun r49 hw50 => ?_)
      obtain ⟨hw50r, hw50p⟩ := hw50
      have := hI.k0
      rw [hf_33, mo_i1] at hw50p
      refine lv_if_ne (tgt := 46) hx hb dX12_way_36 (by decide) (fun c51 => ?_) (fun c51 => ?_)
      · have ic51 : r49.toInt ≠ 0 := zi_ne rfl rfl c51
        replace ic51 : 1 ≤ r49.toInt := by omega
        have p52 : 0 ≤ u.toInt ∧ u.toInt < mo_R g27 0 := (tp_cond.yes hw50p) (by omega)
        clear hw50r ic51
        refine lv_iload_n hx hb dX12_way_46 rfl (lv_at hl 1 rfl) ?_
        refine lv_iload_n hx hb dX12_way_47 rfl (lv_at hl 2 rfl) ?_
        refine lv_icmp_ne (tgt := 58) hx hb dX12_way_48 (by decide) (fun c53 => ?_) (fun c53 => ?_)
        · have ic53 : v.toInt ≠ u.toInt := zi_ne rfl rfl c53
          refine lv_bipush (v := 50) hx hb dX12_way_58 (by decide) ?_
          refine lv_iconst (v := 2) hx hb dX12_way_60 (by decide) ?_
          refine lv_bipush (v := 6) hx hb dX12_way_61 (by decide) ?_
          refine lv_iload_n hx hb dX12_way_63 rfl (lv_at hl 1 rfl) ?_
          refine lv_imul hx hb dX12_way_64 ?_
          refine lv_topi (fun z54 ez54 => ?_)
          have iz54 : z54.toInt = 6 * v.toInt := zi_mul ez54 rfl rfl (by omega) (by omega)
          refine lv_iload_n hx hb dX12_way_65 rfl (lv_at hl 2 rfl) ?_
          refine lv_iadd hx hb dX12_way_66 ?_
          refine lv_topi (fun z55 ez55 => ?_)
          have iz55 : z55.toInt = z54.toInt + u.toInt := zi_add ez55 rfl rfl (by omega) (by omega)
          refine lv_imul hx hb dX12_way_67 ?_
          refine lv_topi (fun z56 ez56 => ?_)
          have iz56 : z56.toInt = 2 * z55.toInt := zi_mul ez56 rfl rfl (by omega) (by omega)
          refine lv_iadd hx hb dX12_way_68 ?_
          refine lv_topi (fun z57 ez57 => ?_)
          have iz57 : z57.toInt = 50 + z56.toInt := zi_add ez57 rfl rfl (by omega) (by omega)
          refine lv_istore (lv' := [(5, .int z57), (0, .ref h0), (1, .int v), (2, .int u), (3, .int a), (4, .int a4)]) hx hb dX12_way_69 hl (by decide) rfl (fun ls hl => ?_)
          refine lv_bipush (v := 50) hx hb dX12_way_71 (by decide) ?_
          refine lv_iconst (v := 2) hx hb dX12_way_73 (by decide) ?_
          refine lv_bipush (v := 6) hx hb dX12_way_74 (by decide) ?_
          refine lv_iload_n hx hb dX12_way_76 rfl (lv_at hl 3 rfl) ?_
          refine lv_imul hx hb dX12_way_77 ?_
          refine lv_topi (fun z58 ez58 => ?_)
          have iz58 : z58.toInt = 6 * u.toInt := zi_mul ez58 rfl rfl (by omega) (by omega)
          refine lv_iload_n hx hb dX12_way_78 rfl (lv_at hl 2 rfl) ?_
          refine lv_iadd hx hb dX12_way_79 ?_
          refine lv_topi (fun z59 ez59 => ?_)
          have iz59 : z59.toInt = z58.toInt + v.toInt := zi_add ez59 rfl rfl (by omega) (by omega)
          refine lv_imul hx hb dX12_way_80 ?_
          refine lv_topi (fun z60 ez60 => ?_)
          have iz60 : z60.toInt = 2 * z59.toInt := zi_mul ez60 rfl rfl (by omega) (by omega)
          refine lv_iadd hx hb dX12_way_81 ?_
          refine lv_topi (fun z61 ez61 => ?_)
          have iz61 : z61.toInt = 50 + z60.toInt := zi_add ez61 rfl rfl (by omega) (by omega)
          refine lv_istore (lv' := [(6, .int z61), (5, .int z57), (0, .ref h0), (1, .int v), (2, .int u), (3, .int a), (4, .int a4)]) hx hb dX12_way_82 hl (by decide) rfl (fun ls hl => ?_)
          refine lv_aload_n hx hb dX12_way_84 rfl (lv_at hl 2 rfl) ?_
          refine va_get (D := (dC, dI)) (ci := 12) (v := .ref (ρ h0 2)) (C := RX12) (T := TX12) (N := 53) hx hb hts hfX12 hown hK hP q38 eq38 rfl 2 (by decide) (hts (.fieldLink RX12 7 "ColdShipsModel" "row" "[I") wa_148) (fun _ h9 => h9) rfl dX12_way_85 ?_
          refine lv_iload hx hb dX12_way_88 (lv_at hl 1 rfl) ?_
          refine lv_iload_n hx hb dX12_way_90 rfl (lv_at hl 5 rfl) ?_
          refine tpk_pos (tp_in hG y1 (by decide)) hf_33 (fun q62 eq62 => ?_)
          refine va_iast hx hb hK hP hD hS q62 0 eq62 rfl (vp_in_iff.mpr ⟨by omega, by omega⟩) dX12_way_91 (tp_k (.inl (κ 0, 12967, .inl (upd g27 z57.toNatClampNeg a))) hD (tp_in hG y1 (by decide)) eq62 (fun f63 H locs hP hD hS g65 k64 => ?_))
          have hT := hT.up y1 g65 k64 tp_o32
          have hR := hR.up y1 (by decide) k64
          have hU : mo_U (mo_R g27) (mo_R (upd g27 z57.toNatClampNeg a)) (50 + 12 * v.toInt + 2 * u.toInt) (a.toInt) := mo_up (by omega) (rfl : a.toInt = _) (by omega)
          generalize (upd g27 z57.toNatClampNeg a) = g66 at g65 hU
          have hI := mo_w_flat hI hU (by omega)
          have hKN := hKN.up hU (Or.inl (by omega))
          refine lv_aload_n hx hb dX12_way_92 rfl (lv_at hl 2 rfl) ?_
          have hf_67 : f63 h0 = .inr (12, [.int 0, .int o28_x1, .ref (ρ h0 2), .ref (ρ h0 3), .ref (ρ h0 4), .ref (ρ h0 5), .ref (ρ h0 6), .int o28_x7, .ref (ρ h0 8), .int o28_x9, .int o28_x10, .int o28_x11, .int o28_x12, .long o28_x13, .int o28_x14, .int o28_x15, .int o28_x16, .int o28_x17, .int o28_x18, .int o28_x19, .int o28_x20, .ref (ρ h0 21), .int o28_x22, .ref (ρ h0 23), .ref (ρ h0 24), .int o28_x25, .ref (ρ h0 26), .ref (ρ h0 27), .int o28_x28, .int o28_x29, .ref (ρ h0 30), .ref (ρ h0 31), .int o28_x32, .long o28_x33, .long o28_x34, .long o28_x35, .int o28_x36, .int o28_x37, .int o28_x38, .ref (ρ h0 39), .ref (ρ h0 40), .ref (ρ h0 41), .ref (ρ h0 42), .ref (ρ h0 43), .ref (ρ h0 44), .ref (ρ h0 45), .ref (ρ h0 46), .int o28_x47, .int o28_x48, .ref (ρ h0 49), .ref (ρ h0 50), .ref (ρ h0 51), .ref (ρ h0 52)]) := (k64 _ (tp_ne ht_h0 y1 (by decide))).trans g32
          refine tpk_pos (tp_in hG ht_h0 (by decide)) hf_67 (fun q68 eq68 => ?_)
          refine va_get (D := (dC, dI)) (ci := 12) (v := .ref (ρ h0 2)) (C := RX12) (T := TX12) (N := 53) hx hb hts hfX12 hown hK hP q68 eq68 rfl 2 (by decide) (hts (.fieldLink RX12 7 "ColdShipsModel" "row" "[I") wa_148) (fun _ h9 => h9) rfl dX12_way_93 ?_
          refine lv_iload hx hb dX12_way_96 (lv_at hl 1 rfl) ?_
          refine lv_iconst (v := 1) hx hb dX12_way_98 (by decide) ?_
          refine lv_iadd hx hb dX12_way_99 ?_
          refine lv_topi (fun z69 ez69 => ?_)
          have iz69 : z69.toInt = z57.toInt + 1 := zi_add ez69 rfl rfl (by omega) (by omega)
          refine lv_iload hx hb dX12_way_100 (lv_at hl 6 rfl) ?_
          refine lv_if_eq (tgt := 109) hx hb dX12_way_102 (by decide) (fun c70 => ?_) (fun c70 => ?_)
          · have ic70 : a4.toInt = 0 := zi_eq rfl rfl c70
            refine lv_iconst (v := 0) hx hb dX12_way_109 (by decide) ?_
            refine tpk_pos (tp_in hG y1 (by decide)) g65 (fun q71 eq71 => ?_)
            refine va_iast hx hb hK hP hD hS q71 0 eq71 rfl (vp_in_iff.mpr ⟨by omega, by omega⟩) dX12_way_110 (tp_k (.inl (κ 0, 12967, .inl (upd g66 z69.toNatClampNeg (0 : Int32)))) hD (tp_in hG y1 (by decide)) eq71 (fun f72 H locs hP hD hS g74 k73 => ?_))
            have hT := hT.up y1 g74 k73 tp_o32
            have hR := hR.up y1 (by decide) k73
            have hU : mo_U (mo_R g66) (mo_R (upd g66 z69.toNatClampNeg (0 : Int32))) (51 + 12 * v.toInt + 2 * u.toInt) (0) := mo_up (by omega) (show (0 : Int32).toInt = 0 from rfl) (by omega)
            generalize (upd g66 z69.toNatClampNeg (0 : Int32)) = g75 at g74 hU
            have hI := mo_w_flat hI hU (by omega)
            have hKN := hKN.up hU (Or.inl (by omega))
            refine lv_aload_n hx hb dX12_way_111 rfl (lv_at hl 2 rfl) ?_
            have hf_76 : f72 h0 = .inr (12, [.int 0, .int o28_x1, .ref (ρ h0 2), .ref (ρ h0 3), .ref (ρ h0 4), .ref (ρ h0 5), .ref (ρ h0 6), .int o28_x7, .ref (ρ h0 8), .int o28_x9, .int o28_x10, .int o28_x11, .int o28_x12, .long o28_x13, .int o28_x14, .int o28_x15, .int o28_x16, .int o28_x17, .int o28_x18, .int o28_x19, .int o28_x20, .ref (ρ h0 21), .int o28_x22, .ref (ρ h0 23), .ref (ρ h0 24), .int o28_x25, .ref (ρ h0 26), .ref (ρ h0 27), .int o28_x28, .int o28_x29, .ref (ρ h0 30), .ref (ρ h0 31), .int o28_x32, .long o28_x33, .long o28_x34, .long o28_x35, .int o28_x36, .int o28_x37, .int o28_x38, .ref (ρ h0 39), .ref (ρ h0 40), .ref (ρ h0 41), .ref (ρ h0 42), .ref (ρ h0 43), .ref (ρ h0 44), .ref (ρ h0 45), .ref (ρ h0 46), .int o28_x47, .int o28_x48, .ref (ρ h0 49), .ref (ρ h0 50), .ref (ρ h0 51), .ref (ρ h0 52)]) := (k73 _ (tp_ne ht_h0 y1 (by decide))).trans hf_67
            refine tpk_pos (tp_in hG ht_h0 (by decide)) hf_76 (fun q77 eq77 => ?_)
            refine va_get (D := (dC, dI)) (ci := 12) (v := .ref (ρ h0 2)) (C := RX12) (T := TX12) (N := 53) hx hb hts hfX12 hown hK hP q77 eq77 rfl 2 (by decide) (hts (.fieldLink RX12 7 "ColdShipsModel" "row" "[I") wa_148) (fun _ h9 => h9) rfl dX12_way_112 ?_
            refine lv_iload hx hb dX12_way_115 (lv_at hl 0 rfl) ?_
            refine lv_iload_n hx hb dX12_way_117 rfl (lv_at hl 5 rfl) ?_
            refine tpk_pos (tp_in hG y1 (by decide)) g74 (fun q78 eq78 => ?_)
            refine va_iast hx hb hK hP hD hS q78 0 eq78 rfl (vp_in_iff.mpr ⟨by omega, by omega⟩) dX12_way_118 (tp_k (.inl (κ 0, 12967, .inl (upd g75 z61.toNatClampNeg a))) hD (tp_in hG y1 (by decide)) eq78 (fun f79 H locs hP hD hS g81 k80 => ?_))
            have hT := hT.up y1 g81 k80 tp_o32
            have hR := hR.up y1 (by decide) k80
            have hU : mo_U (mo_R g75) (mo_R (upd g75 z61.toNatClampNeg a)) (50 + 12 * u.toInt + 2 * v.toInt) (a.toInt) := mo_up (by omega) (rfl : a.toInt = _) (by omega)
            generalize (upd g75 z61.toNatClampNeg a) = g82 at g81 hU
            have hI := mo_w_flat hI hU (by omega)
            have hKN := hKN.up hU (Or.inl (by omega))
            refine lv_aload_n hx hb dX12_way_119 rfl (lv_at hl 2 rfl) ?_
            have hf_83 : f79 h0 = .inr (12, [.int 0, .int o28_x1, .ref (ρ h0 2), .ref (ρ h0 3), .ref (ρ h0 4), .ref (ρ h0 5), .ref (ρ h0 6), .int o28_x7, .ref (ρ h0 8), .int o28_x9, .int o28_x10, .int o28_x11, .int o28_x12, .long o28_x13, .int o28_x14, .int o28_x15, .int o28_x16, .int o28_x17, .int o28_x18, .int o28_x19, .int o28_x20, .ref (ρ h0 21), .int o28_x22, .ref (ρ h0 23), .ref (ρ h0 24), .int o28_x25, .ref (ρ h0 26), .ref (ρ h0 27), .int o28_x28, .int o28_x29, .ref (ρ h0 30), .ref (ρ h0 31), .int o28_x32, .long o28_x33, .long o28_x34, .long o28_x35, .int o28_x36, .int o28_x37, .int o28_x38, .ref (ρ h0 39), .ref (ρ h0 40), .ref (ρ h0 41), .ref (ρ h0 42), .ref (ρ h0 43), .ref (ρ h0 44), .ref (ρ h0 45), .ref (ρ h0 46), .int o28_x47, .int o28_x48, .ref (ρ h0 49), .ref (ρ h0 50), .ref (ρ h0 51), .ref (ρ h0 52)]) := (k80 _ (tp_ne ht_h0 y1 (by decide))).trans hf_76
            refine tpk_pos (tp_in hG ht_h0 (by decide)) hf_83 (fun q84 eq84 => ?_)
            refine va_get (D := (dC, dI)) (ci := 12) (v := .ref (ρ h0 2)) (C := RX12) (T := TX12) (N := 53) hx hb hts hfX12 hown hK hP q84 eq84 rfl 2 (by decide) (hts (.fieldLink RX12 7 "ColdShipsModel" "row" "[I") wa_148) (fun _ h9 => h9) rfl dX12_way_120 ?_
            refine lv_iload hx hb dX12_way_123 (lv_at hl 0 rfl) ?_
            refine lv_iconst (v := 1) hx hb dX12_way_125 (by decide) ?_
            refine lv_iadd hx hb dX12_way_126 ?_
            refine lv_topi (fun z85 ez85 => ?_)
            have iz85 : z85.toInt = z61.toInt + 1 := zi_add ez85 rfl rfl (by omega) (by omega)
            refine lv_iload hx hb dX12_way_127 (lv_at hl 6 rfl) ?_
            refine lv_if_eq (tgt := 136) hx hb dX12_way_129 (by decide) (fun c86 => ?_) (fun c86 => ?_)
            · have ic86 : a4.toInt = 0 := zi_eq rfl rfl c86
              refine lv_iconst (v := 0) hx hb dX12_way_136 (by decide) ?_
              refine tpk_pos (tp_in hG y1 (by decide)) g81 (fun q87 eq87 => ?_)
              refine va_iast hx hb hK hP hD hS q87 0 eq87 rfl (vp_in_iff.mpr ⟨by omega, by omega⟩) dX12_way_137 (tp_k (.inl (κ 0, 12967, .inl (upd g82 z85.toNatClampNeg (0 : Int32)))) hD (tp_in hG y1 (by decide)) eq87 (fun f88 H locs hP hD hS g90 k89 => ?_))
              have hT := hT.up y1 g90 k89 tp_o32
              have hR := hR.up y1 (by decide) k89
              have hU : mo_U (mo_R g82) (mo_R (upd g82 z85.toNatClampNeg (0 : Int32))) (51 + 12 * u.toInt + 2 * v.toInt) (0) := mo_up (by omega) (show (0 : Int32).toInt = 0 from rfl) (by omega)
              generalize (upd g82 z85.toNatClampNeg (0 : Int32)) = g91 at g90 hU
              have hI := mo_w_flat hI hU (by omega)
              have hKN := hKN.up hU (Or.inl (by omega))
              refine lv_aload_n hx hb dX12_way_138 rfl (lv_at hl 2 rfl) ?_
              refine lv_iconst (v := 0) hx hb dX12_way_139 (by decide) ?_
              have hf_92 : f88 h0 = .inr (12, [.int 0, .int o28_x1, .ref (ρ h0 2), .ref (ρ h0 3), .ref (ρ h0 4), .ref (ρ h0 5), .ref (ρ h0 6), .int o28_x7, .ref (ρ h0 8), .int o28_x9, .int o28_x10, .int o28_x11, .int o28_x12, .long o28_x13, .int o28_x14, .int o28_x15, .int o28_x16, .int o28_x17, .int o28_x18, .int o28_x19, .int o28_x20, .ref (ρ h0 21), .int o28_x22, .ref (ρ h0 23), .ref (ρ h0 24), .int o28_x25, .ref (ρ h0 26), .ref (ρ h0 27), .int o28_x28, .int o28_x29, .ref (ρ h0 30), .ref (ρ h0 31), .int o28_x32, .long o28_x33, .long o28_x34, .long o28_x35, .int o28_x36, .int o28_x37, .int o28_x38, .ref (ρ h0 39), .ref (ρ h0 40), .ref (ρ h0 41), .ref (ρ h0 42), .ref (ρ h0 43), .ref (ρ h0 44), .ref (ρ h0 45), .ref (ρ h0 46), .int o28_x47, .int o28_x48, .ref (ρ h0 49), .ref (ρ h0 50), .ref (ρ h0 51), .ref (ρ h0 52)]) := (k89 _ (tp_ne ht_h0 y1 (by decide))).trans hf_83
              refine tpk_pos (tp_in hG ht_h0 (by decide)) hf_92 (fun q93 eq93 => ?_)
              have hFc := tp_fr hD hS hA
              refine va_calli (va_runV (As := [.int 0]) (rest := []) ⟨hx, hb, hml, hown, hts⟩ (t_X12_told l dC dI _ κ Θ τ ν ρ L f88 hG hT h0 (0) ht_h0) (cwV 1 hts gX12_way_X12_told rfl rfl rfl ⟨rfl, pd_X12_told⟩ ⟨Nat.le_of_ble_eq_true rfl, Nat.le_of_ble_eq_true rfl⟩) ⟨pz_blind, va_recv hK hP (ci := 12) (q0 := q93) rfl eq93, pz_pre hP hK hD hN⟩ rfl rfl hl.1 rfl (lv_room (Nat.le_of_ble_eq_true rfl)) dX12_way_140 ⟨Nat.le_of_ble_eq_true rfl, Nat.le_of_ble_eq_true rfl⟩) hS (fun q _ h => hFc q h) hFc (fun r94 f96 t H1 locs ht hvm hw95 hB hz1 hk1 hS => ?_)
              refine tn_4 hw95 (fun hT hF97 hw95r hw95p => ?_); clear hw95
              have hR := hR.then hF97 (by decide)
              have hP := hB.1; rw [ht] at hP; have hD := tp_ad f96 hD; clear hB hFc hz1 hk1; subst ht; generalize t.heap = H at hP hS ⊢
              have hw95pq : r94.toInt = 0 := by rw [hw95p]; rfl
              have hf_98 : f96 (ρ h0 2) = .inl (κ 0, 12967, .inl g91) := (hF97 _ (by rw [tp_iu y1]; decide)).trans g90
              exact W.iret (v := r94) hx hb hr (fun t ht hW => ⟨⟨r94, f96, rfl, ⟨hT, hR, trivial, ⟨(by rw [hf_98, mo_i1]; exact hI), (by rw [hf_98, mo_i1, hf_o26, mo_i1]; exact hKN), (by simp only [hf_98, hf_o26, mo_i1]; exact ⟨fun q0 => by omega, fun q0 => ⟨fun q1 => by omega, fun q1 => ⟨fun q2 => by omega, fun q2 => (by omega)⟩⟩⟩)⟩⟩, by rw [ht]; exact hP, va_K.moved hW.alike hK, hD⟩, hS.F ht⟩) hS.2.2 dX12_way_143
            · have ic86 : a4.toInt ≠ 0 := zi_eqf rfl rfl c86
              exfalso; omega
          · have ic70 : a4.toInt ≠ 0 := zi_eqf rfl rfl c70
            refine lv_iconst (v := 1) hx hb dX12_way_105 (by decide) ?_
            refine lv_goto (tgt := 110) hx hb dX12_way_106 (by decide) ?_
            refine tpk_pos (tp_in hG y1 (by decide)) g65 (fun q99 eq99 => ?_)
            refine va_iast hx hb hK hP hD hS q99 0 eq99 rfl (vp_in_iff.mpr ⟨by omega, by omega⟩) dX12_way_110 (tp_k (.inl (κ 0, 12967, .inl (upd g66 z69.toNatClampNeg (1 : Int32)))) hD (tp_in hG y1 (by decide)) eq99 (fun f100 H locs hP hD hS g102 k101 => ?_))
            have hT := hT.up y1 g102 k101 tp_o32
            have hR := hR.up y1 (by decide) k101
            have hU : mo_U (mo_R g66) (mo_R (upd g66 z69.toNatClampNeg (1 : Int32))) (51 + 12 * v.toInt + 2 * u.toInt) (1) := mo_up (by omega) (show (1 : Int32).toInt = 1 from rfl) (by omega)
            generalize (upd g66 z69.toNatClampNeg (1 : Int32)) = g103 at g102 hU
            have hI := mo_w_flat hI hU (by omega)
            have hKN := hKN.up hU (Or.inl (by omega))
            refine lv_aload_n hx hb dX12_way_111 rfl (lv_at hl 2 rfl) ?_
            have hf_104 : f100 h0 = .inr (12, [.int 0, .int o28_x1, .ref (ρ h0 2), .ref (ρ h0 3), .ref (ρ h0 4), .ref (ρ h0 5), .ref (ρ h0 6), .int o28_x7, .ref (ρ h0 8), .int o28_x9, .int o28_x10, .int o28_x11, .int o28_x12, .long o28_x13, .int o28_x14, .int o28_x15, .int o28_x16, .int o28_x17, .int o28_x18, .int o28_x19, .int o28_x20, .ref (ρ h0 21), .int o28_x22, .ref (ρ h0 23), .ref (ρ h0 24), .int o28_x25, .ref (ρ h0 26), .ref (ρ h0 27), .int o28_x28, .int o28_x29, .ref (ρ h0 30), .ref (ρ h0 31), .int o28_x32, .long o28_x33, .long o28_x34, .long o28_x35, .int o28_x36, .int o28_x37, .int o28_x38, .ref (ρ h0 39), .ref (ρ h0 40), .ref (ρ h0 41), .ref (ρ h0 42), .ref (ρ h0 43), .ref (ρ h0 44), .ref (ρ h0 45), .ref (ρ h0 46), .int o28_x47, .int o28_x48, .ref (ρ h0 49), .ref (ρ h0 50), .ref (ρ h0 51), .ref (ρ h0 52)]) := (k101 _ (tp_ne ht_h0 y1 (by decide))).trans hf_67
            refine tpk_pos (tp_in hG ht_h0 (by decide)) hf_104 (fun q105 eq105 => ?_)
            refine va_get (D := (dC, dI)) (ci := 12) (v := .ref (ρ h0 2)) (C := RX12) (T := TX12) (N := 53) hx hb hts hfX12 hown hK hP q105 eq105 rfl 2 (by decide) (hts (.fieldLink RX12 7 "ColdShipsModel" "row" "[I") wa_148) (fun _ h9 => h9) rfl dX12_way_112 ?_
            refine lv_iload hx hb dX12_way_115 (lv_at hl 0 rfl) ?_
            refine lv_iload_n hx hb dX12_way_117 rfl (lv_at hl 5 rfl) ?_
            refine tpk_pos (tp_in hG y1 (by decide)) g102 (fun q106 eq106 => ?_)
            refine va_iast hx hb hK hP hD hS q106 0 eq106 rfl (vp_in_iff.mpr ⟨by omega, by omega⟩) dX12_way_118 (tp_k (.inl (κ 0, 12967, .inl (upd g103 z61.toNatClampNeg a))) hD (tp_in hG y1 (by decide)) eq106 (fun f107 H locs hP hD hS g109 k108 => ?_))
            have hT := hT.up y1 g109 k108 tp_o32
            have hR := hR.up y1 (by decide) k108
            have hU : mo_U (mo_R g103) (mo_R (upd g103 z61.toNatClampNeg a)) (50 + 12 * u.toInt + 2 * v.toInt) (a.toInt) := mo_up (by omega) (rfl : a.toInt = _) (by omega)
            generalize (upd g103 z61.toNatClampNeg a) = g110 at g109 hU
            have hI := mo_w_flat hI hU (by omega)
            have hKN := hKN.up hU (Or.inl (by omega))
            refine lv_aload_n hx hb dX12_way_119 rfl (lv_at hl 2 rfl) ?_
            have hf_111 : f107 h0 = .inr (12, [.int 0, .int o28_x1, .ref (ρ h0 2), .ref (ρ h0 3), .ref (ρ h0 4), .ref (ρ h0 5), .ref (ρ h0 6), .int o28_x7, .ref (ρ h0 8), .int o28_x9, .int o28_x10, .int o28_x11, .int o28_x12, .long o28_x13, .int o28_x14, .int o28_x15, .int o28_x16, .int o28_x17, .int o28_x18, .int o28_x19, .int o28_x20, .ref (ρ h0 21), .int o28_x22, .ref (ρ h0 23), .ref (ρ h0 24), .int o28_x25, .ref (ρ h0 26), .ref (ρ h0 27), .int o28_x28, .int o28_x29, .ref (ρ h0 30), .ref (ρ h0 31), .int o28_x32, .long o28_x33, .long o28_x34, .long o28_x35, .int o28_x36, .int o28_x37, .int o28_x38, .ref (ρ h0 39), .ref (ρ h0 40), .ref (ρ h0 41), .ref (ρ h0 42), .ref (ρ h0 43), .ref (ρ h0 44), .ref (ρ h0 45), .ref (ρ h0 46), .int o28_x47, .int o28_x48, .ref (ρ h0 49), .ref (ρ h0 50), .ref (ρ h0 51), .ref (ρ h0 52)]) := (k108 _ (tp_ne ht_h0 y1 (by decide))).trans hf_104
            refine tpk_pos (tp_in hG ht_h0 (by decide)) hf_111 (fun q112 eq112 => ?_)
            refine va_get (D := (dC, dI)) (ci := 12) (v := .ref (ρ h0 2)) (C := RX12) (T := TX12) (N := 53) hx hb hts hfX12 hown hK hP q112 eq112 rfl 2 (by decide) (hts (.fieldLink RX12 7 "ColdShipsModel" "row" "[I") wa_148) (fun _ h9 => h9) rfl dX12_way_120 ?_
            refine lv_iload hx hb dX12_way_123 (lv_at hl 0 rfl) ?_
            refine lv_iconst (v := 1) hx hb dX12_way_125 (by decide) ?_
            refine lv_iadd hx hb dX12_way_126 ?_
            refine lv_topi (fun z113 ez113 => ?_)
            have iz113 : z113.toInt = z61.toInt + 1 := zi_add ez113 rfl rfl (by omega) (by omega)
            refine lv_iload hx hb dX12_way_127 (lv_at hl 6 rfl) ?_
            refine lv_if_eq (tgt := 136) hx hb dX12_way_129 (by decide) (fun c114 => ?_) (fun c114 => ?_)
            · have ic114 : a4.toInt = 0 := zi_eq rfl rfl c114
              refine lv_iconst (v := 0) hx hb dX12_way_136 (by decide) ?_
              refine tpk_pos (tp_in hG y1 (by decide)) g109 (fun q115 eq115 => ?_)
              refine va_iast hx hb hK hP hD hS q115 0 eq115 rfl (vp_in_iff.mpr ⟨by omega, by omega⟩) dX12_way_137 (tp_k (.inl (κ 0, 12967, .inl (upd g110 z113.toNatClampNeg (0 : Int32)))) hD (tp_in hG y1 (by decide)) eq115 (fun f116 H locs hP hD hS g118 k117 => ?_))
              have hT := hT.up y1 g118 k117 tp_o32
              have hR := hR.up y1 (by decide) k117
              have hU : mo_U (mo_R g110) (mo_R (upd g110 z113.toNatClampNeg (0 : Int32))) (51 + 12 * u.toInt + 2 * v.toInt) (0) := mo_up (by omega) (show (0 : Int32).toInt = 0 from rfl) (by omega)
              generalize (upd g110 z113.toNatClampNeg (0 : Int32)) = g119 at g118 hU
              have hI := mo_w_flat hI hU (by omega)
              have hKN := hKN.up hU (Or.inl (by omega))
              refine lv_aload_n hx hb dX12_way_138 rfl (lv_at hl 2 rfl) ?_
              refine lv_iconst (v := 0) hx hb dX12_way_139 (by decide) ?_
              have hf_120 : f116 h0 = .inr (12, [.int 0, .int o28_x1, .ref (ρ h0 2), .ref (ρ h0 3), .ref (ρ h0 4), .ref (ρ h0 5), .ref (ρ h0 6), .int o28_x7, .ref (ρ h0 8), .int o28_x9, .int o28_x10, .int o28_x11, .int o28_x12, .long o28_x13, .int o28_x14, .int o28_x15, .int o28_x16, .int o28_x17, .int o28_x18, .int o28_x19, .int o28_x20, .ref (ρ h0 21), .int o28_x22, .ref (ρ h0 23), .ref (ρ h0 24), .int o28_x25, .ref (ρ h0 26), .ref (ρ h0 27), .int o28_x28, .int o28_x29, .ref (ρ h0 30), .ref (ρ h0 31), .int o28_x32, .long o28_x33, .long o28_x34, .long o28_x35, .int o28_x36, .int o28_x37, .int o28_x38, .ref (ρ h0 39), .ref (ρ h0 40), .ref (ρ h0 41), .ref (ρ h0 42), .ref (ρ h0 43), .ref (ρ h0 44), .ref (ρ h0 45), .ref (ρ h0 46), .int o28_x47, .int o28_x48, .ref (ρ h0 49), .ref (ρ h0 50), .ref (ρ h0 51), .ref (ρ h0 52)]) := (k117 _ (tp_ne ht_h0 y1 (by decide))).trans hf_111
              refine tpk_pos (tp_in hG ht_h0 (by decide)) hf_120 (fun q121 eq121 => ?_)
              have hFc := tp_fr hD hS hA
              refine va_calli (va_runV (As := [.int 0]) (rest := []) ⟨hx, hb, hml, hown, hts⟩ (t_X12_told l dC dI _ κ Θ τ ν ρ L f116 hG hT h0 (0) ht_h0) (cwV 1 hts gX12_way_X12_told rfl rfl rfl ⟨rfl, pd_X12_told⟩ ⟨Nat.le_of_ble_eq_true rfl, Nat.le_of_ble_eq_true rfl⟩) ⟨pz_blind, va_recv hK hP (ci := 12) (q0 := q121) rfl eq121, pz_pre hP hK hD hN⟩ rfl rfl hl.1 rfl (lv_room (Nat.le_of_ble_eq_true rfl)) dX12_way_140 ⟨Nat.le_of_ble_eq_true rfl, Nat.le_of_ble_eq_true rfl⟩) hS (fun q _ h => hFc q h) hFc (fun r122 f124 t H1 locs ht hvm hw123 hB hz1 hk1 hS => ?_)
              refine tn_4 hw123 (fun hT hF125 hw123r hw123p => ?_); clear hw123
              have hR := hR.then hF125 (by decide)
              have hP := hB.1; rw [ht] at hP; have hD := tp_ad f124 hD; clear hB hFc hz1 hk1; subst ht; generalize t.heap = H at hP hS ⊢
              have hw123pq : r122.toInt = 0 := by rw [hw123p]; rfl
              have hf_126 : f124 (ρ h0 2) = .inl (κ 0, 12967, .inl g119) := (hF125 _ (by rw [tp_iu y1]; decide)).trans g118
              exact W.iret (v := r122) hx hb hr (fun t ht hW => ⟨⟨r122, f124, rfl, ⟨hT, hR, trivial, ⟨(by rw [hf_126, mo_i1]; exact hI), (by rw [hf_126, mo_i1, hf_o26, mo_i1]; exact hKN), (by simp only [hf_126, hf_o26, mo_i1]; exact ⟨fun q0 => by omega, fun q0 => ⟨fun q1 => by omega, fun q1 => ⟨fun q2 => by omega, fun q2 => (by omega)⟩⟩⟩)⟩⟩, by rw [ht]; exact hP, va_K.moved hW.alike hK, hD⟩, hS.F ht⟩) hS.2.2 dX12_way_143
            · have ic114 : a4.toInt ≠ 0 := zi_eqf rfl rfl c114
              refine lv_iconst (v := 1) hx hb dX12_way_132 (by decide) ?_
              refine lv_goto (tgt := 137) hx hb dX12_way_133 (by decide) ?_
              refine tpk_pos (tp_in hG y1 (by decide)) g109 (fun q127 eq127 => ?_)
              refine va_iast hx hb hK hP hD hS q127 0 eq127 rfl (vp_in_iff.mpr ⟨by omega, by omega⟩) dX12_way_137 (tp_k (.inl (κ 0, 12967, .inl (upd g110 z113.toNatClampNeg (1 : Int32)))) hD (tp_in hG y1 (by decide)) eq127 (fun f128 H locs hP hD hS g130 k129 => ?_))
              have hT := hT.up y1 g130 k129 tp_o32
              have hR := hR.up y1 (by decide) k129
              have hU : mo_U (mo_R g110) (mo_R (upd g110 z113.toNatClampNeg (1 : Int32))) (51 + 12 * u.toInt + 2 * v.toInt) (1) := mo_up (by omega) (show (1 : Int32).toInt = 1 from rfl) (by omega)
              generalize (upd g110 z113.toNatClampNeg (1 : Int32)) = g131 at g130 hU
              have hI := mo_w_flat hI hU (by omega)
              have hKN := hKN.up hU (Or.inl (by omega))
              refine lv_aload_n hx hb dX12_way_138 rfl (lv_at hl 2 rfl) ?_
              refine lv_iconst (v := 0) hx hb dX12_way_139 (by decide) ?_
              have hf_132 : f128 h0 = .inr (12, [.int 0, .int o28_x1, .ref (ρ h0 2), .ref (ρ h0 3), .ref (ρ h0 4), .ref (ρ h0 5), .ref (ρ h0 6), .int o28_x7, .ref (ρ h0 8), .int o28_x9, .int o28_x10, .int o28_x11, .int o28_x12, .long o28_x13, .int o28_x14, .int o28_x15, .int o28_x16, .int o28_x17, .int o28_x18, .int o28_x19, .int o28_x20, .ref (ρ h0 21), .int o28_x22, .ref (ρ h0 23), .ref (ρ h0 24), .int o28_x25, .ref (ρ h0 26), .ref (ρ h0 27), .int o28_x28, .int o28_x29, .ref (ρ h0 30), .ref (ρ h0 31), .int o28_x32, .long o28_x33, .long o28_x34, .long o28_x35, .int o28_x36, .int o28_x37, .int o28_x38, .ref (ρ h0 39), .ref (ρ h0 40), .ref (ρ h0 41), .ref (ρ h0 42), .ref (ρ h0 43), .ref (ρ h0 44), .ref (ρ h0 45), .ref (ρ h0 46), .int o28_x47, .int o28_x48, .ref (ρ h0 49), .ref (ρ h0 50), .ref (ρ h0 51), .ref (ρ h0 52)]) := (k129 _ (tp_ne ht_h0 y1 (by decide))).trans hf_111
              refine tpk_pos (tp_in hG ht_h0 (by decide)) hf_132 (fun q133 eq133 => ?_)
              have hFc := tp_fr hD hS hA
              refine va_calli (va_runV (As := [.int 0]) (rest := []) ⟨hx, hb, hml, hown, hts⟩ (t_X12_told l dC dI _ κ Θ τ ν ρ L f128 hG hT h0 (0) ht_h0) (cwV 1 hts gX12_way_X12_told rfl rfl rfl ⟨rfl, pd_X12_told⟩ ⟨Nat.le_of_ble_eq_true rfl, Nat.le_of_ble_eq_true rfl⟩) ⟨pz_blind, va_recv hK hP (ci := 12) (q0 := q133) rfl eq133, pz_pre hP hK hD hN⟩ rfl rfl hl.1 rfl (lv_room (Nat.le_of_ble_eq_true rfl)) dX12_way_140 ⟨Nat.le_of_ble_eq_true rfl, Nat.le_of_ble_eq_true rfl⟩) hS (fun q _ h => hFc q h) hFc (fun r134 f136 t H1 locs ht hvm hw135 hB hz1 hk1 hS => ?_)
              refine tn_4 hw135 (fun hT hF137 hw135r hw135p => ?_); clear hw135
              have hR := hR.then hF137 (by decide)
              have hP := hB.1; rw [ht] at hP; have hD := tp_ad f136 hD; clear hB hFc hz1 hk1; subst ht; generalize t.heap = H at hP hS ⊢
              have hw135pq : r134.toInt = 0 := by rw [hw135p]; rfl
              have hf_138 : f136 (ρ h0 2) = .inl (κ 0, 12967, .inl g131) := (hF137 _ (by rw [tp_iu y1]; decide)).trans g130
              exact W.iret (v := r134) hx hb hr (fun t ht hW => ⟨⟨r134, f136, rfl, ⟨hT, hR, trivial, ⟨(by rw [hf_138, mo_i1]; exact hI), (by rw [hf_138, mo_i1, hf_o26, mo_i1]; exact hKN), (by simp only [hf_138, hf_o26, mo_i1]; exact ⟨fun q0 => by omega, fun q0 => ⟨fun q1 => by omega, fun q1 => ⟨fun q2 => by omega, fun q2 => (by omega)⟩⟩⟩)⟩⟩, by rw [ht]; exact hP, va_K.moved hW.alike hK, hD⟩, hS.F ht⟩) hS.2.2 dX12_way_143
        · have ic53 : v.toInt = u.toInt := zi_nef rfl rfl c53
          refine lv_aload_n hx hb dX12_way_51 rfl (lv_at hl 0 rfl) ?_
          refine lv_bipush (v := (-3)) hx hb dX12_way_52 (by decide) ?_
          have hFc := tp_fr hD hS hA
          refine va_calli (va_runV (As := [.int (-3)]) (rest := []) ⟨hx, hb, hml, hown, hts⟩ (t_X12_told l dC dI _ κ Θ τ ν ρ L f30 hG hT h0 ((-3)) ht_h0) (cwV 1 hts gX12_way_X12_told rfl rfl rfl ⟨rfl, pd_X12_told⟩ ⟨Nat.le_of_ble_eq_true rfl, Nat.le_of_ble_eq_true rfl⟩) ⟨pz_blind, va_recv hK hP (ci := 12) (q0 := q38) rfl eq38, pz_pre hP hK hD hN⟩ rfl rfl hl.1 rfl (lv_room (Nat.le_of_ble_eq_true rfl)) dX12_way_54 ⟨Nat.le_of_ble_eq_true rfl, Nat.le_of_ble_eq_true rfl⟩) hS (fun q _ h => hFc q h) hFc (fun r139 f141 t H1 locs ht hvm hw140 hB hz1 hk1 hS => ?_)
          refine tn_4 hw140 (fun hT hF142 hw140r hw140p => ?_); clear hw140
          have hR := hR.then hF142 (by decide)
          have hP := hB.1; rw [ht] at hP; have hD := tp_ad f141 hD; clear hB hFc hz1 hk1; subst ht; generalize t.heap = H at hP hS ⊢
          have hw140pq : r139.toInt = (-3) := by rw [hw140p]; rfl
          have hf_143 : f141 (ρ h0 2) = .inl (κ 0, 12967, .inl g27) := (hF142 _ (by rw [tp_iu y1]; decide)).trans hf_33
          exact W.iret (v := r139) hx hb hr (fun t ht hW => ⟨⟨r139, f141, rfl, ⟨hT, hR, trivial, ⟨(by rw [hf_143, mo_i1]; exact hI), (by rw [hf_143, mo_i1, hf_o26, mo_i1]; exact hKN), (by simp only [hf_143, hf_o26, mo_i1]; exact ⟨fun q0 => by omega, fun q0 => ⟨fun q1 => by omega, fun q1 => ⟨fun q2 => by omega, fun q2 => (by omega)⟩⟩⟩)⟩⟩, by rw [ht]; exact hP, va_K.moved hW.alike hK, hD⟩, hS.F ht⟩) hS.2.2 dX12_way_57
      · have ic51 : r49.toInt = 0 := zi_nef rfl rfl c51
        have p144 : ¬ (0 ≤ u.toInt ∧ u.toInt < mo_R g27 0) := (tp_cond.no hw50p) (by omega)
        clear hw50r ic51
        refine lv_aload_n hx hb dX12_way_39 rfl (lv_at hl 0 rfl) ?_
        refine lv_bipush (v := (-2)) hx hb dX12_way_40 (by decide) ?_
        have hFc := tp_fr hD hS hA
        refine va_calli (va_runV (As := [.int (-2)]) (rest := []) ⟨hx, hb, hml, hown, hts⟩ (t_X12_told l dC dI _ κ Θ τ ν ρ L f30 hG hT h0 ((-2)) ht_h0) (cwV 1 hts gX12_way_X12_told rfl rfl rfl ⟨rfl, pd_X12_told⟩ ⟨Nat.le_of_ble_eq_true rfl, Nat.le_of_ble_eq_true rfl⟩) ⟨pz_blind, va_recv hK hP (ci := 12) (q0 := q38) rfl eq38, pz_pre hP hK hD hN⟩ rfl rfl hl.1 rfl (lv_room (Nat.le_of_ble_eq_true rfl)) dX12_way_42 ⟨Nat.le_of_ble_eq_true rfl, Nat.le_of_ble_eq_true rfl⟩) hS (fun q _ h => hFc q h) hFc (fun r145 f147 t H1 locs ht hvm hw146 hB hz1 hk1 hS => ?_)
        refine tn_4 hw146 (fun hT hF148 hw146r hw146p => ?_); clear hw146
        have hR := hR.then hF148 (by decide)
        have hP := hB.1; rw [ht] at hP; have hD := tp_ad f147 hD; clear hB hFc hz1 hk1; subst ht; generalize t.heap = H at hP hS ⊢
        have hw146pq : r145.toInt = (-2) := by rw [hw146p]; rfl
        have hf_149 : f147 (ρ h0 2) = .inl (κ 0, 12967, .inl g27) := (hF148 _ (by rw [tp_iu y1]; decide)).trans hf_33
        exact W.iret (v := r145) hx hb hr (fun t ht hW => ⟨⟨r145, f147, rfl, ⟨hT, hR, trivial, ⟨(by rw [hf_149, mo_i1]; exact hI), (by rw [hf_149, mo_i1, hf_o26, mo_i1]; exact hKN), (by simp only [hf_149, hf_o26, mo_i1]; exact ⟨fun q0 => by omega, fun q0 => ⟨fun q1 => by omega, fun q1 => ⟨fun q2 => by omega, fun q2 => (by omega)⟩⟩⟩)⟩⟩, by rw [ht]; exact hP, va_K.moved hW.alike hK, hD⟩, hS.F ht⟩) hS.2.2 dX12_way_45
  · have ic36 : r34.toInt = 0 := zi_nef rfl rfl c36
    have p150 : ¬ ((1) ≤ (a.toInt) ∧ (a.toInt) ≤ (400)) := (tp_cond.no hw35p) (by omega)
    clear hw35r ic36
    refine lv_aload_n hx hb dX12_way_17 rfl (lv_at hl 0 rfl) ?_
    refine lv_iconst (v := (-1)) hx hb dX12_way_18 (by decide) ?_
    refine tpk_pos (tp_in hG ht_h0 (by decide)) g32 (fun q151 eq151 => ?_)
    have hFc := tp_fr hD hS hA
    refine va_calli (va_runV (As := [.int (-1)]) (rest := []) ⟨hx, hb, hml, hown, hts⟩ (t_X12_told l dC dI _ κ Θ τ ν ρ L f30 hG hT h0 ((-1)) ht_h0) (cwV 1 hts gX12_way_X12_told rfl rfl rfl ⟨rfl, pd_X12_told⟩ ⟨Nat.le_of_ble_eq_true rfl, Nat.le_of_ble_eq_true rfl⟩) ⟨pz_blind, va_recv hK hP (ci := 12) (q0 := q151) rfl eq151, pz_pre hP hK hD hN⟩ rfl rfl hl.1 rfl (lv_room (Nat.le_of_ble_eq_true rfl)) dX12_way_19 ⟨Nat.le_of_ble_eq_true rfl, Nat.le_of_ble_eq_true rfl⟩) hS (fun q _ h => hFc q h) hFc (fun r152 f154 t H1 locs ht hvm hw153 hB hz1 hk1 hS => ?_)
    refine tn_4 hw153 (fun hT hF155 hw153r hw153p => ?_); clear hw153
    have hR := hR.then hF155 (by decide)
    have hP := hB.1; rw [ht] at hP; have hD := tp_ad f154 hD; clear hB hFc hz1 hk1; subst ht; generalize t.heap = H at hP hS ⊢
    have hw153pq : r152.toInt = (-1) := by rw [hw153p]; rfl
    have hf_156 : f154 (ρ h0 2) = .inl (κ 0, 12967, .inl g27) := (hF155 _ (by rw [tp_iu y1]; decide)).trans hf_33
    exact W.iret (v := r152) hx hb hr (fun t ht hW => ⟨⟨r152, f154, rfl, ⟨hT, hR, trivial, ⟨(by rw [hf_156, mo_i1]; exact hI), (by rw [hf_156, mo_i1, hf_o26, mo_i1]; exact hKN), (by simp only [hf_156, hf_o26, mo_i1]; exact ⟨fun q0 => by omega, fun q0 => ⟨fun q1 => by omega, fun q1 => ⟨fun q2 => by omega, fun q2 => (by omega)⟩⟩⟩)⟩⟩, by rw [ht]; exact hP, va_K.moved hW.alike hK, hD⟩, hS.F ht⟩) hS.2.2 dX12_way_22
end
