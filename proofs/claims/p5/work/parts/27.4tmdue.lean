set_option maxHeartbeats 4000000 in
set_option maxRecDepth 100000 in
theorem t_X12_back (l : Launch) (dC : Nat → ClassId) (dI : Nat → Nat → Nat) (sz : Nat) (κ : Nat → ClassId) (τ ν : Nat → Nat) (ρ : Nat → Nat → Nat) (L : List Nat) (f : Nat → va_E) (hG : tp_G τ ν ρ L) (hT : tp_T (mo_O κ) κ τ ν ρ f) (h0 : Nat) (v : Int32) (ht_h0 : τ h0 = 13) (hJ : mo_RI (-1) 0 (mo_R (mo_i (f (ρ h0 2))))) (hIM : mo_IM (mo_R (mo_i (f (ρ h0 3))))) : Met l yX12_back wqX12_back ({ frames := 3, cells := 0, slots := 0, locals := 800 }) (va_Pc [.ref h0, .int v] (pz_B dC dI (tp_K κ) (va_pl L f) sz)) (va_Qi (fun (r : Int32) (f1 : Nat → va_E) => tp_T (mo_O κ) κ τ ν ρ f1 ∧ tp_F τ [13, 32] f f1 ∧ True ∧ mo_RI (-1) 0 (mo_R (mo_i (f1 (ρ h0 2))))) (fun (f1 : Nat → va_E) (t : State) => pz_E dC dI (tp_K κ) (va_A (va_pl L f) sz) (va_pl L f1) t) (va_A (va_pl L f) sz)) 0 0 (va_A (va_pl L f) sz) := by
  refine Met.ofW (cc := cX12_back) (maxL := 3) (ret := some .int) (by decide) rfl ?_
  intro p e s m args below meth c s₁ B hml hv
  obtain ⟨rfl, hsz, hP, hK, hD0, hN⟩ := hv
  have hx := B.exec
  have hb := B.bytes
  have hr := B.returns
  have hts := fun (w : Cond) (h : w ∈ WALL) => atoms_spec (ws := wqX12_back) B.pre w (List.mem_cons_of_mem _ h)
  have hown : s.vm.findClass RX12 = some m.cls := findClass_of_methodNamed B.named
  have hlocks := B.notSynchronized
  subst hsz
  have hD := hD0.self (sz := s.heap.size)
  generalize hAe : va_A (va_pl L f) s.heap.size = A at hD ⊢
  have hA : ∀ q : Nat, s.heap.size ≤ q → A q := fun q h => by rw [← hAe]; exact Or.inr h
  have hS : va_S A s.heap s.heap [] := va_S.rf
  have hR : tp_F τ [13, 32] f f := tp_F.rf
  have hl := lv_entry ([.ref h0, .int v]) (n := 3) (Nat.le_of_ble_eq_true rfl)
  rw [lg_entry_eq]
  generalize (lg_sl ([.ref h0, .int v]) ++ List.replicate (3 - (lg_sl ([.ref h0, .int v])).length) Slot.unset).toArray = ls at hl ⊢
  have hl : lv_has ls 3 [(0, .ref h0), (1, .int v)] := hl
  refine tgk_13 hG ht_h0 (fun y1 y2 y3 y4 y5 y6 y7 y8 y9 y10 y11 y12 y13 y14 y15 y16 y17 y18 y19 y20 y21 y22 y23 y24 y25 => ?_)
  refine tpk_32 hT y1 (fun g27 hf_o26 => ?_)
  have hI : mo_RI (-1) 0 (mo_R g27) := by have q9 := hJ; rw [hf_o26, mo_i1] at q9; exact q9
  refine tpk_33 hT y2 (fun g29 hf_o28 => ?_)
  have tf30 : mo_hd (mo_i (f (ρ h0 3)) = g29) := tfa_i hf_o28
  replace hIM : mo_IM (mo_R g29) := by have q9 := hIM; first | (simp only [(mo_un tf30), mo_i1, mo_l1] at q9; exact q9) | (rw [(mo_un tf30)] at q9; exact q9)
  refine lv_aload_n hx hb dX12_back_0 rfl (lv_at hl 0 rfl) ?_
  refine lv_iconst (v := 0) hx hb dX12_back_1 (by decide) ?_
  refine tpk_13 hT ht_h0 (fun o31_x0 o31_x1 o31_x7 o31_x9 o31_x10 o31_x11 o31_x12 o31_x13 o31_x14 o31_x15 o31_x16 o31_x17 o31_x18 o31_x19 o31_x20 o31_x22 o31_x25 o31_x28 o31_x29 o31_x32 o31_x33 o31_x34 o31_x35 o31_x36 o31_x37 o31_x38 o31_x47 o31_x48 hf_o31 ro31_0 ro31_1 ro31_2 ro31_3 ro31_4 ro31_5 ro31_6 ro31_7 ro31_8 ro31_9 ro31_10 ro31_11 ro31_12 ro31_13 => ?_)
  refine tpk_pos (tp_in hG ht_h0 (by decide)) hf_o31 (fun q32 eq32 => ?_)
  refine va_put (D := (dC, dI)) (ci := 12) (v := .int 0) (ty := .int) (C := RX12) (T := TX12) (N := 53) hx hb hts hfX12 tyX12 tyX12_ok nmX12 hown hK hP hD hS q32 eq32 rfl 0 (by decide) (hts (.fieldLink RX12 91 "ColdShipsModel" "thrown" "I") wa_209) (fun _ h9 => h9) rfl (tyX12_ok 0 (by decide)) rfl rfl (Nat.le_of_ble_eq_true rfl) dX12_back_2 (tp_k (.inr (12, [.int 0, .int o31_x1, .ref (ρ h0 2), .ref (ρ h0 3), .ref (ρ h0 4), .ref (ρ h0 5), .ref (ρ h0 6), .int o31_x7, .ref (ρ h0 8), .int o31_x9, .int o31_x10, .int o31_x11, .int o31_x12, .long o31_x13, .int o31_x14, .int o31_x15, .int o31_x16, .int o31_x17, .int o31_x18, .int o31_x19, .int o31_x20, .ref (ρ h0 21), .int o31_x22, .ref (ρ h0 23), .ref (ρ h0 24), .int o31_x25, .ref (ρ h0 26), .ref (ρ h0 27), .int o31_x28, .int o31_x29, .ref (ρ h0 30), .ref (ρ h0 31), .int o31_x32, .long o31_x33, .long o31_x34, .long o31_x35, .int o31_x36, .int o31_x37, .int o31_x38, .ref (ρ h0 39), .ref (ρ h0 40), .ref (ρ h0 41), .ref (ρ h0 42), .ref (ρ h0 43), .ref (ρ h0 44), .ref (ρ h0 45), .ref (ρ h0 46), .int o31_x47, .int o31_x48, .ref (ρ h0 49), .ref (ρ h0 50), .ref (ρ h0 51), .ref (ρ h0 52)])) hD (tp_in hG ht_h0 (by decide)) eq32 (fun f33 H locs hP hD hS g35 k34 => ?_))
  have hT := hT.up ht_h0 g35 k34 ⟨_, _, _, _, _, _, _, _, _, _, _, _, _, _, _, _, _, _, _, _, _, _, _, _, _, _, _, _, rfl, ro31_0, ro31_1, ro31_2, ro31_3, ro31_4, ro31_5, ro31_6, ro31_7, ro31_8, ro31_9, ro31_10, ro31_11, ro31_12, ro31_13⟩
  have hR := hR.up ht_h0 (by decide) k34
  refine lv_iload_n hx hb dX12_back_5 rfl (lv_at hl 1 rfl) ?_
  refine lv_i2l hx hb dX12_back_6 rfl ?_
  refine lv_lconst (v := 0) hx hb dX12_back_7 (by decide) ?_
  refine lv_lconst (v := 1) hx hb dX12_back_8 (by decide) ?_
  have hf_36 : f33 (ρ h0 2) = .inl (κ 0, 12967, .inl g27) := (k34 _ (tp_ne y1 ht_h0 (by decide))).trans hf_o26
  refine pz_calli (va_runS (As := [.long v.toInt64, .long 0, .long 1]) (rest := []) ⟨hx, hb, hml, hown, hts⟩ (t_X12_in l dC dI _ v.toInt64 (0) (1) (v.toInt) (0) (1) (Int32.toInt_toInt64 v) rfl rfl) (va_cwS 3 hts gX12_back_X12_in rfl rfl rfl pd_X12_in ⟨Nat.le_of_ble_eq_true rfl, Nat.le_of_ble_eq_true rfl⟩) ⟨pz_blind, pz_pre pz_P0 (hK.sub (tys' := []) [] rfl) (pz_D0 (A := fun _ => True)) hN⟩ rfl rfl hl.1 rfl (lv_room (Nat.le_of_ble_eq_true rfl)) dX12_back_9 ⟨Nat.le_of_ble_eq_true rfl, Nat.le_of_ble_eq_true rfl⟩) (fun r37 hw38 => ?_)
  obtain ⟨hw38r, hw38p⟩ := hw38
  refine lv_if_ne (tgt := 21) hx hb dX12_back_12 (by decide) (fun c39 => ?_) (fun c39 => ?_)
  · have ic39 : r37.toInt ≠ 0 := zi_ne rfl rfl c39
    replace ic39 : 1 ≤ r37.toInt := by omega
    have p40 : (0) ≤ (v.toInt) ∧ (v.toInt) ≤ (1) := (tp_cond.yes hw38p) (by omega)
    refine lv_aload_n hx hb dX12_back_21 rfl (lv_at hl 0 rfl) ?_
    refine tpk_pos (tp_in hG ht_h0 (by decide)) g35 (fun q41 eq41 => ?_)
    refine va_get (D := (dC, dI)) (ci := 12) (v := .ref (ρ h0 4)) (C := RX12) (T := TX12) (N := 53) hx hb hts hfX12 hown hK hP q41 eq41 rfl 4 (by decide) (hts (.fieldLink RX12 16 "ColdShipsModel" "isKept" "[Z") wa_151) (fun _ h9 => h9) rfl dX12_back_22 ?_
    refine lv_iload_n hx hb dX12_back_25 rfl (lv_at hl 1 rfl) ?_
    refine tpk_34 hT y3 (fun g43 hf_o42 => ?_)
    refine tpk_pos (tp_in hG y3 (by decide)) hf_o42 (fun q44 eq44 => ?_)
    refine va_zald hx hb hK hP q44 3 eq44 rfl (vp_in_iff.mpr ⟨by omega, by omega⟩) dX12_back_26 ?_
    refine lv_topi (fun z45 ez45 => ?_)
    refine lv_if_ne (tgt := 37) hx hb dX12_back_27 (by decide) (fun c46 => ?_) (fun c46 => ?_)
    · have ic46 : z45.toInt ≠ 0 := zi_ne rfl rfl c46
      refine lv_iconst (v := 0) hx hb dX12_back_37 (by decide) ?_
      refine lv_istore_n (lv' := [(2, .int 0), (0, .ref h0), (1, .int v)]) hx hb dX12_back_38 rfl hl (by decide) rfl (fun ls hl => ?_)
      have hf_47 : f33 (ρ h0 3) = .inl (κ 0, 25934, .inl g29) := (k34 _ (tp_ne y2 ht_h0 (by decide))).trans hf_o28
      have tf48 : mo_hd (mo_i (f33 (ρ h0 3)) = g29) := tfa_i hf_47
      refine pz_loop (fun n0 H locs ls => ∃ f51 : Nat → va_E, ∃ w49 : Int32, n0 = (12967 - (w49.toInt)).toNat ∧ tp_T (mo_O κ) κ τ ν ρ f51 ∧ tp_F τ [13, 32] f f51 ∧ f51 (ρ h0 3) = .inl (κ 0, 25934, .inl g29) ∧ ((mo_CP (mo_R g27) (fun j => (mo_R g29) (12967 * v.toInt + j)) (mo_R (mo_i (f51 (ρ h0 2)))) 0 (w49.toInt))) ∧ (0 ≤ w49.toInt ∧ w49.toInt ≤ 12967) ∧ va_P (dC, dI) vwCl (va_pl L f51) H ∧ va_D A (va_pl L f51) ∧ va_S A s.heap H locs ∧ lv_has ls 3 [(2, .int w49), (0, .ref h0), (1, .int v)]) ?_ _ _ _ _ ⟨f33, 0, rfl, hT, hR, hf_47, (by rw [hf_36, mo_i1]; exact mo_CP.rf (by decide)), (by have : (0 : Int32).toInt = 0 := rfl; omega), hP, hD, hS, lv_sub hl [0, 1, 2] rfl⟩
      intro n0 H locs ls hI ih53
      refine Exists.elim hI (fun f51 hE90 => Exists.elim hE90 (fun w49 hE91 => tn_10 hE91 (fun hn54 hT hR hk50k hJ rw49 hP hD hS hl => ?_)))
      clear hE91 hE90 hI
      refine tpk_32 hT y1 (fun g56 hf_o55 => ?_)
      have hI : mo_CP (mo_R g27) (fun j => (mo_R g29) (12967 * v.toInt + j)) (mo_R g56) 0 (w49.toInt) := by have q9 := hJ; rw [hf_o55, mo_i1] at q9; exact q9
      refine lv_iload_n hx hb dX12_back_39 rfl (lv_at hl 0 rfl) ?_
      refine lv_sipush (v := 12967) hx hb dX12_back_40 (by decide) ?_
      refine lv_icmp_ge (tgt := 70) hx hb dX12_back_43 (by decide) (fun c57 => ?_) (fun c57 => ?_)
      · have ic57 : w49.toInt ≥ 12967 := zi_ge rfl rfl c57
        have hI := hIM.get (by omega) (by omega) hI (by omega)
        refine lv_aload_n hx hb dX12_back_70 rfl (lv_at hl 1 rfl) ?_
        refine lv_iconst (v := 0) hx hb dX12_back_71 (by decide) ?_
        refine tpk_13 hT ht_h0 (fun o58_x0 o58_x1 o58_x7 o58_x9 o58_x10 o58_x11 o58_x12 o58_x13 o58_x14 o58_x15 o58_x16 o58_x17 o58_x18 o58_x19 o58_x20 o58_x22 o58_x25 o58_x28 o58_x29 o58_x32 o58_x33 o58_x34 o58_x35 o58_x36 o58_x37 o58_x38 o58_x47 o58_x48 hf_o58 ro58_0 ro58_1 ro58_2 ro58_3 ro58_4 ro58_5 ro58_6 ro58_7 ro58_8 ro58_9 ro58_10 ro58_11 ro58_12 ro58_13 => ?_)
        refine tpk_pos (tp_in hG ht_h0 (by decide)) hf_o58 (fun q59 eq59 => ?_)
        have hFc := tp_fr hD hS hA
        refine va_calli (va_runV (As := [.int 0]) (rest := []) ⟨hx, hb, hml, hown, hts⟩ (t_X12_told l dC dI _ κ τ ν ρ L f51 hG hT h0 (0) ht_h0) (cwV 1 hts gX12_back_X12_told rfl rfl rfl ⟨rfl, pd_X12_told⟩ ⟨Nat.le_of_ble_eq_true rfl, Nat.le_of_ble_eq_true rfl⟩) ⟨pz_blind, va_recv hK hP (ci := 12) (q0 := q59) rfl eq59, pz_pre hP hK hD hN⟩ rfl rfl hl.1 rfl (lv_room (Nat.le_of_ble_eq_true rfl)) dX12_back_72 ⟨Nat.le_of_ble_eq_true rfl, Nat.le_of_ble_eq_true rfl⟩) hS (fun q _ h => hFc q h) hFc (fun r60 f62 t H1 locs ht hvm hw61 hB hz1 hk1 hS => ?_)
        refine tn_4 hw61 (fun hT hF63 hw61r hw61p => ?_); clear hw61
        have hR := hR.then hF63 (by decide)
        have hP := hB.1; rw [ht] at hP; have hD := tp_ad f62 hD; clear hB hFc hz1 hk1; subst ht; generalize t.heap = H at hP hS ⊢
        have hw61pq : r60.toInt = 0 := by rw [hw61p]; rfl
        have hf_64 : f62 (ρ h0 2) = .inl (κ 0, 12967, .inl g56) := (hF63 _ (by rw [y1]; decide)).trans hf_o55
        exact W.iret (v := r60) hx hb hr (fun t ht hW => ⟨⟨r60, f62, rfl, ⟨hT, hR, trivial, (by rw [hf_64, mo_i1]; exact hI)⟩, by rw [ht]; exact hP, va_K.moved hW.alike hK, hD⟩, hS.F ht⟩) hS.2.2 dX12_back_75
      · have ic57 : w49.toInt < 12967 := zi_gef rfl rfl c57
        refine lv_aload_n hx hb dX12_back_46 rfl (lv_at hl 1 rfl) ?_
        refine tpk_13 hT ht_h0 (fun o65_x0 o65_x1 o65_x7 o65_x9 o65_x10 o65_x11 o65_x12 o65_x13 o65_x14 o65_x15 o65_x16 o65_x17 o65_x18 o65_x19 o65_x20 o65_x22 o65_x25 o65_x28 o65_x29 o65_x32 o65_x33 o65_x34 o65_x35 o65_x36 o65_x37 o65_x38 o65_x47 o65_x48 hf_o65 ro65_0 ro65_1 ro65_2 ro65_3 ro65_4 ro65_5 ro65_6 ro65_7 ro65_8 ro65_9 ro65_10 ro65_11 ro65_12 ro65_13 => ?_)
        refine tpk_pos (tp_in hG ht_h0 (by decide)) hf_o65 (fun q66 eq66 => ?_)
        refine va_get (D := (dC, dI)) (ci := 12) (v := .ref (ρ h0 2)) (C := RX12) (T := TX12) (N := 53) hx hb hts hfX12 hown hK hP q66 eq66 rfl 2 (by decide) (hts (.fieldLink RX12 7 "ColdShipsModel" "row" "[I") wa_148) (fun _ h9 => h9) rfl dX12_back_47 ?_
        refine lv_iload_n hx hb dX12_back_50 rfl (lv_at hl 0 rfl) ?_
        refine lv_aload_n hx hb dX12_back_51 rfl (lv_at hl 1 rfl) ?_
        refine va_get (D := (dC, dI)) (ci := 12) (v := .ref (ρ h0 3)) (C := RX12) (T := TX12) (N := 53) hx hb hts hfX12 hown hK hP q66 eq66 rfl 3 (by decide) (hts (.fieldLink RX12 13 "ColdShipsModel" "images" "[I") wa_149) (fun _ h9 => h9) rfl dX12_back_52 ?_
        refine lv_sipush (v := 12967) hx hb dX12_back_55 (by decide) ?_
        refine lv_iload_n hx hb dX12_back_58 rfl (lv_at hl 2 rfl) ?_
        refine lv_imul hx hb dX12_back_59 ?_
        refine lv_topi (fun z67 ez67 => ?_)
        have iz67 : z67.toInt = 12967 * v.toInt := zi_mul ez67 rfl rfl (by omega) (by omega)
        refine lv_iload_n hx hb dX12_back_60 rfl (lv_at hl 0 rfl) ?_
        refine lv_iadd hx hb dX12_back_61 ?_
        refine lv_topi (fun z68 ez68 => ?_)
        have iz68 : z68.toInt = z67.toInt + w49.toInt := zi_add ez68 rfl rfl (by omega) (by omega)
        refine tpk_pos (tp_in hG y2 (by decide)) hk50k (fun q69 eq69 => ?_)
        refine va_iald hx hb hK hP q69 0 eq69 rfl (vp_in_iff.mpr ⟨by omega, by omega⟩) dX12_back_62 ?_
        refine lv_topi (fun z70 ez70 => ?_)
        have jz70 : z70.toInt = mo_R g29 (12967 * v.toInt + w49.toInt) := mo_rd ez70 (by omega)
        refine tpk_pos (tp_in hG y1 (by decide)) hf_o55 (fun q71 eq71 => ?_)
        refine va_iast hx hb hK hP hD hS q71 0 eq71 rfl (vp_in_iff.mpr ⟨by omega, by omega⟩) dX12_back_63 (tp_k (.inl (κ 0, 12967, .inl (upd g56 w49.toNatClampNeg z70))) hD (tp_in hG y1 (by decide)) eq71 (fun f72 H locs hP hD hS g74 k73 => ?_))
        have hT := hT.up y1 g74 k73 tp_o32
        have hR := hR.up y1 (by decide) k73
        have hU : mo_U (mo_R g56) (mo_R (upd g56 w49.toNatClampNeg z70)) (0 + w49.toInt) (z70.toInt) := mo_up (by omega) (rfl : z70.toInt = _) (by omega)
        generalize (upd g56 w49.toNatClampNeg z70) = g75 at g74 hU
        have hI := mo_CP.up hI hU (by omega) (by show z70.toInt = (mo_R g29) (12967 * v.toInt + w49.toInt); omega) (by omega) (w49.toInt + 1) (by omega)
        have pn76 : mo_R g75 (0 + w49.toInt) = z70.toInt := hU.eq (by omega)
        obtain ⟨z77, ez77⟩ : ∃ y : Int32, y = w49 + 1 := ⟨_, rfl⟩
        refine lv_iinc (v := z77) (lv' := [(2, .int z77), (0, .ref h0), (1, .int v)]) hx hb dX12_back_64 hl (k := 0) rfl (by rw [ez77]; rfl) (by decide) rfl (fun ls hl => ?_)
        have iz77 : z77.toInt = w49.toInt + 1 := zi_add ez77 rfl rfl (by omega) (by omega)
        refine lv_goto (tgt := 39) hx hb dX12_back_67 (by decide) ?_
        have hf_78 : f72 (ρ h0 3) = .inl (κ 0, 25934, .inl g29) := (k73 _ (tp_ne y2 y1 (by decide))).trans hk50k
        exact ih53 _ _ _ _ (by rw [hn54]; omega) ⟨f72, z77, rfl, hT, hR, hf_78, (by rw [g74, mo_i1]; exact (by rw [show z77.toInt = w49.toInt + 1 by omega]; exact hI)), (by omega), hP, hD, hS, lv_sub hl [0, 1, 2] rfl⟩
    · have ic46 : z45.toInt = 0 := zi_nef rfl rfl c46
      refine lv_aload_n hx hb dX12_back_30 rfl (lv_at hl 0 rfl) ?_
      refine lv_bipush (v := (-2)) hx hb dX12_back_31 (by decide) ?_
      have hFc := tp_fr hD hS hA
      refine va_calli (va_runV (As := [.int (-2)]) (rest := []) ⟨hx, hb, hml, hown, hts⟩ (t_X12_told l dC dI _ κ τ ν ρ L f33 hG hT h0 ((-2)) ht_h0) (cwV 1 hts gX12_back_X12_told rfl rfl rfl ⟨rfl, pd_X12_told⟩ ⟨Nat.le_of_ble_eq_true rfl, Nat.le_of_ble_eq_true rfl⟩) ⟨pz_blind, va_recv hK hP (ci := 12) (q0 := q41) rfl eq41, pz_pre hP hK hD hN⟩ rfl rfl hl.1 rfl (lv_room (Nat.le_of_ble_eq_true rfl)) dX12_back_33 ⟨Nat.le_of_ble_eq_true rfl, Nat.le_of_ble_eq_true rfl⟩) hS (fun q _ h => hFc q h) hFc (fun r79 f81 t H1 locs ht hvm hw80 hB hz1 hk1 hS => ?_)
      refine tn_4 hw80 (fun hT hF82 hw80r hw80p => ?_); clear hw80
      have hR := hR.then hF82 (by decide)
      have hP := hB.1; rw [ht] at hP; have hD := tp_ad f81 hD; clear hB hFc hz1 hk1; subst ht; generalize t.heap = H at hP hS ⊢
      have hw80pq : r79.toInt = (-2) := by rw [hw80p]; rfl
      have hf_83 : f81 (ρ h0 2) = .inl (κ 0, 12967, .inl g27) := (hF82 _ (by rw [y1]; decide)).trans hf_36
      exact W.iret (v := r79) hx hb hr (fun t ht hW => ⟨⟨r79, f81, rfl, ⟨hT, hR, trivial, (by rw [hf_83, mo_i1]; exact hI)⟩, by rw [ht]; exact hP, va_K.moved hW.alike hK, hD⟩, hS.F ht⟩) hS.2.2 dX12_back_36
  · have ic39 : r37.toInt = 0 := zi_nef rfl rfl c39
    refine lv_aload_n hx hb dX12_back_15 rfl (lv_at hl 0 rfl) ?_
    refine lv_iconst (v := (-1)) hx hb dX12_back_16 (by decide) ?_
    refine tpk_pos (tp_in hG ht_h0 (by decide)) g35 (fun q84 eq84 => ?_)
    have hFc := tp_fr hD hS hA
    refine va_calli (va_runV (As := [.int (-1)]) (rest := []) ⟨hx, hb, hml, hown, hts⟩ (t_X12_told l dC dI _ κ τ ν ρ L f33 hG hT h0 ((-1)) ht_h0) (cwV 1 hts gX12_back_X12_told rfl rfl rfl ⟨rfl, pd_X12_told⟩ ⟨Nat.le_of_ble_eq_true rfl, Nat.le_of_ble_eq_true rfl⟩) ⟨pz_blind, va_recv hK hP (ci := 12) (q0 := q84) rfl eq84, pz_pre hP hK hD hN⟩ rfl rfl hl.1 rfl (lv_room (Nat.le_of_ble_eq_true rfl)) dX12_back_17 ⟨Nat.le_of_ble_eq_true rfl, Nat.le_of_ble_eq_true rfl⟩) hS (fun q _ h => hFc q h) hFc (fun r85 f87 t H1 locs ht hvm hw86 hB hz1 hk1 hS => ?_)
    refine tn_4 hw86 (fun hT hF88 hw86r hw86p => ?_); clear hw86
    have hR := hR.then hF88 (by decide)
    have hP := hB.1; rw [ht] at hP; have hD := tp_ad f87 hD; clear hB hFc hz1 hk1; subst ht; generalize t.heap = H at hP hS ⊢
    have hw86pq : r85.toInt = (-1) := by rw [hw86p]; rfl
    have hf_89 : f87 (ρ h0 2) = .inl (κ 0, 12967, .inl g27) := (hF88 _ (by rw [y1]; decide)).trans hf_36
    exact W.iret (v := r85) hx hb hr (fun t ht hW => ⟨⟨r85, f87, rfl, ⟨hT, hR, trivial, (by rw [hf_89, mo_i1]; exact hI)⟩, by rw [ht]; exact hP, va_K.moved hW.alike hK, hD⟩, hS.F ht⟩) hS.2.2 dX12_back_20
