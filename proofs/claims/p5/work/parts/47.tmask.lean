set_option maxHeartbeats 4000000 in
set_option maxRecDepth 100000 in
theorem t_X12_billed (l : Launch) (dC : Nat → ClassId) (dI : Nat → Nat → Nat) (sz : Nat) (κ : Nat → ClassId) (τ ν : Nat → Nat) (ρ : Nat → Nat → Nat) (L : List Nat) (f : Nat → va_E) (hG : tp_G τ ν ρ L) (hT : tp_T (mo_O κ) κ τ ν ρ f) (h0 : Nat) (ul : Int32) (x : Int) (b : Int) (ql : Int) (ht_h0 : τ h0 = 13) (hL_ul : ul.toInt = 1051 + 16 * ql) (hq_ul : 0 ≤ ql ∧ ql ≤ 59) (hJ : mo_RI x b (mo_R (mo_i (f (ρ h0 2))))) : Met l yX12_billed wsX12_billed ({ frames := 2, cells := 0, slots := 0, locals := 400 }) (va_Pc [.ref h0, .int ul] (pz_B dC dI (tp_K κ) (va_pl L f) sz)) (vp_Si (fun r => True ∧ True)) 0 0 (fun _ => False) := by
  refine Met.ofW (cc := cX12_billed) (maxL := 2) (ret := some .int) (by decide) rfl ?_
  intro p e s m args below meth c s₁ B hml hv
  obtain ⟨rfl, hsz, hP, hK, hD0, hN⟩ := hv
  have hx := B.exec
  have hb := B.bytes
  have hr := B.returns
  have hts := atoms_spec (ws := wsX12_billed) B.pre
  have hown : s.vm.findClass RX12 = some m.cls := findClass_of_methodNamed B.named
  have hlocks := B.notSynchronized
  subst hsz
  have hD := hD0
  have hS : va_S (fun _ => True) s.heap s.heap [] := va_S.rf
  have hl := lv_entry ([.ref h0, .int ul]) (n := 2) (Nat.le_of_ble_eq_true rfl)
  rw [lg_entry_eq]
  generalize (lg_sl ([.ref h0, .int ul]) ++ List.replicate (2 - (lg_sl ([.ref h0, .int ul])).length) Slot.unset).toArray = ls at hl ⊢
  have hl : lv_has ls 2 [(0, .ref h0), (1, .int ul)] := hl
  have hfX12 : ∀ w ∈ wsX120, w ∈ wsX12_billed := fun w h => List.mem_cons_of_mem _ (List.mem_append_right _ h)
  obtain ⟨y1, y2, y3, y4, y5, y6, y7, y8, y9, y10, y11, y12, y13, y14, y15, y16, y17, y18, y19, y20, y21, y22, y23, y24, y25⟩ := tpg_13 hG ht_h0
  obtain ⟨g27, hf_o26⟩ := tpo_32 hT y1
  have hI : mo_RI x b (mo_R g27) := by have q9 := hJ; rw [hf_o26, mo_i1] at q9; exact q9
  refine lv_aload_n hx hb dX12_billed_0 rfl (lv_at hl 0 rfl) ?_
  obtain ⟨o28_x0, o28_x1, o28_x7, o28_x9, o28_x10, o28_x11, o28_x12, o28_x13, o28_x14, o28_x15, o28_x16, o28_x17, o28_x18, o28_x19, o28_x20, o28_x22, o28_x25, o28_x28, o28_x29, o28_x32, o28_x33, o28_x34, o28_x35, o28_x36, o28_x37, o28_x38, o28_x47, o28_x48, hf_o28, ro28_0, ro28_1, ro28_2, ro28_3, ro28_4, ro28_5, ro28_6, ro28_7, ro28_8, ro28_9, ro28_10, ro28_11, ro28_12, ro28_13⟩ := tpo_13 hT ht_h0
  obtain ⟨q29, eq29⟩ := tp_pos (tp_in hG ht_h0 (by decide)) hf_o28
  refine va_get (D := (dC, dI)) (ci := 12) (v := .ref (ρ h0 2)) (C := RX12) (T := TX12) (N := 53) hx hb hts hfX12 hown hK hP q29 eq29 rfl 2 (by decide) (hts (.fieldLink RX12 7 "ColdShipsModel" "row" "[I") (by decide +kernel)) (fun _ h9 => h9) rfl dX12_billed_1 ?_
  refine lv_iload_n hx hb dX12_billed_4 rfl (lv_at hl 1 rfl) ?_
  refine lv_bipush (v := 11) hx hb dX12_billed_5 (by decide) ?_
  refine lv_iadd hx hb dX12_billed_7 ?_
  refine lv_topi (fun z30 ez30 => ?_)
  have iz30 : z30.toInt = ul.toInt + 11 := zi_add ez30 rfl rfl (by omega) (by omega)
  obtain ⟨q31, eq31⟩ := tp_pos (tp_in hG y1 (by decide)) hf_o26
  refine va_iald hx hb hK hP q31 0 eq31 rfl (vp_in_iff.mpr ⟨by omega, by omega⟩) dX12_billed_8 ?_
  refine lv_topi (fun z32 ez32 => ?_)
  refine lv_iconst (v := (-1)) hx hb dX12_billed_9 (by decide) ?_
  refine lv_icmp_ne (tgt := 24) hx hb dX12_billed_10 (by decide) (fun c33 => ?_) (fun c33 => ?_)
  · have ic33 : z32.toInt ≠ (-1) := zi_ne rfl rfl c33
    refine lv_aload_n hx hb dX12_billed_24 rfl (lv_at hl 0 rfl) ?_
    refine va_get (D := (dC, dI)) (ci := 12) (v := .ref (ρ h0 2)) (C := RX12) (T := TX12) (N := 53) hx hb hts hfX12 hown hK hP q29 eq29 rfl 2 (by decide) (hts (.fieldLink RX12 7 "ColdShipsModel" "row" "[I") (by decide +kernel)) (fun _ h9 => h9) rfl dX12_billed_25 ?_
    refine lv_iload_n hx hb dX12_billed_28 rfl (lv_at hl 1 rfl) ?_
    refine lv_bipush (v := 11) hx hb dX12_billed_29 (by decide) ?_
    refine lv_iadd hx hb dX12_billed_31 ?_
    refine lv_topi (fun z34 ez34 => ?_)
    have iz34 : z34.toInt = ul.toInt + 11 := zi_add ez34 rfl rfl (by omega) (by omega)
    refine va_iald hx hb hK hP q31 0 eq31 rfl (vp_in_iff.mpr ⟨by omega, by omega⟩) dX12_billed_32 ?_
    refine lv_topi (fun z35 ez35 => ?_)
    exact W.iret (v := z35) hx hb hr (fun t ht hW => ⟨z35, rfl, ⟨trivial, trivial⟩, ht⟩) (fun _ h => by cases h) dX12_billed_33
  · have ic33 : z32.toInt = (-1) := zi_nef rfl rfl c33
    refine lv_aload_n hx hb dX12_billed_13 rfl (lv_at hl 0 rfl) ?_
    refine va_get (D := (dC, dI)) (ci := 12) (v := .ref (ρ h0 2)) (C := RX12) (T := TX12) (N := 53) hx hb hts hfX12 hown hK hP q29 eq29 rfl 2 (by decide) (hts (.fieldLink RX12 7 "ColdShipsModel" "row" "[I") (by decide +kernel)) (fun _ h9 => h9) rfl dX12_billed_14 ?_
    refine lv_iload_n hx hb dX12_billed_17 rfl (lv_at hl 1 rfl) ?_
    refine lv_iconst (v := 4) hx hb dX12_billed_18 (by decide) ?_
    refine lv_iadd hx hb dX12_billed_19 ?_
    refine lv_topi (fun z36 ez36 => ?_)
    have iz36 : z36.toInt = ul.toInt + 4 := zi_add ez36 rfl rfl (by omega) (by omega)
    refine va_iald hx hb hK hP q31 0 eq31 rfl (vp_in_iff.mpr ⟨by omega, by omega⟩) dX12_billed_20 ?_
    refine lv_topi (fun z37 ez37 => ?_)
    refine lv_goto (tgt := 33) hx hb dX12_billed_21 (by decide) ?_
    exact W.iret (v := z37) hx hb hr (fun t ht hW => ⟨z37, rfl, ⟨trivial, trivial⟩, ht⟩) (fun _ h => by cases h) dX12_billed_33
set_option maxHeartbeats 4000000 in
set_option maxRecDepth 100000 in
theorem t_X12_heatOf (l : Launch) (dC : Nat → ClassId) (dI : Nat → Nat → Nat) (sz : Nat) (κ : Nat → ClassId) (τ ν : Nat → Nat) (ρ : Nat → Nat → Nat) (L : List Nat) (f : Nat → va_E) (hG : tp_G τ ν ρ L) (hT : tp_T (mo_O κ) κ τ ν ρ f) (h0 : Nat) (ul : Int32) (x : Int) (b : Int) (ql : Int) (ht_h0 : τ h0 = 13) (hL_ul : ul.toInt = 1051 + 16 * ql) (hq_ul : 0 ≤ ql ∧ ql ≤ 59) (hJ : mo_RI x b (mo_R (mo_i (f (ρ h0 2))))) (hn5 : ql < (mo_R (mo_i (f (ρ h0 2)))) (5)) : Met l yX12_heatOf wsX12_heatOf ({ frames := 3, cells := 0, slots := 0, locals := 800 }) (va_Pc [.ref h0, .int ul] (pz_B dC dI (tp_K κ) (va_pl L f) sz)) (vp_Si (fun r => True ∧ True)) 0 0 (fun _ => False) := by
  refine Met.ofW (cc := cX12_heatOf) (maxL := 5) (ret := some .int) (by decide) rfl ?_
  intro p e s m args below meth c s₁ B hml hv
  obtain ⟨rfl, hsz, hP, hK, hD0, hN⟩ := hv
  have hx := B.exec
  have hb := B.bytes
  have hr := B.returns
  have hts := atoms_spec (ws := wsX12_heatOf) B.pre
  have hown : s.vm.findClass RX12 = some m.cls := findClass_of_methodNamed B.named
  have hlocks := B.notSynchronized
  subst hsz
  have hD := hD0
  have hS : va_S (fun _ => True) s.heap s.heap [] := va_S.rf
  have hl := lv_entry ([.ref h0, .int ul]) (n := 5) (Nat.le_of_ble_eq_true rfl)
  rw [lg_entry_eq]
  generalize (lg_sl ([.ref h0, .int ul]) ++ List.replicate (5 - (lg_sl ([.ref h0, .int ul])).length) Slot.unset).toArray = ls at hl ⊢
  have hl : lv_has ls 5 [(0, .ref h0), (1, .int ul)] := hl
  have hfX12 : ∀ w ∈ wsX120, w ∈ wsX12_heatOf := fun w h => List.mem_cons_of_mem _ (List.mem_append_right _ h)
  obtain ⟨y1, y2, y3, y4, y5, y6, y7, y8, y9, y10, y11, y12, y13, y14, y15, y16, y17, y18, y19, y20, y21, y22, y23, y24, y25⟩ := tpg_13 hG ht_h0
  obtain ⟨g27, hf_o26⟩ := tpo_32 hT y1
  have hI : mo_RI x b (mo_R g27) := by have q9 := hJ; rw [hf_o26, mo_i1] at q9; exact q9
  rw [hf_o26, mo_i1] at hn5
  refine lv_lconst (v := 0) hx hb dX12_heatOf_0 (by decide) ?_
  refine lv_lstore_n (lv' := [(2, .long 0), (0, .ref h0), (1, .int ul)]) hx hb dX12_heatOf_1 rfl hl (by decide) rfl (fun ls hl => ?_)
  refine lv_iconst (v := 0) hx hb dX12_heatOf_2 (by decide) ?_
  refine lv_istore (lv' := [(4, .int 0), (2, .long 0), (0, .ref h0), (1, .int ul)]) hx hb dX12_heatOf_3 hl (by decide) rfl (fun ls hl => ?_)
  refine pz_loop (fun n0 H locs ls => ∃ w28 : Int32, ∃ w29 : Int64, n0 = (6 - (w28.toInt)).toNat ∧ (0 ≤ w28.toInt ∧ w28.toInt ≤ 6) ∧ H = s.heap ∧ locs = [] ∧ lv_has ls 5 [(4, .int w28), (2, .long w29), (0, .ref h0), (1, .int ul)]) ?_ _ _ _ _ ⟨0, 0, rfl, (by have : (0 : Int32).toInt = 0 := rfl; have : (0 : Int64).toInt = 0 := rfl; omega), rfl, rfl, lv_sub hl [0, 1, 2, 3] rfl⟩
  intro n0 H locs ls hI ih30
  obtain ⟨w28, w29, hn31, rw28, rfl, rfl, hl⟩ := hI
  refine lv_iload hx hb dX12_heatOf_5 (lv_at hl 0 rfl) ?_
  refine lv_aload_n hx hb dX12_heatOf_7 rfl (lv_at hl 2 rfl) ?_
  obtain ⟨o32_x0, o32_x1, o32_x7, o32_x9, o32_x10, o32_x11, o32_x12, o32_x13, o32_x14, o32_x15, o32_x16, o32_x17, o32_x18, o32_x19, o32_x20, o32_x22, o32_x25, o32_x28, o32_x29, o32_x32, o32_x33, o32_x34, o32_x35, o32_x36, o32_x37, o32_x38, o32_x47, o32_x48, hf_o32, ro32_0, ro32_1, ro32_2, ro32_3, ro32_4, ro32_5, ro32_6, ro32_7, ro32_8, ro32_9, ro32_10, ro32_11, ro32_12, ro32_13⟩ := tpo_13 hT ht_h0
  obtain ⟨q33, eq33⟩ := tp_pos (tp_in hG ht_h0 (by decide)) hf_o32
  refine va_get (D := (dC, dI)) (ci := 12) (v := .ref (ρ h0 2)) (C := RX12) (T := TX12) (N := 53) hx hb hts hfX12 hown hK hP q33 eq33 rfl 2 (by decide) (hts (.fieldLink RX12 7 "ColdShipsModel" "row" "[I") (by decide +kernel)) (fun _ h9 => h9) rfl dX12_heatOf_8 ?_
  refine lv_iconst (v := 0) hx hb dX12_heatOf_11 (by decide) ?_
  obtain ⟨q34, eq34⟩ := tp_pos (tp_in hG y1 (by decide)) hf_o26
  refine va_iald hx hb hK hP q34 0 eq34 rfl (vp_in_iff.mpr ⟨by decide, by decide⟩) dX12_heatOf_12 ?_
  refine lv_topi (fun z35 ez35 => ?_)
  have jz35 : z35.toInt = mo_R g27 (0) := mo_rd ez35 (show (0 : Int32).toInt = (0) from by decide)
  have kz35 := hI.k0
  refine lv_icmp_ge (tgt := 51) hx hb dX12_heatOf_13 (by decide) (fun c36 => ?_) (fun c36 => ?_)
  · have ic36 : w28.toInt ≥ z35.toInt := zi_ge rfl rfl c36
    refine lv_lload_n hx hb dX12_heatOf_51 rfl (lv_at hl 1 rfl) ?_
    refine lv_aload_n hx hb dX12_heatOf_52 rfl (lv_at hl 2 rfl) ?_
    refine va_get (D := (dC, dI)) (ci := 12) (v := .ref (ρ h0 2)) (C := RX12) (T := TX12) (N := 53) hx hb hts hfX12 hown hK hP q33 eq33 rfl 2 (by decide) (hts (.fieldLink RX12 7 "ColdShipsModel" "row" "[I") (by decide +kernel)) (fun _ h9 => h9) rfl dX12_heatOf_53 ?_
    refine lv_iload_n hx hb dX12_heatOf_56 rfl (lv_at hl 3 rfl) ?_
    refine lv_iconst (v := 4) hx hb dX12_heatOf_57 (by decide) ?_
    refine lv_iadd hx hb dX12_heatOf_58 ?_
    refine lv_topi (fun z37 ez37 => ?_)
    have iz37 : z37.toInt = ul.toInt + 4 := zi_add ez37 rfl rfl (by omega) (by omega)
    refine va_iald hx hb hK hP q34 0 eq34 rfl (vp_in_iff.mpr ⟨by omega, by omega⟩) dX12_heatOf_59 ?_
    refine lv_topi (fun z38 ez38 => ?_)
    have jz38 : z38.toInt = mo_R g27 (1051 + 16 * ql + 4) := mo_rd ez38 (by omega)
    have kz38 := hI.LT (l := ql) (by omega) (by omega)
    refine lv_i2l hx hb dX12_heatOf_60 rfl ?_
    refine lv_ldiv hx hb dX12_heatOf_61 (zl_nz (by omega) (Int32.toInt_toInt64 z38)) ?_
    refine lv_topl (fun z39 ez39 => ?_)
    refine lv_l2i hx hb dX12_heatOf_62 rfl ?_
    refine lv_topi (fun z40 ez40 => ?_)
    exact W.iret (v := z40) hx hb hr (fun t ht hW => ⟨z40, rfl, ⟨trivial, trivial⟩, ht⟩) (fun _ h => by cases h) dX12_heatOf_63
  · have ic36 : w28.toInt < z35.toInt := zi_gef rfl rfl c36
    refine lv_lload_n hx hb dX12_heatOf_16 rfl (lv_at hl 1 rfl) ?_
    refine lv_aload_n hx hb dX12_heatOf_17 rfl (lv_at hl 2 rfl) ?_
    refine va_get (D := (dC, dI)) (ci := 12) (v := .ref (ρ h0 2)) (C := RX12) (T := TX12) (N := 53) hx hb hts hfX12 hown hK hP q33 eq33 rfl 2 (by decide) (hts (.fieldLink RX12 7 "ColdShipsModel" "row" "[I") (by decide +kernel)) (fun _ h9 => h9) rfl dX12_heatOf_18 ?_
    refine lv_iload_n hx hb dX12_heatOf_21 rfl (lv_at hl 3 rfl) ?_
    refine lv_iconst (v := 5) hx hb dX12_heatOf_22 (by decide) ?_
    refine lv_iadd hx hb dX12_heatOf_23 ?_
    refine lv_topi (fun z41 ez41 => ?_)
    have iz41 : z41.toInt = ul.toInt + 5 := zi_add ez41 rfl rfl (by omega) (by omega)
    refine lv_iload hx hb dX12_heatOf_24 (lv_at hl 0 rfl) ?_
    refine lv_iadd hx hb dX12_heatOf_26 ?_
    refine lv_topi (fun z42 ez42 => ?_)
    have iz42 : z42.toInt = z41.toInt + w28.toInt := zi_add ez42 rfl rfl (by omega) (by omega)
    refine va_iald hx hb hK hP q34 0 eq34 rfl (vp_in_iff.mpr ⟨by omega, by omega⟩) dX12_heatOf_27 ?_
    refine lv_topi (fun z43 ez43 => ?_)
    refine lv_i2l hx hb dX12_heatOf_28 rfl ?_
    refine lv_aload_n hx hb dX12_heatOf_29 rfl (lv_at hl 2 rfl) ?_
    refine va_get (D := (dC, dI)) (ci := 12) (v := .ref (ρ h0 2)) (C := RX12) (T := TX12) (N := 53) hx hb hts hfX12 hown hK hP q33 eq33 rfl 2 (by decide) (hts (.fieldLink RX12 7 "ColdShipsModel" "row" "[I") (by decide +kernel)) (fun _ h9 => h9) rfl dX12_heatOf_30 ?_
    refine lv_iload hx hb dX12_heatOf_33 (lv_at hl 0 rfl) ?_
    refine pz_calli (va_runS (As := [.int w28]) (rest := [.ref (ρ h0 2), .long z43.toInt64, .long w29]) ⟨hx, hb, hml, hown, hts⟩ (t_X12_terminalAt l dC dI _ w28 (w28.toInt) (by omega) rfl) (va_cwS 1 hts gX12_heatOf_X12_terminalAt rfl rfl rfl (by decide +kernel) ⟨Nat.le_of_ble_eq_true rfl, Nat.le_of_ble_eq_true rfl⟩) ⟨pz_blind, pz_pre pz_P0 (hK.sub (tys' := []) [] rfl) (pz_D0 (A := fun _ => True)) hN⟩ rfl rfl hl.1 rfl (lv_room (Nat.le_of_ble_eq_true rfl)) dX12_heatOf_35 ⟨Nat.le_of_ble_eq_true rfl, Nat.le_of_ble_eq_true rfl⟩) (fun r44 hw45 => ?_)
    obtain ⟨hw45r, hw45p⟩ := hw45
    refine lv_iconst (v := 4) hx hb dX12_heatOf_38 (by decide) ?_
    refine lv_iadd hx hb dX12_heatOf_39 ?_
    refine lv_topi (fun z46 ez46 => ?_)
    have iz46 : z46.toInt = r44.toInt + 4 := zi_add ez46 rfl rfl (by omega) (by omega)
    refine va_iald hx hb hK hP q34 0 eq34 rfl (vp_in_iff.mpr ⟨by omega, by omega⟩) dX12_heatOf_40 ?_
    refine lv_topi (fun z47 ez47 => ?_)
    refine lv_i2l hx hb dX12_heatOf_41 rfl ?_
    refine lv_lmul hx hb dX12_heatOf_42 ?_
    refine lv_topl (fun z48 ez48 => ?_)
    refine lv_ladd hx hb dX12_heatOf_43 ?_
    refine lv_topl (fun z49 ez49 => ?_)
    refine lv_lstore_n (lv' := [(2, .long z49), (4, .int w28), (0, .ref h0), (1, .int ul)]) hx hb dX12_heatOf_44 rfl hl (by decide) rfl (fun ls hl => ?_)
    obtain ⟨z50, ez50⟩ : ∃ y : Int32, y = w28 + 1 := ⟨_, rfl⟩
    refine lv_iinc (v := z50) (lv' := [(4, .int z50), (2, .long z49), (0, .ref h0), (1, .int ul)]) hx hb dX12_heatOf_45 hl (k := 1) rfl (by rw [ez50]; rfl) (by decide) rfl (fun ls hl => ?_)
    have iz50 : z50.toInt = w28.toInt + 1 := zi_add ez50 rfl rfl (by omega) (by omega)
    refine lv_goto (tgt := 5) hx hb dX12_heatOf_48 (by decide) ?_
    exact ih30 _ _ _ _ (by rw [hn31]; omega) ⟨z50, z49, rfl, (by omega), rfl, rfl, lv_sub hl [0, 1, 2, 3] rfl⟩
set_option maxHeartbeats 4000000 in
set_option maxRecDepth 100000 in
theorem t_X12_priceOf (l : Launch) (dC : Nat → ClassId) (dI : Nat → Nat → Nat) (sz : Nat) (κ : Nat → ClassId) (τ ν : Nat → Nat) (ρ : Nat → Nat → Nat) (L : List Nat) (f : Nat → va_E) (hG : tp_G τ ν ρ L) (hT : tp_T (mo_O κ) κ τ ν ρ f) (h0 : Nat) (v : Int32) (u : Int32) (x : Int) (b : Int) (ht_h0 : τ h0 = 13) (hJ : mo_RI x b (mo_R (mo_i (f (ρ h0 2))))) : Met l yX12_priceOf wsX12_priceOf ({ frames := 2, cells := 0, slots := 0, locals := 400 }) (va_Pc [.ref h0, .int v, .int u] (pz_B dC dI (tp_K κ) (va_pl L f) sz)) (vp_Si (fun r => True ∧ True)) 0 0 (fun _ => False) := by
  refine Met.ofW (cc := cX12_priceOf) (maxL := 7) (ret := some .int) (by decide) rfl ?_
  intro p e s m args below meth c s₁ B hml hv
  obtain ⟨rfl, hsz, hP, hK, hD0, hN⟩ := hv
  have hx := B.exec
  have hb := B.bytes
  have hr := B.returns
  have hts := atoms_spec (ws := wsX12_priceOf) B.pre
  have hown : s.vm.findClass RX12 = some m.cls := findClass_of_methodNamed B.named
  have hlocks := B.notSynchronized
  subst hsz
  have hD := hD0
  have hS : va_S (fun _ => True) s.heap s.heap [] := va_S.rf
  have hl := lv_entry ([.ref h0, .int v, .int u]) (n := 7) (Nat.le_of_ble_eq_true rfl)
  rw [lg_entry_eq]
  generalize (lg_sl ([.ref h0, .int v, .int u]) ++ List.replicate (7 - (lg_sl ([.ref h0, .int v, .int u])).length) Slot.unset).toArray = ls at hl ⊢
  have hl : lv_has ls 7 [(0, .ref h0), (1, .int v), (2, .int u)] := hl
  have hfX12 : ∀ w ∈ wsX120, w ∈ wsX12_priceOf := fun w h => List.mem_cons_of_mem _ (List.mem_append_right _ h)
  obtain ⟨y1, y2, y3, y4, y5, y6, y7, y8, y9, y10, y11, y12, y13, y14, y15, y16, y17, y18, y19, y20, y21, y22, y23, y24, y25⟩ := tpg_13 hG ht_h0
  obtain ⟨g27, hf_o26⟩ := tpo_32 hT y1
  have hI : mo_RI x b (mo_R g27) := by have q9 := hJ; rw [hf_o26, mo_i1] at q9; exact q9
  refine lv_iconst (v := 0) hx hb dX12_priceOf_0 (by decide) ?_
  refine lv_istore_n (lv' := [(3, .int 0), (0, .ref h0), (1, .int v), (2, .int u)]) hx hb dX12_priceOf_1 rfl hl (by decide) rfl (fun ls hl => ?_)
  refine lv_iconst (v := (-1)) hx hb dX12_priceOf_2 (by decide) ?_
  refine lv_istore (lv' := [(4, .int (-1)), (3, .int 0), (0, .ref h0), (1, .int v), (2, .int u)]) hx hb dX12_priceOf_3 hl (by decide) rfl (fun ls hl => ?_)
  refine lv_iconst (v := 0) hx hb dX12_priceOf_5 (by decide) ?_
  refine lv_istore (lv' := [(5, .int 0), (4, .int (-1)), (3, .int 0), (0, .ref h0), (1, .int v), (2, .int u)]) hx hb dX12_priceOf_6 hl (by decide) rfl (fun ls hl => ?_)
  refine pz_loop (fun n0 H locs ls => ∃ w28 : Int32, ∃ w29 : Int32, ∃ w30 : Int32, n0 = (60 - (w28.toInt)).toNat ∧ (0 ≤ w28.toInt ∧ w28.toInt ≤ 60) ∧ H = s.heap ∧ locs = [] ∧ lv_has ls 7 [(5, .int w28), (4, .int w29), (3, .int w30), (0, .ref h0), (1, .int v), (2, .int u)]) ?_ _ _ _ _ ⟨0, (-1), 0, rfl, (by have : (0 : Int32).toInt = 0 := rfl; have : ((-1) : Int32).toInt = (-1) := rfl; have : (0 : Int32).toInt = 0 := rfl; omega), rfl, rfl, lv_sub hl [0, 1, 2, 3, 4, 5] rfl⟩
  intro n0 H locs ls hI ih31
  obtain ⟨w28, w29, w30, hn32, rw28, rfl, rfl, hl⟩ := hI
  refine lv_iload hx hb dX12_priceOf_8 (lv_at hl 0 rfl) ?_
  refine lv_aload_n hx hb dX12_priceOf_10 rfl (lv_at hl 3 rfl) ?_
  obtain ⟨o33_x0, o33_x1, o33_x7, o33_x9, o33_x10, o33_x11, o33_x12, o33_x13, o33_x14, o33_x15, o33_x16, o33_x17, o33_x18, o33_x19, o33_x20, o33_x22, o33_x25, o33_x28, o33_x29, o33_x32, o33_x33, o33_x34, o33_x35, o33_x36, o33_x37, o33_x38, o33_x47, o33_x48, hf_o33, ro33_0, ro33_1, ro33_2, ro33_3, ro33_4, ro33_5, ro33_6, ro33_7, ro33_8, ro33_9, ro33_10, ro33_11, ro33_12, ro33_13⟩ := tpo_13 hT ht_h0
  obtain ⟨q34, eq34⟩ := tp_pos (tp_in hG ht_h0 (by decide)) hf_o33
  refine va_get (D := (dC, dI)) (ci := 12) (v := .ref (ρ h0 2)) (C := RX12) (T := TX12) (N := 53) hx hb hts hfX12 hown hK hP q34 eq34 rfl 2 (by decide) (hts (.fieldLink RX12 7 "ColdShipsModel" "row" "[I") (by decide +kernel)) (fun _ h9 => h9) rfl dX12_priceOf_11 ?_
  refine lv_bipush (v := 6) hx hb dX12_priceOf_14 (by decide) ?_
  obtain ⟨q35, eq35⟩ := tp_pos (tp_in hG y1 (by decide)) hf_o26
  refine va_iald hx hb hK hP q35 0 eq35 rfl (vp_in_iff.mpr ⟨by decide, by decide⟩) dX12_priceOf_16 ?_
  refine lv_topi (fun z36 ez36 => ?_)
  have jz36 : z36.toInt = mo_R g27 (6) := mo_rd ez36 (show (6 : Int32).toInt = (6) from by decide)
  have kz36 := hI.k6
  refine lv_icmp_ge (tgt := 91) hx hb dX12_priceOf_17 (by decide) (fun c37 => ?_) (fun c37 => ?_)
  · have ic37 : w28.toInt ≥ z36.toInt := zi_ge rfl rfl c37
    refine lv_iload_n hx hb dX12_priceOf_91 rfl (lv_at hl 2 rfl) ?_
    exact W.iret (v := w30) hx hb hr (fun t ht hW => ⟨w30, rfl, ⟨trivial, trivial⟩, ht⟩) (fun _ h => by cases h) dX12_priceOf_92
  · have ic37 : w28.toInt < z36.toInt := zi_gef rfl rfl c37
    refine lv_sipush (v := 2011) hx hb dX12_priceOf_20 (by decide) ?_
    refine lv_iconst (v := 3) hx hb dX12_priceOf_23 (by decide) ?_
    refine lv_iload hx hb dX12_priceOf_24 (lv_at hl 0 rfl) ?_
    refine lv_imul hx hb dX12_priceOf_26 ?_
    refine lv_topi (fun z38 ez38 => ?_)
    have iz38 : z38.toInt = 3 * w28.toInt := zi_mul ez38 rfl rfl (by omega) (by omega)
    refine lv_iadd hx hb dX12_priceOf_27 ?_
    refine lv_topi (fun z39 ez39 => ?_)
    have iz39 : z39.toInt = 2011 + z38.toInt := zi_add ez39 rfl rfl (by omega) (by omega)
    refine lv_istore (lv' := [(6, .int z39), (5, .int w28), (4, .int w29), (3, .int w30), (0, .ref h0), (1, .int v), (2, .int u)]) hx hb dX12_priceOf_28 hl (by decide) rfl (fun ls hl => ?_)
    refine lv_aload_n hx hb dX12_priceOf_30 rfl (lv_at hl 4 rfl) ?_
    refine va_get (D := (dC, dI)) (ci := 12) (v := .ref (ρ h0 2)) (C := RX12) (T := TX12) (N := 53) hx hb hts hfX12 hown hK hP q34 eq34 rfl 2 (by decide) (hts (.fieldLink RX12 7 "ColdShipsModel" "row" "[I") (by decide +kernel)) (fun _ h9 => h9) rfl dX12_priceOf_31 ?_
    refine lv_iload hx hb dX12_priceOf_34 (lv_at hl 0 rfl) ?_
    refine lv_iconst (v := 2) hx hb dX12_priceOf_36 (by decide) ?_
    refine lv_iadd hx hb dX12_priceOf_37 ?_
    refine lv_topi (fun z40 ez40 => ?_)
    have iz40 : z40.toInt = z39.toInt + 2 := zi_add ez40 rfl rfl (by omega) (by omega)
    refine va_iald hx hb hK hP q35 0 eq35 rfl (vp_in_iff.mpr ⟨by omega, by omega⟩) dX12_priceOf_38 ?_
    refine lv_topi (fun z41 ez41 => ?_)
    refine lv_iload_n hx hb dX12_priceOf_39 rfl (lv_at hl 6 rfl) ?_
    refine lv_icmp_gt (tgt := 85) hx hb dX12_priceOf_40 (by decide) (fun c42 => ?_) (fun c42 => ?_)
    · have ic42 : z41.toInt > u.toInt := zi_gt rfl rfl c42
      obtain ⟨z43, ez43⟩ : ∃ y : Int32, y = w28 + 1 := ⟨_, rfl⟩
      refine lv_iinc (v := z43) (lv' := [(5, .int z43), (6, .int z39), (4, .int w29), (3, .int w30), (0, .ref h0), (1, .int v), (2, .int u)]) hx hb dX12_priceOf_85 hl (k := 1) rfl (by rw [ez43]; rfl) (by decide) rfl (fun ls hl => ?_)
      have iz43 : z43.toInt = w28.toInt + 1 := zi_add ez43 rfl rfl (by omega) (by omega)
      refine lv_goto (tgt := 8) hx hb dX12_priceOf_88 (by decide) ?_
      exact ih31 _ _ _ _ (by rw [hn32]; omega) ⟨z43, w29, w30, rfl, (by omega), rfl, rfl, lv_sub hl [0, 2, 3, 4, 5, 6] rfl⟩
    · have ic42 : z41.toInt ≤ u.toInt := zi_gtf rfl rfl c42
      refine lv_aload_n hx hb dX12_priceOf_43 rfl (lv_at hl 4 rfl) ?_
      refine va_get (D := (dC, dI)) (ci := 12) (v := .ref (ρ h0 2)) (C := RX12) (T := TX12) (N := 53) hx hb hts hfX12 hown hK hP q34 eq34 rfl 2 (by decide) (hts (.fieldLink RX12 7 "ColdShipsModel" "row" "[I") (by decide +kernel)) (fun _ h9 => h9) rfl dX12_priceOf_44 ?_
      refine lv_iload hx hb dX12_priceOf_47 (lv_at hl 0 rfl) ?_
      refine va_iald hx hb hK hP q35 0 eq35 rfl (vp_in_iff.mpr ⟨by omega, by omega⟩) dX12_priceOf_49 ?_
      refine lv_topi (fun z44 ez44 => ?_)
      refine lv_iload_n hx hb dX12_priceOf_50 rfl (lv_at hl 5 rfl) ?_
      refine lv_icmp_gt (tgt := 85) hx hb dX12_priceOf_51 (by decide) (fun c45 => ?_) (fun c45 => ?_)
      · have ic45 : z44.toInt > v.toInt := zi_gt rfl rfl c45
        obtain ⟨z46, ez46⟩ : ∃ y : Int32, y = w28 + 1 := ⟨_, rfl⟩
        refine lv_iinc (v := z46) (lv' := [(5, .int z46), (6, .int z39), (4, .int w29), (3, .int w30), (0, .ref h0), (1, .int v), (2, .int u)]) hx hb dX12_priceOf_85 hl (k := 1) rfl (by rw [ez46]; rfl) (by decide) rfl (fun ls hl => ?_)
        have iz46 : z46.toInt = w28.toInt + 1 := zi_add ez46 rfl rfl (by omega) (by omega)
        refine lv_goto (tgt := 8) hx hb dX12_priceOf_88 (by decide) ?_
        exact ih31 _ _ _ _ (by rw [hn32]; omega) ⟨z46, w29, w30, rfl, (by omega), rfl, rfl, lv_sub hl [0, 2, 3, 4, 5, 6] rfl⟩
      · have ic45 : z44.toInt ≤ v.toInt := zi_gtf rfl rfl c45
        refine lv_aload_n hx hb dX12_priceOf_54 rfl (lv_at hl 4 rfl) ?_
        refine va_get (D := (dC, dI)) (ci := 12) (v := .ref (ρ h0 2)) (C := RX12) (T := TX12) (N := 53) hx hb hts hfX12 hown hK hP q34 eq34 rfl 2 (by decide) (hts (.fieldLink RX12 7 "ColdShipsModel" "row" "[I") (by decide +kernel)) (fun _ h9 => h9) rfl dX12_priceOf_55 ?_
        refine lv_iload hx hb dX12_priceOf_58 (lv_at hl 0 rfl) ?_
        refine va_iald hx hb hK hP q35 0 eq35 rfl (vp_in_iff.mpr ⟨by omega, by omega⟩) dX12_priceOf_60 ?_
        refine lv_topi (fun z47 ez47 => ?_)
        refine lv_iload hx hb dX12_priceOf_61 (lv_at hl 2 rfl) ?_
        refine lv_icmp_lt (tgt := 85) hx hb dX12_priceOf_63 (by decide) (fun c48 => ?_) (fun c48 => ?_)
        · have ic48 : z47.toInt < w29.toInt := zi_lt rfl rfl c48
          obtain ⟨z49, ez49⟩ : ∃ y : Int32, y = w28 + 1 := ⟨_, rfl⟩
          refine lv_iinc (v := z49) (lv' := [(5, .int z49), (6, .int z39), (4, .int w29), (3, .int w30), (0, .ref h0), (1, .int v), (2, .int u)]) hx hb dX12_priceOf_85 hl (k := 1) rfl (by rw [ez49]; rfl) (by decide) rfl (fun ls hl => ?_)
          have iz49 : z49.toInt = w28.toInt + 1 := zi_add ez49 rfl rfl (by omega) (by omega)
          refine lv_goto (tgt := 8) hx hb dX12_priceOf_88 (by decide) ?_
          exact ih31 _ _ _ _ (by rw [hn32]; omega) ⟨z49, w29, w30, rfl, (by omega), rfl, rfl, lv_sub hl [0, 2, 3, 4, 5, 6] rfl⟩
        · have ic48 : z47.toInt ≥ w29.toInt := zi_ltf rfl rfl c48
          refine lv_aload_n hx hb dX12_priceOf_66 rfl (lv_at hl 4 rfl) ?_
          refine va_get (D := (dC, dI)) (ci := 12) (v := .ref (ρ h0 2)) (C := RX12) (T := TX12) (N := 53) hx hb hts hfX12 hown hK hP q34 eq34 rfl 2 (by decide) (hts (.fieldLink RX12 7 "ColdShipsModel" "row" "[I") (by decide +kernel)) (fun _ h9 => h9) rfl dX12_priceOf_67 ?_
          refine lv_iload hx hb dX12_priceOf_70 (lv_at hl 0 rfl) ?_
          refine va_iald hx hb hK hP q35 0 eq35 rfl (vp_in_iff.mpr ⟨by omega, by omega⟩) dX12_priceOf_72 ?_
          refine lv_topi (fun z50 ez50 => ?_)
          refine lv_istore (lv' := [(4, .int z50), (6, .int z39), (5, .int w28), (3, .int w30), (0, .ref h0), (1, .int v), (2, .int u)]) hx hb dX12_priceOf_73 hl (by decide) rfl (fun ls hl => ?_)
          refine lv_aload_n hx hb dX12_priceOf_75 rfl (lv_at hl 4 rfl) ?_
          refine va_get (D := (dC, dI)) (ci := 12) (v := .ref (ρ h0 2)) (C := RX12) (T := TX12) (N := 53) hx hb hts hfX12 hown hK hP q34 eq34 rfl 2 (by decide) (hts (.fieldLink RX12 7 "ColdShipsModel" "row" "[I") (by decide +kernel)) (fun _ h9 => h9) rfl dX12_priceOf_76 ?_
          refine lv_iload hx hb dX12_priceOf_79 (lv_at hl 1 rfl) ?_
          refine lv_iconst (v := 1) hx hb dX12_priceOf_81 (by decide) ?_
          refine lv_iadd hx hb dX12_priceOf_82 ?_
          refine lv_topi (fun z51 ez51 => ?_)
          have iz51 : z51.toInt = z39.toInt + 1 := zi_add ez51 rfl rfl (by omega) (by omega)
          refine va_iald hx hb hK hP q35 0 eq35 rfl (vp_in_iff.mpr ⟨by omega, by omega⟩) dX12_priceOf_83 ?_
          refine lv_topi (fun z52 ez52 => ?_)
          refine lv_istore_n (lv' := [(3, .int z52), (4, .int z50), (6, .int z39), (5, .int w28), (0, .ref h0), (1, .int v), (2, .int u)]) hx hb dX12_priceOf_84 rfl hl (by decide) rfl (fun ls hl => ?_)
          obtain ⟨z53, ez53⟩ : ∃ y : Int32, y = w28 + 1 := ⟨_, rfl⟩
          refine lv_iinc (v := z53) (lv' := [(5, .int z53), (3, .int z52), (4, .int z50), (6, .int z39), (0, .ref h0), (1, .int v), (2, .int u)]) hx hb dX12_priceOf_85 hl (k := 3) rfl (by rw [ez53]; rfl) (by decide) rfl (fun ls hl => ?_)
          have iz53 : z53.toInt = w28.toInt + 1 := zi_add ez53 rfl rfl (by omega) (by omega)
          refine lv_goto (tgt := 8) hx hb dX12_priceOf_88 (by decide) ?_
          exact ih31 _ _ _ _ (by rw [hn32]; omega) ⟨z53, z50, z52, rfl, (by omega), rfl, rfl, lv_sub hl [0, 2, 1, 4, 5, 6] rfl⟩
set_option maxHeartbeats 4000000 in
set_option maxRecDepth 100000 in
theorem t_X12_isForce (l : Launch) (dC : Nat → ClassId) (dI : Nat → Nat → Nat) (sz : Nat) (κ : Nat → ClassId) (τ ν : Nat → Nat) (ρ : Nat → Nat → Nat) (L : List Nat) (f : Nat → va_E) (hG : tp_G τ ν ρ L) (hT : tp_T (mo_O κ) κ τ ν ρ f) (h0 : Nat) (v : Int32) (u : Int32) (x : Int) (b : Int) (ht_h0 : τ h0 = 13) (hJ : mo_RI x b (mo_R (mo_i (f (ρ h0 2))))) : Met l yX12_isForce wsX12_isForce ({ frames := 3, cells := 0, slots := 0, locals := 800 }) (va_Pc [.ref h0, .int v, .int u] (pz_B dC dI (tp_K κ) (va_pl L f) sz)) (vp_Si (fun r => (0 ≤ r.toInt ∧ r.toInt ≤ 1) ∧ True)) 0 0 (fun _ => False) := by
  refine Met.ofW (cc := cX12_isForce) (maxL := 6) (ret := some .boolean) (by decide) rfl ?_
  intro p e s m args below meth c s₁ B hml hv
  obtain ⟨rfl, hsz, hP, hK, hD0, hN⟩ := hv
  have hx := B.exec
  have hb := B.bytes
  have hr := B.returns
  have hts := atoms_spec (ws := wsX12_isForce) B.pre
  have hown : s.vm.findClass RX12 = some m.cls := findClass_of_methodNamed B.named
  have hlocks := B.notSynchronized
  subst hsz
  have hD := hD0
  have hS : va_S (fun _ => True) s.heap s.heap [] := va_S.rf
  have hl := lv_entry ([.ref h0, .int v, .int u]) (n := 6) (Nat.le_of_ble_eq_true rfl)
  rw [lg_entry_eq]
  generalize (lg_sl ([.ref h0, .int v, .int u]) ++ List.replicate (6 - (lg_sl ([.ref h0, .int v, .int u])).length) Slot.unset).toArray = ls at hl ⊢
  have hl : lv_has ls 6 [(0, .ref h0), (1, .int v), (2, .int u)] := hl
  have hfX12 : ∀ w ∈ wsX120, w ∈ wsX12_isForce := fun w h => List.mem_cons_of_mem _ (List.mem_append_right _ h)
  obtain ⟨y1, y2, y3, y4, y5, y6, y7, y8, y9, y10, y11, y12, y13, y14, y15, y16, y17, y18, y19, y20, y21, y22, y23, y24, y25⟩ := tpg_13 hG ht_h0
  obtain ⟨g27, hf_o26⟩ := tpo_32 hT y1
  have hI : mo_RI x b (mo_R g27) := by have q9 := hJ; rw [hf_o26, mo_i1] at q9; exact q9
  refine lv_iconst (v := 0) hx hb dX12_isForce_0 (by decide) ?_
  refine lv_istore_n (lv' := [(3, .int 0), (0, .ref h0), (1, .int v), (2, .int u)]) hx hb dX12_isForce_1 rfl hl (by decide) rfl (fun ls hl => ?_)
  refine lv_iconst (v := 0) hx hb dX12_isForce_2 (by decide) ?_
  refine lv_istore (lv' := [(4, .int 0), (3, .int 0), (0, .ref h0), (1, .int v), (2, .int u)]) hx hb dX12_isForce_3 hl (by decide) rfl (fun ls hl => ?_)
  refine pz_loop (fun n0 H locs ls => ∃ w28 : Int32, ∃ w29 : Int32, n0 = (20 - (w28.toInt)).toNat ∧ (0 ≤ w28.toInt ∧ w28.toInt ≤ 20) ∧ (0 ≤ w29.toInt ∧ w29.toInt ≤ 1) ∧ H = s.heap ∧ locs = [] ∧ lv_has ls 6 [(4, .int w28), (3, .int w29), (0, .ref h0), (1, .int v), (2, .int u)]) ?_ _ _ _ _ ⟨0, 0, rfl, (by have : (0 : Int32).toInt = 0 := rfl; have : (0 : Int32).toInt = 0 := rfl; omega), (by have : (0 : Int32).toInt = 0 := rfl; have : (0 : Int32).toInt = 0 := rfl; omega), rfl, rfl, lv_sub hl [0, 1, 2, 3, 4] rfl⟩
  intro n0 H locs ls hI ih30
  obtain ⟨w28, w29, hn31, rw28, rw29, rfl, rfl, hl⟩ := hI
  refine lv_iload hx hb dX12_isForce_5 (lv_at hl 0 rfl) ?_
  refine lv_aload_n hx hb dX12_isForce_7 rfl (lv_at hl 2 rfl) ?_
  obtain ⟨o32_x0, o32_x1, o32_x7, o32_x9, o32_x10, o32_x11, o32_x12, o32_x13, o32_x14, o32_x15, o32_x16, o32_x17, o32_x18, o32_x19, o32_x20, o32_x22, o32_x25, o32_x28, o32_x29, o32_x32, o32_x33, o32_x34, o32_x35, o32_x36, o32_x37, o32_x38, o32_x47, o32_x48, hf_o32, ro32_0, ro32_1, ro32_2, ro32_3, ro32_4, ro32_5, ro32_6, ro32_7, ro32_8, ro32_9, ro32_10, ro32_11, ro32_12, ro32_13⟩ := tpo_13 hT ht_h0
  obtain ⟨q33, eq33⟩ := tp_pos (tp_in hG ht_h0 (by decide)) hf_o32
  refine va_get (D := (dC, dI)) (ci := 12) (v := .ref (ρ h0 2)) (C := RX12) (T := TX12) (N := 53) hx hb hts hfX12 hown hK hP q33 eq33 rfl 2 (by decide) (hts (.fieldLink RX12 7 "ColdShipsModel" "row" "[I") (by decide +kernel)) (fun _ h9 => h9) rfl dX12_isForce_8 ?_
  refine lv_bipush (v := 7) hx hb dX12_isForce_11 (by decide) ?_
  obtain ⟨q34, eq34⟩ := tp_pos (tp_in hG y1 (by decide)) hf_o26
  refine va_iald hx hb hK hP q34 0 eq34 rfl (vp_in_iff.mpr ⟨by decide, by decide⟩) dX12_isForce_13 ?_
  refine lv_topi (fun z35 ez35 => ?_)
  have jz35 : z35.toInt = mo_R g27 (7) := mo_rd ez35 (show (7 : Int32).toInt = (7) from by decide)
  have kz35 := hI.k7
  refine lv_icmp_ge (tgt := 82) hx hb dX12_isForce_14 (by decide) (fun c36 => ?_) (fun c36 => ?_)
  · have ic36 : w28.toInt ≥ z35.toInt := zi_ge rfl rfl c36
    refine lv_iload_n hx hb dX12_isForce_82 rfl (lv_at hl 1 rfl) ?_
    exact W.zret (v := w29) hx hb hr (zi_narZ (by omega) (by omega)) (fun t ht hW => ⟨w29, rfl, ⟨(by first | decide | omega), trivial⟩, ht⟩) (fun _ h => by cases h) dX12_isForce_83
  · have ic36 : w28.toInt < z35.toInt := zi_gef rfl rfl c36
    refine lv_sipush (v := 2191) hx hb dX12_isForce_17 (by decide) ?_
    refine lv_iconst (v := 3) hx hb dX12_isForce_20 (by decide) ?_
    refine lv_iload hx hb dX12_isForce_21 (lv_at hl 0 rfl) ?_
    refine lv_imul hx hb dX12_isForce_23 ?_
    refine lv_topi (fun z37 ez37 => ?_)
    have iz37 : z37.toInt = 3 * w28.toInt := zi_mul ez37 rfl rfl (by omega) (by omega)
    refine lv_iadd hx hb dX12_isForce_24 ?_
    refine lv_topi (fun z38 ez38 => ?_)
    have iz38 : z38.toInt = 2191 + z37.toInt := zi_add ez38 rfl rfl (by omega) (by omega)
    refine lv_istore (lv' := [(5, .int z38), (4, .int w28), (3, .int w29), (0, .ref h0), (1, .int v), (2, .int u)]) hx hb dX12_isForce_25 hl (by decide) rfl (fun ls hl => ?_)
    refine lv_iload_n hx hb dX12_isForce_27 rfl (lv_at hl 2 rfl) ?_
    refine lv_if_ne (tgt := 70) hx hb dX12_isForce_28 (by decide) (fun c39 => ?_) (fun c39 => ?_)
    · have ic39 : w29.toInt ≠ 0 := zi_ne rfl rfl c39
      refine lv_iconst (v := 1) hx hb dX12_isForce_70 (by decide) ?_
      refine lv_goto (tgt := 75) hx hb dX12_isForce_71 (by decide) ?_
      refine lv_istore_n (lv' := [(3, .int 1), (5, .int z38), (4, .int w28), (0, .ref h0), (1, .int v), (2, .int u)]) hx hb dX12_isForce_75 rfl hl (by decide) rfl (fun ls hl => ?_)
      obtain ⟨z40, ez40⟩ : ∃ y : Int32, y = w28 + 1 := ⟨_, rfl⟩
      refine lv_iinc (v := z40) (lv' := [(4, .int z40), (3, .int 1), (5, .int z38), (0, .ref h0), (1, .int v), (2, .int u)]) hx hb dX12_isForce_76 hl (k := 2) rfl (by rw [ez40]; rfl) (by decide) rfl (fun ls hl => ?_)
      have iz40 : z40.toInt = w28.toInt + 1 := zi_add ez40 rfl rfl (by omega) (by omega)
      refine lv_goto (tgt := 5) hx hb dX12_isForce_79 (by decide) ?_
      exact ih30 _ _ _ _ (by rw [hn31]; omega) ⟨z40, 1, rfl, (by have : (1 : Int32).toInt = 1 := rfl; omega), (by have : (1 : Int32).toInt = 1 := rfl; omega), rfl, rfl, lv_sub hl [0, 1, 3, 4, 5] rfl⟩
    · have ic39 : w29.toInt = 0 := zi_nef rfl rfl c39
      refine lv_aload_n hx hb dX12_isForce_31 rfl (lv_at hl 3 rfl) ?_
      refine va_get (D := (dC, dI)) (ci := 12) (v := .ref (ρ h0 2)) (C := RX12) (T := TX12) (N := 53) hx hb hts hfX12 hown hK hP q33 eq33 rfl 2 (by decide) (hts (.fieldLink RX12 7 "ColdShipsModel" "row" "[I") (by decide +kernel)) (fun _ h9 => h9) rfl dX12_isForce_32 ?_
      refine lv_iload hx hb dX12_isForce_35 (lv_at hl 0 rfl) ?_
      refine lv_iconst (v := 2) hx hb dX12_isForce_37 (by decide) ?_
      refine lv_iadd hx hb dX12_isForce_38 ?_
      refine lv_topi (fun z41 ez41 => ?_)
      have iz41 : z41.toInt = z38.toInt + 2 := zi_add ez41 rfl rfl (by omega) (by omega)
      refine va_iald hx hb hK hP q34 0 eq34 rfl (vp_in_iff.mpr ⟨by omega, by omega⟩) dX12_isForce_39 ?_
      refine lv_topi (fun z42 ez42 => ?_)
      refine lv_iload_n hx hb dX12_isForce_40 rfl (lv_at hl 5 rfl) ?_
      refine lv_icmp_gt (tgt := 74) hx hb dX12_isForce_41 (by decide) (fun c43 => ?_) (fun c43 => ?_)
      · have ic43 : z42.toInt > u.toInt := zi_gt rfl rfl c43
        refine lv_iconst (v := 0) hx hb dX12_isForce_74 (by decide) ?_
        refine lv_istore_n (lv' := [(3, .int 0), (5, .int z38), (4, .int w28), (0, .ref h0), (1, .int v), (2, .int u)]) hx hb dX12_isForce_75 rfl hl (by decide) rfl (fun ls hl => ?_)
        obtain ⟨z44, ez44⟩ : ∃ y : Int32, y = w28 + 1 := ⟨_, rfl⟩
        refine lv_iinc (v := z44) (lv' := [(4, .int z44), (3, .int 0), (5, .int z38), (0, .ref h0), (1, .int v), (2, .int u)]) hx hb dX12_isForce_76 hl (k := 2) rfl (by rw [ez44]; rfl) (by decide) rfl (fun ls hl => ?_)
        have iz44 : z44.toInt = w28.toInt + 1 := zi_add ez44 rfl rfl (by omega) (by omega)
        refine lv_goto (tgt := 5) hx hb dX12_isForce_79 (by decide) ?_
        exact ih30 _ _ _ _ (by rw [hn31]; omega) ⟨z44, 0, rfl, (by have : (0 : Int32).toInt = 0 := rfl; omega), (by have : (0 : Int32).toInt = 0 := rfl; omega), rfl, rfl, lv_sub hl [0, 1, 3, 4, 5] rfl⟩
      · have ic43 : z42.toInt ≤ u.toInt := zi_gtf rfl rfl c43
        refine lv_iload_n hx hb dX12_isForce_44 rfl (lv_at hl 4 rfl) ?_
        refine lv_i2l hx hb dX12_isForce_45 rfl ?_
        refine lv_aload_n hx hb dX12_isForce_46 rfl (lv_at hl 3 rfl) ?_
        refine va_get (D := (dC, dI)) (ci := 12) (v := .ref (ρ h0 2)) (C := RX12) (T := TX12) (N := 53) hx hb hts hfX12 hown hK hP q33 eq33 rfl 2 (by decide) (hts (.fieldLink RX12 7 "ColdShipsModel" "row" "[I") (by decide +kernel)) (fun _ h9 => h9) rfl dX12_isForce_47 ?_
        refine lv_iload hx hb dX12_isForce_50 (lv_at hl 0 rfl) ?_
        refine va_iald hx hb hK hP q34 0 eq34 rfl (vp_in_iff.mpr ⟨by omega, by omega⟩) dX12_isForce_52 ?_
        refine lv_topi (fun z45 ez45 => ?_)
        refine lv_i2l hx hb dX12_isForce_53 rfl ?_
        refine lv_aload_n hx hb dX12_isForce_54 rfl (lv_at hl 3 rfl) ?_
        refine va_get (D := (dC, dI)) (ci := 12) (v := .ref (ρ h0 2)) (C := RX12) (T := TX12) (N := 53) hx hb hts hfX12 hown hK hP q33 eq33 rfl 2 (by decide) (hts (.fieldLink RX12 7 "ColdShipsModel" "row" "[I") (by decide +kernel)) (fun _ h9 => h9) rfl dX12_isForce_55 ?_
        refine lv_iload hx hb dX12_isForce_58 (lv_at hl 0 rfl) ?_
        refine lv_iconst (v := 1) hx hb dX12_isForce_60 (by decide) ?_
        refine lv_iadd hx hb dX12_isForce_61 ?_
        refine lv_topi (fun z46 ez46 => ?_)
        have iz46 : z46.toInt = z38.toInt + 1 := zi_add ez46 rfl rfl (by omega) (by omega)
        refine va_iald hx hb hK hP q34 0 eq34 rfl (vp_in_iff.mpr ⟨by omega, by omega⟩) dX12_isForce_62 ?_
        refine lv_topi (fun z47 ez47 => ?_)
        refine lv_i2l hx hb dX12_isForce_63 rfl ?_
        refine pz_calli (va_runS (As := [.long v.toInt64, .long z45.toInt64, .long z47.toInt64]) (rest := []) ⟨hx, hb, hml, hown, hts⟩ (t_X12_in l dC dI _ v.toInt64 z45.toInt64 z47.toInt64 (v.toInt) (z45.toInt) (z47.toInt) (Int32.toInt_toInt64 v) (Int32.toInt_toInt64 z45) (Int32.toInt_toInt64 z47)) (va_cwS 3 hts gX12_isForce_X12_in rfl rfl rfl (by decide +kernel) ⟨Nat.le_of_ble_eq_true rfl, Nat.le_of_ble_eq_true rfl⟩) ⟨pz_blind, pz_pre pz_P0 (hK.sub (tys' := []) [] rfl) (pz_D0 (A := fun _ => True)) hN⟩ rfl rfl hl.1 rfl (lv_room (Nat.le_of_ble_eq_true rfl)) dX12_isForce_64 ⟨Nat.le_of_ble_eq_true rfl, Nat.le_of_ble_eq_true rfl⟩) (fun r48 hw49 => ?_)
        obtain ⟨hw49r, hw49p⟩ := hw49
        refine lv_if_eq (tgt := 74) hx hb dX12_isForce_67 (by decide) (fun c50 => ?_) (fun c50 => ?_)
        · have ic50 : r48.toInt = 0 := zi_eq rfl rfl c50
          refine lv_iconst (v := 0) hx hb dX12_isForce_74 (by decide) ?_
          refine lv_istore_n (lv' := [(3, .int 0), (5, .int z38), (4, .int w28), (0, .ref h0), (1, .int v), (2, .int u)]) hx hb dX12_isForce_75 rfl hl (by decide) rfl (fun ls hl => ?_)
          obtain ⟨z51, ez51⟩ : ∃ y : Int32, y = w28 + 1 := ⟨_, rfl⟩
          refine lv_iinc (v := z51) (lv' := [(4, .int z51), (3, .int 0), (5, .int z38), (0, .ref h0), (1, .int v), (2, .int u)]) hx hb dX12_isForce_76 hl (k := 2) rfl (by rw [ez51]; rfl) (by decide) rfl (fun ls hl => ?_)
          have iz51 : z51.toInt = w28.toInt + 1 := zi_add ez51 rfl rfl (by omega) (by omega)
          refine lv_goto (tgt := 5) hx hb dX12_isForce_79 (by decide) ?_
          exact ih30 _ _ _ _ (by rw [hn31]; omega) ⟨z51, 0, rfl, (by have : (0 : Int32).toInt = 0 := rfl; omega), (by have : (0 : Int32).toInt = 0 := rfl; omega), rfl, rfl, lv_sub hl [0, 1, 3, 4, 5] rfl⟩
        · have ic50 : r48.toInt ≠ 0 := zi_eqf rfl rfl c50
          have p52 : (z45.toInt) ≤ (v.toInt) ∧ (v.toInt) ≤ (z47.toInt) := (tp_cond.yes hw49p) (by omega)
          refine lv_iconst (v := 1) hx hb dX12_isForce_70 (by decide) ?_
          refine lv_goto (tgt := 75) hx hb dX12_isForce_71 (by decide) ?_
          refine lv_istore_n (lv' := [(3, .int 1), (5, .int z38), (4, .int w28), (0, .ref h0), (1, .int v), (2, .int u)]) hx hb dX12_isForce_75 rfl hl (by decide) rfl (fun ls hl => ?_)
          obtain ⟨z53, ez53⟩ : ∃ y : Int32, y = w28 + 1 := ⟨_, rfl⟩
          refine lv_iinc (v := z53) (lv' := [(4, .int z53), (3, .int 1), (5, .int z38), (0, .ref h0), (1, .int v), (2, .int u)]) hx hb dX12_isForce_76 hl (k := 2) rfl (by rw [ez53]; rfl) (by decide) rfl (fun ls hl => ?_)
          have iz53 : z53.toInt = w28.toInt + 1 := zi_add ez53 rfl rfl (by omega) (by omega)
          refine lv_goto (tgt := 5) hx hb dX12_isForce_79 (by decide) ?_
          exact ih30 _ _ _ _ (by rw [hn31]; omega) ⟨z53, 1, rfl, (by have : (1 : Int32).toInt = 1 := rfl; omega), (by have : (1 : Int32).toInt = 1 := rfl; omega), rfl, rfl, lv_sub hl [0, 1, 3, 4, 5] rfl⟩
set_option maxHeartbeats 4000000 in
set_option maxRecDepth 100000 in
theorem t_X12_of (l : Launch) (dC : Nat → ClassId) (dI : Nat → Nat → Nat) (sz : Nat) (κ : Nat → ClassId) (τ ν : Nat → Nat) (ρ : Nat → Nat → Nat) (L : List Nat) (f : Nat → va_E) (hG : tp_G τ ν ρ L) (hT : tp_T (mo_O κ) κ τ ν ρ f) (h0 : Nat) (v : Int32) (u : Int32) (ht_h0 : τ h0 = 13) (hJ : mo_RI (-1) 0 (mo_R (mo_i (f (ρ h0 2))))) : Met l yX12_of wsX12_of ({ frames := 4, cells := 0, slots := 0, locals := 1200 }) (va_Pc [.ref h0, .int v, .int u] (pz_B dC dI (tp_K κ) (va_pl L f) sz)) (va_Qi (fun (r : Int32) (f1 : Nat → va_E) => tp_T (mo_O κ) κ τ ν ρ f1 ∧ tp_F τ [13] f f1 ∧ True ∧ True) (fun (f1 : Nat → va_E) (t : State) => pz_E dC dI (tp_K κ) (va_A (va_pl L f) sz) (va_pl L f1) t) (va_A (va_pl L f) sz)) 0 0 (va_A (va_pl L f) sz) := by
  refine Met.ofW (cc := cX12_of) (maxL := 4) (ret := some .int) (by decide) rfl ?_
  intro p e s m args below meth c s₁ B hml hv
  obtain ⟨rfl, hsz, hP, hK, hD0, hN⟩ := hv
  have hx := B.exec
  have hb := B.bytes
  have hr := B.returns
  have hts := atoms_spec (ws := wsX12_of) B.pre
  have hown : s.vm.findClass RX12 = some m.cls := findClass_of_methodNamed B.named
  have hlocks := B.notSynchronized
  subst hsz
  have hD := hD0.self (sz := s.heap.size)
  generalize hAe : va_A (va_pl L f) s.heap.size = A at hD ⊢
  have hA : ∀ q : Nat, s.heap.size ≤ q → A q := fun q h => by rw [← hAe]; exact Or.inr h
  have hS : va_S A s.heap s.heap [] := va_S.rf
  have hR : tp_F τ [13] f f := tp_F.rf
  have hl := lv_entry ([.ref h0, .int v, .int u]) (n := 4) (Nat.le_of_ble_eq_true rfl)
  rw [lg_entry_eq]
  generalize (lg_sl ([.ref h0, .int v, .int u]) ++ List.replicate (4 - (lg_sl ([.ref h0, .int v, .int u])).length) Slot.unset).toArray = ls at hl ⊢
  have hl : lv_has ls 4 [(0, .ref h0), (1, .int v), (2, .int u)] := hl
  have hfX12 : ∀ w ∈ wsX120, w ∈ wsX12_of := fun w h => List.mem_cons_of_mem _ (List.mem_append_right _ h)
  obtain ⟨y1, y2, y3, y4, y5, y6, y7, y8, y9, y10, y11, y12, y13, y14, y15, y16, y17, y18, y19, y20, y21, y22, y23, y24, y25⟩ := tpg_13 hG ht_h0
  obtain ⟨g27, hf_o26⟩ := tpo_32 hT y1
  have hI : mo_RI (-1) 0 (mo_R g27) := by have q9 := hJ; rw [hf_o26, mo_i1] at q9; exact q9
  refine lv_aload_n hx hb dX12_of_0 rfl (lv_at hl 0 rfl) ?_
  refine lv_iconst (v := 0) hx hb dX12_of_1 (by decide) ?_
  obtain ⟨o28_x0, o28_x1, o28_x7, o28_x9, o28_x10, o28_x11, o28_x12, o28_x13, o28_x14, o28_x15, o28_x16, o28_x17, o28_x18, o28_x19, o28_x20, o28_x22, o28_x25, o28_x28, o28_x29, o28_x32, o28_x33, o28_x34, o28_x35, o28_x36, o28_x37, o28_x38, o28_x47, o28_x48, hf_o28, ro28_0, ro28_1, ro28_2, ro28_3, ro28_4, ro28_5, ro28_6, ro28_7, ro28_8, ro28_9, ro28_10, ro28_11, ro28_12, ro28_13⟩ := tpo_13 hT ht_h0
  obtain ⟨q29, eq29⟩ := tp_pos (tp_in hG ht_h0 (by decide)) hf_o28
  refine va_put (D := (dC, dI)) (ci := 12) (v := .int 0) (ty := .int) (C := RX12) (T := TX12) (N := 53) hx hb hts hfX12 tyX12 tyX12_ok nmX12 hown hK hP hD hS q29 eq29 rfl 0 (by decide) (hts (.fieldLink RX12 91 "ColdShipsModel" "thrown" "I") (by decide +kernel)) (fun _ h9 => h9) rfl (by decide +kernel) rfl rfl (Nat.le_of_ble_eq_true rfl) dX12_of_2 (tp_k (.inr (12, [.int 0, .int o28_x1, .ref (ρ h0 2), .ref (ρ h0 3), .ref (ρ h0 4), .ref (ρ h0 5), .ref (ρ h0 6), .int o28_x7, .ref (ρ h0 8), .int o28_x9, .int o28_x10, .int o28_x11, .int o28_x12, .long o28_x13, .int o28_x14, .int o28_x15, .int o28_x16, .int o28_x17, .int o28_x18, .int o28_x19, .int o28_x20, .ref (ρ h0 21), .int o28_x22, .ref (ρ h0 23), .ref (ρ h0 24), .int o28_x25, .ref (ρ h0 26), .ref (ρ h0 27), .int o28_x28, .int o28_x29, .ref (ρ h0 30), .ref (ρ h0 31), .int o28_x32, .long o28_x33, .long o28_x34, .long o28_x35, .int o28_x36, .int o28_x37, .int o28_x38, .ref (ρ h0 39), .ref (ρ h0 40), .ref (ρ h0 41), .ref (ρ h0 42), .ref (ρ h0 43), .ref (ρ h0 44), .ref (ρ h0 45), .ref (ρ h0 46), .int o28_x47, .int o28_x48, .ref (ρ h0 49), .ref (ρ h0 50), .ref (ρ h0 51), .ref (ρ h0 52)])) hD (tp_in hG ht_h0 (by decide)) eq29 (fun f30 H locs hP hD hS g32 k31 => ?_))
  have hT := hT.up ht_h0 g32 k31 ⟨_, _, _, _, _, _, _, _, _, _, _, _, _, _, _, _, _, _, _, _, _, _, _, _, _, _, _, _, rfl, ro28_0, ro28_1, ro28_2, ro28_3, ro28_4, ro28_5, ro28_6, ro28_7, ro28_8, ro28_9, ro28_10, ro28_11, ro28_12, ro28_13⟩
  have hR := hR.up ht_h0 (by decide) k31
  refine lv_aload_n hx hb dX12_of_5 rfl (lv_at hl 0 rfl) ?_
  refine lv_iload_n hx hb dX12_of_6 rfl (lv_at hl 1 rfl) ?_
  have hf_33 : f30 (ρ h0 2) = .inl (κ 0, 12967, .inl g27) := (k31 _ (tp_ne y1 ht_h0 (by decide))).trans hf_o26
  obtain ⟨q34, eq34⟩ := tp_pos (tp_in hG ht_h0 (by decide)) g32
  refine pz_calli (va_runV (As := [.int v]) (rest := []) ⟨hx, hb, hml, hown, hts⟩ (t_X12_isShip l dC dI _ κ τ ν ρ L f30 hG hT h0 v (-1) 0 ht_h0 (by rw [hf_33, mo_i1]; exact hI)) (cwV 1 hts gX12_of_X12_isShip rfl rfl rfl (by decide +kernel) ⟨Nat.le_of_ble_eq_true rfl, Nat.le_of_ble_eq_true rfl⟩) ⟨pz_blind, va_recv hK hP (ci := 12) (q0 := q34) rfl eq34, pz_pre hP hK hD hN⟩ rfl rfl hl.1 rfl (lv_room (Nat.le_of_ble_eq_true rfl)) dX12_of_7 ⟨Nat.le_of_ble_eq_true rfl, Nat.le_of_ble_eq_true rfl⟩) (fun r35 hw36 => ?_)
  obtain ⟨hw36r, hw36p⟩ := hw36
  have := hI.k1
  rw [hf_33, mo_i1] at hw36p
  refine lv_if_ne (tgt := 15) hx hb dX12_of_10 (by decide) (fun c37 => ?_) (fun c37 => ?_)
  · have ic37 : r35.toInt ≠ 0 := zi_ne rfl rfl c37
    have p38 : 0 ≤ v.toInt ∧ v.toInt < mo_R g27 1 := (tp_cond.yes hw36p) (by omega)
    refine lv_iload_n hx hb dX12_of_15 rfl (lv_at hl 1 rfl) ?_
    refine pz_calli (va_runS (As := [.int v]) (rest := []) ⟨hx, hb, hml, hown, hts⟩ (t_X12_shipAt l dC dI _ v (v.toInt) (by omega) rfl) (va_cwS 1 hts gX12_of_X12_shipAt rfl rfl rfl (by decide +kernel) ⟨Nat.le_of_ble_eq_true rfl, Nat.le_of_ble_eq_true rfl⟩) ⟨pz_blind, pz_pre pz_P0 (hK.sub (tys' := []) [] rfl) (pz_D0 (A := fun _ => True)) hN⟩ rfl rfl hl.1 rfl (lv_room (Nat.le_of_ble_eq_true rfl)) dX12_of_16 ⟨Nat.le_of_ble_eq_true rfl, Nat.le_of_ble_eq_true rfl⟩) (fun r39 hw40 => ?_)
    obtain ⟨hw40r, hw40p⟩ := hw40
    refine lv_istore_n (lv' := [(3, .int r39), (0, .ref h0), (1, .int v), (2, .int u)]) hx hb dX12_of_19 rfl hl (by decide) rfl (fun ls hl => ?_)
    refine lv_iload_n hx hb dX12_of_20 rfl (lv_at hl 3 rfl) ?_
    rcases zi_sw u 0 9 with h41 | h41
    · refine lv_tableOut (tgt := 164) hx hb dX12_of_21 h41 (by decide) ?_
      refine lv_iconst (v := (-1)) hx hb dX12_of_164 (by decide) ?_
      exact W.iret (v := (-1)) hx hb hr (fun t ht hW => ⟨⟨(-1), f30, rfl, ⟨hT, hR, trivial, trivial⟩, by rw [ht]; exact hP, va_K.moved hW.alike hK, hD⟩, hS.F ht⟩) hS.2.2 dX12_of_165
    · rcases (show u.toInt = 0 ∨ u.toInt = 1 ∨ u.toInt = 2 ∨ u.toInt = 3 ∨ u.toInt = 4 ∨ u.toInt = 5 ∨ u.toInt = 6 ∨ u.toInt = 7 ∨ u.toInt = 8 ∨ u.toInt = 9 by omega) with h41k | h41k | h41k | h41k | h41k | h41k | h41k | h41k | h41k | h41k
      · refine lv_tableIn (tgt := 76) hx hb dX12_of_21 (by omega) (by omega) (by rw [h41k]; rfl) (by decide) ?_
        refine lv_aload_n hx hb dX12_of_76 rfl (lv_at hl 1 rfl) ?_
        refine va_get (D := (dC, dI)) (ci := 12) (v := .ref (ρ h0 2)) (C := RX12) (T := TX12) (N := 53) hx hb hts hfX12 hown hK hP q34 eq34 rfl 2 (by decide) (hts (.fieldLink RX12 7 "ColdShipsModel" "row" "[I") (by decide +kernel)) (fun _ h9 => h9) rfl dX12_of_77 ?_
        refine lv_iload_n hx hb dX12_of_80 rfl (lv_at hl 0 rfl) ?_
        refine lv_iconst (v := 0) hx hb dX12_of_81 (by decide) ?_
        refine lv_iadd hx hb dX12_of_82 ?_
        refine lv_topi (fun z42 ez42 => ?_)
        have iz42 : z42.toInt = r39.toInt + 0 := zi_add ez42 rfl rfl (by omega) (by omega)
        obtain ⟨q43, eq43⟩ := tp_pos (tp_in hG y1 (by decide)) hf_33
        refine va_iald hx hb hK hP q43 0 eq43 rfl (vp_in_iff.mpr ⟨by omega, by omega⟩) dX12_of_83 ?_
        refine lv_topi (fun z44 ez44 => ?_)
        have jz44 : z44.toInt = mo_R g27 (547 + 84 * v.toInt + 0) := mo_rd ez44 (by omega)
        have kz44 := hI.SA (s := v.toInt) (by omega) (by omega)
        exact W.iret (v := z44) hx hb hr (fun t ht hW => ⟨⟨z44, f30, rfl, ⟨hT, hR, trivial, trivial⟩, by rw [ht]; exact hP, va_K.moved hW.alike hK, hD⟩, hS.F ht⟩) hS.2.2 dX12_of_84
      · refine lv_tableIn (tgt := 85) hx hb dX12_of_21 (by omega) (by omega) (by rw [h41k]; rfl) (by decide) ?_
        refine lv_aload_n hx hb dX12_of_85 rfl (lv_at hl 1 rfl) ?_
        refine va_get (D := (dC, dI)) (ci := 12) (v := .ref (ρ h0 2)) (C := RX12) (T := TX12) (N := 53) hx hb hts hfX12 hown hK hP q34 eq34 rfl 2 (by decide) (hts (.fieldLink RX12 7 "ColdShipsModel" "row" "[I") (by decide +kernel)) (fun _ h9 => h9) rfl dX12_of_86 ?_
        refine lv_iload_n hx hb dX12_of_89 rfl (lv_at hl 0 rfl) ?_
        refine lv_iconst (v := 1) hx hb dX12_of_90 (by decide) ?_
        refine lv_iadd hx hb dX12_of_91 ?_
        refine lv_topi (fun z45 ez45 => ?_)
        have iz45 : z45.toInt = r39.toInt + 1 := zi_add ez45 rfl rfl (by omega) (by omega)
        obtain ⟨q46, eq46⟩ := tp_pos (tp_in hG y1 (by decide)) hf_33
        refine va_iald hx hb hK hP q46 0 eq46 rfl (vp_in_iff.mpr ⟨by omega, by omega⟩) dX12_of_92 ?_
        refine lv_topi (fun z47 ez47 => ?_)
        exact W.iret (v := z47) hx hb hr (fun t ht hW => ⟨⟨z47, f30, rfl, ⟨hT, hR, trivial, trivial⟩, by rw [ht]; exact hP, va_K.moved hW.alike hK, hD⟩, hS.F ht⟩) hS.2.2 dX12_of_93
      · refine lv_tableIn (tgt := 94) hx hb dX12_of_21 (by omega) (by omega) (by rw [h41k]; rfl) (by decide) ?_
        refine lv_aload_n hx hb dX12_of_94 rfl (lv_at hl 1 rfl) ?_
        refine va_get (D := (dC, dI)) (ci := 12) (v := .ref (ρ h0 2)) (C := RX12) (T := TX12) (N := 53) hx hb hts hfX12 hown hK hP q34 eq34 rfl 2 (by decide) (hts (.fieldLink RX12 7 "ColdShipsModel" "row" "[I") (by decide +kernel)) (fun _ h9 => h9) rfl dX12_of_95 ?_
        refine lv_iload_n hx hb dX12_of_98 rfl (lv_at hl 0 rfl) ?_
        refine lv_iconst (v := 4) hx hb dX12_of_99 (by decide) ?_
        refine lv_iadd hx hb dX12_of_100 ?_
        refine lv_topi (fun z48 ez48 => ?_)
        have iz48 : z48.toInt = r39.toInt + 4 := zi_add ez48 rfl rfl (by omega) (by omega)
        obtain ⟨q49, eq49⟩ := tp_pos (tp_in hG y1 (by decide)) hf_33
        refine va_iald hx hb hK hP q49 0 eq49 rfl (vp_in_iff.mpr ⟨by omega, by omega⟩) dX12_of_101 ?_
        refine lv_topi (fun z50 ez50 => ?_)
        have jz50 : z50.toInt = mo_R g27 (547 + 84 * v.toInt + 4) := mo_rd ez50 (by omega)
        have kz50 := hI.GG (s := v.toInt) (by omega) (by omega)
        exact W.iret (v := z50) hx hb hr (fun t ht hW => ⟨⟨z50, f30, rfl, ⟨hT, hR, trivial, trivial⟩, by rw [ht]; exact hP, va_K.moved hW.alike hK, hD⟩, hS.F ht⟩) hS.2.2 dX12_of_102
      · refine lv_tableIn (tgt := 103) hx hb dX12_of_21 (by omega) (by omega) (by rw [h41k]; rfl) (by decide) ?_
        refine lv_aload_n hx hb dX12_of_103 rfl (lv_at hl 1 rfl) ?_
        refine va_get (D := (dC, dI)) (ci := 12) (v := .ref (ρ h0 2)) (C := RX12) (T := TX12) (N := 53) hx hb hts hfX12 hown hK hP q34 eq34 rfl 2 (by decide) (hts (.fieldLink RX12 7 "ColdShipsModel" "row" "[I") (by decide +kernel)) (fun _ h9 => h9) rfl dX12_of_104 ?_
        refine lv_iload_n hx hb dX12_of_107 rfl (lv_at hl 0 rfl) ?_
        refine lv_iconst (v := 5) hx hb dX12_of_108 (by decide) ?_
        refine lv_iadd hx hb dX12_of_109 ?_
        refine lv_topi (fun z51 ez51 => ?_)
        have iz51 : z51.toInt = r39.toInt + 5 := zi_add ez51 rfl rfl (by omega) (by omega)
        obtain ⟨q52, eq52⟩ := tp_pos (tp_in hG y1 (by decide)) hf_33
        refine va_iald hx hb hK hP q52 0 eq52 rfl (vp_in_iff.mpr ⟨by omega, by omega⟩) dX12_of_110 ?_
        refine lv_topi (fun z53 ez53 => ?_)
        have jz53 : z53.toInt = mo_R g27 (547 + 84 * v.toInt + 5) := mo_rd ez53 (by omega)
        have kz53 := hI.V (s := v.toInt) (by omega) (by omega)
        exact W.iret (v := z53) hx hb hr (fun t ht hW => ⟨⟨z53, f30, rfl, ⟨hT, hR, trivial, trivial⟩, by rw [ht]; exact hP, va_K.moved hW.alike hK, hD⟩, hS.F ht⟩) hS.2.2 dX12_of_111
      · refine lv_tableIn (tgt := 112) hx hb dX12_of_21 (by omega) (by omega) (by rw [h41k]; rfl) (by decide) ?_
        refine lv_aload_n hx hb dX12_of_112 rfl (lv_at hl 1 rfl) ?_
        refine va_get (D := (dC, dI)) (ci := 12) (v := .ref (ρ h0 2)) (C := RX12) (T := TX12) (N := 53) hx hb hts hfX12 hown hK hP q34 eq34 rfl 2 (by decide) (hts (.fieldLink RX12 7 "ColdShipsModel" "row" "[I") (by decide +kernel)) (fun _ h9 => h9) rfl dX12_of_113 ?_
        refine lv_iload_n hx hb dX12_of_116 rfl (lv_at hl 0 rfl) ?_
        refine lv_bipush (v := 6) hx hb dX12_of_117 (by decide) ?_
        refine lv_iadd hx hb dX12_of_119 ?_
        refine lv_topi (fun z54 ez54 => ?_)
        have iz54 : z54.toInt = r39.toInt + 6 := zi_add ez54 rfl rfl (by omega) (by omega)
        obtain ⟨q55, eq55⟩ := tp_pos (tp_in hG y1 (by decide)) hf_33
        refine va_iald hx hb hK hP q55 0 eq55 rfl (vp_in_iff.mpr ⟨by omega, by omega⟩) dX12_of_120 ?_
        refine lv_topi (fun z56 ez56 => ?_)
        exact W.iret (v := z56) hx hb hr (fun t ht hW => ⟨⟨z56, f30, rfl, ⟨hT, hR, trivial, trivial⟩, by rw [ht]; exact hP, va_K.moved hW.alike hK, hD⟩, hS.F ht⟩) hS.2.2 dX12_of_121
      · refine lv_tableIn (tgt := 122) hx hb dX12_of_21 (by omega) (by omega) (by rw [h41k]; rfl) (by decide) ?_
        refine lv_aload_n hx hb dX12_of_122 rfl (lv_at hl 1 rfl) ?_
        refine lv_iload_n hx hb dX12_of_123 rfl (lv_at hl 0 rfl) ?_
        refine pz_calli (va_runV (As := [.int r39]) (rest := []) ⟨hx, hb, hml, hown, hts⟩ (t_X12_pressOf l dC dI _ κ τ ν ρ L f30 hG hT h0 r39 (-1) 0 v.toInt ht_h0 (by omega) (by omega) (by rw [hf_33, mo_i1]; exact hI) (by simp only [hf_33, hf_o26, mo_i1]; try omega)) (cwV 1 hts gX12_of_X12_pressOf rfl rfl rfl (by decide +kernel) ⟨Nat.le_of_ble_eq_true rfl, Nat.le_of_ble_eq_true rfl⟩) ⟨pz_blind, va_recv hK hP (ci := 12) (q0 := q34) rfl eq34, pz_pre hP hK hD hN⟩ rfl rfl hl.1 rfl (lv_room (Nat.le_of_ble_eq_true rfl)) dX12_of_124 ⟨Nat.le_of_ble_eq_true rfl, Nat.le_of_ble_eq_true rfl⟩) (fun r57 hw58 => ?_)
        obtain ⟨hw58r, hw58p⟩ := hw58
        exact W.iret (v := r57) hx hb hr (fun t ht hW => ⟨⟨r57, f30, rfl, ⟨hT, hR, trivial, trivial⟩, by rw [ht]; exact hP, va_K.moved hW.alike hK, hD⟩, hS.F ht⟩) hS.2.2 dX12_of_127
      · refine lv_tableIn (tgt := 128) hx hb dX12_of_21 (by omega) (by omega) (by rw [h41k]; rfl) (by decide) ?_
        refine lv_aload_n hx hb dX12_of_128 rfl (lv_at hl 1 rfl) ?_
        refine va_get (D := (dC, dI)) (ci := 12) (v := .ref (ρ h0 2)) (C := RX12) (T := TX12) (N := 53) hx hb hts hfX12 hown hK hP q34 eq34 rfl 2 (by decide) (hts (.fieldLink RX12 7 "ColdShipsModel" "row" "[I") (by decide +kernel)) (fun _ h9 => h9) rfl dX12_of_129 ?_
        refine lv_iload_n hx hb dX12_of_132 rfl (lv_at hl 0 rfl) ?_
        refine lv_bipush (v := 10) hx hb dX12_of_133 (by decide) ?_
        refine lv_iadd hx hb dX12_of_135 ?_
        refine lv_topi (fun z59 ez59 => ?_)
        have iz59 : z59.toInt = r39.toInt + 10 := zi_add ez59 rfl rfl (by omega) (by omega)
        obtain ⟨q60, eq60⟩ := tp_pos (tp_in hG y1 (by decide)) hf_33
        refine va_iald hx hb hK hP q60 0 eq60 rfl (vp_in_iff.mpr ⟨by omega, by omega⟩) dX12_of_136 ?_
        refine lv_topi (fun z61 ez61 => ?_)
        have jz61 : z61.toInt = mo_R g27 (547 + 84 * v.toInt + 10) := mo_rd ez61 (by omega)
        have kz61 := hI.SO (s := v.toInt) (by omega) (by omega)
        exact W.iret (v := z61) hx hb hr (fun t ht hW => ⟨⟨z61, f30, rfl, ⟨hT, hR, trivial, trivial⟩, by rw [ht]; exact hP, va_K.moved hW.alike hK, hD⟩, hS.F ht⟩) hS.2.2 dX12_of_137
      · refine lv_tableIn (tgt := 138) hx hb dX12_of_21 (by omega) (by omega) (by rw [h41k]; rfl) (by decide) ?_
        refine lv_aload_n hx hb dX12_of_138 rfl (lv_at hl 1 rfl) ?_
        refine va_get (D := (dC, dI)) (ci := 12) (v := .ref (ρ h0 2)) (C := RX12) (T := TX12) (N := 53) hx hb hts hfX12 hown hK hP q34 eq34 rfl 2 (by decide) (hts (.fieldLink RX12 7 "ColdShipsModel" "row" "[I") (by decide +kernel)) (fun _ h9 => h9) rfl dX12_of_139 ?_
        refine lv_iload_n hx hb dX12_of_142 rfl (lv_at hl 0 rfl) ?_
        refine lv_bipush (v := 11) hx hb dX12_of_143 (by decide) ?_
        refine lv_iadd hx hb dX12_of_145 ?_
        refine lv_topi (fun z62 ez62 => ?_)
        have iz62 : z62.toInt = r39.toInt + 11 := zi_add ez62 rfl rfl (by omega) (by omega)
        obtain ⟨q63, eq63⟩ := tp_pos (tp_in hG y1 (by decide)) hf_33
        refine va_iald hx hb hK hP q63 0 eq63 rfl (vp_in_iff.mpr ⟨by omega, by omega⟩) dX12_of_146 ?_
        refine lv_topi (fun z64 ez64 => ?_)
        exact W.iret (v := z64) hx hb hr (fun t ht hW => ⟨⟨z64, f30, rfl, ⟨hT, hR, trivial, trivial⟩, by rw [ht]; exact hP, va_K.moved hW.alike hK, hD⟩, hS.F ht⟩) hS.2.2 dX12_of_147
      · refine lv_tableIn (tgt := 148) hx hb dX12_of_21 (by omega) (by omega) (by rw [h41k]; rfl) (by decide) ?_
        refine lv_aload_n hx hb dX12_of_148 rfl (lv_at hl 1 rfl) ?_
        refine lv_iload_n hx hb dX12_of_149 rfl (lv_at hl 0 rfl) ?_
        refine pz_calli (va_runV (As := [.int r39]) (rest := []) ⟨hx, hb, hml, hown, hts⟩ (t_X12_draftOf l dC dI _ κ τ ν ρ L f30 hG hT h0 r39 (-1) 0 v.toInt ht_h0 (by omega) (by omega) (by rw [hf_33, mo_i1]; exact hI) (by simp only [hf_33, hf_o26, mo_i1]; try omega)) (cwV 1 hts gX12_of_X12_draftOf rfl rfl rfl (by decide +kernel) ⟨Nat.le_of_ble_eq_true rfl, Nat.le_of_ble_eq_true rfl⟩) ⟨pz_blind, va_recv hK hP (ci := 12) (q0 := q34) rfl eq34, pz_pre hP hK hD hN⟩ rfl rfl hl.1 rfl (lv_room (Nat.le_of_ble_eq_true rfl)) dX12_of_150 ⟨Nat.le_of_ble_eq_true rfl, Nat.le_of_ble_eq_true rfl⟩) (fun r65 hw66 => ?_)
        obtain ⟨hw66r, hw66p⟩ := hw66
        exact W.iret (v := r65) hx hb hr (fun t ht hW => ⟨⟨r65, f30, rfl, ⟨hT, hR, trivial, trivial⟩, by rw [ht]; exact hP, va_K.moved hW.alike hK, hD⟩, hS.F ht⟩) hS.2.2 dX12_of_153
      · refine lv_tableIn (tgt := 154) hx hb dX12_of_21 (by omega) (by omega) (by rw [h41k]; rfl) (by decide) ?_
        refine lv_aload_n hx hb dX12_of_154 rfl (lv_at hl 1 rfl) ?_
        refine va_get (D := (dC, dI)) (ci := 12) (v := .ref (ρ h0 2)) (C := RX12) (T := TX12) (N := 53) hx hb hts hfX12 hown hK hP q34 eq34 rfl 2 (by decide) (hts (.fieldLink RX12 7 "ColdShipsModel" "row" "[I") (by decide +kernel)) (fun _ h9 => h9) rfl dX12_of_155 ?_
        refine lv_iload_n hx hb dX12_of_158 rfl (lv_at hl 0 rfl) ?_
        refine lv_bipush (v := 9) hx hb dX12_of_159 (by decide) ?_
        refine lv_iadd hx hb dX12_of_161 ?_
        refine lv_topi (fun z67 ez67 => ?_)
        have iz67 : z67.toInt = r39.toInt + 9 := zi_add ez67 rfl rfl (by omega) (by omega)
        obtain ⟨q68, eq68⟩ := tp_pos (tp_in hG y1 (by decide)) hf_33
        refine va_iald hx hb hK hP q68 0 eq68 rfl (vp_in_iff.mpr ⟨by omega, by omega⟩) dX12_of_162 ?_
        refine lv_topi (fun z69 ez69 => ?_)
        exact W.iret (v := z69) hx hb hr (fun t ht hW => ⟨⟨z69, f30, rfl, ⟨hT, hR, trivial, trivial⟩, by rw [ht]; exact hP, va_K.moved hW.alike hK, hD⟩, hS.F ht⟩) hS.2.2 dX12_of_163
  · have ic37 : r35.toInt = 0 := zi_nef rfl rfl c37
    refine lv_iconst (v := (-1)) hx hb dX12_of_13 (by decide) ?_
    exact W.iret (v := (-1)) hx hb hr (fun t ht hW => ⟨⟨(-1), f30, rfl, ⟨hT, hR, trivial, trivial⟩, by rw [ht]; exact hP, va_K.moved hW.alike hK, hD⟩, hS.F ht⟩) hS.2.2 dX12_of_14
set_option maxHeartbeats 4000000 in
set_option maxRecDepth 100000 in
theorem t_X12_part (l : Launch) (dC : Nat → ClassId) (dI : Nat → Nat → Nat) (sz : Nat) (κ : Nat → ClassId) (τ ν : Nat → Nat) (ρ : Nat → Nat → Nat) (L : List Nat) (f : Nat → va_E) (hG : tp_G τ ν ρ L) (hT : tp_T (mo_O κ) κ τ ν ρ f) (h0 : Nat) (v : Int32) (u : Int32) (ht_h0 : τ h0 = 13) (hJ : mo_RI (-1) 0 (mo_R (mo_i (f (ρ h0 2))))) : Met l yX12_part wsX12_part ({ frames := 4, cells := 0, slots := 0, locals := 1200 }) (va_Pc [.ref h0, .int v, .int u] (pz_B dC dI (tp_K κ) (va_pl L f) sz)) (va_Qi (fun (r : Int32) (f1 : Nat → va_E) => tp_T (mo_O κ) κ τ ν ρ f1 ∧ tp_F τ [13] f f1 ∧ True ∧ True) (fun (f1 : Nat → va_E) (t : State) => pz_E dC dI (tp_K κ) (va_A (va_pl L f) sz) (va_pl L f1) t) (va_A (va_pl L f) sz)) 0 0 (va_A (va_pl L f) sz) := by
  refine Met.ofW (cc := cX12_part) (maxL := 3) (ret := some .int) (by decide) rfl ?_
  intro p e s m args below meth c s₁ B hml hv
  obtain ⟨rfl, hsz, hP, hK, hD0, hN⟩ := hv
  have hx := B.exec
  have hb := B.bytes
  have hr := B.returns
  have hts := atoms_spec (ws := wsX12_part) B.pre
  have hown : s.vm.findClass RX12 = some m.cls := findClass_of_methodNamed B.named
  have hlocks := B.notSynchronized
  subst hsz
  have hD := hD0.self (sz := s.heap.size)
  generalize hAe : va_A (va_pl L f) s.heap.size = A at hD ⊢
  have hA : ∀ q : Nat, s.heap.size ≤ q → A q := fun q h => by rw [← hAe]; exact Or.inr h
  have hS : va_S A s.heap s.heap [] := va_S.rf
  have hR : tp_F τ [13] f f := tp_F.rf
  have hl := lv_entry ([.ref h0, .int v, .int u]) (n := 3) (Nat.le_of_ble_eq_true rfl)
  rw [lg_entry_eq]
  generalize (lg_sl ([.ref h0, .int v, .int u]) ++ List.replicate (3 - (lg_sl ([.ref h0, .int v, .int u])).length) Slot.unset).toArray = ls at hl ⊢
  have hl : lv_has ls 3 [(0, .ref h0), (1, .int v), (2, .int u)] := hl
  have hfX12 : ∀ w ∈ wsX120, w ∈ wsX12_part := fun w h => List.mem_cons_of_mem _ (List.mem_append_right _ h)
  obtain ⟨y1, y2, y3, y4, y5, y6, y7, y8, y9, y10, y11, y12, y13, y14, y15, y16, y17, y18, y19, y20, y21, y22, y23, y24, y25⟩ := tpg_13 hG ht_h0
  obtain ⟨g27, hf_o26⟩ := tpo_32 hT y1
  have hI : mo_RI (-1) 0 (mo_R g27) := by have q9 := hJ; rw [hf_o26, mo_i1] at q9; exact q9
  refine lv_aload_n hx hb dX12_part_0 rfl (lv_at hl 0 rfl) ?_
  refine lv_iconst (v := 0) hx hb dX12_part_1 (by decide) ?_
  obtain ⟨o28_x0, o28_x1, o28_x7, o28_x9, o28_x10, o28_x11, o28_x12, o28_x13, o28_x14, o28_x15, o28_x16, o28_x17, o28_x18, o28_x19, o28_x20, o28_x22, o28_x25, o28_x28, o28_x29, o28_x32, o28_x33, o28_x34, o28_x35, o28_x36, o28_x37, o28_x38, o28_x47, o28_x48, hf_o28, ro28_0, ro28_1, ro28_2, ro28_3, ro28_4, ro28_5, ro28_6, ro28_7, ro28_8, ro28_9, ro28_10, ro28_11, ro28_12, ro28_13⟩ := tpo_13 hT ht_h0
  obtain ⟨q29, eq29⟩ := tp_pos (tp_in hG ht_h0 (by decide)) hf_o28
  refine va_put (D := (dC, dI)) (ci := 12) (v := .int 0) (ty := .int) (C := RX12) (T := TX12) (N := 53) hx hb hts hfX12 tyX12 tyX12_ok nmX12 hown hK hP hD hS q29 eq29 rfl 0 (by decide) (hts (.fieldLink RX12 91 "ColdShipsModel" "thrown" "I") (by decide +kernel)) (fun _ h9 => h9) rfl (by decide +kernel) rfl rfl (Nat.le_of_ble_eq_true rfl) dX12_part_2 (tp_k (.inr (12, [.int 0, .int o28_x1, .ref (ρ h0 2), .ref (ρ h0 3), .ref (ρ h0 4), .ref (ρ h0 5), .ref (ρ h0 6), .int o28_x7, .ref (ρ h0 8), .int o28_x9, .int o28_x10, .int o28_x11, .int o28_x12, .long o28_x13, .int o28_x14, .int o28_x15, .int o28_x16, .int o28_x17, .int o28_x18, .int o28_x19, .int o28_x20, .ref (ρ h0 21), .int o28_x22, .ref (ρ h0 23), .ref (ρ h0 24), .int o28_x25, .ref (ρ h0 26), .ref (ρ h0 27), .int o28_x28, .int o28_x29, .ref (ρ h0 30), .ref (ρ h0 31), .int o28_x32, .long o28_x33, .long o28_x34, .long o28_x35, .int o28_x36, .int o28_x37, .int o28_x38, .ref (ρ h0 39), .ref (ρ h0 40), .ref (ρ h0 41), .ref (ρ h0 42), .ref (ρ h0 43), .ref (ρ h0 44), .ref (ρ h0 45), .ref (ρ h0 46), .int o28_x47, .int o28_x48, .ref (ρ h0 49), .ref (ρ h0 50), .ref (ρ h0 51), .ref (ρ h0 52)])) hD (tp_in hG ht_h0 (by decide)) eq29 (fun f30 H locs hP hD hS g32 k31 => ?_))
  have hT := hT.up ht_h0 g32 k31 ⟨_, _, _, _, _, _, _, _, _, _, _, _, _, _, _, _, _, _, _, _, _, _, _, _, _, _, _, _, rfl, ro28_0, ro28_1, ro28_2, ro28_3, ro28_4, ro28_5, ro28_6, ro28_7, ro28_8, ro28_9, ro28_10, ro28_11, ro28_12, ro28_13⟩
  have hR := hR.up ht_h0 (by decide) k31
  refine lv_aload_n hx hb dX12_part_5 rfl (lv_at hl 0 rfl) ?_
  refine lv_iload_n hx hb dX12_part_6 rfl (lv_at hl 1 rfl) ?_
  have hf_33 : f30 (ρ h0 2) = .inl (κ 0, 12967, .inl g27) := (k31 _ (tp_ne y1 ht_h0 (by decide))).trans hf_o26
  obtain ⟨q34, eq34⟩ := tp_pos (tp_in hG ht_h0 (by decide)) g32
  refine pz_calli (va_runV (As := [.int v]) (rest := []) ⟨hx, hb, hml, hown, hts⟩ (t_X12_isShip l dC dI _ κ τ ν ρ L f30 hG hT h0 v (-1) 0 ht_h0 (by rw [hf_33, mo_i1]; exact hI)) (cwV 1 hts gX12_part_X12_isShip rfl rfl rfl (by decide +kernel) ⟨Nat.le_of_ble_eq_true rfl, Nat.le_of_ble_eq_true rfl⟩) ⟨pz_blind, va_recv hK hP (ci := 12) (q0 := q34) rfl eq34, pz_pre hP hK hD hN⟩ rfl rfl hl.1 rfl (lv_room (Nat.le_of_ble_eq_true rfl)) dX12_part_7 ⟨Nat.le_of_ble_eq_true rfl, Nat.le_of_ble_eq_true rfl⟩) (fun r35 hw36 => ?_)
  obtain ⟨hw36r, hw36p⟩ := hw36
  have := hI.k1
  rw [hf_33, mo_i1] at hw36p
  refine lv_if_eq (tgt := 38) hx hb dX12_part_10 (by decide) (fun c37 => ?_) (fun c37 => ?_)
  · have ic37 : r35.toInt = 0 := zi_eq rfl rfl c37
    refine lv_iconst (v := (-1)) hx hb dX12_part_38 (by decide) ?_
    exact W.iret (v := (-1)) hx hb hr (fun t ht hW => ⟨⟨(-1), f30, rfl, ⟨hT, hR, trivial, trivial⟩, by rw [ht]; exact hP, va_K.moved hW.alike hK, hD⟩, hS.F ht⟩) hS.2.2 dX12_part_39
  · have ic37 : r35.toInt ≠ 0 := zi_eqf rfl rfl c37
    have p38 : 0 ≤ v.toInt ∧ v.toInt < mo_R g27 1 := (tp_cond.yes hw36p) (by omega)
    refine lv_aload_n hx hb dX12_part_13 rfl (lv_at hl 0 rfl) ?_
    refine lv_iload_n hx hb dX12_part_14 rfl (lv_at hl 2 rfl) ?_
    refine pz_calli (va_runV (As := [.int u]) (rest := []) ⟨hx, hb, hml, hown, hts⟩ (t_X12_isTerminal l dC dI _ κ τ ν ρ L f30 hG hT h0 u (-1) 0 ht_h0 (by rw [hf_33, mo_i1]; exact hI)) (cwV 1 hts gX12_part_X12_isTerminal rfl rfl rfl (by decide +kernel) ⟨Nat.le_of_ble_eq_true rfl, Nat.le_of_ble_eq_true rfl⟩) ⟨pz_blind, va_recv hK hP (ci := 12) (q0 := q34) rfl eq34, pz_pre hP hK hD hN⟩ rfl rfl hl.1 rfl (lv_room (Nat.le_of_ble_eq_true rfl)) dX12_part_15 ⟨Nat.le_of_ble_eq_true rfl, Nat.le_of_ble_eq_true rfl⟩) (fun r39 hw40 => ?_)
    obtain ⟨hw40r, hw40p⟩ := hw40
    have := hI.k0
    rw [hf_33, mo_i1] at hw40p
    refine lv_if_eq (tgt := 38) hx hb dX12_part_18 (by decide) (fun c41 => ?_) (fun c41 => ?_)
    · have ic41 : r39.toInt = 0 := zi_eq rfl rfl c41
      refine lv_iconst (v := (-1)) hx hb dX12_part_38 (by decide) ?_
      exact W.iret (v := (-1)) hx hb hr (fun t ht hW => ⟨⟨(-1), f30, rfl, ⟨hT, hR, trivial, trivial⟩, by rw [ht]; exact hP, va_K.moved hW.alike hK, hD⟩, hS.F ht⟩) hS.2.2 dX12_part_39
    · have ic41 : r39.toInt ≠ 0 := zi_eqf rfl rfl c41
      have p42 : 0 ≤ u.toInt ∧ u.toInt < mo_R g27 0 := (tp_cond.yes hw40p) (by omega)
      refine lv_aload_n hx hb dX12_part_21 rfl (lv_at hl 0 rfl) ?_
      refine va_get (D := (dC, dI)) (ci := 12) (v := .ref (ρ h0 2)) (C := RX12) (T := TX12) (N := 53) hx hb hts hfX12 hown hK hP q34 eq34 rfl 2 (by decide) (hts (.fieldLink RX12 7 "ColdShipsModel" "row" "[I") (by decide +kernel)) (fun _ h9 => h9) rfl dX12_part_22 ?_
      refine lv_iload_n hx hb dX12_part_25 rfl (lv_at hl 1 rfl) ?_
      refine pz_calli (va_runS (As := [.int v]) (rest := [.ref (ρ h0 2)]) ⟨hx, hb, hml, hown, hts⟩ (t_X12_shipAt l dC dI _ v (v.toInt) (by omega) rfl) (va_cwS 1 hts gX12_part_X12_shipAt rfl rfl rfl (by decide +kernel) ⟨Nat.le_of_ble_eq_true rfl, Nat.le_of_ble_eq_true rfl⟩) ⟨pz_blind, pz_pre pz_P0 (hK.sub (tys' := []) [] rfl) (pz_D0 (A := fun _ => True)) hN⟩ rfl rfl hl.1 rfl (lv_room (Nat.le_of_ble_eq_true rfl)) dX12_part_26 ⟨Nat.le_of_ble_eq_true rfl, Nat.le_of_ble_eq_true rfl⟩) (fun r43 hw44 => ?_)
      obtain ⟨hw44r, hw44p⟩ := hw44
      refine lv_bipush (v := 16) hx hb dX12_part_29 (by decide) ?_
      refine lv_iadd hx hb dX12_part_31 ?_
      refine lv_topi (fun z45 ez45 => ?_)
      have iz45 : z45.toInt = r43.toInt + 16 := zi_add ez45 rfl rfl (by omega) (by omega)
      refine lv_iload_n hx hb dX12_part_32 rfl (lv_at hl 2 rfl) ?_
      refine lv_iadd hx hb dX12_part_33 ?_
      refine lv_topi (fun z46 ez46 => ?_)
      have iz46 : z46.toInt = z45.toInt + u.toInt := zi_add ez46 rfl rfl (by omega) (by omega)
      obtain ⟨q47, eq47⟩ := tp_pos (tp_in hG y1 (by decide)) hf_33
      refine va_iald hx hb hK hP q47 0 eq47 rfl (vp_in_iff.mpr ⟨by omega, by omega⟩) dX12_part_34 ?_
      refine lv_topi (fun z48 ez48 => ?_)
      refine lv_goto (tgt := 39) hx hb dX12_part_35 (by decide) ?_
      exact W.iret (v := z48) hx hb hr (fun t ht hW => ⟨⟨z48, f30, rfl, ⟨hT, hR, trivial, trivial⟩, by rw [ht]; exact hP, va_K.moved hW.alike hK, hD⟩, hS.F ht⟩) hS.2.2 dX12_part_39
set_option maxHeartbeats 4000000 in
set_option maxRecDepth 100000 in
theorem t_X12_book (l : Launch) (dC : Nat → ClassId) (dI : Nat → Nat → Nat) (sz : Nat) (κ : Nat → ClassId) (τ ν : Nat → Nat) (ρ : Nat → Nat → Nat) (L : List Nat) (f : Nat → va_E) (hG : tp_G τ ν ρ L) (hT : tp_T (mo_O κ) κ τ ν ρ f) (h0 : Nat) (v : Int32) (u : Int32) (ht_h0 : τ h0 = 13) (hJ : mo_RI (-1) 0 (mo_R (mo_i (f (ρ h0 2))))) : Met l yX12_book wsX12_book ({ frames := 4, cells := 0, slots := 0, locals := 1200 }) (va_Pc [.ref h0, .int v, .int u] (pz_B dC dI (tp_K κ) (va_pl L f) sz)) (va_Ql (fun (r : Int64) (f1 : Nat → va_E) => tp_T (mo_O κ) κ τ ν ρ f1 ∧ tp_F τ [13] f f1 ∧ True ∧ True) (fun (f1 : Nat → va_E) (t : State) => pz_E dC dI (tp_K κ) (va_A (va_pl L f) sz) (va_pl L f1) t) (va_A (va_pl L f) sz)) 0 0 (va_A (va_pl L f) sz) := by
  refine Met.ofW (cc := cX12_book) (maxL := 3) (ret := some .long) (by decide) rfl ?_
  intro p e s m args below meth c s₁ B hml hv
  obtain ⟨rfl, hsz, hP, hK, hD0, hN⟩ := hv
  have hx := B.exec
  have hb := B.bytes
  have hr := B.returns
  have hts := atoms_spec (ws := wsX12_book) B.pre
  have hown : s.vm.findClass RX12 = some m.cls := findClass_of_methodNamed B.named
  have hlocks := B.notSynchronized
  subst hsz
  have hD := hD0.self (sz := s.heap.size)
  generalize hAe : va_A (va_pl L f) s.heap.size = A at hD ⊢
  have hA : ∀ q : Nat, s.heap.size ≤ q → A q := fun q h => by rw [← hAe]; exact Or.inr h
  have hS : va_S A s.heap s.heap [] := va_S.rf
  have hR : tp_F τ [13] f f := tp_F.rf
  have hl := lv_entry ([.ref h0, .int v, .int u]) (n := 3) (Nat.le_of_ble_eq_true rfl)
  rw [lg_entry_eq]
  generalize (lg_sl ([.ref h0, .int v, .int u]) ++ List.replicate (3 - (lg_sl ([.ref h0, .int v, .int u])).length) Slot.unset).toArray = ls at hl ⊢
  have hl : lv_has ls 3 [(0, .ref h0), (1, .int v), (2, .int u)] := hl
  have hfX12 : ∀ w ∈ wsX120, w ∈ wsX12_book := fun w h => List.mem_cons_of_mem _ (List.mem_append_right _ h)
  obtain ⟨y1, y2, y3, y4, y5, y6, y7, y8, y9, y10, y11, y12, y13, y14, y15, y16, y17, y18, y19, y20, y21, y22, y23, y24, y25⟩ := tpg_13 hG ht_h0
  obtain ⟨g27, hf_o26⟩ := tpo_32 hT y1
  have hI : mo_RI (-1) 0 (mo_R g27) := by have q9 := hJ; rw [hf_o26, mo_i1] at q9; exact q9
  refine lv_aload_n hx hb dX12_book_0 rfl (lv_at hl 0 rfl) ?_
  refine lv_iconst (v := 0) hx hb dX12_book_1 (by decide) ?_
  obtain ⟨o28_x0, o28_x1, o28_x7, o28_x9, o28_x10, o28_x11, o28_x12, o28_x13, o28_x14, o28_x15, o28_x16, o28_x17, o28_x18, o28_x19, o28_x20, o28_x22, o28_x25, o28_x28, o28_x29, o28_x32, o28_x33, o28_x34, o28_x35, o28_x36, o28_x37, o28_x38, o28_x47, o28_x48, hf_o28, ro28_0, ro28_1, ro28_2, ro28_3, ro28_4, ro28_5, ro28_6, ro28_7, ro28_8, ro28_9, ro28_10, ro28_11, ro28_12, ro28_13⟩ := tpo_13 hT ht_h0
  obtain ⟨q29, eq29⟩ := tp_pos (tp_in hG ht_h0 (by decide)) hf_o28
  refine va_put (D := (dC, dI)) (ci := 12) (v := .int 0) (ty := .int) (C := RX12) (T := TX12) (N := 53) hx hb hts hfX12 tyX12 tyX12_ok nmX12 hown hK hP hD hS q29 eq29 rfl 0 (by decide) (hts (.fieldLink RX12 91 "ColdShipsModel" "thrown" "I") (by decide +kernel)) (fun _ h9 => h9) rfl (by decide +kernel) rfl rfl (Nat.le_of_ble_eq_true rfl) dX12_book_2 (tp_k (.inr (12, [.int 0, .int o28_x1, .ref (ρ h0 2), .ref (ρ h0 3), .ref (ρ h0 4), .ref (ρ h0 5), .ref (ρ h0 6), .int o28_x7, .ref (ρ h0 8), .int o28_x9, .int o28_x10, .int o28_x11, .int o28_x12, .long o28_x13, .int o28_x14, .int o28_x15, .int o28_x16, .int o28_x17, .int o28_x18, .int o28_x19, .int o28_x20, .ref (ρ h0 21), .int o28_x22, .ref (ρ h0 23), .ref (ρ h0 24), .int o28_x25, .ref (ρ h0 26), .ref (ρ h0 27), .int o28_x28, .int o28_x29, .ref (ρ h0 30), .ref (ρ h0 31), .int o28_x32, .long o28_x33, .long o28_x34, .long o28_x35, .int o28_x36, .int o28_x37, .int o28_x38, .ref (ρ h0 39), .ref (ρ h0 40), .ref (ρ h0 41), .ref (ρ h0 42), .ref (ρ h0 43), .ref (ρ h0 44), .ref (ρ h0 45), .ref (ρ h0 46), .int o28_x47, .int o28_x48, .ref (ρ h0 49), .ref (ρ h0 50), .ref (ρ h0 51), .ref (ρ h0 52)])) hD (tp_in hG ht_h0 (by decide)) eq29 (fun f30 H locs hP hD hS g32 k31 => ?_))
  have hT := hT.up ht_h0 g32 k31 ⟨_, _, _, _, _, _, _, _, _, _, _, _, _, _, _, _, _, _, _, _, _, _, _, _, _, _, _, _, rfl, ro28_0, ro28_1, ro28_2, ro28_3, ro28_4, ro28_5, ro28_6, ro28_7, ro28_8, ro28_9, ro28_10, ro28_11, ro28_12, ro28_13⟩
  have hR := hR.up ht_h0 (by decide) k31
  refine lv_aload_n hx hb dX12_book_5 rfl (lv_at hl 0 rfl) ?_
  refine lv_iload_n hx hb dX12_book_6 rfl (lv_at hl 1 rfl) ?_
  have hf_33 : f30 (ρ h0 2) = .inl (κ 0, 12967, .inl g27) := (k31 _ (tp_ne y1 ht_h0 (by decide))).trans hf_o26
  obtain ⟨q34, eq34⟩ := tp_pos (tp_in hG ht_h0 (by decide)) g32
  refine pz_calli (va_runV (As := [.int v]) (rest := []) ⟨hx, hb, hml, hown, hts⟩ (t_X12_isShip l dC dI _ κ τ ν ρ L f30 hG hT h0 v (-1) 0 ht_h0 (by rw [hf_33, mo_i1]; exact hI)) (cwV 1 hts gX12_book_X12_isShip rfl rfl rfl (by decide +kernel) ⟨Nat.le_of_ble_eq_true rfl, Nat.le_of_ble_eq_true rfl⟩) ⟨pz_blind, va_recv hK hP (ci := 12) (q0 := q34) rfl eq34, pz_pre hP hK hD hN⟩ rfl rfl hl.1 rfl (lv_room (Nat.le_of_ble_eq_true rfl)) dX12_book_7 ⟨Nat.le_of_ble_eq_true rfl, Nat.le_of_ble_eq_true rfl⟩) (fun r35 hw36 => ?_)
  obtain ⟨hw36r, hw36p⟩ := hw36
  have := hI.k1
  rw [hf_33, mo_i1] at hw36p
  refine lv_if_eq (tgt := 43) hx hb dX12_book_10 (by decide) (fun c37 => ?_) (fun c37 => ?_)
  · have ic37 : r35.toInt = 0 := zi_eq rfl rfl c37
    refine lv_ldc2 (own := RX12) (v := (-1)) hx hb hown (hts (.constantLong RX12 158 (-1)) (by decide +kernel)) dX12_book_43 ?_
    exact W.lret (v := (-1)) hx hb hr (fun t ht hW => ⟨⟨(-1), f30, rfl, ⟨hT, hR, trivial, trivial⟩, by rw [ht]; exact hP, va_K.moved hW.alike hK, hD⟩, hS.F ht⟩) hS.2.2 dX12_book_46
  · have ic37 : r35.toInt ≠ 0 := zi_eqf rfl rfl c37
    have p38 : 0 ≤ v.toInt ∧ v.toInt < mo_R g27 1 := (tp_cond.yes hw36p) (by omega)
    refine lv_iload_n hx hb dX12_book_13 rfl (lv_at hl 2 rfl) ?_
    refine lv_i2l hx hb dX12_book_14 rfl ?_
    refine lv_lconst (v := 0) hx hb dX12_book_15 (by decide) ?_
    refine lv_ldc2 (own := RX12) (v := 3) hx hb hown (hts (.constantLong RX12 152 (3)) (by decide +kernel)) dX12_book_16 ?_
    refine pz_calli (va_runS (As := [.long u.toInt64, .long 0, .long 3]) (rest := []) ⟨hx, hb, hml, hown, hts⟩ (t_X12_in l dC dI _ u.toInt64 (0) (3) (u.toInt) (0) (3) (Int32.toInt_toInt64 u) rfl rfl) (va_cwS 3 hts gX12_book_X12_in rfl rfl rfl (by decide +kernel) ⟨Nat.le_of_ble_eq_true rfl, Nat.le_of_ble_eq_true rfl⟩) ⟨pz_blind, pz_pre pz_P0 (hK.sub (tys' := []) [] rfl) (pz_D0 (A := fun _ => True)) hN⟩ rfl rfl hl.1 rfl (lv_room (Nat.le_of_ble_eq_true rfl)) dX12_book_19 ⟨Nat.le_of_ble_eq_true rfl, Nat.le_of_ble_eq_true rfl⟩) (fun r39 hw40 => ?_)
    obtain ⟨hw40r, hw40p⟩ := hw40
    refine lv_if_eq (tgt := 43) hx hb dX12_book_22 (by decide) (fun c41 => ?_) (fun c41 => ?_)
    · have ic41 : r39.toInt = 0 := zi_eq rfl rfl c41
      refine lv_ldc2 (own := RX12) (v := (-1)) hx hb hown (hts (.constantLong RX12 158 (-1)) (by decide +kernel)) dX12_book_43 ?_
      exact W.lret (v := (-1)) hx hb hr (fun t ht hW => ⟨⟨(-1), f30, rfl, ⟨hT, hR, trivial, trivial⟩, by rw [ht]; exact hP, va_K.moved hW.alike hK, hD⟩, hS.F ht⟩) hS.2.2 dX12_book_46
    · have ic41 : r39.toInt ≠ 0 := zi_eqf rfl rfl c41
      have p42 : (0) ≤ (u.toInt) ∧ (u.toInt) ≤ (3) := (tp_cond.yes hw40p) (by omega)
      refine lv_aload_n hx hb dX12_book_25 rfl (lv_at hl 0 rfl) ?_
      refine va_get (D := (dC, dI)) (ci := 12) (v := .ref (ρ h0 2)) (C := RX12) (T := TX12) (N := 53) hx hb hts hfX12 hown hK hP q34 eq34 rfl 2 (by decide) (hts (.fieldLink RX12 7 "ColdShipsModel" "row" "[I") (by decide +kernel)) (fun _ h9 => h9) rfl dX12_book_26 ?_
      refine lv_iload_n hx hb dX12_book_29 rfl (lv_at hl 1 rfl) ?_
      refine pz_calli (va_runS (As := [.int v]) (rest := [.ref (ρ h0 2)]) ⟨hx, hb, hml, hown, hts⟩ (t_X12_shipAt l dC dI _ v (v.toInt) (by omega) rfl) (va_cwS 1 hts gX12_book_X12_shipAt rfl rfl rfl (by decide +kernel) ⟨Nat.le_of_ble_eq_true rfl, Nat.le_of_ble_eq_true rfl⟩) ⟨pz_blind, pz_pre pz_P0 (hK.sub (tys' := []) [] rfl) (pz_D0 (A := fun _ => True)) hN⟩ rfl rfl hl.1 rfl (lv_room (Nat.le_of_ble_eq_true rfl)) dX12_book_30 ⟨Nat.le_of_ble_eq_true rfl, Nat.le_of_ble_eq_true rfl⟩) (fun r43 hw44 => ?_)
      obtain ⟨hw44r, hw44p⟩ := hw44
      refine lv_bipush (v := 12) hx hb dX12_book_33 (by decide) ?_
      refine lv_iadd hx hb dX12_book_35 ?_
      refine lv_topi (fun z45 ez45 => ?_)
      have iz45 : z45.toInt = r43.toInt + 12 := zi_add ez45 rfl rfl (by omega) (by omega)
      refine lv_iload_n hx hb dX12_book_36 rfl (lv_at hl 2 rfl) ?_
      refine lv_iadd hx hb dX12_book_37 ?_
      refine lv_topi (fun z46 ez46 => ?_)
      have iz46 : z46.toInt = z45.toInt + u.toInt := zi_add ez46 rfl rfl (by omega) (by omega)
      obtain ⟨q47, eq47⟩ := tp_pos (tp_in hG y1 (by decide)) hf_33
      refine va_iald hx hb hK hP q47 0 eq47 rfl (vp_in_iff.mpr ⟨by omega, by omega⟩) dX12_book_38 ?_
      refine lv_topi (fun z48 ez48 => ?_)
      refine lv_i2l hx hb dX12_book_39 rfl ?_
      refine lv_goto (tgt := 46) hx hb dX12_book_40 (by decide) ?_
      exact W.lret (v := z48.toInt64) hx hb hr (fun t ht hW => ⟨⟨z48.toInt64, f30, rfl, ⟨hT, hR, trivial, trivial⟩, by rw [ht]; exact hP, va_K.moved hW.alike hK, hD⟩, hS.F ht⟩) hS.2.2 dX12_book_46
set_option maxHeartbeats 4000000 in
set_option maxRecDepth 100000 in
theorem t_X12_store (l : Launch) (dC : Nat → ClassId) (dI : Nat → Nat → Nat) (sz : Nat) (κ : Nat → ClassId) (τ ν : Nat → Nat) (ρ : Nat → Nat → Nat) (L : List Nat) (f : Nat → va_E) (hG : tp_G τ ν ρ L) (hT : tp_T (mo_O κ) κ τ ν ρ f) (h0 : Nat) (v : Int32) (ht_h0 : τ h0 = 13) (hJ : mo_RI (-1) 0 (mo_R (mo_i (f (ρ h0 2))))) : Met l yX12_store wsX12_store ({ frames := 4, cells := 0, slots := 0, locals := 1200 }) (va_Pc [.ref h0, .int v] (pz_B dC dI (tp_K κ) (va_pl L f) sz)) (va_Qi (fun (r : Int32) (f1 : Nat → va_E) => tp_T (mo_O κ) κ τ ν ρ f1 ∧ tp_F τ [13] f f1 ∧ True ∧ True) (fun (f1 : Nat → va_E) (t : State) => pz_E dC dI (tp_K κ) (va_A (va_pl L f) sz) (va_pl L f1) t) (va_A (va_pl L f) sz)) 0 0 (va_A (va_pl L f) sz) := by
  refine Met.ofW (cc := cX12_store) (maxL := 2) (ret := some .int) (by decide) rfl ?_
  intro p e s m args below meth c s₁ B hml hv
  obtain ⟨rfl, hsz, hP, hK, hD0, hN⟩ := hv
  have hx := B.exec
  have hb := B.bytes
  have hr := B.returns
  have hts := atoms_spec (ws := wsX12_store) B.pre
  have hown : s.vm.findClass RX12 = some m.cls := findClass_of_methodNamed B.named
  have hlocks := B.notSynchronized
  subst hsz
  have hD := hD0.self (sz := s.heap.size)
  generalize hAe : va_A (va_pl L f) s.heap.size = A at hD ⊢
  have hA : ∀ q : Nat, s.heap.size ≤ q → A q := fun q h => by rw [← hAe]; exact Or.inr h
  have hS : va_S A s.heap s.heap [] := va_S.rf
  have hR : tp_F τ [13] f f := tp_F.rf
  have hl := lv_entry ([.ref h0, .int v]) (n := 2) (Nat.le_of_ble_eq_true rfl)
  rw [lg_entry_eq]
  generalize (lg_sl ([.ref h0, .int v]) ++ List.replicate (2 - (lg_sl ([.ref h0, .int v])).length) Slot.unset).toArray = ls at hl ⊢
  have hl : lv_has ls 2 [(0, .ref h0), (1, .int v)] := hl
  have hfX12 : ∀ w ∈ wsX120, w ∈ wsX12_store := fun w h => List.mem_cons_of_mem _ (List.mem_append_right _ h)
  obtain ⟨y1, y2, y3, y4, y5, y6, y7, y8, y9, y10, y11, y12, y13, y14, y15, y16, y17, y18, y19, y20, y21, y22, y23, y24, y25⟩ := tpg_13 hG ht_h0
  obtain ⟨g27, hf_o26⟩ := tpo_32 hT y1
  have hI : mo_RI (-1) 0 (mo_R g27) := by have q9 := hJ; rw [hf_o26, mo_i1] at q9; exact q9
  refine lv_aload_n hx hb dX12_store_0 rfl (lv_at hl 0 rfl) ?_
  refine lv_iconst (v := 0) hx hb dX12_store_1 (by decide) ?_
  obtain ⟨o28_x0, o28_x1, o28_x7, o28_x9, o28_x10, o28_x11, o28_x12, o28_x13, o28_x14, o28_x15, o28_x16, o28_x17, o28_x18, o28_x19, o28_x20, o28_x22, o28_x25, o28_x28, o28_x29, o28_x32, o28_x33, o28_x34, o28_x35, o28_x36, o28_x37, o28_x38, o28_x47, o28_x48, hf_o28, ro28_0, ro28_1, ro28_2, ro28_3, ro28_4, ro28_5, ro28_6, ro28_7, ro28_8, ro28_9, ro28_10, ro28_11, ro28_12, ro28_13⟩ := tpo_13 hT ht_h0
  obtain ⟨q29, eq29⟩ := tp_pos (tp_in hG ht_h0 (by decide)) hf_o28
  refine va_put (D := (dC, dI)) (ci := 12) (v := .int 0) (ty := .int) (C := RX12) (T := TX12) (N := 53) hx hb hts hfX12 tyX12 tyX12_ok nmX12 hown hK hP hD hS q29 eq29 rfl 0 (by decide) (hts (.fieldLink RX12 91 "ColdShipsModel" "thrown" "I") (by decide +kernel)) (fun _ h9 => h9) rfl (by decide +kernel) rfl rfl (Nat.le_of_ble_eq_true rfl) dX12_store_2 (tp_k (.inr (12, [.int 0, .int o28_x1, .ref (ρ h0 2), .ref (ρ h0 3), .ref (ρ h0 4), .ref (ρ h0 5), .ref (ρ h0 6), .int o28_x7, .ref (ρ h0 8), .int o28_x9, .int o28_x10, .int o28_x11, .int o28_x12, .long o28_x13, .int o28_x14, .int o28_x15, .int o28_x16, .int o28_x17, .int o28_x18, .int o28_x19, .int o28_x20, .ref (ρ h0 21), .int o28_x22, .ref (ρ h0 23), .ref (ρ h0 24), .int o28_x25, .ref (ρ h0 26), .ref (ρ h0 27), .int o28_x28, .int o28_x29, .ref (ρ h0 30), .ref (ρ h0 31), .int o28_x32, .long o28_x33, .long o28_x34, .long o28_x35, .int o28_x36, .int o28_x37, .int o28_x38, .ref (ρ h0 39), .ref (ρ h0 40), .ref (ρ h0 41), .ref (ρ h0 42), .ref (ρ h0 43), .ref (ρ h0 44), .ref (ρ h0 45), .ref (ρ h0 46), .int o28_x47, .int o28_x48, .ref (ρ h0 49), .ref (ρ h0 50), .ref (ρ h0 51), .ref (ρ h0 52)])) hD (tp_in hG ht_h0 (by decide)) eq29 (fun f30 H locs hP hD hS g32 k31 => ?_))
  have hT := hT.up ht_h0 g32 k31 ⟨_, _, _, _, _, _, _, _, _, _, _, _, _, _, _, _, _, _, _, _, _, _, _, _, _, _, _, _, rfl, ro28_0, ro28_1, ro28_2, ro28_3, ro28_4, ro28_5, ro28_6, ro28_7, ro28_8, ro28_9, ro28_10, ro28_11, ro28_12, ro28_13⟩
  have hR := hR.up ht_h0 (by decide) k31
  refine lv_aload_n hx hb dX12_store_5 rfl (lv_at hl 0 rfl) ?_
  refine lv_iload_n hx hb dX12_store_6 rfl (lv_at hl 1 rfl) ?_
  have hf_33 : f30 (ρ h0 2) = .inl (κ 0, 12967, .inl g27) := (k31 _ (tp_ne y1 ht_h0 (by decide))).trans hf_o26
  obtain ⟨q34, eq34⟩ := tp_pos (tp_in hG ht_h0 (by decide)) g32
  refine pz_calli (va_runV (As := [.int v]) (rest := []) ⟨hx, hb, hml, hown, hts⟩ (t_X12_isTerminal l dC dI _ κ τ ν ρ L f30 hG hT h0 v (-1) 0 ht_h0 (by rw [hf_33, mo_i1]; exact hI)) (cwV 1 hts gX12_store_X12_isTerminal rfl rfl rfl (by decide +kernel) ⟨Nat.le_of_ble_eq_true rfl, Nat.le_of_ble_eq_true rfl⟩) ⟨pz_blind, va_recv hK hP (ci := 12) (q0 := q34) rfl eq34, pz_pre hP hK hD hN⟩ rfl rfl hl.1 rfl (lv_room (Nat.le_of_ble_eq_true rfl)) dX12_store_7 ⟨Nat.le_of_ble_eq_true rfl, Nat.le_of_ble_eq_true rfl⟩) (fun r35 hw36 => ?_)
  obtain ⟨hw36r, hw36p⟩ := hw36
  have := hI.k0
  rw [hf_33, mo_i1] at hw36p
  refine lv_if_eq (tgt := 25) hx hb dX12_store_10 (by decide) (fun c37 => ?_) (fun c37 => ?_)
  · have ic37 : r35.toInt = 0 := zi_eq rfl rfl c37
    refine lv_iconst (v := (-1)) hx hb dX12_store_25 (by decide) ?_
    exact W.iret (v := (-1)) hx hb hr (fun t ht hW => ⟨⟨(-1), f30, rfl, ⟨hT, hR, trivial, trivial⟩, by rw [ht]; exact hP, va_K.moved hW.alike hK, hD⟩, hS.F ht⟩) hS.2.2 dX12_store_26
  · have ic37 : r35.toInt ≠ 0 := zi_eqf rfl rfl c37
    have p38 : 0 ≤ v.toInt ∧ v.toInt < mo_R g27 0 := (tp_cond.yes hw36p) (by omega)
    refine lv_aload_n hx hb dX12_store_13 rfl (lv_at hl 0 rfl) ?_
    refine va_get (D := (dC, dI)) (ci := 12) (v := .ref (ρ h0 2)) (C := RX12) (T := TX12) (N := 53) hx hb hts hfX12 hown hK hP q34 eq34 rfl 2 (by decide) (hts (.fieldLink RX12 7 "ColdShipsModel" "row" "[I") (by decide +kernel)) (fun _ h9 => h9) rfl dX12_store_14 ?_
    refine lv_iload_n hx hb dX12_store_17 rfl (lv_at hl 1 rfl) ?_
    refine pz_calli (va_runS (As := [.int v]) (rest := [.ref (ρ h0 2)]) ⟨hx, hb, hml, hown, hts⟩ (t_X12_terminalAt l dC dI _ v (v.toInt) (by omega) rfl) (va_cwS 1 hts gX12_store_X12_terminalAt rfl rfl rfl (by decide +kernel) ⟨Nat.le_of_ble_eq_true rfl, Nat.le_of_ble_eq_true rfl⟩) ⟨pz_blind, pz_pre pz_P0 (hK.sub (tys' := []) [] rfl) (pz_D0 (A := fun _ => True)) hN⟩ rfl rfl hl.1 rfl (lv_room (Nat.le_of_ble_eq_true rfl)) dX12_store_18 ⟨Nat.le_of_ble_eq_true rfl, Nat.le_of_ble_eq_true rfl⟩) (fun r39 hw40 => ?_)
    obtain ⟨hw40r, hw40p⟩ := hw40
    obtain ⟨q41, eq41⟩ := tp_pos (tp_in hG y1 (by decide)) hf_33
    refine va_iald hx hb hK hP q41 0 eq41 rfl (vp_in_iff.mpr ⟨by omega, by omega⟩) dX12_store_21 ?_
    refine lv_topi (fun z42 ez42 => ?_)
    refine lv_goto (tgt := 26) hx hb dX12_store_22 (by decide) ?_
    exact W.iret (v := z42) hx hb hr (fun t ht hW => ⟨⟨z42, f30, rfl, ⟨hT, hR, trivial, trivial⟩, by rw [ht]; exact hP, va_K.moved hW.alike hK, hD⟩, hS.F ht⟩) hS.2.2 dX12_store_26
set_option maxHeartbeats 4000000 in
set_option maxRecDepth 100000 in
theorem t_X12_landing (l : Launch) (dC : Nat → ClassId) (dI : Nat → Nat → Nat) (sz : Nat) (κ : Nat → ClassId) (τ ν : Nat → Nat) (ρ : Nat → Nat → Nat) (L : List Nat) (f : Nat → va_E) (hG : tp_G τ ν ρ L) (hT : tp_T (mo_O κ) κ τ ν ρ f) (h0 : Nat) (v : Int32) (u : Int32) (ht_h0 : τ h0 = 13) (hJ : mo_RI (-1) 0 (mo_R (mo_i (f (ρ h0 2))))) : Met l yX12_landing wsX12_landing ({ frames := 4, cells := 0, slots := 0, locals := 1200 }) (va_Pc [.ref h0, .int v, .int u] (pz_B dC dI (tp_K κ) (va_pl L f) sz)) (va_Qi (fun (r : Int32) (f1 : Nat → va_E) => tp_T (mo_O κ) κ τ ν ρ f1 ∧ tp_F τ [13] f f1 ∧ True ∧ True) (fun (f1 : Nat → va_E) (t : State) => pz_E dC dI (tp_K κ) (va_A (va_pl L f) sz) (va_pl L f1) t) (va_A (va_pl L f) sz)) 0 0 (va_A (va_pl L f) sz) := by
  refine Met.ofW (cc := cX12_landing) (maxL := 4) (ret := some .int) (by decide) rfl ?_
  intro p e s m args below meth c s₁ B hml hv
  obtain ⟨rfl, hsz, hP, hK, hD0, hN⟩ := hv
  have hx := B.exec
  have hb := B.bytes
  have hr := B.returns
  have hts := atoms_spec (ws := wsX12_landing) B.pre
  have hown : s.vm.findClass RX12 = some m.cls := findClass_of_methodNamed B.named
  have hlocks := B.notSynchronized
  subst hsz
  have hD := hD0.self (sz := s.heap.size)
  generalize hAe : va_A (va_pl L f) s.heap.size = A at hD ⊢
  have hA : ∀ q : Nat, s.heap.size ≤ q → A q := fun q h => by rw [← hAe]; exact Or.inr h
  have hS : va_S A s.heap s.heap [] := va_S.rf
  have hR : tp_F τ [13] f f := tp_F.rf
  have hl := lv_entry ([.ref h0, .int v, .int u]) (n := 4) (Nat.le_of_ble_eq_true rfl)
  rw [lg_entry_eq]
  generalize (lg_sl ([.ref h0, .int v, .int u]) ++ List.replicate (4 - (lg_sl ([.ref h0, .int v, .int u])).length) Slot.unset).toArray = ls at hl ⊢
  have hl : lv_has ls 4 [(0, .ref h0), (1, .int v), (2, .int u)] := hl
  have hfX12 : ∀ w ∈ wsX120, w ∈ wsX12_landing := fun w h => List.mem_cons_of_mem _ (List.mem_append_right _ h)
  obtain ⟨y1, y2, y3, y4, y5, y6, y7, y8, y9, y10, y11, y12, y13, y14, y15, y16, y17, y18, y19, y20, y21, y22, y23, y24, y25⟩ := tpg_13 hG ht_h0
  obtain ⟨g27, hf_o26⟩ := tpo_32 hT y1
  have hI : mo_RI (-1) 0 (mo_R g27) := by have q9 := hJ; rw [hf_o26, mo_i1] at q9; exact q9
  refine lv_aload_n hx hb dX12_landing_0 rfl (lv_at hl 0 rfl) ?_
  refine lv_iconst (v := 0) hx hb dX12_landing_1 (by decide) ?_
  obtain ⟨o28_x0, o28_x1, o28_x7, o28_x9, o28_x10, o28_x11, o28_x12, o28_x13, o28_x14, o28_x15, o28_x16, o28_x17, o28_x18, o28_x19, o28_x20, o28_x22, o28_x25, o28_x28, o28_x29, o28_x32, o28_x33, o28_x34, o28_x35, o28_x36, o28_x37, o28_x38, o28_x47, o28_x48, hf_o28, ro28_0, ro28_1, ro28_2, ro28_3, ro28_4, ro28_5, ro28_6, ro28_7, ro28_8, ro28_9, ro28_10, ro28_11, ro28_12, ro28_13⟩ := tpo_13 hT ht_h0
  obtain ⟨q29, eq29⟩ := tp_pos (tp_in hG ht_h0 (by decide)) hf_o28
  refine va_put (D := (dC, dI)) (ci := 12) (v := .int 0) (ty := .int) (C := RX12) (T := TX12) (N := 53) hx hb hts hfX12 tyX12 tyX12_ok nmX12 hown hK hP hD hS q29 eq29 rfl 0 (by decide) (hts (.fieldLink RX12 91 "ColdShipsModel" "thrown" "I") (by decide +kernel)) (fun _ h9 => h9) rfl (by decide +kernel) rfl rfl (Nat.le_of_ble_eq_true rfl) dX12_landing_2 (tp_k (.inr (12, [.int 0, .int o28_x1, .ref (ρ h0 2), .ref (ρ h0 3), .ref (ρ h0 4), .ref (ρ h0 5), .ref (ρ h0 6), .int o28_x7, .ref (ρ h0 8), .int o28_x9, .int o28_x10, .int o28_x11, .int o28_x12, .long o28_x13, .int o28_x14, .int o28_x15, .int o28_x16, .int o28_x17, .int o28_x18, .int o28_x19, .int o28_x20, .ref (ρ h0 21), .int o28_x22, .ref (ρ h0 23), .ref (ρ h0 24), .int o28_x25, .ref (ρ h0 26), .ref (ρ h0 27), .int o28_x28, .int o28_x29, .ref (ρ h0 30), .ref (ρ h0 31), .int o28_x32, .long o28_x33, .long o28_x34, .long o28_x35, .int o28_x36, .int o28_x37, .int o28_x38, .ref (ρ h0 39), .ref (ρ h0 40), .ref (ρ h0 41), .ref (ρ h0 42), .ref (ρ h0 43), .ref (ρ h0 44), .ref (ρ h0 45), .ref (ρ h0 46), .int o28_x47, .int o28_x48, .ref (ρ h0 49), .ref (ρ h0 50), .ref (ρ h0 51), .ref (ρ h0 52)])) hD (tp_in hG ht_h0 (by decide)) eq29 (fun f30 H locs hP hD hS g32 k31 => ?_))
  have hT := hT.up ht_h0 g32 k31 ⟨_, _, _, _, _, _, _, _, _, _, _, _, _, _, _, _, _, _, _, _, _, _, _, _, _, _, _, _, rfl, ro28_0, ro28_1, ro28_2, ro28_3, ro28_4, ro28_5, ro28_6, ro28_7, ro28_8, ro28_9, ro28_10, ro28_11, ro28_12, ro28_13⟩
  have hR := hR.up ht_h0 (by decide) k31
  refine lv_aload_n hx hb dX12_landing_5 rfl (lv_at hl 0 rfl) ?_
  refine lv_iload_n hx hb dX12_landing_6 rfl (lv_at hl 1 rfl) ?_
  have hf_33 : f30 (ρ h0 2) = .inl (κ 0, 12967, .inl g27) := (k31 _ (tp_ne y1 ht_h0 (by decide))).trans hf_o26
  obtain ⟨q34, eq34⟩ := tp_pos (tp_in hG ht_h0 (by decide)) g32
  refine pz_calli (va_runV (As := [.int v]) (rest := []) ⟨hx, hb, hml, hown, hts⟩ (t_X12_isLanding l dC dI _ κ τ ν ρ L f30 hG hT h0 v (-1) 0 ht_h0 (by rw [hf_33, mo_i1]; exact hI)) (cwV 1 hts gX12_landing_X12_isLanding rfl rfl rfl (by decide +kernel) ⟨Nat.le_of_ble_eq_true rfl, Nat.le_of_ble_eq_true rfl⟩) ⟨pz_blind, va_recv hK hP (ci := 12) (q0 := q34) rfl eq34, pz_pre hP hK hD hN⟩ rfl rfl hl.1 rfl (lv_room (Nat.le_of_ble_eq_true rfl)) dX12_landing_7 ⟨Nat.le_of_ble_eq_true rfl, Nat.le_of_ble_eq_true rfl⟩) (fun r35 hw36 => ?_)
  obtain ⟨hw36r, hw36p⟩ := hw36
  have := hI.k5
  rw [hf_33, mo_i1] at hw36p
  refine lv_if_eq (tgt := 25) hx hb dX12_landing_10 (by decide) (fun c37 => ?_) (fun c37 => ?_)
  · have ic37 : r35.toInt = 0 := zi_eq rfl rfl c37
    refine lv_iconst (v := (-1)) hx hb dX12_landing_25 (by decide) ?_
    exact W.iret (v := (-1)) hx hb hr (fun t ht hW => ⟨⟨(-1), f30, rfl, ⟨hT, hR, trivial, trivial⟩, by rw [ht]; exact hP, va_K.moved hW.alike hK, hD⟩, hS.F ht⟩) hS.2.2 dX12_landing_26
  · have ic37 : r35.toInt ≠ 0 := zi_eqf rfl rfl c37
    have p38 : 0 ≤ v.toInt ∧ v.toInt < mo_R g27 5 := (tp_cond.yes hw36p) (by omega)
    refine lv_iload_n hx hb dX12_landing_13 rfl (lv_at hl 2 rfl) ?_
    refine lv_i2l hx hb dX12_landing_14 rfl ?_
    refine lv_lconst (v := 0) hx hb dX12_landing_15 (by decide) ?_
    refine lv_ldc2 (own := RX12) (v := 6) hx hb hown (hts (.constantLong RX12 240 (6)) (by decide +kernel)) dX12_landing_16 ?_
    refine pz_calli (va_runS (As := [.long u.toInt64, .long 0, .long 6]) (rest := []) ⟨hx, hb, hml, hown, hts⟩ (t_X12_in l dC dI _ u.toInt64 (0) (6) (u.toInt) (0) (6) (Int32.toInt_toInt64 u) rfl rfl) (va_cwS 3 hts gX12_landing_X12_in rfl rfl rfl (by decide +kernel) ⟨Nat.le_of_ble_eq_true rfl, Nat.le_of_ble_eq_true rfl⟩) ⟨pz_blind, pz_pre pz_P0 (hK.sub (tys' := []) [] rfl) (pz_D0 (A := fun _ => True)) hN⟩ rfl rfl hl.1 rfl (lv_room (Nat.le_of_ble_eq_true rfl)) dX12_landing_19 ⟨Nat.le_of_ble_eq_true rfl, Nat.le_of_ble_eq_true rfl⟩) (fun r39 hw40 => ?_)
    obtain ⟨hw40r, hw40p⟩ := hw40
    refine lv_if_ne (tgt := 27) hx hb dX12_landing_22 (by decide) (fun c41 => ?_) (fun c41 => ?_)
    · have ic41 : r39.toInt ≠ 0 := zi_ne rfl rfl c41
      have p42 : (0) ≤ (u.toInt) ∧ (u.toInt) ≤ (6) := (tp_cond.yes hw40p) (by omega)
      refine lv_iload_n hx hb dX12_landing_27 rfl (lv_at hl 1 rfl) ?_
      refine pz_calli (va_runS (As := [.int v]) (rest := []) ⟨hx, hb, hml, hown, hts⟩ (t_X12_landingAt l dC dI _ v (v.toInt) (by omega) rfl) (va_cwS 1 hts gX12_landing_X12_landingAt rfl rfl rfl (by decide +kernel) ⟨Nat.le_of_ble_eq_true rfl, Nat.le_of_ble_eq_true rfl⟩) ⟨pz_blind, pz_pre pz_P0 (hK.sub (tys' := []) [] rfl) (pz_D0 (A := fun _ => True)) hN⟩ rfl rfl hl.1 rfl (lv_room (Nat.le_of_ble_eq_true rfl)) dX12_landing_28 ⟨Nat.le_of_ble_eq_true rfl, Nat.le_of_ble_eq_true rfl⟩) (fun r43 hw44 => ?_)
      obtain ⟨hw44r, hw44p⟩ := hw44
      refine lv_istore_n (lv' := [(3, .int r43), (0, .ref h0), (1, .int v), (2, .int u)]) hx hb dX12_landing_31 rfl hl (by decide) rfl (fun ls hl => ?_)
      refine lv_iload_n hx hb dX12_landing_32 rfl (lv_at hl 3 rfl) ?_
      refine lv_iconst (v := 5) hx hb dX12_landing_33 (by decide) ?_
      refine lv_icmp_ge (tgt := 48) hx hb dX12_landing_34 (by decide) (fun c45 => ?_) (fun c45 => ?_)
      · have ic45 : u.toInt ≥ 5 := zi_ge rfl rfl c45
        refine lv_iload_n hx hb dX12_landing_48 rfl (lv_at hl 3 rfl) ?_
        refine lv_iconst (v := 5) hx hb dX12_landing_49 (by decide) ?_
        refine lv_icmp_ne (tgt := 61) hx hb dX12_landing_50 (by decide) (fun c46 => ?_) (fun c46 => ?_)
        · have ic46 : u.toInt ≠ 5 := zi_ne rfl rfl c46
          refine lv_aload_n hx hb dX12_landing_61 rfl (lv_at hl 1 rfl) ?_
          refine va_get (D := (dC, dI)) (ci := 12) (v := .ref (ρ h0 2)) (C := RX12) (T := TX12) (N := 53) hx hb hts hfX12 hown hK hP q34 eq34 rfl 2 (by decide) (hts (.fieldLink RX12 7 "ColdShipsModel" "row" "[I") (by decide +kernel)) (fun _ h9 => h9) rfl dX12_landing_62 ?_
          refine lv_iload_n hx hb dX12_landing_65 rfl (lv_at hl 0 rfl) ?_
          refine lv_bipush (v := 12) hx hb dX12_landing_66 (by decide) ?_
          refine lv_iadd hx hb dX12_landing_68 ?_
          refine lv_topi (fun z47 ez47 => ?_)
          have iz47 : z47.toInt = r43.toInt + 12 := zi_add ez47 rfl rfl (by omega) (by omega)
          obtain ⟨q48, eq48⟩ := tp_pos (tp_in hG y1 (by decide)) hf_33
          refine va_iald hx hb hK hP q48 0 eq48 rfl (vp_in_iff.mpr ⟨by omega, by omega⟩) dX12_landing_69 ?_
          refine lv_topi (fun z49 ez49 => ?_)
          refine lv_iconst (v := (-1)) hx hb dX12_landing_70 (by decide) ?_
          refine lv_icmp_ne (tgt := 78) hx hb dX12_landing_71 (by decide) (fun c50 => ?_) (fun c50 => ?_)
          · have ic50 : z49.toInt ≠ (-1) := zi_ne rfl rfl c50
            refine lv_iconst (v := 1) hx hb dX12_landing_78 (by decide) ?_
            exact W.iret (v := 1) hx hb hr (fun t ht hW => ⟨⟨1, f30, rfl, ⟨hT, hR, trivial, trivial⟩, by rw [ht]; exact hP, va_K.moved hW.alike hK, hD⟩, hS.F ht⟩) hS.2.2 dX12_landing_79
          · have ic50 : z49.toInt = (-1) := zi_nef rfl rfl c50
            refine lv_iconst (v := 0) hx hb dX12_landing_74 (by decide) ?_
            refine lv_goto (tgt := 79) hx hb dX12_landing_75 (by decide) ?_
            exact W.iret (v := 0) hx hb hr (fun t ht hW => ⟨⟨0, f30, rfl, ⟨hT, hR, trivial, trivial⟩, by rw [ht]; exact hP, va_K.moved hW.alike hK, hD⟩, hS.F ht⟩) hS.2.2 dX12_landing_79
        · have ic46 : u.toInt = 5 := zi_nef rfl rfl c46
          refine lv_aload_n hx hb dX12_landing_53 rfl (lv_at hl 1 rfl) ?_
          refine lv_iload_n hx hb dX12_landing_54 rfl (lv_at hl 0 rfl) ?_
          refine pz_calli (va_runV (As := [.int r43]) (rest := []) ⟨hx, hb, hml, hown, hts⟩ (t_X12_heatOf l dC dI _ κ τ ν ρ L f30 hG hT h0 r43 (-1) 0 v.toInt ht_h0 (by omega) (by omega) (by rw [hf_33, mo_i1]; exact hI) (by simp only [hf_33, hf_o26, mo_i1]; try omega)) (cwV 1 hts gX12_landing_X12_heatOf rfl rfl rfl (by decide +kernel) ⟨Nat.le_of_ble_eq_true rfl, Nat.le_of_ble_eq_true rfl⟩) ⟨pz_blind, va_recv hK hP (ci := 12) (q0 := q34) rfl eq34, pz_pre hP hK hD hN⟩ rfl rfl hl.1 rfl (lv_room (Nat.le_of_ble_eq_true rfl)) dX12_landing_55 ⟨Nat.le_of_ble_eq_true rfl, Nat.le_of_ble_eq_true rfl⟩) (fun r51 hw52 => ?_)
          obtain ⟨hw52r, hw52p⟩ := hw52
          refine lv_goto (tgt := 79) hx hb dX12_landing_58 (by decide) ?_
          exact W.iret (v := r51) hx hb hr (fun t ht hW => ⟨⟨r51, f30, rfl, ⟨hT, hR, trivial, trivial⟩, by rw [ht]; exact hP, va_K.moved hW.alike hK, hD⟩, hS.F ht⟩) hS.2.2 dX12_landing_79
      · have ic45 : u.toInt < 5 := zi_gef rfl rfl c45
        refine lv_aload_n hx hb dX12_landing_37 rfl (lv_at hl 1 rfl) ?_
        refine va_get (D := (dC, dI)) (ci := 12) (v := .ref (ρ h0 2)) (C := RX12) (T := TX12) (N := 53) hx hb hts hfX12 hown hK hP q34 eq34 rfl 2 (by decide) (hts (.fieldLink RX12 7 "ColdShipsModel" "row" "[I") (by decide +kernel)) (fun _ h9 => h9) rfl dX12_landing_38 ?_
        refine lv_iload_n hx hb dX12_landing_41 rfl (lv_at hl 0 rfl) ?_
        refine lv_iload_n hx hb dX12_landing_42 rfl (lv_at hl 3 rfl) ?_
        refine lv_iadd hx hb dX12_landing_43 ?_
        refine lv_topi (fun z53 ez53 => ?_)
        have iz53 : z53.toInt = r43.toInt + u.toInt := zi_add ez53 rfl rfl (by omega) (by omega)
        obtain ⟨q54, eq54⟩ := tp_pos (tp_in hG y1 (by decide)) hf_33
        refine va_iald hx hb hK hP q54 0 eq54 rfl (vp_in_iff.mpr ⟨by omega, by omega⟩) dX12_landing_44 ?_
        refine lv_topi (fun z55 ez55 => ?_)
        refine lv_goto (tgt := 79) hx hb dX12_landing_45 (by decide) ?_
        exact W.iret (v := z55) hx hb hr (fun t ht hW => ⟨⟨z55, f30, rfl, ⟨hT, hR, trivial, trivial⟩, by rw [ht]; exact hP, va_K.moved hW.alike hK, hD⟩, hS.F ht⟩) hS.2.2 dX12_landing_79
    · have ic41 : r39.toInt = 0 := zi_nef rfl rfl c41
      refine lv_iconst (v := (-1)) hx hb dX12_landing_25 (by decide) ?_
      exact W.iret (v := (-1)) hx hb hr (fun t ht hW => ⟨⟨(-1), f30, rfl, ⟨hT, hR, trivial, trivial⟩, by rw [ht]; exact hP, va_K.moved hW.alike hK, hD⟩, hS.F ht⟩) hS.2.2 dX12_landing_26
set_option maxHeartbeats 4000000 in
set_option maxRecDepth 100000 in
theorem t_X12_led (l : Launch) (dC : Nat → ClassId) (dI : Nat → Nat → Nat) (sz : Nat) (κ : Nat → ClassId) (τ ν : Nat → Nat) (ρ : Nat → Nat → Nat) (L : List Nat) (f : Nat → va_E) (hG : tp_G τ ν ρ L) (hT : tp_T (mo_O κ) κ τ ν ρ f) (h0 : Nat) (v : Int32) (u : Int32) (ht_h0 : τ h0 = 13) (hJ : mo_RI (-1) 0 (mo_R (mo_i (f (ρ h0 2))))) : Met l yX12_led wsX12_led ({ frames := 4, cells := 0, slots := 0, locals := 1200 }) (va_Pc [.ref h0, .int v, .int u] (pz_B dC dI (tp_K κ) (va_pl L f) sz)) (va_Qi (fun (r : Int32) (f1 : Nat → va_E) => tp_T (mo_O κ) κ τ ν ρ f1 ∧ tp_F τ [13] f f1 ∧ True ∧ True) (fun (f1 : Nat → va_E) (t : State) => pz_E dC dI (tp_K κ) (va_A (va_pl L f) sz) (va_pl L f1) t) (va_A (va_pl L f) sz)) 0 0 (va_A (va_pl L f) sz) := by
  refine Met.ofW (cc := cX12_led) (maxL := 3) (ret := some .int) (by decide) rfl ?_
  intro p e s m args below meth c s₁ B hml hv
  obtain ⟨rfl, hsz, hP, hK, hD0, hN⟩ := hv
  have hx := B.exec
  have hb := B.bytes
  have hr := B.returns
  have hts := atoms_spec (ws := wsX12_led) B.pre
  have hown : s.vm.findClass RX12 = some m.cls := findClass_of_methodNamed B.named
  have hlocks := B.notSynchronized
  subst hsz
  have hD := hD0.self (sz := s.heap.size)
  generalize hAe : va_A (va_pl L f) s.heap.size = A at hD ⊢
  have hA : ∀ q : Nat, s.heap.size ≤ q → A q := fun q h => by rw [← hAe]; exact Or.inr h
  have hS : va_S A s.heap s.heap [] := va_S.rf
  have hR : tp_F τ [13] f f := tp_F.rf
  have hl := lv_entry ([.ref h0, .int v, .int u]) (n := 3) (Nat.le_of_ble_eq_true rfl)
  rw [lg_entry_eq]
  generalize (lg_sl ([.ref h0, .int v, .int u]) ++ List.replicate (3 - (lg_sl ([.ref h0, .int v, .int u])).length) Slot.unset).toArray = ls at hl ⊢
  have hl : lv_has ls 3 [(0, .ref h0), (1, .int v), (2, .int u)] := hl
  have hfX12 : ∀ w ∈ wsX120, w ∈ wsX12_led := fun w h => List.mem_cons_of_mem _ (List.mem_append_right _ h)
  obtain ⟨y1, y2, y3, y4, y5, y6, y7, y8, y9, y10, y11, y12, y13, y14, y15, y16, y17, y18, y19, y20, y21, y22, y23, y24, y25⟩ := tpg_13 hG ht_h0
  obtain ⟨g27, hf_o26⟩ := tpo_32 hT y1
  have hI : mo_RI (-1) 0 (mo_R g27) := by have q9 := hJ; rw [hf_o26, mo_i1] at q9; exact q9
  refine lv_aload_n hx hb dX12_led_0 rfl (lv_at hl 0 rfl) ?_
  refine lv_iconst (v := 0) hx hb dX12_led_1 (by decide) ?_
  obtain ⟨o28_x0, o28_x1, o28_x7, o28_x9, o28_x10, o28_x11, o28_x12, o28_x13, o28_x14, o28_x15, o28_x16, o28_x17, o28_x18, o28_x19, o28_x20, o28_x22, o28_x25, o28_x28, o28_x29, o28_x32, o28_x33, o28_x34, o28_x35, o28_x36, o28_x37, o28_x38, o28_x47, o28_x48, hf_o28, ro28_0, ro28_1, ro28_2, ro28_3, ro28_4, ro28_5, ro28_6, ro28_7, ro28_8, ro28_9, ro28_10, ro28_11, ro28_12, ro28_13⟩ := tpo_13 hT ht_h0
  obtain ⟨q29, eq29⟩ := tp_pos (tp_in hG ht_h0 (by decide)) hf_o28
  refine va_put (D := (dC, dI)) (ci := 12) (v := .int 0) (ty := .int) (C := RX12) (T := TX12) (N := 53) hx hb hts hfX12 tyX12 tyX12_ok nmX12 hown hK hP hD hS q29 eq29 rfl 0 (by decide) (hts (.fieldLink RX12 91 "ColdShipsModel" "thrown" "I") (by decide +kernel)) (fun _ h9 => h9) rfl (by decide +kernel) rfl rfl (Nat.le_of_ble_eq_true rfl) dX12_led_2 (tp_k (.inr (12, [.int 0, .int o28_x1, .ref (ρ h0 2), .ref (ρ h0 3), .ref (ρ h0 4), .ref (ρ h0 5), .ref (ρ h0 6), .int o28_x7, .ref (ρ h0 8), .int o28_x9, .int o28_x10, .int o28_x11, .int o28_x12, .long o28_x13, .int o28_x14, .int o28_x15, .int o28_x16, .int o28_x17, .int o28_x18, .int o28_x19, .int o28_x20, .ref (ρ h0 21), .int o28_x22, .ref (ρ h0 23), .ref (ρ h0 24), .int o28_x25, .ref (ρ h0 26), .ref (ρ h0 27), .int o28_x28, .int o28_x29, .ref (ρ h0 30), .ref (ρ h0 31), .int o28_x32, .long o28_x33, .long o28_x34, .long o28_x35, .int o28_x36, .int o28_x37, .int o28_x38, .ref (ρ h0 39), .ref (ρ h0 40), .ref (ρ h0 41), .ref (ρ h0 42), .ref (ρ h0 43), .ref (ρ h0 44), .ref (ρ h0 45), .ref (ρ h0 46), .int o28_x47, .int o28_x48, .ref (ρ h0 49), .ref (ρ h0 50), .ref (ρ h0 51), .ref (ρ h0 52)])) hD (tp_in hG ht_h0 (by decide)) eq29 (fun f30 H locs hP hD hS g32 k31 => ?_))
  have hT := hT.up ht_h0 g32 k31 ⟨_, _, _, _, _, _, _, _, _, _, _, _, _, _, _, _, _, _, _, _, _, _, _, _, _, _, _, _, rfl, ro28_0, ro28_1, ro28_2, ro28_3, ro28_4, ro28_5, ro28_6, ro28_7, ro28_8, ro28_9, ro28_10, ro28_11, ro28_12, ro28_13⟩
  have hR := hR.up ht_h0 (by decide) k31
  refine lv_aload_n hx hb dX12_led_5 rfl (lv_at hl 0 rfl) ?_
  refine lv_iload_n hx hb dX12_led_6 rfl (lv_at hl 1 rfl) ?_
  have hf_33 : f30 (ρ h0 2) = .inl (κ 0, 12967, .inl g27) := (k31 _ (tp_ne y1 ht_h0 (by decide))).trans hf_o26
  obtain ⟨q34, eq34⟩ := tp_pos (tp_in hG ht_h0 (by decide)) g32
  refine pz_calli (va_runV (As := [.int v]) (rest := []) ⟨hx, hb, hml, hown, hts⟩ (t_X12_isLanding l dC dI _ κ τ ν ρ L f30 hG hT h0 v (-1) 0 ht_h0 (by rw [hf_33, mo_i1]; exact hI)) (cwV 1 hts gX12_led_X12_isLanding rfl rfl rfl (by decide +kernel) ⟨Nat.le_of_ble_eq_true rfl, Nat.le_of_ble_eq_true rfl⟩) ⟨pz_blind, va_recv hK hP (ci := 12) (q0 := q34) rfl eq34, pz_pre hP hK hD hN⟩ rfl rfl hl.1 rfl (lv_room (Nat.le_of_ble_eq_true rfl)) dX12_led_7 ⟨Nat.le_of_ble_eq_true rfl, Nat.le_of_ble_eq_true rfl⟩) (fun r35 hw36 => ?_)
  obtain ⟨hw36r, hw36p⟩ := hw36
  have := hI.k5
  rw [hf_33, mo_i1] at hw36p
  refine lv_if_eq (tgt := 37) hx hb dX12_led_10 (by decide) (fun c37 => ?_) (fun c37 => ?_)
  · have ic37 : r35.toInt = 0 := zi_eq rfl rfl c37
    refine lv_iconst (v := (-1)) hx hb dX12_led_37 (by decide) ?_
    exact W.iret (v := (-1)) hx hb hr (fun t ht hW => ⟨⟨(-1), f30, rfl, ⟨hT, hR, trivial, trivial⟩, by rw [ht]; exact hP, va_K.moved hW.alike hK, hD⟩, hS.F ht⟩) hS.2.2 dX12_led_38
  · have ic37 : r35.toInt ≠ 0 := zi_eqf rfl rfl c37
    have p38 : 0 ≤ v.toInt ∧ v.toInt < mo_R g27 5 := (tp_cond.yes hw36p) (by omega)
    refine lv_aload_n hx hb dX12_led_13 rfl (lv_at hl 0 rfl) ?_
    refine lv_iload_n hx hb dX12_led_14 rfl (lv_at hl 2 rfl) ?_
    refine pz_calli (va_runV (As := [.int u]) (rest := []) ⟨hx, hb, hml, hown, hts⟩ (t_X12_isTerminal l dC dI _ κ τ ν ρ L f30 hG hT h0 u (-1) 0 ht_h0 (by rw [hf_33, mo_i1]; exact hI)) (cwV 1 hts gX12_led_X12_isTerminal rfl rfl rfl (by decide +kernel) ⟨Nat.le_of_ble_eq_true rfl, Nat.le_of_ble_eq_true rfl⟩) ⟨pz_blind, va_recv hK hP (ci := 12) (q0 := q34) rfl eq34, pz_pre hP hK hD hN⟩ rfl rfl hl.1 rfl (lv_room (Nat.le_of_ble_eq_true rfl)) dX12_led_15 ⟨Nat.le_of_ble_eq_true rfl, Nat.le_of_ble_eq_true rfl⟩) (fun r39 hw40 => ?_)
    obtain ⟨hw40r, hw40p⟩ := hw40
    have := hI.k0
    rw [hf_33, mo_i1] at hw40p
    refine lv_if_eq (tgt := 37) hx hb dX12_led_18 (by decide) (fun c41 => ?_) (fun c41 => ?_)
    · have ic41 : r39.toInt = 0 := zi_eq rfl rfl c41
      refine lv_iconst (v := (-1)) hx hb dX12_led_37 (by decide) ?_
      exact W.iret (v := (-1)) hx hb hr (fun t ht hW => ⟨⟨(-1), f30, rfl, ⟨hT, hR, trivial, trivial⟩, by rw [ht]; exact hP, va_K.moved hW.alike hK, hD⟩, hS.F ht⟩) hS.2.2 dX12_led_38
    · have ic41 : r39.toInt ≠ 0 := zi_eqf rfl rfl c41
      have p42 : 0 ≤ u.toInt ∧ u.toInt < mo_R g27 0 := (tp_cond.yes hw40p) (by omega)
      refine lv_aload_n hx hb dX12_led_21 rfl (lv_at hl 0 rfl) ?_
      refine va_get (D := (dC, dI)) (ci := 12) (v := .ref (ρ h0 2)) (C := RX12) (T := TX12) (N := 53) hx hb hts hfX12 hown hK hP q34 eq34 rfl 2 (by decide) (hts (.fieldLink RX12 7 "ColdShipsModel" "row" "[I") (by decide +kernel)) (fun _ h9 => h9) rfl dX12_led_22 ?_
      refine lv_iload_n hx hb dX12_led_25 rfl (lv_at hl 1 rfl) ?_
      refine pz_calli (va_runS (As := [.int v]) (rest := [.ref (ρ h0 2)]) ⟨hx, hb, hml, hown, hts⟩ (t_X12_landingAt l dC dI _ v (v.toInt) (by omega) rfl) (va_cwS 1 hts gX12_led_X12_landingAt rfl rfl rfl (by decide +kernel) ⟨Nat.le_of_ble_eq_true rfl, Nat.le_of_ble_eq_true rfl⟩) ⟨pz_blind, pz_pre pz_P0 (hK.sub (tys' := []) [] rfl) (pz_D0 (A := fun _ => True)) hN⟩ rfl rfl hl.1 rfl (lv_room (Nat.le_of_ble_eq_true rfl)) dX12_led_26 ⟨Nat.le_of_ble_eq_true rfl, Nat.le_of_ble_eq_true rfl⟩) (fun r43 hw44 => ?_)
      obtain ⟨hw44r, hw44p⟩ := hw44
      refine lv_iconst (v := 5) hx hb dX12_led_29 (by decide) ?_
      refine lv_iadd hx hb dX12_led_30 ?_
      refine lv_topi (fun z45 ez45 => ?_)
      have iz45 : z45.toInt = r43.toInt + 5 := zi_add ez45 rfl rfl (by omega) (by omega)
      refine lv_iload_n hx hb dX12_led_31 rfl (lv_at hl 2 rfl) ?_
      refine lv_iadd hx hb dX12_led_32 ?_
      refine lv_topi (fun z46 ez46 => ?_)
      have iz46 : z46.toInt = z45.toInt + u.toInt := zi_add ez46 rfl rfl (by omega) (by omega)
      obtain ⟨q47, eq47⟩ := tp_pos (tp_in hG y1 (by decide)) hf_33
      refine va_iald hx hb hK hP q47 0 eq47 rfl (vp_in_iff.mpr ⟨by omega, by omega⟩) dX12_led_33 ?_
      refine lv_topi (fun z48 ez48 => ?_)
      refine lv_goto (tgt := 38) hx hb dX12_led_34 (by decide) ?_
      exact W.iret (v := z48) hx hb hr (fun t ht hW => ⟨⟨z48, f30, rfl, ⟨hT, hR, trivial, trivial⟩, by rw [ht]; exact hP, va_K.moved hW.alike hK, hD⟩, hS.F ht⟩) hS.2.2 dX12_led_38
set_option maxHeartbeats 4000000 in
set_option maxRecDepth 100000 in
theorem t_X12_heat (l : Launch) (dC : Nat → ClassId) (dI : Nat → Nat → Nat) (sz : Nat) (κ : Nat → ClassId) (τ ν : Nat → Nat) (ρ : Nat → Nat → Nat) (L : List Nat) (f : Nat → va_E) (hG : tp_G τ ν ρ L) (hT : tp_T (mo_O κ) κ τ ν ρ f) (h0 : Nat) (v : Int32) (u : Int32) (ht_h0 : τ h0 = 13) (hJ : mo_RI (-1) 0 (mo_R (mo_i (f (ρ h0 2))))) : Met l yX12_heat wsX12_heat ({ frames := 4, cells := 0, slots := 0, locals := 1200 }) (va_Pc [.ref h0, .int v, .int u] (pz_B dC dI (tp_K κ) (va_pl L f) sz)) (va_Qi (fun (r : Int32) (f1 : Nat → va_E) => tp_T (mo_O κ) κ τ ν ρ f1 ∧ tp_F τ [13, 32] f f1 ∧ True ∧ mo_RI (-1) 0 (mo_R (mo_i (f1 (ρ h0 2))))) (fun (f1 : Nat → va_E) (t : State) => pz_E dC dI (tp_K κ) (va_A (va_pl L f) sz) (va_pl L f1) t) (va_A (va_pl L f) sz)) 0 0 (va_A (va_pl L f) sz) := by
  refine Met.ofW (cc := cX12_heat) (maxL := 4) (ret := some .int) (by decide) rfl ?_
  intro p e s m args below meth c s₁ B hml hv
  obtain ⟨rfl, hsz, hP, hK, hD0, hN⟩ := hv
  have hx := B.exec
  have hb := B.bytes
  have hr := B.returns
  have hts := atoms_spec (ws := wsX12_heat) B.pre
  have hown : s.vm.findClass RX12 = some m.cls := findClass_of_methodNamed B.named
  have hlocks := B.notSynchronized
  subst hsz
  have hD := hD0.self (sz := s.heap.size)
  generalize hAe : va_A (va_pl L f) s.heap.size = A at hD ⊢
  have hA : ∀ q : Nat, s.heap.size ≤ q → A q := fun q h => by rw [← hAe]; exact Or.inr h
  have hS : va_S A s.heap s.heap [] := va_S.rf
  have hR : tp_F τ [13, 32] f f := tp_F.rf
  have hl := lv_entry ([.ref h0, .int v, .int u]) (n := 4) (Nat.le_of_ble_eq_true rfl)
  rw [lg_entry_eq]
  generalize (lg_sl ([.ref h0, .int v, .int u]) ++ List.replicate (4 - (lg_sl ([.ref h0, .int v, .int u])).length) Slot.unset).toArray = ls at hl ⊢
  have hl : lv_has ls 4 [(0, .ref h0), (1, .int v), (2, .int u)] := hl
  have hfX12 : ∀ w ∈ wsX120, w ∈ wsX12_heat := fun w h => List.mem_cons_of_mem _ (List.mem_append_right _ h)
  obtain ⟨y1, y2, y3, y4, y5, y6, y7, y8, y9, y10, y11, y12, y13, y14, y15, y16, y17, y18, y19, y20, y21, y22, y23, y24, y25⟩ := tpg_13 hG ht_h0
  obtain ⟨g27, hf_o26⟩ := tpo_32 hT y1
  have hI : mo_RI (-1) 0 (mo_R g27) := by have q9 := hJ; rw [hf_o26, mo_i1] at q9; exact q9
  refine lv_aload_n hx hb dX12_heat_0 rfl (lv_at hl 0 rfl) ?_
  refine lv_iconst (v := 0) hx hb dX12_heat_1 (by decide) ?_
  obtain ⟨o28_x0, o28_x1, o28_x7, o28_x9, o28_x10, o28_x11, o28_x12, o28_x13, o28_x14, o28_x15, o28_x16, o28_x17, o28_x18, o28_x19, o28_x20, o28_x22, o28_x25, o28_x28, o28_x29, o28_x32, o28_x33, o28_x34, o28_x35, o28_x36, o28_x37, o28_x38, o28_x47, o28_x48, hf_o28, ro28_0, ro28_1, ro28_2, ro28_3, ro28_4, ro28_5, ro28_6, ro28_7, ro28_8, ro28_9, ro28_10, ro28_11, ro28_12, ro28_13⟩ := tpo_13 hT ht_h0
  obtain ⟨q29, eq29⟩ := tp_pos (tp_in hG ht_h0 (by decide)) hf_o28
  refine va_put (D := (dC, dI)) (ci := 12) (v := .int 0) (ty := .int) (C := RX12) (T := TX12) (N := 53) hx hb hts hfX12 tyX12 tyX12_ok nmX12 hown hK hP hD hS q29 eq29 rfl 0 (by decide) (hts (.fieldLink RX12 91 "ColdShipsModel" "thrown" "I") (by decide +kernel)) (fun _ h9 => h9) rfl (by decide +kernel) rfl rfl (Nat.le_of_ble_eq_true rfl) dX12_heat_2 (tp_k (.inr (12, [.int 0, .int o28_x1, .ref (ρ h0 2), .ref (ρ h0 3), .ref (ρ h0 4), .ref (ρ h0 5), .ref (ρ h0 6), .int o28_x7, .ref (ρ h0 8), .int o28_x9, .int o28_x10, .int o28_x11, .int o28_x12, .long o28_x13, .int o28_x14, .int o28_x15, .int o28_x16, .int o28_x17, .int o28_x18, .int o28_x19, .int o28_x20, .ref (ρ h0 21), .int o28_x22, .ref (ρ h0 23), .ref (ρ h0 24), .int o28_x25, .ref (ρ h0 26), .ref (ρ h0 27), .int o28_x28, .int o28_x29, .ref (ρ h0 30), .ref (ρ h0 31), .int o28_x32, .long o28_x33, .long o28_x34, .long o28_x35, .int o28_x36, .int o28_x37, .int o28_x38, .ref (ρ h0 39), .ref (ρ h0 40), .ref (ρ h0 41), .ref (ρ h0 42), .ref (ρ h0 43), .ref (ρ h0 44), .ref (ρ h0 45), .ref (ρ h0 46), .int o28_x47, .int o28_x48, .ref (ρ h0 49), .ref (ρ h0 50), .ref (ρ h0 51), .ref (ρ h0 52)])) hD (tp_in hG ht_h0 (by decide)) eq29 (fun f30 H locs hP hD hS g32 k31 => ?_))
  have hT := hT.up ht_h0 g32 k31 ⟨_, _, _, _, _, _, _, _, _, _, _, _, _, _, _, _, _, _, _, _, _, _, _, _, _, _, _, _, rfl, ro28_0, ro28_1, ro28_2, ro28_3, ro28_4, ro28_5, ro28_6, ro28_7, ro28_8, ro28_9, ro28_10, ro28_11, ro28_12, ro28_13⟩
  have hR := hR.up ht_h0 (by decide) k31
  refine lv_iload_n hx hb dX12_heat_5 rfl (lv_at hl 2 rfl) ?_
  refine lv_i2l hx hb dX12_heat_6 rfl ?_
  refine lv_ldc2 (own := RX12) (v := 500) hx hb hown (hts (.constantLong RX12 248 (500)) (by decide +kernel)) dX12_heat_7 ?_
  refine lv_ldc2 (own := RX12) (v := 2000) hx hb hown (hts (.constantLong RX12 250 (2000)) (by decide +kernel)) dX12_heat_10 ?_
  have hf_33 : f30 (ρ h0 2) = .inl (κ 0, 12967, .inl g27) := (k31 _ (tp_ne y1 ht_h0 (by decide))).trans hf_o26
  refine pz_calli (va_runS (As := [.long u.toInt64, .long 500, .long 2000]) (rest := []) ⟨hx, hb, hml, hown, hts⟩ (t_X12_in l dC dI _ u.toInt64 (500) (2000) (u.toInt) (500) (2000) (Int32.toInt_toInt64 u) rfl rfl) (va_cwS 3 hts gX12_heat_X12_in rfl rfl rfl (by decide +kernel) ⟨Nat.le_of_ble_eq_true rfl, Nat.le_of_ble_eq_true rfl⟩) ⟨pz_blind, pz_pre pz_P0 (hK.sub (tys' := []) [] rfl) (pz_D0 (A := fun _ => True)) hN⟩ rfl rfl hl.1 rfl (lv_room (Nat.le_of_ble_eq_true rfl)) dX12_heat_13 ⟨Nat.le_of_ble_eq_true rfl, Nat.le_of_ble_eq_true rfl⟩) (fun r34 hw35 => ?_)
  obtain ⟨hw35r, hw35p⟩ := hw35
  refine lv_if_ne (tgt := 25) hx hb dX12_heat_16 (by decide) (fun c36 => ?_) (fun c36 => ?_)
  · have ic36 : r34.toInt ≠ 0 := zi_ne rfl rfl c36
    have p37 : (500) ≤ (u.toInt) ∧ (u.toInt) ≤ (2000) := (tp_cond.yes hw35p) (by omega)
    refine lv_aload_n hx hb dX12_heat_25 rfl (lv_at hl 0 rfl) ?_
    refine lv_iload_n hx hb dX12_heat_26 rfl (lv_at hl 1 rfl) ?_
    obtain ⟨q38, eq38⟩ := tp_pos (tp_in hG ht_h0 (by decide)) g32
    refine pz_calli (va_runV (As := [.int v]) (rest := []) ⟨hx, hb, hml, hown, hts⟩ (t_X12_isTerminal l dC dI _ κ τ ν ρ L f30 hG hT h0 v (-1) 0 ht_h0 (by rw [hf_33, mo_i1]; exact hI)) (cwV 1 hts gX12_heat_X12_isTerminal rfl rfl rfl (by decide +kernel) ⟨Nat.le_of_ble_eq_true rfl, Nat.le_of_ble_eq_true rfl⟩) ⟨pz_blind, va_recv hK hP (ci := 12) (q0 := q38) rfl eq38, pz_pre hP hK hD hN⟩ rfl rfl hl.1 rfl (lv_room (Nat.le_of_ble_eq_true rfl)) dX12_heat_27 ⟨Nat.le_of_ble_eq_true rfl, Nat.le_of_ble_eq_true rfl⟩) (fun r39 hw40 => ?_)
    obtain ⟨hw40r, hw40p⟩ := hw40
    have := hI.k0
    rw [hf_33, mo_i1] at hw40p
    refine lv_if_ne (tgt := 40) hx hb dX12_heat_30 (by decide) (fun c41 => ?_) (fun c41 => ?_)
    · have ic41 : r39.toInt ≠ 0 := zi_ne rfl rfl c41
      have p42 : 0 ≤ v.toInt ∧ v.toInt < mo_R g27 0 := (tp_cond.yes hw40p) (by omega)
      refine lv_aload_n hx hb dX12_heat_40 rfl (lv_at hl 0 rfl) ?_
      refine va_get (D := (dC, dI)) (ci := 12) (v := .ref (ρ h0 2)) (C := RX12) (T := TX12) (N := 53) hx hb hts hfX12 hown hK hP q38 eq38 rfl 2 (by decide) (hts (.fieldLink RX12 7 "ColdShipsModel" "row" "[I") (by decide +kernel)) (fun _ h9 => h9) rfl dX12_heat_41 ?_
      refine lv_iload_n hx hb dX12_heat_44 rfl (lv_at hl 1 rfl) ?_
      refine pz_calli (va_runS (As := [.int v]) (rest := [.ref (ρ h0 2)]) ⟨hx, hb, hml, hown, hts⟩ (t_X12_terminalAt l dC dI _ v (v.toInt) (by omega) rfl) (va_cwS 1 hts gX12_heat_X12_terminalAt rfl rfl rfl (by decide +kernel) ⟨Nat.le_of_ble_eq_true rfl, Nat.le_of_ble_eq_true rfl⟩) ⟨pz_blind, pz_pre pz_P0 (hK.sub (tys' := []) [] rfl) (pz_D0 (A := fun _ => True)) hN⟩ rfl rfl hl.1 rfl (lv_room (Nat.le_of_ble_eq_true rfl)) dX12_heat_45 ⟨Nat.le_of_ble_eq_true rfl, Nat.le_of_ble_eq_true rfl⟩) (fun r43 hw44 => ?_)
      obtain ⟨hw44r, hw44p⟩ := hw44
      refine lv_iconst (v := 4) hx hb dX12_heat_48 (by decide) ?_
      refine lv_iadd hx hb dX12_heat_49 ?_
      refine lv_topi (fun z45 ez45 => ?_)
      have iz45 : z45.toInt = r43.toInt + 4 := zi_add ez45 rfl rfl (by omega) (by omega)
      obtain ⟨q46, eq46⟩ := tp_pos (tp_in hG y1 (by decide)) hf_33
      refine va_iald hx hb hK hP q46 0 eq46 rfl (vp_in_iff.mpr ⟨by omega, by omega⟩) dX12_heat_50 ?_
      refine lv_topi (fun z47 ez47 => ?_)
      refine lv_istore_n (lv' := [(3, .int z47), (0, .ref h0), (1, .int v), (2, .int u)]) hx hb dX12_heat_51 rfl hl (by decide) rfl (fun ls hl => ?_)
      refine lv_aload_n hx hb dX12_heat_52 rfl (lv_at hl 1 rfl) ?_
      refine va_get (D := (dC, dI)) (ci := 12) (v := .ref (ρ h0 2)) (C := RX12) (T := TX12) (N := 53) hx hb hts hfX12 hown hK hP q38 eq38 rfl 2 (by decide) (hts (.fieldLink RX12 7 "ColdShipsModel" "row" "[I") (by decide +kernel)) (fun _ h9 => h9) rfl dX12_heat_53 ?_
      refine lv_iload_n hx hb dX12_heat_56 rfl (lv_at hl 2 rfl) ?_
      refine pz_calli (va_runS (As := [.int v]) (rest := [.ref (ρ h0 2)]) ⟨hx, hb, hml, hown, hts⟩ (t_X12_terminalAt l dC dI _ v (v.toInt) (by omega) rfl) (va_cwS 1 hts gX12_heat_X12_terminalAt rfl rfl rfl (by decide +kernel) ⟨Nat.le_of_ble_eq_true rfl, Nat.le_of_ble_eq_true rfl⟩) ⟨pz_blind, pz_pre pz_P0 (hK.sub (tys' := []) [] rfl) (pz_D0 (A := fun _ => True)) hN⟩ rfl rfl hl.1 rfl (lv_room (Nat.le_of_ble_eq_true rfl)) dX12_heat_57 ⟨Nat.le_of_ble_eq_true rfl, Nat.le_of_ble_eq_true rfl⟩) (fun r48 hw49 => ?_)
      obtain ⟨hw49r, hw49p⟩ := hw49
      refine lv_iconst (v := 4) hx hb dX12_heat_60 (by decide) ?_
      refine lv_iadd hx hb dX12_heat_61 ?_
      refine lv_topi (fun z50 ez50 => ?_)
      have iz50 : z50.toInt = r48.toInt + 4 := zi_add ez50 rfl rfl (by omega) (by omega)
      refine lv_iload_n hx hb dX12_heat_62 rfl (lv_at hl 3 rfl) ?_
      refine va_iast hx hb hK hP hD hS q46 0 eq46 rfl (vp_in_iff.mpr ⟨by omega, by omega⟩) dX12_heat_63 (tp_k (.inl (κ 0, 12967, .inl (upd g27 z50.toNatClampNeg u))) hD (tp_in hG y1 (by decide)) eq46 (fun f51 H locs hP hD hS g53 k52 => ?_))
      have hT := hT.up y1 g53 k52 tp_o32
      have hR := hR.up y1 (by decide) k52
      have hU : mo_U (mo_R g27) (mo_R (upd g27 z50.toNatClampNeg u)) (20 + 5 * v.toInt + 4) (u.toInt) := mo_up (by omega) (rfl : u.toInt = _) (by omega)
      generalize (upd g27 z50.toNatClampNeg u) = g54 at g53 hU
      have hI := mo_w_term hI hU v.toInt 4 (by omega) (by omega) (by omega)
      refine lv_aload_n hx hb dX12_heat_64 rfl (lv_at hl 1 rfl) ?_
      refine lv_iload_n hx hb dX12_heat_65 rfl (lv_at hl 0 rfl) ?_
      have hf_55 : f51 h0 = .inr (12, [.int 0, .int o28_x1, .ref (ρ h0 2), .ref (ρ h0 3), .ref (ρ h0 4), .ref (ρ h0 5), .ref (ρ h0 6), .int o28_x7, .ref (ρ h0 8), .int o28_x9, .int o28_x10, .int o28_x11, .int o28_x12, .long o28_x13, .int o28_x14, .int o28_x15, .int o28_x16, .int o28_x17, .int o28_x18, .int o28_x19, .int o28_x20, .ref (ρ h0 21), .int o28_x22, .ref (ρ h0 23), .ref (ρ h0 24), .int o28_x25, .ref (ρ h0 26), .ref (ρ h0 27), .int o28_x28, .int o28_x29, .ref (ρ h0 30), .ref (ρ h0 31), .int o28_x32, .long o28_x33, .long o28_x34, .long o28_x35, .int o28_x36, .int o28_x37, .int o28_x38, .ref (ρ h0 39), .ref (ρ h0 40), .ref (ρ h0 41), .ref (ρ h0 42), .ref (ρ h0 43), .ref (ρ h0 44), .ref (ρ h0 45), .ref (ρ h0 46), .int o28_x47, .int o28_x48, .ref (ρ h0 49), .ref (ρ h0 50), .ref (ρ h0 51), .ref (ρ h0 52)]) := (k52 _ (tp_ne ht_h0 y1 (by decide))).trans g32
      obtain ⟨q56, eq56⟩ := tp_pos (tp_in hG ht_h0 (by decide)) hf_55
      have hFc := tp_fr hD hS hA
      refine va_calli (va_runV (As := [.int z47]) (rest := []) ⟨hx, hb, hml, hown, hts⟩ (t_X12_told l dC dI _ κ τ ν ρ L f51 hG hT h0 z47 ht_h0) (cwV 1 hts gX12_heat_X12_told rfl rfl rfl (by decide +kernel) ⟨Nat.le_of_ble_eq_true rfl, Nat.le_of_ble_eq_true rfl⟩) ⟨pz_blind, va_recv hK hP (ci := 12) (q0 := q56) rfl eq56, pz_pre hP hK hD hN⟩ rfl rfl hl.1 rfl (lv_room (Nat.le_of_ble_eq_true rfl)) dX12_heat_66 ⟨Nat.le_of_ble_eq_true rfl, Nat.le_of_ble_eq_true rfl⟩) hS (fun q _ h => hFc q h) hFc (fun r57 f59 t H1 locs ht hvm hw58 hB hz1 hk1 hS => ?_)
      obtain ⟨hT, hF60, hw58r, hw58p⟩ := hw58
      have hR := hR.then hF60 (by decide)
      have hP := hB.1; rw [ht] at hP; have hD := tp_ad f59 hD; clear hB hFc hz1 hk1; subst ht; generalize t.heap = H at hP hS ⊢
      have hw58pq : r57.toInt = z47.toInt := by rw [hw58p]
      have hf_61 : f59 (ρ h0 2) = .inl (κ 0, 12967, .inl g54) := (hF60 _ (by rw [y1]; decide)).trans g53
      exact W.iret (v := r57) hx hb hr (fun t ht hW => ⟨⟨r57, f59, rfl, ⟨hT, hR, trivial, (by rw [hf_61, mo_i1]; exact hI)⟩, by rw [ht]; exact hP, va_K.moved hW.alike hK, hD⟩, hS.F ht⟩) hS.2.2 dX12_heat_69
    · have ic41 : r39.toInt = 0 := zi_nef rfl rfl c41
      refine lv_aload_n hx hb dX12_heat_33 rfl (lv_at hl 0 rfl) ?_
      refine lv_bipush (v := (-2)) hx hb dX12_heat_34 (by decide) ?_
      have hFc := tp_fr hD hS hA
      refine va_calli (va_runV (As := [.int (-2)]) (rest := []) ⟨hx, hb, hml, hown, hts⟩ (t_X12_told l dC dI _ κ τ ν ρ L f30 hG hT h0 ((-2)) ht_h0) (cwV 1 hts gX12_heat_X12_told rfl rfl rfl (by decide +kernel) ⟨Nat.le_of_ble_eq_true rfl, Nat.le_of_ble_eq_true rfl⟩) ⟨pz_blind, va_recv hK hP (ci := 12) (q0 := q38) rfl eq38, pz_pre hP hK hD hN⟩ rfl rfl hl.1 rfl (lv_room (Nat.le_of_ble_eq_true rfl)) dX12_heat_36 ⟨Nat.le_of_ble_eq_true rfl, Nat.le_of_ble_eq_true rfl⟩) hS (fun q _ h => hFc q h) hFc (fun r62 f64 t H1 locs ht hvm hw63 hB hz1 hk1 hS => ?_)
      obtain ⟨hT, hF65, hw63r, hw63p⟩ := hw63
      have hR := hR.then hF65 (by decide)
      have hP := hB.1; rw [ht] at hP; have hD := tp_ad f64 hD; clear hB hFc hz1 hk1; subst ht; generalize t.heap = H at hP hS ⊢
      have hw63pq : r62.toInt = (-2) := by rw [hw63p]; rfl
      have hf_66 : f64 (ρ h0 2) = .inl (κ 0, 12967, .inl g27) := (hF65 _ (by rw [y1]; decide)).trans hf_33
      exact W.iret (v := r62) hx hb hr (fun t ht hW => ⟨⟨r62, f64, rfl, ⟨hT, hR, trivial, (by rw [hf_66, mo_i1]; exact hI)⟩, by rw [ht]; exact hP, va_K.moved hW.alike hK, hD⟩, hS.F ht⟩) hS.2.2 dX12_heat_39
  · have ic36 : r34.toInt = 0 := zi_nef rfl rfl c36
    refine lv_aload_n hx hb dX12_heat_19 rfl (lv_at hl 0 rfl) ?_
    refine lv_iconst (v := (-1)) hx hb dX12_heat_20 (by decide) ?_
    obtain ⟨q67, eq67⟩ := tp_pos (tp_in hG ht_h0 (by decide)) g32
    have hFc := tp_fr hD hS hA
    refine va_calli (va_runV (As := [.int (-1)]) (rest := []) ⟨hx, hb, hml, hown, hts⟩ (t_X12_told l dC dI _ κ τ ν ρ L f30 hG hT h0 ((-1)) ht_h0) (cwV 1 hts gX12_heat_X12_told rfl rfl rfl (by decide +kernel) ⟨Nat.le_of_ble_eq_true rfl, Nat.le_of_ble_eq_true rfl⟩) ⟨pz_blind, va_recv hK hP (ci := 12) (q0 := q67) rfl eq67, pz_pre hP hK hD hN⟩ rfl rfl hl.1 rfl (lv_room (Nat.le_of_ble_eq_true rfl)) dX12_heat_21 ⟨Nat.le_of_ble_eq_true rfl, Nat.le_of_ble_eq_true rfl⟩) hS (fun q _ h => hFc q h) hFc (fun r68 f70 t H1 locs ht hvm hw69 hB hz1 hk1 hS => ?_)
    obtain ⟨hT, hF71, hw69r, hw69p⟩ := hw69
    have hR := hR.then hF71 (by decide)
    have hP := hB.1; rw [ht] at hP; have hD := tp_ad f70 hD; clear hB hFc hz1 hk1; subst ht; generalize t.heap = H at hP hS ⊢
    have hw69pq : r68.toInt = (-1) := by rw [hw69p]; rfl
    have hf_72 : f70 (ρ h0 2) = .inl (κ 0, 12967, .inl g27) := (hF71 _ (by rw [y1]; decide)).trans hf_33
    exact W.iret (v := r68) hx hb hr (fun t ht hW => ⟨⟨r68, f70, rfl, ⟨hT, hR, trivial, (by rw [hf_72, mo_i1]; exact hI)⟩, by rw [ht]; exact hP, va_K.moved hW.alike hK, hD⟩, hS.F ht⟩) hS.2.2 dX12_heat_24
set_option maxHeartbeats 4000000 in
set_option maxRecDepth 100000 in
theorem t_X12_price (l : Launch) (dC : Nat → ClassId) (dI : Nat → Nat → Nat) (sz : Nat) (κ : Nat → ClassId) (τ ν : Nat → Nat) (ρ : Nat → Nat → Nat) (L : List Nat) (f : Nat → va_E) (hG : tp_G τ ν ρ L) (hT : tp_T (mo_O κ) κ τ ν ρ f) (h0 : Nat) (v : Int32) (u : Int32) (a : Int32) (ht_h0 : τ h0 = 13) (hJ : mo_RI (-1) 0 (mo_R (mo_i (f (ρ h0 2))))) : Met l yX12_price wsX12_price ({ frames := 4, cells := 0, slots := 0, locals := 1200 }) (va_Pc [.ref h0, .int v, .int u, .int a] (pz_B dC dI (tp_K κ) (va_pl L f) sz)) (va_Qi (fun (r : Int32) (f1 : Nat → va_E) => tp_T (mo_O κ) κ τ ν ρ f1 ∧ tp_F τ [13, 32] f f1 ∧ True ∧ mo_RI (-1) 0 (mo_R (mo_i (f1 (ρ h0 2))))) (fun (f1 : Nat → va_E) (t : State) => pz_E dC dI (tp_K κ) (va_A (va_pl L f) sz) (va_pl L f1) t) (va_A (va_pl L f) sz)) 0 0 (va_A (va_pl L f) sz) := by
  refine Met.ofW (cc := cX12_price) (maxL := 5) (ret := some .int) (by decide) rfl ?_
  intro p e s m args below meth c s₁ B hml hv
  obtain ⟨rfl, hsz, hP, hK, hD0, hN⟩ := hv
  have hx := B.exec
  have hb := B.bytes
  have hr := B.returns
  have hts := atoms_spec (ws := wsX12_price) B.pre
  have hown : s.vm.findClass RX12 = some m.cls := findClass_of_methodNamed B.named
  have hlocks := B.notSynchronized
  subst hsz
  have hD := hD0.self (sz := s.heap.size)
  generalize hAe : va_A (va_pl L f) s.heap.size = A at hD ⊢
  have hA : ∀ q : Nat, s.heap.size ≤ q → A q := fun q h => by rw [← hAe]; exact Or.inr h
  have hS : va_S A s.heap s.heap [] := va_S.rf
  have hR : tp_F τ [13, 32] f f := tp_F.rf
  have hl := lv_entry ([.ref h0, .int v, .int u, .int a]) (n := 5) (Nat.le_of_ble_eq_true rfl)
  rw [lg_entry_eq]
  generalize (lg_sl ([.ref h0, .int v, .int u, .int a]) ++ List.replicate (5 - (lg_sl ([.ref h0, .int v, .int u, .int a])).length) Slot.unset).toArray = ls at hl ⊢
  have hl : lv_has ls 5 [(0, .ref h0), (1, .int v), (2, .int u), (3, .int a)] := hl
  have hfX12 : ∀ w ∈ wsX120, w ∈ wsX12_price := fun w h => List.mem_cons_of_mem _ (List.mem_append_right _ h)
  obtain ⟨y1, y2, y3, y4, y5, y6, y7, y8, y9, y10, y11, y12, y13, y14, y15, y16, y17, y18, y19, y20, y21, y22, y23, y24, y25⟩ := tpg_13 hG ht_h0
  obtain ⟨g27, hf_o26⟩ := tpo_32 hT y1
  have hI : mo_RI (-1) 0 (mo_R g27) := by have q9 := hJ; rw [hf_o26, mo_i1] at q9; exact q9
  refine lv_aload_n hx hb dX12_price_0 rfl (lv_at hl 0 rfl) ?_
  refine lv_iconst (v := 0) hx hb dX12_price_1 (by decide) ?_
  obtain ⟨o28_x0, o28_x1, o28_x7, o28_x9, o28_x10, o28_x11, o28_x12, o28_x13, o28_x14, o28_x15, o28_x16, o28_x17, o28_x18, o28_x19, o28_x20, o28_x22, o28_x25, o28_x28, o28_x29, o28_x32, o28_x33, o28_x34, o28_x35, o28_x36, o28_x37, o28_x38, o28_x47, o28_x48, hf_o28, ro28_0, ro28_1, ro28_2, ro28_3, ro28_4, ro28_5, ro28_6, ro28_7, ro28_8, ro28_9, ro28_10, ro28_11, ro28_12, ro28_13⟩ := tpo_13 hT ht_h0
  obtain ⟨q29, eq29⟩ := tp_pos (tp_in hG ht_h0 (by decide)) hf_o28
  refine va_put (D := (dC, dI)) (ci := 12) (v := .int 0) (ty := .int) (C := RX12) (T := TX12) (N := 53) hx hb hts hfX12 tyX12 tyX12_ok nmX12 hown hK hP hD hS q29 eq29 rfl 0 (by decide) (hts (.fieldLink RX12 91 "ColdShipsModel" "thrown" "I") (by decide +kernel)) (fun _ h9 => h9) rfl (by decide +kernel) rfl rfl (Nat.le_of_ble_eq_true rfl) dX12_price_2 (tp_k (.inr (12, [.int 0, .int o28_x1, .ref (ρ h0 2), .ref (ρ h0 3), .ref (ρ h0 4), .ref (ρ h0 5), .ref (ρ h0 6), .int o28_x7, .ref (ρ h0 8), .int o28_x9, .int o28_x10, .int o28_x11, .int o28_x12, .long o28_x13, .int o28_x14, .int o28_x15, .int o28_x16, .int o28_x17, .int o28_x18, .int o28_x19, .int o28_x20, .ref (ρ h0 21), .int o28_x22, .ref (ρ h0 23), .ref (ρ h0 24), .int o28_x25, .ref (ρ h0 26), .ref (ρ h0 27), .int o28_x28, .int o28_x29, .ref (ρ h0 30), .ref (ρ h0 31), .int o28_x32, .long o28_x33, .long o28_x34, .long o28_x35, .int o28_x36, .int o28_x37, .int o28_x38, .ref (ρ h0 39), .ref (ρ h0 40), .ref (ρ h0 41), .ref (ρ h0 42), .ref (ρ h0 43), .ref (ρ h0 44), .ref (ρ h0 45), .ref (ρ h0 46), .int o28_x47, .int o28_x48, .ref (ρ h0 49), .ref (ρ h0 50), .ref (ρ h0 51), .ref (ρ h0 52)])) hD (tp_in hG ht_h0 (by decide)) eq29 (fun f30 H locs hP hD hS g32 k31 => ?_))
  have hT := hT.up ht_h0 g32 k31 ⟨_, _, _, _, _, _, _, _, _, _, _, _, _, _, _, _, _, _, _, _, _, _, _, _, _, _, _, _, rfl, ro28_0, ro28_1, ro28_2, ro28_3, ro28_4, ro28_5, ro28_6, ro28_7, ro28_8, ro28_9, ro28_10, ro28_11, ro28_12, ro28_13⟩
  have hR := hR.up ht_h0 (by decide) k31
  refine lv_iload_n hx hb dX12_price_5 rfl (lv_at hl 1 rfl) ?_
  have hf_33 : f30 (ρ h0 2) = .inl (κ 0, 12967, .inl g27) := (k31 _ (tp_ne y1 ht_h0 (by decide))).trans hf_o26
  refine pz_calli (va_runS (As := [.int v]) (rest := []) ⟨hx, hb, hml, hown, hts⟩ (t_X12_isDay l dC dI _ v (v.toInt) rfl) (va_cwS 1 hts gX12_price_X12_isDay rfl rfl rfl (by decide +kernel) ⟨Nat.le_of_ble_eq_true rfl, Nat.le_of_ble_eq_true rfl⟩) ⟨pz_blind, pz_pre pz_P0 (hK.sub (tys' := []) [] rfl) (pz_D0 (A := fun _ => True)) hN⟩ rfl rfl hl.1 rfl (lv_room (Nat.le_of_ble_eq_true rfl)) dX12_price_6 ⟨Nat.le_of_ble_eq_true rfl, Nat.le_of_ble_eq_true rfl⟩) (fun r34 hw35 => ?_)
  obtain ⟨hw35r, hw35p⟩ := hw35
  refine lv_if_eq (tgt := 31) hx hb dX12_price_9 (by decide) (fun c36 => ?_) (fun c36 => ?_)
  · have ic36 : r34.toInt = 0 := zi_eq rfl rfl c36
    refine lv_aload_n hx hb dX12_price_31 rfl (lv_at hl 0 rfl) ?_
    refine lv_iconst (v := (-1)) hx hb dX12_price_32 (by decide) ?_
    obtain ⟨q37, eq37⟩ := tp_pos (tp_in hG ht_h0 (by decide)) g32
    have hFc := tp_fr hD hS hA
    refine va_calli (va_runV (As := [.int (-1)]) (rest := []) ⟨hx, hb, hml, hown, hts⟩ (t_X12_told l dC dI _ κ τ ν ρ L f30 hG hT h0 ((-1)) ht_h0) (cwV 1 hts gX12_price_X12_told rfl rfl rfl (by decide +kernel) ⟨Nat.le_of_ble_eq_true rfl, Nat.le_of_ble_eq_true rfl⟩) ⟨pz_blind, va_recv hK hP (ci := 12) (q0 := q37) rfl eq37, pz_pre hP hK hD hN⟩ rfl rfl hl.1 rfl (lv_room (Nat.le_of_ble_eq_true rfl)) dX12_price_33 ⟨Nat.le_of_ble_eq_true rfl, Nat.le_of_ble_eq_true rfl⟩) hS (fun q _ h => hFc q h) hFc (fun r38 f40 t H1 locs ht hvm hw39 hB hz1 hk1 hS => ?_)
    obtain ⟨hT, hF41, hw39r, hw39p⟩ := hw39
    have hR := hR.then hF41 (by decide)
    have hP := hB.1; rw [ht] at hP; have hD := tp_ad f40 hD; clear hB hFc hz1 hk1; subst ht; generalize t.heap = H at hP hS ⊢
    have hw39pq : r38.toInt = (-1) := by rw [hw39p]; rfl
    have hf_42 : f40 (ρ h0 2) = .inl (κ 0, 12967, .inl g27) := (hF41 _ (by rw [y1]; decide)).trans hf_33
    exact W.iret (v := r38) hx hb hr (fun t ht hW => ⟨⟨r38, f40, rfl, ⟨hT, hR, trivial, (by rw [hf_42, mo_i1]; exact hI)⟩, by rw [ht]; exact hP, va_K.moved hW.alike hK, hD⟩, hS.F ht⟩) hS.2.2 dX12_price_36
  · have ic36 : r34.toInt ≠ 0 := zi_eqf rfl rfl c36
    have p43 : 0 ≤ (v.toInt) ∧ (v.toInt) ≤ 99 := (tp_cond.yes hw35p) (by omega)
    refine lv_iload_n hx hb dX12_price_12 rfl (lv_at hl 2 rfl) ?_
    refine lv_i2l hx hb dX12_price_13 rfl ?_
    refine lv_lconst (v := 0) hx hb dX12_price_14 (by decide) ?_
    refine lv_ldc2 (own := RX12) (v := 10000) hx hb hown (hts (.constantLong RX12 111 (10000)) (by decide +kernel)) dX12_price_15 ?_
    refine pz_calli (va_runS (As := [.long u.toInt64, .long 0, .long 10000]) (rest := []) ⟨hx, hb, hml, hown, hts⟩ (t_X12_in l dC dI _ u.toInt64 (0) (10000) (u.toInt) (0) (10000) (Int32.toInt_toInt64 u) rfl rfl) (va_cwS 3 hts gX12_price_X12_in rfl rfl rfl (by decide +kernel) ⟨Nat.le_of_ble_eq_true rfl, Nat.le_of_ble_eq_true rfl⟩) ⟨pz_blind, pz_pre pz_P0 (hK.sub (tys' := []) [] rfl) (pz_D0 (A := fun _ => True)) hN⟩ rfl rfl hl.1 rfl (lv_room (Nat.le_of_ble_eq_true rfl)) dX12_price_18 ⟨Nat.le_of_ble_eq_true rfl, Nat.le_of_ble_eq_true rfl⟩) (fun r44 hw45 => ?_)
    obtain ⟨hw45r, hw45p⟩ := hw45
    refine lv_if_eq (tgt := 31) hx hb dX12_price_21 (by decide) (fun c46 => ?_) (fun c46 => ?_)
    · have ic46 : r44.toInt = 0 := zi_eq rfl rfl c46
      refine lv_aload_n hx hb dX12_price_31 rfl (lv_at hl 0 rfl) ?_
      refine lv_iconst (v := (-1)) hx hb dX12_price_32 (by decide) ?_
      obtain ⟨q47, eq47⟩ := tp_pos (tp_in hG ht_h0 (by decide)) g32
      have hFc := tp_fr hD hS hA
      refine va_calli (va_runV (As := [.int (-1)]) (rest := []) ⟨hx, hb, hml, hown, hts⟩ (t_X12_told l dC dI _ κ τ ν ρ L f30 hG hT h0 ((-1)) ht_h0) (cwV 1 hts gX12_price_X12_told rfl rfl rfl (by decide +kernel) ⟨Nat.le_of_ble_eq_true rfl, Nat.le_of_ble_eq_true rfl⟩) ⟨pz_blind, va_recv hK hP (ci := 12) (q0 := q47) rfl eq47, pz_pre hP hK hD hN⟩ rfl rfl hl.1 rfl (lv_room (Nat.le_of_ble_eq_true rfl)) dX12_price_33 ⟨Nat.le_of_ble_eq_true rfl, Nat.le_of_ble_eq_true rfl⟩) hS (fun q _ h => hFc q h) hFc (fun r48 f50 t H1 locs ht hvm hw49 hB hz1 hk1 hS => ?_)
      obtain ⟨hT, hF51, hw49r, hw49p⟩ := hw49
      have hR := hR.then hF51 (by decide)
      have hP := hB.1; rw [ht] at hP; have hD := tp_ad f50 hD; clear hB hFc hz1 hk1; subst ht; generalize t.heap = H at hP hS ⊢
      have hw49pq : r48.toInt = (-1) := by rw [hw49p]; rfl
      have hf_52 : f50 (ρ h0 2) = .inl (κ 0, 12967, .inl g27) := (hF51 _ (by rw [y1]; decide)).trans hf_33
      exact W.iret (v := r48) hx hb hr (fun t ht hW => ⟨⟨r48, f50, rfl, ⟨hT, hR, trivial, (by rw [hf_52, mo_i1]; exact hI)⟩, by rw [ht]; exact hP, va_K.moved hW.alike hK, hD⟩, hS.F ht⟩) hS.2.2 dX12_price_36
    · have ic46 : r44.toInt ≠ 0 := zi_eqf rfl rfl c46
      have p53 : (0) ≤ (u.toInt) ∧ (u.toInt) ≤ (10000) := (tp_cond.yes hw45p) (by omega)
      refine lv_iload_n hx hb dX12_price_24 rfl (lv_at hl 3 rfl) ?_
      refine pz_calli (va_runS (As := [.int a]) (rest := []) ⟨hx, hb, hml, hown, hts⟩ (t_X12_isHour l dC dI _ a (a.toInt) rfl) (va_cwS 1 hts gX12_price_X12_isHour rfl rfl rfl (by decide +kernel) ⟨Nat.le_of_ble_eq_true rfl, Nat.le_of_ble_eq_true rfl⟩) ⟨pz_blind, pz_pre pz_P0 (hK.sub (tys' := []) [] rfl) (pz_D0 (A := fun _ => True)) hN⟩ rfl rfl hl.1 rfl (lv_room (Nat.le_of_ble_eq_true rfl)) dX12_price_25 ⟨Nat.le_of_ble_eq_true rfl, Nat.le_of_ble_eq_true rfl⟩) (fun r54 hw55 => ?_)
      obtain ⟨hw55r, hw55p⟩ := hw55
      refine lv_if_ne (tgt := 37) hx hb dX12_price_28 (by decide) (fun c56 => ?_) (fun c56 => ?_)
      · have ic56 : r54.toInt ≠ 0 := zi_ne rfl rfl c56
        have p57 : 0 ≤ (a.toInt) ∧ (a.toInt) ≤ 2399 := (tp_cond.yes hw55p) (by omega)
        refine lv_aload_n hx hb dX12_price_37 rfl (lv_at hl 0 rfl) ?_
        obtain ⟨q58, eq58⟩ := tp_pos (tp_in hG ht_h0 (by decide)) g32
        refine va_get (D := (dC, dI)) (ci := 12) (v := .ref (ρ h0 2)) (C := RX12) (T := TX12) (N := 53) hx hb hts hfX12 hown hK hP q58 eq58 rfl 2 (by decide) (hts (.fieldLink RX12 7 "ColdShipsModel" "row" "[I") (by decide +kernel)) (fun _ h9 => h9) rfl dX12_price_38 ?_
        refine lv_bipush (v := 6) hx hb dX12_price_41 (by decide) ?_
        obtain ⟨q59, eq59⟩ := tp_pos (tp_in hG y1 (by decide)) hf_33
        refine va_iald hx hb hK hP q59 0 eq59 rfl (vp_in_iff.mpr ⟨by decide, by decide⟩) dX12_price_43 ?_
        refine lv_topi (fun z60 ez60 => ?_)
        have jz60 : z60.toInt = mo_R g27 (6) := mo_rd ez60 (show (6 : Int32).toInt = (6) from by decide)
        have kz60 := hI.k6
        refine lv_bipush (v := 60) hx hb dX12_price_44 (by decide) ?_
        refine lv_icmp_ne (tgt := 56) hx hb dX12_price_46 (by decide) (fun c61 => ?_) (fun c61 => ?_)
        · have ic61 : z60.toInt ≠ 60 := zi_ne rfl rfl c61
          refine lv_sipush (v := 2011) hx hb dX12_price_56 (by decide) ?_
          refine lv_iconst (v := 3) hx hb dX12_price_59 (by decide) ?_
          refine lv_aload_n hx hb dX12_price_60 rfl (lv_at hl 0 rfl) ?_
          refine va_get (D := (dC, dI)) (ci := 12) (v := .ref (ρ h0 2)) (C := RX12) (T := TX12) (N := 53) hx hb hts hfX12 hown hK hP q58 eq58 rfl 2 (by decide) (hts (.fieldLink RX12 7 "ColdShipsModel" "row" "[I") (by decide +kernel)) (fun _ h9 => h9) rfl dX12_price_61 ?_
          refine lv_bipush (v := 6) hx hb dX12_price_64 (by decide) ?_
          refine va_iald hx hb hK hP q59 0 eq59 rfl (vp_in_iff.mpr ⟨by decide, by decide⟩) dX12_price_66 ?_
          refine lv_topi (fun z62 ez62 => ?_)
          have jz62 : z62.toInt = mo_R g27 (6) := mo_rd ez62 (show (6 : Int32).toInt = (6) from by decide)
          have kz62 := hI.k6
          refine lv_imul hx hb dX12_price_67 ?_
          refine lv_topi (fun z63 ez63 => ?_)
          have iz63 : z63.toInt = 3 * z62.toInt := zi_mul ez63 rfl rfl (by omega) (by omega)
          refine lv_iadd hx hb dX12_price_68 ?_
          refine lv_topi (fun z64 ez64 => ?_)
          have iz64 : z64.toInt = 2011 + z63.toInt := zi_add ez64 rfl rfl (by omega) (by omega)
          refine lv_istore (lv' := [(4, .int z64), (0, .ref h0), (1, .int v), (2, .int u), (3, .int a)]) hx hb dX12_price_69 hl (by decide) rfl (fun ls hl => ?_)
          refine lv_aload_n hx hb dX12_price_71 rfl (lv_at hl 1 rfl) ?_
          refine va_get (D := (dC, dI)) (ci := 12) (v := .ref (ρ h0 2)) (C := RX12) (T := TX12) (N := 53) hx hb hts hfX12 hown hK hP q58 eq58 rfl 2 (by decide) (hts (.fieldLink RX12 7 "ColdShipsModel" "row" "[I") (by decide +kernel)) (fun _ h9 => h9) rfl dX12_price_72 ?_
          refine lv_iload hx hb dX12_price_75 (lv_at hl 0 rfl) ?_
          refine lv_iload_n hx hb dX12_price_77 rfl (lv_at hl 2 rfl) ?_
          refine va_iast hx hb hK hP hD hS q59 0 eq59 rfl (vp_in_iff.mpr ⟨by omega, by omega⟩) dX12_price_78 (tp_k (.inl (κ 0, 12967, .inl (upd g27 z64.toNatClampNeg v))) hD (tp_in hG y1 (by decide)) eq59 (fun f65 H locs hP hD hS g67 k66 => ?_))
          have hT := hT.up y1 g67 k66 tp_o32
          have hR := hR.up y1 (by decide) k66
          have hU : mo_U (mo_R g27) (mo_R (upd g27 z64.toNatClampNeg v)) (2011 + 3 * z60.toInt) (v.toInt) := mo_up (by omega) (rfl : v.toInt = _) (by omega)
          generalize (upd g27 z64.toNatClampNeg v) = g68 at g67 hU
          have hI := mo_w_flat hI hU (by omega)
          have pn69 : mo_R g68 (6) = z60.toInt := (hU.ne (by omega) (by omega)).trans (jz60).symm
          refine lv_aload_n hx hb dX12_price_79 rfl (lv_at hl 1 rfl) ?_
          have hf_70 : f65 h0 = .inr (12, [.int 0, .int o28_x1, .ref (ρ h0 2), .ref (ρ h0 3), .ref (ρ h0 4), .ref (ρ h0 5), .ref (ρ h0 6), .int o28_x7, .ref (ρ h0 8), .int o28_x9, .int o28_x10, .int o28_x11, .int o28_x12, .long o28_x13, .int o28_x14, .int o28_x15, .int o28_x16, .int o28_x17, .int o28_x18, .int o28_x19, .int o28_x20, .ref (ρ h0 21), .int o28_x22, .ref (ρ h0 23), .ref (ρ h0 24), .int o28_x25, .ref (ρ h0 26), .ref (ρ h0 27), .int o28_x28, .int o28_x29, .ref (ρ h0 30), .ref (ρ h0 31), .int o28_x32, .long o28_x33, .long o28_x34, .long o28_x35, .int o28_x36, .int o28_x37, .int o28_x38, .ref (ρ h0 39), .ref (ρ h0 40), .ref (ρ h0 41), .ref (ρ h0 42), .ref (ρ h0 43), .ref (ρ h0 44), .ref (ρ h0 45), .ref (ρ h0 46), .int o28_x47, .int o28_x48, .ref (ρ h0 49), .ref (ρ h0 50), .ref (ρ h0 51), .ref (ρ h0 52)]) := (k66 _ (tp_ne ht_h0 y1 (by decide))).trans g32
          obtain ⟨q71, eq71⟩ := tp_pos (tp_in hG ht_h0 (by decide)) hf_70
          refine va_get (D := (dC, dI)) (ci := 12) (v := .ref (ρ h0 2)) (C := RX12) (T := TX12) (N := 53) hx hb hts hfX12 hown hK hP q71 eq71 rfl 2 (by decide) (hts (.fieldLink RX12 7 "ColdShipsModel" "row" "[I") (by decide +kernel)) (fun _ h9 => h9) rfl dX12_price_80 ?_
          refine lv_iload hx hb dX12_price_83 (lv_at hl 0 rfl) ?_
          refine lv_iconst (v := 1) hx hb dX12_price_85 (by decide) ?_
          refine lv_iadd hx hb dX12_price_86 ?_
          refine lv_topi (fun z72 ez72 => ?_)
          have iz72 : z72.toInt = z64.toInt + 1 := zi_add ez72 rfl rfl (by omega) (by omega)
          refine lv_iload_n hx hb dX12_price_87 rfl (lv_at hl 3 rfl) ?_
          obtain ⟨q73, eq73⟩ := tp_pos (tp_in hG y1 (by decide)) g67
          refine va_iast hx hb hK hP hD hS q73 0 eq73 rfl (vp_in_iff.mpr ⟨by omega, by omega⟩) dX12_price_88 (tp_k (.inl (κ 0, 12967, .inl (upd g68 z72.toNatClampNeg u))) hD (tp_in hG y1 (by decide)) eq73 (fun f74 H locs hP hD hS g76 k75 => ?_))
          have hT := hT.up y1 g76 k75 tp_o32
          have hR := hR.up y1 (by decide) k75
          have hU : mo_U (mo_R g68) (mo_R (upd g68 z72.toNatClampNeg u)) (2012 + 3 * z60.toInt) (u.toInt) := mo_up (by omega) (rfl : u.toInt = _) (by omega)
          generalize (upd g68 z72.toNatClampNeg u) = g77 at g76 hU
          have hI := mo_w_flat hI hU (by omega)
          have pn78 : mo_R g77 (6) = z60.toInt := (hU.ne (by omega) (by omega)).trans pn69
          refine lv_aload_n hx hb dX12_price_89 rfl (lv_at hl 1 rfl) ?_
          have hf_79 : f74 h0 = .inr (12, [.int 0, .int o28_x1, .ref (ρ h0 2), .ref (ρ h0 3), .ref (ρ h0 4), .ref (ρ h0 5), .ref (ρ h0 6), .int o28_x7, .ref (ρ h0 8), .int o28_x9, .int o28_x10, .int o28_x11, .int o28_x12, .long o28_x13, .int o28_x14, .int o28_x15, .int o28_x16, .int o28_x17, .int o28_x18, .int o28_x19, .int o28_x20, .ref (ρ h0 21), .int o28_x22, .ref (ρ h0 23), .ref (ρ h0 24), .int o28_x25, .ref (ρ h0 26), .ref (ρ h0 27), .int o28_x28, .int o28_x29, .ref (ρ h0 30), .ref (ρ h0 31), .int o28_x32, .long o28_x33, .long o28_x34, .long o28_x35, .int o28_x36, .int o28_x37, .int o28_x38, .ref (ρ h0 39), .ref (ρ h0 40), .ref (ρ h0 41), .ref (ρ h0 42), .ref (ρ h0 43), .ref (ρ h0 44), .ref (ρ h0 45), .ref (ρ h0 46), .int o28_x47, .int o28_x48, .ref (ρ h0 49), .ref (ρ h0 50), .ref (ρ h0 51), .ref (ρ h0 52)]) := (k75 _ (tp_ne ht_h0 y1 (by decide))).trans hf_70
          obtain ⟨q80, eq80⟩ := tp_pos (tp_in hG ht_h0 (by decide)) hf_79
          refine va_get (D := (dC, dI)) (ci := 12) (v := .ref (ρ h0 2)) (C := RX12) (T := TX12) (N := 53) hx hb hts hfX12 hown hK hP q80 eq80 rfl 2 (by decide) (hts (.fieldLink RX12 7 "ColdShipsModel" "row" "[I") (by decide +kernel)) (fun _ h9 => h9) rfl dX12_price_90 ?_
          refine lv_iload hx hb dX12_price_93 (lv_at hl 0 rfl) ?_
          refine lv_iconst (v := 2) hx hb dX12_price_95 (by decide) ?_
          refine lv_iadd hx hb dX12_price_96 ?_
          refine lv_topi (fun z81 ez81 => ?_)
          have iz81 : z81.toInt = z64.toInt + 2 := zi_add ez81 rfl rfl (by omega) (by omega)
          refine lv_iload_n hx hb dX12_price_97 rfl (lv_at hl 4 rfl) ?_
          obtain ⟨q82, eq82⟩ := tp_pos (tp_in hG y1 (by decide)) g76
          refine va_iast hx hb hK hP hD hS q82 0 eq82 rfl (vp_in_iff.mpr ⟨by omega, by omega⟩) dX12_price_98 (tp_k (.inl (κ 0, 12967, .inl (upd g77 z81.toNatClampNeg a))) hD (tp_in hG y1 (by decide)) eq82 (fun f83 H locs hP hD hS g85 k84 => ?_))
          have hT := hT.up y1 g85 k84 tp_o32
          have hR := hR.up y1 (by decide) k84
          have hU : mo_U (mo_R g77) (mo_R (upd g77 z81.toNatClampNeg a)) (2013 + 3 * z60.toInt) (a.toInt) := mo_up (by omega) (rfl : a.toInt = _) (by omega)
          generalize (upd g77 z81.toNatClampNeg a) = g86 at g85 hU
          have hI := mo_w_flat hI hU (by omega)
          have pn87 : mo_R g86 (6) = z60.toInt := (hU.ne (by omega) (by omega)).trans pn78
          refine lv_aload_n hx hb dX12_price_99 rfl (lv_at hl 1 rfl) ?_
          have hf_88 : f83 h0 = .inr (12, [.int 0, .int o28_x1, .ref (ρ h0 2), .ref (ρ h0 3), .ref (ρ h0 4), .ref (ρ h0 5), .ref (ρ h0 6), .int o28_x7, .ref (ρ h0 8), .int o28_x9, .int o28_x10, .int o28_x11, .int o28_x12, .long o28_x13, .int o28_x14, .int o28_x15, .int o28_x16, .int o28_x17, .int o28_x18, .int o28_x19, .int o28_x20, .ref (ρ h0 21), .int o28_x22, .ref (ρ h0 23), .ref (ρ h0 24), .int o28_x25, .ref (ρ h0 26), .ref (ρ h0 27), .int o28_x28, .int o28_x29, .ref (ρ h0 30), .ref (ρ h0 31), .int o28_x32, .long o28_x33, .long o28_x34, .long o28_x35, .int o28_x36, .int o28_x37, .int o28_x38, .ref (ρ h0 39), .ref (ρ h0 40), .ref (ρ h0 41), .ref (ρ h0 42), .ref (ρ h0 43), .ref (ρ h0 44), .ref (ρ h0 45), .ref (ρ h0 46), .int o28_x47, .int o28_x48, .ref (ρ h0 49), .ref (ρ h0 50), .ref (ρ h0 51), .ref (ρ h0 52)]) := (k84 _ (tp_ne ht_h0 y1 (by decide))).trans hf_79
          obtain ⟨q89, eq89⟩ := tp_pos (tp_in hG ht_h0 (by decide)) hf_88
          refine va_get (D := (dC, dI)) (ci := 12) (v := .ref (ρ h0 2)) (C := RX12) (T := TX12) (N := 53) hx hb hts hfX12 hown hK hP q89 eq89 rfl 2 (by decide) (hts (.fieldLink RX12 7 "ColdShipsModel" "row" "[I") (by decide +kernel)) (fun _ h9 => h9) rfl dX12_price_100 ?_
          refine lv_bipush (v := 6) hx hb dX12_price_103 (by decide) ?_
          refine lv_dup2_11 hx hb dX12_price_105 rfl rfl ?_
          obtain ⟨q90, eq90⟩ := tp_pos (tp_in hG y1 (by decide)) g85
          refine va_iald hx hb hK hP q90 0 eq90 rfl (vp_in_iff.mpr ⟨by decide, by decide⟩) dX12_price_106 ?_
          refine lv_topi (fun z91 ez91 => ?_)
          have jz91 : z91.toInt = mo_R g86 (6) := mo_rd ez91 (show (6 : Int32).toInt = (6) from by decide)
          have kz91 := hI.k6
          refine lv_iconst (v := 1) hx hb dX12_price_107 (by decide) ?_
          refine lv_iadd hx hb dX12_price_108 ?_
          refine lv_topi (fun z92 ez92 => ?_)
          have iz92 : z92.toInt = z91.toInt + 1 := zi_add ez92 rfl rfl (by omega) (by omega)
          refine va_iast hx hb hK hP hD hS q90 0 eq90 rfl (vp_in_iff.mpr ⟨by decide, by decide⟩) dX12_price_109 (tp_k (.inl (κ 0, 12967, .inl (upd g86 (6 : Int32).toNatClampNeg z92))) hD (tp_in hG y1 (by decide)) eq90 (fun f93 H locs hP hD hS g95 k94 => ?_))
          have hT := hT.up y1 g95 k94 tp_o32
          have hR := hR.up y1 (by decide) k94
          have hU : mo_U (mo_R g86) (mo_R (upd g86 (6 : Int32).toNatClampNeg z92)) (6) (z92.toInt) := mo_up (show (6 : Int32).toInt = (6) from by decide) (rfl : z92.toInt = _) (by omega)
          generalize (upd g86 (6 : Int32).toNatClampNeg z92) = g96 at g95 hU
          have hI := mo_w_cnt hI hU (by omega) (by omega)
          have pn97 : mo_R g96 (6) = z92.toInt := hU.eq (by omega)
          refine lv_aload_n hx hb dX12_price_110 rfl (lv_at hl 1 rfl) ?_
          refine lv_aload_n hx hb dX12_price_111 rfl (lv_at hl 1 rfl) ?_
          have hf_98 : f93 h0 = .inr (12, [.int 0, .int o28_x1, .ref (ρ h0 2), .ref (ρ h0 3), .ref (ρ h0 4), .ref (ρ h0 5), .ref (ρ h0 6), .int o28_x7, .ref (ρ h0 8), .int o28_x9, .int o28_x10, .int o28_x11, .int o28_x12, .long o28_x13, .int o28_x14, .int o28_x15, .int o28_x16, .int o28_x17, .int o28_x18, .int o28_x19, .int o28_x20, .ref (ρ h0 21), .int o28_x22, .ref (ρ h0 23), .ref (ρ h0 24), .int o28_x25, .ref (ρ h0 26), .ref (ρ h0 27), .int o28_x28, .int o28_x29, .ref (ρ h0 30), .ref (ρ h0 31), .int o28_x32, .long o28_x33, .long o28_x34, .long o28_x35, .int o28_x36, .int o28_x37, .int o28_x38, .ref (ρ h0 39), .ref (ρ h0 40), .ref (ρ h0 41), .ref (ρ h0 42), .ref (ρ h0 43), .ref (ρ h0 44), .ref (ρ h0 45), .ref (ρ h0 46), .int o28_x47, .int o28_x48, .ref (ρ h0 49), .ref (ρ h0 50), .ref (ρ h0 51), .ref (ρ h0 52)]) := (k94 _ (tp_ne ht_h0 y1 (by decide))).trans hf_88
          obtain ⟨q99, eq99⟩ := tp_pos (tp_in hG ht_h0 (by decide)) hf_98
          refine va_get (D := (dC, dI)) (ci := 12) (v := .ref (ρ h0 2)) (C := RX12) (T := TX12) (N := 53) hx hb hts hfX12 hown hK hP q99 eq99 rfl 2 (by decide) (hts (.fieldLink RX12 7 "ColdShipsModel" "row" "[I") (by decide +kernel)) (fun _ h9 => h9) rfl dX12_price_112 ?_
          refine lv_bipush (v := 6) hx hb dX12_price_115 (by decide) ?_
          obtain ⟨q100, eq100⟩ := tp_pos (tp_in hG y1 (by decide)) g95
          refine va_iald hx hb hK hP q100 0 eq100 rfl (vp_in_iff.mpr ⟨by decide, by decide⟩) dX12_price_117 ?_
          refine lv_topi (fun z101 ez101 => ?_)
          have jz101 : z101.toInt = mo_R g96 (6) := mo_rd ez101 (show (6 : Int32).toInt = (6) from by decide)
          have kz101 := hI.k6
          have hFc := tp_fr hD hS hA
          refine va_calli (va_runV (As := [.int z101]) (rest := []) ⟨hx, hb, hml, hown, hts⟩ (t_X12_told l dC dI _ κ τ ν ρ L f93 hG hT h0 z101 ht_h0) (cwV 1 hts gX12_price_X12_told rfl rfl rfl (by decide +kernel) ⟨Nat.le_of_ble_eq_true rfl, Nat.le_of_ble_eq_true rfl⟩) ⟨pz_blind, va_recv hK hP (ci := 12) (q0 := q99) rfl eq99, pz_pre hP hK hD hN⟩ rfl rfl hl.1 rfl (lv_room (Nat.le_of_ble_eq_true rfl)) dX12_price_118 ⟨Nat.le_of_ble_eq_true rfl, Nat.le_of_ble_eq_true rfl⟩) hS (fun q _ h => hFc q h) hFc (fun r102 f104 t H1 locs ht hvm hw103 hB hz1 hk1 hS => ?_)
          obtain ⟨hT, hF105, hw103r, hw103p⟩ := hw103
          have hR := hR.then hF105 (by decide)
          have hP := hB.1; rw [ht] at hP; have hD := tp_ad f104 hD; clear hB hFc hz1 hk1; subst ht; generalize t.heap = H at hP hS ⊢
          have hw103pq : r102.toInt = z101.toInt := by rw [hw103p]
          have hf_106 : f104 (ρ h0 2) = .inl (κ 0, 12967, .inl g96) := (hF105 _ (by rw [y1]; decide)).trans g95
          exact W.iret (v := r102) hx hb hr (fun t ht hW => ⟨⟨r102, f104, rfl, ⟨hT, hR, trivial, (by rw [hf_106, mo_i1]; exact hI)⟩, by rw [ht]; exact hP, va_K.moved hW.alike hK, hD⟩, hS.F ht⟩) hS.2.2 dX12_price_121
        · have ic61 : z60.toInt = 60 := zi_nef rfl rfl c61
          refine lv_aload_n hx hb dX12_price_49 rfl (lv_at hl 0 rfl) ?_
          refine lv_bipush (v := (-5)) hx hb dX12_price_50 (by decide) ?_
          have hFc := tp_fr hD hS hA
          refine va_calli (va_runV (As := [.int (-5)]) (rest := []) ⟨hx, hb, hml, hown, hts⟩ (t_X12_told l dC dI _ κ τ ν ρ L f30 hG hT h0 ((-5)) ht_h0) (cwV 1 hts gX12_price_X12_told rfl rfl rfl (by decide +kernel) ⟨Nat.le_of_ble_eq_true rfl, Nat.le_of_ble_eq_true rfl⟩) ⟨pz_blind, va_recv hK hP (ci := 12) (q0 := q58) rfl eq58, pz_pre hP hK hD hN⟩ rfl rfl hl.1 rfl (lv_room (Nat.le_of_ble_eq_true rfl)) dX12_price_52 ⟨Nat.le_of_ble_eq_true rfl, Nat.le_of_ble_eq_true rfl⟩) hS (fun q _ h => hFc q h) hFc (fun r107 f109 t H1 locs ht hvm hw108 hB hz1 hk1 hS => ?_)
          obtain ⟨hT, hF110, hw108r, hw108p⟩ := hw108
          have hR := hR.then hF110 (by decide)
          have hP := hB.1; rw [ht] at hP; have hD := tp_ad f109 hD; clear hB hFc hz1 hk1; subst ht; generalize t.heap = H at hP hS ⊢
          have hw108pq : r107.toInt = (-5) := by rw [hw108p]; rfl
          have hf_111 : f109 (ρ h0 2) = .inl (κ 0, 12967, .inl g27) := (hF110 _ (by rw [y1]; decide)).trans hf_33
          exact W.iret (v := r107) hx hb hr (fun t ht hW => ⟨⟨r107, f109, rfl, ⟨hT, hR, trivial, (by rw [hf_111, mo_i1]; exact hI)⟩, by rw [ht]; exact hP, va_K.moved hW.alike hK, hD⟩, hS.F ht⟩) hS.2.2 dX12_price_55
      · have ic56 : r54.toInt = 0 := zi_nef rfl rfl c56
        refine lv_aload_n hx hb dX12_price_31 rfl (lv_at hl 0 rfl) ?_
        refine lv_iconst (v := (-1)) hx hb dX12_price_32 (by decide) ?_
        obtain ⟨q112, eq112⟩ := tp_pos (tp_in hG ht_h0 (by decide)) g32
        have hFc := tp_fr hD hS hA
        refine va_calli (va_runV (As := [.int (-1)]) (rest := []) ⟨hx, hb, hml, hown, hts⟩ (t_X12_told l dC dI _ κ τ ν ρ L f30 hG hT h0 ((-1)) ht_h0) (cwV 1 hts gX12_price_X12_told rfl rfl rfl (by decide +kernel) ⟨Nat.le_of_ble_eq_true rfl, Nat.le_of_ble_eq_true rfl⟩) ⟨pz_blind, va_recv hK hP (ci := 12) (q0 := q112) rfl eq112, pz_pre hP hK hD hN⟩ rfl rfl hl.1 rfl (lv_room (Nat.le_of_ble_eq_true rfl)) dX12_price_33 ⟨Nat.le_of_ble_eq_true rfl, Nat.le_of_ble_eq_true rfl⟩) hS (fun q _ h => hFc q h) hFc (fun r113 f115 t H1 locs ht hvm hw114 hB hz1 hk1 hS => ?_)
        obtain ⟨hT, hF116, hw114r, hw114p⟩ := hw114
        have hR := hR.then hF116 (by decide)
        have hP := hB.1; rw [ht] at hP; have hD := tp_ad f115 hD; clear hB hFc hz1 hk1; subst ht; generalize t.heap = H at hP hS ⊢
        have hw114pq : r113.toInt = (-1) := by rw [hw114p]; rfl
        have hf_117 : f115 (ρ h0 2) = .inl (κ 0, 12967, .inl g27) := (hF116 _ (by rw [y1]; decide)).trans hf_33
        exact W.iret (v := r113) hx hb hr (fun t ht hW => ⟨⟨r113, f115, rfl, ⟨hT, hR, trivial, (by rw [hf_117, mo_i1]; exact hI)⟩, by rw [ht]; exact hP, va_K.moved hW.alike hK, hD⟩, hS.F ht⟩) hS.2.2 dX12_price_36
set_option maxHeartbeats 4000000 in
set_option maxRecDepth 100000 in
theorem t_X12_force (l : Launch) (dC : Nat → ClassId) (dI : Nat → Nat → Nat) (sz : Nat) (κ : Nat → ClassId) (τ ν : Nat → Nat) (ρ : Nat → Nat → Nat) (L : List Nat) (f : Nat → va_E) (hG : tp_G τ ν ρ L) (hT : tp_T (mo_O κ) κ τ ν ρ f) (h0 : Nat) (v : Int32) (u : Int32) (a : Int32) (ht_h0 : τ h0 = 13) (hJ : mo_RI (-1) 0 (mo_R (mo_i (f (ρ h0 2))))) : Met l yX12_force wsX12_force ({ frames := 4, cells := 0, slots := 0, locals := 1200 }) (va_Pc [.ref h0, .int v, .int u, .int a] (pz_B dC dI (tp_K κ) (va_pl L f) sz)) (va_Qi (fun (r : Int32) (f1 : Nat → va_E) => tp_T (mo_O κ) κ τ ν ρ f1 ∧ tp_F τ [13, 32] f f1 ∧ True ∧ mo_RI (-1) 0 (mo_R (mo_i (f1 (ρ h0 2))))) (fun (f1 : Nat → va_E) (t : State) => pz_E dC dI (tp_K κ) (va_A (va_pl L f) sz) (va_pl L f1) t) (va_A (va_pl L f) sz)) 0 0 (va_A (va_pl L f) sz) := by
  refine Met.ofW (cc := cX12_force) (maxL := 5) (ret := some .int) (by decide) rfl ?_
  intro p e s m args below meth c s₁ B hml hv
  obtain ⟨rfl, hsz, hP, hK, hD0, hN⟩ := hv
  have hx := B.exec
  have hb := B.bytes
  have hr := B.returns
  have hts := atoms_spec (ws := wsX12_force) B.pre
  have hown : s.vm.findClass RX12 = some m.cls := findClass_of_methodNamed B.named
  have hlocks := B.notSynchronized
  subst hsz
  have hD := hD0.self (sz := s.heap.size)
  generalize hAe : va_A (va_pl L f) s.heap.size = A at hD ⊢
  have hA : ∀ q : Nat, s.heap.size ≤ q → A q := fun q h => by rw [← hAe]; exact Or.inr h
  have hS : va_S A s.heap s.heap [] := va_S.rf
  have hR : tp_F τ [13, 32] f f := tp_F.rf
  have hl := lv_entry ([.ref h0, .int v, .int u, .int a]) (n := 5) (Nat.le_of_ble_eq_true rfl)
  rw [lg_entry_eq]
  generalize (lg_sl ([.ref h0, .int v, .int u, .int a]) ++ List.replicate (5 - (lg_sl ([.ref h0, .int v, .int u, .int a])).length) Slot.unset).toArray = ls at hl ⊢
  have hl : lv_has ls 5 [(0, .ref h0), (1, .int v), (2, .int u), (3, .int a)] := hl
  have hfX12 : ∀ w ∈ wsX120, w ∈ wsX12_force := fun w h => List.mem_cons_of_mem _ (List.mem_append_right _ h)
  obtain ⟨y1, y2, y3, y4, y5, y6, y7, y8, y9, y10, y11, y12, y13, y14, y15, y16, y17, y18, y19, y20, y21, y22, y23, y24, y25⟩ := tpg_13 hG ht_h0
  obtain ⟨g27, hf_o26⟩ := tpo_32 hT y1
  have hI : mo_RI (-1) 0 (mo_R g27) := by have q9 := hJ; rw [hf_o26, mo_i1] at q9; exact q9
  refine lv_aload_n hx hb dX12_force_0 rfl (lv_at hl 0 rfl) ?_
  refine lv_iconst (v := 0) hx hb dX12_force_1 (by decide) ?_
  obtain ⟨o28_x0, o28_x1, o28_x7, o28_x9, o28_x10, o28_x11, o28_x12, o28_x13, o28_x14, o28_x15, o28_x16, o28_x17, o28_x18, o28_x19, o28_x20, o28_x22, o28_x25, o28_x28, o28_x29, o28_x32, o28_x33, o28_x34, o28_x35, o28_x36, o28_x37, o28_x38, o28_x47, o28_x48, hf_o28, ro28_0, ro28_1, ro28_2, ro28_3, ro28_4, ro28_5, ro28_6, ro28_7, ro28_8, ro28_9, ro28_10, ro28_11, ro28_12, ro28_13⟩ := tpo_13 hT ht_h0
  obtain ⟨q29, eq29⟩ := tp_pos (tp_in hG ht_h0 (by decide)) hf_o28
  refine va_put (D := (dC, dI)) (ci := 12) (v := .int 0) (ty := .int) (C := RX12) (T := TX12) (N := 53) hx hb hts hfX12 tyX12 tyX12_ok nmX12 hown hK hP hD hS q29 eq29 rfl 0 (by decide) (hts (.fieldLink RX12 91 "ColdShipsModel" "thrown" "I") (by decide +kernel)) (fun _ h9 => h9) rfl (by decide +kernel) rfl rfl (Nat.le_of_ble_eq_true rfl) dX12_force_2 (tp_k (.inr (12, [.int 0, .int o28_x1, .ref (ρ h0 2), .ref (ρ h0 3), .ref (ρ h0 4), .ref (ρ h0 5), .ref (ρ h0 6), .int o28_x7, .ref (ρ h0 8), .int o28_x9, .int o28_x10, .int o28_x11, .int o28_x12, .long o28_x13, .int o28_x14, .int o28_x15, .int o28_x16, .int o28_x17, .int o28_x18, .int o28_x19, .int o28_x20, .ref (ρ h0 21), .int o28_x22, .ref (ρ h0 23), .ref (ρ h0 24), .int o28_x25, .ref (ρ h0 26), .ref (ρ h0 27), .int o28_x28, .int o28_x29, .ref (ρ h0 30), .ref (ρ h0 31), .int o28_x32, .long o28_x33, .long o28_x34, .long o28_x35, .int o28_x36, .int o28_x37, .int o28_x38, .ref (ρ h0 39), .ref (ρ h0 40), .ref (ρ h0 41), .ref (ρ h0 42), .ref (ρ h0 43), .ref (ρ h0 44), .ref (ρ h0 45), .ref (ρ h0 46), .int o28_x47, .int o28_x48, .ref (ρ h0 49), .ref (ρ h0 50), .ref (ρ h0 51), .ref (ρ h0 52)])) hD (tp_in hG ht_h0 (by decide)) eq29 (fun f30 H locs hP hD hS g32 k31 => ?_))
  have hT := hT.up ht_h0 g32 k31 ⟨_, _, _, _, _, _, _, _, _, _, _, _, _, _, _, _, _, _, _, _, _, _, _, _, _, _, _, _, rfl, ro28_0, ro28_1, ro28_2, ro28_3, ro28_4, ro28_5, ro28_6, ro28_7, ro28_8, ro28_9, ro28_10, ro28_11, ro28_12, ro28_13⟩
  have hR := hR.up ht_h0 (by decide) k31
  refine lv_iload_n hx hb dX12_force_5 rfl (lv_at hl 2 rfl) ?_
  have hf_33 : f30 (ρ h0 2) = .inl (κ 0, 12967, .inl g27) := (k31 _ (tp_ne y1 ht_h0 (by decide))).trans hf_o26
  refine pz_calli (va_runS (As := [.int u]) (rest := []) ⟨hx, hb, hml, hown, hts⟩ (t_X12_isHour l dC dI _ u (u.toInt) rfl) (va_cwS 1 hts gX12_force_X12_isHour rfl rfl rfl (by decide +kernel) ⟨Nat.le_of_ble_eq_true rfl, Nat.le_of_ble_eq_true rfl⟩) ⟨pz_blind, pz_pre pz_P0 (hK.sub (tys' := []) [] rfl) (pz_D0 (A := fun _ => True)) hN⟩ rfl rfl hl.1 rfl (lv_room (Nat.le_of_ble_eq_true rfl)) dX12_force_6 ⟨Nat.le_of_ble_eq_true rfl, Nat.le_of_ble_eq_true rfl⟩) (fun r34 hw35 => ?_)
  obtain ⟨hw35r, hw35p⟩ := hw35
  refine lv_if_eq (tgt := 30) hx hb dX12_force_9 (by decide) (fun c36 => ?_) (fun c36 => ?_)
  · have ic36 : r34.toInt = 0 := zi_eq rfl rfl c36
    refine lv_aload_n hx hb dX12_force_30 rfl (lv_at hl 0 rfl) ?_
    refine lv_iconst (v := (-1)) hx hb dX12_force_31 (by decide) ?_
    obtain ⟨q37, eq37⟩ := tp_pos (tp_in hG ht_h0 (by decide)) g32
    have hFc := tp_fr hD hS hA
    refine va_calli (va_runV (As := [.int (-1)]) (rest := []) ⟨hx, hb, hml, hown, hts⟩ (t_X12_told l dC dI _ κ τ ν ρ L f30 hG hT h0 ((-1)) ht_h0) (cwV 1 hts gX12_force_X12_told rfl rfl rfl (by decide +kernel) ⟨Nat.le_of_ble_eq_true rfl, Nat.le_of_ble_eq_true rfl⟩) ⟨pz_blind, va_recv hK hP (ci := 12) (q0 := q37) rfl eq37, pz_pre hP hK hD hN⟩ rfl rfl hl.1 rfl (lv_room (Nat.le_of_ble_eq_true rfl)) dX12_force_32 ⟨Nat.le_of_ble_eq_true rfl, Nat.le_of_ble_eq_true rfl⟩) hS (fun q _ h => hFc q h) hFc (fun r38 f40 t H1 locs ht hvm hw39 hB hz1 hk1 hS => ?_)
    obtain ⟨hT, hF41, hw39r, hw39p⟩ := hw39
    have hR := hR.then hF41 (by decide)
    have hP := hB.1; rw [ht] at hP; have hD := tp_ad f40 hD; clear hB hFc hz1 hk1; subst ht; generalize t.heap = H at hP hS ⊢
    have hw39pq : r38.toInt = (-1) := by rw [hw39p]; rfl
    have hf_42 : f40 (ρ h0 2) = .inl (κ 0, 12967, .inl g27) := (hF41 _ (by rw [y1]; decide)).trans hf_33
    exact W.iret (v := r38) hx hb hr (fun t ht hW => ⟨⟨r38, f40, rfl, ⟨hT, hR, trivial, (by rw [hf_42, mo_i1]; exact hI)⟩, by rw [ht]; exact hP, va_K.moved hW.alike hK, hD⟩, hS.F ht⟩) hS.2.2 dX12_force_35
  · have ic36 : r34.toInt ≠ 0 := zi_eqf rfl rfl c36
    have p43 : 0 ≤ (u.toInt) ∧ (u.toInt) ≤ 2399 := (tp_cond.yes hw35p) (by omega)
    refine lv_iload_n hx hb dX12_force_12 rfl (lv_at hl 1 rfl) ?_
    refine lv_i2l hx hb dX12_force_13 rfl ?_
    refine lv_lconst (v := 0) hx hb dX12_force_14 (by decide) ?_
    refine lv_iload_n hx hb dX12_force_15 rfl (lv_at hl 2 rfl) ?_
    refine lv_i2l hx hb dX12_force_16 rfl ?_
    refine pz_calli (va_runS (As := [.long v.toInt64, .long 0, .long u.toInt64]) (rest := []) ⟨hx, hb, hml, hown, hts⟩ (t_X12_in l dC dI _ v.toInt64 (0) u.toInt64 (v.toInt) (0) (u.toInt) (Int32.toInt_toInt64 v) rfl (Int32.toInt_toInt64 u)) (va_cwS 3 hts gX12_force_X12_in rfl rfl rfl (by decide +kernel) ⟨Nat.le_of_ble_eq_true rfl, Nat.le_of_ble_eq_true rfl⟩) ⟨pz_blind, pz_pre pz_P0 (hK.sub (tys' := []) [] rfl) (pz_D0 (A := fun _ => True)) hN⟩ rfl rfl hl.1 rfl (lv_room (Nat.le_of_ble_eq_true rfl)) dX12_force_17 ⟨Nat.le_of_ble_eq_true rfl, Nat.le_of_ble_eq_true rfl⟩) (fun r44 hw45 => ?_)
    obtain ⟨hw45r, hw45p⟩ := hw45
    refine lv_if_eq (tgt := 30) hx hb dX12_force_20 (by decide) (fun c46 => ?_) (fun c46 => ?_)
    · have ic46 : r44.toInt = 0 := zi_eq rfl rfl c46
      refine lv_aload_n hx hb dX12_force_30 rfl (lv_at hl 0 rfl) ?_
      refine lv_iconst (v := (-1)) hx hb dX12_force_31 (by decide) ?_
      obtain ⟨q47, eq47⟩ := tp_pos (tp_in hG ht_h0 (by decide)) g32
      have hFc := tp_fr hD hS hA
      refine va_calli (va_runV (As := [.int (-1)]) (rest := []) ⟨hx, hb, hml, hown, hts⟩ (t_X12_told l dC dI _ κ τ ν ρ L f30 hG hT h0 ((-1)) ht_h0) (cwV 1 hts gX12_force_X12_told rfl rfl rfl (by decide +kernel) ⟨Nat.le_of_ble_eq_true rfl, Nat.le_of_ble_eq_true rfl⟩) ⟨pz_blind, va_recv hK hP (ci := 12) (q0 := q47) rfl eq47, pz_pre hP hK hD hN⟩ rfl rfl hl.1 rfl (lv_room (Nat.le_of_ble_eq_true rfl)) dX12_force_32 ⟨Nat.le_of_ble_eq_true rfl, Nat.le_of_ble_eq_true rfl⟩) hS (fun q _ h => hFc q h) hFc (fun r48 f50 t H1 locs ht hvm hw49 hB hz1 hk1 hS => ?_)
      obtain ⟨hT, hF51, hw49r, hw49p⟩ := hw49
      have hR := hR.then hF51 (by decide)
      have hP := hB.1; rw [ht] at hP; have hD := tp_ad f50 hD; clear hB hFc hz1 hk1; subst ht; generalize t.heap = H at hP hS ⊢
      have hw49pq : r48.toInt = (-1) := by rw [hw49p]; rfl
      have hf_52 : f50 (ρ h0 2) = .inl (κ 0, 12967, .inl g27) := (hF51 _ (by rw [y1]; decide)).trans hf_33
      exact W.iret (v := r48) hx hb hr (fun t ht hW => ⟨⟨r48, f50, rfl, ⟨hT, hR, trivial, (by rw [hf_52, mo_i1]; exact hI)⟩, by rw [ht]; exact hP, va_K.moved hW.alike hK, hD⟩, hS.F ht⟩) hS.2.2 dX12_force_35
    · have ic46 : r44.toInt ≠ 0 := zi_eqf rfl rfl c46
      have p53 : (0) ≤ (v.toInt) ∧ (v.toInt) ≤ (u.toInt) := (tp_cond.yes hw45p) (by omega)
      refine lv_iload_n hx hb dX12_force_23 rfl (lv_at hl 3 rfl) ?_
      refine pz_calli (va_runS (As := [.int a]) (rest := []) ⟨hx, hb, hml, hown, hts⟩ (t_X12_isHour l dC dI _ a (a.toInt) rfl) (va_cwS 1 hts gX12_force_X12_isHour rfl rfl rfl (by decide +kernel) ⟨Nat.le_of_ble_eq_true rfl, Nat.le_of_ble_eq_true rfl⟩) ⟨pz_blind, pz_pre pz_P0 (hK.sub (tys' := []) [] rfl) (pz_D0 (A := fun _ => True)) hN⟩ rfl rfl hl.1 rfl (lv_room (Nat.le_of_ble_eq_true rfl)) dX12_force_24 ⟨Nat.le_of_ble_eq_true rfl, Nat.le_of_ble_eq_true rfl⟩) (fun r54 hw55 => ?_)
      obtain ⟨hw55r, hw55p⟩ := hw55
      refine lv_if_ne (tgt := 36) hx hb dX12_force_27 (by decide) (fun c56 => ?_) (fun c56 => ?_)
      · have ic56 : r54.toInt ≠ 0 := zi_ne rfl rfl c56
        have p57 : 0 ≤ (a.toInt) ∧ (a.toInt) ≤ 2399 := (tp_cond.yes hw55p) (by omega)
        refine lv_aload_n hx hb dX12_force_36 rfl (lv_at hl 0 rfl) ?_
        obtain ⟨q58, eq58⟩ := tp_pos (tp_in hG ht_h0 (by decide)) g32
        refine va_get (D := (dC, dI)) (ci := 12) (v := .ref (ρ h0 2)) (C := RX12) (T := TX12) (N := 53) hx hb hts hfX12 hown hK hP q58 eq58 rfl 2 (by decide) (hts (.fieldLink RX12 7 "ColdShipsModel" "row" "[I") (by decide +kernel)) (fun _ h9 => h9) rfl dX12_force_37 ?_
        refine lv_bipush (v := 7) hx hb dX12_force_40 (by decide) ?_
        obtain ⟨q59, eq59⟩ := tp_pos (tp_in hG y1 (by decide)) hf_33
        refine va_iald hx hb hK hP q59 0 eq59 rfl (vp_in_iff.mpr ⟨by decide, by decide⟩) dX12_force_42 ?_
        refine lv_topi (fun z60 ez60 => ?_)
        have jz60 : z60.toInt = mo_R g27 (7) := mo_rd ez60 (show (7 : Int32).toInt = (7) from by decide)
        have kz60 := hI.k7
        refine lv_bipush (v := 20) hx hb dX12_force_43 (by decide) ?_
        refine lv_icmp_ne (tgt := 55) hx hb dX12_force_45 (by decide) (fun c61 => ?_) (fun c61 => ?_)
        · have ic61 : z60.toInt ≠ 20 := zi_ne rfl rfl c61
          refine lv_sipush (v := 2191) hx hb dX12_force_55 (by decide) ?_
          refine lv_iconst (v := 3) hx hb dX12_force_58 (by decide) ?_
          refine lv_aload_n hx hb dX12_force_59 rfl (lv_at hl 0 rfl) ?_
          refine va_get (D := (dC, dI)) (ci := 12) (v := .ref (ρ h0 2)) (C := RX12) (T := TX12) (N := 53) hx hb hts hfX12 hown hK hP q58 eq58 rfl 2 (by decide) (hts (.fieldLink RX12 7 "ColdShipsModel" "row" "[I") (by decide +kernel)) (fun _ h9 => h9) rfl dX12_force_60 ?_
          refine lv_bipush (v := 7) hx hb dX12_force_63 (by decide) ?_
          refine va_iald hx hb hK hP q59 0 eq59 rfl (vp_in_iff.mpr ⟨by decide, by decide⟩) dX12_force_65 ?_
          refine lv_topi (fun z62 ez62 => ?_)
          have jz62 : z62.toInt = mo_R g27 (7) := mo_rd ez62 (show (7 : Int32).toInt = (7) from by decide)
          have kz62 := hI.k7
          refine lv_imul hx hb dX12_force_66 ?_
          refine lv_topi (fun z63 ez63 => ?_)
          have iz63 : z63.toInt = 3 * z62.toInt := zi_mul ez63 rfl rfl (by omega) (by omega)
          refine lv_iadd hx hb dX12_force_67 ?_
          refine lv_topi (fun z64 ez64 => ?_)
          have iz64 : z64.toInt = 2191 + z63.toInt := zi_add ez64 rfl rfl (by omega) (by omega)
          refine lv_istore (lv' := [(4, .int z64), (0, .ref h0), (1, .int v), (2, .int u), (3, .int a)]) hx hb dX12_force_68 hl (by decide) rfl (fun ls hl => ?_)
          refine lv_aload_n hx hb dX12_force_70 rfl (lv_at hl 1 rfl) ?_
          refine va_get (D := (dC, dI)) (ci := 12) (v := .ref (ρ h0 2)) (C := RX12) (T := TX12) (N := 53) hx hb hts hfX12 hown hK hP q58 eq58 rfl 2 (by decide) (hts (.fieldLink RX12 7 "ColdShipsModel" "row" "[I") (by decide +kernel)) (fun _ h9 => h9) rfl dX12_force_71 ?_
          refine lv_iload hx hb dX12_force_74 (lv_at hl 0 rfl) ?_
          refine lv_iload_n hx hb dX12_force_76 rfl (lv_at hl 2 rfl) ?_
          refine va_iast hx hb hK hP hD hS q59 0 eq59 rfl (vp_in_iff.mpr ⟨by omega, by omega⟩) dX12_force_77 (tp_k (.inl (κ 0, 12967, .inl (upd g27 z64.toNatClampNeg v))) hD (tp_in hG y1 (by decide)) eq59 (fun f65 H locs hP hD hS g67 k66 => ?_))
          have hT := hT.up y1 g67 k66 tp_o32
          have hR := hR.up y1 (by decide) k66
          have hU : mo_U (mo_R g27) (mo_R (upd g27 z64.toNatClampNeg v)) (2191 + 3 * z60.toInt) (v.toInt) := mo_up (by omega) (rfl : v.toInt = _) (by omega)
          generalize (upd g27 z64.toNatClampNeg v) = g68 at g67 hU
          have hI := mo_w_flat hI hU (by omega)
          have pn69 : mo_R g68 (7) = z60.toInt := (hU.ne (by omega) (by omega)).trans (jz60).symm
          refine lv_aload_n hx hb dX12_force_78 rfl (lv_at hl 1 rfl) ?_
          have hf_70 : f65 h0 = .inr (12, [.int 0, .int o28_x1, .ref (ρ h0 2), .ref (ρ h0 3), .ref (ρ h0 4), .ref (ρ h0 5), .ref (ρ h0 6), .int o28_x7, .ref (ρ h0 8), .int o28_x9, .int o28_x10, .int o28_x11, .int o28_x12, .long o28_x13, .int o28_x14, .int o28_x15, .int o28_x16, .int o28_x17, .int o28_x18, .int o28_x19, .int o28_x20, .ref (ρ h0 21), .int o28_x22, .ref (ρ h0 23), .ref (ρ h0 24), .int o28_x25, .ref (ρ h0 26), .ref (ρ h0 27), .int o28_x28, .int o28_x29, .ref (ρ h0 30), .ref (ρ h0 31), .int o28_x32, .long o28_x33, .long o28_x34, .long o28_x35, .int o28_x36, .int o28_x37, .int o28_x38, .ref (ρ h0 39), .ref (ρ h0 40), .ref (ρ h0 41), .ref (ρ h0 42), .ref (ρ h0 43), .ref (ρ h0 44), .ref (ρ h0 45), .ref (ρ h0 46), .int o28_x47, .int o28_x48, .ref (ρ h0 49), .ref (ρ h0 50), .ref (ρ h0 51), .ref (ρ h0 52)]) := (k66 _ (tp_ne ht_h0 y1 (by decide))).trans g32
          obtain ⟨q71, eq71⟩ := tp_pos (tp_in hG ht_h0 (by decide)) hf_70
          refine va_get (D := (dC, dI)) (ci := 12) (v := .ref (ρ h0 2)) (C := RX12) (T := TX12) (N := 53) hx hb hts hfX12 hown hK hP q71 eq71 rfl 2 (by decide) (hts (.fieldLink RX12 7 "ColdShipsModel" "row" "[I") (by decide +kernel)) (fun _ h9 => h9) rfl dX12_force_79 ?_
          refine lv_iload hx hb dX12_force_82 (lv_at hl 0 rfl) ?_
          refine lv_iconst (v := 1) hx hb dX12_force_84 (by decide) ?_
          refine lv_iadd hx hb dX12_force_85 ?_
          refine lv_topi (fun z72 ez72 => ?_)
          have iz72 : z72.toInt = z64.toInt + 1 := zi_add ez72 rfl rfl (by omega) (by omega)
          refine lv_iload_n hx hb dX12_force_86 rfl (lv_at hl 3 rfl) ?_
          obtain ⟨q73, eq73⟩ := tp_pos (tp_in hG y1 (by decide)) g67
          refine va_iast hx hb hK hP hD hS q73 0 eq73 rfl (vp_in_iff.mpr ⟨by omega, by omega⟩) dX12_force_87 (tp_k (.inl (κ 0, 12967, .inl (upd g68 z72.toNatClampNeg u))) hD (tp_in hG y1 (by decide)) eq73 (fun f74 H locs hP hD hS g76 k75 => ?_))
          have hT := hT.up y1 g76 k75 tp_o32
          have hR := hR.up y1 (by decide) k75
          have hU : mo_U (mo_R g68) (mo_R (upd g68 z72.toNatClampNeg u)) (2192 + 3 * z60.toInt) (u.toInt) := mo_up (by omega) (rfl : u.toInt = _) (by omega)
          generalize (upd g68 z72.toNatClampNeg u) = g77 at g76 hU
          have hI := mo_w_flat hI hU (by omega)
          have pn78 : mo_R g77 (7) = z60.toInt := (hU.ne (by omega) (by omega)).trans pn69
          refine lv_aload_n hx hb dX12_force_88 rfl (lv_at hl 1 rfl) ?_
          have hf_79 : f74 h0 = .inr (12, [.int 0, .int o28_x1, .ref (ρ h0 2), .ref (ρ h0 3), .ref (ρ h0 4), .ref (ρ h0 5), .ref (ρ h0 6), .int o28_x7, .ref (ρ h0 8), .int o28_x9, .int o28_x10, .int o28_x11, .int o28_x12, .long o28_x13, .int o28_x14, .int o28_x15, .int o28_x16, .int o28_x17, .int o28_x18, .int o28_x19, .int o28_x20, .ref (ρ h0 21), .int o28_x22, .ref (ρ h0 23), .ref (ρ h0 24), .int o28_x25, .ref (ρ h0 26), .ref (ρ h0 27), .int o28_x28, .int o28_x29, .ref (ρ h0 30), .ref (ρ h0 31), .int o28_x32, .long o28_x33, .long o28_x34, .long o28_x35, .int o28_x36, .int o28_x37, .int o28_x38, .ref (ρ h0 39), .ref (ρ h0 40), .ref (ρ h0 41), .ref (ρ h0 42), .ref (ρ h0 43), .ref (ρ h0 44), .ref (ρ h0 45), .ref (ρ h0 46), .int o28_x47, .int o28_x48, .ref (ρ h0 49), .ref (ρ h0 50), .ref (ρ h0 51), .ref (ρ h0 52)]) := (k75 _ (tp_ne ht_h0 y1 (by decide))).trans hf_70
          obtain ⟨q80, eq80⟩ := tp_pos (tp_in hG ht_h0 (by decide)) hf_79
          refine va_get (D := (dC, dI)) (ci := 12) (v := .ref (ρ h0 2)) (C := RX12) (T := TX12) (N := 53) hx hb hts hfX12 hown hK hP q80 eq80 rfl 2 (by decide) (hts (.fieldLink RX12 7 "ColdShipsModel" "row" "[I") (by decide +kernel)) (fun _ h9 => h9) rfl dX12_force_89 ?_
          refine lv_iload hx hb dX12_force_92 (lv_at hl 0 rfl) ?_
          refine lv_iconst (v := 2) hx hb dX12_force_94 (by decide) ?_
          refine lv_iadd hx hb dX12_force_95 ?_
          refine lv_topi (fun z81 ez81 => ?_)
          have iz81 : z81.toInt = z64.toInt + 2 := zi_add ez81 rfl rfl (by omega) (by omega)
          refine lv_iload_n hx hb dX12_force_96 rfl (lv_at hl 4 rfl) ?_
          obtain ⟨q82, eq82⟩ := tp_pos (tp_in hG y1 (by decide)) g76
          refine va_iast hx hb hK hP hD hS q82 0 eq82 rfl (vp_in_iff.mpr ⟨by omega, by omega⟩) dX12_force_97 (tp_k (.inl (κ 0, 12967, .inl (upd g77 z81.toNatClampNeg a))) hD (tp_in hG y1 (by decide)) eq82 (fun f83 H locs hP hD hS g85 k84 => ?_))
          have hT := hT.up y1 g85 k84 tp_o32
          have hR := hR.up y1 (by decide) k84
          have hU : mo_U (mo_R g77) (mo_R (upd g77 z81.toNatClampNeg a)) (2193 + 3 * z60.toInt) (a.toInt) := mo_up (by omega) (rfl : a.toInt = _) (by omega)
          generalize (upd g77 z81.toNatClampNeg a) = g86 at g85 hU
          have hI := mo_w_flat hI hU (by omega)
          have pn87 : mo_R g86 (7) = z60.toInt := (hU.ne (by omega) (by omega)).trans pn78
          refine lv_aload_n hx hb dX12_force_98 rfl (lv_at hl 1 rfl) ?_
          have hf_88 : f83 h0 = .inr (12, [.int 0, .int o28_x1, .ref (ρ h0 2), .ref (ρ h0 3), .ref (ρ h0 4), .ref (ρ h0 5), .ref (ρ h0 6), .int o28_x7, .ref (ρ h0 8), .int o28_x9, .int o28_x10, .int o28_x11, .int o28_x12, .long o28_x13, .int o28_x14, .int o28_x15, .int o28_x16, .int o28_x17, .int o28_x18, .int o28_x19, .int o28_x20, .ref (ρ h0 21), .int o28_x22, .ref (ρ h0 23), .ref (ρ h0 24), .int o28_x25, .ref (ρ h0 26), .ref (ρ h0 27), .int o28_x28, .int o28_x29, .ref (ρ h0 30), .ref (ρ h0 31), .int o28_x32, .long o28_x33, .long o28_x34, .long o28_x35, .int o28_x36, .int o28_x37, .int o28_x38, .ref (ρ h0 39), .ref (ρ h0 40), .ref (ρ h0 41), .ref (ρ h0 42), .ref (ρ h0 43), .ref (ρ h0 44), .ref (ρ h0 45), .ref (ρ h0 46), .int o28_x47, .int o28_x48, .ref (ρ h0 49), .ref (ρ h0 50), .ref (ρ h0 51), .ref (ρ h0 52)]) := (k84 _ (tp_ne ht_h0 y1 (by decide))).trans hf_79
          obtain ⟨q89, eq89⟩ := tp_pos (tp_in hG ht_h0 (by decide)) hf_88
          refine va_get (D := (dC, dI)) (ci := 12) (v := .ref (ρ h0 2)) (C := RX12) (T := TX12) (N := 53) hx hb hts hfX12 hown hK hP q89 eq89 rfl 2 (by decide) (hts (.fieldLink RX12 7 "ColdShipsModel" "row" "[I") (by decide +kernel)) (fun _ h9 => h9) rfl dX12_force_99 ?_
          refine lv_bipush (v := 7) hx hb dX12_force_102 (by decide) ?_
          refine lv_dup2_11 hx hb dX12_force_104 rfl rfl ?_
          obtain ⟨q90, eq90⟩ := tp_pos (tp_in hG y1 (by decide)) g85
          refine va_iald hx hb hK hP q90 0 eq90 rfl (vp_in_iff.mpr ⟨by decide, by decide⟩) dX12_force_105 ?_
          refine lv_topi (fun z91 ez91 => ?_)
          have jz91 : z91.toInt = mo_R g86 (7) := mo_rd ez91 (show (7 : Int32).toInt = (7) from by decide)
          have kz91 := hI.k7
          refine lv_iconst (v := 1) hx hb dX12_force_106 (by decide) ?_
          refine lv_iadd hx hb dX12_force_107 ?_
          refine lv_topi (fun z92 ez92 => ?_)
          have iz92 : z92.toInt = z91.toInt + 1 := zi_add ez92 rfl rfl (by omega) (by omega)
          refine va_iast hx hb hK hP hD hS q90 0 eq90 rfl (vp_in_iff.mpr ⟨by decide, by decide⟩) dX12_force_108 (tp_k (.inl (κ 0, 12967, .inl (upd g86 (7 : Int32).toNatClampNeg z92))) hD (tp_in hG y1 (by decide)) eq90 (fun f93 H locs hP hD hS g95 k94 => ?_))
          have hT := hT.up y1 g95 k94 tp_o32
          have hR := hR.up y1 (by decide) k94
          have hU : mo_U (mo_R g86) (mo_R (upd g86 (7 : Int32).toNatClampNeg z92)) (7) (z92.toInt) := mo_up (show (7 : Int32).toInt = (7) from by decide) (rfl : z92.toInt = _) (by omega)
          generalize (upd g86 (7 : Int32).toNatClampNeg z92) = g96 at g95 hU
          have hI := mo_w_cnt hI hU (by omega) (by omega)
          have pn97 : mo_R g96 (7) = z92.toInt := hU.eq (by omega)
          refine lv_aload_n hx hb dX12_force_109 rfl (lv_at hl 1 rfl) ?_
          refine lv_aload_n hx hb dX12_force_110 rfl (lv_at hl 1 rfl) ?_
          have hf_98 : f93 h0 = .inr (12, [.int 0, .int o28_x1, .ref (ρ h0 2), .ref (ρ h0 3), .ref (ρ h0 4), .ref (ρ h0 5), .ref (ρ h0 6), .int o28_x7, .ref (ρ h0 8), .int o28_x9, .int o28_x10, .int o28_x11, .int o28_x12, .long o28_x13, .int o28_x14, .int o28_x15, .int o28_x16, .int o28_x17, .int o28_x18, .int o28_x19, .int o28_x20, .ref (ρ h0 21), .int o28_x22, .ref (ρ h0 23), .ref (ρ h0 24), .int o28_x25, .ref (ρ h0 26), .ref (ρ h0 27), .int o28_x28, .int o28_x29, .ref (ρ h0 30), .ref (ρ h0 31), .int o28_x32, .long o28_x33, .long o28_x34, .long o28_x35, .int o28_x36, .int o28_x37, .int o28_x38, .ref (ρ h0 39), .ref (ρ h0 40), .ref (ρ h0 41), .ref (ρ h0 42), .ref (ρ h0 43), .ref (ρ h0 44), .ref (ρ h0 45), .ref (ρ h0 46), .int o28_x47, .int o28_x48, .ref (ρ h0 49), .ref (ρ h0 50), .ref (ρ h0 51), .ref (ρ h0 52)]) := (k94 _ (tp_ne ht_h0 y1 (by decide))).trans hf_88
          obtain ⟨q99, eq99⟩ := tp_pos (tp_in hG ht_h0 (by decide)) hf_98
          refine va_get (D := (dC, dI)) (ci := 12) (v := .ref (ρ h0 2)) (C := RX12) (T := TX12) (N := 53) hx hb hts hfX12 hown hK hP q99 eq99 rfl 2 (by decide) (hts (.fieldLink RX12 7 "ColdShipsModel" "row" "[I") (by decide +kernel)) (fun _ h9 => h9) rfl dX12_force_111 ?_
          refine lv_bipush (v := 7) hx hb dX12_force_114 (by decide) ?_
          obtain ⟨q100, eq100⟩ := tp_pos (tp_in hG y1 (by decide)) g95
          refine va_iald hx hb hK hP q100 0 eq100 rfl (vp_in_iff.mpr ⟨by decide, by decide⟩) dX12_force_116 ?_
          refine lv_topi (fun z101 ez101 => ?_)
          have jz101 : z101.toInt = mo_R g96 (7) := mo_rd ez101 (show (7 : Int32).toInt = (7) from by decide)
          have kz101 := hI.k7
          have hFc := tp_fr hD hS hA
          refine va_calli (va_runV (As := [.int z101]) (rest := []) ⟨hx, hb, hml, hown, hts⟩ (t_X12_told l dC dI _ κ τ ν ρ L f93 hG hT h0 z101 ht_h0) (cwV 1 hts gX12_force_X12_told rfl rfl rfl (by decide +kernel) ⟨Nat.le_of_ble_eq_true rfl, Nat.le_of_ble_eq_true rfl⟩) ⟨pz_blind, va_recv hK hP (ci := 12) (q0 := q99) rfl eq99, pz_pre hP hK hD hN⟩ rfl rfl hl.1 rfl (lv_room (Nat.le_of_ble_eq_true rfl)) dX12_force_117 ⟨Nat.le_of_ble_eq_true rfl, Nat.le_of_ble_eq_true rfl⟩) hS (fun q _ h => hFc q h) hFc (fun r102 f104 t H1 locs ht hvm hw103 hB hz1 hk1 hS => ?_)
          obtain ⟨hT, hF105, hw103r, hw103p⟩ := hw103
          have hR := hR.then hF105 (by decide)
          have hP := hB.1; rw [ht] at hP; have hD := tp_ad f104 hD; clear hB hFc hz1 hk1; subst ht; generalize t.heap = H at hP hS ⊢
          have hw103pq : r102.toInt = z101.toInt := by rw [hw103p]
          have hf_106 : f104 (ρ h0 2) = .inl (κ 0, 12967, .inl g96) := (hF105 _ (by rw [y1]; decide)).trans g95
          exact W.iret (v := r102) hx hb hr (fun t ht hW => ⟨⟨r102, f104, rfl, ⟨hT, hR, trivial, (by rw [hf_106, mo_i1]; exact hI)⟩, by rw [ht]; exact hP, va_K.moved hW.alike hK, hD⟩, hS.F ht⟩) hS.2.2 dX12_force_120
        · have ic61 : z60.toInt = 20 := zi_nef rfl rfl c61
          refine lv_aload_n hx hb dX12_force_48 rfl (lv_at hl 0 rfl) ?_
          refine lv_bipush (v := (-5)) hx hb dX12_force_49 (by decide) ?_
          have hFc := tp_fr hD hS hA
          refine va_calli (va_runV (As := [.int (-5)]) (rest := []) ⟨hx, hb, hml, hown, hts⟩ (t_X12_told l dC dI _ κ τ ν ρ L f30 hG hT h0 ((-5)) ht_h0) (cwV 1 hts gX12_force_X12_told rfl rfl rfl (by decide +kernel) ⟨Nat.le_of_ble_eq_true rfl, Nat.le_of_ble_eq_true rfl⟩) ⟨pz_blind, va_recv hK hP (ci := 12) (q0 := q58) rfl eq58, pz_pre hP hK hD hN⟩ rfl rfl hl.1 rfl (lv_room (Nat.le_of_ble_eq_true rfl)) dX12_force_51 ⟨Nat.le_of_ble_eq_true rfl, Nat.le_of_ble_eq_true rfl⟩) hS (fun q _ h => hFc q h) hFc (fun r107 f109 t H1 locs ht hvm hw108 hB hz1 hk1 hS => ?_)
          obtain ⟨hT, hF110, hw108r, hw108p⟩ := hw108
          have hR := hR.then hF110 (by decide)
          have hP := hB.1; rw [ht] at hP; have hD := tp_ad f109 hD; clear hB hFc hz1 hk1; subst ht; generalize t.heap = H at hP hS ⊢
          have hw108pq : r107.toInt = (-5) := by rw [hw108p]; rfl
          have hf_111 : f109 (ρ h0 2) = .inl (κ 0, 12967, .inl g27) := (hF110 _ (by rw [y1]; decide)).trans hf_33
          exact W.iret (v := r107) hx hb hr (fun t ht hW => ⟨⟨r107, f109, rfl, ⟨hT, hR, trivial, (by rw [hf_111, mo_i1]; exact hI)⟩, by rw [ht]; exact hP, va_K.moved hW.alike hK, hD⟩, hS.F ht⟩) hS.2.2 dX12_force_54
      · have ic56 : r54.toInt = 0 := zi_nef rfl rfl c56
        refine lv_aload_n hx hb dX12_force_30 rfl (lv_at hl 0 rfl) ?_
        refine lv_iconst (v := (-1)) hx hb dX12_force_31 (by decide) ?_
        obtain ⟨q112, eq112⟩ := tp_pos (tp_in hG ht_h0 (by decide)) g32
        have hFc := tp_fr hD hS hA
        refine va_calli (va_runV (As := [.int (-1)]) (rest := []) ⟨hx, hb, hml, hown, hts⟩ (t_X12_told l dC dI _ κ τ ν ρ L f30 hG hT h0 ((-1)) ht_h0) (cwV 1 hts gX12_force_X12_told rfl rfl rfl (by decide +kernel) ⟨Nat.le_of_ble_eq_true rfl, Nat.le_of_ble_eq_true rfl⟩) ⟨pz_blind, va_recv hK hP (ci := 12) (q0 := q112) rfl eq112, pz_pre hP hK hD hN⟩ rfl rfl hl.1 rfl (lv_room (Nat.le_of_ble_eq_true rfl)) dX12_force_32 ⟨Nat.le_of_ble_eq_true rfl, Nat.le_of_ble_eq_true rfl⟩) hS (fun q _ h => hFc q h) hFc (fun r113 f115 t H1 locs ht hvm hw114 hB hz1 hk1 hS => ?_)
        obtain ⟨hT, hF116, hw114r, hw114p⟩ := hw114
        have hR := hR.then hF116 (by decide)
        have hP := hB.1; rw [ht] at hP; have hD := tp_ad f115 hD; clear hB hFc hz1 hk1; subst ht; generalize t.heap = H at hP hS ⊢
        have hw114pq : r113.toInt = (-1) := by rw [hw114p]; rfl
        have hf_117 : f115 (ρ h0 2) = .inl (κ 0, 12967, .inl g27) := (hF116 _ (by rw [y1]; decide)).trans hf_33
        exact W.iret (v := r113) hx hb hr (fun t ht hW => ⟨⟨r113, f115, rfl, ⟨hT, hR, trivial, (by rw [hf_117, mo_i1]; exact hI)⟩, by rw [ht]; exact hP, va_K.moved hW.alike hK, hD⟩, hS.F ht⟩) hS.2.2 dX12_force_35
set_option maxHeartbeats 4000000 in
set_option maxRecDepth 100000 in
theorem t_X12_bill (l : Launch) (dC : Nat → ClassId) (dI : Nat → Nat → Nat) (sz : Nat) (κ : Nat → ClassId) (τ ν : Nat → Nat) (ρ : Nat → Nat → Nat) (L : List Nat) (f : Nat → va_E) (hG : tp_G τ ν ρ L) (hT : tp_T (mo_O κ) κ τ ν ρ f) (h0 : Nat) (v : Int32) (u : Int32) (ht_h0 : τ h0 = 13) (hJ : mo_RI (-1) 0 (mo_R (mo_i (f (ρ h0 2))))) : Met l yX12_bill wsX12_bill ({ frames := 4, cells := 0, slots := 0, locals := 1200 }) (va_Pc [.ref h0, .int v, .int u] (pz_B dC dI (tp_K κ) (va_pl L f) sz)) (va_Qi (fun (r : Int32) (f1 : Nat → va_E) => tp_T (mo_O κ) κ τ ν ρ f1 ∧ tp_F τ [13, 32] f f1 ∧ True ∧ mo_RI (-1) 0 (mo_R (mo_i (f1 (ρ h0 2))))) (fun (f1 : Nat → va_E) (t : State) => pz_E dC dI (tp_K κ) (va_A (va_pl L f) sz) (va_pl L f1) t) (va_A (va_pl L f) sz)) 0 0 (va_A (va_pl L f) sz) := by
  refine Met.ofW (cc := cX12_bill) (maxL := 3) (ret := some .int) (by decide) rfl ?_
  intro p e s m args below meth c s₁ B hml hv
  obtain ⟨rfl, hsz, hP, hK, hD0, hN⟩ := hv
  have hx := B.exec
  have hb := B.bytes
  have hr := B.returns
  have hts := atoms_spec (ws := wsX12_bill) B.pre
  have hown : s.vm.findClass RX12 = some m.cls := findClass_of_methodNamed B.named
  have hlocks := B.notSynchronized
  subst hsz
  have hD := hD0.self (sz := s.heap.size)
  generalize hAe : va_A (va_pl L f) s.heap.size = A at hD ⊢
  have hA : ∀ q : Nat, s.heap.size ≤ q → A q := fun q h => by rw [← hAe]; exact Or.inr h
  have hS : va_S A s.heap s.heap [] := va_S.rf
  have hR : tp_F τ [13, 32] f f := tp_F.rf
  have hl := lv_entry ([.ref h0, .int v, .int u]) (n := 3) (Nat.le_of_ble_eq_true rfl)
  rw [lg_entry_eq]
  generalize (lg_sl ([.ref h0, .int v, .int u]) ++ List.replicate (3 - (lg_sl ([.ref h0, .int v, .int u])).length) Slot.unset).toArray = ls at hl ⊢
  have hl : lv_has ls 3 [(0, .ref h0), (1, .int v), (2, .int u)] := hl
  have hfX12 : ∀ w ∈ wsX120, w ∈ wsX12_bill := fun w h => List.mem_cons_of_mem _ (List.mem_append_right _ h)
  obtain ⟨y1, y2, y3, y4, y5, y6, y7, y8, y9, y10, y11, y12, y13, y14, y15, y16, y17, y18, y19, y20, y21, y22, y23, y24, y25⟩ := tpg_13 hG ht_h0
  obtain ⟨g27, hf_o26⟩ := tpo_32 hT y1
  have hI : mo_RI (-1) 0 (mo_R g27) := by have q9 := hJ; rw [hf_o26, mo_i1] at q9; exact q9
  refine lv_aload_n hx hb dX12_bill_0 rfl (lv_at hl 0 rfl) ?_
  refine lv_iconst (v := 0) hx hb dX12_bill_1 (by decide) ?_
  obtain ⟨o28_x0, o28_x1, o28_x7, o28_x9, o28_x10, o28_x11, o28_x12, o28_x13, o28_x14, o28_x15, o28_x16, o28_x17, o28_x18, o28_x19, o28_x20, o28_x22, o28_x25, o28_x28, o28_x29, o28_x32, o28_x33, o28_x34, o28_x35, o28_x36, o28_x37, o28_x38, o28_x47, o28_x48, hf_o28, ro28_0, ro28_1, ro28_2, ro28_3, ro28_4, ro28_5, ro28_6, ro28_7, ro28_8, ro28_9, ro28_10, ro28_11, ro28_12, ro28_13⟩ := tpo_13 hT ht_h0
  obtain ⟨q29, eq29⟩ := tp_pos (tp_in hG ht_h0 (by decide)) hf_o28
  refine va_put (D := (dC, dI)) (ci := 12) (v := .int 0) (ty := .int) (C := RX12) (T := TX12) (N := 53) hx hb hts hfX12 tyX12 tyX12_ok nmX12 hown hK hP hD hS q29 eq29 rfl 0 (by decide) (hts (.fieldLink RX12 91 "ColdShipsModel" "thrown" "I") (by decide +kernel)) (fun _ h9 => h9) rfl (by decide +kernel) rfl rfl (Nat.le_of_ble_eq_true rfl) dX12_bill_2 (tp_k (.inr (12, [.int 0, .int o28_x1, .ref (ρ h0 2), .ref (ρ h0 3), .ref (ρ h0 4), .ref (ρ h0 5), .ref (ρ h0 6), .int o28_x7, .ref (ρ h0 8), .int o28_x9, .int o28_x10, .int o28_x11, .int o28_x12, .long o28_x13, .int o28_x14, .int o28_x15, .int o28_x16, .int o28_x17, .int o28_x18, .int o28_x19, .int o28_x20, .ref (ρ h0 21), .int o28_x22, .ref (ρ h0 23), .ref (ρ h0 24), .int o28_x25, .ref (ρ h0 26), .ref (ρ h0 27), .int o28_x28, .int o28_x29, .ref (ρ h0 30), .ref (ρ h0 31), .int o28_x32, .long o28_x33, .long o28_x34, .long o28_x35, .int o28_x36, .int o28_x37, .int o28_x38, .ref (ρ h0 39), .ref (ρ h0 40), .ref (ρ h0 41), .ref (ρ h0 42), .ref (ρ h0 43), .ref (ρ h0 44), .ref (ρ h0 45), .ref (ρ h0 46), .int o28_x47, .int o28_x48, .ref (ρ h0 49), .ref (ρ h0 50), .ref (ρ h0 51), .ref (ρ h0 52)])) hD (tp_in hG ht_h0 (by decide)) eq29 (fun f30 H locs hP hD hS g32 k31 => ?_))
  have hT := hT.up ht_h0 g32 k31 ⟨_, _, _, _, _, _, _, _, _, _, _, _, _, _, _, _, _, _, _, _, _, _, _, _, _, _, _, _, rfl, ro28_0, ro28_1, ro28_2, ro28_3, ro28_4, ro28_5, ro28_6, ro28_7, ro28_8, ro28_9, ro28_10, ro28_11, ro28_12, ro28_13⟩
  have hR := hR.up ht_h0 (by decide) k31
  refine lv_iload_n hx hb dX12_bill_5 rfl (lv_at hl 2 rfl) ?_
  refine lv_i2l hx hb dX12_bill_6 rfl ?_
  refine lv_lconst (v := 0) hx hb dX12_bill_7 (by decide) ?_
  refine lv_ldc2 (own := RX12) (v := 200000) hx hb hown (hts (.constantLong RX12 124 (200000)) (by decide +kernel)) dX12_bill_8 ?_
  have hf_33 : f30 (ρ h0 2) = .inl (κ 0, 12967, .inl g27) := (k31 _ (tp_ne y1 ht_h0 (by decide))).trans hf_o26
  refine pz_calli (va_runS (As := [.long u.toInt64, .long 0, .long 200000]) (rest := []) ⟨hx, hb, hml, hown, hts⟩ (t_X12_in l dC dI _ u.toInt64 (0) (200000) (u.toInt) (0) (200000) (Int32.toInt_toInt64 u) rfl rfl) (va_cwS 3 hts gX12_bill_X12_in rfl rfl rfl (by decide +kernel) ⟨Nat.le_of_ble_eq_true rfl, Nat.le_of_ble_eq_true rfl⟩) ⟨pz_blind, pz_pre pz_P0 (hK.sub (tys' := []) [] rfl) (pz_D0 (A := fun _ => True)) hN⟩ rfl rfl hl.1 rfl (lv_room (Nat.le_of_ble_eq_true rfl)) dX12_bill_11 ⟨Nat.le_of_ble_eq_true rfl, Nat.le_of_ble_eq_true rfl⟩) (fun r34 hw35 => ?_)
  obtain ⟨hw35r, hw35p⟩ := hw35
  refine lv_if_ne (tgt := 23) hx hb dX12_bill_14 (by decide) (fun c36 => ?_) (fun c36 => ?_)
  · have ic36 : r34.toInt ≠ 0 := zi_ne rfl rfl c36
    have p37 : (0) ≤ (u.toInt) ∧ (u.toInt) ≤ (200000) := (tp_cond.yes hw35p) (by omega)
    refine lv_aload_n hx hb dX12_bill_23 rfl (lv_at hl 0 rfl) ?_
    refine lv_iload_n hx hb dX12_bill_24 rfl (lv_at hl 1 rfl) ?_
    obtain ⟨q38, eq38⟩ := tp_pos (tp_in hG ht_h0 (by decide)) g32
    refine pz_calli (va_runV (As := [.int v]) (rest := []) ⟨hx, hb, hml, hown, hts⟩ (t_X12_isLanding l dC dI _ κ τ ν ρ L f30 hG hT h0 v (-1) 0 ht_h0 (by rw [hf_33, mo_i1]; exact hI)) (cwV 1 hts gX12_bill_X12_isLanding rfl rfl rfl (by decide +kernel) ⟨Nat.le_of_ble_eq_true rfl, Nat.le_of_ble_eq_true rfl⟩) ⟨pz_blind, va_recv hK hP (ci := 12) (q0 := q38) rfl eq38, pz_pre hP hK hD hN⟩ rfl rfl hl.1 rfl (lv_room (Nat.le_of_ble_eq_true rfl)) dX12_bill_25 ⟨Nat.le_of_ble_eq_true rfl, Nat.le_of_ble_eq_true rfl⟩) (fun r39 hw40 => ?_)
    obtain ⟨hw40r, hw40p⟩ := hw40
    have := hI.k5
    rw [hf_33, mo_i1] at hw40p
    refine lv_if_ne (tgt := 38) hx hb dX12_bill_28 (by decide) (fun c41 => ?_) (fun c41 => ?_)
    · have ic41 : r39.toInt ≠ 0 := zi_ne rfl rfl c41
      have p42 : 0 ≤ v.toInt ∧ v.toInt < mo_R g27 5 := (tp_cond.yes hw40p) (by omega)
      refine lv_aload_n hx hb dX12_bill_38 rfl (lv_at hl 0 rfl) ?_
      refine va_get (D := (dC, dI)) (ci := 12) (v := .ref (ρ h0 2)) (C := RX12) (T := TX12) (N := 53) hx hb hts hfX12 hown hK hP q38 eq38 rfl 2 (by decide) (hts (.fieldLink RX12 7 "ColdShipsModel" "row" "[I") (by decide +kernel)) (fun _ h9 => h9) rfl dX12_bill_39 ?_
      refine lv_iload_n hx hb dX12_bill_42 rfl (lv_at hl 1 rfl) ?_
      refine pz_calli (va_runS (As := [.int v]) (rest := [.ref (ρ h0 2)]) ⟨hx, hb, hml, hown, hts⟩ (t_X12_landingAt l dC dI _ v (v.toInt) (by omega) rfl) (va_cwS 1 hts gX12_bill_X12_landingAt rfl rfl rfl (by decide +kernel) ⟨Nat.le_of_ble_eq_true rfl, Nat.le_of_ble_eq_true rfl⟩) ⟨pz_blind, pz_pre pz_P0 (hK.sub (tys' := []) [] rfl) (pz_D0 (A := fun _ => True)) hN⟩ rfl rfl hl.1 rfl (lv_room (Nat.le_of_ble_eq_true rfl)) dX12_bill_43 ⟨Nat.le_of_ble_eq_true rfl, Nat.le_of_ble_eq_true rfl⟩) (fun r43 hw44 => ?_)
      obtain ⟨hw44r, hw44p⟩ := hw44
      refine lv_bipush (v := 11) hx hb dX12_bill_46 (by decide) ?_
      refine lv_iadd hx hb dX12_bill_48 ?_
      refine lv_topi (fun z45 ez45 => ?_)
      have iz45 : z45.toInt = r43.toInt + 11 := zi_add ez45 rfl rfl (by omega) (by omega)
      obtain ⟨q46, eq46⟩ := tp_pos (tp_in hG y1 (by decide)) hf_33
      refine va_iald hx hb hK hP q46 0 eq46 rfl (vp_in_iff.mpr ⟨by omega, by omega⟩) dX12_bill_49 ?_
      refine lv_topi (fun z47 ez47 => ?_)
      refine lv_iconst (v := (-1)) hx hb dX12_bill_50 (by decide) ?_
      refine lv_icmp_eq (tgt := 61) hx hb dX12_bill_51 (by decide) (fun c48 => ?_) (fun c48 => ?_)
      · have ic48 : z47.toInt = (-1) := zi_eq rfl rfl c48
        refine lv_aload_n hx hb dX12_bill_61 rfl (lv_at hl 0 rfl) ?_
        refine va_get (D := (dC, dI)) (ci := 12) (v := .ref (ρ h0 2)) (C := RX12) (T := TX12) (N := 53) hx hb hts hfX12 hown hK hP q38 eq38 rfl 2 (by decide) (hts (.fieldLink RX12 7 "ColdShipsModel" "row" "[I") (by decide +kernel)) (fun _ h9 => h9) rfl dX12_bill_62 ?_
        refine lv_iload_n hx hb dX12_bill_65 rfl (lv_at hl 1 rfl) ?_
        refine pz_calli (va_runS (As := [.int v]) (rest := [.ref (ρ h0 2)]) ⟨hx, hb, hml, hown, hts⟩ (t_X12_landingAt l dC dI _ v (v.toInt) (by omega) rfl) (va_cwS 1 hts gX12_bill_X12_landingAt rfl rfl rfl (by decide +kernel) ⟨Nat.le_of_ble_eq_true rfl, Nat.le_of_ble_eq_true rfl⟩) ⟨pz_blind, pz_pre pz_P0 (hK.sub (tys' := []) [] rfl) (pz_D0 (A := fun _ => True)) hN⟩ rfl rfl hl.1 rfl (lv_room (Nat.le_of_ble_eq_true rfl)) dX12_bill_66 ⟨Nat.le_of_ble_eq_true rfl, Nat.le_of_ble_eq_true rfl⟩) (fun r49 hw50 => ?_)
        obtain ⟨hw50r, hw50p⟩ := hw50
        refine lv_bipush (v := 11) hx hb dX12_bill_69 (by decide) ?_
        refine lv_iadd hx hb dX12_bill_71 ?_
        refine lv_topi (fun z51 ez51 => ?_)
        have iz51 : z51.toInt = r49.toInt + 11 := zi_add ez51 rfl rfl (by omega) (by omega)
        refine lv_iload_n hx hb dX12_bill_72 rfl (lv_at hl 2 rfl) ?_
        refine va_iast hx hb hK hP hD hS q46 0 eq46 rfl (vp_in_iff.mpr ⟨by omega, by omega⟩) dX12_bill_73 (tp_k (.inl (κ 0, 12967, .inl (upd g27 z51.toNatClampNeg u))) hD (tp_in hG y1 (by decide)) eq46 (fun f52 H locs hP hD hS g54 k53 => ?_))
        have hT := hT.up y1 g54 k53 tp_o32
        have hR := hR.up y1 (by decide) k53
        have hU : mo_U (mo_R g27) (mo_R (upd g27 z51.toNatClampNeg u)) (1051 + 16 * v.toInt + 11) (u.toInt) := mo_up (by omega) (rfl : u.toInt = _) (by omega)
        generalize (upd g27 z51.toNatClampNeg u) = g55 at g54 hU
        have hI := mo_w_land hI hU v.toInt (11) (by omega) (by omega) (by omega)
        refine lv_aload_n hx hb dX12_bill_74 rfl (lv_at hl 0 rfl) ?_
        refine lv_iconst (v := 0) hx hb dX12_bill_75 (by decide) ?_
        have hf_56 : f52 h0 = .inr (12, [.int 0, .int o28_x1, .ref (ρ h0 2), .ref (ρ h0 3), .ref (ρ h0 4), .ref (ρ h0 5), .ref (ρ h0 6), .int o28_x7, .ref (ρ h0 8), .int o28_x9, .int o28_x10, .int o28_x11, .int o28_x12, .long o28_x13, .int o28_x14, .int o28_x15, .int o28_x16, .int o28_x17, .int o28_x18, .int o28_x19, .int o28_x20, .ref (ρ h0 21), .int o28_x22, .ref (ρ h0 23), .ref (ρ h0 24), .int o28_x25, .ref (ρ h0 26), .ref (ρ h0 27), .int o28_x28, .int o28_x29, .ref (ρ h0 30), .ref (ρ h0 31), .int o28_x32, .long o28_x33, .long o28_x34, .long o28_x35, .int o28_x36, .int o28_x37, .int o28_x38, .ref (ρ h0 39), .ref (ρ h0 40), .ref (ρ h0 41), .ref (ρ h0 42), .ref (ρ h0 43), .ref (ρ h0 44), .ref (ρ h0 45), .ref (ρ h0 46), .int o28_x47, .int o28_x48, .ref (ρ h0 49), .ref (ρ h0 50), .ref (ρ h0 51), .ref (ρ h0 52)]) := (k53 _ (tp_ne ht_h0 y1 (by decide))).trans g32
        obtain ⟨q57, eq57⟩ := tp_pos (tp_in hG ht_h0 (by decide)) hf_56
        have hFc := tp_fr hD hS hA
        refine va_calli (va_runV (As := [.int 0]) (rest := []) ⟨hx, hb, hml, hown, hts⟩ (t_X12_told l dC dI _ κ τ ν ρ L f52 hG hT h0 (0) ht_h0) (cwV 1 hts gX12_bill_X12_told rfl rfl rfl (by decide +kernel) ⟨Nat.le_of_ble_eq_true rfl, Nat.le_of_ble_eq_true rfl⟩) ⟨pz_blind, va_recv hK hP (ci := 12) (q0 := q57) rfl eq57, pz_pre hP hK hD hN⟩ rfl rfl hl.1 rfl (lv_room (Nat.le_of_ble_eq_true rfl)) dX12_bill_76 ⟨Nat.le_of_ble_eq_true rfl, Nat.le_of_ble_eq_true rfl⟩) hS (fun q _ h => hFc q h) hFc (fun r58 f60 t H1 locs ht hvm hw59 hB hz1 hk1 hS => ?_)
        obtain ⟨hT, hF61, hw59r, hw59p⟩ := hw59
        have hR := hR.then hF61 (by decide)
        have hP := hB.1; rw [ht] at hP; have hD := tp_ad f60 hD; clear hB hFc hz1 hk1; subst ht; generalize t.heap = H at hP hS ⊢
        have hw59pq : r58.toInt = 0 := by rw [hw59p]; rfl
        have hf_62 : f60 (ρ h0 2) = .inl (κ 0, 12967, .inl g55) := (hF61 _ (by rw [y1]; decide)).trans g54
        exact W.iret (v := r58) hx hb hr (fun t ht hW => ⟨⟨r58, f60, rfl, ⟨hT, hR, trivial, (by rw [hf_62, mo_i1]; exact hI)⟩, by rw [ht]; exact hP, va_K.moved hW.alike hK, hD⟩, hS.F ht⟩) hS.2.2 dX12_bill_79
      · have ic48 : z47.toInt ≠ (-1) := zi_eqf rfl rfl c48
        refine lv_aload_n hx hb dX12_bill_54 rfl (lv_at hl 0 rfl) ?_
        refine lv_bipush (v := (-4)) hx hb dX12_bill_55 (by decide) ?_
        have hFc := tp_fr hD hS hA
        refine va_calli (va_runV (As := [.int (-4)]) (rest := []) ⟨hx, hb, hml, hown, hts⟩ (t_X12_told l dC dI _ κ τ ν ρ L f30 hG hT h0 ((-4)) ht_h0) (cwV 1 hts gX12_bill_X12_told rfl rfl rfl (by decide +kernel) ⟨Nat.le_of_ble_eq_true rfl, Nat.le_of_ble_eq_true rfl⟩) ⟨pz_blind, va_recv hK hP (ci := 12) (q0 := q38) rfl eq38, pz_pre hP hK hD hN⟩ rfl rfl hl.1 rfl (lv_room (Nat.le_of_ble_eq_true rfl)) dX12_bill_57 ⟨Nat.le_of_ble_eq_true rfl, Nat.le_of_ble_eq_true rfl⟩) hS (fun q _ h => hFc q h) hFc (fun r63 f65 t H1 locs ht hvm hw64 hB hz1 hk1 hS => ?_)
        obtain ⟨hT, hF66, hw64r, hw64p⟩ := hw64
        have hR := hR.then hF66 (by decide)
        have hP := hB.1; rw [ht] at hP; have hD := tp_ad f65 hD; clear hB hFc hz1 hk1; subst ht; generalize t.heap = H at hP hS ⊢
        have hw64pq : r63.toInt = (-4) := by rw [hw64p]; rfl
        have hf_67 : f65 (ρ h0 2) = .inl (κ 0, 12967, .inl g27) := (hF66 _ (by rw [y1]; decide)).trans hf_33
        exact W.iret (v := r63) hx hb hr (fun t ht hW => ⟨⟨r63, f65, rfl, ⟨hT, hR, trivial, (by rw [hf_67, mo_i1]; exact hI)⟩, by rw [ht]; exact hP, va_K.moved hW.alike hK, hD⟩, hS.F ht⟩) hS.2.2 dX12_bill_60
    · have ic41 : r39.toInt = 0 := zi_nef rfl rfl c41
      refine lv_aload_n hx hb dX12_bill_31 rfl (lv_at hl 0 rfl) ?_
      refine lv_bipush (v := (-2)) hx hb dX12_bill_32 (by decide) ?_
      have hFc := tp_fr hD hS hA
      refine va_calli (va_runV (As := [.int (-2)]) (rest := []) ⟨hx, hb, hml, hown, hts⟩ (t_X12_told l dC dI _ κ τ ν ρ L f30 hG hT h0 ((-2)) ht_h0) (cwV 1 hts gX12_bill_X12_told rfl rfl rfl (by decide +kernel) ⟨Nat.le_of_ble_eq_true rfl, Nat.le_of_ble_eq_true rfl⟩) ⟨pz_blind, va_recv hK hP (ci := 12) (q0 := q38) rfl eq38, pz_pre hP hK hD hN⟩ rfl rfl hl.1 rfl (lv_room (Nat.le_of_ble_eq_true rfl)) dX12_bill_34 ⟨Nat.le_of_ble_eq_true rfl, Nat.le_of_ble_eq_true rfl⟩) hS (fun q _ h => hFc q h) hFc (fun r68 f70 t H1 locs ht hvm hw69 hB hz1 hk1 hS => ?_)
      obtain ⟨hT, hF71, hw69r, hw69p⟩ := hw69
      have hR := hR.then hF71 (by decide)
      have hP := hB.1; rw [ht] at hP; have hD := tp_ad f70 hD; clear hB hFc hz1 hk1; subst ht; generalize t.heap = H at hP hS ⊢
      have hw69pq : r68.toInt = (-2) := by rw [hw69p]; rfl
      have hf_72 : f70 (ρ h0 2) = .inl (κ 0, 12967, .inl g27) := (hF71 _ (by rw [y1]; decide)).trans hf_33
      exact W.iret (v := r68) hx hb hr (fun t ht hW => ⟨⟨r68, f70, rfl, ⟨hT, hR, trivial, (by rw [hf_72, mo_i1]; exact hI)⟩, by rw [ht]; exact hP, va_K.moved hW.alike hK, hD⟩, hS.F ht⟩) hS.2.2 dX12_bill_37
  · have ic36 : r34.toInt = 0 := zi_nef rfl rfl c36
    refine lv_aload_n hx hb dX12_bill_17 rfl (lv_at hl 0 rfl) ?_
    refine lv_iconst (v := (-1)) hx hb dX12_bill_18 (by decide) ?_
    obtain ⟨q73, eq73⟩ := tp_pos (tp_in hG ht_h0 (by decide)) g32
    have hFc := tp_fr hD hS hA
    refine va_calli (va_runV (As := [.int (-1)]) (rest := []) ⟨hx, hb, hml, hown, hts⟩ (t_X12_told l dC dI _ κ τ ν ρ L f30 hG hT h0 ((-1)) ht_h0) (cwV 1 hts gX12_bill_X12_told rfl rfl rfl (by decide +kernel) ⟨Nat.le_of_ble_eq_true rfl, Nat.le_of_ble_eq_true rfl⟩) ⟨pz_blind, va_recv hK hP (ci := 12) (q0 := q73) rfl eq73, pz_pre hP hK hD hN⟩ rfl rfl hl.1 rfl (lv_room (Nat.le_of_ble_eq_true rfl)) dX12_bill_19 ⟨Nat.le_of_ble_eq_true rfl, Nat.le_of_ble_eq_true rfl⟩) hS (fun q _ h => hFc q h) hFc (fun r74 f76 t H1 locs ht hvm hw75 hB hz1 hk1 hS => ?_)
    obtain ⟨hT, hF77, hw75r, hw75p⟩ := hw75
    have hR := hR.then hF77 (by decide)
    have hP := hB.1; rw [ht] at hP; have hD := tp_ad f76 hD; clear hB hFc hz1 hk1; subst ht; generalize t.heap = H at hP hS ⊢
    have hw75pq : r74.toInt = (-1) := by rw [hw75p]; rfl
    have hf_78 : f76 (ρ h0 2) = .inl (κ 0, 12967, .inl g27) := (hF77 _ (by rw [y1]; decide)).trans hf_33
    exact W.iret (v := r74) hx hb hr (fun t ht hW => ⟨⟨r74, f76, rfl, ⟨hT, hR, trivial, (by rw [hf_78, mo_i1]; exact hI)⟩, by rw [ht]; exact hP, va_K.moved hW.alike hK, hD⟩, hS.F ht⟩) hS.2.2 dX12_bill_22
set_option maxHeartbeats 4000000 in
set_option maxRecDepth 100000 in
theorem t_X12_fault (l : Launch) (dC : Nat → ClassId) (dI : Nat → Nat → Nat) (sz : Nat) (κ : Nat → ClassId) (τ ν : Nat → Nat) (ρ : Nat → Nat → Nat) (L : List Nat) (f : Nat → va_E) (hG : tp_G τ ν ρ L) (hT : tp_T (mo_O κ) κ τ ν ρ f) (h0 : Nat) (ht_h0 : τ h0 = 13) (hJ : mo_RI (-1) 0 (mo_R (mo_i (f (ρ h0 2))))) : Met l yX12_fault wsX12_fault ({ frames := 2, cells := 0, slots := 0, locals := 400 }) (va_Pc [.ref h0] (pz_B dC dI (tp_K κ) (va_pl L f) sz)) (va_Qi (fun (r : Int32) (f1 : Nat → va_E) => tp_T (mo_O κ) κ τ ν ρ f1 ∧ tp_F τ [13] f f1 ∧ True ∧ True) (fun (f1 : Nat → va_E) (t : State) => pz_E dC dI (tp_K κ) (va_A (va_pl L f) sz) (va_pl L f1) t) (va_A (va_pl L f) sz)) 0 0 (va_A (va_pl L f) sz) := by
  refine Met.ofW (cc := cX12_fault) (maxL := 1) (ret := some .int) (by decide) rfl ?_
  intro p e s m args below meth c s₁ B hml hv
  obtain ⟨rfl, hsz, hP, hK, hD0, hN⟩ := hv
  have hx := B.exec
  have hb := B.bytes
  have hr := B.returns
  have hts := atoms_spec (ws := wsX12_fault) B.pre
  have hown : s.vm.findClass RX12 = some m.cls := findClass_of_methodNamed B.named
  have hlocks := B.notSynchronized
  subst hsz
  have hD := hD0.self (sz := s.heap.size)
  generalize hAe : va_A (va_pl L f) s.heap.size = A at hD ⊢
  have hA : ∀ q : Nat, s.heap.size ≤ q → A q := fun q h => by rw [← hAe]; exact Or.inr h
  have hS : va_S A s.heap s.heap [] := va_S.rf
  have hR : tp_F τ [13] f f := tp_F.rf
  have hl := lv_entry ([.ref h0]) (n := 1) (Nat.le_of_ble_eq_true rfl)
  rw [lg_entry_eq]
  generalize (lg_sl ([.ref h0]) ++ List.replicate (1 - (lg_sl ([.ref h0])).length) Slot.unset).toArray = ls at hl ⊢
  have hl : lv_has ls 1 [(0, .ref h0)] := hl
  have hfX12 : ∀ w ∈ wsX120, w ∈ wsX12_fault := fun w h => List.mem_cons_of_mem _ (List.mem_append_right _ h)
  obtain ⟨y1, y2, y3, y4, y5, y6, y7, y8, y9, y10, y11, y12, y13, y14, y15, y16, y17, y18, y19, y20, y21, y22, y23, y24, y25⟩ := tpg_13 hG ht_h0
  obtain ⟨g27, hf_o26⟩ := tpo_32 hT y1
  have hI : mo_RI (-1) 0 (mo_R g27) := by have q9 := hJ; rw [hf_o26, mo_i1] at q9; exact q9
  refine lv_aload_n hx hb dX12_fault_0 rfl (lv_at hl 0 rfl) ?_
  refine lv_iconst (v := 0) hx hb dX12_fault_1 (by decide) ?_
  obtain ⟨o28_x0, o28_x1, o28_x7, o28_x9, o28_x10, o28_x11, o28_x12, o28_x13, o28_x14, o28_x15, o28_x16, o28_x17, o28_x18, o28_x19, o28_x20, o28_x22, o28_x25, o28_x28, o28_x29, o28_x32, o28_x33, o28_x34, o28_x35, o28_x36, o28_x37, o28_x38, o28_x47, o28_x48, hf_o28, ro28_0, ro28_1, ro28_2, ro28_3, ro28_4, ro28_5, ro28_6, ro28_7, ro28_8, ro28_9, ro28_10, ro28_11, ro28_12, ro28_13⟩ := tpo_13 hT ht_h0
  obtain ⟨q29, eq29⟩ := tp_pos (tp_in hG ht_h0 (by decide)) hf_o28
  refine va_put (D := (dC, dI)) (ci := 12) (v := .int 0) (ty := .int) (C := RX12) (T := TX12) (N := 53) hx hb hts hfX12 tyX12 tyX12_ok nmX12 hown hK hP hD hS q29 eq29 rfl 0 (by decide) (hts (.fieldLink RX12 91 "ColdShipsModel" "thrown" "I") (by decide +kernel)) (fun _ h9 => h9) rfl (by decide +kernel) rfl rfl (Nat.le_of_ble_eq_true rfl) dX12_fault_2 (tp_k (.inr (12, [.int 0, .int o28_x1, .ref (ρ h0 2), .ref (ρ h0 3), .ref (ρ h0 4), .ref (ρ h0 5), .ref (ρ h0 6), .int o28_x7, .ref (ρ h0 8), .int o28_x9, .int o28_x10, .int o28_x11, .int o28_x12, .long o28_x13, .int o28_x14, .int o28_x15, .int o28_x16, .int o28_x17, .int o28_x18, .int o28_x19, .int o28_x20, .ref (ρ h0 21), .int o28_x22, .ref (ρ h0 23), .ref (ρ h0 24), .int o28_x25, .ref (ρ h0 26), .ref (ρ h0 27), .int o28_x28, .int o28_x29, .ref (ρ h0 30), .ref (ρ h0 31), .int o28_x32, .long o28_x33, .long o28_x34, .long o28_x35, .int o28_x36, .int o28_x37, .int o28_x38, .ref (ρ h0 39), .ref (ρ h0 40), .ref (ρ h0 41), .ref (ρ h0 42), .ref (ρ h0 43), .ref (ρ h0 44), .ref (ρ h0 45), .ref (ρ h0 46), .int o28_x47, .int o28_x48, .ref (ρ h0 49), .ref (ρ h0 50), .ref (ρ h0 51), .ref (ρ h0 52)])) hD (tp_in hG ht_h0 (by decide)) eq29 (fun f30 H locs hP hD hS g32 k31 => ?_))
  have hT := hT.up ht_h0 g32 k31 ⟨_, _, _, _, _, _, _, _, _, _, _, _, _, _, _, _, _, _, _, _, _, _, _, _, _, _, _, _, rfl, ro28_0, ro28_1, ro28_2, ro28_3, ro28_4, ro28_5, ro28_6, ro28_7, ro28_8, ro28_9, ro28_10, ro28_11, ro28_12, ro28_13⟩
  have hR := hR.up ht_h0 (by decide) k31
  refine lv_aload_n hx hb dX12_fault_5 rfl (lv_at hl 0 rfl) ?_
  obtain ⟨q33, eq33⟩ := tp_pos (tp_in hG ht_h0 (by decide)) g32
  refine va_get (D := (dC, dI)) (ci := 12) (v := .int o28_x14) (C := RX12) (T := TX12) (N := 53) hx hb hts hfX12 hown hK hP q33 eq33 rfl 14 (by decide) (hts (.fieldLink RX12 30 "ColdShipsModel" "fault" "I") (by decide +kernel)) (fun _ h9 => h9) rfl dX12_fault_6 ?_
  exact W.iret (v := o28_x14) hx hb hr (fun t ht hW => ⟨⟨o28_x14, f30, rfl, ⟨hT, hR, trivial, trivial⟩, by rw [ht]; exact hP, va_K.moved hW.alike hK, hD⟩, hS.F ht⟩) hS.2.2 dX12_fault_9
set_option maxHeartbeats 4000000 in
set_option maxRecDepth 100000 in
theorem t_X12_clear (l : Launch) (dC : Nat → ClassId) (dI : Nat → Nat → Nat) (sz : Nat) (κ : Nat → ClassId) (τ ν : Nat → Nat) (ρ : Nat → Nat → Nat) (L : List Nat) (f : Nat → va_E) (hG : tp_G τ ν ρ L) (hT : tp_T (mo_O κ) κ τ ν ρ f) (h0 : Nat) (ht_h0 : τ h0 = 13) (hJ : mo_RI (-1) 0 (mo_R (mo_i (f (ρ h0 2))))) : Met l yX12_clear wsX12_clear ({ frames := 2, cells := 0, slots := 0, locals := 400 }) (va_Pc [.ref h0] (pz_B dC dI (tp_K κ) (va_pl L f) sz)) (va_Qi (fun (r : Int32) (f1 : Nat → va_E) => tp_T (mo_O κ) κ τ ν ρ f1 ∧ tp_F τ [13, 32] f f1 ∧ True ∧ mo_RI (-1) 0 (mo_R (mo_i (f1 (ρ h0 2))))) (fun (f1 : Nat → va_E) (t : State) => pz_E dC dI (tp_K κ) (va_A (va_pl L f) sz) (va_pl L f1) t) (va_A (va_pl L f) sz)) 0 0 (va_A (va_pl L f) sz) := by
  refine Met.ofW (cc := cX12_clear) (maxL := 2) (ret := some .int) (by decide) rfl ?_
  intro p e s m args below meth c s₁ B hml hv
  obtain ⟨rfl, hsz, hP, hK, hD0, hN⟩ := hv
  have hx := B.exec
  have hb := B.bytes
  have hr := B.returns
  have hts := atoms_spec (ws := wsX12_clear) B.pre
  have hown : s.vm.findClass RX12 = some m.cls := findClass_of_methodNamed B.named
  have hlocks := B.notSynchronized
  subst hsz
  have hD := hD0.self (sz := s.heap.size)
  generalize hAe : va_A (va_pl L f) s.heap.size = A at hD ⊢
  have hA : ∀ q : Nat, s.heap.size ≤ q → A q := fun q h => by rw [← hAe]; exact Or.inr h
  have hS : va_S A s.heap s.heap [] := va_S.rf
  have hR : tp_F τ [13, 32] f f := tp_F.rf
  have hl := lv_entry ([.ref h0]) (n := 2) (Nat.le_of_ble_eq_true rfl)
  rw [lg_entry_eq]
  generalize (lg_sl ([.ref h0]) ++ List.replicate (2 - (lg_sl ([.ref h0])).length) Slot.unset).toArray = ls at hl ⊢
  have hl : lv_has ls 2 [(0, .ref h0)] := hl
  have hfX12 : ∀ w ∈ wsX120, w ∈ wsX12_clear := fun w h => List.mem_cons_of_mem _ (List.mem_append_right _ h)
  obtain ⟨y1, y2, y3, y4, y5, y6, y7, y8, y9, y10, y11, y12, y13, y14, y15, y16, y17, y18, y19, y20, y21, y22, y23, y24, y25⟩ := tpg_13 hG ht_h0
  obtain ⟨g27, hf_o26⟩ := tpo_32 hT y1
  have hI : mo_RI (-1) 0 (mo_R g27) := by have q9 := hJ; rw [hf_o26, mo_i1] at q9; exact q9
  refine lv_aload_n hx hb dX12_clear_0 rfl (lv_at hl 0 rfl) ?_
  refine lv_iconst (v := 0) hx hb dX12_clear_1 (by decide) ?_
  obtain ⟨o28_x0, o28_x1, o28_x7, o28_x9, o28_x10, o28_x11, o28_x12, o28_x13, o28_x14, o28_x15, o28_x16, o28_x17, o28_x18, o28_x19, o28_x20, o28_x22, o28_x25, o28_x28, o28_x29, o28_x32, o28_x33, o28_x34, o28_x35, o28_x36, o28_x37, o28_x38, o28_x47, o28_x48, hf_o28, ro28_0, ro28_1, ro28_2, ro28_3, ro28_4, ro28_5, ro28_6, ro28_7, ro28_8, ro28_9, ro28_10, ro28_11, ro28_12, ro28_13⟩ := tpo_13 hT ht_h0
  obtain ⟨q29, eq29⟩ := tp_pos (tp_in hG ht_h0 (by decide)) hf_o28
  refine va_put (D := (dC, dI)) (ci := 12) (v := .int 0) (ty := .int) (C := RX12) (T := TX12) (N := 53) hx hb hts hfX12 tyX12 tyX12_ok nmX12 hown hK hP hD hS q29 eq29 rfl 0 (by decide) (hts (.fieldLink RX12 91 "ColdShipsModel" "thrown" "I") (by decide +kernel)) (fun _ h9 => h9) rfl (by decide +kernel) rfl rfl (Nat.le_of_ble_eq_true rfl) dX12_clear_2 (tp_k (.inr (12, [.int 0, .int o28_x1, .ref (ρ h0 2), .ref (ρ h0 3), .ref (ρ h0 4), .ref (ρ h0 5), .ref (ρ h0 6), .int o28_x7, .ref (ρ h0 8), .int o28_x9, .int o28_x10, .int o28_x11, .int o28_x12, .long o28_x13, .int o28_x14, .int o28_x15, .int o28_x16, .int o28_x17, .int o28_x18, .int o28_x19, .int o28_x20, .ref (ρ h0 21), .int o28_x22, .ref (ρ h0 23), .ref (ρ h0 24), .int o28_x25, .ref (ρ h0 26), .ref (ρ h0 27), .int o28_x28, .int o28_x29, .ref (ρ h0 30), .ref (ρ h0 31), .int o28_x32, .long o28_x33, .long o28_x34, .long o28_x35, .int o28_x36, .int o28_x37, .int o28_x38, .ref (ρ h0 39), .ref (ρ h0 40), .ref (ρ h0 41), .ref (ρ h0 42), .ref (ρ h0 43), .ref (ρ h0 44), .ref (ρ h0 45), .ref (ρ h0 46), .int o28_x47, .int o28_x48, .ref (ρ h0 49), .ref (ρ h0 50), .ref (ρ h0 51), .ref (ρ h0 52)])) hD (tp_in hG ht_h0 (by decide)) eq29 (fun f30 H locs hP hD hS g32 k31 => ?_))
  have hT := hT.up ht_h0 g32 k31 ⟨_, _, _, _, _, _, _, _, _, _, _, _, _, _, _, _, _, _, _, _, _, _, _, _, _, _, _, _, rfl, ro28_0, ro28_1, ro28_2, ro28_3, ro28_4, ro28_5, ro28_6, ro28_7, ro28_8, ro28_9, ro28_10, ro28_11, ro28_12, ro28_13⟩
  have hR := hR.up ht_h0 (by decide) k31
  refine lv_aload_n hx hb dX12_clear_5 rfl (lv_at hl 0 rfl) ?_
  obtain ⟨q33, eq33⟩ := tp_pos (tp_in hG ht_h0 (by decide)) g32
  refine va_get (D := (dC, dI)) (ci := 12) (v := .ref (ρ h0 2)) (C := RX12) (T := TX12) (N := 53) hx hb hts hfX12 hown hK hP q33 eq33 rfl 2 (by decide) (hts (.fieldLink RX12 7 "ColdShipsModel" "row" "[I") (by decide +kernel)) (fun _ h9 => h9) rfl dX12_clear_6 ?_
  refine lv_bipush (v := 10) hx hb dX12_clear_9 (by decide) ?_
  have hf_34 : f30 (ρ h0 2) = .inl (κ 0, 12967, .inl g27) := (k31 _ (tp_ne y1 ht_h0 (by decide))).trans hf_o26
  obtain ⟨q35, eq35⟩ := tp_pos (tp_in hG y1 (by decide)) hf_34
  refine va_iald hx hb hK hP q35 0 eq35 rfl (vp_in_iff.mpr ⟨by decide, by decide⟩) dX12_clear_11 ?_
  refine lv_topi (fun z36 ez36 => ?_)
  have jz36 : z36.toInt = mo_R g27 (10) := mo_rd ez36 (show (10 : Int32).toInt = (10) from by decide)
  have kz36 := hI.k10
  refine lv_istore_n (lv' := [(1, .int z36), (0, .ref h0)]) hx hb dX12_clear_12 rfl hl (by decide) rfl (fun ls hl => ?_)
  refine lv_aload_n hx hb dX12_clear_13 rfl (lv_at hl 1 rfl) ?_
  refine va_get (D := (dC, dI)) (ci := 12) (v := .ref (ρ h0 2)) (C := RX12) (T := TX12) (N := 53) hx hb hts hfX12 hown hK hP q33 eq33 rfl 2 (by decide) (hts (.fieldLink RX12 7 "ColdShipsModel" "row" "[I") (by decide +kernel)) (fun _ h9 => h9) rfl dX12_clear_14 ?_
  refine lv_bipush (v := 10) hx hb dX12_clear_17 (by decide) ?_
  refine lv_iconst (v := 0) hx hb dX12_clear_19 (by decide) ?_
  refine va_iast hx hb hK hP hD hS q35 0 eq35 rfl (vp_in_iff.mpr ⟨by decide, by decide⟩) dX12_clear_20 (tp_k (.inl (κ 0, 12967, .inl (upd g27 (10 : Int32).toNatClampNeg (0 : Int32)))) hD (tp_in hG y1 (by decide)) eq35 (fun f37 H locs hP hD hS g39 k38 => ?_))
  have hT := hT.up y1 g39 k38 tp_o32
  have hR := hR.up y1 (by decide) k38
  have hU : mo_U (mo_R g27) (mo_R (upd g27 (10 : Int32).toNatClampNeg (0 : Int32))) (10) (0) := mo_up (show (10 : Int32).toInt = (10) from by decide) (show (0 : Int32).toInt = 0 from rfl) (by omega)
  generalize (upd g27 (10 : Int32).toNatClampNeg (0 : Int32)) = g40 at g39 hU
  have hI := mo_w_nA0 hI hU rfl rfl
  have pn41 : mo_R g40 (10) = 0 := hU.eq (by omega)
  refine lv_iload_n hx hb dX12_clear_21 rfl (lv_at hl 0 rfl) ?_
  exact W.iret (v := z36) hx hb hr (fun t ht hW => ⟨⟨z36, f37, rfl, ⟨hT, hR, trivial, (by rw [g39, mo_i1]; exact hI)⟩, by rw [ht]; exact hP, va_K.moved hW.alike hK, hD⟩, hS.F ht⟩) hS.2.2 dX12_clear_22
set_option maxHeartbeats 4000000 in
set_option maxRecDepth 100000 in
theorem t_X12_count (l : Launch) (dC : Nat → ClassId) (dI : Nat → Nat → Nat) (sz : Nat) (κ : Nat → ClassId) (τ ν : Nat → Nat) (ρ : Nat → Nat → Nat) (L : List Nat) (f : Nat → va_E) (hG : tp_G τ ν ρ L) (hT : tp_T (mo_O κ) κ τ ν ρ f) (h0 : Nat) (v : Int32) (ht_h0 : τ h0 = 13) (hJ : mo_RI (-1) 0 (mo_R (mo_i (f (ρ h0 2))))) : Met l yX12_count wsX12_count ({ frames := 2, cells := 0, slots := 0, locals := 400 }) (va_Pc [.ref h0, .int v] (pz_B dC dI (tp_K κ) (va_pl L f) sz)) (va_Qi (fun (r : Int32) (f1 : Nat → va_E) => tp_T (mo_O κ) κ τ ν ρ f1 ∧ tp_F τ [13] f f1 ∧ True ∧ True) (fun (f1 : Nat → va_E) (t : State) => pz_E dC dI (tp_K κ) (va_A (va_pl L f) sz) (va_pl L f1) t) (va_A (va_pl L f) sz)) 0 0 (va_A (va_pl L f) sz) := by
  refine Met.ofW (cc := cX12_count) (maxL := 2) (ret := some .int) (by decide) rfl ?_
  intro p e s m args below meth c s₁ B hml hv
  obtain ⟨rfl, hsz, hP, hK, hD0, hN⟩ := hv
  have hx := B.exec
  have hb := B.bytes
  have hr := B.returns
  have hts := atoms_spec (ws := wsX12_count) B.pre
  have hown : s.vm.findClass RX12 = some m.cls := findClass_of_methodNamed B.named
  have hlocks := B.notSynchronized
  subst hsz
  have hD := hD0.self (sz := s.heap.size)
  generalize hAe : va_A (va_pl L f) s.heap.size = A at hD ⊢
  have hA : ∀ q : Nat, s.heap.size ≤ q → A q := fun q h => by rw [← hAe]; exact Or.inr h
  have hS : va_S A s.heap s.heap [] := va_S.rf
  have hR : tp_F τ [13] f f := tp_F.rf
  have hl := lv_entry ([.ref h0, .int v]) (n := 2) (Nat.le_of_ble_eq_true rfl)
  rw [lg_entry_eq]
  generalize (lg_sl ([.ref h0, .int v]) ++ List.replicate (2 - (lg_sl ([.ref h0, .int v])).length) Slot.unset).toArray = ls at hl ⊢
  have hl : lv_has ls 2 [(0, .ref h0), (1, .int v)] := hl
  have hfX12 : ∀ w ∈ wsX120, w ∈ wsX12_count := fun w h => List.mem_cons_of_mem _ (List.mem_append_right _ h)
  obtain ⟨y1, y2, y3, y4, y5, y6, y7, y8, y9, y10, y11, y12, y13, y14, y15, y16, y17, y18, y19, y20, y21, y22, y23, y24, y25⟩ := tpg_13 hG ht_h0
  obtain ⟨g27, hf_o26⟩ := tpo_32 hT y1
  have hI : mo_RI (-1) 0 (mo_R g27) := by have q9 := hJ; rw [hf_o26, mo_i1] at q9; exact q9
  refine lv_aload_n hx hb dX12_count_0 rfl (lv_at hl 0 rfl) ?_
  refine lv_iconst (v := 0) hx hb dX12_count_1 (by decide) ?_
  obtain ⟨o28_x0, o28_x1, o28_x7, o28_x9, o28_x10, o28_x11, o28_x12, o28_x13, o28_x14, o28_x15, o28_x16, o28_x17, o28_x18, o28_x19, o28_x20, o28_x22, o28_x25, o28_x28, o28_x29, o28_x32, o28_x33, o28_x34, o28_x35, o28_x36, o28_x37, o28_x38, o28_x47, o28_x48, hf_o28, ro28_0, ro28_1, ro28_2, ro28_3, ro28_4, ro28_5, ro28_6, ro28_7, ro28_8, ro28_9, ro28_10, ro28_11, ro28_12, ro28_13⟩ := tpo_13 hT ht_h0
  obtain ⟨q29, eq29⟩ := tp_pos (tp_in hG ht_h0 (by decide)) hf_o28
  refine va_put (D := (dC, dI)) (ci := 12) (v := .int 0) (ty := .int) (C := RX12) (T := TX12) (N := 53) hx hb hts hfX12 tyX12 tyX12_ok nmX12 hown hK hP hD hS q29 eq29 rfl 0 (by decide) (hts (.fieldLink RX12 91 "ColdShipsModel" "thrown" "I") (by decide +kernel)) (fun _ h9 => h9) rfl (by decide +kernel) rfl rfl (Nat.le_of_ble_eq_true rfl) dX12_count_2 (tp_k (.inr (12, [.int 0, .int o28_x1, .ref (ρ h0 2), .ref (ρ h0 3), .ref (ρ h0 4), .ref (ρ h0 5), .ref (ρ h0 6), .int o28_x7, .ref (ρ h0 8), .int o28_x9, .int o28_x10, .int o28_x11, .int o28_x12, .long o28_x13, .int o28_x14, .int o28_x15, .int o28_x16, .int o28_x17, .int o28_x18, .int o28_x19, .int o28_x20, .ref (ρ h0 21), .int o28_x22, .ref (ρ h0 23), .ref (ρ h0 24), .int o28_x25, .ref (ρ h0 26), .ref (ρ h0 27), .int o28_x28, .int o28_x29, .ref (ρ h0 30), .ref (ρ h0 31), .int o28_x32, .long o28_x33, .long o28_x34, .long o28_x35, .int o28_x36, .int o28_x37, .int o28_x38, .ref (ρ h0 39), .ref (ρ h0 40), .ref (ρ h0 41), .ref (ρ h0 42), .ref (ρ h0 43), .ref (ρ h0 44), .ref (ρ h0 45), .ref (ρ h0 46), .int o28_x47, .int o28_x48, .ref (ρ h0 49), .ref (ρ h0 50), .ref (ρ h0 51), .ref (ρ h0 52)])) hD (tp_in hG ht_h0 (by decide)) eq29 (fun f30 H locs hP hD hS g32 k31 => ?_))
  have hT := hT.up ht_h0 g32 k31 ⟨_, _, _, _, _, _, _, _, _, _, _, _, _, _, _, _, _, _, _, _, _, _, _, _, _, _, _, _, rfl, ro28_0, ro28_1, ro28_2, ro28_3, ro28_4, ro28_5, ro28_6, ro28_7, ro28_8, ro28_9, ro28_10, ro28_11, ro28_12, ro28_13⟩
  have hR := hR.up ht_h0 (by decide) k31
  refine lv_iload_n hx hb dX12_count_5 rfl (lv_at hl 1 rfl) ?_
  rcases zi_sw v 0 8 with h33 | h33
  · refine lv_tableOut (tgt := 121) hx hb dX12_count_6 h33 (by decide) ?_
    refine lv_iconst (v := (-1)) hx hb dX12_count_121 (by decide) ?_
    exact W.iret (v := (-1)) hx hb hr (fun t ht hW => ⟨⟨(-1), f30, rfl, ⟨hT, hR, trivial, trivial⟩, by rw [ht]; exact hP, va_K.moved hW.alike hK, hD⟩, hS.F ht⟩) hS.2.2 dX12_count_122
  · rcases (show v.toInt = 0 ∨ v.toInt = 1 ∨ v.toInt = 2 ∨ v.toInt = 3 ∨ v.toInt = 4 ∨ v.toInt = 5 ∨ v.toInt = 6 ∨ v.toInt = 7 ∨ v.toInt = 8 by omega) with h33k | h33k | h33k | h33k | h33k | h33k | h33k | h33k | h33k
    · refine lv_tableIn (tgt := 56) hx hb dX12_count_6 (by omega) (by omega) (by rw [h33k]; rfl) (by decide) ?_
      refine lv_aload_n hx hb dX12_count_56 rfl (lv_at hl 0 rfl) ?_
      obtain ⟨q34, eq34⟩ := tp_pos (tp_in hG ht_h0 (by decide)) g32
      refine va_get (D := (dC, dI)) (ci := 12) (v := .ref (ρ h0 2)) (C := RX12) (T := TX12) (N := 53) hx hb hts hfX12 hown hK hP q34 eq34 rfl 2 (by decide) (hts (.fieldLink RX12 7 "ColdShipsModel" "row" "[I") (by decide +kernel)) (fun _ h9 => h9) rfl dX12_count_57 ?_
      refine lv_bipush (v := 11) hx hb dX12_count_60 (by decide) ?_
      have hf_35 : f30 (ρ h0 2) = .inl (κ 0, 12967, .inl g27) := (k31 _ (tp_ne y1 ht_h0 (by decide))).trans hf_o26
      obtain ⟨q36, eq36⟩ := tp_pos (tp_in hG y1 (by decide)) hf_35
      refine va_iald hx hb hK hP q36 0 eq36 rfl (vp_in_iff.mpr ⟨by decide, by decide⟩) dX12_count_62 ?_
      refine lv_topi (fun z37 ez37 => ?_)
      have jz37 : z37.toInt = mo_R g27 (11) := mo_rd ez37 (show (11 : Int32).toInt = (11) from by decide)
      have kz37 := hI.k11
      exact W.iret (v := z37) hx hb hr (fun t ht hW => ⟨⟨z37, f30, rfl, ⟨hT, hR, trivial, trivial⟩, by rw [ht]; exact hP, va_K.moved hW.alike hK, hD⟩, hS.F ht⟩) hS.2.2 dX12_count_63
    · refine lv_tableIn (tgt := 64) hx hb dX12_count_6 (by omega) (by omega) (by rw [h33k]; rfl) (by decide) ?_
      refine lv_aload_n hx hb dX12_count_64 rfl (lv_at hl 0 rfl) ?_
      obtain ⟨q38, eq38⟩ := tp_pos (tp_in hG ht_h0 (by decide)) g32
      refine va_get (D := (dC, dI)) (ci := 12) (v := .ref (ρ h0 2)) (C := RX12) (T := TX12) (N := 53) hx hb hts hfX12 hown hK hP q38 eq38 rfl 2 (by decide) (hts (.fieldLink RX12 7 "ColdShipsModel" "row" "[I") (by decide +kernel)) (fun _ h9 => h9) rfl dX12_count_65 ?_
      refine lv_iconst (v := 0) hx hb dX12_count_68 (by decide) ?_
      have hf_39 : f30 (ρ h0 2) = .inl (κ 0, 12967, .inl g27) := (k31 _ (tp_ne y1 ht_h0 (by decide))).trans hf_o26
      obtain ⟨q40, eq40⟩ := tp_pos (tp_in hG y1 (by decide)) hf_39
      refine va_iald hx hb hK hP q40 0 eq40 rfl (vp_in_iff.mpr ⟨by decide, by decide⟩) dX12_count_69 ?_
      refine lv_topi (fun z41 ez41 => ?_)
      have jz41 : z41.toInt = mo_R g27 (0) := mo_rd ez41 (show (0 : Int32).toInt = (0) from by decide)
      have kz41 := hI.k0
      exact W.iret (v := z41) hx hb hr (fun t ht hW => ⟨⟨z41, f30, rfl, ⟨hT, hR, trivial, trivial⟩, by rw [ht]; exact hP, va_K.moved hW.alike hK, hD⟩, hS.F ht⟩) hS.2.2 dX12_count_70
    · refine lv_tableIn (tgt := 71) hx hb dX12_count_6 (by omega) (by omega) (by rw [h33k]; rfl) (by decide) ?_
      refine lv_aload_n hx hb dX12_count_71 rfl (lv_at hl 0 rfl) ?_
      obtain ⟨q42, eq42⟩ := tp_pos (tp_in hG ht_h0 (by decide)) g32
      refine va_get (D := (dC, dI)) (ci := 12) (v := .ref (ρ h0 2)) (C := RX12) (T := TX12) (N := 53) hx hb hts hfX12 hown hK hP q42 eq42 rfl 2 (by decide) (hts (.fieldLink RX12 7 "ColdShipsModel" "row" "[I") (by decide +kernel)) (fun _ h9 => h9) rfl dX12_count_72 ?_
      refine lv_iconst (v := 1) hx hb dX12_count_75 (by decide) ?_
      have hf_43 : f30 (ρ h0 2) = .inl (κ 0, 12967, .inl g27) := (k31 _ (tp_ne y1 ht_h0 (by decide))).trans hf_o26
      obtain ⟨q44, eq44⟩ := tp_pos (tp_in hG y1 (by decide)) hf_43
      refine va_iald hx hb hK hP q44 0 eq44 rfl (vp_in_iff.mpr ⟨by decide, by decide⟩) dX12_count_76 ?_
      refine lv_topi (fun z45 ez45 => ?_)
      have jz45 : z45.toInt = mo_R g27 (1) := mo_rd ez45 (show (1 : Int32).toInt = (1) from by decide)
      have kz45 := hI.k1
      exact W.iret (v := z45) hx hb hr (fun t ht hW => ⟨⟨z45, f30, rfl, ⟨hT, hR, trivial, trivial⟩, by rw [ht]; exact hP, va_K.moved hW.alike hK, hD⟩, hS.F ht⟩) hS.2.2 dX12_count_77
    · refine lv_tableIn (tgt := 78) hx hb dX12_count_6 (by omega) (by omega) (by rw [h33k]; rfl) (by decide) ?_
      refine lv_aload_n hx hb dX12_count_78 rfl (lv_at hl 0 rfl) ?_
      obtain ⟨q46, eq46⟩ := tp_pos (tp_in hG ht_h0 (by decide)) g32
      refine va_get (D := (dC, dI)) (ci := 12) (v := .ref (ρ h0 2)) (C := RX12) (T := TX12) (N := 53) hx hb hts hfX12 hown hK hP q46 eq46 rfl 2 (by decide) (hts (.fieldLink RX12 7 "ColdShipsModel" "row" "[I") (by decide +kernel)) (fun _ h9 => h9) rfl dX12_count_79 ?_
      refine lv_iconst (v := 2) hx hb dX12_count_82 (by decide) ?_
      have hf_47 : f30 (ρ h0 2) = .inl (κ 0, 12967, .inl g27) := (k31 _ (tp_ne y1 ht_h0 (by decide))).trans hf_o26
      obtain ⟨q48, eq48⟩ := tp_pos (tp_in hG y1 (by decide)) hf_47
      refine va_iald hx hb hK hP q48 0 eq48 rfl (vp_in_iff.mpr ⟨by decide, by decide⟩) dX12_count_83 ?_
      refine lv_topi (fun z49 ez49 => ?_)
      have jz49 : z49.toInt = mo_R g27 (2) := mo_rd ez49 (show (2 : Int32).toInt = (2) from by decide)
      have kz49 := hI.k2
      exact W.iret (v := z49) hx hb hr (fun t ht hW => ⟨⟨z49, f30, rfl, ⟨hT, hR, trivial, trivial⟩, by rw [ht]; exact hP, va_K.moved hW.alike hK, hD⟩, hS.F ht⟩) hS.2.2 dX12_count_84
    · refine lv_tableIn (tgt := 85) hx hb dX12_count_6 (by omega) (by omega) (by rw [h33k]; rfl) (by decide) ?_
      refine lv_aload_n hx hb dX12_count_85 rfl (lv_at hl 0 rfl) ?_
      obtain ⟨q50, eq50⟩ := tp_pos (tp_in hG ht_h0 (by decide)) g32
      refine va_get (D := (dC, dI)) (ci := 12) (v := .ref (ρ h0 2)) (C := RX12) (T := TX12) (N := 53) hx hb hts hfX12 hown hK hP q50 eq50 rfl 2 (by decide) (hts (.fieldLink RX12 7 "ColdShipsModel" "row" "[I") (by decide +kernel)) (fun _ h9 => h9) rfl dX12_count_86 ?_
      refine lv_iconst (v := 5) hx hb dX12_count_89 (by decide) ?_
      have hf_51 : f30 (ρ h0 2) = .inl (κ 0, 12967, .inl g27) := (k31 _ (tp_ne y1 ht_h0 (by decide))).trans hf_o26
      obtain ⟨q52, eq52⟩ := tp_pos (tp_in hG y1 (by decide)) hf_51
      refine va_iald hx hb hK hP q52 0 eq52 rfl (vp_in_iff.mpr ⟨by decide, by decide⟩) dX12_count_90 ?_
      refine lv_topi (fun z53 ez53 => ?_)
      have jz53 : z53.toInt = mo_R g27 (5) := mo_rd ez53 (show (5 : Int32).toInt = (5) from by decide)
      have kz53 := hI.k5
      exact W.iret (v := z53) hx hb hr (fun t ht hW => ⟨⟨z53, f30, rfl, ⟨hT, hR, trivial, trivial⟩, by rw [ht]; exact hP, va_K.moved hW.alike hK, hD⟩, hS.F ht⟩) hS.2.2 dX12_count_91
    · refine lv_tableIn (tgt := 92) hx hb dX12_count_6 (by omega) (by omega) (by rw [h33k]; rfl) (by decide) ?_
      refine lv_aload_n hx hb dX12_count_92 rfl (lv_at hl 0 rfl) ?_
      obtain ⟨q54, eq54⟩ := tp_pos (tp_in hG ht_h0 (by decide)) g32
      refine va_get (D := (dC, dI)) (ci := 12) (v := .ref (ρ h0 2)) (C := RX12) (T := TX12) (N := 53) hx hb hts hfX12 hown hK hP q54 eq54 rfl 2 (by decide) (hts (.fieldLink RX12 7 "ColdShipsModel" "row" "[I") (by decide +kernel)) (fun _ h9 => h9) rfl dX12_count_93 ?_
      refine lv_bipush (v := 8) hx hb dX12_count_96 (by decide) ?_
      have hf_55 : f30 (ρ h0 2) = .inl (κ 0, 12967, .inl g27) := (k31 _ (tp_ne y1 ht_h0 (by decide))).trans hf_o26
      obtain ⟨q56, eq56⟩ := tp_pos (tp_in hG y1 (by decide)) hf_55
      refine va_iald hx hb hK hP q56 0 eq56 rfl (vp_in_iff.mpr ⟨by decide, by decide⟩) dX12_count_98 ?_
      refine lv_topi (fun z57 ez57 => ?_)
      have jz57 : z57.toInt = mo_R g27 (8) := mo_rd ez57 (show (8 : Int32).toInt = (8) from by decide)
      have kz57 := hI.k8
      exact W.iret (v := z57) hx hb hr (fun t ht hW => ⟨⟨z57, f30, rfl, ⟨hT, hR, trivial, trivial⟩, by rw [ht]; exact hP, va_K.moved hW.alike hK, hD⟩, hS.F ht⟩) hS.2.2 dX12_count_99
    · refine lv_tableIn (tgt := 100) hx hb dX12_count_6 (by omega) (by omega) (by rw [h33k]; rfl) (by decide) ?_
      refine lv_aload_n hx hb dX12_count_100 rfl (lv_at hl 0 rfl) ?_
      obtain ⟨q58, eq58⟩ := tp_pos (tp_in hG ht_h0 (by decide)) g32
      refine va_get (D := (dC, dI)) (ci := 12) (v := .ref (ρ h0 2)) (C := RX12) (T := TX12) (N := 53) hx hb hts hfX12 hown hK hP q58 eq58 rfl 2 (by decide) (hts (.fieldLink RX12 7 "ColdShipsModel" "row" "[I") (by decide +kernel)) (fun _ h9 => h9) rfl dX12_count_101 ?_
      refine lv_bipush (v := 10) hx hb dX12_count_104 (by decide) ?_
      have hf_59 : f30 (ρ h0 2) = .inl (κ 0, 12967, .inl g27) := (k31 _ (tp_ne y1 ht_h0 (by decide))).trans hf_o26
      obtain ⟨q60, eq60⟩ := tp_pos (tp_in hG y1 (by decide)) hf_59
      refine va_iald hx hb hK hP q60 0 eq60 rfl (vp_in_iff.mpr ⟨by decide, by decide⟩) dX12_count_106 ?_
      refine lv_topi (fun z61 ez61 => ?_)
      have jz61 : z61.toInt = mo_R g27 (10) := mo_rd ez61 (show (10 : Int32).toInt = (10) from by decide)
      have kz61 := hI.k10
      exact W.iret (v := z61) hx hb hr (fun t ht hW => ⟨⟨z61, f30, rfl, ⟨hT, hR, trivial, trivial⟩, by rw [ht]; exact hP, va_K.moved hW.alike hK, hD⟩, hS.F ht⟩) hS.2.2 dX12_count_107
    · refine lv_tableIn (tgt := 108) hx hb dX12_count_6 (by omega) (by omega) (by rw [h33k]; rfl) (by decide) ?_
      refine lv_aload_n hx hb dX12_count_108 rfl (lv_at hl 0 rfl) ?_
      obtain ⟨q62, eq62⟩ := tp_pos (tp_in hG ht_h0 (by decide)) g32
      refine va_get (D := (dC, dI)) (ci := 12) (v := .ref (ρ h0 2)) (C := RX12) (T := TX12) (N := 53) hx hb hts hfX12 hown hK hP q62 eq62 rfl 2 (by decide) (hts (.fieldLink RX12 7 "ColdShipsModel" "row" "[I") (by decide +kernel)) (fun _ h9 => h9) rfl dX12_count_109 ?_
      refine lv_bipush (v := 9) hx hb dX12_count_112 (by decide) ?_
      have hf_63 : f30 (ρ h0 2) = .inl (κ 0, 12967, .inl g27) := (k31 _ (tp_ne y1 ht_h0 (by decide))).trans hf_o26
      obtain ⟨q64, eq64⟩ := tp_pos (tp_in hG y1 (by decide)) hf_63
      refine va_iald hx hb hK hP q64 0 eq64 rfl (vp_in_iff.mpr ⟨by decide, by decide⟩) dX12_count_114 ?_
      refine lv_topi (fun z65 ez65 => ?_)
      have jz65 : z65.toInt = mo_R g27 (9) := mo_rd ez65 (show (9 : Int32).toInt = (9) from by decide)
      have kz65 := hI.k9
      exact W.iret (v := z65) hx hb hr (fun t ht hW => ⟨⟨z65, f30, rfl, ⟨hT, hR, trivial, trivial⟩, by rw [ht]; exact hP, va_K.moved hW.alike hK, hD⟩, hS.F ht⟩) hS.2.2 dX12_count_115
    · refine lv_tableIn (tgt := 116) hx hb dX12_count_6 (by omega) (by omega) (by rw [h33k]; rfl) (by decide) ?_
      refine lv_aload_n hx hb dX12_count_116 rfl (lv_at hl 0 rfl) ?_
      obtain ⟨q66, eq66⟩ := tp_pos (tp_in hG ht_h0 (by decide)) g32
      refine va_get (D := (dC, dI)) (ci := 12) (v := .int o28_x9) (C := RX12) (T := TX12) (N := 53) hx hb hts hfX12 hown hK hP q66 eq66 rfl 9 (by decide) (hts (.fieldLink RX12 252 "ColdShipsModel" "taped" "I") (by decide +kernel)) (fun _ h9 => h9) rfl dX12_count_117 ?_
      exact W.iret (v := o28_x9) hx hb hr (fun t ht hW => ⟨⟨o28_x9, f30, rfl, ⟨hT, hR, trivial, trivial⟩, by rw [ht]; exact hP, va_K.moved hW.alike hK, hD⟩, hS.F ht⟩) hS.2.2 dX12_count_120
set_option maxHeartbeats 4000000 in
set_option maxRecDepth 100000 in
theorem t_X12_status (l : Launch) (dC : Nat → ClassId) (dI : Nat → Nat → Nat) (sz : Nat) (κ : Nat → ClassId) (τ ν : Nat → Nat) (ρ : Nat → Nat → Nat) (L : List Nat) (f : Nat → va_E) (hG : tp_G τ ν ρ L) (hT : tp_T (mo_O κ) κ τ ν ρ f) (h0 : Nat) (ht_h0 : τ h0 = 13) (hJ : mo_RI (-1) 0 (mo_R (mo_i (f (ρ h0 2))))) : Met l yX12_status wsX12_status ({ frames := 2, cells := 0, slots := 0, locals := 400 }) (va_Pc [.ref h0] (pz_B dC dI (tp_K κ) (va_pl L f) sz)) (va_Qi (fun (r : Int32) (f1 : Nat → va_E) => tp_T (mo_O κ) κ τ ν ρ f1 ∧ tp_F τ [13] f f1 ∧ True ∧ True) (fun (f1 : Nat → va_E) (t : State) => pz_E dC dI (tp_K κ) (va_A (va_pl L f) sz) (va_pl L f1) t) (va_A (va_pl L f) sz)) 0 0 (va_A (va_pl L f) sz) := by
  refine Met.ofW (cc := cX12_status) (maxL := 1) (ret := some .int) (by decide) rfl ?_
  intro p e s m args below meth c s₁ B hml hv
  obtain ⟨rfl, hsz, hP, hK, hD0, hN⟩ := hv
  have hx := B.exec
  have hb := B.bytes
  have hr := B.returns
  have hts := atoms_spec (ws := wsX12_status) B.pre
  have hown : s.vm.findClass RX12 = some m.cls := findClass_of_methodNamed B.named
  have hlocks := B.notSynchronized
  subst hsz
  have hD := hD0.self (sz := s.heap.size)
  generalize hAe : va_A (va_pl L f) s.heap.size = A at hD ⊢
  have hA : ∀ q : Nat, s.heap.size ≤ q → A q := fun q h => by rw [← hAe]; exact Or.inr h
  have hS : va_S A s.heap s.heap [] := va_S.rf
  have hR : tp_F τ [13] f f := tp_F.rf
  have hl := lv_entry ([.ref h0]) (n := 1) (Nat.le_of_ble_eq_true rfl)
  rw [lg_entry_eq]
  generalize (lg_sl ([.ref h0]) ++ List.replicate (1 - (lg_sl ([.ref h0])).length) Slot.unset).toArray = ls at hl ⊢
  have hl : lv_has ls 1 [(0, .ref h0)] := hl
  have hfX12 : ∀ w ∈ wsX120, w ∈ wsX12_status := fun w h => List.mem_cons_of_mem _ (List.mem_append_right _ h)
  obtain ⟨y1, y2, y3, y4, y5, y6, y7, y8, y9, y10, y11, y12, y13, y14, y15, y16, y17, y18, y19, y20, y21, y22, y23, y24, y25⟩ := tpg_13 hG ht_h0
  obtain ⟨g27, hf_o26⟩ := tpo_32 hT y1
  have hI : mo_RI (-1) 0 (mo_R g27) := by have q9 := hJ; rw [hf_o26, mo_i1] at q9; exact q9
  refine lv_aload_n hx hb dX12_status_0 rfl (lv_at hl 0 rfl) ?_
  refine lv_iconst (v := 0) hx hb dX12_status_1 (by decide) ?_
  obtain ⟨o28_x0, o28_x1, o28_x7, o28_x9, o28_x10, o28_x11, o28_x12, o28_x13, o28_x14, o28_x15, o28_x16, o28_x17, o28_x18, o28_x19, o28_x20, o28_x22, o28_x25, o28_x28, o28_x29, o28_x32, o28_x33, o28_x34, o28_x35, o28_x36, o28_x37, o28_x38, o28_x47, o28_x48, hf_o28, ro28_0, ro28_1, ro28_2, ro28_3, ro28_4, ro28_5, ro28_6, ro28_7, ro28_8, ro28_9, ro28_10, ro28_11, ro28_12, ro28_13⟩ := tpo_13 hT ht_h0
  obtain ⟨q29, eq29⟩ := tp_pos (tp_in hG ht_h0 (by decide)) hf_o28
  refine va_put (D := (dC, dI)) (ci := 12) (v := .int 0) (ty := .int) (C := RX12) (T := TX12) (N := 53) hx hb hts hfX12 tyX12 tyX12_ok nmX12 hown hK hP hD hS q29 eq29 rfl 0 (by decide) (hts (.fieldLink RX12 91 "ColdShipsModel" "thrown" "I") (by decide +kernel)) (fun _ h9 => h9) rfl (by decide +kernel) rfl rfl (Nat.le_of_ble_eq_true rfl) dX12_status_2 (tp_k (.inr (12, [.int 0, .int o28_x1, .ref (ρ h0 2), .ref (ρ h0 3), .ref (ρ h0 4), .ref (ρ h0 5), .ref (ρ h0 6), .int o28_x7, .ref (ρ h0 8), .int o28_x9, .int o28_x10, .int o28_x11, .int o28_x12, .long o28_x13, .int o28_x14, .int o28_x15, .int o28_x16, .int o28_x17, .int o28_x18, .int o28_x19, .int o28_x20, .ref (ρ h0 21), .int o28_x22, .ref (ρ h0 23), .ref (ρ h0 24), .int o28_x25, .ref (ρ h0 26), .ref (ρ h0 27), .int o28_x28, .int o28_x29, .ref (ρ h0 30), .ref (ρ h0 31), .int o28_x32, .long o28_x33, .long o28_x34, .long o28_x35, .int o28_x36, .int o28_x37, .int o28_x38, .ref (ρ h0 39), .ref (ρ h0 40), .ref (ρ h0 41), .ref (ρ h0 42), .ref (ρ h0 43), .ref (ρ h0 44), .ref (ρ h0 45), .ref (ρ h0 46), .int o28_x47, .int o28_x48, .ref (ρ h0 49), .ref (ρ h0 50), .ref (ρ h0 51), .ref (ρ h0 52)])) hD (tp_in hG ht_h0 (by decide)) eq29 (fun f30 H locs hP hD hS g32 k31 => ?_))
  have hT := hT.up ht_h0 g32 k31 ⟨_, _, _, _, _, _, _, _, _, _, _, _, _, _, _, _, _, _, _, _, _, _, _, _, _, _, _, _, rfl, ro28_0, ro28_1, ro28_2, ro28_3, ro28_4, ro28_5, ro28_6, ro28_7, ro28_8, ro28_9, ro28_10, ro28_11, ro28_12, ro28_13⟩
  have hR := hR.up ht_h0 (by decide) k31
  refine lv_aload_n hx hb dX12_status_5 rfl (lv_at hl 0 rfl) ?_
  obtain ⟨q33, eq33⟩ := tp_pos (tp_in hG ht_h0 (by decide)) g32
  refine va_get (D := (dC, dI)) (ci := 12) (v := .int o28_x1) (C := RX12) (T := TX12) (N := 53) hx hb hts hfX12 hown hK hP q33 eq33 rfl 1 (by decide) (hts (.fieldLink RX12 94 "ColdShipsModel" "status" "I") (by decide +kernel)) (fun _ h9 => h9) rfl dX12_status_6 ?_
  exact W.iret (v := o28_x1) hx hb hr (fun t ht hW => ⟨⟨o28_x1, f30, rfl, ⟨hT, hR, trivial, trivial⟩, by rw [ht]; exact hP, va_K.moved hW.alike hK, hD⟩, hS.F ht⟩) hS.2.2 dX12_status_9
set_option maxHeartbeats 4000000 in
set_option maxRecDepth 100000 in
theorem t_X12_table (l : Launch) (dC : Nat → ClassId) (dI : Nat → Nat → Nat) (sz : Nat) (κ : Nat → ClassId) (τ ν : Nat → Nat) (ρ : Nat → Nat → Nat) (L : List Nat) (f : Nat → va_E) (hG : tp_G τ ν ρ L) (hT : tp_T (mo_O κ) κ τ ν ρ f) (h0 : Nat) (v : Int32) (u : Int32) (a : Int32) (a4 : Int32) (ht_h0 : τ h0 = 13) (hJ : mo_RI (-1) 0 (mo_R (mo_i (f (ρ h0 2))))) : Met l yX12_table wsX12_table ({ frames := 4, cells := 0, slots := 0, locals := 1200 }) (va_Pc [.ref h0, .int v, .int u, .int a, .int a4] (pz_B dC dI (tp_K κ) (va_pl L f) sz)) (va_Qi (fun (r : Int32) (f1 : Nat → va_E) => tp_T (mo_O κ) κ τ ν ρ f1 ∧ tp_F τ [13, 32] f f1 ∧ True ∧ mo_RI (-1) 0 (mo_R (mo_i (f1 (ρ h0 2))))) (fun (f1 : Nat → va_E) (t : State) => pz_E dC dI (tp_K κ) (va_A (va_pl L f) sz) (va_pl L f1) t) (va_A (va_pl L f) sz)) 0 0 (va_A (va_pl L f) sz) := by
  refine Met.ofW (cc := cX12_table) (maxL := 6) (ret := some .int) (by decide) rfl ?_
  intro p e s m args below meth c s₁ B hml hv
  obtain ⟨rfl, hsz, hP, hK, hD0, hN⟩ := hv
  have hx := B.exec
  have hb := B.bytes
  have hr := B.returns
  have hts := atoms_spec (ws := wsX12_table) B.pre
  have hown : s.vm.findClass RX12 = some m.cls := findClass_of_methodNamed B.named
  have hlocks := B.notSynchronized
  subst hsz
  have hD := hD0.self (sz := s.heap.size)
  generalize hAe : va_A (va_pl L f) s.heap.size = A at hD ⊢
  have hA : ∀ q : Nat, s.heap.size ≤ q → A q := fun q h => by rw [← hAe]; exact Or.inr h
  have hS : va_S A s.heap s.heap [] := va_S.rf
  have hR : tp_F τ [13, 32] f f := tp_F.rf
  have hl := lv_entry ([.ref h0, .int v, .int u, .int a, .int a4]) (n := 6) (Nat.le_of_ble_eq_true rfl)
  rw [lg_entry_eq]
  generalize (lg_sl ([.ref h0, .int v, .int u, .int a, .int a4]) ++ List.replicate (6 - (lg_sl ([.ref h0, .int v, .int u, .int a, .int a4])).length) Slot.unset).toArray = ls at hl ⊢
  have hl : lv_has ls 6 [(0, .ref h0), (1, .int v), (2, .int u), (3, .int a), (4, .int a4)] := hl
  have hfX12 : ∀ w ∈ wsX120, w ∈ wsX12_table := fun w h => List.mem_cons_of_mem _ (List.mem_append_right _ h)
  obtain ⟨y1, y2, y3, y4, y5, y6, y7, y8, y9, y10, y11, y12, y13, y14, y15, y16, y17, y18, y19, y20, y21, y22, y23, y24, y25⟩ := tpg_13 hG ht_h0
  obtain ⟨g27, hf_o26⟩ := tpo_32 hT y1
  have hI : mo_RI (-1) 0 (mo_R g27) := by have q9 := hJ; rw [hf_o26, mo_i1] at q9; exact q9
  refine lv_aload_n hx hb dX12_table_0 rfl (lv_at hl 0 rfl) ?_
  refine lv_iconst (v := 0) hx hb dX12_table_1 (by decide) ?_
  obtain ⟨o28_x0, o28_x1, o28_x7, o28_x9, o28_x10, o28_x11, o28_x12, o28_x13, o28_x14, o28_x15, o28_x16, o28_x17, o28_x18, o28_x19, o28_x20, o28_x22, o28_x25, o28_x28, o28_x29, o28_x32, o28_x33, o28_x34, o28_x35, o28_x36, o28_x37, o28_x38, o28_x47, o28_x48, hf_o28, ro28_0, ro28_1, ro28_2, ro28_3, ro28_4, ro28_5, ro28_6, ro28_7, ro28_8, ro28_9, ro28_10, ro28_11, ro28_12, ro28_13⟩ := tpo_13 hT ht_h0
  obtain ⟨q29, eq29⟩ := tp_pos (tp_in hG ht_h0 (by decide)) hf_o28
  refine va_put (D := (dC, dI)) (ci := 12) (v := .int 0) (ty := .int) (C := RX12) (T := TX12) (N := 53) hx hb hts hfX12 tyX12 tyX12_ok nmX12 hown hK hP hD hS q29 eq29 rfl 0 (by decide) (hts (.fieldLink RX12 91 "ColdShipsModel" "thrown" "I") (by decide +kernel)) (fun _ h9 => h9) rfl (by decide +kernel) rfl rfl (Nat.le_of_ble_eq_true rfl) dX12_table_2 (tp_k (.inr (12, [.int 0, .int o28_x1, .ref (ρ h0 2), .ref (ρ h0 3), .ref (ρ h0 4), .ref (ρ h0 5), .ref (ρ h0 6), .int o28_x7, .ref (ρ h0 8), .int o28_x9, .int o28_x10, .int o28_x11, .int o28_x12, .long o28_x13, .int o28_x14, .int o28_x15, .int o28_x16, .int o28_x17, .int o28_x18, .int o28_x19, .int o28_x20, .ref (ρ h0 21), .int o28_x22, .ref (ρ h0 23), .ref (ρ h0 24), .int o28_x25, .ref (ρ h0 26), .ref (ρ h0 27), .int o28_x28, .int o28_x29, .ref (ρ h0 30), .ref (ρ h0 31), .int o28_x32, .long o28_x33, .long o28_x34, .long o28_x35, .int o28_x36, .int o28_x37, .int o28_x38, .ref (ρ h0 39), .ref (ρ h0 40), .ref (ρ h0 41), .ref (ρ h0 42), .ref (ρ h0 43), .ref (ρ h0 44), .ref (ρ h0 45), .ref (ρ h0 46), .int o28_x47, .int o28_x48, .ref (ρ h0 49), .ref (ρ h0 50), .ref (ρ h0 51), .ref (ρ h0 52)])) hD (tp_in hG ht_h0 (by decide)) eq29 (fun f30 H locs hP hD hS g32 k31 => ?_))
  have hT := hT.up ht_h0 g32 k31 ⟨_, _, _, _, _, _, _, _, _, _, _, _, _, _, _, _, _, _, _, _, _, _, _, _, _, _, _, _, rfl, ro28_0, ro28_1, ro28_2, ro28_3, ro28_4, ro28_5, ro28_6, ro28_7, ro28_8, ro28_9, ro28_10, ro28_11, ro28_12, ro28_13⟩
  have hR := hR.up ht_h0 (by decide) k31
  refine lv_iload_n hx hb dX12_table_5 rfl (lv_at hl 2 rfl) ?_
  refine lv_i2l hx hb dX12_table_6 rfl ?_
  refine lv_lconst (v := 0) hx hb dX12_table_7 (by decide) ?_
  refine lv_ldc2 (own := RX12) (v := 3) hx hb hown (hts (.constantLong RX12 152 (3)) (by decide +kernel)) dX12_table_8 ?_
  have hf_33 : f30 (ρ h0 2) = .inl (κ 0, 12967, .inl g27) := (k31 _ (tp_ne y1 ht_h0 (by decide))).trans hf_o26
  refine pz_calli (va_runS (As := [.long u.toInt64, .long 0, .long 3]) (rest := []) ⟨hx, hb, hml, hown, hts⟩ (t_X12_in l dC dI _ u.toInt64 (0) (3) (u.toInt) (0) (3) (Int32.toInt_toInt64 u) rfl rfl) (va_cwS 3 hts gX12_table_X12_in rfl rfl rfl (by decide +kernel) ⟨Nat.le_of_ble_eq_true rfl, Nat.le_of_ble_eq_true rfl⟩) ⟨pz_blind, pz_pre pz_P0 (hK.sub (tys' := []) [] rfl) (pz_D0 (A := fun _ => True)) hN⟩ rfl rfl hl.1 rfl (lv_room (Nat.le_of_ble_eq_true rfl)) dX12_table_11 ⟨Nat.le_of_ble_eq_true rfl, Nat.le_of_ble_eq_true rfl⟩) (fun r34 hw35 => ?_)
  obtain ⟨hw35r, hw35p⟩ := hw35
  refine lv_if_eq (tgt := 42) hx hb dX12_table_14 (by decide) (fun c36 => ?_) (fun c36 => ?_)
  · have ic36 : r34.toInt = 0 := zi_eq rfl rfl c36
    refine lv_aload_n hx hb dX12_table_42 rfl (lv_at hl 0 rfl) ?_
    refine lv_iconst (v := (-1)) hx hb dX12_table_43 (by decide) ?_
    obtain ⟨q37, eq37⟩ := tp_pos (tp_in hG ht_h0 (by decide)) g32
    have hFc := tp_fr hD hS hA
    refine va_calli (va_runV (As := [.int (-1)]) (rest := []) ⟨hx, hb, hml, hown, hts⟩ (t_X12_told l dC dI _ κ τ ν ρ L f30 hG hT h0 ((-1)) ht_h0) (cwV 1 hts gX12_table_X12_told rfl rfl rfl (by decide +kernel) ⟨Nat.le_of_ble_eq_true rfl, Nat.le_of_ble_eq_true rfl⟩) ⟨pz_blind, va_recv hK hP (ci := 12) (q0 := q37) rfl eq37, pz_pre hP hK hD hN⟩ rfl rfl hl.1 rfl (lv_room (Nat.le_of_ble_eq_true rfl)) dX12_table_44 ⟨Nat.le_of_ble_eq_true rfl, Nat.le_of_ble_eq_true rfl⟩) hS (fun q _ h => hFc q h) hFc (fun r38 f40 t H1 locs ht hvm hw39 hB hz1 hk1 hS => ?_)
    obtain ⟨hT, hF41, hw39r, hw39p⟩ := hw39
    have hR := hR.then hF41 (by decide)
    have hP := hB.1; rw [ht] at hP; have hD := tp_ad f40 hD; clear hB hFc hz1 hk1; subst ht; generalize t.heap = H at hP hS ⊢
    have hw39pq : r38.toInt = (-1) := by rw [hw39p]; rfl
    have hf_42 : f40 (ρ h0 2) = .inl (κ 0, 12967, .inl g27) := (hF41 _ (by rw [y1]; decide)).trans hf_33
    exact W.iret (v := r38) hx hb hr (fun t ht hW => ⟨⟨r38, f40, rfl, ⟨hT, hR, trivial, (by rw [hf_42, mo_i1]; exact hI)⟩, by rw [ht]; exact hP, va_K.moved hW.alike hK, hD⟩, hS.F ht⟩) hS.2.2 dX12_table_47
  · have ic36 : r34.toInt ≠ 0 := zi_eqf rfl rfl c36
    have p43 : (0) ≤ (u.toInt) ∧ (u.toInt) ≤ (3) := (tp_cond.yes hw35p) (by omega)
    refine lv_iload_n hx hb dX12_table_17 rfl (lv_at hl 3 rfl) ?_
    refine lv_i2l hx hb dX12_table_18 rfl ?_
    refine lv_lconst (v := 0) hx hb dX12_table_19 (by decide) ?_
    refine lv_ldc2 (own := RX12) (v := 5000) hx hb hown (hts (.constantLong RX12 481 (5000)) (by decide +kernel)) dX12_table_20 ?_
    refine pz_calli (va_runS (As := [.long a.toInt64, .long 0, .long 5000]) (rest := []) ⟨hx, hb, hml, hown, hts⟩ (t_X12_in l dC dI _ a.toInt64 (0) (5000) (a.toInt) (0) (5000) (Int32.toInt_toInt64 a) rfl rfl) (va_cwS 3 hts gX12_table_X12_in rfl rfl rfl (by decide +kernel) ⟨Nat.le_of_ble_eq_true rfl, Nat.le_of_ble_eq_true rfl⟩) ⟨pz_blind, pz_pre pz_P0 (hK.sub (tys' := []) [] rfl) (pz_D0 (A := fun _ => True)) hN⟩ rfl rfl hl.1 rfl (lv_room (Nat.le_of_ble_eq_true rfl)) dX12_table_23 ⟨Nat.le_of_ble_eq_true rfl, Nat.le_of_ble_eq_true rfl⟩) (fun r44 hw45 => ?_)
    obtain ⟨hw45r, hw45p⟩ := hw45
    refine lv_if_eq (tgt := 42) hx hb dX12_table_26 (by decide) (fun c46 => ?_) (fun c46 => ?_)
    · have ic46 : r44.toInt = 0 := zi_eq rfl rfl c46
      refine lv_aload_n hx hb dX12_table_42 rfl (lv_at hl 0 rfl) ?_
      refine lv_iconst (v := (-1)) hx hb dX12_table_43 (by decide) ?_
      obtain ⟨q47, eq47⟩ := tp_pos (tp_in hG ht_h0 (by decide)) g32
      have hFc := tp_fr hD hS hA
      refine va_calli (va_runV (As := [.int (-1)]) (rest := []) ⟨hx, hb, hml, hown, hts⟩ (t_X12_told l dC dI _ κ τ ν ρ L f30 hG hT h0 ((-1)) ht_h0) (cwV 1 hts gX12_table_X12_told rfl rfl rfl (by decide +kernel) ⟨Nat.le_of_ble_eq_true rfl, Nat.le_of_ble_eq_true rfl⟩) ⟨pz_blind, va_recv hK hP (ci := 12) (q0 := q47) rfl eq47, pz_pre hP hK hD hN⟩ rfl rfl hl.1 rfl (lv_room (Nat.le_of_ble_eq_true rfl)) dX12_table_44 ⟨Nat.le_of_ble_eq_true rfl, Nat.le_of_ble_eq_true rfl⟩) hS (fun q _ h => hFc q h) hFc (fun r48 f50 t H1 locs ht hvm hw49 hB hz1 hk1 hS => ?_)
      obtain ⟨hT, hF51, hw49r, hw49p⟩ := hw49
      have hR := hR.then hF51 (by decide)
      have hP := hB.1; rw [ht] at hP; have hD := tp_ad f50 hD; clear hB hFc hz1 hk1; subst ht; generalize t.heap = H at hP hS ⊢
      have hw49pq : r48.toInt = (-1) := by rw [hw49p]; rfl
      have hf_52 : f50 (ρ h0 2) = .inl (κ 0, 12967, .inl g27) := (hF51 _ (by rw [y1]; decide)).trans hf_33
      exact W.iret (v := r48) hx hb hr (fun t ht hW => ⟨⟨r48, f50, rfl, ⟨hT, hR, trivial, (by rw [hf_52, mo_i1]; exact hI)⟩, by rw [ht]; exact hP, va_K.moved hW.alike hK, hD⟩, hS.F ht⟩) hS.2.2 dX12_table_47
    · have ic46 : r44.toInt ≠ 0 := zi_eqf rfl rfl c46
      have p53 : (0) ≤ (a.toInt) ∧ (a.toInt) ≤ (5000) := (tp_cond.yes hw45p) (by omega)
      refine lv_iload hx hb dX12_table_29 (lv_at hl 4 rfl) ?_
      refine lv_i2l hx hb dX12_table_31 rfl ?_
      refine lv_lconst (v := 0) hx hb dX12_table_32 (by decide) ?_
      refine lv_ldc2 (own := RX12) (v := 200000) hx hb hown (hts (.constantLong RX12 124 (200000)) (by decide +kernel)) dX12_table_33 ?_
      refine pz_calli (va_runS (As := [.long a4.toInt64, .long 0, .long 200000]) (rest := []) ⟨hx, hb, hml, hown, hts⟩ (t_X12_in l dC dI _ a4.toInt64 (0) (200000) (a4.toInt) (0) (200000) (Int32.toInt_toInt64 a4) rfl rfl) (va_cwS 3 hts gX12_table_X12_in rfl rfl rfl (by decide +kernel) ⟨Nat.le_of_ble_eq_true rfl, Nat.le_of_ble_eq_true rfl⟩) ⟨pz_blind, pz_pre pz_P0 (hK.sub (tys' := []) [] rfl) (pz_D0 (A := fun _ => True)) hN⟩ rfl rfl hl.1 rfl (lv_room (Nat.le_of_ble_eq_true rfl)) dX12_table_36 ⟨Nat.le_of_ble_eq_true rfl, Nat.le_of_ble_eq_true rfl⟩) (fun r54 hw55 => ?_)
      obtain ⟨hw55r, hw55p⟩ := hw55
      refine lv_if_ne (tgt := 48) hx hb dX12_table_39 (by decide) (fun c56 => ?_) (fun c56 => ?_)
      · have ic56 : r54.toInt ≠ 0 := zi_ne rfl rfl c56
        have p57 : (0) ≤ (a4.toInt) ∧ (a4.toInt) ≤ (200000) := (tp_cond.yes hw55p) (by omega)
        refine lv_aload_n hx hb dX12_table_48 rfl (lv_at hl 0 rfl) ?_
        refine lv_iload_n hx hb dX12_table_49 rfl (lv_at hl 1 rfl) ?_
        obtain ⟨q58, eq58⟩ := tp_pos (tp_in hG ht_h0 (by decide)) g32
        refine pz_calli (va_runV (As := [.int v]) (rest := []) ⟨hx, hb, hml, hown, hts⟩ (t_X12_isShip l dC dI _ κ τ ν ρ L f30 hG hT h0 v (-1) 0 ht_h0 (by rw [hf_33, mo_i1]; exact hI)) (cwV 1 hts gX12_table_X12_isShip rfl rfl rfl (by decide +kernel) ⟨Nat.le_of_ble_eq_true rfl, Nat.le_of_ble_eq_true rfl⟩) ⟨pz_blind, va_recv hK hP (ci := 12) (q0 := q58) rfl eq58, pz_pre hP hK hD hN⟩ rfl rfl hl.1 rfl (lv_room (Nat.le_of_ble_eq_true rfl)) dX12_table_50 ⟨Nat.le_of_ble_eq_true rfl, Nat.le_of_ble_eq_true rfl⟩) (fun r59 hw60 => ?_)
        obtain ⟨hw60r, hw60p⟩ := hw60
        have := hI.k1
        rw [hf_33, mo_i1] at hw60p
        refine lv_if_ne (tgt := 63) hx hb dX12_table_53 (by decide) (fun c61 => ?_) (fun c61 => ?_)
        · have ic61 : r59.toInt ≠ 0 := zi_ne rfl rfl c61
          have p62 : 0 ≤ v.toInt ∧ v.toInt < mo_R g27 1 := (tp_cond.yes hw60p) (by omega)
          refine lv_iload_n hx hb dX12_table_63 rfl (lv_at hl 1 rfl) ?_
          refine pz_calli (va_runS (As := [.int v]) (rest := []) ⟨hx, hb, hml, hown, hts⟩ (t_X12_shipAt l dC dI _ v (v.toInt) (by omega) rfl) (va_cwS 1 hts gX12_table_X12_shipAt rfl rfl rfl (by decide +kernel) ⟨Nat.le_of_ble_eq_true rfl, Nat.le_of_ble_eq_true rfl⟩) ⟨pz_blind, pz_pre pz_P0 (hK.sub (tys' := []) [] rfl) (pz_D0 (A := fun _ => True)) hN⟩ rfl rfl hl.1 rfl (lv_room (Nat.le_of_ble_eq_true rfl)) dX12_table_64 ⟨Nat.le_of_ble_eq_true rfl, Nat.le_of_ble_eq_true rfl⟩) (fun r63 hw64 => ?_)
          obtain ⟨hw64r, hw64p⟩ := hw64
          refine lv_bipush (v := 32) hx hb dX12_table_67 (by decide) ?_
          refine lv_iadd hx hb dX12_table_69 ?_
          refine lv_topi (fun z65 ez65 => ?_)
          have iz65 : z65.toInt = r63.toInt + 32 := zi_add ez65 rfl rfl (by omega) (by omega)
          refine lv_iconst (v := 3) hx hb dX12_table_70 (by decide) ?_
          refine lv_iload_n hx hb dX12_table_71 rfl (lv_at hl 2 rfl) ?_
          refine lv_imul hx hb dX12_table_72 ?_
          refine lv_topi (fun z66 ez66 => ?_)
          have iz66 : z66.toInt = 3 * u.toInt := zi_mul ez66 rfl rfl (by omega) (by omega)
          refine lv_iadd hx hb dX12_table_73 ?_
          refine lv_topi (fun z67 ez67 => ?_)
          have iz67 : z67.toInt = z65.toInt + z66.toInt := zi_add ez67 rfl rfl (by omega) (by omega)
          refine lv_istore (lv' := [(5, .int z67), (0, .ref h0), (1, .int v), (2, .int u), (3, .int a), (4, .int a4)]) hx hb dX12_table_74 hl (by decide) rfl (fun ls hl => ?_)
          refine lv_aload_n hx hb dX12_table_76 rfl (lv_at hl 1 rfl) ?_
          refine va_get (D := (dC, dI)) (ci := 12) (v := .ref (ρ h0 2)) (C := RX12) (T := TX12) (N := 53) hx hb hts hfX12 hown hK hP q58 eq58 rfl 2 (by decide) (hts (.fieldLink RX12 7 "ColdShipsModel" "row" "[I") (by decide +kernel)) (fun _ h9 => h9) rfl dX12_table_77 ?_
          refine lv_iload hx hb dX12_table_80 (lv_at hl 0 rfl) ?_
          refine lv_iconst (v := 1) hx hb dX12_table_82 (by decide) ?_
          obtain ⟨q68, eq68⟩ := tp_pos (tp_in hG y1 (by decide)) hf_33
          refine va_iast hx hb hK hP hD hS q68 0 eq68 rfl (vp_in_iff.mpr ⟨by omega, by omega⟩) dX12_table_83 (tp_k (.inl (κ 0, 12967, .inl (upd g27 z67.toNatClampNeg (1 : Int32)))) hD (tp_in hG y1 (by decide)) eq68 (fun f69 H locs hP hD hS g71 k70 => ?_))
          have hT := hT.up y1 g71 k70 tp_o32
          have hR := hR.up y1 (by decide) k70
          have hU : mo_U (mo_R g27) (mo_R (upd g27 z67.toNatClampNeg (1 : Int32))) (547 + 84 * v.toInt + 32 + 3 * u.toInt) (1) := mo_up (by omega) (show (1 : Int32).toInt = 1 from rfl) (by omega)
          generalize (upd g27 z67.toNatClampNeg (1 : Int32)) = g72 at g71 hU
          have hI := mo_w_sfree hI hU v.toInt (32 + 3 * u.toInt) (by omega) (by omega) (by omega)
          refine lv_aload_n hx hb dX12_table_84 rfl (lv_at hl 1 rfl) ?_
          have hf_73 : f69 h0 = .inr (12, [.int 0, .int o28_x1, .ref (ρ h0 2), .ref (ρ h0 3), .ref (ρ h0 4), .ref (ρ h0 5), .ref (ρ h0 6), .int o28_x7, .ref (ρ h0 8), .int o28_x9, .int o28_x10, .int o28_x11, .int o28_x12, .long o28_x13, .int o28_x14, .int o28_x15, .int o28_x16, .int o28_x17, .int o28_x18, .int o28_x19, .int o28_x20, .ref (ρ h0 21), .int o28_x22, .ref (ρ h0 23), .ref (ρ h0 24), .int o28_x25, .ref (ρ h0 26), .ref (ρ h0 27), .int o28_x28, .int o28_x29, .ref (ρ h0 30), .ref (ρ h0 31), .int o28_x32, .long o28_x33, .long o28_x34, .long o28_x35, .int o28_x36, .int o28_x37, .int o28_x38, .ref (ρ h0 39), .ref (ρ h0 40), .ref (ρ h0 41), .ref (ρ h0 42), .ref (ρ h0 43), .ref (ρ h0 44), .ref (ρ h0 45), .ref (ρ h0 46), .int o28_x47, .int o28_x48, .ref (ρ h0 49), .ref (ρ h0 50), .ref (ρ h0 51), .ref (ρ h0 52)]) := (k70 _ (tp_ne ht_h0 y1 (by decide))).trans g32
          obtain ⟨q74, eq74⟩ := tp_pos (tp_in hG ht_h0 (by decide)) hf_73
          refine va_get (D := (dC, dI)) (ci := 12) (v := .ref (ρ h0 2)) (C := RX12) (T := TX12) (N := 53) hx hb hts hfX12 hown hK hP q74 eq74 rfl 2 (by decide) (hts (.fieldLink RX12 7 "ColdShipsModel" "row" "[I") (by decide +kernel)) (fun _ h9 => h9) rfl dX12_table_85 ?_
          refine lv_iload hx hb dX12_table_88 (lv_at hl 0 rfl) ?_
          refine lv_iconst (v := 1) hx hb dX12_table_90 (by decide) ?_
          refine lv_iadd hx hb dX12_table_91 ?_
          refine lv_topi (fun z75 ez75 => ?_)
          have iz75 : z75.toInt = z67.toInt + 1 := zi_add ez75 rfl rfl (by omega) (by omega)
          refine lv_iload_n hx hb dX12_table_92 rfl (lv_at hl 4 rfl) ?_
          obtain ⟨q76, eq76⟩ := tp_pos (tp_in hG y1 (by decide)) g71
          refine va_iast hx hb hK hP hD hS q76 0 eq76 rfl (vp_in_iff.mpr ⟨by omega, by omega⟩) dX12_table_93 (tp_k (.inl (κ 0, 12967, .inl (upd g72 z75.toNatClampNeg a))) hD (tp_in hG y1 (by decide)) eq76 (fun f77 H locs hP hD hS g79 k78 => ?_))
          have hT := hT.up y1 g79 k78 tp_o32
          have hR := hR.up y1 (by decide) k78
          have hU : mo_U (mo_R g72) (mo_R (upd g72 z75.toNatClampNeg a)) (547 + 84 * v.toInt + 33 + 3 * u.toInt) (a.toInt) := mo_up (by omega) (rfl : a.toInt = _) (by omega)
          generalize (upd g72 z75.toNatClampNeg a) = g80 at g79 hU
          have hI := mo_w_TAB hI hU v.toInt u.toInt (by omega) (by omega) (by omega) (by omega)
          refine lv_aload_n hx hb dX12_table_94 rfl (lv_at hl 1 rfl) ?_
          have hf_81 : f77 h0 = .inr (12, [.int 0, .int o28_x1, .ref (ρ h0 2), .ref (ρ h0 3), .ref (ρ h0 4), .ref (ρ h0 5), .ref (ρ h0 6), .int o28_x7, .ref (ρ h0 8), .int o28_x9, .int o28_x10, .int o28_x11, .int o28_x12, .long o28_x13, .int o28_x14, .int o28_x15, .int o28_x16, .int o28_x17, .int o28_x18, .int o28_x19, .int o28_x20, .ref (ρ h0 21), .int o28_x22, .ref (ρ h0 23), .ref (ρ h0 24), .int o28_x25, .ref (ρ h0 26), .ref (ρ h0 27), .int o28_x28, .int o28_x29, .ref (ρ h0 30), .ref (ρ h0 31), .int o28_x32, .long o28_x33, .long o28_x34, .long o28_x35, .int o28_x36, .int o28_x37, .int o28_x38, .ref (ρ h0 39), .ref (ρ h0 40), .ref (ρ h0 41), .ref (ρ h0 42), .ref (ρ h0 43), .ref (ρ h0 44), .ref (ρ h0 45), .ref (ρ h0 46), .int o28_x47, .int o28_x48, .ref (ρ h0 49), .ref (ρ h0 50), .ref (ρ h0 51), .ref (ρ h0 52)]) := (k78 _ (tp_ne ht_h0 y1 (by decide))).trans hf_73
          obtain ⟨q82, eq82⟩ := tp_pos (tp_in hG ht_h0 (by decide)) hf_81
          refine va_get (D := (dC, dI)) (ci := 12) (v := .ref (ρ h0 2)) (C := RX12) (T := TX12) (N := 53) hx hb hts hfX12 hown hK hP q82 eq82 rfl 2 (by decide) (hts (.fieldLink RX12 7 "ColdShipsModel" "row" "[I") (by decide +kernel)) (fun _ h9 => h9) rfl dX12_table_95 ?_
          refine lv_iload hx hb dX12_table_98 (lv_at hl 0 rfl) ?_
          refine lv_iconst (v := 2) hx hb dX12_table_100 (by decide) ?_
          refine lv_iadd hx hb dX12_table_101 ?_
          refine lv_topi (fun z83 ez83 => ?_)
          have iz83 : z83.toInt = z67.toInt + 2 := zi_add ez83 rfl rfl (by omega) (by omega)
          refine lv_iload hx hb dX12_table_102 (lv_at hl 5 rfl) ?_
          obtain ⟨q84, eq84⟩ := tp_pos (tp_in hG y1 (by decide)) g79
          refine va_iast hx hb hK hP hD hS q84 0 eq84 rfl (vp_in_iff.mpr ⟨by omega, by omega⟩) dX12_table_104 (tp_k (.inl (κ 0, 12967, .inl (upd g80 z83.toNatClampNeg a4))) hD (tp_in hG y1 (by decide)) eq84 (fun f85 H locs hP hD hS g87 k86 => ?_))
          have hT := hT.up y1 g87 k86 tp_o32
          have hR := hR.up y1 (by decide) k86
          have hU : mo_U (mo_R g80) (mo_R (upd g80 z83.toNatClampNeg a4)) (547 + 84 * v.toInt + 34 + 3 * u.toInt) (a4.toInt) := mo_up (by omega) (rfl : a4.toInt = _) (by omega)
          generalize (upd g80 z83.toNatClampNeg a4) = g88 at g87 hU
          have hI := mo_w_sfree hI hU v.toInt (34 + 3 * u.toInt) (by omega) (by omega) (by omega)
          refine lv_aload_n hx hb dX12_table_105 rfl (lv_at hl 1 rfl) ?_
          refine lv_iconst (v := 0) hx hb dX12_table_106 (by decide) ?_
          have hf_89 : f85 h0 = .inr (12, [.int 0, .int o28_x1, .ref (ρ h0 2), .ref (ρ h0 3), .ref (ρ h0 4), .ref (ρ h0 5), .ref (ρ h0 6), .int o28_x7, .ref (ρ h0 8), .int o28_x9, .int o28_x10, .int o28_x11, .int o28_x12, .long o28_x13, .int o28_x14, .int o28_x15, .int o28_x16, .int o28_x17, .int o28_x18, .int o28_x19, .int o28_x20, .ref (ρ h0 21), .int o28_x22, .ref (ρ h0 23), .ref (ρ h0 24), .int o28_x25, .ref (ρ h0 26), .ref (ρ h0 27), .int o28_x28, .int o28_x29, .ref (ρ h0 30), .ref (ρ h0 31), .int o28_x32, .long o28_x33, .long o28_x34, .long o28_x35, .int o28_x36, .int o28_x37, .int o28_x38, .ref (ρ h0 39), .ref (ρ h0 40), .ref (ρ h0 41), .ref (ρ h0 42), .ref (ρ h0 43), .ref (ρ h0 44), .ref (ρ h0 45), .ref (ρ h0 46), .int o28_x47, .int o28_x48, .ref (ρ h0 49), .ref (ρ h0 50), .ref (ρ h0 51), .ref (ρ h0 52)]) := (k86 _ (tp_ne ht_h0 y1 (by decide))).trans hf_81
          obtain ⟨q90, eq90⟩ := tp_pos (tp_in hG ht_h0 (by decide)) hf_89
          have hFc := tp_fr hD hS hA
          refine va_calli (va_runV (As := [.int 0]) (rest := []) ⟨hx, hb, hml, hown, hts⟩ (t_X12_told l dC dI _ κ τ ν ρ L f85 hG hT h0 (0) ht_h0) (cwV 1 hts gX12_table_X12_told rfl rfl rfl (by decide +kernel) ⟨Nat.le_of_ble_eq_true rfl, Nat.le_of_ble_eq_true rfl⟩) ⟨pz_blind, va_recv hK hP (ci := 12) (q0 := q90) rfl eq90, pz_pre hP hK hD hN⟩ rfl rfl hl.1 rfl (lv_room (Nat.le_of_ble_eq_true rfl)) dX12_table_107 ⟨Nat.le_of_ble_eq_true rfl, Nat.le_of_ble_eq_true rfl⟩) hS (fun q _ h => hFc q h) hFc (fun r91 f93 t H1 locs ht hvm hw92 hB hz1 hk1 hS => ?_)
          obtain ⟨hT, hF94, hw92r, hw92p⟩ := hw92
          have hR := hR.then hF94 (by decide)
          have hP := hB.1; rw [ht] at hP; have hD := tp_ad f93 hD; clear hB hFc hz1 hk1; subst ht; generalize t.heap = H at hP hS ⊢
          have hw92pq : r91.toInt = 0 := by rw [hw92p]; rfl
          have hf_95 : f93 (ρ h0 2) = .inl (κ 0, 12967, .inl g88) := (hF94 _ (by rw [y1]; decide)).trans g87
          exact W.iret (v := r91) hx hb hr (fun t ht hW => ⟨⟨r91, f93, rfl, ⟨hT, hR, trivial, (by rw [hf_95, mo_i1]; exact hI)⟩, by rw [ht]; exact hP, va_K.moved hW.alike hK, hD⟩, hS.F ht⟩) hS.2.2 dX12_table_110
        · have ic61 : r59.toInt = 0 := zi_nef rfl rfl c61
          refine lv_aload_n hx hb dX12_table_56 rfl (lv_at hl 0 rfl) ?_
          refine lv_bipush (v := (-2)) hx hb dX12_table_57 (by decide) ?_
          have hFc := tp_fr hD hS hA
          refine va_calli (va_runV (As := [.int (-2)]) (rest := []) ⟨hx, hb, hml, hown, hts⟩ (t_X12_told l dC dI _ κ τ ν ρ L f30 hG hT h0 ((-2)) ht_h0) (cwV 1 hts gX12_table_X12_told rfl rfl rfl (by decide +kernel) ⟨Nat.le_of_ble_eq_true rfl, Nat.le_of_ble_eq_true rfl⟩) ⟨pz_blind, va_recv hK hP (ci := 12) (q0 := q58) rfl eq58, pz_pre hP hK hD hN⟩ rfl rfl hl.1 rfl (lv_room (Nat.le_of_ble_eq_true rfl)) dX12_table_59 ⟨Nat.le_of_ble_eq_true rfl, Nat.le_of_ble_eq_true rfl⟩) hS (fun q _ h => hFc q h) hFc (fun r96 f98 t H1 locs ht hvm hw97 hB hz1 hk1 hS => ?_)
          obtain ⟨hT, hF99, hw97r, hw97p⟩ := hw97
          have hR := hR.then hF99 (by decide)
          have hP := hB.1; rw [ht] at hP; have hD := tp_ad f98 hD; clear hB hFc hz1 hk1; subst ht; generalize t.heap = H at hP hS ⊢
          have hw97pq : r96.toInt = (-2) := by rw [hw97p]; rfl
          have hf_100 : f98 (ρ h0 2) = .inl (κ 0, 12967, .inl g27) := (hF99 _ (by rw [y1]; decide)).trans hf_33
          exact W.iret (v := r96) hx hb hr (fun t ht hW => ⟨⟨r96, f98, rfl, ⟨hT, hR, trivial, (by rw [hf_100, mo_i1]; exact hI)⟩, by rw [ht]; exact hP, va_K.moved hW.alike hK, hD⟩, hS.F ht⟩) hS.2.2 dX12_table_62
      · have ic56 : r54.toInt = 0 := zi_nef rfl rfl c56
        refine lv_aload_n hx hb dX12_table_42 rfl (lv_at hl 0 rfl) ?_
        refine lv_iconst (v := (-1)) hx hb dX12_table_43 (by decide) ?_
        obtain ⟨q101, eq101⟩ := tp_pos (tp_in hG ht_h0 (by decide)) g32
        have hFc := tp_fr hD hS hA
        refine va_calli (va_runV (As := [.int (-1)]) (rest := []) ⟨hx, hb, hml, hown, hts⟩ (t_X12_told l dC dI _ κ τ ν ρ L f30 hG hT h0 ((-1)) ht_h0) (cwV 1 hts gX12_table_X12_told rfl rfl rfl (by decide +kernel) ⟨Nat.le_of_ble_eq_true rfl, Nat.le_of_ble_eq_true rfl⟩) ⟨pz_blind, va_recv hK hP (ci := 12) (q0 := q101) rfl eq101, pz_pre hP hK hD hN⟩ rfl rfl hl.1 rfl (lv_room (Nat.le_of_ble_eq_true rfl)) dX12_table_44 ⟨Nat.le_of_ble_eq_true rfl, Nat.le_of_ble_eq_true rfl⟩) hS (fun q _ h => hFc q h) hFc (fun r102 f104 t H1 locs ht hvm hw103 hB hz1 hk1 hS => ?_)
        obtain ⟨hT, hF105, hw103r, hw103p⟩ := hw103
        have hR := hR.then hF105 (by decide)
        have hP := hB.1; rw [ht] at hP; have hD := tp_ad f104 hD; clear hB hFc hz1 hk1; subst ht; generalize t.heap = H at hP hS ⊢
        have hw103pq : r102.toInt = (-1) := by rw [hw103p]; rfl
        have hf_106 : f104 (ρ h0 2) = .inl (κ 0, 12967, .inl g27) := (hF105 _ (by rw [y1]; decide)).trans hf_33
        exact W.iret (v := r102) hx hb hr (fun t ht hW => ⟨⟨r102, f104, rfl, ⟨hT, hR, trivial, (by rw [hf_106, mo_i1]; exact hI)⟩, by rw [ht]; exact hP, va_K.moved hW.alike hK, hD⟩, hS.F ht⟩) hS.2.2 dX12_table_47
set_option maxHeartbeats 4000000 in
set_option maxRecDepth 100000 in
theorem t_X12_list (l : Launch) (dC : Nat → ClassId) (dI : Nat → Nat → Nat) (sz : Nat) (κ : Nat → ClassId) (τ ν : Nat → Nat) (ρ : Nat → Nat → Nat) (L : List Nat) (f : Nat → va_E) (hG : tp_G τ ν ρ L) (hT : tp_T (mo_O κ) κ τ ν ρ f) (h0 : Nat) (v : Int32) (u : Int32) (ht_h0 : τ h0 = 13) (hJ : mo_RI (-1) 0 (mo_R (mo_i (f (ρ h0 2))))) : Met l yX12_list wsX12_list ({ frames := 4, cells := 0, slots := 0, locals := 1200 }) (va_Pc [.ref h0, .int v, .int u] (pz_B dC dI (tp_K κ) (va_pl L f) sz)) (va_Qi (fun (r : Int32) (f1 : Nat → va_E) => tp_T (mo_O κ) κ τ ν ρ f1 ∧ tp_F τ [13, 32] f f1 ∧ True ∧ mo_RI (-1) 0 (mo_R (mo_i (f1 (ρ h0 2))))) (fun (f1 : Nat → va_E) (t : State) => pz_E dC dI (tp_K κ) (va_A (va_pl L f) sz) (va_pl L f1) t) (va_A (va_pl L f) sz)) 0 0 (va_A (va_pl L f) sz) := by
  refine Met.ofW (cc := cX12_list) (maxL := 4) (ret := some .int) (by decide) rfl ?_
  intro p e s m args below meth c s₁ B hml hv
  obtain ⟨rfl, hsz, hP, hK, hD0, hN⟩ := hv
  have hx := B.exec
  have hb := B.bytes
  have hr := B.returns
  have hts := atoms_spec (ws := wsX12_list) B.pre
  have hown : s.vm.findClass RX12 = some m.cls := findClass_of_methodNamed B.named
  have hlocks := B.notSynchronized
  subst hsz
  have hD := hD0.self (sz := s.heap.size)
  generalize hAe : va_A (va_pl L f) s.heap.size = A at hD ⊢
  have hA : ∀ q : Nat, s.heap.size ≤ q → A q := fun q h => by rw [← hAe]; exact Or.inr h
  have hS : va_S A s.heap s.heap [] := va_S.rf
  have hR : tp_F τ [13, 32] f f := tp_F.rf
  have hl := lv_entry ([.ref h0, .int v, .int u]) (n := 4) (Nat.le_of_ble_eq_true rfl)
  rw [lg_entry_eq]
  generalize (lg_sl ([.ref h0, .int v, .int u]) ++ List.replicate (4 - (lg_sl ([.ref h0, .int v, .int u])).length) Slot.unset).toArray = ls at hl ⊢
  have hl : lv_has ls 4 [(0, .ref h0), (1, .int v), (2, .int u)] := hl
  have hfX12 : ∀ w ∈ wsX120, w ∈ wsX12_list := fun w h => List.mem_cons_of_mem _ (List.mem_append_right _ h)
  obtain ⟨y1, y2, y3, y4, y5, y6, y7, y8, y9, y10, y11, y12, y13, y14, y15, y16, y17, y18, y19, y20, y21, y22, y23, y24, y25⟩ := tpg_13 hG ht_h0
  obtain ⟨g27, hf_o26⟩ := tpo_32 hT y1
  have hI : mo_RI (-1) 0 (mo_R g27) := by have q9 := hJ; rw [hf_o26, mo_i1] at q9; exact q9
  refine lv_aload_n hx hb dX12_list_0 rfl (lv_at hl 0 rfl) ?_
  refine lv_iconst (v := 0) hx hb dX12_list_1 (by decide) ?_
  obtain ⟨o28_x0, o28_x1, o28_x7, o28_x9, o28_x10, o28_x11, o28_x12, o28_x13, o28_x14, o28_x15, o28_x16, o28_x17, o28_x18, o28_x19, o28_x20, o28_x22, o28_x25, o28_x28, o28_x29, o28_x32, o28_x33, o28_x34, o28_x35, o28_x36, o28_x37, o28_x38, o28_x47, o28_x48, hf_o28, ro28_0, ro28_1, ro28_2, ro28_3, ro28_4, ro28_5, ro28_6, ro28_7, ro28_8, ro28_9, ro28_10, ro28_11, ro28_12, ro28_13⟩ := tpo_13 hT ht_h0
  obtain ⟨q29, eq29⟩ := tp_pos (tp_in hG ht_h0 (by decide)) hf_o28
  refine va_put (D := (dC, dI)) (ci := 12) (v := .int 0) (ty := .int) (C := RX12) (T := TX12) (N := 53) hx hb hts hfX12 tyX12 tyX12_ok nmX12 hown hK hP hD hS q29 eq29 rfl 0 (by decide) (hts (.fieldLink RX12 91 "ColdShipsModel" "thrown" "I") (by decide +kernel)) (fun _ h9 => h9) rfl (by decide +kernel) rfl rfl (Nat.le_of_ble_eq_true rfl) dX12_list_2 (tp_k (.inr (12, [.int 0, .int o28_x1, .ref (ρ h0 2), .ref (ρ h0 3), .ref (ρ h0 4), .ref (ρ h0 5), .ref (ρ h0 6), .int o28_x7, .ref (ρ h0 8), .int o28_x9, .int o28_x10, .int o28_x11, .int o28_x12, .long o28_x13, .int o28_x14, .int o28_x15, .int o28_x16, .int o28_x17, .int o28_x18, .int o28_x19, .int o28_x20, .ref (ρ h0 21), .int o28_x22, .ref (ρ h0 23), .ref (ρ h0 24), .int o28_x25, .ref (ρ h0 26), .ref (ρ h0 27), .int o28_x28, .int o28_x29, .ref (ρ h0 30), .ref (ρ h0 31), .int o28_x32, .long o28_x33, .long o28_x34, .long o28_x35, .int o28_x36, .int o28_x37, .int o28_x38, .ref (ρ h0 39), .ref (ρ h0 40), .ref (ρ h0 41), .ref (ρ h0 42), .ref (ρ h0 43), .ref (ρ h0 44), .ref (ρ h0 45), .ref (ρ h0 46), .int o28_x47, .int o28_x48, .ref (ρ h0 49), .ref (ρ h0 50), .ref (ρ h0 51), .ref (ρ h0 52)])) hD (tp_in hG ht_h0 (by decide)) eq29 (fun f30 H locs hP hD hS g32 k31 => ?_))
  have hT := hT.up ht_h0 g32 k31 ⟨_, _, _, _, _, _, _, _, _, _, _, _, _, _, _, _, _, _, _, _, _, _, _, _, _, _, _, _, rfl, ro28_0, ro28_1, ro28_2, ro28_3, ro28_4, ro28_5, ro28_6, ro28_7, ro28_8, ro28_9, ro28_10, ro28_11, ro28_12, ro28_13⟩
  have hR := hR.up ht_h0 (by decide) k31
  refine lv_iload_n hx hb dX12_list_5 rfl (lv_at hl 2 rfl) ?_
  refine lv_i2l hx hb dX12_list_6 rfl ?_
  refine lv_ldc2 (own := RX12) (v := (-50)) hx hb hown (hts (.constantLong RX12 483 (-50)) (by decide +kernel)) dX12_list_7 ?_
  refine lv_ldc2 (own := RX12) (v := 50) hx hb hown (hts (.constantLong RX12 126 (50)) (by decide +kernel)) dX12_list_10 ?_
  have hf_33 : f30 (ρ h0 2) = .inl (κ 0, 12967, .inl g27) := (k31 _ (tp_ne y1 ht_h0 (by decide))).trans hf_o26
  refine pz_calli (va_runS (As := [.long u.toInt64, .long (-50), .long 50]) (rest := []) ⟨hx, hb, hml, hown, hts⟩ (t_X12_in l dC dI _ u.toInt64 ((-50)) (50) (u.toInt) ((-50)) (50) (Int32.toInt_toInt64 u) rfl rfl) (va_cwS 3 hts gX12_list_X12_in rfl rfl rfl (by decide +kernel) ⟨Nat.le_of_ble_eq_true rfl, Nat.le_of_ble_eq_true rfl⟩) ⟨pz_blind, pz_pre pz_P0 (hK.sub (tys' := []) [] rfl) (pz_D0 (A := fun _ => True)) hN⟩ rfl rfl hl.1 rfl (lv_room (Nat.le_of_ble_eq_true rfl)) dX12_list_13 ⟨Nat.le_of_ble_eq_true rfl, Nat.le_of_ble_eq_true rfl⟩) (fun r34 hw35 => ?_)
  obtain ⟨hw35r, hw35p⟩ := hw35
  refine lv_if_ne (tgt := 25) hx hb dX12_list_16 (by decide) (fun c36 => ?_) (fun c36 => ?_)
  · have ic36 : r34.toInt ≠ 0 := zi_ne rfl rfl c36
    have p37 : ((-50)) ≤ (u.toInt) ∧ (u.toInt) ≤ (50) := (tp_cond.yes hw35p) (by omega)
    refine lv_aload_n hx hb dX12_list_25 rfl (lv_at hl 0 rfl) ?_
    refine lv_iload_n hx hb dX12_list_26 rfl (lv_at hl 1 rfl) ?_
    obtain ⟨q38, eq38⟩ := tp_pos (tp_in hG ht_h0 (by decide)) g32
    refine pz_calli (va_runV (As := [.int v]) (rest := []) ⟨hx, hb, hml, hown, hts⟩ (t_X12_isShip l dC dI _ κ τ ν ρ L f30 hG hT h0 v (-1) 0 ht_h0 (by rw [hf_33, mo_i1]; exact hI)) (cwV 1 hts gX12_list_X12_isShip rfl rfl rfl (by decide +kernel) ⟨Nat.le_of_ble_eq_true rfl, Nat.le_of_ble_eq_true rfl⟩) ⟨pz_blind, va_recv hK hP (ci := 12) (q0 := q38) rfl eq38, pz_pre hP hK hD hN⟩ rfl rfl hl.1 rfl (lv_room (Nat.le_of_ble_eq_true rfl)) dX12_list_27 ⟨Nat.le_of_ble_eq_true rfl, Nat.le_of_ble_eq_true rfl⟩) (fun r39 hw40 => ?_)
    obtain ⟨hw40r, hw40p⟩ := hw40
    have := hI.k1
    rw [hf_33, mo_i1] at hw40p
    refine lv_if_ne (tgt := 40) hx hb dX12_list_30 (by decide) (fun c41 => ?_) (fun c41 => ?_)
    · have ic41 : r39.toInt ≠ 0 := zi_ne rfl rfl c41
      have p42 : 0 ≤ v.toInt ∧ v.toInt < mo_R g27 1 := (tp_cond.yes hw40p) (by omega)
      refine lv_aload_n hx hb dX12_list_40 rfl (lv_at hl 0 rfl) ?_
      refine va_get (D := (dC, dI)) (ci := 12) (v := .ref (ρ h0 2)) (C := RX12) (T := TX12) (N := 53) hx hb hts hfX12 hown hK hP q38 eq38 rfl 2 (by decide) (hts (.fieldLink RX12 7 "ColdShipsModel" "row" "[I") (by decide +kernel)) (fun _ h9 => h9) rfl dX12_list_41 ?_
      refine lv_iload_n hx hb dX12_list_44 rfl (lv_at hl 1 rfl) ?_
      refine pz_calli (va_runS (As := [.int v]) (rest := [.ref (ρ h0 2)]) ⟨hx, hb, hml, hown, hts⟩ (t_X12_shipAt l dC dI _ v (v.toInt) (by omega) rfl) (va_cwS 1 hts gX12_list_X12_shipAt rfl rfl rfl (by decide +kernel) ⟨Nat.le_of_ble_eq_true rfl, Nat.le_of_ble_eq_true rfl⟩) ⟨pz_blind, pz_pre pz_P0 (hK.sub (tys' := []) [] rfl) (pz_D0 (A := fun _ => True)) hN⟩ rfl rfl hl.1 rfl (lv_room (Nat.le_of_ble_eq_true rfl)) dX12_list_45 ⟨Nat.le_of_ble_eq_true rfl, Nat.le_of_ble_eq_true rfl⟩) (fun r43 hw44 => ?_)
      obtain ⟨hw44r, hw44p⟩ := hw44
      refine lv_bipush (v := 31) hx hb dX12_list_48 (by decide) ?_
      refine lv_iadd hx hb dX12_list_50 ?_
      refine lv_topi (fun z45 ez45 => ?_)
      have iz45 : z45.toInt = r43.toInt + 31 := zi_add ez45 rfl rfl (by omega) (by omega)
      obtain ⟨q46, eq46⟩ := tp_pos (tp_in hG y1 (by decide)) hf_33
      refine va_iald hx hb hK hP q46 0 eq46 rfl (vp_in_iff.mpr ⟨by omega, by omega⟩) dX12_list_51 ?_
      refine lv_topi (fun z47 ez47 => ?_)
      refine lv_istore_n (lv' := [(3, .int z47), (0, .ref h0), (1, .int v), (2, .int u)]) hx hb dX12_list_52 rfl hl (by decide) rfl (fun ls hl => ?_)
      refine lv_aload_n hx hb dX12_list_53 rfl (lv_at hl 1 rfl) ?_
      refine va_get (D := (dC, dI)) (ci := 12) (v := .ref (ρ h0 2)) (C := RX12) (T := TX12) (N := 53) hx hb hts hfX12 hown hK hP q38 eq38 rfl 2 (by decide) (hts (.fieldLink RX12 7 "ColdShipsModel" "row" "[I") (by decide +kernel)) (fun _ h9 => h9) rfl dX12_list_54 ?_
      refine lv_iload_n hx hb dX12_list_57 rfl (lv_at hl 2 rfl) ?_
      refine pz_calli (va_runS (As := [.int v]) (rest := [.ref (ρ h0 2)]) ⟨hx, hb, hml, hown, hts⟩ (t_X12_shipAt l dC dI _ v (v.toInt) (by omega) rfl) (va_cwS 1 hts gX12_list_X12_shipAt rfl rfl rfl (by decide +kernel) ⟨Nat.le_of_ble_eq_true rfl, Nat.le_of_ble_eq_true rfl⟩) ⟨pz_blind, pz_pre pz_P0 (hK.sub (tys' := []) [] rfl) (pz_D0 (A := fun _ => True)) hN⟩ rfl rfl hl.1 rfl (lv_room (Nat.le_of_ble_eq_true rfl)) dX12_list_58 ⟨Nat.le_of_ble_eq_true rfl, Nat.le_of_ble_eq_true rfl⟩) (fun r48 hw49 => ?_)
      obtain ⟨hw49r, hw49p⟩ := hw49
      refine lv_bipush (v := 31) hx hb dX12_list_61 (by decide) ?_
      refine lv_iadd hx hb dX12_list_63 ?_
      refine lv_topi (fun z50 ez50 => ?_)
      have iz50 : z50.toInt = r48.toInt + 31 := zi_add ez50 rfl rfl (by omega) (by omega)
      refine lv_iload_n hx hb dX12_list_64 rfl (lv_at hl 3 rfl) ?_
      refine va_iast hx hb hK hP hD hS q46 0 eq46 rfl (vp_in_iff.mpr ⟨by omega, by omega⟩) dX12_list_65 (tp_k (.inl (κ 0, 12967, .inl (upd g27 z50.toNatClampNeg u))) hD (tp_in hG y1 (by decide)) eq46 (fun f51 H locs hP hD hS g53 k52 => ?_))
      have hT := hT.up y1 g53 k52 tp_o32
      have hR := hR.up y1 (by decide) k52
      have hU : mo_U (mo_R g27) (mo_R (upd g27 z50.toNatClampNeg u)) (547 + 84 * v.toInt + 31) (u.toInt) := mo_up (by omega) (rfl : u.toInt = _) (by omega)
      generalize (upd g27 z50.toNatClampNeg u) = g54 at g53 hU
      have hI := mo_w_sfree hI hU v.toInt 31 (by omega) (by omega) (by omega)
      refine lv_aload_n hx hb dX12_list_66 rfl (lv_at hl 1 rfl) ?_
      refine lv_iconst (v := 0) hx hb dX12_list_67 (by decide) ?_
      have hf_55 : f51 h0 = .inr (12, [.int 0, .int o28_x1, .ref (ρ h0 2), .ref (ρ h0 3), .ref (ρ h0 4), .ref (ρ h0 5), .ref (ρ h0 6), .int o28_x7, .ref (ρ h0 8), .int o28_x9, .int o28_x10, .int o28_x11, .int o28_x12, .long o28_x13, .int o28_x14, .int o28_x15, .int o28_x16, .int o28_x17, .int o28_x18, .int o28_x19, .int o28_x20, .ref (ρ h0 21), .int o28_x22, .ref (ρ h0 23), .ref (ρ h0 24), .int o28_x25, .ref (ρ h0 26), .ref (ρ h0 27), .int o28_x28, .int o28_x29, .ref (ρ h0 30), .ref (ρ h0 31), .int o28_x32, .long o28_x33, .long o28_x34, .long o28_x35, .int o28_x36, .int o28_x37, .int o28_x38, .ref (ρ h0 39), .ref (ρ h0 40), .ref (ρ h0 41), .ref (ρ h0 42), .ref (ρ h0 43), .ref (ρ h0 44), .ref (ρ h0 45), .ref (ρ h0 46), .int o28_x47, .int o28_x48, .ref (ρ h0 49), .ref (ρ h0 50), .ref (ρ h0 51), .ref (ρ h0 52)]) := (k52 _ (tp_ne ht_h0 y1 (by decide))).trans g32
      obtain ⟨q56, eq56⟩ := tp_pos (tp_in hG ht_h0 (by decide)) hf_55
      refine va_put (D := (dC, dI)) (ci := 12) (v := .int 0) (ty := .int) (C := RX12) (T := TX12) (N := 53) hx hb hts hfX12 tyX12 tyX12_ok nmX12 hown hK hP hD hS q56 eq56 rfl 1 (by decide) (hts (.fieldLink RX12 94 "ColdShipsModel" "status" "I") (by decide +kernel)) (fun _ h9 => h9) rfl (by decide +kernel) rfl rfl (Nat.le_of_ble_eq_true rfl) dX12_list_68 (tp_k (.inr (12, [.int 0, .int 0, .ref (ρ h0 2), .ref (ρ h0 3), .ref (ρ h0 4), .ref (ρ h0 5), .ref (ρ h0 6), .int o28_x7, .ref (ρ h0 8), .int o28_x9, .int o28_x10, .int o28_x11, .int o28_x12, .long o28_x13, .int o28_x14, .int o28_x15, .int o28_x16, .int o28_x17, .int o28_x18, .int o28_x19, .int o28_x20, .ref (ρ h0 21), .int o28_x22, .ref (ρ h0 23), .ref (ρ h0 24), .int o28_x25, .ref (ρ h0 26), .ref (ρ h0 27), .int o28_x28, .int o28_x29, .ref (ρ h0 30), .ref (ρ h0 31), .int o28_x32, .long o28_x33, .long o28_x34, .long o28_x35, .int o28_x36, .int o28_x37, .int o28_x38, .ref (ρ h0 39), .ref (ρ h0 40), .ref (ρ h0 41), .ref (ρ h0 42), .ref (ρ h0 43), .ref (ρ h0 44), .ref (ρ h0 45), .ref (ρ h0 46), .int o28_x47, .int o28_x48, .ref (ρ h0 49), .ref (ρ h0 50), .ref (ρ h0 51), .ref (ρ h0 52)])) hD (tp_in hG ht_h0 (by decide)) eq56 (fun f57 H locs hP hD hS g59 k58 => ?_))
      have hT := hT.up ht_h0 g59 k58 ⟨_, _, _, _, _, _, _, _, _, _, _, _, _, _, _, _, _, _, _, _, _, _, _, _, _, _, _, _, rfl, ro28_0, ro28_1, ro28_2, ro28_3, ro28_4, ro28_5, ro28_6, ro28_7, ro28_8, ro28_9, ro28_10, ro28_11, ro28_12, ro28_13⟩
      have hR := hR.up ht_h0 (by decide) k58
      refine lv_iload_n hx hb dX12_list_71 rfl (lv_at hl 0 rfl) ?_
      have hf_60 : f57 (ρ h0 2) = .inl (κ 0, 12967, .inl g54) := (k58 _ (tp_ne y1 ht_h0 (by decide))).trans g53
      exact W.iret (v := z47) hx hb hr (fun t ht hW => ⟨⟨z47, f57, rfl, ⟨hT, hR, trivial, (by rw [hf_60, mo_i1]; exact hI)⟩, by rw [ht]; exact hP, va_K.moved hW.alike hK, hD⟩, hS.F ht⟩) hS.2.2 dX12_list_72
    · have ic41 : r39.toInt = 0 := zi_nef rfl rfl c41
      refine lv_aload_n hx hb dX12_list_33 rfl (lv_at hl 0 rfl) ?_
      refine lv_bipush (v := (-2)) hx hb dX12_list_34 (by decide) ?_
      have hFc := tp_fr hD hS hA
      refine va_calli (va_runV (As := [.int (-2)]) (rest := []) ⟨hx, hb, hml, hown, hts⟩ (t_X12_told l dC dI _ κ τ ν ρ L f30 hG hT h0 ((-2)) ht_h0) (cwV 1 hts gX12_list_X12_told rfl rfl rfl (by decide +kernel) ⟨Nat.le_of_ble_eq_true rfl, Nat.le_of_ble_eq_true rfl⟩) ⟨pz_blind, va_recv hK hP (ci := 12) (q0 := q38) rfl eq38, pz_pre hP hK hD hN⟩ rfl rfl hl.1 rfl (lv_room (Nat.le_of_ble_eq_true rfl)) dX12_list_36 ⟨Nat.le_of_ble_eq_true rfl, Nat.le_of_ble_eq_true rfl⟩) hS (fun q _ h => hFc q h) hFc (fun r61 f63 t H1 locs ht hvm hw62 hB hz1 hk1 hS => ?_)
      obtain ⟨hT, hF64, hw62r, hw62p⟩ := hw62
      have hR := hR.then hF64 (by decide)
      have hP := hB.1; rw [ht] at hP; have hD := tp_ad f63 hD; clear hB hFc hz1 hk1; subst ht; generalize t.heap = H at hP hS ⊢
      have hw62pq : r61.toInt = (-2) := by rw [hw62p]; rfl
      have hf_65 : f63 (ρ h0 2) = .inl (κ 0, 12967, .inl g27) := (hF64 _ (by rw [y1]; decide)).trans hf_33
      exact W.iret (v := r61) hx hb hr (fun t ht hW => ⟨⟨r61, f63, rfl, ⟨hT, hR, trivial, (by rw [hf_65, mo_i1]; exact hI)⟩, by rw [ht]; exact hP, va_K.moved hW.alike hK, hD⟩, hS.F ht⟩) hS.2.2 dX12_list_39
  · have ic36 : r34.toInt = 0 := zi_nef rfl rfl c36
    refine lv_aload_n hx hb dX12_list_19 rfl (lv_at hl 0 rfl) ?_
    refine lv_iconst (v := (-1)) hx hb dX12_list_20 (by decide) ?_
    obtain ⟨q66, eq66⟩ := tp_pos (tp_in hG ht_h0 (by decide)) g32
    have hFc := tp_fr hD hS hA
    refine va_calli (va_runV (As := [.int (-1)]) (rest := []) ⟨hx, hb, hml, hown, hts⟩ (t_X12_told l dC dI _ κ τ ν ρ L f30 hG hT h0 ((-1)) ht_h0) (cwV 1 hts gX12_list_X12_told rfl rfl rfl (by decide +kernel) ⟨Nat.le_of_ble_eq_true rfl, Nat.le_of_ble_eq_true rfl⟩) ⟨pz_blind, va_recv hK hP (ci := 12) (q0 := q66) rfl eq66, pz_pre hP hK hD hN⟩ rfl rfl hl.1 rfl (lv_room (Nat.le_of_ble_eq_true rfl)) dX12_list_21 ⟨Nat.le_of_ble_eq_true rfl, Nat.le_of_ble_eq_true rfl⟩) hS (fun q _ h => hFc q h) hFc (fun r67 f69 t H1 locs ht hvm hw68 hB hz1 hk1 hS => ?_)
    obtain ⟨hT, hF70, hw68r, hw68p⟩ := hw68
    have hR := hR.then hF70 (by decide)
    have hP := hB.1; rw [ht] at hP; have hD := tp_ad f69 hD; clear hB hFc hz1 hk1; subst ht; generalize t.heap = H at hP hS ⊢
    have hw68pq : r67.toInt = (-1) := by rw [hw68p]; rfl
    have hf_71 : f69 (ρ h0 2) = .inl (κ 0, 12967, .inl g27) := (hF70 _ (by rw [y1]; decide)).trans hf_33
    exact W.iret (v := r67) hx hb hr (fun t ht hW => ⟨⟨r67, f69, rfl, ⟨hT, hR, trivial, (by rw [hf_71, mo_i1]; exact hI)⟩, by rw [ht]; exact hP, va_K.moved hW.alike hK, hD⟩, hS.F ht⟩) hS.2.2 dX12_list_24
set_option maxHeartbeats 4000000 in
set_option maxRecDepth 100000 in
theorem t_X12_reading (l : Launch) (dC : Nat → ClassId) (dI : Nat → Nat → Nat) (sz : Nat) (κ : Nat → ClassId) (τ ν : Nat → Nat) (ρ : Nat → Nat → Nat) (L : List Nat) (f : Nat → va_E) (hG : tp_G τ ν ρ L) (hT : tp_T (mo_O κ) κ τ ν ρ f) (h0 : Nat) (v : Int32) (u : Int32) (a : Int32) (a4 : Int32) (a5 : Int32) (ht_h0 : τ h0 = 13) (hJ : mo_RI (-1) 0 (mo_R (mo_i (f (ρ h0 2))))) : Met l yX12_reading wsX12_reading ({ frames := 4, cells := 0, slots := 0, locals := 1200 }) (va_Pc [.ref h0, .int v, .int u, .int a, .int a4, .int a5] (pz_B dC dI (tp_K κ) (va_pl L f) sz)) (va_Qi (fun (r : Int32) (f1 : Nat → va_E) => tp_T (mo_O κ) κ τ ν ρ f1 ∧ tp_F τ [13, 32] f f1 ∧ True ∧ mo_RI (-1) 0 (mo_R (mo_i (f1 (ρ h0 2))))) (fun (f1 : Nat → va_E) (t : State) => pz_E dC dI (tp_K κ) (va_A (va_pl L f) sz) (va_pl L f1) t) (va_A (va_pl L f) sz)) 0 0 (va_A (va_pl L f) sz) := by
  refine Met.ofW (cc := cX12_reading) (maxL := 7) (ret := some .int) (by decide) rfl ?_
  intro p e s m args below meth c s₁ B hml hv
  obtain ⟨rfl, hsz, hP, hK, hD0, hN⟩ := hv
  have hx := B.exec
  have hb := B.bytes
  have hr := B.returns
  have hts := atoms_spec (ws := wsX12_reading) B.pre
  have hown : s.vm.findClass RX12 = some m.cls := findClass_of_methodNamed B.named
  have hlocks := B.notSynchronized
  subst hsz
  have hD := hD0.self (sz := s.heap.size)
  generalize hAe : va_A (va_pl L f) s.heap.size = A at hD ⊢
  have hA : ∀ q : Nat, s.heap.size ≤ q → A q := fun q h => by rw [← hAe]; exact Or.inr h
  have hS : va_S A s.heap s.heap [] := va_S.rf
  have hR : tp_F τ [13, 32] f f := tp_F.rf
  have hl := lv_entry ([.ref h0, .int v, .int u, .int a, .int a4, .int a5]) (n := 7) (Nat.le_of_ble_eq_true rfl)
  rw [lg_entry_eq]
  generalize (lg_sl ([.ref h0, .int v, .int u, .int a, .int a4, .int a5]) ++ List.replicate (7 - (lg_sl ([.ref h0, .int v, .int u, .int a, .int a4, .int a5])).length) Slot.unset).toArray = ls at hl ⊢
  have hl : lv_has ls 7 [(0, .ref h0), (1, .int v), (2, .int u), (3, .int a), (4, .int a4), (5, .int a5)] := hl
  have hfX12 : ∀ w ∈ wsX120, w ∈ wsX12_reading := fun w h => List.mem_cons_of_mem _ (List.mem_append_right _ h)
  obtain ⟨y1, y2, y3, y4, y5, y6, y7, y8, y9, y10, y11, y12, y13, y14, y15, y16, y17, y18, y19, y20, y21, y22, y23, y24, y25⟩ := tpg_13 hG ht_h0
  obtain ⟨g27, hf_o26⟩ := tpo_32 hT y1
  have hI : mo_RI (-1) 0 (mo_R g27) := by have q9 := hJ; rw [hf_o26, mo_i1] at q9; exact q9
  refine lv_aload_n hx hb dX12_reading_0 rfl (lv_at hl 0 rfl) ?_
  refine lv_iconst (v := 0) hx hb dX12_reading_1 (by decide) ?_
  obtain ⟨o28_x0, o28_x1, o28_x7, o28_x9, o28_x10, o28_x11, o28_x12, o28_x13, o28_x14, o28_x15, o28_x16, o28_x17, o28_x18, o28_x19, o28_x20, o28_x22, o28_x25, o28_x28, o28_x29, o28_x32, o28_x33, o28_x34, o28_x35, o28_x36, o28_x37, o28_x38, o28_x47, o28_x48, hf_o28, ro28_0, ro28_1, ro28_2, ro28_3, ro28_4, ro28_5, ro28_6, ro28_7, ro28_8, ro28_9, ro28_10, ro28_11, ro28_12, ro28_13⟩ := tpo_13 hT ht_h0
  obtain ⟨q29, eq29⟩ := tp_pos (tp_in hG ht_h0 (by decide)) hf_o28
  refine va_put (D := (dC, dI)) (ci := 12) (v := .int 0) (ty := .int) (C := RX12) (T := TX12) (N := 53) hx hb hts hfX12 tyX12 tyX12_ok nmX12 hown hK hP hD hS q29 eq29 rfl 0 (by decide) (hts (.fieldLink RX12 91 "ColdShipsModel" "thrown" "I") (by decide +kernel)) (fun _ h9 => h9) rfl (by decide +kernel) rfl rfl (Nat.le_of_ble_eq_true rfl) dX12_reading_2 (tp_k (.inr (12, [.int 0, .int o28_x1, .ref (ρ h0 2), .ref (ρ h0 3), .ref (ρ h0 4), .ref (ρ h0 5), .ref (ρ h0 6), .int o28_x7, .ref (ρ h0 8), .int o28_x9, .int o28_x10, .int o28_x11, .int o28_x12, .long o28_x13, .int o28_x14, .int o28_x15, .int o28_x16, .int o28_x17, .int o28_x18, .int o28_x19, .int o28_x20, .ref (ρ h0 21), .int o28_x22, .ref (ρ h0 23), .ref (ρ h0 24), .int o28_x25, .ref (ρ h0 26), .ref (ρ h0 27), .int o28_x28, .int o28_x29, .ref (ρ h0 30), .ref (ρ h0 31), .int o28_x32, .long o28_x33, .long o28_x34, .long o28_x35, .int o28_x36, .int o28_x37, .int o28_x38, .ref (ρ h0 39), .ref (ρ h0 40), .ref (ρ h0 41), .ref (ρ h0 42), .ref (ρ h0 43), .ref (ρ h0 44), .ref (ρ h0 45), .ref (ρ h0 46), .int o28_x47, .int o28_x48, .ref (ρ h0 49), .ref (ρ h0 50), .ref (ρ h0 51), .ref (ρ h0 52)])) hD (tp_in hG ht_h0 (by decide)) eq29 (fun f30 H locs hP hD hS g32 k31 => ?_))
  have hT := hT.up ht_h0 g32 k31 ⟨_, _, _, _, _, _, _, _, _, _, _, _, _, _, _, _, _, _, _, _, _, _, _, _, _, _, _, _, rfl, ro28_0, ro28_1, ro28_2, ro28_3, ro28_4, ro28_5, ro28_6, ro28_7, ro28_8, ro28_9, ro28_10, ro28_11, ro28_12, ro28_13⟩
  have hR := hR.up ht_h0 (by decide) k31
  refine lv_iload_n hx hb dX12_reading_5 rfl (lv_at hl 2 rfl) ?_
  refine lv_i2l hx hb dX12_reading_6 rfl ?_
  refine lv_lconst (v := 0) hx hb dX12_reading_7 (by decide) ?_
  refine lv_lconst (v := 1) hx hb dX12_reading_8 (by decide) ?_
  have hf_33 : f30 (ρ h0 2) = .inl (κ 0, 12967, .inl g27) := (k31 _ (tp_ne y1 ht_h0 (by decide))).trans hf_o26
  refine pz_calli (va_runS (As := [.long u.toInt64, .long 0, .long 1]) (rest := []) ⟨hx, hb, hml, hown, hts⟩ (t_X12_in l dC dI _ u.toInt64 (0) (1) (u.toInt) (0) (1) (Int32.toInt_toInt64 u) rfl rfl) (va_cwS 3 hts gX12_reading_X12_in rfl rfl rfl (by decide +kernel) ⟨Nat.le_of_ble_eq_true rfl, Nat.le_of_ble_eq_true rfl⟩) ⟨pz_blind, pz_pre pz_P0 (hK.sub (tys' := []) [] rfl) (pz_D0 (A := fun _ => True)) hN⟩ rfl rfl hl.1 rfl (lv_room (Nat.le_of_ble_eq_true rfl)) dX12_reading_9 ⟨Nat.le_of_ble_eq_true rfl, Nat.le_of_ble_eq_true rfl⟩) (fun r34 hw35 => ?_)
  obtain ⟨hw35r, hw35p⟩ := hw35
  refine lv_if_eq (tgt := 50) hx hb dX12_reading_12 (by decide) (fun c36 => ?_) (fun c36 => ?_)
  · have ic36 : r34.toInt = 0 := zi_eq rfl rfl c36
    refine lv_aload_n hx hb dX12_reading_50 rfl (lv_at hl 0 rfl) ?_
    refine lv_iconst (v := (-1)) hx hb dX12_reading_51 (by decide) ?_
    obtain ⟨q37, eq37⟩ := tp_pos (tp_in hG ht_h0 (by decide)) g32
    have hFc := tp_fr hD hS hA
    refine va_calli (va_runV (As := [.int (-1)]) (rest := []) ⟨hx, hb, hml, hown, hts⟩ (t_X12_told l dC dI _ κ τ ν ρ L f30 hG hT h0 ((-1)) ht_h0) (cwV 1 hts gX12_reading_X12_told rfl rfl rfl (by decide +kernel) ⟨Nat.le_of_ble_eq_true rfl, Nat.le_of_ble_eq_true rfl⟩) ⟨pz_blind, va_recv hK hP (ci := 12) (q0 := q37) rfl eq37, pz_pre hP hK hD hN⟩ rfl rfl hl.1 rfl (lv_room (Nat.le_of_ble_eq_true rfl)) dX12_reading_52 ⟨Nat.le_of_ble_eq_true rfl, Nat.le_of_ble_eq_true rfl⟩) hS (fun q _ h => hFc q h) hFc (fun r38 f40 t H1 locs ht hvm hw39 hB hz1 hk1 hS => ?_)
    obtain ⟨hT, hF41, hw39r, hw39p⟩ := hw39
    have hR := hR.then hF41 (by decide)
    have hP := hB.1; rw [ht] at hP; have hD := tp_ad f40 hD; clear hB hFc hz1 hk1; subst ht; generalize t.heap = H at hP hS ⊢
    have hw39pq : r38.toInt = (-1) := by rw [hw39p]; rfl
    have hf_42 : f40 (ρ h0 2) = .inl (κ 0, 12967, .inl g27) := (hF41 _ (by rw [y1]; decide)).trans hf_33
    exact W.iret (v := r38) hx hb hr (fun t ht hW => ⟨⟨r38, f40, rfl, ⟨hT, hR, trivial, (by rw [hf_42, mo_i1]; exact hI)⟩, by rw [ht]; exact hP, va_K.moved hW.alike hK, hD⟩, hS.F ht⟩) hS.2.2 dX12_reading_55
  · have ic36 : r34.toInt ≠ 0 := zi_eqf rfl rfl c36
    have p43 : (0) ≤ (u.toInt) ∧ (u.toInt) ≤ (1) := (tp_cond.yes hw35p) (by omega)
    refine lv_iload_n hx hb dX12_reading_15 rfl (lv_at hl 3 rfl) ?_
    refine lv_i2l hx hb dX12_reading_16 rfl ?_
    refine lv_lconst (v := 0) hx hb dX12_reading_17 (by decide) ?_
    refine lv_ldc2 (own := RX12) (v := 5000) hx hb hown (hts (.constantLong RX12 481 (5000)) (by decide +kernel)) dX12_reading_18 ?_
    refine pz_calli (va_runS (As := [.long a.toInt64, .long 0, .long 5000]) (rest := []) ⟨hx, hb, hml, hown, hts⟩ (t_X12_in l dC dI _ a.toInt64 (0) (5000) (a.toInt) (0) (5000) (Int32.toInt_toInt64 a) rfl rfl) (va_cwS 3 hts gX12_reading_X12_in rfl rfl rfl (by decide +kernel) ⟨Nat.le_of_ble_eq_true rfl, Nat.le_of_ble_eq_true rfl⟩) ⟨pz_blind, pz_pre pz_P0 (hK.sub (tys' := []) [] rfl) (pz_D0 (A := fun _ => True)) hN⟩ rfl rfl hl.1 rfl (lv_room (Nat.le_of_ble_eq_true rfl)) dX12_reading_21 ⟨Nat.le_of_ble_eq_true rfl, Nat.le_of_ble_eq_true rfl⟩) (fun r44 hw45 => ?_)
    obtain ⟨hw45r, hw45p⟩ := hw45
    refine lv_if_eq (tgt := 50) hx hb dX12_reading_24 (by decide) (fun c46 => ?_) (fun c46 => ?_)
    · have ic46 : r44.toInt = 0 := zi_eq rfl rfl c46
      refine lv_aload_n hx hb dX12_reading_50 rfl (lv_at hl 0 rfl) ?_
      refine lv_iconst (v := (-1)) hx hb dX12_reading_51 (by decide) ?_
      obtain ⟨q47, eq47⟩ := tp_pos (tp_in hG ht_h0 (by decide)) g32
      have hFc := tp_fr hD hS hA
      refine va_calli (va_runV (As := [.int (-1)]) (rest := []) ⟨hx, hb, hml, hown, hts⟩ (t_X12_told l dC dI _ κ τ ν ρ L f30 hG hT h0 ((-1)) ht_h0) (cwV 1 hts gX12_reading_X12_told rfl rfl rfl (by decide +kernel) ⟨Nat.le_of_ble_eq_true rfl, Nat.le_of_ble_eq_true rfl⟩) ⟨pz_blind, va_recv hK hP (ci := 12) (q0 := q47) rfl eq47, pz_pre hP hK hD hN⟩ rfl rfl hl.1 rfl (lv_room (Nat.le_of_ble_eq_true rfl)) dX12_reading_52 ⟨Nat.le_of_ble_eq_true rfl, Nat.le_of_ble_eq_true rfl⟩) hS (fun q _ h => hFc q h) hFc (fun r48 f50 t H1 locs ht hvm hw49 hB hz1 hk1 hS => ?_)
      obtain ⟨hT, hF51, hw49r, hw49p⟩ := hw49
      have hR := hR.then hF51 (by decide)
      have hP := hB.1; rw [ht] at hP; have hD := tp_ad f50 hD; clear hB hFc hz1 hk1; subst ht; generalize t.heap = H at hP hS ⊢
      have hw49pq : r48.toInt = (-1) := by rw [hw49p]; rfl
      have hf_52 : f50 (ρ h0 2) = .inl (κ 0, 12967, .inl g27) := (hF51 _ (by rw [y1]; decide)).trans hf_33
      exact W.iret (v := r48) hx hb hr (fun t ht hW => ⟨⟨r48, f50, rfl, ⟨hT, hR, trivial, (by rw [hf_52, mo_i1]; exact hI)⟩, by rw [ht]; exact hP, va_K.moved hW.alike hK, hD⟩, hS.F ht⟩) hS.2.2 dX12_reading_55
    · have ic46 : r44.toInt ≠ 0 := zi_eqf rfl rfl c46
      have p53 : (0) ≤ (a.toInt) ∧ (a.toInt) ≤ (5000) := (tp_cond.yes hw45p) (by omega)
      refine lv_iload hx hb dX12_reading_27 (lv_at hl 4 rfl) ?_
      refine lv_i2l hx hb dX12_reading_29 rfl ?_
      refine lv_ldc2 (own := RX12) (v := (-20)) hx hb hown (hts (.constantLong RX12 485 (-20)) (by decide +kernel)) dX12_reading_30 ?_
      refine lv_ldc2 (own := RX12) (v := 20) hx hb hown (hts (.constantLong RX12 487 (20)) (by decide +kernel)) dX12_reading_33 ?_
      refine pz_calli (va_runS (As := [.long a4.toInt64, .long (-20), .long 20]) (rest := []) ⟨hx, hb, hml, hown, hts⟩ (t_X12_in l dC dI _ a4.toInt64 ((-20)) (20) (a4.toInt) ((-20)) (20) (Int32.toInt_toInt64 a4) rfl rfl) (va_cwS 3 hts gX12_reading_X12_in rfl rfl rfl (by decide +kernel) ⟨Nat.le_of_ble_eq_true rfl, Nat.le_of_ble_eq_true rfl⟩) ⟨pz_blind, pz_pre pz_P0 (hK.sub (tys' := []) [] rfl) (pz_D0 (A := fun _ => True)) hN⟩ rfl rfl hl.1 rfl (lv_room (Nat.le_of_ble_eq_true rfl)) dX12_reading_36 ⟨Nat.le_of_ble_eq_true rfl, Nat.le_of_ble_eq_true rfl⟩) (fun r54 hw55 => ?_)
      obtain ⟨hw55r, hw55p⟩ := hw55
      refine lv_if_eq (tgt := 50) hx hb dX12_reading_39 (by decide) (fun c56 => ?_) (fun c56 => ?_)
      · have ic56 : r54.toInt = 0 := zi_eq rfl rfl c56
        refine lv_aload_n hx hb dX12_reading_50 rfl (lv_at hl 0 rfl) ?_
        refine lv_iconst (v := (-1)) hx hb dX12_reading_51 (by decide) ?_
        obtain ⟨q57, eq57⟩ := tp_pos (tp_in hG ht_h0 (by decide)) g32
        have hFc := tp_fr hD hS hA
        refine va_calli (va_runV (As := [.int (-1)]) (rest := []) ⟨hx, hb, hml, hown, hts⟩ (t_X12_told l dC dI _ κ τ ν ρ L f30 hG hT h0 ((-1)) ht_h0) (cwV 1 hts gX12_reading_X12_told rfl rfl rfl (by decide +kernel) ⟨Nat.le_of_ble_eq_true rfl, Nat.le_of_ble_eq_true rfl⟩) ⟨pz_blind, va_recv hK hP (ci := 12) (q0 := q57) rfl eq57, pz_pre hP hK hD hN⟩ rfl rfl hl.1 rfl (lv_room (Nat.le_of_ble_eq_true rfl)) dX12_reading_52 ⟨Nat.le_of_ble_eq_true rfl, Nat.le_of_ble_eq_true rfl⟩) hS (fun q _ h => hFc q h) hFc (fun r58 f60 t H1 locs ht hvm hw59 hB hz1 hk1 hS => ?_)
        obtain ⟨hT, hF61, hw59r, hw59p⟩ := hw59
        have hR := hR.then hF61 (by decide)
        have hP := hB.1; rw [ht] at hP; have hD := tp_ad f60 hD; clear hB hFc hz1 hk1; subst ht; generalize t.heap = H at hP hS ⊢
        have hw59pq : r58.toInt = (-1) := by rw [hw59p]; rfl
        have hf_62 : f60 (ρ h0 2) = .inl (κ 0, 12967, .inl g27) := (hF61 _ (by rw [y1]; decide)).trans hf_33
        exact W.iret (v := r58) hx hb hr (fun t ht hW => ⟨⟨r58, f60, rfl, ⟨hT, hR, trivial, (by rw [hf_62, mo_i1]; exact hI)⟩, by rw [ht]; exact hP, va_K.moved hW.alike hK, hD⟩, hS.F ht⟩) hS.2.2 dX12_reading_55
      · have ic56 : r54.toInt ≠ 0 := zi_eqf rfl rfl c56
        have p63 : ((-20)) ≤ (a4.toInt) ∧ (a4.toInt) ≤ (20) := (tp_cond.yes hw55p) (by omega)
        refine lv_iload hx hb dX12_reading_42 (lv_at hl 5 rfl) ?_
        refine pz_calli (va_runS (As := [.int a5]) (rest := []) ⟨hx, hb, hml, hown, hts⟩ (t_X12_isHour l dC dI _ a5 (a5.toInt) rfl) (va_cwS 1 hts gX12_reading_X12_isHour rfl rfl rfl (by decide +kernel) ⟨Nat.le_of_ble_eq_true rfl, Nat.le_of_ble_eq_true rfl⟩) ⟨pz_blind, pz_pre pz_P0 (hK.sub (tys' := []) [] rfl) (pz_D0 (A := fun _ => True)) hN⟩ rfl rfl hl.1 rfl (lv_room (Nat.le_of_ble_eq_true rfl)) dX12_reading_44 ⟨Nat.le_of_ble_eq_true rfl, Nat.le_of_ble_eq_true rfl⟩) (fun r64 hw65 => ?_)
        obtain ⟨hw65r, hw65p⟩ := hw65
        refine lv_if_ne (tgt := 56) hx hb dX12_reading_47 (by decide) (fun c66 => ?_) (fun c66 => ?_)
        · have ic66 : r64.toInt ≠ 0 := zi_ne rfl rfl c66
          have p67 : 0 ≤ (a5.toInt) ∧ (a5.toInt) ≤ 2399 := (tp_cond.yes hw65p) (by omega)
          refine lv_aload_n hx hb dX12_reading_56 rfl (lv_at hl 0 rfl) ?_
          refine lv_iload_n hx hb dX12_reading_57 rfl (lv_at hl 1 rfl) ?_
          obtain ⟨q68, eq68⟩ := tp_pos (tp_in hG ht_h0 (by decide)) g32
          refine pz_calli (va_runV (As := [.int v]) (rest := []) ⟨hx, hb, hml, hown, hts⟩ (t_X12_isLanding l dC dI _ κ τ ν ρ L f30 hG hT h0 v (-1) 0 ht_h0 (by rw [hf_33, mo_i1]; exact hI)) (cwV 1 hts gX12_reading_X12_isLanding rfl rfl rfl (by decide +kernel) ⟨Nat.le_of_ble_eq_true rfl, Nat.le_of_ble_eq_true rfl⟩) ⟨pz_blind, va_recv hK hP (ci := 12) (q0 := q68) rfl eq68, pz_pre hP hK hD hN⟩ rfl rfl hl.1 rfl (lv_room (Nat.le_of_ble_eq_true rfl)) dX12_reading_58 ⟨Nat.le_of_ble_eq_true rfl, Nat.le_of_ble_eq_true rfl⟩) (fun r69 hw70 => ?_)
          obtain ⟨hw70r, hw70p⟩ := hw70
          have := hI.k5
          rw [hf_33, mo_i1] at hw70p
          refine lv_if_ne (tgt := 71) hx hb dX12_reading_61 (by decide) (fun c71 => ?_) (fun c71 => ?_)
          · have ic71 : r69.toInt ≠ 0 := zi_ne rfl rfl c71
            have p72 : 0 ≤ v.toInt ∧ v.toInt < mo_R g27 5 := (tp_cond.yes hw70p) (by omega)
            refine lv_aload_n hx hb dX12_reading_71 rfl (lv_at hl 0 rfl) ?_
            refine va_get (D := (dC, dI)) (ci := 12) (v := .ref (ρ h0 2)) (C := RX12) (T := TX12) (N := 53) hx hb hts hfX12 hown hK hP q68 eq68 rfl 2 (by decide) (hts (.fieldLink RX12 7 "ColdShipsModel" "row" "[I") (by decide +kernel)) (fun _ h9 => h9) rfl dX12_reading_72 ?_
            refine lv_bipush (v := 9) hx hb dX12_reading_75 (by decide) ?_
            obtain ⟨q73, eq73⟩ := tp_pos (tp_in hG y1 (by decide)) hf_33
            refine va_iald hx hb hK hP q73 0 eq73 rfl (vp_in_iff.mpr ⟨by decide, by decide⟩) dX12_reading_77 ?_
            refine lv_topi (fun z74 ez74 => ?_)
            have jz74 : z74.toInt = mo_R g27 (9) := mo_rd ez74 (show (9 : Int32).toInt = (9) from by decide)
            have kz74 := hI.k9
            refine lv_bipush (v := 60) hx hb dX12_reading_78 (by decide) ?_
            refine lv_icmp_ne (tgt := 90) hx hb dX12_reading_80 (by decide) (fun c75 => ?_) (fun c75 => ?_)
            · have ic75 : z74.toInt ≠ 60 := zi_ne rfl rfl c75
              refine lv_sipush (v := 12619) hx hb dX12_reading_90 (by decide) ?_
              refine lv_iconst (v := 5) hx hb dX12_reading_93 (by decide) ?_
              refine lv_aload_n hx hb dX12_reading_94 rfl (lv_at hl 0 rfl) ?_
              refine va_get (D := (dC, dI)) (ci := 12) (v := .ref (ρ h0 2)) (C := RX12) (T := TX12) (N := 53) hx hb hts hfX12 hown hK hP q68 eq68 rfl 2 (by decide) (hts (.fieldLink RX12 7 "ColdShipsModel" "row" "[I") (by decide +kernel)) (fun _ h9 => h9) rfl dX12_reading_95 ?_
              refine lv_bipush (v := 9) hx hb dX12_reading_98 (by decide) ?_
              refine va_iald hx hb hK hP q73 0 eq73 rfl (vp_in_iff.mpr ⟨by decide, by decide⟩) dX12_reading_100 ?_
              refine lv_topi (fun z76 ez76 => ?_)
              have jz76 : z76.toInt = mo_R g27 (9) := mo_rd ez76 (show (9 : Int32).toInt = (9) from by decide)
              have kz76 := hI.k9
              refine lv_imul hx hb dX12_reading_101 ?_
              refine lv_topi (fun z77 ez77 => ?_)
              have iz77 : z77.toInt = 5 * z76.toInt := zi_mul ez77 rfl rfl (by omega) (by omega)
              refine lv_iadd hx hb dX12_reading_102 ?_
              refine lv_topi (fun z78 ez78 => ?_)
              have iz78 : z78.toInt = 12619 + z77.toInt := zi_add ez78 rfl rfl (by omega) (by omega)
              refine lv_istore (lv' := [(6, .int z78), (0, .ref h0), (1, .int v), (2, .int u), (3, .int a), (4, .int a4), (5, .int a5)]) hx hb dX12_reading_103 hl (by decide) rfl (fun ls hl => ?_)
              refine lv_aload_n hx hb dX12_reading_105 rfl (lv_at hl 1 rfl) ?_
              refine lv_iload hx hb dX12_reading_106 (lv_at hl 0 rfl) ?_
              refine lv_iload_n hx hb dX12_reading_108 rfl (lv_at hl 2 rfl) ?_
              refine lv_iload_n hx hb dX12_reading_109 rfl (lv_at hl 3 rfl) ?_
              refine lv_iload_n hx hb dX12_reading_110 rfl (lv_at hl 4 rfl) ?_
              refine lv_iload hx hb dX12_reading_111 (lv_at hl 5 rfl) ?_
              have hFc := tp_fr hD hS hA
              refine va_callv (va_runV (As := [.int z78, .int v, .int u, .int a, .int a4]) (rest := []) ⟨hx, hb, hml, hown, hts⟩ (t_X12_addFour l dC dI _ κ τ ν ρ L f30 hG hT h0 z78 v u a a4 ht_h0 (by first | decide | omega)) (cwV 5 hts gX12_reading_X12_addFour rfl rfl rfl (by decide +kernel) ⟨Nat.le_of_ble_eq_true rfl, Nat.le_of_ble_eq_true rfl⟩) ⟨pz_blind, va_recv hK hP (ci := 12) (q0 := q68) rfl eq68, pz_pre hP hK hD hN⟩ rfl rfl hl.1 rfl (lv_room (Nat.le_of_ble_eq_true rfl)) dX12_reading_113 ⟨Nat.le_of_ble_eq_true rfl, Nat.le_of_ble_eq_true rfl⟩) hS (fun q _ h => hFc q h) hFc (fun f81 t H1 locs ht hvm hw80 hB hz1 hk1 hS => ?_)
              obtain ⟨hT, hF82, hw80p⟩ := hw80
              have hR := hR.then hF82 (by decide)
              have hP := hB.1; rw [ht] at hP; have hD := tp_ad f81 hD; clear hB hFc hz1 hk1; subst ht; generalize t.heap = H at hP hS ⊢
              rw [hf_33, mo_i1] at hw80p
              obtain ⟨Q1_82, Q2_82, Q3_82, u1_82, u2_82, u3_82, u4_82⟩ := hw80p
              obtain ⟨g84, hf_o83⟩ := tpo_32 hT y1
              rw [hf_o83, mo_i1] at u4_82
              have hU : mo_U (mo_R g27) (Q1_82) (12619 + 5 * z74.toInt) (v.toInt) := by have q9 := u1_82; rw [show z78.toInt = (12619 + 5 * z74.toInt) by omega] at q9; exact q9
              have hI := mo_w_flat hI hU (by omega)
              have pn85 : Q1_82 (9) = z74.toInt := (hU.ne (by omega) (by omega)).trans (jz74).symm
              have hU : mo_U (Q1_82) (Q2_82) (12620 + 5 * z74.toInt) (u.toInt) := by have q9 := u2_82; rw [show z78.toInt + 1 = (12620 + 5 * z74.toInt) by omega] at q9; exact q9
              have hI := mo_w_flat hI hU (by omega)
              have pn86 : Q2_82 (9) = z74.toInt := (hU.ne (by omega) (by omega)).trans pn85
              have hU : mo_U (Q2_82) (Q3_82) (12621 + 5 * z74.toInt) (a.toInt) := by have q9 := u3_82; rw [show z78.toInt + 2 = (12621 + 5 * z74.toInt) by omega] at q9; exact q9
              have hI := mo_w_flat hI hU (by omega)
              have pn87 : Q3_82 (9) = z74.toInt := (hU.ne (by omega) (by omega)).trans pn86
              have hU : mo_U (Q3_82) (mo_R g84) (12622 + 5 * z74.toInt) (a4.toInt) := by have q9 := u4_82; rw [show z78.toInt + 3 = (12622 + 5 * z74.toInt) by omega] at q9; exact q9
              have hI := mo_w_flat hI hU (by omega)
              have pn88 : mo_R g84 (9) = z74.toInt := (hU.ne (by omega) (by omega)).trans pn87
              refine lv_aload_n hx hb dX12_reading_116 rfl (lv_at hl 1 rfl) ?_
              have hf_89 : f81 h0 = .inr (12, [.int 0, .int o28_x1, .ref (ρ h0 2), .ref (ρ h0 3), .ref (ρ h0 4), .ref (ρ h0 5), .ref (ρ h0 6), .int o28_x7, .ref (ρ h0 8), .int o28_x9, .int o28_x10, .int o28_x11, .int o28_x12, .long o28_x13, .int o28_x14, .int o28_x15, .int o28_x16, .int o28_x17, .int o28_x18, .int o28_x19, .int o28_x20, .ref (ρ h0 21), .int o28_x22, .ref (ρ h0 23), .ref (ρ h0 24), .int o28_x25, .ref (ρ h0 26), .ref (ρ h0 27), .int o28_x28, .int o28_x29, .ref (ρ h0 30), .ref (ρ h0 31), .int o28_x32, .long o28_x33, .long o28_x34, .long o28_x35, .int o28_x36, .int o28_x37, .int o28_x38, .ref (ρ h0 39), .ref (ρ h0 40), .ref (ρ h0 41), .ref (ρ h0 42), .ref (ρ h0 43), .ref (ρ h0 44), .ref (ρ h0 45), .ref (ρ h0 46), .int o28_x47, .int o28_x48, .ref (ρ h0 49), .ref (ρ h0 50), .ref (ρ h0 51), .ref (ρ h0 52)]) := (hF82 _ (by rw [ht_h0]; decide)).trans g32
              obtain ⟨q90, eq90⟩ := tp_pos (tp_in hG ht_h0 (by decide)) hf_89
              refine va_get (D := (dC, dI)) (ci := 12) (v := .ref (ρ h0 2)) (C := RX12) (T := TX12) (N := 53) hx hb hts hfX12 hown hK hP q90 eq90 rfl 2 (by decide) (hts (.fieldLink RX12 7 "ColdShipsModel" "row" "[I") (by decide +kernel)) (fun _ h9 => h9) rfl dX12_reading_117 ?_
              refine lv_iload hx hb dX12_reading_120 (lv_at hl 0 rfl) ?_
              refine lv_iconst (v := 4) hx hb dX12_reading_122 (by decide) ?_
              refine lv_iadd hx hb dX12_reading_123 ?_
              refine lv_topi (fun z91 ez91 => ?_)
              have iz91 : z91.toInt = z78.toInt + 4 := zi_add ez91 rfl rfl (by omega) (by omega)
              refine lv_iload hx hb dX12_reading_124 (lv_at hl 6 rfl) ?_
              obtain ⟨q92, eq92⟩ := tp_pos (tp_in hG y1 (by decide)) hf_o83
              refine va_iast hx hb hK hP hD hS q92 0 eq92 rfl (vp_in_iff.mpr ⟨by omega, by omega⟩) dX12_reading_126 (tp_k (.inl (κ 0, 12967, .inl (upd g84 z91.toNatClampNeg a5))) hD (tp_in hG y1 (by decide)) eq92 (fun f93 H locs hP hD hS g95 k94 => ?_))
              have hT := hT.up y1 g95 k94 tp_o32
              have hR := hR.up y1 (by decide) k94
              have hU : mo_U (mo_R g84) (mo_R (upd g84 z91.toNatClampNeg a5)) (12623 + 5 * z74.toInt) (a5.toInt) := mo_up (by omega) (rfl : a5.toInt = _) (by omega)
              generalize (upd g84 z91.toNatClampNeg a5) = g96 at g95 hU
              have hI := mo_w_flat hI hU (by omega)
              have pn97 : mo_R g96 (9) = z74.toInt := (hU.ne (by omega) (by omega)).trans pn88
              refine lv_aload_n hx hb dX12_reading_127 rfl (lv_at hl 1 rfl) ?_
              have hf_98 : f93 h0 = .inr (12, [.int 0, .int o28_x1, .ref (ρ h0 2), .ref (ρ h0 3), .ref (ρ h0 4), .ref (ρ h0 5), .ref (ρ h0 6), .int o28_x7, .ref (ρ h0 8), .int o28_x9, .int o28_x10, .int o28_x11, .int o28_x12, .long o28_x13, .int o28_x14, .int o28_x15, .int o28_x16, .int o28_x17, .int o28_x18, .int o28_x19, .int o28_x20, .ref (ρ h0 21), .int o28_x22, .ref (ρ h0 23), .ref (ρ h0 24), .int o28_x25, .ref (ρ h0 26), .ref (ρ h0 27), .int o28_x28, .int o28_x29, .ref (ρ h0 30), .ref (ρ h0 31), .int o28_x32, .long o28_x33, .long o28_x34, .long o28_x35, .int o28_x36, .int o28_x37, .int o28_x38, .ref (ρ h0 39), .ref (ρ h0 40), .ref (ρ h0 41), .ref (ρ h0 42), .ref (ρ h0 43), .ref (ρ h0 44), .ref (ρ h0 45), .ref (ρ h0 46), .int o28_x47, .int o28_x48, .ref (ρ h0 49), .ref (ρ h0 50), .ref (ρ h0 51), .ref (ρ h0 52)]) := (k94 _ (tp_ne ht_h0 y1 (by decide))).trans hf_89
              obtain ⟨q99, eq99⟩ := tp_pos (tp_in hG ht_h0 (by decide)) hf_98
              refine va_get (D := (dC, dI)) (ci := 12) (v := .ref (ρ h0 2)) (C := RX12) (T := TX12) (N := 53) hx hb hts hfX12 hown hK hP q99 eq99 rfl 2 (by decide) (hts (.fieldLink RX12 7 "ColdShipsModel" "row" "[I") (by decide +kernel)) (fun _ h9 => h9) rfl dX12_reading_128 ?_
              refine lv_bipush (v := 9) hx hb dX12_reading_131 (by decide) ?_
              refine lv_dup2_11 hx hb dX12_reading_133 rfl rfl ?_
              obtain ⟨q100, eq100⟩ := tp_pos (tp_in hG y1 (by decide)) g95
              refine va_iald hx hb hK hP q100 0 eq100 rfl (vp_in_iff.mpr ⟨by decide, by decide⟩) dX12_reading_134 ?_
              refine lv_topi (fun z101 ez101 => ?_)
              have jz101 : z101.toInt = mo_R g96 (9) := mo_rd ez101 (show (9 : Int32).toInt = (9) from by decide)
              have kz101 := hI.k9
              refine lv_iconst (v := 1) hx hb dX12_reading_135 (by decide) ?_
              refine lv_iadd hx hb dX12_reading_136 ?_
              refine lv_topi (fun z102 ez102 => ?_)
              have iz102 : z102.toInt = z101.toInt + 1 := zi_add ez102 rfl rfl (by omega) (by omega)
              refine va_iast hx hb hK hP hD hS q100 0 eq100 rfl (vp_in_iff.mpr ⟨by decide, by decide⟩) dX12_reading_137 (tp_k (.inl (κ 0, 12967, .inl (upd g96 (9 : Int32).toNatClampNeg z102))) hD (tp_in hG y1 (by decide)) eq100 (fun f103 H locs hP hD hS g105 k104 => ?_))
              have hT := hT.up y1 g105 k104 tp_o32
              have hR := hR.up y1 (by decide) k104
              have hU : mo_U (mo_R g96) (mo_R (upd g96 (9 : Int32).toNatClampNeg z102)) (9) (z102.toInt) := mo_up (show (9 : Int32).toInt = (9) from by decide) (rfl : z102.toInt = _) (by omega)
              generalize (upd g96 (9 : Int32).toNatClampNeg z102) = g106 at g105 hU
              have hI := mo_w_cnt hI hU (by omega) (by omega)
              have pn107 : mo_R g106 (9) = z102.toInt := hU.eq (by omega)
              refine lv_aload_n hx hb dX12_reading_138 rfl (lv_at hl 1 rfl) ?_
              refine lv_aload_n hx hb dX12_reading_139 rfl (lv_at hl 1 rfl) ?_
              have hf_108 : f103 h0 = .inr (12, [.int 0, .int o28_x1, .ref (ρ h0 2), .ref (ρ h0 3), .ref (ρ h0 4), .ref (ρ h0 5), .ref (ρ h0 6), .int o28_x7, .ref (ρ h0 8), .int o28_x9, .int o28_x10, .int o28_x11, .int o28_x12, .long o28_x13, .int o28_x14, .int o28_x15, .int o28_x16, .int o28_x17, .int o28_x18, .int o28_x19, .int o28_x20, .ref (ρ h0 21), .int o28_x22, .ref (ρ h0 23), .ref (ρ h0 24), .int o28_x25, .ref (ρ h0 26), .ref (ρ h0 27), .int o28_x28, .int o28_x29, .ref (ρ h0 30), .ref (ρ h0 31), .int o28_x32, .long o28_x33, .long o28_x34, .long o28_x35, .int o28_x36, .int o28_x37, .int o28_x38, .ref (ρ h0 39), .ref (ρ h0 40), .ref (ρ h0 41), .ref (ρ h0 42), .ref (ρ h0 43), .ref (ρ h0 44), .ref (ρ h0 45), .ref (ρ h0 46), .int o28_x47, .int o28_x48, .ref (ρ h0 49), .ref (ρ h0 50), .ref (ρ h0 51), .ref (ρ h0 52)]) := (k104 _ (tp_ne ht_h0 y1 (by decide))).trans hf_98
              obtain ⟨q109, eq109⟩ := tp_pos (tp_in hG ht_h0 (by decide)) hf_108
              refine va_get (D := (dC, dI)) (ci := 12) (v := .ref (ρ h0 2)) (C := RX12) (T := TX12) (N := 53) hx hb hts hfX12 hown hK hP q109 eq109 rfl 2 (by decide) (hts (.fieldLink RX12 7 "ColdShipsModel" "row" "[I") (by decide +kernel)) (fun _ h9 => h9) rfl dX12_reading_140 ?_
              refine lv_bipush (v := 9) hx hb dX12_reading_143 (by decide) ?_
              obtain ⟨q110, eq110⟩ := tp_pos (tp_in hG y1 (by decide)) g105
              refine va_iald hx hb hK hP q110 0 eq110 rfl (vp_in_iff.mpr ⟨by decide, by decide⟩) dX12_reading_145 ?_
              refine lv_topi (fun z111 ez111 => ?_)
              have jz111 : z111.toInt = mo_R g106 (9) := mo_rd ez111 (show (9 : Int32).toInt = (9) from by decide)
              have kz111 := hI.k9
              have hFc := tp_fr hD hS hA
              refine va_calli (va_runV (As := [.int z111]) (rest := []) ⟨hx, hb, hml, hown, hts⟩ (t_X12_told l dC dI _ κ τ ν ρ L f103 hG hT h0 z111 ht_h0) (cwV 1 hts gX12_reading_X12_told rfl rfl rfl (by decide +kernel) ⟨Nat.le_of_ble_eq_true rfl, Nat.le_of_ble_eq_true rfl⟩) ⟨pz_blind, va_recv hK hP (ci := 12) (q0 := q109) rfl eq109, pz_pre hP hK hD hN⟩ rfl rfl hl.1 rfl (lv_room (Nat.le_of_ble_eq_true rfl)) dX12_reading_146 ⟨Nat.le_of_ble_eq_true rfl, Nat.le_of_ble_eq_true rfl⟩) hS (fun q _ h => hFc q h) hFc (fun r112 f114 t H1 locs ht hvm hw113 hB hz1 hk1 hS => ?_)
              obtain ⟨hT, hF115, hw113r, hw113p⟩ := hw113
              have hR := hR.then hF115 (by decide)
              have hP := hB.1; rw [ht] at hP; have hD := tp_ad f114 hD; clear hB hFc hz1 hk1; subst ht; generalize t.heap = H at hP hS ⊢
              have hw113pq : r112.toInt = z111.toInt := by rw [hw113p]
              have hf_116 : f114 (ρ h0 2) = .inl (κ 0, 12967, .inl g106) := (hF115 _ (by rw [y1]; decide)).trans g105
              exact W.iret (v := r112) hx hb hr (fun t ht hW => ⟨⟨r112, f114, rfl, ⟨hT, hR, trivial, (by rw [hf_116, mo_i1]; exact hI)⟩, by rw [ht]; exact hP, va_K.moved hW.alike hK, hD⟩, hS.F ht⟩) hS.2.2 dX12_reading_149
            · have ic75 : z74.toInt = 60 := zi_nef rfl rfl c75
              refine lv_aload_n hx hb dX12_reading_83 rfl (lv_at hl 0 rfl) ?_
              refine lv_bipush (v := (-5)) hx hb dX12_reading_84 (by decide) ?_
              have hFc := tp_fr hD hS hA
              refine va_calli (va_runV (As := [.int (-5)]) (rest := []) ⟨hx, hb, hml, hown, hts⟩ (t_X12_told l dC dI _ κ τ ν ρ L f30 hG hT h0 ((-5)) ht_h0) (cwV 1 hts gX12_reading_X12_told rfl rfl rfl (by decide +kernel) ⟨Nat.le_of_ble_eq_true rfl, Nat.le_of_ble_eq_true rfl⟩) ⟨pz_blind, va_recv hK hP (ci := 12) (q0 := q68) rfl eq68, pz_pre hP hK hD hN⟩ rfl rfl hl.1 rfl (lv_room (Nat.le_of_ble_eq_true rfl)) dX12_reading_86 ⟨Nat.le_of_ble_eq_true rfl, Nat.le_of_ble_eq_true rfl⟩) hS (fun q _ h => hFc q h) hFc (fun r117 f119 t H1 locs ht hvm hw118 hB hz1 hk1 hS => ?_)
              obtain ⟨hT, hF120, hw118r, hw118p⟩ := hw118
              have hR := hR.then hF120 (by decide)
              have hP := hB.1; rw [ht] at hP; have hD := tp_ad f119 hD; clear hB hFc hz1 hk1; subst ht; generalize t.heap = H at hP hS ⊢
              have hw118pq : r117.toInt = (-5) := by rw [hw118p]; rfl
              have hf_121 : f119 (ρ h0 2) = .inl (κ 0, 12967, .inl g27) := (hF120 _ (by rw [y1]; decide)).trans hf_33
              exact W.iret (v := r117) hx hb hr (fun t ht hW => ⟨⟨r117, f119, rfl, ⟨hT, hR, trivial, (by rw [hf_121, mo_i1]; exact hI)⟩, by rw [ht]; exact hP, va_K.moved hW.alike hK, hD⟩, hS.F ht⟩) hS.2.2 dX12_reading_89
          · have ic71 : r69.toInt = 0 := zi_nef rfl rfl c71
            refine lv_aload_n hx hb dX12_reading_64 rfl (lv_at hl 0 rfl) ?_
            refine lv_bipush (v := (-2)) hx hb dX12_reading_65 (by decide) ?_
            have hFc := tp_fr hD hS hA
            refine va_calli (va_runV (As := [.int (-2)]) (rest := []) ⟨hx, hb, hml, hown, hts⟩ (t_X12_told l dC dI _ κ τ ν ρ L f30 hG hT h0 ((-2)) ht_h0) (cwV 1 hts gX12_reading_X12_told rfl rfl rfl (by decide +kernel) ⟨Nat.le_of_ble_eq_true rfl, Nat.le_of_ble_eq_true rfl⟩) ⟨pz_blind, va_recv hK hP (ci := 12) (q0 := q68) rfl eq68, pz_pre hP hK hD hN⟩ rfl rfl hl.1 rfl (lv_room (Nat.le_of_ble_eq_true rfl)) dX12_reading_67 ⟨Nat.le_of_ble_eq_true rfl, Nat.le_of_ble_eq_true rfl⟩) hS (fun q _ h => hFc q h) hFc (fun r122 f124 t H1 locs ht hvm hw123 hB hz1 hk1 hS => ?_)
            obtain ⟨hT, hF125, hw123r, hw123p⟩ := hw123
            have hR := hR.then hF125 (by decide)
            have hP := hB.1; rw [ht] at hP; have hD := tp_ad f124 hD; clear hB hFc hz1 hk1; subst ht; generalize t.heap = H at hP hS ⊢
            have hw123pq : r122.toInt = (-2) := by rw [hw123p]; rfl
            have hf_126 : f124 (ρ h0 2) = .inl (κ 0, 12967, .inl g27) := (hF125 _ (by rw [y1]; decide)).trans hf_33
            exact W.iret (v := r122) hx hb hr (fun t ht hW => ⟨⟨r122, f124, rfl, ⟨hT, hR, trivial, (by rw [hf_126, mo_i1]; exact hI)⟩, by rw [ht]; exact hP, va_K.moved hW.alike hK, hD⟩, hS.F ht⟩) hS.2.2 dX12_reading_70
        · have ic66 : r64.toInt = 0 := zi_nef rfl rfl c66
          refine lv_aload_n hx hb dX12_reading_50 rfl (lv_at hl 0 rfl) ?_
          refine lv_iconst (v := (-1)) hx hb dX12_reading_51 (by decide) ?_
          obtain ⟨q127, eq127⟩ := tp_pos (tp_in hG ht_h0 (by decide)) g32
          have hFc := tp_fr hD hS hA
          refine va_calli (va_runV (As := [.int (-1)]) (rest := []) ⟨hx, hb, hml, hown, hts⟩ (t_X12_told l dC dI _ κ τ ν ρ L f30 hG hT h0 ((-1)) ht_h0) (cwV 1 hts gX12_reading_X12_told rfl rfl rfl (by decide +kernel) ⟨Nat.le_of_ble_eq_true rfl, Nat.le_of_ble_eq_true rfl⟩) ⟨pz_blind, va_recv hK hP (ci := 12) (q0 := q127) rfl eq127, pz_pre hP hK hD hN⟩ rfl rfl hl.1 rfl (lv_room (Nat.le_of_ble_eq_true rfl)) dX12_reading_52 ⟨Nat.le_of_ble_eq_true rfl, Nat.le_of_ble_eq_true rfl⟩) hS (fun q _ h => hFc q h) hFc (fun r128 f130 t H1 locs ht hvm hw129 hB hz1 hk1 hS => ?_)
          obtain ⟨hT, hF131, hw129r, hw129p⟩ := hw129
          have hR := hR.then hF131 (by decide)
          have hP := hB.1; rw [ht] at hP; have hD := tp_ad f130 hD; clear hB hFc hz1 hk1; subst ht; generalize t.heap = H at hP hS ⊢
          have hw129pq : r128.toInt = (-1) := by rw [hw129p]; rfl
          have hf_132 : f130 (ρ h0 2) = .inl (κ 0, 12967, .inl g27) := (hF131 _ (by rw [y1]; decide)).trans hf_33
          exact W.iret (v := r128) hx hb hr (fun t ht hW => ⟨⟨r128, f130, rfl, ⟨hT, hR, trivial, (by rw [hf_132, mo_i1]; exact hI)⟩, by rw [ht]; exact hP, va_K.moved hW.alike hK, hD⟩, hS.F ht⟩) hS.2.2 dX12_reading_55
set_option maxHeartbeats 4000000 in
set_option maxRecDepth 100000 in
theorem t_X12_cargo (l : Launch) (dC : Nat → ClassId) (dI : Nat → Nat → Nat) (sz : Nat) (κ : Nat → ClassId) (τ ν : Nat → Nat) (ρ : Nat → Nat → Nat) (L : List Nat) (f : Nat → va_E) (hG : tp_G τ ν ρ L) (hT : tp_T (mo_O κ) κ τ ν ρ f) (h0 : Nat) (v : Int32) (u : Int32) (a : Int32) (a4 : Int32) (a5 : Int32) (a6 : Int32) (a7 : Int32) (a8 : Int32) (ht_h0 : τ h0 = 13) (hJ : mo_RI (-1) 0 (mo_R (mo_i (f (ρ h0 2))))) : Met l yX12_cargo wsX12_cargo ({ frames := 4, cells := 0, slots := 0, locals := 1200 }) (va_Pc [.ref h0, .int v, .int u, .int a, .int a4, .int a5, .int a6, .int a7, .int a8] (pz_B dC dI (tp_K κ) (va_pl L f) sz)) (va_Qi (fun (r : Int32) (f1 : Nat → va_E) => tp_T (mo_O κ) κ τ ν ρ f1 ∧ tp_F τ [13, 32] f f1 ∧ True ∧ mo_RI (-1) 0 (mo_R (mo_i (f1 (ρ h0 2))))) (fun (f1 : Nat → va_E) (t : State) => pz_E dC dI (tp_K κ) (va_A (va_pl L f) sz) (va_pl L f1) t) (va_A (va_pl L f) sz)) 0 0 (va_A (va_pl L f) sz) := by
  refine Met.ofW (cc := cX12_cargo) (maxL := 10) (ret := some .int) (by decide) rfl ?_
  intro p e s m args below meth c s₁ B hml hv
  obtain ⟨rfl, hsz, hP, hK, hD0, hN⟩ := hv
  have hx := B.exec
  have hb := B.bytes
  have hr := B.returns
  have hts := atoms_spec (ws := wsX12_cargo) B.pre
  have hown : s.vm.findClass RX12 = some m.cls := findClass_of_methodNamed B.named
  have hlocks := B.notSynchronized
  subst hsz
  have hD := hD0.self (sz := s.heap.size)
  generalize hAe : va_A (va_pl L f) s.heap.size = A at hD ⊢
  have hA : ∀ q : Nat, s.heap.size ≤ q → A q := fun q h => by rw [← hAe]; exact Or.inr h
  have hS : va_S A s.heap s.heap [] := va_S.rf
  have hR : tp_F τ [13, 32] f f := tp_F.rf
  have hl := lv_entry ([.ref h0, .int v, .int u, .int a, .int a4, .int a5, .int a6, .int a7, .int a8]) (n := 10) (Nat.le_of_ble_eq_true rfl)
  rw [lg_entry_eq]
  generalize (lg_sl ([.ref h0, .int v, .int u, .int a, .int a4, .int a5, .int a6, .int a7, .int a8]) ++ List.replicate (10 - (lg_sl ([.ref h0, .int v, .int u, .int a, .int a4, .int a5, .int a6, .int a7, .int a8])).length) Slot.unset).toArray = ls at hl ⊢
  have hl : lv_has ls 10 [(0, .ref h0), (1, .int v), (2, .int u), (3, .int a), (4, .int a4), (5, .int a5), (6, .int a6), (7, .int a7), (8, .int a8)] := hl
  have hfX12 : ∀ w ∈ wsX120, w ∈ wsX12_cargo := fun w h => List.mem_cons_of_mem _ (List.mem_append_right _ h)
  obtain ⟨y1, y2, y3, y4, y5, y6, y7, y8, y9, y10, y11, y12, y13, y14, y15, y16, y17, y18, y19, y20, y21, y22, y23, y24, y25⟩ := tpg_13 hG ht_h0
  obtain ⟨g27, hf_o26⟩ := tpo_32 hT y1
  have hI : mo_RI (-1) 0 (mo_R g27) := by have q9 := hJ; rw [hf_o26, mo_i1] at q9; exact q9
  obtain ⟨n0x, en0x⟩ : ∃ n : Int, n = mo_R g27 (0) := ⟨_, rfl⟩
  have kn0x := hI.k0
  refine lv_aload_n hx hb dX12_cargo_0 rfl (lv_at hl 0 rfl) ?_
  refine lv_iconst (v := 0) hx hb dX12_cargo_1 (by decide) ?_
  obtain ⟨o28_x0, o28_x1, o28_x7, o28_x9, o28_x10, o28_x11, o28_x12, o28_x13, o28_x14, o28_x15, o28_x16, o28_x17, o28_x18, o28_x19, o28_x20, o28_x22, o28_x25, o28_x28, o28_x29, o28_x32, o28_x33, o28_x34, o28_x35, o28_x36, o28_x37, o28_x38, o28_x47, o28_x48, hf_o28, ro28_0, ro28_1, ro28_2, ro28_3, ro28_4, ro28_5, ro28_6, ro28_7, ro28_8, ro28_9, ro28_10, ro28_11, ro28_12, ro28_13⟩ := tpo_13 hT ht_h0
  obtain ⟨q29, eq29⟩ := tp_pos (tp_in hG ht_h0 (by decide)) hf_o28
  refine va_put (D := (dC, dI)) (ci := 12) (v := .int 0) (ty := .int) (C := RX12) (T := TX12) (N := 53) hx hb hts hfX12 tyX12 tyX12_ok nmX12 hown hK hP hD hS q29 eq29 rfl 0 (by decide) (hts (.fieldLink RX12 91 "ColdShipsModel" "thrown" "I") (by decide +kernel)) (fun _ h9 => h9) rfl (by decide +kernel) rfl rfl (Nat.le_of_ble_eq_true rfl) dX12_cargo_2 (tp_k (.inr (12, [.int 0, .int o28_x1, .ref (ρ h0 2), .ref (ρ h0 3), .ref (ρ h0 4), .ref (ρ h0 5), .ref (ρ h0 6), .int o28_x7, .ref (ρ h0 8), .int o28_x9, .int o28_x10, .int o28_x11, .int o28_x12, .long o28_x13, .int o28_x14, .int o28_x15, .int o28_x16, .int o28_x17, .int o28_x18, .int o28_x19, .int o28_x20, .ref (ρ h0 21), .int o28_x22, .ref (ρ h0 23), .ref (ρ h0 24), .int o28_x25, .ref (ρ h0 26), .ref (ρ h0 27), .int o28_x28, .int o28_x29, .ref (ρ h0 30), .ref (ρ h0 31), .int o28_x32, .long o28_x33, .long o28_x34, .long o28_x35, .int o28_x36, .int o28_x37, .int o28_x38, .ref (ρ h0 39), .ref (ρ h0 40), .ref (ρ h0 41), .ref (ρ h0 42), .ref (ρ h0 43), .ref (ρ h0 44), .ref (ρ h0 45), .ref (ρ h0 46), .int o28_x47, .int o28_x48, .ref (ρ h0 49), .ref (ρ h0 50), .ref (ρ h0 51), .ref (ρ h0 52)])) hD (tp_in hG ht_h0 (by decide)) eq29 (fun f30 H locs hP hD hS g32 k31 => ?_))
  have hT := hT.up ht_h0 g32 k31 ⟨_, _, _, _, _, _, _, _, _, _, _, _, _, _, _, _, _, _, _, _, _, _, _, _, _, _, _, _, rfl, ro28_0, ro28_1, ro28_2, ro28_3, ro28_4, ro28_5, ro28_6, ro28_7, ro28_8, ro28_9, ro28_10, ro28_11, ro28_12, ro28_13⟩
  have hR := hR.up ht_h0 (by decide) k31
  refine lv_iload hx hb dX12_cargo_5 (lv_at hl 4 rfl) ?_
  have hf_33 : f30 (ρ h0 2) = .inl (κ 0, 12967, .inl g27) := (k31 _ (tp_ne y1 ht_h0 (by decide))).trans hf_o26
  refine pz_calli (va_runS (As := [.int a4]) (rest := []) ⟨hx, hb, hml, hown, hts⟩ (t_X12_isHour l dC dI _ a4 (a4.toInt) rfl) (va_cwS 1 hts gX12_cargo_X12_isHour rfl rfl rfl (by decide +kernel) ⟨Nat.le_of_ble_eq_true rfl, Nat.le_of_ble_eq_true rfl⟩) ⟨pz_blind, pz_pre pz_P0 (hK.sub (tys' := []) [] rfl) (pz_D0 (A := fun _ => True)) hN⟩ rfl rfl hl.1 rfl (lv_room (Nat.le_of_ble_eq_true rfl)) dX12_cargo_7 ⟨Nat.le_of_ble_eq_true rfl, Nat.le_of_ble_eq_true rfl⟩) (fun r34 hw35 => ?_)
  obtain ⟨hw35r, hw35p⟩ := hw35
  refine lv_if_eq (tgt := 72) hx hb dX12_cargo_10 (by decide) (fun c36 => ?_) (fun c36 => ?_)
  · have ic36 : r34.toInt = 0 := zi_eq rfl rfl c36
    refine lv_aload_n hx hb dX12_cargo_72 rfl (lv_at hl 0 rfl) ?_
    refine lv_iconst (v := (-1)) hx hb dX12_cargo_73 (by decide) ?_
    obtain ⟨q37, eq37⟩ := tp_pos (tp_in hG ht_h0 (by decide)) g32
    have hFc := tp_fr hD hS hA
    refine va_calli (va_runV (As := [.int (-1)]) (rest := []) ⟨hx, hb, hml, hown, hts⟩ (t_X12_told l dC dI _ κ τ ν ρ L f30 hG hT h0 ((-1)) ht_h0) (cwV 1 hts gX12_cargo_X12_told rfl rfl rfl (by decide +kernel) ⟨Nat.le_of_ble_eq_true rfl, Nat.le_of_ble_eq_true rfl⟩) ⟨pz_blind, va_recv hK hP (ci := 12) (q0 := q37) rfl eq37, pz_pre hP hK hD hN⟩ rfl rfl hl.1 rfl (lv_room (Nat.le_of_ble_eq_true rfl)) dX12_cargo_74 ⟨Nat.le_of_ble_eq_true rfl, Nat.le_of_ble_eq_true rfl⟩) hS (fun q _ h => hFc q h) hFc (fun r38 f40 t H1 locs ht hvm hw39 hB hz1 hk1 hS => ?_)
    obtain ⟨hT, hF41, hw39r, hw39p⟩ := hw39
    have hR := hR.then hF41 (by decide)
    have hP := hB.1; rw [ht] at hP; have hD := tp_ad f40 hD; clear hB hFc hz1 hk1; subst ht; generalize t.heap = H at hP hS ⊢
    have hw39pq : r38.toInt = (-1) := by rw [hw39p]; rfl
    have hf_42 : f40 (ρ h0 2) = .inl (κ 0, 12967, .inl g27) := (hF41 _ (by rw [y1]; decide)).trans hf_33
    exact W.iret (v := r38) hx hb hr (fun t ht hW => ⟨⟨r38, f40, rfl, ⟨hT, hR, trivial, (by rw [hf_42, mo_i1]; exact hI)⟩, by rw [ht]; exact hP, va_K.moved hW.alike hK, hD⟩, hS.F ht⟩) hS.2.2 dX12_cargo_77
  · have ic36 : r34.toInt ≠ 0 := zi_eqf rfl rfl c36
    have p43 : 0 ≤ (a4.toInt) ∧ (a4.toInt) ≤ 2399 := (tp_cond.yes hw35p) (by omega)
    refine lv_iload_n hx hb dX12_cargo_13 rfl (lv_at hl 3 rfl) ?_
    refine lv_i2l hx hb dX12_cargo_14 rfl ?_
    refine lv_lconst (v := 0) hx hb dX12_cargo_15 (by decide) ?_
    refine lv_iload hx hb dX12_cargo_16 (lv_at hl 4 rfl) ?_
    refine lv_i2l hx hb dX12_cargo_18 rfl ?_
    refine pz_calli (va_runS (As := [.long a.toInt64, .long 0, .long a4.toInt64]) (rest := []) ⟨hx, hb, hml, hown, hts⟩ (t_X12_in l dC dI _ a.toInt64 (0) a4.toInt64 (a.toInt) (0) (a4.toInt) (Int32.toInt_toInt64 a) rfl (Int32.toInt_toInt64 a4)) (va_cwS 3 hts gX12_cargo_X12_in rfl rfl rfl (by decide +kernel) ⟨Nat.le_of_ble_eq_true rfl, Nat.le_of_ble_eq_true rfl⟩) ⟨pz_blind, pz_pre pz_P0 (hK.sub (tys' := []) [] rfl) (pz_D0 (A := fun _ => True)) hN⟩ rfl rfl hl.1 rfl (lv_room (Nat.le_of_ble_eq_true rfl)) dX12_cargo_19 ⟨Nat.le_of_ble_eq_true rfl, Nat.le_of_ble_eq_true rfl⟩) (fun r44 hw45 => ?_)
    obtain ⟨hw45r, hw45p⟩ := hw45
    refine lv_if_eq (tgt := 72) hx hb dX12_cargo_22 (by decide) (fun c46 => ?_) (fun c46 => ?_)
    · have ic46 : r44.toInt = 0 := zi_eq rfl rfl c46
      refine lv_aload_n hx hb dX12_cargo_72 rfl (lv_at hl 0 rfl) ?_
      refine lv_iconst (v := (-1)) hx hb dX12_cargo_73 (by decide) ?_
      obtain ⟨q47, eq47⟩ := tp_pos (tp_in hG ht_h0 (by decide)) g32
      have hFc := tp_fr hD hS hA
      refine va_calli (va_runV (As := [.int (-1)]) (rest := []) ⟨hx, hb, hml, hown, hts⟩ (t_X12_told l dC dI _ κ τ ν ρ L f30 hG hT h0 ((-1)) ht_h0) (cwV 1 hts gX12_cargo_X12_told rfl rfl rfl (by decide +kernel) ⟨Nat.le_of_ble_eq_true rfl, Nat.le_of_ble_eq_true rfl⟩) ⟨pz_blind, va_recv hK hP (ci := 12) (q0 := q47) rfl eq47, pz_pre hP hK hD hN⟩ rfl rfl hl.1 rfl (lv_room (Nat.le_of_ble_eq_true rfl)) dX12_cargo_74 ⟨Nat.le_of_ble_eq_true rfl, Nat.le_of_ble_eq_true rfl⟩) hS (fun q _ h => hFc q h) hFc (fun r48 f50 t H1 locs ht hvm hw49 hB hz1 hk1 hS => ?_)
      obtain ⟨hT, hF51, hw49r, hw49p⟩ := hw49
      have hR := hR.then hF51 (by decide)
      have hP := hB.1; rw [ht] at hP; have hD := tp_ad f50 hD; clear hB hFc hz1 hk1; subst ht; generalize t.heap = H at hP hS ⊢
      have hw49pq : r48.toInt = (-1) := by rw [hw49p]; rfl
      have hf_52 : f50 (ρ h0 2) = .inl (κ 0, 12967, .inl g27) := (hF51 _ (by rw [y1]; decide)).trans hf_33
      exact W.iret (v := r48) hx hb hr (fun t ht hW => ⟨⟨r48, f50, rfl, ⟨hT, hR, trivial, (by rw [hf_52, mo_i1]; exact hI)⟩, by rw [ht]; exact hP, va_K.moved hW.alike hK, hD⟩, hS.F ht⟩) hS.2.2 dX12_cargo_77
    · have ic46 : r44.toInt ≠ 0 := zi_eqf rfl rfl c46
      have p53 : (0) ≤ (a.toInt) ∧ (a.toInt) ≤ (a4.toInt) := (tp_cond.yes hw45p) (by omega)
      refine lv_iload hx hb dX12_cargo_25 (lv_at hl 6 rfl) ?_
      refine pz_calli (va_runS (As := [.int a6]) (rest := []) ⟨hx, hb, hml, hown, hts⟩ (t_X12_isHour l dC dI _ a6 (a6.toInt) rfl) (va_cwS 1 hts gX12_cargo_X12_isHour rfl rfl rfl (by decide +kernel) ⟨Nat.le_of_ble_eq_true rfl, Nat.le_of_ble_eq_true rfl⟩) ⟨pz_blind, pz_pre pz_P0 (hK.sub (tys' := []) [] rfl) (pz_D0 (A := fun _ => True)) hN⟩ rfl rfl hl.1 rfl (lv_room (Nat.le_of_ble_eq_true rfl)) dX12_cargo_27 ⟨Nat.le_of_ble_eq_true rfl, Nat.le_of_ble_eq_true rfl⟩) (fun r54 hw55 => ?_)
      obtain ⟨hw55r, hw55p⟩ := hw55
      refine lv_if_eq (tgt := 72) hx hb dX12_cargo_30 (by decide) (fun c56 => ?_) (fun c56 => ?_)
      · have ic56 : r54.toInt = 0 := zi_eq rfl rfl c56
        refine lv_aload_n hx hb dX12_cargo_72 rfl (lv_at hl 0 rfl) ?_
        refine lv_iconst (v := (-1)) hx hb dX12_cargo_73 (by decide) ?_
        obtain ⟨q57, eq57⟩ := tp_pos (tp_in hG ht_h0 (by decide)) g32
        have hFc := tp_fr hD hS hA
        refine va_calli (va_runV (As := [.int (-1)]) (rest := []) ⟨hx, hb, hml, hown, hts⟩ (t_X12_told l dC dI _ κ τ ν ρ L f30 hG hT h0 ((-1)) ht_h0) (cwV 1 hts gX12_cargo_X12_told rfl rfl rfl (by decide +kernel) ⟨Nat.le_of_ble_eq_true rfl, Nat.le_of_ble_eq_true rfl⟩) ⟨pz_blind, va_recv hK hP (ci := 12) (q0 := q57) rfl eq57, pz_pre hP hK hD hN⟩ rfl rfl hl.1 rfl (lv_room (Nat.le_of_ble_eq_true rfl)) dX12_cargo_74 ⟨Nat.le_of_ble_eq_true rfl, Nat.le_of_ble_eq_true rfl⟩) hS (fun q _ h => hFc q h) hFc (fun r58 f60 t H1 locs ht hvm hw59 hB hz1 hk1 hS => ?_)
        obtain ⟨hT, hF61, hw59r, hw59p⟩ := hw59
        have hR := hR.then hF61 (by decide)
        have hP := hB.1; rw [ht] at hP; have hD := tp_ad f60 hD; clear hB hFc hz1 hk1; subst ht; generalize t.heap = H at hP hS ⊢
        have hw59pq : r58.toInt = (-1) := by rw [hw59p]; rfl
        have hf_62 : f60 (ρ h0 2) = .inl (κ 0, 12967, .inl g27) := (hF61 _ (by rw [y1]; decide)).trans hf_33
        exact W.iret (v := r58) hx hb hr (fun t ht hW => ⟨⟨r58, f60, rfl, ⟨hT, hR, trivial, (by rw [hf_62, mo_i1]; exact hI)⟩, by rw [ht]; exact hP, va_K.moved hW.alike hK, hD⟩, hS.F ht⟩) hS.2.2 dX12_cargo_77
      · have ic56 : r54.toInt ≠ 0 := zi_eqf rfl rfl c56
        have p63 : 0 ≤ (a6.toInt) ∧ (a6.toInt) ≤ 2399 := (tp_cond.yes hw55p) (by omega)
        refine lv_iload hx hb dX12_cargo_33 (lv_at hl 5 rfl) ?_
        refine lv_i2l hx hb dX12_cargo_35 rfl ?_
        refine lv_lconst (v := 0) hx hb dX12_cargo_36 (by decide) ?_
        refine lv_iload hx hb dX12_cargo_37 (lv_at hl 6 rfl) ?_
        refine lv_i2l hx hb dX12_cargo_39 rfl ?_
        refine pz_calli (va_runS (As := [.long a5.toInt64, .long 0, .long a6.toInt64]) (rest := []) ⟨hx, hb, hml, hown, hts⟩ (t_X12_in l dC dI _ a5.toInt64 (0) a6.toInt64 (a5.toInt) (0) (a6.toInt) (Int32.toInt_toInt64 a5) rfl (Int32.toInt_toInt64 a6)) (va_cwS 3 hts gX12_cargo_X12_in rfl rfl rfl (by decide +kernel) ⟨Nat.le_of_ble_eq_true rfl, Nat.le_of_ble_eq_true rfl⟩) ⟨pz_blind, pz_pre pz_P0 (hK.sub (tys' := []) [] rfl) (pz_D0 (A := fun _ => True)) hN⟩ rfl rfl hl.1 rfl (lv_room (Nat.le_of_ble_eq_true rfl)) dX12_cargo_40 ⟨Nat.le_of_ble_eq_true rfl, Nat.le_of_ble_eq_true rfl⟩) (fun r64 hw65 => ?_)
        obtain ⟨hw65r, hw65p⟩ := hw65
        refine lv_if_eq (tgt := 72) hx hb dX12_cargo_43 (by decide) (fun c66 => ?_) (fun c66 => ?_)
        · have ic66 : r64.toInt = 0 := zi_eq rfl rfl c66
          refine lv_aload_n hx hb dX12_cargo_72 rfl (lv_at hl 0 rfl) ?_
          refine lv_iconst (v := (-1)) hx hb dX12_cargo_73 (by decide) ?_
          obtain ⟨q67, eq67⟩ := tp_pos (tp_in hG ht_h0 (by decide)) g32
          have hFc := tp_fr hD hS hA
          refine va_calli (va_runV (As := [.int (-1)]) (rest := []) ⟨hx, hb, hml, hown, hts⟩ (t_X12_told l dC dI _ κ τ ν ρ L f30 hG hT h0 ((-1)) ht_h0) (cwV 1 hts gX12_cargo_X12_told rfl rfl rfl (by decide +kernel) ⟨Nat.le_of_ble_eq_true rfl, Nat.le_of_ble_eq_true rfl⟩) ⟨pz_blind, va_recv hK hP (ci := 12) (q0 := q67) rfl eq67, pz_pre hP hK hD hN⟩ rfl rfl hl.1 rfl (lv_room (Nat.le_of_ble_eq_true rfl)) dX12_cargo_74 ⟨Nat.le_of_ble_eq_true rfl, Nat.le_of_ble_eq_true rfl⟩) hS (fun q _ h => hFc q h) hFc (fun r68 f70 t H1 locs ht hvm hw69 hB hz1 hk1 hS => ?_)
          obtain ⟨hT, hF71, hw69r, hw69p⟩ := hw69
          have hR := hR.then hF71 (by decide)
          have hP := hB.1; rw [ht] at hP; have hD := tp_ad f70 hD; clear hB hFc hz1 hk1; subst ht; generalize t.heap = H at hP hS ⊢
          have hw69pq : r68.toInt = (-1) := by rw [hw69p]; rfl
          have hf_72 : f70 (ρ h0 2) = .inl (κ 0, 12967, .inl g27) := (hF71 _ (by rw [y1]; decide)).trans hf_33
          exact W.iret (v := r68) hx hb hr (fun t ht hW => ⟨⟨r68, f70, rfl, ⟨hT, hR, trivial, (by rw [hf_72, mo_i1]; exact hI)⟩, by rw [ht]; exact hP, va_K.moved hW.alike hK, hD⟩, hS.F ht⟩) hS.2.2 dX12_cargo_77
        · have ic66 : r64.toInt ≠ 0 := zi_eqf rfl rfl c66
          have p73 : (0) ≤ (a5.toInt) ∧ (a5.toInt) ≤ (a6.toInt) := (tp_cond.yes hw65p) (by omega)
          refine lv_iload hx hb dX12_cargo_46 (lv_at hl 7 rfl) ?_
          refine lv_i2l hx hb dX12_cargo_48 rfl ?_
          refine lv_lconst (v := 1) hx hb dX12_cargo_49 (by decide) ?_
          refine lv_ldc2 (own := RX12) (v := 200000) hx hb hown (hts (.constantLong RX12 124 (200000)) (by decide +kernel)) dX12_cargo_50 ?_
          refine pz_calli (va_runS (As := [.long a7.toInt64, .long 1, .long 200000]) (rest := []) ⟨hx, hb, hml, hown, hts⟩ (t_X12_in l dC dI _ a7.toInt64 (1) (200000) (a7.toInt) (1) (200000) (Int32.toInt_toInt64 a7) rfl rfl) (va_cwS 3 hts gX12_cargo_X12_in rfl rfl rfl (by decide +kernel) ⟨Nat.le_of_ble_eq_true rfl, Nat.le_of_ble_eq_true rfl⟩) ⟨pz_blind, pz_pre pz_P0 (hK.sub (tys' := []) [] rfl) (pz_D0 (A := fun _ => True)) hN⟩ rfl rfl hl.1 rfl (lv_room (Nat.le_of_ble_eq_true rfl)) dX12_cargo_53 ⟨Nat.le_of_ble_eq_true rfl, Nat.le_of_ble_eq_true rfl⟩) (fun r74 hw75 => ?_)
          obtain ⟨hw75r, hw75p⟩ := hw75
          refine lv_if_eq (tgt := 72) hx hb dX12_cargo_56 (by decide) (fun c76 => ?_) (fun c76 => ?_)
          · have ic76 : r74.toInt = 0 := zi_eq rfl rfl c76
            refine lv_aload_n hx hb dX12_cargo_72 rfl (lv_at hl 0 rfl) ?_
            refine lv_iconst (v := (-1)) hx hb dX12_cargo_73 (by decide) ?_
            obtain ⟨q77, eq77⟩ := tp_pos (tp_in hG ht_h0 (by decide)) g32
            have hFc := tp_fr hD hS hA
            refine va_calli (va_runV (As := [.int (-1)]) (rest := []) ⟨hx, hb, hml, hown, hts⟩ (t_X12_told l dC dI _ κ τ ν ρ L f30 hG hT h0 ((-1)) ht_h0) (cwV 1 hts gX12_cargo_X12_told rfl rfl rfl (by decide +kernel) ⟨Nat.le_of_ble_eq_true rfl, Nat.le_of_ble_eq_true rfl⟩) ⟨pz_blind, va_recv hK hP (ci := 12) (q0 := q77) rfl eq77, pz_pre hP hK hD hN⟩ rfl rfl hl.1 rfl (lv_room (Nat.le_of_ble_eq_true rfl)) dX12_cargo_74 ⟨Nat.le_of_ble_eq_true rfl, Nat.le_of_ble_eq_true rfl⟩) hS (fun q _ h => hFc q h) hFc (fun r78 f80 t H1 locs ht hvm hw79 hB hz1 hk1 hS => ?_)
            obtain ⟨hT, hF81, hw79r, hw79p⟩ := hw79
            have hR := hR.then hF81 (by decide)
            have hP := hB.1; rw [ht] at hP; have hD := tp_ad f80 hD; clear hB hFc hz1 hk1; subst ht; generalize t.heap = H at hP hS ⊢
            have hw79pq : r78.toInt = (-1) := by rw [hw79p]; rfl
            have hf_82 : f80 (ρ h0 2) = .inl (κ 0, 12967, .inl g27) := (hF81 _ (by rw [y1]; decide)).trans hf_33
            exact W.iret (v := r78) hx hb hr (fun t ht hW => ⟨⟨r78, f80, rfl, ⟨hT, hR, trivial, (by rw [hf_82, mo_i1]; exact hI)⟩, by rw [ht]; exact hP, va_K.moved hW.alike hK, hD⟩, hS.F ht⟩) hS.2.2 dX12_cargo_77
          · have ic76 : r74.toInt ≠ 0 := zi_eqf rfl rfl c76
            have p83 : (1) ≤ (a7.toInt) ∧ (a7.toInt) ≤ (200000) := (tp_cond.yes hw75p) (by omega)
            refine lv_iload hx hb dX12_cargo_59 (lv_at hl 8 rfl) ?_
            refine lv_i2l hx hb dX12_cargo_61 rfl ?_
            refine lv_lconst (v := 0) hx hb dX12_cargo_62 (by decide) ?_
            refine lv_ldc2 (own := RX12) (v := 1000) hx hb hown (hts (.constantLong RX12 122 (1000)) (by decide +kernel)) dX12_cargo_63 ?_
            refine pz_calli (va_runS (As := [.long a8.toInt64, .long 0, .long 1000]) (rest := []) ⟨hx, hb, hml, hown, hts⟩ (t_X12_in l dC dI _ a8.toInt64 (0) (1000) (a8.toInt) (0) (1000) (Int32.toInt_toInt64 a8) rfl rfl) (va_cwS 3 hts gX12_cargo_X12_in rfl rfl rfl (by decide +kernel) ⟨Nat.le_of_ble_eq_true rfl, Nat.le_of_ble_eq_true rfl⟩) ⟨pz_blind, pz_pre pz_P0 (hK.sub (tys' := []) [] rfl) (pz_D0 (A := fun _ => True)) hN⟩ rfl rfl hl.1 rfl (lv_room (Nat.le_of_ble_eq_true rfl)) dX12_cargo_66 ⟨Nat.le_of_ble_eq_true rfl, Nat.le_of_ble_eq_true rfl⟩) (fun r84 hw85 => ?_)
            obtain ⟨hw85r, hw85p⟩ := hw85
            refine lv_if_ne (tgt := 78) hx hb dX12_cargo_69 (by decide) (fun c86 => ?_) (fun c86 => ?_)
            · have ic86 : r84.toInt ≠ 0 := zi_ne rfl rfl c86
              have p87 : (0) ≤ (a8.toInt) ∧ (a8.toInt) ≤ (1000) := (tp_cond.yes hw85p) (by omega)
              refine lv_aload_n hx hb dX12_cargo_78 rfl (lv_at hl 0 rfl) ?_
              refine lv_iload_n hx hb dX12_cargo_79 rfl (lv_at hl 1 rfl) ?_
              obtain ⟨q88, eq88⟩ := tp_pos (tp_in hG ht_h0 (by decide)) g32
              refine pz_calli (va_runV (As := [.int v]) (rest := []) ⟨hx, hb, hml, hown, hts⟩ (t_X12_isTerminal l dC dI _ κ τ ν ρ L f30 hG hT h0 v (-1) 0 ht_h0 (by rw [hf_33, mo_i1]; exact hI)) (cwV 1 hts gX12_cargo_X12_isTerminal rfl rfl rfl (by decide +kernel) ⟨Nat.le_of_ble_eq_true rfl, Nat.le_of_ble_eq_true rfl⟩) ⟨pz_blind, va_recv hK hP (ci := 12) (q0 := q88) rfl eq88, pz_pre hP hK hD hN⟩ rfl rfl hl.1 rfl (lv_room (Nat.le_of_ble_eq_true rfl)) dX12_cargo_80 ⟨Nat.le_of_ble_eq_true rfl, Nat.le_of_ble_eq_true rfl⟩) (fun r89 hw90 => ?_)
              obtain ⟨hw90r, hw90p⟩ := hw90
              have := hI.k0
              rw [hf_33, mo_i1] at hw90p
              refine lv_if_eq (tgt := 94) hx hb dX12_cargo_83 (by decide) (fun c91 => ?_) (fun c91 => ?_)
              · have ic91 : r89.toInt = 0 := zi_eq rfl rfl c91
                refine lv_aload_n hx hb dX12_cargo_94 rfl (lv_at hl 0 rfl) ?_
                refine lv_bipush (v := (-2)) hx hb dX12_cargo_95 (by decide) ?_
                have hFc := tp_fr hD hS hA
                refine va_calli (va_runV (As := [.int (-2)]) (rest := []) ⟨hx, hb, hml, hown, hts⟩ (t_X12_told l dC dI _ κ τ ν ρ L f30 hG hT h0 ((-2)) ht_h0) (cwV 1 hts gX12_cargo_X12_told rfl rfl rfl (by decide +kernel) ⟨Nat.le_of_ble_eq_true rfl, Nat.le_of_ble_eq_true rfl⟩) ⟨pz_blind, va_recv hK hP (ci := 12) (q0 := q88) rfl eq88, pz_pre hP hK hD hN⟩ rfl rfl hl.1 rfl (lv_room (Nat.le_of_ble_eq_true rfl)) dX12_cargo_97 ⟨Nat.le_of_ble_eq_true rfl, Nat.le_of_ble_eq_true rfl⟩) hS (fun q _ h => hFc q h) hFc (fun r92 f94 t H1 locs ht hvm hw93 hB hz1 hk1 hS => ?_)
                obtain ⟨hT, hF95, hw93r, hw93p⟩ := hw93
                have hR := hR.then hF95 (by decide)
                have hP := hB.1; rw [ht] at hP; have hD := tp_ad f94 hD; clear hB hFc hz1 hk1; subst ht; generalize t.heap = H at hP hS ⊢
                have hw93pq : r92.toInt = (-2) := by rw [hw93p]; rfl
                have hf_96 : f94 (ρ h0 2) = .inl (κ 0, 12967, .inl g27) := (hF95 _ (by rw [y1]; decide)).trans hf_33
                exact W.iret (v := r92) hx hb hr (fun t ht hW => ⟨⟨r92, f94, rfl, ⟨hT, hR, trivial, (by rw [hf_96, mo_i1]; exact hI)⟩, by rw [ht]; exact hP, va_K.moved hW.alike hK, hD⟩, hS.F ht⟩) hS.2.2 dX12_cargo_100
              · have ic91 : r89.toInt ≠ 0 := zi_eqf rfl rfl c91
                have p97 : 0 ≤ v.toInt ∧ v.toInt < mo_R g27 0 := (tp_cond.yes hw90p) (by omega)
                refine lv_aload_n hx hb dX12_cargo_86 rfl (lv_at hl 0 rfl) ?_
                refine lv_iload_n hx hb dX12_cargo_87 rfl (lv_at hl 2 rfl) ?_
                refine pz_calli (va_runV (As := [.int u]) (rest := []) ⟨hx, hb, hml, hown, hts⟩ (t_X12_isTerminal l dC dI _ κ τ ν ρ L f30 hG hT h0 u (-1) 0 ht_h0 (by rw [hf_33, mo_i1]; exact hI)) (cwV 1 hts gX12_cargo_X12_isTerminal rfl rfl rfl (by decide +kernel) ⟨Nat.le_of_ble_eq_true rfl, Nat.le_of_ble_eq_true rfl⟩) ⟨pz_blind, va_recv hK hP (ci := 12) (q0 := q88) rfl eq88, pz_pre hP hK hD hN⟩ rfl rfl hl.1 rfl (lv_room (Nat.le_of_ble_eq_true rfl)) dX12_cargo_88 ⟨Nat.le_of_ble_eq_true rfl, Nat.le_of_ble_eq_true rfl⟩) (fun r98 hw99 => ?_)
                obtain ⟨hw99r, hw99p⟩ := hw99
                have := hI.k0
                rw [hf_33, mo_i1] at hw99p
                refine lv_if_ne (tgt := 101) hx hb dX12_cargo_91 (by decide) (fun c100 => ?_) (fun c100 => ?_)
                · have ic100 : r98.toInt ≠ 0 := zi_ne rfl rfl c100
                  have p101 : 0 ≤ u.toInt ∧ u.toInt < mo_R g27 0 := (tp_cond.yes hw99p) (by omega)
                  refine lv_iload_n hx hb dX12_cargo_101 rfl (lv_at hl 1 rfl) ?_
                  refine lv_iload_n hx hb dX12_cargo_102 rfl (lv_at hl 2 rfl) ?_
                  refine lv_icmp_ne (tgt := 113) hx hb dX12_cargo_103 (by decide) (fun c102 => ?_) (fun c102 => ?_)
                  · have ic102 : v.toInt ≠ u.toInt := zi_ne rfl rfl c102
                    refine lv_aload_n hx hb dX12_cargo_113 rfl (lv_at hl 0 rfl) ?_
                    refine va_get (D := (dC, dI)) (ci := 12) (v := .ref (ρ h0 2)) (C := RX12) (T := TX12) (N := 53) hx hb hts hfX12 hown hK hP q88 eq88 rfl 2 (by decide) (hts (.fieldLink RX12 7 "ColdShipsModel" "row" "[I") (by decide +kernel)) (fun _ h9 => h9) rfl dX12_cargo_114 ?_
                    refine lv_bipush (v := 10) hx hb dX12_cargo_117 (by decide) ?_
                    obtain ⟨q103, eq103⟩ := tp_pos (tp_in hG y1 (by decide)) hf_33
                    refine va_iald hx hb hK hP q103 0 eq103 rfl (vp_in_iff.mpr ⟨by decide, by decide⟩) dX12_cargo_119 ?_
                    refine lv_topi (fun z104 ez104 => ?_)
                    have jz104 : z104.toInt = mo_R g27 (10) := mo_rd ez104 (show (10 : Int32).toInt = (10) from by decide)
                    have kz104 := hI.k10
                    refine lv_bipush (v := 6) hx hb dX12_cargo_120 (by decide) ?_
                    refine lv_icmp_ne (tgt := 132) hx hb dX12_cargo_122 (by decide) (fun c105 => ?_) (fun c105 => ?_)
                    · have ic105 : z104.toInt ≠ 6 := zi_ne rfl rfl c105
                      refine lv_sipush (v := 12919) hx hb dX12_cargo_132 (by decide) ?_
                      refine lv_bipush (v := 8) hx hb dX12_cargo_135 (by decide) ?_
                      refine lv_aload_n hx hb dX12_cargo_137 rfl (lv_at hl 0 rfl) ?_
                      refine va_get (D := (dC, dI)) (ci := 12) (v := .ref (ρ h0 2)) (C := RX12) (T := TX12) (N := 53) hx hb hts hfX12 hown hK hP q88 eq88 rfl 2 (by decide) (hts (.fieldLink RX12 7 "ColdShipsModel" "row" "[I") (by decide +kernel)) (fun _ h9 => h9) rfl dX12_cargo_138 ?_
                      refine lv_bipush (v := 10) hx hb dX12_cargo_141 (by decide) ?_
                      refine va_iald hx hb hK hP q103 0 eq103 rfl (vp_in_iff.mpr ⟨by decide, by decide⟩) dX12_cargo_143 ?_
                      refine lv_topi (fun z106 ez106 => ?_)
                      have jz106 : z106.toInt = mo_R g27 (10) := mo_rd ez106 (show (10 : Int32).toInt = (10) from by decide)
                      have kz106 := hI.k10
                      refine lv_imul hx hb dX12_cargo_144 ?_
                      refine lv_topi (fun z107 ez107 => ?_)
                      have iz107 : z107.toInt = 8 * z106.toInt := zi_mul ez107 rfl rfl (by omega) (by omega)
                      refine lv_iadd hx hb dX12_cargo_145 ?_
                      refine lv_topi (fun z108 ez108 => ?_)
                      have iz108 : z108.toInt = 12919 + z107.toInt := zi_add ez108 rfl rfl (by omega) (by omega)
                      refine lv_istore (lv' := [(9, .int z108), (0, .ref h0), (1, .int v), (2, .int u), (3, .int a), (4, .int a4), (5, .int a5), (6, .int a6), (7, .int a7), (8, .int a8)]) hx hb dX12_cargo_146 hl (by decide) rfl (fun ls hl => ?_)
                      refine lv_aload_n hx hb dX12_cargo_148 rfl (lv_at hl 1 rfl) ?_
                      refine lv_iload hx hb dX12_cargo_149 (lv_at hl 0 rfl) ?_
                      refine lv_iload_n hx hb dX12_cargo_151 rfl (lv_at hl 2 rfl) ?_
                      refine lv_iload_n hx hb dX12_cargo_152 rfl (lv_at hl 3 rfl) ?_
                      refine lv_iload_n hx hb dX12_cargo_153 rfl (lv_at hl 4 rfl) ?_
                      refine lv_iload hx hb dX12_cargo_154 (lv_at hl 5 rfl) ?_
                      have hFc := tp_fr hD hS hA
                      refine va_callv (va_runV (As := [.int z108, .int v, .int u, .int a, .int a4]) (rest := []) ⟨hx, hb, hml, hown, hts⟩ (t_X12_addFour l dC dI _ κ τ ν ρ L f30 hG hT h0 z108 v u a a4 ht_h0 (by first | decide | omega)) (cwV 5 hts gX12_cargo_X12_addFour rfl rfl rfl (by decide +kernel) ⟨Nat.le_of_ble_eq_true rfl, Nat.le_of_ble_eq_true rfl⟩) ⟨pz_blind, va_recv hK hP (ci := 12) (q0 := q88) rfl eq88, pz_pre hP hK hD hN⟩ rfl rfl hl.1 rfl (lv_room (Nat.le_of_ble_eq_true rfl)) dX12_cargo_156 ⟨Nat.le_of_ble_eq_true rfl, Nat.le_of_ble_eq_true rfl⟩) hS (fun q _ h => hFc q h) hFc (fun f111 t H1 locs ht hvm hw110 hB hz1 hk1 hS => ?_)
                      obtain ⟨hT, hF112, hw110p⟩ := hw110
                      have hR := hR.then hF112 (by decide)
                      have hP := hB.1; rw [ht] at hP; have hD := tp_ad f111 hD; clear hB hFc hz1 hk1; subst ht; generalize t.heap = H at hP hS ⊢
                      rw [hf_33, mo_i1] at hw110p
                      obtain ⟨Q1_112, Q2_112, Q3_112, u1_112, u2_112, u3_112, u4_112⟩ := hw110p
                      obtain ⟨g114, hf_o113⟩ := tpo_32 hT y1
                      rw [hf_o113, mo_i1] at u4_112
                      have hU : mo_U (mo_R g27) (Q1_112) (12919 + 8 * z104.toInt + 0) (v.toInt) := by have q9 := u1_112; rw [show z108.toInt = (12919 + 8 * z104.toInt + 0) by omega] at q9; exact q9
                      have hI := mo_w_cargo hI hU z104.toInt (0) (by omega) (by omega) (by omega)
                      have pn115 : Q1_112 (0) = n0x := (hU.ne (by omega) (by omega)).trans en0x.symm
                      have pn116 : Q1_112 (10) = z104.toInt := (hU.ne (by omega) (by omega)).trans (jz104).symm
                      have pn117 : Q1_112 (12919 + 8 * z104.toInt + 0) = v.toInt := hU.eq (by omega)
                      have hU : mo_U (Q1_112) (Q2_112) (12919 + 8 * z104.toInt + 1) (u.toInt) := by have q9 := u2_112; rw [show z108.toInt + 1 = (12919 + 8 * z104.toInt + 1) by omega] at q9; exact q9
                      have hI := mo_w_cargo hI hU z104.toInt (1) (by omega) (by omega) (by omega)
                      have pn118 : Q2_112 (0) = n0x := (hU.ne (by omega) (by omega)).trans pn115
                      have pn119 : Q2_112 (10) = z104.toInt := (hU.ne (by omega) (by omega)).trans pn116
                      have pn120 : Q2_112 (12919 + 8 * z104.toInt + 0) = v.toInt := (hU.ne (by omega) (by omega)).trans pn117
                      have pn121 : Q2_112 (12919 + 8 * z104.toInt + 1) = u.toInt := hU.eq (by omega)
                      have hU : mo_U (Q2_112) (Q3_112) (12919 + 8 * z104.toInt + 2) (a.toInt) := by have q9 := u3_112; rw [show z108.toInt + 2 = (12919 + 8 * z104.toInt + 2) by omega] at q9; exact q9
                      have hI := mo_w_cargo hI hU z104.toInt (2) (by omega) (by omega) (by omega)
                      have pn122 : Q3_112 (0) = n0x := (hU.ne (by omega) (by omega)).trans pn118
                      have pn123 : Q3_112 (10) = z104.toInt := (hU.ne (by omega) (by omega)).trans pn119
                      have pn124 : Q3_112 (12919 + 8 * z104.toInt + 0) = v.toInt := (hU.ne (by omega) (by omega)).trans pn120
                      have pn125 : Q3_112 (12919 + 8 * z104.toInt + 1) = u.toInt := (hU.ne (by omega) (by omega)).trans pn121
                      have hU : mo_U (Q3_112) (mo_R g114) (12919 + 8 * z104.toInt + 3) (a4.toInt) := by have q9 := u4_112; rw [show z108.toInt + 3 = (12919 + 8 * z104.toInt + 3) by omega] at q9; exact q9
                      have hI := mo_w_cargo hI hU z104.toInt (3) (by omega) (by omega) (by omega)
                      have pn126 : mo_R g114 (0) = n0x := (hU.ne (by omega) (by omega)).trans pn122
                      have pn127 : mo_R g114 (10) = z104.toInt := (hU.ne (by omega) (by omega)).trans pn123
                      have pn128 : mo_R g114 (12919 + 8 * z104.toInt + 0) = v.toInt := (hU.ne (by omega) (by omega)).trans pn124
                      have pn129 : mo_R g114 (12919 + 8 * z104.toInt + 1) = u.toInt := (hU.ne (by omega) (by omega)).trans pn125
                      refine lv_aload_n hx hb dX12_cargo_159 rfl (lv_at hl 1 rfl) ?_
                      refine lv_iload hx hb dX12_cargo_160 (lv_at hl 0 rfl) ?_
                      refine lv_iconst (v := 4) hx hb dX12_cargo_162 (by decide) ?_
                      refine lv_iadd hx hb dX12_cargo_163 ?_
                      refine lv_topi (fun z130 ez130 => ?_)
                      have iz130 : z130.toInt = z108.toInt + 4 := zi_add ez130 rfl rfl (by omega) (by omega)
                      refine lv_iload hx hb dX12_cargo_164 (lv_at hl 6 rfl) ?_
                      refine lv_iload hx hb dX12_cargo_166 (lv_at hl 7 rfl) ?_
                      refine lv_iload hx hb dX12_cargo_168 (lv_at hl 8 rfl) ?_
                      refine lv_iload hx hb dX12_cargo_170 (lv_at hl 9 rfl) ?_
                      have hf_131 : f111 h0 = .inr (12, [.int 0, .int o28_x1, .ref (ρ h0 2), .ref (ρ h0 3), .ref (ρ h0 4), .ref (ρ h0 5), .ref (ρ h0 6), .int o28_x7, .ref (ρ h0 8), .int o28_x9, .int o28_x10, .int o28_x11, .int o28_x12, .long o28_x13, .int o28_x14, .int o28_x15, .int o28_x16, .int o28_x17, .int o28_x18, .int o28_x19, .int o28_x20, .ref (ρ h0 21), .int o28_x22, .ref (ρ h0 23), .ref (ρ h0 24), .int o28_x25, .ref (ρ h0 26), .ref (ρ h0 27), .int o28_x28, .int o28_x29, .ref (ρ h0 30), .ref (ρ h0 31), .int o28_x32, .long o28_x33, .long o28_x34, .long o28_x35, .int o28_x36, .int o28_x37, .int o28_x38, .ref (ρ h0 39), .ref (ρ h0 40), .ref (ρ h0 41), .ref (ρ h0 42), .ref (ρ h0 43), .ref (ρ h0 44), .ref (ρ h0 45), .ref (ρ h0 46), .int o28_x47, .int o28_x48, .ref (ρ h0 49), .ref (ρ h0 50), .ref (ρ h0 51), .ref (ρ h0 52)]) := (hF112 _ (by rw [ht_h0]; decide)).trans g32
                      obtain ⟨q132, eq132⟩ := tp_pos (tp_in hG ht_h0 (by decide)) hf_131
                      have hFc := tp_fr hD hS hA
                      refine va_callv (va_runV (As := [.int z130, .int a5, .int a6, .int a7, .int a8]) (rest := []) ⟨hx, hb, hml, hown, hts⟩ (t_X12_addFour l dC dI _ κ τ ν ρ L f111 hG hT h0 z130 a5 a6 a7 a8 ht_h0 (by first | decide | omega)) (cwV 5 hts gX12_cargo_X12_addFour rfl rfl rfl (by decide +kernel) ⟨Nat.le_of_ble_eq_true rfl, Nat.le_of_ble_eq_true rfl⟩) ⟨pz_blind, va_recv hK hP (ci := 12) (q0 := q132) rfl eq132, pz_pre hP hK hD hN⟩ rfl rfl hl.1 rfl (lv_room (Nat.le_of_ble_eq_true rfl)) dX12_cargo_172 ⟨Nat.le_of_ble_eq_true rfl, Nat.le_of_ble_eq_true rfl⟩) hS (fun q _ h => hFc q h) hFc (fun f135 t H1 locs ht hvm hw134 hB hz1 hk1 hS => ?_)
                      obtain ⟨hT, hF136, hw134p⟩ := hw134
                      have hR := hR.then hF136 (by decide)
                      have hP := hB.1; rw [ht] at hP; have hD := tp_ad f135 hD; clear hB hFc hz1 hk1; subst ht; generalize t.heap = H at hP hS ⊢
                      rw [hf_o113, mo_i1] at hw134p
                      obtain ⟨Q1_136, Q2_136, Q3_136, u1_136, u2_136, u3_136, u4_136⟩ := hw134p
                      obtain ⟨g138, hf_o137⟩ := tpo_32 hT y1
                      rw [hf_o137, mo_i1] at u4_136
                      have hU : mo_U (mo_R g114) (Q1_136) (12919 + 8 * z104.toInt + 4) (a5.toInt) := by have q9 := u1_136; rw [show z130.toInt = (12919 + 8 * z104.toInt + 4) by omega] at q9; exact q9
                      have hI := mo_w_cargo hI hU z104.toInt (4) (by omega) (by omega) (by omega)
                      have pn139 : Q1_136 (0) = n0x := (hU.ne (by omega) (by omega)).trans pn126
                      have pn140 : Q1_136 (10) = z104.toInt := (hU.ne (by omega) (by omega)).trans pn127
                      have pn141 : Q1_136 (12919 + 8 * z104.toInt + 0) = v.toInt := (hU.ne (by omega) (by omega)).trans pn128
                      have pn142 : Q1_136 (12919 + 8 * z104.toInt + 1) = u.toInt := (hU.ne (by omega) (by omega)).trans pn129
                      have hU : mo_U (Q1_136) (Q2_136) (12919 + 8 * z104.toInt + 5) (a6.toInt) := by have q9 := u2_136; rw [show z130.toInt + 1 = (12919 + 8 * z104.toInt + 5) by omega] at q9; exact q9
                      have hI := mo_w_cargo hI hU z104.toInt (5) (by omega) (by omega) (by omega)
                      have pn143 : Q2_136 (0) = n0x := (hU.ne (by omega) (by omega)).trans pn139
                      have pn144 : Q2_136 (10) = z104.toInt := (hU.ne (by omega) (by omega)).trans pn140
                      have pn145 : Q2_136 (12919 + 8 * z104.toInt + 0) = v.toInt := (hU.ne (by omega) (by omega)).trans pn141
                      have pn146 : Q2_136 (12919 + 8 * z104.toInt + 1) = u.toInt := (hU.ne (by omega) (by omega)).trans pn142
                      have hU : mo_U (Q2_136) (Q3_136) (12919 + 8 * z104.toInt + 6) (a7.toInt) := by have q9 := u3_136; rw [show z130.toInt + 2 = (12919 + 8 * z104.toInt + 6) by omega] at q9; exact q9
                      have hI := mo_w_cargo hI hU z104.toInt (6) (by omega) (by omega) (by omega)
                      have pn147 : Q3_136 (0) = n0x := (hU.ne (by omega) (by omega)).trans pn143
                      have pn148 : Q3_136 (10) = z104.toInt := (hU.ne (by omega) (by omega)).trans pn144
                      have pn149 : Q3_136 (12919 + 8 * z104.toInt + 0) = v.toInt := (hU.ne (by omega) (by omega)).trans pn145
                      have pn150 : Q3_136 (12919 + 8 * z104.toInt + 1) = u.toInt := (hU.ne (by omega) (by omega)).trans pn146
                      have hU : mo_U (Q3_136) (mo_R g138) (12919 + 8 * z104.toInt + 7) (a8.toInt) := by have q9 := u4_136; rw [show z130.toInt + 3 = (12919 + 8 * z104.toInt + 7) by omega] at q9; exact q9
                      have hI := mo_w_cargo hI hU z104.toInt (7) (by omega) (by omega) (by omega)
                      have pn151 : mo_R g138 (0) = n0x := (hU.ne (by omega) (by omega)).trans pn147
                      have pn152 : mo_R g138 (10) = z104.toInt := (hU.ne (by omega) (by omega)).trans pn148
                      have pn153 : mo_R g138 (12919 + 8 * z104.toInt + 0) = v.toInt := (hU.ne (by omega) (by omega)).trans pn149
                      have pn154 : mo_R g138 (12919 + 8 * z104.toInt + 1) = u.toInt := (hU.ne (by omega) (by omega)).trans pn150
                      refine lv_aload_n hx hb dX12_cargo_175 rfl (lv_at hl 1 rfl) ?_
                      have hf_155 : f135 h0 = .inr (12, [.int 0, .int o28_x1, .ref (ρ h0 2), .ref (ρ h0 3), .ref (ρ h0 4), .ref (ρ h0 5), .ref (ρ h0 6), .int o28_x7, .ref (ρ h0 8), .int o28_x9, .int o28_x10, .int o28_x11, .int o28_x12, .long o28_x13, .int o28_x14, .int o28_x15, .int o28_x16, .int o28_x17, .int o28_x18, .int o28_x19, .int o28_x20, .ref (ρ h0 21), .int o28_x22, .ref (ρ h0 23), .ref (ρ h0 24), .int o28_x25, .ref (ρ h0 26), .ref (ρ h0 27), .int o28_x28, .int o28_x29, .ref (ρ h0 30), .ref (ρ h0 31), .int o28_x32, .long o28_x33, .long o28_x34, .long o28_x35, .int o28_x36, .int o28_x37, .int o28_x38, .ref (ρ h0 39), .ref (ρ h0 40), .ref (ρ h0 41), .ref (ρ h0 42), .ref (ρ h0 43), .ref (ρ h0 44), .ref (ρ h0 45), .ref (ρ h0 46), .int o28_x47, .int o28_x48, .ref (ρ h0 49), .ref (ρ h0 50), .ref (ρ h0 51), .ref (ρ h0 52)]) := (hF136 _ (by rw [ht_h0]; decide)).trans hf_131
                      obtain ⟨q156, eq156⟩ := tp_pos (tp_in hG ht_h0 (by decide)) hf_155
                      refine va_get (D := (dC, dI)) (ci := 12) (v := .ref (ρ h0 2)) (C := RX12) (T := TX12) (N := 53) hx hb hts hfX12 hown hK hP q156 eq156 rfl 2 (by decide) (hts (.fieldLink RX12 7 "ColdShipsModel" "row" "[I") (by decide +kernel)) (fun _ h9 => h9) rfl dX12_cargo_176 ?_
                      refine lv_bipush (v := 10) hx hb dX12_cargo_179 (by decide) ?_
                      refine lv_dup2_11 hx hb dX12_cargo_181 rfl rfl ?_
                      obtain ⟨q157, eq157⟩ := tp_pos (tp_in hG y1 (by decide)) hf_o137
                      refine va_iald hx hb hK hP q157 0 eq157 rfl (vp_in_iff.mpr ⟨by decide, by decide⟩) dX12_cargo_182 ?_
                      refine lv_topi (fun z158 ez158 => ?_)
                      have jz158 : z158.toInt = mo_R g138 (10) := mo_rd ez158 (show (10 : Int32).toInt = (10) from by decide)
                      have kz158 := hI.k10
                      refine lv_iconst (v := 1) hx hb dX12_cargo_183 (by decide) ?_
                      refine lv_iadd hx hb dX12_cargo_184 ?_
                      refine lv_topi (fun z159 ez159 => ?_)
                      have iz159 : z159.toInt = z158.toInt + 1 := zi_add ez159 rfl rfl (by omega) (by omega)
                      refine va_iast hx hb hK hP hD hS q157 0 eq157 rfl (vp_in_iff.mpr ⟨by decide, by decide⟩) dX12_cargo_185 (tp_k (.inl (κ 0, 12967, .inl (upd g138 (10 : Int32).toNatClampNeg z159))) hD (tp_in hG y1 (by decide)) eq157 (fun f160 H locs hP hD hS g162 k161 => ?_))
                      have hT := hT.up y1 g162 k161 tp_o32
                      have hR := hR.up y1 (by decide) k161
                      have hU : mo_U (mo_R g138) (mo_R (upd g138 (10 : Int32).toNatClampNeg z159)) (10) (z159.toInt) := mo_up (show (10 : Int32).toInt = (10) from by decide) (rfl : z159.toInt = _) (by omega)
                      generalize (upd g138 (10 : Int32).toNatClampNeg z159) = g163 at g162 hU
                      have hI := mo_w_nA hI hU (z104.toInt) rfl pn152 (by omega) (by omega) (by omega)
                      have pn164 : mo_R g163 (0) = n0x := (hU.ne (by omega) (by omega)).trans pn151
                      have pn165 : mo_R g163 (12919 + 8 * z104.toInt + 0) = v.toInt := (hU.ne (by omega) (by omega)).trans pn153
                      have pn166 : mo_R g163 (12919 + 8 * z104.toInt + 1) = u.toInt := (hU.ne (by omega) (by omega)).trans pn154
                      have pn167 : mo_R g163 (10) = z159.toInt := hU.eq (by omega)
                      refine lv_aload_n hx hb dX12_cargo_186 rfl (lv_at hl 1 rfl) ?_
                      refine lv_aload_n hx hb dX12_cargo_187 rfl (lv_at hl 1 rfl) ?_
                      have hf_168 : f160 h0 = .inr (12, [.int 0, .int o28_x1, .ref (ρ h0 2), .ref (ρ h0 3), .ref (ρ h0 4), .ref (ρ h0 5), .ref (ρ h0 6), .int o28_x7, .ref (ρ h0 8), .int o28_x9, .int o28_x10, .int o28_x11, .int o28_x12, .long o28_x13, .int o28_x14, .int o28_x15, .int o28_x16, .int o28_x17, .int o28_x18, .int o28_x19, .int o28_x20, .ref (ρ h0 21), .int o28_x22, .ref (ρ h0 23), .ref (ρ h0 24), .int o28_x25, .ref (ρ h0 26), .ref (ρ h0 27), .int o28_x28, .int o28_x29, .ref (ρ h0 30), .ref (ρ h0 31), .int o28_x32, .long o28_x33, .long o28_x34, .long o28_x35, .int o28_x36, .int o28_x37, .int o28_x38, .ref (ρ h0 39), .ref (ρ h0 40), .ref (ρ h0 41), .ref (ρ h0 42), .ref (ρ h0 43), .ref (ρ h0 44), .ref (ρ h0 45), .ref (ρ h0 46), .int o28_x47, .int o28_x48, .ref (ρ h0 49), .ref (ρ h0 50), .ref (ρ h0 51), .ref (ρ h0 52)]) := (k161 _ (tp_ne ht_h0 y1 (by decide))).trans hf_155
                      obtain ⟨q169, eq169⟩ := tp_pos (tp_in hG ht_h0 (by decide)) hf_168
                      refine va_get (D := (dC, dI)) (ci := 12) (v := .ref (ρ h0 2)) (C := RX12) (T := TX12) (N := 53) hx hb hts hfX12 hown hK hP q169 eq169 rfl 2 (by decide) (hts (.fieldLink RX12 7 "ColdShipsModel" "row" "[I") (by decide +kernel)) (fun _ h9 => h9) rfl dX12_cargo_188 ?_
                      refine lv_bipush (v := 10) hx hb dX12_cargo_191 (by decide) ?_
                      obtain ⟨q170, eq170⟩ := tp_pos (tp_in hG y1 (by decide)) g162
                      refine va_iald hx hb hK hP q170 0 eq170 rfl (vp_in_iff.mpr ⟨by decide, by decide⟩) dX12_cargo_193 ?_
                      refine lv_topi (fun z171 ez171 => ?_)
                      have jz171 : z171.toInt = mo_R g163 (10) := mo_rd ez171 (show (10 : Int32).toInt = (10) from by decide)
                      have kz171 := hI.k10
                      have hFc := tp_fr hD hS hA
                      refine va_calli (va_runV (As := [.int z171]) (rest := []) ⟨hx, hb, hml, hown, hts⟩ (t_X12_told l dC dI _ κ τ ν ρ L f160 hG hT h0 z171 ht_h0) (cwV 1 hts gX12_cargo_X12_told rfl rfl rfl (by decide +kernel) ⟨Nat.le_of_ble_eq_true rfl, Nat.le_of_ble_eq_true rfl⟩) ⟨pz_blind, va_recv hK hP (ci := 12) (q0 := q169) rfl eq169, pz_pre hP hK hD hN⟩ rfl rfl hl.1 rfl (lv_room (Nat.le_of_ble_eq_true rfl)) dX12_cargo_194 ⟨Nat.le_of_ble_eq_true rfl, Nat.le_of_ble_eq_true rfl⟩) hS (fun q _ h => hFc q h) hFc (fun r172 f174 t H1 locs ht hvm hw173 hB hz1 hk1 hS => ?_)
                      obtain ⟨hT, hF175, hw173r, hw173p⟩ := hw173
                      have hR := hR.then hF175 (by decide)
                      have hP := hB.1; rw [ht] at hP; have hD := tp_ad f174 hD; clear hB hFc hz1 hk1; subst ht; generalize t.heap = H at hP hS ⊢
                      have hw173pq : r172.toInt = z171.toInt := by rw [hw173p]
                      have hf_176 : f174 (ρ h0 2) = .inl (κ 0, 12967, .inl g163) := (hF175 _ (by rw [y1]; decide)).trans g162
                      exact W.iret (v := r172) hx hb hr (fun t ht hW => ⟨⟨r172, f174, rfl, ⟨hT, hR, trivial, (by rw [hf_176, mo_i1]; exact hI)⟩, by rw [ht]; exact hP, va_K.moved hW.alike hK, hD⟩, hS.F ht⟩) hS.2.2 dX12_cargo_197
                    · have ic105 : z104.toInt = 6 := zi_nef rfl rfl c105
                      refine lv_aload_n hx hb dX12_cargo_125 rfl (lv_at hl 0 rfl) ?_
                      refine lv_bipush (v := (-5)) hx hb dX12_cargo_126 (by decide) ?_
                      have hFc := tp_fr hD hS hA
                      refine va_calli (va_runV (As := [.int (-5)]) (rest := []) ⟨hx, hb, hml, hown, hts⟩ (t_X12_told l dC dI _ κ τ ν ρ L f30 hG hT h0 ((-5)) ht_h0) (cwV 1 hts gX12_cargo_X12_told rfl rfl rfl (by decide +kernel) ⟨Nat.le_of_ble_eq_true rfl, Nat.le_of_ble_eq_true rfl⟩) ⟨pz_blind, va_recv hK hP (ci := 12) (q0 := q88) rfl eq88, pz_pre hP hK hD hN⟩ rfl rfl hl.1 rfl (lv_room (Nat.le_of_ble_eq_true rfl)) dX12_cargo_128 ⟨Nat.le_of_ble_eq_true rfl, Nat.le_of_ble_eq_true rfl⟩) hS (fun q _ h => hFc q h) hFc (fun r177 f179 t H1 locs ht hvm hw178 hB hz1 hk1 hS => ?_)
                      obtain ⟨hT, hF180, hw178r, hw178p⟩ := hw178
                      have hR := hR.then hF180 (by decide)
                      have hP := hB.1; rw [ht] at hP; have hD := tp_ad f179 hD; clear hB hFc hz1 hk1; subst ht; generalize t.heap = H at hP hS ⊢
                      have hw178pq : r177.toInt = (-5) := by rw [hw178p]; rfl
                      have hf_181 : f179 (ρ h0 2) = .inl (κ 0, 12967, .inl g27) := (hF180 _ (by rw [y1]; decide)).trans hf_33
                      exact W.iret (v := r177) hx hb hr (fun t ht hW => ⟨⟨r177, f179, rfl, ⟨hT, hR, trivial, (by rw [hf_181, mo_i1]; exact hI)⟩, by rw [ht]; exact hP, va_K.moved hW.alike hK, hD⟩, hS.F ht⟩) hS.2.2 dX12_cargo_131
                  · have ic102 : v.toInt = u.toInt := zi_nef rfl rfl c102
                    refine lv_aload_n hx hb dX12_cargo_106 rfl (lv_at hl 0 rfl) ?_
                    refine lv_bipush (v := (-3)) hx hb dX12_cargo_107 (by decide) ?_
                    have hFc := tp_fr hD hS hA
                    refine va_calli (va_runV (As := [.int (-3)]) (rest := []) ⟨hx, hb, hml, hown, hts⟩ (t_X12_told l dC dI _ κ τ ν ρ L f30 hG hT h0 ((-3)) ht_h0) (cwV 1 hts gX12_cargo_X12_told rfl rfl rfl (by decide +kernel) ⟨Nat.le_of_ble_eq_true rfl, Nat.le_of_ble_eq_true rfl⟩) ⟨pz_blind, va_recv hK hP (ci := 12) (q0 := q88) rfl eq88, pz_pre hP hK hD hN⟩ rfl rfl hl.1 rfl (lv_room (Nat.le_of_ble_eq_true rfl)) dX12_cargo_109 ⟨Nat.le_of_ble_eq_true rfl, Nat.le_of_ble_eq_true rfl⟩) hS (fun q _ h => hFc q h) hFc (fun r182 f184 t H1 locs ht hvm hw183 hB hz1 hk1 hS => ?_)
                    obtain ⟨hT, hF185, hw183r, hw183p⟩ := hw183
                    have hR := hR.then hF185 (by decide)
                    have hP := hB.1; rw [ht] at hP; have hD := tp_ad f184 hD; clear hB hFc hz1 hk1; subst ht; generalize t.heap = H at hP hS ⊢
                    have hw183pq : r182.toInt = (-3) := by rw [hw183p]; rfl
                    have hf_186 : f184 (ρ h0 2) = .inl (κ 0, 12967, .inl g27) := (hF185 _ (by rw [y1]; decide)).trans hf_33
                    exact W.iret (v := r182) hx hb hr (fun t ht hW => ⟨⟨r182, f184, rfl, ⟨hT, hR, trivial, (by rw [hf_186, mo_i1]; exact hI)⟩, by rw [ht]; exact hP, va_K.moved hW.alike hK, hD⟩, hS.F ht⟩) hS.2.2 dX12_cargo_112
                · have ic100 : r98.toInt = 0 := zi_nef rfl rfl c100
                  refine lv_aload_n hx hb dX12_cargo_94 rfl (lv_at hl 0 rfl) ?_
                  refine lv_bipush (v := (-2)) hx hb dX12_cargo_95 (by decide) ?_
                  have hFc := tp_fr hD hS hA
                  refine va_calli (va_runV (As := [.int (-2)]) (rest := []) ⟨hx, hb, hml, hown, hts⟩ (t_X12_told l dC dI _ κ τ ν ρ L f30 hG hT h0 ((-2)) ht_h0) (cwV 1 hts gX12_cargo_X12_told rfl rfl rfl (by decide +kernel) ⟨Nat.le_of_ble_eq_true rfl, Nat.le_of_ble_eq_true rfl⟩) ⟨pz_blind, va_recv hK hP (ci := 12) (q0 := q88) rfl eq88, pz_pre hP hK hD hN⟩ rfl rfl hl.1 rfl (lv_room (Nat.le_of_ble_eq_true rfl)) dX12_cargo_97 ⟨Nat.le_of_ble_eq_true rfl, Nat.le_of_ble_eq_true rfl⟩) hS (fun q _ h => hFc q h) hFc (fun r187 f189 t H1 locs ht hvm hw188 hB hz1 hk1 hS => ?_)
                  obtain ⟨hT, hF190, hw188r, hw188p⟩ := hw188
                  have hR := hR.then hF190 (by decide)
                  have hP := hB.1; rw [ht] at hP; have hD := tp_ad f189 hD; clear hB hFc hz1 hk1; subst ht; generalize t.heap = H at hP hS ⊢
                  have hw188pq : r187.toInt = (-2) := by rw [hw188p]; rfl
                  have hf_191 : f189 (ρ h0 2) = .inl (κ 0, 12967, .inl g27) := (hF190 _ (by rw [y1]; decide)).trans hf_33
                  exact W.iret (v := r187) hx hb hr (fun t ht hW => ⟨⟨r187, f189, rfl, ⟨hT, hR, trivial, (by rw [hf_191, mo_i1]; exact hI)⟩, by rw [ht]; exact hP, va_K.moved hW.alike hK, hD⟩, hS.F ht⟩) hS.2.2 dX12_cargo_100
            · have ic86 : r84.toInt = 0 := zi_nef rfl rfl c86
              refine lv_aload_n hx hb dX12_cargo_72 rfl (lv_at hl 0 rfl) ?_
              refine lv_iconst (v := (-1)) hx hb dX12_cargo_73 (by decide) ?_
              obtain ⟨q192, eq192⟩ := tp_pos (tp_in hG ht_h0 (by decide)) g32
              have hFc := tp_fr hD hS hA
              refine va_calli (va_runV (As := [.int (-1)]) (rest := []) ⟨hx, hb, hml, hown, hts⟩ (t_X12_told l dC dI _ κ τ ν ρ L f30 hG hT h0 ((-1)) ht_h0) (cwV 1 hts gX12_cargo_X12_told rfl rfl rfl (by decide +kernel) ⟨Nat.le_of_ble_eq_true rfl, Nat.le_of_ble_eq_true rfl⟩) ⟨pz_blind, va_recv hK hP (ci := 12) (q0 := q192) rfl eq192, pz_pre hP hK hD hN⟩ rfl rfl hl.1 rfl (lv_room (Nat.le_of_ble_eq_true rfl)) dX12_cargo_74 ⟨Nat.le_of_ble_eq_true rfl, Nat.le_of_ble_eq_true rfl⟩) hS (fun q _ h => hFc q h) hFc (fun r193 f195 t H1 locs ht hvm hw194 hB hz1 hk1 hS => ?_)
              obtain ⟨hT, hF196, hw194r, hw194p⟩ := hw194
              have hR := hR.then hF196 (by decide)
              have hP := hB.1; rw [ht] at hP; have hD := tp_ad f195 hD; clear hB hFc hz1 hk1; subst ht; generalize t.heap = H at hP hS ⊢
              have hw194pq : r193.toInt = (-1) := by rw [hw194p]; rfl
              have hf_197 : f195 (ρ h0 2) = .inl (κ 0, 12967, .inl g27) := (hF196 _ (by rw [y1]; decide)).trans hf_33
              exact W.iret (v := r193) hx hb hr (fun t ht hW => ⟨⟨r193, f195, rfl, ⟨hT, hR, trivial, (by rw [hf_197, mo_i1]; exact hI)⟩, by rw [ht]; exact hP, va_K.moved hW.alike hK, hD⟩, hS.F ht⟩) hS.2.2 dX12_cargo_77
set_option maxHeartbeats 4000000 in
set_option maxRecDepth 100000 in
theorem t_X12_settled (l : Launch) (dC : Nat → ClassId) (dI : Nat → Nat → Nat) (sz : Nat) (κ : Nat → ClassId) (τ ν : Nat → Nat) (ρ : Nat → Nat → Nat) (L : List Nat) (f : Nat → va_E) (hG : tp_G τ ν ρ L) (hT : tp_T (mo_O κ) κ τ ν ρ f) (h0 : Nat) (v : Int32) (u : Int32) (ht_h0 : τ h0 = 13) (hJ : mo_RI (-1) 0 (mo_R (mo_i (f (ρ h0 2))))) : Met l yX12_settled wsX12_settled ({ frames := 4, cells := 0, slots := 0, locals := 1200 }) (va_Pc [.ref h0, .int v, .int u] (pz_B dC dI (tp_K κ) (va_pl L f) sz)) (va_Ql (fun (r : Int64) (f1 : Nat → va_E) => tp_T (mo_O κ) κ τ ν ρ f1 ∧ tp_F τ [13] f f1 ∧ True ∧ True) (fun (f1 : Nat → va_E) (t : State) => pz_E dC dI (tp_K κ) (va_A (va_pl L f) sz) (va_pl L f1) t) (va_A (va_pl L f) sz)) 0 0 (va_A (va_pl L f) sz) := by
  refine Met.ofW (cc := cX12_settled) (maxL := 4) (ret := some .long) (by decide) rfl ?_
  intro p e s m args below meth c s₁ B hml hv
  obtain ⟨rfl, hsz, hP, hK, hD0, hN⟩ := hv
  have hx := B.exec
  have hb := B.bytes
  have hr := B.returns
  have hts := atoms_spec (ws := wsX12_settled) B.pre
  have hown : s.vm.findClass RX12 = some m.cls := findClass_of_methodNamed B.named
  have hlocks := B.notSynchronized
  subst hsz
  have hD := hD0.self (sz := s.heap.size)
  generalize hAe : va_A (va_pl L f) s.heap.size = A at hD ⊢
  have hA : ∀ q : Nat, s.heap.size ≤ q → A q := fun q h => by rw [← hAe]; exact Or.inr h
  have hS : va_S A s.heap s.heap [] := va_S.rf
  have hR : tp_F τ [13] f f := tp_F.rf
  have hl := lv_entry ([.ref h0, .int v, .int u]) (n := 4) (Nat.le_of_ble_eq_true rfl)
  rw [lg_entry_eq]
  generalize (lg_sl ([.ref h0, .int v, .int u]) ++ List.replicate (4 - (lg_sl ([.ref h0, .int v, .int u])).length) Slot.unset).toArray = ls at hl ⊢
  have hl : lv_has ls 4 [(0, .ref h0), (1, .int v), (2, .int u)] := hl
  have hfX12 : ∀ w ∈ wsX120, w ∈ wsX12_settled := fun w h => List.mem_cons_of_mem _ (List.mem_append_right _ h)
  obtain ⟨y1, y2, y3, y4, y5, y6, y7, y8, y9, y10, y11, y12, y13, y14, y15, y16, y17, y18, y19, y20, y21, y22, y23, y24, y25⟩ := tpg_13 hG ht_h0
  obtain ⟨g27, hf_o26⟩ := tpo_32 hT y1
  have hI : mo_RI (-1) 0 (mo_R g27) := by have q9 := hJ; rw [hf_o26, mo_i1] at q9; exact q9
  refine lv_aload_n hx hb dX12_settled_0 rfl (lv_at hl 0 rfl) ?_
  refine lv_iconst (v := 0) hx hb dX12_settled_1 (by decide) ?_
  obtain ⟨o28_x0, o28_x1, o28_x7, o28_x9, o28_x10, o28_x11, o28_x12, o28_x13, o28_x14, o28_x15, o28_x16, o28_x17, o28_x18, o28_x19, o28_x20, o28_x22, o28_x25, o28_x28, o28_x29, o28_x32, o28_x33, o28_x34, o28_x35, o28_x36, o28_x37, o28_x38, o28_x47, o28_x48, hf_o28, ro28_0, ro28_1, ro28_2, ro28_3, ro28_4, ro28_5, ro28_6, ro28_7, ro28_8, ro28_9, ro28_10, ro28_11, ro28_12, ro28_13⟩ := tpo_13 hT ht_h0
  obtain ⟨q29, eq29⟩ := tp_pos (tp_in hG ht_h0 (by decide)) hf_o28
  refine va_put (D := (dC, dI)) (ci := 12) (v := .int 0) (ty := .int) (C := RX12) (T := TX12) (N := 53) hx hb hts hfX12 tyX12 tyX12_ok nmX12 hown hK hP hD hS q29 eq29 rfl 0 (by decide) (hts (.fieldLink RX12 91 "ColdShipsModel" "thrown" "I") (by decide +kernel)) (fun _ h9 => h9) rfl (by decide +kernel) rfl rfl (Nat.le_of_ble_eq_true rfl) dX12_settled_2 (tp_k (.inr (12, [.int 0, .int o28_x1, .ref (ρ h0 2), .ref (ρ h0 3), .ref (ρ h0 4), .ref (ρ h0 5), .ref (ρ h0 6), .int o28_x7, .ref (ρ h0 8), .int o28_x9, .int o28_x10, .int o28_x11, .int o28_x12, .long o28_x13, .int o28_x14, .int o28_x15, .int o28_x16, .int o28_x17, .int o28_x18, .int o28_x19, .int o28_x20, .ref (ρ h0 21), .int o28_x22, .ref (ρ h0 23), .ref (ρ h0 24), .int o28_x25, .ref (ρ h0 26), .ref (ρ h0 27), .int o28_x28, .int o28_x29, .ref (ρ h0 30), .ref (ρ h0 31), .int o28_x32, .long o28_x33, .long o28_x34, .long o28_x35, .int o28_x36, .int o28_x37, .int o28_x38, .ref (ρ h0 39), .ref (ρ h0 40), .ref (ρ h0 41), .ref (ρ h0 42), .ref (ρ h0 43), .ref (ρ h0 44), .ref (ρ h0 45), .ref (ρ h0 46), .int o28_x47, .int o28_x48, .ref (ρ h0 49), .ref (ρ h0 50), .ref (ρ h0 51), .ref (ρ h0 52)])) hD (tp_in hG ht_h0 (by decide)) eq29 (fun f30 H locs hP hD hS g32 k31 => ?_))
  have hT := hT.up ht_h0 g32 k31 ⟨_, _, _, _, _, _, _, _, _, _, _, _, _, _, _, _, _, _, _, _, _, _, _, _, _, _, _, _, rfl, ro28_0, ro28_1, ro28_2, ro28_3, ro28_4, ro28_5, ro28_6, ro28_7, ro28_8, ro28_9, ro28_10, ro28_11, ro28_12, ro28_13⟩
  have hR := hR.up ht_h0 (by decide) k31
  refine lv_aload_n hx hb dX12_settled_5 rfl (lv_at hl 0 rfl) ?_
  refine lv_iload_n hx hb dX12_settled_6 rfl (lv_at hl 1 rfl) ?_
  have hf_33 : f30 (ρ h0 2) = .inl (κ 0, 12967, .inl g27) := (k31 _ (tp_ne y1 ht_h0 (by decide))).trans hf_o26
  obtain ⟨q34, eq34⟩ := tp_pos (tp_in hG ht_h0 (by decide)) g32
  refine pz_calli (va_runV (As := [.int v]) (rest := []) ⟨hx, hb, hml, hown, hts⟩ (t_X12_isLanding l dC dI _ κ τ ν ρ L f30 hG hT h0 v (-1) 0 ht_h0 (by rw [hf_33, mo_i1]; exact hI)) (cwV 1 hts gX12_settled_X12_isLanding rfl rfl rfl (by decide +kernel) ⟨Nat.le_of_ble_eq_true rfl, Nat.le_of_ble_eq_true rfl⟩) ⟨pz_blind, va_recv hK hP (ci := 12) (q0 := q34) rfl eq34, pz_pre hP hK hD hN⟩ rfl rfl hl.1 rfl (lv_room (Nat.le_of_ble_eq_true rfl)) dX12_settled_7 ⟨Nat.le_of_ble_eq_true rfl, Nat.le_of_ble_eq_true rfl⟩) (fun r35 hw36 => ?_)
  obtain ⟨hw36r, hw36p⟩ := hw36
  have := hI.k5
  rw [hf_33, mo_i1] at hw36p
  refine lv_if_eq (tgt := 41) hx hb dX12_settled_10 (by decide) (fun c37 => ?_) (fun c37 => ?_)
  · have ic37 : r35.toInt = 0 := zi_eq rfl rfl c37
    refine lv_ldc2 (own := RX12) (v := (-2000000000000000)) hx hb hown (hts (.constantLong RX12 466 (-2000000000000000)) (by decide +kernel)) dX12_settled_41 ?_
    exact W.lret (v := (-2000000000000000)) hx hb hr (fun t ht hW => ⟨⟨(-2000000000000000), f30, rfl, ⟨hT, hR, trivial, trivial⟩, by rw [ht]; exact hP, va_K.moved hW.alike hK, hD⟩, hS.F ht⟩) hS.2.2 dX12_settled_44
  · have ic37 : r35.toInt ≠ 0 := zi_eqf rfl rfl c37
    have p38 : 0 ≤ v.toInt ∧ v.toInt < mo_R g27 5 := (tp_cond.yes hw36p) (by omega)
    refine lv_iload_n hx hb dX12_settled_13 rfl (lv_at hl 2 rfl) ?_
    refine lv_i2l hx hb dX12_settled_14 rfl ?_
    refine lv_lconst (v := 0) hx hb dX12_settled_15 (by decide) ?_
    refine lv_ldc2 (own := RX12) (v := 2) hx hb hown (hts (.constantLong RX12 477 (2)) (by decide +kernel)) dX12_settled_16 ?_
    refine pz_calli (va_runS (As := [.long u.toInt64, .long 0, .long 2]) (rest := []) ⟨hx, hb, hml, hown, hts⟩ (t_X12_in l dC dI _ u.toInt64 (0) (2) (u.toInt) (0) (2) (Int32.toInt_toInt64 u) rfl rfl) (va_cwS 3 hts gX12_settled_X12_in rfl rfl rfl (by decide +kernel) ⟨Nat.le_of_ble_eq_true rfl, Nat.le_of_ble_eq_true rfl⟩) ⟨pz_blind, pz_pre pz_P0 (hK.sub (tys' := []) [] rfl) (pz_D0 (A := fun _ => True)) hN⟩ rfl rfl hl.1 rfl (lv_room (Nat.le_of_ble_eq_true rfl)) dX12_settled_19 ⟨Nat.le_of_ble_eq_true rfl, Nat.le_of_ble_eq_true rfl⟩) (fun r39 hw40 => ?_)
    obtain ⟨hw40r, hw40p⟩ := hw40
    refine lv_if_eq (tgt := 41) hx hb dX12_settled_22 (by decide) (fun c41 => ?_) (fun c41 => ?_)
    · have ic41 : r39.toInt = 0 := zi_eq rfl rfl c41
      refine lv_ldc2 (own := RX12) (v := (-2000000000000000)) hx hb hown (hts (.constantLong RX12 466 (-2000000000000000)) (by decide +kernel)) dX12_settled_41 ?_
      exact W.lret (v := (-2000000000000000)) hx hb hr (fun t ht hW => ⟨⟨(-2000000000000000), f30, rfl, ⟨hT, hR, trivial, trivial⟩, by rw [ht]; exact hP, va_K.moved hW.alike hK, hD⟩, hS.F ht⟩) hS.2.2 dX12_settled_44
    · have ic41 : r39.toInt ≠ 0 := zi_eqf rfl rfl c41
      have p42 : (0) ≤ (u.toInt) ∧ (u.toInt) ≤ (2) := (tp_cond.yes hw40p) (by omega)
      refine lv_aload_n hx hb dX12_settled_25 rfl (lv_at hl 0 rfl) ?_
      refine va_get (D := (dC, dI)) (ci := 12) (v := .ref (ρ h0 2)) (C := RX12) (T := TX12) (N := 53) hx hb hts hfX12 hown hK hP q34 eq34 rfl 2 (by decide) (hts (.fieldLink RX12 7 "ColdShipsModel" "row" "[I") (by decide +kernel)) (fun _ h9 => h9) rfl dX12_settled_26 ?_
      refine lv_iload_n hx hb dX12_settled_29 rfl (lv_at hl 1 rfl) ?_
      refine pz_calli (va_runS (As := [.int v]) (rest := [.ref (ρ h0 2)]) ⟨hx, hb, hml, hown, hts⟩ (t_X12_landingAt l dC dI _ v (v.toInt) (by omega) rfl) (va_cwS 1 hts gX12_settled_X12_landingAt rfl rfl rfl (by decide +kernel) ⟨Nat.le_of_ble_eq_true rfl, Nat.le_of_ble_eq_true rfl⟩) ⟨pz_blind, pz_pre pz_P0 (hK.sub (tys' := []) [] rfl) (pz_D0 (A := fun _ => True)) hN⟩ rfl rfl hl.1 rfl (lv_room (Nat.le_of_ble_eq_true rfl)) dX12_settled_30 ⟨Nat.le_of_ble_eq_true rfl, Nat.le_of_ble_eq_true rfl⟩) (fun r43 hw44 => ?_)
      obtain ⟨hw44r, hw44p⟩ := hw44
      refine lv_bipush (v := 12) hx hb dX12_settled_33 (by decide) ?_
      refine lv_iadd hx hb dX12_settled_35 ?_
      refine lv_topi (fun z45 ez45 => ?_)
      have iz45 : z45.toInt = r43.toInt + 12 := zi_add ez45 rfl rfl (by omega) (by omega)
      obtain ⟨q46, eq46⟩ := tp_pos (tp_in hG y1 (by decide)) hf_33
      refine va_iald hx hb hK hP q46 0 eq46 rfl (vp_in_iff.mpr ⟨by omega, by omega⟩) dX12_settled_36 ?_
      refine lv_topi (fun z47 ez47 => ?_)
      refine lv_iconst (v := (-1)) hx hb dX12_settled_37 (by decide) ?_
      refine lv_icmp_ne (tgt := 45) hx hb dX12_settled_38 (by decide) (fun c48 => ?_) (fun c48 => ?_)
      · have ic48 : z47.toInt ≠ (-1) := zi_ne rfl rfl c48
        refine lv_iload_n hx hb dX12_settled_45 rfl (lv_at hl 1 rfl) ?_
        refine pz_calli (va_runS (As := [.int v]) (rest := []) ⟨hx, hb, hml, hown, hts⟩ (t_X12_landingAt l dC dI _ v (v.toInt) (by omega) rfl) (va_cwS 1 hts gX12_settled_X12_landingAt rfl rfl rfl (by decide +kernel) ⟨Nat.le_of_ble_eq_true rfl, Nat.le_of_ble_eq_true rfl⟩) ⟨pz_blind, pz_pre pz_P0 (hK.sub (tys' := []) [] rfl) (pz_D0 (A := fun _ => True)) hN⟩ rfl rfl hl.1 rfl (lv_room (Nat.le_of_ble_eq_true rfl)) dX12_settled_46 ⟨Nat.le_of_ble_eq_true rfl, Nat.le_of_ble_eq_true rfl⟩) (fun r49 hw50 => ?_)
        obtain ⟨hw50r, hw50p⟩ := hw50
        refine lv_istore_n (lv' := [(3, .int r49), (0, .ref h0), (1, .int v), (2, .int u)]) hx hb dX12_settled_49 rfl hl (by decide) rfl (fun ls hl => ?_)
        refine lv_iload_n hx hb dX12_settled_50 rfl (lv_at hl 3 rfl) ?_
        refine lv_if_ne (tgt := 85) hx hb dX12_settled_51 (by decide) (fun c51 => ?_) (fun c51 => ?_)
        · have ic51 : u.toInt ≠ 0 := zi_ne rfl rfl c51
          refine lv_aload_n hx hb dX12_settled_85 rfl (lv_at hl 1 rfl) ?_
          refine va_get (D := (dC, dI)) (ci := 12) (v := .ref (ρ h0 2)) (C := RX12) (T := TX12) (N := 53) hx hb hts hfX12 hown hK hP q34 eq34 rfl 2 (by decide) (hts (.fieldLink RX12 7 "ColdShipsModel" "row" "[I") (by decide +kernel)) (fun _ h9 => h9) rfl dX12_settled_86 ?_
          refine lv_iload_n hx hb dX12_settled_89 rfl (lv_at hl 0 rfl) ?_
          refine lv_bipush (v := 11) hx hb dX12_settled_90 (by decide) ?_
          refine lv_iadd hx hb dX12_settled_92 ?_
          refine lv_topi (fun z52 ez52 => ?_)
          have iz52 : z52.toInt = r49.toInt + 11 := zi_add ez52 rfl rfl (by omega) (by omega)
          refine lv_iload_n hx hb dX12_settled_93 rfl (lv_at hl 3 rfl) ?_
          refine lv_iadd hx hb dX12_settled_94 ?_
          refine lv_topi (fun z53 ez53 => ?_)
          have iz53 : z53.toInt = z52.toInt + u.toInt := zi_add ez53 rfl rfl (by omega) (by omega)
          refine va_iald hx hb hK hP q46 0 eq46 rfl (vp_in_iff.mpr ⟨by omega, by omega⟩) dX12_settled_95 ?_
          refine lv_topi (fun z54 ez54 => ?_)
          refine lv_i2l hx hb dX12_settled_96 rfl ?_
          exact W.lret (v := z54.toInt64) hx hb hr (fun t ht hW => ⟨⟨z54.toInt64, f30, rfl, ⟨hT, hR, trivial, trivial⟩, by rw [ht]; exact hP, va_K.moved hW.alike hK, hD⟩, hS.F ht⟩) hS.2.2 dX12_settled_97
        · have ic51 : u.toInt = 0 := zi_nef rfl rfl c51
          refine lv_aload_n hx hb dX12_settled_54 rfl (lv_at hl 1 rfl) ?_
          refine va_get (D := (dC, dI)) (ci := 12) (v := .ref (ρ h0 2)) (C := RX12) (T := TX12) (N := 53) hx hb hts hfX12 hown hK hP q34 eq34 rfl 2 (by decide) (hts (.fieldLink RX12 7 "ColdShipsModel" "row" "[I") (by decide +kernel)) (fun _ h9 => h9) rfl dX12_settled_55 ?_
          refine lv_iload_n hx hb dX12_settled_58 rfl (lv_at hl 0 rfl) ?_
          refine lv_bipush (v := 14) hx hb dX12_settled_59 (by decide) ?_
          refine lv_iadd hx hb dX12_settled_61 ?_
          refine lv_topi (fun z55 ez55 => ?_)
          have iz55 : z55.toInt = r49.toInt + 14 := zi_add ez55 rfl rfl (by omega) (by omega)
          refine va_iald hx hb hK hP q46 0 eq46 rfl (vp_in_iff.mpr ⟨by omega, by omega⟩) dX12_settled_62 ?_
          refine lv_topi (fun z56 ez56 => ?_)
          refine lv_i2l hx hb dX12_settled_63 rfl ?_
          refine lv_bipush (v := 32) hx hb dX12_settled_64 (by decide) ?_
          refine lv_lshl hx hb dX12_settled_66 ?_
          refine lv_topl (fun z57 ez57 => ?_)
          refine lv_aload_n hx hb dX12_settled_67 rfl (lv_at hl 1 rfl) ?_
          refine va_get (D := (dC, dI)) (ci := 12) (v := .ref (ρ h0 2)) (C := RX12) (T := TX12) (N := 53) hx hb hts hfX12 hown hK hP q34 eq34 rfl 2 (by decide) (hts (.fieldLink RX12 7 "ColdShipsModel" "row" "[I") (by decide +kernel)) (fun _ h9 => h9) rfl dX12_settled_68 ?_
          refine lv_iload_n hx hb dX12_settled_71 rfl (lv_at hl 0 rfl) ?_
          refine lv_bipush (v := 15) hx hb dX12_settled_72 (by decide) ?_
          refine lv_iadd hx hb dX12_settled_74 ?_
          refine lv_topi (fun z58 ez58 => ?_)
          have iz58 : z58.toInt = r49.toInt + 15 := zi_add ez58 rfl rfl (by omega) (by omega)
          refine va_iald hx hb hK hP q46 0 eq46 rfl (vp_in_iff.mpr ⟨by omega, by omega⟩) dX12_settled_75 ?_
          refine lv_topi (fun z59 ez59 => ?_)
          refine lv_i2l hx hb dX12_settled_76 rfl ?_
          refine lv_ldc2 (own := RX12) (v := 4294967295) hx hb hown (hts (.constantLong RX12 479 (4294967295)) (by decide +kernel)) dX12_settled_77 ?_
          refine lv_land hx hb dX12_settled_80 ?_
          refine lv_topl (fun z60 ez60 => ?_)
          refine lv_lor hx hb dX12_settled_81 ?_
          refine lv_topl (fun z61 ez61 => ?_)
          refine lv_goto (tgt := 97) hx hb dX12_settled_82 (by decide) ?_
          exact W.lret (v := z61) hx hb hr (fun t ht hW => ⟨⟨z61, f30, rfl, ⟨hT, hR, trivial, trivial⟩, by rw [ht]; exact hP, va_K.moved hW.alike hK, hD⟩, hS.F ht⟩) hS.2.2 dX12_settled_97
      · have ic48 : z47.toInt = (-1) := zi_nef rfl rfl c48
        refine lv_ldc2 (own := RX12) (v := (-2000000000000000)) hx hb hown (hts (.constantLong RX12 466 (-2000000000000000)) (by decide +kernel)) dX12_settled_41 ?_
        exact W.lret (v := (-2000000000000000)) hx hb hr (fun t ht hW => ⟨⟨(-2000000000000000), f30, rfl, ⟨hT, hR, trivial, trivial⟩, by rw [ht]; exact hP, va_K.moved hW.alike hK, hD⟩, hS.F ht⟩) hS.2.2 dX12_settled_44
set_option maxHeartbeats 4000000 in
set_option maxRecDepth 100000 in
theorem t_X12_voyage (l : Launch) (dC : Nat → ClassId) (dI : Nat → Nat → Nat) (sz : Nat) (κ : Nat → ClassId) (τ ν : Nat → Nat) (ρ : Nat → Nat → Nat) (L : List Nat) (f : Nat → va_E) (hG : tp_G τ ν ρ L) (hT : tp_T (mo_O κ) κ τ ν ρ f) (h0 : Nat) (v : Int32) (u : Int32) (ht_h0 : τ h0 = 13) (hJ : mo_RI (-1) 0 (mo_R (mo_i (f (ρ h0 2))))) : Met l yX12_voyage wsX12_voyage ({ frames := 3, cells := 0, slots := 0, locals := 800 }) (va_Pc [.ref h0, .int v, .int u] (pz_B dC dI (tp_K κ) (va_pl L f) sz)) (va_Ql (fun (r : Int64) (f1 : Nat → va_E) => tp_T (mo_O κ) κ τ ν ρ f1 ∧ tp_F τ [13] f f1 ∧ True ∧ True) (fun (f1 : Nat → va_E) (t : State) => pz_E dC dI (tp_K κ) (va_A (va_pl L f) sz) (va_pl L f1) t) (va_A (va_pl L f) sz)) 0 0 (va_A (va_pl L f) sz) := by
  refine Met.ofW (cc := cX12_voyage) (maxL := 3) (ret := some .long) (by decide) rfl ?_
  intro p e s m args below meth c s₁ B hml hv
  obtain ⟨rfl, hsz, hP, hK, hD0, hN⟩ := hv
  have hx := B.exec
  have hb := B.bytes
  have hr := B.returns
  have hts := atoms_spec (ws := wsX12_voyage) B.pre
  have hown : s.vm.findClass RX12 = some m.cls := findClass_of_methodNamed B.named
  have hlocks := B.notSynchronized
  subst hsz
  have hD := hD0.self (sz := s.heap.size)
  generalize hAe : va_A (va_pl L f) s.heap.size = A at hD ⊢
  have hA : ∀ q : Nat, s.heap.size ≤ q → A q := fun q h => by rw [← hAe]; exact Or.inr h
  have hS : va_S A s.heap s.heap [] := va_S.rf
  have hR : tp_F τ [13] f f := tp_F.rf
  have hl := lv_entry ([.ref h0, .int v, .int u]) (n := 3) (Nat.le_of_ble_eq_true rfl)
  rw [lg_entry_eq]
  generalize (lg_sl ([.ref h0, .int v, .int u]) ++ List.replicate (3 - (lg_sl ([.ref h0, .int v, .int u])).length) Slot.unset).toArray = ls at hl ⊢
  have hl : lv_has ls 3 [(0, .ref h0), (1, .int v), (2, .int u)] := hl
  have hfX12 : ∀ w ∈ wsX120, w ∈ wsX12_voyage := fun w h => List.mem_cons_of_mem _ (List.mem_append_right _ h)
  obtain ⟨y1, y2, y3, y4, y5, y6, y7, y8, y9, y10, y11, y12, y13, y14, y15, y16, y17, y18, y19, y20, y21, y22, y23, y24, y25⟩ := tpg_13 hG ht_h0
  obtain ⟨g27, hf_o26⟩ := tpo_32 hT y1
  have hI : mo_RI (-1) 0 (mo_R g27) := by have q9 := hJ; rw [hf_o26, mo_i1] at q9; exact q9
  refine lv_aload_n hx hb dX12_voyage_0 rfl (lv_at hl 0 rfl) ?_
  refine lv_iconst (v := 0) hx hb dX12_voyage_1 (by decide) ?_
  obtain ⟨o28_x0, o28_x1, o28_x7, o28_x9, o28_x10, o28_x11, o28_x12, o28_x13, o28_x14, o28_x15, o28_x16, o28_x17, o28_x18, o28_x19, o28_x20, o28_x22, o28_x25, o28_x28, o28_x29, o28_x32, o28_x33, o28_x34, o28_x35, o28_x36, o28_x37, o28_x38, o28_x47, o28_x48, hf_o28, ro28_0, ro28_1, ro28_2, ro28_3, ro28_4, ro28_5, ro28_6, ro28_7, ro28_8, ro28_9, ro28_10, ro28_11, ro28_12, ro28_13⟩ := tpo_13 hT ht_h0
  obtain ⟨q29, eq29⟩ := tp_pos (tp_in hG ht_h0 (by decide)) hf_o28
  refine va_put (D := (dC, dI)) (ci := 12) (v := .int 0) (ty := .int) (C := RX12) (T := TX12) (N := 53) hx hb hts hfX12 tyX12 tyX12_ok nmX12 hown hK hP hD hS q29 eq29 rfl 0 (by decide) (hts (.fieldLink RX12 91 "ColdShipsModel" "thrown" "I") (by decide +kernel)) (fun _ h9 => h9) rfl (by decide +kernel) rfl rfl (Nat.le_of_ble_eq_true rfl) dX12_voyage_2 (tp_k (.inr (12, [.int 0, .int o28_x1, .ref (ρ h0 2), .ref (ρ h0 3), .ref (ρ h0 4), .ref (ρ h0 5), .ref (ρ h0 6), .int o28_x7, .ref (ρ h0 8), .int o28_x9, .int o28_x10, .int o28_x11, .int o28_x12, .long o28_x13, .int o28_x14, .int o28_x15, .int o28_x16, .int o28_x17, .int o28_x18, .int o28_x19, .int o28_x20, .ref (ρ h0 21), .int o28_x22, .ref (ρ h0 23), .ref (ρ h0 24), .int o28_x25, .ref (ρ h0 26), .ref (ρ h0 27), .int o28_x28, .int o28_x29, .ref (ρ h0 30), .ref (ρ h0 31), .int o28_x32, .long o28_x33, .long o28_x34, .long o28_x35, .int o28_x36, .int o28_x37, .int o28_x38, .ref (ρ h0 39), .ref (ρ h0 40), .ref (ρ h0 41), .ref (ρ h0 42), .ref (ρ h0 43), .ref (ρ h0 44), .ref (ρ h0 45), .ref (ρ h0 46), .int o28_x47, .int o28_x48, .ref (ρ h0 49), .ref (ρ h0 50), .ref (ρ h0 51), .ref (ρ h0 52)])) hD (tp_in hG ht_h0 (by decide)) eq29 (fun f30 H locs hP hD hS g32 k31 => ?_))
  have hT := hT.up ht_h0 g32 k31 ⟨_, _, _, _, _, _, _, _, _, _, _, _, _, _, _, _, _, _, _, _, _, _, _, _, _, _, _, _, rfl, ro28_0, ro28_1, ro28_2, ro28_3, ro28_4, ro28_5, ro28_6, ro28_7, ro28_8, ro28_9, ro28_10, ro28_11, ro28_12, ro28_13⟩
  have hR := hR.up ht_h0 (by decide) k31
  refine lv_aload_n hx hb dX12_voyage_5 rfl (lv_at hl 0 rfl) ?_
  obtain ⟨q33, eq33⟩ := tp_pos (tp_in hG ht_h0 (by decide)) g32
  refine va_get (D := (dC, dI)) (ci := 12) (v := .int o28_x47) (C := RX12) (T := TX12) (N := 53) hx hb hts hfX12 hown hK hP q33 eq33 rfl 47 (by decide) (hts (.fieldLink RX12 538 "ColdShipsModel" "hasBest" "Z") (by decide +kernel)) (fun _ h9 => h9) rfl dX12_voyage_6 ?_
  refine lv_if_eq (tgt := 53) hx hb dX12_voyage_9 (by decide) (fun c34 => ?_) (fun c34 => ?_)
  · have ic34 : o28_x47.toInt = 0 := zi_eq rfl rfl c34
    refine lv_ldc2 (own := RX12) (v := (-2000000000000000)) hx hb hown (hts (.constantLong RX12 466 (-2000000000000000)) (by decide +kernel)) dX12_voyage_53 ?_
    exact W.lret (v := (-2000000000000000)) hx hb hr (fun t ht hW => ⟨⟨(-2000000000000000), f30, rfl, ⟨hT, hR, trivial, trivial⟩, by rw [ht]; exact hP, va_K.moved hW.alike hK, hD⟩, hS.F ht⟩) hS.2.2 dX12_voyage_56
  · have ic34 : o28_x47.toInt ≠ 0 := zi_eqf rfl rfl c34
    refine lv_iload_n hx hb dX12_voyage_12 rfl (lv_at hl 1 rfl) ?_
    refine lv_i2l hx hb dX12_voyage_13 rfl ?_
    refine lv_lconst (v := 0) hx hb dX12_voyage_14 (by decide) ?_
    refine lv_aload_n hx hb dX12_voyage_15 rfl (lv_at hl 0 rfl) ?_
    refine va_get (D := (dC, dI)) (ci := 12) (v := .int o28_x48) (C := RX12) (T := TX12) (N := 53) hx hb hts hfX12 hown hK hP q33 eq33 rfl 48 (by decide) (hts (.fieldLink RX12 541 "ColdShipsModel" "bestCargoes" "I") (by decide +kernel)) (fun _ h9 => h9) rfl dX12_voyage_16 ?_
    refine lv_i2l hx hb dX12_voyage_19 rfl ?_
    refine lv_lconst (v := 1) hx hb dX12_voyage_20 (by decide) ?_
    refine lv_lsub hx hb dX12_voyage_21 ?_
    refine lv_topl (fun z35 ez35 => ?_)
    have iz35 : z35.toInt = o28_x48.toInt - 1 := zl_sub ez35 (Int32.toInt_toInt64 o28_x48) rfl (by omega) (by omega)
    have hf_36 : f30 (ρ h0 2) = .inl (κ 0, 12967, .inl g27) := (k31 _ (tp_ne y1 ht_h0 (by decide))).trans hf_o26
    refine pz_calli (va_runS (As := [.long v.toInt64, .long 0, .long z35]) (rest := []) ⟨hx, hb, hml, hown, hts⟩ (t_X12_in l dC dI _ v.toInt64 (0) z35 (v.toInt) (0) (z35.toInt) (Int32.toInt_toInt64 v) rfl rfl) (va_cwS 3 hts gX12_voyage_X12_in rfl rfl rfl (by decide +kernel) ⟨Nat.le_of_ble_eq_true rfl, Nat.le_of_ble_eq_true rfl⟩) ⟨pz_blind, pz_pre pz_P0 (hK.sub (tys' := []) [] rfl) (pz_D0 (A := fun _ => True)) hN⟩ rfl rfl hl.1 rfl (lv_room (Nat.le_of_ble_eq_true rfl)) dX12_voyage_22 ⟨Nat.le_of_ble_eq_true rfl, Nat.le_of_ble_eq_true rfl⟩) (fun r37 hw38 => ?_)
    obtain ⟨hw38r, hw38p⟩ := hw38
    refine lv_if_eq (tgt := 53) hx hb dX12_voyage_25 (by decide) (fun c39 => ?_) (fun c39 => ?_)
    · have ic39 : r37.toInt = 0 := zi_eq rfl rfl c39
      refine lv_ldc2 (own := RX12) (v := (-2000000000000000)) hx hb hown (hts (.constantLong RX12 466 (-2000000000000000)) (by decide +kernel)) dX12_voyage_53 ?_
      exact W.lret (v := (-2000000000000000)) hx hb hr (fun t ht hW => ⟨⟨(-2000000000000000), f30, rfl, ⟨hT, hR, trivial, trivial⟩, by rw [ht]; exact hP, va_K.moved hW.alike hK, hD⟩, hS.F ht⟩) hS.2.2 dX12_voyage_56
    · have ic39 : r37.toInt ≠ 0 := zi_eqf rfl rfl c39
      have p40 : (0) ≤ (v.toInt) ∧ (v.toInt) ≤ (z35.toInt) := (tp_cond.yes hw38p) (by omega)
      refine lv_iload_n hx hb dX12_voyage_28 rfl (lv_at hl 2 rfl) ?_
      refine lv_i2l hx hb dX12_voyage_29 rfl ?_
      refine lv_lconst (v := 0) hx hb dX12_voyage_30 (by decide) ?_
      refine lv_ldc2 (own := RX12) (v := 4) hx hb hown (hts (.constantLong RX12 464 (4)) (by decide +kernel)) dX12_voyage_31 ?_
      refine pz_calli (va_runS (As := [.long u.toInt64, .long 0, .long 4]) (rest := []) ⟨hx, hb, hml, hown, hts⟩ (t_X12_in l dC dI _ u.toInt64 (0) (4) (u.toInt) (0) (4) (Int32.toInt_toInt64 u) rfl rfl) (va_cwS 3 hts gX12_voyage_X12_in rfl rfl rfl (by decide +kernel) ⟨Nat.le_of_ble_eq_true rfl, Nat.le_of_ble_eq_true rfl⟩) ⟨pz_blind, pz_pre pz_P0 (hK.sub (tys' := []) [] rfl) (pz_D0 (A := fun _ => True)) hN⟩ rfl rfl hl.1 rfl (lv_room (Nat.le_of_ble_eq_true rfl)) dX12_voyage_34 ⟨Nat.le_of_ble_eq_true rfl, Nat.le_of_ble_eq_true rfl⟩) (fun r41 hw42 => ?_)
      obtain ⟨hw42r, hw42p⟩ := hw42
      refine lv_if_eq (tgt := 53) hx hb dX12_voyage_37 (by decide) (fun c43 => ?_) (fun c43 => ?_)
      · have ic43 : r41.toInt = 0 := zi_eq rfl rfl c43
        refine lv_ldc2 (own := RX12) (v := (-2000000000000000)) hx hb hown (hts (.constantLong RX12 466 (-2000000000000000)) (by decide +kernel)) dX12_voyage_53 ?_
        exact W.lret (v := (-2000000000000000)) hx hb hr (fun t ht hW => ⟨⟨(-2000000000000000), f30, rfl, ⟨hT, hR, trivial, trivial⟩, by rw [ht]; exact hP, va_K.moved hW.alike hK, hD⟩, hS.F ht⟩) hS.2.2 dX12_voyage_56
      · have ic43 : r41.toInt ≠ 0 := zi_eqf rfl rfl c43
        have p44 : (0) ≤ (u.toInt) ∧ (u.toInt) ≤ (4) := (tp_cond.yes hw42p) (by omega)
        refine lv_aload_n hx hb dX12_voyage_40 rfl (lv_at hl 0 rfl) ?_
        refine va_get (D := (dC, dI)) (ci := 12) (v := .ref (ρ h0 50)) (C := RX12) (T := TX12) (N := 53) hx hb hts hfX12 hown hK hP q33 eq33 rfl 50 (by decide) (hts (.fieldLink RX12 82 "ColdShipsModel" "bestTold" "[J") (by decide +kernel)) (fun _ h9 => h9) rfl dX12_voyage_41 ?_
        refine lv_iconst (v := 5) hx hb dX12_voyage_44 (by decide) ?_
        refine lv_iload_n hx hb dX12_voyage_45 rfl (lv_at hl 1 rfl) ?_
        refine lv_imul hx hb dX12_voyage_46 ?_
        refine lv_topi (fun z45 ez45 => ?_)
        have iz45 : z45.toInt = 5 * v.toInt := zi_mul ez45 rfl rfl (by omega) (by omega)
        refine lv_iload_n hx hb dX12_voyage_47 rfl (lv_at hl 2 rfl) ?_
        refine lv_iadd hx hb dX12_voyage_48 ?_
        refine lv_topi (fun z46 ez46 => ?_)
        have iz46 : z46.toInt = z45.toInt + u.toInt := zi_add ez46 rfl rfl (by omega) (by omega)
        obtain ⟨g48, hf_o47⟩ := tpo_80 hT y23
        obtain ⟨q49, eq49⟩ := tp_pos (tp_in hG y23 (by decide)) hf_o47
        refine va_lald hx hb hK hP q49 1 eq49 rfl (vp_in_iff.mpr ⟨by omega, by omega⟩) dX12_voyage_49 ?_
        refine lv_topl (fun z50 ez50 => ?_)
        refine lv_goto (tgt := 56) hx hb dX12_voyage_50 (by decide) ?_
        exact W.lret (v := z50) hx hb hr (fun t ht hW => ⟨⟨z50, f30, rfl, ⟨hT, hR, trivial, trivial⟩, by rw [ht]; exact hP, va_K.moved hW.alike hK, hD⟩, hS.F ht⟩) hS.2.2 dX12_voyage_56
set_option maxHeartbeats 4000000 in
set_option maxRecDepth 100000 in
theorem t_X12_end (l : Launch) (dC : Nat → ClassId) (dI : Nat → Nat → Nat) (sz : Nat) (κ : Nat → ClassId) (τ ν : Nat → Nat) (ρ : Nat → Nat → Nat) (L : List Nat) (f : Nat → va_E) (hG : tp_G τ ν ρ L) (hT : tp_T (mo_O κ) κ τ ν ρ f) (h0 : Nat) (v : Int32) (ht_h0 : τ h0 = 13) (hJ : mo_RI (-1) 0 (mo_R (mo_i (f (ρ h0 2))))) : Met l yX12_end wsX12_end ({ frames := 2, cells := 0, slots := 0, locals := 400 }) (va_Pc [.ref h0, .int v] (pz_B dC dI (tp_K κ) (va_pl L f) sz)) (va_Qi (fun (r : Int32) (f1 : Nat → va_E) => tp_T (mo_O κ) κ τ ν ρ f1 ∧ tp_F τ [13] f f1 ∧ True ∧ True) (fun (f1 : Nat → va_E) (t : State) => pz_E dC dI (tp_K κ) (va_A (va_pl L f) sz) (va_pl L f1) t) (va_A (va_pl L f) sz)) 0 0 (va_A (va_pl L f) sz) := by
  refine Met.ofW (cc := cX12_end) (maxL := 2) (ret := some .int) (by decide) rfl ?_
  intro p e s m args below meth c s₁ B hml hv
  obtain ⟨rfl, hsz, hP, hK, hD0, hN⟩ := hv
  have hx := B.exec
  have hb := B.bytes
  have hr := B.returns
  have hts := atoms_spec (ws := wsX12_end) B.pre
  have hown : s.vm.findClass RX12 = some m.cls := findClass_of_methodNamed B.named
  have hlocks := B.notSynchronized
  subst hsz
  have hD := hD0.self (sz := s.heap.size)
  generalize hAe : va_A (va_pl L f) s.heap.size = A at hD ⊢
  have hA : ∀ q : Nat, s.heap.size ≤ q → A q := fun q h => by rw [← hAe]; exact Or.inr h
  have hS : va_S A s.heap s.heap [] := va_S.rf
  have hR : tp_F τ [13] f f := tp_F.rf
  have hl := lv_entry ([.ref h0, .int v]) (n := 2) (Nat.le_of_ble_eq_true rfl)
  rw [lg_entry_eq]
  generalize (lg_sl ([.ref h0, .int v]) ++ List.replicate (2 - (lg_sl ([.ref h0, .int v])).length) Slot.unset).toArray = ls at hl ⊢
  have hl : lv_has ls 2 [(0, .ref h0), (1, .int v)] := hl
  have hfX12 : ∀ w ∈ wsX120, w ∈ wsX12_end := fun w h => List.mem_cons_of_mem _ (List.mem_append_right _ h)
  obtain ⟨y1, y2, y3, y4, y5, y6, y7, y8, y9, y10, y11, y12, y13, y14, y15, y16, y17, y18, y19, y20, y21, y22, y23, y24, y25⟩ := tpg_13 hG ht_h0
  obtain ⟨g27, hf_o26⟩ := tpo_32 hT y1
  have hI : mo_RI (-1) 0 (mo_R g27) := by have q9 := hJ; rw [hf_o26, mo_i1] at q9; exact q9
  refine lv_aload_n hx hb dX12_end_0 rfl (lv_at hl 0 rfl) ?_
  refine lv_iconst (v := 0) hx hb dX12_end_1 (by decide) ?_
  obtain ⟨o28_x0, o28_x1, o28_x7, o28_x9, o28_x10, o28_x11, o28_x12, o28_x13, o28_x14, o28_x15, o28_x16, o28_x17, o28_x18, o28_x19, o28_x20, o28_x22, o28_x25, o28_x28, o28_x29, o28_x32, o28_x33, o28_x34, o28_x35, o28_x36, o28_x37, o28_x38, o28_x47, o28_x48, hf_o28, ro28_0, ro28_1, ro28_2, ro28_3, ro28_4, ro28_5, ro28_6, ro28_7, ro28_8, ro28_9, ro28_10, ro28_11, ro28_12, ro28_13⟩ := tpo_13 hT ht_h0
  obtain ⟨q29, eq29⟩ := tp_pos (tp_in hG ht_h0 (by decide)) hf_o28
  refine va_put (D := (dC, dI)) (ci := 12) (v := .int 0) (ty := .int) (C := RX12) (T := TX12) (N := 53) hx hb hts hfX12 tyX12 tyX12_ok nmX12 hown hK hP hD hS q29 eq29 rfl 0 (by decide) (hts (.fieldLink RX12 91 "ColdShipsModel" "thrown" "I") (by decide +kernel)) (fun _ h9 => h9) rfl (by decide +kernel) rfl rfl (Nat.le_of_ble_eq_true rfl) dX12_end_2 (tp_k (.inr (12, [.int 0, .int o28_x1, .ref (ρ h0 2), .ref (ρ h0 3), .ref (ρ h0 4), .ref (ρ h0 5), .ref (ρ h0 6), .int o28_x7, .ref (ρ h0 8), .int o28_x9, .int o28_x10, .int o28_x11, .int o28_x12, .long o28_x13, .int o28_x14, .int o28_x15, .int o28_x16, .int o28_x17, .int o28_x18, .int o28_x19, .int o28_x20, .ref (ρ h0 21), .int o28_x22, .ref (ρ h0 23), .ref (ρ h0 24), .int o28_x25, .ref (ρ h0 26), .ref (ρ h0 27), .int o28_x28, .int o28_x29, .ref (ρ h0 30), .ref (ρ h0 31), .int o28_x32, .long o28_x33, .long o28_x34, .long o28_x35, .int o28_x36, .int o28_x37, .int o28_x38, .ref (ρ h0 39), .ref (ρ h0 40), .ref (ρ h0 41), .ref (ρ h0 42), .ref (ρ h0 43), .ref (ρ h0 44), .ref (ρ h0 45), .ref (ρ h0 46), .int o28_x47, .int o28_x48, .ref (ρ h0 49), .ref (ρ h0 50), .ref (ρ h0 51), .ref (ρ h0 52)])) hD (tp_in hG ht_h0 (by decide)) eq29 (fun f30 H locs hP hD hS g32 k31 => ?_))
  have hT := hT.up ht_h0 g32 k31 ⟨_, _, _, _, _, _, _, _, _, _, _, _, _, _, _, _, _, _, _, _, _, _, _, _, _, _, _, _, rfl, ro28_0, ro28_1, ro28_2, ro28_3, ro28_4, ro28_5, ro28_6, ro28_7, ro28_8, ro28_9, ro28_10, ro28_11, ro28_12, ro28_13⟩
  have hR := hR.up ht_h0 (by decide) k31
  refine lv_iload_n hx hb dX12_end_5 rfl (lv_at hl 1 rfl) ?_
  refine lv_if_lt (tgt := 17) hx hb dX12_end_6 (by decide) (fun c33 => ?_) (fun c33 => ?_)
  · have ic33 : v.toInt < 0 := zi_lt rfl rfl c33
    refine lv_iconst (v := (-1)) hx hb dX12_end_17 (by decide) ?_
    exact W.iret (v := (-1)) hx hb hr (fun t ht hW => ⟨⟨(-1), f30, rfl, ⟨hT, hR, trivial, trivial⟩, by rw [ht]; exact hP, va_K.moved hW.alike hK, hD⟩, hS.F ht⟩) hS.2.2 dX12_end_18
  · have ic33 : v.toInt ≥ 0 := zi_ltf rfl rfl c33
    refine lv_iload_n hx hb dX12_end_9 rfl (lv_at hl 1 rfl) ?_
    refine lv_aload_n hx hb dX12_end_10 rfl (lv_at hl 0 rfl) ?_
    obtain ⟨q34, eq34⟩ := tp_pos (tp_in hG ht_h0 (by decide)) g32
    refine va_get (D := (dC, dI)) (ci := 12) (v := .int o28_x9) (C := RX12) (T := TX12) (N := 53) hx hb hts hfX12 hown hK hP q34 eq34 rfl 9 (by decide) (hts (.fieldLink RX12 252 "ColdShipsModel" "taped" "I") (by decide +kernel)) (fun _ h9 => h9) rfl dX12_end_11 ?_
    refine lv_icmp_le (tgt := 19) hx hb dX12_end_14 (by decide) (fun c35 => ?_) (fun c35 => ?_)
    · have ic35 : v.toInt ≤ o28_x9.toInt := zi_le rfl rfl c35
      refine lv_aload_n hx hb dX12_end_19 rfl (lv_at hl 0 rfl) ?_
      refine lv_iload_n hx hb dX12_end_20 rfl (lv_at hl 1 rfl) ?_
      refine va_put (D := (dC, dI)) (ci := 12) (v := .int v) (ty := .int) (C := RX12) (T := TX12) (N := 53) hx hb hts hfX12 tyX12 tyX12_ok nmX12 hown hK hP hD hS q34 eq34 rfl 9 (by decide) (hts (.fieldLink RX12 252 "ColdShipsModel" "taped" "I") (by decide +kernel)) (fun _ h9 => h9) rfl (by decide +kernel) rfl rfl (Nat.le_of_ble_eq_true rfl) dX12_end_21 (tp_k (.inr (12, [.int 0, .int o28_x1, .ref (ρ h0 2), .ref (ρ h0 3), .ref (ρ h0 4), .ref (ρ h0 5), .ref (ρ h0 6), .int o28_x7, .ref (ρ h0 8), .int v, .int o28_x10, .int o28_x11, .int o28_x12, .long o28_x13, .int o28_x14, .int o28_x15, .int o28_x16, .int o28_x17, .int o28_x18, .int o28_x19, .int o28_x20, .ref (ρ h0 21), .int o28_x22, .ref (ρ h0 23), .ref (ρ h0 24), .int o28_x25, .ref (ρ h0 26), .ref (ρ h0 27), .int o28_x28, .int o28_x29, .ref (ρ h0 30), .ref (ρ h0 31), .int o28_x32, .long o28_x33, .long o28_x34, .long o28_x35, .int o28_x36, .int o28_x37, .int o28_x38, .ref (ρ h0 39), .ref (ρ h0 40), .ref (ρ h0 41), .ref (ρ h0 42), .ref (ρ h0 43), .ref (ρ h0 44), .ref (ρ h0 45), .ref (ρ h0 46), .int o28_x47, .int o28_x48, .ref (ρ h0 49), .ref (ρ h0 50), .ref (ρ h0 51), .ref (ρ h0 52)])) hD (tp_in hG ht_h0 (by decide)) eq34 (fun f36 H locs hP hD hS g38 k37 => ?_))
      have hT := hT.up ht_h0 g38 k37 ⟨_, _, _, _, _, _, _, _, _, _, _, _, _, _, _, _, _, _, _, _, _, _, _, _, _, _, _, _, rfl, ro28_0, (by omega), ro28_2, ro28_3, ro28_4, ro28_5, ro28_6, ro28_7, ro28_8, ro28_9, ro28_10, ro28_11, ro28_12, ro28_13⟩
      have hR := hR.up ht_h0 (by decide) k37
      refine lv_iload_n hx hb dX12_end_24 rfl (lv_at hl 1 rfl) ?_
      exact W.iret (v := v) hx hb hr (fun t ht hW => ⟨⟨v, f36, rfl, ⟨hT, hR, trivial, trivial⟩, by rw [ht]; exact hP, va_K.moved hW.alike hK, hD⟩, hS.F ht⟩) hS.2.2 dX12_end_25
    · have ic35 : v.toInt > o28_x9.toInt := zi_lef rfl rfl c35
      refine lv_iconst (v := (-1)) hx hb dX12_end_17 (by decide) ?_
      exact W.iret (v := (-1)) hx hb hr (fun t ht hW => ⟨⟨(-1), f30, rfl, ⟨hT, hR, trivial, trivial⟩, by rw [ht]; exact hP, va_K.moved hW.alike hK, hD⟩, hS.F ht⟩) hS.2.2 dX12_end_18
set_option maxHeartbeats 4000000 in
set_option maxRecDepth 100000 in
theorem t_X12_four (l : Launch) (dC : Nat → ClassId) (dI : Nat → Nat → Nat) (sz : Nat) (κ : Nat → ClassId) (τ ν : Nat → Nat) (ρ : Nat → Nat → Nat) (L : List Nat) (f : Nat → va_E) (hG : tp_G τ ν ρ L) (hT : tp_T (mo_O κ) κ τ ν ρ f) (h0 : Nat) (v : Int32) (ht_h0 : τ h0 = 13) (h9 : (tp_fld (f h0) 9) ≤ 396) : Met l yX12_four wsX12_four ({ frames := 2, cells := 0, slots := 0, locals := 400 }) (va_Pc [.ref h0, .int v] (pz_B dC dI (tp_K κ) (va_pl L f) sz)) (va_Qv (fun (f1 : Nat → va_E) => tp_T (mo_O κ) κ τ ν ρ f1 ∧ tp_F τ [13, 38] f f1 ∧ (tp_fld (f1 h0) 9) = (tp_fld (f h0) 9) + 4) (fun (f1 : Nat → va_E) (t : State) => pz_E dC dI (tp_K κ) (va_A (va_pl L f) sz) (va_pl L f1) t) (va_A (va_pl L f) sz)) 0 0 (va_A (va_pl L f) sz) := by
  refine Met.ofW (cc := cX12_four) (maxL := 3) (ret := none) (by decide) rfl ?_
  intro p e s m args below meth c s₁ B hml hv
  obtain ⟨rfl, hsz, hP, hK, hD0, hN⟩ := hv
  have hx := B.exec
  have hb := B.bytes
  have hr := B.returns
  have hts := atoms_spec (ws := wsX12_four) B.pre
  have hown : s.vm.findClass RX12 = some m.cls := findClass_of_methodNamed B.named
  have hlocks := B.notSynchronized
  subst hsz
  have hD := hD0.self (sz := s.heap.size)
  generalize hAe : va_A (va_pl L f) s.heap.size = A at hD ⊢
  have hA : ∀ q : Nat, s.heap.size ≤ q → A q := fun q h => by rw [← hAe]; exact Or.inr h
  have hS : va_S A s.heap s.heap [] := va_S.rf
  have hR : tp_F τ [13, 38] f f := tp_F.rf
  have hl := lv_entry ([.ref h0, .int v]) (n := 3) (Nat.le_of_ble_eq_true rfl)
  rw [lg_entry_eq]
  generalize (lg_sl ([.ref h0, .int v]) ++ List.replicate (3 - (lg_sl ([.ref h0, .int v])).length) Slot.unset).toArray = ls at hl ⊢
  have hl : lv_has ls 3 [(0, .ref h0), (1, .int v)] := hl
  have hfX12 : ∀ w ∈ wsX120, w ∈ wsX12_four := fun w h => List.mem_cons_of_mem _ (List.mem_append_right _ h)
  obtain ⟨y1, y2, y3, y4, y5, y6, y7, y8, y9, y10, y11, y12, y13, y14, y15, y16, y17, y18, y19, y20, y21, y22, y23, y24, y25⟩ := tpg_13 hG ht_h0
  obtain ⟨o26_x0, o26_x1, o26_x7, o26_x9, o26_x10, o26_x11, o26_x12, o26_x13, o26_x14, o26_x15, o26_x16, o26_x17, o26_x18, o26_x19, o26_x20, o26_x22, o26_x25, o26_x28, o26_x29, o26_x32, o26_x33, o26_x34, o26_x35, o26_x36, o26_x37, o26_x38, o26_x47, o26_x48, hf_o26, ro26_0, ro26_1, ro26_2, ro26_3, ro26_4, ro26_5, ro26_6, ro26_7, ro26_8, ro26_9, ro26_10, ro26_11, ro26_12, ro26_13⟩ := tpo_13 hT ht_h0
  have h9 : o26_x9.toInt ≤ 396 := by have q9 := h9; simp only [hf_o26, mo_i1, mo_l1] at q9; exact q9
  refine lv_bipush (v := 24) hx hb dX12_four_0 (by decide) ?_
  refine lv_istore_n (lv' := [(2, .int 24), (0, .ref h0), (1, .int v)]) hx hb dX12_four_2 rfl hl (by decide) rfl (fun ls hl => ?_)
  refine pz_loop (fun n0 H locs ls => ∃ f28 : Nat → va_E, ∃ w27 : Int32, n0 = ((w27.toInt) + 8).toNat ∧ tp_T (mo_O κ) κ τ ν ρ f28 ∧ tp_F τ [13, 38] f f28 ∧ ((4 * 2 * (tp_fld (f28 h0) 9) = 8 * o26_x9.toInt + 24 - (w27.toInt))) ∧ (((tp_fld (f28 h0) 9) ≤ 400)) ∧ ((-8) ≤ w27.toInt ∧ w27.toInt ≤ 24) ∧ va_P (dC, dI) vwCl (va_pl L f28) H ∧ va_D A (va_pl L f28) ∧ va_S A s.heap H locs ∧ lv_has ls 3 [(2, .int w27), (0, .ref h0), (1, .int v)]) ?_ _ _ _ _ ⟨f, 24, rfl, hT, hR, (by simp only [hf_o26, mo_i1, mo_l1]; exact (show 4 * 2 * o26_x9.toInt = 8 * o26_x9.toInt + 24 - (24 : Int32).toInt from by have : (24 : Int32).toInt = 24 := rfl; first | omega | decide)), (by simp only [hf_o26, mo_i1, mo_l1]; exact (show o26_x9.toInt ≤ 400 from by have : (24 : Int32).toInt = 24 := rfl; first | omega | decide)), (by have : (24 : Int32).toInt = 24 := rfl; omega), hP, hD, hS, lv_sub hl [0, 1, 2] rfl⟩
  intro n0 H locs ls hI ih30
  obtain ⟨f28, w27, hn31, hT, hR, jf32, jf33, rw27, hP, hD, hS, hl⟩ := hI
  obtain ⟨o34_x0, o34_x1, o34_x7, o34_x9, o34_x10, o34_x11, o34_x12, o34_x13, o34_x14, o34_x15, o34_x16, o34_x17, o34_x18, o34_x19, o34_x20, o34_x22, o34_x25, o34_x28, o34_x29, o34_x32, o34_x33, o34_x34, o34_x35, o34_x36, o34_x37, o34_x38, o34_x47, o34_x48, hf_o34, ro34_0, ro34_1, ro34_2, ro34_3, ro34_4, ro34_5, ro34_6, ro34_7, ro34_8, ro34_9, ro34_10, ro34_11, ro34_12, ro34_13⟩ := tpo_13 hT ht_h0
  have jf32 : 4 * 2 * o34_x9.toInt = 8 * o26_x9.toInt + 24 - (w27.toInt) := by have q9 := jf32; simp only [hf_o34, mo_i1, mo_l1] at q9; exact q9
  have jf33 : o34_x9.toInt ≤ 400 := by have q9 := jf33; simp only [hf_o34, mo_i1, mo_l1] at q9; exact q9
  refine lv_iload_n hx hb dX12_four_3 rfl (lv_at hl 0 rfl) ?_
  refine lv_if_lt (tgt := 39) hx hb dX12_four_4 (by decide) (fun c35 => ?_) (fun c35 => ?_)
  · have ic35 : w27.toInt < 0 := zi_lt rfl rfl c35
    exact W.vret hx hb hr (fun t ht hW => ⟨⟨f28, rfl, ⟨hT, hR, (by simp only [hf_o34, hf_o26, mo_i1, mo_l1]; exact (show o34_x9.toInt = o26_x9.toInt + 4 from by first | omega | decide))⟩, by rw [ht]; exact hP, va_K.moved hW.alike hK, hD⟩, hS.F ht⟩) hS.2.2 dX12_four_39
  · have ic35 : w27.toInt ≥ 0 := zi_ltf rfl rfl c35
    refine lv_aload_n hx hb dX12_four_7 rfl (lv_at hl 1 rfl) ?_
    obtain ⟨q36, eq36⟩ := tp_pos (tp_in hG ht_h0 (by decide)) hf_o34
    refine va_get (D := (dC, dI)) (ci := 12) (v := .ref (ρ h0 8)) (C := RX12) (T := TX12) (N := 53) hx hb hts hfX12 hown hK hP q36 eq36 rfl 8 (by decide) (hts (.fieldLink RX12 27 "ColdShipsModel" "tape" "[I") (by decide +kernel)) (fun _ h9 => h9) rfl dX12_four_8 ?_
    refine lv_aload_n hx hb dX12_four_11 rfl (lv_at hl 1 rfl) ?_
    refine va_get (D := (dC, dI)) (ci := 12) (v := .int o34_x9) (C := RX12) (T := TX12) (N := 53) hx hb hts hfX12 hown hK hP q36 eq36 rfl 9 (by decide) (hts (.fieldLink RX12 252 "ColdShipsModel" "taped" "I") (by decide +kernel)) (fun _ h9 => h9) rfl dX12_four_12 ?_
    refine lv_iload_n hx hb dX12_four_15 rfl (lv_at hl 2 rfl) ?_
    refine lv_iload_n hx hb dX12_four_16 rfl (lv_at hl 0 rfl) ?_
    refine lv_ishr hx hb dX12_four_17 ?_
    refine lv_topi (fun z37 ez37 => ?_)
    refine lv_sipush (v := 255) hx hb dX12_four_18 (by decide) ?_
    refine lv_iand hx hb dX12_four_21 ?_
    refine lv_topi (fun z38 ez38 => ?_)
    have iz38 : 0 ≤ z38.toInt ∧ z38.toInt ≤ 255 := zb_mask ez38 (by decide)
    obtain ⟨g40, hf_o39⟩ := tpo_38 hT y6
    obtain ⟨q41, eq41⟩ := tp_pos (tp_in hG y6 (by decide)) hf_o39
    refine va_iast hx hb hK hP hD hS q41 0 eq41 rfl (vp_in_iff.mpr ⟨by omega, by omega⟩) dX12_four_22 (tp_k (.inl (κ 0, 400, .inl (upd g40 o34_x9.toNatClampNeg z38))) hD (tp_in hG y6 (by decide)) eq41 (fun f42 H locs hP hD hS g44 k43 => ?_))
    have hT := hT.up y6 g44 k43 tp_o38
    have hR := hR.up y6 (by decide) k43
    generalize (upd g40 o34_x9.toNatClampNeg z38) = g45 at g44
    refine lv_aload_n hx hb dX12_four_23 rfl (lv_at hl 1 rfl) ?_
    refine lv_dup hx hb dX12_four_24 rfl ?_
    have hf_46 : f42 h0 = .inr (12, [.int o34_x0, .int o34_x1, .ref (ρ h0 2), .ref (ρ h0 3), .ref (ρ h0 4), .ref (ρ h0 5), .ref (ρ h0 6), .int o34_x7, .ref (ρ h0 8), .int o34_x9, .int o34_x10, .int o34_x11, .int o34_x12, .long o34_x13, .int o34_x14, .int o34_x15, .int o34_x16, .int o34_x17, .int o34_x18, .int o34_x19, .int o34_x20, .ref (ρ h0 21), .int o34_x22, .ref (ρ h0 23), .ref (ρ h0 24), .int o34_x25, .ref (ρ h0 26), .ref (ρ h0 27), .int o34_x28, .int o34_x29, .ref (ρ h0 30), .ref (ρ h0 31), .int o34_x32, .long o34_x33, .long o34_x34, .long o34_x35, .int o34_x36, .int o34_x37, .int o34_x38, .ref (ρ h0 39), .ref (ρ h0 40), .ref (ρ h0 41), .ref (ρ h0 42), .ref (ρ h0 43), .ref (ρ h0 44), .ref (ρ h0 45), .ref (ρ h0 46), .int o34_x47, .int o34_x48, .ref (ρ h0 49), .ref (ρ h0 50), .ref (ρ h0 51), .ref (ρ h0 52)]) := (k43 _ (tp_ne ht_h0 y6 (by decide))).trans hf_o34
    obtain ⟨q47, eq47⟩ := tp_pos (tp_in hG ht_h0 (by decide)) hf_46
    refine va_get (D := (dC, dI)) (ci := 12) (v := .int o34_x9) (C := RX12) (T := TX12) (N := 53) hx hb hts hfX12 hown hK hP q47 eq47 rfl 9 (by decide) (hts (.fieldLink RX12 252 "ColdShipsModel" "taped" "I") (by decide +kernel)) (fun _ h9 => h9) rfl dX12_four_25 ?_
    refine lv_iconst (v := 1) hx hb dX12_four_28 (by decide) ?_
    refine lv_iadd hx hb dX12_four_29 ?_
    refine lv_topi (fun z48 ez48 => ?_)
    have iz48 : z48.toInt = o34_x9.toInt + 1 := zi_add ez48 rfl rfl (by omega) (by omega)
    refine va_put (D := (dC, dI)) (ci := 12) (v := .int z48) (ty := .int) (C := RX12) (T := TX12) (N := 53) hx hb hts hfX12 tyX12 tyX12_ok nmX12 hown hK hP hD hS q47 eq47 rfl 9 (by decide) (hts (.fieldLink RX12 252 "ColdShipsModel" "taped" "I") (by decide +kernel)) (fun _ h9 => h9) rfl (by decide +kernel) rfl rfl (Nat.le_of_ble_eq_true rfl) dX12_four_30 (tp_k (.inr (12, [.int o34_x0, .int o34_x1, .ref (ρ h0 2), .ref (ρ h0 3), .ref (ρ h0 4), .ref (ρ h0 5), .ref (ρ h0 6), .int o34_x7, .ref (ρ h0 8), .int z48, .int o34_x10, .int o34_x11, .int o34_x12, .long o34_x13, .int o34_x14, .int o34_x15, .int o34_x16, .int o34_x17, .int o34_x18, .int o34_x19, .int o34_x20, .ref (ρ h0 21), .int o34_x22, .ref (ρ h0 23), .ref (ρ h0 24), .int o34_x25, .ref (ρ h0 26), .ref (ρ h0 27), .int o34_x28, .int o34_x29, .ref (ρ h0 30), .ref (ρ h0 31), .int o34_x32, .long o34_x33, .long o34_x34, .long o34_x35, .int o34_x36, .int o34_x37, .int o34_x38, .ref (ρ h0 39), .ref (ρ h0 40), .ref (ρ h0 41), .ref (ρ h0 42), .ref (ρ h0 43), .ref (ρ h0 44), .ref (ρ h0 45), .ref (ρ h0 46), .int o34_x47, .int o34_x48, .ref (ρ h0 49), .ref (ρ h0 50), .ref (ρ h0 51), .ref (ρ h0 52)])) hD (tp_in hG ht_h0 (by decide)) eq47 (fun f49 H locs hP hD hS g51 k50 => ?_))
    have hT := hT.up ht_h0 g51 k50 ⟨_, _, _, _, _, _, _, _, _, _, _, _, _, _, _, _, _, _, _, _, _, _, _, _, _, _, _, _, rfl, ro34_0, (by omega), ro34_2, ro34_3, ro34_4, ro34_5, ro34_6, ro34_7, ro34_8, ro34_9, ro34_10, ro34_11, ro34_12, ro34_13⟩
    have hR := hR.up ht_h0 (by decide) k50
    obtain ⟨z52, ez52⟩ : ∃ y : Int32, y = w27 + (-8) := ⟨_, rfl⟩
    refine lv_iinc (v := z52) (lv' := [(2, .int z52), (0, .ref h0), (1, .int v)]) hx hb dX12_four_33 hl (k := 0) rfl (by rw [ez52]; rfl) (by decide) rfl (fun ls hl => ?_)
    have iz52 : z52.toInt = w27.toInt + (-8) := zi_add ez52 rfl rfl (by omega) (by omega)
    refine lv_goto (tgt := 3) hx hb dX12_four_36 (by decide) ?_
    exact ih30 _ _ _ _ (by rw [hn31]; omega) ⟨f49, z52, rfl, hT, hR, (by simp only [g51, mo_i1, mo_l1]; exact (show 4 * 2 * z48.toInt = 8 * o26_x9.toInt + 24 - (z52.toInt) from by first | omega | decide)), (by simp only [g51, mo_i1, mo_l1]; exact (show z48.toInt ≤ 400 from by first | omega | decide)), (by omega), hP, hD, hS, lv_sub hl [0, 1, 2] rfl⟩
set_option maxHeartbeats 4000000 in
set_option maxRecDepth 100000 in
theorem t_X12_feed (l : Launch) (dC : Nat → ClassId) (dI : Nat → Nat → Nat) (sz : Nat) (κ : Nat → ClassId) (τ ν : Nat → Nat) (ρ : Nat → Nat → Nat) (L : List Nat) (f : Nat → va_E) (hG : tp_G τ ν ρ L) (hT : tp_T (mo_O κ) κ τ ν ρ f) (h0 : Nat) (v : Int32) (u : Int32) (a : Int32) (a4 : Int32) (a5 : Int32) (ht_h0 : τ h0 = 13) (hJ : mo_RI (-1) 0 (mo_R (mo_i (f (ρ h0 2))))) : Met l yX12_feed wsX12_feed ({ frames := 3, cells := 0, slots := 0, locals := 800 }) (va_Pc [.ref h0, .int v, .int u, .int a, .int a4, .int a5] (pz_B dC dI (tp_K κ) (va_pl L f) sz)) (va_Qi (fun (r : Int32) (f1 : Nat → va_E) => tp_T (mo_O κ) κ τ ν ρ f1 ∧ tp_F τ [13, 38] f f1 ∧ True ∧ True) (fun (f1 : Nat → va_E) (t : State) => pz_E dC dI (tp_K κ) (va_A (va_pl L f) sz) (va_pl L f1) t) (va_A (va_pl L f) sz)) 0 0 (va_A (va_pl L f) sz) := by
  refine Met.ofW (cc := cX12_feed) (maxL := 6) (ret := some .int) (by decide) rfl ?_
  intro p e s m args below meth c s₁ B hml hv
  obtain ⟨rfl, hsz, hP, hK, hD0, hN⟩ := hv
  have hx := B.exec
  have hb := B.bytes
  have hr := B.returns
  have hts := atoms_spec (ws := wsX12_feed) B.pre
  have hown : s.vm.findClass RX12 = some m.cls := findClass_of_methodNamed B.named
  have hlocks := B.notSynchronized
  subst hsz
  have hD := hD0.self (sz := s.heap.size)
  generalize hAe : va_A (va_pl L f) s.heap.size = A at hD ⊢
  have hA : ∀ q : Nat, s.heap.size ≤ q → A q := fun q h => by rw [← hAe]; exact Or.inr h
  have hS : va_S A s.heap s.heap [] := va_S.rf
  have hR : tp_F τ [13, 38] f f := tp_F.rf
  have hl := lv_entry ([.ref h0, .int v, .int u, .int a, .int a4, .int a5]) (n := 6) (Nat.le_of_ble_eq_true rfl)
  rw [lg_entry_eq]
  generalize (lg_sl ([.ref h0, .int v, .int u, .int a, .int a4, .int a5]) ++ List.replicate (6 - (lg_sl ([.ref h0, .int v, .int u, .int a, .int a4, .int a5])).length) Slot.unset).toArray = ls at hl ⊢
  have hl : lv_has ls 6 [(0, .ref h0), (1, .int v), (2, .int u), (3, .int a), (4, .int a4), (5, .int a5)] := hl
  have hfX12 : ∀ w ∈ wsX120, w ∈ wsX12_feed := fun w h => List.mem_cons_of_mem _ (List.mem_append_right _ h)
  obtain ⟨y1, y2, y3, y4, y5, y6, y7, y8, y9, y10, y11, y12, y13, y14, y15, y16, y17, y18, y19, y20, y21, y22, y23, y24, y25⟩ := tpg_13 hG ht_h0
  obtain ⟨g27, hf_o26⟩ := tpo_32 hT y1
  have hI : mo_RI (-1) 0 (mo_R g27) := by have q9 := hJ; rw [hf_o26, mo_i1] at q9; exact q9
  refine lv_aload_n hx hb dX12_feed_0 rfl (lv_at hl 0 rfl) ?_
  refine lv_iconst (v := 0) hx hb dX12_feed_1 (by decide) ?_
  obtain ⟨o28_x0, o28_x1, o28_x7, o28_x9, o28_x10, o28_x11, o28_x12, o28_x13, o28_x14, o28_x15, o28_x16, o28_x17, o28_x18, o28_x19, o28_x20, o28_x22, o28_x25, o28_x28, o28_x29, o28_x32, o28_x33, o28_x34, o28_x35, o28_x36, o28_x37, o28_x38, o28_x47, o28_x48, hf_o28, ro28_0, ro28_1, ro28_2, ro28_3, ro28_4, ro28_5, ro28_6, ro28_7, ro28_8, ro28_9, ro28_10, ro28_11, ro28_12, ro28_13⟩ := tpo_13 hT ht_h0
  obtain ⟨q29, eq29⟩ := tp_pos (tp_in hG ht_h0 (by decide)) hf_o28
  refine va_put (D := (dC, dI)) (ci := 12) (v := .int 0) (ty := .int) (C := RX12) (T := TX12) (N := 53) hx hb hts hfX12 tyX12 tyX12_ok nmX12 hown hK hP hD hS q29 eq29 rfl 0 (by decide) (hts (.fieldLink RX12 91 "ColdShipsModel" "thrown" "I") (by decide +kernel)) (fun _ h9 => h9) rfl (by decide +kernel) rfl rfl (Nat.le_of_ble_eq_true rfl) dX12_feed_2 (tp_k (.inr (12, [.int 0, .int o28_x1, .ref (ρ h0 2), .ref (ρ h0 3), .ref (ρ h0 4), .ref (ρ h0 5), .ref (ρ h0 6), .int o28_x7, .ref (ρ h0 8), .int o28_x9, .int o28_x10, .int o28_x11, .int o28_x12, .long o28_x13, .int o28_x14, .int o28_x15, .int o28_x16, .int o28_x17, .int o28_x18, .int o28_x19, .int o28_x20, .ref (ρ h0 21), .int o28_x22, .ref (ρ h0 23), .ref (ρ h0 24), .int o28_x25, .ref (ρ h0 26), .ref (ρ h0 27), .int o28_x28, .int o28_x29, .ref (ρ h0 30), .ref (ρ h0 31), .int o28_x32, .long o28_x33, .long o28_x34, .long o28_x35, .int o28_x36, .int o28_x37, .int o28_x38, .ref (ρ h0 39), .ref (ρ h0 40), .ref (ρ h0 41), .ref (ρ h0 42), .ref (ρ h0 43), .ref (ρ h0 44), .ref (ρ h0 45), .ref (ρ h0 46), .int o28_x47, .int o28_x48, .ref (ρ h0 49), .ref (ρ h0 50), .ref (ρ h0 51), .ref (ρ h0 52)])) hD (tp_in hG ht_h0 (by decide)) eq29 (fun f30 H locs hP hD hS g32 k31 => ?_))
  have hT := hT.up ht_h0 g32 k31 ⟨_, _, _, _, _, _, _, _, _, _, _, _, _, _, _, _, _, _, _, _, _, _, _, _, _, _, _, _, rfl, ro28_0, ro28_1, ro28_2, ro28_3, ro28_4, ro28_5, ro28_6, ro28_7, ro28_8, ro28_9, ro28_10, ro28_11, ro28_12, ro28_13⟩
  have hR := hR.up ht_h0 (by decide) k31
  refine lv_aload_n hx hb dX12_feed_5 rfl (lv_at hl 0 rfl) ?_
  obtain ⟨q33, eq33⟩ := tp_pos (tp_in hG ht_h0 (by decide)) g32
  refine va_get (D := (dC, dI)) (ci := 12) (v := .int o28_x9) (C := RX12) (T := TX12) (N := 53) hx hb hts hfX12 hown hK hP q33 eq33 rfl 9 (by decide) (hts (.fieldLink RX12 252 "ColdShipsModel" "taped" "I") (by decide +kernel)) (fun _ h9 => h9) rfl dX12_feed_6 ?_
  refine lv_bipush (v := 20) hx hb dX12_feed_9 (by decide) ?_
  refine lv_iadd hx hb dX12_feed_11 ?_
  refine lv_topi (fun z34 ez34 => ?_)
  have iz34 : z34.toInt = o28_x9.toInt + 20 := zi_add ez34 rfl rfl (by omega) (by omega)
  refine lv_sipush (v := 400) hx hb dX12_feed_12 (by decide) ?_
  refine lv_icmp_le (tgt := 20) hx hb dX12_feed_15 (by decide) (fun c35 => ?_) (fun c35 => ?_)
  · have ic35 : z34.toInt ≤ 400 := zi_le rfl rfl c35
    refine lv_aload_n hx hb dX12_feed_20 rfl (lv_at hl 0 rfl) ?_
    refine lv_iload_n hx hb dX12_feed_21 rfl (lv_at hl 1 rfl) ?_
    have hf_36 : f30 (ρ h0 2) = .inl (κ 0, 12967, .inl g27) := (k31 _ (tp_ne y1 ht_h0 (by decide))).trans hf_o26
    have hFc := tp_fr hD hS hA
    refine va_callv (va_runV (As := [.int v]) (rest := []) ⟨hx, hb, hml, hown, hts⟩ (t_X12_four l dC dI _ κ τ ν ρ L f30 hG hT h0 v ht_h0 (by simp only [g32, mo_i1, mo_l1]; exact (show o28_x9.toInt ≤ 396 from by first | omega | decide))) (cwV 1 hts gX12_feed_X12_four rfl rfl rfl (by decide +kernel) ⟨Nat.le_of_ble_eq_true rfl, Nat.le_of_ble_eq_true rfl⟩) ⟨pz_blind, va_recv hK hP (ci := 12) (q0 := q33) rfl eq33, pz_pre hP hK hD hN⟩ rfl rfl hl.1 rfl (lv_room (Nat.le_of_ble_eq_true rfl)) dX12_feed_22 ⟨Nat.le_of_ble_eq_true rfl, Nat.le_of_ble_eq_true rfl⟩) hS (fun q _ h => hFc q h) hFc (fun f39 t H1 locs ht hvm hw38 hB hz1 hk1 hS => ?_)
    obtain ⟨hT, hF40, hw38p⟩ := hw38
    have hR := hR.then hF40 (by decide)
    have hP := hB.1; rw [ht] at hP; have hD := tp_ad f39 hD; clear hB hFc hz1 hk1; subst ht; generalize t.heap = H at hP hS ⊢
    obtain ⟨o41_x0, o41_x1, o41_x7, o41_x9, o41_x10, o41_x11, o41_x12, o41_x13, o41_x14, o41_x15, o41_x16, o41_x17, o41_x18, o41_x19, o41_x20, o41_x22, o41_x25, o41_x28, o41_x29, o41_x32, o41_x33, o41_x34, o41_x35, o41_x36, o41_x37, o41_x38, o41_x47, o41_x48, hf_o41, ro41_0, ro41_1, ro41_2, ro41_3, ro41_4, ro41_5, ro41_6, ro41_7, ro41_8, ro41_9, ro41_10, ro41_11, ro41_12, ro41_13⟩ := tpo_13 hT ht_h0
    have tk42 : o41_x9.toInt = o28_x9.toInt + 4 := by have q9 := hw38p; simp only [hf_o41, g32, mo_i1, mo_l1] at q9; exact q9
    refine lv_aload_n hx hb dX12_feed_25 rfl (lv_at hl 0 rfl) ?_
    refine lv_iload_n hx hb dX12_feed_26 rfl (lv_at hl 2 rfl) ?_
    have hf_43 : f39 (ρ h0 2) = .inl (κ 0, 12967, .inl g27) := (hF40 _ (by rw [y1]; decide)).trans hf_36
    obtain ⟨q44, eq44⟩ := tp_pos (tp_in hG ht_h0 (by decide)) hf_o41
    have hFc := tp_fr hD hS hA
    refine va_callv (va_runV (As := [.int u]) (rest := []) ⟨hx, hb, hml, hown, hts⟩ (t_X12_four l dC dI _ κ τ ν ρ L f39 hG hT h0 u ht_h0 (by simp only [hf_o41, mo_i1, mo_l1]; exact (show o41_x9.toInt ≤ 396 from by first | omega | decide))) (cwV 1 hts gX12_feed_X12_four rfl rfl rfl (by decide +kernel) ⟨Nat.le_of_ble_eq_true rfl, Nat.le_of_ble_eq_true rfl⟩) ⟨pz_blind, va_recv hK hP (ci := 12) (q0 := q44) rfl eq44, pz_pre hP hK hD hN⟩ rfl rfl hl.1 rfl (lv_room (Nat.le_of_ble_eq_true rfl)) dX12_feed_27 ⟨Nat.le_of_ble_eq_true rfl, Nat.le_of_ble_eq_true rfl⟩) hS (fun q _ h => hFc q h) hFc (fun f47 t H1 locs ht hvm hw46 hB hz1 hk1 hS => ?_)
    obtain ⟨hT, hF48, hw46p⟩ := hw46
    have hR := hR.then hF48 (by decide)
    have hP := hB.1; rw [ht] at hP; have hD := tp_ad f47 hD; clear hB hFc hz1 hk1; subst ht; generalize t.heap = H at hP hS ⊢
    obtain ⟨o49_x0, o49_x1, o49_x7, o49_x9, o49_x10, o49_x11, o49_x12, o49_x13, o49_x14, o49_x15, o49_x16, o49_x17, o49_x18, o49_x19, o49_x20, o49_x22, o49_x25, o49_x28, o49_x29, o49_x32, o49_x33, o49_x34, o49_x35, o49_x36, o49_x37, o49_x38, o49_x47, o49_x48, hf_o49, ro49_0, ro49_1, ro49_2, ro49_3, ro49_4, ro49_5, ro49_6, ro49_7, ro49_8, ro49_9, ro49_10, ro49_11, ro49_12, ro49_13⟩ := tpo_13 hT ht_h0
    have tk50 : o49_x9.toInt = o41_x9.toInt + 4 := by have q9 := hw46p; simp only [hf_o49, hf_o41, mo_i1, mo_l1] at q9; exact q9
    refine lv_aload_n hx hb dX12_feed_30 rfl (lv_at hl 0 rfl) ?_
    refine lv_iload_n hx hb dX12_feed_31 rfl (lv_at hl 3 rfl) ?_
    have hf_51 : f47 (ρ h0 2) = .inl (κ 0, 12967, .inl g27) := (hF48 _ (by rw [y1]; decide)).trans hf_43
    obtain ⟨q52, eq52⟩ := tp_pos (tp_in hG ht_h0 (by decide)) hf_o49
    have hFc := tp_fr hD hS hA
    refine va_callv (va_runV (As := [.int a]) (rest := []) ⟨hx, hb, hml, hown, hts⟩ (t_X12_four l dC dI _ κ τ ν ρ L f47 hG hT h0 a ht_h0 (by simp only [hf_o49, mo_i1, mo_l1]; exact (show o49_x9.toInt ≤ 396 from by first | omega | decide))) (cwV 1 hts gX12_feed_X12_four rfl rfl rfl (by decide +kernel) ⟨Nat.le_of_ble_eq_true rfl, Nat.le_of_ble_eq_true rfl⟩) ⟨pz_blind, va_recv hK hP (ci := 12) (q0 := q52) rfl eq52, pz_pre hP hK hD hN⟩ rfl rfl hl.1 rfl (lv_room (Nat.le_of_ble_eq_true rfl)) dX12_feed_32 ⟨Nat.le_of_ble_eq_true rfl, Nat.le_of_ble_eq_true rfl⟩) hS (fun q _ h => hFc q h) hFc (fun f55 t H1 locs ht hvm hw54 hB hz1 hk1 hS => ?_)
    obtain ⟨hT, hF56, hw54p⟩ := hw54
    have hR := hR.then hF56 (by decide)
    have hP := hB.1; rw [ht] at hP; have hD := tp_ad f55 hD; clear hB hFc hz1 hk1; subst ht; generalize t.heap = H at hP hS ⊢
    obtain ⟨o57_x0, o57_x1, o57_x7, o57_x9, o57_x10, o57_x11, o57_x12, o57_x13, o57_x14, o57_x15, o57_x16, o57_x17, o57_x18, o57_x19, o57_x20, o57_x22, o57_x25, o57_x28, o57_x29, o57_x32, o57_x33, o57_x34, o57_x35, o57_x36, o57_x37, o57_x38, o57_x47, o57_x48, hf_o57, ro57_0, ro57_1, ro57_2, ro57_3, ro57_4, ro57_5, ro57_6, ro57_7, ro57_8, ro57_9, ro57_10, ro57_11, ro57_12, ro57_13⟩ := tpo_13 hT ht_h0
    have tk58 : o57_x9.toInt = o49_x9.toInt + 4 := by have q9 := hw54p; simp only [hf_o57, hf_o49, mo_i1, mo_l1] at q9; exact q9
    refine lv_aload_n hx hb dX12_feed_35 rfl (lv_at hl 0 rfl) ?_
    refine lv_iload hx hb dX12_feed_36 (lv_at hl 4 rfl) ?_
    have hf_59 : f55 (ρ h0 2) = .inl (κ 0, 12967, .inl g27) := (hF56 _ (by rw [y1]; decide)).trans hf_51
    obtain ⟨q60, eq60⟩ := tp_pos (tp_in hG ht_h0 (by decide)) hf_o57
    have hFc := tp_fr hD hS hA
    refine va_callv (va_runV (As := [.int a4]) (rest := []) ⟨hx, hb, hml, hown, hts⟩ (t_X12_four l dC dI _ κ τ ν ρ L f55 hG hT h0 a4 ht_h0 (by simp only [hf_o57, mo_i1, mo_l1]; exact (show o57_x9.toInt ≤ 396 from by first | omega | decide))) (cwV 1 hts gX12_feed_X12_four rfl rfl rfl (by decide +kernel) ⟨Nat.le_of_ble_eq_true rfl, Nat.le_of_ble_eq_true rfl⟩) ⟨pz_blind, va_recv hK hP (ci := 12) (q0 := q60) rfl eq60, pz_pre hP hK hD hN⟩ rfl rfl hl.1 rfl (lv_room (Nat.le_of_ble_eq_true rfl)) dX12_feed_38 ⟨Nat.le_of_ble_eq_true rfl, Nat.le_of_ble_eq_true rfl⟩) hS (fun q _ h => hFc q h) hFc (fun f63 t H1 locs ht hvm hw62 hB hz1 hk1 hS => ?_)
    obtain ⟨hT, hF64, hw62p⟩ := hw62
    have hR := hR.then hF64 (by decide)
    have hP := hB.1; rw [ht] at hP; have hD := tp_ad f63 hD; clear hB hFc hz1 hk1; subst ht; generalize t.heap = H at hP hS ⊢
    obtain ⟨o65_x0, o65_x1, o65_x7, o65_x9, o65_x10, o65_x11, o65_x12, o65_x13, o65_x14, o65_x15, o65_x16, o65_x17, o65_x18, o65_x19, o65_x20, o65_x22, o65_x25, o65_x28, o65_x29, o65_x32, o65_x33, o65_x34, o65_x35, o65_x36, o65_x37, o65_x38, o65_x47, o65_x48, hf_o65, ro65_0, ro65_1, ro65_2, ro65_3, ro65_4, ro65_5, ro65_6, ro65_7, ro65_8, ro65_9, ro65_10, ro65_11, ro65_12, ro65_13⟩ := tpo_13 hT ht_h0
    have tk66 : o65_x9.toInt = o57_x9.toInt + 4 := by have q9 := hw62p; simp only [hf_o65, hf_o57, mo_i1, mo_l1] at q9; exact q9
    refine lv_aload_n hx hb dX12_feed_41 rfl (lv_at hl 0 rfl) ?_
    refine lv_iload hx hb dX12_feed_42 (lv_at hl 5 rfl) ?_
    have hf_67 : f63 (ρ h0 2) = .inl (κ 0, 12967, .inl g27) := (hF64 _ (by rw [y1]; decide)).trans hf_59
    obtain ⟨q68, eq68⟩ := tp_pos (tp_in hG ht_h0 (by decide)) hf_o65
    have hFc := tp_fr hD hS hA
    refine va_callv (va_runV (As := [.int a5]) (rest := []) ⟨hx, hb, hml, hown, hts⟩ (t_X12_four l dC dI _ κ τ ν ρ L f63 hG hT h0 a5 ht_h0 (by simp only [hf_o65, mo_i1, mo_l1]; exact (show o65_x9.toInt ≤ 396 from by first | omega | decide))) (cwV 1 hts gX12_feed_X12_four rfl rfl rfl (by decide +kernel) ⟨Nat.le_of_ble_eq_true rfl, Nat.le_of_ble_eq_true rfl⟩) ⟨pz_blind, va_recv hK hP (ci := 12) (q0 := q68) rfl eq68, pz_pre hP hK hD hN⟩ rfl rfl hl.1 rfl (lv_room (Nat.le_of_ble_eq_true rfl)) dX12_feed_44 ⟨Nat.le_of_ble_eq_true rfl, Nat.le_of_ble_eq_true rfl⟩) hS (fun q _ h => hFc q h) hFc (fun f71 t H1 locs ht hvm hw70 hB hz1 hk1 hS => ?_)
    obtain ⟨hT, hF72, hw70p⟩ := hw70
    have hR := hR.then hF72 (by decide)
    have hP := hB.1; rw [ht] at hP; have hD := tp_ad f71 hD; clear hB hFc hz1 hk1; subst ht; generalize t.heap = H at hP hS ⊢
    obtain ⟨o73_x0, o73_x1, o73_x7, o73_x9, o73_x10, o73_x11, o73_x12, o73_x13, o73_x14, o73_x15, o73_x16, o73_x17, o73_x18, o73_x19, o73_x20, o73_x22, o73_x25, o73_x28, o73_x29, o73_x32, o73_x33, o73_x34, o73_x35, o73_x36, o73_x37, o73_x38, o73_x47, o73_x48, hf_o73, ro73_0, ro73_1, ro73_2, ro73_3, ro73_4, ro73_5, ro73_6, ro73_7, ro73_8, ro73_9, ro73_10, ro73_11, ro73_12, ro73_13⟩ := tpo_13 hT ht_h0
    have tk74 : o73_x9.toInt = o65_x9.toInt + 4 := by have q9 := hw70p; simp only [hf_o73, hf_o65, mo_i1, mo_l1] at q9; exact q9
    refine lv_aload_n hx hb dX12_feed_47 rfl (lv_at hl 0 rfl) ?_
    obtain ⟨q75, eq75⟩ := tp_pos (tp_in hG ht_h0 (by decide)) hf_o73
    refine va_get (D := (dC, dI)) (ci := 12) (v := .int o73_x9) (C := RX12) (T := TX12) (N := 53) hx hb hts hfX12 hown hK hP q75 eq75 rfl 9 (by decide) (hts (.fieldLink RX12 252 "ColdShipsModel" "taped" "I") (by decide +kernel)) (fun _ h9 => h9) rfl dX12_feed_48 ?_
    exact W.iret (v := o73_x9) hx hb hr (fun t ht hW => ⟨⟨o73_x9, f71, rfl, ⟨hT, hR, trivial, trivial⟩, by rw [ht]; exact hP, va_K.moved hW.alike hK, hD⟩, hS.F ht⟩) hS.2.2 dX12_feed_51
  · have ic35 : z34.toInt > 400 := zi_lef rfl rfl c35
    refine lv_iconst (v := (-1)) hx hb dX12_feed_18 (by decide) ?_
    exact W.iret (v := (-1)) hx hb hr (fun t ht hW => ⟨⟨(-1), f30, rfl, ⟨hT, hR, trivial, trivial⟩, by rw [ht]; exact hP, va_K.moved hW.alike hK, hD⟩, hS.F ht⟩) hS.2.2 dX12_feed_19
