set_option maxHeartbeats 4000000 in
set_option maxRecDepth 100000 in
theorem t_X12_billed (l : Launch) (dC : Nat → ClassId) (dI : Nat → Nat → Nat) (sz : Nat) (κ : Nat → ClassId) (τ ν : Nat → Nat) (ρ : Nat → Nat → Nat) (L : List Nat) (f : Nat → va_E) (hG : tp_G τ ν ρ L) (hT : tp_T (mo_O κ) κ τ ν ρ f) (h0 : Nat) (ul : Int32) (x : Int) (b : Int) (ql : Int) (ht_h0 : τ h0 = 13) (hL_ul : ul.toInt = 1051 + 16 * ql) (hq_ul : 0 ≤ ql ∧ ql ≤ 59) (hbb : 0 ≤ b ∧ b ≤ 1000) (hJ : mo_RI x b (mo_R (mo_i (f (ρ h0 2))))) : Met l yX12_billed wqX12_billed ({ frames := 2, cells := 0, slots := 0, locals := 400 }) (va_Pc [.ref h0, .int ul] (pz_B dC dI (tp_K κ) (va_pl L f) sz)) (vp_Si (fun r => True ∧ True)) 0 0 (fun _ => False) := by
  refine Met.ofW (cc := cX12_billed) (maxL := 2) (ret := some .int) (by decide) rfl ?_
  intro p e s m args below meth c s₁ B hml hv
  obtain ⟨rfl, hsz, hP, hK, hD0, hN⟩ := hv
  have hx := B.exec
  have hb := B.bytes
  have hr := B.returns
  have hts := fun (w : Cond) (h : w ∈ WALL) => atoms_spec (ws := wqX12_billed) B.pre w (List.mem_cons_of_mem _ h)
  have hown : s.vm.findClass RX12 = some m.cls := findClass_of_methodNamed B.named
  have hlocks := B.notSynchronized
  subst hsz
  have hD := hD0
  have hS : va_S (fun _ => True) s.heap s.heap [] := va_S.rf
  have hl := lv_entry ([.ref h0, .int ul]) (n := 2) (Nat.le_of_ble_eq_true rfl)
  rw [lg_entry_eq]
  generalize (lg_sl ([.ref h0, .int ul]) ++ List.replicate (2 - (lg_sl ([.ref h0, .int ul])).length) Slot.unset).toArray = ls at hl ⊢
  have hl : lv_has ls 2 [(0, .ref h0), (1, .int ul)] := hl
  refine tgk_13 hG ht_h0 (fun y1 y2 y3 y4 y5 y6 y7 y8 y9 y10 y11 y12 y13 y14 y15 y16 y17 y18 y19 y20 y21 y22 y23 y24 y25 => ?_)
  refine tpk_32 hT y1 (fun g27 hf_o26 => ?_)
  have hI : mo_RI x b (mo_R g27) := by have q9 := hJ; rw [hf_o26, mo_i1] at q9; exact q9
  refine lv_aload_n hx hb dX12_billed_0 rfl (lv_at hl 0 rfl) ?_
  refine tpk_13 hT ht_h0 (fun o28_x0 o28_x1 o28_x7 o28_x9 o28_x10 o28_x11 o28_x12 o28_x13 o28_x14 o28_x15 o28_x16 o28_x17 o28_x18 o28_x19 o28_x20 o28_x22 o28_x25 o28_x28 o28_x29 o28_x32 o28_x33 o28_x34 o28_x35 o28_x36 o28_x37 o28_x38 o28_x47 o28_x48 hf_o28 ro28_0 ro28_1 ro28_2 ro28_3 ro28_4 ro28_5 ro28_6 ro28_7 ro28_8 ro28_9 ro28_10 ro28_11 ro28_12 ro28_13 => ?_)
  refine tpk_pos (tp_in hG ht_h0 (by decide)) hf_o28 (fun q29 eq29 => ?_)
  refine va_get (D := (dC, dI)) (ci := 12) (v := .ref (ρ h0 2)) (C := RX12) (T := TX12) (N := 53) hx hb hts hfX12 hown hK hP q29 eq29 rfl 2 (by decide) (hts (.fieldLink RX12 7 "ColdShipsModel" "row" "[I") wa_148) (fun _ h9 => h9) rfl dX12_billed_1 ?_
  refine lv_iload_n hx hb dX12_billed_4 rfl (lv_at hl 1 rfl) ?_
  refine lv_bipush (v := 11) hx hb dX12_billed_5 (by decide) ?_
  refine lv_iadd hx hb dX12_billed_7 ?_
  refine lv_topi (fun z30 ez30 => ?_)
  have iz30 : z30.toInt = ul.toInt + 11 := zi_add ez30 rfl rfl (by omega) (by omega)
  refine tpk_pos (tp_in hG y1 (by decide)) hf_o26 (fun q31 eq31 => ?_)
  refine va_iald hx hb hK hP q31 0 eq31 rfl (vp_in_iff.mpr ⟨by omega, by omega⟩) dX12_billed_8 ?_
  refine lv_topi (fun z32 ez32 => ?_)
  refine lv_iconst (v := (-1)) hx hb dX12_billed_9 (by decide) ?_
  refine lv_icmp_ne (tgt := 24) hx hb dX12_billed_10 (by decide) (fun c33 => ?_) (fun c33 => ?_)
  · have ic33 : z32.toInt ≠ (-1) := zi_ne rfl rfl c33
    refine lv_aload_n hx hb dX12_billed_24 rfl (lv_at hl 0 rfl) ?_
    refine va_get (D := (dC, dI)) (ci := 12) (v := .ref (ρ h0 2)) (C := RX12) (T := TX12) (N := 53) hx hb hts hfX12 hown hK hP q29 eq29 rfl 2 (by decide) (hts (.fieldLink RX12 7 "ColdShipsModel" "row" "[I") wa_148) (fun _ h9 => h9) rfl dX12_billed_25 ?_
    refine lv_iload_n hx hb dX12_billed_28 rfl (lv_at hl 1 rfl) ?_
    refine lv_bipush (v := 11) hx hb dX12_billed_29 (by decide) ?_
    refine lv_iadd hx hb dX12_billed_31 ?_
    refine lv_topi (fun z34 ez34 => ?_)
    have iz34 : z34.toInt = ul.toInt + 11 := zi_add ez34 rfl rfl (by omega) (by omega)
    refine va_iald hx hb hK hP q31 0 eq31 rfl (vp_in_iff.mpr ⟨by omega, by omega⟩) dX12_billed_32 ?_
    refine lv_topi (fun z35 ez35 => ?_)
    exact W.iret (v := z35) hx hb hr (fun t ht hW => ⟨z35, rfl, ⟨trivial, trivial⟩, ht⟩) (fun _ h => by cases h) dX12_billed_33
  · have ic33 : z32.toInt = (-1) := zi_nef rfl rfl c33
    refine lv_aload_n hx hb dX12_billed_13 rfl (lv_at hl 0 rfl) ?_
    refine va_get (D := (dC, dI)) (ci := 12) (v := .ref (ρ h0 2)) (C := RX12) (T := TX12) (N := 53) hx hb hts hfX12 hown hK hP q29 eq29 rfl 2 (by decide) (hts (.fieldLink RX12 7 "ColdShipsModel" "row" "[I") wa_148) (fun _ h9 => h9) rfl dX12_billed_14 ?_
    refine lv_iload_n hx hb dX12_billed_17 rfl (lv_at hl 1 rfl) ?_
    refine lv_iconst (v := 4) hx hb dX12_billed_18 (by decide) ?_
    refine lv_iadd hx hb dX12_billed_19 ?_
    refine lv_topi (fun z36 ez36 => ?_)
    have iz36 : z36.toInt = ul.toInt + 4 := zi_add ez36 rfl rfl (by omega) (by omega)
    refine va_iald hx hb hK hP q31 0 eq31 rfl (vp_in_iff.mpr ⟨by omega, by omega⟩) dX12_billed_20 ?_
    refine lv_topi (fun z37 ez37 => ?_)
    refine lv_goto (tgt := 33) hx hb dX12_billed_21 (by decide) ?_
    exact W.iret (v := z37) hx hb hr (fun t ht hW => ⟨z37, rfl, ⟨trivial, trivial⟩, ht⟩) (fun _ h => by cases h) dX12_billed_33
set_option maxHeartbeats 4000000 in
set_option maxRecDepth 100000 in
theorem t_X12_heatOf (l : Launch) (dC : Nat → ClassId) (dI : Nat → Nat → Nat) (sz : Nat) (κ : Nat → ClassId) (τ ν : Nat → Nat) (ρ : Nat → Nat → Nat) (L : List Nat) (f : Nat → va_E) (hG : tp_G τ ν ρ L) (hT : tp_T (mo_O κ) κ τ ν ρ f) (h0 : Nat) (ul : Int32) (x : Int) (b : Int) (ql : Int) (ht_h0 : τ h0 = 13) (hL_ul : ul.toInt = 1051 + 16 * ql) (hq_ul : 0 ≤ ql ∧ ql ≤ 59) (hbb : 0 ≤ b ∧ b ≤ 1000) (hJ : mo_RI x b (mo_R (mo_i (f (ρ h0 2))))) (hn5 : ql < (mo_R (mo_i (f (ρ h0 2)))) (5)) : Met l yX12_heatOf wqX12_heatOf ({ frames := 3, cells := 0, slots := 0, locals := 800 }) (va_Pc [.ref h0, .int ul] (pz_B dC dI (tp_K κ) (va_pl L f) sz)) (vp_Si (fun r => True ∧ True)) 0 0 (fun _ => False) := by
  refine Met.ofW (cc := cX12_heatOf) (maxL := 5) (ret := some .int) (by decide) rfl ?_
  intro p e s m args below meth c s₁ B hml hv
  obtain ⟨rfl, hsz, hP, hK, hD0, hN⟩ := hv
  have hx := B.exec
  have hb := B.bytes
  have hr := B.returns
  have hts := fun (w : Cond) (h : w ∈ WALL) => atoms_spec (ws := wqX12_heatOf) B.pre w (List.mem_cons_of_mem _ h)
  have hown : s.vm.findClass RX12 = some m.cls := findClass_of_methodNamed B.named
  have hlocks := B.notSynchronized
  subst hsz
  have hD := hD0
  have hS : va_S (fun _ => True) s.heap s.heap [] := va_S.rf
  have hl := lv_entry ([.ref h0, .int ul]) (n := 5) (Nat.le_of_ble_eq_true rfl)
  rw [lg_entry_eq]
  generalize (lg_sl ([.ref h0, .int ul]) ++ List.replicate (5 - (lg_sl ([.ref h0, .int ul])).length) Slot.unset).toArray = ls at hl ⊢
  have hl : lv_has ls 5 [(0, .ref h0), (1, .int ul)] := hl
  refine tgk_13 hG ht_h0 (fun y1 y2 y3 y4 y5 y6 y7 y8 y9 y10 y11 y12 y13 y14 y15 y16 y17 y18 y19 y20 y21 y22 y23 y24 y25 => ?_)
  refine tpk_32 hT y1 (fun g27 hf_o26 => ?_)
  have hI : mo_RI x b (mo_R g27) := by have q9 := hJ; rw [hf_o26, mo_i1] at q9; exact q9
  rw [hf_o26, mo_i1] at hn5
  refine lv_lconst (v := 0) hx hb dX12_heatOf_0 (by decide) ?_
  refine lv_lstore_n (lv' := [(2, .long 0), (0, .ref h0), (1, .int ul)]) hx hb dX12_heatOf_1 rfl hl (by decide) rfl (fun ls hl => ?_)
  refine lv_iconst (v := 0) hx hb dX12_heatOf_2 (by decide) ?_
  refine lv_istore (lv' := [(4, .int 0), (2, .long 0), (0, .ref h0), (1, .int ul)]) hx hb dX12_heatOf_3 hl (by decide) rfl (fun ls hl => ?_)
  refine pz_loop (fun n0 H locs ls => ∃ w28 : Int32, ∃ w29 : Int64, n0 = (6 - (w28.toInt)).toNat ∧ (0 ≤ w28.toInt ∧ w28.toInt ≤ 6) ∧ H = s.heap ∧ locs = [] ∧ lv_has ls 5 [(4, .int w28), (2, .long w29), (0, .ref h0), (1, .int ul)]) ?_ _ _ _ _ ⟨0, 0, rfl, (by have : (0 : Int32).toInt = 0 := rfl; have : (0 : Int64).toInt = 0 := rfl; omega), rfl, rfl, lv_sub hl [0, 1, 2, 3] rfl⟩
  intro n0 H locs ls hI ih30
  refine Exists.elim hI (fun w28 hE90 => Exists.elim hE90 (fun w29 hE91 => tn_5 hE91 (fun hn31 rw28 e92 e93 hl => ?_)))
  clear hE91 hE90 hI; subst e92; subst e93
  refine lv_iload hx hb dX12_heatOf_5 (lv_at hl 0 rfl) ?_
  refine lv_aload_n hx hb dX12_heatOf_7 rfl (lv_at hl 2 rfl) ?_
  refine tpk_13 hT ht_h0 (fun o32_x0 o32_x1 o32_x7 o32_x9 o32_x10 o32_x11 o32_x12 o32_x13 o32_x14 o32_x15 o32_x16 o32_x17 o32_x18 o32_x19 o32_x20 o32_x22 o32_x25 o32_x28 o32_x29 o32_x32 o32_x33 o32_x34 o32_x35 o32_x36 o32_x37 o32_x38 o32_x47 o32_x48 hf_o32 ro32_0 ro32_1 ro32_2 ro32_3 ro32_4 ro32_5 ro32_6 ro32_7 ro32_8 ro32_9 ro32_10 ro32_11 ro32_12 ro32_13 => ?_)
  refine tpk_pos (tp_in hG ht_h0 (by decide)) hf_o32 (fun q33 eq33 => ?_)
  refine va_get (D := (dC, dI)) (ci := 12) (v := .ref (ρ h0 2)) (C := RX12) (T := TX12) (N := 53) hx hb hts hfX12 hown hK hP q33 eq33 rfl 2 (by decide) (hts (.fieldLink RX12 7 "ColdShipsModel" "row" "[I") wa_148) (fun _ h9 => h9) rfl dX12_heatOf_8 ?_
  refine lv_iconst (v := 0) hx hb dX12_heatOf_11 (by decide) ?_
  refine tpk_pos (tp_in hG y1 (by decide)) hf_o26 (fun q34 eq34 => ?_)
  refine va_iald hx hb hK hP q34 0 eq34 rfl (vp_in_iff.mpr ⟨by decide, by decide⟩) dX12_heatOf_12 ?_
  refine lv_topi (fun z35 ez35 => ?_)
  have jz35 : z35.toInt = mo_R g27 (0) := mo_rd ez35 (show (0 : Int32).toInt = (0) from by decide)
  have kz35 := hI.k0
  refine lv_icmp_ge (tgt := 51) hx hb dX12_heatOf_13 (by decide) (fun c36 => ?_) (fun c36 => ?_)
  · have ic36 : w28.toInt ≥ z35.toInt := zi_ge rfl rfl c36
    refine lv_lload_n hx hb dX12_heatOf_51 rfl (lv_at hl 1 rfl) ?_
    refine lv_aload_n hx hb dX12_heatOf_52 rfl (lv_at hl 2 rfl) ?_
    refine va_get (D := (dC, dI)) (ci := 12) (v := .ref (ρ h0 2)) (C := RX12) (T := TX12) (N := 53) hx hb hts hfX12 hown hK hP q33 eq33 rfl 2 (by decide) (hts (.fieldLink RX12 7 "ColdShipsModel" "row" "[I") wa_148) (fun _ h9 => h9) rfl dX12_heatOf_53 ?_
    refine lv_iload_n hx hb dX12_heatOf_56 rfl (lv_at hl 3 rfl) ?_
    refine lv_iconst (v := 4) hx hb dX12_heatOf_57 (by decide) ?_
    refine lv_iadd hx hb dX12_heatOf_58 ?_
    refine lv_topi (fun z37 ez37 => ?_)
    have iz37 : z37.toInt = ul.toInt + 4 := zi_add ez37 rfl rfl (by omega) (by omega)
    refine va_iald hx hb hK hP q34 0 eq34 rfl (vp_in_iff.mpr ⟨by omega, by omega⟩) dX12_heatOf_59 ?_
    refine lv_topi (fun z38 ez38 => ?_)
    have jz38 : z38.toInt = mo_R g27 (1051 + 16 * ql + 4) := mo_rd ez38 (by omega)
    have kz38 := hI.LT (l := ql) (by omega) (by omega)
    refine lv_i2l hx hb dX12_heatOf_60 rfl ?_
    refine lv_ldiv hx hb dX12_heatOf_61 (zl_nz (by omega) (Int32.toInt_toInt64 z38)) ?_
    refine lv_topl (fun z39 ez39 => ?_)
    refine lv_l2i hx hb dX12_heatOf_62 rfl ?_
    refine lv_topi (fun z40 ez40 => ?_)
    exact W.iret (v := z40) hx hb hr (fun t ht hW => ⟨z40, rfl, ⟨trivial, trivial⟩, ht⟩) (fun _ h => by cases h) dX12_heatOf_63
  · have ic36 : w28.toInt < z35.toInt := zi_gef rfl rfl c36
    refine lv_lload_n hx hb dX12_heatOf_16 rfl (lv_at hl 1 rfl) ?_
    refine lv_aload_n hx hb dX12_heatOf_17 rfl (lv_at hl 2 rfl) ?_
    refine va_get (D := (dC, dI)) (ci := 12) (v := .ref (ρ h0 2)) (C := RX12) (T := TX12) (N := 53) hx hb hts hfX12 hown hK hP q33 eq33 rfl 2 (by decide) (hts (.fieldLink RX12 7 "ColdShipsModel" "row" "[I") wa_148) (fun _ h9 => h9) rfl dX12_heatOf_18 ?_
    refine lv_iload_n hx hb dX12_heatOf_21 rfl (lv_at hl 3 rfl) ?_
    refine lv_iconst (v := 5) hx hb dX12_heatOf_22 (by decide) ?_
    refine lv_iadd hx hb dX12_heatOf_23 ?_
    refine lv_topi (fun z41 ez41 => ?_)
    have iz41 : z41.toInt = ul.toInt + 5 := zi_add ez41 rfl rfl (by omega) (by omega)
    refine lv_iload hx hb dX12_heatOf_24 (lv_at hl 0 rfl) ?_
    refine lv_iadd hx hb dX12_heatOf_26 ?_
    refine lv_topi (fun z42 ez42 => ?_)
    have iz42 : z42.toInt = z41.toInt + w28.toInt := zi_add ez42 rfl rfl (by omega) (by omega)
    refine va_iald hx hb hK hP q34 0 eq34 rfl (vp_in_iff.mpr ⟨by omega, by omega⟩) dX12_heatOf_27 ?_
    refine lv_topi (fun z43 ez43 => ?_)
    refine lv_i2l hx hb dX12_heatOf_28 rfl ?_
    refine lv_aload_n hx hb dX12_heatOf_29 rfl (lv_at hl 2 rfl) ?_
    refine va_get (D := (dC, dI)) (ci := 12) (v := .ref (ρ h0 2)) (C := RX12) (T := TX12) (N := 53) hx hb hts hfX12 hown hK hP q33 eq33 rfl 2 (by decide) (hts (.fieldLink RX12 7 "ColdShipsModel" "row" "[I") wa_148) (fun _ h9 => h9) rfl dX12_heatOf_30 ?_
    refine lv_iload hx hb dX12_heatOf_33 (lv_at hl 0 rfl) ?_
    refine pz_calli (va_runS (As := [.int w28]) (rest := [.ref (ρ h0 2), .long z43.toInt64, .long w29]) ⟨hx, hb, hml, hown, hts⟩ (t_X12_terminalAt l dC dI _ w28 (w28.toInt) (by omega) rfl) (va_cwS 1 hts gX12_heatOf_X12_terminalAt rfl rfl rfl pd_X12_terminalAt ⟨Nat.le_of_ble_eq_true rfl, Nat.le_of_ble_eq_true rfl⟩) ⟨pz_blind, pz_pre pz_P0 (hK.sub (tys' := []) [] rfl) (pz_D0 (A := fun _ => True)) hN⟩ rfl rfl hl.1 rfl (lv_room (Nat.le_of_ble_eq_true rfl)) dX12_heatOf_35 ⟨Nat.le_of_ble_eq_true rfl, Nat.le_of_ble_eq_true rfl⟩) (fun r44 hw45 => ?_)
    obtain ⟨hw45r, hw45p⟩ := hw45
    refine lv_iconst (v := 4) hx hb dX12_heatOf_38 (by decide) ?_
    refine lv_iadd hx hb dX12_heatOf_39 ?_
    refine lv_topi (fun z46 ez46 => ?_)
    have iz46 : z46.toInt = r44.toInt + 4 := zi_add ez46 rfl rfl (by omega) (by omega)
    refine va_iald hx hb hK hP q34 0 eq34 rfl (vp_in_iff.mpr ⟨by omega, by omega⟩) dX12_heatOf_40 ?_
    refine lv_topi (fun z47 ez47 => ?_)
    refine lv_i2l hx hb dX12_heatOf_41 rfl ?_
    refine lv_lmul hx hb dX12_heatOf_42 ?_
    refine lv_topl (fun z48 ez48 => ?_)
    refine lv_ladd hx hb dX12_heatOf_43 ?_
    refine lv_topl (fun z49 ez49 => ?_)
    refine lv_lstore_n (lv' := [(2, .long z49), (4, .int w28), (0, .ref h0), (1, .int ul)]) hx hb dX12_heatOf_44 rfl hl (by decide) rfl (fun ls hl => ?_)
    obtain ⟨z50, ez50⟩ : ∃ y : Int32, y = w28 + 1 := ⟨_, rfl⟩
    refine lv_iinc (v := z50) (lv' := [(4, .int z50), (2, .long z49), (0, .ref h0), (1, .int ul)]) hx hb dX12_heatOf_45 hl (k := 1) rfl (by rw [ez50]; rfl) (by decide) rfl (fun ls hl => ?_)
    have iz50 : z50.toInt = w28.toInt + 1 := zi_add ez50 rfl rfl (by omega) (by omega)
    refine lv_goto (tgt := 5) hx hb dX12_heatOf_48 (by decide) ?_
    exact ih30 _ _ _ _ (by rw [hn31]; omega) ⟨z50, z49, rfl, (by omega), rfl, rfl, lv_sub hl [0, 1, 2, 3] rfl⟩
set_option maxHeartbeats 4000000 in
set_option maxRecDepth 100000 in
theorem t_X12_priceOf (l : Launch) (dC : Nat → ClassId) (dI : Nat → Nat → Nat) (sz : Nat) (κ : Nat → ClassId) (τ ν : Nat → Nat) (ρ : Nat → Nat → Nat) (L : List Nat) (f : Nat → va_E) (hG : tp_G τ ν ρ L) (hT : tp_T (mo_O κ) κ τ ν ρ f) (h0 : Nat) (v : Int32) (u : Int32) (x : Int) (b : Int) (ht_h0 : τ h0 = 13) (hbb : 0 ≤ b ∧ b ≤ 1000) (hJ : mo_RI x b (mo_R (mo_i (f (ρ h0 2))))) : Met l yX12_priceOf wqX12_priceOf ({ frames := 2, cells := 0, slots := 0, locals := 400 }) (va_Pc [.ref h0, .int v, .int u] (pz_B dC dI (tp_K κ) (va_pl L f) sz)) (vp_Si (fun r => True ∧ True)) 0 0 (fun _ => False) := by
  refine Met.ofW (cc := cX12_priceOf) (maxL := 7) (ret := some .int) (by decide) rfl ?_
  intro p e s m args below meth c s₁ B hml hv
  obtain ⟨rfl, hsz, hP, hK, hD0, hN⟩ := hv
  have hx := B.exec
  have hb := B.bytes
  have hr := B.returns
  have hts := fun (w : Cond) (h : w ∈ WALL) => atoms_spec (ws := wqX12_priceOf) B.pre w (List.mem_cons_of_mem _ h)
  have hown : s.vm.findClass RX12 = some m.cls := findClass_of_methodNamed B.named
  have hlocks := B.notSynchronized
  subst hsz
  have hD := hD0
  have hS : va_S (fun _ => True) s.heap s.heap [] := va_S.rf
  have hl := lv_entry ([.ref h0, .int v, .int u]) (n := 7) (Nat.le_of_ble_eq_true rfl)
  rw [lg_entry_eq]
  generalize (lg_sl ([.ref h0, .int v, .int u]) ++ List.replicate (7 - (lg_sl ([.ref h0, .int v, .int u])).length) Slot.unset).toArray = ls at hl ⊢
  have hl : lv_has ls 7 [(0, .ref h0), (1, .int v), (2, .int u)] := hl
  refine tgk_13 hG ht_h0 (fun y1 y2 y3 y4 y5 y6 y7 y8 y9 y10 y11 y12 y13 y14 y15 y16 y17 y18 y19 y20 y21 y22 y23 y24 y25 => ?_)
  refine tpk_32 hT y1 (fun g27 hf_o26 => ?_)
  have hI : mo_RI x b (mo_R g27) := by have q9 := hJ; rw [hf_o26, mo_i1] at q9; exact q9
  refine lv_iconst (v := 0) hx hb dX12_priceOf_0 (by decide) ?_
  refine lv_istore_n (lv' := [(3, .int 0), (0, .ref h0), (1, .int v), (2, .int u)]) hx hb dX12_priceOf_1 rfl hl (by decide) rfl (fun ls hl => ?_)
  refine lv_iconst (v := (-1)) hx hb dX12_priceOf_2 (by decide) ?_
  refine lv_istore (lv' := [(4, .int (-1)), (3, .int 0), (0, .ref h0), (1, .int v), (2, .int u)]) hx hb dX12_priceOf_3 hl (by decide) rfl (fun ls hl => ?_)
  refine lv_iconst (v := 0) hx hb dX12_priceOf_5 (by decide) ?_
  refine lv_istore (lv' := [(5, .int 0), (4, .int (-1)), (3, .int 0), (0, .ref h0), (1, .int v), (2, .int u)]) hx hb dX12_priceOf_6 hl (by decide) rfl (fun ls hl => ?_)
  refine pz_loop (fun n0 H locs ls => ∃ w28 : Int32, ∃ w29 : Int32, ∃ w30 : Int32, n0 = (60 - (w28.toInt)).toNat ∧ (0 ≤ w28.toInt ∧ w28.toInt ≤ 60) ∧ H = s.heap ∧ locs = [] ∧ lv_has ls 7 [(5, .int w28), (4, .int w29), (3, .int w30), (0, .ref h0), (1, .int v), (2, .int u)]) ?_ _ _ _ _ ⟨0, (-1), 0, rfl, (by have : (0 : Int32).toInt = 0 := rfl; have : ((-1) : Int32).toInt = (-1) := rfl; have : (0 : Int32).toInt = 0 := rfl; omega), rfl, rfl, lv_sub hl [0, 1, 2, 3, 4, 5] rfl⟩
  intro n0 H locs ls hI ih31
  refine Exists.elim hI (fun w28 hE90 => Exists.elim hE90 (fun w29 hE91 => Exists.elim hE91 (fun w30 hE92 => tn_5 hE92 (fun hn32 rw28 e92 e93 hl => ?_))))
  clear hE92 hE91 hE90 hI; subst e92; subst e93
  refine lv_iload hx hb dX12_priceOf_8 (lv_at hl 0 rfl) ?_
  refine lv_aload_n hx hb dX12_priceOf_10 rfl (lv_at hl 3 rfl) ?_
  refine tpk_13 hT ht_h0 (fun o33_x0 o33_x1 o33_x7 o33_x9 o33_x10 o33_x11 o33_x12 o33_x13 o33_x14 o33_x15 o33_x16 o33_x17 o33_x18 o33_x19 o33_x20 o33_x22 o33_x25 o33_x28 o33_x29 o33_x32 o33_x33 o33_x34 o33_x35 o33_x36 o33_x37 o33_x38 o33_x47 o33_x48 hf_o33 ro33_0 ro33_1 ro33_2 ro33_3 ro33_4 ro33_5 ro33_6 ro33_7 ro33_8 ro33_9 ro33_10 ro33_11 ro33_12 ro33_13 => ?_)
  refine tpk_pos (tp_in hG ht_h0 (by decide)) hf_o33 (fun q34 eq34 => ?_)
  refine va_get (D := (dC, dI)) (ci := 12) (v := .ref (ρ h0 2)) (C := RX12) (T := TX12) (N := 53) hx hb hts hfX12 hown hK hP q34 eq34 rfl 2 (by decide) (hts (.fieldLink RX12 7 "ColdShipsModel" "row" "[I") wa_148) (fun _ h9 => h9) rfl dX12_priceOf_11 ?_
  refine lv_bipush (v := 6) hx hb dX12_priceOf_14 (by decide) ?_
  refine tpk_pos (tp_in hG y1 (by decide)) hf_o26 (fun q35 eq35 => ?_)
  refine va_iald hx hb hK hP q35 0 eq35 rfl (vp_in_iff.mpr ⟨by decide, by decide⟩) dX12_priceOf_16 ?_
  refine lv_topi (fun z36 ez36 => ?_)
  have jz36 : z36.toInt = mo_R g27 (6) := mo_rd ez36 (show (6 : Int32).toInt = (6) from by decide)
  have kz36 := hI.k6
  refine lv_icmp_ge (tgt := 91) hx hb dX12_priceOf_17 (by decide) (fun c37 => ?_) (fun c37 => ?_)
  · have ic37 : w28.toInt ≥ z36.toInt := zi_ge rfl rfl c37
    refine lv_iload_n hx hb dX12_priceOf_91 rfl (lv_at hl 2 rfl) ?_
    exact W.iret (v := w30) hx hb hr (fun t ht hW => ⟨w30, rfl, ⟨trivial, trivial⟩, ht⟩) (fun _ h => by cases h) dX12_priceOf_92
  · have ic37 : w28.toInt < z36.toInt := zi_gef rfl rfl c37
    refine lv_sipush (v := 2011) hx hb dX12_priceOf_20 (by decide) ?_
    refine lv_iconst (v := 3) hx hb dX12_priceOf_23 (by decide) ?_
    refine lv_iload hx hb dX12_priceOf_24 (lv_at hl 0 rfl) ?_
    refine lv_imul hx hb dX12_priceOf_26 ?_
    refine lv_topi (fun z38 ez38 => ?_)
    have iz38 : z38.toInt = 3 * w28.toInt := zi_mul ez38 rfl rfl (by omega) (by omega)
    refine lv_iadd hx hb dX12_priceOf_27 ?_
    refine lv_topi (fun z39 ez39 => ?_)
    have iz39 : z39.toInt = 2011 + z38.toInt := zi_add ez39 rfl rfl (by omega) (by omega)
    refine lv_istore (lv' := [(6, .int z39), (5, .int w28), (4, .int w29), (3, .int w30), (0, .ref h0), (1, .int v), (2, .int u)]) hx hb dX12_priceOf_28 hl (by decide) rfl (fun ls hl => ?_)
    refine lv_aload_n hx hb dX12_priceOf_30 rfl (lv_at hl 4 rfl) ?_
    refine va_get (D := (dC, dI)) (ci := 12) (v := .ref (ρ h0 2)) (C := RX12) (T := TX12) (N := 53) hx hb hts hfX12 hown hK hP q34 eq34 rfl 2 (by decide) (hts (.fieldLink RX12 7 "ColdShipsModel" "row" "[I") wa_148) (fun _ h9 => h9) rfl dX12_priceOf_31 ?_
    refine lv_iload hx hb dX12_priceOf_34 (lv_at hl 0 rfl) ?_
    refine lv_iconst (v := 2) hx hb dX12_priceOf_36 (by decide) ?_
    refine lv_iadd hx hb dX12_priceOf_37 ?_
    refine lv_topi (fun z40 ez40 => ?_)
    have iz40 : z40.toInt = z39.toInt + 2 := zi_add ez40 rfl rfl (by omega) (by omega)
    refine va_iald hx hb hK hP q35 0 eq35 rfl (vp_in_iff.mpr ⟨by omega, by omega⟩) dX12_priceOf_38 ?_
    refine lv_topi (fun z41 ez41 => ?_)
    refine lv_iload_n hx hb dX12_priceOf_39 rfl (lv_at hl 6 rfl) ?_
    refine lv_icmp_gt (tgt := 85) hx hb dX12_priceOf_40 (by decide) (fun c42 => ?_) (fun c42 => ?_)
    · have ic42 : z41.toInt > u.toInt := zi_gt rfl rfl c42
      obtain ⟨z43, ez43⟩ : ∃ y : Int32, y = w28 + 1 := ⟨_, rfl⟩
      refine lv_iinc (v := z43) (lv' := [(5, .int z43), (6, .int z39), (4, .int w29), (3, .int w30), (0, .ref h0), (1, .int v), (2, .int u)]) hx hb dX12_priceOf_85 hl (k := 1) rfl (by rw [ez43]; rfl) (by decide) rfl (fun ls hl => ?_)
      have iz43 : z43.toInt = w28.toInt + 1 := zi_add ez43 rfl rfl (by omega) (by omega)
      refine lv_goto (tgt := 8) hx hb dX12_priceOf_88 (by decide) ?_
      exact ih31 _ _ _ _ (by rw [hn32]; omega) ⟨z43, w29, w30, rfl, (by omega), rfl, rfl, lv_sub hl [0, 2, 3, 4, 5, 6] rfl⟩
    · have ic42 : z41.toInt ≤ u.toInt := zi_gtf rfl rfl c42
      refine lv_aload_n hx hb dX12_priceOf_43 rfl (lv_at hl 4 rfl) ?_
      refine va_get (D := (dC, dI)) (ci := 12) (v := .ref (ρ h0 2)) (C := RX12) (T := TX12) (N := 53) hx hb hts hfX12 hown hK hP q34 eq34 rfl 2 (by decide) (hts (.fieldLink RX12 7 "ColdShipsModel" "row" "[I") wa_148) (fun _ h9 => h9) rfl dX12_priceOf_44 ?_
      refine lv_iload hx hb dX12_priceOf_47 (lv_at hl 0 rfl) ?_
      refine va_iald hx hb hK hP q35 0 eq35 rfl (vp_in_iff.mpr ⟨by omega, by omega⟩) dX12_priceOf_49 ?_
      refine lv_topi (fun z44 ez44 => ?_)
      refine lv_iload_n hx hb dX12_priceOf_50 rfl (lv_at hl 5 rfl) ?_
      refine lv_icmp_gt (tgt := 85) hx hb dX12_priceOf_51 (by decide) (fun c45 => ?_) (fun c45 => ?_)
      · have ic45 : z44.toInt > v.toInt := zi_gt rfl rfl c45
        obtain ⟨z46, ez46⟩ : ∃ y : Int32, y = w28 + 1 := ⟨_, rfl⟩
        refine lv_iinc (v := z46) (lv' := [(5, .int z46), (6, .int z39), (4, .int w29), (3, .int w30), (0, .ref h0), (1, .int v), (2, .int u)]) hx hb dX12_priceOf_85 hl (k := 1) rfl (by rw [ez46]; rfl) (by decide) rfl (fun ls hl => ?_)
        have iz46 : z46.toInt = w28.toInt + 1 := zi_add ez46 rfl rfl (by omega) (by omega)
        refine lv_goto (tgt := 8) hx hb dX12_priceOf_88 (by decide) ?_
        exact ih31 _ _ _ _ (by rw [hn32]; omega) ⟨z46, w29, w30, rfl, (by omega), rfl, rfl, lv_sub hl [0, 2, 3, 4, 5, 6] rfl⟩
      · have ic45 : z44.toInt ≤ v.toInt := zi_gtf rfl rfl c45
        refine lv_aload_n hx hb dX12_priceOf_54 rfl (lv_at hl 4 rfl) ?_
        refine va_get (D := (dC, dI)) (ci := 12) (v := .ref (ρ h0 2)) (C := RX12) (T := TX12) (N := 53) hx hb hts hfX12 hown hK hP q34 eq34 rfl 2 (by decide) (hts (.fieldLink RX12 7 "ColdShipsModel" "row" "[I") wa_148) (fun _ h9 => h9) rfl dX12_priceOf_55 ?_
        refine lv_iload hx hb dX12_priceOf_58 (lv_at hl 0 rfl) ?_
        refine va_iald hx hb hK hP q35 0 eq35 rfl (vp_in_iff.mpr ⟨by omega, by omega⟩) dX12_priceOf_60 ?_
        refine lv_topi (fun z47 ez47 => ?_)
        refine lv_iload hx hb dX12_priceOf_61 (lv_at hl 2 rfl) ?_
        refine lv_icmp_lt (tgt := 85) hx hb dX12_priceOf_63 (by decide) (fun c48 => ?_) (fun c48 => ?_)
        · have ic48 : z47.toInt < w29.toInt := zi_lt rfl rfl c48
          obtain ⟨z49, ez49⟩ : ∃ y : Int32, y = w28 + 1 := ⟨_, rfl⟩
          refine lv_iinc (v := z49) (lv' := [(5, .int z49), (6, .int z39), (4, .int w29), (3, .int w30), (0, .ref h0), (1, .int v), (2, .int u)]) hx hb dX12_priceOf_85 hl (k := 1) rfl (by rw [ez49]; rfl) (by decide) rfl (fun ls hl => ?_)
          have iz49 : z49.toInt = w28.toInt + 1 := zi_add ez49 rfl rfl (by omega) (by omega)
          refine lv_goto (tgt := 8) hx hb dX12_priceOf_88 (by decide) ?_
          exact ih31 _ _ _ _ (by rw [hn32]; omega) ⟨z49, w29, w30, rfl, (by omega), rfl, rfl, lv_sub hl [0, 2, 3, 4, 5, 6] rfl⟩
        · have ic48 : z47.toInt ≥ w29.toInt := zi_ltf rfl rfl c48
          refine lv_aload_n hx hb dX12_priceOf_66 rfl (lv_at hl 4 rfl) ?_
          refine va_get (D := (dC, dI)) (ci := 12) (v := .ref (ρ h0 2)) (C := RX12) (T := TX12) (N := 53) hx hb hts hfX12 hown hK hP q34 eq34 rfl 2 (by decide) (hts (.fieldLink RX12 7 "ColdShipsModel" "row" "[I") wa_148) (fun _ h9 => h9) rfl dX12_priceOf_67 ?_
          refine lv_iload hx hb dX12_priceOf_70 (lv_at hl 0 rfl) ?_
          refine va_iald hx hb hK hP q35 0 eq35 rfl (vp_in_iff.mpr ⟨by omega, by omega⟩) dX12_priceOf_72 ?_
          refine lv_topi (fun z50 ez50 => ?_)
          refine lv_istore (lv' := [(4, .int z50), (6, .int z39), (5, .int w28), (3, .int w30), (0, .ref h0), (1, .int v), (2, .int u)]) hx hb dX12_priceOf_73 hl (by decide) rfl (fun ls hl => ?_)
          refine lv_aload_n hx hb dX12_priceOf_75 rfl (lv_at hl 4 rfl) ?_
          refine va_get (D := (dC, dI)) (ci := 12) (v := .ref (ρ h0 2)) (C := RX12) (T := TX12) (N := 53) hx hb hts hfX12 hown hK hP q34 eq34 rfl 2 (by decide) (hts (.fieldLink RX12 7 "ColdShipsModel" "row" "[I") wa_148) (fun _ h9 => h9) rfl dX12_priceOf_76 ?_
          refine lv_iload hx hb dX12_priceOf_79 (lv_at hl 1 rfl) ?_
          refine lv_iconst (v := 1) hx hb dX12_priceOf_81 (by decide) ?_
          refine lv_iadd hx hb dX12_priceOf_82 ?_
          refine lv_topi (fun z51 ez51 => ?_)
          have iz51 : z51.toInt = z39.toInt + 1 := zi_add ez51 rfl rfl (by omega) (by omega)
          refine va_iald hx hb hK hP q35 0 eq35 rfl (vp_in_iff.mpr ⟨by omega, by omega⟩) dX12_priceOf_83 ?_
          refine lv_topi (fun z52 ez52 => ?_)
          refine lv_istore_n (lv' := [(3, .int z52), (4, .int z50), (6, .int z39), (5, .int w28), (0, .ref h0), (1, .int v), (2, .int u)]) hx hb dX12_priceOf_84 rfl hl (by decide) rfl (fun ls hl => ?_)
          obtain ⟨z53, ez53⟩ : ∃ y : Int32, y = w28 + 1 := ⟨_, rfl⟩
          refine lv_iinc (v := z53) (lv' := [(5, .int z53), (3, .int z52), (4, .int z50), (6, .int z39), (0, .ref h0), (1, .int v), (2, .int u)]) hx hb dX12_priceOf_85 hl (k := 3) rfl (by rw [ez53]; rfl) (by decide) rfl (fun ls hl => ?_)
          have iz53 : z53.toInt = w28.toInt + 1 := zi_add ez53 rfl rfl (by omega) (by omega)
          refine lv_goto (tgt := 8) hx hb dX12_priceOf_88 (by decide) ?_
          exact ih31 _ _ _ _ (by rw [hn32]; omega) ⟨z53, z50, z52, rfl, (by omega), rfl, rfl, lv_sub hl [0, 2, 1, 4, 5, 6] rfl⟩
set_option maxHeartbeats 4000000 in
set_option maxRecDepth 100000 in
theorem t_X12_isForce (l : Launch) (dC : Nat → ClassId) (dI : Nat → Nat → Nat) (sz : Nat) (κ : Nat → ClassId) (τ ν : Nat → Nat) (ρ : Nat → Nat → Nat) (L : List Nat) (f : Nat → va_E) (hG : tp_G τ ν ρ L) (hT : tp_T (mo_O κ) κ τ ν ρ f) (h0 : Nat) (v : Int32) (u : Int32) (x : Int) (b : Int) (ht_h0 : τ h0 = 13) (hbb : 0 ≤ b ∧ b ≤ 1000) (hJ : mo_RI x b (mo_R (mo_i (f (ρ h0 2))))) : Met l yX12_isForce wqX12_isForce ({ frames := 3, cells := 0, slots := 0, locals := 800 }) (va_Pc [.ref h0, .int v, .int u] (pz_B dC dI (tp_K κ) (va_pl L f) sz)) (vp_Si (fun r => (0 ≤ r.toInt ∧ r.toInt ≤ 1) ∧ True)) 0 0 (fun _ => False) := by
  refine Met.ofW (cc := cX12_isForce) (maxL := 6) (ret := some .boolean) (by decide) rfl ?_
  intro p e s m args below meth c s₁ B hml hv
  obtain ⟨rfl, hsz, hP, hK, hD0, hN⟩ := hv
  have hx := B.exec
  have hb := B.bytes
  have hr := B.returns
  have hts := fun (w : Cond) (h : w ∈ WALL) => atoms_spec (ws := wqX12_isForce) B.pre w (List.mem_cons_of_mem _ h)
  have hown : s.vm.findClass RX12 = some m.cls := findClass_of_methodNamed B.named
  have hlocks := B.notSynchronized
  subst hsz
  have hD := hD0
  have hS : va_S (fun _ => True) s.heap s.heap [] := va_S.rf
  have hl := lv_entry ([.ref h0, .int v, .int u]) (n := 6) (Nat.le_of_ble_eq_true rfl)
  rw [lg_entry_eq]
  generalize (lg_sl ([.ref h0, .int v, .int u]) ++ List.replicate (6 - (lg_sl ([.ref h0, .int v, .int u])).length) Slot.unset).toArray = ls at hl ⊢
  have hl : lv_has ls 6 [(0, .ref h0), (1, .int v), (2, .int u)] := hl
  refine tgk_13 hG ht_h0 (fun y1 y2 y3 y4 y5 y6 y7 y8 y9 y10 y11 y12 y13 y14 y15 y16 y17 y18 y19 y20 y21 y22 y23 y24 y25 => ?_)
  refine tpk_32 hT y1 (fun g27 hf_o26 => ?_)
  have hI : mo_RI x b (mo_R g27) := by have q9 := hJ; rw [hf_o26, mo_i1] at q9; exact q9
  refine lv_iconst (v := 0) hx hb dX12_isForce_0 (by decide) ?_
  refine lv_istore_n (lv' := [(3, .int 0), (0, .ref h0), (1, .int v), (2, .int u)]) hx hb dX12_isForce_1 rfl hl (by decide) rfl (fun ls hl => ?_)
  refine lv_iconst (v := 0) hx hb dX12_isForce_2 (by decide) ?_
  refine lv_istore (lv' := [(4, .int 0), (3, .int 0), (0, .ref h0), (1, .int v), (2, .int u)]) hx hb dX12_isForce_3 hl (by decide) rfl (fun ls hl => ?_)
  refine pz_loop (fun n0 H locs ls => ∃ w28 : Int32, ∃ w29 : Int32, n0 = (20 - (w28.toInt)).toNat ∧ (0 ≤ w28.toInt ∧ w28.toInt ≤ 20) ∧ (0 ≤ w29.toInt ∧ w29.toInt ≤ 1) ∧ H = s.heap ∧ locs = [] ∧ lv_has ls 6 [(4, .int w28), (3, .int w29), (0, .ref h0), (1, .int v), (2, .int u)]) ?_ _ _ _ _ ⟨0, 0, rfl, (by have : (0 : Int32).toInt = 0 := rfl; have : (0 : Int32).toInt = 0 := rfl; omega), (by have : (0 : Int32).toInt = 0 := rfl; have : (0 : Int32).toInt = 0 := rfl; omega), rfl, rfl, lv_sub hl [0, 1, 2, 3, 4] rfl⟩
  intro n0 H locs ls hI ih30
  refine Exists.elim hI (fun w28 hE90 => Exists.elim hE90 (fun w29 hE91 => tn_6 hE91 (fun hn31 rw28 rw29 e93 e94 hl => ?_)))
  clear hE91 hE90 hI; subst e93; subst e94
  refine lv_iload hx hb dX12_isForce_5 (lv_at hl 0 rfl) ?_
  refine lv_aload_n hx hb dX12_isForce_7 rfl (lv_at hl 2 rfl) ?_
  refine tpk_13 hT ht_h0 (fun o32_x0 o32_x1 o32_x7 o32_x9 o32_x10 o32_x11 o32_x12 o32_x13 o32_x14 o32_x15 o32_x16 o32_x17 o32_x18 o32_x19 o32_x20 o32_x22 o32_x25 o32_x28 o32_x29 o32_x32 o32_x33 o32_x34 o32_x35 o32_x36 o32_x37 o32_x38 o32_x47 o32_x48 hf_o32 ro32_0 ro32_1 ro32_2 ro32_3 ro32_4 ro32_5 ro32_6 ro32_7 ro32_8 ro32_9 ro32_10 ro32_11 ro32_12 ro32_13 => ?_)
  refine tpk_pos (tp_in hG ht_h0 (by decide)) hf_o32 (fun q33 eq33 => ?_)
  refine va_get (D := (dC, dI)) (ci := 12) (v := .ref (ρ h0 2)) (C := RX12) (T := TX12) (N := 53) hx hb hts hfX12 hown hK hP q33 eq33 rfl 2 (by decide) (hts (.fieldLink RX12 7 "ColdShipsModel" "row" "[I") wa_148) (fun _ h9 => h9) rfl dX12_isForce_8 ?_
  refine lv_bipush (v := 7) hx hb dX12_isForce_11 (by decide) ?_
  refine tpk_pos (tp_in hG y1 (by decide)) hf_o26 (fun q34 eq34 => ?_)
  refine va_iald hx hb hK hP q34 0 eq34 rfl (vp_in_iff.mpr ⟨by decide, by decide⟩) dX12_isForce_13 ?_
  refine lv_topi (fun z35 ez35 => ?_)
  have jz35 : z35.toInt = mo_R g27 (7) := mo_rd ez35 (show (7 : Int32).toInt = (7) from by decide)
  have kz35 := hI.k7
  refine lv_icmp_ge (tgt := 82) hx hb dX12_isForce_14 (by decide) (fun c36 => ?_) (fun c36 => ?_)
  · have ic36 : w28.toInt ≥ z35.toInt := zi_ge rfl rfl c36
    refine lv_iload_n hx hb dX12_isForce_82 rfl (lv_at hl 1 rfl) ?_
    exact W.zret (v := w29) hx hb hr (zi_narZ (by omega) (by omega)) (fun t ht hW => ⟨w29, rfl, ⟨(by first | decide | omega), trivial⟩, ht⟩) (fun _ h => by cases h) dX12_isForce_83
  · have ic36 : w28.toInt < z35.toInt := zi_gef rfl rfl c36
    refine lv_sipush (v := 2191) hx hb dX12_isForce_17 (by decide) ?_
    refine lv_iconst (v := 3) hx hb dX12_isForce_20 (by decide) ?_
    refine lv_iload hx hb dX12_isForce_21 (lv_at hl 0 rfl) ?_
    refine lv_imul hx hb dX12_isForce_23 ?_
    refine lv_topi (fun z37 ez37 => ?_)
    have iz37 : z37.toInt = 3 * w28.toInt := zi_mul ez37 rfl rfl (by omega) (by omega)
    refine lv_iadd hx hb dX12_isForce_24 ?_
    refine lv_topi (fun z38 ez38 => ?_)
    have iz38 : z38.toInt = 2191 + z37.toInt := zi_add ez38 rfl rfl (by omega) (by omega)
    refine lv_istore (lv' := [(5, .int z38), (4, .int w28), (3, .int w29), (0, .ref h0), (1, .int v), (2, .int u)]) hx hb dX12_isForce_25 hl (by decide) rfl (fun ls hl => ?_)
    refine lv_iload_n hx hb dX12_isForce_27 rfl (lv_at hl 2 rfl) ?_
    refine lv_if_ne (tgt := 70) hx hb dX12_isForce_28 (by decide) (fun c39 => ?_) (fun c39 => ?_)
    · have ic39 : w29.toInt ≠ 0 := zi_ne rfl rfl c39
      replace ic39 : 1 ≤ w29.toInt := by omega
      refine lv_iconst (v := 1) hx hb dX12_isForce_70 (by decide) ?_
      refine lv_goto (tgt := 75) hx hb dX12_isForce_71 (by decide) ?_
      refine lv_istore_n (lv' := [(3, .int 1), (5, .int z38), (4, .int w28), (0, .ref h0), (1, .int v), (2, .int u)]) hx hb dX12_isForce_75 rfl hl (by decide) rfl (fun ls hl => ?_)
      obtain ⟨z40, ez40⟩ : ∃ y : Int32, y = w28 + 1 := ⟨_, rfl⟩
      refine lv_iinc (v := z40) (lv' := [(4, .int z40), (3, .int 1), (5, .int z38), (0, .ref h0), (1, .int v), (2, .int u)]) hx hb dX12_isForce_76 hl (k := 2) rfl (by rw [ez40]; rfl) (by decide) rfl (fun ls hl => ?_)
      have iz40 : z40.toInt = w28.toInt + 1 := zi_add ez40 rfl rfl (by omega) (by omega)
      refine lv_goto (tgt := 5) hx hb dX12_isForce_79 (by decide) ?_
      exact ih30 _ _ _ _ (by rw [hn31]; omega) ⟨z40, 1, rfl, (by have : (1 : Int32).toInt = 1 := rfl; omega), (by have : (1 : Int32).toInt = 1 := rfl; omega), rfl, rfl, lv_sub hl [0, 1, 3, 4, 5] rfl⟩
    · have ic39 : w29.toInt = 0 := zi_nef rfl rfl c39
      refine lv_aload_n hx hb dX12_isForce_31 rfl (lv_at hl 3 rfl) ?_
      refine va_get (D := (dC, dI)) (ci := 12) (v := .ref (ρ h0 2)) (C := RX12) (T := TX12) (N := 53) hx hb hts hfX12 hown hK hP q33 eq33 rfl 2 (by decide) (hts (.fieldLink RX12 7 "ColdShipsModel" "row" "[I") wa_148) (fun _ h9 => h9) rfl dX12_isForce_32 ?_
      refine lv_iload hx hb dX12_isForce_35 (lv_at hl 0 rfl) ?_
      refine lv_iconst (v := 2) hx hb dX12_isForce_37 (by decide) ?_
      refine lv_iadd hx hb dX12_isForce_38 ?_
      refine lv_topi (fun z41 ez41 => ?_)
      have iz41 : z41.toInt = z38.toInt + 2 := zi_add ez41 rfl rfl (by omega) (by omega)
      refine va_iald hx hb hK hP q34 0 eq34 rfl (vp_in_iff.mpr ⟨by omega, by omega⟩) dX12_isForce_39 ?_
      refine lv_topi (fun z42 ez42 => ?_)
      refine lv_iload_n hx hb dX12_isForce_40 rfl (lv_at hl 5 rfl) ?_
      refine lv_icmp_gt (tgt := 74) hx hb dX12_isForce_41 (by decide) (fun c43 => ?_) (fun c43 => ?_)
      · have ic43 : z42.toInt > u.toInt := zi_gt rfl rfl c43
        refine lv_iconst (v := 0) hx hb dX12_isForce_74 (by decide) ?_
        refine lv_istore_n (lv' := [(3, .int 0), (5, .int z38), (4, .int w28), (0, .ref h0), (1, .int v), (2, .int u)]) hx hb dX12_isForce_75 rfl hl (by decide) rfl (fun ls hl => ?_)
        obtain ⟨z44, ez44⟩ : ∃ y : Int32, y = w28 + 1 := ⟨_, rfl⟩
        refine lv_iinc (v := z44) (lv' := [(4, .int z44), (3, .int 0), (5, .int z38), (0, .ref h0), (1, .int v), (2, .int u)]) hx hb dX12_isForce_76 hl (k := 2) rfl (by rw [ez44]; rfl) (by decide) rfl (fun ls hl => ?_)
        have iz44 : z44.toInt = w28.toInt + 1 := zi_add ez44 rfl rfl (by omega) (by omega)
        refine lv_goto (tgt := 5) hx hb dX12_isForce_79 (by decide) ?_
        exact ih30 _ _ _ _ (by rw [hn31]; omega) ⟨z44, 0, rfl, (by have : (0 : Int32).toInt = 0 := rfl; omega), (by have : (0 : Int32).toInt = 0 := rfl; omega), rfl, rfl, lv_sub hl [0, 1, 3, 4, 5] rfl⟩
      · have ic43 : z42.toInt ≤ u.toInt := zi_gtf rfl rfl c43
        refine lv_iload_n hx hb dX12_isForce_44 rfl (lv_at hl 4 rfl) ?_
        refine lv_i2l hx hb dX12_isForce_45 rfl ?_
        refine lv_aload_n hx hb dX12_isForce_46 rfl (lv_at hl 3 rfl) ?_
        refine va_get (D := (dC, dI)) (ci := 12) (v := .ref (ρ h0 2)) (C := RX12) (T := TX12) (N := 53) hx hb hts hfX12 hown hK hP q33 eq33 rfl 2 (by decide) (hts (.fieldLink RX12 7 "ColdShipsModel" "row" "[I") wa_148) (fun _ h9 => h9) rfl dX12_isForce_47 ?_
        refine lv_iload hx hb dX12_isForce_50 (lv_at hl 0 rfl) ?_
        refine va_iald hx hb hK hP q34 0 eq34 rfl (vp_in_iff.mpr ⟨by omega, by omega⟩) dX12_isForce_52 ?_
        refine lv_topi (fun z45 ez45 => ?_)
        refine lv_i2l hx hb dX12_isForce_53 rfl ?_
        refine lv_aload_n hx hb dX12_isForce_54 rfl (lv_at hl 3 rfl) ?_
        refine va_get (D := (dC, dI)) (ci := 12) (v := .ref (ρ h0 2)) (C := RX12) (T := TX12) (N := 53) hx hb hts hfX12 hown hK hP q33 eq33 rfl 2 (by decide) (hts (.fieldLink RX12 7 "ColdShipsModel" "row" "[I") wa_148) (fun _ h9 => h9) rfl dX12_isForce_55 ?_
        refine lv_iload hx hb dX12_isForce_58 (lv_at hl 0 rfl) ?_
        refine lv_iconst (v := 1) hx hb dX12_isForce_60 (by decide) ?_
        refine lv_iadd hx hb dX12_isForce_61 ?_
        refine lv_topi (fun z46 ez46 => ?_)
        have iz46 : z46.toInt = z38.toInt + 1 := zi_add ez46 rfl rfl (by omega) (by omega)
        refine va_iald hx hb hK hP q34 0 eq34 rfl (vp_in_iff.mpr ⟨by omega, by omega⟩) dX12_isForce_62 ?_
        refine lv_topi (fun z47 ez47 => ?_)
        refine lv_i2l hx hb dX12_isForce_63 rfl ?_
        refine pz_calli (va_runS (As := [.long v.toInt64, .long z45.toInt64, .long z47.toInt64]) (rest := []) ⟨hx, hb, hml, hown, hts⟩ (t_X12_in l dC dI _ v.toInt64 z45.toInt64 z47.toInt64 (v.toInt) (z45.toInt) (z47.toInt) (Int32.toInt_toInt64 v) (Int32.toInt_toInt64 z45) (Int32.toInt_toInt64 z47)) (va_cwS 3 hts gX12_isForce_X12_in rfl rfl rfl pd_X12_in ⟨Nat.le_of_ble_eq_true rfl, Nat.le_of_ble_eq_true rfl⟩) ⟨pz_blind, pz_pre pz_P0 (hK.sub (tys' := []) [] rfl) (pz_D0 (A := fun _ => True)) hN⟩ rfl rfl hl.1 rfl (lv_room (Nat.le_of_ble_eq_true rfl)) dX12_isForce_64 ⟨Nat.le_of_ble_eq_true rfl, Nat.le_of_ble_eq_true rfl⟩) (fun r48 hw49 => ?_)
        obtain ⟨hw49r, hw49p⟩ := hw49
        refine lv_if_eq (tgt := 74) hx hb dX12_isForce_67 (by decide) (fun c50 => ?_) (fun c50 => ?_)
        · have ic50 : r48.toInt = 0 := zi_eq rfl rfl c50
          refine lv_iconst (v := 0) hx hb dX12_isForce_74 (by decide) ?_
          refine lv_istore_n (lv' := [(3, .int 0), (5, .int z38), (4, .int w28), (0, .ref h0), (1, .int v), (2, .int u)]) hx hb dX12_isForce_75 rfl hl (by decide) rfl (fun ls hl => ?_)
          obtain ⟨z51, ez51⟩ : ∃ y : Int32, y = w28 + 1 := ⟨_, rfl⟩
          refine lv_iinc (v := z51) (lv' := [(4, .int z51), (3, .int 0), (5, .int z38), (0, .ref h0), (1, .int v), (2, .int u)]) hx hb dX12_isForce_76 hl (k := 2) rfl (by rw [ez51]; rfl) (by decide) rfl (fun ls hl => ?_)
          have iz51 : z51.toInt = w28.toInt + 1 := zi_add ez51 rfl rfl (by omega) (by omega)
          refine lv_goto (tgt := 5) hx hb dX12_isForce_79 (by decide) ?_
          exact ih30 _ _ _ _ (by rw [hn31]; omega) ⟨z51, 0, rfl, (by have : (0 : Int32).toInt = 0 := rfl; omega), (by have : (0 : Int32).toInt = 0 := rfl; omega), rfl, rfl, lv_sub hl [0, 1, 3, 4, 5] rfl⟩
        · have ic50 : r48.toInt ≠ 0 := zi_eqf rfl rfl c50
          replace ic50 : 1 ≤ r48.toInt := by omega
          have p52 : (z45.toInt) ≤ (v.toInt) ∧ (v.toInt) ≤ (z47.toInt) := (tp_cond.yes hw49p) (by omega)
          refine lv_iconst (v := 1) hx hb dX12_isForce_70 (by decide) ?_
          refine lv_goto (tgt := 75) hx hb dX12_isForce_71 (by decide) ?_
          refine lv_istore_n (lv' := [(3, .int 1), (5, .int z38), (4, .int w28), (0, .ref h0), (1, .int v), (2, .int u)]) hx hb dX12_isForce_75 rfl hl (by decide) rfl (fun ls hl => ?_)
          obtain ⟨z53, ez53⟩ : ∃ y : Int32, y = w28 + 1 := ⟨_, rfl⟩
          refine lv_iinc (v := z53) (lv' := [(4, .int z53), (3, .int 1), (5, .int z38), (0, .ref h0), (1, .int v), (2, .int u)]) hx hb dX12_isForce_76 hl (k := 2) rfl (by rw [ez53]; rfl) (by decide) rfl (fun ls hl => ?_)
          have iz53 : z53.toInt = w28.toInt + 1 := zi_add ez53 rfl rfl (by omega) (by omega)
          refine lv_goto (tgt := 5) hx hb dX12_isForce_79 (by decide) ?_
          exact ih30 _ _ _ _ (by rw [hn31]; omega) ⟨z53, 1, rfl, (by have : (1 : Int32).toInt = 1 := rfl; omega), (by have : (1 : Int32).toInt = 1 := rfl; omega), rfl, rfl, lv_sub hl [0, 1, 3, 4, 5] rfl⟩
set_option maxHeartbeats 4000000 in
set_option maxRecDepth 100000 in
theorem t_X12_of (l : Launch) (dC : Nat → ClassId) (dI : Nat → Nat → Nat) (sz : Nat) (κ : Nat → ClassId) (τ ν : Nat → Nat) (ρ : Nat → Nat → Nat) (L : List Nat) (f : Nat → va_E) (hG : tp_G τ ν ρ L) (hT : tp_T (mo_O κ) κ τ ν ρ f) (h0 : Nat) (v : Int32) (u : Int32) (ht_h0 : τ h0 = 13) (hJ : mo_RI (-1) 0 (mo_R (mo_i (f (ρ h0 2))))) : Met l yX12_of wqX12_of ({ frames := 4, cells := 0, slots := 0, locals := 1200 }) (va_Pc [.ref h0, .int v, .int u] (pz_B dC dI (tp_K κ) (va_pl L f) sz)) (va_Qi (fun (r : Int32) (f1 : Nat → va_E) => tp_T (mo_O κ) κ τ ν ρ f1 ∧ tp_F τ [13] f f1 ∧ True ∧ True) (fun (f1 : Nat → va_E) (t : State) => pz_E dC dI (tp_K κ) (va_A (va_pl L f) sz) (va_pl L f1) t) (va_A (va_pl L f) sz)) 0 0 (va_A (va_pl L f) sz) := by
  refine Met.ofW (cc := cX12_of) (maxL := 4) (ret := some .int) (by decide) rfl ?_
  intro p e s m args below meth c s₁ B hml hv
  obtain ⟨rfl, hsz, hP, hK, hD0, hN⟩ := hv
  have hx := B.exec
  have hb := B.bytes
  have hr := B.returns
  have hts := fun (w : Cond) (h : w ∈ WALL) => atoms_spec (ws := wqX12_of) B.pre w (List.mem_cons_of_mem _ h)
  have hown : s.vm.findClass RX12 = some m.cls := findClass_of_methodNamed B.named
  have hlocks := B.notSynchronized
  subst hsz
  have hD := hD0.self (sz := s.heap.size)
  generalize hAe : va_A (va_pl L f) s.heap.size = A at hD ⊢
  have hA : ∀ q : Nat, s.heap.size ≤ q → A q := fun q h => by rw [← hAe]; exact Or.inr h
  have hS : va_S A s.heap s.heap [] := va_S.rf
  have hR : tp_F τ [13] f f := tp_F.rf
  have hl := lv_entry ([.ref h0, .int v, .int u]) (n := 4) (Nat.le_of_ble_eq_true rfl)
  rw [lg_entry_eq]
  generalize (lg_sl ([.ref h0, .int v, .int u]) ++ List.replicate (4 - (lg_sl ([.ref h0, .int v, .int u])).length) Slot.unset).toArray = ls at hl ⊢
  have hl : lv_has ls 4 [(0, .ref h0), (1, .int v), (2, .int u)] := hl
  refine tgk_13 hG ht_h0 (fun y1 y2 y3 y4 y5 y6 y7 y8 y9 y10 y11 y12 y13 y14 y15 y16 y17 y18 y19 y20 y21 y22 y23 y24 y25 => ?_)
  refine tpk_32 hT y1 (fun g27 hf_o26 => ?_)
  have hI : mo_RI (-1) 0 (mo_R g27) := by have q9 := hJ; rw [hf_o26, mo_i1] at q9; exact q9
  refine lv_aload_n hx hb dX12_of_0 rfl (lv_at hl 0 rfl) ?_
  refine lv_iconst (v := 0) hx hb dX12_of_1 (by decide) ?_
  refine tpk_13 hT ht_h0 (fun o28_x0 o28_x1 o28_x7 o28_x9 o28_x10 o28_x11 o28_x12 o28_x13 o28_x14 o28_x15 o28_x16 o28_x17 o28_x18 o28_x19 o28_x20 o28_x22 o28_x25 o28_x28 o28_x29 o28_x32 o28_x33 o28_x34 o28_x35 o28_x36 o28_x37 o28_x38 o28_x47 o28_x48 hf_o28 ro28_0 ro28_1 ro28_2 ro28_3 ro28_4 ro28_5 ro28_6 ro28_7 ro28_8 ro28_9 ro28_10 ro28_11 ro28_12 ro28_13 => ?_)
  refine tpk_pos (tp_in hG ht_h0 (by decide)) hf_o28 (fun q29 eq29 => ?_)
  refine va_put (D := (dC, dI)) (ci := 12) (v := .int 0) (ty := .int) (C := RX12) (T := TX12) (N := 53) hx hb hts hfX12 tyX12 tyX12_ok nmX12 hown hK hP hD hS q29 eq29 rfl 0 (by decide) (hts (.fieldLink RX12 91 "ColdShipsModel" "thrown" "I") wa_209) (fun _ h9 => h9) rfl (tyX12_ok 0 (by decide)) rfl rfl (Nat.le_of_ble_eq_true rfl) dX12_of_2 (tp_k (.inr (12, [.int 0, .int o28_x1, .ref (ρ h0 2), .ref (ρ h0 3), .ref (ρ h0 4), .ref (ρ h0 5), .ref (ρ h0 6), .int o28_x7, .ref (ρ h0 8), .int o28_x9, .int o28_x10, .int o28_x11, .int o28_x12, .long o28_x13, .int o28_x14, .int o28_x15, .int o28_x16, .int o28_x17, .int o28_x18, .int o28_x19, .int o28_x20, .ref (ρ h0 21), .int o28_x22, .ref (ρ h0 23), .ref (ρ h0 24), .int o28_x25, .ref (ρ h0 26), .ref (ρ h0 27), .int o28_x28, .int o28_x29, .ref (ρ h0 30), .ref (ρ h0 31), .int o28_x32, .long o28_x33, .long o28_x34, .long o28_x35, .int o28_x36, .int o28_x37, .int o28_x38, .ref (ρ h0 39), .ref (ρ h0 40), .ref (ρ h0 41), .ref (ρ h0 42), .ref (ρ h0 43), .ref (ρ h0 44), .ref (ρ h0 45), .ref (ρ h0 46), .int o28_x47, .int o28_x48, .ref (ρ h0 49), .ref (ρ h0 50), .ref (ρ h0 51), .ref (ρ h0 52)])) hD (tp_in hG ht_h0 (by decide)) eq29 (fun f30 H locs hP hD hS g32 k31 => ?_))
  have hT := hT.up ht_h0 g32 k31 ⟨_, _, _, _, _, _, _, _, _, _, _, _, _, _, _, _, _, _, _, _, _, _, _, _, _, _, _, _, rfl, ro28_0, ro28_1, ro28_2, ro28_3, ro28_4, ro28_5, ro28_6, ro28_7, ro28_8, ro28_9, ro28_10, ro28_11, ro28_12, ro28_13⟩
  have hR := hR.up ht_h0 (by decide) k31
  refine lv_aload_n hx hb dX12_of_5 rfl (lv_at hl 0 rfl) ?_
  refine lv_iload_n hx hb dX12_of_6 rfl (lv_at hl 1 rfl) ?_
  have hf_33 : f30 (ρ h0 2) = .inl (κ 0, 12967, .inl g27) := (k31 _ (tp_ne y1 ht_h0 (by decide))).trans hf_o26
  refine tpk_pos (tp_in hG ht_h0 (by decide)) g32 (fun q34 eq34 => ?_)
  refine pz_calli (va_runV (As := [.int v]) (rest := []) ⟨hx, hb, hml, hown, hts⟩ (t_X12_isShip l dC dI _ κ τ ν ρ L f30 hG hT h0 v (-1) 0 ht_h0 (by omega) (by rw [hf_33, mo_i1]; exact hI)) (cwV 1 hts gX12_of_X12_isShip rfl rfl rfl ⟨rfl, pd_X12_isShip⟩ ⟨Nat.le_of_ble_eq_true rfl, Nat.le_of_ble_eq_true rfl⟩) ⟨pz_blind, va_recv hK hP (ci := 12) (q0 := q34) rfl eq34, pz_pre hP hK hD hN⟩ rfl rfl hl.1 rfl (lv_room (Nat.le_of_ble_eq_true rfl)) dX12_of_7 ⟨Nat.le_of_ble_eq_true rfl, Nat.le_of_ble_eq_true rfl⟩) (fun r35 hw36 => ?_)
  obtain ⟨hw36r, hw36p⟩ := hw36
  have := hI.k1
  rw [hf_33, mo_i1] at hw36p
  refine lv_if_ne (tgt := 15) hx hb dX12_of_10 (by decide) (fun c37 => ?_) (fun c37 => ?_)
  · have ic37 : r35.toInt ≠ 0 := zi_ne rfl rfl c37
    replace ic37 : 1 ≤ r35.toInt := by omega
    have p38 : 0 ≤ v.toInt ∧ v.toInt < mo_R g27 1 := (tp_cond.yes hw36p) (by omega)
    refine lv_iload_n hx hb dX12_of_15 rfl (lv_at hl 1 rfl) ?_
    refine pz_calli (va_runS (As := [.int v]) (rest := []) ⟨hx, hb, hml, hown, hts⟩ (t_X12_shipAt l dC dI _ v (v.toInt) (by omega) rfl) (va_cwS 1 hts gX12_of_X12_shipAt rfl rfl rfl pd_X12_shipAt ⟨Nat.le_of_ble_eq_true rfl, Nat.le_of_ble_eq_true rfl⟩) ⟨pz_blind, pz_pre pz_P0 (hK.sub (tys' := []) [] rfl) (pz_D0 (A := fun _ => True)) hN⟩ rfl rfl hl.1 rfl (lv_room (Nat.le_of_ble_eq_true rfl)) dX12_of_16 ⟨Nat.le_of_ble_eq_true rfl, Nat.le_of_ble_eq_true rfl⟩) (fun r39 hw40 => ?_)
    obtain ⟨hw40r, hw40p⟩ := hw40
    refine lv_istore_n (lv' := [(3, .int r39), (0, .ref h0), (1, .int v), (2, .int u)]) hx hb dX12_of_19 rfl hl (by decide) rfl (fun ls hl => ?_)
    refine lv_iload_n hx hb dX12_of_20 rfl (lv_at hl 3 rfl) ?_
    rcases zi_sw u 0 9 with h41 | h41
    · refine lv_tableOut (tgt := 164) hx hb dX12_of_21 h41 (by decide) ?_
      refine lv_iconst (v := (-1)) hx hb dX12_of_164 (by decide) ?_
      exact W.iret (v := (-1)) hx hb hr (fun t ht hW => ⟨⟨(-1), f30, rfl, ⟨hT, hR, trivial, trivial⟩, by rw [ht]; exact hP, va_K.moved hW.alike hK, hD⟩, hS.F ht⟩) hS.2.2 dX12_of_165
    · rcases (show u.toInt = 0 ∨ u.toInt = 1 ∨ u.toInt = 2 ∨ u.toInt = 3 ∨ u.toInt = 4 ∨ u.toInt = 5 ∨ u.toInt = 6 ∨ u.toInt = 7 ∨ u.toInt = 8 ∨ u.toInt = 9 by omega) with h41k | h41k | h41k | h41k | h41k | h41k | h41k | h41k | h41k | h41k
      · refine lv_tableIn (tgt := 76) hx hb dX12_of_21 (by omega) (by omega) (by rw [h41k]; rfl) (by decide) ?_
        refine lv_aload_n hx hb dX12_of_76 rfl (lv_at hl 1 rfl) ?_
        refine va_get (D := (dC, dI)) (ci := 12) (v := .ref (ρ h0 2)) (C := RX12) (T := TX12) (N := 53) hx hb hts hfX12 hown hK hP q34 eq34 rfl 2 (by decide) (hts (.fieldLink RX12 7 "ColdShipsModel" "row" "[I") wa_148) (fun _ h9 => h9) rfl dX12_of_77 ?_
        refine lv_iload_n hx hb dX12_of_80 rfl (lv_at hl 0 rfl) ?_
        refine lv_iconst (v := 0) hx hb dX12_of_81 (by decide) ?_
        refine lv_iadd hx hb dX12_of_82 ?_
        refine lv_topi (fun z42 ez42 => ?_)
        have iz42 : z42.toInt = r39.toInt + 0 := zi_add ez42 rfl rfl (by omega) (by omega)
        refine tpk_pos (tp_in hG y1 (by decide)) hf_33 (fun q43 eq43 => ?_)
        refine va_iald hx hb hK hP q43 0 eq43 rfl (vp_in_iff.mpr ⟨by omega, by omega⟩) dX12_of_83 ?_
        refine lv_topi (fun z44 ez44 => ?_)
        have jz44 : z44.toInt = mo_R g27 (547 + 84 * v.toInt + 0) := mo_rd ez44 (by omega)
        have kz44 := hI.SA (s := v.toInt) (by omega) (by omega)
        exact W.iret (v := z44) hx hb hr (fun t ht hW => ⟨⟨z44, f30, rfl, ⟨hT, hR, trivial, trivial⟩, by rw [ht]; exact hP, va_K.moved hW.alike hK, hD⟩, hS.F ht⟩) hS.2.2 dX12_of_84
      · refine lv_tableIn (tgt := 85) hx hb dX12_of_21 (by omega) (by omega) (by rw [h41k]; rfl) (by decide) ?_
        refine lv_aload_n hx hb dX12_of_85 rfl (lv_at hl 1 rfl) ?_
        refine va_get (D := (dC, dI)) (ci := 12) (v := .ref (ρ h0 2)) (C := RX12) (T := TX12) (N := 53) hx hb hts hfX12 hown hK hP q34 eq34 rfl 2 (by decide) (hts (.fieldLink RX12 7 "ColdShipsModel" "row" "[I") wa_148) (fun _ h9 => h9) rfl dX12_of_86 ?_
        refine lv_iload_n hx hb dX12_of_89 rfl (lv_at hl 0 rfl) ?_
        refine lv_iconst (v := 1) hx hb dX12_of_90 (by decide) ?_
        refine lv_iadd hx hb dX12_of_91 ?_
        refine lv_topi (fun z45 ez45 => ?_)
        have iz45 : z45.toInt = r39.toInt + 1 := zi_add ez45 rfl rfl (by omega) (by omega)
        refine tpk_pos (tp_in hG y1 (by decide)) hf_33 (fun q46 eq46 => ?_)
        refine va_iald hx hb hK hP q46 0 eq46 rfl (vp_in_iff.mpr ⟨by omega, by omega⟩) dX12_of_92 ?_
        refine lv_topi (fun z47 ez47 => ?_)
        exact W.iret (v := z47) hx hb hr (fun t ht hW => ⟨⟨z47, f30, rfl, ⟨hT, hR, trivial, trivial⟩, by rw [ht]; exact hP, va_K.moved hW.alike hK, hD⟩, hS.F ht⟩) hS.2.2 dX12_of_93
      · refine lv_tableIn (tgt := 94) hx hb dX12_of_21 (by omega) (by omega) (by rw [h41k]; rfl) (by decide) ?_
        refine lv_aload_n hx hb dX12_of_94 rfl (lv_at hl 1 rfl) ?_
        refine va_get (D := (dC, dI)) (ci := 12) (v := .ref (ρ h0 2)) (C := RX12) (T := TX12) (N := 53) hx hb hts hfX12 hown hK hP q34 eq34 rfl 2 (by decide) (hts (.fieldLink RX12 7 "ColdShipsModel" "row" "[I") wa_148) (fun _ h9 => h9) rfl dX12_of_95 ?_
        refine lv_iload_n hx hb dX12_of_98 rfl (lv_at hl 0 rfl) ?_
        refine lv_iconst (v := 4) hx hb dX12_of_99 (by decide) ?_
        refine lv_iadd hx hb dX12_of_100 ?_
        refine lv_topi (fun z48 ez48 => ?_)
        have iz48 : z48.toInt = r39.toInt + 4 := zi_add ez48 rfl rfl (by omega) (by omega)
        refine tpk_pos (tp_in hG y1 (by decide)) hf_33 (fun q49 eq49 => ?_)
        refine va_iald hx hb hK hP q49 0 eq49 rfl (vp_in_iff.mpr ⟨by omega, by omega⟩) dX12_of_101 ?_
        refine lv_topi (fun z50 ez50 => ?_)
        have := hI.GC (s := v.toInt) (by omega) (by omega)
        have jz50 : z50.toInt = mo_R g27 (547 + 84 * v.toInt + 4) := mo_rd ez50 (by omega)
        have kz50 := hI.GG (s := v.toInt) (by omega) (by omega)
        exact W.iret (v := z50) hx hb hr (fun t ht hW => ⟨⟨z50, f30, rfl, ⟨hT, hR, trivial, trivial⟩, by rw [ht]; exact hP, va_K.moved hW.alike hK, hD⟩, hS.F ht⟩) hS.2.2 dX12_of_102
      · refine lv_tableIn (tgt := 103) hx hb dX12_of_21 (by omega) (by omega) (by rw [h41k]; rfl) (by decide) ?_
        refine lv_aload_n hx hb dX12_of_103 rfl (lv_at hl 1 rfl) ?_
        refine va_get (D := (dC, dI)) (ci := 12) (v := .ref (ρ h0 2)) (C := RX12) (T := TX12) (N := 53) hx hb hts hfX12 hown hK hP q34 eq34 rfl 2 (by decide) (hts (.fieldLink RX12 7 "ColdShipsModel" "row" "[I") wa_148) (fun _ h9 => h9) rfl dX12_of_104 ?_
        refine lv_iload_n hx hb dX12_of_107 rfl (lv_at hl 0 rfl) ?_
        refine lv_iconst (v := 5) hx hb dX12_of_108 (by decide) ?_
        refine lv_iadd hx hb dX12_of_109 ?_
        refine lv_topi (fun z51 ez51 => ?_)
        have iz51 : z51.toInt = r39.toInt + 5 := zi_add ez51 rfl rfl (by omega) (by omega)
        refine tpk_pos (tp_in hG y1 (by decide)) hf_33 (fun q52 eq52 => ?_)
        refine va_iald hx hb hK hP q52 0 eq52 rfl (vp_in_iff.mpr ⟨by omega, by omega⟩) dX12_of_110 ?_
        refine lv_topi (fun z53 ez53 => ?_)
        have jz53 : z53.toInt = mo_R g27 (547 + 84 * v.toInt + 5) := mo_rd ez53 (by omega)
        have kz53 := hI.V (s := v.toInt) (by omega) (by omega)
        exact W.iret (v := z53) hx hb hr (fun t ht hW => ⟨⟨z53, f30, rfl, ⟨hT, hR, trivial, trivial⟩, by rw [ht]; exact hP, va_K.moved hW.alike hK, hD⟩, hS.F ht⟩) hS.2.2 dX12_of_111
      · refine lv_tableIn (tgt := 112) hx hb dX12_of_21 (by omega) (by omega) (by rw [h41k]; rfl) (by decide) ?_
        refine lv_aload_n hx hb dX12_of_112 rfl (lv_at hl 1 rfl) ?_
        refine va_get (D := (dC, dI)) (ci := 12) (v := .ref (ρ h0 2)) (C := RX12) (T := TX12) (N := 53) hx hb hts hfX12 hown hK hP q34 eq34 rfl 2 (by decide) (hts (.fieldLink RX12 7 "ColdShipsModel" "row" "[I") wa_148) (fun _ h9 => h9) rfl dX12_of_113 ?_
        refine lv_iload_n hx hb dX12_of_116 rfl (lv_at hl 0 rfl) ?_
        refine lv_bipush (v := 6) hx hb dX12_of_117 (by decide) ?_
        refine lv_iadd hx hb dX12_of_119 ?_
        refine lv_topi (fun z54 ez54 => ?_)
        have iz54 : z54.toInt = r39.toInt + 6 := zi_add ez54 rfl rfl (by omega) (by omega)
        refine tpk_pos (tp_in hG y1 (by decide)) hf_33 (fun q55 eq55 => ?_)
        refine va_iald hx hb hK hP q55 0 eq55 rfl (vp_in_iff.mpr ⟨by omega, by omega⟩) dX12_of_120 ?_
        refine lv_topi (fun z56 ez56 => ?_)
        exact W.iret (v := z56) hx hb hr (fun t ht hW => ⟨⟨z56, f30, rfl, ⟨hT, hR, trivial, trivial⟩, by rw [ht]; exact hP, va_K.moved hW.alike hK, hD⟩, hS.F ht⟩) hS.2.2 dX12_of_121
      · refine lv_tableIn (tgt := 122) hx hb dX12_of_21 (by omega) (by omega) (by rw [h41k]; rfl) (by decide) ?_
        refine lv_aload_n hx hb dX12_of_122 rfl (lv_at hl 1 rfl) ?_
        refine lv_iload_n hx hb dX12_of_123 rfl (lv_at hl 0 rfl) ?_
        refine pz_calli (va_runV (As := [.int r39]) (rest := []) ⟨hx, hb, hml, hown, hts⟩ (t_X12_pressOf l dC dI _ κ τ ν ρ L f30 hG hT h0 r39 (-1) 0 v.toInt ht_h0 (by omega) (by omega) (by omega) (by rw [hf_33, mo_i1]; exact hI) (by first | (simp only [hf_33, hf_o26, mo_i1]; omega) | (simp only [hf_33, hf_o26, mo_i1]; trivial) | (simp only [hf_33, hf_o26, mo_i1]; done) | omega)) (cwV 1 hts gX12_of_X12_pressOf rfl rfl rfl ⟨rfl, pd_X12_pressOf⟩ ⟨Nat.le_of_ble_eq_true rfl, Nat.le_of_ble_eq_true rfl⟩) ⟨pz_blind, va_recv hK hP (ci := 12) (q0 := q34) rfl eq34, pz_pre hP hK hD hN⟩ rfl rfl hl.1 rfl (lv_room (Nat.le_of_ble_eq_true rfl)) dX12_of_124 ⟨Nat.le_of_ble_eq_true rfl, Nat.le_of_ble_eq_true rfl⟩) (fun r57 hw58 => ?_)
        obtain ⟨hw58r, hw58p⟩ := hw58
        exact W.iret (v := r57) hx hb hr (fun t ht hW => ⟨⟨r57, f30, rfl, ⟨hT, hR, trivial, trivial⟩, by rw [ht]; exact hP, va_K.moved hW.alike hK, hD⟩, hS.F ht⟩) hS.2.2 dX12_of_127
      · refine lv_tableIn (tgt := 128) hx hb dX12_of_21 (by omega) (by omega) (by rw [h41k]; rfl) (by decide) ?_
        refine lv_aload_n hx hb dX12_of_128 rfl (lv_at hl 1 rfl) ?_
        refine va_get (D := (dC, dI)) (ci := 12) (v := .ref (ρ h0 2)) (C := RX12) (T := TX12) (N := 53) hx hb hts hfX12 hown hK hP q34 eq34 rfl 2 (by decide) (hts (.fieldLink RX12 7 "ColdShipsModel" "row" "[I") wa_148) (fun _ h9 => h9) rfl dX12_of_129 ?_
        refine lv_iload_n hx hb dX12_of_132 rfl (lv_at hl 0 rfl) ?_
        refine lv_bipush (v := 10) hx hb dX12_of_133 (by decide) ?_
        refine lv_iadd hx hb dX12_of_135 ?_
        refine lv_topi (fun z59 ez59 => ?_)
        have iz59 : z59.toInt = r39.toInt + 10 := zi_add ez59 rfl rfl (by omega) (by omega)
        refine tpk_pos (tp_in hG y1 (by decide)) hf_33 (fun q60 eq60 => ?_)
        refine va_iald hx hb hK hP q60 0 eq60 rfl (vp_in_iff.mpr ⟨by omega, by omega⟩) dX12_of_136 ?_
        refine lv_topi (fun z61 ez61 => ?_)
        have jz61 : z61.toInt = mo_R g27 (547 + 84 * v.toInt + 10) := mo_rd ez61 (by omega)
        have kz61 := hI.SO (s := v.toInt) (by omega) (by omega)
        exact W.iret (v := z61) hx hb hr (fun t ht hW => ⟨⟨z61, f30, rfl, ⟨hT, hR, trivial, trivial⟩, by rw [ht]; exact hP, va_K.moved hW.alike hK, hD⟩, hS.F ht⟩) hS.2.2 dX12_of_137
      · refine lv_tableIn (tgt := 138) hx hb dX12_of_21 (by omega) (by omega) (by rw [h41k]; rfl) (by decide) ?_
        refine lv_aload_n hx hb dX12_of_138 rfl (lv_at hl 1 rfl) ?_
        refine va_get (D := (dC, dI)) (ci := 12) (v := .ref (ρ h0 2)) (C := RX12) (T := TX12) (N := 53) hx hb hts hfX12 hown hK hP q34 eq34 rfl 2 (by decide) (hts (.fieldLink RX12 7 "ColdShipsModel" "row" "[I") wa_148) (fun _ h9 => h9) rfl dX12_of_139 ?_
        refine lv_iload_n hx hb dX12_of_142 rfl (lv_at hl 0 rfl) ?_
        refine lv_bipush (v := 11) hx hb dX12_of_143 (by decide) ?_
        refine lv_iadd hx hb dX12_of_145 ?_
        refine lv_topi (fun z62 ez62 => ?_)
        have iz62 : z62.toInt = r39.toInt + 11 := zi_add ez62 rfl rfl (by omega) (by omega)
        refine tpk_pos (tp_in hG y1 (by decide)) hf_33 (fun q63 eq63 => ?_)
        refine va_iald hx hb hK hP q63 0 eq63 rfl (vp_in_iff.mpr ⟨by omega, by omega⟩) dX12_of_146 ?_
        refine lv_topi (fun z64 ez64 => ?_)
        exact W.iret (v := z64) hx hb hr (fun t ht hW => ⟨⟨z64, f30, rfl, ⟨hT, hR, trivial, trivial⟩, by rw [ht]; exact hP, va_K.moved hW.alike hK, hD⟩, hS.F ht⟩) hS.2.2 dX12_of_147
      · refine lv_tableIn (tgt := 148) hx hb dX12_of_21 (by omega) (by omega) (by rw [h41k]; rfl) (by decide) ?_
        refine lv_aload_n hx hb dX12_of_148 rfl (lv_at hl 1 rfl) ?_
        refine lv_iload_n hx hb dX12_of_149 rfl (lv_at hl 0 rfl) ?_
        refine pz_calli (va_runV (As := [.int r39]) (rest := []) ⟨hx, hb, hml, hown, hts⟩ (t_X12_draftOf l dC dI _ κ τ ν ρ L f30 hG hT h0 r39 (-1) 0 v.toInt ht_h0 (by omega) (by omega) (by omega) (by rw [hf_33, mo_i1]; exact hI) (by first | (simp only [hf_33, hf_o26, mo_i1]; omega) | (simp only [hf_33, hf_o26, mo_i1]; trivial) | (simp only [hf_33, hf_o26, mo_i1]; done) | omega)) (cwV 1 hts gX12_of_X12_draftOf rfl rfl rfl ⟨rfl, pd_X12_draftOf⟩ ⟨Nat.le_of_ble_eq_true rfl, Nat.le_of_ble_eq_true rfl⟩) ⟨pz_blind, va_recv hK hP (ci := 12) (q0 := q34) rfl eq34, pz_pre hP hK hD hN⟩ rfl rfl hl.1 rfl (lv_room (Nat.le_of_ble_eq_true rfl)) dX12_of_150 ⟨Nat.le_of_ble_eq_true rfl, Nat.le_of_ble_eq_true rfl⟩) (fun r65 hw66 => ?_)
        obtain ⟨hw66r, hw66p⟩ := hw66
        exact W.iret (v := r65) hx hb hr (fun t ht hW => ⟨⟨r65, f30, rfl, ⟨hT, hR, trivial, trivial⟩, by rw [ht]; exact hP, va_K.moved hW.alike hK, hD⟩, hS.F ht⟩) hS.2.2 dX12_of_153
      · refine lv_tableIn (tgt := 154) hx hb dX12_of_21 (by omega) (by omega) (by rw [h41k]; rfl) (by decide) ?_
        refine lv_aload_n hx hb dX12_of_154 rfl (lv_at hl 1 rfl) ?_
        refine va_get (D := (dC, dI)) (ci := 12) (v := .ref (ρ h0 2)) (C := RX12) (T := TX12) (N := 53) hx hb hts hfX12 hown hK hP q34 eq34 rfl 2 (by decide) (hts (.fieldLink RX12 7 "ColdShipsModel" "row" "[I") wa_148) (fun _ h9 => h9) rfl dX12_of_155 ?_
        refine lv_iload_n hx hb dX12_of_158 rfl (lv_at hl 0 rfl) ?_
        refine lv_bipush (v := 9) hx hb dX12_of_159 (by decide) ?_
        refine lv_iadd hx hb dX12_of_161 ?_
        refine lv_topi (fun z67 ez67 => ?_)
        have iz67 : z67.toInt = r39.toInt + 9 := zi_add ez67 rfl rfl (by omega) (by omega)
        refine tpk_pos (tp_in hG y1 (by decide)) hf_33 (fun q68 eq68 => ?_)
        refine va_iald hx hb hK hP q68 0 eq68 rfl (vp_in_iff.mpr ⟨by omega, by omega⟩) dX12_of_162 ?_
        refine lv_topi (fun z69 ez69 => ?_)
        exact W.iret (v := z69) hx hb hr (fun t ht hW => ⟨⟨z69, f30, rfl, ⟨hT, hR, trivial, trivial⟩, by rw [ht]; exact hP, va_K.moved hW.alike hK, hD⟩, hS.F ht⟩) hS.2.2 dX12_of_163
  · have ic37 : r35.toInt = 0 := zi_nef rfl rfl c37
    refine lv_iconst (v := (-1)) hx hb dX12_of_13 (by decide) ?_
    exact W.iret (v := (-1)) hx hb hr (fun t ht hW => ⟨⟨(-1), f30, rfl, ⟨hT, hR, trivial, trivial⟩, by rw [ht]; exact hP, va_K.moved hW.alike hK, hD⟩, hS.F ht⟩) hS.2.2 dX12_of_14
set_option maxHeartbeats 4000000 in
set_option maxRecDepth 100000 in
theorem t_X12_part (l : Launch) (dC : Nat → ClassId) (dI : Nat → Nat → Nat) (sz : Nat) (κ : Nat → ClassId) (τ ν : Nat → Nat) (ρ : Nat → Nat → Nat) (L : List Nat) (f : Nat → va_E) (hG : tp_G τ ν ρ L) (hT : tp_T (mo_O κ) κ τ ν ρ f) (h0 : Nat) (v : Int32) (u : Int32) (ht_h0 : τ h0 = 13) (hJ : mo_RI (-1) 0 (mo_R (mo_i (f (ρ h0 2))))) : Met l yX12_part wqX12_part ({ frames := 4, cells := 0, slots := 0, locals := 1200 }) (va_Pc [.ref h0, .int v, .int u] (pz_B dC dI (tp_K κ) (va_pl L f) sz)) (va_Qi (fun (r : Int32) (f1 : Nat → va_E) => tp_T (mo_O κ) κ τ ν ρ f1 ∧ tp_F τ [13] f f1 ∧ True ∧ True) (fun (f1 : Nat → va_E) (t : State) => pz_E dC dI (tp_K κ) (va_A (va_pl L f) sz) (va_pl L f1) t) (va_A (va_pl L f) sz)) 0 0 (va_A (va_pl L f) sz) := by
  refine Met.ofW (cc := cX12_part) (maxL := 3) (ret := some .int) (by decide) rfl ?_
  intro p e s m args below meth c s₁ B hml hv
  obtain ⟨rfl, hsz, hP, hK, hD0, hN⟩ := hv
  have hx := B.exec
  have hb := B.bytes
  have hr := B.returns
  have hts := fun (w : Cond) (h : w ∈ WALL) => atoms_spec (ws := wqX12_part) B.pre w (List.mem_cons_of_mem _ h)
  have hown : s.vm.findClass RX12 = some m.cls := findClass_of_methodNamed B.named
  have hlocks := B.notSynchronized
  subst hsz
  have hD := hD0.self (sz := s.heap.size)
  generalize hAe : va_A (va_pl L f) s.heap.size = A at hD ⊢
  have hA : ∀ q : Nat, s.heap.size ≤ q → A q := fun q h => by rw [← hAe]; exact Or.inr h
  have hS : va_S A s.heap s.heap [] := va_S.rf
  have hR : tp_F τ [13] f f := tp_F.rf
  have hl := lv_entry ([.ref h0, .int v, .int u]) (n := 3) (Nat.le_of_ble_eq_true rfl)
  rw [lg_entry_eq]
  generalize (lg_sl ([.ref h0, .int v, .int u]) ++ List.replicate (3 - (lg_sl ([.ref h0, .int v, .int u])).length) Slot.unset).toArray = ls at hl ⊢
  have hl : lv_has ls 3 [(0, .ref h0), (1, .int v), (2, .int u)] := hl
  refine tgk_13 hG ht_h0 (fun y1 y2 y3 y4 y5 y6 y7 y8 y9 y10 y11 y12 y13 y14 y15 y16 y17 y18 y19 y20 y21 y22 y23 y24 y25 => ?_)
  refine tpk_32 hT y1 (fun g27 hf_o26 => ?_)
  have hI : mo_RI (-1) 0 (mo_R g27) := by have q9 := hJ; rw [hf_o26, mo_i1] at q9; exact q9
  refine lv_aload_n hx hb dX12_part_0 rfl (lv_at hl 0 rfl) ?_
  refine lv_iconst (v := 0) hx hb dX12_part_1 (by decide) ?_
  refine tpk_13 hT ht_h0 (fun o28_x0 o28_x1 o28_x7 o28_x9 o28_x10 o28_x11 o28_x12 o28_x13 o28_x14 o28_x15 o28_x16 o28_x17 o28_x18 o28_x19 o28_x20 o28_x22 o28_x25 o28_x28 o28_x29 o28_x32 o28_x33 o28_x34 o28_x35 o28_x36 o28_x37 o28_x38 o28_x47 o28_x48 hf_o28 ro28_0 ro28_1 ro28_2 ro28_3 ro28_4 ro28_5 ro28_6 ro28_7 ro28_8 ro28_9 ro28_10 ro28_11 ro28_12 ro28_13 => ?_)
  refine tpk_pos (tp_in hG ht_h0 (by decide)) hf_o28 (fun q29 eq29 => ?_)
  refine va_put (D := (dC, dI)) (ci := 12) (v := .int 0) (ty := .int) (C := RX12) (T := TX12) (N := 53) hx hb hts hfX12 tyX12 tyX12_ok nmX12 hown hK hP hD hS q29 eq29 rfl 0 (by decide) (hts (.fieldLink RX12 91 "ColdShipsModel" "thrown" "I") wa_209) (fun _ h9 => h9) rfl (tyX12_ok 0 (by decide)) rfl rfl (Nat.le_of_ble_eq_true rfl) dX12_part_2 (tp_k (.inr (12, [.int 0, .int o28_x1, .ref (ρ h0 2), .ref (ρ h0 3), .ref (ρ h0 4), .ref (ρ h0 5), .ref (ρ h0 6), .int o28_x7, .ref (ρ h0 8), .int o28_x9, .int o28_x10, .int o28_x11, .int o28_x12, .long o28_x13, .int o28_x14, .int o28_x15, .int o28_x16, .int o28_x17, .int o28_x18, .int o28_x19, .int o28_x20, .ref (ρ h0 21), .int o28_x22, .ref (ρ h0 23), .ref (ρ h0 24), .int o28_x25, .ref (ρ h0 26), .ref (ρ h0 27), .int o28_x28, .int o28_x29, .ref (ρ h0 30), .ref (ρ h0 31), .int o28_x32, .long o28_x33, .long o28_x34, .long o28_x35, .int o28_x36, .int o28_x37, .int o28_x38, .ref (ρ h0 39), .ref (ρ h0 40), .ref (ρ h0 41), .ref (ρ h0 42), .ref (ρ h0 43), .ref (ρ h0 44), .ref (ρ h0 45), .ref (ρ h0 46), .int o28_x47, .int o28_x48, .ref (ρ h0 49), .ref (ρ h0 50), .ref (ρ h0 51), .ref (ρ h0 52)])) hD (tp_in hG ht_h0 (by decide)) eq29 (fun f30 H locs hP hD hS g32 k31 => ?_))
  have hT := hT.up ht_h0 g32 k31 ⟨_, _, _, _, _, _, _, _, _, _, _, _, _, _, _, _, _, _, _, _, _, _, _, _, _, _, _, _, rfl, ro28_0, ro28_1, ro28_2, ro28_3, ro28_4, ro28_5, ro28_6, ro28_7, ro28_8, ro28_9, ro28_10, ro28_11, ro28_12, ro28_13⟩
  have hR := hR.up ht_h0 (by decide) k31
  refine lv_aload_n hx hb dX12_part_5 rfl (lv_at hl 0 rfl) ?_
  refine lv_iload_n hx hb dX12_part_6 rfl (lv_at hl 1 rfl) ?_
  have hf_33 : f30 (ρ h0 2) = .inl (κ 0, 12967, .inl g27) := (k31 _ (tp_ne y1 ht_h0 (by decide))).trans hf_o26
  refine tpk_pos (tp_in hG ht_h0 (by decide)) g32 (fun q34 eq34 => ?_)
  refine pz_calli (va_runV (As := [.int v]) (rest := []) ⟨hx, hb, hml, hown, hts⟩ (t_X12_isShip l dC dI _ κ τ ν ρ L f30 hG hT h0 v (-1) 0 ht_h0 (by omega) (by rw [hf_33, mo_i1]; exact hI)) (cwV 1 hts gX12_part_X12_isShip rfl rfl rfl ⟨rfl, pd_X12_isShip⟩ ⟨Nat.le_of_ble_eq_true rfl, Nat.le_of_ble_eq_true rfl⟩) ⟨pz_blind, va_recv hK hP (ci := 12) (q0 := q34) rfl eq34, pz_pre hP hK hD hN⟩ rfl rfl hl.1 rfl (lv_room (Nat.le_of_ble_eq_true rfl)) dX12_part_7 ⟨Nat.le_of_ble_eq_true rfl, Nat.le_of_ble_eq_true rfl⟩) (fun r35 hw36 => ?_)
  obtain ⟨hw36r, hw36p⟩ := hw36
  have := hI.k1
  rw [hf_33, mo_i1] at hw36p
  refine lv_if_eq (tgt := 38) hx hb dX12_part_10 (by decide) (fun c37 => ?_) (fun c37 => ?_)
  · have ic37 : r35.toInt = 0 := zi_eq rfl rfl c37
    refine lv_iconst (v := (-1)) hx hb dX12_part_38 (by decide) ?_
    exact W.iret (v := (-1)) hx hb hr (fun t ht hW => ⟨⟨(-1), f30, rfl, ⟨hT, hR, trivial, trivial⟩, by rw [ht]; exact hP, va_K.moved hW.alike hK, hD⟩, hS.F ht⟩) hS.2.2 dX12_part_39
  · have ic37 : r35.toInt ≠ 0 := zi_eqf rfl rfl c37
    replace ic37 : 1 ≤ r35.toInt := by omega
    have p38 : 0 ≤ v.toInt ∧ v.toInt < mo_R g27 1 := (tp_cond.yes hw36p) (by omega)
    refine lv_aload_n hx hb dX12_part_13 rfl (lv_at hl 0 rfl) ?_
    refine lv_iload_n hx hb dX12_part_14 rfl (lv_at hl 2 rfl) ?_
    refine pz_calli (va_runV (As := [.int u]) (rest := []) ⟨hx, hb, hml, hown, hts⟩ (t_X12_isTerminal l dC dI _ κ τ ν ρ L f30 hG hT h0 u (-1) 0 ht_h0 (by omega) (by rw [hf_33, mo_i1]; exact hI)) (cwV 1 hts gX12_part_X12_isTerminal rfl rfl rfl ⟨rfl, pd_X12_isTerminal⟩ ⟨Nat.le_of_ble_eq_true rfl, Nat.le_of_ble_eq_true rfl⟩) ⟨pz_blind, va_recv hK hP (ci := 12) (q0 := q34) rfl eq34, pz_pre hP hK hD hN⟩ rfl rfl hl.1 rfl (lv_room (Nat.le_of_ble_eq_true rfl)) dX12_part_15 ⟨Nat.le_of_ble_eq_true rfl, Nat.le_of_ble_eq_true rfl⟩) (fun r39 hw40 => ?_)
    obtain ⟨hw40r, hw40p⟩ := hw40
    have := hI.k0
    rw [hf_33, mo_i1] at hw40p
    refine lv_if_eq (tgt := 38) hx hb dX12_part_18 (by decide) (fun c41 => ?_) (fun c41 => ?_)
    · have ic41 : r39.toInt = 0 := zi_eq rfl rfl c41
      refine lv_iconst (v := (-1)) hx hb dX12_part_38 (by decide) ?_
      exact W.iret (v := (-1)) hx hb hr (fun t ht hW => ⟨⟨(-1), f30, rfl, ⟨hT, hR, trivial, trivial⟩, by rw [ht]; exact hP, va_K.moved hW.alike hK, hD⟩, hS.F ht⟩) hS.2.2 dX12_part_39
    · have ic41 : r39.toInt ≠ 0 := zi_eqf rfl rfl c41
      replace ic41 : 1 ≤ r39.toInt := by omega
      have p42 : 0 ≤ u.toInt ∧ u.toInt < mo_R g27 0 := (tp_cond.yes hw40p) (by omega)
      refine lv_aload_n hx hb dX12_part_21 rfl (lv_at hl 0 rfl) ?_
      refine va_get (D := (dC, dI)) (ci := 12) (v := .ref (ρ h0 2)) (C := RX12) (T := TX12) (N := 53) hx hb hts hfX12 hown hK hP q34 eq34 rfl 2 (by decide) (hts (.fieldLink RX12 7 "ColdShipsModel" "row" "[I") wa_148) (fun _ h9 => h9) rfl dX12_part_22 ?_
      refine lv_iload_n hx hb dX12_part_25 rfl (lv_at hl 1 rfl) ?_
      refine pz_calli (va_runS (As := [.int v]) (rest := [.ref (ρ h0 2)]) ⟨hx, hb, hml, hown, hts⟩ (t_X12_shipAt l dC dI _ v (v.toInt) (by omega) rfl) (va_cwS 1 hts gX12_part_X12_shipAt rfl rfl rfl pd_X12_shipAt ⟨Nat.le_of_ble_eq_true rfl, Nat.le_of_ble_eq_true rfl⟩) ⟨pz_blind, pz_pre pz_P0 (hK.sub (tys' := []) [] rfl) (pz_D0 (A := fun _ => True)) hN⟩ rfl rfl hl.1 rfl (lv_room (Nat.le_of_ble_eq_true rfl)) dX12_part_26 ⟨Nat.le_of_ble_eq_true rfl, Nat.le_of_ble_eq_true rfl⟩) (fun r43 hw44 => ?_)
      obtain ⟨hw44r, hw44p⟩ := hw44
      refine lv_bipush (v := 16) hx hb dX12_part_29 (by decide) ?_
      refine lv_iadd hx hb dX12_part_31 ?_
      refine lv_topi (fun z45 ez45 => ?_)
      have iz45 : z45.toInt = r43.toInt + 16 := zi_add ez45 rfl rfl (by omega) (by omega)
      refine lv_iload_n hx hb dX12_part_32 rfl (lv_at hl 2 rfl) ?_
      refine lv_iadd hx hb dX12_part_33 ?_
      refine lv_topi (fun z46 ez46 => ?_)
      have iz46 : z46.toInt = z45.toInt + u.toInt := zi_add ez46 rfl rfl (by omega) (by omega)
      refine tpk_pos (tp_in hG y1 (by decide)) hf_33 (fun q47 eq47 => ?_)
      refine va_iald hx hb hK hP q47 0 eq47 rfl (vp_in_iff.mpr ⟨by omega, by omega⟩) dX12_part_34 ?_
      refine lv_topi (fun z48 ez48 => ?_)
      refine lv_goto (tgt := 39) hx hb dX12_part_35 (by decide) ?_
      exact W.iret (v := z48) hx hb hr (fun t ht hW => ⟨⟨z48, f30, rfl, ⟨hT, hR, trivial, trivial⟩, by rw [ht]; exact hP, va_K.moved hW.alike hK, hD⟩, hS.F ht⟩) hS.2.2 dX12_part_39
set_option maxHeartbeats 4000000 in
set_option maxRecDepth 100000 in
theorem t_X12_book (l : Launch) (dC : Nat → ClassId) (dI : Nat → Nat → Nat) (sz : Nat) (κ : Nat → ClassId) (τ ν : Nat → Nat) (ρ : Nat → Nat → Nat) (L : List Nat) (f : Nat → va_E) (hG : tp_G τ ν ρ L) (hT : tp_T (mo_O κ) κ τ ν ρ f) (h0 : Nat) (v : Int32) (u : Int32) (ht_h0 : τ h0 = 13) (hJ : mo_RI (-1) 0 (mo_R (mo_i (f (ρ h0 2))))) : Met l yX12_book wqX12_book ({ frames := 4, cells := 0, slots := 0, locals := 1200 }) (va_Pc [.ref h0, .int v, .int u] (pz_B dC dI (tp_K κ) (va_pl L f) sz)) (va_Ql (fun (r : Int64) (f1 : Nat → va_E) => tp_T (mo_O κ) κ τ ν ρ f1 ∧ tp_F τ [13] f f1 ∧ True ∧ True) (fun (f1 : Nat → va_E) (t : State) => pz_E dC dI (tp_K κ) (va_A (va_pl L f) sz) (va_pl L f1) t) (va_A (va_pl L f) sz)) 0 0 (va_A (va_pl L f) sz) := by
  refine Met.ofW (cc := cX12_book) (maxL := 3) (ret := some .long) (by decide) rfl ?_
  intro p e s m args below meth c s₁ B hml hv
  obtain ⟨rfl, hsz, hP, hK, hD0, hN⟩ := hv
  have hx := B.exec
  have hb := B.bytes
  have hr := B.returns
  have hts := fun (w : Cond) (h : w ∈ WALL) => atoms_spec (ws := wqX12_book) B.pre w (List.mem_cons_of_mem _ h)
  have hown : s.vm.findClass RX12 = some m.cls := findClass_of_methodNamed B.named
  have hlocks := B.notSynchronized
  subst hsz
  have hD := hD0.self (sz := s.heap.size)
  generalize hAe : va_A (va_pl L f) s.heap.size = A at hD ⊢
  have hA : ∀ q : Nat, s.heap.size ≤ q → A q := fun q h => by rw [← hAe]; exact Or.inr h
  have hS : va_S A s.heap s.heap [] := va_S.rf
  have hR : tp_F τ [13] f f := tp_F.rf
  have hl := lv_entry ([.ref h0, .int v, .int u]) (n := 3) (Nat.le_of_ble_eq_true rfl)
  rw [lg_entry_eq]
  generalize (lg_sl ([.ref h0, .int v, .int u]) ++ List.replicate (3 - (lg_sl ([.ref h0, .int v, .int u])).length) Slot.unset).toArray = ls at hl ⊢
  have hl : lv_has ls 3 [(0, .ref h0), (1, .int v), (2, .int u)] := hl
  refine tgk_13 hG ht_h0 (fun y1 y2 y3 y4 y5 y6 y7 y8 y9 y10 y11 y12 y13 y14 y15 y16 y17 y18 y19 y20 y21 y22 y23 y24 y25 => ?_)
  refine tpk_32 hT y1 (fun g27 hf_o26 => ?_)
  have hI : mo_RI (-1) 0 (mo_R g27) := by have q9 := hJ; rw [hf_o26, mo_i1] at q9; exact q9
  refine lv_aload_n hx hb dX12_book_0 rfl (lv_at hl 0 rfl) ?_
  refine lv_iconst (v := 0) hx hb dX12_book_1 (by decide) ?_
  refine tpk_13 hT ht_h0 (fun o28_x0 o28_x1 o28_x7 o28_x9 o28_x10 o28_x11 o28_x12 o28_x13 o28_x14 o28_x15 o28_x16 o28_x17 o28_x18 o28_x19 o28_x20 o28_x22 o28_x25 o28_x28 o28_x29 o28_x32 o28_x33 o28_x34 o28_x35 o28_x36 o28_x37 o28_x38 o28_x47 o28_x48 hf_o28 ro28_0 ro28_1 ro28_2 ro28_3 ro28_4 ro28_5 ro28_6 ro28_7 ro28_8 ro28_9 ro28_10 ro28_11 ro28_12 ro28_13 => ?_)
  refine tpk_pos (tp_in hG ht_h0 (by decide)) hf_o28 (fun q29 eq29 => ?_)
  refine va_put (D := (dC, dI)) (ci := 12) (v := .int 0) (ty := .int) (C := RX12) (T := TX12) (N := 53) hx hb hts hfX12 tyX12 tyX12_ok nmX12 hown hK hP hD hS q29 eq29 rfl 0 (by decide) (hts (.fieldLink RX12 91 "ColdShipsModel" "thrown" "I") wa_209) (fun _ h9 => h9) rfl (tyX12_ok 0 (by decide)) rfl rfl (Nat.le_of_ble_eq_true rfl) dX12_book_2 (tp_k (.inr (12, [.int 0, .int o28_x1, .ref (ρ h0 2), .ref (ρ h0 3), .ref (ρ h0 4), .ref (ρ h0 5), .ref (ρ h0 6), .int o28_x7, .ref (ρ h0 8), .int o28_x9, .int o28_x10, .int o28_x11, .int o28_x12, .long o28_x13, .int o28_x14, .int o28_x15, .int o28_x16, .int o28_x17, .int o28_x18, .int o28_x19, .int o28_x20, .ref (ρ h0 21), .int o28_x22, .ref (ρ h0 23), .ref (ρ h0 24), .int o28_x25, .ref (ρ h0 26), .ref (ρ h0 27), .int o28_x28, .int o28_x29, .ref (ρ h0 30), .ref (ρ h0 31), .int o28_x32, .long o28_x33, .long o28_x34, .long o28_x35, .int o28_x36, .int o28_x37, .int o28_x38, .ref (ρ h0 39), .ref (ρ h0 40), .ref (ρ h0 41), .ref (ρ h0 42), .ref (ρ h0 43), .ref (ρ h0 44), .ref (ρ h0 45), .ref (ρ h0 46), .int o28_x47, .int o28_x48, .ref (ρ h0 49), .ref (ρ h0 50), .ref (ρ h0 51), .ref (ρ h0 52)])) hD (tp_in hG ht_h0 (by decide)) eq29 (fun f30 H locs hP hD hS g32 k31 => ?_))
  have hT := hT.up ht_h0 g32 k31 ⟨_, _, _, _, _, _, _, _, _, _, _, _, _, _, _, _, _, _, _, _, _, _, _, _, _, _, _, _, rfl, ro28_0, ro28_1, ro28_2, ro28_3, ro28_4, ro28_5, ro28_6, ro28_7, ro28_8, ro28_9, ro28_10, ro28_11, ro28_12, ro28_13⟩
  have hR := hR.up ht_h0 (by decide) k31
  refine lv_aload_n hx hb dX12_book_5 rfl (lv_at hl 0 rfl) ?_
  refine lv_iload_n hx hb dX12_book_6 rfl (lv_at hl 1 rfl) ?_
  have hf_33 : f30 (ρ h0 2) = .inl (κ 0, 12967, .inl g27) := (k31 _ (tp_ne y1 ht_h0 (by decide))).trans hf_o26
  refine tpk_pos (tp_in hG ht_h0 (by decide)) g32 (fun q34 eq34 => ?_)
  refine pz_calli (va_runV (As := [.int v]) (rest := []) ⟨hx, hb, hml, hown, hts⟩ (t_X12_isShip l dC dI _ κ τ ν ρ L f30 hG hT h0 v (-1) 0 ht_h0 (by omega) (by rw [hf_33, mo_i1]; exact hI)) (cwV 1 hts gX12_book_X12_isShip rfl rfl rfl ⟨rfl, pd_X12_isShip⟩ ⟨Nat.le_of_ble_eq_true rfl, Nat.le_of_ble_eq_true rfl⟩) ⟨pz_blind, va_recv hK hP (ci := 12) (q0 := q34) rfl eq34, pz_pre hP hK hD hN⟩ rfl rfl hl.1 rfl (lv_room (Nat.le_of_ble_eq_true rfl)) dX12_book_7 ⟨Nat.le_of_ble_eq_true rfl, Nat.le_of_ble_eq_true rfl⟩) (fun r35 hw36 => ?_)
  obtain ⟨hw36r, hw36p⟩ := hw36
  have := hI.k1
  rw [hf_33, mo_i1] at hw36p
  refine lv_if_eq (tgt := 43) hx hb dX12_book_10 (by decide) (fun c37 => ?_) (fun c37 => ?_)
  · have ic37 : r35.toInt = 0 := zi_eq rfl rfl c37
    refine lv_ldc2 (own := RX12) (v := (-1)) hx hb hown (hts (.constantLong RX12 158 (-1)) wa_557) dX12_book_43 ?_
    exact W.lret (v := (-1)) hx hb hr (fun t ht hW => ⟨⟨(-1), f30, rfl, ⟨hT, hR, trivial, trivial⟩, by rw [ht]; exact hP, va_K.moved hW.alike hK, hD⟩, hS.F ht⟩) hS.2.2 dX12_book_46
  · have ic37 : r35.toInt ≠ 0 := zi_eqf rfl rfl c37
    replace ic37 : 1 ≤ r35.toInt := by omega
    have p38 : 0 ≤ v.toInt ∧ v.toInt < mo_R g27 1 := (tp_cond.yes hw36p) (by omega)
    refine lv_iload_n hx hb dX12_book_13 rfl (lv_at hl 2 rfl) ?_
    refine lv_i2l hx hb dX12_book_14 rfl ?_
    refine lv_lconst (v := 0) hx hb dX12_book_15 (by decide) ?_
    refine lv_ldc2 (own := RX12) (v := 3) hx hb hown (hts (.constantLong RX12 152 (3)) wa_391) dX12_book_16 ?_
    refine pz_calli (va_runS (As := [.long u.toInt64, .long 0, .long 3]) (rest := []) ⟨hx, hb, hml, hown, hts⟩ (t_X12_in l dC dI _ u.toInt64 (0) (3) (u.toInt) (0) (3) (Int32.toInt_toInt64 u) rfl rfl) (va_cwS 3 hts gX12_book_X12_in rfl rfl rfl pd_X12_in ⟨Nat.le_of_ble_eq_true rfl, Nat.le_of_ble_eq_true rfl⟩) ⟨pz_blind, pz_pre pz_P0 (hK.sub (tys' := []) [] rfl) (pz_D0 (A := fun _ => True)) hN⟩ rfl rfl hl.1 rfl (lv_room (Nat.le_of_ble_eq_true rfl)) dX12_book_19 ⟨Nat.le_of_ble_eq_true rfl, Nat.le_of_ble_eq_true rfl⟩) (fun r39 hw40 => ?_)
    obtain ⟨hw40r, hw40p⟩ := hw40
    refine lv_if_eq (tgt := 43) hx hb dX12_book_22 (by decide) (fun c41 => ?_) (fun c41 => ?_)
    · have ic41 : r39.toInt = 0 := zi_eq rfl rfl c41
      refine lv_ldc2 (own := RX12) (v := (-1)) hx hb hown (hts (.constantLong RX12 158 (-1)) wa_557) dX12_book_43 ?_
      exact W.lret (v := (-1)) hx hb hr (fun t ht hW => ⟨⟨(-1), f30, rfl, ⟨hT, hR, trivial, trivial⟩, by rw [ht]; exact hP, va_K.moved hW.alike hK, hD⟩, hS.F ht⟩) hS.2.2 dX12_book_46
    · have ic41 : r39.toInt ≠ 0 := zi_eqf rfl rfl c41
      replace ic41 : 1 ≤ r39.toInt := by omega
      have p42 : (0) ≤ (u.toInt) ∧ (u.toInt) ≤ (3) := (tp_cond.yes hw40p) (by omega)
      refine lv_aload_n hx hb dX12_book_25 rfl (lv_at hl 0 rfl) ?_
      refine va_get (D := (dC, dI)) (ci := 12) (v := .ref (ρ h0 2)) (C := RX12) (T := TX12) (N := 53) hx hb hts hfX12 hown hK hP q34 eq34 rfl 2 (by decide) (hts (.fieldLink RX12 7 "ColdShipsModel" "row" "[I") wa_148) (fun _ h9 => h9) rfl dX12_book_26 ?_
      refine lv_iload_n hx hb dX12_book_29 rfl (lv_at hl 1 rfl) ?_
      refine pz_calli (va_runS (As := [.int v]) (rest := [.ref (ρ h0 2)]) ⟨hx, hb, hml, hown, hts⟩ (t_X12_shipAt l dC dI _ v (v.toInt) (by omega) rfl) (va_cwS 1 hts gX12_book_X12_shipAt rfl rfl rfl pd_X12_shipAt ⟨Nat.le_of_ble_eq_true rfl, Nat.le_of_ble_eq_true rfl⟩) ⟨pz_blind, pz_pre pz_P0 (hK.sub (tys' := []) [] rfl) (pz_D0 (A := fun _ => True)) hN⟩ rfl rfl hl.1 rfl (lv_room (Nat.le_of_ble_eq_true rfl)) dX12_book_30 ⟨Nat.le_of_ble_eq_true rfl, Nat.le_of_ble_eq_true rfl⟩) (fun r43 hw44 => ?_)
      obtain ⟨hw44r, hw44p⟩ := hw44
      refine lv_bipush (v := 12) hx hb dX12_book_33 (by decide) ?_
      refine lv_iadd hx hb dX12_book_35 ?_
      refine lv_topi (fun z45 ez45 => ?_)
      have iz45 : z45.toInt = r43.toInt + 12 := zi_add ez45 rfl rfl (by omega) (by omega)
      refine lv_iload_n hx hb dX12_book_36 rfl (lv_at hl 2 rfl) ?_
      refine lv_iadd hx hb dX12_book_37 ?_
      refine lv_topi (fun z46 ez46 => ?_)
      have iz46 : z46.toInt = z45.toInt + u.toInt := zi_add ez46 rfl rfl (by omega) (by omega)
      refine tpk_pos (tp_in hG y1 (by decide)) hf_33 (fun q47 eq47 => ?_)
      refine va_iald hx hb hK hP q47 0 eq47 rfl (vp_in_iff.mpr ⟨by omega, by omega⟩) dX12_book_38 ?_
      refine lv_topi (fun z48 ez48 => ?_)
      refine lv_i2l hx hb dX12_book_39 rfl ?_
      refine lv_goto (tgt := 46) hx hb dX12_book_40 (by decide) ?_
      exact W.lret (v := z48.toInt64) hx hb hr (fun t ht hW => ⟨⟨z48.toInt64, f30, rfl, ⟨hT, hR, trivial, trivial⟩, by rw [ht]; exact hP, va_K.moved hW.alike hK, hD⟩, hS.F ht⟩) hS.2.2 dX12_book_46
set_option maxHeartbeats 4000000 in
set_option maxRecDepth 100000 in
theorem t_X12_store (l : Launch) (dC : Nat → ClassId) (dI : Nat → Nat → Nat) (sz : Nat) (κ : Nat → ClassId) (τ ν : Nat → Nat) (ρ : Nat → Nat → Nat) (L : List Nat) (f : Nat → va_E) (hG : tp_G τ ν ρ L) (hT : tp_T (mo_O κ) κ τ ν ρ f) (h0 : Nat) (v : Int32) (ht_h0 : τ h0 = 13) (hJ : mo_RI (-1) 0 (mo_R (mo_i (f (ρ h0 2))))) : Met l yX12_store wqX12_store ({ frames := 4, cells := 0, slots := 0, locals := 1200 }) (va_Pc [.ref h0, .int v] (pz_B dC dI (tp_K κ) (va_pl L f) sz)) (va_Qi (fun (r : Int32) (f1 : Nat → va_E) => tp_T (mo_O κ) κ τ ν ρ f1 ∧ tp_F τ [13] f f1 ∧ True ∧ True) (fun (f1 : Nat → va_E) (t : State) => pz_E dC dI (tp_K κ) (va_A (va_pl L f) sz) (va_pl L f1) t) (va_A (va_pl L f) sz)) 0 0 (va_A (va_pl L f) sz) := by
  refine Met.ofW (cc := cX12_store) (maxL := 2) (ret := some .int) (by decide) rfl ?_
  intro p e s m args below meth c s₁ B hml hv
  obtain ⟨rfl, hsz, hP, hK, hD0, hN⟩ := hv
  have hx := B.exec
  have hb := B.bytes
  have hr := B.returns
  have hts := fun (w : Cond) (h : w ∈ WALL) => atoms_spec (ws := wqX12_store) B.pre w (List.mem_cons_of_mem _ h)
  have hown : s.vm.findClass RX12 = some m.cls := findClass_of_methodNamed B.named
  have hlocks := B.notSynchronized
  subst hsz
  have hD := hD0.self (sz := s.heap.size)
  generalize hAe : va_A (va_pl L f) s.heap.size = A at hD ⊢
  have hA : ∀ q : Nat, s.heap.size ≤ q → A q := fun q h => by rw [← hAe]; exact Or.inr h
  have hS : va_S A s.heap s.heap [] := va_S.rf
  have hR : tp_F τ [13] f f := tp_F.rf
  have hl := lv_entry ([.ref h0, .int v]) (n := 2) (Nat.le_of_ble_eq_true rfl)
  rw [lg_entry_eq]
  generalize (lg_sl ([.ref h0, .int v]) ++ List.replicate (2 - (lg_sl ([.ref h0, .int v])).length) Slot.unset).toArray = ls at hl ⊢
  have hl : lv_has ls 2 [(0, .ref h0), (1, .int v)] := hl
  refine tgk_13 hG ht_h0 (fun y1 y2 y3 y4 y5 y6 y7 y8 y9 y10 y11 y12 y13 y14 y15 y16 y17 y18 y19 y20 y21 y22 y23 y24 y25 => ?_)
  refine tpk_32 hT y1 (fun g27 hf_o26 => ?_)
  have hI : mo_RI (-1) 0 (mo_R g27) := by have q9 := hJ; rw [hf_o26, mo_i1] at q9; exact q9
  refine lv_aload_n hx hb dX12_store_0 rfl (lv_at hl 0 rfl) ?_
  refine lv_iconst (v := 0) hx hb dX12_store_1 (by decide) ?_
  refine tpk_13 hT ht_h0 (fun o28_x0 o28_x1 o28_x7 o28_x9 o28_x10 o28_x11 o28_x12 o28_x13 o28_x14 o28_x15 o28_x16 o28_x17 o28_x18 o28_x19 o28_x20 o28_x22 o28_x25 o28_x28 o28_x29 o28_x32 o28_x33 o28_x34 o28_x35 o28_x36 o28_x37 o28_x38 o28_x47 o28_x48 hf_o28 ro28_0 ro28_1 ro28_2 ro28_3 ro28_4 ro28_5 ro28_6 ro28_7 ro28_8 ro28_9 ro28_10 ro28_11 ro28_12 ro28_13 => ?_)
  refine tpk_pos (tp_in hG ht_h0 (by decide)) hf_o28 (fun q29 eq29 => ?_)
  refine va_put (D := (dC, dI)) (ci := 12) (v := .int 0) (ty := .int) (C := RX12) (T := TX12) (N := 53) hx hb hts hfX12 tyX12 tyX12_ok nmX12 hown hK hP hD hS q29 eq29 rfl 0 (by decide) (hts (.fieldLink RX12 91 "ColdShipsModel" "thrown" "I") wa_209) (fun _ h9 => h9) rfl (tyX12_ok 0 (by decide)) rfl rfl (Nat.le_of_ble_eq_true rfl) dX12_store_2 (tp_k (.inr (12, [.int 0, .int o28_x1, .ref (ρ h0 2), .ref (ρ h0 3), .ref (ρ h0 4), .ref (ρ h0 5), .ref (ρ h0 6), .int o28_x7, .ref (ρ h0 8), .int o28_x9, .int o28_x10, .int o28_x11, .int o28_x12, .long o28_x13, .int o28_x14, .int o28_x15, .int o28_x16, .int o28_x17, .int o28_x18, .int o28_x19, .int o28_x20, .ref (ρ h0 21), .int o28_x22, .ref (ρ h0 23), .ref (ρ h0 24), .int o28_x25, .ref (ρ h0 26), .ref (ρ h0 27), .int o28_x28, .int o28_x29, .ref (ρ h0 30), .ref (ρ h0 31), .int o28_x32, .long o28_x33, .long o28_x34, .long o28_x35, .int o28_x36, .int o28_x37, .int o28_x38, .ref (ρ h0 39), .ref (ρ h0 40), .ref (ρ h0 41), .ref (ρ h0 42), .ref (ρ h0 43), .ref (ρ h0 44), .ref (ρ h0 45), .ref (ρ h0 46), .int o28_x47, .int o28_x48, .ref (ρ h0 49), .ref (ρ h0 50), .ref (ρ h0 51), .ref (ρ h0 52)])) hD (tp_in hG ht_h0 (by decide)) eq29 (fun f30 H locs hP hD hS g32 k31 => ?_))
  have hT := hT.up ht_h0 g32 k31 ⟨_, _, _, _, _, _, _, _, _, _, _, _, _, _, _, _, _, _, _, _, _, _, _, _, _, _, _, _, rfl, ro28_0, ro28_1, ro28_2, ro28_3, ro28_4, ro28_5, ro28_6, ro28_7, ro28_8, ro28_9, ro28_10, ro28_11, ro28_12, ro28_13⟩
  have hR := hR.up ht_h0 (by decide) k31
  refine lv_aload_n hx hb dX12_store_5 rfl (lv_at hl 0 rfl) ?_
  refine lv_iload_n hx hb dX12_store_6 rfl (lv_at hl 1 rfl) ?_
  have hf_33 : f30 (ρ h0 2) = .inl (κ 0, 12967, .inl g27) := (k31 _ (tp_ne y1 ht_h0 (by decide))).trans hf_o26
  refine tpk_pos (tp_in hG ht_h0 (by decide)) g32 (fun q34 eq34 => ?_)
  refine pz_calli (va_runV (As := [.int v]) (rest := []) ⟨hx, hb, hml, hown, hts⟩ (t_X12_isTerminal l dC dI _ κ τ ν ρ L f30 hG hT h0 v (-1) 0 ht_h0 (by omega) (by rw [hf_33, mo_i1]; exact hI)) (cwV 1 hts gX12_store_X12_isTerminal rfl rfl rfl ⟨rfl, pd_X12_isTerminal⟩ ⟨Nat.le_of_ble_eq_true rfl, Nat.le_of_ble_eq_true rfl⟩) ⟨pz_blind, va_recv hK hP (ci := 12) (q0 := q34) rfl eq34, pz_pre hP hK hD hN⟩ rfl rfl hl.1 rfl (lv_room (Nat.le_of_ble_eq_true rfl)) dX12_store_7 ⟨Nat.le_of_ble_eq_true rfl, Nat.le_of_ble_eq_true rfl⟩) (fun r35 hw36 => ?_)
  obtain ⟨hw36r, hw36p⟩ := hw36
  have := hI.k0
  rw [hf_33, mo_i1] at hw36p
  refine lv_if_eq (tgt := 25) hx hb dX12_store_10 (by decide) (fun c37 => ?_) (fun c37 => ?_)
  · have ic37 : r35.toInt = 0 := zi_eq rfl rfl c37
    refine lv_iconst (v := (-1)) hx hb dX12_store_25 (by decide) ?_
    exact W.iret (v := (-1)) hx hb hr (fun t ht hW => ⟨⟨(-1), f30, rfl, ⟨hT, hR, trivial, trivial⟩, by rw [ht]; exact hP, va_K.moved hW.alike hK, hD⟩, hS.F ht⟩) hS.2.2 dX12_store_26
  · have ic37 : r35.toInt ≠ 0 := zi_eqf rfl rfl c37
    replace ic37 : 1 ≤ r35.toInt := by omega
    have p38 : 0 ≤ v.toInt ∧ v.toInt < mo_R g27 0 := (tp_cond.yes hw36p) (by omega)
    refine lv_aload_n hx hb dX12_store_13 rfl (lv_at hl 0 rfl) ?_
    refine va_get (D := (dC, dI)) (ci := 12) (v := .ref (ρ h0 2)) (C := RX12) (T := TX12) (N := 53) hx hb hts hfX12 hown hK hP q34 eq34 rfl 2 (by decide) (hts (.fieldLink RX12 7 "ColdShipsModel" "row" "[I") wa_148) (fun _ h9 => h9) rfl dX12_store_14 ?_
    refine lv_iload_n hx hb dX12_store_17 rfl (lv_at hl 1 rfl) ?_
    refine pz_calli (va_runS (As := [.int v]) (rest := [.ref (ρ h0 2)]) ⟨hx, hb, hml, hown, hts⟩ (t_X12_terminalAt l dC dI _ v (v.toInt) (by omega) rfl) (va_cwS 1 hts gX12_store_X12_terminalAt rfl rfl rfl pd_X12_terminalAt ⟨Nat.le_of_ble_eq_true rfl, Nat.le_of_ble_eq_true rfl⟩) ⟨pz_blind, pz_pre pz_P0 (hK.sub (tys' := []) [] rfl) (pz_D0 (A := fun _ => True)) hN⟩ rfl rfl hl.1 rfl (lv_room (Nat.le_of_ble_eq_true rfl)) dX12_store_18 ⟨Nat.le_of_ble_eq_true rfl, Nat.le_of_ble_eq_true rfl⟩) (fun r39 hw40 => ?_)
    obtain ⟨hw40r, hw40p⟩ := hw40
    refine tpk_pos (tp_in hG y1 (by decide)) hf_33 (fun q41 eq41 => ?_)
    refine va_iald hx hb hK hP q41 0 eq41 rfl (vp_in_iff.mpr ⟨by omega, by omega⟩) dX12_store_21 ?_
    refine lv_topi (fun z42 ez42 => ?_)
    refine lv_goto (tgt := 26) hx hb dX12_store_22 (by decide) ?_
    exact W.iret (v := z42) hx hb hr (fun t ht hW => ⟨⟨z42, f30, rfl, ⟨hT, hR, trivial, trivial⟩, by rw [ht]; exact hP, va_K.moved hW.alike hK, hD⟩, hS.F ht⟩) hS.2.2 dX12_store_26
set_option maxHeartbeats 4000000 in
set_option maxRecDepth 100000 in
theorem t_X12_landing (l : Launch) (dC : Nat → ClassId) (dI : Nat → Nat → Nat) (sz : Nat) (κ : Nat → ClassId) (τ ν : Nat → Nat) (ρ : Nat → Nat → Nat) (L : List Nat) (f : Nat → va_E) (hG : tp_G τ ν ρ L) (hT : tp_T (mo_O κ) κ τ ν ρ f) (h0 : Nat) (v : Int32) (u : Int32) (ht_h0 : τ h0 = 13) (hJ : mo_RI (-1) 0 (mo_R (mo_i (f (ρ h0 2))))) : Met l yX12_landing wqX12_landing ({ frames := 4, cells := 0, slots := 0, locals := 1200 }) (va_Pc [.ref h0, .int v, .int u] (pz_B dC dI (tp_K κ) (va_pl L f) sz)) (va_Qi (fun (r : Int32) (f1 : Nat → va_E) => tp_T (mo_O κ) κ τ ν ρ f1 ∧ tp_F τ [13] f f1 ∧ True ∧ True) (fun (f1 : Nat → va_E) (t : State) => pz_E dC dI (tp_K κ) (va_A (va_pl L f) sz) (va_pl L f1) t) (va_A (va_pl L f) sz)) 0 0 (va_A (va_pl L f) sz) := by
  refine Met.ofW (cc := cX12_landing) (maxL := 4) (ret := some .int) (by decide) rfl ?_
  intro p e s m args below meth c s₁ B hml hv
  obtain ⟨rfl, hsz, hP, hK, hD0, hN⟩ := hv
  have hx := B.exec
  have hb := B.bytes
  have hr := B.returns
  have hts := fun (w : Cond) (h : w ∈ WALL) => atoms_spec (ws := wqX12_landing) B.pre w (List.mem_cons_of_mem _ h)
  have hown : s.vm.findClass RX12 = some m.cls := findClass_of_methodNamed B.named
  have hlocks := B.notSynchronized
  subst hsz
  have hD := hD0.self (sz := s.heap.size)
  generalize hAe : va_A (va_pl L f) s.heap.size = A at hD ⊢
  have hA : ∀ q : Nat, s.heap.size ≤ q → A q := fun q h => by rw [← hAe]; exact Or.inr h
  have hS : va_S A s.heap s.heap [] := va_S.rf
  have hR : tp_F τ [13] f f := tp_F.rf
  have hl := lv_entry ([.ref h0, .int v, .int u]) (n := 4) (Nat.le_of_ble_eq_true rfl)
  rw [lg_entry_eq]
  generalize (lg_sl ([.ref h0, .int v, .int u]) ++ List.replicate (4 - (lg_sl ([.ref h0, .int v, .int u])).length) Slot.unset).toArray = ls at hl ⊢
  have hl : lv_has ls 4 [(0, .ref h0), (1, .int v), (2, .int u)] := hl
  refine tgk_13 hG ht_h0 (fun y1 y2 y3 y4 y5 y6 y7 y8 y9 y10 y11 y12 y13 y14 y15 y16 y17 y18 y19 y20 y21 y22 y23 y24 y25 => ?_)
  refine tpk_32 hT y1 (fun g27 hf_o26 => ?_)
  have hI : mo_RI (-1) 0 (mo_R g27) := by have q9 := hJ; rw [hf_o26, mo_i1] at q9; exact q9
  refine lv_aload_n hx hb dX12_landing_0 rfl (lv_at hl 0 rfl) ?_
  refine lv_iconst (v := 0) hx hb dX12_landing_1 (by decide) ?_
  refine tpk_13 hT ht_h0 (fun o28_x0 o28_x1 o28_x7 o28_x9 o28_x10 o28_x11 o28_x12 o28_x13 o28_x14 o28_x15 o28_x16 o28_x17 o28_x18 o28_x19 o28_x20 o28_x22 o28_x25 o28_x28 o28_x29 o28_x32 o28_x33 o28_x34 o28_x35 o28_x36 o28_x37 o28_x38 o28_x47 o28_x48 hf_o28 ro28_0 ro28_1 ro28_2 ro28_3 ro28_4 ro28_5 ro28_6 ro28_7 ro28_8 ro28_9 ro28_10 ro28_11 ro28_12 ro28_13 => ?_)
  refine tpk_pos (tp_in hG ht_h0 (by decide)) hf_o28 (fun q29 eq29 => ?_)
  refine va_put (D := (dC, dI)) (ci := 12) (v := .int 0) (ty := .int) (C := RX12) (T := TX12) (N := 53) hx hb hts hfX12 tyX12 tyX12_ok nmX12 hown hK hP hD hS q29 eq29 rfl 0 (by decide) (hts (.fieldLink RX12 91 "ColdShipsModel" "thrown" "I") wa_209) (fun _ h9 => h9) rfl (tyX12_ok 0 (by decide)) rfl rfl (Nat.le_of_ble_eq_true rfl) dX12_landing_2 (tp_k (.inr (12, [.int 0, .int o28_x1, .ref (ρ h0 2), .ref (ρ h0 3), .ref (ρ h0 4), .ref (ρ h0 5), .ref (ρ h0 6), .int o28_x7, .ref (ρ h0 8), .int o28_x9, .int o28_x10, .int o28_x11, .int o28_x12, .long o28_x13, .int o28_x14, .int o28_x15, .int o28_x16, .int o28_x17, .int o28_x18, .int o28_x19, .int o28_x20, .ref (ρ h0 21), .int o28_x22, .ref (ρ h0 23), .ref (ρ h0 24), .int o28_x25, .ref (ρ h0 26), .ref (ρ h0 27), .int o28_x28, .int o28_x29, .ref (ρ h0 30), .ref (ρ h0 31), .int o28_x32, .long o28_x33, .long o28_x34, .long o28_x35, .int o28_x36, .int o28_x37, .int o28_x38, .ref (ρ h0 39), .ref (ρ h0 40), .ref (ρ h0 41), .ref (ρ h0 42), .ref (ρ h0 43), .ref (ρ h0 44), .ref (ρ h0 45), .ref (ρ h0 46), .int o28_x47, .int o28_x48, .ref (ρ h0 49), .ref (ρ h0 50), .ref (ρ h0 51), .ref (ρ h0 52)])) hD (tp_in hG ht_h0 (by decide)) eq29 (fun f30 H locs hP hD hS g32 k31 => ?_))
  have hT := hT.up ht_h0 g32 k31 ⟨_, _, _, _, _, _, _, _, _, _, _, _, _, _, _, _, _, _, _, _, _, _, _, _, _, _, _, _, rfl, ro28_0, ro28_1, ro28_2, ro28_3, ro28_4, ro28_5, ro28_6, ro28_7, ro28_8, ro28_9, ro28_10, ro28_11, ro28_12, ro28_13⟩
  have hR := hR.up ht_h0 (by decide) k31
  refine lv_aload_n hx hb dX12_landing_5 rfl (lv_at hl 0 rfl) ?_
  refine lv_iload_n hx hb dX12_landing_6 rfl (lv_at hl 1 rfl) ?_
  have hf_33 : f30 (ρ h0 2) = .inl (κ 0, 12967, .inl g27) := (k31 _ (tp_ne y1 ht_h0 (by decide))).trans hf_o26
  refine tpk_pos (tp_in hG ht_h0 (by decide)) g32 (fun q34 eq34 => ?_)
  refine pz_calli (va_runV (As := [.int v]) (rest := []) ⟨hx, hb, hml, hown, hts⟩ (t_X12_isLanding l dC dI _ κ τ ν ρ L f30 hG hT h0 v (-1) 0 ht_h0 (by omega) (by rw [hf_33, mo_i1]; exact hI)) (cwV 1 hts gX12_landing_X12_isLanding rfl rfl rfl ⟨rfl, pd_X12_isLanding⟩ ⟨Nat.le_of_ble_eq_true rfl, Nat.le_of_ble_eq_true rfl⟩) ⟨pz_blind, va_recv hK hP (ci := 12) (q0 := q34) rfl eq34, pz_pre hP hK hD hN⟩ rfl rfl hl.1 rfl (lv_room (Nat.le_of_ble_eq_true rfl)) dX12_landing_7 ⟨Nat.le_of_ble_eq_true rfl, Nat.le_of_ble_eq_true rfl⟩) (fun r35 hw36 => ?_)
  obtain ⟨hw36r, hw36p⟩ := hw36
  have := hI.k5
  rw [hf_33, mo_i1] at hw36p
  refine lv_if_eq (tgt := 25) hx hb dX12_landing_10 (by decide) (fun c37 => ?_) (fun c37 => ?_)
  · have ic37 : r35.toInt = 0 := zi_eq rfl rfl c37
    refine lv_iconst (v := (-1)) hx hb dX12_landing_25 (by decide) ?_
    exact W.iret (v := (-1)) hx hb hr (fun t ht hW => ⟨⟨(-1), f30, rfl, ⟨hT, hR, trivial, trivial⟩, by rw [ht]; exact hP, va_K.moved hW.alike hK, hD⟩, hS.F ht⟩) hS.2.2 dX12_landing_26
  · have ic37 : r35.toInt ≠ 0 := zi_eqf rfl rfl c37
    replace ic37 : 1 ≤ r35.toInt := by omega
    have p38 : 0 ≤ v.toInt ∧ v.toInt < mo_R g27 5 := (tp_cond.yes hw36p) (by omega)
    refine lv_iload_n hx hb dX12_landing_13 rfl (lv_at hl 2 rfl) ?_
    refine lv_i2l hx hb dX12_landing_14 rfl ?_
    refine lv_lconst (v := 0) hx hb dX12_landing_15 (by decide) ?_
    refine lv_ldc2 (own := RX12) (v := 6) hx hb hown (hts (.constantLong RX12 240 (6)) wa_700) dX12_landing_16 ?_
    refine pz_calli (va_runS (As := [.long u.toInt64, .long 0, .long 6]) (rest := []) ⟨hx, hb, hml, hown, hts⟩ (t_X12_in l dC dI _ u.toInt64 (0) (6) (u.toInt) (0) (6) (Int32.toInt_toInt64 u) rfl rfl) (va_cwS 3 hts gX12_landing_X12_in rfl rfl rfl pd_X12_in ⟨Nat.le_of_ble_eq_true rfl, Nat.le_of_ble_eq_true rfl⟩) ⟨pz_blind, pz_pre pz_P0 (hK.sub (tys' := []) [] rfl) (pz_D0 (A := fun _ => True)) hN⟩ rfl rfl hl.1 rfl (lv_room (Nat.le_of_ble_eq_true rfl)) dX12_landing_19 ⟨Nat.le_of_ble_eq_true rfl, Nat.le_of_ble_eq_true rfl⟩) (fun r39 hw40 => ?_)
    obtain ⟨hw40r, hw40p⟩ := hw40
    refine lv_if_ne (tgt := 27) hx hb dX12_landing_22 (by decide) (fun c41 => ?_) (fun c41 => ?_)
    · have ic41 : r39.toInt ≠ 0 := zi_ne rfl rfl c41
      replace ic41 : 1 ≤ r39.toInt := by omega
      have p42 : (0) ≤ (u.toInt) ∧ (u.toInt) ≤ (6) := (tp_cond.yes hw40p) (by omega)
      refine lv_iload_n hx hb dX12_landing_27 rfl (lv_at hl 1 rfl) ?_
      refine pz_calli (va_runS (As := [.int v]) (rest := []) ⟨hx, hb, hml, hown, hts⟩ (t_X12_landingAt l dC dI _ v (v.toInt) (by omega) rfl) (va_cwS 1 hts gX12_landing_X12_landingAt rfl rfl rfl pd_X12_landingAt ⟨Nat.le_of_ble_eq_true rfl, Nat.le_of_ble_eq_true rfl⟩) ⟨pz_blind, pz_pre pz_P0 (hK.sub (tys' := []) [] rfl) (pz_D0 (A := fun _ => True)) hN⟩ rfl rfl hl.1 rfl (lv_room (Nat.le_of_ble_eq_true rfl)) dX12_landing_28 ⟨Nat.le_of_ble_eq_true rfl, Nat.le_of_ble_eq_true rfl⟩) (fun r43 hw44 => ?_)
      obtain ⟨hw44r, hw44p⟩ := hw44
      refine lv_istore_n (lv' := [(3, .int r43), (0, .ref h0), (1, .int v), (2, .int u)]) hx hb dX12_landing_31 rfl hl (by decide) rfl (fun ls hl => ?_)
      refine lv_iload_n hx hb dX12_landing_32 rfl (lv_at hl 3 rfl) ?_
      refine lv_iconst (v := 5) hx hb dX12_landing_33 (by decide) ?_
      refine lv_icmp_ge (tgt := 48) hx hb dX12_landing_34 (by decide) (fun c45 => ?_) (fun c45 => ?_)
      · have ic45 : u.toInt ≥ 5 := zi_ge rfl rfl c45
        refine lv_iload_n hx hb dX12_landing_48 rfl (lv_at hl 3 rfl) ?_
        refine lv_iconst (v := 5) hx hb dX12_landing_49 (by decide) ?_
        refine lv_icmp_ne (tgt := 61) hx hb dX12_landing_50 (by decide) (fun c46 => ?_) (fun c46 => ?_)
        · have ic46 : u.toInt ≠ 5 := zi_ne rfl rfl c46
          replace ic46 : 6 ≤ u.toInt := by omega
          refine lv_aload_n hx hb dX12_landing_61 rfl (lv_at hl 1 rfl) ?_
          refine va_get (D := (dC, dI)) (ci := 12) (v := .ref (ρ h0 2)) (C := RX12) (T := TX12) (N := 53) hx hb hts hfX12 hown hK hP q34 eq34 rfl 2 (by decide) (hts (.fieldLink RX12 7 "ColdShipsModel" "row" "[I") wa_148) (fun _ h9 => h9) rfl dX12_landing_62 ?_
          refine lv_iload_n hx hb dX12_landing_65 rfl (lv_at hl 0 rfl) ?_
          refine lv_bipush (v := 12) hx hb dX12_landing_66 (by decide) ?_
          refine lv_iadd hx hb dX12_landing_68 ?_
          refine lv_topi (fun z47 ez47 => ?_)
          have iz47 : z47.toInt = r43.toInt + 12 := zi_add ez47 rfl rfl (by omega) (by omega)
          refine tpk_pos (tp_in hG y1 (by decide)) hf_33 (fun q48 eq48 => ?_)
          refine va_iald hx hb hK hP q48 0 eq48 rfl (vp_in_iff.mpr ⟨by omega, by omega⟩) dX12_landing_69 ?_
          refine lv_topi (fun z49 ez49 => ?_)
          refine lv_iconst (v := (-1)) hx hb dX12_landing_70 (by decide) ?_
          refine lv_icmp_ne (tgt := 78) hx hb dX12_landing_71 (by decide) (fun c50 => ?_) (fun c50 => ?_)
          · have ic50 : z49.toInt ≠ (-1) := zi_ne rfl rfl c50
            refine lv_iconst (v := 1) hx hb dX12_landing_78 (by decide) ?_
            exact W.iret (v := 1) hx hb hr (fun t ht hW => ⟨⟨1, f30, rfl, ⟨hT, hR, trivial, trivial⟩, by rw [ht]; exact hP, va_K.moved hW.alike hK, hD⟩, hS.F ht⟩) hS.2.2 dX12_landing_79
          · have ic50 : z49.toInt = (-1) := zi_nef rfl rfl c50
            refine lv_iconst (v := 0) hx hb dX12_landing_74 (by decide) ?_
            refine lv_goto (tgt := 79) hx hb dX12_landing_75 (by decide) ?_
            exact W.iret (v := 0) hx hb hr (fun t ht hW => ⟨⟨0, f30, rfl, ⟨hT, hR, trivial, trivial⟩, by rw [ht]; exact hP, va_K.moved hW.alike hK, hD⟩, hS.F ht⟩) hS.2.2 dX12_landing_79
        · have ic46 : u.toInt = 5 := zi_nef rfl rfl c46
          refine lv_aload_n hx hb dX12_landing_53 rfl (lv_at hl 1 rfl) ?_
          refine lv_iload_n hx hb dX12_landing_54 rfl (lv_at hl 0 rfl) ?_
          refine pz_calli (va_runV (As := [.int r43]) (rest := []) ⟨hx, hb, hml, hown, hts⟩ (t_X12_heatOf l dC dI _ κ τ ν ρ L f30 hG hT h0 r43 (-1) 0 v.toInt ht_h0 (by omega) (by omega) (by omega) (by rw [hf_33, mo_i1]; exact hI) (by first | (simp only [hf_33, hf_o26, mo_i1]; omega) | (simp only [hf_33, hf_o26, mo_i1]; trivial) | (simp only [hf_33, hf_o26, mo_i1]; done) | omega)) (cwV 1 hts gX12_landing_X12_heatOf rfl rfl rfl ⟨rfl, pd_X12_heatOf⟩ ⟨Nat.le_of_ble_eq_true rfl, Nat.le_of_ble_eq_true rfl⟩) ⟨pz_blind, va_recv hK hP (ci := 12) (q0 := q34) rfl eq34, pz_pre hP hK hD hN⟩ rfl rfl hl.1 rfl (lv_room (Nat.le_of_ble_eq_true rfl)) dX12_landing_55 ⟨Nat.le_of_ble_eq_true rfl, Nat.le_of_ble_eq_true rfl⟩) (fun r51 hw52 => ?_)
          obtain ⟨hw52r, hw52p⟩ := hw52
          refine lv_goto (tgt := 79) hx hb dX12_landing_58 (by decide) ?_
          exact W.iret (v := r51) hx hb hr (fun t ht hW => ⟨⟨r51, f30, rfl, ⟨hT, hR, trivial, trivial⟩, by rw [ht]; exact hP, va_K.moved hW.alike hK, hD⟩, hS.F ht⟩) hS.2.2 dX12_landing_79
      · have ic45 : u.toInt < 5 := zi_gef rfl rfl c45
        refine lv_aload_n hx hb dX12_landing_37 rfl (lv_at hl 1 rfl) ?_
        refine va_get (D := (dC, dI)) (ci := 12) (v := .ref (ρ h0 2)) (C := RX12) (T := TX12) (N := 53) hx hb hts hfX12 hown hK hP q34 eq34 rfl 2 (by decide) (hts (.fieldLink RX12 7 "ColdShipsModel" "row" "[I") wa_148) (fun _ h9 => h9) rfl dX12_landing_38 ?_
        refine lv_iload_n hx hb dX12_landing_41 rfl (lv_at hl 0 rfl) ?_
        refine lv_iload_n hx hb dX12_landing_42 rfl (lv_at hl 3 rfl) ?_
        refine lv_iadd hx hb dX12_landing_43 ?_
        refine lv_topi (fun z53 ez53 => ?_)
        have iz53 : z53.toInt = r43.toInt + u.toInt := zi_add ez53 rfl rfl (by omega) (by omega)
        refine tpk_pos (tp_in hG y1 (by decide)) hf_33 (fun q54 eq54 => ?_)
        refine va_iald hx hb hK hP q54 0 eq54 rfl (vp_in_iff.mpr ⟨by omega, by omega⟩) dX12_landing_44 ?_
        refine lv_topi (fun z55 ez55 => ?_)
        refine lv_goto (tgt := 79) hx hb dX12_landing_45 (by decide) ?_
        exact W.iret (v := z55) hx hb hr (fun t ht hW => ⟨⟨z55, f30, rfl, ⟨hT, hR, trivial, trivial⟩, by rw [ht]; exact hP, va_K.moved hW.alike hK, hD⟩, hS.F ht⟩) hS.2.2 dX12_landing_79
    · have ic41 : r39.toInt = 0 := zi_nef rfl rfl c41
      refine lv_iconst (v := (-1)) hx hb dX12_landing_25 (by decide) ?_
      exact W.iret (v := (-1)) hx hb hr (fun t ht hW => ⟨⟨(-1), f30, rfl, ⟨hT, hR, trivial, trivial⟩, by rw [ht]; exact hP, va_K.moved hW.alike hK, hD⟩, hS.F ht⟩) hS.2.2 dX12_landing_26
