set_option maxHeartbeats 4000000 in
set_option maxRecDepth 100000 in
theorem t_X12_goShip (l : Launch) (dC : Nat → ClassId) (dI : Nat → Nat → Nat) (sz : Nat) (κ : Nat → ClassId) (τ ν : Nat → Nat) (ρ : Nat → Nat → Nat) (L : List Nat) (f : Nat → va_E) (hG : tp_G τ ν ρ L) (hT : tp_T (mo_O κ) κ τ ν ρ f) (h0 : Nat) (v : Int32) (u : Int32) (ht_h0 : τ h0 = 13) (hr_u : 0 ≤ u.toInt ∧ u.toInt ≤ 2399) (hJ : mo_RI (-1) 0 (mo_R (mo_i (f (ρ h0 2))))) (hv1 : 0 ≤ v.toInt ∧ v.toInt < (mo_R (mo_i (f (ρ h0 2)))) (1)) : Met l yX12_goShip wqX12_goShip ({ frames := 6, cells := 0, slots := 0, locals := 2000 }) (va_Pc [.ref h0, .int v, .int u] (pz_B dC dI (tp_K κ) (va_pl L f) sz)) (va_Qv (fun (f1 : Nat → va_E) => tp_T (mo_O κ) κ τ ν ρ f1 ∧ tp_F τ [13, 32, 35, 36] f f1 ∧ mo_RI (-1) 0 (mo_R (mo_i (f1 (ρ h0 2)))) ∧ (mo_R (mo_i (f1 (ρ h0 2)))) (1) = (mo_R (mo_i (f (ρ h0 2)))) (1) ∧ (mo_R (mo_i (f1 (ρ h0 2)))) (11) = (mo_R (mo_i (f (ρ h0 2)))) (11)) (fun (f1 : Nat → va_E) (t : State) => pz_E dC dI (tp_K κ) (va_A (va_pl L f) sz) (va_pl L f1) t) (va_A (va_pl L f) sz)) 0 0 (va_A (va_pl L f) sz) := by
  refine Met.ofW (cc := cX12_goShip) (maxL := 7) (ret := none) (by decide) rfl ?_
  intro p e s m args below meth c s₁ B hml hv
  obtain ⟨rfl, hsz, hP, hK, hD0, hN⟩ := hv
  have hx := B.exec
  have hb := B.bytes
  have hr := B.returns
  have hts := fun (w : Cond) (h : w ∈ WALL) => atoms_spec (ws := wqX12_goShip) B.pre w (List.mem_cons_of_mem _ h)
  have hown : s.vm.findClass RX12 = some m.cls := findClass_of_methodNamed B.named
  have hlocks := B.notSynchronized
  subst hsz
  have hD := hD0.self (sz := s.heap.size)
  generalize hAe : va_A (va_pl L f) s.heap.size = A at hD ⊢
  have hA : ∀ q : Nat, s.heap.size ≤ q → A q := fun q h => by rw [← hAe]; exact Or.inr h
  have hS : va_S A s.heap s.heap [] := va_S.rf
  have hR : tp_F τ [13, 32, 35, 36] f f := tp_F.rf
  have hl := lv_entry ([.ref h0, .int v, .int u]) (n := 7) (Nat.le_of_ble_eq_true rfl)
  rw [lg_entry_eq]
  generalize (lg_sl ([.ref h0, .int v, .int u]) ++ List.replicate (7 - (lg_sl ([.ref h0, .int v, .int u])).length) Slot.unset).toArray = ls at hl ⊢
  have hl : lv_has ls 7 [(0, .ref h0), (1, .int v), (2, .int u)] := hl
  refine tgk_13 hG ht_h0 (fun y1 y2 y3 y4 y5 y6 y7 y8 y9 y10 y11 y12 y13 y14 y15 y16 y17 y18 y19 y20 y21 y22 y23 y24 y25 => ?_)
  refine tpk_32 hT y1 (fun g27 hf_o26 => ?_)
  have hI : mo_RI (-1) 0 (mo_R g27) := by have q9 := hJ; rw [hf_o26, mo_i1] at q9; exact q9
  rw [hf_o26, mo_i1] at hv1
  obtain ⟨n1, en1⟩ : ∃ n : Int, n = mo_R g27 (1) := ⟨_, rfl⟩
  have kn1 := hI.k1
  obtain ⟨n11, en11⟩ : ∃ n : Int, n = mo_R g27 (11) := ⟨_, rfl⟩
  have kn11 := hI.k11
  have hI := hI.xb (y := v.toInt) (a := 0) (by intro s9 h0 h1 h2 h3; constructor <;> omega)
  refine lv_iload_n hx hb dX12_goShip_0 rfl (lv_at hl 1 rfl) ?_
  refine pz_calli (va_runS (As := [.int v]) (rest := []) ⟨hx, hb, hml, hown, hts⟩ (t_X12_shipAt l dC dI _ v (v.toInt) (by omega) rfl) (va_cwS 1 hts gX12_goShip_X12_shipAt rfl rfl rfl pd_X12_shipAt ⟨Nat.le_of_ble_eq_true rfl, Nat.le_of_ble_eq_true rfl⟩) ⟨pz_blind, pz_pre pz_P0 (hK.sub (tys' := []) [] rfl) (pz_D0 (A := fun _ => True)) hN⟩ rfl rfl hl.1 rfl (lv_room (Nat.le_of_ble_eq_true rfl)) dX12_goShip_1 ⟨Nat.le_of_ble_eq_true rfl, Nat.le_of_ble_eq_true rfl⟩) (fun r28 hw29 => ?_)
  obtain ⟨hw29r, hw29p⟩ := hw29
  refine lv_istore_n (lv' := [(3, .int r28), (0, .ref h0), (1, .int v), (2, .int u)]) hx hb dX12_goShip_4 rfl hl (by decide) rfl (fun ls hl => ?_)
  refine lv_aload_n hx hb dX12_goShip_5 rfl (lv_at hl 1 rfl) ?_
  refine tpk_13 hT ht_h0 (fun o30_x0 o30_x1 o30_x7 o30_x9 o30_x10 o30_x11 o30_x12 o30_x13 o30_x14 o30_x15 o30_x16 o30_x17 o30_x18 o30_x19 o30_x20 o30_x22 o30_x25 o30_x28 o30_x29 o30_x32 o30_x33 o30_x34 o30_x35 o30_x36 o30_x37 o30_x38 o30_x47 o30_x48 hf_o30 ro30_0 ro30_1 ro30_2 ro30_3 ro30_4 ro30_5 ro30_6 ro30_7 ro30_8 ro30_9 ro30_10 ro30_11 ro30_12 ro30_13 => ?_)
  refine tpk_pos (tp_in hG ht_h0 (by decide)) hf_o30 (fun q31 eq31 => ?_)
  refine va_get (D := (dC, dI)) (ci := 12) (v := .ref (ρ h0 2)) (C := RX12) (T := TX12) (N := 53) hx hb hts hfX12 hown hK hP q31 eq31 rfl 2 (by decide) (hts (.fieldLink RX12 7 "ColdShipsModel" "row" "[I") wa_148) (fun _ h9 => h9) rfl dX12_goShip_6 ?_
  refine lv_iload_n hx hb dX12_goShip_9 rfl (lv_at hl 0 rfl) ?_
  refine lv_iconst (v := 4) hx hb dX12_goShip_10 (by decide) ?_
  refine lv_iadd hx hb dX12_goShip_11 ?_
  refine lv_topi (fun z32 ez32 => ?_)
  have iz32 : z32.toInt = r28.toInt + 4 := zi_add ez32 rfl rfl (by omega) (by omega)
  refine tpk_pos (tp_in hG y1 (by decide)) hf_o26 (fun q33 eq33 => ?_)
  refine va_iald hx hb hK hP q33 0 eq33 rfl (vp_in_iff.mpr ⟨by omega, by omega⟩) dX12_goShip_12 ?_
  refine lv_topi (fun z34 ez34 => ?_)
  have := hI.GC (s := v.toInt) (by omega) (by omega)
  have jz34 : z34.toInt = mo_R g27 (547 + 84 * v.toInt + 4) := mo_rd ez34 (by omega)
  have kz34 := hI.GG (s := v.toInt) (by omega) (by omega)
  refine lv_i2l hx hb dX12_goShip_13 rfl ?_
  refine lv_aload_n hx hb dX12_goShip_14 rfl (lv_at hl 1 rfl) ?_
  refine va_get (D := (dC, dI)) (ci := 12) (v := .ref (ρ h0 2)) (C := RX12) (T := TX12) (N := 53) hx hb hts hfX12 hown hK hP q31 eq31 rfl 2 (by decide) (hts (.fieldLink RX12 7 "ColdShipsModel" "row" "[I") wa_148) (fun _ h9 => h9) rfl dX12_goShip_15 ?_
  refine lv_bipush (v := 12) hx hb dX12_goShip_18 (by decide) ?_
  refine va_iald hx hb hK hP q33 0 eq33 rfl (vp_in_iff.mpr ⟨by decide, by decide⟩) dX12_goShip_20 ?_
  refine lv_topi (fun z35 ez35 => ?_)
  have jz35 : z35.toInt = mo_R g27 (12) := mo_rd ez35 (show (12 : Int32).toInt = (12) from by decide)
  have kz35 := hI.k12
  refine lv_aload_n hx hb dX12_goShip_21 rfl (lv_at hl 1 rfl) ?_
  refine va_get (D := (dC, dI)) (ci := 12) (v := .ref (ρ h0 2)) (C := RX12) (T := TX12) (N := 53) hx hb hts hfX12 hown hK hP q31 eq31 rfl 2 (by decide) (hts (.fieldLink RX12 7 "ColdShipsModel" "row" "[I") wa_148) (fun _ h9 => h9) rfl dX12_goShip_22 ?_
  refine lv_sipush (v := 147) hx hb dX12_goShip_25 (by decide) ?_
  refine lv_iload_n hx hb dX12_goShip_28 rfl (lv_at hl 3 rfl) ?_
  refine lv_bipush (v := 24) hx hb dX12_goShip_29 (by decide) ?_
  refine lv_idiv hx hb dX12_goShip_31 (by decide) ?_
  refine lv_topi (fun z36 ez36 => ?_)
  have iz36 : z36.toInt = u.toInt / 24 := zi_div ez36 rfl (show (24 : Int32).toInt = 24 from rfl) (by omega) (by omega)
  refine lv_iadd hx hb dX12_goShip_32 ?_
  refine lv_topi (fun z37 ez37 => ?_)
  have iz37 : z37.toInt = 147 + z36.toInt := zi_add ez37 rfl rfl (by omega) (by omega)
  refine va_iald hx hb hK hP q33 0 eq33 rfl (vp_in_iff.mpr ⟨by omega, by omega⟩) dX12_goShip_33 ?_
  refine lv_topi (fun z38 ez38 => ?_)
  have jz38 : z38.toInt = mo_R g27 (147 + z36.toInt) := mo_rd ez38 (by omega)
  have kz38 := hI.E (d := z36.toInt) (by omega) (by omega)
  refine lv_iadd hx hb dX12_goShip_34 ?_
  refine lv_topi (fun z39 ez39 => ?_)
  have iz39 : z39.toInt = z35.toInt + z38.toInt := zi_add ez39 rfl rfl (by omega) (by omega)
  refine lv_i2l hx hb dX12_goShip_35 rfl ?_
  refine lv_lmul hx hb dX12_goShip_36 ?_
  refine lv_topl (fun z40 ez40 => ?_)
  have iz40 := zl_mulb ez40 (Int32.toInt_toInt64 z34) (Int32.toInt_toInt64 z39) 200000 109 (by omega) (by omega) (by omega) (by omega) (by decide)
  refine lv_ldc2 (own := RX12) (v := 100000) hx hb hown (hts (.constantLong RX12 177 (100000)) wa_552) dX12_goShip_37 ?_
  refine lv_ldiv hx hb dX12_goShip_40 (by decide) ?_
  refine lv_topl (fun z41 ez41 => ?_)
  have iz41 : z41.toInt = z40.toInt / 100000 := zl_div ez41 (rfl : z40.toInt = _) (show (100000 : Int64).toInt = 100000 from rfl) (by omega) (by decide)
  refine lv_l2i hx hb dX12_goShip_41 rfl ?_
  refine lv_topi (fun z42 ez42 => ?_)
  have iz42 : z42.toInt = z41.toInt := zi_l2i ez42 (rfl : z41.toInt = _) (by omega) (by omega)
  refine lv_istore (lv' := [(4, .int z42), (3, .int r28), (0, .ref h0), (1, .int v), (2, .int u)]) hx hb dX12_goShip_42 hl (by decide) rfl (fun ls hl => ?_)
  refine lv_aload_n hx hb dX12_goShip_44 rfl (lv_at hl 2 rfl) ?_
  refine lv_iload_n hx hb dX12_goShip_45 rfl (lv_at hl 1 rfl) ?_
  refine lv_iload hx hb dX12_goShip_46 (lv_at hl 0 rfl) ?_
  have hFc := tp_fr hD hS hA
  refine va_callv (va_runV (As := [.int r28, .int z42]) (rest := []) ⟨hx, hb, hml, hown, hts⟩ (t_X12_take l dC dI _ κ τ ν ρ L f hG hT h0 r28 z42 v.toInt 0 v.toInt ht_h0 (by omega) (by omega) (by omega) (by rw [hf_o26, mo_i1]; exact hI) (by first | (simp only [hf_o26, mo_i1]; omega) | (simp only [hf_o26, mo_i1]; trivial) | (simp only [hf_o26, mo_i1]; done) | omega) (by first | (simp only [hf_o26, mo_i1]; omega) | (simp only [hf_o26, mo_i1]; trivial) | (simp only [hf_o26, mo_i1]; done) | omega)) (cwV 2 hts gX12_goShip_X12_take rfl rfl rfl ⟨rfl, pd_X12_take⟩ ⟨Nat.le_of_ble_eq_true rfl, Nat.le_of_ble_eq_true rfl⟩) ⟨pz_blind, va_recv hK hP (ci := 12) (q0 := q31) rfl eq31, pz_pre hP hK hD hN⟩ rfl rfl hl.1 rfl (lv_room (Nat.le_of_ble_eq_true rfl)) dX12_goShip_48 ⟨Nat.le_of_ble_eq_true rfl, Nat.le_of_ble_eq_true rfl⟩) hS (fun q _ h => hFc q h) hFc (fun f45 t H1 locs ht hvm hw44 hB hz1 hk1 hS => ?_)
  refine tn_3 hw44 (fun hT hF46 hw44p => ?_); clear hw44
  have hR := hR.then hF46 (by decide)
  have hP := hB.1; rw [ht] at hP; have hD := tp_ad f45 hD; clear hB hFc hz1 hk1; subst ht; generalize t.heap = H at hP hS ⊢
  obtain ⟨hJ, hw44pe⟩ := hw44p
  refine tpk_32 hT y1 (fun g48 hf_o47 => ?_)
  have hI : mo_RI v.toInt 0 (mo_R g48) := by have q9 := hJ; rw [hf_o47, mo_i1] at q9; exact q9
  rw [hf_o26, mo_i1] at hw44pe
  rw [hf_o47, mo_i1] at hw44pe
  have pn49 : mo_R g48 (1) = n1 := (hw44pe.1).trans en1.symm
  have pn50 : mo_R g48 (11) = n11 := (hw44pe.2.1).trans en11.symm
  refine lv_aload_n hx hb dX12_goShip_51 rfl (lv_at hl 2 rfl) ?_
  have hf_51 : f45 h0 = .inr (12, [.int o30_x0, .int o30_x1, .ref (ρ h0 2), .ref (ρ h0 3), .ref (ρ h0 4), .ref (ρ h0 5), .ref (ρ h0 6), .int o30_x7, .ref (ρ h0 8), .int o30_x9, .int o30_x10, .int o30_x11, .int o30_x12, .long o30_x13, .int o30_x14, .int o30_x15, .int o30_x16, .int o30_x17, .int o30_x18, .int o30_x19, .int o30_x20, .ref (ρ h0 21), .int o30_x22, .ref (ρ h0 23), .ref (ρ h0 24), .int o30_x25, .ref (ρ h0 26), .ref (ρ h0 27), .int o30_x28, .int o30_x29, .ref (ρ h0 30), .ref (ρ h0 31), .int o30_x32, .long o30_x33, .long o30_x34, .long o30_x35, .int o30_x36, .int o30_x37, .int o30_x38, .ref (ρ h0 39), .ref (ρ h0 40), .ref (ρ h0 41), .ref (ρ h0 42), .ref (ρ h0 43), .ref (ρ h0 44), .ref (ρ h0 45), .ref (ρ h0 46), .int o30_x47, .int o30_x48, .ref (ρ h0 49), .ref (ρ h0 50), .ref (ρ h0 51), .ref (ρ h0 52)]) := (hF46 _ (by rw [ht_h0]; decide)).trans hf_o30
  refine tpk_pos (tp_in hG ht_h0 (by decide)) hf_51 (fun q52 eq52 => ?_)
  refine va_get (D := (dC, dI)) (ci := 12) (v := .ref (ρ h0 2)) (C := RX12) (T := TX12) (N := 53) hx hb hts hfX12 hown hK hP q52 eq52 rfl 2 (by decide) (hts (.fieldLink RX12 7 "ColdShipsModel" "row" "[I") wa_148) (fun _ h9 => h9) rfl dX12_goShip_52 ?_
  refine lv_iload_n hx hb dX12_goShip_55 rfl (lv_at hl 1 rfl) ?_
  refine lv_iconst (v := 5) hx hb dX12_goShip_56 (by decide) ?_
  refine lv_iadd hx hb dX12_goShip_57 ?_
  refine lv_topi (fun z53 ez53 => ?_)
  have iz53 : z53.toInt = r28.toInt + 5 := zi_add ez53 rfl rfl (by omega) (by omega)
  refine lv_dup2_11 hx hb dX12_goShip_58 rfl rfl ?_
  refine tpk_pos (tp_in hG y1 (by decide)) hf_o47 (fun q54 eq54 => ?_)
  refine va_iald hx hb hK hP q54 0 eq54 rfl (vp_in_iff.mpr ⟨by omega, by omega⟩) dX12_goShip_59 ?_
  refine lv_topi (fun z55 ez55 => ?_)
  have jz55 : z55.toInt = mo_R g48 (547 + 84 * v.toInt + 5) := mo_rd ez55 (by omega)
  have kz55 := hI.V (s := v.toInt) (by omega) (by omega)
  refine lv_iload hx hb dX12_goShip_60 (lv_at hl 0 rfl) ?_
  refine lv_iadd hx hb dX12_goShip_62 ?_
  refine lv_topi (fun z56 ez56 => ?_)
  have iz56 : z56.toInt = z55.toInt + z42.toInt := zi_add ez56 rfl rfl (by omega) (by omega)
  refine va_iast hx hb hK hP hD hS q54 0 eq54 rfl (vp_in_iff.mpr ⟨by omega, by omega⟩) dX12_goShip_63 (tp_k (.inl (κ 0, 12967, .inl (upd g48 z53.toNatClampNeg z56))) hD (tp_in hG y1 (by decide)) eq54 (fun f57 H locs hP hD hS g59 k58 => ?_))
  have hT := hT.up y1 g59 k58 tp_o32
  have hR := hR.up y1 (by decide) k58
  have hU : mo_U (mo_R g48) (mo_R (upd g48 z53.toNatClampNeg z56)) (547 + 84 * v.toInt + 5) (z56.toInt) := mo_up (by omega) (rfl : z56.toInt = _) (by omega)
  generalize (upd g48 z53.toNatClampNeg z56) = g60 at g59 hU
  have hI := mo_w_VAP (hI.xb (y := v.toInt) (a := 300) (by intro s9 h0 h1 h2 h3; constructor <;> omega)) hU v.toInt (by omega) (by omega) (by omega)
  have pn61 : mo_R g60 (1) = n1 := (hU.ne (by omega) (by omega)).trans pn49
  have pn62 : mo_R g60 (11) = n11 := (hU.ne (by omega) (by omega)).trans pn50
  have pn63 : mo_R g60 (547 + 84 * v.toInt + 5) = z56.toInt := hU.eq (by omega)
  refine lv_aload_n hx hb dX12_goShip_64 rfl (lv_at hl 2 rfl) ?_
  have hf_64 : f57 h0 = .inr (12, [.int o30_x0, .int o30_x1, .ref (ρ h0 2), .ref (ρ h0 3), .ref (ρ h0 4), .ref (ρ h0 5), .ref (ρ h0 6), .int o30_x7, .ref (ρ h0 8), .int o30_x9, .int o30_x10, .int o30_x11, .int o30_x12, .long o30_x13, .int o30_x14, .int o30_x15, .int o30_x16, .int o30_x17, .int o30_x18, .int o30_x19, .int o30_x20, .ref (ρ h0 21), .int o30_x22, .ref (ρ h0 23), .ref (ρ h0 24), .int o30_x25, .ref (ρ h0 26), .ref (ρ h0 27), .int o30_x28, .int o30_x29, .ref (ρ h0 30), .ref (ρ h0 31), .int o30_x32, .long o30_x33, .long o30_x34, .long o30_x35, .int o30_x36, .int o30_x37, .int o30_x38, .ref (ρ h0 39), .ref (ρ h0 40), .ref (ρ h0 41), .ref (ρ h0 42), .ref (ρ h0 43), .ref (ρ h0 44), .ref (ρ h0 45), .ref (ρ h0 46), .int o30_x47, .int o30_x48, .ref (ρ h0 49), .ref (ρ h0 50), .ref (ρ h0 51), .ref (ρ h0 52)]) := (k58 _ (tp_ne ht_h0 y1 (by decide))).trans hf_51
  refine tpk_pos (tp_in hG ht_h0 (by decide)) hf_64 (fun q65 eq65 => ?_)
  refine va_get (D := (dC, dI)) (ci := 12) (v := .ref (ρ h0 2)) (C := RX12) (T := TX12) (N := 53) hx hb hts hfX12 hown hK hP q65 eq65 rfl 2 (by decide) (hts (.fieldLink RX12 7 "ColdShipsModel" "row" "[I") wa_148) (fun _ h9 => h9) rfl dX12_goShip_65 ?_
  refine lv_iload_n hx hb dX12_goShip_68 rfl (lv_at hl 1 rfl) ?_
  refine lv_iconst (v := 4) hx hb dX12_goShip_69 (by decide) ?_
  refine lv_iadd hx hb dX12_goShip_70 ?_
  refine lv_topi (fun z66 ez66 => ?_)
  have iz66 : z66.toInt = r28.toInt + 4 := zi_add ez66 rfl rfl (by omega) (by omega)
  refine tpk_pos (tp_in hG y1 (by decide)) g59 (fun q67 eq67 => ?_)
  refine va_iald hx hb hK hP q67 0 eq67 rfl (vp_in_iff.mpr ⟨by omega, by omega⟩) dX12_goShip_71 ?_
  refine lv_topi (fun z68 ez68 => ?_)
  have := hI.GC (s := v.toInt) (by omega) (by omega)
  have jz68 : z68.toInt = mo_R g60 (547 + 84 * v.toInt + 4) := mo_rd ez68 (by omega)
  have kz68 := hI.GG (s := v.toInt) (by omega) (by omega)
  refine lv_aload_n hx hb dX12_goShip_72 rfl (lv_at hl 2 rfl) ?_
  refine lv_iload_n hx hb dX12_goShip_73 rfl (lv_at hl 1 rfl) ?_
  refine pz_calli (va_runV (As := [.int r28]) (rest := [.int z68]) ⟨hx, hb, hml, hown, hts⟩ (t_X12_heelOf l dC dI _ κ τ ν ρ L f57 hG hT h0 r28 v.toInt 300 v.toInt ht_h0 (by omega) (by omega) (by omega) (by rw [g59, mo_i1]; exact hI) (by first | (simp only [g59, hf_o26, mo_i1]; omega) | (simp only [g59, hf_o26, mo_i1]; trivial) | (simp only [g59, hf_o26, mo_i1]; done) | omega)) (cwV 1 hts gX12_goShip_X12_heelOf rfl rfl rfl ⟨rfl, pd_X12_heelOf⟩ ⟨Nat.le_of_ble_eq_true rfl, Nat.le_of_ble_eq_true rfl⟩) ⟨pz_blind, va_recv hK hP (ci := 12) (q0 := q65) rfl eq65, pz_pre hP hK hD hN⟩ rfl rfl hl.1 rfl (lv_room (Nat.le_of_ble_eq_true rfl)) dX12_goShip_74 ⟨Nat.le_of_ble_eq_true rfl, Nat.le_of_ble_eq_true rfl⟩) (fun r69 hw70 => ?_)
  obtain ⟨hw70r, hw70p⟩ := hw70
  refine tp_join 251 (fun H locs ls stk => ∃ f72 : Nat → va_E, stk = [] ∧ tp_T (mo_O κ) κ τ ν ρ f72 ∧ tp_F τ [13, 32, 35, 36] f f72 ∧ ((mo_RI v.toInt 300 (mo_R (mo_i (f72 (ρ h0 2)))))) ∧ (((mo_R (mo_i (f72 (ρ h0 2)))) (1) = n1)) ∧ (((mo_R (mo_i (f72 (ρ h0 2)))) (11) = n11)) ∧ va_P (dC, dI) vwCl (va_pl L f72) H ∧ va_D A (va_pl L f72) ∧ va_S A s.heap H locs ∧ lv_has ls 7 [(4, .int z42), (3, .int r28), (0, .ref h0), (1, .int v), (2, .int u)]) ?_ (fun hj71 => ?_)
  · intro H locs ls stk hI
    refine Exists.elim hI (fun f72 hE90 => tn_10 hE90 (fun e90 hT hR hJ jf74 jf75 hP hD hS hl => ?_))
    clear hE90 hI; subst e90
    refine tpk_32 hT y1 (fun g77 hf_o76 => ?_)
    have hI : mo_RI v.toInt 300 (mo_R g77) := by have q9 := hJ; rw [hf_o76, mo_i1] at q9; exact q9
    rw [hf_o76, mo_i1] at jf74
    rw [hf_o76, mo_i1] at jf75
    refine lv_aload_n hx hb dX12_goShip_251 rfl (lv_at hl 2 rfl) ?_
    refine lv_iload_n hx hb dX12_goShip_252 rfl (lv_at hl 1 rfl) ?_
    refine tpk_13 hT ht_h0 (fun o78_x0 o78_x1 o78_x7 o78_x9 o78_x10 o78_x11 o78_x12 o78_x13 o78_x14 o78_x15 o78_x16 o78_x17 o78_x18 o78_x19 o78_x20 o78_x22 o78_x25 o78_x28 o78_x29 o78_x32 o78_x33 o78_x34 o78_x35 o78_x36 o78_x37 o78_x38 o78_x47 o78_x48 hf_o78 ro78_0 ro78_1 ro78_2 ro78_3 ro78_4 ro78_5 ro78_6 ro78_7 ro78_8 ro78_9 ro78_10 ro78_11 ro78_12 ro78_13 => ?_)
    refine tpk_pos (tp_in hG ht_h0 (by decide)) hf_o78 (fun q79 eq79 => ?_)
    have hFc := tp_fr hD hS hA
    refine va_callv (va_runV (As := [.int r28]) (rest := []) ⟨hx, hb, hml, hown, hts⟩ (t_X12_burn l dC dI _ κ τ ν ρ L f72 hG hT h0 r28 v.toInt 300 v.toInt ht_h0 (by omega) (by omega) (by omega) (by rw [hf_o76, mo_i1]; exact hI) (by first | (simp only [hf_o76, hf_o26, mo_i1]; omega) | (simp only [hf_o76, hf_o26, mo_i1]; trivial) | (simp only [hf_o76, hf_o26, mo_i1]; done) | omega)) (cwV 1 hts gX12_goShip_X12_burn rfl rfl rfl ⟨rfl, pd_X12_burn⟩ ⟨Nat.le_of_ble_eq_true rfl, Nat.le_of_ble_eq_true rfl⟩) ⟨pz_blind, va_recv hK hP (ci := 12) (q0 := q79) rfl eq79, pz_pre hP hK hD hN⟩ rfl rfl hl.1 rfl (lv_room (Nat.le_of_ble_eq_true rfl)) dX12_goShip_253 ⟨Nat.le_of_ble_eq_true rfl, Nat.le_of_ble_eq_true rfl⟩) hS (fun q _ h => hFc q h) hFc (fun f82 t H1 locs ht hvm hw81 hB hz1 hk1 hS => ?_)
    refine tn_3 hw81 (fun hT hF83 hw81p => ?_); clear hw81
    have hR := hR.then hF83 (by decide)
    have hP := hB.1; rw [ht] at hP; have hD := tp_ad f82 hD; clear hB hFc hz1 hk1; subst ht; generalize t.heap = H at hP hS ⊢
    obtain ⟨hJ, hw81pe⟩ := hw81p
    refine tpk_32 hT y1 (fun g85 hf_o84 => ?_)
    have hI : mo_RI v.toInt 300 (mo_R g85) := by have q9 := hJ; rw [hf_o84, mo_i1] at q9; exact q9
    rw [hf_o76, mo_i1] at hw81pe
    rw [hf_o84, mo_i1] at hw81pe
    have pn86 : mo_R g85 (1) = n1 := (hw81pe.1).trans jf74
    have pn87 : mo_R g85 (11) = n11 := (hw81pe.2).trans jf75
    refine lv_aload_n hx hb dX12_goShip_256 rfl (lv_at hl 2 rfl) ?_
    have hf_88 : f82 h0 = .inr (12, [.int o78_x0, .int o78_x1, .ref (ρ h0 2), .ref (ρ h0 3), .ref (ρ h0 4), .ref (ρ h0 5), .ref (ρ h0 6), .int o78_x7, .ref (ρ h0 8), .int o78_x9, .int o78_x10, .int o78_x11, .int o78_x12, .long o78_x13, .int o78_x14, .int o78_x15, .int o78_x16, .int o78_x17, .int o78_x18, .int o78_x19, .int o78_x20, .ref (ρ h0 21), .int o78_x22, .ref (ρ h0 23), .ref (ρ h0 24), .int o78_x25, .ref (ρ h0 26), .ref (ρ h0 27), .int o78_x28, .int o78_x29, .ref (ρ h0 30), .ref (ρ h0 31), .int o78_x32, .long o78_x33, .long o78_x34, .long o78_x35, .int o78_x36, .int o78_x37, .int o78_x38, .ref (ρ h0 39), .ref (ρ h0 40), .ref (ρ h0 41), .ref (ρ h0 42), .ref (ρ h0 43), .ref (ρ h0 44), .ref (ρ h0 45), .ref (ρ h0 46), .int o78_x47, .int o78_x48, .ref (ρ h0 49), .ref (ρ h0 50), .ref (ρ h0 51), .ref (ρ h0 52)]) := (hF83 _ (by rw [ht_h0]; decide)).trans hf_o78
    refine tpk_pos (tp_in hG ht_h0 (by decide)) hf_88 (fun q89 eq89 => ?_)
    refine va_get (D := (dC, dI)) (ci := 12) (v := .ref (ρ h0 2)) (C := RX12) (T := TX12) (N := 53) hx hb hts hfX12 hown hK hP q89 eq89 rfl 2 (by decide) (hts (.fieldLink RX12 7 "ColdShipsModel" "row" "[I") wa_148) (fun _ h9 => h9) rfl dX12_goShip_257 ?_
    refine lv_iload_n hx hb dX12_goShip_260 rfl (lv_at hl 1 rfl) ?_
    refine lv_bipush (v := 10) hx hb dX12_goShip_261 (by decide) ?_
    refine lv_iadd hx hb dX12_goShip_263 ?_
    refine lv_topi (fun z90 ez90 => ?_)
    have iz90 : z90.toInt = r28.toInt + 10 := zi_add ez90 rfl rfl (by omega) (by omega)
    refine tpk_pos (tp_in hG y1 (by decide)) hf_o84 (fun q91 eq91 => ?_)
    refine va_iald hx hb hK hP q91 0 eq91 rfl (vp_in_iff.mpr ⟨by omega, by omega⟩) dX12_goShip_264 ?_
    refine lv_topi (fun z92 ez92 => ?_)
    have jz92 : z92.toInt = mo_R g85 (547 + 84 * v.toInt + 10) := mo_rd ez92 (by omega)
    have kz92 := hI.SO (s := v.toInt) (by omega) (by omega)
    refine tp_join 275 (fun H locs ls stk => ∃ f94 : Nat → va_E, stk = [] ∧ tp_T (mo_O κ) κ τ ν ρ f94 ∧ tp_F τ [13, 32, 35, 36] f f94 ∧ ((mo_RI v.toInt 300 (mo_R (mo_i (f94 (ρ h0 2)))))) ∧ (((mo_R (mo_i (f94 (ρ h0 2)))) (1) = n1)) ∧ (((mo_R (mo_i (f94 (ρ h0 2)))) (11) = n11)) ∧ va_P (dC, dI) vwCl (va_pl L f94) H ∧ va_D A (va_pl L f94) ∧ va_S A s.heap H locs ∧ lv_has ls 7 [(4, .int z42), (3, .int r28), (0, .ref h0), (1, .int v), (2, .int u)]) ?_ (fun hj93 => ?_)
    · intro H locs ls stk hI
      refine Exists.elim hI (fun f94 hE90 => tn_10 hE90 (fun e90 hT hR hJ jf96 jf97 hP hD hS hl => ?_))
      clear hE90 hI; subst e90
      refine tpk_32 hT y1 (fun g99 hf_o98 => ?_)
      have hI : mo_RI v.toInt 300 (mo_R g99) := by have q9 := hJ; rw [hf_o98, mo_i1] at q9; exact q9
      rw [hf_o98, mo_i1] at jf96
      rw [hf_o98, mo_i1] at jf97
      refine lv_aload_n hx hb dX12_goShip_275 rfl (lv_at hl 2 rfl) ?_
      refine tpk_13 hT ht_h0 (fun o100_x0 o100_x1 o100_x7 o100_x9 o100_x10 o100_x11 o100_x12 o100_x13 o100_x14 o100_x15 o100_x16 o100_x17 o100_x18 o100_x19 o100_x20 o100_x22 o100_x25 o100_x28 o100_x29 o100_x32 o100_x33 o100_x34 o100_x35 o100_x36 o100_x37 o100_x38 o100_x47 o100_x48 hf_o100 ro100_0 ro100_1 ro100_2 ro100_3 ro100_4 ro100_5 ro100_6 ro100_7 ro100_8 ro100_9 ro100_10 ro100_11 ro100_12 ro100_13 => ?_)
      refine tpk_pos (tp_in hG ht_h0 (by decide)) hf_o100 (fun q101 eq101 => ?_)
      refine va_get (D := (dC, dI)) (ci := 12) (v := .ref (ρ h0 2)) (C := RX12) (T := TX12) (N := 53) hx hb hts hfX12 hown hK hP q101 eq101 rfl 2 (by decide) (hts (.fieldLink RX12 7 "ColdShipsModel" "row" "[I") wa_148) (fun _ h9 => h9) rfl dX12_goShip_276 ?_
      refine lv_bipush (v := 13) hx hb dX12_goShip_279 (by decide) ?_
      refine tpk_pos (tp_in hG y1 (by decide)) hf_o98 (fun q102 eq102 => ?_)
      refine va_iald hx hb hK hP q102 0 eq102 rfl (vp_in_iff.mpr ⟨by decide, by decide⟩) dX12_goShip_281 ?_
      refine lv_topi (fun z103 ez103 => ?_)
      have jz103 : z103.toInt = mo_R g99 (13) := mo_rd ez103 (show (13 : Int32).toInt = (13) from by decide)
      have kz103 := hI.k13
      refine lv_i2l hx hb dX12_goShip_282 rfl ?_
      refine lv_lconst (v := 1) hx hb dX12_goShip_283 (by decide) ?_
      refine lv_ladd hx hb dX12_goShip_284 ?_
      refine lv_topl (fun z104 ez104 => ?_)
      have iz104 : z104.toInt = z103.toInt + 1 := zl_add ez104 (Int32.toInt_toInt64 z103) rfl (by omega) (by omega)
      refine lv_aload_n hx hb dX12_goShip_285 rfl (lv_at hl 2 rfl) ?_
      refine lv_iload_n hx hb dX12_goShip_286 rfl (lv_at hl 1 rfl) ?_
      refine pz_calli (va_runV (As := [.int r28]) (rest := [.long z104]) ⟨hx, hb, hml, hown, hts⟩ (t_X12_roomOf l dC dI _ κ τ ν ρ L f94 hG hT h0 r28 v.toInt 300 v.toInt ht_h0 (by omega) (by omega) (by omega) (by rw [hf_o98, mo_i1]; exact hI) (by first | (simp only [hf_o98, hf_o26, mo_i1]; omega) | (simp only [hf_o98, hf_o26, mo_i1]; trivial) | (simp only [hf_o98, hf_o26, mo_i1]; done) | omega)) (cwV 1 hts gX12_goShip_X12_roomOf rfl rfl rfl ⟨rfl, pd_X12_roomOf⟩ ⟨Nat.le_of_ble_eq_true rfl, Nat.le_of_ble_eq_true rfl⟩) ⟨pz_blind, va_recv hK hP (ci := 12) (q0 := q101) rfl eq101, pz_pre hP hK hD hN⟩ rfl rfl hl.1 rfl (lv_room (Nat.le_of_ble_eq_true rfl)) dX12_goShip_287 ⟨Nat.le_of_ble_eq_true rfl, Nat.le_of_ble_eq_true rfl⟩) (fun r105 hw106 => ?_)
      obtain ⟨hw106r, hw106p⟩ := hw106
      refine lv_i2l hx hb dX12_goShip_290 rfl ?_
      refine lv_lmul hx hb dX12_goShip_291 ?_
      refine lv_topl (fun z107 ez107 => ?_)
      have iz107 := zl_mulb ez107 (rfl : z104.toInt = _) (Int32.toInt_toInt64 r105) 1001 202000 (by omega) (by omega) (by omega) (by omega) (by decide)
      refine lv_lconst (v := 1) hx hb dX12_goShip_292 (by decide) ?_
      refine lv_lsub hx hb dX12_goShip_293 ?_
      refine lv_topl (fun z108 ez108 => ?_)
      have iz108 : z108.toInt = z107.toInt - 1 := zl_sub ez108 rfl rfl (by omega) (by omega)
      refine lv_ldc2 (own := RX12) (v := 1000) hx hb hown (hts (.constantLong RX12 122 (1000)) wa_271) dX12_goShip_294 ?_
      refine lv_ldiv hx hb dX12_goShip_297 (by decide) ?_
      refine lv_topl (fun z109 ez109 => ?_)
      have iz109 : z109.toInt = z108.toInt / 1000 := zl_div ez109 (rfl : z108.toInt = _) (show (1000 : Int64).toInt = 1000 from rfl) (by omega) (by decide)
      refine lv_lstore (lv' := [(5, .long z109), (4, .int z42), (3, .int r28), (0, .ref h0), (1, .int v), (2, .int u)]) hx hb dX12_goShip_298 hl (by decide) rfl (fun ls hl => ?_)
      refine lv_aload_n hx hb dX12_goShip_300 rfl (lv_at hl 3 rfl) ?_
      refine va_get (D := (dC, dI)) (ci := 12) (v := .ref (ρ h0 2)) (C := RX12) (T := TX12) (N := 53) hx hb hts hfX12 hown hK hP q101 eq101 rfl 2 (by decide) (hts (.fieldLink RX12 7 "ColdShipsModel" "row" "[I") wa_148) (fun _ h9 => h9) rfl dX12_goShip_301 ?_
      refine lv_iload_n hx hb dX12_goShip_304 rfl (lv_at hl 2 rfl) ?_
      refine lv_iconst (v := 5) hx hb dX12_goShip_305 (by decide) ?_
      refine lv_iadd hx hb dX12_goShip_306 ?_
      refine lv_topi (fun z110 ez110 => ?_)
      have iz110 : z110.toInt = r28.toInt + 5 := zi_add ez110 rfl rfl (by omega) (by omega)
      refine va_iald hx hb hK hP q102 0 eq102 rfl (vp_in_iff.mpr ⟨by omega, by omega⟩) dX12_goShip_307 ?_
      refine lv_topi (fun z111 ez111 => ?_)
      have jz111 : z111.toInt = mo_R g99 (547 + 84 * v.toInt + 5) := mo_rd ez111 (by omega)
      have kz111 := hI.V (s := v.toInt) (by omega) (by omega)
      refine lv_i2l hx hb dX12_goShip_308 rfl ?_
      refine lv_lload hx hb dX12_goShip_309 (lv_at hl 0 rfl) ?_
      refine W.lcmp hx hb dX12_goShip_311 ?_
      refine lv_if_le (tgt := 352) hx hb dX12_goShip_312 (by decide) (fun c112 => ?_) (fun c112 => ?_)
      · have ic112 : z111.toInt ≤ z109.toInt := zl_le (Int32.toInt_toInt64 z111) rfl c112
        have hI := hI.xb (y := -1) (a := 0) (by intro s9 h0 h1 h2 h3; rcases (show s9 = v.toInt ∨ s9 ≠ v.toInt by omega) with rfl | z <;> constructor <;> omega)
        exact W.vret hx hb hr (fun t ht hW => ⟨⟨f94, rfl, ⟨hT, hR, ⟨(by rw [hf_o98, mo_i1]; exact hI), (by first | (simp only [hf_o98, hf_o26, mo_i1]; omega) | (simp only [hf_o98, hf_o26, mo_i1]; trivial) | (simp only [hf_o98, hf_o26, mo_i1]; done) | omega)⟩⟩, by rw [ht]; exact hP, va_K.moved hW.alike hK, hD⟩, hS.F ht⟩) hS.2.2 dX12_goShip_352
      · have ic112 : z111.toInt > z109.toInt := zl_lef (Int32.toInt_toInt64 z111) rfl c112
        refine lv_aload_n hx hb dX12_goShip_315 rfl (lv_at hl 3 rfl) ?_
        refine va_get (D := (dC, dI)) (ci := 12) (v := .ref (ρ h0 2)) (C := RX12) (T := TX12) (N := 53) hx hb hts hfX12 hown hK hP q101 eq101 rfl 2 (by decide) (hts (.fieldLink RX12 7 "ColdShipsModel" "row" "[I") wa_148) (fun _ h9 => h9) rfl dX12_goShip_316 ?_
        refine lv_iload_n hx hb dX12_goShip_319 rfl (lv_at hl 2 rfl) ?_
        refine lv_bipush (v := 12) hx hb dX12_goShip_320 (by decide) ?_
        refine lv_iadd hx hb dX12_goShip_322 ?_
        refine lv_topi (fun z113 ez113 => ?_)
        have iz113 : z113.toInt = r28.toInt + 12 := zi_add ez113 rfl rfl (by omega) (by omega)
        refine lv_iconst (v := 2) hx hb dX12_goShip_323 (by decide) ?_
        refine lv_iadd hx hb dX12_goShip_324 ?_
        refine lv_topi (fun z114 ez114 => ?_)
        have iz114 : z114.toInt = z113.toInt + 2 := zi_add ez114 rfl rfl (by omega) (by omega)
        refine lv_dup2_11 hx hb dX12_goShip_325 rfl rfl ?_
        refine va_iald hx hb hK hP q102 0 eq102 rfl (vp_in_iff.mpr ⟨by omega, by omega⟩) dX12_goShip_326 ?_
        refine lv_topi (fun z115 ez115 => ?_)
        refine lv_aload_n hx hb dX12_goShip_327 rfl (lv_at hl 3 rfl) ?_
        refine va_get (D := (dC, dI)) (ci := 12) (v := .ref (ρ h0 2)) (C := RX12) (T := TX12) (N := 53) hx hb hts hfX12 hown hK hP q101 eq101 rfl 2 (by decide) (hts (.fieldLink RX12 7 "ColdShipsModel" "row" "[I") wa_148) (fun _ h9 => h9) rfl dX12_goShip_328 ?_
        refine lv_iload_n hx hb dX12_goShip_331 rfl (lv_at hl 2 rfl) ?_
        refine lv_iconst (v := 5) hx hb dX12_goShip_332 (by decide) ?_
        refine lv_iadd hx hb dX12_goShip_333 ?_
        refine lv_topi (fun z116 ez116 => ?_)
        have iz116 : z116.toInt = r28.toInt + 5 := zi_add ez116 rfl rfl (by omega) (by omega)
        refine va_iald hx hb hK hP q102 0 eq102 rfl (vp_in_iff.mpr ⟨by omega, by omega⟩) dX12_goShip_334 ?_
        refine lv_topi (fun z117 ez117 => ?_)
        have jz117 : z117.toInt = mo_R g99 (547 + 84 * v.toInt + 5) := mo_rd ez117 (by omega)
        have kz117 := hI.V (s := v.toInt) (by omega) (by omega)
        have vz117 : z117.toInt = z111.toInt := jz117.trans (jz111).symm
        refine lv_lload hx hb dX12_goShip_335 (lv_at hl 0 rfl) ?_
        refine lv_l2i hx hb dX12_goShip_337 rfl ?_
        refine lv_topi (fun z118 ez118 => ?_)
        have iz118 : z118.toInt = z109.toInt := zi_l2i ez118 (rfl : z109.toInt = _) (by omega) (by omega)
        refine lv_isub hx hb dX12_goShip_338 ?_
        refine lv_topi (fun z119 ez119 => ?_)
        have iz119 : z119.toInt = z111.toInt - z118.toInt := zi_sub ez119 vz117 rfl (by omega) (by omega)
        refine lv_iadd hx hb dX12_goShip_339 ?_
        refine lv_topi (fun z120 ez120 => ?_)
        refine va_iast hx hb hK hP hD hS q102 0 eq102 rfl (vp_in_iff.mpr ⟨by omega, by omega⟩) dX12_goShip_340 (tp_k (.inl (κ 0, 12967, .inl (upd g99 z114.toNatClampNeg z120))) hD (tp_in hG y1 (by decide)) eq102 (fun f121 H locs hP hD hS g123 k122 => ?_))
        have hT := hT.up y1 g123 k122 tp_o32
        have hR := hR.up y1 (by decide) k122
        have hU : mo_U (mo_R g99) (mo_R (upd g99 z114.toNatClampNeg z120)) (547 + 84 * v.toInt + 14) (z120.toInt) := mo_up (by omega) (rfl : z120.toInt = _) (by omega)
        generalize (upd g99 z114.toNatClampNeg z120) = g124 at g123 hU
        have hI := mo_w_sfree hI hU v.toInt 14 (by omega) (by omega) (by omega)
        have pn125 : mo_R g124 (1) = n1 := (hU.ne (by omega) (by omega)).trans jf96
        have pn126 : mo_R g124 (11) = n11 := (hU.ne (by omega) (by omega)).trans jf97
        have pn127 : mo_R g124 (547 + 84 * v.toInt + 5) = z111.toInt := (hU.ne (by omega) (by omega)).trans (jz111).symm
        refine lv_aload_n hx hb dX12_goShip_341 rfl (lv_at hl 3 rfl) ?_
        have hf_128 : f121 h0 = .inr (12, [.int o100_x0, .int o100_x1, .ref (ρ h0 2), .ref (ρ h0 3), .ref (ρ h0 4), .ref (ρ h0 5), .ref (ρ h0 6), .int o100_x7, .ref (ρ h0 8), .int o100_x9, .int o100_x10, .int o100_x11, .int o100_x12, .long o100_x13, .int o100_x14, .int o100_x15, .int o100_x16, .int o100_x17, .int o100_x18, .int o100_x19, .int o100_x20, .ref (ρ h0 21), .int o100_x22, .ref (ρ h0 23), .ref (ρ h0 24), .int o100_x25, .ref (ρ h0 26), .ref (ρ h0 27), .int o100_x28, .int o100_x29, .ref (ρ h0 30), .ref (ρ h0 31), .int o100_x32, .long o100_x33, .long o100_x34, .long o100_x35, .int o100_x36, .int o100_x37, .int o100_x38, .ref (ρ h0 39), .ref (ρ h0 40), .ref (ρ h0 41), .ref (ρ h0 42), .ref (ρ h0 43), .ref (ρ h0 44), .ref (ρ h0 45), .ref (ρ h0 46), .int o100_x47, .int o100_x48, .ref (ρ h0 49), .ref (ρ h0 50), .ref (ρ h0 51), .ref (ρ h0 52)]) := (k122 _ (tp_ne ht_h0 y1 (by decide))).trans hf_o100
        refine tpk_pos (tp_in hG ht_h0 (by decide)) hf_128 (fun q129 eq129 => ?_)
        refine va_get (D := (dC, dI)) (ci := 12) (v := .ref (ρ h0 2)) (C := RX12) (T := TX12) (N := 53) hx hb hts hfX12 hown hK hP q129 eq129 rfl 2 (by decide) (hts (.fieldLink RX12 7 "ColdShipsModel" "row" "[I") wa_148) (fun _ h9 => h9) rfl dX12_goShip_342 ?_
        refine lv_iload_n hx hb dX12_goShip_345 rfl (lv_at hl 2 rfl) ?_
        refine lv_iconst (v := 5) hx hb dX12_goShip_346 (by decide) ?_
        refine lv_iadd hx hb dX12_goShip_347 ?_
        refine lv_topi (fun z130 ez130 => ?_)
        have iz130 : z130.toInt = r28.toInt + 5 := zi_add ez130 rfl rfl (by omega) (by omega)
        refine lv_lload hx hb dX12_goShip_348 (lv_at hl 0 rfl) ?_
        refine lv_l2i hx hb dX12_goShip_350 rfl ?_
        refine lv_topi (fun z131 ez131 => ?_)
        have iz131 : z131.toInt = z109.toInt := zi_l2i ez131 (rfl : z109.toInt = _) (by omega) (by omega)
        refine tpk_pos (tp_in hG y1 (by decide)) g123 (fun q132 eq132 => ?_)
        refine va_iast hx hb hK hP hD hS q132 0 eq132 rfl (vp_in_iff.mpr ⟨by omega, by omega⟩) dX12_goShip_351 (tp_k (.inl (κ 0, 12967, .inl (upd g124 z130.toNatClampNeg z131))) hD (tp_in hG y1 (by decide)) eq132 (fun f133 H locs hP hD hS g135 k134 => ?_))
        have hT := hT.up y1 g135 k134 tp_o32
        have hR := hR.up y1 (by decide) k134
        have hU : mo_U (mo_R g124) (mo_R (upd g124 z130.toNatClampNeg z131)) (547 + 84 * v.toInt + 5) (z131.toInt) := mo_up (by omega) (rfl : z131.toInt = _) (by omega)
        generalize (upd g124 z130.toNatClampNeg z131) = g136 at g135 hU
        have hI := mo_w_VAP hI hU v.toInt (by omega) (by omega) (by omega)
        have pn137 : mo_R g136 (1) = n1 := (hU.ne (by omega) (by omega)).trans pn125
        have pn138 : mo_R g136 (11) = n11 := (hU.ne (by omega) (by omega)).trans pn126
        have pn139 : mo_R g136 (547 + 84 * v.toInt + 5) = z131.toInt := hU.eq (by omega)
        have hI := hI.xb (y := -1) (a := 0) (by intro s9 h0 h1 h2 h3; rcases (show s9 = v.toInt ∨ s9 ≠ v.toInt by omega) with rfl | z <;> constructor <;> omega)
        exact W.vret hx hb hr (fun t ht hW => ⟨⟨f133, rfl, ⟨hT, hR, ⟨(by rw [g135, mo_i1]; exact hI), (by first | (simp only [g135, hf_o26, mo_i1]; omega) | (simp only [g135, hf_o26, mo_i1]; trivial) | (simp only [g135, hf_o26, mo_i1]; done) | omega)⟩⟩, by rw [ht]; exact hP, va_K.moved hW.alike hK, hD⟩, hS.F ht⟩) hS.2.2 dX12_goShip_352
    · refine lv_if_le (tgt := 275) hx hb dX12_goShip_265 (by decide) (fun c140 => ?_) (fun c140 => ?_)
      · have ic140 : z92.toInt ≤ 0 := zi_le rfl rfl c140
        exact hj93 _ _ _ _ ⟨f82, rfl, hT, hR, (by rw [hf_o84, mo_i1]; exact hI), (by rw [hf_o84, mo_i1]; omega), (by rw [hf_o84, mo_i1]; omega), hP, hD, hS, lv_sub hl [0, 1, 2, 3, 4] rfl⟩
      · have ic140 : z92.toInt > 0 := zi_lef rfl rfl c140
        refine lv_aload_n hx hb dX12_goShip_268 rfl (lv_at hl 2 rfl) ?_
        refine lv_iload_n hx hb dX12_goShip_269 rfl (lv_at hl 3 rfl) ?_
        refine lv_iload_n hx hb dX12_goShip_270 rfl (lv_at hl 1 rfl) ?_
        refine lv_iload_n hx hb dX12_goShip_271 rfl (lv_at hl 4 rfl) ?_
        have hFc := tp_fr hD hS hA
        refine va_callv (va_runV (As := [.int v, .int r28, .int u]) (rest := []) ⟨hx, hb, hml, hown, hts⟩ (t_X12_doOrder l dC dI _ κ τ ν ρ L f82 hG hT h0 v r28 u v.toInt 300 v.toInt ht_h0 (by first | decide | omega) (by omega) (by omega) (by omega) (by rw [hf_o84, mo_i1]; exact hI) (by omega) (by first | (simp only [hf_o84, hf_o26, mo_i1]; omega) | (simp only [hf_o84, hf_o26, mo_i1]; trivial) | (simp only [hf_o84, hf_o26, mo_i1]; done) | omega) (by first | (simp only [hf_o84, hf_o26, mo_i1]; omega) | (simp only [hf_o84, hf_o26, mo_i1]; trivial) | (simp only [hf_o84, hf_o26, mo_i1]; done) | omega)) (cwV 3 hts gX12_goShip_X12_doOrder rfl rfl rfl ⟨rfl, pd_X12_doOrder⟩ ⟨Nat.le_of_ble_eq_true rfl, Nat.le_of_ble_eq_true rfl⟩) ⟨pz_blind, va_recv hK hP (ci := 12) (q0 := q89) rfl eq89, pz_pre hP hK hD hN⟩ rfl rfl hl.1 rfl (lv_room (Nat.le_of_ble_eq_true rfl)) dX12_goShip_272 ⟨Nat.le_of_ble_eq_true rfl, Nat.le_of_ble_eq_true rfl⟩) hS (fun q _ h => hFc q h) hFc (fun f143 t H1 locs ht hvm hw142 hB hz1 hk1 hS => ?_)
        refine tn_3 hw142 (fun hT hF144 hw142p => ?_); clear hw142
        have hR := hR.then hF144 (by decide)
        have hP := hB.1; rw [ht] at hP; have hD := tp_ad f143 hD; clear hB hFc hz1 hk1; subst ht; generalize t.heap = H at hP hS ⊢
        obtain ⟨hJ, hw142pe⟩ := hw142p
        refine tpk_32 hT y1 (fun g146 hf_o145 => ?_)
        have hI : mo_RI v.toInt 300 (mo_R g146) := by have q9 := hJ; rw [hf_o145, mo_i1] at q9; exact q9
        rw [hf_o84, mo_i1] at hw142pe
        rw [hf_o145, mo_i1] at hw142pe
        have pn147 : mo_R g146 (1) = n1 := (hw142pe.1).trans pn86
        have pn148 : mo_R g146 (11) = n11 := (hw142pe.2).trans pn87
        exact hj93 _ _ _ _ ⟨f143, rfl, hT, hR, (by rw [hf_o145, mo_i1]; exact hI), (by rw [hf_o145, mo_i1]; omega), (by rw [hf_o145, mo_i1]; omega), hP, hD, hS, lv_sub hl [0, 1, 2, 3, 4] rfl⟩
  · refine lv_icmp_ge (tgt := 126) hx hb dX12_goShip_77 (by decide) (fun c149 => ?_) (fun c149 => ?_)
    · have ic149 : z68.toInt ≥ r69.toInt := zi_ge rfl rfl c149
      refine lv_aload_n hx hb dX12_goShip_126 rfl (lv_at hl 2 rfl) ?_
      refine va_get (D := (dC, dI)) (ci := 12) (v := .ref (ρ h0 2)) (C := RX12) (T := TX12) (N := 53) hx hb hts hfX12 hown hK hP q65 eq65 rfl 2 (by decide) (hts (.fieldLink RX12 7 "ColdShipsModel" "row" "[I") wa_148) (fun _ h9 => h9) rfl dX12_goShip_127 ?_
      refine lv_iload_n hx hb dX12_goShip_130 rfl (lv_at hl 1 rfl) ?_
      refine lv_bipush (v := 6) hx hb dX12_goShip_131 (by decide) ?_
      refine lv_iadd hx hb dX12_goShip_133 ?_
      refine lv_topi (fun z150 ez150 => ?_)
      have iz150 : z150.toInt = r28.toInt + 6 := zi_add ez150 rfl rfl (by omega) (by omega)
      refine va_iald hx hb hK hP q67 0 eq67 rfl (vp_in_iff.mpr ⟨by omega, by omega⟩) dX12_goShip_134 ?_
      refine lv_topi (fun z151 ez151 => ?_)
      have jz151 : z151.toInt = mo_R g60 (547 + 84 * v.toInt + 6) := mo_rd ez151 (by omega)
      refine lv_if_le (tgt := 251) hx hb dX12_goShip_135 (by decide) (fun c152 => ?_) (fun c152 => ?_)
      · have ic152 : z151.toInt ≤ 0 := zi_le rfl rfl c152
        exact hj71 _ _ _ _ ⟨f57, rfl, hT, hR, (by rw [g59, mo_i1]; exact hI), (by rw [g59, mo_i1]; omega), (by rw [g59, mo_i1]; omega), hP, hD, hS, lv_sub hl [0, 1, 2, 3, 4] rfl⟩
      · have ic152 : z151.toInt > 0 := zi_lef rfl rfl c152
        refine lv_aload_n hx hb dX12_goShip_138 rfl (lv_at hl 2 rfl) ?_
        refine va_get (D := (dC, dI)) (ci := 12) (v := .ref (ρ h0 2)) (C := RX12) (T := TX12) (N := 53) hx hb hts hfX12 hown hK hP q65 eq65 rfl 2 (by decide) (hts (.fieldLink RX12 7 "ColdShipsModel" "row" "[I") wa_148) (fun _ h9 => h9) rfl dX12_goShip_139 ?_
        refine lv_iload_n hx hb dX12_goShip_142 rfl (lv_at hl 1 rfl) ?_
        refine lv_bipush (v := 6) hx hb dX12_goShip_143 (by decide) ?_
        refine lv_iadd hx hb dX12_goShip_145 ?_
        refine lv_topi (fun z153 ez153 => ?_)
        have iz153 : z153.toInt = r28.toInt + 6 := zi_add ez153 rfl rfl (by omega) (by omega)
        refine va_iald hx hb hK hP q67 0 eq67 rfl (vp_in_iff.mpr ⟨by omega, by omega⟩) dX12_goShip_146 ?_
        refine lv_topi (fun z154 ez154 => ?_)
        have jz154 : z154.toInt = mo_R g60 (547 + 84 * v.toInt + 6) := mo_rd ez154 (by omega)
        have vz154 : z154.toInt = z151.toInt := jz154.trans (jz151).symm
        refine lv_bipush (v := 20) hx hb dX12_goShip_147 (by decide) ?_
        refine lv_icmp_ge (tgt := 164) hx hb dX12_goShip_149 (by decide) (fun c155 => ?_) (fun c155 => ?_)
        · have ic155 : z151.toInt ≥ 20 := zi_ge vz154 rfl c155
          refine lv_bipush (v := 20) hx hb dX12_goShip_164 (by decide) ?_
          refine lv_istore (lv' := [(5, .int 20), (4, .int z42), (3, .int r28), (0, .ref h0), (1, .int v), (2, .int u)]) hx hb dX12_goShip_166 hl (by decide) rfl (fun ls hl => ?_)
          refine lv_aload_n hx hb dX12_goShip_168 rfl (lv_at hl 3 rfl) ?_
          refine va_get (D := (dC, dI)) (ci := 12) (v := .ref (ρ h0 2)) (C := RX12) (T := TX12) (N := 53) hx hb hts hfX12 hown hK hP q65 eq65 rfl 2 (by decide) (hts (.fieldLink RX12 7 "ColdShipsModel" "row" "[I") wa_148) (fun _ h9 => h9) rfl dX12_goShip_169 ?_
          refine lv_iload_n hx hb dX12_goShip_172 rfl (lv_at hl 2 rfl) ?_
          refine lv_bipush (v := 6) hx hb dX12_goShip_173 (by decide) ?_
          refine lv_iadd hx hb dX12_goShip_175 ?_
          refine lv_topi (fun z156 ez156 => ?_)
          have iz156 : z156.toInt = r28.toInt + 6 := zi_add ez156 rfl rfl (by omega) (by omega)
          refine lv_dup2_11 hx hb dX12_goShip_176 rfl rfl ?_
          refine va_iald hx hb hK hP q67 0 eq67 rfl (vp_in_iff.mpr ⟨by omega, by omega⟩) dX12_goShip_177 ?_
          refine lv_topi (fun z157 ez157 => ?_)
          have jz157 : z157.toInt = mo_R g60 (547 + 84 * v.toInt + 6) := mo_rd ez157 (by omega)
          have vz157 : z157.toInt = z151.toInt := jz157.trans (jz151).symm
          refine lv_iload hx hb dX12_goShip_178 (lv_at hl 0 rfl) ?_
          refine lv_isub hx hb dX12_goShip_180 ?_
          refine lv_topi (fun z158 ez158 => ?_)
          have := zi_bd z157
          have iz158 : z158.toInt = z151.toInt - 20 := zi_sub ez158 vz157 rfl (by omega) (by omega)
          refine va_iast hx hb hK hP hD hS q67 0 eq67 rfl (vp_in_iff.mpr ⟨by omega, by omega⟩) dX12_goShip_181 (tp_k (.inl (κ 0, 12967, .inl (upd g60 z156.toNatClampNeg z158))) hD (tp_in hG y1 (by decide)) eq67 (fun f159 H locs hP hD hS g161 k160 => ?_))
          have hT := hT.up y1 g161 k160 tp_o32
          have hR := hR.up y1 (by decide) k160
          have hU : mo_U (mo_R g60) (mo_R (upd g60 z156.toNatClampNeg z158)) (547 + 84 * v.toInt + 6) (z158.toInt) := mo_up (by omega) (rfl : z158.toInt = _) (by omega)
          generalize (upd g60 z156.toNatClampNeg z158) = g162 at g161 hU
          have hI := mo_w_sfree hI hU v.toInt 6 (by omega) (by omega) (by omega)
          have pn163 : mo_R g162 (1) = n1 := (hU.ne (by omega) (by omega)).trans pn61
          have pn164 : mo_R g162 (11) = n11 := (hU.ne (by omega) (by omega)).trans pn62
          have pn165 : mo_R g162 (547 + 84 * v.toInt + 5) = z56.toInt := (hU.ne (by omega) (by omega)).trans pn63
          have pn166 : mo_R g162 (547 + 84 * v.toInt + 4) = z68.toInt := (hU.ne (by omega) (by omega)).trans (jz68).symm
          have pn167 : mo_R g162 (547 + 84 * v.toInt + 6) = z158.toInt := hU.eq (by omega)
          refine lv_iload hx hb dX12_goShip_182 (lv_at hl 0 rfl) ?_
          refine lv_i2l (v := 20) hx hb dX12_goShip_184 (by decide) ?_
          refine lv_aload_n hx hb dX12_goShip_185 rfl (lv_at hl 3 rfl) ?_
          have hf_168 : f159 h0 = .inr (12, [.int o30_x0, .int o30_x1, .ref (ρ h0 2), .ref (ρ h0 3), .ref (ρ h0 4), .ref (ρ h0 5), .ref (ρ h0 6), .int o30_x7, .ref (ρ h0 8), .int o30_x9, .int o30_x10, .int o30_x11, .int o30_x12, .long o30_x13, .int o30_x14, .int o30_x15, .int o30_x16, .int o30_x17, .int o30_x18, .int o30_x19, .int o30_x20, .ref (ρ h0 21), .int o30_x22, .ref (ρ h0 23), .ref (ρ h0 24), .int o30_x25, .ref (ρ h0 26), .ref (ρ h0 27), .int o30_x28, .int o30_x29, .ref (ρ h0 30), .ref (ρ h0 31), .int o30_x32, .long o30_x33, .long o30_x34, .long o30_x35, .int o30_x36, .int o30_x37, .int o30_x38, .ref (ρ h0 39), .ref (ρ h0 40), .ref (ρ h0 41), .ref (ρ h0 42), .ref (ρ h0 43), .ref (ρ h0 44), .ref (ρ h0 45), .ref (ρ h0 46), .int o30_x47, .int o30_x48, .ref (ρ h0 49), .ref (ρ h0 50), .ref (ρ h0 51), .ref (ρ h0 52)]) := (k160 _ (tp_ne ht_h0 y1 (by decide))).trans hf_64
          refine tpk_pos (tp_in hG ht_h0 (by decide)) hf_168 (fun q169 eq169 => ?_)
          refine va_get (D := (dC, dI)) (ci := 12) (v := .ref (ρ h0 2)) (C := RX12) (T := TX12) (N := 53) hx hb hts hfX12 hown hK hP q169 eq169 rfl 2 (by decide) (hts (.fieldLink RX12 7 "ColdShipsModel" "row" "[I") wa_148) (fun _ h9 => h9) rfl dX12_goShip_186 ?_
          refine lv_iload_n hx hb dX12_goShip_189 rfl (lv_at hl 2 rfl) ?_
          refine lv_bipush (v := 7) hx hb dX12_goShip_190 (by decide) ?_
          refine lv_iadd hx hb dX12_goShip_192 ?_
          refine lv_topi (fun z170 ez170 => ?_)
          have iz170 : z170.toInt = r28.toInt + 7 := zi_add ez170 rfl rfl (by omega) (by omega)
          refine tpk_pos (tp_in hG y1 (by decide)) g161 (fun q171 eq171 => ?_)
          refine va_iald hx hb hK hP q171 0 eq171 rfl (vp_in_iff.mpr ⟨by omega, by omega⟩) dX12_goShip_193 ?_
          refine lv_topi (fun z172 ez172 => ?_)
          have jz172 : z172.toInt = mo_R g162 (547 + 84 * v.toInt + 7) := mo_rd ez172 (by omega)
          have kz172 := hI.GC (s := v.toInt) (by omega) (by omega)
          refine lv_i2l hx hb dX12_goShip_194 rfl ?_
          refine lv_lmul hx hb dX12_goShip_195 ?_
          refine lv_topl (fun z173 ez173 => ?_)
          have iz173 : z173.toInt = 20 * z172.toInt := zl_mul ez173 rfl (Int32.toInt_toInt64 z172) (by omega) (by omega)
          refine lv_ldc2 (own := RX12) (v := 100000) hx hb hown (hts (.constantLong RX12 177 (100000)) wa_552) dX12_goShip_196 ?_
          refine lv_ldiv hx hb dX12_goShip_199 (by decide) ?_
          refine lv_topl (fun z174 ez174 => ?_)
          have iz174 : z174.toInt = z173.toInt / 100000 := zl_div ez174 (rfl : z173.toInt = _) (show (100000 : Int64).toInt = 100000 from rfl) (by omega) (by decide)
          refine lv_l2i hx hb dX12_goShip_200 rfl ?_
          refine lv_topi (fun z175 ez175 => ?_)
          have iz175 : z175.toInt = z174.toInt := zi_l2i ez175 (rfl : z174.toInt = _) (by omega) (by omega)
          refine lv_istore (lv' := [(6, .int z175), (5, .int 20), (4, .int z42), (3, .int r28), (0, .ref h0), (1, .int v), (2, .int u)]) hx hb dX12_goShip_201 hl (by decide) rfl (fun ls hl => ?_)
          refine lv_iload hx hb dX12_goShip_203 (lv_at hl 0 rfl) ?_
          refine lv_aload_n hx hb dX12_goShip_205 rfl (lv_at hl 4 rfl) ?_
          refine va_get (D := (dC, dI)) (ci := 12) (v := .ref (ρ h0 2)) (C := RX12) (T := TX12) (N := 53) hx hb hts hfX12 hown hK hP q169 eq169 rfl 2 (by decide) (hts (.fieldLink RX12 7 "ColdShipsModel" "row" "[I") wa_148) (fun _ h9 => h9) rfl dX12_goShip_206 ?_
          refine lv_iload_n hx hb dX12_goShip_209 rfl (lv_at hl 3 rfl) ?_
          refine lv_iconst (v := 4) hx hb dX12_goShip_210 (by decide) ?_
          refine lv_iadd hx hb dX12_goShip_211 ?_
          refine lv_topi (fun z176 ez176 => ?_)
          have iz176 : z176.toInt = r28.toInt + 4 := zi_add ez176 rfl rfl (by omega) (by omega)
          refine va_iald hx hb hK hP q171 0 eq171 rfl (vp_in_iff.mpr ⟨by omega, by omega⟩) dX12_goShip_212 ?_
          refine lv_topi (fun z177 ez177 => ?_)
          have := hI.GC (s := v.toInt) (by omega) (by omega)
          have jz177 : z177.toInt = mo_R g162 (547 + 84 * v.toInt + 4) := mo_rd ez177 (by omega)
          have kz177 := hI.GG (s := v.toInt) (by omega) (by omega)
          have vz177 : z177.toInt = z68.toInt := jz177.trans pn166
          refine lv_icmp_le (tgt := 227) hx hb dX12_goShip_213 (by decide) (fun c178 => ?_) (fun c178 => ?_)
          · have ic178 : z175.toInt ≤ z68.toInt := zi_le rfl vz177 c178
            refine lv_iload hx hb dX12_goShip_227 (lv_at hl 0 rfl) ?_
            refine lv_istore (lv' := [(6, .int z175), (5, .int 20), (4, .int z42), (3, .int r28), (0, .ref h0), (1, .int v), (2, .int u)]) hx hb dX12_goShip_229 hl (by decide) rfl (fun ls hl => ?_)
            refine lv_aload_n hx hb dX12_goShip_231 rfl (lv_at hl 4 rfl) ?_
            refine lv_iload_n hx hb dX12_goShip_232 rfl (lv_at hl 3 rfl) ?_
            refine lv_iload hx hb dX12_goShip_233 (lv_at hl 0 rfl) ?_
            have hFc := tp_fr hD hS hA
            refine va_callv (va_runV (As := [.int r28, .int z175]) (rest := []) ⟨hx, hb, hml, hown, hts⟩ (t_X12_take l dC dI _ κ τ ν ρ L f159 hG hT h0 r28 z175 v.toInt 300 v.toInt ht_h0 (by omega) (by omega) (by omega) (by rw [g161, mo_i1]; exact hI) (by first | (simp only [g161, hf_o26, mo_i1]; omega) | (simp only [g161, hf_o26, mo_i1]; trivial) | (simp only [g161, hf_o26, mo_i1]; done) | omega) (by first | (simp only [g161, hf_o26, mo_i1]; omega) | (simp only [g161, hf_o26, mo_i1]; trivial) | (simp only [g161, hf_o26, mo_i1]; done) | omega)) (cwV 2 hts gX12_goShip_X12_take rfl rfl rfl ⟨rfl, pd_X12_take⟩ ⟨Nat.le_of_ble_eq_true rfl, Nat.le_of_ble_eq_true rfl⟩) ⟨pz_blind, va_recv hK hP (ci := 12) (q0 := q169) rfl eq169, pz_pre hP hK hD hN⟩ rfl rfl hl.1 rfl (lv_room (Nat.le_of_ble_eq_true rfl)) dX12_goShip_235 ⟨Nat.le_of_ble_eq_true rfl, Nat.le_of_ble_eq_true rfl⟩) hS (fun q _ h => hFc q h) hFc (fun f181 t H1 locs ht hvm hw180 hB hz1 hk1 hS => ?_)
            refine tn_3 hw180 (fun hT hF182 hw180p => ?_); clear hw180
            have hR := hR.then hF182 (by decide)
            have hP := hB.1; rw [ht] at hP; have hD := tp_ad f181 hD; clear hB hFc hz1 hk1; subst ht; generalize t.heap = H at hP hS ⊢
            obtain ⟨hJ, hw180pe⟩ := hw180p
            refine tpk_32 hT y1 (fun g184 hf_o183 => ?_)
            have hI : mo_RI v.toInt 300 (mo_R g184) := by have q9 := hJ; rw [hf_o183, mo_i1] at q9; exact q9
            rw [g161, mo_i1] at hw180pe
            rw [hf_o183, mo_i1] at hw180pe
            have pn185 : mo_R g184 (1) = n1 := (hw180pe.1).trans pn163
            have pn186 : mo_R g184 (11) = n11 := (hw180pe.2.1).trans pn164
            have pn187 : mo_R g184 (547 + 84 * v.toInt + 5) = z56.toInt := (hw180pe.2.2.2).trans pn165
            refine lv_aload_n hx hb dX12_goShip_238 rfl (lv_at hl 4 rfl) ?_
            have hf_188 : f181 h0 = .inr (12, [.int o30_x0, .int o30_x1, .ref (ρ h0 2), .ref (ρ h0 3), .ref (ρ h0 4), .ref (ρ h0 5), .ref (ρ h0 6), .int o30_x7, .ref (ρ h0 8), .int o30_x9, .int o30_x10, .int o30_x11, .int o30_x12, .long o30_x13, .int o30_x14, .int o30_x15, .int o30_x16, .int o30_x17, .int o30_x18, .int o30_x19, .int o30_x20, .ref (ρ h0 21), .int o30_x22, .ref (ρ h0 23), .ref (ρ h0 24), .int o30_x25, .ref (ρ h0 26), .ref (ρ h0 27), .int o30_x28, .int o30_x29, .ref (ρ h0 30), .ref (ρ h0 31), .int o30_x32, .long o30_x33, .long o30_x34, .long o30_x35, .int o30_x36, .int o30_x37, .int o30_x38, .ref (ρ h0 39), .ref (ρ h0 40), .ref (ρ h0 41), .ref (ρ h0 42), .ref (ρ h0 43), .ref (ρ h0 44), .ref (ρ h0 45), .ref (ρ h0 46), .int o30_x47, .int o30_x48, .ref (ρ h0 49), .ref (ρ h0 50), .ref (ρ h0 51), .ref (ρ h0 52)]) := (hF182 _ (by rw [ht_h0]; decide)).trans hf_168
            refine tpk_pos (tp_in hG ht_h0 (by decide)) hf_188 (fun q189 eq189 => ?_)
            refine va_get (D := (dC, dI)) (ci := 12) (v := .ref (ρ h0 2)) (C := RX12) (T := TX12) (N := 53) hx hb hts hfX12 hown hK hP q189 eq189 rfl 2 (by decide) (hts (.fieldLink RX12 7 "ColdShipsModel" "row" "[I") wa_148) (fun _ h9 => h9) rfl dX12_goShip_239 ?_
            refine lv_iload_n hx hb dX12_goShip_242 rfl (lv_at hl 3 rfl) ?_
            refine lv_iconst (v := 5) hx hb dX12_goShip_243 (by decide) ?_
            refine lv_iadd hx hb dX12_goShip_244 ?_
            refine lv_topi (fun z190 ez190 => ?_)
            have iz190 : z190.toInt = r28.toInt + 5 := zi_add ez190 rfl rfl (by omega) (by omega)
            refine lv_dup2_11 hx hb dX12_goShip_245 rfl rfl ?_
            refine tpk_pos (tp_in hG y1 (by decide)) hf_o183 (fun q191 eq191 => ?_)
            refine va_iald hx hb hK hP q191 0 eq191 rfl (vp_in_iff.mpr ⟨by omega, by omega⟩) dX12_goShip_246 ?_
            refine lv_topi (fun z192 ez192 => ?_)
            have jz192 : z192.toInt = mo_R g184 (547 + 84 * v.toInt + 5) := mo_rd ez192 (by omega)
            have kz192 := hI.V (s := v.toInt) (by omega) (by omega)
            have vz192 : z192.toInt = z56.toInt := jz192.trans pn187
            refine lv_iload hx hb dX12_goShip_247 (lv_at hl 0 rfl) ?_
            refine lv_iadd hx hb dX12_goShip_249 ?_
            refine lv_topi (fun z193 ez193 => ?_)
            have iz193 : z193.toInt = z56.toInt + z175.toInt := zi_add ez193 vz192 rfl (by omega) (by omega)
            refine va_iast hx hb hK hP hD hS q191 0 eq191 rfl (vp_in_iff.mpr ⟨by omega, by omega⟩) dX12_goShip_250 (tp_k (.inl (κ 0, 12967, .inl (upd g184 z190.toNatClampNeg z193))) hD (tp_in hG y1 (by decide)) eq191 (fun f194 H locs hP hD hS g196 k195 => ?_))
            have hT := hT.up y1 g196 k195 tp_o32
            have hR := hR.up y1 (by decide) k195
            have hU : mo_U (mo_R g184) (mo_R (upd g184 z190.toNatClampNeg z193)) (547 + 84 * v.toInt + 5) (z193.toInt) := mo_up (by omega) (rfl : z193.toInt = _) (by omega)
            generalize (upd g184 z190.toNatClampNeg z193) = g197 at g196 hU
            have hI := mo_w_VAP hI hU v.toInt (by omega) (by omega) (by omega)
            have pn198 : mo_R g197 (1) = n1 := (hU.ne (by omega) (by omega)).trans pn185
            have pn199 : mo_R g197 (11) = n11 := (hU.ne (by omega) (by omega)).trans pn186
            have pn200 : mo_R g197 (547 + 84 * v.toInt + 5) = z193.toInt := hU.eq (by omega)
            exact hj71 _ _ _ _ ⟨f194, rfl, hT, hR, (by rw [g196, mo_i1]; exact hI), (by rw [g196, mo_i1]; omega), (by rw [g196, mo_i1]; omega), hP, hD, hS, lv_sub hl [2, 3, 4, 5, 6] rfl⟩
          · have ic178 : z175.toInt > z68.toInt := zi_lef rfl vz177 c178
            refine lv_aload_n hx hb dX12_goShip_216 rfl (lv_at hl 4 rfl) ?_
            refine va_get (D := (dC, dI)) (ci := 12) (v := .ref (ρ h0 2)) (C := RX12) (T := TX12) (N := 53) hx hb hts hfX12 hown hK hP q169 eq169 rfl 2 (by decide) (hts (.fieldLink RX12 7 "ColdShipsModel" "row" "[I") wa_148) (fun _ h9 => h9) rfl dX12_goShip_217 ?_
            refine lv_iload_n hx hb dX12_goShip_220 rfl (lv_at hl 3 rfl) ?_
            refine lv_iconst (v := 4) hx hb dX12_goShip_221 (by decide) ?_
            refine lv_iadd hx hb dX12_goShip_222 ?_
            refine lv_topi (fun z201 ez201 => ?_)
            have iz201 : z201.toInt = r28.toInt + 4 := zi_add ez201 rfl rfl (by omega) (by omega)
            refine va_iald hx hb hK hP q171 0 eq171 rfl (vp_in_iff.mpr ⟨by omega, by omega⟩) dX12_goShip_223 ?_
            refine lv_topi (fun z202 ez202 => ?_)
            have := hI.GC (s := v.toInt) (by omega) (by omega)
            have jz202 : z202.toInt = mo_R g162 (547 + 84 * v.toInt + 4) := mo_rd ez202 (by omega)
            have kz202 := hI.GG (s := v.toInt) (by omega) (by omega)
            have vz202 : z202.toInt = z68.toInt := jz202.trans pn166
            refine lv_goto (tgt := 229) hx hb dX12_goShip_224 (by decide) ?_
            refine lv_istore (lv' := [(6, .int z202), (5, .int 20), (4, .int z42), (3, .int r28), (0, .ref h0), (1, .int v), (2, .int u)]) hx hb dX12_goShip_229 hl (by decide) rfl (fun ls hl => ?_)
            refine lv_aload_n hx hb dX12_goShip_231 rfl (lv_at hl 4 rfl) ?_
            refine lv_iload_n hx hb dX12_goShip_232 rfl (lv_at hl 3 rfl) ?_
            refine lv_iload hx hb dX12_goShip_233 (lv_at hl 0 rfl) ?_
            have hFc := tp_fr hD hS hA
            refine va_callv (va_runV (As := [.int r28, .int z202]) (rest := []) ⟨hx, hb, hml, hown, hts⟩ (t_X12_take l dC dI _ κ τ ν ρ L f159 hG hT h0 r28 z202 v.toInt 300 v.toInt ht_h0 (by omega) (by omega) (by omega) (by rw [g161, mo_i1]; exact hI) (by first | (simp only [g161, hf_o26, mo_i1]; omega) | (simp only [g161, hf_o26, mo_i1]; trivial) | (simp only [g161, hf_o26, mo_i1]; done) | omega) (by first | (simp only [g161, hf_o26, mo_i1]; omega) | (simp only [g161, hf_o26, mo_i1]; trivial) | (simp only [g161, hf_o26, mo_i1]; done) | omega)) (cwV 2 hts gX12_goShip_X12_take rfl rfl rfl ⟨rfl, pd_X12_take⟩ ⟨Nat.le_of_ble_eq_true rfl, Nat.le_of_ble_eq_true rfl⟩) ⟨pz_blind, va_recv hK hP (ci := 12) (q0 := q169) rfl eq169, pz_pre hP hK hD hN⟩ rfl rfl hl.1 rfl (lv_room (Nat.le_of_ble_eq_true rfl)) dX12_goShip_235 ⟨Nat.le_of_ble_eq_true rfl, Nat.le_of_ble_eq_true rfl⟩) hS (fun q _ h => hFc q h) hFc (fun f205 t H1 locs ht hvm hw204 hB hz1 hk1 hS => ?_)
            refine tn_3 hw204 (fun hT hF206 hw204p => ?_); clear hw204
            have hR := hR.then hF206 (by decide)
            have hP := hB.1; rw [ht] at hP; have hD := tp_ad f205 hD; clear hB hFc hz1 hk1; subst ht; generalize t.heap = H at hP hS ⊢
            obtain ⟨hJ, hw204pe⟩ := hw204p
            refine tpk_32 hT y1 (fun g208 hf_o207 => ?_)
            have hI : mo_RI v.toInt 300 (mo_R g208) := by have q9 := hJ; rw [hf_o207, mo_i1] at q9; exact q9
            rw [g161, mo_i1] at hw204pe
            rw [hf_o207, mo_i1] at hw204pe
            have pn209 : mo_R g208 (1) = n1 := (hw204pe.1).trans pn163
            have pn210 : mo_R g208 (11) = n11 := (hw204pe.2.1).trans pn164
            have pn211 : mo_R g208 (547 + 84 * v.toInt + 5) = z56.toInt := (hw204pe.2.2.2).trans pn165
            refine lv_aload_n hx hb dX12_goShip_238 rfl (lv_at hl 4 rfl) ?_
            have hf_212 : f205 h0 = .inr (12, [.int o30_x0, .int o30_x1, .ref (ρ h0 2), .ref (ρ h0 3), .ref (ρ h0 4), .ref (ρ h0 5), .ref (ρ h0 6), .int o30_x7, .ref (ρ h0 8), .int o30_x9, .int o30_x10, .int o30_x11, .int o30_x12, .long o30_x13, .int o30_x14, .int o30_x15, .int o30_x16, .int o30_x17, .int o30_x18, .int o30_x19, .int o30_x20, .ref (ρ h0 21), .int o30_x22, .ref (ρ h0 23), .ref (ρ h0 24), .int o30_x25, .ref (ρ h0 26), .ref (ρ h0 27), .int o30_x28, .int o30_x29, .ref (ρ h0 30), .ref (ρ h0 31), .int o30_x32, .long o30_x33, .long o30_x34, .long o30_x35, .int o30_x36, .int o30_x37, .int o30_x38, .ref (ρ h0 39), .ref (ρ h0 40), .ref (ρ h0 41), .ref (ρ h0 42), .ref (ρ h0 43), .ref (ρ h0 44), .ref (ρ h0 45), .ref (ρ h0 46), .int o30_x47, .int o30_x48, .ref (ρ h0 49), .ref (ρ h0 50), .ref (ρ h0 51), .ref (ρ h0 52)]) := (hF206 _ (by rw [ht_h0]; decide)).trans hf_168
            refine tpk_pos (tp_in hG ht_h0 (by decide)) hf_212 (fun q213 eq213 => ?_)
            refine va_get (D := (dC, dI)) (ci := 12) (v := .ref (ρ h0 2)) (C := RX12) (T := TX12) (N := 53) hx hb hts hfX12 hown hK hP q213 eq213 rfl 2 (by decide) (hts (.fieldLink RX12 7 "ColdShipsModel" "row" "[I") wa_148) (fun _ h9 => h9) rfl dX12_goShip_239 ?_
            refine lv_iload_n hx hb dX12_goShip_242 rfl (lv_at hl 3 rfl) ?_
            refine lv_iconst (v := 5) hx hb dX12_goShip_243 (by decide) ?_
            refine lv_iadd hx hb dX12_goShip_244 ?_
            refine lv_topi (fun z214 ez214 => ?_)
            have iz214 : z214.toInt = r28.toInt + 5 := zi_add ez214 rfl rfl (by omega) (by omega)
            refine lv_dup2_11 hx hb dX12_goShip_245 rfl rfl ?_
            refine tpk_pos (tp_in hG y1 (by decide)) hf_o207 (fun q215 eq215 => ?_)
            refine va_iald hx hb hK hP q215 0 eq215 rfl (vp_in_iff.mpr ⟨by omega, by omega⟩) dX12_goShip_246 ?_
            refine lv_topi (fun z216 ez216 => ?_)
            have jz216 : z216.toInt = mo_R g208 (547 + 84 * v.toInt + 5) := mo_rd ez216 (by omega)
            have kz216 := hI.V (s := v.toInt) (by omega) (by omega)
            have vz216 : z216.toInt = z56.toInt := jz216.trans pn211
            refine lv_iload hx hb dX12_goShip_247 (lv_at hl 0 rfl) ?_
            refine lv_iadd hx hb dX12_goShip_249 ?_
            refine lv_topi (fun z217 ez217 => ?_)
            have iz217 : z217.toInt = z56.toInt + z68.toInt := zi_add ez217 vz216 vz202 (by omega) (by omega)
            refine va_iast hx hb hK hP hD hS q215 0 eq215 rfl (vp_in_iff.mpr ⟨by omega, by omega⟩) dX12_goShip_250 (tp_k (.inl (κ 0, 12967, .inl (upd g208 z214.toNatClampNeg z217))) hD (tp_in hG y1 (by decide)) eq215 (fun f218 H locs hP hD hS g220 k219 => ?_))
            have hT := hT.up y1 g220 k219 tp_o32
            have hR := hR.up y1 (by decide) k219
            have hU : mo_U (mo_R g208) (mo_R (upd g208 z214.toNatClampNeg z217)) (547 + 84 * v.toInt + 5) (z217.toInt) := mo_up (by omega) (rfl : z217.toInt = _) (by omega)
            generalize (upd g208 z214.toNatClampNeg z217) = g221 at g220 hU
            have hI := mo_w_VAP hI hU v.toInt (by omega) (by omega) (by omega)
            have pn222 : mo_R g221 (1) = n1 := (hU.ne (by omega) (by omega)).trans pn209
            have pn223 : mo_R g221 (11) = n11 := (hU.ne (by omega) (by omega)).trans pn210
            have pn224 : mo_R g221 (547 + 84 * v.toInt + 5) = z217.toInt := hU.eq (by omega)
            exact hj71 _ _ _ _ ⟨f218, rfl, hT, hR, (by rw [g220, mo_i1]; exact hI), (by rw [g220, mo_i1]; omega), (by rw [g220, mo_i1]; omega), hP, hD, hS, lv_sub hl [2, 3, 4, 5, 6] rfl⟩
        · have ic155 : z151.toInt < 20 := zi_gef vz154 rfl c155
          refine lv_aload_n hx hb dX12_goShip_152 rfl (lv_at hl 2 rfl) ?_
          refine va_get (D := (dC, dI)) (ci := 12) (v := .ref (ρ h0 2)) (C := RX12) (T := TX12) (N := 53) hx hb hts hfX12 hown hK hP q65 eq65 rfl 2 (by decide) (hts (.fieldLink RX12 7 "ColdShipsModel" "row" "[I") wa_148) (fun _ h9 => h9) rfl dX12_goShip_153 ?_
          refine lv_iload_n hx hb dX12_goShip_156 rfl (lv_at hl 1 rfl) ?_
          refine lv_bipush (v := 6) hx hb dX12_goShip_157 (by decide) ?_
          refine lv_iadd hx hb dX12_goShip_159 ?_
          refine lv_topi (fun z225 ez225 => ?_)
          have iz225 : z225.toInt = r28.toInt + 6 := zi_add ez225 rfl rfl (by omega) (by omega)
          refine va_iald hx hb hK hP q67 0 eq67 rfl (vp_in_iff.mpr ⟨by omega, by omega⟩) dX12_goShip_160 ?_
          refine lv_topi (fun z226 ez226 => ?_)
          have jz226 : z226.toInt = mo_R g60 (547 + 84 * v.toInt + 6) := mo_rd ez226 (by omega)
          have vz226 : z226.toInt = z151.toInt := jz226.trans (jz151).symm
          refine lv_goto (tgt := 166) hx hb dX12_goShip_161 (by decide) ?_
          refine lv_istore (lv' := [(5, .int z226), (4, .int z42), (3, .int r28), (0, .ref h0), (1, .int v), (2, .int u)]) hx hb dX12_goShip_166 hl (by decide) rfl (fun ls hl => ?_)
          refine lv_aload_n hx hb dX12_goShip_168 rfl (lv_at hl 3 rfl) ?_
          refine va_get (D := (dC, dI)) (ci := 12) (v := .ref (ρ h0 2)) (C := RX12) (T := TX12) (N := 53) hx hb hts hfX12 hown hK hP q65 eq65 rfl 2 (by decide) (hts (.fieldLink RX12 7 "ColdShipsModel" "row" "[I") wa_148) (fun _ h9 => h9) rfl dX12_goShip_169 ?_
          refine lv_iload_n hx hb dX12_goShip_172 rfl (lv_at hl 2 rfl) ?_
          refine lv_bipush (v := 6) hx hb dX12_goShip_173 (by decide) ?_
          refine lv_iadd hx hb dX12_goShip_175 ?_
          refine lv_topi (fun z227 ez227 => ?_)
          have iz227 : z227.toInt = r28.toInt + 6 := zi_add ez227 rfl rfl (by omega) (by omega)
          refine lv_dup2_11 hx hb dX12_goShip_176 rfl rfl ?_
          refine va_iald hx hb hK hP q67 0 eq67 rfl (vp_in_iff.mpr ⟨by omega, by omega⟩) dX12_goShip_177 ?_
          refine lv_topi (fun z228 ez228 => ?_)
          have jz228 : z228.toInt = mo_R g60 (547 + 84 * v.toInt + 6) := mo_rd ez228 (by omega)
          have vz228 : z228.toInt = z151.toInt := jz228.trans (jz151).symm
          refine lv_iload hx hb dX12_goShip_178 (lv_at hl 0 rfl) ?_
          refine lv_isub hx hb dX12_goShip_180 ?_
          refine lv_topi (fun z229 ez229 => ?_)
          have iz229 : z229.toInt = z151.toInt - z151.toInt := zi_sub ez229 vz228 vz226 (by omega) (by omega)
          refine va_iast hx hb hK hP hD hS q67 0 eq67 rfl (vp_in_iff.mpr ⟨by omega, by omega⟩) dX12_goShip_181 (tp_k (.inl (κ 0, 12967, .inl (upd g60 z227.toNatClampNeg z229))) hD (tp_in hG y1 (by decide)) eq67 (fun f230 H locs hP hD hS g232 k231 => ?_))
          have hT := hT.up y1 g232 k231 tp_o32
          have hR := hR.up y1 (by decide) k231
          have hU : mo_U (mo_R g60) (mo_R (upd g60 z227.toNatClampNeg z229)) (547 + 84 * v.toInt + 6) (z229.toInt) := mo_up (by omega) (rfl : z229.toInt = _) (by omega)
          generalize (upd g60 z227.toNatClampNeg z229) = g233 at g232 hU
          have hI := mo_w_sfree hI hU v.toInt 6 (by omega) (by omega) (by omega)
          have pn234 : mo_R g233 (1) = n1 := (hU.ne (by omega) (by omega)).trans pn61
          have pn235 : mo_R g233 (11) = n11 := (hU.ne (by omega) (by omega)).trans pn62
          have pn236 : mo_R g233 (547 + 84 * v.toInt + 5) = z56.toInt := (hU.ne (by omega) (by omega)).trans pn63
          have pn237 : mo_R g233 (547 + 84 * v.toInt + 4) = z68.toInt := (hU.ne (by omega) (by omega)).trans (jz68).symm
          have pn238 : mo_R g233 (547 + 84 * v.toInt + 6) = z229.toInt := hU.eq (by omega)
          refine lv_iload hx hb dX12_goShip_182 (lv_at hl 0 rfl) ?_
          refine lv_i2l hx hb dX12_goShip_184 rfl ?_
          refine lv_aload_n hx hb dX12_goShip_185 rfl (lv_at hl 3 rfl) ?_
          have hf_239 : f230 h0 = .inr (12, [.int o30_x0, .int o30_x1, .ref (ρ h0 2), .ref (ρ h0 3), .ref (ρ h0 4), .ref (ρ h0 5), .ref (ρ h0 6), .int o30_x7, .ref (ρ h0 8), .int o30_x9, .int o30_x10, .int o30_x11, .int o30_x12, .long o30_x13, .int o30_x14, .int o30_x15, .int o30_x16, .int o30_x17, .int o30_x18, .int o30_x19, .int o30_x20, .ref (ρ h0 21), .int o30_x22, .ref (ρ h0 23), .ref (ρ h0 24), .int o30_x25, .ref (ρ h0 26), .ref (ρ h0 27), .int o30_x28, .int o30_x29, .ref (ρ h0 30), .ref (ρ h0 31), .int o30_x32, .long o30_x33, .long o30_x34, .long o30_x35, .int o30_x36, .int o30_x37, .int o30_x38, .ref (ρ h0 39), .ref (ρ h0 40), .ref (ρ h0 41), .ref (ρ h0 42), .ref (ρ h0 43), .ref (ρ h0 44), .ref (ρ h0 45), .ref (ρ h0 46), .int o30_x47, .int o30_x48, .ref (ρ h0 49), .ref (ρ h0 50), .ref (ρ h0 51), .ref (ρ h0 52)]) := (k231 _ (tp_ne ht_h0 y1 (by decide))).trans hf_64
          refine tpk_pos (tp_in hG ht_h0 (by decide)) hf_239 (fun q240 eq240 => ?_)
          refine va_get (D := (dC, dI)) (ci := 12) (v := .ref (ρ h0 2)) (C := RX12) (T := TX12) (N := 53) hx hb hts hfX12 hown hK hP q240 eq240 rfl 2 (by decide) (hts (.fieldLink RX12 7 "ColdShipsModel" "row" "[I") wa_148) (fun _ h9 => h9) rfl dX12_goShip_186 ?_
          refine lv_iload_n hx hb dX12_goShip_189 rfl (lv_at hl 2 rfl) ?_
          refine lv_bipush (v := 7) hx hb dX12_goShip_190 (by decide) ?_
          refine lv_iadd hx hb dX12_goShip_192 ?_
          refine lv_topi (fun z241 ez241 => ?_)
          have iz241 : z241.toInt = r28.toInt + 7 := zi_add ez241 rfl rfl (by omega) (by omega)
          refine tpk_pos (tp_in hG y1 (by decide)) g232 (fun q242 eq242 => ?_)
          refine va_iald hx hb hK hP q242 0 eq242 rfl (vp_in_iff.mpr ⟨by omega, by omega⟩) dX12_goShip_193 ?_
          refine lv_topi (fun z243 ez243 => ?_)
          have jz243 : z243.toInt = mo_R g233 (547 + 84 * v.toInt + 7) := mo_rd ez243 (by omega)
          have kz243 := hI.GC (s := v.toInt) (by omega) (by omega)
          refine lv_i2l hx hb dX12_goShip_194 rfl ?_
          refine lv_lmul hx hb dX12_goShip_195 ?_
          refine lv_topl (fun z244 ez244 => ?_)
          have iz244 := zl_mulb ez244 ((Int32.toInt_toInt64 z226).trans vz226) (Int32.toInt_toInt64 z243) 19 200000 (by omega) (by omega) (by omega) (by omega) (by decide)
          refine lv_ldc2 (own := RX12) (v := 100000) hx hb hown (hts (.constantLong RX12 177 (100000)) wa_552) dX12_goShip_196 ?_
          refine lv_ldiv hx hb dX12_goShip_199 (by decide) ?_
          refine lv_topl (fun z245 ez245 => ?_)
          have iz245 : z245.toInt = z244.toInt / 100000 := zl_div ez245 (rfl : z244.toInt = _) (show (100000 : Int64).toInt = 100000 from rfl) (by omega) (by decide)
          refine lv_l2i hx hb dX12_goShip_200 rfl ?_
          refine lv_topi (fun z246 ez246 => ?_)
          have iz246 : z246.toInt = z245.toInt := zi_l2i ez246 (rfl : z245.toInt = _) (by omega) (by omega)
          refine lv_istore (lv' := [(6, .int z246), (5, .int z226), (4, .int z42), (3, .int r28), (0, .ref h0), (1, .int v), (2, .int u)]) hx hb dX12_goShip_201 hl (by decide) rfl (fun ls hl => ?_)
          refine lv_iload hx hb dX12_goShip_203 (lv_at hl 0 rfl) ?_
          refine lv_aload_n hx hb dX12_goShip_205 rfl (lv_at hl 4 rfl) ?_
          refine va_get (D := (dC, dI)) (ci := 12) (v := .ref (ρ h0 2)) (C := RX12) (T := TX12) (N := 53) hx hb hts hfX12 hown hK hP q240 eq240 rfl 2 (by decide) (hts (.fieldLink RX12 7 "ColdShipsModel" "row" "[I") wa_148) (fun _ h9 => h9) rfl dX12_goShip_206 ?_
          refine lv_iload_n hx hb dX12_goShip_209 rfl (lv_at hl 3 rfl) ?_
          refine lv_iconst (v := 4) hx hb dX12_goShip_210 (by decide) ?_
          refine lv_iadd hx hb dX12_goShip_211 ?_
          refine lv_topi (fun z247 ez247 => ?_)
          have iz247 : z247.toInt = r28.toInt + 4 := zi_add ez247 rfl rfl (by omega) (by omega)
          refine va_iald hx hb hK hP q242 0 eq242 rfl (vp_in_iff.mpr ⟨by omega, by omega⟩) dX12_goShip_212 ?_
          refine lv_topi (fun z248 ez248 => ?_)
          have := hI.GC (s := v.toInt) (by omega) (by omega)
          have jz248 : z248.toInt = mo_R g233 (547 + 84 * v.toInt + 4) := mo_rd ez248 (by omega)
          have kz248 := hI.GG (s := v.toInt) (by omega) (by omega)
          have vz248 : z248.toInt = z68.toInt := jz248.trans pn237
          refine lv_icmp_le (tgt := 227) hx hb dX12_goShip_213 (by decide) (fun c249 => ?_) (fun c249 => ?_)
          · have ic249 : z246.toInt ≤ z68.toInt := zi_le rfl vz248 c249
            refine lv_iload hx hb dX12_goShip_227 (lv_at hl 0 rfl) ?_
            refine lv_istore (lv' := [(6, .int z246), (5, .int z226), (4, .int z42), (3, .int r28), (0, .ref h0), (1, .int v), (2, .int u)]) hx hb dX12_goShip_229 hl (by decide) rfl (fun ls hl => ?_)
            refine lv_aload_n hx hb dX12_goShip_231 rfl (lv_at hl 4 rfl) ?_
            refine lv_iload_n hx hb dX12_goShip_232 rfl (lv_at hl 3 rfl) ?_
            refine lv_iload hx hb dX12_goShip_233 (lv_at hl 0 rfl) ?_
            have hFc := tp_fr hD hS hA
            refine va_callv (va_runV (As := [.int r28, .int z246]) (rest := []) ⟨hx, hb, hml, hown, hts⟩ (t_X12_take l dC dI _ κ τ ν ρ L f230 hG hT h0 r28 z246 v.toInt 300 v.toInt ht_h0 (by omega) (by omega) (by omega) (by rw [g232, mo_i1]; exact hI) (by first | (simp only [g232, hf_o26, mo_i1]; omega) | (simp only [g232, hf_o26, mo_i1]; trivial) | (simp only [g232, hf_o26, mo_i1]; done) | omega) (by first | (simp only [g232, hf_o26, mo_i1]; omega) | (simp only [g232, hf_o26, mo_i1]; trivial) | (simp only [g232, hf_o26, mo_i1]; done) | omega)) (cwV 2 hts gX12_goShip_X12_take rfl rfl rfl ⟨rfl, pd_X12_take⟩ ⟨Nat.le_of_ble_eq_true rfl, Nat.le_of_ble_eq_true rfl⟩) ⟨pz_blind, va_recv hK hP (ci := 12) (q0 := q240) rfl eq240, pz_pre hP hK hD hN⟩ rfl rfl hl.1 rfl (lv_room (Nat.le_of_ble_eq_true rfl)) dX12_goShip_235 ⟨Nat.le_of_ble_eq_true rfl, Nat.le_of_ble_eq_true rfl⟩) hS (fun q _ h => hFc q h) hFc (fun f252 t H1 locs ht hvm hw251 hB hz1 hk1 hS => ?_)
            refine tn_3 hw251 (fun hT hF253 hw251p => ?_); clear hw251
            have hR := hR.then hF253 (by decide)
            have hP := hB.1; rw [ht] at hP; have hD := tp_ad f252 hD; clear hB hFc hz1 hk1; subst ht; generalize t.heap = H at hP hS ⊢
            obtain ⟨hJ, hw251pe⟩ := hw251p
            refine tpk_32 hT y1 (fun g255 hf_o254 => ?_)
            have hI : mo_RI v.toInt 300 (mo_R g255) := by have q9 := hJ; rw [hf_o254, mo_i1] at q9; exact q9
            rw [g232, mo_i1] at hw251pe
            rw [hf_o254, mo_i1] at hw251pe
            have pn256 : mo_R g255 (1) = n1 := (hw251pe.1).trans pn234
            have pn257 : mo_R g255 (11) = n11 := (hw251pe.2.1).trans pn235
            have pn258 : mo_R g255 (547 + 84 * v.toInt + 5) = z56.toInt := (hw251pe.2.2.2).trans pn236
            refine lv_aload_n hx hb dX12_goShip_238 rfl (lv_at hl 4 rfl) ?_
            have hf_259 : f252 h0 = .inr (12, [.int o30_x0, .int o30_x1, .ref (ρ h0 2), .ref (ρ h0 3), .ref (ρ h0 4), .ref (ρ h0 5), .ref (ρ h0 6), .int o30_x7, .ref (ρ h0 8), .int o30_x9, .int o30_x10, .int o30_x11, .int o30_x12, .long o30_x13, .int o30_x14, .int o30_x15, .int o30_x16, .int o30_x17, .int o30_x18, .int o30_x19, .int o30_x20, .ref (ρ h0 21), .int o30_x22, .ref (ρ h0 23), .ref (ρ h0 24), .int o30_x25, .ref (ρ h0 26), .ref (ρ h0 27), .int o30_x28, .int o30_x29, .ref (ρ h0 30), .ref (ρ h0 31), .int o30_x32, .long o30_x33, .long o30_x34, .long o30_x35, .int o30_x36, .int o30_x37, .int o30_x38, .ref (ρ h0 39), .ref (ρ h0 40), .ref (ρ h0 41), .ref (ρ h0 42), .ref (ρ h0 43), .ref (ρ h0 44), .ref (ρ h0 45), .ref (ρ h0 46), .int o30_x47, .int o30_x48, .ref (ρ h0 49), .ref (ρ h0 50), .ref (ρ h0 51), .ref (ρ h0 52)]) := (hF253 _ (by rw [ht_h0]; decide)).trans hf_239
            refine tpk_pos (tp_in hG ht_h0 (by decide)) hf_259 (fun q260 eq260 => ?_)
            refine va_get (D := (dC, dI)) (ci := 12) (v := .ref (ρ h0 2)) (C := RX12) (T := TX12) (N := 53) hx hb hts hfX12 hown hK hP q260 eq260 rfl 2 (by decide) (hts (.fieldLink RX12 7 "ColdShipsModel" "row" "[I") wa_148) (fun _ h9 => h9) rfl dX12_goShip_239 ?_
            refine lv_iload_n hx hb dX12_goShip_242 rfl (lv_at hl 3 rfl) ?_
            refine lv_iconst (v := 5) hx hb dX12_goShip_243 (by decide) ?_
            refine lv_iadd hx hb dX12_goShip_244 ?_
            refine lv_topi (fun z261 ez261 => ?_)
            have iz261 : z261.toInt = r28.toInt + 5 := zi_add ez261 rfl rfl (by omega) (by omega)
            refine lv_dup2_11 hx hb dX12_goShip_245 rfl rfl ?_
            refine tpk_pos (tp_in hG y1 (by decide)) hf_o254 (fun q262 eq262 => ?_)
            refine va_iald hx hb hK hP q262 0 eq262 rfl (vp_in_iff.mpr ⟨by omega, by omega⟩) dX12_goShip_246 ?_
            refine lv_topi (fun z263 ez263 => ?_)
            have jz263 : z263.toInt = mo_R g255 (547 + 84 * v.toInt + 5) := mo_rd ez263 (by omega)
            have kz263 := hI.V (s := v.toInt) (by omega) (by omega)
            have vz263 : z263.toInt = z56.toInt := jz263.trans pn258
            refine lv_iload hx hb dX12_goShip_247 (lv_at hl 0 rfl) ?_
            refine lv_iadd hx hb dX12_goShip_249 ?_
            refine lv_topi (fun z264 ez264 => ?_)
            have iz264 : z264.toInt = z56.toInt + z246.toInt := zi_add ez264 vz263 rfl (by omega) (by omega)
            refine va_iast hx hb hK hP hD hS q262 0 eq262 rfl (vp_in_iff.mpr ⟨by omega, by omega⟩) dX12_goShip_250 (tp_k (.inl (κ 0, 12967, .inl (upd g255 z261.toNatClampNeg z264))) hD (tp_in hG y1 (by decide)) eq262 (fun f265 H locs hP hD hS g267 k266 => ?_))
            have hT := hT.up y1 g267 k266 tp_o32
            have hR := hR.up y1 (by decide) k266
            have hU : mo_U (mo_R g255) (mo_R (upd g255 z261.toNatClampNeg z264)) (547 + 84 * v.toInt + 5) (z264.toInt) := mo_up (by omega) (rfl : z264.toInt = _) (by omega)
            generalize (upd g255 z261.toNatClampNeg z264) = g268 at g267 hU
            have hI := mo_w_VAP hI hU v.toInt (by omega) (by omega) (by omega)
            have pn269 : mo_R g268 (1) = n1 := (hU.ne (by omega) (by omega)).trans pn256
            have pn270 : mo_R g268 (11) = n11 := (hU.ne (by omega) (by omega)).trans pn257
            have pn271 : mo_R g268 (547 + 84 * v.toInt + 5) = z264.toInt := hU.eq (by omega)
            exact hj71 _ _ _ _ ⟨f265, rfl, hT, hR, (by rw [g267, mo_i1]; exact hI), (by rw [g267, mo_i1]; omega), (by rw [g267, mo_i1]; omega), hP, hD, hS, lv_sub hl [2, 3, 4, 5, 6] rfl⟩
          · have ic249 : z246.toInt > z68.toInt := zi_lef rfl vz248 c249
            refine lv_aload_n hx hb dX12_goShip_216 rfl (lv_at hl 4 rfl) ?_
            refine va_get (D := (dC, dI)) (ci := 12) (v := .ref (ρ h0 2)) (C := RX12) (T := TX12) (N := 53) hx hb hts hfX12 hown hK hP q240 eq240 rfl 2 (by decide) (hts (.fieldLink RX12 7 "ColdShipsModel" "row" "[I") wa_148) (fun _ h9 => h9) rfl dX12_goShip_217 ?_
            refine lv_iload_n hx hb dX12_goShip_220 rfl (lv_at hl 3 rfl) ?_
            refine lv_iconst (v := 4) hx hb dX12_goShip_221 (by decide) ?_
            refine lv_iadd hx hb dX12_goShip_222 ?_
            refine lv_topi (fun z272 ez272 => ?_)
            have iz272 : z272.toInt = r28.toInt + 4 := zi_add ez272 rfl rfl (by omega) (by omega)
            refine va_iald hx hb hK hP q242 0 eq242 rfl (vp_in_iff.mpr ⟨by omega, by omega⟩) dX12_goShip_223 ?_
            refine lv_topi (fun z273 ez273 => ?_)
            have := hI.GC (s := v.toInt) (by omega) (by omega)
            have jz273 : z273.toInt = mo_R g233 (547 + 84 * v.toInt + 4) := mo_rd ez273 (by omega)
            have kz273 := hI.GG (s := v.toInt) (by omega) (by omega)
            have vz273 : z273.toInt = z68.toInt := jz273.trans pn237
            refine lv_goto (tgt := 229) hx hb dX12_goShip_224 (by decide) ?_
            refine lv_istore (lv' := [(6, .int z273), (5, .int z226), (4, .int z42), (3, .int r28), (0, .ref h0), (1, .int v), (2, .int u)]) hx hb dX12_goShip_229 hl (by decide) rfl (fun ls hl => ?_)
            refine lv_aload_n hx hb dX12_goShip_231 rfl (lv_at hl 4 rfl) ?_
            refine lv_iload_n hx hb dX12_goShip_232 rfl (lv_at hl 3 rfl) ?_
            refine lv_iload hx hb dX12_goShip_233 (lv_at hl 0 rfl) ?_
            have hFc := tp_fr hD hS hA
            refine va_callv (va_runV (As := [.int r28, .int z273]) (rest := []) ⟨hx, hb, hml, hown, hts⟩ (t_X12_take l dC dI _ κ τ ν ρ L f230 hG hT h0 r28 z273 v.toInt 300 v.toInt ht_h0 (by omega) (by omega) (by omega) (by rw [g232, mo_i1]; exact hI) (by first | (simp only [g232, hf_o26, mo_i1]; omega) | (simp only [g232, hf_o26, mo_i1]; trivial) | (simp only [g232, hf_o26, mo_i1]; done) | omega) (by first | (simp only [g232, hf_o26, mo_i1]; omega) | (simp only [g232, hf_o26, mo_i1]; trivial) | (simp only [g232, hf_o26, mo_i1]; done) | omega)) (cwV 2 hts gX12_goShip_X12_take rfl rfl rfl ⟨rfl, pd_X12_take⟩ ⟨Nat.le_of_ble_eq_true rfl, Nat.le_of_ble_eq_true rfl⟩) ⟨pz_blind, va_recv hK hP (ci := 12) (q0 := q240) rfl eq240, pz_pre hP hK hD hN⟩ rfl rfl hl.1 rfl (lv_room (Nat.le_of_ble_eq_true rfl)) dX12_goShip_235 ⟨Nat.le_of_ble_eq_true rfl, Nat.le_of_ble_eq_true rfl⟩) hS (fun q _ h => hFc q h) hFc (fun f276 t H1 locs ht hvm hw275 hB hz1 hk1 hS => ?_)
            refine tn_3 hw275 (fun hT hF277 hw275p => ?_); clear hw275
            have hR := hR.then hF277 (by decide)
            have hP := hB.1; rw [ht] at hP; have hD := tp_ad f276 hD; clear hB hFc hz1 hk1; subst ht; generalize t.heap = H at hP hS ⊢
            obtain ⟨hJ, hw275pe⟩ := hw275p
            refine tpk_32 hT y1 (fun g279 hf_o278 => ?_)
            have hI : mo_RI v.toInt 300 (mo_R g279) := by have q9 := hJ; rw [hf_o278, mo_i1] at q9; exact q9
            rw [g232, mo_i1] at hw275pe
            rw [hf_o278, mo_i1] at hw275pe
            have pn280 : mo_R g279 (1) = n1 := (hw275pe.1).trans pn234
            have pn281 : mo_R g279 (11) = n11 := (hw275pe.2.1).trans pn235
            have pn282 : mo_R g279 (547 + 84 * v.toInt + 5) = z56.toInt := (hw275pe.2.2.2).trans pn236
            refine lv_aload_n hx hb dX12_goShip_238 rfl (lv_at hl 4 rfl) ?_
            have hf_283 : f276 h0 = .inr (12, [.int o30_x0, .int o30_x1, .ref (ρ h0 2), .ref (ρ h0 3), .ref (ρ h0 4), .ref (ρ h0 5), .ref (ρ h0 6), .int o30_x7, .ref (ρ h0 8), .int o30_x9, .int o30_x10, .int o30_x11, .int o30_x12, .long o30_x13, .int o30_x14, .int o30_x15, .int o30_x16, .int o30_x17, .int o30_x18, .int o30_x19, .int o30_x20, .ref (ρ h0 21), .int o30_x22, .ref (ρ h0 23), .ref (ρ h0 24), .int o30_x25, .ref (ρ h0 26), .ref (ρ h0 27), .int o30_x28, .int o30_x29, .ref (ρ h0 30), .ref (ρ h0 31), .int o30_x32, .long o30_x33, .long o30_x34, .long o30_x35, .int o30_x36, .int o30_x37, .int o30_x38, .ref (ρ h0 39), .ref (ρ h0 40), .ref (ρ h0 41), .ref (ρ h0 42), .ref (ρ h0 43), .ref (ρ h0 44), .ref (ρ h0 45), .ref (ρ h0 46), .int o30_x47, .int o30_x48, .ref (ρ h0 49), .ref (ρ h0 50), .ref (ρ h0 51), .ref (ρ h0 52)]) := (hF277 _ (by rw [ht_h0]; decide)).trans hf_239
            refine tpk_pos (tp_in hG ht_h0 (by decide)) hf_283 (fun q284 eq284 => ?_)
            refine va_get (D := (dC, dI)) (ci := 12) (v := .ref (ρ h0 2)) (C := RX12) (T := TX12) (N := 53) hx hb hts hfX12 hown hK hP q284 eq284 rfl 2 (by decide) (hts (.fieldLink RX12 7 "ColdShipsModel" "row" "[I") wa_148) (fun _ h9 => h9) rfl dX12_goShip_239 ?_
            refine lv_iload_n hx hb dX12_goShip_242 rfl (lv_at hl 3 rfl) ?_
            refine lv_iconst (v := 5) hx hb dX12_goShip_243 (by decide) ?_
            refine lv_iadd hx hb dX12_goShip_244 ?_
            refine lv_topi (fun z285 ez285 => ?_)
            have iz285 : z285.toInt = r28.toInt + 5 := zi_add ez285 rfl rfl (by omega) (by omega)
            refine lv_dup2_11 hx hb dX12_goShip_245 rfl rfl ?_
            refine tpk_pos (tp_in hG y1 (by decide)) hf_o278 (fun q286 eq286 => ?_)
            refine va_iald hx hb hK hP q286 0 eq286 rfl (vp_in_iff.mpr ⟨by omega, by omega⟩) dX12_goShip_246 ?_
            refine lv_topi (fun z287 ez287 => ?_)
            have jz287 : z287.toInt = mo_R g279 (547 + 84 * v.toInt + 5) := mo_rd ez287 (by omega)
            have kz287 := hI.V (s := v.toInt) (by omega) (by omega)
            have vz287 : z287.toInt = z56.toInt := jz287.trans pn282
            refine lv_iload hx hb dX12_goShip_247 (lv_at hl 0 rfl) ?_
            refine lv_iadd hx hb dX12_goShip_249 ?_
            refine lv_topi (fun z288 ez288 => ?_)
            have iz288 : z288.toInt = z56.toInt + z68.toInt := zi_add ez288 vz287 vz273 (by omega) (by omega)
            refine va_iast hx hb hK hP hD hS q286 0 eq286 rfl (vp_in_iff.mpr ⟨by omega, by omega⟩) dX12_goShip_250 (tp_k (.inl (κ 0, 12967, .inl (upd g279 z285.toNatClampNeg z288))) hD (tp_in hG y1 (by decide)) eq286 (fun f289 H locs hP hD hS g291 k290 => ?_))
            have hT := hT.up y1 g291 k290 tp_o32
            have hR := hR.up y1 (by decide) k290
            have hU : mo_U (mo_R g279) (mo_R (upd g279 z285.toNatClampNeg z288)) (547 + 84 * v.toInt + 5) (z288.toInt) := mo_up (by omega) (rfl : z288.toInt = _) (by omega)
            generalize (upd g279 z285.toNatClampNeg z288) = g292 at g291 hU
            have hI := mo_w_VAP hI hU v.toInt (by omega) (by omega) (by omega)
            have pn293 : mo_R g292 (1) = n1 := (hU.ne (by omega) (by omega)).trans pn280
            have pn294 : mo_R g292 (11) = n11 := (hU.ne (by omega) (by omega)).trans pn281
            have pn295 : mo_R g292 (547 + 84 * v.toInt + 5) = z288.toInt := hU.eq (by omega)
            exact hj71 _ _ _ _ ⟨f289, rfl, hT, hR, (by rw [g291, mo_i1]; exact hI), (by rw [g291, mo_i1]; omega), (by rw [g291, mo_i1]; omega), hP, hD, hS, lv_sub hl [2, 3, 4, 5, 6] rfl⟩
    · have ic149 : z68.toInt < r69.toInt := zi_gef rfl rfl c149
      refine lv_aload_n hx hb dX12_goShip_80 rfl (lv_at hl 2 rfl) ?_
      refine va_get (D := (dC, dI)) (ci := 12) (v := .ref (ρ h0 2)) (C := RX12) (T := TX12) (N := 53) hx hb hts hfX12 hown hK hP q65 eq65 rfl 2 (by decide) (hts (.fieldLink RX12 7 "ColdShipsModel" "row" "[I") wa_148) (fun _ h9 => h9) rfl dX12_goShip_81 ?_
      refine lv_iload_n hx hb dX12_goShip_84 rfl (lv_at hl 1 rfl) ?_
      refine lv_bipush (v := 6) hx hb dX12_goShip_85 (by decide) ?_
      refine lv_iadd hx hb dX12_goShip_87 ?_
      refine lv_topi (fun z296 ez296 => ?_)
      have iz296 : z296.toInt = r28.toInt + 6 := zi_add ez296 rfl rfl (by omega) (by omega)
      refine lv_aload_n hx hb dX12_goShip_88 rfl (lv_at hl 2 rfl) ?_
      refine va_get (D := (dC, dI)) (ci := 12) (v := .ref (ρ h0 2)) (C := RX12) (T := TX12) (N := 53) hx hb hts hfX12 hown hK hP q65 eq65 rfl 2 (by decide) (hts (.fieldLink RX12 7 "ColdShipsModel" "row" "[I") wa_148) (fun _ h9 => h9) rfl dX12_goShip_89 ?_
      refine lv_iload_n hx hb dX12_goShip_92 rfl (lv_at hl 1 rfl) ?_
      refine lv_bipush (v := 6) hx hb dX12_goShip_93 (by decide) ?_
      refine lv_iadd hx hb dX12_goShip_95 ?_
      refine lv_topi (fun z297 ez297 => ?_)
      have iz297 : z297.toInt = r28.toInt + 6 := zi_add ez297 rfl rfl (by omega) (by omega)
      refine va_iald hx hb hK hP q67 0 eq67 rfl (vp_in_iff.mpr ⟨by omega, by omega⟩) dX12_goShip_96 ?_
      refine lv_topi (fun z298 ez298 => ?_)
      have jz298 : z298.toInt = mo_R g60 (547 + 84 * v.toInt + 6) := mo_rd ez298 (by omega)
      refine lv_iconst (v := 5) hx hb dX12_goShip_97 (by decide) ?_
      refine lv_iadd hx hb dX12_goShip_98 ?_
      refine lv_topi (fun z299 ez299 => ?_)
      refine lv_sipush (v := 1800) hx hb dX12_goShip_99 (by decide) ?_
      refine lv_icmp_le (tgt := 111) hx hb dX12_goShip_102 (by decide) (fun c300 => ?_) (fun c300 => ?_)
      · have ic300 : z299.toInt ≤ 1800 := zi_le rfl rfl c300
        refine lv_aload_n hx hb dX12_goShip_111 rfl (lv_at hl 2 rfl) ?_
        refine va_get (D := (dC, dI)) (ci := 12) (v := .ref (ρ h0 2)) (C := RX12) (T := TX12) (N := 53) hx hb hts hfX12 hown hK hP q65 eq65 rfl 2 (by decide) (hts (.fieldLink RX12 7 "ColdShipsModel" "row" "[I") wa_148) (fun _ h9 => h9) rfl dX12_goShip_112 ?_
        refine lv_iload_n hx hb dX12_goShip_115 rfl (lv_at hl 1 rfl) ?_
        refine lv_bipush (v := 6) hx hb dX12_goShip_116 (by decide) ?_
        refine lv_iadd hx hb dX12_goShip_118 ?_
        refine lv_topi (fun z301 ez301 => ?_)
        have iz301 : z301.toInt = r28.toInt + 6 := zi_add ez301 rfl rfl (by omega) (by omega)
        refine va_iald hx hb hK hP q67 0 eq67 rfl (vp_in_iff.mpr ⟨by omega, by omega⟩) dX12_goShip_119 ?_
        refine lv_topi (fun z302 ez302 => ?_)
        have jz302 : z302.toInt = mo_R g60 (547 + 84 * v.toInt + 6) := mo_rd ez302 (by omega)
        have vz302 : z302.toInt = z298.toInt := jz302.trans (jz298).symm
        refine lv_iconst (v := 5) hx hb dX12_goShip_120 (by decide) ?_
        refine lv_iadd hx hb dX12_goShip_121 ?_
        refine lv_topi (fun z303 ez303 => ?_)
        refine va_iast hx hb hK hP hD hS q67 0 eq67 rfl (vp_in_iff.mpr ⟨by omega, by omega⟩) dX12_goShip_122 (tp_k (.inl (κ 0, 12967, .inl (upd g60 z296.toNatClampNeg z303))) hD (tp_in hG y1 (by decide)) eq67 (fun f304 H locs hP hD hS g306 k305 => ?_))
        have hT := hT.up y1 g306 k305 tp_o32
        have hR := hR.up y1 (by decide) k305
        have hU : mo_U (mo_R g60) (mo_R (upd g60 z296.toNatClampNeg z303)) (547 + 84 * v.toInt + 6) (z303.toInt) := mo_up (by omega) (rfl : z303.toInt = _) (by omega)
        generalize (upd g60 z296.toNatClampNeg z303) = g307 at g306 hU
        have hI := mo_w_sfree hI hU v.toInt 6 (by omega) (by omega) (by omega)
        have pn308 : mo_R g307 (1) = n1 := (hU.ne (by omega) (by omega)).trans pn61
        have pn309 : mo_R g307 (11) = n11 := (hU.ne (by omega) (by omega)).trans pn62
        have pn310 : mo_R g307 (547 + 84 * v.toInt + 5) = z56.toInt := (hU.ne (by omega) (by omega)).trans pn63
        have pn311 : mo_R g307 (547 + 84 * v.toInt + 4) = z68.toInt := (hU.ne (by omega) (by omega)).trans (jz68).symm
        have pn312 : mo_R g307 (547 + 84 * v.toInt + 6) = z303.toInt := hU.eq (by omega)
        refine lv_goto (tgt := 251) hx hb dX12_goShip_123 (by decide) ?_
        exact hj71 _ _ _ _ ⟨f304, rfl, hT, hR, (by rw [g306, mo_i1]; exact hI), (by rw [g306, mo_i1]; omega), (by rw [g306, mo_i1]; omega), hP, hD, hS, lv_sub hl [0, 1, 2, 3, 4] rfl⟩
      · have ic300 : z299.toInt > 1800 := zi_lef rfl rfl c300
        refine lv_sipush (v := 1800) hx hb dX12_goShip_105 (by decide) ?_
        refine lv_goto (tgt := 122) hx hb dX12_goShip_108 (by decide) ?_
        refine va_iast hx hb hK hP hD hS q67 0 eq67 rfl (vp_in_iff.mpr ⟨by omega, by omega⟩) dX12_goShip_122 (tp_k (.inl (κ 0, 12967, .inl (upd g60 z296.toNatClampNeg (1800 : Int32)))) hD (tp_in hG y1 (by decide)) eq67 (fun f313 H locs hP hD hS g315 k314 => ?_))
        have hT := hT.up y1 g315 k314 tp_o32
        have hR := hR.up y1 (by decide) k314
        have hU : mo_U (mo_R g60) (mo_R (upd g60 z296.toNatClampNeg (1800 : Int32))) (547 + 84 * v.toInt + 6) (1800) := mo_up (by omega) (show (1800 : Int32).toInt = 1800 from rfl) (by omega)
        generalize (upd g60 z296.toNatClampNeg (1800 : Int32)) = g316 at g315 hU
        have hI := mo_w_sfree hI hU v.toInt 6 (by omega) (by omega) (by omega)
        have pn317 : mo_R g316 (1) = n1 := (hU.ne (by omega) (by omega)).trans pn61
        have pn318 : mo_R g316 (11) = n11 := (hU.ne (by omega) (by omega)).trans pn62
        have pn319 : mo_R g316 (547 + 84 * v.toInt + 5) = z56.toInt := (hU.ne (by omega) (by omega)).trans pn63
        have pn320 : mo_R g316 (547 + 84 * v.toInt + 4) = z68.toInt := (hU.ne (by omega) (by omega)).trans (jz68).symm
        have pn321 : mo_R g316 (547 + 84 * v.toInt + 6) = 1800 := hU.eq (by omega)
        refine lv_goto (tgt := 251) hx hb dX12_goShip_123 (by decide) ?_
        exact hj71 _ _ _ _ ⟨f313, rfl, hT, hR, (by rw [g315, mo_i1]; exact hI), (by rw [g315, mo_i1]; omega), (by rw [g315, mo_i1]; omega), hP, hD, hS, lv_sub hl [0, 1, 2, 3, 4] rfl⟩
set_option maxHeartbeats 4000000 in
set_option maxRecDepth 100000 in
theorem t_X12_go (l : Launch) (dC : Nat → ClassId) (dI : Nat → Nat → Nat) (sz : Nat) (κ : Nat → ClassId) (τ ν : Nat → Nat) (ρ : Nat → Nat → Nat) (L : List Nat) (f : Nat → va_E) (hG : tp_G τ ν ρ L) (hT : tp_T (mo_O κ) κ τ ν ρ f) (h0 : Nat) (v : Int32) (ht_h0 : τ h0 = 13) (hJ : mo_RI (-1) 0 (mo_R (mo_i (f (ρ h0 2))))) : Met l yX12_go wqX12_go ({ frames := 7, cells := 0, slots := 0, locals := 2400 }) (va_Pc [.ref h0, .int v] (pz_B dC dI (tp_K κ) (va_pl L f) sz)) (va_Qi (fun (r : Int32) (f1 : Nat → va_E) => tp_T (mo_O κ) κ τ ν ρ f1 ∧ tp_F τ [13, 32, 35, 36] f f1 ∧ True ∧ mo_RI (-1) 0 (mo_R (mo_i (f1 (ρ h0 2))))) (fun (f1 : Nat → va_E) (t : State) => pz_E dC dI (tp_K κ) (va_A (va_pl L f) sz) (va_pl L f1) t) (va_A (va_pl L f) sz)) 0 0 (va_A (va_pl L f) sz) := by
  refine Met.ofW (cc := cX12_go) (maxL := 4) (ret := some .int) (by decide) rfl ?_
  intro p e s m args below meth c s₁ B hml hv
  obtain ⟨rfl, hsz, hP, hK, hD0, hN⟩ := hv
  have hx := B.exec
  have hb := B.bytes
  have hr := B.returns
  have hts := fun (w : Cond) (h : w ∈ WALL) => atoms_spec (ws := wqX12_go) B.pre w (List.mem_cons_of_mem _ h)
  have hown : s.vm.findClass RX12 = some m.cls := findClass_of_methodNamed B.named
  have hlocks := B.notSynchronized
  subst hsz
  have hD := hD0.self (sz := s.heap.size)
  generalize hAe : va_A (va_pl L f) s.heap.size = A at hD ⊢
  have hA : ∀ q : Nat, s.heap.size ≤ q → A q := fun q h => by rw [← hAe]; exact Or.inr h
  have hS : va_S A s.heap s.heap [] := va_S.rf
  have hR : tp_F τ [13, 32, 35, 36] f f := tp_F.rf
  have hl := lv_entry ([.ref h0, .int v]) (n := 4) (Nat.le_of_ble_eq_true rfl)
  rw [lg_entry_eq]
  generalize (lg_sl ([.ref h0, .int v]) ++ List.replicate (4 - (lg_sl ([.ref h0, .int v])).length) Slot.unset).toArray = ls at hl ⊢
  have hl : lv_has ls 4 [(0, .ref h0), (1, .int v)] := hl
  refine tgk_13 hG ht_h0 (fun y1 y2 y3 y4 y5 y6 y7 y8 y9 y10 y11 y12 y13 y14 y15 y16 y17 y18 y19 y20 y21 y22 y23 y24 y25 => ?_)
  refine tpk_32 hT y1 (fun g27 hf_o26 => ?_)
  have hI : mo_RI (-1) 0 (mo_R g27) := by have q9 := hJ; rw [hf_o26, mo_i1] at q9; exact q9
  refine lv_aload_n hx hb dX12_go_0 rfl (lv_at hl 0 rfl) ?_
  refine lv_iconst (v := 0) hx hb dX12_go_1 (by decide) ?_
  refine tpk_13 hT ht_h0 (fun o28_x0 o28_x1 o28_x7 o28_x9 o28_x10 o28_x11 o28_x12 o28_x13 o28_x14 o28_x15 o28_x16 o28_x17 o28_x18 o28_x19 o28_x20 o28_x22 o28_x25 o28_x28 o28_x29 o28_x32 o28_x33 o28_x34 o28_x35 o28_x36 o28_x37 o28_x38 o28_x47 o28_x48 hf_o28 ro28_0 ro28_1 ro28_2 ro28_3 ro28_4 ro28_5 ro28_6 ro28_7 ro28_8 ro28_9 ro28_10 ro28_11 ro28_12 ro28_13 => ?_)
  refine tpk_pos (tp_in hG ht_h0 (by decide)) hf_o28 (fun q29 eq29 => ?_)
  refine va_put (D := (dC, dI)) (ci := 12) (v := .int 0) (ty := .int) (C := RX12) (T := TX12) (N := 53) hx hb hts hfX12 tyX12 tyX12_ok nmX12 hown hK hP hD hS q29 eq29 rfl 0 (by decide) (hts (.fieldLink RX12 91 "ColdShipsModel" "thrown" "I") wa_209) (fun _ h9 => h9) rfl (tyX12_ok 0 (by decide)) rfl rfl (Nat.le_of_ble_eq_true rfl) dX12_go_2 (tp_k (.inr (12, [.int 0, .int o28_x1, .ref (ρ h0 2), .ref (ρ h0 3), .ref (ρ h0 4), .ref (ρ h0 5), .ref (ρ h0 6), .int o28_x7, .ref (ρ h0 8), .int o28_x9, .int o28_x10, .int o28_x11, .int o28_x12, .long o28_x13, .int o28_x14, .int o28_x15, .int o28_x16, .int o28_x17, .int o28_x18, .int o28_x19, .int o28_x20, .ref (ρ h0 21), .int o28_x22, .ref (ρ h0 23), .ref (ρ h0 24), .int o28_x25, .ref (ρ h0 26), .ref (ρ h0 27), .int o28_x28, .int o28_x29, .ref (ρ h0 30), .ref (ρ h0 31), .int o28_x32, .long o28_x33, .long o28_x34, .long o28_x35, .int o28_x36, .int o28_x37, .int o28_x38, .ref (ρ h0 39), .ref (ρ h0 40), .ref (ρ h0 41), .ref (ρ h0 42), .ref (ρ h0 43), .ref (ρ h0 44), .ref (ρ h0 45), .ref (ρ h0 46), .int o28_x47, .int o28_x48, .ref (ρ h0 49), .ref (ρ h0 50), .ref (ρ h0 51), .ref (ρ h0 52)])) hD (tp_in hG ht_h0 (by decide)) eq29 (fun f30 H locs hP hD hS g32 k31 => ?_))
  have hT := hT.up ht_h0 g32 k31 ⟨_, _, _, _, _, _, _, _, _, _, _, _, _, _, _, _, _, _, _, _, _, _, _, _, _, _, _, _, rfl, ro28_0, ro28_1, ro28_2, ro28_3, ro28_4, ro28_5, ro28_6, ro28_7, ro28_8, ro28_9, ro28_10, ro28_11, ro28_12, ro28_13⟩
  have hR := hR.up ht_h0 (by decide) k31
  refine lv_iload_n hx hb dX12_go_5 rfl (lv_at hl 1 rfl) ?_
  refine lv_i2l hx hb dX12_go_6 rfl ?_
  refine lv_lconst (v := 1) hx hb dX12_go_7 (by decide) ?_
  refine lv_ldc2 (own := RX12) (v := 480) hx hb hown (hts (.constantLong RX12 167 (480)) wa_546) dX12_go_8 ?_
  have hf_33 : f30 (ρ h0 2) = .inl (κ 0, 12967, .inl g27) := (k31 _ (tp_ne y1 ht_h0 (by decide))).trans hf_o26
  refine pz_calli (va_runS (As := [.long v.toInt64, .long 1, .long 480]) (rest := []) ⟨hx, hb, hml, hown, hts⟩ (t_X12_in l dC dI _ v.toInt64 (1) (480) (v.toInt) (1) (480) (Int32.toInt_toInt64 v) rfl rfl) (va_cwS 3 hts gX12_go_X12_in rfl rfl rfl pd_X12_in ⟨Nat.le_of_ble_eq_true rfl, Nat.le_of_ble_eq_true rfl⟩) ⟨pz_blind, pz_pre pz_P0 (hK.sub (tys' := []) [] rfl) (pz_D0 (A := fun _ => True)) hN⟩ rfl rfl hl.1 rfl (lv_room (Nat.le_of_ble_eq_true rfl)) dX12_go_11 ⟨Nat.le_of_ble_eq_true rfl, Nat.le_of_ble_eq_true rfl⟩) (fun r34 hw35 => ?_)
  obtain ⟨hw35r, hw35p⟩ := hw35
  refine lv_if_eq (tgt := 32) hx hb dX12_go_14 (by decide) (fun c36 => ?_) (fun c36 => ?_)
  · have ic36 : r34.toInt = 0 := zi_eq rfl rfl c36
    refine lv_aload_n hx hb dX12_go_32 rfl (lv_at hl 0 rfl) ?_
    refine lv_iconst (v := (-1)) hx hb dX12_go_33 (by decide) ?_
    refine tpk_pos (tp_in hG ht_h0 (by decide)) g32 (fun q37 eq37 => ?_)
    have hFc := tp_fr hD hS hA
    refine va_calli (va_runV (As := [.int (-1)]) (rest := []) ⟨hx, hb, hml, hown, hts⟩ (t_X12_told l dC dI _ κ τ ν ρ L f30 hG hT h0 ((-1)) ht_h0) (cwV 1 hts gX12_go_X12_told rfl rfl rfl ⟨rfl, pd_X12_told⟩ ⟨Nat.le_of_ble_eq_true rfl, Nat.le_of_ble_eq_true rfl⟩) ⟨pz_blind, va_recv hK hP (ci := 12) (q0 := q37) rfl eq37, pz_pre hP hK hD hN⟩ rfl rfl hl.1 rfl (lv_room (Nat.le_of_ble_eq_true rfl)) dX12_go_34 ⟨Nat.le_of_ble_eq_true rfl, Nat.le_of_ble_eq_true rfl⟩) hS (fun q _ h => hFc q h) hFc (fun r38 f40 t H1 locs ht hvm hw39 hB hz1 hk1 hS => ?_)
    refine tn_4 hw39 (fun hT hF41 hw39r hw39p => ?_); clear hw39
    have hR := hR.then hF41 (by decide)
    have hP := hB.1; rw [ht] at hP; have hD := tp_ad f40 hD; clear hB hFc hz1 hk1; subst ht; generalize t.heap = H at hP hS ⊢
    have hw39pq : r38.toInt = (-1) := by rw [hw39p]; rfl
    have hf_42 : f40 (ρ h0 2) = .inl (κ 0, 12967, .inl g27) := (hF41 _ (by rw [y1]; decide)).trans hf_33
    exact W.iret (v := r38) hx hb hr (fun t ht hW => ⟨⟨r38, f40, rfl, ⟨hT, hR, trivial, (by rw [hf_42, mo_i1]; exact hI)⟩, by rw [ht]; exact hP, va_K.moved hW.alike hK, hD⟩, hS.F ht⟩) hS.2.2 dX12_go_37
  · have ic36 : r34.toInt ≠ 0 := zi_eqf rfl rfl c36
    replace ic36 : 1 ≤ r34.toInt := by omega
    have p43 : (1) ≤ (v.toInt) ∧ (v.toInt) ≤ (480) := (tp_cond.yes hw35p) (by omega)
    refine lv_aload_n hx hb dX12_go_17 rfl (lv_at hl 0 rfl) ?_
    refine tpk_pos (tp_in hG ht_h0 (by decide)) g32 (fun q44 eq44 => ?_)
    refine va_get (D := (dC, dI)) (ci := 12) (v := .ref (ρ h0 2)) (C := RX12) (T := TX12) (N := 53) hx hb hts hfX12 hown hK hP q44 eq44 rfl 2 (by decide) (hts (.fieldLink RX12 7 "ColdShipsModel" "row" "[I") wa_148) (fun _ h9 => h9) rfl dX12_go_18 ?_
    refine lv_bipush (v := 11) hx hb dX12_go_21 (by decide) ?_
    refine tpk_pos (tp_in hG y1 (by decide)) hf_33 (fun q45 eq45 => ?_)
    refine va_iald hx hb hK hP q45 0 eq45 rfl (vp_in_iff.mpr ⟨by decide, by decide⟩) dX12_go_23 ?_
    refine lv_topi (fun z46 ez46 => ?_)
    have jz46 : z46.toInt = mo_R g27 (11) := mo_rd ez46 (show (11 : Int32).toInt = (11) from by decide)
    have kz46 := hI.k11
    refine lv_iload_n hx hb dX12_go_24 rfl (lv_at hl 1 rfl) ?_
    refine lv_iadd hx hb dX12_go_25 ?_
    refine lv_topi (fun z47 ez47 => ?_)
    have iz47 : z47.toInt = z46.toInt + v.toInt := zi_add ez47 rfl rfl (by omega) (by omega)
    refine lv_sipush (v := 2399) hx hb dX12_go_26 (by decide) ?_
    refine lv_icmp_le (tgt := 38) hx hb dX12_go_29 (by decide) (fun c48 => ?_) (fun c48 => ?_)
    · have ic48 : z47.toInt ≤ 2399 := zi_le rfl rfl c48
      refine lv_iconst (v := 0) hx hb dX12_go_38 (by decide) ?_
      refine lv_istore_n (lv' := [(2, .int 0), (0, .ref h0), (1, .int v)]) hx hb dX12_go_39 rfl hl (by decide) rfl (fun ls hl => ?_)
      refine pz_loop (fun n0 H locs ls => ∃ f51 : Nat → va_E, ∃ w49 : Int32, n0 = (480 - (w49.toInt)).toNat ∧ tp_T (mo_O κ) κ τ ν ρ f51 ∧ tp_F τ [13, 32, 35, 36] f f51 ∧ ((mo_RI (-1) 0 (mo_R (mo_i (f51 (ρ h0 2)))))) ∧ (((mo_R (mo_i (f51 (ρ h0 2)))) (11) = z46.toInt + (w49.toInt))) ∧ (0 ≤ w49.toInt ∧ w49.toInt ≤ 480) ∧ ((w49.toInt) ≤ v.toInt) ∧ va_P (dC, dI) vwCl (va_pl L f51) H ∧ va_D A (va_pl L f51) ∧ va_S A s.heap H locs ∧ lv_has ls 4 [(2, .int w49), (0, .ref h0), (1, .int v)]) ?_ _ _ _ _ ⟨f30, 0, rfl, hT, hR, (by rw [hf_33, mo_i1]; exact hI), (by rw [hf_33, mo_i1]; have : (0 : Int32).toInt = 0 := rfl; omega), (by have : (0 : Int32).toInt = 0 := rfl; omega), (by have : (0 : Int32).toInt = 0 := rfl; omega), hP, hD, hS, lv_sub hl [0, 1, 2] rfl⟩
      intro n0 H locs ls hI ih53
      refine Exists.elim hI (fun f51 hE90 => Exists.elim hE90 (fun w49 hE91 => tn_11 hE91 (fun hn54 hT hR hJ jf55 rw49 k50 hP hD hS hl => ?_)))
      clear hE91 hE90 hI
      refine tpk_32 hT y1 (fun g57 hf_o56 => ?_)
      have hI : mo_RI (-1) 0 (mo_R g57) := by have q9 := hJ; rw [hf_o56, mo_i1] at q9; exact q9
      rw [hf_o56, mo_i1] at jf55
      refine lv_iload_n hx hb dX12_go_40 rfl (lv_at hl 0 rfl) ?_
      refine lv_iload_n hx hb dX12_go_41 rfl (lv_at hl 2 rfl) ?_
      refine lv_icmp_ge (tgt := 97) hx hb dX12_go_42 (by decide) (fun c58 => ?_) (fun c58 => ?_)
      · have ic58 : w49.toInt ≥ v.toInt := zi_ge rfl rfl c58
        refine lv_aload_n hx hb dX12_go_97 rfl (lv_at hl 1 rfl) ?_
        refine lv_aload_n hx hb dX12_go_98 rfl (lv_at hl 1 rfl) ?_
        refine tpk_13 hT ht_h0 (fun o59_x0 o59_x1 o59_x7 o59_x9 o59_x10 o59_x11 o59_x12 o59_x13 o59_x14 o59_x15 o59_x16 o59_x17 o59_x18 o59_x19 o59_x20 o59_x22 o59_x25 o59_x28 o59_x29 o59_x32 o59_x33 o59_x34 o59_x35 o59_x36 o59_x37 o59_x38 o59_x47 o59_x48 hf_o59 ro59_0 ro59_1 ro59_2 ro59_3 ro59_4 ro59_5 ro59_6 ro59_7 ro59_8 ro59_9 ro59_10 ro59_11 ro59_12 ro59_13 => ?_)
        refine tpk_pos (tp_in hG ht_h0 (by decide)) hf_o59 (fun q60 eq60 => ?_)
        refine va_get (D := (dC, dI)) (ci := 12) (v := .ref (ρ h0 2)) (C := RX12) (T := TX12) (N := 53) hx hb hts hfX12 hown hK hP q60 eq60 rfl 2 (by decide) (hts (.fieldLink RX12 7 "ColdShipsModel" "row" "[I") wa_148) (fun _ h9 => h9) rfl dX12_go_99 ?_
        refine lv_bipush (v := 11) hx hb dX12_go_102 (by decide) ?_
        refine tpk_pos (tp_in hG y1 (by decide)) hf_o56 (fun q61 eq61 => ?_)
        refine va_iald hx hb hK hP q61 0 eq61 rfl (vp_in_iff.mpr ⟨by decide, by decide⟩) dX12_go_104 ?_
        refine lv_topi (fun z62 ez62 => ?_)
        have jz62 : z62.toInt = mo_R g57 (11) := mo_rd ez62 (show (11 : Int32).toInt = (11) from by decide)
        have kz62 := hI.k11
        have vz62 : z62.toInt = z46.toInt + (w49.toInt) := jz62.trans jf55
        have hFc := tp_fr hD hS hA
        refine va_calli (va_runV (As := [.int z62]) (rest := []) ⟨hx, hb, hml, hown, hts⟩ (t_X12_told l dC dI _ κ τ ν ρ L f51 hG hT h0 z62 ht_h0) (cwV 1 hts gX12_go_X12_told rfl rfl rfl ⟨rfl, pd_X12_told⟩ ⟨Nat.le_of_ble_eq_true rfl, Nat.le_of_ble_eq_true rfl⟩) ⟨pz_blind, va_recv hK hP (ci := 12) (q0 := q60) rfl eq60, pz_pre hP hK hD hN⟩ rfl rfl hl.1 rfl (lv_room (Nat.le_of_ble_eq_true rfl)) dX12_go_105 ⟨Nat.le_of_ble_eq_true rfl, Nat.le_of_ble_eq_true rfl⟩) hS (fun q _ h => hFc q h) hFc (fun r63 f65 t H1 locs ht hvm hw64 hB hz1 hk1 hS => ?_)
        refine tn_4 hw64 (fun hT hF66 hw64r hw64p => ?_); clear hw64
        have hR := hR.then hF66 (by decide)
        have hP := hB.1; rw [ht] at hP; have hD := tp_ad f65 hD; clear hB hFc hz1 hk1; subst ht; generalize t.heap = H at hP hS ⊢
        have hw64pq : r63.toInt = z62.toInt := by rw [hw64p]
        have hf_67 : f65 (ρ h0 2) = .inl (κ 0, 12967, .inl g57) := (hF66 _ (by rw [y1]; decide)).trans hf_o56
        exact W.iret (v := r63) hx hb hr (fun t ht hW => ⟨⟨r63, f65, rfl, ⟨hT, hR, trivial, (by rw [hf_67, mo_i1]; exact hI)⟩, by rw [ht]; exact hP, va_K.moved hW.alike hK, hD⟩, hS.F ht⟩) hS.2.2 dX12_go_108
      · have ic58 : w49.toInt < v.toInt := zi_gef rfl rfl c58
        refine lv_aload_n hx hb dX12_go_45 rfl (lv_at hl 1 rfl) ?_
        refine lv_iconst (v := 0) hx hb dX12_go_46 (by decide) ?_
        refine tpk_13 hT ht_h0 (fun o68_x0 o68_x1 o68_x7 o68_x9 o68_x10 o68_x11 o68_x12 o68_x13 o68_x14 o68_x15 o68_x16 o68_x17 o68_x18 o68_x19 o68_x20 o68_x22 o68_x25 o68_x28 o68_x29 o68_x32 o68_x33 o68_x34 o68_x35 o68_x36 o68_x37 o68_x38 o68_x47 o68_x48 hf_o68 ro68_0 ro68_1 ro68_2 ro68_3 ro68_4 ro68_5 ro68_6 ro68_7 ro68_8 ro68_9 ro68_10 ro68_11 ro68_12 ro68_13 => ?_)
        refine tpk_pos (tp_in hG ht_h0 (by decide)) hf_o68 (fun q69 eq69 => ?_)
        refine va_put (D := (dC, dI)) (ci := 12) (v := .int 0) (ty := .boolean) (C := RX12) (T := TX12) (N := 53) hx hb hts hfX12 tyX12 tyX12_ok nmX12 hown hK hP hD hS q69 eq69 rfl 7 (by decide) (hts (.fieldLink RX12 169 "ColdShipsModel" "isTurnTaken" "Z") wa_547) (fun _ h9 => h9) rfl (tyX12_ok 7 (by decide)) rfl rfl (Nat.le_of_ble_eq_true rfl) dX12_go_47 (tp_k (.inr (12, [.int o68_x0, .int o68_x1, .ref (ρ h0 2), .ref (ρ h0 3), .ref (ρ h0 4), .ref (ρ h0 5), .ref (ρ h0 6), .int 0, .ref (ρ h0 8), .int o68_x9, .int o68_x10, .int o68_x11, .int o68_x12, .long o68_x13, .int o68_x14, .int o68_x15, .int o68_x16, .int o68_x17, .int o68_x18, .int o68_x19, .int o68_x20, .ref (ρ h0 21), .int o68_x22, .ref (ρ h0 23), .ref (ρ h0 24), .int o68_x25, .ref (ρ h0 26), .ref (ρ h0 27), .int o68_x28, .int o68_x29, .ref (ρ h0 30), .ref (ρ h0 31), .int o68_x32, .long o68_x33, .long o68_x34, .long o68_x35, .int o68_x36, .int o68_x37, .int o68_x38, .ref (ρ h0 39), .ref (ρ h0 40), .ref (ρ h0 41), .ref (ρ h0 42), .ref (ρ h0 43), .ref (ρ h0 44), .ref (ρ h0 45), .ref (ρ h0 46), .int o68_x47, .int o68_x48, .ref (ρ h0 49), .ref (ρ h0 50), .ref (ρ h0 51), .ref (ρ h0 52)])) hD (tp_in hG ht_h0 (by decide)) eq69 (fun f70 H locs hP hD hS g72 k71 => ?_))
        have hT := hT.up ht_h0 g72 k71 ⟨_, _, _, _, _, _, _, _, _, _, _, _, _, _, _, _, _, _, _, _, _, _, _, _, _, _, _, _, rfl, (by decide), ro68_1, ro68_2, ro68_3, ro68_4, ro68_5, ro68_6, ro68_7, ro68_8, ro68_9, ro68_10, ro68_11, ro68_12, ro68_13⟩
        have hR := hR.up ht_h0 (by decide) k71
        refine lv_iconst (v := 0) hx hb dX12_go_50 (by decide) ?_
        refine lv_istore_n (lv' := [(3, .int 0), (2, .int w49), (0, .ref h0), (1, .int v)]) hx hb dX12_go_51 rfl hl (by decide) rfl (fun ls hl => ?_)
        have hf_73 : f70 (ρ h0 2) = .inl (κ 0, 12967, .inl g57) := (k71 _ (tp_ne y1 ht_h0 (by decide))).trans hf_o56
        refine pz_loop (fun n0 H locs ls => ∃ f75 : Nat → va_E, ∃ w74 : Int32, n0 = (6 - (w74.toInt)).toNat ∧ tp_T (mo_O κ) κ τ ν ρ f75 ∧ tp_F τ [13, 32, 35, 36] f f75 ∧ ((mo_RI (-1) 0 (mo_R (mo_i (f75 (ρ h0 2)))))) ∧ (((mo_R (mo_i (f75 (ρ h0 2)))) (11) = z46.toInt + (w49.toInt))) ∧ (0 ≤ w74.toInt ∧ w74.toInt ≤ 6) ∧ va_P (dC, dI) vwCl (va_pl L f75) H ∧ va_D A (va_pl L f75) ∧ va_S A s.heap H locs ∧ lv_has ls 4 [(3, .int w74), (2, .int w49), (0, .ref h0), (1, .int v)]) ?_ _ _ _ _ ⟨f70, 0, rfl, hT, hR, (by rw [hf_73, mo_i1]; exact hI), (by rw [hf_73, mo_i1]; have : (0 : Int32).toInt = 0 := rfl; omega), (by have : (0 : Int32).toInt = 0 := rfl; omega), hP, hD, hS, lv_sub hl [0, 1, 2, 3] rfl⟩
        intro n0 H locs ls hI ih77
        refine Exists.elim hI (fun f75 hE90 => Exists.elim hE90 (fun w74 hE91 => tn_10 hE91 (fun hn78 hT hR hJ jf79 rw74 hP hD hS hl => ?_)))
        clear hE91 hE90 hI
        refine tpk_32 hT y1 (fun g81 hf_o80 => ?_)
        have hI : mo_RI (-1) 0 (mo_R g81) := by have q9 := hJ; rw [hf_o80, mo_i1] at q9; exact q9
        rw [hf_o80, mo_i1] at jf79
        refine lv_iload_n hx hb dX12_go_52 rfl (lv_at hl 0 rfl) ?_
        refine lv_aload_n hx hb dX12_go_53 rfl (lv_at hl 2 rfl) ?_
        refine tpk_13 hT ht_h0 (fun o82_x0 o82_x1 o82_x7 o82_x9 o82_x10 o82_x11 o82_x12 o82_x13 o82_x14 o82_x15 o82_x16 o82_x17 o82_x18 o82_x19 o82_x20 o82_x22 o82_x25 o82_x28 o82_x29 o82_x32 o82_x33 o82_x34 o82_x35 o82_x36 o82_x37 o82_x38 o82_x47 o82_x48 hf_o82 ro82_0 ro82_1 ro82_2 ro82_3 ro82_4 ro82_5 ro82_6 ro82_7 ro82_8 ro82_9 ro82_10 ro82_11 ro82_12 ro82_13 => ?_)
        refine tpk_pos (tp_in hG ht_h0 (by decide)) hf_o82 (fun q83 eq83 => ?_)
        refine va_get (D := (dC, dI)) (ci := 12) (v := .ref (ρ h0 2)) (C := RX12) (T := TX12) (N := 53) hx hb hts hfX12 hown hK hP q83 eq83 rfl 2 (by decide) (hts (.fieldLink RX12 7 "ColdShipsModel" "row" "[I") wa_148) (fun _ h9 => h9) rfl dX12_go_54 ?_
        refine lv_iconst (v := 1) hx hb dX12_go_57 (by decide) ?_
        refine tpk_pos (tp_in hG y1 (by decide)) hf_o80 (fun q84 eq84 => ?_)
        refine va_iald hx hb hK hP q84 0 eq84 rfl (vp_in_iff.mpr ⟨by decide, by decide⟩) dX12_go_58 ?_
        refine lv_topi (fun z85 ez85 => ?_)
        have jz85 : z85.toInt = mo_R g81 (1) := mo_rd ez85 (show (1 : Int32).toInt = (1) from by decide)
        have kz85 := hI.k1
        refine lv_icmp_ge (tgt := 80) hx hb dX12_go_59 (by decide) (fun c86 => ?_) (fun c86 => ?_)
        · have ic86 : w74.toInt ≥ z85.toInt := zi_ge rfl rfl c86
          refine lv_aload_n hx hb dX12_go_80 rfl (lv_at hl 2 rfl) ?_
          refine va_get (D := (dC, dI)) (ci := 12) (v := .ref (ρ h0 2)) (C := RX12) (T := TX12) (N := 53) hx hb hts hfX12 hown hK hP q83 eq83 rfl 2 (by decide) (hts (.fieldLink RX12 7 "ColdShipsModel" "row" "[I") wa_148) (fun _ h9 => h9) rfl dX12_go_81 ?_
          refine lv_bipush (v := 11) hx hb dX12_go_84 (by decide) ?_
          refine lv_dup2_11 hx hb dX12_go_86 rfl rfl ?_
          refine va_iald hx hb hK hP q84 0 eq84 rfl (vp_in_iff.mpr ⟨by decide, by decide⟩) dX12_go_87 ?_
          refine lv_topi (fun z87 ez87 => ?_)
          have jz87 : z87.toInt = mo_R g81 (11) := mo_rd ez87 (show (11 : Int32).toInt = (11) from by decide)
          have kz87 := hI.k11
          have vz87 : z87.toInt = z46.toInt + (w49.toInt) := jz87.trans jf79
          refine lv_iconst (v := 1) hx hb dX12_go_88 (by decide) ?_
          refine lv_iadd hx hb dX12_go_89 ?_
          refine lv_topi (fun z88 ez88 => ?_)
          have iz88 : z88.toInt = z87.toInt + 1 := zi_add ez88 rfl rfl (by omega) (by omega)
          refine va_iast hx hb hK hP hD hS q84 0 eq84 rfl (vp_in_iff.mpr ⟨by decide, by decide⟩) dX12_go_90 (tp_k (.inl (κ 0, 12967, .inl (upd g81 (11 : Int32).toNatClampNeg z88))) hD (tp_in hG y1 (by decide)) eq84 (fun f89 H locs hP hD hS g91 k90 => ?_))
          have hT := hT.up y1 g91 k90 tp_o32
          have hR := hR.up y1 (by decide) k90
          have hU : mo_U (mo_R g81) (mo_R (upd g81 (11 : Int32).toNatClampNeg z88)) (11) (z88.toInt) := mo_up (show (11 : Int32).toInt = (11) from by decide) (rfl : z88.toInt = _) (by omega)
          generalize (upd g81 (11 : Int32).toNatClampNeg z88) = g92 at g91 hU
          have hI := mo_w_cnt hI hU (by omega) (by omega)
          have pn93 : mo_R g92 (1) = z85.toInt := (hU.ne (by omega) (by omega)).trans (jz85).symm
          have pn94 : mo_R g92 (11) = z88.toInt := hU.eq (by omega)
          obtain ⟨z95, ez95⟩ : ∃ y : Int32, y = w49 + 1 := ⟨_, rfl⟩
          refine lv_iinc (v := z95) (lv' := [(2, .int z95), (3, .int w74), (0, .ref h0), (1, .int v)]) hx hb dX12_go_91 hl (k := 1) rfl (by rw [ez95]; rfl) (by decide) rfl (fun ls hl => ?_)
          have iz95 : z95.toInt = w49.toInt + 1 := zi_add ez95 rfl rfl (by omega) (by omega)
          refine lv_goto (tgt := 40) hx hb dX12_go_94 (by decide) ?_
          exact ih53 _ _ _ _ (by rw [hn54]; omega) ⟨f89, z95, rfl, hT, hR, (by rw [g91, mo_i1]; exact hI), (by rw [g91, mo_i1]; omega), (by omega), (by omega), hP, hD, hS, lv_sub hl [0, 2, 3] rfl⟩
        · have ic86 : w74.toInt < z85.toInt := zi_gef rfl rfl c86
          refine lv_aload_n hx hb dX12_go_62 rfl (lv_at hl 2 rfl) ?_
          refine lv_iload_n hx hb dX12_go_63 rfl (lv_at hl 0 rfl) ?_
          refine lv_aload_n hx hb dX12_go_64 rfl (lv_at hl 2 rfl) ?_
          refine va_get (D := (dC, dI)) (ci := 12) (v := .ref (ρ h0 2)) (C := RX12) (T := TX12) (N := 53) hx hb hts hfX12 hown hK hP q83 eq83 rfl 2 (by decide) (hts (.fieldLink RX12 7 "ColdShipsModel" "row" "[I") wa_148) (fun _ h9 => h9) rfl dX12_go_65 ?_
          refine lv_bipush (v := 11) hx hb dX12_go_68 (by decide) ?_
          refine va_iald hx hb hK hP q84 0 eq84 rfl (vp_in_iff.mpr ⟨by decide, by decide⟩) dX12_go_70 ?_
          refine lv_topi (fun z96 ez96 => ?_)
          have jz96 : z96.toInt = mo_R g81 (11) := mo_rd ez96 (show (11 : Int32).toInt = (11) from by decide)
          have kz96 := hI.k11
          have vz96 : z96.toInt = z46.toInt + (w49.toInt) := jz96.trans jf79
          have hFc := tp_fr hD hS hA
          refine va_callv (va_runV (As := [.int w74, .int z96]) (rest := []) ⟨hx, hb, hml, hown, hts⟩ (t_X12_goShip l dC dI _ κ τ ν ρ L f75 hG hT h0 w74 z96 ht_h0 (by first | decide | omega) (by rw [hf_o80, mo_i1]; exact hI) (by first | (simp only [hf_o80, hf_o26, mo_i1]; omega) | (simp only [hf_o80, hf_o26, mo_i1]; trivial) | (simp only [hf_o80, hf_o26, mo_i1]; done) | omega)) (cwV 2 hts gX12_go_X12_goShip rfl rfl rfl ⟨rfl, pd_X12_goShip⟩ ⟨Nat.le_of_ble_eq_true rfl, Nat.le_of_ble_eq_true rfl⟩) ⟨pz_blind, va_recv hK hP (ci := 12) (q0 := q83) rfl eq83, pz_pre hP hK hD hN⟩ rfl rfl hl.1 rfl (lv_room (Nat.le_of_ble_eq_true rfl)) dX12_go_71 ⟨Nat.le_of_ble_eq_true rfl, Nat.le_of_ble_eq_true rfl⟩) hS (fun q _ h => hFc q h) hFc (fun f99 t H1 locs ht hvm hw98 hB hz1 hk1 hS => ?_)
          refine tn_3 hw98 (fun hT hF100 hw98p => ?_); clear hw98
          have hR := hR.then hF100 (by decide)
          have hP := hB.1; rw [ht] at hP; have hD := tp_ad f99 hD; clear hB hFc hz1 hk1; subst ht; generalize t.heap = H at hP hS ⊢
          obtain ⟨hJ, hw98pe⟩ := hw98p
          refine tpk_32 hT y1 (fun g102 hf_o101 => ?_)
          have hI : mo_RI (-1) 0 (mo_R g102) := by have q9 := hJ; rw [hf_o101, mo_i1] at q9; exact q9
          rw [hf_o80, mo_i1] at hw98pe
          rw [hf_o101, mo_i1] at hw98pe
          have pn103 : mo_R g102 (1) = z85.toInt := (hw98pe.1).trans (jz85).symm
          have pn104 : mo_R g102 (11) = z46.toInt + (w49.toInt) := (hw98pe.2).trans jf79
          obtain ⟨z105, ez105⟩ : ∃ y : Int32, y = w74 + 1 := ⟨_, rfl⟩
          refine lv_iinc (v := z105) (lv' := [(3, .int z105), (2, .int w49), (0, .ref h0), (1, .int v)]) hx hb dX12_go_74 hl (k := 0) rfl (by rw [ez105]; rfl) (by decide) rfl (fun ls hl => ?_)
          have iz105 : z105.toInt = w74.toInt + 1 := zi_add ez105 rfl rfl (by omega) (by omega)
          refine lv_goto (tgt := 52) hx hb dX12_go_77 (by decide) ?_
          exact ih77 _ _ _ _ (by rw [hn78]; omega) ⟨f99, z105, rfl, hT, hR, (by rw [hf_o101, mo_i1]; exact hI), (by rw [hf_o101, mo_i1]; omega), (by omega), hP, hD, hS, lv_sub hl [0, 1, 2, 3] rfl⟩
    · have ic48 : z47.toInt > 2399 := zi_lef rfl rfl c48
      refine lv_aload_n hx hb dX12_go_32 rfl (lv_at hl 0 rfl) ?_
      refine lv_iconst (v := (-1)) hx hb dX12_go_33 (by decide) ?_
      have hFc := tp_fr hD hS hA
      refine va_calli (va_runV (As := [.int (-1)]) (rest := []) ⟨hx, hb, hml, hown, hts⟩ (t_X12_told l dC dI _ κ τ ν ρ L f30 hG hT h0 ((-1)) ht_h0) (cwV 1 hts gX12_go_X12_told rfl rfl rfl ⟨rfl, pd_X12_told⟩ ⟨Nat.le_of_ble_eq_true rfl, Nat.le_of_ble_eq_true rfl⟩) ⟨pz_blind, va_recv hK hP (ci := 12) (q0 := q44) rfl eq44, pz_pre hP hK hD hN⟩ rfl rfl hl.1 rfl (lv_room (Nat.le_of_ble_eq_true rfl)) dX12_go_34 ⟨Nat.le_of_ble_eq_true rfl, Nat.le_of_ble_eq_true rfl⟩) hS (fun q _ h => hFc q h) hFc (fun r106 f108 t H1 locs ht hvm hw107 hB hz1 hk1 hS => ?_)
      refine tn_4 hw107 (fun hT hF109 hw107r hw107p => ?_); clear hw107
      have hR := hR.then hF109 (by decide)
      have hP := hB.1; rw [ht] at hP; have hD := tp_ad f108 hD; clear hB hFc hz1 hk1; subst ht; generalize t.heap = H at hP hS ⊢
      have hw107pq : r106.toInt = (-1) := by rw [hw107p]; rfl
      have hf_110 : f108 (ρ h0 2) = .inl (κ 0, 12967, .inl g27) := (hF109 _ (by rw [y1]; decide)).trans hf_33
      exact W.iret (v := r106) hx hb hr (fun t ht hW => ⟨⟨r106, f108, rfl, ⟨hT, hR, trivial, (by rw [hf_110, mo_i1]; exact hI)⟩, by rw [ht]; exact hP, va_K.moved hW.alike hK, hD⟩, hS.F ht⟩) hS.2.2 dX12_go_37
