set_option maxHeartbeats 4000000 in
set_option maxRecDepth 100000 in
theorem t_X12_goShip (l : Launch) (dC : Nat → ClassId) (dI : Nat → Nat → Nat) (sz : Nat) (κ : Nat → ClassId) (Θ : Nat → Option Int) (τ ν : Nat → Nat) (ρ : Nat → Nat → Nat) (L : List Nat) (f : Nat → va_E) (hG : tp_G τ ν ρ L) (hT : tp_T (mo_O κ Θ) κ τ ν ρ f) (h0 : Nat) (v : Int32) (u : Int32) (ht_h0 : τ h0 = 13) (hr_u : 0 ≤ u.toInt ∧ u.toInt ≤ 2399) (hJ : mo_RI (-1) 0 (mo_R (mo_i (f (ρ h0 2))))) (hv1 : 0 ≤ v.toInt ∧ v.toInt < (mo_R (mo_i (f (ρ h0 2)))) (1)) : Met l yX12_goShip wqX12_goShip ({ frames := 6, cells := 0, slots := 0, locals := 2000 }) (va_Pc [.ref h0, .int v, .int u] (pz_B dC dI (tp_K κ) (va_pl L f) sz)) (va_Qv (fun (f1 : Nat → va_E) => tp_T (mo_O κ Θ) κ τ ν ρ f1 ∧ tp_F τ [13, 32, 35, 36] f f1 ∧ mo_RI (-1) 0 (mo_R (mo_i (f1 (ρ h0 2)))) ∧ mo_KN (fun k => k = 5) (mo_R (mo_i (f (ρ h0 2)))) (mo_R (mo_i (f1 (ρ h0 2)))) ∧ (mo_R (mo_i (f1 (ρ h0 2)))) (1) = (mo_R (mo_i (f (ρ h0 2)))) (1) ∧ (mo_R (mo_i (f1 (ρ h0 2)))) (11) = (mo_R (mo_i (f (ρ h0 2)))) (11)) (fun (f1 : Nat → va_E) (t : State) => pz_E dC dI (tp_K κ) (va_A (va_pl L f) sz) (va_pl L f1) t) (va_A (va_pl L f) sz)) 0 0 (va_A (va_pl L f) sz) := by
  refine Met.ofW (cc := cX12_goShip) (maxL := 7) (ret := none) (by decide) rfl ?_
  intro p e s m args below meth c s₁ B hml hv
  obtain ⟨rfl, hsz, hP, hK, hD0, hN⟩ := hv
  have hx := B.exec
  have hb := B.bytes
  have hr := B.returns
  have hts := fun (w : Cond) (h : w ∈ WALL) => atoms_spec (ws := wqX12_goShip) B.pre w (List.mem_cons_of_mem _ h)
  have hown : s.vm.findClass RX12 = some m.cls := findClass_of_methodNamed B.named
  have hlocks := B.notSynchronized
  subst hsz
  have hD := hD0.self (sz := s.heap.size)
  generalize hAe : va_A (va_pl L f) s.heap.size = A at hD ⊢
  have hA : ∀ q : Nat, s.heap.size ≤ q → A q := fun q h => by rw [← hAe]; exact Or.inr h
  have hS : va_S A s.heap s.heap [] := va_S.rf
  have hR : tp_F τ [13, 32, 35, 36] f f := tp_F.rf
  have hl := lv_entry ([.ref h0, .int v, .int u]) (n := 7) (Nat.le_of_ble_eq_true rfl)
  rw [lg_entry_eq]
  generalize (lg_sl ([.ref h0, .int v, .int u]) ++ List.replicate (7 - (lg_sl ([.ref h0, .int v, .int u])).length) Slot.unset).toArray = ls at hl ⊢
  have hl : lv_has ls 7 [(0, .ref h0), (1, .int v), (2, .int u)] := hl
  refine tgk_13 hG ht_h0 (fun y1 y2 y3 y4 y5 y6 y7 y8 y9 y10 y11 y12 y13 y14 y15 y16 y17 y18 y19 y20 y21 y22 y23 y24 y25 => ?_)
  refine tpk_32 hT y1 (fun g27 hf_o26 => ?_)
  have hI : mo_RI (-1) 0 (mo_R g27) := by have q9 := hJ; rw [hf_o26, mo_i1] at q9; exact q9
  rw [hf_o26, mo_i1] at hv1
  obtain ⟨n1, en1⟩ : ∃ n : Int, n = mo_R g27 (1) := ⟨_, rfl⟩
  have kn1 := hI.k1
  obtain ⟨n11, en11⟩ : ∃ n : Int, n = mo_R g27 (11) := ⟨_, rfl⟩
  have kn11 := hI.k11
  have hKN : mo_KN (fun k => k = 5) (mo_R g27) (mo_R g27) := mo_KN.rf
  have hI := hI.xb (y := v.toInt) (a := 0) (by intro s9 h0 h1 h2 h3; constructor <;> omega)
  refine lv_iload_n hx hb dX12_goShip_0 rfl (lv_at hl 1 rfl) ?_
  refine pz_calli (va_runS (As := [.int v]) (rest := []) ⟨hx, hb, hml, hown, hts⟩ (t_X12_shipAt l dC dI _ v (v.toInt) (by omega) rfl) (va_cwS 1 hts gX12_goShip_X12_shipAt rfl rfl rfl pd_X12_shipAt ⟨Nat.le_of_ble_eq_true rfl, Nat.le_of_ble_eq_true rfl⟩) ⟨pz_blind, pz_pre pz_P0 (hK.sub (tys' := []) [] rfl) (pz_D0 (A := fun _ => True)) hN⟩ rfl rfl hl.1 rfl (lv_room (Nat.le_of_ble_eq_true rfl)) dX12_goShip_1 ⟨Nat.le_of_ble_eq_true rfl, Nat.le_of_ble_eq_true rfl⟩) (fun r28 hw29 => ?_)
  obtain ⟨hw29r, hw29p⟩ := hw29
  refine lv_istore_n (lv' := [(3, .int r28), (0, .ref h0), (1, .int v), (2, .int u)]) hx hb dX12_goShip_4 rfl hl (by decide) rfl (fun ls hl => ?_)
  refine lv_aload_n hx hb dX12_goShip_5 rfl (lv_at hl 1 rfl) ?_
  refine tpk_13 hT ht_h0 (fun o30_x0 o30_x1 o30_x7 o30_x9 o30_x10 o30_x11 o30_x12 o30_x13 o30_x14 o30_x15 o30_x16 o30_x17 o30_x18 o30_x19 o30_x20 o30_x22 o30_x25 o30_x28 o30_x29 o30_x32 o30_x33 o30_x34 o30_x35 o30_x36 o30_x37 o30_x38 o30_x47 o30_x48 hf_o30 ro30_0 ro30_1 ro30_2 ro30_3 ro30_4 ro30_5 ro30_6 ro30_7 ro30_8 ro30_9 ro30_10 ro30_11 ro30_12 ro30_13 ro30_14 => ?_)
  refine tpk_pos (tp_in hG ht_h0 (by decide)) hf_o30 (fun q31 eq31 => ?_)
  refine va_get (D := (dC, dI)) (ci := 12) (v := .ref (ρ h0 2)) (C := RX12) (T := TX12) (N := 53) hx hb hts hfX12 hown hK hP q31 eq31 rfl 2 (by decide) (hts (.fieldLink RX12 7 "ColdShipsModel" "row" "[I") wa_148) (fun _ h9 => h9) rfl dX12_goShip_6 ?_
  refine lv_iload_n hx hb dX12_goShip_9 rfl (lv_at hl 0 rfl) ?_
  refine lv_iconst (v := 4) hx hb dX12_goShip_10 (by decide) ?_
  refine lv_iadd hx hb dX12_goShip_11 ?_
  refine lv_topi (fun z32 ez32 => ?_)
  have iz32 : z32.toInt = r28.toInt + 4 := zi_add ez32 rfl rfl (by omega) (by omega)
  refine tpk_pos (tp_in hG y1 (by decide)) hf_o26 (fun q33 eq33 => ?_)
  refine va_iald hx hb hK hP q33 0 eq33 rfl (vp_in_iff.mpr ⟨by omega, by omega⟩) dX12_goShip_12 ?_
  refine lv_topi (fun z34 ez34 => ?_)
  have := hI.GC (s := v.toInt) (by omega) (by omega)
  have jz34 : z34.toInt = mo_R g27 (547 + 84 * v.toInt + 4) := mo_rd ez34 (by omega)
  have kz34 := hI.GG (s := v.toInt) (by omega) (by omega)
  refine lv_i2l hx hb dX12_goShip_13 rfl ?_
  refine lv_aload_n hx hb dX12_goShip_14 rfl (lv_at hl 1 rfl) ?_
  refine va_get (D := (dC, dI)) (ci := 12) (v := .ref (ρ h0 2)) (C := RX12) (T := TX12) (N := 53) hx hb hts hfX12 hown hK hP q31 eq31 rfl 2 (by decide) (hts (.fieldLink RX12 7 "ColdShipsModel" "row" "[I") wa_148) (fun _ h9 => h9) rfl dX12_goShip_15 ?_
  refine lv_bipush (v := 12) hx hb dX12_goShip_18 (by decide) ?_
  refine va_iald hx hb hK hP q33 0 eq33 rfl (vp_in_iff.mpr ⟨by decide, by decide⟩) dX12_goShip_20 ?_
  refine lv_topi (fun z35 ez35 => ?_)
  have jz35 : z35.toInt = mo_R g27 (12) := mo_rd ez35 (show (12 : Int32).toInt = (12) from by decide)
  have kz35 := hI.k12
  refine lv_aload_n hx hb dX12_goShip_21 rfl (lv_at hl 1 rfl) ?_
  refine va_get (D := (dC, dI)) (ci := 12) (v := .ref (ρ h0 2)) (C := RX12) (T := TX12) (N := 53) hx hb hts hfX12 hown hK hP q31 eq31 rfl 2 (by decide) (hts (.fieldLink RX12 7 "ColdShipsModel" "row" "[I") wa_148) (fun _ h9 => h9) rfl dX12_goShip_22 ?_
  refine lv_sipush (v := 147) hx hb dX12_goShip_25 (by decide) ?_
  refine lv_iload_n hx hb dX12_goShip_28 rfl (lv_at hl 3 rfl) ?_
  refine lv_bipush (v := 24) hx hb dX12_goShip_29 (by decide) ?_
  refine lv_idiv hx hb dX12_goShip_31 (by decide) ?_
  refine lv_topi (fun z36 ez36 => ?_)
  have iz36 : z36.toInt = u.toInt / 24 := zi_div ez36 rfl (show (24 : Int32).toInt = 24 from rfl) (by omega) (by omega)
  refine lv_iadd hx hb dX12_goShip_32 ?_
  refine lv_topi (fun z37 ez37 => ?_)
  have iz37 : z37.toInt = 147 + z36.toInt := zi_add ez37 rfl rfl (by omega) (by omega)
  refine va_iald hx hb hK hP q33 0 eq33 rfl (vp_in_iff.mpr ⟨by omega, by omega⟩) dX12_goShip_33 ?_
  refine lv_topi (fun z38 ez38 => ?_)
  have jz38 : z38.toInt = mo_R g27 (147 + z36.toInt) := mo_rd ez38 (by omega)
  have kz38 := hI.E (d := z36.toInt) (by omega) (by omega)
  refine lv_iadd hx hb dX12_goShip_34 ?_
  refine lv_topi (fun z39 ez39 => ?_)
  have iz39 : z39.toInt = z35.toInt + z38.toInt := zi_add ez39 rfl rfl (by omega) (by omega)
  refine lv_i2l hx hb dX12_goShip_35 rfl ?_
  refine lv_lmul hx hb dX12_goShip_36 ?_
  refine lv_topl (fun z40 ez40 => ?_)
  have iz40 := zl_mulb ez40 (Int32.toInt_toInt64 z34) (Int32.toInt_toInt64 z39) 200000 109 (by omega) (by omega) (by omega) (by omega) (by decide)
  refine lv_ldc2 (own := RX12) (v := 100000) hx hb hown (hts (.constantLong RX12 177 (100000)) wa_552) dX12_goShip_37 ?_
  refine lv_ldiv hx hb dX12_goShip_40 (by decide) ?_
  refine lv_topl (fun z41 ez41 => ?_)
  have iz41 : z41.toInt = z40.toInt / 100000 := zl_div ez41 (rfl : z40.toInt = _) (show (100000 : Int64).toInt = 100000 from rfl) (by omega) (by decide)
  refine lv_l2i hx hb dX12_goShip_41 rfl ?_
  refine lv_topi (fun z42 ez42 => ?_)
  have iz42 : z42.toInt = z41.toInt := zi_l2i ez42 (rfl : z41.toInt = _) (by omega) (by omega)
  refine lv_istore (lv' := [(4, .int z42), (3, .int r28), (0, .ref h0), (1, .int v), (2, .int u)]) hx hb dX12_goShip_42 hl (by decide) rfl (fun ls hl => ?_)
  refine lv_aload_n hx hb dX12_goShip_44 rfl (lv_at hl 2 rfl) ?_
  refine lv_iload_n hx hb dX12_goShip_45 rfl (lv_at hl 1 rfl) ?_
  refine lv_iload hx hb dX12_goShip_46 (lv_at hl 0 rfl) ?_
  have hFc := tp_fr hD hS hA
  refine va_callv (va_runV (As := [.int r28, .int z42]) (rest := []) ⟨hx, hb, hml, hown, hts⟩ (t_X12_take l dC dI _ κ Θ τ ν ρ L f hG hT h0 r28 z42 v.toInt 0 v.toInt ht_h0 (by omega) (by omega) (by omega) (by rw [hf_o26, mo_i1]; exact hI) (by first | (simp only [hf_o26, mo_i1]; omega) | (simp only [hf_o26, mo_i1]; trivial) | (simp only [hf_o26, mo_i1]; done) | omega) (by first | (simp only [hf_o26, mo_i1]; omega) | (simp only [hf_o26, mo_i1]; trivial) | (simp only [hf_o26, mo_i1]; done) | omega)) (cwV 2 hts gX12_goShip_X12_take rfl rfl rfl ⟨rfl, pd_X12_take⟩ ⟨Nat.le_of_ble_eq_true rfl, Nat.le_of_ble_eq_true rfl⟩) ⟨pz_blind, va_recv hK hP (ci := 12) (q0 := q31) rfl eq31, pz_pre hP hK hD hN⟩ rfl rfl hl.1 rfl (lv_room (Nat.le_of_ble_eq_true rfl)) dX12_goShip_48 ⟨Nat.le_of_ble_eq_true rfl, Nat.le_of_ble_eq_true rfl⟩) hS (fun q _ h => hFc q h) hFc (fun f45 t H1 locs ht hvm hw44 hB hz1 hk1 hS => ?_)
  refine tn_3 hw44 (fun hT hF46 hw44p => ?_); clear hw44
  have hR := hR.then hF46 (by decide)
  have hP := hB.1; rw [ht] at hP; have hD := tp_ad f45 hD; clear hB hFc hz1 hk1; subst ht; generalize t.heap = H at hP hS ⊢
  obtain ⟨hJ, hw44pe⟩ := hw44p
  refine tpk_32 hT y1 (fun g48 hf_o47 => ?_)
  have hI : mo_RI v.toInt 0 (mo_R g48) := by have q9 := hJ; rw [hf_o47, mo_i1] at q9; exact q9
  rw [hf_o26, mo_i1] at hw44pe
  rw [hf_o47, mo_i1] at hw44pe
  obtain ⟨hw44pek, hw44peq⟩ := hw44pe
  have hKN := hKN.th hw44pek (fun k q9 => False.elim q9)
  have pn49 : mo_R g48 (1) = n1 := (hw44peq.1).trans en1.symm
  have pn50 : mo_R g48 (11) = n11 := (hw44peq.2.1).trans en11.symm
  refine lv_aload_n hx hb dX12_goShip_51 rfl (lv_at hl 2 rfl) ?_
  have hf_51 : f45 h0 = .inr (12, [.int o30_x0, .int o30_x1, .ref (ρ h0 2), .ref (ρ h0 3), .ref (ρ h0 4), .ref (ρ h0 5), .ref (ρ h0 6), .int o30_x7, .ref (ρ h0 8), .int o30_x9, .int o30_x10, .int o30_x11, .int o30_x12, .long o30_x13, .int o30_x14, .int o30_x15, .int o30_x16, .int o30_x17, .int o30_x18, .int o30_x19, .int o30_x20, .ref (ρ h0 21), .int o30_x22, .ref (ρ h0 23), .ref (ρ h0 24), .int o30_x25, .ref (ρ h0 26), .ref (ρ h0 27), .int o30_x28, .int o30_x29, .ref (ρ h0 30), .ref (ρ h0 31), .int o30_x32, .long o30_x33, .long o30_x34, .long o30_x35, .int o30_x36, .int o30_x37, .int o30_x38, .ref (ρ h0 39), .ref (ρ h0 40), .ref (ρ h0 41), .ref (ρ h0 42), .ref (ρ h0 43), .ref (ρ h0 44), .ref (ρ h0 45), .ref (ρ h0 46), .int o30_x47, .int o30_x48, .ref (ρ h0 49), .ref (ρ h0 50), .ref (ρ h0 51), .ref (ρ h0 52)]) := (hF46 _ (by rw [ht_h0]; decide)).trans hf_o30
  refine tpk_pos (tp_in hG ht_h0 (by decide)) hf_51 (fun q52 eq52 => ?_)
  refine va_get (D := (dC, dI)) (ci := 12) (v := .ref (ρ h0 2)) (C := RX12) (T := TX12) (N := 53) hx hb hts hfX12 hown hK hP q52 eq52 rfl 2 (by decide) (hts (.fieldLink RX12 7 "ColdShipsModel" "row" "[I") wa_148) (fun _ h9 => h9) rfl dX12_goShip_52 ?_
  refine lv_iload_n hx hb dX12_goShip_55 rfl (lv_at hl 1 rfl) ?_
  refine lv_iconst (v := 5) hx hb dX12_goShip_56 (by decide) ?_
  refine lv_iadd hx hb dX12_goShip_57 ?_
  refine lv_topi (fun z53 ez53 => ?_)
  have iz53 : z53.toInt = r28.toInt + 5 := zi_add ez53 rfl rfl (by omega) (by omega)
  refine lv_dup2_11 hx hb dX12_goShip_58 rfl rfl ?_
  refine tpk_pos (tp_in hG y1 (by decide)) hf_o47 (fun q54 eq54 => ?_)
  refine va_iald hx hb hK hP q54 0 eq54 rfl (vp_in_iff.mpr ⟨by omega, by omega⟩) dX12_goShip_59 ?_
  refine lv_topi (fun z55 ez55 => ?_)
  have jz55 : z55.toInt = mo_R g48 (547 + 84 * v.toInt + 5) := mo_rd ez55 (by omega)
  have kz55 := hI.V (s := v.toInt) (by omega) (by omega)
  refine lv_iload hx hb dX12_goShip_60 (lv_at hl 0 rfl) ?_
  refine lv_iadd hx hb dX12_goShip_62 ?_
  refine lv_topi (fun z56 ez56 => ?_)
  have iz56 : z56.toInt = z55.toInt + z42.toInt := zi_add ez56 rfl rfl (by omega) (by omega)
  refine va_iast hx hb hK hP hD hS q54 0 eq54 rfl (vp_in_iff.mpr ⟨by omega, by omega⟩) dX12_goShip_63 (tp_k (.inl (κ 0, 12967, .inl (upd g48 z53.toNatClampNeg z56))) hD (tp_in hG y1 (by decide)) eq54 (fun f57 H locs hP hD hS g59 k58 => ?_))
  have hT := hT.up y1 g59 k58 tp_o32
  have hR := hR.up y1 (by decide) k58
  have hU : mo_U (mo_R g48) (mo_R (upd g48 z53.toNatClampNeg z56)) (547 + 84 * v.toInt + 5) (z56.toInt) := mo_up (by omega) (rfl : z56.toInt = _) (by omega)
  generalize (upd g48 z53.toNatClampNeg z56) = g60 at g59 hU
  have hI := mo_w_VAP (hI.xb (y := v.toInt) (a := 300) (by intro s9 h0 h1 h2 h3; constructor <;> omega)) hU v.toInt (by omega) (by omega) (by omega)
  have hKN := hKN.up hU (Or.inl (by omega))
  have pn61 : mo_R g60 (1) = n1 := (hU.ne (by omega) (by omega)).trans pn49
  have pn62 : mo_R g60 (11) = n11 := (hU.ne (by omega) (by omega)).trans pn50
  have pn63 : mo_R g60 (547 + 84 * v.toInt + 5) = z56.toInt := hU.eq (by omega)
  refine lv_aload_n hx hb dX12_goShip_64 rfl (lv_at hl 2 rfl) ?_
  have hf_64 : f57 h0 = .inr (12, [.int o30_x0, .int o30_x1, .ref (ρ h0 2), .ref (ρ h0 3), .ref (ρ h0 4), .ref (ρ h0 5), .ref (ρ h0 6), .int o30_x7, .ref (ρ h0 8), .int o30_x9, .int o30_x10, .int o30_x11, .int o30_x12, .long o30_x13, .int o30_x14, .int o30_x15, .int o30_x16, .int o30_x17, .int o30_x18, .int o30_x19, .int o30_x20, .ref (ρ h0 21), .int o30_x22, .ref (ρ h0 23), .ref (ρ h0 24), .int o30_x25, .ref (ρ h0 26), .ref (ρ h0 27), .int o30_x28, .int o30_x29, .ref (ρ h0 30), .ref (ρ h0 31), .int o30_x32, .long o30_x33, .long o30_x34, .long o30_x35, .int o30_x36, .int o30_x37, .int o30_x38, .ref (ρ h0 39), .ref (ρ h0 40), .ref (ρ h0 41), .ref (ρ h0 42), .ref (ρ h0 43), .ref (ρ h0 44), .ref (ρ h0 45), .ref (ρ h0 46), .int o30_x47, .int o30_x48, .ref (ρ h0 49), .ref (ρ h0 50), .ref (ρ h0 51), .ref (ρ h0 52)]) := (k58 _ (tp_ne ht_h0 y1 (by decide))).trans hf_51
  refine tpk_pos (tp_in hG ht_h0 (by decide)) hf_64 (fun q65 eq65 => ?_)
  refine va_get (D := (dC, dI)) (ci := 12) (v := .ref (ρ h0 2)) (C := RX12) (T := TX12) (N := 53) hx hb hts hfX12 hown hK hP q65 eq65 rfl 2 (by decide) (hts (.fieldLink RX12 7 "ColdShipsModel" "row" "[I") wa_148) (fun _ h9 => h9) rfl dX12_goShip_65 ?_
  refine lv_iload_n hx hb dX12_goShip_68 rfl (lv_at hl 1 rfl) ?_
  refine lv_iconst (v := 4) hx hb dX12_goShip_69 (by decide) ?_
  refine lv_iadd hx hb dX12_goShip_70 ?_
  refine lv_topi (fun z66 ez66 => ?_)
  have iz66 : z66.toInt = r28.toInt + 4 := zi_add ez66 rfl rfl (by omega) (by omega)
  refine tpk_pos (tp_in hG y1 (by decide)) g59 (fun q67 eq67 => ?_)
  refine va_iald hx hb hK hP q67 0 eq67 rfl (vp_in_iff.mpr ⟨by omega, by omega⟩) dX12_goShip_71 ?_
  refine lv_topi (fun z68 ez68 => ?_)
  have := hI.GC (s := v.toInt) (by omega) (by omega)
  have jz68 : z68.toInt = mo_R g60 (547 + 84 * v.toInt + 4) := mo_rd ez68 (by omega)
  have kz68 := hI.GG (s := v.toInt) (by omega) (by omega)
  refine lv_aload_n hx hb dX12_goShip_72 rfl (lv_at hl 2 rfl) ?_
  refine lv_iload_n hx hb dX12_goShip_73 rfl (lv_at hl 1 rfl) ?_
  refine pz_calli (va_runV (As := [.int r28]) (rest := [.int z68]) ⟨hx, hb, hml, hown, hts⟩ (t_X12_heelOf l dC dI _ κ Θ τ ν ρ L f57 hG hT h0 r28 v.toInt 300 v.toInt ht_h0 (by omega) (by omega) (by omega) (by rw [g59, mo_i1]; exact hI) (by first | (simp only [g59, hf_o26, mo_i1]; omega) | (simp only [g59, hf_o26, mo_i1]; trivial) | (simp only [g59, hf_o26, mo_i1]; done) | omega)) (cwV 1 hts gX12_goShip_X12_heelOf rfl rfl rfl ⟨rfl, pd_X12_heelOf⟩ ⟨Nat.le_of_ble_eq_true rfl, Nat.le_of_ble_eq_true rfl⟩) ⟨pz_blind, va_recv hK hP (ci := 12) (q0 := q65) rfl eq65, pz_pre hP hK hD hN⟩ rfl rfl hl.1 rfl (lv_room (Nat.le_of_ble_eq_true rfl)) dX12_goShip_74 ⟨Nat.le_of_ble_eq_true rfl, Nat.le_of_ble_eq_true rfl⟩) (fun r69 hw70 => ?_)
  obtain ⟨hw70r, hw70p⟩ := hw70
  refine tp_join 251 (fun H locs ls stk => ∃ f72 : Nat → va_E, stk = [] ∧ tp_T (mo_O κ Θ) κ τ ν ρ f72 ∧ tp_F τ [13, 32, 35, 36] f f72 ∧ ((mo_RI v.toInt 300 (mo_R (mo_i (f72 (ρ h0 2)))))) ∧ ((mo_KN (fun k => k = 5) (mo_R g27) (mo_R (mo_i (f72 (ρ h0 2)))))) ∧ (((mo_R (mo_i (f72 (ρ h0 2)))) (1) = n1)) ∧ (((mo_R (mo_i (f72 (ρ h0 2)))) (11) = n11)) ∧ va_P (dC, dI) vwCl (va_pl L f72) H ∧ va_D A (va_pl L f72) ∧ va_S A s.heap H locs ∧ lv_has ls 7 [(4, .int z42), (3, .int r28), (0, .ref h0), (1, .int v), (2, .int u)]) ?_ (fun hj71 => ?_)
  · intro H locs ls stk hI
    refine Exists.elim hI (fun f72 hE90 => tn_11 hE90 (fun e90 hT hR hJ jf74 jf75 jf76 hP hD hS hl => ?_))
    clear hE90 hI; subst e90
    refine tpk_32 hT y1 (fun g78 hf_o77 => ?_)
    have hI : mo_RI v.toInt 300 (mo_R g78) := by have q9 := hJ; rw [hf_o77, mo_i1] at q9; exact q9
    rw [hf_o77, mo_i1] at jf74
    have hKN := jf74
    rw [hf_o77, mo_i1] at jf75
    rw [hf_o77, mo_i1] at jf76
    refine lv_aload_n hx hb dX12_goShip_251 rfl (lv_at hl 2 rfl) ?_
    refine lv_iload_n hx hb dX12_goShip_252 rfl (lv_at hl 1 rfl) ?_
    refine tpk_13 hT ht_h0 (fun o79_x0 o79_x1 o79_x7 o79_x9 o79_x10 o79_x11 o79_x12 o79_x13 o79_x14 o79_x15 o79_x16 o79_x17 o79_x18 o79_x19 o79_x20 o79_x22 o79_x25 o79_x28 o79_x29 o79_x32 o79_x33 o79_x34 o79_x35 o79_x36 o79_x37 o79_x38 o79_x47 o79_x48 hf_o79 ro79_0 ro79_1 ro79_2 ro79_3 ro79_4 ro79_5 ro79_6 ro79_7 ro79_8 ro79_9 ro79_10 ro79_11 ro79_12 ro79_13 ro79_14 => ?_)
    refine tpk_pos (tp_in hG ht_h0 (by decide)) hf_o79 (fun q80 eq80 => ?_)
    have hFc := tp_fr hD hS hA
    refine va_callv (va_runV (As := [.int r28]) (rest := []) ⟨hx, hb, hml, hown, hts⟩ (t_X12_burn l dC dI _ κ Θ τ ν ρ L f72 hG hT h0 r28 v.toInt 300 v.toInt ht_h0 (by omega) (by omega) (by omega) (by rw [hf_o77, mo_i1]; exact hI) (by first | (simp only [hf_o77, hf_o26, mo_i1]; omega) | (simp only [hf_o77, hf_o26, mo_i1]; trivial) | (simp only [hf_o77, hf_o26, mo_i1]; done) | omega)) (cwV 1 hts gX12_goShip_X12_burn rfl rfl rfl ⟨rfl, pd_X12_burn⟩ ⟨Nat.le_of_ble_eq_true rfl, Nat.le_of_ble_eq_true rfl⟩) ⟨pz_blind, va_recv hK hP (ci := 12) (q0 := q80) rfl eq80, pz_pre hP hK hD hN⟩ rfl rfl hl.1 rfl (lv_room (Nat.le_of_ble_eq_true rfl)) dX12_goShip_253 ⟨Nat.le_of_ble_eq_true rfl, Nat.le_of_ble_eq_true rfl⟩) hS (fun q _ h => hFc q h) hFc (fun f83 t H1 locs ht hvm hw82 hB hz1 hk1 hS => ?_)
    refine tn_3 hw82 (fun hT hF84 hw82p => ?_); clear hw82
    have hR := hR.then hF84 (by decide)
    have hP := hB.1; rw [ht] at hP; have hD := tp_ad f83 hD; clear hB hFc hz1 hk1; subst ht; generalize t.heap = H at hP hS ⊢
    obtain ⟨hJ, hw82pe⟩ := hw82p
    refine tpk_32 hT y1 (fun g86 hf_o85 => ?_)
    have hI : mo_RI v.toInt 300 (mo_R g86) := by have q9 := hJ; rw [hf_o85, mo_i1] at q9; exact q9
    rw [hf_o77, mo_i1] at hw82pe
    rw [hf_o85, mo_i1] at hw82pe
    obtain ⟨hw82pek, hw82peq⟩ := hw82pe
    have hKN := hKN.th hw82pek (fun k q9 => False.elim q9)
    have pn87 : mo_R g86 (1) = n1 := (hw82peq.1).trans jf75
    have pn88 : mo_R g86 (11) = n11 := (hw82peq.2).trans jf76
    refine lv_aload_n hx hb dX12_goShip_256 rfl (lv_at hl 2 rfl) ?_
    have hf_89 : f83 h0 = .inr (12, [.int o79_x0, .int o79_x1, .ref (ρ h0 2), .ref (ρ h0 3), .ref (ρ h0 4), .ref (ρ h0 5), .ref (ρ h0 6), .int o79_x7, .ref (ρ h0 8), .int o79_x9, .int o79_x10, .int o79_x11, .int o79_x12, .long o79_x13, .int o79_x14, .int o79_x15, .int o79_x16, .int o79_x17, .int o79_x18, .int o79_x19, .int o79_x20, .ref (ρ h0 21), .int o79_x22, .ref (ρ h0 23), .ref (ρ h0 24), .int o79_x25, .ref (ρ h0 26), .ref (ρ h0 27), .int o79_x28, .int o79_x29, .ref (ρ h0 30), .ref (ρ h0 31), .int o79_x32, .long o79_x33, .long o79_x34, .long o79_x35, .int o79_x36, .int o79_x37, .int o79_x38, .ref (ρ h0 39), .ref (ρ h0 40), .ref (ρ h0 41), .ref (ρ h0 42), .ref (ρ h0 43), .ref (ρ h0 44), .ref (ρ h0 45), .ref (ρ h0 46), .int o79_x47, .int o79_x48, .ref (ρ h0 49), .ref (ρ h0 50), .ref (ρ h0 51), .ref (ρ h0 52)]) := (hF84 _ (by rw [ht_h0]; decide)).trans hf_o79
    refine tpk_pos (tp_in hG ht_h0 (by decide)) hf_89 (fun q90 eq90 => ?_)
    refine va_get (D := (dC, dI)) (ci := 12) (v := .ref (ρ h0 2)) (C := RX12) (T := TX12) (N := 53) hx hb hts hfX12 hown hK hP q90 eq90 rfl 2 (by decide) (hts (.fieldLink RX12 7 "ColdShipsModel" "row" "[I") wa_148) (fun _ h9 => h9) rfl dX12_goShip_257 ?_
    refine lv_iload_n hx hb dX12_goShip_260 rfl (lv_at hl 1 rfl) ?_
    refine lv_bipush (v := 10) hx hb dX12_goShip_261 (by decide) ?_
    refine lv_iadd hx hb dX12_goShip_263 ?_
    refine lv_topi (fun z91 ez91 => ?_)
    have iz91 : z91.toInt = r28.toInt + 10 := zi_add ez91 rfl rfl (by omega) (by omega)
    refine tpk_pos (tp_in hG y1 (by decide)) hf_o85 (fun q92 eq92 => ?_)
    refine va_iald hx hb hK hP q92 0 eq92 rfl (vp_in_iff.mpr ⟨by omega, by omega⟩) dX12_goShip_264 ?_
    refine lv_topi (fun z93 ez93 => ?_)
    have jz93 : z93.toInt = mo_R g86 (547 + 84 * v.toInt + 10) := mo_rd ez93 (by omega)
    have kz93 := hI.SO (s := v.toInt) (by omega) (by omega)
    refine tp_join 275 (fun H locs ls stk => ∃ f95 : Nat → va_E, stk = [] ∧ tp_T (mo_O κ Θ) κ τ ν ρ f95 ∧ tp_F τ [13, 32, 35, 36] f f95 ∧ ((mo_RI v.toInt 300 (mo_R (mo_i (f95 (ρ h0 2)))))) ∧ ((mo_KN (fun k => k = 5) (mo_R g27) (mo_R (mo_i (f95 (ρ h0 2)))))) ∧ (((mo_R (mo_i (f95 (ρ h0 2)))) (1) = n1)) ∧ (((mo_R (mo_i (f95 (ρ h0 2)))) (11) = n11)) ∧ va_P (dC, dI) vwCl (va_pl L f95) H ∧ va_D A (va_pl L f95) ∧ va_S A s.heap H locs ∧ lv_has ls 7 [(4, .int z42), (3, .int r28), (0, .ref h0), (1, .int v), (2, .int u)]) ?_ (fun hj94 => ?_)
    · intro H locs ls stk hI
      refine Exists.elim hI (fun f95 hE90 => tn_11 hE90 (fun e90 hT hR hJ jf97 jf98 jf99 hP hD hS hl => ?_))
      clear hE90 hI; subst e90
      refine tpk_32 hT y1 (fun g101 hf_o100 => ?_)
      have hI : mo_RI v.toInt 300 (mo_R g101) := by have q9 := hJ; rw [hf_o100, mo_i1] at q9; exact q9
      rw [hf_o100, mo_i1] at jf97
      have hKN := jf97
      rw [hf_o100, mo_i1] at jf98
      rw [hf_o100, mo_i1] at jf99
      refine lv_aload_n hx hb dX12_goShip_275 rfl (lv_at hl 2 rfl) ?_
      refine tpk_13 hT ht_h0 (fun o102_x0 o102_x1 o102_x7 o102_x9 o102_x10 o102_x11 o102_x12 o102_x13 o102_x14 o102_x15 o102_x16 o102_x17 o102_x18 o102_x19 o102_x20 o102_x22 o102_x25 o102_x28 o102_x29 o102_x32 o102_x33 o102_x34 o102_x35 o102_x36 o102_x37 o102_x38 o102_x47 o102_x48 hf_o102 ro102_0 ro102_1 ro102_2 ro102_3 ro102_4 ro102_5 ro102_6 ro102_7 ro102_8 ro102_9 ro102_10 ro102_11 ro102_12 ro102_13 ro102_14 => ?_)
      refine tpk_pos (tp_in hG ht_h0 (by decide)) hf_o102 (fun q103 eq103 => ?_)
      refine va_get (D := (dC, dI)) (ci := 12) (v := .ref (ρ h0 2)) (C := RX12) (T := TX12) (N := 53) hx hb hts hfX12 hown hK hP q103 eq103 rfl 2 (by decide) (hts (.fieldLink RX12 7 "ColdShipsModel" "row" "[I") wa_148) (fun _ h9 => h9) rfl dX12_goShip_276 ?_
      refine lv_bipush (v := 13) hx hb dX12_goShip_279 (by decide) ?_
      refine tpk_pos (tp_in hG y1 (by decide)) hf_o100 (fun q104 eq104 => ?_)
      refine va_iald hx hb hK hP q104 0 eq104 rfl (vp_in_iff.mpr ⟨by decide, by decide⟩) dX12_goShip_281 ?_
      refine lv_topi (fun z105 ez105 => ?_)
      have jz105 : z105.toInt = mo_R g101 (13) := mo_rd ez105 (show (13 : Int32).toInt = (13) from by decide)
      have kz105 := hI.k13
      refine lv_i2l hx hb dX12_goShip_282 rfl ?_
      refine lv_lconst (v := 1) hx hb dX12_goShip_283 (by decide) ?_
      refine lv_ladd hx hb dX12_goShip_284 ?_
      refine lv_topl (fun z106 ez106 => ?_)
      have iz106 : z106.toInt = z105.toInt + 1 := zl_add ez106 (Int32.toInt_toInt64 z105) rfl (by omega) (by omega)
      refine lv_aload_n hx hb dX12_goShip_285 rfl (lv_at hl 2 rfl) ?_
      refine lv_iload_n hx hb dX12_goShip_286 rfl (lv_at hl 1 rfl) ?_
      refine pz_calli (va_runV (As := [.int r28]) (rest := [.long z106]) ⟨hx, hb, hml, hown, hts⟩ (t_X12_roomOf l dC dI _ κ Θ τ ν ρ L f95 hG hT h0 r28 v.toInt 300 v.toInt ht_h0 (by omega) (by omega) (by omega) (by rw [hf_o100, mo_i1]; exact hI) (by first | (simp only [hf_o100, hf_o26, mo_i1]; omega) | (simp only [hf_o100, hf_o26, mo_i1]; trivial) | (simp only [hf_o100, hf_o26, mo_i1]; done) | omega)) (cwV 1 hts gX12_goShip_X12_roomOf rfl rfl rfl ⟨rfl, pd_X12_roomOf⟩ ⟨Nat.le_of_ble_eq_true rfl, Nat.le_of_ble_eq_true rfl⟩) ⟨pz_blind, va_recv hK hP (ci := 12) (q0 := q103) rfl eq103, pz_pre hP hK hD hN⟩ rfl rfl hl.1 rfl (lv_room (Nat.le_of_ble_eq_true rfl)) dX12_goShip_287 ⟨Nat.le_of_ble_eq_true rfl, Nat.le_of_ble_eq_true rfl⟩) (fun r107 hw108 => ?_)
      obtain ⟨hw108r, hw108p⟩ := hw108
      refine lv_i2l hx hb dX12_goShip_290 rfl ?_
      refine lv_lmul hx hb dX12_goShip_291 ?_
      refine lv_topl (fun z109 ez109 => ?_)
      have iz109 := zl_mulb ez109 (rfl : z106.toInt = _) (Int32.toInt_toInt64 r107) 1001 202000 (by omega) (by omega) (by omega) (by omega) (by decide)
      refine lv_lconst (v := 1) hx hb dX12_goShip_292 (by decide) ?_
      refine lv_lsub hx hb dX12_goShip_293 ?_
      refine lv_topl (fun z110 ez110 => ?_)
      have iz110 : z110.toInt = z109.toInt - 1 := zl_sub ez110 rfl rfl (by omega) (by omega)
      refine lv_ldc2 (own := RX12) (v := 1000) hx hb hown (hts (.constantLong RX12 122 (1000)) wa_271) dX12_goShip_294 ?_
      refine lv_ldiv hx hb dX12_goShip_297 (by decide) ?_
      refine lv_topl (fun z111 ez111 => ?_)
      have iz111 : z111.toInt = z110.toInt / 1000 := zl_div ez111 (rfl : z110.toInt = _) (show (1000 : Int64).toInt = 1000 from rfl) (by omega) (by decide)
      refine lv_lstore (lv' := [(5, .long z111), (4, .int z42), (3, .int r28), (0, .ref h0), (1, .int v), (2, .int u)]) hx hb dX12_goShip_298 hl (by decide) rfl (fun ls hl => ?_)
      refine lv_aload_n hx hb dX12_goShip_300 rfl (lv_at hl 3 rfl) ?_
      refine va_get (D := (dC, dI)) (ci := 12) (v := .ref (ρ h0 2)) (C := RX12) (T := TX12) (N := 53) hx hb hts hfX12 hown hK hP q103 eq103 rfl 2 (by decide) (hts (.fieldLink RX12 7 "ColdShipsModel" "row" "[I") wa_148) (fun _ h9 => h9) rfl dX12_goShip_301 ?_
      refine lv_iload_n hx hb dX12_goShip_304 rfl (lv_at hl 2 rfl) ?_
      refine lv_iconst (v := 5) hx hb dX12_goShip_305 (by decide) ?_
      refine lv_iadd hx hb dX12_goShip_306 ?_
      refine lv_topi (fun z112 ez112 => ?_)
      have iz112 : z112.toInt = r28.toInt + 5 := zi_add ez112 rfl rfl (by omega) (by omega)
      refine va_iald hx hb hK hP q104 0 eq104 rfl (vp_in_iff.mpr ⟨by omega, by omega⟩) dX12_goShip_307 ?_
      refine lv_topi (fun z113 ez113 => ?_)
      have jz113 : z113.toInt = mo_R g101 (547 + 84 * v.toInt + 5) := mo_rd ez113 (by omega)
      have kz113 := hI.V (s := v.toInt) (by omega) (by omega)
      refine lv_i2l hx hb dX12_goShip_308 rfl ?_
      refine lv_lload hx hb dX12_goShip_309 (lv_at hl 0 rfl) ?_
      refine W.lcmp hx hb dX12_goShip_311 ?_
      refine lv_if_le (tgt := 352) hx hb dX12_goShip_312 (by decide) (fun c114 => ?_) (fun c114 => ?_)
      · have ic114 : z113.toInt ≤ z111.toInt := zl_le (Int32.toInt_toInt64 z113) rfl c114
        have hI := hI.xb (y := -1) (a := 0) (by intro s9 h0 h1 h2 h3; rcases (show s9 = v.toInt ∨ s9 ≠ v.toInt by omega) with rfl | z <;> constructor <;> omega)
        exact W.vret hx hb hr (fun t ht hW => ⟨⟨f95, rfl, ⟨hT, hR, ⟨(by rw [hf_o100, mo_i1]; exact hI), (by rw [hf_o100, mo_i1, hf_o26, mo_i1]; exact hKN), (by first | (simp only [hf_o100, hf_o26, mo_i1]; omega) | (simp only [hf_o100, hf_o26, mo_i1]; trivial) | (simp only [hf_o100, hf_o26, mo_i1]; done) | omega)⟩⟩, by rw [ht]; exact hP, va_K.moved hW.alike hK, hD⟩, hS.F ht⟩) hS.2.2 dX12_goShip_352
      · have ic114 : z113.toInt > z111.toInt := zl_lef (Int32.toInt_toInt64 z113) rfl c114
        refine lv_aload_n hx hb dX12_goShip_315 rfl (lv_at hl 3 rfl) ?_
        refine va_get (D := (dC, dI)) (ci := 12) (v := .ref (ρ h0 2)) (C := RX12) (T := TX12) (N := 53) hx hb hts hfX12 hown hK hP q103 eq103 rfl 2 (by decide) (hts (.fieldLink RX12 7 "ColdShipsModel" "row" "[I") wa_148) (fun _ h9 => h9) rfl dX12_goShip_316 ?_
        refine lv_iload_n hx hb dX12_goShip_319 rfl (lv_at hl 2 rfl) ?_
        refine lv_bipush (v := 12) hx hb dX12_goShip_320 (by decide) ?_
        refine lv_iadd hx hb dX12_goShip_322 ?_
        refine lv_topi (fun z115 ez115 => ?_)
        have iz115 : z115.toInt = r28.toInt + 12 := zi_add ez115 rfl rfl (by omega) (by omega)
        refine lv_iconst (v := 2) hx hb dX12_goShip_323 (by decide) ?_
        refine lv_iadd hx hb dX12_goShip_324 ?_
        refine lv_topi (fun z116 ez116 => ?_)
        have iz116 : z116.toInt = z115.toInt + 2 := zi_add ez116 rfl rfl (by omega) (by omega)
        refine lv_dup2_11 hx hb dX12_goShip_325 rfl rfl ?_
        refine va_iald hx hb hK hP q104 0 eq104 rfl (vp_in_iff.mpr ⟨by omega, by omega⟩) dX12_goShip_326 ?_
        refine lv_topi (fun z117 ez117 => ?_)
        refine lv_aload_n hx hb dX12_goShip_327 rfl (lv_at hl 3 rfl) ?_
        refine va_get (D := (dC, dI)) (ci := 12) (v := .ref (ρ h0 2)) (C := RX12) (T := TX12) (N := 53) hx hb hts hfX12 hown hK hP q103 eq103 rfl 2 (by decide) (hts (.fieldLink RX12 7 "ColdShipsModel" "row" "[I") wa_148) (fun _ h9 => h9) rfl dX12_goShip_328 ?_
        refine lv_iload_n hx hb dX12_goShip_331 rfl (lv_at hl 2 rfl) ?_
        refine lv_iconst (v := 5) hx hb dX12_goShip_332 (by decide) ?_
        refine lv_iadd hx hb dX12_goShip_333 ?_
        refine lv_topi (fun z118 ez118 => ?_)
        have iz118 : z118.toInt = r28.toInt + 5 := zi_add ez118 rfl rfl (by omega) (by omega)
        refine va_iald hx hb hK hP q104 0 eq104 rfl (vp_in_iff.mpr ⟨by omega, by omega⟩) dX12_goShip_334 ?_
        refine lv_topi (fun z119 ez119 => ?_)
        have jz119 : z119.toInt = mo_R g101 (547 + 84 * v.toInt + 5) := mo_rd ez119 (by omega)
        have kz119 := hI.V (s := v.toInt) (by omega) (by omega)
        have vz119 : z119.toInt = z113.toInt := jz119.trans (jz113).symm
        refine lv_lload hx hb dX12_goShip_335 (lv_at hl 0 rfl) ?_
        refine lv_l2i hx hb dX12_goShip_337 rfl ?_
        refine lv_topi (fun z120 ez120 => ?_)
        have iz120 : z120.toInt = z111.toInt := zi_l2i ez120 (rfl : z111.toInt = _) (by omega) (by omega)
        refine lv_isub hx hb dX12_goShip_338 ?_
        refine lv_topi (fun z121 ez121 => ?_)
        have iz121 : z121.toInt = z113.toInt - z120.toInt := zi_sub ez121 vz119 rfl (by omega) (by omega)
        refine lv_iadd hx hb dX12_goShip_339 ?_
        refine lv_topi (fun z122 ez122 => ?_)
        refine va_iast hx hb hK hP hD hS q104 0 eq104 rfl (vp_in_iff.mpr ⟨by omega, by omega⟩) dX12_goShip_340 (tp_k (.inl (κ 0, 12967, .inl (upd g101 z116.toNatClampNeg z122))) hD (tp_in hG y1 (by decide)) eq104 (fun f123 H locs hP hD hS g125 k124 => ?_))
        have hT := hT.up y1 g125 k124 tp_o32
        have hR := hR.up y1 (by decide) k124
        have hU : mo_U (mo_R g101) (mo_R (upd g101 z116.toNatClampNeg z122)) (547 + 84 * v.toInt + 14) (z122.toInt) := mo_up (by omega) (rfl : z122.toInt = _) (by omega)
        generalize (upd g101 z116.toNatClampNeg z122) = g126 at g125 hU
        have hI := mo_w_sfree hI hU v.toInt 14 (by omega) (by omega) (by omega)
        have hKN := hKN.up hU (Or.inl (by omega))
        have pn127 : mo_R g126 (1) = n1 := (hU.ne (by omega) (by omega)).trans jf98
        have pn128 : mo_R g126 (11) = n11 := (hU.ne (by omega) (by omega)).trans jf99
        have pn129 : mo_R g126 (547 + 84 * v.toInt + 5) = z113.toInt := (hU.ne (by omega) (by omega)).trans (jz113).symm
        refine lv_aload_n hx hb dX12_goShip_341 rfl (lv_at hl 3 rfl) ?_
        have hf_130 : f123 h0 = .inr (12, [.int o102_x0, .int o102_x1, .ref (ρ h0 2), .ref (ρ h0 3), .ref (ρ h0 4), .ref (ρ h0 5), .ref (ρ h0 6), .int o102_x7, .ref (ρ h0 8), .int o102_x9, .int o102_x10, .int o102_x11, .int o102_x12, .long o102_x13, .int o102_x14, .int o102_x15, .int o102_x16, .int o102_x17, .int o102_x18, .int o102_x19, .int o102_x20, .ref (ρ h0 21), .int o102_x22, .ref (ρ h0 23), .ref (ρ h0 24), .int o102_x25, .ref (ρ h0 26), .ref (ρ h0 27), .int o102_x28, .int o102_x29, .ref (ρ h0 30), .ref (ρ h0 31), .int o102_x32, .long o102_x33, .long o102_x34, .long o102_x35, .int o102_x36, .int o102_x37, .int o102_x38, .ref (ρ h0 39), .ref (ρ h0 40), .ref (ρ h0 41), .ref (ρ h0 42), .ref (ρ h0 43), .ref (ρ h0 44), .ref (ρ h0 45), .ref (ρ h0 46), .int o102_x47, .int o102_x48, .ref (ρ h0 49), .ref (ρ h0 50), .ref (ρ h0 51), .ref (ρ h0 52)]) := (k124 _ (tp_ne ht_h0 y1 (by decide))).trans hf_o102
        refine tpk_pos (tp_in hG ht_h0 (by decide)) hf_130 (fun q131 eq131 => ?_)
        refine va_get (D := (dC, dI)) (ci := 12) (v := .ref (ρ h0 2)) (C := RX12) (T := TX12) (N := 53) hx hb hts hfX12 hown hK hP q131 eq131 rfl 2 (by decide) (hts (.fieldLink RX12 7 "ColdShipsModel" "row" "[I") wa_148) (fun _ h9 => h9) rfl dX12_goShip_342 ?_
        refine lv_iload_n hx hb dX12_goShip_345 rfl (lv_at hl 2 rfl) ?_
        refine lv_iconst (v := 5) hx hb dX12_goShip_346 (by decide) ?_
        refine lv_iadd hx hb dX12_goShip_347 ?_
        refine lv_topi (fun z132 ez132 => ?_)
        have iz132 : z132.toInt = r28.toInt + 5 := zi_add ez132 rfl rfl (by omega) (by omega)
        refine lv_lload hx hb dX12_goShip_348 (lv_at hl 0 rfl) ?_
        refine lv_l2i hx hb dX12_goShip_350 rfl ?_
        refine lv_topi (fun z133 ez133 => ?_)
        have iz133 : z133.toInt = z111.toInt := zi_l2i ez133 (rfl : z111.toInt = _) (by omega) (by omega)
        refine tpk_pos (tp_in hG y1 (by decide)) g125 (fun q134 eq134 => ?_)
        refine va_iast hx hb hK hP hD hS q134 0 eq134 rfl (vp_in_iff.mpr ⟨by omega, by omega⟩) dX12_goShip_351 (tp_k (.inl (κ 0, 12967, .inl (upd g126 z132.toNatClampNeg z133))) hD (tp_in hG y1 (by decide)) eq134 (fun f135 H locs hP hD hS g137 k136 => ?_))
        have hT := hT.up y1 g137 k136 tp_o32
        have hR := hR.up y1 (by decide) k136
        have hU : mo_U (mo_R g126) (mo_R (upd g126 z132.toNatClampNeg z133)) (547 + 84 * v.toInt + 5) (z133.toInt) := mo_up (by omega) (rfl : z133.toInt = _) (by omega)
        generalize (upd g126 z132.toNatClampNeg z133) = g138 at g137 hU
        have hI := mo_w_VAP hI hU v.toInt (by omega) (by omega) (by omega)
        have hKN := hKN.up hU (Or.inl (by omega))
        have pn139 : mo_R g138 (1) = n1 := (hU.ne (by omega) (by omega)).trans pn127
        have pn140 : mo_R g138 (11) = n11 := (hU.ne (by omega) (by omega)).trans pn128
        have pn141 : mo_R g138 (547 + 84 * v.toInt + 5) = z133.toInt := hU.eq (by omega)
        have hI := hI.xb (y := -1) (a := 0) (by intro s9 h0 h1 h2 h3; rcases (show s9 = v.toInt ∨ s9 ≠ v.toInt by omega) with rfl | z <;> constructor <;> omega)
        exact W.vret hx hb hr (fun t ht hW => ⟨⟨f135, rfl, ⟨hT, hR, ⟨(by rw [g137, mo_i1]; exact hI), (by rw [g137, mo_i1, hf_o26, mo_i1]; exact hKN), (by first | (simp only [g137, hf_o26, mo_i1]; omega) | (simp only [g137, hf_o26, mo_i1]; trivial) | (simp only [g137, hf_o26, mo_i1]; done) | omega)⟩⟩, by rw [ht]; exact hP, va_K.moved hW.alike hK, hD⟩, hS.F ht⟩) hS.2.2 dX12_goShip_352
    · refine lv_if_le (tgt := 275) hx hb dX12_goShip_265 (by decide) (fun c142 => ?_) (fun c142 => ?_)
      · have ic142 : z93.toInt ≤ 0 := zi_le rfl rfl c142
        exact hj94 _ _ _ _ ⟨f83, rfl, hT, hR, (by rw [hf_o85, mo_i1]; exact hI), (by rw [hf_o85, mo_i1]; exact hKN), (by rw [hf_o85, mo_i1]; omega), (by rw [hf_o85, mo_i1]; omega), hP, hD, hS, lv_sub hl [0, 1, 2, 3, 4] rfl⟩
      · have ic142 : z93.toInt > 0 := zi_lef rfl rfl c142
        refine lv_aload_n hx hb dX12_goShip_268 rfl (lv_at hl 2 rfl) ?_
        refine lv_iload_n hx hb dX12_goShip_269 rfl (lv_at hl 3 rfl) ?_
        refine lv_iload_n hx hb dX12_goShip_270 rfl (lv_at hl 1 rfl) ?_
        refine lv_iload_n hx hb dX12_goShip_271 rfl (lv_at hl 4 rfl) ?_
        have hFc := tp_fr hD hS hA
        refine va_callv (va_runV (As := [.int v, .int r28, .int u]) (rest := []) ⟨hx, hb, hml, hown, hts⟩ (t_X12_doOrder l dC dI _ κ Θ τ ν ρ L f83 hG hT h0 v r28 u v.toInt 300 v.toInt ht_h0 (by first | decide | omega) (by omega) (by omega) (by omega) (by rw [hf_o85, mo_i1]; exact hI) (by omega) (by first | (simp only [hf_o85, hf_o26, mo_i1]; omega) | (simp only [hf_o85, hf_o26, mo_i1]; trivial) | (simp only [hf_o85, hf_o26, mo_i1]; done) | omega) (by first | (simp only [hf_o85, hf_o26, mo_i1]; omega) | (simp only [hf_o85, hf_o26, mo_i1]; trivial) | (simp only [hf_o85, hf_o26, mo_i1]; done) | omega)) (cwV 3 hts gX12_goShip_X12_doOrder rfl rfl rfl ⟨rfl, pd_X12_doOrder⟩ ⟨Nat.le_of_ble_eq_true rfl, Nat.le_of_ble_eq_true rfl⟩) ⟨pz_blind, va_recv hK hP (ci := 12) (q0 := q90) rfl eq90, pz_pre hP hK hD hN⟩ rfl rfl hl.1 rfl (lv_room (Nat.le_of_ble_eq_true rfl)) dX12_goShip_272 ⟨Nat.le_of_ble_eq_true rfl, Nat.le_of_ble_eq_true rfl⟩) hS (fun q _ h => hFc q h) hFc (fun f145 t H1 locs ht hvm hw144 hB hz1 hk1 hS => ?_)
        refine tn_3 hw144 (fun hT hF146 hw144p => ?_); clear hw144
        have hR := hR.then hF146 (by decide)
        have hP := hB.1; rw [ht] at hP; have hD := tp_ad f145 hD; clear hB hFc hz1 hk1; subst ht; generalize t.heap = H at hP hS ⊢
        obtain ⟨hJ, hw144pe⟩ := hw144p
        refine tpk_32 hT y1 (fun g148 hf_o147 => ?_)
        have hI : mo_RI v.toInt 300 (mo_R g148) := by have q9 := hJ; rw [hf_o147, mo_i1] at q9; exact q9
        rw [hf_o85, mo_i1] at hw144pe
        rw [hf_o147, mo_i1] at hw144pe
        obtain ⟨hw144pek, hw144peq⟩ := hw144pe
        have hKN := hKN.th hw144pek (fun k q9 => by have q8 : k = 5 := q9; show k = 5; omega)
        have pn149 : mo_R g148 (1) = n1 := (hw144peq.1).trans pn87
        have pn150 : mo_R g148 (11) = n11 := (hw144peq.2).trans pn88
        exact hj94 _ _ _ _ ⟨f145, rfl, hT, hR, (by rw [hf_o147, mo_i1]; exact hI), (by rw [hf_o147, mo_i1]; exact hKN), (by rw [hf_o147, mo_i1]; omega), (by rw [hf_o147, mo_i1]; omega), hP, hD, hS, lv_sub hl [0, 1, 2, 3, 4] rfl⟩
  · refine lv_icmp_ge (tgt := 126) hx hb dX12_goShip_77 (by decide) (fun c151 => ?_) (fun c151 => ?_)
    · have ic151 : z68.toInt ≥ r69.toInt := zi_ge rfl rfl c151
      refine lv_aload_n hx hb dX12_goShip_126 rfl (lv_at hl 2 rfl) ?_
      refine va_get (D := (dC, dI)) (ci := 12) (v := .ref (ρ h0 2)) (C := RX12) (T := TX12) (N := 53) hx hb hts hfX12 hown hK hP q65 eq65 rfl 2 (by decide) (hts (.fieldLink RX12 7 "ColdShipsModel" "row" "[I") wa_148) (fun _ h9 => h9) rfl dX12_goShip_127 ?_
      refine lv_iload_n hx hb dX12_goShip_130 rfl (lv_at hl 1 rfl) ?_
      refine lv_bipush (v := 6) hx hb dX12_goShip_131 (by decide) ?_
      refine lv_iadd hx hb dX12_goShip_133 ?_
      refine lv_topi (fun z152 ez152 => ?_)
      have iz152 : z152.toInt = r28.toInt + 6 := zi_add ez152 rfl rfl (by omega) (by omega)
      refine va_iald hx hb hK hP q67 0 eq67 rfl (vp_in_iff.mpr ⟨by omega, by omega⟩) dX12_goShip_134 ?_
      refine lv_topi (fun z153 ez153 => ?_)
      have jz153 : z153.toInt = mo_R g60 (547 + 84 * v.toInt + 6) := mo_rd ez153 (by omega)
      refine lv_if_le (tgt := 251) hx hb dX12_goShip_135 (by decide) (fun c154 => ?_) (fun c154 => ?_)
      · have ic154 : z153.toInt ≤ 0 := zi_le rfl rfl c154
        exact hj71 _ _ _ _ ⟨f57, rfl, hT, hR, (by rw [g59, mo_i1]; exact hI), (by rw [g59, mo_i1]; exact hKN), (by rw [g59, mo_i1]; omega), (by rw [g59, mo_i1]; omega), hP, hD, hS, lv_sub hl [0, 1, 2, 3, 4] rfl⟩
      · have ic154 : z153.toInt > 0 := zi_lef rfl rfl c154
        refine lv_aload_n hx hb dX12_goShip_138 rfl (lv_at hl 2 rfl) ?_
        refine va_get (D := (dC, dI)) (ci := 12) (v := .ref (ρ h0 2)) (C := RX12) (T := TX12) (N := 53) hx hb hts hfX12 hown hK hP q65 eq65 rfl 2 (by decide) (hts (.fieldLink RX12 7 "ColdShipsModel" "row" "[I") wa_148) (fun _ h9 => h9) rfl dX12_goShip_139 ?_
        refine lv_iload_n hx hb dX12_goShip_142 rfl (lv_at hl 1 rfl) ?_
        refine lv_bipush (v := 6) hx hb dX12_goShip_143 (by decide) ?_
        refine lv_iadd hx hb dX12_goShip_145 ?_
        refine lv_topi (fun z155 ez155 => ?_)
        have iz155 : z155.toInt = r28.toInt + 6 := zi_add ez155 rfl rfl (by omega) (by omega)
        refine va_iald hx hb hK hP q67 0 eq67 rfl (vp_in_iff.mpr ⟨by omega, by omega⟩) dX12_goShip_146 ?_
        refine lv_topi (fun z156 ez156 => ?_)
        have jz156 : z156.toInt = mo_R g60 (547 + 84 * v.toInt + 6) := mo_rd ez156 (by omega)
        have vz156 : z156.toInt = z153.toInt := jz156.trans (jz153).symm
        refine lv_bipush (v := 20) hx hb dX12_goShip_147 (by decide) ?_
        refine lv_icmp_ge (tgt := 164) hx hb dX12_goShip_149 (by decide) (fun c157 => ?_) (fun c157 => ?_)
        · have ic157 : z153.toInt ≥ 20 := zi_ge vz156 rfl c157
          refine lv_bipush (v := 20) hx hb dX12_goShip_164 (by decide) ?_
          refine lv_istore (lv' := [(5, .int 20), (4, .int z42), (3, .int r28), (0, .ref h0), (1, .int v), (2, .int u)]) hx hb dX12_goShip_166 hl (by decide) rfl (fun ls hl => ?_)
          refine lv_aload_n hx hb dX12_goShip_168 rfl (lv_at hl 3 rfl) ?_
          refine va_get (D := (dC, dI)) (ci := 12) (v := .ref (ρ h0 2)) (C := RX12) (T := TX12) (N := 53) hx hb hts hfX12 hown hK hP q65 eq65 rfl 2 (by decide) (hts (.fieldLink RX12 7 "ColdShipsModel" "row" "[I") wa_148) (fun _ h9 => h9) rfl dX12_goShip_169 ?_
          refine lv_iload_n hx hb dX12_goShip_172 rfl (lv_at hl 2 rfl) ?_
          refine lv_bipush (v := 6) hx hb dX12_goShip_173 (by decide) ?_
          refine lv_iadd hx hb dX12_goShip_175 ?_
          refine lv_topi (fun z158 ez158 => ?_)
          have iz158 : z158.toInt = r28.toInt + 6 := zi_add ez158 rfl rfl (by omega) (by omega)
          refine lv_dup2_11 hx hb dX12_goShip_176 rfl rfl ?_
          refine va_iald hx hb hK hP q67 0 eq67 rfl (vp_in_iff.mpr ⟨by omega, by omega⟩) dX12_goShip_177 ?_
          refine lv_topi (fun z159 ez159 => ?_)
          have jz159 : z159.toInt = mo_R g60 (547 + 84 * v.toInt + 6) := mo_rd ez159 (by omega)
          have vz159 : z159.toInt = z153.toInt := jz159.trans (jz153).symm
          refine lv_iload hx hb dX12_goShip_178 (lv_at hl 0 rfl) ?_
          refine lv_isub hx hb dX12_goShip_180 ?_
          refine lv_topi (fun z160 ez160 => ?_)
          have := zi_bd z159
          have iz160 : z160.toInt = z153.toInt - 20 := zi_sub ez160 vz159 rfl (by omega) (by omega)
          refine va_iast hx hb hK hP hD hS q67 0 eq67 rfl (vp_in_iff.mpr ⟨by omega, by omega⟩) dX12_goShip_181 (tp_k (.inl (κ 0, 12967, .inl (upd g60 z158.toNatClampNeg z160))) hD (tp_in hG y1 (by decide)) eq67 (fun f161 H locs hP hD hS g163 k162 => ?_))
          have hT := hT.up y1 g163 k162 tp_o32
          have hR := hR.up y1 (by decide) k162
          have hU : mo_U (mo_R g60) (mo_R (upd g60 z158.toNatClampNeg z160)) (547 + 84 * v.toInt + 6) (z160.toInt) := mo_up (by omega) (rfl : z160.toInt = _) (by omega)
          generalize (upd g60 z158.toNatClampNeg z160) = g164 at g163 hU
          have hI := mo_w_sfree hI hU v.toInt 6 (by omega) (by omega) (by omega)
          have hKN := hKN.up hU (Or.inl (by omega))
          have pn165 : mo_R g164 (1) = n1 := (hU.ne (by omega) (by omega)).trans pn61
          have pn166 : mo_R g164 (11) = n11 := (hU.ne (by omega) (by omega)).trans pn62
          have pn167 : mo_R g164 (547 + 84 * v.toInt + 5) = z56.toInt := (hU.ne (by omega) (by omega)).trans pn63
          have pn168 : mo_R g164 (547 + 84 * v.toInt + 4) = z68.toInt := (hU.ne (by omega) (by omega)).trans (jz68).symm
          have pn169 : mo_R g164 (547 + 84 * v.toInt + 6) = z160.toInt := hU.eq (by omega)
          refine lv_iload hx hb dX12_goShip_182 (lv_at hl 0 rfl) ?_
          refine lv_i2l (v := 20) hx hb dX12_goShip_184 (by decide) ?_
          refine lv_aload_n hx hb dX12_goShip_185 rfl (lv_at hl 3 rfl) ?_
          have hf_170 : f161 h0 = .inr (12, [.int o30_x0, .int o30_x1, .ref (ρ h0 2), .ref (ρ h0 3), .ref (ρ h0 4), .ref (ρ h0 5), .ref (ρ h0 6), .int o30_x7, .ref (ρ h0 8), .int o30_x9, .int o30_x10, .int o30_x11, .int o30_x12, .long o30_x13, .int o30_x14, .int o30_x15, .int o30_x16, .int o30_x17, .int o30_x18, .int o30_x19, .int o30_x20, .ref (ρ h0 21), .int o30_x22, .ref (ρ h0 23), .ref (ρ h0 24), .int o30_x25, .ref (ρ h0 26), .ref (ρ h0 27), .int o30_x28, .int o30_x29, .ref (ρ h0 30), .ref (ρ h0 31), .int o30_x32, .long o30_x33, .long o30_x34, .long o30_x35, .int o30_x36, .int o30_x37, .int o30_x38, .ref (ρ h0 39), .ref (ρ h0 40), .ref (ρ h0 41), .ref (ρ h0 42), .ref (ρ h0 43), .ref (ρ h0 44), .ref (ρ h0 45), .ref (ρ h0 46), .int o30_x47, .int o30_x48, .ref (ρ h0 49), .ref (ρ h0 50), .ref (ρ h0 51), .ref (ρ h0 52)]) := (k162 _ (tp_ne ht_h0 y1 (by decide))).trans hf_64
          refine tpk_pos (tp_in hG ht_h0 (by decide)) hf_170 (fun q171 eq171 => ?_)
          refine va_get (D := (dC, dI)) (ci := 12) (v := .ref (ρ h0 2)) (C := RX12) (T := TX12) (N := 53) hx hb hts hfX12 hown hK hP q171 eq171 rfl 2 (by decide) (hts (.fieldLink RX12 7 "ColdShipsModel" "row" "[I") wa_148) (fun _ h9 => h9) rfl dX12_goShip_186 ?_
          refine lv_iload_n hx hb dX12_goShip_189 rfl (lv_at hl 2 rfl) ?_
          refine lv_bipush (v := 7) hx hb dX12_goShip_190 (by decide) ?_
          refine lv_iadd hx hb dX12_goShip_192 ?_
          refine lv_topi (fun z172 ez172 => ?_)
          have iz172 : z172.toInt = r28.toInt + 7 := zi_add ez172 rfl rfl (by omega) (by omega)
          refine tpk_pos (tp_in hG y1 (by decide)) g163 (fun q173 eq173 => ?_)
          refine va_iald hx hb hK hP q173 0 eq173 rfl (vp_in_iff.mpr ⟨by omega, by omega⟩) dX12_goShip_193 ?_
          refine lv_topi (fun z174 ez174 => ?_)
          have jz174 : z174.toInt = mo_R g164 (547 + 84 * v.toInt + 7) := mo_rd ez174 (by omega)
          have kz174 := hI.GC (s := v.toInt) (by omega) (by omega)
          refine lv_i2l hx hb dX12_goShip_194 rfl ?_
          refine lv_lmul hx hb dX12_goShip_195 ?_
          refine lv_topl (fun z175 ez175 => ?_)
          have iz175 : z175.toInt = 20 * z174.toInt := zl_mul ez175 rfl (Int32.toInt_toInt64 z174) (by omega) (by omega)
          refine lv_ldc2 (own := RX12) (v := 100000) hx hb hown (hts (.constantLong RX12 177 (100000)) wa_552) dX12_goShip_196 ?_
          refine lv_ldiv hx hb dX12_goShip_199 (by decide) ?_
          refine lv_topl (fun z176 ez176 => ?_)
          have iz176 : z176.toInt = z175.toInt / 100000 := zl_div ez176 (rfl : z175.toInt = _) (show (100000 : Int64).toInt = 100000 from rfl) (by omega) (by decide)
          refine lv_l2i hx hb dX12_goShip_200 rfl ?_
          refine lv_topi (fun z177 ez177 => ?_)
          have iz177 : z177.toInt = z176.toInt := zi_l2i ez177 (rfl : z176.toInt = _) (by omega) (by omega)
          refine lv_istore (lv' := [(6, .int z177), (5, .int 20), (4, .int z42), (3, .int r28), (0, .ref h0), (1, .int v), (2, .int u)]) hx hb dX12_goShip_201 hl (by decide) rfl (fun ls hl => ?_)
          refine lv_iload hx hb dX12_goShip_203 (lv_at hl 0 rfl) ?_
          refine lv_aload_n hx hb dX12_goShip_205 rfl (lv_at hl 4 rfl) ?_
          refine va_get (D := (dC, dI)) (ci := 12) (v := .ref (ρ h0 2)) (C := RX12) (T := TX12) (N := 53) hx hb hts hfX12 hown hK hP q171 eq171 rfl 2 (by decide) (hts (.fieldLink RX12 7 "ColdShipsModel" "row" "[I") wa_148) (fun _ h9 => h9) rfl dX12_goShip_206 ?_
          refine lv_iload_n hx hb dX12_goShip_209 rfl (lv_at hl 3 rfl) ?_
          refine lv_iconst (v := 4) hx hb dX12_goShip_210 (by decide) ?_
          refine lv_iadd hx hb dX12_goShip_211 ?_
          refine lv_topi (fun z178 ez178 => ?_)
          have iz178 : z178.toInt = r28.toInt + 4 := zi_add ez178 rfl rfl (by omega) (by omega)
          refine va_iald hx hb hK hP q173 0 eq173 rfl (vp_in_iff.mpr ⟨by omega, by omega⟩) dX12_goShip_212 ?_
          refine lv_topi (fun z179 ez179 => ?_)
          have := hI.GC (s := v.toInt) (by omega) (by omega)
          have jz179 : z179.toInt = mo_R g164 (547 + 84 * v.toInt + 4) := mo_rd ez179 (by omega)
          have kz179 := hI.GG (s := v.toInt) (by omega) (by omega)
          have vz179 : z179.toInt = z68.toInt := jz179.trans pn168
          refine lv_icmp_le (tgt := 227) hx hb dX12_goShip_213 (by decide) (fun c180 => ?_) (fun c180 => ?_)
          · have ic180 : z177.toInt ≤ z68.toInt := zi_le rfl vz179 c180
            refine lv_iload hx hb dX12_goShip_227 (lv_at hl 0 rfl) ?_
            refine lv_istore (lv' := [(6, .int z177), (5, .int 20), (4, .int z42), (3, .int r28), (0, .ref h0), (1, .int v), (2, .int u)]) hx hb dX12_goShip_229 hl (by decide) rfl (fun ls hl => ?_)
            refine lv_aload_n hx hb dX12_goShip_231 rfl (lv_at hl 4 rfl) ?_
            refine lv_iload_n hx hb dX12_goShip_232 rfl (lv_at hl 3 rfl) ?_
            refine lv_iload hx hb dX12_goShip_233 (lv_at hl 0 rfl) ?_
            have hFc := tp_fr hD hS hA
            refine va_callv (va_runV (As := [.int r28, .int z177]) (rest := []) ⟨hx, hb, hml, hown, hts⟩ (t_X12_take l dC dI _ κ Θ τ ν ρ L f161 hG hT h0 r28 z177 v.toInt 300 v.toInt ht_h0 (by omega) (by omega) (by omega) (by rw [g163, mo_i1]; exact hI) (by first | (simp only [g163, hf_o26, mo_i1]; omega) | (simp only [g163, hf_o26, mo_i1]; trivial) | (simp only [g163, hf_o26, mo_i1]; done) | omega) (by first | (simp only [g163, hf_o26, mo_i1]; omega) | (simp only [g163, hf_o26, mo_i1]; trivial) | (simp only [g163, hf_o26, mo_i1]; done) | omega)) (cwV 2 hts gX12_goShip_X12_take rfl rfl rfl ⟨rfl, pd_X12_take⟩ ⟨Nat.le_of_ble_eq_true rfl, Nat.le_of_ble_eq_true rfl⟩) ⟨pz_blind, va_recv hK hP (ci := 12) (q0 := q171) rfl eq171, pz_pre hP hK hD hN⟩ rfl rfl hl.1 rfl (lv_room (Nat.le_of_ble_eq_true rfl)) dX12_goShip_235 ⟨Nat.le_of_ble_eq_true rfl, Nat.le_of_ble_eq_true rfl⟩) hS (fun q _ h => hFc q h) hFc (fun f183 t H1 locs ht hvm hw182 hB hz1 hk1 hS => ?_)
            refine tn_3 hw182 (fun hT hF184 hw182p => ?_); clear hw182
            have hR := hR.then hF184 (by decide)
            have hP := hB.1; rw [ht] at hP; have hD := tp_ad f183 hD; clear hB hFc hz1 hk1; subst ht; generalize t.heap = H at hP hS ⊢
            obtain ⟨hJ, hw182pe⟩ := hw182p
            refine tpk_32 hT y1 (fun g186 hf_o185 => ?_)
            have hI : mo_RI v.toInt 300 (mo_R g186) := by have q9 := hJ; rw [hf_o185, mo_i1] at q9; exact q9
            rw [g163, mo_i1] at hw182pe
            rw [hf_o185, mo_i1] at hw182pe
            obtain ⟨hw182pek, hw182peq⟩ := hw182pe
            have hKN := hKN.th hw182pek (fun k q9 => False.elim q9)
            have pn187 : mo_R g186 (1) = n1 := (hw182peq.1).trans pn165
            have pn188 : mo_R g186 (11) = n11 := (hw182peq.2.1).trans pn166
            have pn189 : mo_R g186 (547 + 84 * v.toInt + 5) = z56.toInt := (hw182peq.2.2.2).trans pn167
            refine lv_aload_n hx hb dX12_goShip_238 rfl (lv_at hl 4 rfl) ?_
            have hf_190 : f183 h0 = .inr (12, [.int o30_x0, .int o30_x1, .ref (ρ h0 2), .ref (ρ h0 3), .ref (ρ h0 4), .ref (ρ h0 5), .ref (ρ h0 6), .int o30_x7, .ref (ρ h0 8), .int o30_x9, .int o30_x10, .int o30_x11, .int o30_x12, .long o30_x13, .int o30_x14, .int o30_x15, .int o30_x16, .int o30_x17, .int o30_x18, .int o30_x19, .int o30_x20, .ref (ρ h0 21), .int o30_x22, .ref (ρ h0 23), .ref (ρ h0 24), .int o30_x25, .ref (ρ h0 26), .ref (ρ h0 27), .int o30_x28, .int o30_x29, .ref (ρ h0 30), .ref (ρ h0 31), .int o30_x32, .long o30_x33, .long o30_x34, .long o30_x35, .int o30_x36, .int o30_x37, .int o30_x38, .ref (ρ h0 39), .ref (ρ h0 40), .ref (ρ h0 41), .ref (ρ h0 42), .ref (ρ h0 43), .ref (ρ h0 44), .ref (ρ h0 45), .ref (ρ h0 46), .int o30_x47, .int o30_x48, .ref (ρ h0 49), .ref (ρ h0 50), .ref (ρ h0 51), .ref (ρ h0 52)]) := (hF184 _ (by rw [ht_h0]; decide)).trans hf_170
            refine tpk_pos (tp_in hG ht_h0 (by decide)) hf_190 (fun q191 eq191 => ?_)
            refine va_get (D := (dC, dI)) (ci := 12) (v := .ref (ρ h0 2)) (C := RX12) (T := TX12) (N := 53) hx hb hts hfX12 hown hK hP q191 eq191 rfl 2 (by decide) (hts (.fieldLink RX12 7 "ColdShipsModel" "row" "[I") wa_148) (fun _ h9 => h9) rfl dX12_goShip_239 ?_
            refine lv_iload_n hx hb dX12_goShip_242 rfl (lv_at hl 3 rfl) ?_
            refine lv_iconst (v := 5) hx hb dX12_goShip_243 (by decide) ?_
            refine lv_iadd hx hb dX12_goShip_244 ?_
            refine lv_topi (fun z192 ez192 => ?_)
            have iz192 : z192.toInt = r28.toInt + 5 := zi_add ez192 rfl rfl (by omega) (by omega)
            refine lv_dup2_11 hx hb dX12_goShip_245 rfl rfl ?_
            refine tpk_pos (tp_in hG y1 (by decide)) hf_o185 (fun q193 eq193 => ?_)
            refine va_iald hx hb hK hP q193 0 eq193 rfl (vp_in_iff.mpr ⟨by omega, by omega⟩) dX12_goShip_246 ?_
            refine lv_topi (fun z194 ez194 => ?_)
            have jz194 : z194.toInt = mo_R g186 (547 + 84 * v.toInt + 5) := mo_rd ez194 (by omega)
            have kz194 := hI.V (s := v.toInt) (by omega) (by omega)
            have vz194 : z194.toInt = z56.toInt := jz194.trans pn189
            refine lv_iload hx hb dX12_goShip_247 (lv_at hl 0 rfl) ?_
            refine lv_iadd hx hb dX12_goShip_249 ?_
            refine lv_topi (fun z195 ez195 => ?_)
            have iz195 : z195.toInt = z56.toInt + z177.toInt := zi_add ez195 vz194 rfl (by omega) (by omega)
            refine va_iast hx hb hK hP hD hS q193 0 eq193 rfl (vp_in_iff.mpr ⟨by omega, by omega⟩) dX12_goShip_250 (tp_k (.inl (κ 0, 12967, .inl (upd g186 z192.toNatClampNeg z195))) hD (tp_in hG y1 (by decide)) eq193 (fun f196 H locs hP hD hS g198 k197 => ?_))
            have hT := hT.up y1 g198 k197 tp_o32
            have hR := hR.up y1 (by decide) k197
            have hU : mo_U (mo_R g186) (mo_R (upd g186 z192.toNatClampNeg z195)) (547 + 84 * v.toInt + 5) (z195.toInt) := mo_up (by omega) (rfl : z195.toInt = _) (by omega)
            generalize (upd g186 z192.toNatClampNeg z195) = g199 at g198 hU
            have hI := mo_w_VAP hI hU v.toInt (by omega) (by omega) (by omega)
            have hKN := hKN.up hU (Or.inl (by omega))
            have pn200 : mo_R g199 (1) = n1 := (hU.ne (by omega) (by omega)).trans pn187
            have pn201 : mo_R g199 (11) = n11 := (hU.ne (by omega) (by omega)).trans pn188
            have pn202 : mo_R g199 (547 + 84 * v.toInt + 5) = z195.toInt := hU.eq (by omega)
            exact hj71 _ _ _ _ ⟨f196, rfl, hT, hR, (by rw [g198, mo_i1]; exact hI), (by rw [g198, mo_i1]; exact hKN), (by rw [g198, mo_i1]; omega), (by rw [g198, mo_i1]; omega), hP, hD, hS, lv_sub hl [2, 3, 4, 5, 6] rfl⟩
          · have ic180 : z177.toInt > z68.toInt := zi_lef rfl vz179 c180
            refine lv_aload_n hx hb dX12_goShip_216 rfl (lv_at hl 4 rfl) ?_
            refine va_get (D := (dC, dI)) (ci := 12) (v := .ref (ρ h0 2)) (C := RX12) (T := TX12) (N := 53) hx hb hts hfX12 hown hK hP q171 eq171 rfl 2 (by decide) (hts (.fieldLink RX12 7 "ColdShipsModel" "row" "[I") wa_148) (fun _ h9 => h9) rfl dX12_goShip_217 ?_
            refine lv_iload_n hx hb dX12_goShip_220 rfl (lv_at hl 3 rfl) ?_
            refine lv_iconst (v := 4) hx hb dX12_goShip_221 (by decide) ?_
            refine lv_iadd hx hb dX12_goShip_222 ?_
            refine lv_topi (fun z203 ez203 => ?_)
            have iz203 : z203.toInt = r28.toInt + 4 := zi_add ez203 rfl rfl (by omega) (by omega)
            refine va_iald hx hb hK hP q173 0 eq173 rfl (vp_in_iff.mpr ⟨by omega, by omega⟩) dX12_goShip_223 ?_
            refine lv_topi (fun z204 ez204 => ?_)
            have := hI.GC (s := v.toInt) (by omega) (by omega)
            have jz204 : z204.toInt = mo_R g164 (547 + 84 * v.toInt + 4) := mo_rd ez204 (by omega)
            have kz204 := hI.GG (s := v.toInt) (by omega) (by omega)
            have vz204 : z204.toInt = z68.toInt := jz204.trans pn168
            refine lv_goto (tgt := 229) hx hb dX12_goShip_224 (by decide) ?_
            refine lv_istore (lv' := [(6, .int z204), (5, .int 20), (4, .int z42), (3, .int r28), (0, .ref h0), (1, .int v), (2, .int u)]) hx hb dX12_goShip_229 hl (by decide) rfl (fun ls hl => ?_)
            refine lv_aload_n hx hb dX12_goShip_231 rfl (lv_at hl 4 rfl) ?_
            refine lv_iload_n hx hb dX12_goShip_232 rfl (lv_at hl 3 rfl) ?_
            refine lv_iload hx hb dX12_goShip_233 (lv_at hl 0 rfl) ?_
            have hFc := tp_fr hD hS hA
            refine va_callv (va_runV (As := [.int r28, .int z204]) (rest := []) ⟨hx, hb, hml, hown, hts⟩ (t_X12_take l dC dI _ κ Θ τ ν ρ L f161 hG hT h0 r28 z204 v.toInt 300 v.toInt ht_h0 (by omega) (by omega) (by omega) (by rw [g163, mo_i1]; exact hI) (by first | (simp only [g163, hf_o26, mo_i1]; omega) | (simp only [g163, hf_o26, mo_i1]; trivial) | (simp only [g163, hf_o26, mo_i1]; done) | omega) (by first | (simp only [g163, hf_o26, mo_i1]; omega) | (simp only [g163, hf_o26, mo_i1]; trivial) | (simp only [g163, hf_o26, mo_i1]; done) | omega)) (cwV 2 hts gX12_goShip_X12_take rfl rfl rfl ⟨rfl, pd_X12_take⟩ ⟨Nat.le_of_ble_eq_true rfl, Nat.le_of_ble_eq_true rfl⟩) ⟨pz_blind, va_recv hK hP (ci := 12) (q0 := q171) rfl eq171, pz_pre hP hK hD hN⟩ rfl rfl hl.1 rfl (lv_room (Nat.le_of_ble_eq_true rfl)) dX12_goShip_235 ⟨Nat.le_of_ble_eq_true rfl, Nat.le_of_ble_eq_true rfl⟩) hS (fun q _ h => hFc q h) hFc (fun f207 t H1 locs ht hvm hw206 hB hz1 hk1 hS => ?_)
            refine tn_3 hw206 (fun hT hF208 hw206p => ?_); clear hw206
            have hR := hR.then hF208 (by decide)
            have hP := hB.1; rw [ht] at hP; have hD := tp_ad f207 hD; clear hB hFc hz1 hk1; subst ht; generalize t.heap = H at hP hS ⊢
            obtain ⟨hJ, hw206pe⟩ := hw206p
            refine tpk_32 hT y1 (fun g210 hf_o209 => ?_)
            have hI : mo_RI v.toInt 300 (mo_R g210) := by have q9 := hJ; rw [hf_o209, mo_i1] at q9; exact q9
            rw [g163, mo_i1] at hw206pe
            rw [hf_o209, mo_i1] at hw206pe
            obtain ⟨hw206pek, hw206peq⟩ := hw206pe
            have hKN := hKN.th hw206pek (fun k q9 => False.elim q9)
            have pn211 : mo_R g210 (1) = n1 := (hw206peq.1).trans pn165
            have pn212 : mo_R g210 (11) = n11 := (hw206peq.2.1).trans pn166
            have pn213 : mo_R g210 (547 + 84 * v.toInt + 5) = z56.toInt := (hw206peq.2.2.2).trans pn167
            refine lv_aload_n hx hb dX12_goShip_238 rfl (lv_at hl 4 rfl) ?_
            have hf_214 : f207 h0 = .inr (12, [.int o30_x0, .int o30_x1, .ref (ρ h0 2), .ref (ρ h0 3), .ref (ρ h0 4), .ref (ρ h0 5), .ref (ρ h0 6), .int o30_x7, .ref (ρ h0 8), .int o30_x9, .int o30_x10, .int o30_x11, .int o30_x12, .long o30_x13, .int o30_x14, .int o30_x15, .int o30_x16, .int o30_x17, .int o30_x18, .int o30_x19, .int o30_x20, .ref (ρ h0 21), .int o30_x22, .ref (ρ h0 23), .ref (ρ h0 24), .int o30_x25, .ref (ρ h0 26), .ref (ρ h0 27), .int o30_x28, .int o30_x29, .ref (ρ h0 30), .ref (ρ h0 31), .int o30_x32, .long o30_x33, .long o30_x34, .long o30_x35, .int o30_x36, .int o30_x37, .int o30_x38, .ref (ρ h0 39), .ref (ρ h0 40), .ref (ρ h0 41), .ref (ρ h0 42), .ref (ρ h0 43), .ref (ρ h0 44), .ref (ρ h0 45), .ref (ρ h0 46), .int o30_x47, .int o30_x48, .ref (ρ h0 49), .ref (ρ h0 50), .ref (ρ h0 51), .ref (ρ h0 52)]) := (hF208 _ (by rw [ht_h0]; decide)).trans hf_170
            refine tpk_pos (tp_in hG ht_h0 (by decide)) hf_214 (fun q215 eq215 => ?_)
            refine va_get (D := (dC, dI)) (ci := 12) (v := .ref (ρ h0 2)) (C := RX12) (T := TX12) (N := 53) hx hb hts hfX12 hown hK hP q215 eq215 rfl 2 (by decide) (hts (.fieldLink RX12 7 "ColdShipsModel" "row" "[I") wa_148) (fun _ h9 => h9) rfl dX12_goShip_239 ?_
            refine lv_iload_n hx hb dX12_goShip_242 rfl (lv_at hl 3 rfl) ?_
            refine lv_iconst (v := 5) hx hb dX12_goShip_243 (by decide) ?_
            refine lv_iadd hx hb dX12_goShip_244 ?_
            refine lv_topi (fun z216 ez216 => ?_)
            have iz216 : z216.toInt = r28.toInt + 5 := zi_add ez216 rfl rfl (by omega) (by omega)
            refine lv_dup2_11 hx hb dX12_goShip_245 rfl rfl ?_
            refine tpk_pos (tp_in hG y1 (by decide)) hf_o209 (fun q217 eq217 => ?_)
            refine va_iald hx hb hK hP q217 0 eq217 rfl (vp_in_iff.mpr ⟨by omega, by omega⟩) dX12_goShip_246 ?_
            refine lv_topi (fun z218 ez218 => ?_)
            have jz218 : z218.toInt = mo_R g210 (547 + 84 * v.toInt + 5) := mo_rd ez218 (by omega)
            have kz218 := hI.V (s := v.toInt) (by omega) (by omega)
            have vz218 : z218.toInt = z56.toInt := jz218.trans pn213
            refine lv_iload hx hb dX12_goShip_247 (lv_at hl 0 rfl) ?_
            refine lv_iadd hx hb dX12_goShip_249 ?_
            refine lv_topi (fun z219 ez219 => ?_)
            have iz219 : z219.toInt = z56.toInt + z68.toInt := zi_add ez219 vz218 vz204 (by omega) (by omega)
            refine va_iast hx hb hK hP hD hS q217 0 eq217 rfl (vp_in_iff.mpr ⟨by omega, by omega⟩) dX12_goShip_250 (tp_k (.inl (κ 0, 12967, .inl (upd g210 z216.toNatClampNeg z219))) hD (tp_in hG y1 (by decide)) eq217 (fun f220 H locs hP hD hS g222 k221 => ?_))
            have hT := hT.up y1 g222 k221 tp_o32
            have hR := hR.up y1 (by decide) k221
            have hU : mo_U (mo_R g210) (mo_R (upd g210 z216.toNatClampNeg z219)) (547 + 84 * v.toInt + 5) (z219.toInt) := mo_up (by omega) (rfl : z219.toInt = _) (by omega)
            generalize (upd g210 z216.toNatClampNeg z219) = g223 at g222 hU
            have hI := mo_w_VAP hI hU v.toInt (by omega) (by omega) (by omega)
            have hKN := hKN.up hU (Or.inl (by omega))
            have pn224 : mo_R g223 (1) = n1 := (hU.ne (by omega) (by omega)).trans pn211
            have pn225 : mo_R g223 (11) = n11 := (hU.ne (by omega) (by omega)).trans pn212
            have pn226 : mo_R g223 (547 + 84 * v.toInt + 5) = z219.toInt := hU.eq (by omega)
            exact hj71 _ _ _ _ ⟨f220, rfl, hT, hR, (by rw [g222, mo_i1]; exact hI), (by rw [g222, mo_i1]; exact hKN), (by rw [g222, mo_i1]; omega), (by rw [g222, mo_i1]; omega), hP, hD, hS, lv_sub hl [2, 3, 4, 5, 6] rfl⟩
        · have ic157 : z153.toInt < 20 := zi_gef vz156 rfl c157
          refine lv_aload_n hx hb dX12_goShip_152 rfl (lv_at hl 2 rfl) ?_
          refine va_get (D := (dC, dI)) (ci := 12) (v := .ref (ρ h0 2)) (C := RX12) (T := TX12) (N := 53) hx hb hts hfX12 hown hK hP q65 eq65 rfl 2 (by decide) (hts (.fieldLink RX12 7 "ColdShipsModel" "row" "[I") wa_148) (fun _ h9 => h9) rfl dX12_goShip_153 ?_
          refine lv_iload_n hx hb dX12_goShip_156 rfl (lv_at hl 1 rfl) ?_
          refine lv_bipush (v := 6) hx hb dX12_goShip_157 (by decide) ?_
          refine lv_iadd hx hb dX12_goShip_159 ?_
          refine lv_topi (fun z227 ez227 => ?_)
          have iz227 : z227.toInt = r28.toInt + 6 := zi_add ez227 rfl rfl (by omega) (by omega)
          refine va_iald hx hb hK hP q67 0 eq67 rfl (vp_in_iff.mpr ⟨by omega, by omega⟩) dX12_goShip_160 ?_
          refine lv_topi (fun z228 ez228 => ?_)
          have jz228 : z228.toInt = mo_R g60 (547 + 84 * v.toInt + 6) := mo_rd ez228 (by omega)
          have vz228 : z228.toInt = z153.toInt := jz228.trans (jz153).symm
          refine lv_goto (tgt := 166) hx hb dX12_goShip_161 (by decide) ?_
          refine lv_istore (lv' := [(5, .int z228), (4, .int z42), (3, .int r28), (0, .ref h0), (1, .int v), (2, .int u)]) hx hb dX12_goShip_166 hl (by decide) rfl (fun ls hl => ?_)
          refine lv_aload_n hx hb dX12_goShip_168 rfl (lv_at hl 3 rfl) ?_
          refine va_get (D := (dC, dI)) (ci := 12) (v := .ref (ρ h0 2)) (C := RX12) (T := TX12) (N := 53) hx hb hts hfX12 hown hK hP q65 eq65 rfl 2 (by decide) (hts (.fieldLink RX12 7 "ColdShipsModel" "row" "[I") wa_148) (fun _ h9 => h9) rfl dX12_goShip_169 ?_
          refine lv_iload_n hx hb dX12_goShip_172 rfl (lv_at hl 2 rfl) ?_
          refine lv_bipush (v := 6) hx hb dX12_goShip_173 (by decide) ?_
          refine lv_iadd hx hb dX12_goShip_175 ?_
          refine lv_topi (fun z229 ez229 => ?_)
          have iz229 : z229.toInt = r28.toInt + 6 := zi_add ez229 rfl rfl (by omega) (by omega)
          refine lv_dup2_11 hx hb dX12_goShip_176 rfl rfl ?_
          refine va_iald hx hb hK hP q67 0 eq67 rfl (vp_in_iff.mpr ⟨by omega, by omega⟩) dX12_goShip_177 ?_
          refine lv_topi (fun z230 ez230 => ?_)
          have jz230 : z230.toInt = mo_R g60 (547 + 84 * v.toInt + 6) := mo_rd ez230 (by omega)
          have vz230 : z230.toInt = z153.toInt := jz230.trans (jz153).symm
          refine lv_iload hx hb dX12_goShip_178 (lv_at hl 0 rfl) ?_
          refine lv_isub hx hb dX12_goShip_180 ?_
          refine lv_topi (fun z231 ez231 => ?_)
          have iz231 : z231.toInt = z153.toInt - z153.toInt := zi_sub ez231 vz230 vz228 (by omega) (by omega)
          refine va_iast hx hb hK hP hD hS q67 0 eq67 rfl (vp_in_iff.mpr ⟨by omega, by omega⟩) dX12_goShip_181 (tp_k (.inl (κ 0, 12967, .inl (upd g60 z229.toNatClampNeg z231))) hD (tp_in hG y1 (by decide)) eq67 (fun f232 H locs hP hD hS g234 k233 => ?_))
          have hT := hT.up y1 g234 k233 tp_o32
          have hR := hR.up y1 (by decide) k233
          have hU : mo_U (mo_R g60) (mo_R (upd g60 z229.toNatClampNeg z231)) (547 + 84 * v.toInt + 6) (z231.toInt) := mo_up (by omega) (rfl : z231.toInt = _) (by omega)
          generalize (upd g60 z229.toNatClampNeg z231) = g235 at g234 hU
          have hI := mo_w_sfree hI hU v.toInt 6 (by omega) (by omega) (by omega)
          have hKN := hKN.up hU (Or.inl (by omega))
          have pn236 : mo_R g235 (1) = n1 := (hU.ne (by omega) (by omega)).trans pn61
          have pn237 : mo_R g235 (11) = n11 := (hU.ne (by omega) (by omega)).trans pn62
          have pn238 : mo_R g235 (547 + 84 * v.toInt + 5) = z56.toInt := (hU.ne (by omega) (by omega)).trans pn63
          have pn239 : mo_R g235 (547 + 84 * v.toInt + 4) = z68.toInt := (hU.ne (by omega) (by omega)).trans (jz68).symm
          have pn240 : mo_R g235 (547 + 84 * v.toInt + 6) = z231.toInt := hU.eq (by omega)
          refine lv_iload hx hb dX12_goShip_182 (lv_at hl 0 rfl) ?_
          refine lv_i2l hx hb dX12_goShip_184 rfl ?_
          refine lv_aload_n hx hb dX12_goShip_185 rfl (lv_at hl 3 rfl) ?_
          have hf_241 : f232 h0 = .inr (12, [.int o30_x0, .int o30_x1, .ref (ρ h0 2), .ref (ρ h0 3), .ref (ρ h0 4), .ref (ρ h0 5), .ref (ρ h0 6), .int o30_x7, .ref (ρ h0 8), .int o30_x9, .int o30_x10, .int o30_x11, .int o30_x12, .long o30_x13, .int o30_x14, .int o30_x15, .int o30_x16, .int o30_x17, .int o30_x18, .int o30_x19, .int o30_x20, .ref (ρ h0 21), .int o30_x22, .ref (ρ h0 23), .ref (ρ h0 24), .int o30_x25, .ref (ρ h0 26), .ref (ρ h0 27), .int o30_x28, .int o30_x29, .ref (ρ h0 30), .ref (ρ h0 31), .int o30_x32, .long o30_x33, .long o30_x34, .long o30_x35, .int o30_x36, .int o30_x37, .int o30_x38, .ref (ρ h0 39), .ref (ρ h0 40), .ref (ρ h0 41), .ref (ρ h0 42), .ref (ρ h0 43), .ref (ρ h0 44), .ref (ρ h0 45), .ref (ρ h0 46), .int o30_x47, .int o30_x48, .ref (ρ h0 49), .ref (ρ h0 50), .ref (ρ h0 51), .ref (ρ h0 52)]) := (k233 _ (tp_ne ht_h0 y1 (by decide))).trans hf_64
          refine tpk_pos (tp_in hG ht_h0 (by decide)) hf_241 (fun q242 eq242 => ?_)
          refine va_get (D := (dC, dI)) (ci := 12) (v := .ref (ρ h0 2)) (C := RX12) (T := TX12) (N := 53) hx hb hts hfX12 hown hK hP q242 eq242 rfl 2 (by decide) (hts (.fieldLink RX12 7 "ColdShipsModel" "row" "[I") wa_148) (fun _ h9 => h9) rfl dX12_goShip_186 ?_
          refine lv_iload_n hx hb dX12_goShip_189 rfl (lv_at hl 2 rfl) ?_
          refine lv_bipush (v := 7) hx hb dX12_goShip_190 (by decide) ?_
          refine lv_iadd hx hb dX12_goShip_192 ?_
          refine lv_topi (fun z243 ez243 => ?_)
          have iz243 : z243.toInt = r28.toInt + 7 := zi_add ez243 rfl rfl (by omega) (by omega)
          refine tpk_pos (tp_in hG y1 (by decide)) g234 (fun q244 eq244 => ?_)
          refine va_iald hx hb hK hP q244 0 eq244 rfl (vp_in_iff.mpr ⟨by omega, by omega⟩) dX12_goShip_193 ?_
          refine lv_topi (fun z245 ez245 => ?_)
          have jz245 : z245.toInt = mo_R g235 (547 + 84 * v.toInt + 7) := mo_rd ez245 (by omega)
          have kz245 := hI.GC (s := v.toInt) (by omega) (by omega)
          refine lv_i2l hx hb dX12_goShip_194 rfl ?_
          refine lv_lmul hx hb dX12_goShip_195 ?_
          refine lv_topl (fun z246 ez246 => ?_)
          have iz246 := zl_mulb ez246 ((Int32.toInt_toInt64 z228).trans vz228) (Int32.toInt_toInt64 z245) 19 200000 (by omega) (by omega) (by omega) (by omega) (by decide)
          refine lv_ldc2 (own := RX12) (v := 100000) hx hb hown (hts (.constantLong RX12 177 (100000)) wa_552) dX12_goShip_196 ?_
          refine lv_ldiv hx hb dX12_goShip_199 (by decide) ?_
          refine lv_topl (fun z247 ez247 => ?_)
          have iz247 : z247.toInt = z246.toInt / 100000 := zl_div ez247 (rfl : z246.toInt = _) (show (100000 : Int64).toInt = 100000 from rfl) (by omega) (by decide)
          refine lv_l2i hx hb dX12_goShip_200 rfl ?_
          refine lv_topi (fun z248 ez248 => ?_)
          have iz248 : z248.toInt = z247.toInt := zi_l2i ez248 (rfl : z247.toInt = _) (by omega) (by omega)
          refine lv_istore (lv' := [(6, .int z248), (5, .int z228), (4, .int z42), (3, .int r28), (0, .ref h0), (1, .int v), (2, .int u)]) hx hb dX12_goShip_201 hl (by decide) rfl (fun ls hl => ?_)
          refine lv_iload hx hb dX12_goShip_203 (lv_at hl 0 rfl) ?_
          refine lv_aload_n hx hb dX12_goShip_205 rfl (lv_at hl 4 rfl) ?_
          refine va_get (D := (dC, dI)) (ci := 12) (v := .ref (ρ h0 2)) (C := RX12) (T := TX12) (N := 53) hx hb hts hfX12 hown hK hP q242 eq242 rfl 2 (by decide) (hts (.fieldLink RX12 7 "ColdShipsModel" "row" "[I") wa_148) (fun _ h9 => h9) rfl dX12_goShip_206 ?_
          refine lv_iload_n hx hb dX12_goShip_209 rfl (lv_at hl 3 rfl) ?_
          refine lv_iconst (v := 4) hx hb dX12_goShip_210 (by decide) ?_
          refine lv_iadd hx hb dX12_goShip_211 ?_
          refine lv_topi (fun z249 ez249 => ?_)
          have iz249 : z249.toInt = r28.toInt + 4 := zi_add ez249 rfl rfl (by omega) (by omega)
          refine va_iald hx hb hK hP q244 0 eq244 rfl (vp_in_iff.mpr ⟨by omega, by omega⟩) dX12_goShip_212 ?_
          refine lv_topi (fun z250 ez250 => ?_)
          have := hI.GC (s := v.toInt) (by omega) (by omega)
          have jz250 : z250.toInt = mo_R g235 (547 + 84 * v.toInt + 4) := mo_rd ez250 (by omega)
          have kz250 := hI.GG (s := v.toInt) (by omega) (by omega)
          have vz250 : z250.toInt = z68.toInt := jz250.trans pn239
          refine lv_icmp_le (tgt := 227) hx hb dX12_goShip_213 (by decide) (fun c251 => ?_) (fun c251 => ?_)
          · have ic251 : z248.toInt ≤ z68.toInt := zi_le rfl vz250 c251
            refine lv_iload hx hb dX12_goShip_227 (lv_at hl 0 rfl) ?_
            refine lv_istore (lv' := [(6, .int z248), (5, .int z228), (4, .int z42), (3, .int r28), (0, .ref h0), (1, .int v), (2, .int u)]) hx hb dX12_goShip_229 hl (by decide) rfl (fun ls hl => ?_)
            refine lv_aload_n hx hb dX12_goShip_231 rfl (lv_at hl 4 rfl) ?_
            refine lv_iload_n hx hb dX12_goShip_232 rfl (lv_at hl 3 rfl) ?_
            refine lv_iload hx hb dX12_goShip_233 (lv_at hl 0 rfl) ?_
            have hFc := tp_fr hD hS hA
            refine va_callv (va_runV (As := [.int r28, .int z248]) (rest := []) ⟨hx, hb, hml, hown, hts⟩ (t_X12_take l dC dI _ κ Θ τ ν ρ L f232 hG hT h0 r28 z248 v.toInt 300 v.toInt ht_h0 (by omega) (by omega) (by omega) (by rw [g234, mo_i1]; exact hI) (by first | (simp only [g234, hf_o26, mo_i1]; omega) | (simp only [g234, hf_o26, mo_i1]; trivial) | (simp only [g234, hf_o26, mo_i1]; done) | omega) (by first | (simp only [g234, hf_o26, mo_i1]; omega) | (simp only [g234, hf_o26, mo_i1]; trivial) | (simp only [g234, hf_o26, mo_i1]; done) | omega)) (cwV 2 hts gX12_goShip_X12_take rfl rfl rfl ⟨rfl, pd_X12_take⟩ ⟨Nat.le_of_ble_eq_true rfl, Nat.le_of_ble_eq_true rfl⟩) ⟨pz_blind, va_recv hK hP (ci := 12) (q0 := q242) rfl eq242, pz_pre hP hK hD hN⟩ rfl rfl hl.1 rfl (lv_room (Nat.le_of_ble_eq_true rfl)) dX12_goShip_235 ⟨Nat.le_of_ble_eq_true rfl, Nat.le_of_ble_eq_true rfl⟩) hS (fun q _ h => hFc q h) hFc (fun f254 t H1 locs ht hvm hw253 hB hz1 hk1 hS => ?_)
            refine tn_3 hw253 (fun hT hF255 hw253p => ?_); clear hw253
            have hR := hR.then hF255 (by decide)
            have hP := hB.1; rw [ht] at hP; have hD := tp_ad f254 hD; clear hB hFc hz1 hk1; subst ht; generalize t.heap = H at hP hS ⊢
            obtain ⟨hJ, hw253pe⟩ := hw253p
            refine tpk_32 hT y1 (fun g257 hf_o256 => ?_)
            have hI : mo_RI v.toInt 300 (mo_R g257) := by have q9 := hJ; rw [hf_o256, mo_i1] at q9; exact q9
            rw [g234, mo_i1] at hw253pe
            rw [hf_o256, mo_i1] at hw253pe
            obtain ⟨hw253pek, hw253peq⟩ := hw253pe
            have hKN := hKN.th hw253pek (fun k q9 => False.elim q9)
            have pn258 : mo_R g257 (1) = n1 := (hw253peq.1).trans pn236
            have pn259 : mo_R g257 (11) = n11 := (hw253peq.2.1).trans pn237
            have pn260 : mo_R g257 (547 + 84 * v.toInt + 5) = z56.toInt := (hw253peq.2.2.2).trans pn238
            refine lv_aload_n hx hb dX12_goShip_238 rfl (lv_at hl 4 rfl) ?_
            have hf_261 : f254 h0 = .inr (12, [.int o30_x0, .int o30_x1, .ref (ρ h0 2), .ref (ρ h0 3), .ref (ρ h0 4), .ref (ρ h0 5), .ref (ρ h0 6), .int o30_x7, .ref (ρ h0 8), .int o30_x9, .int o30_x10, .int o30_x11, .int o30_x12, .long o30_x13, .int o30_x14, .int o30_x15, .int o30_x16, .int o30_x17, .int o30_x18, .int o30_x19, .int o30_x20, .ref (ρ h0 21), .int o30_x22, .ref (ρ h0 23), .ref (ρ h0 24), .int o30_x25, .ref (ρ h0 26), .ref (ρ h0 27), .int o30_x28, .int o30_x29, .ref (ρ h0 30), .ref (ρ h0 31), .int o30_x32, .long o30_x33, .long o30_x34, .long o30_x35, .int o30_x36, .int o30_x37, .int o30_x38, .ref (ρ h0 39), .ref (ρ h0 40), .ref (ρ h0 41), .ref (ρ h0 42), .ref (ρ h0 43), .ref (ρ h0 44), .ref (ρ h0 45), .ref (ρ h0 46), .int o30_x47, .int o30_x48, .ref (ρ h0 49), .ref (ρ h0 50), .ref (ρ h0 51), .ref (ρ h0 52)]) := (hF255 _ (by rw [ht_h0]; decide)).trans hf_241
            refine tpk_pos (tp_in hG ht_h0 (by decide)) hf_261 (fun q262 eq262 => ?_)
            refine va_get (D := (dC, dI)) (ci := 12) (v := .ref (ρ h0 2)) (C := RX12) (T := TX12) (N := 53) hx hb hts hfX12 hown hK hP q262 eq262 rfl 2 (by decide) (hts (.fieldLink RX12 7 "ColdShipsModel" "row" "[I") wa_148) (fun _ h9 => h9) rfl dX12_goShip_239 ?_
            refine lv_iload_n hx hb dX12_goShip_242 rfl (lv_at hl 3 rfl) ?_
            refine lv_iconst (v := 5) hx hb dX12_goShip_243 (by decide) ?_
            refine lv_iadd hx hb dX12_goShip_244 ?_
            refine lv_topi (fun z263 ez263 => ?_)
            have iz263 : z263.toInt = r28.toInt + 5 := zi_add ez263 rfl rfl (by omega) (by omega)
            refine lv_dup2_11 hx hb dX12_goShip_245 rfl rfl ?_
            refine tpk_pos (tp_in hG y1 (by decide)) hf_o256 (fun q264 eq264 => ?_)
            refine va_iald hx hb hK hP q264 0 eq264 rfl (vp_in_iff.mpr ⟨by omega, by omega⟩) dX12_goShip_246 ?_
            refine lv_topi (fun z265 ez265 => ?_)
            have jz265 : z265.toInt = mo_R g257 (547 + 84 * v.toInt + 5) := mo_rd ez265 (by omega)
            have kz265 := hI.V (s := v.toInt) (by omega) (by omega)
            have vz265 : z265.toInt = z56.toInt := jz265.trans pn260
            refine lv_iload hx hb dX12_goShip_247 (lv_at hl 0 rfl) ?_
            refine lv_iadd hx hb dX12_goShip_249 ?_
            refine lv_topi (fun z266 ez266 => ?_)
            have iz266 : z266.toInt = z56.toInt + z248.toInt := zi_add ez266 vz265 rfl (by omega) (by omega)
            refine va_iast hx hb hK hP hD hS q264 0 eq264 rfl (vp_in_iff.mpr ⟨by omega, by omega⟩) dX12_goShip_250 (tp_k (.inl (κ 0, 12967, .inl (upd g257 z263.toNatClampNeg z266))) hD (tp_in hG y1 (by decide)) eq264 (fun f267 H locs hP hD hS g269 k268 => ?_))
            have hT := hT.up y1 g269 k268 tp_o32
            have hR := hR.up y1 (by decide) k268
            have hU : mo_U (mo_R g257) (mo_R (upd g257 z263.toNatClampNeg z266)) (547 + 84 * v.toInt + 5) (z266.toInt) := mo_up (by omega) (rfl : z266.toInt = _) (by omega)
            generalize (upd g257 z263.toNatClampNeg z266) = g270 at g269 hU
            have hI := mo_w_VAP hI hU v.toInt (by omega) (by omega) (by omega)
            have hKN := hKN.up hU (Or.inl (by omega))
            have pn271 : mo_R g270 (1) = n1 := (hU.ne (by omega) (by omega)).trans pn258
            have pn272 : mo_R g270 (11) = n11 := (hU.ne (by omega) (by omega)).trans pn259
            have pn273 : mo_R g270 (547 + 84 * v.toInt + 5) = z266.toInt := hU.eq (by omega)
            exact hj71 _ _ _ _ ⟨f267, rfl, hT, hR, (by rw [g269, mo_i1]; exact hI), (by rw [g269, mo_i1]; exact hKN), (by rw [g269, mo_i1]; omega), (by rw [g269, mo_i1]; omega), hP, hD, hS, lv_sub hl [2, 3, 4, 5, 6] rfl⟩
          · have ic251 : z248.toInt > z68.toInt := zi_lef rfl vz250 c251
            refine lv_aload_n hx hb dX12_goShip_216 rfl (lv_at hl 4 rfl) ?_
            refine va_get (D := (dC, dI)) (ci := 12) (v := .ref (ρ h0 2)) (C := RX12) (T := TX12) (N := 53) hx hb hts hfX12 hown hK hP q242 eq242 rfl 2 (by decide) (hts (.fieldLink RX12 7 "ColdShipsModel" "row" "[I") wa_148) (fun _ h9 => h9) rfl dX12_goShip_217 ?_
            refine lv_iload_n hx hb dX12_goShip_220 rfl (lv_at hl 3 rfl) ?_
            refine lv_iconst (v := 4) hx hb dX12_goShip_221 (by decide) ?_
            refine lv_iadd hx hb dX12_goShip_222 ?_
            refine lv_topi (fun z274 ez274 => ?_)
            have iz274 : z274.toInt = r28.toInt + 4 := zi_add ez274 rfl rfl (by omega) (by omega)
            refine va_iald hx hb hK hP q244 0 eq244 rfl (vp_in_iff.mpr ⟨by omega, by omega⟩) dX12_goShip_223 ?_
            refine lv_topi (fun z275 ez275 => ?_)
            have := hI.GC (s := v.toInt) (by omega) (by omega)
            have jz275 : z275.toInt = mo_R g235 (547 + 84 * v.toInt + 4) := mo_rd ez275 (by omega)
            have kz275 := hI.GG (s := v.toInt) (by omega) (by omega)
            have vz275 : z275.toInt = z68.toInt := jz275.trans pn239
            refine lv_goto (tgt := 229) hx hb dX12_goShip_224 (by decide) ?_
            refine lv_istore (lv' := [(6, .int z275), (5, .int z228), (4, .int z42), (3, .int r28), (0, .ref h0), (1, .int v), (2, .int u)]) hx hb dX12_goShip_229 hl (by decide) rfl (fun ls hl => ?_)
            refine lv_aload_n hx hb dX12_goShip_231 rfl (lv_at hl 4 rfl) ?_
            refine lv_iload_n hx hb dX12_goShip_232 rfl (lv_at hl 3 rfl) ?_
            refine lv_iload hx hb dX12_goShip_233 (lv_at hl 0 rfl) ?_
            have hFc := tp_fr hD hS hA
            refine va_callv (va_runV (As := [.int r28, .int z275]) (rest := []) ⟨hx, hb, hml, hown, hts⟩ (t_X12_take l dC dI _ κ Θ τ ν ρ L f232 hG hT h0 r28 z275 v.toInt 300 v.toInt ht_h0 (by omega) (by omega) (by omega) (by rw [g234, mo_i1]; exact hI) (by first | (simp only [g234, hf_o26, mo_i1]; omega) | (simp only [g234, hf_o26, mo_i1]; trivial) | (simp only [g234, hf_o26, mo_i1]; done) | omega) (by first | (simp only [g234, hf_o26, mo_i1]; omega) | (simp only [g234, hf_o26, mo_i1]; trivial) | (simp only [g234, hf_o26, mo_i1]; done) | omega)) (cwV 2 hts gX12_goShip_X12_take rfl rfl rfl ⟨rfl, pd_X12_take⟩ ⟨Nat.le_of_ble_eq_true rfl, Nat.le_of_ble_eq_true rfl⟩) ⟨pz_blind, va_recv hK hP (ci := 12) (q0 := q242) rfl eq242, pz_pre hP hK hD hN⟩ rfl rfl hl.1 rfl (lv_room (Nat.le_of_ble_eq_true rfl)) dX12_goShip_235 ⟨Nat.le_of_ble_eq_true rfl, Nat.le_of_ble_eq_true rfl⟩) hS (fun q _ h => hFc q h) hFc (fun f278 t H1 locs ht hvm hw277 hB hz1 hk1 hS => ?_)
            refine tn_3 hw277 (fun hT hF279 hw277p => ?_); clear hw277
            have hR := hR.then hF279 (by decide)
            have hP := hB.1; rw [ht] at hP; have hD := tp_ad f278 hD; clear hB hFc hz1 hk1; subst ht; generalize t.heap = H at hP hS ⊢
            obtain ⟨hJ, hw277pe⟩ := hw277p
            refine tpk_32 hT y1 (fun g281 hf_o280 => ?_)
            have hI : mo_RI v.toInt 300 (mo_R g281) := by have q9 := hJ; rw [hf_o280, mo_i1] at q9; exact q9
            rw [g234, mo_i1] at hw277pe
            rw [hf_o280, mo_i1] at hw277pe
            obtain ⟨hw277pek, hw277peq⟩ := hw277pe
            have hKN := hKN.th hw277pek (fun k q9 => False.elim q9)
            have pn282 : mo_R g281 (1) = n1 := (hw277peq.1).trans pn236
            have pn283 : mo_R g281 (11) = n11 := (hw277peq.2.1).trans pn237
            have pn284 : mo_R g281 (547 + 84 * v.toInt + 5) = z56.toInt := (hw277peq.2.2.2).trans pn238
            refine lv_aload_n hx hb dX12_goShip_238 rfl (lv_at hl 4 rfl) ?_
            have hf_285 : f278 h0 = .inr (12, [.int o30_x0, .int o30_x1, .ref (ρ h0 2), .ref (ρ h0 3), .ref (ρ h0 4), .ref (ρ h0 5), .ref (ρ h0 6), .int o30_x7, .ref (ρ h0 8), .int o30_x9, .int o30_x10, .int o30_x11, .int o30_x12, .long o30_x13, .int o30_x14, .int o30_x15, .int o30_x16, .int o30_x17, .int o30_x18, .int o30_x19, .int o30_x20, .ref (ρ h0 21), .int o30_x22, .ref (ρ h0 23), .ref (ρ h0 24), .int o30_x25, .ref (ρ h0 26), .ref (ρ h0 27), .int o30_x28, .int o30_x29, .ref (ρ h0 30), .ref (ρ h0 31), .int o30_x32, .long o30_x33, .long o30_x34, .long o30_x35, .int o30_x36, .int o30_x37, .int o30_x38, .ref (ρ h0 39), .ref (ρ h0 40), .ref (ρ h0 41), .ref (ρ h0 42), .ref (ρ h0 43), .ref (ρ h0 44), .ref (ρ h0 45), .ref (ρ h0 46), .int o30_x47, .int o30_x48, .ref (ρ h0 49), .ref (ρ h0 50), .ref (ρ h0 51), .ref (ρ h0 52)]) := (hF279 _ (by rw [ht_h0]; decide)).trans hf_241
            refine tpk_pos (tp_in hG ht_h0 (by decide)) hf_285 (fun q286 eq286 => ?_)
            refine va_get (D := (dC, dI)) (ci := 12) (v := .ref (ρ h0 2)) (C := RX12) (T := TX12) (N := 53) hx hb hts hfX12 hown hK hP q286 eq286 rfl 2 (by decide) (hts (.fieldLink RX12 7 "ColdShipsModel" "row" "[I") wa_148) (fun _ h9 => h9) rfl dX12_goShip_239 ?_
            refine lv_iload_n hx hb dX12_goShip_242 rfl (lv_at hl 3 rfl) ?_
            refine lv_iconst (v := 5) hx hb dX12_goShip_243 (by decide) ?_
            refine lv_iadd hx hb dX12_goShip_244 ?_
            refine lv_topi (fun z287 ez287 => ?_)
            have iz287 : z287.toInt = r28.toInt + 5 := zi_add ez287 rfl rfl (by omega) (by omega)
            refine lv_dup2_11 hx hb dX12_goShip_245 rfl rfl ?_
            refine tpk_pos (tp_in hG y1 (by decide)) hf_o280 (fun q288 eq288 => ?_)
            refine va_iald hx hb hK hP q288 0 eq288 rfl (vp_in_iff.mpr ⟨by omega, by omega⟩) dX12_goShip_246 ?_
            refine lv_topi (fun z289 ez289 => ?_)
            have jz289 : z289.toInt = mo_R g281 (547 + 84 * v.toInt + 5) := mo_rd ez289 (by omega)
            have kz289 := hI.V (s := v.toInt) (by omega) (by omega)
            have vz289 : z289.toInt = z56.toInt := jz289.trans pn284
            refine lv_iload hx hb dX12_goShip_247 (lv_at hl 0 rfl) ?_
            refine lv_iadd hx hb dX12_goShip_249 ?_
            refine lv_topi (fun z290 ez290 => ?_)
            have iz290 : z290.toInt = z56.toInt + z68.toInt := zi_add ez290 vz289 vz275 (by omega) (by omega)
            refine va_iast hx hb hK hP hD hS q288 0 eq288 rfl (vp_in_iff.mpr ⟨by omega, by omega⟩) dX12_goShip_250 (tp_k (.inl (κ 0, 12967, .inl (upd g281 z287.toNatClampNeg z290))) hD (tp_in hG y1 (by decide)) eq288 (fun f291 H locs hP hD hS g293 k292 => ?_))
            have hT := hT.up y1 g293 k292 tp_o32
            have hR := hR.up y1 (by decide) k292
            have hU : mo_U (mo_R g281) (mo_R (upd g281 z287.toNatClampNeg z290)) (547 + 84 * v.toInt + 5) (z290.toInt) := mo_up (by omega) (rfl : z290.toInt = _) (by omega)
            generalize (upd g281 z287.toNatClampNeg z290) = g294 at g293 hU
            have hI := mo_w_VAP hI hU v.toInt (by omega) (by omega) (by omega)
            have hKN := hKN.up hU (Or.inl (by omega))
            have pn295 : mo_R g294 (1) = n1 := (hU.ne (by omega) (by omega)).trans pn282
            have pn296 : mo_R g294 (11) = n11 := (hU.ne (by omega) (by omega)).trans pn283
            have pn297 : mo_R g294 (547 + 84 * v.toInt + 5) = z290.toInt := hU.eq (by omega)
            exact hj71 _ _ _ _ ⟨f291, rfl, hT, hR, (by rw [g293, mo_i1]; exact hI), (by rw [g293, mo_i1]; exact hKN), (by rw [g293, mo_i1]; omega), (by rw [g293, mo_i1]; omega), hP, hD, hS, lv_sub hl [2, 3, 4, 5, 6] rfl⟩
    · have ic151 : z68.toInt < r69.toInt := zi_gef rfl rfl c151
      refine lv_aload_n hx hb dX12_goShip_80 rfl (lv_at hl 2 rfl) ?_
      refine va_get (D := (dC, dI)) (ci := 12) (v := .ref (ρ h0 2)) (C := RX12) (T := TX12) (N := 53) hx hb hts hfX12 hown hK hP q65 eq65 rfl 2 (by decide) (hts (.fieldLink RX12 7 "ColdShipsModel" "row" "[I") wa_148) (fun _ h9 => h9) rfl dX12_goShip_81 ?_
      refine lv_iload_n hx hb dX12_goShip_84 rfl (lv_at hl 1 rfl) ?_
      refine lv_bipush (v := 6) hx hb dX12_goShip_85 (by decide) ?_
      refine lv_iadd hx hb dX12_goShip_87 ?_
      refine lv_topi (fun z298 ez298 => ?_)
      have iz298 : z298.toInt = r28.toInt + 6 := zi_add ez298 rfl rfl (by omega) (by omega)
      refine lv_aload_n hx hb dX12_goShip_88 rfl (lv_at hl 2 rfl) ?_
      refine va_get (D := (dC, dI)) (ci := 12) (v := .ref (ρ h0 2)) (C := RX12) (T := TX12) (N := 53) hx hb hts hfX12 hown hK hP q65 eq65 rfl 2 (by decide) (hts (.fieldLink RX12 7 "ColdShipsModel" "row" "[I") wa_148) (fun _ h9 => h9) rfl dX12_goShip_89 ?_
      refine lv_iload_n hx hb dX12_goShip_92 rfl (lv_at hl 1 rfl) ?_
      refine lv_bipush (v := 6) hx hb dX12_goShip_93 (by decide) ?_
      refine lv_iadd hx hb dX12_goShip_95 ?_
      refine lv_topi (fun z299 ez299 => ?_)
      have iz299 : z299.toInt = r28.toInt + 6 := zi_add ez299 rfl rfl (by omega) (by omega)
      refine va_iald hx hb hK hP q67 0 eq67 rfl (vp_in_iff.mpr ⟨by omega, by omega⟩) dX12_goShip_96 ?_
      refine lv_topi (fun z300 ez300 => ?_)
      have jz300 : z300.toInt = mo_R g60 (547 + 84 * v.toInt + 6) := mo_rd ez300 (by omega)
      refine lv_iconst (v := 5) hx hb dX12_goShip_97 (by decide) ?_
      refine lv_iadd hx hb dX12_goShip_98 ?_
      refine lv_topi (fun z301 ez301 => ?_)
      refine lv_sipush (v := 1800) hx hb dX12_goShip_99 (by decide) ?_
      refine lv_icmp_le (tgt := 111) hx hb dX12_goShip_102 (by decide) (fun c302 => ?_) (fun c302 => ?_)
      · have ic302 : z301.toInt ≤ 1800 := zi_le rfl rfl c302
        refine lv_aload_n hx hb dX12_goShip_111 rfl (lv_at hl 2 rfl) ?_
        refine va_get (D := (dC, dI)) (ci := 12) (v := .ref (ρ h0 2)) (C := RX12) (T := TX12) (N := 53) hx hb hts hfX12 hown hK hP q65 eq65 rfl 2 (by decide) (hts (.fieldLink RX12 7 "ColdShipsModel" "row" "[I") wa_148) (fun _ h9 => h9) rfl dX12_goShip_112 ?_
        refine lv_iload_n hx hb dX12_goShip_115 rfl (lv_at hl 1 rfl) ?_
        refine lv_bipush (v := 6) hx hb dX12_goShip_116 (by decide) ?_
        refine lv_iadd hx hb dX12_goShip_118 ?_
        refine lv_topi (fun z303 ez303 => ?_)
        have iz303 : z303.toInt = r28.toInt + 6 := zi_add ez303 rfl rfl (by omega) (by omega)
        refine va_iald hx hb hK hP q67 0 eq67 rfl (vp_in_iff.mpr ⟨by omega, by omega⟩) dX12_goShip_119 ?_
        refine lv_topi (fun z304 ez304 => ?_)
        have jz304 : z304.toInt = mo_R g60 (547 + 84 * v.toInt + 6) := mo_rd ez304 (by omega)
        have vz304 : z304.toInt = z300.toInt := jz304.trans (jz300).symm
        refine lv_iconst (v := 5) hx hb dX12_goShip_120 (by decide) ?_
        refine lv_iadd hx hb dX12_goShip_121 ?_
        refine lv_topi (fun z305 ez305 => ?_)
        refine va_iast hx hb hK hP hD hS q67 0 eq67 rfl (vp_in_iff.mpr ⟨by omega, by omega⟩) dX12_goShip_122 (tp_k (.inl (κ 0, 12967, .inl (upd g60 z298.toNatClampNeg z305))) hD (tp_in hG y1 (by decide)) eq67 (fun f306 H locs hP hD hS g308 k307 => ?_))
        have hT := hT.up y1 g308 k307 tp_o32
        have hR := hR.up y1 (by decide) k307
        have hU : mo_U (mo_R g60) (mo_R (upd g60 z298.toNatClampNeg z305)) (547 + 84 * v.toInt + 6) (z305.toInt) := mo_up (by omega) (rfl : z305.toInt = _) (by omega)
        generalize (upd g60 z298.toNatClampNeg z305) = g309 at g308 hU
        have hI := mo_w_sfree hI hU v.toInt 6 (by omega) (by omega) (by omega)
        have hKN := hKN.up hU (Or.inl (by omega))
        have pn310 : mo_R g309 (1) = n1 := (hU.ne (by omega) (by omega)).trans pn61
        have pn311 : mo_R g309 (11) = n11 := (hU.ne (by omega) (by omega)).trans pn62
        have pn312 : mo_R g309 (547 + 84 * v.toInt + 5) = z56.toInt := (hU.ne (by omega) (by omega)).trans pn63
        have pn313 : mo_R g309 (547 + 84 * v.toInt + 4) = z68.toInt := (hU.ne (by omega) (by omega)).trans (jz68).symm
        have pn314 : mo_R g309 (547 + 84 * v.toInt + 6) = z305.toInt := hU.eq (by omega)
        refine lv_goto (tgt := 251) hx hb dX12_goShip_123 (by decide) ?_
        exact hj71 _ _ _ _ ⟨f306, rfl, hT, hR, (by rw [g308, mo_i1]; exact hI), (by rw [g308, mo_i1]; exact hKN), (by rw [g308, mo_i1]; omega), (by rw [g308, mo_i1]; omega), hP, hD, hS, lv_sub hl [0, 1, 2, 3, 4] rfl⟩
      · have ic302 : z301.toInt > 1800 := zi_lef rfl rfl c302
        refine lv_sipush (v := 1800) hx hb dX12_goShip_105 (by decide) ?_
        refine lv_goto (tgt := 122) hx hb dX12_goShip_108 (by decide) ?_
        refine va_iast hx hb hK hP hD hS q67 0 eq67 rfl (vp_in_iff.mpr ⟨by omega, by omega⟩) dX12_goShip_122 (tp_k (.inl (κ 0, 12967, .inl (upd g60 z298.toNatClampNeg (1800 : Int32)))) hD (tp_in hG y1 (by decide)) eq67 (fun f315 H locs hP hD hS g317 k316 => ?_))
        have hT := hT.up y1 g317 k316 tp_o32
        have hR := hR.up y1 (by decide) k316
        have hU : mo_U (mo_R g60) (mo_R (upd g60 z298.toNatClampNeg (1800 : Int32))) (547 + 84 * v.toInt + 6) (1800) := mo_up (by omega) (show (1800 : Int32).toInt = 1800 from rfl) (by omega)
        generalize (upd g60 z298.toNatClampNeg (1800 : Int32)) = g318 at g317 hU
        have hI := mo_w_sfree hI hU v.toInt 6 (by omega) (by omega) (by omega)
        have hKN := hKN.up hU (Or.inl (by omega))
        have pn319 : mo_R g318 (1) = n1 := (hU.ne (by omega) (by omega)).trans pn61
        have pn320 : mo_R g318 (11) = n11 := (hU.ne (by omega) (by omega)).trans pn62
        have pn321 : mo_R g318 (547 + 84 * v.toInt + 5) = z56.toInt := (hU.ne (by omega) (by omega)).trans pn63
        have pn322 : mo_R g318 (547 + 84 * v.toInt + 4) = z68.toInt := (hU.ne (by omega) (by omega)).trans (jz68).symm
        have pn323 : mo_R g318 (547 + 84 * v.toInt + 6) = 1800 := hU.eq (by omega)
        refine lv_goto (tgt := 251) hx hb dX12_goShip_123 (by decide) ?_
        exact hj71 _ _ _ _ ⟨f315, rfl, hT, hR, (by rw [g317, mo_i1]; exact hI), (by rw [g317, mo_i1]; exact hKN), (by rw [g317, mo_i1]; omega), (by rw [g317, mo_i1]; omega), hP, hD, hS, lv_sub hl [0, 1, 2, 3, 4] rfl⟩
set_option maxHeartbeats 4000000 in
set_option maxRecDepth 100000 in
theorem t_X12_go (l : Launch) (dC : Nat → ClassId) (dI : Nat → Nat → Nat) (sz : Nat) (κ : Nat → ClassId) (Θ : Nat → Option Int) (τ ν : Nat → Nat) (ρ : Nat → Nat → Nat) (L : List Nat) (f : Nat → va_E) (hG : tp_G τ ν ρ L) (hT : tp_T (mo_O κ Θ) κ τ ν ρ f) (h0 : Nat) (v : Int32) (ht_h0 : τ h0 = 13) (hJ : mo_RI (-1) 0 (mo_R (mo_i (f (ρ h0 2))))) : Met l yX12_go wqX12_go ({ frames := 7, cells := 0, slots := 0, locals := 2400 }) (va_Pc [.ref h0, .int v] (pz_B dC dI (tp_K κ) (va_pl L f) sz)) (va_Qi (fun (r : Int32) (f1 : Nat → va_E) => tp_T (mo_O κ Θ) κ τ ν ρ f1 ∧ tp_F τ [13, 32, 35, 36] f f1 ∧ True ∧ mo_RI (-1) 0 (mo_R (mo_i (f1 (ρ h0 2)))) ∧ mo_KN (fun k => (k = 5 ∨ k = 11)) (mo_R (mo_i (f (ρ h0 2)))) (mo_R (mo_i (f1 (ρ h0 2)))) ∧ ((((¬ ((1 ≤ v.toInt ∧ v.toInt ≤ 480) ∧ (mo_R (mo_i (f (ρ h0 2)))) (11) + v.toInt ≤ 2399)) → r.toInt = -1) ∧ (¬ (¬ ((1 ≤ v.toInt ∧ v.toInt ≤ 480) ∧ (mo_R (mo_i (f (ρ h0 2)))) (11) + v.toInt ≤ 2399)) → r.toInt = (mo_R (mo_i (f (ρ h0 2)))) (11) + v.toInt))) ∧ ((((¬ ((1 ≤ v.toInt ∧ v.toInt ≤ 480) ∧ (mo_R (mo_i (f (ρ h0 2)))) (11) + v.toInt ≤ 2399)) → (mo_R (mo_i (f1 (ρ h0 2)))) (11) = (mo_R (mo_i (f (ρ h0 2)))) (11)) ∧ (¬ (¬ ((1 ≤ v.toInt ∧ v.toInt ≤ 480) ∧ (mo_R (mo_i (f (ρ h0 2)))) (11) + v.toInt ≤ 2399)) → (mo_R (mo_i (f1 (ρ h0 2)))) (11) = (mo_R (mo_i (f (ρ h0 2)))) (11) + v.toInt)))) (fun (f1 : Nat → va_E) (t : State) => pz_E dC dI (tp_K κ) (va_A (va_pl L f) sz) (va_pl L f1) t) (va_A (va_pl L f) sz)) 0 0 (va_A (va_pl L f) sz) := by
  refine Met.ofW (cc := cX12_go) (maxL := 4) (ret := some .int) (by decide) rfl ?_
  intro p e s m args below meth c s₁ B hml hv
  obtain ⟨rfl, hsz, hP, hK, hD0, hN⟩ := hv
  have hx := B.exec
  have hb := B.bytes
  have hr := B.returns
  have hts := fun (w : Cond) (h : w ∈ WALL) => atoms_spec (ws := wqX12_go) B.pre w (List.mem_cons_of_mem _ h)
  have hown : s.vm.findClass RX12 = some m.cls := findClass_of_methodNamed B.named
  have hlocks := B.notSynchronized
  subst hsz
  have hD := hD0.self (sz := s.heap.size)
  generalize hAe : va_A (va_pl L f) s.heap.size = A at hD ⊢
  have hA : ∀ q : Nat, s.heap.size ≤ q → A q := fun q h => by rw [← hAe]; exact Or.inr h
  have hS : va_S A s.heap s.heap [] := va_S.rf
  have hR : tp_F τ [13, 32, 35, 36] f f := tp_F.rf
  have hl := lv_entry ([.ref h0, .int v]) (n := 4) (Nat.le_of_ble_eq_true rfl)
  rw [lg_entry_eq]
  generalize (lg_sl ([.ref h0, .int v]) ++ List.replicate (4 - (lg_sl ([.ref h0, .int v])).length) Slot.unset).toArray = ls at hl ⊢
  have hl : lv_has ls 4 [(0, .ref h0), (1, .int v)] := hl
  refine tgk_13 hG ht_h0 (fun y1 y2 y3 y4 y5 y6 y7 y8 y9 y10 y11 y12 y13 y14 y15 y16 y17 y18 y19 y20 y21 y22 y23 y24 y25 => ?_)
  refine tpk_32 hT y1 (fun g27 hf_o26 => ?_)
  have hI : mo_RI (-1) 0 (mo_R g27) := by have q9 := hJ; rw [hf_o26, mo_i1] at q9; exact q9
  have hKN : mo_KN (fun k => (k = 5 ∨ k = 11)) (mo_R g27) (mo_R g27) := mo_KN.rf
  refine lv_aload_n hx hb dX12_go_0 rfl (lv_at hl 0 rfl) ?_
  refine lv_iconst (v := 0) hx hb dX12_go_1 (by decide) ?_
  refine tpk_13 hT ht_h0 (fun o28_x0 o28_x1 o28_x7 o28_x9 o28_x10 o28_x11 o28_x12 o28_x13 o28_x14 o28_x15 o28_x16 o28_x17 o28_x18 o28_x19 o28_x20 o28_x22 o28_x25 o28_x28 o28_x29 o28_x32 o28_x33 o28_x34 o28_x35 o28_x36 o28_x37 o28_x38 o28_x47 o28_x48 hf_o28 ro28_0 ro28_1 ro28_2 ro28_3 ro28_4 ro28_5 ro28_6 ro28_7 ro28_8 ro28_9 ro28_10 ro28_11 ro28_12 ro28_13 ro28_14 => ?_)
  refine tpk_pos (tp_in hG ht_h0 (by decide)) hf_o28 (fun q29 eq29 => ?_)
  refine va_put (D := (dC, dI)) (ci := 12) (v := .int 0) (ty := .int) (C := RX12) (T := TX12) (N := 53) hx hb hts hfX12 tyX12 tyX12_ok nmX12 hown hK hP hD hS q29 eq29 rfl 0 (by decide) (hts (.fieldLink RX12 91 "ColdShipsModel" "thrown" "I") wa_209) (fun _ h9 => h9) rfl (tyX12_ok 0 (by decide)) rfl rfl (Nat.le_of_ble_eq_true rfl) dX12_go_2 (tp_k (.inr (12, [.int 0, .int o28_x1, .ref (ρ h0 2), .ref (ρ h0 3), .ref (ρ h0 4), .ref (ρ h0 5), .ref (ρ h0 6), .int o28_x7, .ref (ρ h0 8), .int o28_x9, .int o28_x10, .int o28_x11, .int o28_x12, .long o28_x13, .int o28_x14, .int o28_x15, .int o28_x16, .int o28_x17, .int o28_x18, .int o28_x19, .int o28_x20, .ref (ρ h0 21), .int o28_x22, .ref (ρ h0 23), .ref (ρ h0 24), .int o28_x25, .ref (ρ h0 26), .ref (ρ h0 27), .int o28_x28, .int o28_x29, .ref (ρ h0 30), .ref (ρ h0 31), .int o28_x32, .long o28_x33, .long o28_x34, .long o28_x35, .int o28_x36, .int o28_x37, .int o28_x38, .ref (ρ h0 39), .ref (ρ h0 40), .ref (ρ h0 41), .ref (ρ h0 42), .ref (ρ h0 43), .ref (ρ h0 44), .ref (ρ h0 45), .ref (ρ h0 46), .int o28_x47, .int o28_x48, .ref (ρ h0 49), .ref (ρ h0 50), .ref (ρ h0 51), .ref (ρ h0 52)])) hD (tp_in hG ht_h0 (by decide)) eq29 (fun f30 H locs hP hD hS g32 k31 => ?_))
  have hT := hT.up ht_h0 g32 k31 ⟨_, _, _, _, _, _, _, _, _, _, _, _, _, _, _, _, _, _, _, _, _, _, _, _, _, _, _, _, rfl, ro28_0, ro28_1, ro28_2, ro28_3, ro28_4, ro28_5, ro28_6, ro28_7, ro28_8, ro28_9, ro28_10, ro28_11, ro28_12, ro28_13, ro28_14⟩
  have hR := hR.up ht_h0 (by decide) k31
  refine lv_iload_n hx hb dX12_go_5 rfl (lv_at hl 1 rfl) ?_
  refine lv_i2l hx hb dX12_go_6 rfl ?_
  refine lv_lconst (v := 1) hx hb dX12_go_7 (by decide) ?_
  refine lv_ldc2 (own := RX12) (v := 480) hx hb hown (hts (.constantLong RX12 167 (480)) wa_546) dX12_go_8 ?_
  have hf_33 : f30 (ρ h0 2) = .inl (κ 0, 12967, .inl g27) := (k31 _ (tp_ne y1 ht_h0 (by decide))).trans hf_o26
  refine pz_calli (va_runS (As := [.long v.toInt64, .long 1, .long 480]) (rest := []) ⟨hx, hb, hml, hown, hts⟩ (t_X12_in l dC dI _ v.toInt64 (1) (480) (v.toInt) (1) (480) (Int32.toInt_toInt64 v) rfl rfl) (va_cwS 3 hts gX12_go_X12_in rfl rfl rfl pd_X12_in ⟨Nat.le_of_ble_eq_true rfl, Nat.le_of_ble_eq_true rfl⟩) ⟨pz_blind, pz_pre pz_P0 (hK.sub (tys' := []) [] rfl) (pz_D0 (A := fun _ => True)) hN⟩ rfl rfl hl.1 rfl (lv_room (Nat.le_of_ble_eq_true rfl)) dX12_go_11 ⟨Nat.le_of_ble_eq_true rfl, Nat.le_of_ble_eq_true rfl⟩) (fun r34 hw35 => ?_)
  obtain ⟨hw35r, hw35p⟩ := hw35
  refine lv_if_eq (tgt := 32) hx hb dX12_go_14 (by decide) (fun c36 => ?_) (fun c36 => ?_)
  · have ic36 : r34.toInt = 0 := zi_eq rfl rfl c36
    have p37 : ¬ ((1) ≤ (v.toInt) ∧ (v.toInt) ≤ (480)) := (tp_cond.no hw35p) (by omega)
    clear hw35r ic36
    refine lv_aload_n hx hb dX12_go_32 rfl (lv_at hl 0 rfl) ?_
    refine lv_iconst (v := (-1)) hx hb dX12_go_33 (by decide) ?_
    refine tpk_pos (tp_in hG ht_h0 (by decide)) g32 (fun q38 eq38 => ?_)
    have hFc := tp_fr hD hS hA
    refine va_calli (va_runV (As := [.int (-1)]) (rest := []) ⟨hx, hb, hml, hown, hts⟩ (t_X12_told l dC dI _ κ Θ τ ν ρ L f30 hG hT h0 ((-1)) ht_h0) (cwV 1 hts gX12_go_X12_told rfl rfl rfl ⟨rfl, pd_X12_told⟩ ⟨Nat.le_of_ble_eq_true rfl, Nat.le_of_ble_eq_true rfl⟩) ⟨pz_blind, va_recv hK hP (ci := 12) (q0 := q38) rfl eq38, pz_pre hP hK hD hN⟩ rfl rfl hl.1 rfl (lv_room (Nat.le_of_ble_eq_true rfl)) dX12_go_34 ⟨Nat.le_of_ble_eq_true rfl, Nat.le_of_ble_eq_true rfl⟩) hS (fun q _ h => hFc q h) hFc (fun r39 f41 t H1 locs ht hvm hw40 hB hz1 hk1 hS => ?_)
    refine tn_4 hw40 (fun hT hF42 hw40r hw40p => ?_); clear hw40
    have hR := hR.then hF42 (by decide)
    have hP := hB.1; rw [ht] at hP; have hD := tp_ad f41 hD; clear hB hFc hz1 hk1; subst ht; generalize t.heap = H at hP hS ⊢
    have hw40pq : r39.toInt = (-1) := by rw [hw40p]; rfl
    have hf_43 : f41 (ρ h0 2) = .inl (κ 0, 12967, .inl g27) := (hF42 _ (by rw [tp_iu y1]; decide)).trans hf_33
    exact W.iret (v := r39) hx hb hr (fun t ht hW => ⟨⟨r39, f41, rfl, ⟨hT, hR, trivial, ⟨(by rw [hf_43, mo_i1]; exact hI), (by rw [hf_43, mo_i1, hf_o26, mo_i1]; exact hKN), (by simp only [hf_43, hf_o26, mo_i1]; exact ⟨⟨fun q0 => by omega, fun q0 => (by omega)⟩, ⟨fun q0 => by omega, fun q0 => (by omega)⟩⟩)⟩⟩, by rw [ht]; exact hP, va_K.moved hW.alike hK, hD⟩, hS.F ht⟩) hS.2.2 dX12_go_37
  · have ic36 : r34.toInt ≠ 0 := zi_eqf rfl rfl c36
    replace ic36 : 1 ≤ r34.toInt := by omega
    have p44 : (1) ≤ (v.toInt) ∧ (v.toInt) ≤ (480) := (tp_cond.yes hw35p) (by omega)
    clear hw35r ic36
    refine lv_aload_n hx hb dX12_go_17 rfl (lv_at hl 0 rfl) ?_
    refine tpk_pos (tp_in hG ht_h0 (by decide)) g32 (fun q45 eq45 => ?_)
    refine va_get (D := (dC, dI)) (ci := 12) (v := .ref (ρ h0 2)) (C := RX12) (T := TX12) (N := 53) hx hb hts hfX12 hown hK hP q45 eq45 rfl 2 (by decide) (hts (.fieldLink RX12 7 "ColdShipsModel" "row" "[I") wa_148) (fun _ h9 => h9) rfl dX12_go_18 ?_
    refine lv_bipush (v := 11) hx hb dX12_go_21 (by decide) ?_
    refine tpk_pos (tp_in hG y1 (by decide)) hf_33 (fun q46 eq46 => ?_)
    refine va_iald hx hb hK hP q46 0 eq46 rfl (vp_in_iff.mpr ⟨by decide, by decide⟩) dX12_go_23 ?_
    refine lv_topi (fun z47 ez47 => ?_)
    have jz47 : z47.toInt = mo_R g27 (11) := mo_rd ez47 (show (11 : Int32).toInt = (11) from by decide)
    have kz47 := hI.k11
    refine lv_iload_n hx hb dX12_go_24 rfl (lv_at hl 1 rfl) ?_
    refine lv_iadd hx hb dX12_go_25 ?_
    refine lv_topi (fun z48 ez48 => ?_)
    have iz48 : z48.toInt = z47.toInt + v.toInt := zi_add ez48 rfl rfl (by omega) (by omega)
    refine lv_sipush (v := 2399) hx hb dX12_go_26 (by decide) ?_
    refine lv_icmp_le (tgt := 38) hx hb dX12_go_29 (by decide) (fun c49 => ?_) (fun c49 => ?_)
    · have ic49 : z48.toInt ≤ 2399 := zi_le rfl rfl c49
      refine lv_iconst (v := 0) hx hb dX12_go_38 (by decide) ?_
      refine lv_istore_n (lv' := [(2, .int 0), (0, .ref h0), (1, .int v)]) hx hb dX12_go_39 rfl hl (by decide) rfl (fun ls hl => ?_)
      refine pz_loop (fun n0 H locs ls => ∃ f52 : Nat → va_E, ∃ w50 : Int32, n0 = (480 - (w50.toInt)).toNat ∧ tp_T (mo_O κ Θ) κ τ ν ρ f52 ∧ tp_F τ [13, 32, 35, 36] f f52 ∧ ((mo_RI (-1) 0 (mo_R (mo_i (f52 (ρ h0 2)))))) ∧ ((mo_KN (fun k => (k = 5 ∨ k = 11)) (mo_R g27) (mo_R (mo_i (f52 (ρ h0 2)))))) ∧ (((mo_R (mo_i (f52 (ρ h0 2)))) (11) = z47.toInt + (w50.toInt))) ∧ (0 ≤ w50.toInt ∧ w50.toInt ≤ 480) ∧ ((w50.toInt) ≤ v.toInt) ∧ va_P (dC, dI) vwCl (va_pl L f52) H ∧ va_D A (va_pl L f52) ∧ va_S A s.heap H locs ∧ lv_has ls 4 [(2, .int w50), (0, .ref h0), (1, .int v)]) ?_ _ _ _ _ ⟨f30, 0, rfl, hT, hR, (by rw [hf_33, mo_i1]; exact hI), (by rw [hf_33, mo_i1]; exact hKN), (by rw [hf_33, mo_i1]; have : (0 : Int32).toInt = 0 := rfl; omega), (by have : (0 : Int32).toInt = 0 := rfl; omega), (by have : (0 : Int32).toInt = 0 := rfl; omega), hP, hD, hS, lv_sub hl [0, 1, 2] rfl⟩
      intro n0 H locs ls hI ih54
      refine Exists.elim hI (fun f52 hE90 => Exists.elim hE90 (fun w50 hE91 => tn_12 hE91 (fun hn55 hT hR hJ jf56 jf57 rw50 k51 hP hD hS hl => ?_)))
      clear hE91 hE90 hI
      refine tpk_32 hT y1 (fun g59 hf_o58 => ?_)
      have hI : mo_RI (-1) 0 (mo_R g59) := by have q9 := hJ; rw [hf_o58, mo_i1] at q9; exact q9
      rw [hf_o58, mo_i1] at jf56
      have hKN := jf56
      rw [hf_o58, mo_i1] at jf57
      refine lv_iload_n hx hb dX12_go_40 rfl (lv_at hl 0 rfl) ?_
      refine lv_iload_n hx hb dX12_go_41 rfl (lv_at hl 2 rfl) ?_
      refine lv_icmp_ge (tgt := 97) hx hb dX12_go_42 (by decide) (fun c60 => ?_) (fun c60 => ?_)
      · have ic60 : w50.toInt ≥ v.toInt := zi_ge rfl rfl c60
        refine lv_aload_n hx hb dX12_go_97 rfl (lv_at hl 1 rfl) ?_
        refine lv_aload_n hx hb dX12_go_98 rfl (lv_at hl 1 rfl) ?_
        refine tpk_13 hT ht_h0 (fun o61_x0 o61_x1 o61_x7 o61_x9 o61_x10 o61_x11 o61_x12 o61_x13 o61_x14 o61_x15 o61_x16 o61_x17 o61_x18 o61_x19 o61_x20 o61_x22 o61_x25 o61_x28 o61_x29 o61_x32 o61_x33 o61_x34 o61_x35 o61_x36 o61_x37 o61_x38 o61_x47 o61_x48 hf_o61 ro61_0 ro61_1 ro61_2 ro61_3 ro61_4 ro61_5 ro61_6 ro61_7 ro61_8 ro61_9 ro61_10 ro61_11 ro61_12 ro61_13 ro61_14 => ?_)
        refine tpk_pos (tp_in hG ht_h0 (by decide)) hf_o61 (fun q62 eq62 => ?_)
        refine va_get (D := (dC, dI)) (ci := 12) (v := .ref (ρ h0 2)) (C := RX12) (T := TX12) (N := 53) hx hb hts hfX12 hown hK hP q62 eq62 rfl 2 (by decide) (hts (.fieldLink RX12 7 "ColdShipsModel" "row" "[I") wa_148) (fun _ h9 => h9) rfl dX12_go_99 ?_
        refine lv_bipush (v := 11) hx hb dX12_go_102 (by decide) ?_
        refine tpk_pos (tp_in hG y1 (by decide)) hf_o58 (fun q63 eq63 => ?_)
        refine va_iald hx hb hK hP q63 0 eq63 rfl (vp_in_iff.mpr ⟨by decide, by decide⟩) dX12_go_104 ?_
        refine lv_topi (fun z64 ez64 => ?_)
        have jz64 : z64.toInt = mo_R g59 (11) := mo_rd ez64 (show (11 : Int32).toInt = (11) from by decide)
        have kz64 := hI.k11
        have vz64 : z64.toInt = z47.toInt + (w50.toInt) := jz64.trans jf57
        have hFc := tp_fr hD hS hA
        refine va_calli (va_runV (As := [.int z64]) (rest := []) ⟨hx, hb, hml, hown, hts⟩ (t_X12_told l dC dI _ κ Θ τ ν ρ L f52 hG hT h0 z64 ht_h0) (cwV 1 hts gX12_go_X12_told rfl rfl rfl ⟨rfl, pd_X12_told⟩ ⟨Nat.le_of_ble_eq_true rfl, Nat.le_of_ble_eq_true rfl⟩) ⟨pz_blind, va_recv hK hP (ci := 12) (q0 := q62) rfl eq62, pz_pre hP hK hD hN⟩ rfl rfl hl.1 rfl (lv_room (Nat.le_of_ble_eq_true rfl)) dX12_go_105 ⟨Nat.le_of_ble_eq_true rfl, Nat.le_of_ble_eq_true rfl⟩) hS (fun q _ h => hFc q h) hFc (fun r65 f67 t H1 locs ht hvm hw66 hB hz1 hk1 hS => ?_)
        refine tn_4 hw66 (fun hT hF68 hw66r hw66p => ?_); clear hw66
        have hR := hR.then hF68 (by decide)
        have hP := hB.1; rw [ht] at hP; have hD := tp_ad f67 hD; clear hB hFc hz1 hk1; subst ht; generalize t.heap = H at hP hS ⊢
        have hw66pq : r65.toInt = z64.toInt := by rw [hw66p]
        have hf_69 : f67 (ρ h0 2) = .inl (κ 0, 12967, .inl g59) := (hF68 _ (by rw [tp_iu y1]; decide)).trans hf_o58
        exact W.iret (v := r65) hx hb hr (fun t ht hW => ⟨⟨r65, f67, rfl, ⟨hT, hR, trivial, ⟨(by rw [hf_69, mo_i1]; exact hI), (by rw [hf_69, mo_i1, hf_o26, mo_i1]; exact hKN), (by simp only [hf_69, hf_o26, mo_i1]; exact ⟨⟨fun q0 => by omega, fun q0 => (by omega)⟩, ⟨fun q0 => by omega, fun q0 => (by omega)⟩⟩)⟩⟩, by rw [ht]; exact hP, va_K.moved hW.alike hK, hD⟩, hS.F ht⟩) hS.2.2 dX12_go_108
      · have ic60 : w50.toInt < v.toInt := zi_gef rfl rfl c60
        refine lv_aload_n hx hb dX12_go_45 rfl (lv_at hl 1 rfl) ?_
        refine lv_iconst (v := 0) hx hb dX12_go_46 (by decide) ?_
        refine tpk_13 hT ht_h0 (fun o70_x0 o70_x1 o70_x7 o70_x9 o70_x10 o70_x11 o70_x12 o70_x13 o70_x14 o70_x15 o70_x16 o70_x17 o70_x18 o70_x19 o70_x20 o70_x22 o70_x25 o70_x28 o70_x29 o70_x32 o70_x33 o70_x34 o70_x35 o70_x36 o70_x37 o70_x38 o70_x47 o70_x48 hf_o70 ro70_0 ro70_1 ro70_2 ro70_3 ro70_4 ro70_5 ro70_6 ro70_7 ro70_8 ro70_9 ro70_10 ro70_11 ro70_12 ro70_13 ro70_14 => ?_)
        refine tpk_pos (tp_in hG ht_h0 (by decide)) hf_o70 (fun q71 eq71 => ?_)
        refine va_put (D := (dC, dI)) (ci := 12) (v := .int 0) (ty := .boolean) (C := RX12) (T := TX12) (N := 53) hx hb hts hfX12 tyX12 tyX12_ok nmX12 hown hK hP hD hS q71 eq71 rfl 7 (by decide) (hts (.fieldLink RX12 169 "ColdShipsModel" "isTurnTaken" "Z") wa_547) (fun _ h9 => h9) rfl (tyX12_ok 7 (by decide)) rfl rfl (Nat.le_of_ble_eq_true rfl) dX12_go_47 (tp_k (.inr (12, [.int o70_x0, .int o70_x1, .ref (ρ h0 2), .ref (ρ h0 3), .ref (ρ h0 4), .ref (ρ h0 5), .ref (ρ h0 6), .int 0, .ref (ρ h0 8), .int o70_x9, .int o70_x10, .int o70_x11, .int o70_x12, .long o70_x13, .int o70_x14, .int o70_x15, .int o70_x16, .int o70_x17, .int o70_x18, .int o70_x19, .int o70_x20, .ref (ρ h0 21), .int o70_x22, .ref (ρ h0 23), .ref (ρ h0 24), .int o70_x25, .ref (ρ h0 26), .ref (ρ h0 27), .int o70_x28, .int o70_x29, .ref (ρ h0 30), .ref (ρ h0 31), .int o70_x32, .long o70_x33, .long o70_x34, .long o70_x35, .int o70_x36, .int o70_x37, .int o70_x38, .ref (ρ h0 39), .ref (ρ h0 40), .ref (ρ h0 41), .ref (ρ h0 42), .ref (ρ h0 43), .ref (ρ h0 44), .ref (ρ h0 45), .ref (ρ h0 46), .int o70_x47, .int o70_x48, .ref (ρ h0 49), .ref (ρ h0 50), .ref (ρ h0 51), .ref (ρ h0 52)])) hD (tp_in hG ht_h0 (by decide)) eq71 (fun f72 H locs hP hD hS g74 k73 => ?_))
        have hT := hT.up ht_h0 g74 k73 ⟨_, _, _, _, _, _, _, _, _, _, _, _, _, _, _, _, _, _, _, _, _, _, _, _, _, _, _, _, rfl, (by decide), ro70_1, ro70_2, ro70_3, ro70_4, ro70_5, ro70_6, ro70_7, ro70_8, ro70_9, ro70_10, ro70_11, ro70_12, ro70_13, ro70_14⟩
        have hR := hR.up ht_h0 (by decide) k73
        refine lv_iconst (v := 0) hx hb dX12_go_50 (by decide) ?_
        refine lv_istore_n (lv' := [(3, .int 0), (2, .int w50), (0, .ref h0), (1, .int v)]) hx hb dX12_go_51 rfl hl (by decide) rfl (fun ls hl => ?_)
        have hf_75 : f72 (ρ h0 2) = .inl (κ 0, 12967, .inl g59) := (k73 _ (tp_ne y1 ht_h0 (by decide))).trans hf_o58
        refine pz_loop (fun n0 H locs ls => ∃ f77 : Nat → va_E, ∃ w76 : Int32, n0 = (6 - (w76.toInt)).toNat ∧ tp_T (mo_O κ Θ) κ τ ν ρ f77 ∧ tp_F τ [13, 32, 35, 36] f f77 ∧ ((mo_RI (-1) 0 (mo_R (mo_i (f77 (ρ h0 2)))))) ∧ ((mo_KN (fun k => (k = 5 ∨ k = 11)) (mo_R g27) (mo_R (mo_i (f77 (ρ h0 2)))))) ∧ (((mo_R (mo_i (f77 (ρ h0 2)))) (11) = z47.toInt + (w50.toInt))) ∧ (0 ≤ w76.toInt ∧ w76.toInt ≤ 6) ∧ va_P (dC, dI) vwCl (va_pl L f77) H ∧ va_D A (va_pl L f77) ∧ va_S A s.heap H locs ∧ lv_has ls 4 [(3, .int w76), (2, .int w50), (0, .ref h0), (1, .int v)]) ?_ _ _ _ _ ⟨f72, 0, rfl, hT, hR, (by rw [hf_75, mo_i1]; exact hI), (by rw [hf_75, mo_i1]; exact hKN), (by rw [hf_75, mo_i1]; have : (0 : Int32).toInt = 0 := rfl; omega), (by have : (0 : Int32).toInt = 0 := rfl; omega), hP, hD, hS, lv_sub hl [0, 1, 2, 3] rfl⟩
        intro n0 H locs ls hI ih79
        refine Exists.elim hI (fun f77 hE90 => Exists.elim hE90 (fun w76 hE91 => tn_11 hE91 (fun hn80 hT hR hJ jf81 jf82 rw76 hP hD hS hl => ?_)))
        clear hE91 hE90 hI
        refine tpk_32 hT y1 (fun g84 hf_o83 => ?_)
        have hI : mo_RI (-1) 0 (mo_R g84) := by have q9 := hJ; rw [hf_o83, mo_i1] at q9; exact q9
        rw [hf_o83, mo_i1] at jf81
        have hKN := jf81
        rw [hf_o83, mo_i1] at jf82
        refine lv_iload_n hx hb dX12_go_52 rfl (lv_at hl 0 rfl) ?_
        refine lv_aload_n hx hb dX12_go_53 rfl (lv_at hl 2 rfl) ?_
        refine tpk_13 hT ht_h0 (fun o85_x0 o85_x1 o85_x7 o85_x9 o85_x10 o85_x11 o85_x12 o85_x13 o85_x14 o85_x15 o85_x16 o85_x17 o85_x18 o85_x19 o85_x20 o85_x22 o85_x25 o85_x28 o85_x29 o85_x32 o85_x33 o85_x34 o85_x35 o85_x36 o85_x37 o85_x38 o85_x47 o85_x48 hf_o85 ro85_0 ro85_1 ro85_2 ro85_3 ro85_4 ro85_5 ro85_6 ro85_7 ro85_8 ro85_9 ro85_10 ro85_11 ro85_12 ro85_13 ro85_14 => ?_)
        refine tpk_pos (tp_in hG ht_h0 (by decide)) hf_o85 (fun q86 eq86 => ?_)
        refine va_get (D := (dC, dI)) (ci := 12) (v := .ref (ρ h0 2)) (C := RX12) (T := TX12) (N := 53) hx hb hts hfX12 hown hK hP q86 eq86 rfl 2 (by decide) (hts (.fieldLink RX12 7 "ColdShipsModel" "row" "[I") wa_148) (fun _ h9 => h9) rfl dX12_go_54 ?_
        refine lv_iconst (v := 1) hx hb dX12_go_57 (by decide) ?_
        refine tpk_pos (tp_in hG y1 (by decide)) hf_o83 (fun q87 eq87 => ?_)
        refine va_iald hx hb hK hP q87 0 eq87 rfl (vp_in_iff.mpr ⟨by decide, by decide⟩) dX12_go_58 ?_
        refine lv_topi (fun z88 ez88 => ?_)
        have jz88 : z88.toInt = mo_R g84 (1) := mo_rd ez88 (show (1 : Int32).toInt = (1) from by decide)
        have kz88 := hI.k1
        refine lv_icmp_ge (tgt := 80) hx hb dX12_go_59 (by decide) (fun c89 => ?_) (fun c89 => ?_)
        · have ic89 : w76.toInt ≥ z88.toInt := zi_ge rfl rfl c89
          refine lv_aload_n hx hb dX12_go_80 rfl (lv_at hl 2 rfl) ?_
          refine va_get (D := (dC, dI)) (ci := 12) (v := .ref (ρ h0 2)) (C := RX12) (T := TX12) (N := 53) hx hb hts hfX12 hown hK hP q86 eq86 rfl 2 (by decide) (hts (.fieldLink RX12 7 "ColdShipsModel" "row" "[I") wa_148) (fun _ h9 => h9) rfl dX12_go_81 ?_
          refine lv_bipush (v := 11) hx hb dX12_go_84 (by decide) ?_
          refine lv_dup2_11 hx hb dX12_go_86 rfl rfl ?_
          refine va_iald hx hb hK hP q87 0 eq87 rfl (vp_in_iff.mpr ⟨by decide, by decide⟩) dX12_go_87 ?_
          refine lv_topi (fun z90 ez90 => ?_)
          have jz90 : z90.toInt = mo_R g84 (11) := mo_rd ez90 (show (11 : Int32).toInt = (11) from by decide)
          have kz90 := hI.k11
          have vz90 : z90.toInt = z47.toInt + (w50.toInt) := jz90.trans jf82
          refine lv_iconst (v := 1) hx hb dX12_go_88 (by decide) ?_
          refine lv_iadd hx hb dX12_go_89 ?_
          refine lv_topi (fun z91 ez91 => ?_)
          have iz91 : z91.toInt = z90.toInt + 1 := zi_add ez91 rfl rfl (by omega) (by omega)
          refine va_iast hx hb hK hP hD hS q87 0 eq87 rfl (vp_in_iff.mpr ⟨by decide, by decide⟩) dX12_go_90 (tp_k (.inl (κ 0, 12967, .inl (upd g84 (11 : Int32).toNatClampNeg z91))) hD (tp_in hG y1 (by decide)) eq87 (fun f92 H locs hP hD hS g94 k93 => ?_))
          have hT := hT.up y1 g94 k93 tp_o32
          have hR := hR.up y1 (by decide) k93
          have hU : mo_U (mo_R g84) (mo_R (upd g84 (11 : Int32).toNatClampNeg z91)) (11) (z91.toInt) := mo_up (show (11 : Int32).toInt = (11) from by decide) (rfl : z91.toInt = _) (by omega)
          generalize (upd g84 (11 : Int32).toNatClampNeg z91) = g95 at g94 hU
          have hI := mo_w_cnt hI hU (by omega) (by omega)
          have hKN := hKN.up hU (Or.inr (by show ((11) = 5 ∨ (11) = 11); omega))
          have pn96 : mo_R g95 (1) = z88.toInt := (hU.ne (by omega) (by omega)).trans (jz88).symm
          have pn97 : mo_R g95 (11) = z91.toInt := hU.eq (by omega)
          obtain ⟨z98, ez98⟩ : ∃ y : Int32, y = w50 + 1 := ⟨_, rfl⟩
          refine lv_iinc (v := z98) (lv' := [(2, .int z98), (3, .int w76), (0, .ref h0), (1, .int v)]) hx hb dX12_go_91 hl (k := 1) rfl (by rw [ez98]; rfl) (by decide) rfl (fun ls hl => ?_)
          have iz98 : z98.toInt = w50.toInt + 1 := zi_add ez98 rfl rfl (by omega) (by omega)
          refine lv_goto (tgt := 40) hx hb dX12_go_94 (by decide) ?_
          exact ih54 _ _ _ _ (by rw [hn55]; omega) ⟨f92, z98, rfl, hT, hR, (by rw [g94, mo_i1]; exact hI), (by rw [g94, mo_i1]; exact hKN), (by rw [g94, mo_i1]; omega), (by omega), (by omega), hP, hD, hS, lv_sub hl [0, 2, 3] rfl⟩
        · have ic89 : w76.toInt < z88.toInt := zi_gef rfl rfl c89
          refine lv_aload_n hx hb dX12_go_62 rfl (lv_at hl 2 rfl) ?_
          refine lv_iload_n hx hb dX12_go_63 rfl (lv_at hl 0 rfl) ?_
          refine lv_aload_n hx hb dX12_go_64 rfl (lv_at hl 2 rfl) ?_
          refine va_get (D := (dC, dI)) (ci := 12) (v := .ref (ρ h0 2)) (C := RX12) (T := TX12) (N := 53) hx hb hts hfX12 hown hK hP q86 eq86 rfl 2 (by decide) (hts (.fieldLink RX12 7 "ColdShipsModel" "row" "[I") wa_148) (fun _ h9 => h9) rfl dX12_go_65 ?_
          refine lv_bipush (v := 11) hx hb dX12_go_68 (by decide) ?_
          refine va_iald hx hb hK hP q87 0 eq87 rfl (vp_in_iff.mpr ⟨by decide, by decide⟩) dX12_go_70 ?_
          refine lv_topi (fun z99 ez99 => ?_)
          have jz99 : z99.toInt = mo_R g84 (11) := mo_rd ez99 (show (11 : Int32).toInt = (11) from by decide)
          have kz99 := hI.k11
          have vz99 : z99.toInt = z47.toInt + (w50.toInt) := jz99.trans jf82
          have hFc := tp_fr hD hS hA
          refine va_callv (va_runV (As := [.int w76, .int z99]) (rest := []) ⟨hx, hb, hml, hown, hts⟩ (t_X12_goShip l dC dI _ κ Θ τ ν ρ L f77 hG hT h0 w76 z99 ht_h0 (by first | decide | omega) (by rw [hf_o83, mo_i1]; exact hI) (by first | (simp only [hf_o83, hf_o26, mo_i1]; omega) | (simp only [hf_o83, hf_o26, mo_i1]; trivial) | (simp only [hf_o83, hf_o26, mo_i1]; done) | omega)) (cwV 2 hts gX12_go_X12_goShip rfl rfl rfl ⟨rfl, pd_X12_goShip⟩ ⟨Nat.le_of_ble_eq_true rfl, Nat.le_of_ble_eq_true rfl⟩) ⟨pz_blind, va_recv hK hP (ci := 12) (q0 := q86) rfl eq86, pz_pre hP hK hD hN⟩ rfl rfl hl.1 rfl (lv_room (Nat.le_of_ble_eq_true rfl)) dX12_go_71 ⟨Nat.le_of_ble_eq_true rfl, Nat.le_of_ble_eq_true rfl⟩) hS (fun q _ h => hFc q h) hFc (fun f102 t H1 locs ht hvm hw101 hB hz1 hk1 hS => ?_)
          refine tn_3 hw101 (fun hT hF103 hw101p => ?_); clear hw101
          have hR := hR.then hF103 (by decide)
          have hP := hB.1; rw [ht] at hP; have hD := tp_ad f102 hD; clear hB hFc hz1 hk1; subst ht; generalize t.heap = H at hP hS ⊢
          obtain ⟨hJ, hw101pe⟩ := hw101p
          refine tpk_32 hT y1 (fun g105 hf_o104 => ?_)
          have hI : mo_RI (-1) 0 (mo_R g105) := by have q9 := hJ; rw [hf_o104, mo_i1] at q9; exact q9
          rw [hf_o83, mo_i1] at hw101pe
          rw [hf_o104, mo_i1] at hw101pe
          obtain ⟨hw101pek, hw101peq⟩ := hw101pe
          have hKN := hKN.th hw101pek (fun k q9 => by have q8 : k = 5 := q9; show (k = 5 ∨ k = 11); omega)
          have pn106 : mo_R g105 (1) = z88.toInt := (hw101peq.1).trans (jz88).symm
          have pn107 : mo_R g105 (11) = z47.toInt + (w50.toInt) := (hw101peq.2).trans jf82
          obtain ⟨z108, ez108⟩ : ∃ y : Int32, y = w76 + 1 := ⟨_, rfl⟩
          refine lv_iinc (v := z108) (lv' := [(3, .int z108), (2, .int w50), (0, .ref h0), (1, .int v)]) hx hb dX12_go_74 hl (k := 0) rfl (by rw [ez108]; rfl) (by decide) rfl (fun ls hl => ?_)
          have iz108 : z108.toInt = w76.toInt + 1 := zi_add ez108 rfl rfl (by omega) (by omega)
          refine lv_goto (tgt := 52) hx hb dX12_go_77 (by decide) ?_
          exact ih79 _ _ _ _ (by rw [hn80]; omega) ⟨f102, z108, rfl, hT, hR, (by rw [hf_o104, mo_i1]; exact hI), (by rw [hf_o104, mo_i1]; exact hKN), (by rw [hf_o104, mo_i1]; omega), (by omega), hP, hD, hS, lv_sub hl [0, 1, 2, 3] rfl⟩
    · have ic49 : z48.toInt > 2399 := zi_lef rfl rfl c49
      refine lv_aload_n hx hb dX12_go_32 rfl (lv_at hl 0 rfl) ?_
      refine lv_iconst (v := (-1)) hx hb dX12_go_33 (by decide) ?_
      have hFc := tp_fr hD hS hA
      refine va_calli (va_runV (As := [.int (-1)]) (rest := []) ⟨hx, hb, hml, hown, hts⟩ (t_X12_told l dC dI _ κ Θ τ ν ρ L f30 hG hT h0 ((-1)) ht_h0) (cwV 1 hts gX12_go_X12_told rfl rfl rfl ⟨rfl, pd_X12_told⟩ ⟨Nat.le_of_ble_eq_true rfl, Nat.le_of_ble_eq_true rfl⟩) ⟨pz_blind, va_recv hK hP (ci := 12) (q0 := q45) rfl eq45, pz_pre hP hK hD hN⟩ rfl rfl hl.1 rfl (lv_room (Nat.le_of_ble_eq_true rfl)) dX12_go_34 ⟨Nat.le_of_ble_eq_true rfl, Nat.le_of_ble_eq_true rfl⟩) hS (fun q _ h => hFc q h) hFc (fun r109 f111 t H1 locs ht hvm hw110 hB hz1 hk1 hS => ?_)
      refine tn_4 hw110 (fun hT hF112 hw110r hw110p => ?_); clear hw110
      have hR := hR.then hF112 (by decide)
      have hP := hB.1; rw [ht] at hP; have hD := tp_ad f111 hD; clear hB hFc hz1 hk1; subst ht; generalize t.heap = H at hP hS ⊢
      have hw110pq : r109.toInt = (-1) := by rw [hw110p]; rfl
      have hf_113 : f111 (ρ h0 2) = .inl (κ 0, 12967, .inl g27) := (hF112 _ (by rw [tp_iu y1]; decide)).trans hf_33
      exact W.iret (v := r109) hx hb hr (fun t ht hW => ⟨⟨r109, f111, rfl, ⟨hT, hR, trivial, ⟨(by rw [hf_113, mo_i1]; exact hI), (by rw [hf_113, mo_i1, hf_o26, mo_i1]; exact hKN), (by simp only [hf_113, hf_o26, mo_i1]; exact ⟨⟨fun q0 => by omega, fun q0 => (by omega)⟩, ⟨fun q0 => by omega, fun q0 => (by omega)⟩⟩)⟩⟩, by rw [ht]; exact hP, va_K.moved hW.alike hK, hD⟩, hS.F ht⟩) hS.2.2 dX12_go_37
