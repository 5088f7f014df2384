set_option maxHeartbeats 4000000 in
set_option maxRecDepth 100000 in
theorem t_X9_passHour (l : Launch) (dC : Nat → ClassId) (dI : Nat → Nat → Nat) (sz : Nat) (Ω : Nat → (Nat → Nat) → va_E → Prop) (κ : Nat → ClassId) (τ ν : Nat → Nat) (ρ : Nat → Nat → Nat) (L : List Nat) (f : Nat → va_E) (hG : tp_G τ ν ρ L) (hT : tp_T Ω κ τ ν ρ f) (h0 : Nat) (ht_h0 : τ h0 = 10) : Met l yX9_passHour wqX9_passHour ({ frames := 8, cells := 0, slots := 0, locals := 2800 }) (va_Pc [.ref h0] (pz_B dC dI (tp_K κ) (va_pl L f) sz)) (va_Qv (fun (f1 : Nat → va_E) => tp_T Ω κ τ ν ρ f1 ∧ tp_F τ [5, 6, 8, 9, 10, 11, 20, 21] f f1 ∧ True) (fun (f1 : Nat → va_E) (t : State) => pz_E dC dI (tp_K κ) (va_A (va_pl L f) sz) (va_pl L f1) t) (va_A (va_pl L f) sz)) 0 0 (va_A (va_pl L f) sz) := by
  refine Met.ofW (cc := cX9_passHour) (maxL := 2) (ret := none) (by decide) rfl ?_
  intro p e s m args below meth c s₁ B hml hv
  obtain ⟨rfl, hsz, hP, hK, hD0, hN⟩ := hv
  have hx := B.exec
  have hb := B.bytes
  have hr := B.returns
  have hts := fun (w : Cond) (h : w ∈ WALL) => atoms_spec (ws := wqX9_passHour) B.pre w (List.mem_cons_of_mem _ h)
  have hown : s.vm.findClass RX9 = some m.cls := findClass_of_methodNamed B.named
  have hlocks := B.notSynchronized
  subst hsz
  have hD := hD0.self (sz := s.heap.size)
  generalize hAe : va_A (va_pl L f) s.heap.size = A at hD ⊢
  have hA : ∀ q : Nat, s.heap.size ≤ q → A q := fun q h => by rw [← hAe]; exact Or.inr h
  have hS : va_S A s.heap s.heap [] := va_S.rf
  have hR : tp_F τ [5, 6, 8, 9, 10, 11, 20, 21] f f := tp_F.rf
  have hl := lv_entry ([.ref h0]) (n := 2) (Nat.le_of_ble_eq_true rfl)
  rw [lg_entry_eq]
  generalize (lg_sl ([.ref h0]) ++ List.replicate (2 - (lg_sl ([.ref h0])).length) Slot.unset).toArray = ls at hl ⊢
  have hl : lv_has ls 2 [(0, .ref h0)] := hl
  refine lv_aload_n hx hb dX9_passHour_0 rfl (lv_at hl 0 rfl) ?_
  have y1 := tpg_10 hG ht_h0
  refine tpk_10 hT ht_h0 (fun o2_x1 o2_x2 o2_x3 hf_o2 ro2_0 ro2_1 => ?_)
  refine tpk_pos (tp_in hG ht_h0 (by decide)) hf_o2 (fun q3 eq3 => ?_)
  refine va_get (D := (dC, dI)) (ci := 9) (v := .ref (ρ h0 0)) (C := RX9) (T := TX9) (N := 4) hx hb hts hfX9 hown hK hP q3 eq3 rfl 0 (by decide) (hts (.fieldLink RX9 9 "ColdShips$Watch" "world" "LColdShips$World;") wa_114) (fun _ h9 => h9) rfl dX9_passHour_1 ?_
  refine tgk_11 hG y1 (fun y4 y4n y5 y5n y6 y7 y8 y9 y10 y11 y12 y12w y12m y13 y13w y13m y14 y14w y14m y15 y15w y15m => ?_)
  refine tpk_11 hT y1 (fun o16_x0 o16_x1 o16_x2 o16_x3 o16_x4 o16_x5 o16_x6 hf_o16 ro16_0 ro16_1 ro16_2 ro16_3 => ?_)
  refine tpk_pos (tp_in hG y1 (by decide)) hf_o16 (fun q17 eq17 => ?_)
  refine va_getN (D := (dC, dI)) (ci := 10) (v := .int o16_x0) (C := RX10) (T := TX10) (N := 19) hx hb hts hfX10 hown hK hP q17 eq17 rfl 0 (by decide) (va_Nw.use rfl (hN.1 (.fieldLinkNest RX9 15 "ColdShips$World" "now" "I" "ColdShips") nzw_48)) (fun _ h9 => h9) rfl dX9_passHour_4 ?_
  refine pz_calli (va_runSN (As := [.int o16_x0]) (rest := []) ⟨hx, hb, hml, hown, hts⟩ (t_X11_isHour l dC dI _ o16_x0 (o16_x0.toInt) rfl) ⟨(va_cnB (host := "ColdShips") 1 hts ggX9_passHour_X11_isHour rfl rfl rfl (hN.1 (.methodLinkNest RX9 21 yX11_isHour "ColdShips") nzw_109) (hts (.initialized RX11) wa_2) pd_X11_isHour ⟨Nat.le_of_ble_eq_true rfl, Nat.le_of_ble_eq_true rfl⟩), (hts (.static yX11_isHour) wa_324), trivial⟩ ⟨pz_blind, pz_pre pz_P0 (hK.sub (tys' := []) [] rfl) (pz_D0 (A := fun _ => True)) hN⟩ rfl rfl hl.1 rfl (lv_room (Nat.le_of_ble_eq_true rfl)) dX9_passHour_7 ⟨Nat.le_of_ble_eq_true rfl, Nat.le_of_ble_eq_true rfl⟩) (fun r18 hw19 => ?_)
  obtain ⟨hw19r, hw19p⟩ := hw19
  refine lv_if_ne (tgt := 14) hx hb dX9_passHour_10 (by decide) (fun c20 => ?_) (fun c20 => ?_)
  · have ic20 : r18.toInt ≠ 0 := zi_ne rfl rfl c20
    have p21 : 0 ≤ (o16_x0.toInt) ∧ (o16_x0.toInt) ≤ 2399 := (tp_cond.yes hw19p) (by omega)
    refine lv_aload_n hx hb dX9_passHour_14 rfl (lv_at hl 0 rfl) ?_
    refine lv_aload_n hx hb dX9_passHour_15 rfl (lv_at hl 0 rfl) ?_
    refine va_get (D := (dC, dI)) (ci := 9) (v := .ref (ρ h0 0)) (C := RX9) (T := TX9) (N := 4) hx hb hts hfX9 hown hK hP q3 eq3 rfl 0 (by decide) (hts (.fieldLink RX9 9 "ColdShips$Watch" "world" "LColdShips$World;") wa_114) (fun _ h9 => h9) rfl dX9_passHour_16 ?_
    refine va_getN (D := (dC, dI)) (ci := 10) (v := .int o16_x0) (C := RX10) (T := TX10) (N := 19) hx hb hts hfX10 hown hK hP q17 eq17 rfl 0 (by decide) (va_Nw.use rfl (hN.1 (.fieldLinkNest RX9 15 "ColdShips$World" "now" "I" "ColdShips") nzw_48)) (fun _ h9 => h9) rfl dX9_passHour_19 ?_
    refine va_put (D := (dC, dI)) (ci := 9) (v := .int o16_x0) (ty := .int) (C := RX9) (T := TX9) (N := 4) hx hb hts hfX9 tyX9 tyX9_ok nmX9 hown hK hP hD hS q3 eq3 rfl 1 (by decide) (hts (.fieldLink RX9 25 "ColdShips$Watch" "hour" "I") wa_404) (fun _ h9 => h9) rfl (tyX9_ok 1 (by decide)) rfl rfl (Nat.le_of_ble_eq_true rfl) dX9_passHour_22 (tp_k (.inr (9, [.ref (ρ h0 0), .int o16_x0, .int o2_x2, .int o2_x3])) hD (tp_in hG ht_h0 (by decide)) eq3 (fun f22 H locs hP hD hS g24 k23 => ?_))
    have hT := hT.up ht_h0 g24 k23 ⟨_, _, _, rfl, (by first | decide | omega | (omega)), (by first | decide | omega | (omega))⟩
    have hR := hR.up ht_h0 (by decide) k23
    refine lv_aload_n hx hb dX9_passHour_25 rfl (lv_at hl 0 rfl) ?_
    refine lv_aload_n hx hb dX9_passHour_26 rfl (lv_at hl 0 rfl) ?_
    refine tpk_pos (tp_in hG ht_h0 (by decide)) g24 (fun q25 eq25 => ?_)
    refine va_get (D := (dC, dI)) (ci := 9) (v := .ref (ρ h0 0)) (C := RX9) (T := TX9) (N := 4) hx hb hts hfX9 hown hK hP q25 eq25 rfl 0 (by decide) (hts (.fieldLink RX9 9 "ColdShips$Watch" "world" "LColdShips$World;") wa_114) (fun _ h9 => h9) rfl dX9_passHour_27 ?_
    have hf_26 : f22 (ρ h0 0) = .inr (10, [.int o16_x0, .int o16_x1, .int o16_x2, .int o16_x3, .int o16_x4, .int o16_x5, .int o16_x6, .ref (ρ (ρ h0 0) 7), .ref (ρ (ρ h0 0) 8), .ref (ρ (ρ h0 0) 9), .ref (ρ (ρ h0 0) 10), .ref (ρ (ρ h0 0) 11), .ref (ρ (ρ h0 0) 12), .ref (ρ (ρ h0 0) 13), .ref (ρ (ρ h0 0) 14), .ref (ρ (ρ h0 0) 15), .ref (ρ (ρ h0 0) 16), .ref (ρ (ρ h0 0) 17), .ref (ρ (ρ h0 0) 18)]) := (k23 _ (tp_ne y1 ht_h0 (by decide))).trans hf_o16
    refine tpk_pos (tp_in hG y1 (by decide)) hf_26 (fun q27 eq27 => ?_)
    refine va_getN (D := (dC, dI)) (ci := 10) (v := .ref (ρ (ρ h0 0) 8)) (C := RX10) (T := TX10) (N := 19) hx hb hts hfX10 hown hK hP q27 eq27 rfl 8 (by decide) (va_Nw.use rfl (hN.1 (.fieldLinkNest RX9 28 "ColdShips$World" "seas" "[I" "ColdShips") nzw_63)) (fun _ h9 => h9) rfl dX9_passHour_30 ?_
    refine lv_aload_n hx hb dX9_passHour_33 rfl (lv_at hl 0 rfl) ?_
    refine va_get (D := (dC, dI)) (ci := 9) (v := .int o16_x0) (C := RX9) (T := TX9) (N := 4) hx hb hts hfX9 hown hK hP q25 eq25 rfl 1 (by decide) (hts (.fieldLink RX9 25 "ColdShips$Watch" "hour" "I") wa_404) (fun _ h9 => h9) rfl dX9_passHour_34 ?_
    refine lv_bipush (v := 24) hx hb dX9_passHour_37 (by decide) ?_
    refine lv_idiv hx hb dX9_passHour_39 (by decide) ?_
    refine lv_topi (fun z28 ez28 => ?_)
    have iz28 : z28.toInt = o16_x0.toInt / 24 := zi_div ez28 rfl (show (24 : Int32).toInt = 24 from rfl) (by omega) (by omega)
    refine tpk_20 hT y5 y5n (fun g30 hf_o29 => ?_)
    refine tpk_pos (tp_in hG y5 (by decide)) hf_o29 (fun q31 eq31 => ?_)
    refine va_iald hx hb hK hP q31 0 eq31 rfl (vp_in_iff.mpr ⟨by omega, by omega⟩) dX9_passHour_40 ?_
    refine lv_topi (fun z32 ez32 => ?_)
    refine va_put (D := (dC, dI)) (ci := 9) (v := .int z32) (ty := .int) (C := RX9) (T := TX9) (N := 4) hx hb hts hfX9 tyX9 tyX9_ok nmX9 hown hK hP hD hS q25 eq25 rfl 2 (by decide) (hts (.fieldLink RX9 32 "ColdShips$Watch" "sea" "I") wa_405) (fun _ h9 => h9) rfl (tyX9_ok 2 (by decide)) rfl rfl (Nat.le_of_ble_eq_true rfl) dX9_passHour_41 (tp_k (.inr (9, [.ref (ρ h0 0), .int o16_x0, .int z32, .int o2_x3])) hD (tp_in hG ht_h0 (by decide)) eq25 (fun f33 H locs hP hD hS g35 k34 => ?_))
    have hT := hT.up ht_h0 g35 k34 ⟨_, _, _, rfl, (by first | decide | omega | (omega)), (by first | decide | omega | (omega))⟩
    have hR := hR.up ht_h0 (by decide) k34
    refine lv_aload_n hx hb dX9_passHour_44 rfl (lv_at hl 0 rfl) ?_
    refine lv_iconst (v := 0) hx hb dX9_passHour_45 (by decide) ?_
    refine tpk_pos (tp_in hG ht_h0 (by decide)) g35 (fun q36 eq36 => ?_)
    refine va_put (D := (dC, dI)) (ci := 9) (v := .int 0) (ty := .boolean) (C := RX9) (T := TX9) (N := 4) hx hb hts hfX9 tyX9 tyX9_ok nmX9 hown hK hP hD hS q36 eq36 rfl 3 (by decide) (hts (.fieldLink RX9 35 "ColdShips$Watch" "turnTaken" "Z") wa_406) (fun _ h9 => h9) rfl (tyX9_ok 3 (by decide)) rfl rfl (Nat.le_of_ble_eq_true rfl) dX9_passHour_46 (tp_k (.inr (9, [.ref (ρ h0 0), .int o16_x0, .int z32, .int 0])) hD (tp_in hG ht_h0 (by decide)) eq36 (fun f37 H locs hP hD hS g39 k38 => ?_))
    have hT := hT.up ht_h0 g39 k38 ⟨_, _, _, rfl, (by first | decide | omega | (have : (0 : Int32).toInt = 0 := rfl; omega)), (by first | decide | omega | (have : (0 : Int32).toInt = 0 := rfl; omega))⟩
    have hR := hR.up ht_h0 (by decide) k38
    refine lv_iconst (v := 0) hx hb dX9_passHour_49 (by decide) ?_
    refine lv_istore_n (lv' := [(1, .int 0), (0, .ref h0)]) hx hb dX9_passHour_50 rfl hl (by decide) rfl (fun ls hl => ?_)
    have hf_41 : f33 (ρ h0 0) = .inr (10, [.int o16_x0, .int o16_x1, .int o16_x2, .int o16_x3, .int o16_x4, .int o16_x5, .int o16_x6, .ref (ρ (ρ h0 0) 7), .ref (ρ (ρ h0 0) 8), .ref (ρ (ρ h0 0) 9), .ref (ρ (ρ h0 0) 10), .ref (ρ (ρ h0 0) 11), .ref (ρ (ρ h0 0) 12), .ref (ρ (ρ h0 0) 13), .ref (ρ (ρ h0 0) 14), .ref (ρ (ρ h0 0) 15), .ref (ρ (ρ h0 0) 16), .ref (ρ (ρ h0 0) 17), .ref (ρ (ρ h0 0) 18)]) := (k34 _ (tp_ne y1 ht_h0 (by decide))).trans hf_26
    have hf_42 : f37 (ρ h0 0) = .inr (10, [.int o16_x0, .int o16_x1, .int o16_x2, .int o16_x3, .int o16_x4, .int o16_x5, .int o16_x6, .ref (ρ (ρ h0 0) 7), .ref (ρ (ρ h0 0) 8), .ref (ρ (ρ h0 0) 9), .ref (ρ (ρ h0 0) 10), .ref (ρ (ρ h0 0) 11), .ref (ρ (ρ h0 0) 12), .ref (ρ (ρ h0 0) 13), .ref (ρ (ρ h0 0) 14), .ref (ρ (ρ h0 0) 15), .ref (ρ (ρ h0 0) 16), .ref (ρ (ρ h0 0) 17), .ref (ρ (ρ h0 0) 18)]) := (k38 _ (tp_ne y1 ht_h0 (by decide))).trans hf_41
    refine pz_loop (fun n0 H locs ls => ∃ f44 : Nat → va_E, ∃ w40 : Int32, n0 = (6 - (w40.toInt)).toNat ∧ tp_T Ω κ τ ν ρ f44 ∧ tp_F τ [5, 6, 8, 9, 10, 11, 20, 21] f f44 ∧ f44 (ρ h0 0) = .inr (10, [.int o16_x0, .int o16_x1, .int o16_x2, .int o16_x3, .int o16_x4, .int o16_x5, .int o16_x6, .ref (ρ (ρ h0 0) 7), .ref (ρ (ρ h0 0) 8), .ref (ρ (ρ h0 0) 9), .ref (ρ (ρ h0 0) 10), .ref (ρ (ρ h0 0) 11), .ref (ρ (ρ h0 0) 12), .ref (ρ (ρ h0 0) 13), .ref (ρ (ρ h0 0) 14), .ref (ρ (ρ h0 0) 15), .ref (ρ (ρ h0 0) 16), .ref (ρ (ρ h0 0) 17), .ref (ρ (ρ h0 0) 18)]) ∧ (0 ≤ w40.toInt ∧ w40.toInt ≤ 6) ∧ va_P (dC, dI) vwCl (va_pl L f44) H ∧ va_D A (va_pl L f44) ∧ va_S A s.heap H locs ∧ lv_has ls 2 [(1, .int w40), (0, .ref h0)]) ?_ _ _ _ _ ⟨f37, 0, rfl, hT, hR, hf_42, (by have : (0 : Int32).toInt = 0 := rfl; omega), hP, hD, hS, lv_sub hl [0, 1] rfl⟩
    intro n0 H locs ls hI ih45
    refine Exists.elim hI (fun f44 hE90 => Exists.elim hE90 (fun w40 hE91 => tn_9 hE91 (fun hn46 hT hR hk43k rw40 hP hD hS hl => ?_)))
    clear hE91 hE90 hI
    refine lv_iload_n hx hb dX9_passHour_51 rfl (lv_at hl 0 rfl) ?_
    refine lv_aload_n hx hb dX9_passHour_52 rfl (lv_at hl 1 rfl) ?_
    refine tpk_10 hT ht_h0 (fun o47_x1 o47_x2 o47_x3 hf_o47 ro47_0 ro47_1 => ?_)
    refine tpk_pos (tp_in hG ht_h0 (by decide)) hf_o47 (fun q48 eq48 => ?_)
    refine va_get (D := (dC, dI)) (ci := 9) (v := .ref (ρ h0 0)) (C := RX9) (T := TX9) (N := 4) hx hb hts hfX9 hown hK hP q48 eq48 rfl 0 (by decide) (hts (.fieldLink RX9 9 "ColdShips$Watch" "world" "LColdShips$World;") wa_114) (fun _ h9 => h9) rfl dX9_passHour_53 ?_
    refine tpk_pos (tp_in hG y1 (by decide)) hk43k (fun q49 eq49 => ?_)
    refine va_getN (D := (dC, dI)) (ci := 10) (v := .int o16_x5) (C := RX10) (T := TX10) (N := 19) hx hb hts hfX10 hown hK hP q49 eq49 rfl 5 (by decide) (va_Nw.use rfl (hN.1 (.fieldLinkNest RX9 39 "ColdShips$World" "shipCount" "I" "ColdShips") nzw_57)) (fun _ h9 => h9) rfl dX9_passHour_56 ?_
    refine lv_icmp_ge (tgt := 73) hx hb dX9_passHour_59 (by decide) (fun c50 => ?_) (fun c50 => ?_)
    · have ic50 : w40.toInt ≥ o16_x5.toInt := zi_ge rfl rfl c50
      refine lv_aload_n hx hb dX9_passHour_73 rfl (lv_at hl 1 rfl) ?_
      refine va_get (D := (dC, dI)) (ci := 9) (v := .ref (ρ h0 0)) (C := RX9) (T := TX9) (N := 4) hx hb hts hfX9 hown hK hP q48 eq48 rfl 0 (by decide) (hts (.fieldLink RX9 9 "ColdShips$Watch" "world" "LColdShips$World;") wa_114) (fun _ h9 => h9) rfl dX9_passHour_74 ?_
      refine lv_dup hx hb dX9_passHour_77 rfl ?_
      refine va_getN (D := (dC, dI)) (ci := 10) (v := .int o16_x0) (C := RX10) (T := TX10) (N := 19) hx hb hts hfX10 hown hK hP q49 eq49 rfl 0 (by decide) (va_Nw.use rfl (hN.1 (.fieldLinkNest RX9 15 "ColdShips$World" "now" "I" "ColdShips") nzw_48)) (fun _ h9 => h9) rfl dX9_passHour_78 ?_
      refine lv_iconst (v := 1) hx hb dX9_passHour_81 (by decide) ?_
      refine lv_iadd hx hb dX9_passHour_82 ?_
      refine lv_topi (fun z51 ez51 => ?_)
      have iz51 : z51.toInt = o16_x0.toInt + 1 := zi_add ez51 rfl rfl (by omega) (by omega)
      refine va_putN (D := (dC, dI)) (ci := 10) (v := .int z51) (ty := .int) (C := RX10) (T := TX10) (N := 19) hx hb hts hfX10 tyX10 tyX10_ok nmX10 hown hK hP hD hS q49 eq49 rfl 0 (by decide) (va_Nw.use rfl (hN.1 (.fieldLinkNest RX9 15 "ColdShips$World" "now" "I" "ColdShips") nzw_48)) (fun _ h9 => h9) rfl (tyX10_ok 0 (by decide)) rfl rfl (Nat.le_of_ble_eq_true rfl) dX9_passHour_83 (tp_k (.inr (10, [.int z51, .int o16_x1, .int o16_x2, .int o16_x3, .int o16_x4, .int o16_x5, .int o16_x6, .ref (ρ (ρ h0 0) 7), .ref (ρ (ρ h0 0) 8), .ref (ρ (ρ h0 0) 9), .ref (ρ (ρ h0 0) 10), .ref (ρ (ρ h0 0) 11), .ref (ρ (ρ h0 0) 12), .ref (ρ (ρ h0 0) 13), .ref (ρ (ρ h0 0) 14), .ref (ρ (ρ h0 0) 15), .ref (ρ (ρ h0 0) 16), .ref (ρ (ρ h0 0) 17), .ref (ρ (ρ h0 0) 18)])) hD (tp_in hG y1 (by decide)) eq49 (fun f52 H locs hP hD hS g54 k53 => ?_))
      have hT := hT.up y1 g54 k53 ⟨_, _, _, _, _, _, _, rfl, (by first | decide | omega | (omega)), (by first | decide | omega | (omega)), (by first | decide | omega | (omega)), (by first | decide | omega | (omega))⟩
      have hR := hR.up y1 (by decide) k53
      exact W.vret hx hb hr (fun t ht hW => ⟨⟨f52, rfl, ⟨hT, hR, trivial⟩, by rw [ht]; exact hP, va_K.moved hW.alike hK, hD⟩, hS.F ht⟩) hS.2.2 dX9_passHour_86
    · have ic50 : w40.toInt < o16_x5.toInt := zi_gef rfl rfl c50
      refine lv_aload_n hx hb dX9_passHour_62 rfl (lv_at hl 1 rfl) ?_
      refine lv_iload_n hx hb dX9_passHour_63 rfl (lv_at hl 0 rfl) ?_
      have hFc := tp_fr hD hS hA
      refine va_callv (va_runV (As := [.int w40]) (rest := []) ⟨hx, hb, hml, hown, hts⟩ (t_X9_passShip l dC dI _ Ω κ τ ν ρ L f44 hG hT h0 w40 ht_h0 (by first | decide | omega)) (cwV 1 hts gX9_passHour_X9_passShip rfl rfl rfl ⟨rfl, pd_X9_passShip⟩ ⟨Nat.le_of_ble_eq_true rfl, Nat.le_of_ble_eq_true rfl⟩) ⟨pz_blind, va_recv hK hP (ci := 9) (q0 := q48) rfl eq48, pz_pre hP hK hD hN⟩ rfl rfl hl.1 rfl (lv_room (Nat.le_of_ble_eq_true rfl)) dX9_passHour_64 ⟨Nat.le_of_ble_eq_true rfl, Nat.le_of_ble_eq_true rfl⟩) hS (fun q _ h => hFc q h) hFc (fun f57 t H1 locs ht hvm hw56 hB hz1 hk1 hS => ?_)
      refine tn_3 hw56 (fun hT hF58 hw56p => ?_); clear hw56
      have hR := hR.then hF58 (by decide)
      have hP := hB.1; rw [ht] at hP; have hD := tp_ad f57 hD; clear hB hFc hz1 hk1; subst ht; generalize t.heap = H at hP hS ⊢
      obtain ⟨z59, ez59⟩ : ∃ y : Int32, y = w40 + 1 := ⟨_, rfl⟩
      refine lv_iinc (v := z59) (lv' := [(1, .int z59), (0, .ref h0)]) hx hb dX9_passHour_67 hl (k := 0) rfl (by rw [ez59]; rfl) (by decide) rfl (fun ls hl => ?_)
      have iz59 : z59.toInt = w40.toInt + 1 := zi_add ez59 rfl rfl (by omega) (by omega)
      refine lv_goto (tgt := 51) hx hb dX9_passHour_70 (by decide) ?_
      have hf_60 : f57 (ρ h0 0) = .inr (10, [.int o16_x0, .int o16_x1, .int o16_x2, .int o16_x3, .int o16_x4, .int o16_x5, .int o16_x6, .ref (ρ (ρ h0 0) 7), .ref (ρ (ρ h0 0) 8), .ref (ρ (ρ h0 0) 9), .ref (ρ (ρ h0 0) 10), .ref (ρ (ρ h0 0) 11), .ref (ρ (ρ h0 0) 12), .ref (ρ (ρ h0 0) 13), .ref (ρ (ρ h0 0) 14), .ref (ρ (ρ h0 0) 15), .ref (ρ (ρ h0 0) 16), .ref (ρ (ρ h0 0) 17), .ref (ρ (ρ h0 0) 18)]) := (hF58 _ (by rw [y1]; decide)).trans hk43k
      exact ih45 _ _ _ _ (by rw [hn46]; omega) ⟨f57, z59, rfl, hT, hR, hf_60, (by omega), hP, hD, hS, lv_sub hl [0, 1] rfl⟩
  · have ic20 : r18.toInt = 0 := zi_nef rfl rfl c20
    exact W.vret hx hb hr (fun t ht hW => ⟨⟨f, rfl, ⟨hT, hR, trivial⟩, by rw [ht]; exact hP, va_K.moved hW.alike hK, hD⟩, hS.F ht⟩) hS.2.2 dX9_passHour_13
