set_option maxHeartbeats 4000000 in
set_option maxRecDepth 100000 in
theorem t_X9_takesTurn (l : Launch) (dC : Nat → ClassId) (dI : Nat → Nat → Nat) (sz : Nat) (Ω : Nat → (Nat → Nat) → va_E → Prop) (κ : Nat → ClassId) (τ ν : Nat → Nat) (ρ : Nat → Nat → Nat) (L : List Nat) (f : Nat → va_E) (hG : tp_G τ ν ρ L) (hT : tp_T Ω κ τ ν ρ f) (h0 : Nat) (ht_h0 : τ h0 = 10) : Met l yX9_takesTurn wqX9_takesTurn ({ frames := 2, cells := 0, slots := 0, locals := 400 }) (va_Pc [.ref h0] (pz_B dC dI (tp_K κ) (va_pl L f) sz)) (va_Qi (fun (r : Int32) (f1 : Nat → va_E) => tp_T Ω κ τ ν ρ f1 ∧ tp_F τ [10] f f1 ∧ (0 ≤ r.toInt ∧ r.toInt ≤ 1) ∧ True) (fun (f1 : Nat → va_E) (t : State) => pz_E dC dI (tp_K κ) (va_A (va_pl L f) sz) (va_pl L f1) t) (va_A (va_pl L f) sz)) 0 0 (va_A (va_pl L f) sz) := by
  refine Met.ofW (cc := cX9_takesTurn) (maxL := 2) (ret := some .boolean) (by decide) rfl ?_
  intro p e s m args below meth c s₁ B hml hv
  obtain ⟨rfl, hsz, hP, hK, hD0, hN⟩ := hv
  have hx := B.exec
  have hb := B.bytes
  have hr := B.returns
  have hts := fun (w : Cond) (h : w ∈ WALL) => atoms_spec (ws := wqX9_takesTurn) B.pre w (List.mem_cons_of_mem _ h)
  have hown : s.vm.findClass RX9 = some m.cls := findClass_of_methodNamed B.named
  have hlocks := B.notSynchronized
  subst hsz
  have hD := hD0.self (sz := s.heap.size)
  generalize hAe : va_A (va_pl L f) s.heap.size = A at hD ⊢
  have hA : ∀ q : Nat, s.heap.size ≤ q → A q := fun q h => by rw [← hAe]; exact Or.inr h
  have hS : va_S A s.heap s.heap [] := va_S.rf
  have hR : tp_F τ [10] f f := tp_F.rf
  have hl := lv_entry ([.ref h0]) (n := 2) (Nat.le_of_ble_eq_true rfl)
  rw [lg_entry_eq]
  generalize (lg_sl ([.ref h0]) ++ List.replicate (2 - (lg_sl ([.ref h0])).length) Slot.unset).toArray = ls at hl ⊢
  have hl : lv_has ls 2 [(0, .ref h0)] := hl
  refine lv_aload_n hx hb dX9_takesTurn_0 rfl (lv_at hl 0 rfl) ?_
  have y1 := tpg_10 hG ht_h0
  refine tpk_10 hT ht_h0 (fun o2_x1 o2_x2 o2_x3 hf_o2 ro2_0 ro2_1 => ?_)
  refine tpk_pos (tp_in hG ht_h0 (by decide)) hf_o2 (fun q3 eq3 => ?_)
  refine va_get (D := (dC, dI)) (ci := 9) (v := .int o2_x1) (C := RX9) (T := TX9) (N := 4) hx hb hts hfX9 hown hK hP q3 eq3 rfl 1 (by decide) (hts (.fieldLink RX9 25 "ColdShips$Watch" "hour" "I") wa_404) (fun _ h9 => h9) rfl dX9_takesTurn_1 ?_
  refine lv_bipush (v := 24) hx hb dX9_takesTurn_4 (by decide) ?_
  refine lv_irem hx hb dX9_takesTurn_6 (by decide) ?_
  refine lv_topi (fun z4 ez4 => ?_)
  have iz4 : z4.toInt = o2_x1.toInt % 24 := zi_rem ez4 rfl (show (24 : Int32).toInt = 24 from rfl) (by omega) (by omega)
  refine lv_istore_n (lv' := [(1, .int z4), (0, .ref h0)]) hx hb dX9_takesTurn_7 rfl hl (by decide) rfl (fun ls hl => ?_)
  refine lv_aload_n hx hb dX9_takesTurn_8 rfl (lv_at hl 1 rfl) ?_
  refine va_get (D := (dC, dI)) (ci := 9) (v := .int o2_x3) (C := RX9) (T := TX9) (N := 4) hx hb hts hfX9 hown hK hP q3 eq3 rfl 3 (by decide) (hts (.fieldLink RX9 35 "ColdShips$Watch" "turnTaken" "Z") wa_406) (fun _ h9 => h9) rfl dX9_takesTurn_9 ?_
  refine lv_if_ne (tgt := 33) hx hb dX9_takesTurn_12 (by decide) (fun c5 => ?_) (fun c5 => ?_)
  · have ic5 : o2_x3.toInt ≠ 0 := zi_ne rfl rfl c5
    refine lv_iconst (v := 0) hx hb dX9_takesTurn_33 (by decide) ?_
    exact W.zret (v := 0) hx hb hr rfl (fun t ht hW => ⟨⟨0, f, rfl, ⟨hT, hR, (by first | decide | omega), trivial⟩, by rw [ht]; exact hP, va_K.moved hW.alike hK, hD⟩, hS.F ht⟩) hS.2.2 dX9_takesTurn_34
  · have ic5 : o2_x3.toInt = 0 := zi_nef rfl rfl c5
    refine lv_iload_n hx hb dX9_takesTurn_15 rfl (lv_at hl 0 rfl) ?_
    refine lv_bipush (v := 6) hx hb dX9_takesTurn_16 (by decide) ?_
    refine lv_icmp_eq (tgt := 35) hx hb dX9_takesTurn_18 (by decide) (fun c6 => ?_) (fun c6 => ?_)
    · have ic6 : z4.toInt = 6 := zi_eq rfl rfl c6
      refine lv_aload_n hx hb dX9_takesTurn_35 rfl (lv_at hl 1 rfl) ?_
      refine lv_iconst (v := 1) hx hb dX9_takesTurn_36 (by decide) ?_
      refine va_put (D := (dC, dI)) (ci := 9) (v := .int 1) (ty := .boolean) (C := RX9) (T := TX9) (N := 4) hx hb hts hfX9 tyX9 tyX9_ok nmX9 hown hK hP hD hS q3 eq3 rfl 3 (by decide) (hts (.fieldLink RX9 35 "ColdShips$Watch" "turnTaken" "Z") wa_406) (fun _ h9 => h9) rfl (tyX9_ok 3 (by decide)) rfl rfl (Nat.le_of_ble_eq_true rfl) dX9_takesTurn_37 (tp_k (.inr (9, [.ref (ρ h0 0), .int o2_x1, .int o2_x2, .int 1])) hD (tp_in hG ht_h0 (by decide)) eq3 (fun f7 H locs hP hD hS g9 k8 => ?_))
      have hT := hT.up ht_h0 g9 k8 ⟨_, _, _, rfl, (by first | decide | omega | (have : (1 : Int32).toInt = 1 := rfl; omega)), (by first | decide | omega | (have : (1 : Int32).toInt = 1 := rfl; omega))⟩
      have hR := hR.up ht_h0 (by decide) k8
      refine lv_iconst (v := 1) hx hb dX9_takesTurn_40 (by decide) ?_
      exact W.zret (v := 1) hx hb hr rfl (fun t ht hW => ⟨⟨1, f7, rfl, ⟨hT, hR, (by first | decide | omega), trivial⟩, by rw [ht]; exact hP, va_K.moved hW.alike hK, hD⟩, hS.F ht⟩) hS.2.2 dX9_takesTurn_41
    · have ic6 : z4.toInt ≠ 6 := zi_eqf rfl rfl c6
      refine lv_iload_n hx hb dX9_takesTurn_21 rfl (lv_at hl 0 rfl) ?_
      refine lv_bipush (v := 12) hx hb dX9_takesTurn_22 (by decide) ?_
      refine lv_icmp_eq (tgt := 35) hx hb dX9_takesTurn_24 (by decide) (fun c10 => ?_) (fun c10 => ?_)
      · have ic10 : z4.toInt = 12 := zi_eq rfl rfl c10
        refine lv_aload_n hx hb dX9_takesTurn_35 rfl (lv_at hl 1 rfl) ?_
        refine lv_iconst (v := 1) hx hb dX9_takesTurn_36 (by decide) ?_
        refine va_put (D := (dC, dI)) (ci := 9) (v := .int 1) (ty := .boolean) (C := RX9) (T := TX9) (N := 4) hx hb hts hfX9 tyX9 tyX9_ok nmX9 hown hK hP hD hS q3 eq3 rfl 3 (by decide) (hts (.fieldLink RX9 35 "ColdShips$Watch" "turnTaken" "Z") wa_406) (fun _ h9 => h9) rfl (tyX9_ok 3 (by decide)) rfl rfl (Nat.le_of_ble_eq_true rfl) dX9_takesTurn_37 (tp_k (.inr (9, [.ref (ρ h0 0), .int o2_x1, .int o2_x2, .int 1])) hD (tp_in hG ht_h0 (by decide)) eq3 (fun f11 H locs hP hD hS g13 k12 => ?_))
        have hT := hT.up ht_h0 g13 k12 ⟨_, _, _, rfl, (by first | decide | omega | (have : (1 : Int32).toInt = 1 := rfl; omega)), (by first | decide | omega | (have : (1 : Int32).toInt = 1 := rfl; omega))⟩
        have hR := hR.up ht_h0 (by decide) k12
        refine lv_iconst (v := 1) hx hb dX9_takesTurn_40 (by decide) ?_
        exact W.zret (v := 1) hx hb hr rfl (fun t ht hW => ⟨⟨1, f11, rfl, ⟨hT, hR, (by first | decide | omega), trivial⟩, by rw [ht]; exact hP, va_K.moved hW.alike hK, hD⟩, hS.F ht⟩) hS.2.2 dX9_takesTurn_41
      · have ic10 : z4.toInt ≠ 12 := zi_eqf rfl rfl c10
        refine lv_iload_n hx hb dX9_takesTurn_27 rfl (lv_at hl 0 rfl) ?_
        refine lv_bipush (v := 18) hx hb dX9_takesTurn_28 (by decide) ?_
        refine lv_icmp_eq (tgt := 35) hx hb dX9_takesTurn_30 (by decide) (fun c14 => ?_) (fun c14 => ?_)
        · have ic14 : z4.toInt = 18 := zi_eq rfl rfl c14
          refine lv_aload_n hx hb dX9_takesTurn_35 rfl (lv_at hl 1 rfl) ?_
          refine lv_iconst (v := 1) hx hb dX9_takesTurn_36 (by decide) ?_
          refine va_put (D := (dC, dI)) (ci := 9) (v := .int 1) (ty := .boolean) (C := RX9) (T := TX9) (N := 4) hx hb hts hfX9 tyX9 tyX9_ok nmX9 hown hK hP hD hS q3 eq3 rfl 3 (by decide) (hts (.fieldLink RX9 35 "ColdShips$Watch" "turnTaken" "Z") wa_406) (fun _ h9 => h9) rfl (tyX9_ok 3 (by decide)) rfl rfl (Nat.le_of_ble_eq_true rfl) dX9_takesTurn_37 (tp_k (.inr (9, [.ref (ρ h0 0), .int o2_x1, .int o2_x2, .int 1])) hD (tp_in hG ht_h0 (by decide)) eq3 (fun f15 H locs hP hD hS g17 k16 => ?_))
          have hT := hT.up ht_h0 g17 k16 ⟨_, _, _, rfl, (by first | decide | omega | (have : (1 : Int32).toInt = 1 := rfl; omega)), (by first | decide | omega | (have : (1 : Int32).toInt = 1 := rfl; omega))⟩
          have hR := hR.up ht_h0 (by decide) k16
          refine lv_iconst (v := 1) hx hb dX9_takesTurn_40 (by decide) ?_
          exact W.zret (v := 1) hx hb hr rfl (fun t ht hW => ⟨⟨1, f15, rfl, ⟨hT, hR, (by first | decide | omega), trivial⟩, by rw [ht]; exact hP, va_K.moved hW.alike hK, hD⟩, hS.F ht⟩) hS.2.2 dX9_takesTurn_41
        · have ic14 : z4.toInt ≠ 18 := zi_eqf rfl rfl c14
          refine lv_iconst (v := 0) hx hb dX9_takesTurn_33 (by decide) ?_
          exact W.zret (v := 0) hx hb hr rfl (fun t ht hW => ⟨⟨0, f, rfl, ⟨hT, hR, (by first | decide | omega), trivial⟩, by rw [ht]; exact hP, va_K.moved hW.alike hK, hD⟩, hS.F ht⟩) hS.2.2 dX9_takesTurn_34
set_option maxHeartbeats 4000000 in
set_option maxRecDepth 100000 in
theorem t_X9_tonsMayGo (l : Launch) (dC : Nat → ClassId) (dI : Nat → Nat → Nat) (sz : Nat) (Ω : Nat → (Nat → Nat) → va_E → Prop) (κ : Nat → ClassId) (τ ν : Nat → Nat) (ρ : Nat → Nat → Nat) (L : List Nat) (f : Nat → va_E) (hG : tp_G τ ν ρ L) (hT : tp_T Ω κ τ ν ρ f) (h0 : Nat) (a : Int32) (h1 : Nat) (ht_h0 : τ h0 = 10) (ht_h1 : τ h1 = 6) : Met l yX9_tonsMayGo wqX9_tonsMayGo ({ frames := 3, cells := 0, slots := 0, locals := 800 }) (va_Pc [.ref h0, .int a, .ref h1] (pz_B dC dI (tp_K κ) (va_pl L f) sz)) (vp_Si (fun r => (0 ≤ r.toInt ∧ r.toInt ≤ 1) ∧ True)) 0 0 (fun _ => False) := by
  refine Met.ofW (cc := cX9_tonsMayGo) (maxL := 6) (ret := some .boolean) (by decide) rfl ?_
  intro p e s m args below meth c s₁ B hml hv
  obtain ⟨rfl, hsz, hP, hK, hD0, hN⟩ := hv
  have hx := B.exec
  have hb := B.bytes
  have hr := B.returns
  have hts := fun (w : Cond) (h : w ∈ WALL) => atoms_spec (ws := wqX9_tonsMayGo) B.pre w (List.mem_cons_of_mem _ h)
  have hown : s.vm.findClass RX9 = some m.cls := findClass_of_methodNamed B.named
  have hlocks := B.notSynchronized
  subst hsz
  have hD := hD0
  have hS : va_S (fun _ => True) s.heap s.heap [] := va_S.rf
  have hl := lv_entry ([.ref h0, .int a, .ref h1]) (n := 6) (Nat.le_of_ble_eq_true rfl)
  rw [lg_entry_eq]
  generalize (lg_sl ([.ref h0, .int a, .ref h1]) ++ List.replicate (6 - (lg_sl ([.ref h0, .int a, .ref h1])).length) Slot.unset).toArray = ls at hl ⊢
  have hl : lv_has ls 6 [(0, .ref h0), (1, .int a), (2, .ref h1)] := hl
  refine lv_aload_n hx hb dX9_tonsMayGo_0 rfl (lv_at hl 2 rfl) ?_
  refine tgk_6 hG ht_h1 (fun y1 y2 y2n y3 y3n y4 y4n y5 y5n y6 y6n y7 y7n => ?_)
  refine tpk_6 hT ht_h1 (fun o8_x1 o8_x2 o8_x3 o8_x4 o8_x5 o8_x6 o8_x10 o8_x11 o8_x12 o8_x14 hf_o8 ro8_0 ro8_1 ro8_2 => ?_)
  refine tpk_pos (tp_in hG ht_h1 (by decide)) hf_o8 (fun q9 eq9 => ?_)
  refine va_getN (D := (dC, dI)) (ci := 5) (v := .int o8_x2) (C := RX5) (T := TX5) (N := 17) hx hb hts hfX5 hown hK hP q9 eq9 rfl 2 (by decide) (va_Nw.use rfl (hN.1 (.fieldLinkNest RX9 114 "ColdShips$Ship" "where" "I" "ColdShips") nzw_27)) (fun _ h9 => h9) rfl dX9_tonsMayGo_1 ?_
  refine lv_istore_n (lv' := [(3, .int o8_x2), (0, .ref h0), (1, .int a), (2, .ref h1)]) hx hb dX9_tonsMayGo_4 rfl hl (by decide) rfl (fun ls hl => ?_)
  refine lv_aload_n hx hb dX9_tonsMayGo_5 rfl (lv_at hl 3 rfl) ?_
  refine va_getN (D := (dC, dI)) (ci := 5) (v := .int o8_x3) (C := RX5) (T := TX5) (N := 17) hx hb hts hfX5 hown hK hP q9 eq9 rfl 3 (by decide) (va_Nw.use rfl (hN.1 (.fieldLinkNest RX9 50 "ColdShips$Ship" "left" "I" "ColdShips") nzw_29)) (fun _ h9 => h9) rfl dX9_tonsMayGo_6 ?_
  refine lv_if_gt (tgt := 23) hx hb dX9_tonsMayGo_9 (by decide) (fun c10 => ?_) (fun c10 => ?_)
  · have ic10 : o8_x3.toInt > 0 := zi_gt rfl rfl c10
    refine lv_iconst (v := 0) hx hb dX9_tonsMayGo_23 (by decide) ?_
    exact W.zret (v := 0) hx hb hr rfl (fun t ht hW => ⟨0, rfl, ⟨(by first | decide | omega), trivial⟩, ht⟩) (fun _ h => by cases h) dX9_tonsMayGo_24
  · have ic10 : o8_x3.toInt ≤ 0 := zi_gtf rfl rfl c10
    refine lv_aload_n hx hb dX9_tonsMayGo_12 rfl (lv_at hl 1 rfl) ?_
    have y11 := tpg_10 hG ht_h0
    refine tpk_10 hT ht_h0 (fun o12_x1 o12_x2 o12_x3 hf_o12 ro12_0 ro12_1 => ?_)
    refine tpk_pos (tp_in hG ht_h0 (by decide)) hf_o12 (fun q13 eq13 => ?_)
    refine va_get (D := (dC, dI)) (ci := 9) (v := .ref (ρ h0 0)) (C := RX9) (T := TX9) (N := 4) hx hb hts hfX9 hown hK hP q13 eq13 rfl 0 (by decide) (hts (.fieldLink RX9 9 "ColdShips$Watch" "world" "LColdShips$World;") wa_114) (fun _ h9 => h9) rfl dX9_tonsMayGo_13 ?_
    refine lv_iload_n hx hb dX9_tonsMayGo_16 rfl (lv_at hl 0 rfl) ?_
    refine tgk_11 hG y11 (fun y14 y14n y15 y15n y16 y17 y18 y19 y20 y21 y22 y22w y22m y23 y23w y23m y24 y24w y24m y25 y25w y25m => ?_)
    refine tpk_11 hT y11 (fun o26_x0 o26_x1 o26_x2 o26_x3 o26_x4 o26_x5 o26_x6 hf_o26 ro26_0 ro26_1 ro26_2 ro26_3 => ?_)
    refine tpk_pos (tp_in hG y11 (by decide)) hf_o26 (fun q27 eq27 => ?_)
    refine pz_calli (va_runV (As := [.int o8_x2]) (rest := []) ⟨hx, hb, hml, hown, hts⟩ (t_X10_hasTerminal l dC dI _ Ω κ τ ν ρ L f hG hT (ρ h0 0) o8_x2 y11 o26_x0 o26_x1 o26_x2 o26_x3 o26_x4 o26_x5 o26_x6 hf_o26) (cwV 1 hts gX9_tonsMayGo_X10_hasTerminal rfl rfl rfl ⟨rfl, pd_X10_hasTerminal⟩ ⟨Nat.le_of_ble_eq_true rfl, Nat.le_of_ble_eq_true rfl⟩) ⟨pz_blind, va_recv hK hP (ci := 10) (q0 := q27) rfl eq27, pz_pre hP hK hD hN⟩ rfl rfl hl.1 rfl (lv_room (Nat.le_of_ble_eq_true rfl)) dX9_tonsMayGo_17 ⟨Nat.le_of_ble_eq_true rfl, Nat.le_of_ble_eq_true rfl⟩) (fun r28 hw29 => ?_)
    obtain ⟨hw29r, hw29p⟩ := hw29
    refine lv_if_ne (tgt := 25) hx hb dX9_tonsMayGo_20 (by decide) (fun c30 => ?_) (fun c30 => ?_)
    · have ic30 : r28.toInt ≠ 0 := zi_ne rfl rfl c30
      have p31 : 0 ≤ o8_x2.toInt ∧ o8_x2.toInt < o26_x4.toInt := (tp_cond.yes hw29p) (by omega)
      refine lv_iload_n hx hb dX9_tonsMayGo_25 rfl (lv_at hl 0 rfl) ?_
      refine lv_iload_n hx hb dX9_tonsMayGo_26 rfl (lv_at hl 2 rfl) ?_
      refine pz_calli (va_runSN (As := [.int o8_x2, .int a]) (rest := []) ⟨hx, hb, hml, hown, hts⟩ (t_X11_slotOwner l dC dI _ o8_x2 a) ⟨(va_cnB (host := "ColdShips") 2 hts ggX9_tonsMayGo_X11_slotOwner rfl rfl rfl (hN.1 (.methodLinkNest RX9 143 yX11_slotOwner "ColdShips") nzw_110) (hts (.initialized RX11) wa_2) pd_X11_slotOwner ⟨Nat.le_of_ble_eq_true rfl, Nat.le_of_ble_eq_true rfl⟩), (hts (.static yX11_slotOwner) wa_332), trivial⟩ ⟨pz_blind, pz_pre pz_P0 (hK.sub (tys' := []) [] rfl) (pz_D0 (A := fun _ => True)) hN⟩ rfl rfl hl.1 rfl (lv_room (Nat.le_of_ble_eq_true rfl)) dX9_tonsMayGo_27 ⟨Nat.le_of_ble_eq_true rfl, Nat.le_of_ble_eq_true rfl⟩) (fun r32 hw33 => ?_)
      obtain ⟨hw33r, hw33p⟩ := hw33
      refine lv_istore (lv' := [(4, .int r32), (3, .int o8_x2), (0, .ref h0), (1, .int a), (2, .ref h1)]) hx hb dX9_tonsMayGo_30 hl (by decide) rfl (fun ls hl => ?_)
      refine lv_aload_n hx hb dX9_tonsMayGo_32 rfl (lv_at hl 2 rfl) ?_
      refine va_get (D := (dC, dI)) (ci := 9) (v := .ref (ρ h0 0)) (C := RX9) (T := TX9) (N := 4) hx hb hts hfX9 hown hK hP q13 eq13 rfl 0 (by decide) (hts (.fieldLink RX9 9 "ColdShips$Watch" "world" "LColdShips$World;") wa_114) (fun _ h9 => h9) rfl dX9_tonsMayGo_33 ?_
      refine va_getN (D := (dC, dI)) (ci := 10) (v := .ref (ρ (ρ h0 0) 9)) (C := RX10) (T := TX10) (N := 19) hx hb hts hfX10 hown hK hP q27 eq27 rfl 9 (by decide) (va_Nw.use rfl (hN.1 (.fieldLinkNest RX9 121 "ColdShips$World" "terminals" "[LColdShips$Terminal;" "ColdShips") nzw_66)) (fun _ h9 => h9) rfl dX9_tonsMayGo_36 ?_
      refine lv_iload_n hx hb dX9_tonsMayGo_39 rfl (lv_at hl 1 rfl) ?_
      refine tpk_24 hT y16 (fun g35 hf_o34 hf_o34e => ?_)
      refine tpk_pos (tp_in hG y16 (by decide)) hf_o34 (fun q36 eq36 => ?_)
      refine va_aldq hx hb hK hP q36 4 eq36 rfl (vp_in_iff.mpr ⟨by omega, by omega⟩) dX9_tonsMayGo_40 ?_
      obtain ⟨b37, hb38⟩ : ∃ b : Nat, b = ρ (ρ (ρ h0 0) 9) o8_x2.toNatClampNeg := ⟨_, rfl⟩
      have hb38t : τ b37 = 9 := by rw [hb38]; exact tpg_24 hG y16 _ (zi_cl (vp_in_iff.mpr ⟨by omega, by omega⟩))
      have hb38g : g35 o8_x2.toNatClampNeg = some b37 := by rw [hb38]; exact hf_o34e _ (zi_cl (vp_in_iff.mpr ⟨by omega, by omega⟩))
      refine W.eq (g2 := F0 m 41 ls (.ref b37 :: [])) (congrArg (fun o => F0 m 41 ls (va_rf o :: [])) hb38g) ?_
      refine tgk_9 hG hb38t (fun y39 y39n y40 y40n => ?_)
      refine tpk_9 hT hb38t (fun o41_x0 o41_x1 o41_x2 o41_x3 o41_x4 hf_o41 ro41_0 => ?_)
      refine tpk_pos (tp_in hG hb38t (by decide)) hf_o41 (fun q42 eq42 => ?_)
      refine va_getN (D := (dC, dI)) (ci := 8) (v := .int o41_x3) (C := RX8) (T := TX8) (N := 7) hx hb hts hfX8 hown hK hP q42 eq42 rfl 3 (by decide) (va_Nw.use rfl (hN.1 (.fieldLinkNest RX9 146 "ColdShips$Terminal" "depth" "I" "ColdShips") nzw_9)) (fun _ h9 => h9) rfl dX9_tonsMayGo_41 ?_
      refine lv_aload_n hx hb dX9_tonsMayGo_44 rfl (lv_at hl 2 rfl) ?_
      refine va_get (D := (dC, dI)) (ci := 9) (v := .ref (ρ h0 0)) (C := RX9) (T := TX9) (N := 4) hx hb hts hfX9 hown hK hP q13 eq13 rfl 0 (by decide) (hts (.fieldLink RX9 9 "ColdShips$Watch" "world" "LColdShips$World;") wa_114) (fun _ h9 => h9) rfl dX9_tonsMayGo_45 ?_
      refine va_getN (D := (dC, dI)) (ci := 10) (v := .ref (ρ (ρ h0 0) 7)) (C := RX10) (T := TX10) (N := 19) hx hb hts hfX10 hown hK hP q27 eq27 rfl 7 (by decide) (va_Nw.use rfl (hN.1 (.fieldLinkNest RX9 149 "ColdShips$World" "tides" "[I" "ColdShips") nzw_62)) (fun _ h9 => h9) rfl dX9_tonsMayGo_48 ?_
      refine lv_aload_n hx hb dX9_tonsMayGo_51 rfl (lv_at hl 2 rfl) ?_
      refine va_get (D := (dC, dI)) (ci := 9) (v := .int o12_x1) (C := RX9) (T := TX9) (N := 4) hx hb hts hfX9 hown hK hP q13 eq13 rfl 1 (by decide) (hts (.fieldLink RX9 25 "ColdShips$Watch" "hour" "I") wa_404) (fun _ h9 => h9) rfl dX9_tonsMayGo_52 ?_
      refine lv_bipush (v := 25) hx hb dX9_tonsMayGo_55 (by decide) ?_
      refine lv_irem hx hb dX9_tonsMayGo_57 (by decide) ?_
      refine lv_topi (fun z43 ez43 => ?_)
      have iz43 : z43.toInt = o12_x1.toInt % 25 := zi_rem ez43 rfl (show (25 : Int32).toInt = 25 from rfl) (by omega) (by omega)
      refine tpk_20 hT y14 y14n (fun g45 hf_o44 => ?_)
      refine tpk_pos (tp_in hG y14 (by decide)) hf_o44 (fun q46 eq46 => ?_)
      refine va_iald hx hb hK hP q46 0 eq46 rfl (vp_in_iff.mpr ⟨by omega, by omega⟩) dX9_tonsMayGo_58 ?_
      refine lv_topi (fun z47 ez47 => ?_)
      refine lv_iadd hx hb dX9_tonsMayGo_59 ?_
      refine lv_topi (fun z48 ez48 => ?_)
      refine lv_istore (lv' := [(5, .int z48), (4, .int r32), (3, .int o8_x2), (0, .ref h0), (1, .int a), (2, .ref h1)]) hx hb dX9_tonsMayGo_60 hl (by decide) rfl (fun ls hl => ?_)
      refine lv_iload hx hb dX9_tonsMayGo_62 (lv_at hl 0 rfl) ?_
      refine lv_aload_n hx hb dX9_tonsMayGo_64 rfl (lv_at hl 5 rfl) ?_
      refine va_getN (D := (dC, dI)) (ci := 5) (v := .ref (ρ h1 0)) (C := RX5) (T := TX5) (N := 17) hx hb hts hfX5 hown hK hP q9 eq9 rfl 0 (by decide) (va_Nw.use rfl (hN.1 (.fieldLinkNest RX9 55 "ColdShips$Ship" "tank" "LColdShips$Tank;" "ColdShips") nzw_21)) (fun _ h9 => h9) rfl dX9_tonsMayGo_65 ?_
      refine tgk_8 hG y1 (fun y49 y49n y50 y50n y51 y51n => ?_)
      refine tpk_8 hT y1 (fun o52_x0 o52_x1 o52_x2 o52_x3 hf_o52 ro52_0 => ?_)
      refine tpk_pos (tp_in hG y1 (by decide)) hf_o52 (fun q53 eq53 => ?_)
      refine pz_calli (va_runV (As := []) (rest := [.int z48]) ⟨hx, hb, hml, hown, hts⟩ (t_X7_draft l dC dI _ Ω κ τ ν ρ L f hG hT (ρ h1 0) y1) (cwV 0 hts gX9_tonsMayGo_X7_draft rfl rfl rfl ⟨rfl, pd_X7_draft⟩ ⟨Nat.le_of_ble_eq_true rfl, Nat.le_of_ble_eq_true rfl⟩) ⟨pz_blind, va_recv hK hP (ci := 7) (q0 := q53) rfl eq53, pz_pre hP hK hD hN⟩ rfl rfl hl.1 rfl (lv_room (Nat.le_of_ble_eq_true rfl)) dX9_tonsMayGo_68 ⟨Nat.le_of_ble_eq_true rfl, Nat.le_of_ble_eq_true rfl⟩) (fun r54 hw55 => ?_)
      obtain ⟨hw55r, hw55p⟩ := hw55
      refine lv_icmp_lt (tgt := 126) hx hb dX9_tonsMayGo_71 (by decide) (fun c56 => ?_) (fun c56 => ?_)
      · have ic56 : z48.toInt < r54.toInt := zi_lt rfl rfl c56
        refine lv_iconst (v := 0) hx hb dX9_tonsMayGo_126 (by decide) ?_
        exact W.zret (v := 0) hx hb hr rfl (fun t ht hW => ⟨0, rfl, ⟨(by first | decide | omega), trivial⟩, ht⟩) (fun _ h => by cases h) dX9_tonsMayGo_127
      · have ic56 : z48.toInt ≥ r54.toInt := zi_ltf rfl rfl c56
        refine lv_aload_n hx hb dX9_tonsMayGo_74 rfl (lv_at hl 3 rfl) ?_
        refine va_get (D := (dC, dI)) (ci := 9) (v := .ref (ρ h0 0)) (C := RX9) (T := TX9) (N := 4) hx hb hts hfX9 hown hK hP q13 eq13 rfl 0 (by decide) (hts (.fieldLink RX9 9 "ColdShips$Watch" "world" "LColdShips$World;") wa_114) (fun _ h9 => h9) rfl dX9_tonsMayGo_75 ?_
        refine va_getN (D := (dC, dI)) (ci := 10) (v := .ref (ρ (ρ h0 0) 12)) (C := RX10) (T := TX10) (N := 19) hx hb hts hfX10 hown hK hP q27 eq27 rfl 12 (by decide) (va_Nw.use rfl (hN.1 (.fieldLinkNest RX9 156 "ColdShips$World" "slots" "LColdShips$Spans;" "ColdShips") nzw_73)) (fun _ h9 => h9) rfl dX9_tonsMayGo_78 ?_
        refine lv_iload hx hb dX9_tonsMayGo_81 (lv_at hl 1 rfl) ?_
        refine lv_iload hx hb dX9_tonsMayGo_83 (lv_at hl 1 rfl) ?_
        refine lv_aload_n hx hb dX9_tonsMayGo_85 rfl (lv_at hl 3 rfl) ?_
        refine va_get (D := (dC, dI)) (ci := 9) (v := .int o12_x1) (C := RX9) (T := TX9) (N := 4) hx hb hts hfX9 hown hK hP q13 eq13 rfl 1 (by decide) (hts (.fieldLink RX9 25 "ColdShips$Watch" "hour" "I") wa_404) (fun _ h9 => h9) rfl dX9_tonsMayGo_86 ?_
        refine lv_aload_n hx hb dX9_tonsMayGo_89 rfl (lv_at hl 3 rfl) ?_
        refine va_get (D := (dC, dI)) (ci := 9) (v := .int o12_x1) (C := RX9) (T := TX9) (N := 4) hx hb hts hfX9 hown hK hP q13 eq13 rfl 1 (by decide) (hts (.fieldLink RX9 25 "ColdShips$Watch" "hour" "I") wa_404) (fun _ h9 => h9) rfl dX9_tonsMayGo_90 ?_
        refine tgk_7 hG y19 (fun y57 y57n y58 y58n y59 y59n => ?_)
        refine tpk_7 hT y19 (fun o60_x3 hf_o60 ro60_0 => ?_)
        refine tpk_pos (tp_in hG y19 (by decide)) hf_o60 (fun q61 eq61 => ?_)
        refine pz_calli (va_runV (As := [.int r32, .int r32, .int o12_x1, .int o12_x1]) (rest := []) ⟨hx, hb, hml, hown, hts⟩ (t_X6_meets l dC dI _ Ω κ τ ν ρ L f hG hT (ρ (ρ h0 0) 12) r32 r32 o12_x1 o12_x1 y19 o60_x3 hf_o60) (cwV 4 hts gX9_tonsMayGo_X6_meets rfl rfl rfl ⟨rfl, pd_X6_meets⟩ ⟨Nat.le_of_ble_eq_true rfl, Nat.le_of_ble_eq_true rfl⟩) ⟨pz_blind, va_recv hK hP (ci := 6) (q0 := q61) rfl eq61, pz_pre hP hK hD hN⟩ rfl rfl hl.1 rfl (lv_room (Nat.le_of_ble_eq_true rfl)) dX9_tonsMayGo_93 ⟨Nat.le_of_ble_eq_true rfl, Nat.le_of_ble_eq_true rfl⟩) (fun r62 hw63 => ?_)
        obtain ⟨hw63r, hw63p⟩ := hw63
        refine lv_if_eq (tgt := 126) hx hb dX9_tonsMayGo_96 (by decide) (fun c64 => ?_) (fun c64 => ?_)
        · have ic64 : r62.toInt = 0 := zi_eq rfl rfl c64
          refine lv_iconst (v := 0) hx hb dX9_tonsMayGo_126 (by decide) ?_
          exact W.zret (v := 0) hx hb hr rfl (fun t ht hW => ⟨0, rfl, ⟨(by first | decide | omega), trivial⟩, ht⟩) (fun _ h => by cases h) dX9_tonsMayGo_127
        · have ic64 : r62.toInt ≠ 0 := zi_eqf rfl rfl c64
          refine lv_aload_n hx hb dX9_tonsMayGo_99 rfl (lv_at hl 3 rfl) ?_
          refine va_get (D := (dC, dI)) (ci := 9) (v := .ref (ρ h0 0)) (C := RX9) (T := TX9) (N := 4) hx hb hts hfX9 hown hK hP q13 eq13 rfl 0 (by decide) (hts (.fieldLink RX9 9 "ColdShips$Watch" "world" "LColdShips$World;") wa_114) (fun _ h9 => h9) rfl dX9_tonsMayGo_100 ?_
          refine va_getN (D := (dC, dI)) (ci := 10) (v := .ref (ρ (ρ h0 0) 13)) (C := RX10) (T := TX10) (N := 19) hx hb hts hfX10 hown hK hP q27 eq27 rfl 13 (by decide) (va_Nw.use rfl (hN.1 (.fieldLinkNest RX9 166 "ColdShips$World" "breaks" "LColdShips$Spans;" "ColdShips") nzw_75)) (fun _ h9 => h9) rfl dX9_tonsMayGo_103 ?_
          refine lv_iload_n hx hb dX9_tonsMayGo_106 rfl (lv_at hl 2 rfl) ?_
          refine lv_iload_n hx hb dX9_tonsMayGo_107 rfl (lv_at hl 2 rfl) ?_
          refine lv_aload_n hx hb dX9_tonsMayGo_108 rfl (lv_at hl 3 rfl) ?_
          refine va_get (D := (dC, dI)) (ci := 9) (v := .int o12_x1) (C := RX9) (T := TX9) (N := 4) hx hb hts hfX9 hown hK hP q13 eq13 rfl 1 (by decide) (hts (.fieldLink RX9 25 "ColdShips$Watch" "hour" "I") wa_404) (fun _ h9 => h9) rfl dX9_tonsMayGo_109 ?_
          refine lv_aload_n hx hb dX9_tonsMayGo_112 rfl (lv_at hl 3 rfl) ?_
          refine va_get (D := (dC, dI)) (ci := 9) (v := .int o12_x1) (C := RX9) (T := TX9) (N := 4) hx hb hts hfX9 hown hK hP q13 eq13 rfl 1 (by decide) (hts (.fieldLink RX9 25 "ColdShips$Watch" "hour" "I") wa_404) (fun _ h9 => h9) rfl dX9_tonsMayGo_113 ?_
          refine tgk_7 hG y20 (fun y65 y65n y66 y66n y67 y67n => ?_)
          refine tpk_7 hT y20 (fun o68_x3 hf_o68 ro68_0 => ?_)
          refine tpk_pos (tp_in hG y20 (by decide)) hf_o68 (fun q69 eq69 => ?_)
          refine pz_calli (va_runV (As := [.int o8_x2, .int o8_x2, .int o12_x1, .int o12_x1]) (rest := []) ⟨hx, hb, hml, hown, hts⟩ (t_X6_meets l dC dI _ Ω κ τ ν ρ L f hG hT (ρ (ρ h0 0) 13) o8_x2 o8_x2 o12_x1 o12_x1 y20 o68_x3 hf_o68) (cwV 4 hts gX9_tonsMayGo_X6_meets rfl rfl rfl ⟨rfl, pd_X6_meets⟩ ⟨Nat.le_of_ble_eq_true rfl, Nat.le_of_ble_eq_true rfl⟩) ⟨pz_blind, va_recv hK hP (ci := 6) (q0 := q69) rfl eq69, pz_pre hP hK hD hN⟩ rfl rfl hl.1 rfl (lv_room (Nat.le_of_ble_eq_true rfl)) dX9_tonsMayGo_116 ⟨Nat.le_of_ble_eq_true rfl, Nat.le_of_ble_eq_true rfl⟩) (fun r70 hw71 => ?_)
          obtain ⟨hw71r, hw71p⟩ := hw71
          refine lv_if_ne (tgt := 126) hx hb dX9_tonsMayGo_119 (by decide) (fun c72 => ?_) (fun c72 => ?_)
          · have ic72 : r70.toInt ≠ 0 := zi_ne rfl rfl c72
            refine lv_iconst (v := 0) hx hb dX9_tonsMayGo_126 (by decide) ?_
            exact W.zret (v := 0) hx hb hr rfl (fun t ht hW => ⟨0, rfl, ⟨(by first | decide | omega), trivial⟩, ht⟩) (fun _ h => by cases h) dX9_tonsMayGo_127
          · have ic72 : r70.toInt = 0 := zi_nef rfl rfl c72
            refine lv_iconst (v := 1) hx hb dX9_tonsMayGo_122 (by decide) ?_
            refine lv_goto (tgt := 127) hx hb dX9_tonsMayGo_123 (by decide) ?_
            exact W.zret (v := 1) hx hb hr rfl (fun t ht hW => ⟨1, rfl, ⟨(by first | decide | omega), trivial⟩, ht⟩) (fun _ h => by cases h) dX9_tonsMayGo_127
    · have ic30 : r28.toInt = 0 := zi_nef rfl rfl c30
      refine lv_iconst (v := 0) hx hb dX9_tonsMayGo_23 (by decide) ?_
      exact W.zret (v := 0) hx hb hr rfl (fun t ht hW => ⟨0, rfl, ⟨(by first | decide | omega), trivial⟩, ht⟩) (fun _ h => by cases h) dX9_tonsMayGo_24
set_option maxHeartbeats 4000000 in
set_option maxRecDepth 100000 in
theorem t_X9_sail (l : Launch) (dC : Nat → ClassId) (dI : Nat → Nat → Nat) (sz : Nat) (Ω : Nat → (Nat → Nat) → va_E → Prop) (κ : Nat → ClassId) (τ ν : Nat → Nat) (ρ : Nat → Nat → Nat) (L : List Nat) (f : Nat → va_E) (hG : tp_G τ ν ρ L) (hT : tp_T Ω κ τ ν ρ f) (h0 : Nat) (h1 : Nat) (ht_h0 : τ h0 = 10) (ht_h1 : τ h1 = 6) : Met l yX9_sail wqX9_sail ({ frames := 4, cells := 0, slots := 0, locals := 1200 }) (va_Pc [.ref h0, .ref h1] (pz_B dC dI (tp_K κ) (va_pl L f) sz)) (va_Qv (fun (f1 : Nat → va_E) => tp_T Ω κ τ ν ρ f1 ∧ tp_F τ [6, 10, 20] f f1 ∧ True) (fun (f1 : Nat → va_E) (t : State) => pz_E dC dI (tp_K κ) (va_A (va_pl L f) sz) (va_pl L f1) t) (va_A (va_pl L f) sz)) 0 0 (va_A (va_pl L f) sz) := by
  refine Met.ofW (cc := cX9_sail) (maxL := 4) (ret := none) (by decide) rfl ?_
  intro p e s m args below meth c s₁ B hml hv
  obtain ⟨rfl, hsz, hP, hK, hD0, hN⟩ := hv
  have hx := B.exec
  have hb := B.bytes
  have hr := B.returns
  have hts := fun (w : Cond) (h : w ∈ WALL) => atoms_spec (ws := wqX9_sail) B.pre w (List.mem_cons_of_mem _ h)
  have hown : s.vm.findClass RX9 = some m.cls := findClass_of_methodNamed B.named
  have hlocks := B.notSynchronized
  subst hsz
  have hD := hD0.self (sz := s.heap.size)
  generalize hAe : va_A (va_pl L f) s.heap.size = A at hD ⊢
  have hA : ∀ q : Nat, s.heap.size ≤ q → A q := fun q h => by rw [← hAe]; exact Or.inr h
  have hS : va_S A s.heap s.heap [] := va_S.rf
  have hR : tp_F τ [6, 10, 20] f f := tp_F.rf
  have hl := lv_entry ([.ref h0, .ref h1]) (n := 4) (Nat.le_of_ble_eq_true rfl)
  rw [lg_entry_eq]
  generalize (lg_sl ([.ref h0, .ref h1]) ++ List.replicate (4 - (lg_sl ([.ref h0, .ref h1])).length) Slot.unset).toArray = ls at hl ⊢
  have hl : lv_has ls 4 [(0, .ref h0), (1, .ref h1)] := hl
  refine lv_aload_n hx hb dX9_sail_0 rfl (lv_at hl 1 rfl) ?_
  refine tgk_6 hG ht_h1 (fun y1 y2 y2n y3 y3n y4 y4n y5 y5n y6 y6n y7 y7n => ?_)
  refine tpk_6 hT ht_h1 (fun o8_x1 o8_x2 o8_x3 o8_x4 o8_x5 o8_x6 o8_x10 o8_x11 o8_x12 o8_x14 hf_o8 ro8_0 ro8_1 ro8_2 => ?_)
  refine tpk_pos (tp_in hG ht_h1 (by decide)) hf_o8 (fun q9 eq9 => ?_)
  refine va_getN (D := (dC, dI)) (ci := 5) (v := .ref (ρ h1 8)) (C := RX5) (T := TX5) (N := 17) hx hb hts hfX5 hown hK hP q9 eq9 rfl 8 (by decide) (va_Nw.use rfl (hN.1 (.fieldLinkNest RX9 97 "ColdShips$Ship" "orderWhats" "[I" "ColdShips") nzw_37)) (fun _ h9 => h9) rfl dX9_sail_1 ?_
  refine lv_iconst (v := 0) hx hb dX9_sail_4 (by decide) ?_
  refine tpk_20 hT y3 y3n (fun g11 hf_o10 => ?_)
  refine tpk_pos (tp_in hG y3 (by decide)) hf_o10 (fun q12 eq12 => ?_)
  refine va_iald hx hb hK hP q12 0 eq12 rfl (vp_in_iff.mpr ⟨by decide, by decide⟩) dX9_sail_5 ?_
  refine lv_topi (fun z13 ez13 => ?_)
  refine lv_istore_n (lv' := [(2, .int z13), (0, .ref h0), (1, .ref h1)]) hx hb dX9_sail_6 rfl hl (by decide) rfl (fun ls hl => ?_)
  refine lv_aload_n hx hb dX9_sail_7 rfl (lv_at hl 2 rfl) ?_
  refine va_getN (D := (dC, dI)) (ci := 5) (v := .int o8_x3) (C := RX5) (T := TX5) (N := 17) hx hb hts hfX5 hown hK hP q9 eq9 rfl 3 (by decide) (va_Nw.use rfl (hN.1 (.fieldLinkNest RX9 50 "ColdShips$Ship" "left" "I" "ColdShips") nzw_29)) (fun _ h9 => h9) rfl dX9_sail_8 ?_
  refine tp_join 71 (fun H locs ls stk => ∃ f15 : Nat → va_E, stk = [] ∧ tp_T Ω κ τ ν ρ f15 ∧ tp_F τ [6, 10, 20] f f15 ∧ va_P (dC, dI) vwCl (va_pl L f15) H ∧ va_D A (va_pl L f15) ∧ va_S A s.heap H locs ∧ lv_has ls 4 [(2, .int z13), (0, .ref h0), (1, .ref h1)]) ?_ (fun hj14 => ?_)
  · intro H locs ls stk hI
    refine Exists.elim hI (fun f15 hE90 => tn_7 hE90 (fun e90 hT hR hP hD hS hl => ?_))
    clear hE90 hI; subst e90
    refine lv_aload_n hx hb dX9_sail_71 rfl (lv_at hl 2 rfl) ?_
    refine tpk_6 hT ht_h1 (fun o16_x1 o16_x2 o16_x3 o16_x4 o16_x5 o16_x6 o16_x10 o16_x11 o16_x12 o16_x14 hf_o16 ro16_0 ro16_1 ro16_2 => ?_)
    refine tpk_pos (tp_in hG ht_h1 (by decide)) hf_o16 (fun q17 eq17 => ?_)
    refine va_getN (D := (dC, dI)) (ci := 5) (v := .int o16_x5) (C := RX5) (T := TX5) (N := 17) hx hb hts hfX5 hown hK hP q17 eq17 rfl 5 (by decide) (va_Nw.use rfl (hN.1 (.fieldLinkNest RX9 133 "ColdShips$Ship" "drifting" "Z" "ColdShips") nzw_32)) (fun _ h9 => h9) rfl dX9_sail_72 ?_
    refine tp_join 102 (fun H locs ls stk => ∃ w18 : Int32, stk = [.int w18] ∧ (0 ≤ w18.toInt ∧ w18.toInt ≤ 1) ∧ va_P (dC, dI) vwCl (va_pl L f15) H ∧ va_D A (va_pl L f15) ∧ va_S A s.heap H locs ∧ lv_has ls 4 [(2, .int z13), (0, .ref h0), (1, .ref h1)]) ?_ (fun hj19 => ?_)
    · intro H locs ls stk hI
      refine Exists.elim hI (fun w18 hE90 => tn_6 hE90 (fun e90 rw18 hP hD hS hl => ?_))
      clear hE90 hI; subst e90
      refine lv_istore_n (lv' := [(3, .int w18), (2, .int z13), (0, .ref h0), (1, .ref h1)]) hx hb dX9_sail_102 rfl hl (by decide) rfl (fun ls hl => ?_)
      refine lv_iload_n hx hb dX9_sail_103 rfl (lv_at hl 0 rfl) ?_
      refine lv_if_ne (tgt := 125) hx hb dX9_sail_104 (by decide) (fun c20 => ?_) (fun c20 => ?_)
      · have ic20 : w18.toInt ≠ 0 := zi_ne rfl rfl c20
        exact W.vret hx hb hr (fun t ht hW => ⟨⟨f15, rfl, ⟨hT, hR, trivial⟩, by rw [ht]; exact hP, va_K.moved hW.alike hK, hD⟩, hS.F ht⟩) hS.2.2 dX9_sail_125
      · have ic20 : w18.toInt = 0 := zi_nef rfl rfl c20
        refine lv_aload_n hx hb dX9_sail_107 rfl (lv_at hl 3 rfl) ?_
        refine va_getN (D := (dC, dI)) (ci := 5) (v := .int o16_x3) (C := RX5) (T := TX5) (N := 17) hx hb hts hfX5 hown hK hP q17 eq17 rfl 3 (by decide) (va_Nw.use rfl (hN.1 (.fieldLinkNest RX9 50 "ColdShips$Ship" "left" "I" "ColdShips") nzw_29)) (fun _ h9 => h9) rfl dX9_sail_108 ?_
        refine lv_aload_n hx hb dX9_sail_111 rfl (lv_at hl 3 rfl) ?_
        refine va_getN (D := (dC, dI)) (ci := 5) (v := .int o16_x4) (C := RX5) (T := TX5) (N := 17) hx hb hts hfX5 hown hK hP q17 eq17 rfl 4 (by decide) (va_Nw.use rfl (hN.1 (.fieldLinkNest RX9 130 "ColdShips$Ship" "half" "I" "ColdShips") nzw_31)) (fun _ h9 => h9) rfl dX9_sail_112 ?_
        refine tp_join 126 (fun H locs ls stk => ∃ f22 : Nat → va_E, stk = [] ∧ tp_T Ω κ τ ν ρ f22 ∧ tp_F τ [6, 10, 20] f f22 ∧ va_P (dC, dI) vwCl (va_pl L f22) H ∧ va_D A (va_pl L f22) ∧ va_S A s.heap H locs ∧ lv_has ls 4 [(3, .int w18), (2, .int z13), (0, .ref h0), (1, .ref h1)]) ?_ (fun hj21 => ?_)
        · intro H locs ls stk hI
          refine Exists.elim hI (fun f22 hE90 => tn_7 hE90 (fun e90 hT hR hP hD hS hl => ?_))
          clear hE90 hI; subst e90
          refine lv_aload_n hx hb dX9_sail_126 rfl (lv_at hl 3 rfl) ?_
          refine lv_dup hx hb dX9_sail_127 rfl ?_
          refine tpk_6 hT ht_h1 (fun o23_x1 o23_x2 o23_x3 o23_x4 o23_x5 o23_x6 o23_x10 o23_x11 o23_x12 o23_x14 hf_o23 ro23_0 ro23_1 ro23_2 => ?_)
          refine tpk_pos (tp_in hG ht_h1 (by decide)) hf_o23 (fun q24 eq24 => ?_)
          refine va_getN (D := (dC, dI)) (ci := 5) (v := .int o23_x3) (C := RX5) (T := TX5) (N := 17) hx hb hts hfX5 hown hK hP q24 eq24 rfl 3 (by decide) (va_Nw.use rfl (hN.1 (.fieldLinkNest RX9 50 "ColdShips$Ship" "left" "I" "ColdShips") nzw_29)) (fun _ h9 => h9) rfl dX9_sail_128 ?_
          refine lv_iconst (v := 1) hx hb dX9_sail_131 (by decide) ?_
          refine lv_isub hx hb dX9_sail_132 ?_
          refine lv_topi (fun z25 ez25 => ?_)
          refine va_putN (D := (dC, dI)) (ci := 5) (v := .int z25) (ty := .int) (C := RX5) (T := TX5) (N := 17) hx hb hts hfX5 tyX5 tyX5_ok nmX5 hown hK hP hD hS q24 eq24 rfl 3 (by decide) (va_Nw.use rfl (hN.1 (.fieldLinkNest RX9 50 "ColdShips$Ship" "left" "I" "ColdShips") nzw_29)) (fun _ h9 => h9) rfl (tyX5_ok 3 (by decide)) rfl rfl (Nat.le_of_ble_eq_true rfl) dX9_sail_133 (tp_k (.inr (5, [.ref (ρ h1 0), .int o23_x1, .int o23_x2, .int z25, .int o23_x4, .int o23_x5, .int o23_x6, .ref (ρ h1 7), .ref (ρ h1 8), .ref (ρ h1 9), .int o23_x10, .int o23_x11, .int o23_x12, .ref (ρ h1 13), .int o23_x14, .ref (ρ h1 15), .ref (ρ h1 16)])) hD (tp_in hG ht_h1 (by decide)) eq24 (fun f26 H locs hP hD hS g28 k27 => ?_))
          have hT := hT.up ht_h1 g28 k27 ⟨_, _, _, _, _, _, _, _, _, _, rfl, (by first | decide | omega | (omega)), (by first | decide | omega | (omega)), (by first | decide | omega | (omega))⟩
          have hR := hR.up ht_h1 (by decide) k27
          refine lv_aload_n hx hb dX9_sail_136 rfl (lv_at hl 3 rfl) ?_
          refine tpk_pos (tp_in hG ht_h1 (by decide)) g28 (fun q29 eq29 => ?_)
          refine va_getN (D := (dC, dI)) (ci := 5) (v := .int z25) (C := RX5) (T := TX5) (N := 17) hx hb hts hfX5 hown hK hP q29 eq29 rfl 3 (by decide) (va_Nw.use rfl (hN.1 (.fieldLinkNest RX9 50 "ColdShips$Ship" "left" "I" "ColdShips") nzw_29)) (fun _ h9 => h9) rfl dX9_sail_137 ?_
          refine lv_if_ne (tgt := 147) hx hb dX9_sail_140 (by decide) (fun c30 => ?_) (fun c30 => ?_)
          · have ic30 : z25.toInt ≠ 0 := zi_ne rfl rfl c30
            exact W.vret hx hb hr (fun t ht hW => ⟨⟨f26, rfl, ⟨hT, hR, trivial⟩, by rw [ht]; exact hP, va_K.moved hW.alike hK, hD⟩, hS.F ht⟩) hS.2.2 dX9_sail_147
          · have ic30 : z25.toInt = 0 := zi_nef rfl rfl c30
            refine lv_aload_n hx hb dX9_sail_143 rfl (lv_at hl 3 rfl) ?_
            have hFc := tp_fr hD hS hA
            refine va_callv (va_runV (As := []) (rest := []) ⟨hx, hb, hml, hown, hts⟩ (t_X5_endOrder l dC dI _ Ω κ τ ν ρ L f26 hG hT h1 ht_h1) (cwV 0 hts gX9_sail_X5_endOrder rfl rfl rfl ⟨rfl, pd_X5_endOrder⟩ ⟨Nat.le_of_ble_eq_true rfl, Nat.le_of_ble_eq_true rfl⟩) ⟨pz_blind, va_recv hK hP (ci := 5) (q0 := q29) rfl eq29, pz_pre hP hK hD hN⟩ rfl rfl hl.1 rfl (lv_room (Nat.le_of_ble_eq_true rfl)) dX9_sail_144 ⟨Nat.le_of_ble_eq_true rfl, Nat.le_of_ble_eq_true rfl⟩) hS (fun q _ h => hFc q h) hFc (fun f33 t H1 locs ht hvm hw32 hB hz1 hk1 hS => ?_)
            refine tn_3 hw32 (fun hT hF34 hw32p => ?_); clear hw32
            have hR := hR.then hF34 (by decide)
            have hP := hB.1; rw [ht] at hP; have hD := tp_ad f33 hD; clear hB hFc hz1 hk1; subst ht; generalize t.heap = H at hP hS ⊢
            exact W.vret hx hb hr (fun t ht hW => ⟨⟨f33, rfl, ⟨hT, hR, trivial⟩, by rw [ht]; exact hP, va_K.moved hW.alike hK, hD⟩, hS.F ht⟩) hS.2.2 dX9_sail_147
        · refine lv_icmp_ne (tgt := 126) hx hb dX9_sail_115 (by decide) (fun c35 => ?_) (fun c35 => ?_)
          · have ic35 : o16_x3.toInt ≠ o16_x4.toInt := zi_ne rfl rfl c35
            exact hj21 _ _ _ _ ⟨f15, rfl, hT, hR, hP, hD, hS, lv_sub hl [0, 1, 2, 3] rfl⟩
          · have ic35 : o16_x3.toInt = o16_x4.toInt := zi_nef rfl rfl c35
            refine lv_aload_n hx hb dX9_sail_118 rfl (lv_at hl 2 rfl) ?_
            have y36 := tpg_10 hG ht_h0
            refine tpk_10 hT ht_h0 (fun o37_x1 o37_x2 o37_x3 hf_o37 ro37_0 ro37_1 => ?_)
            refine tpk_pos (tp_in hG ht_h0 (by decide)) hf_o37 (fun q38 eq38 => ?_)
            have hFc := tp_fr hD hS hA
            refine va_calli (va_runV (As := []) (rest := []) ⟨hx, hb, hml, hown, hts⟩ (t_X9_takesTurn l dC dI _ Ω κ τ ν ρ L f15 hG hT h0 ht_h0) (cwV 0 hts gX9_sail_X9_takesTurn rfl rfl rfl ⟨rfl, pd_X9_takesTurn⟩ ⟨Nat.le_of_ble_eq_true rfl, Nat.le_of_ble_eq_true rfl⟩) ⟨pz_blind, va_recv hK hP (ci := 9) (q0 := q38) rfl eq38, pz_pre hP hK hD hN⟩ rfl rfl hl.1 rfl (lv_room (Nat.le_of_ble_eq_true rfl)) dX9_sail_119 ⟨Nat.le_of_ble_eq_true rfl, Nat.le_of_ble_eq_true rfl⟩) hS (fun q _ h => hFc q h) hFc (fun r39 f41 t H1 locs ht hvm hw40 hB hz1 hk1 hS => ?_)
            refine tn_4 hw40 (fun hT hF42 hw40r hw40p => ?_); clear hw40
            have hR := hR.then hF42 (by decide)
            have hP := hB.1; rw [ht] at hP; have hD := tp_ad f41 hD; clear hB hFc hz1 hk1; subst ht; generalize t.heap = H at hP hS ⊢
            refine lv_if_ne (tgt := 126) hx hb dX9_sail_122 (by decide) (fun c43 => ?_) (fun c43 => ?_)
            · have ic43 : r39.toInt ≠ 0 := zi_ne rfl rfl c43
              exact hj21 _ _ _ _ ⟨f41, rfl, hT, hR, hP, hD, hS, lv_sub hl [0, 1, 2, 3] rfl⟩
            · have ic43 : r39.toInt = 0 := zi_nef rfl rfl c43
              exact W.vret hx hb hr (fun t ht hW => ⟨⟨f41, rfl, ⟨hT, hR, trivial⟩, by rw [ht]; exact hP, va_K.moved hW.alike hK, hD⟩, hS.F ht⟩) hS.2.2 dX9_sail_125
    · refine lv_if_ne (tgt := 97) hx hb dX9_sail_75 (by decide) (fun c44 => ?_) (fun c44 => ?_)
      · have ic44 : o16_x5.toInt ≠ 0 := zi_ne rfl rfl c44
        refine lv_iconst (v := 1) hx hb dX9_sail_97 (by decide) ?_
        refine lv_goto (tgt := 102) hx hb dX9_sail_98 (by decide) ?_
        exact hj19 _ _ _ _ ⟨1, rfl, (by have : (1 : Int32).toInt = 1 := rfl; omega), hP, hD, hS, lv_sub hl [0, 1, 2] rfl⟩
      · have ic44 : o16_x5.toInt = 0 := zi_nef rfl rfl c44
        refine lv_aload_n hx hb dX9_sail_78 rfl (lv_at hl 1 rfl) ?_
        have y45 := tpg_10 hG ht_h0
        refine tpk_10 hT ht_h0 (fun o46_x1 o46_x2 o46_x3 hf_o46 ro46_0 ro46_1 => ?_)
        refine tpk_pos (tp_in hG ht_h0 (by decide)) hf_o46 (fun q47 eq47 => ?_)
        refine va_get (D := (dC, dI)) (ci := 9) (v := .int o46_x2) (C := RX9) (T := TX9) (N := 4) hx hb hts hfX9 hown hK hP q47 eq47 rfl 2 (by decide) (hts (.fieldLink RX9 32 "ColdShips$Watch" "sea" "I") wa_405) (fun _ h9 => h9) rfl dX9_sail_79 ?_
        refine lv_bipush (v := 6) hx hb dX9_sail_82 (by decide) ?_
        refine lv_icmp_le (tgt := 101) hx hb dX9_sail_84 (by decide) (fun c48 => ?_) (fun c48 => ?_)
        · have ic48 : o46_x2.toInt ≤ 6 := zi_le rfl rfl c48
          refine lv_iconst (v := 0) hx hb dX9_sail_101 (by decide) ?_
          exact hj19 _ _ _ _ ⟨0, rfl, (by have : (0 : Int32).toInt = 0 := rfl; omega), hP, hD, hS, lv_sub hl [0, 1, 2] rfl⟩
        · have ic48 : o46_x2.toInt > 6 := zi_lef rfl rfl c48
          refine lv_aload_n hx hb dX9_sail_87 rfl (lv_at hl 1 rfl) ?_
          refine va_get (D := (dC, dI)) (ci := 9) (v := .int o46_x1) (C := RX9) (T := TX9) (N := 4) hx hb hts hfX9 hown hK hP q47 eq47 rfl 1 (by decide) (hts (.fieldLink RX9 25 "ColdShips$Watch" "hour" "I") wa_404) (fun _ h9 => h9) rfl dX9_sail_88 ?_
          refine lv_iconst (v := 2) hx hb dX9_sail_91 (by decide) ?_
          refine lv_irem hx hb dX9_sail_92 (by decide) ?_
          refine lv_topi (fun z49 ez49 => ?_)
          have iz49 : z49.toInt = o46_x1.toInt % 2 := zi_rem ez49 rfl (show (2 : Int32).toInt = 2 from rfl) (by omega) (by omega)
          refine lv_iconst (v := 1) hx hb dX9_sail_93 (by decide) ?_
          refine lv_icmp_ne (tgt := 101) hx hb dX9_sail_94 (by decide) (fun c50 => ?_) (fun c50 => ?_)
          · have ic50 : z49.toInt ≠ 1 := zi_ne rfl rfl c50
            refine lv_iconst (v := 0) hx hb dX9_sail_101 (by decide) ?_
            exact hj19 _ _ _ _ ⟨0, rfl, (by have : (0 : Int32).toInt = 0 := rfl; omega), hP, hD, hS, lv_sub hl [0, 1, 2] rfl⟩
          · have ic50 : z49.toInt = 1 := zi_nef rfl rfl c50
            refine lv_iconst (v := 1) hx hb dX9_sail_97 (by decide) ?_
            refine lv_goto (tgt := 102) hx hb dX9_sail_98 (by decide) ?_
            exact hj19 _ _ _ _ ⟨1, rfl, (by have : (1 : Int32).toInt = 1 := rfl; omega), hP, hD, hS, lv_sub hl [0, 1, 2] rfl⟩
  · refine lv_if_ne (tgt := 71) hx hb dX9_sail_11 (by decide) (fun c51 => ?_) (fun c51 => ?_)
    · have ic51 : o8_x3.toInt ≠ 0 := zi_ne rfl rfl c51
      exact hj14 _ _ _ _ ⟨f, rfl, hT, hR, hP, hD, hS, lv_sub hl [0, 1, 2] rfl⟩
    · have ic51 : o8_x3.toInt = 0 := zi_nef rfl rfl c51
      refine lv_aload_n hx hb dX9_sail_14 rfl (lv_at hl 1 rfl) ?_
      have y52 := tpg_10 hG ht_h0
      refine tpk_10 hT ht_h0 (fun o53_x1 o53_x2 o53_x3 hf_o53 ro53_0 ro53_1 => ?_)
      refine tpk_pos (tp_in hG ht_h0 (by decide)) hf_o53 (fun q54 eq54 => ?_)
      refine va_get (D := (dC, dI)) (ci := 9) (v := .ref (ρ h0 0)) (C := RX9) (T := TX9) (N := 4) hx hb hts hfX9 hown hK hP q54 eq54 rfl 0 (by decide) (hts (.fieldLink RX9 9 "ColdShips$Watch" "world" "LColdShips$World;") wa_114) (fun _ h9 => h9) rfl dX9_sail_15 ?_
      refine lv_aload_n hx hb dX9_sail_18 rfl (lv_at hl 2 rfl) ?_
      refine va_getN (D := (dC, dI)) (ci := 5) (v := .int o8_x2) (C := RX5) (T := TX5) (N := 17) hx hb hts hfX5 hown hK hP q9 eq9 rfl 2 (by decide) (va_Nw.use rfl (hN.1 (.fieldLinkNest RX9 114 "ColdShips$Ship" "where" "I" "ColdShips") nzw_27)) (fun _ h9 => h9) rfl dX9_sail_19 ?_
      refine lv_iload_n hx hb dX9_sail_22 rfl (lv_at hl 0 rfl) ?_
      refine tgk_11 hG y52 (fun y55 y55n y56 y56n y57 y58 y59 y60 y61 y62 y63 y63w y63m y64 y64w y64m y65 y65w y65m y66 y66w y66m => ?_)
      refine tpk_11 hT y52 (fun o67_x0 o67_x1 o67_x2 o67_x3 o67_x4 o67_x5 o67_x6 hf_o67 ro67_0 ro67_1 ro67_2 ro67_3 => ?_)
      refine tpk_pos (tp_in hG y52 (by decide)) hf_o67 (fun q68 eq68 => ?_)
      refine pz_calli (va_runV (As := [.int o8_x2, .int z13]) (rest := []) ⟨hx, hb, hml, hown, hts⟩ (t_X10_hoursBetween l dC dI _ Ω κ τ ν ρ L f hG hT (ρ h0 0) o8_x2 z13 y52 o67_x0 o67_x1 o67_x2 o67_x3 o67_x4 o67_x5 o67_x6 hf_o67) (cwV 2 hts gX9_sail_X10_hoursBetween rfl rfl rfl ⟨rfl, pd_X10_hoursBetween⟩ ⟨Nat.le_of_ble_eq_true rfl, Nat.le_of_ble_eq_true rfl⟩) ⟨pz_blind, va_recv hK hP (ci := 10) (q0 := q68) rfl eq68, pz_pre hP hK hD hN⟩ rfl rfl hl.1 rfl (lv_room (Nat.le_of_ble_eq_true rfl)) dX9_sail_23 ⟨Nat.le_of_ble_eq_true rfl, Nat.le_of_ble_eq_true rfl⟩) (fun r69 hw70 => ?_)
      obtain ⟨hw70r, hw70p⟩ := hw70
      refine lv_istore_n (lv' := [(3, .int r69), (2, .int z13), (0, .ref h0), (1, .ref h1)]) hx hb dX9_sail_26 rfl hl (by decide) rfl (fun ls hl => ?_)
      refine lv_iload_n hx hb dX9_sail_27 rfl (lv_at hl 0 rfl) ?_
      refine tp_join 35 (fun H locs ls stk => ∃ f72 : Nat → va_E, stk = [] ∧ tp_T Ω κ τ ν ρ f72 ∧ tp_F τ [6, 10, 20] f f72 ∧ va_P (dC, dI) vwCl (va_pl L f72) H ∧ va_D A (va_pl L f72) ∧ va_S A s.heap H locs ∧ lv_has ls 4 [(3, .int r69), (2, .int z13), (0, .ref h0), (1, .ref h1)]) ?_ (fun hj71 => ?_)
      · intro H locs ls stk hI
        refine Exists.elim hI (fun f72 hE90 => tn_7 hE90 (fun e90 hT hR hP hD hS hl => ?_))
        clear hE90 hI; subst e90
        refine lv_iload_n hx hb dX9_sail_35 rfl (lv_at hl 0 rfl) ?_
        refine lv_if_gt (tgt := 40) hx hb dX9_sail_36 (by decide) (fun c73 => ?_) (fun c73 => ?_)
        · have ic73 : r69.toInt > 0 := zi_gt rfl rfl c73
          have p74 : 0 ≤ o8_x2.toInt ∧ o8_x2.toInt ≤ 5 ∧ 0 ≤ z13.toInt ∧ z13.toInt ≤ 5 := hw70p (by omega)
          refine lv_aload_n hx hb dX9_sail_40 rfl (lv_at hl 3 rfl) ?_
          refine lv_aload_n hx hb dX9_sail_41 rfl (lv_at hl 2 rfl) ?_
          refine tpk_10 hT ht_h0 (fun o75_x1 o75_x2 o75_x3 hf_o75 ro75_0 ro75_1 => ?_)
          refine tpk_pos (tp_in hG ht_h0 (by decide)) hf_o75 (fun q76 eq76 => ?_)
          refine va_get (D := (dC, dI)) (ci := 9) (v := .ref (ρ h0 0)) (C := RX9) (T := TX9) (N := 4) hx hb hts hfX9 hown hK hP q76 eq76 rfl 0 (by decide) (hts (.fieldLink RX9 9 "ColdShips$Watch" "world" "LColdShips$World;") wa_114) (fun _ h9 => h9) rfl dX9_sail_42 ?_
          refine tpk_11 hT y52 (fun o77_x0 o77_x1 o77_x2 o77_x3 o77_x4 o77_x5 o77_x6 hf_o77 ro77_0 ro77_1 ro77_2 ro77_3 => ?_)
          refine tpk_pos (tp_in hG y52 (by decide)) hf_o77 (fun q78 eq78 => ?_)
          refine va_getN (D := (dC, dI)) (ci := 10) (v := .ref (ρ (ρ h0 0) 9)) (C := RX10) (T := TX10) (N := 19) hx hb hts hfX10 hown hK hP q78 eq78 rfl 9 (by decide) (va_Nw.use rfl (hN.1 (.fieldLinkNest RX9 121 "ColdShips$World" "terminals" "[LColdShips$Terminal;" "ColdShips") nzw_66)) (fun _ h9 => h9) rfl dX9_sail_45 ?_
          refine lv_aload_n hx hb dX9_sail_48 rfl (lv_at hl 3 rfl) ?_
          refine tpk_6 hT ht_h1 (fun o79_x1 o79_x2 o79_x3 o79_x4 o79_x5 o79_x6 o79_x10 o79_x11 o79_x12 o79_x14 hf_o79 ro79_0 ro79_1 ro79_2 => ?_)
          refine tpk_pos (tp_in hG ht_h1 (by decide)) hf_o79 (fun q80 eq80 => ?_)
          refine va_getN (D := (dC, dI)) (ci := 5) (v := .int o79_x2) (C := RX5) (T := TX5) (N := 17) hx hb hts hfX5 hown hK hP q80 eq80 rfl 2 (by decide) (va_Nw.use rfl (hN.1 (.fieldLinkNest RX9 114 "ColdShips$Ship" "where" "I" "ColdShips") nzw_27)) (fun _ h9 => h9) rfl dX9_sail_49 ?_
          refine tpk_24 hT y57 (fun g82 hf_o81 hf_o81e => ?_)
          refine tpk_pos (tp_in hG y57 (by decide)) hf_o81 (fun q83 eq83 => ?_)
          refine va_aldq hx hb hK hP q83 4 eq83 rfl (vp_in_iff.mpr ⟨by omega, by omega⟩) dX9_sail_52 ?_
          obtain ⟨b84, hb85⟩ : ∃ b : Nat, b = ρ (ρ (ρ h0 0) 9) o79_x2.toNatClampNeg := ⟨_, rfl⟩
          have hb85t : τ b84 = 9 := by rw [hb85]; exact tpg_24 hG y57 _ (zi_cl (vp_in_iff.mpr ⟨by omega, by omega⟩))
          have hb85g : g82 o79_x2.toNatClampNeg = some b84 := by rw [hb85]; exact hf_o81e _ (zi_cl (vp_in_iff.mpr ⟨by omega, by omega⟩))
          refine W.eq (g2 := F0 m 53 ls (.ref b84 :: [.ref h1])) (congrArg (fun o => F0 m 53 ls (va_rf o :: [.ref h1])) hb85g) ?_
          refine tgk_9 hG hb85t (fun y86 y86n y87 y87n => ?_)
          refine tpk_9 hT hb85t (fun o88_x0 o88_x1 o88_x2 o88_x3 o88_x4 hf_o88 ro88_0 => ?_)
          refine tpk_pos (tp_in hG hb85t (by decide)) hf_o88 (fun q89 eq89 => ?_)
          refine va_getN (D := (dC, dI)) (ci := 8) (v := .ref (ρ b84 6)) (C := RX8) (T := TX8) (N := 7) hx hb hts hfX8 hown hK hP q89 eq89 rfl 6 (by decide) (va_Nw.use rfl (hN.1 (.fieldLinkNest RX9 125 "ColdShips$Terminal" "wayHalf" "[I" "ColdShips") nzw_13)) (fun _ h9 => h9) rfl dX9_sail_53 ?_
          refine lv_iload_n hx hb dX9_sail_56 rfl (lv_at hl 1 rfl) ?_
          refine tpk_20 hT y87 y87n (fun g91 hf_o90 => ?_)
          refine tpk_pos (tp_in hG y87 (by decide)) hf_o90 (fun q92 eq92 => ?_)
          refine va_iald hx hb hK hP q92 0 eq92 rfl (vp_in_iff.mpr ⟨by omega, by omega⟩) dX9_sail_57 ?_
          refine lv_topi (fun z93 ez93 => ?_)
          refine va_putN (D := (dC, dI)) (ci := 5) (v := .int z93) (ty := .int) (C := RX5) (T := TX5) (N := 17) hx hb hts hfX5 tyX5 tyX5_ok nmX5 hown hK hP hD hS q80 eq80 rfl 4 (by decide) (va_Nw.use rfl (hN.1 (.fieldLinkNest RX9 130 "ColdShips$Ship" "half" "I" "ColdShips") nzw_31)) (fun _ h9 => h9) rfl (tyX5_ok 4 (by decide)) rfl rfl (Nat.le_of_ble_eq_true rfl) dX9_sail_58 (tp_k (.inr (5, [.ref (ρ h1 0), .int o79_x1, .int o79_x2, .int o79_x3, .int z93, .int o79_x5, .int o79_x6, .ref (ρ h1 7), .ref (ρ h1 8), .ref (ρ h1 9), .int o79_x10, .int o79_x11, .int o79_x12, .ref (ρ h1 13), .int o79_x14, .ref (ρ h1 15), .ref (ρ h1 16)])) hD (tp_in hG ht_h1 (by decide)) eq80 (fun f94 H locs hP hD hS g96 k95 => ?_))
          have hT := hT.up ht_h1 g96 k95 ⟨_, _, _, _, _, _, _, _, _, _, rfl, (by first | decide | omega | (omega)), (by first | decide | omega | (omega)), (by first | decide | omega | (omega))⟩
          have hR := hR.up ht_h1 (by decide) k95
          refine lv_aload_n hx hb dX9_sail_61 rfl (lv_at hl 3 rfl) ?_
          refine lv_iload_n hx hb dX9_sail_62 rfl (lv_at hl 0 rfl) ?_
          refine tpk_pos (tp_in hG ht_h1 (by decide)) g96 (fun q97 eq97 => ?_)
          refine va_putN (D := (dC, dI)) (ci := 5) (v := .int r69) (ty := .int) (C := RX5) (T := TX5) (N := 17) hx hb hts hfX5 tyX5 tyX5_ok nmX5 hown hK hP hD hS q97 eq97 rfl 3 (by decide) (va_Nw.use rfl (hN.1 (.fieldLinkNest RX9 50 "ColdShips$Ship" "left" "I" "ColdShips") nzw_29)) (fun _ h9 => h9) rfl (tyX5_ok 3 (by decide)) rfl rfl (Nat.le_of_ble_eq_true rfl) dX9_sail_63 (tp_k (.inr (5, [.ref (ρ h1 0), .int o79_x1, .int o79_x2, .int r69, .int z93, .int o79_x5, .int o79_x6, .ref (ρ h1 7), .ref (ρ h1 8), .ref (ρ h1 9), .int o79_x10, .int o79_x11, .int o79_x12, .ref (ρ h1 13), .int o79_x14, .ref (ρ h1 15), .ref (ρ h1 16)])) hD (tp_in hG ht_h1 (by decide)) eq97 (fun f98 H locs hP hD hS g100 k99 => ?_))
          have hT := hT.up ht_h1 g100 k99 ⟨_, _, _, _, _, _, _, _, _, _, rfl, (by first | decide | omega | (omega)), (by first | decide | omega | (omega)), (by first | decide | omega | (omega))⟩
          have hR := hR.up ht_h1 (by decide) k99
          refine lv_aload_n hx hb dX9_sail_66 rfl (lv_at hl 3 rfl) ?_
          refine lv_iload_n hx hb dX9_sail_67 rfl (lv_at hl 1 rfl) ?_
          refine tpk_pos (tp_in hG ht_h1 (by decide)) g100 (fun q101 eq101 => ?_)
          refine va_putN (D := (dC, dI)) (ci := 5) (v := .int z13) (ty := .int) (C := RX5) (T := TX5) (N := 17) hx hb hts hfX5 tyX5 tyX5_ok nmX5 hown hK hP hD hS q101 eq101 rfl 2 (by decide) (va_Nw.use rfl (hN.1 (.fieldLinkNest RX9 114 "ColdShips$Ship" "where" "I" "ColdShips") nzw_27)) (fun _ h9 => h9) rfl (tyX5_ok 2 (by decide)) rfl rfl (Nat.le_of_ble_eq_true rfl) dX9_sail_68 (tp_k (.inr (5, [.ref (ρ h1 0), .int o79_x1, .int z13, .int r69, .int z93, .int o79_x5, .int o79_x6, .ref (ρ h1 7), .ref (ρ h1 8), .ref (ρ h1 9), .int o79_x10, .int o79_x11, .int o79_x12, .ref (ρ h1 13), .int o79_x14, .ref (ρ h1 15), .ref (ρ h1 16)])) hD (tp_in hG ht_h1 (by decide)) eq101 (fun f102 H locs hP hD hS g104 k103 => ?_))
          have hT := hT.up ht_h1 g104 k103 ⟨_, _, _, _, _, _, _, _, _, _, rfl, (by first | decide | omega | (omega)), (by first | decide | omega | (omega)), (by first | decide | omega | (omega))⟩
          have hR := hR.up ht_h1 (by decide) k103
          exact hj14 _ _ _ _ ⟨f102, rfl, hT, hR, hP, hD, hS, lv_sub hl [1, 2, 3] rfl⟩
        · have ic73 : r69.toInt ≤ 0 := zi_gtf rfl rfl c73
          exact W.vret hx hb hr (fun t ht hW => ⟨⟨f72, rfl, ⟨hT, hR, trivial⟩, by rw [ht]; exact hP, va_K.moved hW.alike hK, hD⟩, hS.F ht⟩) hS.2.2 dX9_sail_39
      · refine lv_if_ne (tgt := 35) hx hb dX9_sail_28 (by decide) (fun c105 => ?_) (fun c105 => ?_)
        · have ic105 : r69.toInt ≠ 0 := zi_ne rfl rfl c105
          exact hj71 _ _ _ _ ⟨f, rfl, hT, hR, hP, hD, hS, lv_sub hl [0, 1, 2, 3] rfl⟩
        · have ic105 : r69.toInt = 0 := zi_nef rfl rfl c105
          have p106 : 0 ≤ o8_x2.toInt ∧ o8_x2.toInt ≤ 5 ∧ 0 ≤ z13.toInt ∧ z13.toInt ≤ 5 := hw70p (by omega)
          refine lv_aload_n hx hb dX9_sail_31 rfl (lv_at hl 3 rfl) ?_
          have hFc := tp_fr hD hS hA
          refine va_callv (va_runV (As := []) (rest := []) ⟨hx, hb, hml, hown, hts⟩ (t_X5_endOrder l dC dI _ Ω κ τ ν ρ L f hG hT h1 ht_h1) (cwV 0 hts gX9_sail_X5_endOrder rfl rfl rfl ⟨rfl, pd_X5_endOrder⟩ ⟨Nat.le_of_ble_eq_true rfl, Nat.le_of_ble_eq_true rfl⟩) ⟨pz_blind, va_recv hK hP (ci := 5) (q0 := q9) rfl eq9, pz_pre hP hK hD hN⟩ rfl rfl hl.1 rfl (lv_room (Nat.le_of_ble_eq_true rfl)) dX9_sail_32 ⟨Nat.le_of_ble_eq_true rfl, Nat.le_of_ble_eq_true rfl⟩) hS (fun q _ h => hFc q h) hFc (fun f109 t H1 locs ht hvm hw108 hB hz1 hk1 hS => ?_)
          refine tn_3 hw108 (fun hT hF110 hw108p => ?_); clear hw108
          have hR := hR.then hF110 (by decide)
          have hP := hB.1; rw [ht] at hP; have hD := tp_ad f109 hD; clear hB hFc hz1 hk1; subst ht; generalize t.heap = H at hP hS ⊢
          exact hj71 _ _ _ _ ⟨f109, rfl, hT, hR, hP, hD, hS, lv_sub hl [0, 1, 2, 3] rfl⟩
set_option maxHeartbeats 4000000 in
set_option maxRecDepth 100000 in
theorem t_X9_load (l : Launch) (dC : Nat → ClassId) (dI : Nat → Nat → Nat) (sz : Nat) (Ω : Nat → (Nat → Nat) → va_E → Prop) (κ : Nat → ClassId) (τ ν : Nat → Nat) (ρ : Nat → Nat → Nat) (L : List Nat) (f : Nat → va_E) (hG : tp_G τ ν ρ L) (hT : tp_T Ω κ τ ν ρ f) (h0 : Nat) (h1 : Nat) (ht_h0 : τ h0 = 10) (ht_h1 : τ h1 = 6) : Met l yX9_load wqX9_load ({ frames := 3, cells := 0, slots := 0, locals := 800 }) (va_Pc [.ref h0, .ref h1] (pz_B dC dI (tp_K κ) (va_pl L f) sz)) (va_Qv (fun (f1 : Nat → va_E) => tp_T Ω κ τ ν ρ f1 ∧ tp_F τ [6, 8, 9, 20, 21] f f1 ∧ True) (fun (f1 : Nat → va_E) (t : State) => pz_E dC dI (tp_K κ) (va_A (va_pl L f) sz) (va_pl L f1) t) (va_A (va_pl L f) sz)) 0 0 (va_A (va_pl L f) sz) := by
  refine Met.ofW (cc := cX9_load) (maxL := 6) (ret := none) (by decide) rfl ?_
  intro p e s m args below meth c s₁ B hml hv
  obtain ⟨rfl, hsz, hP, hK, hD0, hN⟩ := hv
  have hx := B.exec
  have hb := B.bytes
  have hr := B.returns
  have hts := fun (w : Cond) (h : w ∈ WALL) => atoms_spec (ws := wqX9_load) B.pre w (List.mem_cons_of_mem _ h)
  have hown : s.vm.findClass RX9 = some m.cls := findClass_of_methodNamed B.named
  have hlocks := B.notSynchronized
  subst hsz
  have hD := hD0.self (sz := s.heap.size)
  generalize hAe : va_A (va_pl L f) s.heap.size = A at hD ⊢
  have hA : ∀ q : Nat, s.heap.size ≤ q → A q := fun q h => by rw [← hAe]; exact Or.inr h
  have hS : va_S A s.heap s.heap [] := va_S.rf
  have hR : tp_F τ [6, 8, 9, 20, 21] f f := tp_F.rf
  have hl := lv_entry ([.ref h0, .ref h1]) (n := 6) (Nat.le_of_ble_eq_true rfl)
  rw [lg_entry_eq]
  generalize (lg_sl ([.ref h0, .ref h1]) ++ List.replicate (6 - (lg_sl ([.ref h0, .ref h1])).length) Slot.unset).toArray = ls at hl ⊢
  have hl : lv_has ls 6 [(0, .ref h0), (1, .ref h1)] := hl
  refine lv_aload_n hx hb dX9_load_0 rfl (lv_at hl 0 rfl) ?_
  have y1 := tpg_10 hG ht_h0
  refine tpk_10 hT ht_h0 (fun o2_x1 o2_x2 o2_x3 hf_o2 ro2_0 ro2_1 => ?_)
  refine tpk_pos (tp_in hG ht_h0 (by decide)) hf_o2 (fun q3 eq3 => ?_)
  refine va_get (D := (dC, dI)) (ci := 9) (v := .ref (ρ h0 0)) (C := RX9) (T := TX9) (N := 4) hx hb hts hfX9 hown hK hP q3 eq3 rfl 0 (by decide) (hts (.fieldLink RX9 9 "ColdShips$Watch" "world" "LColdShips$World;") wa_114) (fun _ h9 => h9) rfl dX9_load_1 ?_
  refine tgk_11 hG y1 (fun y4 y4n y5 y5n y6 y7 y8 y9 y10 y11 y12 y12w y12m y13 y13w y13m y14 y14w y14m y15 y15w y15m => ?_)
  refine tpk_11 hT y1 (fun o16_x0 o16_x1 o16_x2 o16_x3 o16_x4 o16_x5 o16_x6 hf_o16 ro16_0 ro16_1 ro16_2 ro16_3 => ?_)
  refine tpk_pos (tp_in hG y1 (by decide)) hf_o16 (fun q17 eq17 => ?_)
  refine va_getN (D := (dC, dI)) (ci := 10) (v := .ref (ρ (ρ h0 0) 9)) (C := RX10) (T := TX10) (N := 19) hx hb hts hfX10 hown hK hP q17 eq17 rfl 9 (by decide) (va_Nw.use rfl (hN.1 (.fieldLinkNest RX9 121 "ColdShips$World" "terminals" "[LColdShips$Terminal;" "ColdShips") nzw_66)) (fun _ h9 => h9) rfl dX9_load_4 ?_
  refine lv_aload_n hx hb dX9_load_7 rfl (lv_at hl 1 rfl) ?_
  refine tgk_6 hG ht_h1 (fun y18 y19 y19n y20 y20n y21 y21n y22 y22n y23 y23n y24 y24n => ?_)
  refine tpk_6 hT ht_h1 (fun o25_x1 o25_x2 o25_x3 o25_x4 o25_x5 o25_x6 o25_x10 o25_x11 o25_x12 o25_x14 hf_o25 ro25_0 ro25_1 ro25_2 => ?_)
  refine tpk_pos (tp_in hG ht_h1 (by decide)) hf_o25 (fun q26 eq26 => ?_)
  refine va_getN (D := (dC, dI)) (ci := 5) (v := .int o25_x2) (C := RX5) (T := TX5) (N := 17) hx hb hts hfX5 hown hK hP q26 eq26 rfl 2 (by decide) (va_Nw.use rfl (hN.1 (.fieldLinkNest RX9 114 "ColdShips$Ship" "where" "I" "ColdShips") nzw_27)) (fun _ h9 => h9) rfl dX9_load_8 ?_
  refine tpk_24 hT y6 (fun g28 hf_o27 hf_o27e => ?_)
  refine tpk_pos (tp_in hG y6 (by decide)) hf_o27 (fun q29 eq29 => ?_)
  refine va_aldq hx hb hK hP q29 4 eq29 rfl (vp_in_iff.mpr ⟨by omega, by omega⟩) dX9_load_11 ?_
  obtain ⟨b30, hb31⟩ : ∃ b : Nat, b = ρ (ρ (ρ h0 0) 9) o25_x2.toNatClampNeg := ⟨_, rfl⟩
  have hb31t : τ b30 = 9 := by rw [hb31]; exact tpg_24 hG y6 _ (zi_cl (vp_in_iff.mpr ⟨by omega, by omega⟩))
  have hb31g : g28 o25_x2.toNatClampNeg = some b30 := by rw [hb31]; exact hf_o27e _ (zi_cl (vp_in_iff.mpr ⟨by omega, by omega⟩))
  refine W.eq (g2 := F0 m 12 ls (.ref b30 :: [])) (congrArg (fun o => F0 m 12 ls (va_rf o :: [])) hb31g) ?_
  refine lv_astore_n (lv' := [(2, .ref b30), (0, .ref h0), (1, .ref h1)]) hx hb dX9_load_12 rfl hl (by decide) rfl (fun ls hl => ?_)
  refine lv_aload_n hx hb dX9_load_13 rfl (lv_at hl 2 rfl) ?_
  refine va_getN (D := (dC, dI)) (ci := 5) (v := .ref (ρ h1 0)) (C := RX5) (T := TX5) (N := 17) hx hb hts hfX5 hown hK hP q26 eq26 rfl 0 (by decide) (va_Nw.use rfl (hN.1 (.fieldLinkNest RX9 55 "ColdShips$Ship" "tank" "LColdShips$Tank;" "ColdShips") nzw_21)) (fun _ h9 => h9) rfl dX9_load_14 ?_
  refine tgk_8 hG y18 (fun y32 y32n y33 y33n y34 y34n => ?_)
  refine tpk_8 hT y18 (fun o35_x0 o35_x1 o35_x2 o35_x3 hf_o35 ro35_0 => ?_)
  refine tpk_pos (tp_in hG y18 (by decide)) hf_o35 (fun q36 eq36 => ?_)
  refine va_getN (D := (dC, dI)) (ci := 7) (v := .int o35_x3) (C := RX7) (T := TX7) (N := 7) hx hb hts hfX7 hown hK hP q36 eq36 rfl 3 (by decide) (va_Nw.use rfl (hN.1 (.fieldLinkNest RX9 169 "ColdShips$Tank" "warm" "I" "ColdShips") nzw_17)) (fun _ h9 => h9) rfl dX9_load_17 ?_
  refine lv_sipush (v := 200) hx hb dX9_load_20 (by decide) ?_
  refine tp_join 43 (fun H locs ls stk => ∃ w37 : Int32, stk = [.int w37] ∧ (1 ≤ w37.toInt) ∧ va_P (dC, dI) vwCl (va_pl L f) H ∧ va_D A (va_pl L f) ∧ va_S A s.heap H locs ∧ lv_has ls 6 [(2, .ref b30), (0, .ref h0), (1, .ref h1)]) ?_ (fun hj38 => ?_)
  · intro H locs ls stk hI
    refine Exists.elim hI (fun w37 hE90 => tn_6 hE90 (fun e90 rw37 hP hD hS hl => ?_))
    clear hE90 hI; subst e90
    refine lv_istore_n (lv' := [(3, .int w37), (2, .ref b30), (0, .ref h0), (1, .ref h1)]) hx hb dX9_load_43 rfl hl (by decide) rfl (fun ls hl => ?_)
    refine lv_iconst (v := 0) hx hb dX9_load_44 (by decide) ?_
    refine lv_aload_n hx hb dX9_load_45 rfl (lv_at hl 3 rfl) ?_
    refine va_getN (D := (dC, dI)) (ci := 5) (v := .ref (ρ h1 0)) (C := RX5) (T := TX5) (N := 17) hx hb hts hfX5 hown hK hP q26 eq26 rfl 0 (by decide) (va_Nw.use rfl (hN.1 (.fieldLinkNest RX9 55 "ColdShips$Ship" "tank" "LColdShips$Tank;" "ColdShips") nzw_21)) (fun _ h9 => h9) rfl dX9_load_46 ?_
    refine pz_calli (va_runV (As := []) (rest := [.int 0]) ⟨hx, hb, hml, hown, hts⟩ (t_X7_top l dC dI _ Ω κ τ ν ρ L f hG hT (ρ h1 0) y18) (cwV 0 hts gX9_load_X7_top rfl rfl rfl ⟨rfl, pd_X7_top⟩ ⟨Nat.le_of_ble_eq_true rfl, Nat.le_of_ble_eq_true rfl⟩) ⟨pz_blind, va_recv hK hP (ci := 7) (q0 := q36) rfl eq36, pz_pre hP hK hD hN⟩ rfl rfl hl.1 rfl (lv_room (Nat.le_of_ble_eq_true rfl)) dX9_load_49 ⟨Nat.le_of_ble_eq_true rfl, Nat.le_of_ble_eq_true rfl⟩) (fun r39 hw40 => ?_)
    obtain ⟨hw40r, hw40p⟩ := hw40
    refine lv_aload_n hx hb dX9_load_52 rfl (lv_at hl 3 rfl) ?_
    refine va_getN (D := (dC, dI)) (ci := 5) (v := .ref (ρ h1 0)) (C := RX5) (T := TX5) (N := 17) hx hb hts hfX5 hown hK hP q26 eq26 rfl 0 (by decide) (va_Nw.use rfl (hN.1 (.fieldLinkNest RX9 55 "ColdShips$Ship" "tank" "LColdShips$Tank;" "ColdShips") nzw_21)) (fun _ h9 => h9) rfl dX9_load_53 ?_
    refine va_getN (D := (dC, dI)) (ci := 7) (v := .int o35_x1) (C := RX7) (T := TX7) (N := 7) hx hb hts hfX7 hown hK hP q36 eq36 rfl 1 (by decide) (va_Nw.use rfl (hN.1 (.fieldLinkNest RX9 183 "ColdShips$Tank" "gas" "I" "ColdShips") nzw_14)) (fun _ h9 => h9) rfl dX9_load_56 ?_
    refine lv_isub hx hb dX9_load_59 ?_
    refine lv_topi (fun z41 ez41 => ?_)
    refine va_mmax hx hb (by rw [hml]; exact hl.1.symm) hown (hts (.methodLink RX9 175 Lib.Math.max.name) wa_486) (hts (.static Lib.Math.max.name) wa_70) (hts (.initialized "java/lang/Math") wa_71) (hts (.code Lib.Math.max.name Lib.Math.max.code 2 (some .int)) wa_72) (Nat.le_of_ble_eq_true rfl) (Nat.le_of_ble_eq_true rfl) (Nat.le_of_ble_eq_true rfl) (Nat.le_of_ble_eq_true rfl) dX9_load_60 ?_
    refine lv_topi (fun z42 ez42 => ?_)
    have iz42 := zi_max ez42 (show (0 : Int32).toInt = 0 from rfl) (rfl : z41.toInt = _)
    refine lv_istore (lv' := [(4, .int z42), (3, .int w37), (2, .ref b30), (0, .ref h0), (1, .ref h1)]) hx hb dX9_load_63 hl (by decide) rfl (fun ls hl => ?_)
    refine lv_iload_n hx hb dX9_load_65 rfl (lv_at hl 1 rfl) ?_
    refine lv_aload_n hx hb dX9_load_66 rfl (lv_at hl 4 rfl) ?_
    refine va_getN (D := (dC, dI)) (ci := 5) (v := .ref (ρ h1 8)) (C := RX5) (T := TX5) (N := 17) hx hb hts hfX5 hown hK hP q26 eq26 rfl 8 (by decide) (va_Nw.use rfl (hN.1 (.fieldLinkNest RX9 97 "ColdShips$Ship" "orderWhats" "[I" "ColdShips") nzw_37)) (fun _ h9 => h9) rfl dX9_load_67 ?_
    refine lv_iconst (v := 0) hx hb dX9_load_70 (by decide) ?_
    refine tpk_20 hT y20 y20n (fun g44 hf_o43 => ?_)
    refine tpk_pos (tp_in hG y20 (by decide)) hf_o43 (fun q45 eq45 => ?_)
    refine va_iald hx hb hK hP q45 0 eq45 rfl (vp_in_iff.mpr ⟨by decide, by decide⟩) dX9_load_71 ?_
    refine lv_topi (fun z46 ez46 => ?_)
    refine va_mmin hx hb (by rw [hml]; exact hl.1.symm) hown (hts (.methodLink RX9 186 Lib.Math.min.name) wa_487) (hts (.static Lib.Math.min.name) wa_434) (hts (.initialized "java/lang/Math") wa_71) (hts (.code Lib.Math.min.name Lib.Math.min.code 2 (some .int)) wa_435) (Nat.le_of_ble_eq_true rfl) (Nat.le_of_ble_eq_true rfl) (Nat.le_of_ble_eq_true rfl) (Nat.le_of_ble_eq_true rfl) dX9_load_72 ?_
    refine lv_topi (fun z47 ez47 => ?_)
    have iz47 := zi_min ez47 (rfl : w37.toInt = _) (rfl : z46.toInt = _)
    refine lv_aload_n hx hb dX9_load_75 rfl (lv_at hl 2 rfl) ?_
    refine tgk_9 hG hb31t (fun y48 y48n y49 y49n => ?_)
    refine tpk_9 hT hb31t (fun o50_x0 o50_x1 o50_x2 o50_x3 o50_x4 hf_o50 ro50_0 => ?_)
    refine tpk_pos (tp_in hG hb31t (by decide)) hf_o50 (fun q51 eq51 => ?_)
    refine va_getN (D := (dC, dI)) (ci := 8) (v := .int o50_x0) (C := RX8) (T := TX8) (N := 7) hx hb hts hfX8 hown hK hP q51 eq51 rfl 0 (by decide) (va_Nw.use rfl (hN.1 (.fieldLinkNest RX9 189 "ColdShips$Terminal" "store" "I" "ColdShips") nzw_5)) (fun _ h9 => h9) rfl dX9_load_76 ?_
    refine lv_iload hx hb dX9_load_79 (lv_at hl 0 rfl) ?_
    refine va_mmin hx hb (by rw [hml]; exact hl.1.symm) hown (hts (.methodLink RX9 186 Lib.Math.min.name) wa_487) (hts (.static Lib.Math.min.name) wa_434) (hts (.initialized "java/lang/Math") wa_71) (hts (.code Lib.Math.min.name Lib.Math.min.code 2 (some .int)) wa_435) (Nat.le_of_ble_eq_true rfl) (Nat.le_of_ble_eq_true rfl) (Nat.le_of_ble_eq_true rfl) (Nat.le_of_ble_eq_true rfl) dX9_load_81 ?_
    refine lv_topi (fun z52 ez52 => ?_)
    have iz52 := zi_min ez52 (rfl : o50_x0.toInt = _) (rfl : z42.toInt = _)
    refine va_mmin hx hb (by rw [hml]; exact hl.1.symm) hown (hts (.methodLink RX9 186 Lib.Math.min.name) wa_487) (hts (.static Lib.Math.min.name) wa_434) (hts (.initialized "java/lang/Math") wa_71) (hts (.code Lib.Math.min.name Lib.Math.min.code 2 (some .int)) wa_435) (Nat.le_of_ble_eq_true rfl) (Nat.le_of_ble_eq_true rfl) (Nat.le_of_ble_eq_true rfl) (Nat.le_of_ble_eq_true rfl) dX9_load_84 ?_
    refine lv_topi (fun z53 ez53 => ?_)
    have iz53 := zi_min ez53 (rfl : z47.toInt = _) (rfl : z52.toInt = _)
    refine lv_istore (lv' := [(5, .int z53), (4, .int z42), (3, .int w37), (2, .ref b30), (0, .ref h0), (1, .ref h1)]) hx hb dX9_load_87 hl (by decide) rfl (fun ls hl => ?_)
    refine lv_aload_n hx hb dX9_load_89 rfl (lv_at hl 3 rfl) ?_
    refine lv_dup hx hb dX9_load_90 rfl ?_
    refine va_getN (D := (dC, dI)) (ci := 8) (v := .int o50_x0) (C := RX8) (T := TX8) (N := 7) hx hb hts hfX8 hown hK hP q51 eq51 rfl 0 (by decide) (va_Nw.use rfl (hN.1 (.fieldLinkNest RX9 189 "ColdShips$Terminal" "store" "I" "ColdShips") nzw_5)) (fun _ h9 => h9) rfl dX9_load_91 ?_
    refine lv_iload hx hb dX9_load_94 (lv_at hl 0 rfl) ?_
    refine lv_isub hx hb dX9_load_96 ?_
    refine lv_topi (fun z54 ez54 => ?_)
    refine va_putN (D := (dC, dI)) (ci := 8) (v := .int z54) (ty := .int) (C := RX8) (T := TX8) (N := 7) hx hb hts hfX8 tyX8 tyX8_ok nmX8 hown hK hP hD hS q51 eq51 rfl 0 (by decide) (va_Nw.use rfl (hN.1 (.fieldLinkNest RX9 189 "ColdShips$Terminal" "store" "I" "ColdShips") nzw_5)) (fun _ h9 => h9) rfl (tyX8_ok 0 (by decide)) rfl rfl (Nat.le_of_ble_eq_true rfl) dX9_load_97 (tp_k (.inr (8, [.int z54, .int o50_x1, .int o50_x2, .int o50_x3, .int o50_x4, .ref (ρ b30 5), .ref (ρ b30 6)])) hD (tp_in hG hb31t (by decide)) eq51 (fun f55 H locs hP hD hS g57 k56 => ?_))
    have hT := hT.up hb31t g57 k56 ⟨_, _, _, _, _, rfl, (by first | decide | omega | (omega))⟩
    have hR := hR.up hb31t (by decide) k56
    refine lv_aload_n hx hb dX9_load_100 rfl (lv_at hl 5 rfl) ?_
    have hf_58 : f55 h1 = .inr (5, [.ref (ρ h1 0), .int o25_x1, .int o25_x2, .int o25_x3, .int o25_x4, .int o25_x5, .int o25_x6, .ref (ρ h1 7), .ref (ρ h1 8), .ref (ρ h1 9), .int o25_x10, .int o25_x11, .int o25_x12, .ref (ρ h1 13), .int o25_x14, .ref (ρ h1 15), .ref (ρ h1 16)]) := (k56 _ (tp_ne ht_h1 hb31t (by decide))).trans hf_o25
    refine tpk_pos (tp_in hG ht_h1 (by decide)) hf_58 (fun q59 eq59 => ?_)
    refine va_getN (D := (dC, dI)) (ci := 5) (v := .ref (ρ h1 0)) (C := RX5) (T := TX5) (N := 17) hx hb hts hfX5 hown hK hP q59 eq59 rfl 0 (by decide) (va_Nw.use rfl (hN.1 (.fieldLinkNest RX9 55 "ColdShips$Ship" "tank" "LColdShips$Tank;" "ColdShips") nzw_21)) (fun _ h9 => h9) rfl dX9_load_101 ?_
    refine lv_aload_n hx hb dX9_load_104 rfl (lv_at hl 5 rfl) ?_
    refine va_getN (D := (dC, dI)) (ci := 5) (v := .int o25_x2) (C := RX5) (T := TX5) (N := 17) hx hb hts hfX5 hown hK hP q59 eq59 rfl 2 (by decide) (va_Nw.use rfl (hN.1 (.fieldLinkNest RX9 114 "ColdShips$Ship" "where" "I" "ColdShips") nzw_27)) (fun _ h9 => h9) rfl dX9_load_105 ?_
    refine lv_iload hx hb dX9_load_108 (lv_at hl 0 rfl) ?_
    have hf_60 : f55 (ρ h1 0) = .inr (7, [.int o35_x0, .int o35_x1, .int o35_x2, .int o35_x3, .ref (ρ (ρ h1 0) 4), .ref (ρ (ρ h1 0) 5), .ref (ρ (ρ h1 0) 6)]) := (k56 _ (tp_ne y18 hb31t (by decide))).trans hf_o35
    refine tpk_pos (tp_in hG y18 (by decide)) hf_60 (fun q61 eq61 => ?_)
    have hFc := tp_fr hD hS hA
    refine va_callv (va_runV (As := [.int o25_x2, .int z53]) (rest := []) ⟨hx, hb, hml, hown, hts⟩ (t_X7_fill l dC dI _ Ω κ τ ν ρ L f55 hG hT (ρ h1 0) o25_x2 z53 y18 (by first | decide | omega)) (cwV 2 hts gX9_load_X7_fill rfl rfl rfl ⟨rfl, pd_X7_fill⟩ ⟨Nat.le_of_ble_eq_true rfl, Nat.le_of_ble_eq_true rfl⟩) ⟨pz_blind, va_recv hK hP (ci := 7) (q0 := q61) rfl eq61, pz_pre hP hK hD hN⟩ rfl rfl hl.1 rfl (lv_room (Nat.le_of_ble_eq_true rfl)) dX9_load_110 ⟨Nat.le_of_ble_eq_true rfl, Nat.le_of_ble_eq_true rfl⟩) hS (fun q _ h => hFc q h) hFc (fun f64 t H1 locs ht hvm hw63 hB hz1 hk1 hS => ?_)
    refine tn_3 hw63 (fun hT hF65 hw63p => ?_); clear hw63
    have hR := hR.then hF65 (by decide)
    have hP := hB.1; rw [ht] at hP; have hD := tp_ad f64 hD; clear hB hFc hz1 hk1; subst ht; generalize t.heap = H at hP hS ⊢
    refine lv_aload_n hx hb dX9_load_113 rfl (lv_at hl 5 rfl) ?_
    have hf_66 : f64 h1 = .inr (5, [.ref (ρ h1 0), .int o25_x1, .int o25_x2, .int o25_x3, .int o25_x4, .int o25_x5, .int o25_x6, .ref (ρ h1 7), .ref (ρ h1 8), .ref (ρ h1 9), .int o25_x10, .int o25_x11, .int o25_x12, .ref (ρ h1 13), .int o25_x14, .ref (ρ h1 15), .ref (ρ h1 16)]) := (hF65 _ (by rw [ht_h1]; decide)).trans hf_58
    refine tpk_pos (tp_in hG ht_h1 (by decide)) hf_66 (fun q67 eq67 => ?_)
    refine va_getN (D := (dC, dI)) (ci := 5) (v := .ref (ρ h1 9)) (C := RX5) (T := TX5) (N := 17) hx hb hts hfX5 hown hK hP q67 eq67 rfl 9 (by decide) (va_Nw.use rfl (hN.1 (.fieldLinkNest RX9 103 "ColdShips$Ship" "book" "[J" "ColdShips") nzw_38)) (fun _ h9 => h9) rfl dX9_load_114 ?_
    refine lv_iconst (v := 0) hx hb dX9_load_117 (by decide) ?_
    refine lv_dup2_11 hx hb dX9_load_118 rfl rfl ?_
    refine tpk_21 hT y21 y21n (fun g69 hf_o68 => ?_)
    refine tpk_pos (tp_in hG y21 (by decide)) hf_o68 (fun q70 eq70 => ?_)
    refine va_lald hx hb hK hP q70 1 eq70 rfl (vp_in_iff.mpr ⟨by decide, by decide⟩) dX9_load_119 ?_
    refine lv_topl (fun z71 ez71 => ?_)
    refine lv_iload hx hb dX9_load_120 (lv_at hl 0 rfl) ?_
    refine lv_i2l hx hb dX9_load_122 rfl ?_
    refine lv_ladd hx hb dX9_load_123 ?_
    refine lv_topl (fun z72 ez72 => ?_)
    refine va_last hx hb hK hP hD hS q70 1 eq70 rfl (vp_in_iff.mpr ⟨by decide, by decide⟩) dX9_load_124 (tp_k (.inl (κ 1, 4, .inr (.inl (vp_updL g69 (0 : Int32).toNatClampNeg z72)))) hD (tp_in hG y21 (by decide)) eq70 (fun f73 H locs hP hD hS g75 k74 => ?_))
    have hT := hT.up y21 g75 k74 (tp_o21 y21n)
    have hR := hR.up y21 (by decide) k74
    generalize (vp_updL g69 (0 : Int32).toNatClampNeg z72) = g76 at g75
    refine lv_aload_n hx hb dX9_load_125 rfl (lv_at hl 5 rfl) ?_
    have hf_77 : f73 h1 = .inr (5, [.ref (ρ h1 0), .int o25_x1, .int o25_x2, .int o25_x3, .int o25_x4, .int o25_x5, .int o25_x6, .ref (ρ h1 7), .ref (ρ h1 8), .ref (ρ h1 9), .int o25_x10, .int o25_x11, .int o25_x12, .ref (ρ h1 13), .int o25_x14, .ref (ρ h1 15), .ref (ρ h1 16)]) := (k74 _ (tp_ne ht_h1 y21 (by decide))).trans hf_66
    refine tpk_pos (tp_in hG ht_h1 (by decide)) hf_77 (fun q78 eq78 => ?_)
    refine va_getN (D := (dC, dI)) (ci := 5) (v := .ref (ρ h1 8)) (C := RX5) (T := TX5) (N := 17) hx hb hts hfX5 hown hK hP q78 eq78 rfl 8 (by decide) (va_Nw.use rfl (hN.1 (.fieldLinkNest RX9 97 "ColdShips$Ship" "orderWhats" "[I" "ColdShips") nzw_37)) (fun _ h9 => h9) rfl dX9_load_126 ?_
    refine lv_iconst (v := 0) hx hb dX9_load_129 (by decide) ?_
    refine lv_dup2_11 hx hb dX9_load_130 rfl rfl ?_
    refine tpk_20 hT y20 y20n (fun g80 hf_o79 => ?_)
    refine tpk_pos (tp_in hG y20 (by decide)) hf_o79 (fun q81 eq81 => ?_)
    refine va_iald hx hb hK hP q81 0 eq81 rfl (vp_in_iff.mpr ⟨by decide, by decide⟩) dX9_load_131 ?_
    refine lv_topi (fun z82 ez82 => ?_)
    refine lv_iload hx hb dX9_load_132 (lv_at hl 0 rfl) ?_
    refine lv_isub hx hb dX9_load_134 ?_
    refine lv_topi (fun z83 ez83 => ?_)
    refine va_iast hx hb hK hP hD hS q81 0 eq81 rfl (vp_in_iff.mpr ⟨by decide, by decide⟩) dX9_load_135 (tp_k (.inl (κ 0, 20, .inl (upd g80 (0 : Int32).toNatClampNeg z83))) hD (tp_in hG y20 (by decide)) eq81 (fun f84 H locs hP hD hS g86 k85 => ?_))
    have hT := hT.up y20 g86 k85 (tp_o20 y20n)
    have hR := hR.up y20 (by decide) k85
    generalize (upd g80 (0 : Int32).toNatClampNeg z83) = g87 at g86
    refine lv_iload hx hb dX9_load_136 (lv_at hl 0 rfl) ?_
    refine lv_if_eq (tgt := 150) hx hb dX9_load_138 (by decide) (fun c88 => ?_) (fun c88 => ?_)
    · have ic88 : z53.toInt = 0 := zi_eq rfl rfl c88
      refine lv_aload_n hx hb dX9_load_150 rfl (lv_at hl 5 rfl) ?_
      have hf_89 : f84 h1 = .inr (5, [.ref (ρ h1 0), .int o25_x1, .int o25_x2, .int o25_x3, .int o25_x4, .int o25_x5, .int o25_x6, .ref (ρ h1 7), .ref (ρ h1 8), .ref (ρ h1 9), .int o25_x10, .int o25_x11, .int o25_x12, .ref (ρ h1 13), .int o25_x14, .ref (ρ h1 15), .ref (ρ h1 16)]) := (k85 _ (tp_ne ht_h1 y20 (by decide))).trans hf_77
      refine tpk_pos (tp_in hG ht_h1 (by decide)) hf_89 (fun q90 eq90 => ?_)
      have hFc := tp_fr hD hS hA
      refine va_callv (va_runV (As := []) (rest := []) ⟨hx, hb, hml, hown, hts⟩ (t_X5_endOrder l dC dI _ Ω κ τ ν ρ L f84 hG hT h1 ht_h1) (cwV 0 hts gX9_load_X5_endOrder rfl rfl rfl ⟨rfl, pd_X5_endOrder⟩ ⟨Nat.le_of_ble_eq_true rfl, Nat.le_of_ble_eq_true rfl⟩) ⟨pz_blind, va_recv hK hP (ci := 5) (q0 := q90) rfl eq90, pz_pre hP hK hD hN⟩ rfl rfl hl.1 rfl (lv_room (Nat.le_of_ble_eq_true rfl)) dX9_load_151 ⟨Nat.le_of_ble_eq_true rfl, Nat.le_of_ble_eq_true rfl⟩) hS (fun q _ h => hFc q h) hFc (fun f93 t H1 locs ht hvm hw92 hB hz1 hk1 hS => ?_)
      refine tn_3 hw92 (fun hT hF94 hw92p => ?_); clear hw92
      have hR := hR.then hF94 (by decide)
      have hP := hB.1; rw [ht] at hP; have hD := tp_ad f93 hD; clear hB hFc hz1 hk1; subst ht; generalize t.heap = H at hP hS ⊢
      exact W.vret hx hb hr (fun t ht hW => ⟨⟨f93, rfl, ⟨hT, hR, trivial⟩, by rw [ht]; exact hP, va_K.moved hW.alike hK, hD⟩, hS.F ht⟩) hS.2.2 dX9_load_154
    · have ic88 : z53.toInt ≠ 0 := zi_eqf rfl rfl c88
      refine lv_aload_n hx hb dX9_load_141 rfl (lv_at hl 5 rfl) ?_
      have hf_95 : f84 h1 = .inr (5, [.ref (ρ h1 0), .int o25_x1, .int o25_x2, .int o25_x3, .int o25_x4, .int o25_x5, .int o25_x6, .ref (ρ h1 7), .ref (ρ h1 8), .ref (ρ h1 9), .int o25_x10, .int o25_x11, .int o25_x12, .ref (ρ h1 13), .int o25_x14, .ref (ρ h1 15), .ref (ρ h1 16)]) := (k85 _ (tp_ne ht_h1 y20 (by decide))).trans hf_77
      refine tpk_pos (tp_in hG ht_h1 (by decide)) hf_95 (fun q96 eq96 => ?_)
      refine va_getN (D := (dC, dI)) (ci := 5) (v := .ref (ρ h1 8)) (C := RX5) (T := TX5) (N := 17) hx hb hts hfX5 hown hK hP q96 eq96 rfl 8 (by decide) (va_Nw.use rfl (hN.1 (.fieldLinkNest RX9 97 "ColdShips$Ship" "orderWhats" "[I" "ColdShips") nzw_37)) (fun _ h9 => h9) rfl dX9_load_142 ?_
      refine lv_iconst (v := 0) hx hb dX9_load_145 (by decide) ?_
      refine tpk_pos (tp_in hG y20 (by decide)) g86 (fun q97 eq97 => ?_)
      refine va_iald hx hb hK hP q97 0 eq97 rfl (vp_in_iff.mpr ⟨by decide, by decide⟩) dX9_load_146 ?_
      refine lv_topi (fun z98 ez98 => ?_)
      refine lv_if_ne (tgt := 154) hx hb dX9_load_147 (by decide) (fun c99 => ?_) (fun c99 => ?_)
      · have ic99 : z98.toInt ≠ 0 := zi_ne rfl rfl c99
        exact W.vret hx hb hr (fun t ht hW => ⟨⟨f84, rfl, ⟨hT, hR, trivial⟩, by rw [ht]; exact hP, va_K.moved hW.alike hK, hD⟩, hS.F ht⟩) hS.2.2 dX9_load_154
      · have ic99 : z98.toInt = 0 := zi_nef rfl rfl c99
        refine lv_aload_n hx hb dX9_load_150 rfl (lv_at hl 5 rfl) ?_
        have hFc := tp_fr hD hS hA
        refine va_callv (va_runV (As := []) (rest := []) ⟨hx, hb, hml, hown, hts⟩ (t_X5_endOrder l dC dI _ Ω κ τ ν ρ L f84 hG hT h1 ht_h1) (cwV 0 hts gX9_load_X5_endOrder rfl rfl rfl ⟨rfl, pd_X5_endOrder⟩ ⟨Nat.le_of_ble_eq_true rfl, Nat.le_of_ble_eq_true rfl⟩) ⟨pz_blind, va_recv hK hP (ci := 5) (q0 := q96) rfl eq96, pz_pre hP hK hD hN⟩ rfl rfl hl.1 rfl (lv_room (Nat.le_of_ble_eq_true rfl)) dX9_load_151 ⟨Nat.le_of_ble_eq_true rfl, Nat.le_of_ble_eq_true rfl⟩) hS (fun q _ h => hFc q h) hFc (fun f102 t H1 locs ht hvm hw101 hB hz1 hk1 hS => ?_)
        refine tn_3 hw101 (fun hT hF103 hw101p => ?_); clear hw101
        have hR := hR.then hF103 (by decide)
        have hP := hB.1; rw [ht] at hP; have hD := tp_ad f102 hD; clear hB hFc hz1 hk1; subst ht; generalize t.heap = H at hP hS ⊢
        exact W.vret hx hb hr (fun t ht hW => ⟨⟨f102, rfl, ⟨hT, hR, trivial⟩, by rw [ht]; exact hP, va_K.moved hW.alike hK, hD⟩, hS.F ht⟩) hS.2.2 dX9_load_154
  · refine lv_icmp_le (tgt := 39) hx hb dX9_load_23 (by decide) (fun c104 => ?_) (fun c104 => ?_)
    · have ic104 : o35_x3.toInt ≤ 200 := zi_le rfl rfl c104
      refine lv_aload_n hx hb dX9_load_39 rfl (lv_at hl 0 rfl) ?_
      refine tgk_9 hG hb31t (fun y105 y105n y106 y106n => ?_)
      refine tpk_9 hT hb31t (fun o107_x0 o107_x1 o107_x2 o107_x3 o107_x4 hf_o107 ro107_0 => ?_)
      refine tpk_pos (tp_in hG hb31t (by decide)) hf_o107 (fun q108 eq108 => ?_)
      refine va_getN (D := (dC, dI)) (ci := 8) (v := .int o107_x2) (C := RX8) (T := TX8) (N := 7) hx hb hts hfX8 hown hK hP q108 eq108 rfl 2 (by decide) (va_Nw.use rfl (hN.1 (.fieldLinkNest RX9 172 "ColdShips$Terminal" "rate" "I" "ColdShips") nzw_8)) (fun _ h9 => h9) rfl dX9_load_40 ?_
      exact hj38 _ _ _ _ ⟨o107_x2, rfl, (by omega), hP, hD, hS, lv_sub hl [0, 1, 2] rfl⟩
    · have ic104 : o35_x3.toInt > 200 := zi_lef rfl rfl c104
      refine lv_iconst (v := 1) hx hb dX9_load_26 (by decide) ?_
      refine lv_aload_n hx hb dX9_load_27 rfl (lv_at hl 0 rfl) ?_
      refine tgk_9 hG hb31t (fun y109 y109n y110 y110n => ?_)
      refine tpk_9 hT hb31t (fun o111_x0 o111_x1 o111_x2 o111_x3 o111_x4 hf_o111 ro111_0 => ?_)
      refine tpk_pos (tp_in hG hb31t (by decide)) hf_o111 (fun q112 eq112 => ?_)
      refine va_getN (D := (dC, dI)) (ci := 8) (v := .int o111_x2) (C := RX8) (T := TX8) (N := 7) hx hb hts hfX8 hown hK hP q112 eq112 rfl 2 (by decide) (va_Nw.use rfl (hN.1 (.fieldLinkNest RX9 172 "ColdShips$Terminal" "rate" "I" "ColdShips") nzw_8)) (fun _ h9 => h9) rfl dX9_load_28 ?_
      refine lv_iconst (v := 4) hx hb dX9_load_31 (by decide) ?_
      refine lv_idiv hx hb dX9_load_32 (by decide) ?_
      refine lv_topi (fun z113 ez113 => ?_)
      have iz113 : z113.toInt = o111_x2.toInt / 4 := zi_div ez113 rfl (show (4 : Int32).toInt = 4 from rfl) (by omega) (by omega)
      refine va_mmax hx hb (by rw [hml]; exact hl.1.symm) hown (hts (.methodLink RX9 175 Lib.Math.max.name) wa_486) (hts (.static Lib.Math.max.name) wa_70) (hts (.initialized "java/lang/Math") wa_71) (hts (.code Lib.Math.max.name Lib.Math.max.code 2 (some .int)) wa_72) (Nat.le_of_ble_eq_true rfl) (Nat.le_of_ble_eq_true rfl) (Nat.le_of_ble_eq_true rfl) (Nat.le_of_ble_eq_true rfl) dX9_load_33 ?_
      refine lv_topi (fun z114 ez114 => ?_)
      have iz114 := zi_max ez114 (show (1 : Int32).toInt = 1 from rfl) (rfl : z113.toInt = _)
      refine lv_goto (tgt := 43) hx hb dX9_load_36 (by decide) ?_
      exact hj38 _ _ _ _ ⟨z114, rfl, (by omega), hP, hD, hS, lv_sub hl [0, 1, 2] rfl⟩
set_option maxHeartbeats 4000000 in
set_option maxRecDepth 100000 in
theorem t_X9_keepLanding (l : Launch) (dC : Nat → ClassId) (dI : Nat → Nat → Nat) (sz : Nat) (Ω : Nat → (Nat → Nat) → va_E → Prop) (κ : Nat → ClassId) (τ ν : Nat → Nat) (ρ : Nat → Nat → Nat) (L : List Nat) (f : Nat → va_E) (hG : tp_G τ ν ρ L) (hT : tp_T Ω κ τ ν ρ f) (h0 : Nat) (a : Int32) (h1 : Nat) (ht_h0 : τ h0 = 10) (ht_h1 : τ h1 = 6) : Met l yX9_keepLanding wqX9_keepLanding ({ frames := 5, cells := 0, slots := 0, locals := 1600 }) (va_Pc [.ref h0, .int a, .ref h1] (pz_B dC dI (tp_K κ) (va_pl L f) sz)) (va_Qv (fun (f1 : Nat → va_E) => tp_T Ω κ τ ν ρ f1 ∧ tp_F τ [5, 21] f f1 ∧ True) (fun (f1 : Nat → va_E) (t : State) => pz_E dC dI (tp_K κ) (va_A (va_pl L f) sz) (va_pl L f1) t) (va_A (va_pl L f) sz)) 0 0 (va_A (va_pl L f) sz) := by
  refine Met.ofW (cc := cX9_keepLanding) (maxL := 5) (ret := none) (by decide) rfl ?_
  intro p e s m args below meth c s₁ B hml hv
  obtain ⟨rfl, hsz, hP, hK, hD0, hN⟩ := hv
  have hx := B.exec
  have hb := B.bytes
  have hr := B.returns
  have hts := fun (w : Cond) (h : w ∈ WALL) => atoms_spec (ws := wqX9_keepLanding) B.pre w (List.mem_cons_of_mem _ h)
  have hown : s.vm.findClass RX9 = some m.cls := findClass_of_methodNamed B.named
  have hlocks := B.notSynchronized
  subst hsz
  have hD := hD0.self (sz := s.heap.size)
  generalize hAe : va_A (va_pl L f) s.heap.size = A at hD ⊢
  have hA : ∀ q : Nat, s.heap.size ≤ q → A q := fun q h => by rw [← hAe]; exact Or.inr h
  have hS : va_S A s.heap s.heap [] := va_S.rf
  have hR : tp_F τ [5, 21] f f := tp_F.rf
  have hl := lv_entry ([.ref h0, .int a, .ref h1]) (n := 5) (Nat.le_of_ble_eq_true rfl)
  rw [lg_entry_eq]
  generalize (lg_sl ([.ref h0, .int a, .ref h1]) ++ List.replicate (5 - (lg_sl ([.ref h0, .int a, .ref h1])).length) Slot.unset).toArray = ls at hl ⊢
  have hl : lv_has ls 5 [(0, .ref h0), (1, .int a), (2, .ref h1)] := hl
  refine lv_aload_n hx hb dX9_keepLanding_0 rfl (lv_at hl 2 rfl) ?_
  refine tgk_6 hG ht_h1 (fun y1 y2 y2n y3 y3n y4 y4n y5 y5n y6 y6n y7 y7n => ?_)
  refine tpk_6 hT ht_h1 (fun o8_x1 o8_x2 o8_x3 o8_x4 o8_x5 o8_x6 o8_x10 o8_x11 o8_x12 o8_x14 hf_o8 ro8_0 ro8_1 ro8_2 => ?_)
  refine tpk_pos (tp_in hG ht_h1 (by decide)) hf_o8 (fun q9 eq9 => ?_)
  refine va_getN (D := (dC, dI)) (ci := 5) (v := .int o8_x12) (C := RX5) (T := TX5) (N := 17) hx hb hts hfX5 hown hK hP q9 eq9 rfl 12 (by decide) (va_Nw.use rfl (hN.1 (.fieldLinkNest RX9 211 "ColdShips$Ship" "landTons" "I" "ColdShips") nzw_42)) (fun _ h9 => h9) rfl dX9_keepLanding_1 ?_
  refine tp_join 21 (fun H locs ls stk => ∃ f12 : Nat → va_E, ∃ w10 : Int32, stk = [.int w10] ∧ tp_T Ω κ τ ν ρ f12 ∧ tp_F τ [5, 21] f f12 ∧ va_P (dC, dI) vwCl (va_pl L f12) H ∧ va_D A (va_pl L f12) ∧ va_S A s.heap H locs ∧ lv_has ls 5 [(0, .ref h0), (1, .int a), (2, .ref h1)]) ?_ (fun hj11 => ?_)
  · intro H locs ls stk hI
    refine Exists.elim hI (fun f12 hE90 => Exists.elim hE90 (fun w10 hE91 => tn_7 hE91 (fun e90 hT hR hP hD hS hl => ?_)))
    clear hE91 hE90 hI; subst e90
    refine lv_istore_n (lv' := [(3, .int w10), (0, .ref h0), (1, .int a), (2, .ref h1)]) hx hb dX9_keepLanding_21 rfl hl (by decide) rfl (fun ls hl => ?_)
    refine lv_iload_n hx hb dX9_keepLanding_22 rfl (lv_at hl 0 rfl) ?_
    refine lv_iconst (v := (-1)) hx hb dX9_keepLanding_23 (by decide) ?_
    refine lv_icmp_ne (tgt := 28) hx hb dX9_keepLanding_24 (by decide) (fun c13 => ?_) (fun c13 => ?_)
    · have ic13 : w10.toInt ≠ (-1) := zi_ne rfl rfl c13
      refine lv_aload_n hx hb dX9_keepLanding_28 rfl (lv_at hl 1 rfl) ?_
      have y14 := tpg_10 hG ht_h0
      refine tpk_10 hT ht_h0 (fun o15_x1 o15_x2 o15_x3 hf_o15 ro15_0 ro15_1 => ?_)
      refine tpk_pos (tp_in hG ht_h0 (by decide)) hf_o15 (fun q16 eq16 => ?_)
      refine va_get (D := (dC, dI)) (ci := 9) (v := .ref (ρ h0 0)) (C := RX9) (T := TX9) (N := 4) hx hb hts hfX9 hown hK hP q16 eq16 rfl 0 (by decide) (hts (.fieldLink RX9 9 "ColdShips$Watch" "world" "LColdShips$World;") wa_114) (fun _ h9 => h9) rfl dX9_keepLanding_29 ?_
      refine tgk_11 hG y14 (fun y17 y17n y18 y18n y19 y20 y21 y22 y23 y24 y25 y25w y25m y26 y26w y26m y27 y27w y27m y28 y28w y28m => ?_)
      refine tpk_11 hT y14 (fun o29_x0 o29_x1 o29_x2 o29_x3 o29_x4 o29_x5 o29_x6 hf_o29 ro29_0 ro29_1 ro29_2 ro29_3 => ?_)
      refine tpk_pos (tp_in hG y14 (by decide)) hf_o29 (fun q30 eq30 => ?_)
      refine va_getN (D := (dC, dI)) (ci := 10) (v := .ref (ρ (ρ h0 0) 17)) (C := RX10) (T := TX10) (N := 19) hx hb hts hfX10 hown hK hP q30 eq30 rfl 17 (by decide) (va_Nw.use rfl (hN.1 (.fieldLinkNest RX9 214 "ColdShips$World" "landings" "LColdShips$Rows;" "ColdShips") nzw_84)) (fun _ h9 => h9) rfl dX9_keepLanding_32 ?_
      refine lv_iload_n hx hb dX9_keepLanding_35 rfl (lv_at hl 0 rfl) ?_
      refine lv_iconst (v := 0) hx hb dX9_keepLanding_36 (by decide) ?_
      refine lv_iload_n hx hb dX9_keepLanding_37 rfl (lv_at hl 2 rfl) ?_
      refine lv_i2l hx hb dX9_keepLanding_38 rfl ?_
      refine tgk_5 hG y27 (fun y31 y31n y32a y32b y32c => ?_)
      refine tpk_5 hT y27 (fun o33_x0 o33_x2 hf_o33 ro33_0 ro33_1 => ?_)
      refine tpk_pos (tp_in hG y27 (by decide)) hf_o33 (fun q34 eq34 => ?_)
      have hFc := tp_fr hD hS hA
      refine va_callv (va_runV (As := [.int w10, .int 0, .long a.toInt64]) (rest := []) ⟨hx, hb, hml, hown, hts⟩ (t_X4_set l dC dI _ Ω κ τ ν ρ L f12 hG hT (ρ (ρ h0 0) 17) w10 (0) a.toInt64 y27 o33_x0 o33_x2 hf_o33) (cwV 3 hts gX9_keepLanding_X4_set rfl rfl rfl ⟨rfl, pd_X4_set⟩ ⟨Nat.le_of_ble_eq_true rfl, Nat.le_of_ble_eq_true rfl⟩) ⟨pz_blind, va_recv hK hP (ci := 4) (q0 := q34) rfl eq34, pz_pre hP hK hD hN⟩ rfl rfl hl.1 rfl (lv_room (Nat.le_of_ble_eq_true rfl)) dX9_keepLanding_39 ⟨Nat.le_of_ble_eq_true rfl, Nat.le_of_ble_eq_true rfl⟩) hS (fun q _ h => hFc q h) hFc (fun f37 t H1 locs ht hvm hw36 hB hz1 hk1 hS => ?_)
      refine tn_3 hw36 (fun hT hF38 hw36p => ?_); clear hw36
      have hR := hR.then hF38 (by decide)
      have hP := hB.1; rw [ht] at hP; have hD := tp_ad f37 hD; clear hB hFc hz1 hk1; subst ht; generalize t.heap = H at hP hS ⊢
      refine lv_aload_n hx hb dX9_keepLanding_42 rfl (lv_at hl 1 rfl) ?_
      have hf_39 : f37 h0 = .inr (9, [.ref (ρ h0 0), .int o15_x1, .int o15_x2, .int o15_x3]) := (hF38 _ (by rw [ht_h0]; decide)).trans hf_o15
      refine tpk_pos (tp_in hG ht_h0 (by decide)) hf_39 (fun q40 eq40 => ?_)
      refine va_get (D := (dC, dI)) (ci := 9) (v := .ref (ρ h0 0)) (C := RX9) (T := TX9) (N := 4) hx hb hts hfX9 hown hK hP q40 eq40 rfl 0 (by decide) (hts (.fieldLink RX9 9 "ColdShips$Watch" "world" "LColdShips$World;") wa_114) (fun _ h9 => h9) rfl dX9_keepLanding_43 ?_
      have hf_41 : f37 (ρ h0 0) = .inr (10, [.int o29_x0, .int o29_x1, .int o29_x2, .int o29_x3, .int o29_x4, .int o29_x5, .int o29_x6, .ref (ρ (ρ h0 0) 7), .ref (ρ (ρ h0 0) 8), .ref (ρ (ρ h0 0) 9), .ref (ρ (ρ h0 0) 10), .ref (ρ (ρ h0 0) 11), .ref (ρ (ρ h0 0) 12), .ref (ρ (ρ h0 0) 13), .ref (ρ (ρ h0 0) 14), .ref (ρ (ρ h0 0) 15), .ref (ρ (ρ h0 0) 16), .ref (ρ (ρ h0 0) 17), .ref (ρ (ρ h0 0) 18)]) := (hF38 _ (by rw [y14]; decide)).trans hf_o29
      refine tpk_pos (tp_in hG y14 (by decide)) hf_41 (fun q42 eq42 => ?_)
      refine va_getN (D := (dC, dI)) (ci := 10) (v := .ref (ρ (ρ h0 0) 17)) (C := RX10) (T := TX10) (N := 19) hx hb hts hfX10 hown hK hP q42 eq42 rfl 17 (by decide) (va_Nw.use rfl (hN.1 (.fieldLinkNest RX9 214 "ColdShips$World" "landings" "LColdShips$Rows;" "ColdShips") nzw_84)) (fun _ h9 => h9) rfl dX9_keepLanding_46 ?_
      refine lv_iload_n hx hb dX9_keepLanding_49 rfl (lv_at hl 0 rfl) ?_
      refine lv_iconst (v := 1) hx hb dX9_keepLanding_50 (by decide) ?_
      refine lv_aload_n hx hb dX9_keepLanding_51 rfl (lv_at hl 3 rfl) ?_
      refine tpk_6 hT ht_h1 (fun o43_x1 o43_x2 o43_x3 o43_x4 o43_x5 o43_x6 o43_x10 o43_x11 o43_x12 o43_x14 hf_o43 ro43_0 ro43_1 ro43_2 => ?_)
      refine tpk_pos (tp_in hG ht_h1 (by decide)) hf_o43 (fun q44 eq44 => ?_)
      refine va_getN (D := (dC, dI)) (ci := 5) (v := .int o43_x2) (C := RX5) (T := TX5) (N := 17) hx hb hts hfX5 hown hK hP q44 eq44 rfl 2 (by decide) (va_Nw.use rfl (hN.1 (.fieldLinkNest RX9 114 "ColdShips$Ship" "where" "I" "ColdShips") nzw_27)) (fun _ h9 => h9) rfl dX9_keepLanding_52 ?_
      refine lv_i2l hx hb dX9_keepLanding_55 rfl ?_
      have hf_45 : f37 (ρ (ρ h0 0) 17) = .inr (4, [.int o33_x0, .ref (ρ (ρ (ρ h0 0) 17) 1), .int o33_x2]) := (hF38 _ (by rw [y27]; decide)).trans hf_o33
      refine tpk_pos (tp_in hG y27 (by decide)) hf_45 (fun q46 eq46 => ?_)
      have hFc := tp_fr hD hS hA
      refine va_callv (va_runV (As := [.int w10, .int 1, .long o43_x2.toInt64]) (rest := []) ⟨hx, hb, hml, hown, hts⟩ (t_X4_set l dC dI _ Ω κ τ ν ρ L f37 hG hT (ρ (ρ h0 0) 17) w10 (1) o43_x2.toInt64 y27 o33_x0 o33_x2 hf_45) (cwV 3 hts gX9_keepLanding_X4_set rfl rfl rfl ⟨rfl, pd_X4_set⟩ ⟨Nat.le_of_ble_eq_true rfl, Nat.le_of_ble_eq_true rfl⟩) ⟨pz_blind, va_recv hK hP (ci := 4) (q0 := q46) rfl eq46, pz_pre hP hK hD hN⟩ rfl rfl hl.1 rfl (lv_room (Nat.le_of_ble_eq_true rfl)) dX9_keepLanding_56 ⟨Nat.le_of_ble_eq_true rfl, Nat.le_of_ble_eq_true rfl⟩) hS (fun q _ h => hFc q h) hFc (fun f49 t H1 locs ht hvm hw48 hB hz1 hk1 hS => ?_)
      refine tn_3 hw48 (fun hT hF50 hw48p => ?_); clear hw48
      have hR := hR.then hF50 (by decide)
      have hP := hB.1; rw [ht] at hP; have hD := tp_ad f49 hD; clear hB hFc hz1 hk1; subst ht; generalize t.heap = H at hP hS ⊢
      refine lv_aload_n hx hb dX9_keepLanding_59 rfl (lv_at hl 1 rfl) ?_
      have hf_51 : f49 h0 = .inr (9, [.ref (ρ h0 0), .int o15_x1, .int o15_x2, .int o15_x3]) := (hF50 _ (by rw [ht_h0]; decide)).trans hf_39
      refine tpk_pos (tp_in hG ht_h0 (by decide)) hf_51 (fun q52 eq52 => ?_)
      refine va_get (D := (dC, dI)) (ci := 9) (v := .ref (ρ h0 0)) (C := RX9) (T := TX9) (N := 4) hx hb hts hfX9 hown hK hP q52 eq52 rfl 0 (by decide) (hts (.fieldLink RX9 9 "ColdShips$Watch" "world" "LColdShips$World;") wa_114) (fun _ h9 => h9) rfl dX9_keepLanding_60 ?_
      have hf_53 : f49 (ρ h0 0) = .inr (10, [.int o29_x0, .int o29_x1, .int o29_x2, .int o29_x3, .int o29_x4, .int o29_x5, .int o29_x6, .ref (ρ (ρ h0 0) 7), .ref (ρ (ρ h0 0) 8), .ref (ρ (ρ h0 0) 9), .ref (ρ (ρ h0 0) 10), .ref (ρ (ρ h0 0) 11), .ref (ρ (ρ h0 0) 12), .ref (ρ (ρ h0 0) 13), .ref (ρ (ρ h0 0) 14), .ref (ρ (ρ h0 0) 15), .ref (ρ (ρ h0 0) 16), .ref (ρ (ρ h0 0) 17), .ref (ρ (ρ h0 0) 18)]) := (hF50 _ (by rw [y14]; decide)).trans hf_41
      refine tpk_pos (tp_in hG y14 (by decide)) hf_53 (fun q54 eq54 => ?_)
      refine va_getN (D := (dC, dI)) (ci := 10) (v := .ref (ρ (ρ h0 0) 17)) (C := RX10) (T := TX10) (N := 19) hx hb hts hfX10 hown hK hP q54 eq54 rfl 17 (by decide) (va_Nw.use rfl (hN.1 (.fieldLinkNest RX9 214 "ColdShips$World" "landings" "LColdShips$Rows;" "ColdShips") nzw_84)) (fun _ h9 => h9) rfl dX9_keepLanding_63 ?_
      refine lv_iload_n hx hb dX9_keepLanding_66 rfl (lv_at hl 0 rfl) ?_
      refine lv_iconst (v := 2) hx hb dX9_keepLanding_67 (by decide) ?_
      refine lv_aload_n hx hb dX9_keepLanding_68 rfl (lv_at hl 3 rfl) ?_
      have hf_55 : f49 h1 = .inr (5, [.ref (ρ h1 0), .int o43_x1, .int o43_x2, .int o43_x3, .int o43_x4, .int o43_x5, .int o43_x6, .ref (ρ h1 7), .ref (ρ h1 8), .ref (ρ h1 9), .int o43_x10, .int o43_x11, .int o43_x12, .ref (ρ h1 13), .int o43_x14, .ref (ρ h1 15), .ref (ρ h1 16)]) := (hF50 _ (by rw [ht_h1]; decide)).trans hf_o43
      refine tpk_pos (tp_in hG ht_h1 (by decide)) hf_55 (fun q56 eq56 => ?_)
      refine va_getN (D := (dC, dI)) (ci := 5) (v := .int o43_x10) (C := RX5) (T := TX5) (N := 17) hx hb hts hfX5 hown hK hP q56 eq56 rfl 10 (by decide) (va_Nw.use rfl (hN.1 (.fieldLinkNest RX9 227 "ColdShips$Ship" "landFirst" "I" "ColdShips") nzw_40)) (fun _ h9 => h9) rfl dX9_keepLanding_69 ?_
      refine lv_i2l hx hb dX9_keepLanding_72 rfl ?_
      have hf_57 : f49 (ρ (ρ h0 0) 17) = .inr (4, [.int o33_x0, .ref (ρ (ρ (ρ h0 0) 17) 1), .int o33_x2]) := (hF50 _ (by rw [y27]; decide)).trans hf_45
      refine tpk_pos (tp_in hG y27 (by decide)) hf_57 (fun q58 eq58 => ?_)
      have hFc := tp_fr hD hS hA
      refine va_callv (va_runV (As := [.int w10, .int 2, .long o43_x10.toInt64]) (rest := []) ⟨hx, hb, hml, hown, hts⟩ (t_X4_set l dC dI _ Ω κ τ ν ρ L f49 hG hT (ρ (ρ h0 0) 17) w10 (2) o43_x10.toInt64 y27 o33_x0 o33_x2 hf_57) (cwV 3 hts gX9_keepLanding_X4_set rfl rfl rfl ⟨rfl, pd_X4_set⟩ ⟨Nat.le_of_ble_eq_true rfl, Nat.le_of_ble_eq_true rfl⟩) ⟨pz_blind, va_recv hK hP (ci := 4) (q0 := q58) rfl eq58, pz_pre hP hK hD hN⟩ rfl rfl hl.1 rfl (lv_room (Nat.le_of_ble_eq_true rfl)) dX9_keepLanding_73 ⟨Nat.le_of_ble_eq_true rfl, Nat.le_of_ble_eq_true rfl⟩) hS (fun q _ h => hFc q h) hFc (fun f61 t H1 locs ht hvm hw60 hB hz1 hk1 hS => ?_)
      refine tn_3 hw60 (fun hT hF62 hw60p => ?_); clear hw60
      have hR := hR.then hF62 (by decide)
      have hP := hB.1; rw [ht] at hP; have hD := tp_ad f61 hD; clear hB hFc hz1 hk1; subst ht; generalize t.heap = H at hP hS ⊢
      refine lv_aload_n hx hb dX9_keepLanding_76 rfl (lv_at hl 1 rfl) ?_
      have hf_63 : f61 h0 = .inr (9, [.ref (ρ h0 0), .int o15_x1, .int o15_x2, .int o15_x3]) := (hF62 _ (by rw [ht_h0]; decide)).trans hf_51
      refine tpk_pos (tp_in hG ht_h0 (by decide)) hf_63 (fun q64 eq64 => ?_)
      refine va_get (D := (dC, dI)) (ci := 9) (v := .ref (ρ h0 0)) (C := RX9) (T := TX9) (N := 4) hx hb hts hfX9 hown hK hP q64 eq64 rfl 0 (by decide) (hts (.fieldLink RX9 9 "ColdShips$Watch" "world" "LColdShips$World;") wa_114) (fun _ h9 => h9) rfl dX9_keepLanding_77 ?_
      have hf_65 : f61 (ρ h0 0) = .inr (10, [.int o29_x0, .int o29_x1, .int o29_x2, .int o29_x3, .int o29_x4, .int o29_x5, .int o29_x6, .ref (ρ (ρ h0 0) 7), .ref (ρ (ρ h0 0) 8), .ref (ρ (ρ h0 0) 9), .ref (ρ (ρ h0 0) 10), .ref (ρ (ρ h0 0) 11), .ref (ρ (ρ h0 0) 12), .ref (ρ (ρ h0 0) 13), .ref (ρ (ρ h0 0) 14), .ref (ρ (ρ h0 0) 15), .ref (ρ (ρ h0 0) 16), .ref (ρ (ρ h0 0) 17), .ref (ρ (ρ h0 0) 18)]) := (hF62 _ (by rw [y14]; decide)).trans hf_53
      refine tpk_pos (tp_in hG y14 (by decide)) hf_65 (fun q66 eq66 => ?_)
      refine va_getN (D := (dC, dI)) (ci := 10) (v := .ref (ρ (ρ h0 0) 17)) (C := RX10) (T := TX10) (N := 19) hx hb hts hfX10 hown hK hP q66 eq66 rfl 17 (by decide) (va_Nw.use rfl (hN.1 (.fieldLinkNest RX9 214 "ColdShips$World" "landings" "LColdShips$Rows;" "ColdShips") nzw_84)) (fun _ h9 => h9) rfl dX9_keepLanding_80 ?_
      refine lv_iload_n hx hb dX9_keepLanding_83 rfl (lv_at hl 0 rfl) ?_
      refine lv_iconst (v := 3) hx hb dX9_keepLanding_84 (by decide) ?_
      refine lv_aload_n hx hb dX9_keepLanding_85 rfl (lv_at hl 3 rfl) ?_
      have hf_67 : f61 h1 = .inr (5, [.ref (ρ h1 0), .int o43_x1, .int o43_x2, .int o43_x3, .int o43_x4, .int o43_x5, .int o43_x6, .ref (ρ h1 7), .ref (ρ h1 8), .ref (ρ h1 9), .int o43_x10, .int o43_x11, .int o43_x12, .ref (ρ h1 13), .int o43_x14, .ref (ρ h1 15), .ref (ρ h1 16)]) := (hF62 _ (by rw [ht_h1]; decide)).trans hf_55
      refine tpk_pos (tp_in hG ht_h1 (by decide)) hf_67 (fun q68 eq68 => ?_)
      refine va_getN (D := (dC, dI)) (ci := 5) (v := .int o43_x11) (C := RX5) (T := TX5) (N := 17) hx hb hts hfX5 hown hK hP q68 eq68 rfl 11 (by decide) (va_Nw.use rfl (hN.1 (.fieldLinkNest RX9 230 "ColdShips$Ship" "landLast" "I" "ColdShips") nzw_41)) (fun _ h9 => h9) rfl dX9_keepLanding_86 ?_
      refine lv_i2l hx hb dX9_keepLanding_89 rfl ?_
      have hf_69 : f61 (ρ (ρ h0 0) 17) = .inr (4, [.int o33_x0, .ref (ρ (ρ (ρ h0 0) 17) 1), .int o33_x2]) := (hF62 _ (by rw [y27]; decide)).trans hf_57
      refine tpk_pos (tp_in hG y27 (by decide)) hf_69 (fun q70 eq70 => ?_)
      have hFc := tp_fr hD hS hA
      refine va_callv (va_runV (As := [.int w10, .int 3, .long o43_x11.toInt64]) (rest := []) ⟨hx, hb, hml, hown, hts⟩ (t_X4_set l dC dI _ Ω κ τ ν ρ L f61 hG hT (ρ (ρ h0 0) 17) w10 (3) o43_x11.toInt64 y27 o33_x0 o33_x2 hf_69) (cwV 3 hts gX9_keepLanding_X4_set rfl rfl rfl ⟨rfl, pd_X4_set⟩ ⟨Nat.le_of_ble_eq_true rfl, Nat.le_of_ble_eq_true rfl⟩) ⟨pz_blind, va_recv hK hP (ci := 4) (q0 := q70) rfl eq70, pz_pre hP hK hD hN⟩ rfl rfl hl.1 rfl (lv_room (Nat.le_of_ble_eq_true rfl)) dX9_keepLanding_90 ⟨Nat.le_of_ble_eq_true rfl, Nat.le_of_ble_eq_true rfl⟩) hS (fun q _ h => hFc q h) hFc (fun f73 t H1 locs ht hvm hw72 hB hz1 hk1 hS => ?_)
      refine tn_3 hw72 (fun hT hF74 hw72p => ?_); clear hw72
      have hR := hR.then hF74 (by decide)
      have hP := hB.1; rw [ht] at hP; have hD := tp_ad f73 hD; clear hB hFc hz1 hk1; subst ht; generalize t.heap = H at hP hS ⊢
      refine lv_aload_n hx hb dX9_keepLanding_93 rfl (lv_at hl 1 rfl) ?_
      have hf_75 : f73 h0 = .inr (9, [.ref (ρ h0 0), .int o15_x1, .int o15_x2, .int o15_x3]) := (hF74 _ (by rw [ht_h0]; decide)).trans hf_63
      refine tpk_pos (tp_in hG ht_h0 (by decide)) hf_75 (fun q76 eq76 => ?_)
      refine va_get (D := (dC, dI)) (ci := 9) (v := .ref (ρ h0 0)) (C := RX9) (T := TX9) (N := 4) hx hb hts hfX9 hown hK hP q76 eq76 rfl 0 (by decide) (hts (.fieldLink RX9 9 "ColdShips$Watch" "world" "LColdShips$World;") wa_114) (fun _ h9 => h9) rfl dX9_keepLanding_94 ?_
      have hf_77 : f73 (ρ h0 0) = .inr (10, [.int o29_x0, .int o29_x1, .int o29_x2, .int o29_x3, .int o29_x4, .int o29_x5, .int o29_x6, .ref (ρ (ρ h0 0) 7), .ref (ρ (ρ h0 0) 8), .ref (ρ (ρ h0 0) 9), .ref (ρ (ρ h0 0) 10), .ref (ρ (ρ h0 0) 11), .ref (ρ (ρ h0 0) 12), .ref (ρ (ρ h0 0) 13), .ref (ρ (ρ h0 0) 14), .ref (ρ (ρ h0 0) 15), .ref (ρ (ρ h0 0) 16), .ref (ρ (ρ h0 0) 17), .ref (ρ (ρ h0 0) 18)]) := (hF74 _ (by rw [y14]; decide)).trans hf_65
      refine tpk_pos (tp_in hG y14 (by decide)) hf_77 (fun q78 eq78 => ?_)
      refine va_getN (D := (dC, dI)) (ci := 10) (v := .ref (ρ (ρ h0 0) 17)) (C := RX10) (T := TX10) (N := 19) hx hb hts hfX10 hown hK hP q78 eq78 rfl 17 (by decide) (va_Nw.use rfl (hN.1 (.fieldLinkNest RX9 214 "ColdShips$World" "landings" "LColdShips$Rows;" "ColdShips") nzw_84)) (fun _ h9 => h9) rfl dX9_keepLanding_97 ?_
      refine lv_iload_n hx hb dX9_keepLanding_100 rfl (lv_at hl 0 rfl) ?_
      refine lv_iconst (v := 4) hx hb dX9_keepLanding_101 (by decide) ?_
      refine lv_aload_n hx hb dX9_keepLanding_102 rfl (lv_at hl 3 rfl) ?_
      have hf_79 : f73 h1 = .inr (5, [.ref (ρ h1 0), .int o43_x1, .int o43_x2, .int o43_x3, .int o43_x4, .int o43_x5, .int o43_x6, .ref (ρ h1 7), .ref (ρ h1 8), .ref (ρ h1 9), .int o43_x10, .int o43_x11, .int o43_x12, .ref (ρ h1 13), .int o43_x14, .ref (ρ h1 15), .ref (ρ h1 16)]) := (hF74 _ (by rw [ht_h1]; decide)).trans hf_67
      refine tpk_pos (tp_in hG ht_h1 (by decide)) hf_79 (fun q80 eq80 => ?_)
      refine va_getN (D := (dC, dI)) (ci := 5) (v := .int o43_x12) (C := RX5) (T := TX5) (N := 17) hx hb hts hfX5 hown hK hP q80 eq80 rfl 12 (by decide) (va_Nw.use rfl (hN.1 (.fieldLinkNest RX9 211 "ColdShips$Ship" "landTons" "I" "ColdShips") nzw_42)) (fun _ h9 => h9) rfl dX9_keepLanding_103 ?_
      refine lv_i2l hx hb dX9_keepLanding_106 rfl ?_
      have hf_81 : f73 (ρ (ρ h0 0) 17) = .inr (4, [.int o33_x0, .ref (ρ (ρ (ρ h0 0) 17) 1), .int o33_x2]) := (hF74 _ (by rw [y27]; decide)).trans hf_69
      refine tpk_pos (tp_in hG y27 (by decide)) hf_81 (fun q82 eq82 => ?_)
      have hFc := tp_fr hD hS hA
      refine va_callv (va_runV (As := [.int w10, .int 4, .long o43_x12.toInt64]) (rest := []) ⟨hx, hb, hml, hown, hts⟩ (t_X4_set l dC dI _ Ω κ τ ν ρ L f73 hG hT (ρ (ρ h0 0) 17) w10 (4) o43_x12.toInt64 y27 o33_x0 o33_x2 hf_81) (cwV 3 hts gX9_keepLanding_X4_set rfl rfl rfl ⟨rfl, pd_X4_set⟩ ⟨Nat.le_of_ble_eq_true rfl, Nat.le_of_ble_eq_true rfl⟩) ⟨pz_blind, va_recv hK hP (ci := 4) (q0 := q82) rfl eq82, pz_pre hP hK hD hN⟩ rfl rfl hl.1 rfl (lv_room (Nat.le_of_ble_eq_true rfl)) dX9_keepLanding_107 ⟨Nat.le_of_ble_eq_true rfl, Nat.le_of_ble_eq_true rfl⟩) hS (fun q _ h => hFc q h) hFc (fun f85 t H1 locs ht hvm hw84 hB hz1 hk1 hS => ?_)
      refine tn_3 hw84 (fun hT hF86 hw84p => ?_); clear hw84
      have hR := hR.then hF86 (by decide)
      have hP := hB.1; rw [ht] at hP; have hD := tp_ad f85 hD; clear hB hFc hz1 hk1; subst ht; generalize t.heap = H at hP hS ⊢
      refine lv_iconst (v := 0) hx hb dX9_keepLanding_110 (by decide) ?_
      refine lv_istore (lv' := [(4, .int 0), (3, .int w10), (0, .ref h0), (1, .int a), (2, .ref h1)]) hx hb dX9_keepLanding_111 hl (by decide) rfl (fun ls hl => ?_)
      refine pz_loop (fun n0 H locs ls => ∃ f88 : Nat → va_E, ∃ w87 : Int32, n0 = (6 - (w87.toInt)).toNat ∧ tp_T Ω κ τ ν ρ f88 ∧ tp_F τ [5, 21] f f88 ∧ (0 ≤ w87.toInt ∧ w87.toInt ≤ 6) ∧ va_P (dC, dI) vwCl (va_pl L f88) H ∧ va_D A (va_pl L f88) ∧ va_S A s.heap H locs ∧ lv_has ls 5 [(4, .int w87), (3, .int w10), (0, .ref h0), (1, .int a), (2, .ref h1)]) ?_ _ _ _ _ ⟨f85, 0, rfl, hT, hR, (by have : (0 : Int32).toInt = 0 := rfl; omega), hP, hD, hS, lv_sub hl [0, 1, 2, 3, 4] rfl⟩
      intro n0 H locs ls hI ih89
      refine Exists.elim hI (fun f88 hE90 => Exists.elim hE90 (fun w87 hE91 => tn_8 hE91 (fun hn90 hT hR rw87 hP hD hS hl => ?_)))
      clear hE91 hE90 hI
      refine lv_iload hx hb dX9_keepLanding_113 (lv_at hl 0 rfl) ?_
      refine lv_bipush (v := 6) hx hb dX9_keepLanding_115 (by decide) ?_
      refine lv_icmp_ge (tgt := 149) hx hb dX9_keepLanding_117 (by decide) (fun c91 => ?_) (fun c91 => ?_)
      · have ic91 : w87.toInt ≥ 6 := zi_ge rfl rfl c91
        refine lv_aload_n hx hb dX9_keepLanding_149 rfl (lv_at hl 2 rfl) ?_
        refine tpk_10 hT ht_h0 (fun o92_x1 o92_x2 o92_x3 hf_o92 ro92_0 ro92_1 => ?_)
        refine tpk_pos (tp_in hG ht_h0 (by decide)) hf_o92 (fun q93 eq93 => ?_)
        refine va_get (D := (dC, dI)) (ci := 9) (v := .ref (ρ h0 0)) (C := RX9) (T := TX9) (N := 4) hx hb hts hfX9 hown hK hP q93 eq93 rfl 0 (by decide) (hts (.fieldLink RX9 9 "ColdShips$Watch" "world" "LColdShips$World;") wa_114) (fun _ h9 => h9) rfl dX9_keepLanding_150 ?_
        refine tpk_11 hT y14 (fun o94_x0 o94_x1 o94_x2 o94_x3 o94_x4 o94_x5 o94_x6 hf_o94 ro94_0 ro94_1 ro94_2 ro94_3 => ?_)
        refine tpk_pos (tp_in hG y14 (by decide)) hf_o94 (fun q95 eq95 => ?_)
        refine va_getN (D := (dC, dI)) (ci := 10) (v := .ref (ρ (ρ h0 0) 17)) (C := RX10) (T := TX10) (N := 19) hx hb hts hfX10 hown hK hP q95 eq95 rfl 17 (by decide) (va_Nw.use rfl (hN.1 (.fieldLinkNest RX9 214 "ColdShips$World" "landings" "LColdShips$Rows;" "ColdShips") nzw_84)) (fun _ h9 => h9) rfl dX9_keepLanding_153 ?_
        refine lv_iload_n hx hb dX9_keepLanding_156 rfl (lv_at hl 1 rfl) ?_
        refine lv_bipush (v := 11) hx hb dX9_keepLanding_157 (by decide) ?_
        refine lv_ldc2 (own := RX9) (v := (-1)) hx hb hown (hts (.constantLong RX9 236 (-1)) wa_512) dX9_keepLanding_159 ?_
        refine tpk_5 hT y27 (fun o96_x0 o96_x2 hf_o96 ro96_0 ro96_1 => ?_)
        refine tpk_pos (tp_in hG y27 (by decide)) hf_o96 (fun q97 eq97 => ?_)
        have hFc := tp_fr hD hS hA
        refine va_callv (va_runV (As := [.int w10, .int 11, .long (-1)]) (rest := []) ⟨hx, hb, hml, hown, hts⟩ (t_X4_set l dC dI _ Ω κ τ ν ρ L f88 hG hT (ρ (ρ h0 0) 17) w10 (11) ((-1)) y27 o96_x0 o96_x2 hf_o96) (cwV 3 hts gX9_keepLanding_X4_set rfl rfl rfl ⟨rfl, pd_X4_set⟩ ⟨Nat.le_of_ble_eq_true rfl, Nat.le_of_ble_eq_true rfl⟩) ⟨pz_blind, va_recv hK hP (ci := 4) (q0 := q97) rfl eq97, pz_pre hP hK hD hN⟩ rfl rfl hl.1 rfl (lv_room (Nat.le_of_ble_eq_true rfl)) dX9_keepLanding_162 ⟨Nat.le_of_ble_eq_true rfl, Nat.le_of_ble_eq_true rfl⟩) hS (fun q _ h => hFc q h) hFc (fun f100 t H1 locs ht hvm hw99 hB hz1 hk1 hS => ?_)
        refine tn_3 hw99 (fun hT hF101 hw99p => ?_); clear hw99
        have hR := hR.then hF101 (by decide)
        have hP := hB.1; rw [ht] at hP; have hD := tp_ad f100 hD; clear hB hFc hz1 hk1; subst ht; generalize t.heap = H at hP hS ⊢
        refine lv_aload_n hx hb dX9_keepLanding_165 rfl (lv_at hl 2 rfl) ?_
        have hf_102 : f100 h0 = .inr (9, [.ref (ρ h0 0), .int o92_x1, .int o92_x2, .int o92_x3]) := (hF101 _ (by rw [ht_h0]; decide)).trans hf_o92
        refine tpk_pos (tp_in hG ht_h0 (by decide)) hf_102 (fun q103 eq103 => ?_)
        refine va_get (D := (dC, dI)) (ci := 9) (v := .ref (ρ h0 0)) (C := RX9) (T := TX9) (N := 4) hx hb hts hfX9 hown hK hP q103 eq103 rfl 0 (by decide) (hts (.fieldLink RX9 9 "ColdShips$Watch" "world" "LColdShips$World;") wa_114) (fun _ h9 => h9) rfl dX9_keepLanding_166 ?_
        have hf_104 : f100 (ρ h0 0) = .inr (10, [.int o94_x0, .int o94_x1, .int o94_x2, .int o94_x3, .int o94_x4, .int o94_x5, .int o94_x6, .ref (ρ (ρ h0 0) 7), .ref (ρ (ρ h0 0) 8), .ref (ρ (ρ h0 0) 9), .ref (ρ (ρ h0 0) 10), .ref (ρ (ρ h0 0) 11), .ref (ρ (ρ h0 0) 12), .ref (ρ (ρ h0 0) 13), .ref (ρ (ρ h0 0) 14), .ref (ρ (ρ h0 0) 15), .ref (ρ (ρ h0 0) 16), .ref (ρ (ρ h0 0) 17), .ref (ρ (ρ h0 0) 18)]) := (hF101 _ (by rw [y14]; decide)).trans hf_o94
        refine tpk_pos (tp_in hG y14 (by decide)) hf_104 (fun q105 eq105 => ?_)
        refine va_getN (D := (dC, dI)) (ci := 10) (v := .ref (ρ (ρ h0 0) 17)) (C := RX10) (T := TX10) (N := 19) hx hb hts hfX10 hown hK hP q105 eq105 rfl 17 (by decide) (va_Nw.use rfl (hN.1 (.fieldLinkNest RX9 214 "ColdShips$World" "landings" "LColdShips$Rows;" "ColdShips") nzw_84)) (fun _ h9 => h9) rfl dX9_keepLanding_169 ?_
        refine lv_iload_n hx hb dX9_keepLanding_172 rfl (lv_at hl 1 rfl) ?_
        refine lv_bipush (v := 12) hx hb dX9_keepLanding_173 (by decide) ?_
        refine lv_ldc2 (own := RX9) (v := (-1)) hx hb hown (hts (.constantLong RX9 236 (-1)) wa_512) dX9_keepLanding_175 ?_
        have hf_106 : f100 (ρ (ρ h0 0) 17) = .inr (4, [.int o96_x0, .ref (ρ (ρ (ρ h0 0) 17) 1), .int o96_x2]) := (hF101 _ (by rw [y27]; decide)).trans hf_o96
        refine tpk_pos (tp_in hG y27 (by decide)) hf_106 (fun q107 eq107 => ?_)
        have hFc := tp_fr hD hS hA
        refine va_callv (va_runV (As := [.int w10, .int 12, .long (-1)]) (rest := []) ⟨hx, hb, hml, hown, hts⟩ (t_X4_set l dC dI _ Ω κ τ ν ρ L f100 hG hT (ρ (ρ h0 0) 17) w10 (12) ((-1)) y27 o96_x0 o96_x2 hf_106) (cwV 3 hts gX9_keepLanding_X4_set rfl rfl rfl ⟨rfl, pd_X4_set⟩ ⟨Nat.le_of_ble_eq_true rfl, Nat.le_of_ble_eq_true rfl⟩) ⟨pz_blind, va_recv hK hP (ci := 4) (q0 := q107) rfl eq107, pz_pre hP hK hD hN⟩ rfl rfl hl.1 rfl (lv_room (Nat.le_of_ble_eq_true rfl)) dX9_keepLanding_178 ⟨Nat.le_of_ble_eq_true rfl, Nat.le_of_ble_eq_true rfl⟩) hS (fun q _ h => hFc q h) hFc (fun f110 t H1 locs ht hvm hw109 hB hz1 hk1 hS => ?_)
        refine tn_3 hw109 (fun hT hF111 hw109p => ?_); clear hw109
        have hR := hR.then hF111 (by decide)
        have hP := hB.1; rw [ht] at hP; have hD := tp_ad f110 hD; clear hB hFc hz1 hk1; subst ht; generalize t.heap = H at hP hS ⊢
        exact W.vret hx hb hr (fun t ht hW => ⟨⟨f110, rfl, ⟨hT, hR, trivial⟩, by rw [ht]; exact hP, va_K.moved hW.alike hK, hD⟩, hS.F ht⟩) hS.2.2 dX9_keepLanding_181
      · have ic91 : w87.toInt < 6 := zi_gef rfl rfl c91
        refine lv_aload_n hx hb dX9_keepLanding_120 rfl (lv_at hl 2 rfl) ?_
        refine tpk_10 hT ht_h0 (fun o112_x1 o112_x2 o112_x3 hf_o112 ro112_0 ro112_1 => ?_)
        refine tpk_pos (tp_in hG ht_h0 (by decide)) hf_o112 (fun q113 eq113 => ?_)
        refine va_get (D := (dC, dI)) (ci := 9) (v := .ref (ρ h0 0)) (C := RX9) (T := TX9) (N := 4) hx hb hts hfX9 hown hK hP q113 eq113 rfl 0 (by decide) (hts (.fieldLink RX9 9 "ColdShips$Watch" "world" "LColdShips$World;") wa_114) (fun _ h9 => h9) rfl dX9_keepLanding_121 ?_
        refine tpk_11 hT y14 (fun o114_x0 o114_x1 o114_x2 o114_x3 o114_x4 o114_x5 o114_x6 hf_o114 ro114_0 ro114_1 ro114_2 ro114_3 => ?_)
        refine tpk_pos (tp_in hG y14 (by decide)) hf_o114 (fun q115 eq115 => ?_)
        refine va_getN (D := (dC, dI)) (ci := 10) (v := .ref (ρ (ρ h0 0) 17)) (C := RX10) (T := TX10) (N := 19) hx hb hts hfX10 hown hK hP q115 eq115 rfl 17 (by decide) (va_Nw.use rfl (hN.1 (.fieldLinkNest RX9 214 "ColdShips$World" "landings" "LColdShips$Rows;" "ColdShips") nzw_84)) (fun _ h9 => h9) rfl dX9_keepLanding_124 ?_
        refine lv_iload_n hx hb dX9_keepLanding_127 rfl (lv_at hl 1 rfl) ?_
        refine lv_iconst (v := 5) hx hb dX9_keepLanding_128 (by decide) ?_
        refine lv_iload hx hb dX9_keepLanding_129 (lv_at hl 0 rfl) ?_
        refine lv_iadd hx hb dX9_keepLanding_131 ?_
        refine lv_topi (fun z116 ez116 => ?_)
        have iz116 : z116.toInt = 5 + w87.toInt := zi_add ez116 rfl rfl (by omega) (by omega)
        refine lv_aload_n hx hb dX9_keepLanding_132 rfl (lv_at hl 4 rfl) ?_
        refine tpk_6 hT ht_h1 (fun o117_x1 o117_x2 o117_x3 o117_x4 o117_x5 o117_x6 o117_x10 o117_x11 o117_x12 o117_x14 hf_o117 ro117_0 ro117_1 ro117_2 => ?_)
        refine tpk_pos (tp_in hG ht_h1 (by decide)) hf_o117 (fun q118 eq118 => ?_)
        refine va_getN (D := (dC, dI)) (ci := 5) (v := .ref (ρ h1 13)) (C := RX5) (T := TX5) (N := 17) hx hb hts hfX5 hown hK hP q118 eq118 rfl 13 (by decide) (va_Nw.use rfl (hN.1 (.fieldLinkNest RX9 233 "ColdShips$Ship" "landParts" "[I" "ColdShips") nzw_43)) (fun _ h9 => h9) rfl dX9_keepLanding_133 ?_
        refine lv_iload hx hb dX9_keepLanding_136 (lv_at hl 0 rfl) ?_
        refine tpk_20 hT y5 y5n (fun g120 hf_o119 => ?_)
        refine tpk_pos (tp_in hG y5 (by decide)) hf_o119 (fun q121 eq121 => ?_)
        refine va_iald hx hb hK hP q121 0 eq121 rfl (vp_in_iff.mpr ⟨by omega, by omega⟩) dX9_keepLanding_138 ?_
        refine lv_topi (fun z122 ez122 => ?_)
        refine lv_i2l hx hb dX9_keepLanding_139 rfl ?_
        refine tpk_5 hT y27 (fun o123_x0 o123_x2 hf_o123 ro123_0 ro123_1 => ?_)
        refine tpk_pos (tp_in hG y27 (by decide)) hf_o123 (fun q124 eq124 => ?_)
        have hFc := tp_fr hD hS hA
        refine va_callv (va_runV (As := [.int w10, .int z116, .long z122.toInt64]) (rest := []) ⟨hx, hb, hml, hown, hts⟩ (t_X4_set l dC dI _ Ω κ τ ν ρ L f88 hG hT (ρ (ρ h0 0) 17) w10 z116 z122.toInt64 y27 o123_x0 o123_x2 hf_o123) (cwV 3 hts gX9_keepLanding_X4_set rfl rfl rfl ⟨rfl, pd_X4_set⟩ ⟨Nat.le_of_ble_eq_true rfl, Nat.le_of_ble_eq_true rfl⟩) ⟨pz_blind, va_recv hK hP (ci := 4) (q0 := q124) rfl eq124, pz_pre hP hK hD hN⟩ rfl rfl hl.1 rfl (lv_room (Nat.le_of_ble_eq_true rfl)) dX9_keepLanding_140 ⟨Nat.le_of_ble_eq_true rfl, Nat.le_of_ble_eq_true rfl⟩) hS (fun q _ h => hFc q h) hFc (fun f127 t H1 locs ht hvm hw126 hB hz1 hk1 hS => ?_)
        refine tn_3 hw126 (fun hT hF128 hw126p => ?_); clear hw126
        have hR := hR.then hF128 (by decide)
        have hP := hB.1; rw [ht] at hP; have hD := tp_ad f127 hD; clear hB hFc hz1 hk1; subst ht; generalize t.heap = H at hP hS ⊢
        obtain ⟨z129, ez129⟩ : ∃ y : Int32, y = w87 + 1 := ⟨_, rfl⟩
        refine lv_iinc (v := z129) (lv' := [(4, .int z129), (3, .int w10), (0, .ref h0), (1, .int a), (2, .ref h1)]) hx hb dX9_keepLanding_143 hl (k := 0) rfl (by rw [ez129]; rfl) (by decide) rfl (fun ls hl => ?_)
        have iz129 : z129.toInt = w87.toInt + 1 := zi_add ez129 rfl rfl (by omega) (by omega)
        refine lv_goto (tgt := 113) hx hb dX9_keepLanding_146 (by decide) ?_
        exact ih89 _ _ _ _ (by rw [hn90]; omega) ⟨f127, z129, rfl, hT, hR, (by omega), hP, hD, hS, lv_sub hl [0, 1, 2, 3, 4] rfl⟩
    · have ic13 : w10.toInt = (-1) := zi_nef rfl rfl c13
      exact W.vret hx hb hr (fun t ht hW => ⟨⟨f12, rfl, ⟨hT, hR, trivial⟩, by rw [ht]; exact hP, va_K.moved hW.alike hK, hD⟩, hS.F ht⟩) hS.2.2 dX9_keepLanding_27
  · refine lv_if_le (tgt := 20) hx hb dX9_keepLanding_4 (by decide) (fun c130 => ?_) (fun c130 => ?_)
    · have ic130 : o8_x12.toInt ≤ 0 := zi_le rfl rfl c130
      refine lv_iconst (v := (-1)) hx hb dX9_keepLanding_20 (by decide) ?_
      exact hj11 _ _ _ _ ⟨f, (-1), rfl, hT, hR, hP, hD, hS, lv_sub hl [0, 1, 2] rfl⟩
    · have ic130 : o8_x12.toInt > 0 := zi_lef rfl rfl c130
      refine lv_aload_n hx hb dX9_keepLanding_7 rfl (lv_at hl 0 rfl) ?_
      have y131 := tpg_10 hG ht_h0
      refine tpk_10 hT ht_h0 (fun o132_x1 o132_x2 o132_x3 hf_o132 ro132_0 ro132_1 => ?_)
      refine tpk_pos (tp_in hG ht_h0 (by decide)) hf_o132 (fun q133 eq133 => ?_)
      refine va_get (D := (dC, dI)) (ci := 9) (v := .ref (ρ h0 0)) (C := RX9) (T := TX9) (N := 4) hx hb hts hfX9 hown hK hP q133 eq133 rfl 0 (by decide) (hts (.fieldLink RX9 9 "ColdShips$Watch" "world" "LColdShips$World;") wa_114) (fun _ h9 => h9) rfl dX9_keepLanding_8 ?_
      refine tgk_11 hG y131 (fun y134 y134n y135 y135n y136 y137 y138 y139 y140 y141 y142 y142w y142m y143 y143w y143m y144 y144w y144m y145 y145w y145m => ?_)
      refine tpk_11 hT y131 (fun o146_x0 o146_x1 o146_x2 o146_x3 o146_x4 o146_x5 o146_x6 hf_o146 ro146_0 ro146_1 ro146_2 ro146_3 => ?_)
      refine tpk_pos (tp_in hG y131 (by decide)) hf_o146 (fun q147 eq147 => ?_)
      refine va_getN (D := (dC, dI)) (ci := 10) (v := .ref (ρ (ρ h0 0) 17)) (C := RX10) (T := TX10) (N := 19) hx hb hts hfX10 hown hK hP q147 eq147 rfl 17 (by decide) (va_Nw.use rfl (hN.1 (.fieldLinkNest RX9 214 "ColdShips$World" "landings" "LColdShips$Rows;" "ColdShips") nzw_84)) (fun _ h9 => h9) rfl dX9_keepLanding_11 ?_
      refine tgk_5 hG y144 (fun y148 y148n y149a y149b y149c => ?_)
      refine tpk_5 hT y144 (fun o150_x0 o150_x2 hf_o150 ro150_0 ro150_1 => ?_)
      refine tpk_pos (tp_in hG y144 (by decide)) hf_o150 (fun q151 eq151 => ?_)
      have hFc := tp_fr hD hS hA
      refine va_calli (va_runV (As := []) (rest := []) ⟨hx, hb, hml, hown, hts⟩ (t_X4_addRow l dC dI _ Ω κ τ ν ρ L f hG hT (ρ (ρ h0 0) 17) y144 o150_x0 o150_x2 hf_o150) (cwV 0 hts gX9_keepLanding_X4_addRow rfl rfl rfl ⟨rfl, pd_X4_addRow⟩ ⟨Nat.le_of_ble_eq_true rfl, Nat.le_of_ble_eq_true rfl⟩) ⟨pz_blind, va_recv hK hP (ci := 4) (q0 := q151) rfl eq151, pz_pre hP hK hD hN⟩ rfl rfl hl.1 rfl (lv_room (Nat.le_of_ble_eq_true rfl)) dX9_keepLanding_14 ⟨Nat.le_of_ble_eq_true rfl, Nat.le_of_ble_eq_true rfl⟩) hS (fun q _ h => hFc q h) hFc (fun r152 f154 t H1 locs ht hvm hw153 hB hz1 hk1 hS => ?_)
      refine tn_4 hw153 (fun hT hF155 hw153r hw153p => ?_); clear hw153
      have hR := hR.then hF155 (by decide)
      have hP := hB.1; rw [ht] at hP; have hD := tp_ad f154 hD; clear hB hFc hz1 hk1; subst ht; generalize t.heap = H at hP hS ⊢
      refine lv_goto (tgt := 21) hx hb dX9_keepLanding_17 (by decide) ?_
      exact hj11 _ _ _ _ ⟨f154, r152, rfl, hT, hR, hP, hD, hS, lv_sub hl [0, 1, 2] rfl⟩
set_option maxHeartbeats 4000000 in
set_option maxRecDepth 100000 in
theorem t_X9_land (l : Launch) (dC : Nat → ClassId) (dI : Nat → Nat → Nat) (sz : Nat) (Ω : Nat → (Nat → Nat) → va_E → Prop) (κ : Nat → ClassId) (τ ν : Nat → Nat) (ρ : Nat → Nat → Nat) (L : List Nat) (f : Nat → va_E) (hG : tp_G τ ν ρ L) (hT : tp_T Ω κ τ ν ρ f) (h0 : Nat) (a : Int32) (h1 : Nat) (ht_h0 : τ h0 = 10) (ht_h1 : τ h1 = 6) : Met l yX9_land wqX9_land ({ frames := 6, cells := 0, slots := 0, locals := 2000 }) (va_Pc [.ref h0, .int a, .ref h1] (pz_B dC dI (tp_K κ) (va_pl L f) sz)) (va_Qv (fun (f1 : Nat → va_E) => tp_T Ω κ τ ν ρ f1 ∧ tp_F τ [5, 6, 8, 9, 20, 21] f f1 ∧ True) (fun (f1 : Nat → va_E) (t : State) => pz_E dC dI (tp_K κ) (va_A (va_pl L f) sz) (va_pl L f1) t) (va_A (va_pl L f) sz)) 0 0 (va_A (va_pl L f) sz) := by
  refine Met.ofW (cc := cX9_land) (maxL := 7) (ret := none) (by decide) rfl ?_
  intro p e s m args below meth c s₁ B hml hv
  obtain ⟨rfl, hsz, hP, hK, hD0, hN⟩ := hv
  have hx := B.exec
  have hb := B.bytes
  have hr := B.returns
  have hts := fun (w : Cond) (h : w ∈ WALL) => atoms_spec (ws := wqX9_land) B.pre w (List.mem_cons_of_mem _ h)
  have hown : s.vm.findClass RX9 = some m.cls := findClass_of_methodNamed B.named
  have hlocks := B.notSynchronized
  subst hsz
  have hD := hD0.self (sz := s.heap.size)
  generalize hAe : va_A (va_pl L f) s.heap.size = A at hD ⊢
  have hA : ∀ q : Nat, s.heap.size ≤ q → A q := fun q h => by rw [← hAe]; exact Or.inr h
  have hS : va_S A s.heap s.heap [] := va_S.rf
  have hR : tp_F τ [5, 6, 8, 9, 20, 21] f f := tp_F.rf
  have hl := lv_entry ([.ref h0, .int a, .ref h1]) (n := 7) (Nat.le_of_ble_eq_true rfl)
  rw [lg_entry_eq]
  generalize (lg_sl ([.ref h0, .int a, .ref h1]) ++ List.replicate (7 - (lg_sl ([.ref h0, .int a, .ref h1])).length) Slot.unset).toArray = ls at hl ⊢
  have hl : lv_has ls 7 [(0, .ref h0), (1, .int a), (2, .ref h1)] := hl
  refine lv_aload_n hx hb dX9_land_0 rfl (lv_at hl 0 rfl) ?_
  have y1 := tpg_10 hG ht_h0
  refine tpk_10 hT ht_h0 (fun o2_x1 o2_x2 o2_x3 hf_o2 ro2_0 ro2_1 => ?_)
  refine tpk_pos (tp_in hG ht_h0 (by decide)) hf_o2 (fun q3 eq3 => ?_)
  refine va_get (D := (dC, dI)) (ci := 9) (v := .ref (ρ h0 0)) (C := RX9) (T := TX9) (N := 4) hx hb hts hfX9 hown hK hP q3 eq3 rfl 0 (by decide) (hts (.fieldLink RX9 9 "ColdShips$Watch" "world" "LColdShips$World;") wa_114) (fun _ h9 => h9) rfl dX9_land_1 ?_
  refine tgk_11 hG y1 (fun y4 y4n y5 y5n y6 y7 y8 y9 y10 y11 y12 y12w y12m y13 y13w y13m y14 y14w y14m y15 y15w y15m => ?_)
  refine tpk_11 hT y1 (fun o16_x0 o16_x1 o16_x2 o16_x3 o16_x4 o16_x5 o16_x6 hf_o16 ro16_0 ro16_1 ro16_2 ro16_3 => ?_)
  refine tpk_pos (tp_in hG y1 (by decide)) hf_o16 (fun q17 eq17 => ?_)
  refine va_getN (D := (dC, dI)) (ci := 10) (v := .ref (ρ (ρ h0 0) 9)) (C := RX10) (T := TX10) (N := 19) hx hb hts hfX10 hown hK hP q17 eq17 rfl 9 (by decide) (va_Nw.use rfl (hN.1 (.fieldLinkNest RX9 121 "ColdShips$World" "terminals" "[LColdShips$Terminal;" "ColdShips") nzw_66)) (fun _ h9 => h9) rfl dX9_land_4 ?_
  refine lv_aload_n hx hb dX9_land_7 rfl (lv_at hl 2 rfl) ?_
  refine tgk_6 hG ht_h1 (fun y18 y19 y19n y20 y20n y21 y21n y22 y22n y23 y23n y24 y24n => ?_)
  refine tpk_6 hT ht_h1 (fun o25_x1 o25_x2 o25_x3 o25_x4 o25_x5 o25_x6 o25_x10 o25_x11 o25_x12 o25_x14 hf_o25 ro25_0 ro25_1 ro25_2 => ?_)
  refine tpk_pos (tp_in hG ht_h1 (by decide)) hf_o25 (fun q26 eq26 => ?_)
  refine va_getN (D := (dC, dI)) (ci := 5) (v := .int o25_x2) (C := RX5) (T := TX5) (N := 17) hx hb hts hfX5 hown hK hP q26 eq26 rfl 2 (by decide) (va_Nw.use rfl (hN.1 (.fieldLinkNest RX9 114 "ColdShips$Ship" "where" "I" "ColdShips") nzw_27)) (fun _ h9 => h9) rfl dX9_land_8 ?_
  refine tpk_24 hT y6 (fun g28 hf_o27 hf_o27e => ?_)
  refine tpk_pos (tp_in hG y6 (by decide)) hf_o27 (fun q29 eq29 => ?_)
  refine va_aldq hx hb hK hP q29 4 eq29 rfl (vp_in_iff.mpr ⟨by omega, by omega⟩) dX9_land_11 ?_
  obtain ⟨b30, hb31⟩ : ∃ b : Nat, b = ρ (ρ (ρ h0 0) 9) o25_x2.toNatClampNeg := ⟨_, rfl⟩
  have hb31t : τ b30 = 9 := by rw [hb31]; exact tpg_24 hG y6 _ (zi_cl (vp_in_iff.mpr ⟨by omega, by omega⟩))
  have hb31g : g28 o25_x2.toNatClampNeg = some b30 := by rw [hb31]; exact hf_o27e _ (zi_cl (vp_in_iff.mpr ⟨by omega, by omega⟩))
  refine W.eq (g2 := F0 m 12 ls (.ref b30 :: [])) (congrArg (fun o => F0 m 12 ls (va_rf o :: [])) hb31g) ?_
  refine lv_astore_n (lv' := [(3, .ref b30), (0, .ref h0), (1, .int a), (2, .ref h1)]) hx hb dX9_land_12 rfl hl (by decide) rfl (fun ls hl => ?_)
  refine lv_iconst (v := 0) hx hb dX9_land_13 (by decide) ?_
  refine lv_aload_n hx hb dX9_land_14 rfl (lv_at hl 3 rfl) ?_
  refine va_getN (D := (dC, dI)) (ci := 5) (v := .ref (ρ h1 0)) (C := RX5) (T := TX5) (N := 17) hx hb hts hfX5 hown hK hP q26 eq26 rfl 0 (by decide) (va_Nw.use rfl (hN.1 (.fieldLinkNest RX9 55 "ColdShips$Ship" "tank" "LColdShips$Tank;" "ColdShips") nzw_21)) (fun _ h9 => h9) rfl dX9_land_15 ?_
  refine tgk_8 hG y18 (fun y32 y32n y33 y33n y34 y34n => ?_)
  refine tpk_8 hT y18 (fun o35_x0 o35_x1 o35_x2 o35_x3 hf_o35 ro35_0 => ?_)
  refine tpk_pos (tp_in hG y18 (by decide)) hf_o35 (fun q36 eq36 => ?_)
  refine va_getN (D := (dC, dI)) (ci := 7) (v := .int o35_x1) (C := RX7) (T := TX7) (N := 7) hx hb hts hfX7 hown hK hP q36 eq36 rfl 1 (by decide) (va_Nw.use rfl (hN.1 (.fieldLinkNest RX9 183 "ColdShips$Tank" "gas" "I" "ColdShips") nzw_14)) (fun _ h9 => h9) rfl dX9_land_18 ?_
  refine lv_aload_n hx hb dX9_land_21 rfl (lv_at hl 3 rfl) ?_
  refine va_getN (D := (dC, dI)) (ci := 5) (v := .ref (ρ h1 0)) (C := RX5) (T := TX5) (N := 17) hx hb hts hfX5 hown hK hP q26 eq26 rfl 0 (by decide) (va_Nw.use rfl (hN.1 (.fieldLinkNest RX9 55 "ColdShips$Ship" "tank" "LColdShips$Tank;" "ColdShips") nzw_21)) (fun _ h9 => h9) rfl dX9_land_22 ?_
  refine pz_calli (va_runV (As := []) (rest := [.int o35_x1, .int 0]) ⟨hx, hb, hml, hown, hts⟩ (t_X7_heel l dC dI _ Ω κ τ ν ρ L f hG hT (ρ h1 0) y18) (cwV 0 hts gX9_land_X7_heel rfl rfl rfl ⟨rfl, pd_X7_heel⟩ ⟨Nat.le_of_ble_eq_true rfl, Nat.le_of_ble_eq_true rfl⟩) ⟨pz_blind, va_recv hK hP (ci := 7) (q0 := q36) rfl eq36, pz_pre hP hK hD hN⟩ rfl rfl hl.1 rfl (lv_room (Nat.le_of_ble_eq_true rfl)) dX9_land_25 ⟨Nat.le_of_ble_eq_true rfl, Nat.le_of_ble_eq_true rfl⟩) (fun r37 hw38 => ?_)
  obtain ⟨hw38r, hw38p⟩ := hw38
  refine lv_isub hx hb dX9_land_28 ?_
  refine lv_topi (fun z39 ez39 => ?_)
  refine va_mmax hx hb (by rw [hml]; exact hl.1.symm) hown (hts (.methodLink RX9 175 Lib.Math.max.name) wa_486) (hts (.static Lib.Math.max.name) wa_70) (hts (.initialized "java/lang/Math") wa_71) (hts (.code Lib.Math.max.name Lib.Math.max.code 2 (some .int)) wa_72) (Nat.le_of_ble_eq_true rfl) (Nat.le_of_ble_eq_true rfl) (Nat.le_of_ble_eq_true rfl) (Nat.le_of_ble_eq_true rfl) dX9_land_29 ?_
  refine lv_topi (fun z40 ez40 => ?_)
  have iz40 := zi_max ez40 (show (0 : Int32).toInt = 0 from rfl) (rfl : z39.toInt = _)
  refine lv_istore (lv' := [(4, .int z40), (3, .ref b30), (0, .ref h0), (1, .int a), (2, .ref h1)]) hx hb dX9_land_32 hl (by decide) rfl (fun ls hl => ?_)
  refine lv_iconst (v := 0) hx hb dX9_land_34 (by decide) ?_
  refine lv_aload_n hx hb dX9_land_35 rfl (lv_at hl 1 rfl) ?_
  refine tgk_9 hG hb31t (fun y41 y41n y42 y42n => ?_)
  refine tpk_9 hT hb31t (fun o43_x0 o43_x1 o43_x2 o43_x3 o43_x4 hf_o43 ro43_0 => ?_)
  refine tpk_pos (tp_in hG hb31t (by decide)) hf_o43 (fun q44 eq44 => ?_)
  refine va_getN (D := (dC, dI)) (ci := 8) (v := .int o43_x1) (C := RX8) (T := TX8) (N := 7) hx hb hts hfX8 hown hK hP q44 eq44 rfl 1 (by decide) (va_Nw.use rfl (hN.1 (.fieldLinkNest RX9 199 "ColdShips$Terminal" "cap" "I" "ColdShips") nzw_7)) (fun _ h9 => h9) rfl dX9_land_36 ?_
  refine lv_aload_n hx hb dX9_land_39 rfl (lv_at hl 1 rfl) ?_
  refine va_getN (D := (dC, dI)) (ci := 8) (v := .int o43_x0) (C := RX8) (T := TX8) (N := 7) hx hb hts hfX8 hown hK hP q44 eq44 rfl 0 (by decide) (va_Nw.use rfl (hN.1 (.fieldLinkNest RX9 189 "ColdShips$Terminal" "store" "I" "ColdShips") nzw_5)) (fun _ h9 => h9) rfl dX9_land_40 ?_
  refine lv_isub hx hb dX9_land_43 ?_
  refine lv_topi (fun z45 ez45 => ?_)
  refine va_mmax hx hb (by rw [hml]; exact hl.1.symm) hown (hts (.methodLink RX9 175 Lib.Math.max.name) wa_486) (hts (.static Lib.Math.max.name) wa_70) (hts (.initialized "java/lang/Math") wa_71) (hts (.code Lib.Math.max.name Lib.Math.max.code 2 (some .int)) wa_72) (Nat.le_of_ble_eq_true rfl) (Nat.le_of_ble_eq_true rfl) (Nat.le_of_ble_eq_true rfl) (Nat.le_of_ble_eq_true rfl) dX9_land_44 ?_
  refine lv_topi (fun z46 ez46 => ?_)
  have iz46 := zi_max ez46 (show (0 : Int32).toInt = 0 from rfl) (rfl : z45.toInt = _)
  refine lv_istore (lv' := [(5, .int z46), (4, .int z40), (3, .ref b30), (0, .ref h0), (1, .int a), (2, .ref h1)]) hx hb dX9_land_47 hl (by decide) rfl (fun ls hl => ?_)
  refine lv_aload_n hx hb dX9_land_49 rfl (lv_at hl 2 rfl) ?_
  refine va_getN (D := (dC, dI)) (ci := 8) (v := .int o43_x2) (C := RX8) (T := TX8) (N := 7) hx hb hts hfX8 hown hK hP q44 eq44 rfl 2 (by decide) (va_Nw.use rfl (hN.1 (.fieldLinkNest RX9 172 "ColdShips$Terminal" "rate" "I" "ColdShips") nzw_8)) (fun _ h9 => h9) rfl dX9_land_50 ?_
  refine lv_aload_n hx hb dX9_land_53 rfl (lv_at hl 5 rfl) ?_
  refine va_getN (D := (dC, dI)) (ci := 5) (v := .ref (ρ h1 8)) (C := RX5) (T := TX5) (N := 17) hx hb hts hfX5 hown hK hP q26 eq26 rfl 8 (by decide) (va_Nw.use rfl (hN.1 (.fieldLinkNest RX9 97 "ColdShips$Ship" "orderWhats" "[I" "ColdShips") nzw_37)) (fun _ h9 => h9) rfl dX9_land_54 ?_
  refine lv_iconst (v := 0) hx hb dX9_land_57 (by decide) ?_
  refine tpk_20 hT y20 y20n (fun g48 hf_o47 => ?_)
  refine tpk_pos (tp_in hG y20 (by decide)) hf_o47 (fun q49 eq49 => ?_)
  refine va_iald hx hb hK hP q49 0 eq49 rfl (vp_in_iff.mpr ⟨by decide, by decide⟩) dX9_land_58 ?_
  refine lv_topi (fun z50 ez50 => ?_)
  refine va_mmin hx hb (by rw [hml]; exact hl.1.symm) hown (hts (.methodLink RX9 186 Lib.Math.min.name) wa_487) (hts (.static Lib.Math.min.name) wa_434) (hts (.initialized "java/lang/Math") wa_71) (hts (.code Lib.Math.min.name Lib.Math.min.code 2 (some .int)) wa_435) (Nat.le_of_ble_eq_true rfl) (Nat.le_of_ble_eq_true rfl) (Nat.le_of_ble_eq_true rfl) (Nat.le_of_ble_eq_true rfl) dX9_land_59 ?_
  refine lv_topi (fun z51 ez51 => ?_)
  have iz51 := zi_min ez51 (rfl : o43_x2.toInt = _) (rfl : z50.toInt = _)
  refine lv_iload hx hb dX9_land_62 (lv_at hl 1 rfl) ?_
  refine lv_iload hx hb dX9_land_64 (lv_at hl 0 rfl) ?_
  refine va_mmin hx hb (by rw [hml]; exact hl.1.symm) hown (hts (.methodLink RX9 186 Lib.Math.min.name) wa_487) (hts (.static Lib.Math.min.name) wa_434) (hts (.initialized "java/lang/Math") wa_71) (hts (.code Lib.Math.min.name Lib.Math.min.code 2 (some .int)) wa_435) (Nat.le_of_ble_eq_true rfl) (Nat.le_of_ble_eq_true rfl) (Nat.le_of_ble_eq_true rfl) (Nat.le_of_ble_eq_true rfl) dX9_land_66 ?_
  refine lv_topi (fun z52 ez52 => ?_)
  have iz52 := zi_min ez52 (rfl : z40.toInt = _) (rfl : z46.toInt = _)
  refine va_mmin hx hb (by rw [hml]; exact hl.1.symm) hown (hts (.methodLink RX9 186 Lib.Math.min.name) wa_487) (hts (.static Lib.Math.min.name) wa_434) (hts (.initialized "java/lang/Math") wa_71) (hts (.code Lib.Math.min.name Lib.Math.min.code 2 (some .int)) wa_435) (Nat.le_of_ble_eq_true rfl) (Nat.le_of_ble_eq_true rfl) (Nat.le_of_ble_eq_true rfl) (Nat.le_of_ble_eq_true rfl) dX9_land_69 ?_
  refine lv_topi (fun z53 ez53 => ?_)
  have iz53 := zi_min ez53 (rfl : z51.toInt = _) (rfl : z52.toInt = _)
  refine lv_istore (lv' := [(6, .int z53), (5, .int z46), (4, .int z40), (3, .ref b30), (0, .ref h0), (1, .int a), (2, .ref h1)]) hx hb dX9_land_72 hl (by decide) rfl (fun ls hl => ?_)
  refine lv_iload hx hb dX9_land_74 (lv_at hl 0 rfl) ?_
  refine tp_join 111 (fun H locs ls stk => ∃ f55 : Nat → va_E, stk = [] ∧ tp_T Ω κ τ ν ρ f55 ∧ tp_F τ [5, 6, 8, 9, 20, 21] f f55 ∧ va_P (dC, dI) vwCl (va_pl L f55) H ∧ va_D A (va_pl L f55) ∧ va_S A s.heap H locs ∧ lv_has ls 7 [(6, .int z53), (5, .int z46), (4, .int z40), (3, .ref b30), (0, .ref h0), (1, .int a), (2, .ref h1)]) ?_ (fun hj54 => ?_)
  · intro H locs ls stk hI
    refine Exists.elim hI (fun f55 hE90 => tn_7 hE90 (fun e90 hT hR hP hD hS hl => ?_))
    clear hE90 hI; subst e90
    refine lv_iload hx hb dX9_land_111 (lv_at hl 0 rfl) ?_
    refine tp_join 125 (fun H locs ls stk => stk = [] ∧ va_P (dC, dI) vwCl (va_pl L f55) H ∧ va_D A (va_pl L f55) ∧ va_S A s.heap H locs ∧ lv_has ls 7 [(6, .int z53), (5, .int z46), (4, .int z40), (3, .ref b30), (0, .ref h0), (1, .int a), (2, .ref h1)]) ?_ (fun hj56 => ?_)
    · intro H locs ls stk hI
      refine tn_5 hI (fun e90 hP hD hS hl => ?_)
      clear hI; subst e90
      refine lv_aload_n hx hb dX9_land_125 rfl (lv_at hl 4 rfl) ?_
      refine lv_iload_n hx hb dX9_land_126 rfl (lv_at hl 5 rfl) ?_
      refine lv_aload_n hx hb dX9_land_127 rfl (lv_at hl 6 rfl) ?_
      refine tpk_10 hT ht_h0 (fun o57_x1 o57_x2 o57_x3 hf_o57 ro57_0 ro57_1 => ?_)
      refine tpk_pos (tp_in hG ht_h0 (by decide)) hf_o57 (fun q58 eq58 => ?_)
      have hFc := tp_fr hD hS hA
      refine va_callv (va_runV (As := [.int a, .ref h1]) (rest := []) ⟨hx, hb, hml, hown, hts⟩ (t_X9_keepLanding l dC dI _ Ω κ τ ν ρ L f55 hG hT h0 a h1 ht_h0 ht_h1) (cwV 2 hts gX9_land_X9_keepLanding rfl rfl rfl ⟨rfl, pd_X9_keepLanding⟩ ⟨Nat.le_of_ble_eq_true rfl, Nat.le_of_ble_eq_true rfl⟩) ⟨pz_blind, va_recv hK hP (ci := 9) (q0 := q58) rfl eq58, pz_pre hP hK hD hN⟩ rfl rfl hl.1 rfl (lv_room (Nat.le_of_ble_eq_true rfl)) dX9_land_128 ⟨Nat.le_of_ble_eq_true rfl, Nat.le_of_ble_eq_true rfl⟩) hS (fun q _ h => hFc q h) hFc (fun f61 t H1 locs ht hvm hw60 hB hz1 hk1 hS => ?_)
      refine tn_3 hw60 (fun hT hF62 hw60p => ?_); clear hw60
      have hR := hR.then hF62 (by decide)
      have hP := hB.1; rw [ht] at hP; have hD := tp_ad f61 hD; clear hB hFc hz1 hk1; subst ht; generalize t.heap = H at hP hS ⊢
      refine lv_aload_n hx hb dX9_land_131 rfl (lv_at hl 6 rfl) ?_
      refine tpk_6 hT ht_h1 (fun o63_x1 o63_x2 o63_x3 o63_x4 o63_x5 o63_x6 o63_x10 o63_x11 o63_x12 o63_x14 hf_o63 ro63_0 ro63_1 ro63_2 => ?_)
      refine tpk_pos (tp_in hG ht_h1 (by decide)) hf_o63 (fun q64 eq64 => ?_)
      have hFc := tp_fr hD hS hA
      refine va_callv (va_runV (As := []) (rest := []) ⟨hx, hb, hml, hown, hts⟩ (t_X5_forgetLanding l dC dI _ Ω κ τ ν ρ L f61 hG hT h1 ht_h1) (cwV 0 hts gX9_land_X5_forgetLanding rfl rfl rfl ⟨rfl, pd_X5_forgetLanding⟩ ⟨Nat.le_of_ble_eq_true rfl, Nat.le_of_ble_eq_true rfl⟩) ⟨pz_blind, va_recv hK hP (ci := 5) (q0 := q64) rfl eq64, pz_pre hP hK hD hN⟩ rfl rfl hl.1 rfl (lv_room (Nat.le_of_ble_eq_true rfl)) dX9_land_132 ⟨Nat.le_of_ble_eq_true rfl, Nat.le_of_ble_eq_true rfl⟩) hS (fun q _ h => hFc q h) hFc (fun f67 t H1 locs ht hvm hw66 hB hz1 hk1 hS => ?_)
      refine tn_3 hw66 (fun hT hF68 hw66p => ?_); clear hw66
      have hR := hR.then hF68 (by decide)
      have hP := hB.1; rw [ht] at hP; have hD := tp_ad f67 hD; clear hB hFc hz1 hk1; subst ht; generalize t.heap = H at hP hS ⊢
      refine lv_aload_n hx hb dX9_land_135 rfl (lv_at hl 6 rfl) ?_
      refine tpk_6 hT ht_h1 (fun o69_x1 o69_x2 o69_x3 o69_x4 o69_x5 o69_x6 o69_x10 o69_x11 o69_x12 o69_x14 hf_o69 ro69_0 ro69_1 ro69_2 => ?_)
      refine tpk_pos (tp_in hG ht_h1 (by decide)) hf_o69 (fun q70 eq70 => ?_)
      have hFc := tp_fr hD hS hA
      refine va_callv (va_runV (As := []) (rest := []) ⟨hx, hb, hml, hown, hts⟩ (t_X5_endOrder l dC dI _ Ω κ τ ν ρ L f67 hG hT h1 ht_h1) (cwV 0 hts gX9_land_X5_endOrder rfl rfl rfl ⟨rfl, pd_X5_endOrder⟩ ⟨Nat.le_of_ble_eq_true rfl, Nat.le_of_ble_eq_true rfl⟩) ⟨pz_blind, va_recv hK hP (ci := 5) (q0 := q70) rfl eq70, pz_pre hP hK hD hN⟩ rfl rfl hl.1 rfl (lv_room (Nat.le_of_ble_eq_true rfl)) dX9_land_136 ⟨Nat.le_of_ble_eq_true rfl, Nat.le_of_ble_eq_true rfl⟩) hS (fun q _ h => hFc q h) hFc (fun f73 t H1 locs ht hvm hw72 hB hz1 hk1 hS => ?_)
      refine tn_3 hw72 (fun hT hF74 hw72p => ?_); clear hw72
      have hR := hR.then hF74 (by decide)
      have hP := hB.1; rw [ht] at hP; have hD := tp_ad f73 hD; clear hB hFc hz1 hk1; subst ht; generalize t.heap = H at hP hS ⊢
      exact W.vret hx hb hr (fun t ht hW => ⟨⟨f73, rfl, ⟨hT, hR, trivial⟩, by rw [ht]; exact hP, va_K.moved hW.alike hK, hD⟩, hS.F ht⟩) hS.2.2 dX9_land_139
    · refine lv_if_eq (tgt := 125) hx hb dX9_land_113 (by decide) (fun c75 => ?_) (fun c75 => ?_)
      · have ic75 : z53.toInt = 0 := zi_eq rfl rfl c75
        exact hj56 _ _ _ _ ⟨rfl, hP, hD, hS, lv_sub hl [0, 1, 2, 3, 4, 5, 6] rfl⟩
      · have ic75 : z53.toInt ≠ 0 := zi_eqf rfl rfl c75
        refine lv_aload_n hx hb dX9_land_116 rfl (lv_at hl 6 rfl) ?_
        refine tpk_6 hT ht_h1 (fun o76_x1 o76_x2 o76_x3 o76_x4 o76_x5 o76_x6 o76_x10 o76_x11 o76_x12 o76_x14 hf_o76 ro76_0 ro76_1 ro76_2 => ?_)
        refine tpk_pos (tp_in hG ht_h1 (by decide)) hf_o76 (fun q77 eq77 => ?_)
        refine va_getN (D := (dC, dI)) (ci := 5) (v := .ref (ρ h1 8)) (C := RX5) (T := TX5) (N := 17) hx hb hts hfX5 hown hK hP q77 eq77 rfl 8 (by decide) (va_Nw.use rfl (hN.1 (.fieldLinkNest RX9 97 "ColdShips$Ship" "orderWhats" "[I" "ColdShips") nzw_37)) (fun _ h9 => h9) rfl dX9_land_117 ?_
        refine lv_iconst (v := 0) hx hb dX9_land_120 (by decide) ?_
        refine tpk_20 hT y20 y20n (fun g79 hf_o78 => ?_)
        refine tpk_pos (tp_in hG y20 (by decide)) hf_o78 (fun q80 eq80 => ?_)
        refine va_iald hx hb hK hP q80 0 eq80 rfl (vp_in_iff.mpr ⟨by decide, by decide⟩) dX9_land_121 ?_
        refine lv_topi (fun z81 ez81 => ?_)
        refine lv_if_ne (tgt := 139) hx hb dX9_land_122 (by decide) (fun c82 => ?_) (fun c82 => ?_)
        · have ic82 : z81.toInt ≠ 0 := zi_ne rfl rfl c82
          exact W.vret hx hb hr (fun t ht hW => ⟨⟨f55, rfl, ⟨hT, hR, trivial⟩, by rw [ht]; exact hP, va_K.moved hW.alike hK, hD⟩, hS.F ht⟩) hS.2.2 dX9_land_139
        · have ic82 : z81.toInt = 0 := zi_nef rfl rfl c82
          exact hj56 _ _ _ _ ⟨rfl, hP, hD, hS, lv_sub hl [0, 1, 2, 3, 4, 5, 6] rfl⟩
  · refine lv_if_le (tgt := 111) hx hb dX9_land_76 (by decide) (fun c83 => ?_) (fun c83 => ?_)
    · have ic83 : z53.toInt ≤ 0 := zi_le rfl rfl c83
      exact hj54 _ _ _ _ ⟨f, rfl, hT, hR, hP, hD, hS, lv_sub hl [0, 1, 2, 3, 4, 5, 6] rfl⟩
    · have ic83 : z53.toInt > 0 := zi_lef rfl rfl c83
      refine lv_aload_n hx hb dX9_land_79 rfl (lv_at hl 3 rfl) ?_
      refine lv_dup hx hb dX9_land_80 rfl ?_
      refine va_getN (D := (dC, dI)) (ci := 8) (v := .int o43_x0) (C := RX8) (T := TX8) (N := 7) hx hb hts hfX8 hown hK hP q44 eq44 rfl 0 (by decide) (va_Nw.use rfl (hN.1 (.fieldLinkNest RX9 189 "ColdShips$Terminal" "store" "I" "ColdShips") nzw_5)) (fun _ h9 => h9) rfl dX9_land_81 ?_
      refine lv_iload hx hb dX9_land_84 (lv_at hl 0 rfl) ?_
      refine lv_iadd hx hb dX9_land_86 ?_
      refine lv_topi (fun z84 ez84 => ?_)
      refine va_putN (D := (dC, dI)) (ci := 8) (v := .int z84) (ty := .int) (C := RX8) (T := TX8) (N := 7) hx hb hts hfX8 tyX8 tyX8_ok nmX8 hown hK hP hD hS q44 eq44 rfl 0 (by decide) (va_Nw.use rfl (hN.1 (.fieldLinkNest RX9 189 "ColdShips$Terminal" "store" "I" "ColdShips") nzw_5)) (fun _ h9 => h9) rfl (tyX8_ok 0 (by decide)) rfl rfl (Nat.le_of_ble_eq_true rfl) dX9_land_87 (tp_k (.inr (8, [.int z84, .int o43_x1, .int o43_x2, .int o43_x3, .int o43_x4, .ref (ρ b30 5), .ref (ρ b30 6)])) hD (tp_in hG hb31t (by decide)) eq44 (fun f85 H locs hP hD hS g87 k86 => ?_))
      have hT := hT.up hb31t g87 k86 ⟨_, _, _, _, _, rfl, (by first | decide | omega | (omega))⟩
      have hR := hR.up hb31t (by decide) k86
      refine lv_aload_n hx hb dX9_land_90 rfl (lv_at hl 6 rfl) ?_
      refine lv_iload hx hb dX9_land_91 (lv_at hl 0 rfl) ?_
      refine lv_aload_n hx hb dX9_land_93 rfl (lv_at hl 4 rfl) ?_
      have hf_88 : f85 h0 = .inr (9, [.ref (ρ h0 0), .int o2_x1, .int o2_x2, .int o2_x3]) := (k86 _ (tp_ne ht_h0 hb31t (by decide))).trans hf_o2
      refine tpk_pos (tp_in hG ht_h0 (by decide)) hf_88 (fun q89 eq89 => ?_)
      refine va_get (D := (dC, dI)) (ci := 9) (v := .int o2_x1) (C := RX9) (T := TX9) (N := 4) hx hb hts hfX9 hown hK hP q89 eq89 rfl 1 (by decide) (hts (.fieldLink RX9 25 "ColdShips$Watch" "hour" "I") wa_404) (fun _ h9 => h9) rfl dX9_land_94 ?_
      have hf_90 : f85 h1 = .inr (5, [.ref (ρ h1 0), .int o25_x1, .int o25_x2, .int o25_x3, .int o25_x4, .int o25_x5, .int o25_x6, .ref (ρ h1 7), .ref (ρ h1 8), .ref (ρ h1 9), .int o25_x10, .int o25_x11, .int o25_x12, .ref (ρ h1 13), .int o25_x14, .ref (ρ h1 15), .ref (ρ h1 16)]) := (k86 _ (tp_ne ht_h1 hb31t (by decide))).trans hf_o25
      refine tpk_pos (tp_in hG ht_h1 (by decide)) hf_90 (fun q91 eq91 => ?_)
      have hFc := tp_fr hD hS hA
      refine va_callv (va_runV (As := [.int z53, .int o2_x1]) (rest := []) ⟨hx, hb, hml, hown, hts⟩ (t_X5_putAshore l dC dI _ Ω κ τ ν ρ L f85 hG hT h1 z53 o2_x1 ht_h1) (cwV 2 hts gX9_land_X5_putAshore rfl rfl rfl ⟨rfl, pd_X5_putAshore⟩ ⟨Nat.le_of_ble_eq_true rfl, Nat.le_of_ble_eq_true rfl⟩) ⟨pz_blind, va_recv hK hP (ci := 5) (q0 := q91) rfl eq91, pz_pre hP hK hD hN⟩ rfl rfl hl.1 rfl (lv_room (Nat.le_of_ble_eq_true rfl)) dX9_land_97 ⟨Nat.le_of_ble_eq_true rfl, Nat.le_of_ble_eq_true rfl⟩) hS (fun q _ h => hFc q h) hFc (fun f94 t H1 locs ht hvm hw93 hB hz1 hk1 hS => ?_)
      refine tn_3 hw93 (fun hT hF95 hw93p => ?_); clear hw93
      have hR := hR.then hF95 (by decide)
      have hP := hB.1; rw [ht] at hP; have hD := tp_ad f94 hD; clear hB hFc hz1 hk1; subst ht; generalize t.heap = H at hP hS ⊢
      refine lv_aload_n hx hb dX9_land_100 rfl (lv_at hl 6 rfl) ?_
      refine tpk_6 hT ht_h1 (fun o96_x1 o96_x2 o96_x3 o96_x4 o96_x5 o96_x6 o96_x10 o96_x11 o96_x12 o96_x14 hf_o96 ro96_0 ro96_1 ro96_2 => ?_)
      refine tpk_pos (tp_in hG ht_h1 (by decide)) hf_o96 (fun q97 eq97 => ?_)
      refine va_getN (D := (dC, dI)) (ci := 5) (v := .ref (ρ h1 8)) (C := RX5) (T := TX5) (N := 17) hx hb hts hfX5 hown hK hP q97 eq97 rfl 8 (by decide) (va_Nw.use rfl (hN.1 (.fieldLinkNest RX9 97 "ColdShips$Ship" "orderWhats" "[I" "ColdShips") nzw_37)) (fun _ h9 => h9) rfl dX9_land_101 ?_
      refine lv_iconst (v := 0) hx hb dX9_land_104 (by decide) ?_
      refine lv_dup2_11 hx hb dX9_land_105 rfl rfl ?_
      refine tpk_20 hT y20 y20n (fun g99 hf_o98 => ?_)
      refine tpk_pos (tp_in hG y20 (by decide)) hf_o98 (fun q100 eq100 => ?_)
      refine va_iald hx hb hK hP q100 0 eq100 rfl (vp_in_iff.mpr ⟨by decide, by decide⟩) dX9_land_106 ?_
      refine lv_topi (fun z101 ez101 => ?_)
      refine lv_iload hx hb dX9_land_107 (lv_at hl 0 rfl) ?_
      refine lv_isub hx hb dX9_land_109 ?_
      refine lv_topi (fun z102 ez102 => ?_)
      refine va_iast hx hb hK hP hD hS q100 0 eq100 rfl (vp_in_iff.mpr ⟨by decide, by decide⟩) dX9_land_110 (tp_k (.inl (κ 0, 20, .inl (upd g99 (0 : Int32).toNatClampNeg z102))) hD (tp_in hG y20 (by decide)) eq100 (fun f103 H locs hP hD hS g105 k104 => ?_))
      have hT := hT.up y20 g105 k104 (tp_o20 y20n)
      have hR := hR.up y20 (by decide) k104
      generalize (upd g99 (0 : Int32).toNatClampNeg z102) = g106 at g105
      exact hj54 _ _ _ _ ⟨f103, rfl, hT, hR, hP, hD, hS, lv_sub hl [0, 1, 2, 3, 4, 5, 6] rfl⟩
set_option maxHeartbeats 4000000 in
set_option maxRecDepth 100000 in
theorem t_X9_passShip (l : Launch) (dC : Nat → ClassId) (dI : Nat → Nat → Nat) (sz : Nat) (Ω : Nat → (Nat → Nat) → va_E → Prop) (κ : Nat → ClassId) (τ ν : Nat → Nat) (ρ : Nat → Nat → Nat) (L : List Nat) (f : Nat → va_E) (hG : tp_G τ ν ρ L) (hT : tp_T Ω κ τ ν ρ f) (h0 : Nat) (a : Int32) (ht_h0 : τ h0 = 10) (hr_a : 0 ≤ a.toInt ∧ a.toInt ≤ 5) : Met l yX9_passShip wqX9_passShip ({ frames := 7, cells := 0, slots := 0, locals := 2400 }) (va_Pc [.ref h0, .int a] (pz_B dC dI (tp_K κ) (va_pl L f) sz)) (va_Qv (fun (f1 : Nat → va_E) => tp_T Ω κ τ ν ρ f1 ∧ tp_F τ [5, 6, 8, 9, 10, 20, 21] f f1 ∧ True) (fun (f1 : Nat → va_E) (t : State) => pz_E dC dI (tp_K κ) (va_A (va_pl L f) sz) (va_pl L f1) t) (va_A (va_pl L f) sz)) 0 0 (va_A (va_pl L f) sz) := by
  refine Met.ofW (cc := cX9_passShip) (maxL := 5) (ret := none) (by decide) rfl ?_
  intro p e s m args below meth c s₁ B hml hv
  obtain ⟨rfl, hsz, hP, hK, hD0, hN⟩ := hv
  have hx := B.exec
  have hb := B.bytes
  have hr := B.returns
  have hts := fun (w : Cond) (h : w ∈ WALL) => atoms_spec (ws := wqX9_passShip) B.pre w (List.mem_cons_of_mem _ h)
  have hown : s.vm.findClass RX9 = some m.cls := findClass_of_methodNamed B.named
  have hlocks := B.notSynchronized
  subst hsz
  have hD := hD0.self (sz := s.heap.size)
  generalize hAe : va_A (va_pl L f) s.heap.size = A at hD ⊢
  have hA : ∀ q : Nat, s.heap.size ≤ q → A q := fun q h => by rw [← hAe]; exact Or.inr h
  have hS : va_S A s.heap s.heap [] := va_S.rf
  have hR : tp_F τ [5, 6, 8, 9, 10, 20, 21] f f := tp_F.rf
  have hl := lv_entry ([.ref h0, .int a]) (n := 5) (Nat.le_of_ble_eq_true rfl)
  rw [lg_entry_eq]
  generalize (lg_sl ([.ref h0, .int a]) ++ List.replicate (5 - (lg_sl ([.ref h0, .int a])).length) Slot.unset).toArray = ls at hl ⊢
  have hl : lv_has ls 5 [(0, .ref h0), (1, .int a)] := hl
  refine lv_aload_n hx hb dX9_passShip_0 rfl (lv_at hl 0 rfl) ?_
  have y1 := tpg_10 hG ht_h0
  refine tpk_10 hT ht_h0 (fun o2_x1 o2_x2 o2_x3 hf_o2 ro2_0 ro2_1 => ?_)
  refine tpk_pos (tp_in hG ht_h0 (by decide)) hf_o2 (fun q3 eq3 => ?_)
  refine va_get (D := (dC, dI)) (ci := 9) (v := .ref (ρ h0 0)) (C := RX9) (T := TX9) (N := 4) hx hb hts hfX9 hown hK hP q3 eq3 rfl 0 (by decide) (hts (.fieldLink RX9 9 "ColdShips$Watch" "world" "LColdShips$World;") wa_114) (fun _ h9 => h9) rfl dX9_passShip_1 ?_
  refine tgk_11 hG y1 (fun y4 y4n y5 y5n y6 y7 y8 y9 y10 y11 y12 y12w y12m y13 y13w y13m y14 y14w y14m y15 y15w y15m => ?_)
  refine tpk_11 hT y1 (fun o16_x0 o16_x1 o16_x2 o16_x3 o16_x4 o16_x5 o16_x6 hf_o16 ro16_0 ro16_1 ro16_2 ro16_3 => ?_)
  refine tpk_pos (tp_in hG y1 (by decide)) hf_o16 (fun q17 eq17 => ?_)
  refine va_getN (D := (dC, dI)) (ci := 10) (v := .ref (ρ (ρ h0 0) 10)) (C := RX10) (T := TX10) (N := 19) hx hb hts hfX10 hown hK hP q17 eq17 rfl 10 (by decide) (va_Nw.use rfl (hN.1 (.fieldLinkNest RX9 46 "ColdShips$World" "ships" "[LColdShips$Ship;" "ColdShips") nzw_68)) (fun _ h9 => h9) rfl dX9_passShip_4 ?_
  refine lv_iload_n hx hb dX9_passShip_7 rfl (lv_at hl 1 rfl) ?_
  refine tpk_25 hT y7 (fun g19 hf_o18 hf_o18e => ?_)
  refine tpk_pos (tp_in hG y7 (by decide)) hf_o18 (fun q20 eq20 => ?_)
  refine va_aldq hx hb hK hP q20 5 eq20 rfl (vp_in_iff.mpr ⟨by omega, by omega⟩) dX9_passShip_8 ?_
  obtain ⟨b21, hb22⟩ : ∃ b : Nat, b = ρ (ρ (ρ h0 0) 10) a.toNatClampNeg := ⟨_, rfl⟩
  have hb22t : τ b21 = 6 := by rw [hb22]; exact tpg_25 hG y7 _ (zi_cl (vp_in_iff.mpr ⟨by omega, by omega⟩))
  have hb22g : g19 a.toNatClampNeg = some b21 := by rw [hb22]; exact hf_o18e _ (zi_cl (vp_in_iff.mpr ⟨by omega, by omega⟩))
  refine W.eq (g2 := F0 m 9 ls (.ref b21 :: [])) (congrArg (fun o => F0 m 9 ls (va_rf o :: [])) hb22g) ?_
  refine lv_astore_n (lv' := [(2, .ref b21), (0, .ref h0), (1, .int a)]) hx hb dX9_passShip_9 rfl hl (by decide) rfl (fun ls hl => ?_)
  refine lv_aload_n hx hb dX9_passShip_10 rfl (lv_at hl 0 rfl) ?_
  refine tgk_6 hG hb22t (fun y23 y24 y24n y25 y25n y26 y26n y27 y27n y28 y28n y29 y29n => ?_)
  refine tpk_6 hT hb22t (fun o30_x1 o30_x2 o30_x3 o30_x4 o30_x5 o30_x6 o30_x10 o30_x11 o30_x12 o30_x14 hf_o30 ro30_0 ro30_1 ro30_2 => ?_)
  refine tpk_pos (tp_in hG hb22t (by decide)) hf_o30 (fun q31 eq31 => ?_)
  refine va_getN (D := (dC, dI)) (ci := 5) (v := .int o30_x3) (C := RX5) (T := TX5) (N := 17) hx hb hts hfX5 hown hK hP q31 eq31 rfl 3 (by decide) (va_Nw.use rfl (hN.1 (.fieldLinkNest RX9 50 "ColdShips$Ship" "left" "I" "ColdShips") nzw_29)) (fun _ h9 => h9) rfl dX9_passShip_11 ?_
  refine tp_join 22 (fun H locs ls stk => ∃ w32 : Int32, stk = [.int w32] ∧ (0 ≤ w32.toInt ∧ w32.toInt ≤ 1) ∧ va_P (dC, dI) vwCl (va_pl L f) H ∧ va_D A (va_pl L f) ∧ va_S A s.heap H locs ∧ lv_has ls 5 [(2, .ref b21), (0, .ref h0), (1, .int a)]) ?_ (fun hj33 => ?_)
  · intro H locs ls stk hI
    refine Exists.elim hI (fun w32 hE90 => tn_6 hE90 (fun e90 rw32 hP hD hS hl => ?_))
    clear hE90 hI; subst e90
    refine lv_istore_n (lv' := [(3, .int w32), (2, .ref b21), (0, .ref h0), (1, .int a)]) hx hb dX9_passShip_22 rfl hl (by decide) rfl (fun ls hl => ?_)
    refine lv_aload_n hx hb dX9_passShip_23 rfl (lv_at hl 1 rfl) ?_
    refine va_getN (D := (dC, dI)) (ci := 5) (v := .ref (ρ b21 0)) (C := RX5) (T := TX5) (N := 17) hx hb hts hfX5 hown hK hP q31 eq31 rfl 0 (by decide) (va_Nw.use rfl (hN.1 (.fieldLinkNest RX9 55 "ColdShips$Ship" "tank" "LColdShips$Tank;" "ColdShips") nzw_21)) (fun _ h9 => h9) rfl dX9_passShip_24 ?_
    refine lv_aload_n hx hb dX9_passShip_27 rfl (lv_at hl 2 rfl) ?_
    refine va_get (D := (dC, dI)) (ci := 9) (v := .ref (ρ h0 0)) (C := RX9) (T := TX9) (N := 4) hx hb hts hfX9 hown hK hP q3 eq3 rfl 0 (by decide) (hts (.fieldLink RX9 9 "ColdShips$Watch" "world" "LColdShips$World;") wa_114) (fun _ h9 => h9) rfl dX9_passShip_28 ?_
    refine va_getN (D := (dC, dI)) (ci := 10) (v := .int o16_x1) (C := RX10) (T := TX10) (N := 19) hx hb hts hfX10 hown hK hP q17 eq17 rfl 1 (by decide) (va_Nw.use rfl (hN.1 (.fieldLinkNest RX9 59 "ColdShips$World" "boils" "I" "ColdShips") nzw_50)) (fun _ h9 => h9) rfl dX9_passShip_31 ?_
    refine lv_aload_n hx hb dX9_passShip_34 rfl (lv_at hl 2 rfl) ?_
    refine va_get (D := (dC, dI)) (ci := 9) (v := .int o2_x2) (C := RX9) (T := TX9) (N := 4) hx hb hts hfX9 hown hK hP q3 eq3 rfl 2 (by decide) (hts (.fieldLink RX9 32 "ColdShips$Watch" "sea" "I") wa_405) (fun _ h9 => h9) rfl dX9_passShip_35 ?_
    refine lv_iadd hx hb dX9_passShip_38 ?_
    refine lv_topi (fun z34 ez34 => ?_)
    refine tgk_8 hG y23 (fun y35 y35n y36 y36n y37 y37n => ?_)
    refine tpk_8 hT y23 (fun o38_x0 o38_x1 o38_x2 o38_x3 hf_o38 ro38_0 => ?_)
    refine tpk_pos (tp_in hG y23 (by decide)) hf_o38 (fun q39 eq39 => ?_)
    have hFc := tp_fr hD hS hA
    refine va_callv (va_runV (As := [.int z34]) (rest := []) ⟨hx, hb, hml, hown, hts⟩ (t_X7_boil l dC dI _ Ω κ τ ν ρ L f hG hT (ρ b21 0) z34 y23) (cwV 1 hts gX9_passShip_X7_boil rfl rfl rfl ⟨rfl, pd_X7_boil⟩ ⟨Nat.le_of_ble_eq_true rfl, Nat.le_of_ble_eq_true rfl⟩) ⟨pz_blind, va_recv hK hP (ci := 7) (q0 := q39) rfl eq39, pz_pre hP hK hD hN⟩ rfl rfl hl.1 rfl (lv_room (Nat.le_of_ble_eq_true rfl)) dX9_passShip_39 ⟨Nat.le_of_ble_eq_true rfl, Nat.le_of_ble_eq_true rfl⟩) hS (fun q _ h => hFc q h) hFc (fun f42 t H1 locs ht hvm hw41 hB hz1 hk1 hS => ?_)
    refine tn_3 hw41 (fun hT hF43 hw41p => ?_); clear hw41
    have hR := hR.then hF43 (by decide)
    have hP := hB.1; rw [ht] at hP; have hD := tp_ad f42 hD; clear hB hFc hz1 hk1; subst ht; generalize t.heap = H at hP hS ⊢
    refine lv_aload_n hx hb dX9_passShip_42 rfl (lv_at hl 1 rfl) ?_
    have hf_44 : f42 b21 = .inr (5, [.ref (ρ b21 0), .int o30_x1, .int o30_x2, .int o30_x3, .int o30_x4, .int o30_x5, .int o30_x6, .ref (ρ b21 7), .ref (ρ b21 8), .ref (ρ b21 9), .int o30_x10, .int o30_x11, .int o30_x12, .ref (ρ b21 13), .int o30_x14, .ref (ρ b21 15), .ref (ρ b21 16)]) := (hF43 _ (by rw [hb22t]; decide)).trans hf_o30
    refine tpk_pos (tp_in hG hb22t (by decide)) hf_44 (fun q45 eq45 => ?_)
    refine va_getN (D := (dC, dI)) (ci := 5) (v := .ref (ρ b21 0)) (C := RX5) (T := TX5) (N := 17) hx hb hts hfX5 hown hK hP q45 eq45 rfl 0 (by decide) (va_Nw.use rfl (hN.1 (.fieldLinkNest RX9 55 "ColdShips$Ship" "tank" "LColdShips$Tank;" "ColdShips") nzw_21)) (fun _ h9 => h9) rfl dX9_passShip_43 ?_
    refine tpk_8 hT y23 (fun o46_x0 o46_x1 o46_x2 o46_x3 hf_o46 ro46_0 => ?_)
    refine tpk_pos (tp_in hG y23 (by decide)) hf_o46 (fun q47 eq47 => ?_)
    have hFc := tp_fr hD hS hA
    refine va_callv (va_runV (As := []) (rest := []) ⟨hx, hb, hml, hown, hts⟩ (t_X7_warmOrCool l dC dI _ Ω κ τ ν ρ L f42 hG hT (ρ b21 0) y23) (cwV 0 hts gX9_passShip_X7_warmOrCool rfl rfl rfl ⟨rfl, pd_X7_warmOrCool⟩ ⟨Nat.le_of_ble_eq_true rfl, Nat.le_of_ble_eq_true rfl⟩) ⟨pz_blind, va_recv hK hP (ci := 7) (q0 := q47) rfl eq47, pz_pre hP hK hD hN⟩ rfl rfl hl.1 rfl (lv_room (Nat.le_of_ble_eq_true rfl)) dX9_passShip_46 ⟨Nat.le_of_ble_eq_true rfl, Nat.le_of_ble_eq_true rfl⟩) hS (fun q _ h => hFc q h) hFc (fun f50 t H1 locs ht hvm hw49 hB hz1 hk1 hS => ?_)
    refine tn_3 hw49 (fun hT hF51 hw49p => ?_); clear hw49
    have hR := hR.then hF51 (by decide)
    have hP := hB.1; rw [ht] at hP; have hD := tp_ad f50 hD; clear hB hFc hz1 hk1; subst ht; generalize t.heap = H at hP hS ⊢
    refine lv_aload_n hx hb dX9_passShip_49 rfl (lv_at hl 1 rfl) ?_
    refine lv_iload_n hx hb dX9_passShip_50 rfl (lv_at hl 0 rfl) ?_
    refine tp_join 67 (fun H locs ls stk => ∃ w52 : Int32, stk = [.int w52, .ref b21] ∧ va_P (dC, dI) vwCl (va_pl L f50) H ∧ va_D A (va_pl L f50) ∧ va_S A s.heap H locs ∧ lv_has ls 5 [(3, .int w32), (2, .ref b21), (0, .ref h0), (1, .int a)]) ?_ (fun hj53 => ?_)
    · intro H locs ls stk hI
      refine Exists.elim hI (fun w52 hE90 => tn_5 hE90 (fun e90 hP hD hS hl => ?_))
      clear hE90 hI; subst e90
      have hf_54 : f50 b21 = .inr (5, [.ref (ρ b21 0), .int o30_x1, .int o30_x2, .int o30_x3, .int o30_x4, .int o30_x5, .int o30_x6, .ref (ρ b21 7), .ref (ρ b21 8), .ref (ρ b21 9), .int o30_x10, .int o30_x11, .int o30_x12, .ref (ρ b21 13), .int o30_x14, .ref (ρ b21 15), .ref (ρ b21 16)]) := (hF51 _ (by rw [hb22t]; decide)).trans hf_44
      refine tpk_pos (tp_in hG hb22t (by decide)) hf_54 (fun q55 eq55 => ?_)
      have hFc := tp_fr hD hS hA
      refine va_callv (va_runV (As := [.int w52]) (rest := []) ⟨hx, hb, hml, hown, hts⟩ (t_X5_burnFuel l dC dI _ Ω κ τ ν ρ L f50 hG hT b21 w52 hb22t) (cwV 1 hts gX9_passShip_X5_burnFuel rfl rfl rfl ⟨rfl, pd_X5_burnFuel⟩ ⟨Nat.le_of_ble_eq_true rfl, Nat.le_of_ble_eq_true rfl⟩) ⟨pz_blind, va_recv hK hP (ci := 5) (q0 := q55) rfl eq55, pz_pre hP hK hD hN⟩ rfl rfl hl.1 rfl (lv_room (Nat.le_of_ble_eq_true rfl)) dX9_passShip_67 ⟨Nat.le_of_ble_eq_true rfl, Nat.le_of_ble_eq_true rfl⟩) hS (fun q _ h => hFc q h) hFc (fun f58 t H1 locs ht hvm hw57 hB hz1 hk1 hS => ?_)
      refine tn_3 hw57 (fun hT hF59 hw57p => ?_); clear hw57
      have hR := hR.then hF59 (by decide)
      have hP := hB.1; rw [ht] at hP; have hD := tp_ad f58 hD; clear hB hFc hz1 hk1; subst ht; generalize t.heap = H at hP hS ⊢
      refine lv_aload_n hx hb dX9_passShip_70 rfl (lv_at hl 1 rfl) ?_
      refine tpk_6 hT hb22t (fun o60_x1 o60_x2 o60_x3 o60_x4 o60_x5 o60_x6 o60_x10 o60_x11 o60_x12 o60_x14 hf_o60 ro60_0 ro60_1 ro60_2 => ?_)
      refine tpk_pos (tp_in hG hb22t (by decide)) hf_o60 (fun q61 eq61 => ?_)
      refine va_getN (D := (dC, dI)) (ci := 5) (v := .int o60_x6) (C := RX5) (T := TX5) (N := 17) hx hb hts hfX5 hown hK hP q61 eq61 rfl 6 (by decide) (va_Nw.use rfl (hN.1 (.fieldLinkNest RX9 76 "ColdShips$Ship" "orders" "I" "ColdShips") nzw_34)) (fun _ h9 => h9) rfl dX9_passShip_71 ?_
      refine tp_join 87 (fun H locs ls stk => ∃ w62 : Int32, stk = [.int w62] ∧ va_P (dC, dI) vwCl (va_pl L f58) H ∧ va_D A (va_pl L f58) ∧ va_S A s.heap H locs ∧ lv_has ls 5 [(3, .int w32), (2, .ref b21), (0, .ref h0), (1, .int a)]) ?_ (fun hj63 => ?_)
      · intro H locs ls stk hI
        refine Exists.elim hI (fun w62 hE90 => tn_5 hE90 (fun e90 hP hD hS hl => ?_))
        clear hE90 hI; subst e90
        refine lv_istore (lv' := [(4, .int w62), (3, .int w32), (2, .ref b21), (0, .ref h0), (1, .int a)]) hx hb dX9_passShip_87 hl (by decide) rfl (fun ls hl => ?_)
        refine lv_iload hx hb dX9_passShip_89 (lv_at hl 0 rfl) ?_
        refine tp_join 172 (fun H locs ls stk => ∃ f65 : Nat → va_E, stk = [] ∧ tp_T Ω κ τ ν ρ f65 ∧ tp_F τ [5, 6, 8, 9, 10, 20, 21] f f65 ∧ va_P (dC, dI) vwCl (va_pl L f65) H ∧ va_D A (va_pl L f65) ∧ va_S A s.heap H locs ∧ lv_has ls 5 [(4, .int w62), (3, .int w32), (2, .ref b21), (0, .ref h0), (1, .int a)]) ?_ (fun hj64 => ?_)
        · intro H locs ls stk hI
          refine Exists.elim hI (fun f65 hE90 => tn_7 hE90 (fun e90 hT hR hP hD hS hl => ?_))
          clear hE90 hI; subst e90
          refine lv_aload_n hx hb dX9_passShip_172 rfl (lv_at hl 2 rfl) ?_
          refine tpk_6 hT hb22t (fun o66_x1 o66_x2 o66_x3 o66_x4 o66_x5 o66_x6 o66_x10 o66_x11 o66_x12 o66_x14 hf_o66 ro66_0 ro66_1 ro66_2 => ?_)
          refine tpk_pos (tp_in hG hb22t (by decide)) hf_o66 (fun q67 eq67 => ?_)
          refine va_getN (D := (dC, dI)) (ci := 5) (v := .ref (ρ b21 9)) (C := RX5) (T := TX5) (N := 17) hx hb hts hfX5 hown hK hP q67 eq67 rfl 9 (by decide) (va_Nw.use rfl (hN.1 (.fieldLinkNest RX9 103 "ColdShips$Ship" "book" "[J" "ColdShips") nzw_38)) (fun _ h9 => h9) rfl dX9_passShip_173 ?_
          refine lv_iconst (v := 2) hx hb dX9_passShip_176 (by decide) ?_
          refine lv_dup2_11 hx hb dX9_passShip_177 rfl rfl ?_
          refine tpk_21 hT y26 y26n (fun g69 hf_o68 => ?_)
          refine tpk_pos (tp_in hG y26 (by decide)) hf_o68 (fun q70 eq70 => ?_)
          refine va_lald hx hb hK hP q70 1 eq70 rfl (vp_in_iff.mpr ⟨by decide, by decide⟩) dX9_passShip_178 ?_
          refine lv_topl (fun z71 ez71 => ?_)
          refine lv_aload_n hx hb dX9_passShip_179 rfl (lv_at hl 2 rfl) ?_
          refine va_getN (D := (dC, dI)) (ci := 5) (v := .ref (ρ b21 0)) (C := RX5) (T := TX5) (N := 17) hx hb hts hfX5 hown hK hP q67 eq67 rfl 0 (by decide) (va_Nw.use rfl (hN.1 (.fieldLinkNest RX9 55 "ColdShips$Ship" "tank" "LColdShips$Tank;" "ColdShips") nzw_21)) (fun _ h9 => h9) rfl dX9_passShip_180 ?_
          refine lv_aload_n hx hb dX9_passShip_183 rfl (lv_at hl 3 rfl) ?_
          refine tpk_10 hT ht_h0 (fun o72_x1 o72_x2 o72_x3 hf_o72 ro72_0 ro72_1 => ?_)
          refine tpk_pos (tp_in hG ht_h0 (by decide)) hf_o72 (fun q73 eq73 => ?_)
          refine va_get (D := (dC, dI)) (ci := 9) (v := .ref (ρ h0 0)) (C := RX9) (T := TX9) (N := 4) hx hb hts hfX9 hown hK hP q73 eq73 rfl 0 (by decide) (hts (.fieldLink RX9 9 "ColdShips$Watch" "world" "LColdShips$World;") wa_114) (fun _ h9 => h9) rfl dX9_passShip_184 ?_
          refine tpk_11 hT y1 (fun o74_x0 o74_x1 o74_x2 o74_x3 o74_x4 o74_x5 o74_x6 hf_o74 ro74_0 ro74_1 ro74_2 ro74_3 => ?_)
          refine tpk_pos (tp_in hG y1 (by decide)) hf_o74 (fun q75 eq75 => ?_)
          refine va_getN (D := (dC, dI)) (ci := 10) (v := .int o74_x2) (C := RX10) (T := TX10) (N := 19) hx hb hts hfX10 hown hK hP q75 eq75 rfl 2 (by decide) (va_Nw.use rfl (hN.1 (.fieldLinkNest RX9 107 "ColdShips$World" "limit" "I" "ColdShips") nzw_53)) (fun _ h9 => h9) rfl dX9_passShip_187 ?_
          refine tpk_8 hT y23 (fun o76_x0 o76_x1 o76_x2 o76_x3 hf_o76 ro76_0 => ?_)
          refine tpk_pos (tp_in hG y23 (by decide)) hf_o76 (fun q77 eq77 => ?_)
          have hFc := tp_fr hD hS hA
          refine va_calli (va_runV (As := [.int o74_x2]) (rest := [.long z71, .int 2, .ref (ρ b21 9)]) ⟨hx, hb, hml, hown, hts⟩ (t_X7_vent l dC dI _ Ω κ τ ν ρ L f65 hG hT (ρ b21 0) o74_x2 y23) (cwV 1 hts gX9_passShip_X7_vent rfl rfl rfl ⟨rfl, pd_X7_vent⟩ ⟨Nat.le_of_ble_eq_true rfl, Nat.le_of_ble_eq_true rfl⟩) ⟨pz_blind, va_recv hK hP (ci := 7) (q0 := q77) rfl eq77, pz_pre hP hK hD hN⟩ rfl rfl hl.1 rfl (lv_room (Nat.le_of_ble_eq_true rfl)) dX9_passShip_190 ⟨Nat.le_of_ble_eq_true rfl, Nat.le_of_ble_eq_true rfl⟩) hS (fun q _ h => hFc q h) hFc (fun r78 f80 t H1 locs ht hvm hw79 hB hz1 hk1 hS => ?_)
          refine tn_4 hw79 (fun hT hF81 hw79r hw79p => ?_); clear hw79
          have hR := hR.then hF81 (by decide)
          have hP := hB.1; rw [ht] at hP; have hD := tp_ad f80 hD; clear hB hFc hz1 hk1; subst ht; generalize t.heap = H at hP hS ⊢
          refine lv_i2l hx hb dX9_passShip_193 rfl ?_
          refine lv_ladd hx hb dX9_passShip_194 ?_
          refine lv_topl (fun z82 ez82 => ?_)
          have hf_83 : f80 (ρ b21 9) = .inl (κ 1, 4, .inr (.inl g69)) := (hF81 _ (by rw [y26]; decide)).trans hf_o68
          refine tpk_pos (tp_in hG y26 (by decide)) hf_83 (fun q84 eq84 => ?_)
          refine va_last hx hb hK hP hD hS q84 1 eq84 rfl (vp_in_iff.mpr ⟨by decide, by decide⟩) dX9_passShip_195 (tp_k (.inl (κ 1, 4, .inr (.inl (vp_updL g69 (2 : Int32).toNatClampNeg z82)))) hD (tp_in hG y26 (by decide)) eq84 (fun f85 H locs hP hD hS g87 k86 => ?_))
          have hT := hT.up y26 g87 k86 (tp_o21 y26n)
          have hR := hR.up y26 (by decide) k86
          generalize (vp_updL g69 (2 : Int32).toNatClampNeg z82) = g88 at g87
          exact W.vret hx hb hr (fun t ht hW => ⟨⟨f85, rfl, ⟨hT, hR, trivial⟩, by rw [ht]; exact hP, va_K.moved hW.alike hK, hD⟩, hS.F ht⟩) hS.2.2 dX9_passShip_196
        · refine lv_if_ne (tgt := 102) hx hb dX9_passShip_91 (by decide) (fun c89 => ?_) (fun c89 => ?_)
          · have ic89 : w62.toInt ≠ 0 := zi_ne rfl rfl c89
            refine lv_iload hx hb dX9_passShip_102 (lv_at hl 0 rfl) ?_
            refine lv_iconst (v := 1) hx hb dX9_passShip_104 (by decide) ?_
            refine tp_join 125 (fun H locs ls stk => stk = [] ∧ va_P (dC, dI) vwCl (va_pl L f58) H ∧ va_D A (va_pl L f58) ∧ va_S A s.heap H locs ∧ lv_has ls 5 [(4, .int w62), (3, .int w32), (2, .ref b21), (0, .ref h0), (1, .int a)]) ?_ (fun hj90 => ?_)
            · intro H locs ls stk hI
              refine tn_5 hI (fun e90 hP hD hS hl => ?_)
              clear hI; subst e90
              refine lv_iload hx hb dX9_passShip_125 (lv_at hl 0 rfl) ?_
              refine lv_iconst (v := 2) hx hb dX9_passShip_127 (by decide) ?_
              refine tp_join 149 (fun H locs ls stk => stk = [] ∧ va_P (dC, dI) vwCl (va_pl L f58) H ∧ va_D A (va_pl L f58) ∧ va_S A s.heap H locs ∧ lv_has ls 5 [(4, .int w62), (3, .int w32), (2, .ref b21), (0, .ref h0), (1, .int a)]) ?_ (fun hj91 => ?_)
              · intro H locs ls stk hI
                refine tn_5 hI (fun e90 hP hD hS hl => ?_)
                clear hI; subst e90
                refine lv_iload hx hb dX9_passShip_149 (lv_at hl 0 rfl) ?_
                refine lv_iconst (v := 3) hx hb dX9_passShip_151 (by decide) ?_
                refine lv_icmp_ne (tgt := 172) hx hb dX9_passShip_152 (by decide) (fun c92 => ?_) (fun c92 => ?_)
                · have ic92 : w62.toInt ≠ 3 := zi_ne rfl rfl c92
                  exact hj64 _ _ _ _ ⟨f58, rfl, hT, hR, hP, hD, hS, lv_sub hl [0, 1, 2, 3, 4] rfl⟩
                · have ic92 : w62.toInt = 3 := zi_nef rfl rfl c92
                  refine lv_aload_n hx hb dX9_passShip_155 rfl (lv_at hl 3 rfl) ?_
                  have hf_93 : f42 h0 = .inr (9, [.ref (ρ h0 0), .int o2_x1, .int o2_x2, .int o2_x3]) := (hF43 _ (by rw [ht_h0]; decide)).trans hf_o2
                  have hf_94 : f50 h0 = .inr (9, [.ref (ρ h0 0), .int o2_x1, .int o2_x2, .int o2_x3]) := (hF51 _ (by rw [ht_h0]; decide)).trans hf_93
                  have hf_95 : f58 h0 = .inr (9, [.ref (ρ h0 0), .int o2_x1, .int o2_x2, .int o2_x3]) := (hF59 _ (by rw [ht_h0]; decide)).trans hf_94
                  refine tpk_pos (tp_in hG ht_h0 (by decide)) hf_95 (fun q96 eq96 => ?_)
                  refine va_get (D := (dC, dI)) (ci := 9) (v := .int o2_x1) (C := RX9) (T := TX9) (N := 4) hx hb hts hfX9 hown hK hP q96 eq96 rfl 1 (by decide) (hts (.fieldLink RX9 25 "ColdShips$Watch" "hour" "I") wa_404) (fun _ h9 => h9) rfl dX9_passShip_156 ?_
                  refine lv_aload_n hx hb dX9_passShip_159 rfl (lv_at hl 2 rfl) ?_
                  refine va_getN (D := (dC, dI)) (ci := 5) (v := .ref (ρ b21 8)) (C := RX5) (T := TX5) (N := 17) hx hb hts hfX5 hown hK hP q61 eq61 rfl 8 (by decide) (va_Nw.use rfl (hN.1 (.fieldLinkNest RX9 97 "ColdShips$Ship" "orderWhats" "[I" "ColdShips") nzw_37)) (fun _ h9 => h9) rfl dX9_passShip_160 ?_
                  refine lv_iconst (v := 0) hx hb dX9_passShip_163 (by decide) ?_
                  refine tpk_20 hT y25 y25n (fun g98 hf_o97 => ?_)
                  refine tpk_pos (tp_in hG y25 (by decide)) hf_o97 (fun q99 eq99 => ?_)
                  refine va_iald hx hb hK hP q99 0 eq99 rfl (vp_in_iff.mpr ⟨by decide, by decide⟩) dX9_passShip_164 ?_
                  refine lv_topi (fun z100 ez100 => ?_)
                  refine lv_icmp_lt (tgt := 172) hx hb dX9_passShip_165 (by decide) (fun c101 => ?_) (fun c101 => ?_)
                  · have ic101 : o2_x1.toInt < z100.toInt := zi_lt rfl rfl c101
                    exact hj64 _ _ _ _ ⟨f58, rfl, hT, hR, hP, hD, hS, lv_sub hl [0, 1, 2, 3, 4] rfl⟩
                  · have ic101 : o2_x1.toInt ≥ z100.toInt := zi_ltf rfl rfl c101
                    refine lv_aload_n hx hb dX9_passShip_168 rfl (lv_at hl 2 rfl) ?_
                    have hFc := tp_fr hD hS hA
                    refine va_callv (va_runV (As := []) (rest := []) ⟨hx, hb, hml, hown, hts⟩ (t_X5_endOrder l dC dI _ Ω κ τ ν ρ L f58 hG hT b21 hb22t) (cwV 0 hts gX9_passShip_X5_endOrder rfl rfl rfl ⟨rfl, pd_X5_endOrder⟩ ⟨Nat.le_of_ble_eq_true rfl, Nat.le_of_ble_eq_true rfl⟩) ⟨pz_blind, va_recv hK hP (ci := 5) (q0 := q61) rfl eq61, pz_pre hP hK hD hN⟩ rfl rfl hl.1 rfl (lv_room (Nat.le_of_ble_eq_true rfl)) dX9_passShip_169 ⟨Nat.le_of_ble_eq_true rfl, Nat.le_of_ble_eq_true rfl⟩) hS (fun q _ h => hFc q h) hFc (fun f104 t H1 locs ht hvm hw103 hB hz1 hk1 hS => ?_)
                    refine tn_3 hw103 (fun hT hF105 hw103p => ?_); clear hw103
                    have hR := hR.then hF105 (by decide)
                    have hP := hB.1; rw [ht] at hP; have hD := tp_ad f104 hD; clear hB hFc hz1 hk1; subst ht; generalize t.heap = H at hP hS ⊢
                    exact hj64 _ _ _ _ ⟨f104, rfl, hT, hR, hP, hD, hS, lv_sub hl [0, 1, 2, 3, 4] rfl⟩
              · refine lv_icmp_ne (tgt := 149) hx hb dX9_passShip_128 (by decide) (fun c106 => ?_) (fun c106 => ?_)
                · have ic106 : w62.toInt ≠ 2 := zi_ne rfl rfl c106
                  exact hj91 _ _ _ _ ⟨rfl, hP, hD, hS, lv_sub hl [0, 1, 2, 3, 4] rfl⟩
                · have ic106 : w62.toInt = 2 := zi_nef rfl rfl c106
                  refine lv_aload_n hx hb dX9_passShip_131 rfl (lv_at hl 3 rfl) ?_
                  refine lv_iload_n hx hb dX9_passShip_132 rfl (lv_at hl 4 rfl) ?_
                  refine lv_aload_n hx hb dX9_passShip_133 rfl (lv_at hl 2 rfl) ?_
                  have hf_107 : f42 h0 = .inr (9, [.ref (ρ h0 0), .int o2_x1, .int o2_x2, .int o2_x3]) := (hF43 _ (by rw [ht_h0]; decide)).trans hf_o2
                  have hf_108 : f50 h0 = .inr (9, [.ref (ρ h0 0), .int o2_x1, .int o2_x2, .int o2_x3]) := (hF51 _ (by rw [ht_h0]; decide)).trans hf_107
                  have hf_109 : f58 h0 = .inr (9, [.ref (ρ h0 0), .int o2_x1, .int o2_x2, .int o2_x3]) := (hF59 _ (by rw [ht_h0]; decide)).trans hf_108
                  refine tpk_pos (tp_in hG ht_h0 (by decide)) hf_109 (fun q110 eq110 => ?_)
                  refine pz_calli (va_runV (As := [.int a, .ref b21]) (rest := []) ⟨hx, hb, hml, hown, hts⟩ (t_X9_tonsMayGo l dC dI _ Ω κ τ ν ρ L f58 hG hT h0 a b21 ht_h0 hb22t) (cwV 2 hts gX9_passShip_X9_tonsMayGo rfl rfl rfl ⟨rfl, pd_X9_tonsMayGo⟩ ⟨Nat.le_of_ble_eq_true rfl, Nat.le_of_ble_eq_true rfl⟩) ⟨pz_blind, va_recv hK hP (ci := 9) (q0 := q110) rfl eq110, pz_pre hP hK hD hN⟩ rfl rfl hl.1 rfl (lv_room (Nat.le_of_ble_eq_true rfl)) dX9_passShip_134 ⟨Nat.le_of_ble_eq_true rfl, Nat.le_of_ble_eq_true rfl⟩) (fun r111 hw112 => ?_)
                  obtain ⟨hw112r, hw112p⟩ := hw112
                  refine lv_if_eq (tgt := 149) hx hb dX9_passShip_137 (by decide) (fun c113 => ?_) (fun c113 => ?_)
                  · have ic113 : r111.toInt = 0 := zi_eq rfl rfl c113
                    exact hj91 _ _ _ _ ⟨rfl, hP, hD, hS, lv_sub hl [0, 1, 2, 3, 4] rfl⟩
                  · have ic113 : r111.toInt ≠ 0 := zi_eqf rfl rfl c113
                    refine lv_aload_n hx hb dX9_passShip_140 rfl (lv_at hl 3 rfl) ?_
                    refine lv_iload_n hx hb dX9_passShip_141 rfl (lv_at hl 4 rfl) ?_
                    refine lv_aload_n hx hb dX9_passShip_142 rfl (lv_at hl 2 rfl) ?_
                    have hFc := tp_fr hD hS hA
                    refine va_callv (va_runV (As := [.int a, .ref b21]) (rest := []) ⟨hx, hb, hml, hown, hts⟩ (t_X9_land l dC dI _ Ω κ τ ν ρ L f58 hG hT h0 a b21 ht_h0 hb22t) (cwV 2 hts gX9_passShip_X9_land rfl rfl rfl ⟨rfl, pd_X9_land⟩ ⟨Nat.le_of_ble_eq_true rfl, Nat.le_of_ble_eq_true rfl⟩) ⟨pz_blind, va_recv hK hP (ci := 9) (q0 := q110) rfl eq110, pz_pre hP hK hD hN⟩ rfl rfl hl.1 rfl (lv_room (Nat.le_of_ble_eq_true rfl)) dX9_passShip_143 ⟨Nat.le_of_ble_eq_true rfl, Nat.le_of_ble_eq_true rfl⟩) hS (fun q _ h => hFc q h) hFc (fun f116 t H1 locs ht hvm hw115 hB hz1 hk1 hS => ?_)
                    refine tn_3 hw115 (fun hT hF117 hw115p => ?_); clear hw115
                    have hR := hR.then hF117 (by decide)
                    have hP := hB.1; rw [ht] at hP; have hD := tp_ad f116 hD; clear hB hFc hz1 hk1; subst ht; generalize t.heap = H at hP hS ⊢
                    refine lv_goto (tgt := 172) hx hb dX9_passShip_146 (by decide) ?_
                    exact hj64 _ _ _ _ ⟨f116, rfl, hT, hR, hP, hD, hS, lv_sub hl [0, 1, 2, 3, 4] rfl⟩
            · refine lv_icmp_ne (tgt := 125) hx hb dX9_passShip_105 (by decide) (fun c118 => ?_) (fun c118 => ?_)
              · have ic118 : w62.toInt ≠ 1 := zi_ne rfl rfl c118
                exact hj90 _ _ _ _ ⟨rfl, hP, hD, hS, lv_sub hl [0, 1, 2, 3, 4] rfl⟩
              · have ic118 : w62.toInt = 1 := zi_nef rfl rfl c118
                refine lv_aload_n hx hb dX9_passShip_108 rfl (lv_at hl 3 rfl) ?_
                refine lv_iload_n hx hb dX9_passShip_109 rfl (lv_at hl 4 rfl) ?_
                refine lv_aload_n hx hb dX9_passShip_110 rfl (lv_at hl 2 rfl) ?_
                have hf_119 : f42 h0 = .inr (9, [.ref (ρ h0 0), .int o2_x1, .int o2_x2, .int o2_x3]) := (hF43 _ (by rw [ht_h0]; decide)).trans hf_o2
                have hf_120 : f50 h0 = .inr (9, [.ref (ρ h0 0), .int o2_x1, .int o2_x2, .int o2_x3]) := (hF51 _ (by rw [ht_h0]; decide)).trans hf_119
                have hf_121 : f58 h0 = .inr (9, [.ref (ρ h0 0), .int o2_x1, .int o2_x2, .int o2_x3]) := (hF59 _ (by rw [ht_h0]; decide)).trans hf_120
                refine tpk_pos (tp_in hG ht_h0 (by decide)) hf_121 (fun q122 eq122 => ?_)
                refine pz_calli (va_runV (As := [.int a, .ref b21]) (rest := []) ⟨hx, hb, hml, hown, hts⟩ (t_X9_tonsMayGo l dC dI _ Ω κ τ ν ρ L f58 hG hT h0 a b21 ht_h0 hb22t) (cwV 2 hts gX9_passShip_X9_tonsMayGo rfl rfl rfl ⟨rfl, pd_X9_tonsMayGo⟩ ⟨Nat.le_of_ble_eq_true rfl, Nat.le_of_ble_eq_true rfl⟩) ⟨pz_blind, va_recv hK hP (ci := 9) (q0 := q122) rfl eq122, pz_pre hP hK hD hN⟩ rfl rfl hl.1 rfl (lv_room (Nat.le_of_ble_eq_true rfl)) dX9_passShip_111 ⟨Nat.le_of_ble_eq_true rfl, Nat.le_of_ble_eq_true rfl⟩) (fun r123 hw124 => ?_)
                obtain ⟨hw124r, hw124p⟩ := hw124
                refine lv_if_eq (tgt := 125) hx hb dX9_passShip_114 (by decide) (fun c125 => ?_) (fun c125 => ?_)
                · have ic125 : r123.toInt = 0 := zi_eq rfl rfl c125
                  exact hj90 _ _ _ _ ⟨rfl, hP, hD, hS, lv_sub hl [0, 1, 2, 3, 4] rfl⟩
                · have ic125 : r123.toInt ≠ 0 := zi_eqf rfl rfl c125
                  refine lv_aload_n hx hb dX9_passShip_117 rfl (lv_at hl 3 rfl) ?_
                  refine lv_aload_n hx hb dX9_passShip_118 rfl (lv_at hl 2 rfl) ?_
                  have hFc := tp_fr hD hS hA
                  refine va_callv (va_runV (As := [.ref b21]) (rest := []) ⟨hx, hb, hml, hown, hts⟩ (t_X9_load l dC dI _ Ω κ τ ν ρ L f58 hG hT h0 b21 ht_h0 hb22t) (cwV 1 hts gX9_passShip_X9_load rfl rfl rfl ⟨rfl, pd_X9_load⟩ ⟨Nat.le_of_ble_eq_true rfl, Nat.le_of_ble_eq_true rfl⟩) ⟨pz_blind, va_recv hK hP (ci := 9) (q0 := q122) rfl eq122, pz_pre hP hK hD hN⟩ rfl rfl hl.1 rfl (lv_room (Nat.le_of_ble_eq_true rfl)) dX9_passShip_119 ⟨Nat.le_of_ble_eq_true rfl, Nat.le_of_ble_eq_true rfl⟩) hS (fun q _ h => hFc q h) hFc (fun f128 t H1 locs ht hvm hw127 hB hz1 hk1 hS => ?_)
                  refine tn_3 hw127 (fun hT hF129 hw127p => ?_); clear hw127
                  have hR := hR.then hF129 (by decide)
                  have hP := hB.1; rw [ht] at hP; have hD := tp_ad f128 hD; clear hB hFc hz1 hk1; subst ht; generalize t.heap = H at hP hS ⊢
                  refine lv_goto (tgt := 172) hx hb dX9_passShip_122 (by decide) ?_
                  exact hj64 _ _ _ _ ⟨f128, rfl, hT, hR, hP, hD, hS, lv_sub hl [0, 1, 2, 3, 4] rfl⟩
          · have ic89 : w62.toInt = 0 := zi_nef rfl rfl c89
            refine lv_aload_n hx hb dX9_passShip_94 rfl (lv_at hl 3 rfl) ?_
            refine lv_aload_n hx hb dX9_passShip_95 rfl (lv_at hl 2 rfl) ?_
            have hf_130 : f42 h0 = .inr (9, [.ref (ρ h0 0), .int o2_x1, .int o2_x2, .int o2_x3]) := (hF43 _ (by rw [ht_h0]; decide)).trans hf_o2
            have hf_131 : f50 h0 = .inr (9, [.ref (ρ h0 0), .int o2_x1, .int o2_x2, .int o2_x3]) := (hF51 _ (by rw [ht_h0]; decide)).trans hf_130
            have hf_132 : f58 h0 = .inr (9, [.ref (ρ h0 0), .int o2_x1, .int o2_x2, .int o2_x3]) := (hF59 _ (by rw [ht_h0]; decide)).trans hf_131
            refine tpk_pos (tp_in hG ht_h0 (by decide)) hf_132 (fun q133 eq133 => ?_)
            have hFc := tp_fr hD hS hA
            refine va_callv (va_runV (As := [.ref b21]) (rest := []) ⟨hx, hb, hml, hown, hts⟩ (t_X9_sail l dC dI _ Ω κ τ ν ρ L f58 hG hT h0 b21 ht_h0 hb22t) (cwV 1 hts gX9_passShip_X9_sail rfl rfl rfl ⟨rfl, pd_X9_sail⟩ ⟨Nat.le_of_ble_eq_true rfl, Nat.le_of_ble_eq_true rfl⟩) ⟨pz_blind, va_recv hK hP (ci := 9) (q0 := q133) rfl eq133, pz_pre hP hK hD hN⟩ rfl rfl hl.1 rfl (lv_room (Nat.le_of_ble_eq_true rfl)) dX9_passShip_96 ⟨Nat.le_of_ble_eq_true rfl, Nat.le_of_ble_eq_true rfl⟩) hS (fun q _ h => hFc q h) hFc (fun f136 t H1 locs ht hvm hw135 hB hz1 hk1 hS => ?_)
            refine tn_3 hw135 (fun hT hF137 hw135p => ?_); clear hw135
            have hR := hR.then hF137 (by decide)
            have hP := hB.1; rw [ht] at hP; have hD := tp_ad f136 hD; clear hB hFc hz1 hk1; subst ht; generalize t.heap = H at hP hS ⊢
            refine lv_goto (tgt := 172) hx hb dX9_passShip_99 (by decide) ?_
            exact hj64 _ _ _ _ ⟨f136, rfl, hT, hR, hP, hD, hS, lv_sub hl [0, 1, 2, 3, 4] rfl⟩
      · refine lv_if_le (tgt := 86) hx hb dX9_passShip_74 (by decide) (fun c138 => ?_) (fun c138 => ?_)
        · have ic138 : o60_x6.toInt ≤ 0 := zi_le rfl rfl c138
          refine lv_iconst (v := (-1)) hx hb dX9_passShip_86 (by decide) ?_
          exact hj63 _ _ _ _ ⟨(-1), rfl, hP, hD, hS, lv_sub hl [0, 1, 2, 3] rfl⟩
        · have ic138 : o60_x6.toInt > 0 := zi_lef rfl rfl c138
          refine lv_aload_n hx hb dX9_passShip_77 rfl (lv_at hl 1 rfl) ?_
          refine va_getN (D := (dC, dI)) (ci := 5) (v := .ref (ρ b21 7)) (C := RX5) (T := TX5) (N := 17) hx hb hts hfX5 hown hK hP q61 eq61 rfl 7 (by decide) (va_Nw.use rfl (hN.1 (.fieldLinkNest RX9 79 "ColdShips$Ship" "orderSorts" "[I" "ColdShips") nzw_36)) (fun _ h9 => h9) rfl dX9_passShip_78 ?_
          refine lv_iconst (v := 0) hx hb dX9_passShip_81 (by decide) ?_
          refine tpk_20 hT y24 y24n (fun g140 hf_o139 => ?_)
          refine tpk_pos (tp_in hG y24 (by decide)) hf_o139 (fun q141 eq141 => ?_)
          refine va_iald hx hb hK hP q141 0 eq141 rfl (vp_in_iff.mpr ⟨by decide, by decide⟩) dX9_passShip_82 ?_
          refine lv_topi (fun z142 ez142 => ?_)
          refine lv_goto (tgt := 87) hx hb dX9_passShip_83 (by decide) ?_
          exact hj63 _ _ _ _ ⟨z142, rfl, hP, hD, hS, lv_sub hl [0, 1, 2, 3] rfl⟩
    · refine lv_if_eq (tgt := 61) hx hb dX9_passShip_51 (by decide) (fun c143 => ?_) (fun c143 => ?_)
      · have ic143 : w32.toInt = 0 := zi_eq rfl rfl c143
        refine lv_aload_n hx hb dX9_passShip_61 rfl (lv_at hl 1 rfl) ?_
        have hf_144 : f50 b21 = .inr (5, [.ref (ρ b21 0), .int o30_x1, .int o30_x2, .int o30_x3, .int o30_x4, .int o30_x5, .int o30_x6, .ref (ρ b21 7), .ref (ρ b21 8), .ref (ρ b21 9), .int o30_x10, .int o30_x11, .int o30_x12, .ref (ρ b21 13), .int o30_x14, .ref (ρ b21 15), .ref (ρ b21 16)]) := (hF51 _ (by rw [hb22t]; decide)).trans hf_44
        refine tpk_pos (tp_in hG hb22t (by decide)) hf_144 (fun q145 eq145 => ?_)
        refine va_getN (D := (dC, dI)) (ci := 5) (v := .int o30_x1) (C := RX5) (T := TX5) (N := 17) hx hb hts hfX5 hown hK hP q145 eq145 rfl 1 (by decide) (va_Nw.use rfl (hN.1 (.fieldLinkNest RX9 70 "ColdShips$Ship" "fuel" "I" "ColdShips") nzw_24)) (fun _ h9 => h9) rfl dX9_passShip_62 ?_
        refine lv_iconst (v := 4) hx hb dX9_passShip_65 (by decide) ?_
        refine lv_idiv hx hb dX9_passShip_66 (by decide) ?_
        refine lv_topi (fun z146 ez146 => ?_)
        exact hj53 _ _ _ _ ⟨z146, rfl, hP, hD, hS, lv_sub hl [0, 1, 2, 3] rfl⟩
      · have ic143 : w32.toInt ≠ 0 := zi_eqf rfl rfl c143
        refine lv_aload_n hx hb dX9_passShip_54 rfl (lv_at hl 1 rfl) ?_
        have hf_147 : f50 b21 = .inr (5, [.ref (ρ b21 0), .int o30_x1, .int o30_x2, .int o30_x3, .int o30_x4, .int o30_x5, .int o30_x6, .ref (ρ b21 7), .ref (ρ b21 8), .ref (ρ b21 9), .int o30_x10, .int o30_x11, .int o30_x12, .ref (ρ b21 13), .int o30_x14, .ref (ρ b21 15), .ref (ρ b21 16)]) := (hF51 _ (by rw [hb22t]; decide)).trans hf_44
        refine tpk_pos (tp_in hG hb22t (by decide)) hf_147 (fun q148 eq148 => ?_)
        refine va_getN (D := (dC, dI)) (ci := 5) (v := .int o30_x1) (C := RX5) (T := TX5) (N := 17) hx hb hts hfX5 hown hK hP q148 eq148 rfl 1 (by decide) (va_Nw.use rfl (hN.1 (.fieldLinkNest RX9 70 "ColdShips$Ship" "fuel" "I" "ColdShips") nzw_24)) (fun _ h9 => h9) rfl dX9_passShip_55 ?_
        refine lv_goto (tgt := 67) hx hb dX9_passShip_58 (by decide) ?_
        exact hj53 _ _ _ _ ⟨o30_x1, rfl, hP, hD, hS, lv_sub hl [0, 1, 2, 3] rfl⟩
  · refine lv_if_le (tgt := 21) hx hb dX9_passShip_14 (by decide) (fun c149 => ?_) (fun c149 => ?_)
    · have ic149 : o30_x3.toInt ≤ 0 := zi_le rfl rfl c149
      refine lv_iconst (v := 0) hx hb dX9_passShip_21 (by decide) ?_
      exact hj33 _ _ _ _ ⟨0, rfl, (by have : (0 : Int32).toInt = 0 := rfl; omega), hP, hD, hS, lv_sub hl [0, 1, 2] rfl⟩
    · have ic149 : o30_x3.toInt > 0 := zi_lef rfl rfl c149
      refine lv_iconst (v := 1) hx hb dX9_passShip_17 (by decide) ?_
      refine lv_goto (tgt := 22) hx hb dX9_passShip_18 (by decide) ?_
      exact hj33 _ _ _ _ ⟨1, rfl, (by have : (1 : Int32).toInt = 1 := rfl; omega), hP, hD, hS, lv_sub hl [0, 1, 2] rfl⟩
