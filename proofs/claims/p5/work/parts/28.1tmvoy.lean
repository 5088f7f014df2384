set_option maxHeartbeats 4000000 in
set_option maxRecDepth 100000 in
theorem t_X12_work (l : Launch) (dC : Nat → ClassId) (dI : Nat → Nat → Nat) (sz : Nat) (κ : Nat → ClassId) (τ ν : Nat → Nat) (ρ : Nat → Nat → Nat) (L : List Nat) (f : Nat → va_E) (hG : tp_G τ ν ρ L) (hT : tp_T (mo_O κ) κ τ ν ρ f) (h0 : Nat) (v : Int32) (u : Int32) (x : Int) (b : Int) (ht_h0 : τ h0 = 13) (hbb : 0 ≤ b ∧ b ≤ 1000) (hJ : mo_RI x b (mo_R (mo_i (f (ρ h0 2))))) : Met l yX12_work wqX12_work ({ frames := 4, cells := 0, slots := 0, locals := 1200 }) (va_Pc [.ref h0, .int v, .int u] (pz_B dC dI (tp_K κ) (va_pl L f) sz)) (va_Qi (fun (r : Int32) (f1 : Nat → va_E) => tp_T (mo_O κ) κ τ ν ρ f1 ∧ tp_F τ [13] f f1 ∧ (0 ≤ r.toInt ∧ r.toInt ≤ 1) ∧ True) (fun (f1 : Nat → va_E) (t : State) => pz_E dC dI (tp_K κ) (va_A (va_pl L f) sz) (va_pl L f1) t) (va_A (va_pl L f) sz)) 0 0 (va_A (va_pl L f) sz) := by
  refine Met.ofW (cc := cX12_work) (maxL := 4) (ret := some .boolean) (by decide) rfl ?_
  intro p e s m args below meth c s₁ B hml hv
  obtain ⟨rfl, hsz, hP, hK, hD0, hN⟩ := hv
  have hx := B.exec
  have hb := B.bytes
  have hr := B.returns
  have hts := fun (w : Cond) (h : w ∈ WALL) => atoms_spec (ws := wqX12_work) B.pre w (List.mem_cons_of_mem _ h)
  have hown : s.vm.findClass RX12 = some m.cls := findClass_of_methodNamed B.named
  have hlocks := B.notSynchronized
  subst hsz
  have hD := hD0.self (sz := s.heap.size)
  generalize hAe : va_A (va_pl L f) s.heap.size = A at hD ⊢
  have hA : ∀ q : Nat, s.heap.size ≤ q → A q := fun q h => by rw [← hAe]; exact Or.inr h
  have hS : va_S A s.heap s.heap [] := va_S.rf
  have hR : tp_F τ [13] f f := tp_F.rf
  have hl := lv_entry ([.ref h0, .int v, .int u]) (n := 4) (Nat.le_of_ble_eq_true rfl)
  rw [lg_entry_eq]
  generalize (lg_sl ([.ref h0, .int v, .int u]) ++ List.replicate (4 - (lg_sl ([.ref h0, .int v, .int u])).length) Slot.unset).toArray = ls at hl ⊢
  have hl : lv_has ls 4 [(0, .ref h0), (1, .int v), (2, .int u)] := hl
  refine tgk_13 hG ht_h0 (fun y1 y2 y3 y4 y5 y6 y7 y8 y9 y10 y11 y12 y13 y14 y15 y16 y17 y18 y19 y20 y21 y22 y23 y24 y25 => ?_)
  refine tpk_32 hT y1 (fun g27 hf_o26 => ?_)
  have hI : mo_RI x b (mo_R g27) := by have q9 := hJ; rw [hf_o26, mo_i1] at q9; exact q9
  refine tpk_13 hT ht_h0 (fun o28_x0 o28_x1 o28_x7 o28_x9 o28_x10 o28_x11 o28_x12 o28_x13 o28_x14 o28_x15 o28_x16 o28_x17 o28_x18 o28_x19 o28_x20 o28_x22 o28_x25 o28_x28 o28_x29 o28_x32 o28_x33 o28_x34 o28_x35 o28_x36 o28_x37 o28_x38 o28_x47 o28_x48 hf_o28 ro28_0 ro28_1 ro28_2 ro28_3 ro28_4 ro28_5 ro28_6 ro28_7 ro28_8 ro28_9 ro28_10 ro28_11 ro28_12 ro28_13 => ?_)
  refine lv_iload_n hx hb dX12_work_0 rfl (lv_at hl 2 rfl) ?_
  refine lv_istore_n (lv' := [(3, .int u), (0, .ref h0), (1, .int v), (2, .int u)]) hx hb dX12_work_1 rfl hl (by decide) rfl (fun ls hl => ?_)
  refine pz_loop (fun n0 H locs ls => ∃ f33 : Nat → va_E, ∃ w29 : Int32, ∃ w30 : Int32, n0 = (2400 - (w29.toInt)).toNat ∧ tp_T (mo_O κ) κ τ ν ρ f33 ∧ tp_F τ [13] f f33 ∧ f33 (ρ h0 2) = .inl (κ 0, 12967, .inl g27) ∧ f33 h0 = .inr (12, [.int o28_x0, .int o28_x1, .ref (ρ h0 2), .ref (ρ h0 3), .ref (ρ h0 4), .ref (ρ h0 5), .ref (ρ h0 6), .int o28_x7, .ref (ρ h0 8), .int o28_x9, .int o28_x10, .int o28_x11, .int o28_x12, .long o28_x13, .int o28_x14, .int o28_x15, .int o28_x16, .int o28_x17, .int o28_x18, .int o28_x19, .int o28_x20, .ref (ρ h0 21), .int o28_x22, .ref (ρ h0 23), .ref (ρ h0 24), .int o28_x25, .ref (ρ h0 26), .ref (ρ h0 27), .int o28_x28, .int o28_x29, .ref (ρ h0 30), .ref (ρ h0 31), .int o28_x32, .long o28_x33, .long o28_x34, .long o28_x35, .int w29, .int o28_x37, .int o28_x38, .ref (ρ h0 39), .ref (ρ h0 40), .ref (ρ h0 41), .ref (ρ h0 42), .ref (ρ h0 43), .ref (ρ h0 44), .ref (ρ h0 45), .ref (ρ h0 46), .int o28_x47, .int o28_x48, .ref (ρ h0 49), .ref (ρ h0 50), .ref (ρ h0 51), .ref (ρ h0 52)]) ∧ va_P (dC, dI) vwCl (va_pl L f33) H ∧ va_D A (va_pl L f33) ∧ va_S A s.heap H locs ∧ lv_has ls 4 [(3, .int w30), (0, .ref h0), (1, .int v), (2, .int u)]) ?_ _ _ _ _ ⟨f, o28_x36, u, rfl, hT, hR, hf_o26, hf_o28, hP, hD, hS, lv_sub hl [0, 1, 2, 3] rfl⟩
  intro n0 H locs ls hI ih35
  refine Exists.elim hI (fun f33 hE90 => Exists.elim hE90 (fun w29 hE91 => Exists.elim hE91 (fun w30 hE92 => tn_9 hE92 (fun hn36 hT hR hk31k hk32k hP hD hS hl => ?_))))
  clear hE92 hE91 hE90 hI
  refine lv_iload_n hx hb dX12_work_2 rfl (lv_at hl 0 rfl) ?_
  refine lv_if_le (tgt := 49) hx hb dX12_work_3 (by decide) (fun c37 => ?_) (fun c37 => ?_)
  · have ic37 : w30.toInt ≤ 0 := zi_le rfl rfl c37
    refine lv_iload_n hx hb dX12_work_49 rfl (lv_at hl 0 rfl) ?_
    refine lv_if_ne (tgt := 57) hx hb dX12_work_50 (by decide) (fun c38 => ?_) (fun c38 => ?_)
    · have ic38 : w30.toInt ≠ 0 := zi_ne rfl rfl c38
      replace ic38 : w30.toInt ≤ (-1) := by omega
      refine lv_iconst (v := 0) hx hb dX12_work_57 (by decide) ?_
      exact W.zret (v := 0) hx hb hr rfl (fun t ht hW => ⟨⟨0, f33, rfl, ⟨hT, hR, (by first | decide | omega), trivial⟩, by rw [ht]; exact hP, va_K.moved hW.alike hK, hD⟩, hS.F ht⟩) hS.2.2 dX12_work_58
    · have ic38 : w30.toInt = 0 := zi_nef rfl rfl c38
      refine lv_iconst (v := 1) hx hb dX12_work_53 (by decide) ?_
      refine lv_goto (tgt := 58) hx hb dX12_work_54 (by decide) ?_
      exact W.zret (v := 1) hx hb hr rfl (fun t ht hW => ⟨⟨1, f33, rfl, ⟨hT, hR, (by first | decide | omega), trivial⟩, by rw [ht]; exact hP, va_K.moved hW.alike hK, hD⟩, hS.F ht⟩) hS.2.2 dX12_work_58
  · have ic37 : w30.toInt > 0 := zi_lef rfl rfl c37
    refine lv_aload_n hx hb dX12_work_6 rfl (lv_at hl 1 rfl) ?_
    refine tpk_pos (tp_in hG ht_h0 (by decide)) hk32k (fun q39 eq39 => ?_)
    refine va_get (D := (dC, dI)) (ci := 12) (v := .int w29) (C := RX12) (T := TX12) (N := 53) hx hb hts hfX12 hown hK hP q39 eq39 rfl 36 (by decide) (hts (.fieldLink RX12 500 "ColdShipsModel" "clock" "I") wa_1428) (fun _ h9 => h9) rfl dX12_work_7 ?_
    refine lv_sipush (v := 2399) hx hb dX12_work_10 (by decide) ?_
    refine lv_icmp_gt (tgt := 49) hx hb dX12_work_13 (by decide) (fun c40 => ?_) (fun c40 => ?_)
    · have ic40 : w29.toInt > 2399 := zi_gt rfl rfl c40
      refine lv_iload_n hx hb dX12_work_49 rfl (lv_at hl 0 rfl) ?_
      refine lv_if_ne (tgt := 57) hx hb dX12_work_50 (by decide) (fun c41 => ?_) (fun c41 => ?_)
      · have ic41 : w30.toInt ≠ 0 := zi_ne rfl rfl c41
        refine lv_iconst (v := 0) hx hb dX12_work_57 (by decide) ?_
        exact W.zret (v := 0) hx hb hr rfl (fun t ht hW => ⟨⟨0, f33, rfl, ⟨hT, hR, (by first | decide | omega), trivial⟩, by rw [ht]; exact hP, va_K.moved hW.alike hK, hD⟩, hS.F ht⟩) hS.2.2 dX12_work_58
      · have ic41 : w30.toInt = 0 := zi_nef rfl rfl c41
        exfalso; omega
    · have ic40 : w29.toInt ≤ 2399 := zi_gtf rfl rfl c40
      refine lv_iload_n hx hb dX12_work_16 rfl (lv_at hl 0 rfl) ?_
      refine lv_aload_n hx hb dX12_work_17 rfl (lv_at hl 1 rfl) ?_
      refine lv_iload_n hx hb dX12_work_18 rfl (lv_at hl 2 rfl) ?_
      refine lv_aload_n hx hb dX12_work_19 rfl (lv_at hl 1 rfl) ?_
      refine va_get (D := (dC, dI)) (ci := 12) (v := .int w29) (C := RX12) (T := TX12) (N := 53) hx hb hts hfX12 hown hK hP q39 eq39 rfl 36 (by decide) (hts (.fieldLink RX12 500 "ColdShipsModel" "clock" "I") wa_1428) (fun _ h9 => h9) rfl dX12_work_20 ?_
      refine pz_calli (va_runV (As := [.int v, .int w29]) (rest := [.int w30]) ⟨hx, hb, hml, hown, hts⟩ (t_X12_isBroken l dC dI _ κ τ ν ρ L f33 hG hT h0 v w29 x b ht_h0 (by omega) (by rw [hk31k, mo_i1]; exact hI)) (cwV 2 hts gX12_work_X12_isBroken rfl rfl rfl ⟨rfl, pd_X12_isBroken⟩ ⟨Nat.le_of_ble_eq_true rfl, Nat.le_of_ble_eq_true rfl⟩) ⟨pz_blind, va_recv hK hP (ci := 12) (q0 := q39) rfl eq39, pz_pre hP hK hD hN⟩ rfl rfl hl.1 rfl (lv_room (Nat.le_of_ble_eq_true rfl)) dX12_work_23 ⟨Nat.le_of_ble_eq_true rfl, Nat.le_of_ble_eq_true rfl⟩) (fun r42 hw43 => ?_)
      obtain ⟨hw43r, hw43p⟩ := hw43
      refine tp_join 34 (fun H locs ls stk => ∃ w44 : Int32, stk = [.int w44, .int w30] ∧ (0 ≤ w44.toInt ∧ w44.toInt ≤ 1) ∧ va_P (dC, dI) vwCl (va_pl L f33) H ∧ va_D A (va_pl L f33) ∧ va_S A s.heap H locs ∧ lv_has ls 4 [(3, .int w30), (0, .ref h0), (1, .int v), (2, .int u)]) ?_ (fun hj45 => ?_)
      · intro H locs ls stk hI
        refine Exists.elim hI (fun w44 hE90 => tn_6 hE90 (fun e90 rw44 hP hD hS hl => ?_))
        clear hE90 hI; subst e90
        refine lv_isub hx hb dX12_work_34 ?_
        refine lv_topi (fun z46 ez46 => ?_)
        have := zi_bd w30
        have iz46 : z46.toInt = w30.toInt - w44.toInt := zi_sub ez46 rfl rfl (by omega) (by omega)
        refine lv_istore_n (lv' := [(3, .int z46), (0, .ref h0), (1, .int v), (2, .int u)]) hx hb dX12_work_35 rfl hl (by decide) rfl (fun ls hl => ?_)
        refine lv_aload_n hx hb dX12_work_36 rfl (lv_at hl 1 rfl) ?_
        refine lv_dup hx hb dX12_work_37 rfl ?_
        refine va_get (D := (dC, dI)) (ci := 12) (v := .int w29) (C := RX12) (T := TX12) (N := 53) hx hb hts hfX12 hown hK hP q39 eq39 rfl 36 (by decide) (hts (.fieldLink RX12 500 "ColdShipsModel" "clock" "I") wa_1428) (fun _ h9 => h9) rfl dX12_work_38 ?_
        refine lv_iconst (v := 1) hx hb dX12_work_41 (by decide) ?_
        refine lv_iadd hx hb dX12_work_42 ?_
        refine lv_topi (fun z47 ez47 => ?_)
        have := zi_bd w29
        have iz47 : z47.toInt = w29.toInt + 1 := zi_add ez47 rfl rfl (by omega) (by omega)
        refine va_put (D := (dC, dI)) (ci := 12) (v := .int z47) (ty := .int) (C := RX12) (T := TX12) (N := 53) hx hb hts hfX12 tyX12 tyX12_ok nmX12 hown hK hP hD hS q39 eq39 rfl 36 (by decide) (hts (.fieldLink RX12 500 "ColdShipsModel" "clock" "I") wa_1428) (fun _ h9 => h9) rfl (tyX12_ok 36 (by decide)) rfl rfl (Nat.le_of_ble_eq_true rfl) dX12_work_43 (tp_k (.inr (12, [.int o28_x0, .int o28_x1, .ref (ρ h0 2), .ref (ρ h0 3), .ref (ρ h0 4), .ref (ρ h0 5), .ref (ρ h0 6), .int o28_x7, .ref (ρ h0 8), .int o28_x9, .int o28_x10, .int o28_x11, .int o28_x12, .long o28_x13, .int o28_x14, .int o28_x15, .int o28_x16, .int o28_x17, .int o28_x18, .int o28_x19, .int o28_x20, .ref (ρ h0 21), .int o28_x22, .ref (ρ h0 23), .ref (ρ h0 24), .int o28_x25, .ref (ρ h0 26), .ref (ρ h0 27), .int o28_x28, .int o28_x29, .ref (ρ h0 30), .ref (ρ h0 31), .int o28_x32, .long o28_x33, .long o28_x34, .long o28_x35, .int z47, .int o28_x37, .int o28_x38, .ref (ρ h0 39), .ref (ρ h0 40), .ref (ρ h0 41), .ref (ρ h0 42), .ref (ρ h0 43), .ref (ρ h0 44), .ref (ρ h0 45), .ref (ρ h0 46), .int o28_x47, .int o28_x48, .ref (ρ h0 49), .ref (ρ h0 50), .ref (ρ h0 51), .ref (ρ h0 52)])) hD (tp_in hG ht_h0 (by decide)) eq39 (fun f48 H locs hP hD hS g50 k49 => ?_))
        have hT := hT.up ht_h0 g50 k49 ⟨_, _, _, _, _, _, _, _, _, _, _, _, _, _, _, _, _, _, _, _, _, _, _, _, _, _, _, _, rfl, ro28_0, ro28_1, ro28_2, ro28_3, ro28_4, ro28_5, ro28_6, ro28_7, ro28_8, ro28_9, ro28_10, ro28_11, ro28_12, ro28_13⟩
        have hR := hR.up ht_h0 (by decide) k49
        refine lv_goto (tgt := 2) hx hb dX12_work_46 (by decide) ?_
        have hf_51 : f48 (ρ h0 2) = .inl (κ 0, 12967, .inl g27) := (k49 _ (tp_ne y1 ht_h0 (by decide))).trans hk31k
        exact ih35 _ _ _ _ (by rw [hn36]; omega) ⟨f48, z47, z46, rfl, hT, hR, hf_51, g50, hP, hD, hS, lv_sub hl [0, 1, 2, 3] rfl⟩
      · refine lv_if_eq (tgt := 33) hx hb dX12_work_26 (by decide) (fun c52 => ?_) (fun c52 => ?_)
        · have ic52 : r42.toInt = 0 := zi_eq rfl rfl c52
          refine lv_iconst (v := 1) hx hb dX12_work_33 (by decide) ?_
          exact hj45 _ _ _ _ ⟨1, rfl, (by have : (1 : Int32).toInt = 1 := rfl; omega), hP, hD, hS, lv_sub hl [0, 1, 2, 3] rfl⟩
        · have ic52 : r42.toInt ≠ 0 := zi_eqf rfl rfl c52
          replace ic52 : 1 ≤ r42.toInt := by omega
          refine lv_iconst (v := 0) hx hb dX12_work_29 (by decide) ?_
          refine lv_goto (tgt := 34) hx hb dX12_work_30 (by decide) ?_
          exact hj45 _ _ _ _ ⟨0, rfl, (by have : (0 : Int32).toInt = 0 := rfl; omega), hP, hD, hS, lv_sub hl [0, 1, 2, 3] rfl⟩
set_option maxHeartbeats 4000000 in
set_option maxRecDepth 100000 in
theorem t_X12_goTo (l : Launch) (dC : Nat → ClassId) (dI : Nat → Nat → Nat) (sz : Nat) (κ : Nat → ClassId) (τ ν : Nat → Nat) (ρ : Nat → Nat → Nat) (L : List Nat) (f : Nat → va_E) (hG : tp_G τ ν ρ L) (hT : tp_T (mo_O κ) κ τ ν ρ f) (h0 : Nat) (v : Int32) (u : Int32) (a : Int32) (a4 : Int32) (x : Int) (b : Int) (ht_h0 : τ h0 = 13) (hr_v : 0 ≤ v.toInt ∧ v.toInt ≤ 5) (hbb : 0 ≤ b ∧ b ≤ 1000) (hJ : mo_RI x b (mo_R (mo_i (f (ρ h0 2))))) : Met l yX12_goTo wqX12_goTo ({ frames := 5, cells := 0, slots := 0, locals := 1600 }) (va_Pc [.ref h0, .int v, .int u, .int a, .int a4] (pz_B dC dI (tp_K κ) (va_pl L f) sz)) (va_Qi (fun (r : Int32) (f1 : Nat → va_E) => tp_T (mo_O κ) κ τ ν ρ f1 ∧ tp_F τ [13] f f1 ∧ True ∧ True) (fun (f1 : Nat → va_E) (t : State) => pz_E dC dI (tp_K κ) (va_A (va_pl L f) sz) (va_pl L f1) t) (va_A (va_pl L f) sz)) 0 0 (va_A (va_pl L f) sz) := by
  refine Met.ofW (cc := cX12_goTo) (maxL := 6) (ret := some .int) (by decide) rfl ?_
  intro p e s m args below meth c s₁ B hml hv
  obtain ⟨rfl, hsz, hP, hK, hD0, hN⟩ := hv
  have hx := B.exec
  have hb := B.bytes
  have hr := B.returns
  have hts := fun (w : Cond) (h : w ∈ WALL) => atoms_spec (ws := wqX12_goTo) B.pre w (List.mem_cons_of_mem _ h)
  have hown : s.vm.findClass RX12 = some m.cls := findClass_of_methodNamed B.named
  have hlocks := B.notSynchronized
  subst hsz
  have hD := hD0.self (sz := s.heap.size)
  generalize hAe : va_A (va_pl L f) s.heap.size = A at hD ⊢
  have hA : ∀ q : Nat, s.heap.size ≤ q → A q := fun q h => by rw [← hAe]; exact Or.inr h
  have hS : va_S A s.heap s.heap [] := va_S.rf
  have hR : tp_F τ [13] f f := tp_F.rf
  have hl := lv_entry ([.ref h0, .int v, .int u, .int a, .int a4]) (n := 6) (Nat.le_of_ble_eq_true rfl)
  rw [lg_entry_eq]
  generalize (lg_sl ([.ref h0, .int v, .int u, .int a, .int a4]) ++ List.replicate (6 - (lg_sl ([.ref h0, .int v, .int u, .int a, .int a4])).length) Slot.unset).toArray = ls at hl ⊢
  have hl : lv_has ls 6 [(0, .ref h0), (1, .int v), (2, .int u), (3, .int a), (4, .int a4)] := hl
  refine tgk_13 hG ht_h0 (fun y1 y2 y3 y4 y5 y6 y7 y8 y9 y10 y11 y12 y13 y14 y15 y16 y17 y18 y19 y20 y21 y22 y23 y24 y25 => ?_)
  refine tpk_32 hT y1 (fun g27 hf_o26 => ?_)
  have hI : mo_RI x b (mo_R g27) := by have q9 := hJ; rw [hf_o26, mo_i1] at q9; exact q9
  refine lv_aload_n hx hb dX12_goTo_0 rfl (lv_at hl 0 rfl) ?_
  refine tpk_13 hT ht_h0 (fun o28_x0 o28_x1 o28_x7 o28_x9 o28_x10 o28_x11 o28_x12 o28_x13 o28_x14 o28_x15 o28_x16 o28_x17 o28_x18 o28_x19 o28_x20 o28_x22 o28_x25 o28_x28 o28_x29 o28_x32 o28_x33 o28_x34 o28_x35 o28_x36 o28_x37 o28_x38 o28_x47 o28_x48 hf_o28 ro28_0 ro28_1 ro28_2 ro28_3 ro28_4 ro28_5 ro28_6 ro28_7 ro28_8 ro28_9 ro28_10 ro28_11 ro28_12 ro28_13 => ?_)
  refine tpk_pos (tp_in hG ht_h0 (by decide)) hf_o28 (fun q29 eq29 => ?_)
  refine va_get (D := (dC, dI)) (ci := 12) (v := .int o28_x37) (C := RX12) (T := TX12) (N := 53) hx hb hts hfX12 hown hK hP q29 eq29 rfl 37 (by decide) (hts (.fieldLink RX12 503 "ColdShipsModel" "place" "I") wa_1429) (fun _ h9 => h9) rfl dX12_goTo_1 ?_
  refine lv_iload_n hx hb dX12_goTo_4 rfl (lv_at hl 1 rfl) ?_
  refine tp_join 21 (fun H locs ls stk => ∃ w30 : Int32, stk = [.int w30] ∧ va_P (dC, dI) vwCl (va_pl L f) H ∧ va_D A (va_pl L f) ∧ va_S A s.heap H locs ∧ lv_has ls 6 [(0, .ref h0), (1, .int v), (2, .int u), (3, .int a), (4, .int a4)]) ?_ (fun hj31 => ?_)
  · intro H locs ls stk hI
    refine Exists.elim hI (fun w30 hE90 => tn_5 hE90 (fun e90 hP hD hS hl => ?_))
    clear hE90 hI; subst e90
    refine lv_istore (lv' := [(5, .int w30), (0, .ref h0), (1, .int v), (2, .int u), (3, .int a), (4, .int a4)]) hx hb dX12_goTo_21 hl (by decide) rfl (fun ls hl => ?_)
    refine lv_aload_n hx hb dX12_goTo_23 rfl (lv_at hl 1 rfl) ?_
    refine va_get (D := (dC, dI)) (ci := 12) (v := .int o28_x37) (C := RX12) (T := TX12) (N := 53) hx hb hts hfX12 hown hK hP q29 eq29 rfl 37 (by decide) (hts (.fieldLink RX12 503 "ColdShipsModel" "place" "I") wa_1429) (fun _ h9 => h9) rfl dX12_goTo_24 ?_
    refine lv_iload_n hx hb dX12_goTo_27 rfl (lv_at hl 2 rfl) ?_
    refine tp_join 38 (fun H locs ls stk => stk = [] ∧ va_P (dC, dI) vwCl (va_pl L f) H ∧ va_D A (va_pl L f) ∧ va_S A s.heap H locs ∧ lv_has ls 6 [(5, .int w30), (0, .ref h0), (1, .int v), (2, .int u), (3, .int a), (4, .int a4)]) ?_ (fun hj32 => ?_)
    · intro H locs ls stk hI
      refine tn_5 hI (fun e90 hP hD hS hl => ?_)
      clear hI; subst e90
      refine lv_aload_n hx hb dX12_goTo_38 rfl (lv_at hl 1 rfl) ?_
      refine lv_dup hx hb dX12_goTo_39 rfl ?_
      refine va_get (D := (dC, dI)) (ci := 12) (v := .int o28_x36) (C := RX12) (T := TX12) (N := 53) hx hb hts hfX12 hown hK hP q29 eq29 rfl 36 (by decide) (hts (.fieldLink RX12 500 "ColdShipsModel" "clock" "I") wa_1428) (fun _ h9 => h9) rfl dX12_goTo_40 ?_
      refine lv_iload hx hb dX12_goTo_43 (lv_at hl 0 rfl) ?_
      refine lv_iadd hx hb dX12_goTo_45 ?_
      refine lv_topi (fun z33 ez33 => ?_)
      refine va_put (D := (dC, dI)) (ci := 12) (v := .int z33) (ty := .int) (C := RX12) (T := TX12) (N := 53) hx hb hts hfX12 tyX12 tyX12_ok nmX12 hown hK hP hD hS q29 eq29 rfl 36 (by decide) (hts (.fieldLink RX12 500 "ColdShipsModel" "clock" "I") wa_1428) (fun _ h9 => h9) rfl (tyX12_ok 36 (by decide)) rfl rfl (Nat.le_of_ble_eq_true rfl) dX12_goTo_46 (tp_k (.inr (12, [.int o28_x0, .int o28_x1, .ref (ρ h0 2), .ref (ρ h0 3), .ref (ρ h0 4), .ref (ρ h0 5), .ref (ρ h0 6), .int o28_x7, .ref (ρ h0 8), .int o28_x9, .int o28_x10, .int o28_x11, .int o28_x12, .long o28_x13, .int o28_x14, .int o28_x15, .int o28_x16, .int o28_x17, .int o28_x18, .int o28_x19, .int o28_x20, .ref (ρ h0 21), .int o28_x22, .ref (ρ h0 23), .ref (ρ h0 24), .int o28_x25, .ref (ρ h0 26), .ref (ρ h0 27), .int o28_x28, .int o28_x29, .ref (ρ h0 30), .ref (ρ h0 31), .int o28_x32, .long o28_x33, .long o28_x34, .long o28_x35, .int z33, .int o28_x37, .int o28_x38, .ref (ρ h0 39), .ref (ρ h0 40), .ref (ρ h0 41), .ref (ρ h0 42), .ref (ρ h0 43), .ref (ρ h0 44), .ref (ρ h0 45), .ref (ρ h0 46), .int o28_x47, .int o28_x48, .ref (ρ h0 49), .ref (ρ h0 50), .ref (ρ h0 51), .ref (ρ h0 52)])) hD (tp_in hG ht_h0 (by decide)) eq29 (fun f34 H locs hP hD hS g36 k35 => ?_))
      have hT := hT.up ht_h0 g36 k35 ⟨_, _, _, _, _, _, _, _, _, _, _, _, _, _, _, _, _, _, _, _, _, _, _, _, _, _, _, _, rfl, ro28_0, ro28_1, ro28_2, ro28_3, ro28_4, ro28_5, ro28_6, ro28_7, ro28_8, ro28_9, ro28_10, ro28_11, ro28_12, ro28_13⟩
      have hR := hR.up ht_h0 (by decide) k35
      refine lv_aload_n hx hb dX12_goTo_49 rfl (lv_at hl 1 rfl) ?_
      refine lv_aload_n hx hb dX12_goTo_50 rfl (lv_at hl 1 rfl) ?_
      refine tpk_pos (tp_in hG ht_h0 (by decide)) g36 (fun q37 eq37 => ?_)
      refine va_get (D := (dC, dI)) (ci := 12) (v := .int z33) (C := RX12) (T := TX12) (N := 53) hx hb hts hfX12 hown hK hP q37 eq37 rfl 36 (by decide) (hts (.fieldLink RX12 500 "ColdShipsModel" "clock" "I") wa_1428) (fun _ h9 => h9) rfl dX12_goTo_51 ?_
      refine lv_iload_n hx hb dX12_goTo_54 rfl (lv_at hl 3 rfl) ?_
      refine tp_join 66 (fun H locs ls stk => ∃ w38 : Int32, stk = [.int w38, .ref h0] ∧ va_P (dC, dI) vwCl (va_pl L f34) H ∧ va_D A (va_pl L f34) ∧ va_S A s.heap H locs ∧ lv_has ls 6 [(5, .int w30), (0, .ref h0), (1, .int v), (2, .int u), (3, .int a), (4, .int a4)]) ?_ (fun hj39 => ?_)
      · intro H locs ls stk hI
        refine Exists.elim hI (fun w38 hE90 => tn_5 hE90 (fun e90 hP hD hS hl => ?_))
        clear hE90 hI; subst e90
        refine va_put (D := (dC, dI)) (ci := 12) (v := .int w38) (ty := .int) (C := RX12) (T := TX12) (N := 53) hx hb hts hfX12 tyX12 tyX12_ok nmX12 hown hK hP hD hS q37 eq37 rfl 36 (by decide) (hts (.fieldLink RX12 500 "ColdShipsModel" "clock" "I") wa_1428) (fun _ h9 => h9) rfl (tyX12_ok 36 (by decide)) rfl rfl (Nat.le_of_ble_eq_true rfl) dX12_goTo_66 (tp_k (.inr (12, [.int o28_x0, .int o28_x1, .ref (ρ h0 2), .ref (ρ h0 3), .ref (ρ h0 4), .ref (ρ h0 5), .ref (ρ h0 6), .int o28_x7, .ref (ρ h0 8), .int o28_x9, .int o28_x10, .int o28_x11, .int o28_x12, .long o28_x13, .int o28_x14, .int o28_x15, .int o28_x16, .int o28_x17, .int o28_x18, .int o28_x19, .int o28_x20, .ref (ρ h0 21), .int o28_x22, .ref (ρ h0 23), .ref (ρ h0 24), .int o28_x25, .ref (ρ h0 26), .ref (ρ h0 27), .int o28_x28, .int o28_x29, .ref (ρ h0 30), .ref (ρ h0 31), .int o28_x32, .long o28_x33, .long o28_x34, .long o28_x35, .int w38, .int o28_x37, .int o28_x38, .ref (ρ h0 39), .ref (ρ h0 40), .ref (ρ h0 41), .ref (ρ h0 42), .ref (ρ h0 43), .ref (ρ h0 44), .ref (ρ h0 45), .ref (ρ h0 46), .int o28_x47, .int o28_x48, .ref (ρ h0 49), .ref (ρ h0 50), .ref (ρ h0 51), .ref (ρ h0 52)])) hD (tp_in hG ht_h0 (by decide)) eq37 (fun f40 H locs hP hD hS g42 k41 => ?_))
        have hT := hT.up ht_h0 g42 k41 ⟨_, _, _, _, _, _, _, _, _, _, _, _, _, _, _, _, _, _, _, _, _, _, _, _, _, _, _, _, rfl, ro28_0, ro28_1, ro28_2, ro28_3, ro28_4, ro28_5, ro28_6, ro28_7, ro28_8, ro28_9, ro28_10, ro28_11, ro28_12, ro28_13⟩
        have hR := hR.up ht_h0 (by decide) k41
        refine lv_aload_n hx hb dX12_goTo_69 rfl (lv_at hl 1 rfl) ?_
        refine tpk_pos (tp_in hG ht_h0 (by decide)) g42 (fun q43 eq43 => ?_)
        refine va_get (D := (dC, dI)) (ci := 12) (v := .int w38) (C := RX12) (T := TX12) (N := 53) hx hb hts hfX12 hown hK hP q43 eq43 rfl 36 (by decide) (hts (.fieldLink RX12 500 "ColdShipsModel" "clock" "I") wa_1428) (fun _ h9 => h9) rfl dX12_goTo_70 ?_
        refine lv_iload_n hx hb dX12_goTo_73 rfl (lv_at hl 4 rfl) ?_
        refine lv_icmp_le (tgt := 79) hx hb dX12_goTo_74 (by decide) (fun c44 => ?_) (fun c44 => ?_)
        · have ic44 : w38.toInt ≤ a.toInt := zi_le rfl rfl c44
          refine lv_aload_n hx hb dX12_goTo_79 rfl (lv_at hl 1 rfl) ?_
          refine lv_aload_n hx hb dX12_goTo_80 rfl (lv_at hl 1 rfl) ?_
          refine va_get (D := (dC, dI)) (ci := 12) (v := .int w38) (C := RX12) (T := TX12) (N := 53) hx hb hts hfX12 hown hK hP q43 eq43 rfl 36 (by decide) (hts (.fieldLink RX12 500 "ColdShipsModel" "clock" "I") wa_1428) (fun _ h9 => h9) rfl dX12_goTo_81 ?_
          refine va_put (D := (dC, dI)) (ci := 12) (v := .int w38) (ty := .int) (C := RX12) (T := TX12) (N := 53) hx hb hts hfX12 tyX12 tyX12_ok nmX12 hown hK hP hD hS q43 eq43 rfl 38 (by decide) (hts (.fieldLink RX12 506 "ColdShipsModel" "began" "I") wa_1434) (fun _ h9 => h9) rfl (tyX12_ok 38 (by decide)) rfl rfl (Nat.le_of_ble_eq_true rfl) dX12_goTo_84 (tp_k (.inr (12, [.int o28_x0, .int o28_x1, .ref (ρ h0 2), .ref (ρ h0 3), .ref (ρ h0 4), .ref (ρ h0 5), .ref (ρ h0 6), .int o28_x7, .ref (ρ h0 8), .int o28_x9, .int o28_x10, .int o28_x11, .int o28_x12, .long o28_x13, .int o28_x14, .int o28_x15, .int o28_x16, .int o28_x17, .int o28_x18, .int o28_x19, .int o28_x20, .ref (ρ h0 21), .int o28_x22, .ref (ρ h0 23), .ref (ρ h0 24), .int o28_x25, .ref (ρ h0 26), .ref (ρ h0 27), .int o28_x28, .int o28_x29, .ref (ρ h0 30), .ref (ρ h0 31), .int o28_x32, .long o28_x33, .long o28_x34, .long o28_x35, .int w38, .int o28_x37, .int w38, .ref (ρ h0 39), .ref (ρ h0 40), .ref (ρ h0 41), .ref (ρ h0 42), .ref (ρ h0 43), .ref (ρ h0 44), .ref (ρ h0 45), .ref (ρ h0 46), .int o28_x47, .int o28_x48, .ref (ρ h0 49), .ref (ρ h0 50), .ref (ρ h0 51), .ref (ρ h0 52)])) hD (tp_in hG ht_h0 (by decide)) eq43 (fun f45 H locs hP hD hS g47 k46 => ?_))
          have hT := hT.up ht_h0 g47 k46 ⟨_, _, _, _, _, _, _, _, _, _, _, _, _, _, _, _, _, _, _, _, _, _, _, _, _, _, _, _, rfl, ro28_0, ro28_1, ro28_2, ro28_3, ro28_4, ro28_5, ro28_6, ro28_7, ro28_8, ro28_9, ro28_10, ro28_11, ro28_12, ro28_13⟩
          have hR := hR.up ht_h0 (by decide) k46
          refine lv_aload_n hx hb dX12_goTo_87 rfl (lv_at hl 1 rfl) ?_
          refine lv_iload_n hx hb dX12_goTo_88 rfl (lv_at hl 2 rfl) ?_
          refine tpk_pos (tp_in hG ht_h0 (by decide)) g47 (fun q48 eq48 => ?_)
          refine va_put (D := (dC, dI)) (ci := 12) (v := .int v) (ty := .int) (C := RX12) (T := TX12) (N := 53) hx hb hts hfX12 tyX12 tyX12_ok nmX12 hown hK hP hD hS q48 eq48 rfl 37 (by decide) (hts (.fieldLink RX12 503 "ColdShipsModel" "place" "I") wa_1429) (fun _ h9 => h9) rfl (tyX12_ok 37 (by decide)) rfl rfl (Nat.le_of_ble_eq_true rfl) dX12_goTo_89 (tp_k (.inr (12, [.int o28_x0, .int o28_x1, .ref (ρ h0 2), .ref (ρ h0 3), .ref (ρ h0 4), .ref (ρ h0 5), .ref (ρ h0 6), .int o28_x7, .ref (ρ h0 8), .int o28_x9, .int o28_x10, .int o28_x11, .int o28_x12, .long o28_x13, .int o28_x14, .int o28_x15, .int o28_x16, .int o28_x17, .int o28_x18, .int o28_x19, .int o28_x20, .ref (ρ h0 21), .int o28_x22, .ref (ρ h0 23), .ref (ρ h0 24), .int o28_x25, .ref (ρ h0 26), .ref (ρ h0 27), .int o28_x28, .int o28_x29, .ref (ρ h0 30), .ref (ρ h0 31), .int o28_x32, .long o28_x33, .long o28_x34, .long o28_x35, .int w38, .int v, .int w38, .ref (ρ h0 39), .ref (ρ h0 40), .ref (ρ h0 41), .ref (ρ h0 42), .ref (ρ h0 43), .ref (ρ h0 44), .ref (ρ h0 45), .ref (ρ h0 46), .int o28_x47, .int o28_x48, .ref (ρ h0 49), .ref (ρ h0 50), .ref (ρ h0 51), .ref (ρ h0 52)])) hD (tp_in hG ht_h0 (by decide)) eq48 (fun f49 H locs hP hD hS g51 k50 => ?_))
          have hT := hT.up ht_h0 g51 k50 ⟨_, _, _, _, _, _, _, _, _, _, _, _, _, _, _, _, _, _, _, _, _, _, _, _, _, _, _, _, rfl, ro28_0, ro28_1, ro28_2, ro28_3, ro28_4, ro28_5, ro28_6, ro28_7, ro28_8, ro28_9, ro28_10, (by omega), ro28_12, ro28_13⟩
          have hR := hR.up ht_h0 (by decide) k50
          refine lv_aload_n hx hb dX12_goTo_92 rfl (lv_at hl 1 rfl) ?_
          refine lv_iload_n hx hb dX12_goTo_93 rfl (lv_at hl 2 rfl) ?_
          refine lv_iload hx hb dX12_goTo_94 (lv_at hl 5 rfl) ?_
          have hf_52 : f34 (ρ h0 2) = .inl (κ 0, 12967, .inl g27) := (k35 _ (tp_ne y1 ht_h0 (by decide))).trans hf_o26
          have hf_53 : f40 (ρ h0 2) = .inl (κ 0, 12967, .inl g27) := (k41 _ (tp_ne y1 ht_h0 (by decide))).trans hf_52
          have hf_54 : f45 (ρ h0 2) = .inl (κ 0, 12967, .inl g27) := (k46 _ (tp_ne y1 ht_h0 (by decide))).trans hf_53
          have hf_55 : f49 (ρ h0 2) = .inl (κ 0, 12967, .inl g27) := (k50 _ (tp_ne y1 ht_h0 (by decide))).trans hf_54
          refine tpk_pos (tp_in hG ht_h0 (by decide)) g51 (fun q56 eq56 => ?_)
          have hFc := tp_fr hD hS hA
          refine va_calli (va_runV (As := [.int v, .int a4]) (rest := []) ⟨hx, hb, hml, hown, hts⟩ (t_X12_work l dC dI _ κ τ ν ρ L f49 hG hT h0 v a4 x b ht_h0 (by omega) (by rw [hf_55, mo_i1]; exact hI)) (cwV 2 hts gX12_goTo_X12_work rfl rfl rfl ⟨rfl, pd_X12_work⟩ ⟨Nat.le_of_ble_eq_true rfl, Nat.le_of_ble_eq_true rfl⟩) ⟨pz_blind, va_recv hK hP (ci := 12) (q0 := q56) rfl eq56, pz_pre hP hK hD hN⟩ rfl rfl hl.1 rfl (lv_room (Nat.le_of_ble_eq_true rfl)) dX12_goTo_96 ⟨Nat.le_of_ble_eq_true rfl, Nat.le_of_ble_eq_true rfl⟩) hS (fun q _ h => hFc q h) hFc (fun r57 f59 t H1 locs ht hvm hw58 hB hz1 hk1 hS => ?_)
          refine tn_4 hw58 (fun hT hF60 hw58r hw58p => ?_); clear hw58
          have hR := hR.then hF60 (by decide)
          have hP := hB.1; rw [ht] at hP; have hD := tp_ad f59 hD; clear hB hFc hz1 hk1; subst ht; generalize t.heap = H at hP hS ⊢
          refine lv_if_eq (tgt := 107) hx hb dX12_goTo_99 (by decide) (fun c61 => ?_) (fun c61 => ?_)
          · have ic61 : r57.toInt = 0 := zi_eq rfl rfl c61
            refine lv_iconst (v := (-1)) hx hb dX12_goTo_107 (by decide) ?_
            exact W.iret (v := (-1)) hx hb hr (fun t ht hW => ⟨⟨(-1), f59, rfl, ⟨hT, hR, trivial, trivial⟩, by rw [ht]; exact hP, va_K.moved hW.alike hK, hD⟩, hS.F ht⟩) hS.2.2 dX12_goTo_108
          · have ic61 : r57.toInt ≠ 0 := zi_eqf rfl rfl c61
            replace ic61 : 1 ≤ r57.toInt := by omega
            refine lv_iload hx hb dX12_goTo_102 (lv_at hl 0 rfl) ?_
            refine lv_goto (tgt := 108) hx hb dX12_goTo_104 (by decide) ?_
            exact W.iret (v := w30) hx hb hr (fun t ht hW => ⟨⟨w30, f59, rfl, ⟨hT, hR, trivial, trivial⟩, by rw [ht]; exact hP, va_K.moved hW.alike hK, hD⟩, hS.F ht⟩) hS.2.2 dX12_goTo_108
        · have ic44 : w38.toInt > a.toInt := zi_lef rfl rfl c44
          refine lv_iconst (v := (-1)) hx hb dX12_goTo_77 (by decide) ?_
          exact W.iret (v := (-1)) hx hb hr (fun t ht hW => ⟨⟨(-1), f40, rfl, ⟨hT, hR, trivial, trivial⟩, by rw [ht]; exact hP, va_K.moved hW.alike hK, hD⟩, hS.F ht⟩) hS.2.2 dX12_goTo_78
      · refine lv_icmp_ge (tgt := 62) hx hb dX12_goTo_55 (by decide) (fun c62 => ?_) (fun c62 => ?_)
        · have ic62 : z33.toInt ≥ u.toInt := zi_ge rfl rfl c62
          refine lv_aload_n hx hb dX12_goTo_62 rfl (lv_at hl 1 rfl) ?_
          refine va_get (D := (dC, dI)) (ci := 12) (v := .int z33) (C := RX12) (T := TX12) (N := 53) hx hb hts hfX12 hown hK hP q37 eq37 rfl 36 (by decide) (hts (.fieldLink RX12 500 "ColdShipsModel" "clock" "I") wa_1428) (fun _ h9 => h9) rfl dX12_goTo_63 ?_
          exact hj39 _ _ _ _ ⟨z33, rfl, hP, hD, hS, lv_sub hl [0, 1, 2, 3, 4, 5] rfl⟩
        · have ic62 : z33.toInt < u.toInt := zi_gef rfl rfl c62
          refine lv_iload_n hx hb dX12_goTo_58 rfl (lv_at hl 3 rfl) ?_
          refine lv_goto (tgt := 66) hx hb dX12_goTo_59 (by decide) ?_
          exact hj39 _ _ _ _ ⟨u, rfl, hP, hD, hS, lv_sub hl [0, 1, 2, 3, 4, 5] rfl⟩
    · refine lv_icmp_eq (tgt := 38) hx hb dX12_goTo_28 (by decide) (fun c63 => ?_) (fun c63 => ?_)
      · have ic63 : o28_x37.toInt = v.toInt := zi_eq rfl rfl c63
        exact hj32 _ _ _ _ ⟨rfl, hP, hD, hS, lv_sub hl [0, 1, 2, 3, 4, 5] rfl⟩
      · have ic63 : o28_x37.toInt ≠ v.toInt := zi_eqf rfl rfl c63
        refine lv_iload hx hb dX12_goTo_31 (lv_at hl 0 rfl) ?_
        refine lv_if_ne (tgt := 38) hx hb dX12_goTo_33 (by decide) (fun c64 => ?_) (fun c64 => ?_)
        · have ic64 : w30.toInt ≠ 0 := zi_ne rfl rfl c64
          exact hj32 _ _ _ _ ⟨rfl, hP, hD, hS, lv_sub hl [0, 1, 2, 3, 4, 5] rfl⟩
        · have ic64 : w30.toInt = 0 := zi_nef rfl rfl c64
          refine lv_iconst (v := (-1)) hx hb dX12_goTo_36 (by decide) ?_
          exact W.iret (v := (-1)) hx hb hr (fun t ht hW => ⟨⟨(-1), f, rfl, ⟨hT, hR, trivial, trivial⟩, by rw [ht]; exact hP, va_K.moved hW.alike hK, hD⟩, hS.F ht⟩) hS.2.2 dX12_goTo_37
  · refine lv_icmp_ne (tgt := 12) hx hb dX12_goTo_5 (by decide) (fun c65 => ?_) (fun c65 => ?_)
    · have ic65 : o28_x37.toInt ≠ v.toInt := zi_ne rfl rfl c65
      refine lv_aload_n hx hb dX12_goTo_12 rfl (lv_at hl 0 rfl) ?_
      refine lv_aload_n hx hb dX12_goTo_13 rfl (lv_at hl 0 rfl) ?_
      refine va_get (D := (dC, dI)) (ci := 12) (v := .int o28_x37) (C := RX12) (T := TX12) (N := 53) hx hb hts hfX12 hown hK hP q29 eq29 rfl 37 (by decide) (hts (.fieldLink RX12 503 "ColdShipsModel" "place" "I") wa_1429) (fun _ h9 => h9) rfl dX12_goTo_14 ?_
      refine lv_iload_n hx hb dX12_goTo_17 rfl (lv_at hl 1 rfl) ?_
      refine pz_calli (va_runV (As := [.int o28_x37, .int v]) (rest := []) ⟨hx, hb, hml, hown, hts⟩ (t_X12_wayOf l dC dI _ κ τ ν ρ L f hG hT h0 o28_x37 v x b ht_h0 (by first | decide | omega) (by first | decide | omega) (by omega) (by rw [hf_o26, mo_i1]; exact hI)) (cwV 2 hts gX12_goTo_X12_wayOf rfl rfl rfl ⟨rfl, pd_X12_wayOf⟩ ⟨Nat.le_of_ble_eq_true rfl, Nat.le_of_ble_eq_true rfl⟩) ⟨pz_blind, va_recv hK hP (ci := 12) (q0 := q29) rfl eq29, pz_pre hP hK hD hN⟩ rfl rfl hl.1 rfl (lv_room (Nat.le_of_ble_eq_true rfl)) dX12_goTo_18 ⟨Nat.le_of_ble_eq_true rfl, Nat.le_of_ble_eq_true rfl⟩) (fun r66 hw67 => ?_)
      obtain ⟨hw67r, hw67p⟩ := hw67
      exact hj31 _ _ _ _ ⟨r66, rfl, hP, hD, hS, lv_sub hl [0, 1, 2, 3, 4] rfl⟩
    · have ic65 : o28_x37.toInt = v.toInt := zi_nef rfl rfl c65
      refine lv_iconst (v := 0) hx hb dX12_goTo_8 (by decide) ?_
      refine lv_goto (tgt := 21) hx hb dX12_goTo_9 (by decide) ?_
      exact hj31 _ _ _ _ ⟨0, rfl, hP, hD, hS, lv_sub hl [0, 1, 2, 3, 4] rfl⟩
set_option maxHeartbeats 4000000 in
set_option maxRecDepth 100000 in
theorem t_X12_carry (l : Launch) (dC : Nat → ClassId) (dI : Nat → Nat → Nat) (sz : Nat) (κ : Nat → ClassId) (τ ν : Nat → Nat) (ρ : Nat → Nat → Nat) (L : List Nat) (f : Nat → va_E) (hG : tp_G τ ν ρ L) (hT : tp_T (mo_O κ) κ τ ν ρ f) (h0 : Nat) (v : Int32) (u : Int32) (x : Int) (b : Int) (ht_h0 : τ h0 = 13) (hbb : 0 ≤ b ∧ b ≤ 1000) (hJ : mo_RI x b (mo_R (mo_i (f (ρ h0 2))))) (hv1 : 0 ≤ v.toInt ∧ v.toInt < (mo_R (mo_i (f (ρ h0 2)))) (1)) (hu10 : 0 ≤ u.toInt ∧ u.toInt < (mo_R (mo_i (f (ρ h0 2)))) (10)) : Met l yX12_carry wqX12_carry ({ frames := 6, cells := 0, slots := 0, locals := 2000 }) (va_Pc [.ref h0, .int v, .int u] (pz_B dC dI (tp_K κ) (va_pl L f) sz)) (va_Qi (fun (r : Int32) (f1 : Nat → va_E) => tp_T (mo_O κ) κ τ ν ρ f1 ∧ tp_F τ [13, 69, 70, 71] f f1 ∧ (0 ≤ r.toInt ∧ r.toInt ≤ 1) ∧ True) (fun (f1 : Nat → va_E) (t : State) => pz_E dC dI (tp_K κ) (va_A (va_pl L f) sz) (va_pl L f1) t) (va_A (va_pl L f) sz)) 0 0 (va_A (va_pl L f) sz) := by
  refine Met.ofW (cc := cX12_carry) (maxL := 12) (ret := some .boolean) (by decide) rfl ?_
  intro p e s m args below meth c s₁ B hml hv
  obtain ⟨rfl, hsz, hP, hK, hD0, hN⟩ := hv
  have hx := B.exec
  have hb := B.bytes
  have hr := B.returns
  have hts := fun (w : Cond) (h : w ∈ WALL) => atoms_spec (ws := wqX12_carry) B.pre w (List.mem_cons_of_mem _ h)
  have hown : s.vm.findClass RX12 = some m.cls := findClass_of_methodNamed B.named
  have hlocks := B.notSynchronized
  subst hsz
  have hD := hD0.self (sz := s.heap.size)
  generalize hAe : va_A (va_pl L f) s.heap.size = A at hD ⊢
  have hA : ∀ q : Nat, s.heap.size ≤ q → A q := fun q h => by rw [← hAe]; exact Or.inr h
  have hS : va_S A s.heap s.heap [] := va_S.rf
  have hR : tp_F τ [13, 69, 70, 71] f f := tp_F.rf
  have hl := lv_entry ([.ref h0, .int v, .int u]) (n := 12) (Nat.le_of_ble_eq_true rfl)
  rw [lg_entry_eq]
  generalize (lg_sl ([.ref h0, .int v, .int u]) ++ List.replicate (12 - (lg_sl ([.ref h0, .int v, .int u])).length) Slot.unset).toArray = ls at hl ⊢
  have hl : lv_has ls 12 [(0, .ref h0), (1, .int v), (2, .int u)] := hl
  refine tgk_13 hG ht_h0 (fun y1 y2 y3 y4 y5 y6 y7 y8 y9 y10 y11 y12 y13 y14 y15 y16 y17 y18 y19 y20 y21 y22 y23 y24 y25 => ?_)
  refine tpk_32 hT y1 (fun g27 hf_o26 => ?_)
  have hI : mo_RI x b (mo_R g27) := by have q9 := hJ; rw [hf_o26, mo_i1] at q9; exact q9
  rw [hf_o26, mo_i1] at hv1
  rw [hf_o26, mo_i1] at hu10
  have := hI.k0; have := hI.k1; have := hI.k10
  refine lv_sipush (v := 12919) hx hb dX12_carry_0 (by decide) ?_
  refine lv_bipush (v := 8) hx hb dX12_carry_3 (by decide) ?_
  refine lv_iload_n hx hb dX12_carry_5 rfl (lv_at hl 2 rfl) ?_
  refine lv_imul hx hb dX12_carry_6 ?_
  refine lv_topi (fun z28 ez28 => ?_)
  have iz28 : z28.toInt = 8 * u.toInt := zi_mul ez28 rfl rfl (by omega) (by omega)
  refine lv_iadd hx hb dX12_carry_7 ?_
  refine lv_topi (fun z29 ez29 => ?_)
  have iz29 : z29.toInt = 12919 + z28.toInt := zi_add ez29 rfl rfl (by omega) (by omega)
  refine lv_istore_n (lv' := [(3, .int z29), (0, .ref h0), (1, .int v), (2, .int u)]) hx hb dX12_carry_8 rfl hl (by decide) rfl (fun ls hl => ?_)
  refine lv_iload_n hx hb dX12_carry_9 rfl (lv_at hl 2 rfl) ?_
  refine pz_calli (va_runS (As := [.int v]) (rest := []) ⟨hx, hb, hml, hown, hts⟩ (t_X12_shipAt l dC dI _ v (v.toInt) (by omega) rfl) (va_cwS 1 hts gX12_carry_X12_shipAt rfl rfl rfl pd_X12_shipAt ⟨Nat.le_of_ble_eq_true rfl, Nat.le_of_ble_eq_true rfl⟩) ⟨pz_blind, pz_pre pz_P0 (hK.sub (tys' := []) [] rfl) (pz_D0 (A := fun _ => True)) hN⟩ rfl rfl hl.1 rfl (lv_room (Nat.le_of_ble_eq_true rfl)) dX12_carry_10 ⟨Nat.le_of_ble_eq_true rfl, Nat.le_of_ble_eq_true rfl⟩) (fun r30 hw31 => ?_)
  obtain ⟨hw31r, hw31p⟩ := hw31
  refine lv_istore (lv' := [(4, .int r30), (3, .int z29), (0, .ref h0), (1, .int v), (2, .int u)]) hx hb dX12_carry_13 hl (by decide) rfl (fun ls hl => ?_)
  refine lv_aload_n hx hb dX12_carry_15 rfl (lv_at hl 2 rfl) ?_
  refine tpk_13 hT ht_h0 (fun o32_x0 o32_x1 o32_x7 o32_x9 o32_x10 o32_x11 o32_x12 o32_x13 o32_x14 o32_x15 o32_x16 o32_x17 o32_x18 o32_x19 o32_x20 o32_x22 o32_x25 o32_x28 o32_x29 o32_x32 o32_x33 o32_x34 o32_x35 o32_x36 o32_x37 o32_x38 o32_x47 o32_x48 hf_o32 ro32_0 ro32_1 ro32_2 ro32_3 ro32_4 ro32_5 ro32_6 ro32_7 ro32_8 ro32_9 ro32_10 ro32_11 ro32_12 ro32_13 => ?_)
  refine tpk_pos (tp_in hG ht_h0 (by decide)) hf_o32 (fun q33 eq33 => ?_)
  refine va_get (D := (dC, dI)) (ci := 12) (v := .ref (ρ h0 2)) (C := RX12) (T := TX12) (N := 53) hx hb hts hfX12 hown hK hP q33 eq33 rfl 2 (by decide) (hts (.fieldLink RX12 7 "ColdShipsModel" "row" "[I") wa_148) (fun _ h9 => h9) rfl dX12_carry_16 ?_
  refine lv_iload_n hx hb dX12_carry_19 rfl (lv_at hl 1 rfl) ?_
  refine lv_bipush (v := 6) hx hb dX12_carry_20 (by decide) ?_
  refine lv_iadd hx hb dX12_carry_22 ?_
  refine lv_topi (fun z34 ez34 => ?_)
  have iz34 : z34.toInt = z29.toInt + 6 := zi_add ez34 rfl rfl (by omega) (by omega)
  refine tpk_pos (tp_in hG y1 (by decide)) hf_o26 (fun q35 eq35 => ?_)
  refine va_iald hx hb hK hP q35 0 eq35 rfl (vp_in_iff.mpr ⟨by omega, by omega⟩) dX12_carry_23 ?_
  refine lv_topi (fun z36 ez36 => ?_)
  refine lv_istore (lv' := [(5, .int z36), (4, .int r30), (3, .int z29), (0, .ref h0), (1, .int v), (2, .int u)]) hx hb dX12_carry_24 hl (by decide) rfl (fun ls hl => ?_)
  refine lv_iload hx hb dX12_carry_26 (lv_at hl 0 rfl) ?_
  refine lv_aload_n hx hb dX12_carry_28 rfl (lv_at hl 3 rfl) ?_
  refine lv_iload hx hb dX12_carry_29 (lv_at hl 1 rfl) ?_
  refine pz_calli (va_runV (As := [.int r30]) (rest := [.int z36]) ⟨hx, hb, hml, hown, hts⟩ (t_X12_topOf l dC dI _ κ τ ν ρ L f hG hT h0 r30 x b v.toInt ht_h0 (by omega) (by omega) (by omega) (by rw [hf_o26, mo_i1]; exact hI) (by first | (simp only [hf_o26, mo_i1]; omega) | (simp only [hf_o26, mo_i1]; trivial) | (simp only [hf_o26, mo_i1]; done) | omega)) (cwV 1 hts gX12_carry_X12_topOf rfl rfl rfl ⟨rfl, pd_X12_topOf⟩ ⟨Nat.le_of_ble_eq_true rfl, Nat.le_of_ble_eq_true rfl⟩) ⟨pz_blind, va_recv hK hP (ci := 12) (q0 := q33) rfl eq33, pz_pre hP hK hD hN⟩ rfl rfl hl.1 rfl (lv_room (Nat.le_of_ble_eq_true rfl)) dX12_carry_31 ⟨Nat.le_of_ble_eq_true rfl, Nat.le_of_ble_eq_true rfl⟩) (fun r37 hw38 => ?_)
  obtain ⟨hw38r, hw38p⟩ := hw38
  rw [hf_o26, mo_i1] at hw38p
  refine lv_icmp_le (tgt := 39) hx hb dX12_carry_34 (by decide) (fun c39 => ?_) (fun c39 => ?_)
  · have ic39 : z36.toInt ≤ r37.toInt := zi_le rfl rfl c39
    refine lv_aload_n hx hb dX12_carry_39 rfl (lv_at hl 3 rfl) ?_
    refine va_get (D := (dC, dI)) (ci := 12) (v := .ref (ρ h0 2)) (C := RX12) (T := TX12) (N := 53) hx hb hts hfX12 hown hK hP q33 eq33 rfl 2 (by decide) (hts (.fieldLink RX12 7 "ColdShipsModel" "row" "[I") wa_148) (fun _ h9 => h9) rfl dX12_carry_40 ?_
    refine lv_aload_n hx hb dX12_carry_43 rfl (lv_at hl 3 rfl) ?_
    refine va_get (D := (dC, dI)) (ci := 12) (v := .ref (ρ h0 2)) (C := RX12) (T := TX12) (N := 53) hx hb hts hfX12 hown hK hP q33 eq33 rfl 2 (by decide) (hts (.fieldLink RX12 7 "ColdShipsModel" "row" "[I") wa_148) (fun _ h9 => h9) rfl dX12_carry_44 ?_
    refine lv_iload_n hx hb dX12_carry_47 rfl (lv_at hl 2 rfl) ?_
    refine va_iald hx hb hK hP q35 0 eq35 rfl (vp_in_iff.mpr ⟨by omega, by omega⟩) dX12_carry_48 ?_
    refine lv_topi (fun z40 ez40 => ?_)
    have jz40 : z40.toInt = mo_R g27 (12919 + 8 * u.toInt + 0) := mo_rd ez40 (by omega)
    have kz40 := hI.A0 (k := u.toInt) (by omega) (by omega)
    refine pz_calli (va_runS (As := [.int z40]) (rest := [.ref (ρ h0 2)]) ⟨hx, hb, hml, hown, hts⟩ (t_X12_terminalAt l dC dI _ z40 (z40.toInt) (by omega) rfl) (va_cwS 1 hts gX12_carry_X12_terminalAt rfl rfl rfl pd_X12_terminalAt ⟨Nat.le_of_ble_eq_true rfl, Nat.le_of_ble_eq_true rfl⟩) ⟨pz_blind, pz_pre pz_P0 (hK.sub (tys' := []) [] rfl) (pz_D0 (A := fun _ => True)) hN⟩ rfl rfl hl.1 rfl (lv_room (Nat.le_of_ble_eq_true rfl)) dX12_carry_49 ⟨Nat.le_of_ble_eq_true rfl, Nat.le_of_ble_eq_true rfl⟩) (fun r41 hw42 => ?_)
    obtain ⟨hw42r, hw42p⟩ := hw42
    refine lv_iconst (v := 2) hx hb dX12_carry_52 (by decide) ?_
    refine lv_iadd hx hb dX12_carry_53 ?_
    refine lv_topi (fun z43 ez43 => ?_)
    have iz43 : z43.toInt = r41.toInt + 2 := zi_add ez43 rfl rfl (by omega) (by omega)
    refine va_iald hx hb hK hP q35 0 eq35 rfl (vp_in_iff.mpr ⟨by omega, by omega⟩) dX12_carry_54 ?_
    refine lv_topi (fun z44 ez44 => ?_)
    have jz44 : z44.toInt = mo_R g27 (20 + 5 * z40.toInt + 2) := mo_rd ez44 (by omega)
    have kz44 := hI.T (t := z40.toInt) (by omega) (by omega)
    refine lv_istore (lv' := [(6, .int z44), (5, .int z36), (4, .int r30), (3, .int z29), (0, .ref h0), (1, .int v), (2, .int u)]) hx hb dX12_carry_55 hl (by decide) rfl (fun ls hl => ?_)
    refine lv_aload_n hx hb dX12_carry_57 rfl (lv_at hl 4 rfl) ?_
    refine lv_aload_n hx hb dX12_carry_58 rfl (lv_at hl 4 rfl) ?_
    refine va_get (D := (dC, dI)) (ci := 12) (v := .ref (ρ h0 2)) (C := RX12) (T := TX12) (N := 53) hx hb hts hfX12 hown hK hP q33 eq33 rfl 2 (by decide) (hts (.fieldLink RX12 7 "ColdShipsModel" "row" "[I") wa_148) (fun _ h9 => h9) rfl dX12_carry_59 ?_
    refine lv_iload_n hx hb dX12_carry_62 rfl (lv_at hl 3 rfl) ?_
    refine va_iald hx hb hK hP q35 0 eq35 rfl (vp_in_iff.mpr ⟨by omega, by omega⟩) dX12_carry_63 ?_
    refine lv_topi (fun z45 ez45 => ?_)
    have jz45 : z45.toInt = mo_R g27 (12919 + 8 * u.toInt + 0) := mo_rd ez45 (by omega)
    have kz45 := hI.A0 (k := u.toInt) (by omega) (by omega)
    have vz45 : z45.toInt = z40.toInt := jz45.trans (jz40).symm
    refine lv_aload_n hx hb dX12_carry_64 rfl (lv_at hl 4 rfl) ?_
    refine va_get (D := (dC, dI)) (ci := 12) (v := .ref (ρ h0 2)) (C := RX12) (T := TX12) (N := 53) hx hb hts hfX12 hown hK hP q33 eq33 rfl 2 (by decide) (hts (.fieldLink RX12 7 "ColdShipsModel" "row" "[I") wa_148) (fun _ h9 => h9) rfl dX12_carry_65 ?_
    refine lv_iload_n hx hb dX12_carry_68 rfl (lv_at hl 3 rfl) ?_
    refine lv_iconst (v := 2) hx hb dX12_carry_69 (by decide) ?_
    refine lv_iadd hx hb dX12_carry_70 ?_
    refine lv_topi (fun z46 ez46 => ?_)
    have iz46 : z46.toInt = z29.toInt + 2 := zi_add ez46 rfl rfl (by omega) (by omega)
    refine va_iald hx hb hK hP q35 0 eq35 rfl (vp_in_iff.mpr ⟨by omega, by omega⟩) dX12_carry_71 ?_
    refine lv_topi (fun z47 ez47 => ?_)
    refine lv_aload_n hx hb dX12_carry_72 rfl (lv_at hl 4 rfl) ?_
    refine va_get (D := (dC, dI)) (ci := 12) (v := .ref (ρ h0 2)) (C := RX12) (T := TX12) (N := 53) hx hb hts hfX12 hown hK hP q33 eq33 rfl 2 (by decide) (hts (.fieldLink RX12 7 "ColdShipsModel" "row" "[I") wa_148) (fun _ h9 => h9) rfl dX12_carry_73 ?_
    refine lv_iload_n hx hb dX12_carry_76 rfl (lv_at hl 3 rfl) ?_
    refine lv_iconst (v := 3) hx hb dX12_carry_77 (by decide) ?_
    refine lv_iadd hx hb dX12_carry_78 ?_
    refine lv_topi (fun z48 ez48 => ?_)
    have iz48 : z48.toInt = z29.toInt + 3 := zi_add ez48 rfl rfl (by omega) (by omega)
    refine va_iald hx hb hK hP q35 0 eq35 rfl (vp_in_iff.mpr ⟨by omega, by omega⟩) dX12_carry_79 ?_
    refine lv_topi (fun z49 ez49 => ?_)
    refine lv_iload hx hb dX12_carry_80 (lv_at hl 1 rfl) ?_
    refine lv_iload hx hb dX12_carry_82 (lv_at hl 0 rfl) ?_
    refine lv_iadd hx hb dX12_carry_84 ?_
    refine lv_topi (fun z50 ez50 => ?_)
    refine lv_iconst (v := 1) hx hb dX12_carry_85 (by decide) ?_
    refine lv_isub hx hb dX12_carry_86 ?_
    refine lv_topi (fun z51 ez51 => ?_)
    refine lv_iload hx hb dX12_carry_87 (lv_at hl 0 rfl) ?_
    refine lv_idiv hx hb dX12_carry_89 (zi_nz (by omega) rfl) ?_
    refine lv_topi (fun z52 ez52 => ?_)
    have hFc := tp_fr hD hS hA
    refine va_calli (va_runV (As := [.int z45, .int z47, .int z49, .int z52]) (rest := []) ⟨hx, hb, hml, hown, hts⟩ (t_X12_goTo l dC dI _ κ τ ν ρ L f hG hT h0 z45 z47 z49 z52 x b ht_h0 (by first | decide | omega) (by omega) (by rw [hf_o26, mo_i1]; exact hI)) (cwV 4 hts gX12_carry_X12_goTo rfl rfl rfl ⟨rfl, pd_X12_goTo⟩ ⟨Nat.le_of_ble_eq_true rfl, Nat.le_of_ble_eq_true rfl⟩) ⟨pz_blind, va_recv hK hP (ci := 12) (q0 := q33) rfl eq33, pz_pre hP hK hD hN⟩ rfl rfl hl.1 rfl (lv_room (Nat.le_of_ble_eq_true rfl)) dX12_carry_90 ⟨Nat.le_of_ble_eq_true rfl, Nat.le_of_ble_eq_true rfl⟩) hS (fun q _ h => hFc q h) hFc (fun r53 f55 t H1 locs ht hvm hw54 hB hz1 hk1 hS => ?_)
    refine tn_4 hw54 (fun hT hF56 hw54r hw54p => ?_); clear hw54
    have hR := hR.then hF56 (by decide)
    have hP := hB.1; rw [ht] at hP; have hD := tp_ad f55 hD; clear hB hFc hz1 hk1; subst ht; generalize t.heap = H at hP hS ⊢
    refine lv_istore (lv' := [(7, .int r53), (6, .int z44), (5, .int z36), (4, .int r30), (3, .int z29), (0, .ref h0), (1, .int v), (2, .int u)]) hx hb dX12_carry_93 hl (by decide) rfl (fun ls hl => ?_)
    refine lv_aload_n hx hb dX12_carry_95 rfl (lv_at hl 5 rfl) ?_
    refine tpk_13 hT ht_h0 (fun o57_x0 o57_x1 o57_x7 o57_x9 o57_x10 o57_x11 o57_x12 o57_x13 o57_x14 o57_x15 o57_x16 o57_x17 o57_x18 o57_x19 o57_x20 o57_x22 o57_x25 o57_x28 o57_x29 o57_x32 o57_x33 o57_x34 o57_x35 o57_x36 o57_x37 o57_x38 o57_x47 o57_x48 hf_o57 ro57_0 ro57_1 ro57_2 ro57_3 ro57_4 ro57_5 ro57_6 ro57_7 ro57_8 ro57_9 ro57_10 ro57_11 ro57_12 ro57_13 => ?_)
    refine tpk_pos (tp_in hG ht_h0 (by decide)) hf_o57 (fun q58 eq58 => ?_)
    refine va_get (D := (dC, dI)) (ci := 12) (v := .ref (ρ h0 39)) (C := RX12) (T := TX12) (N := 53) hx hb hts hfX12 hown hK hP q58 eq58 rfl 39 (by decide) (hts (.fieldLink RX12 55 "ColdShipsModel" "loads" "[I") wa_163) (fun _ h9 => h9) rfl dX12_carry_96 ?_
    refine lv_iload_n hx hb dX12_carry_99 rfl (lv_at hl 7 rfl) ?_
    refine lv_aload_n hx hb dX12_carry_100 rfl (lv_at hl 5 rfl) ?_
    refine va_get (D := (dC, dI)) (ci := 12) (v := .int o57_x38) (C := RX12) (T := TX12) (N := 53) hx hb hts hfX12 hown hK hP q58 eq58 rfl 38 (by decide) (hts (.fieldLink RX12 506 "ColdShipsModel" "began" "I") wa_1434) (fun _ h9 => h9) rfl dX12_carry_101 ?_
    refine tpk_69 hT y14 (fun g60 hf_o59 => ?_)
    refine tpk_pos (tp_in hG y14 (by decide)) hf_o59 (fun q61 eq61 => ?_)
    refine va_iast hx hb hK hP hD hS q61 0 eq61 rfl (vp_in_iff.mpr ⟨by omega, by omega⟩) dX12_carry_104 (tp_k (.inl (κ 0, 6, .inl (upd g60 u.toNatClampNeg o57_x38))) hD (tp_in hG y14 (by decide)) eq61 (fun f62 H locs hP hD hS g64 k63 => ?_))
    have hT := hT.up y14 g64 k63 tp_o69
    have hR := hR.up y14 (by decide) k63
    generalize (upd g60 u.toNatClampNeg o57_x38) = g65 at g64
    refine lv_iload hx hb dX12_carry_105 (lv_at hl 0 rfl) ?_
    refine lv_iconst (v := (-1)) hx hb dX12_carry_107 (by decide) ?_
    refine lv_icmp_ne (tgt := 113) hx hb dX12_carry_108 (by decide) (fun c66 => ?_) (fun c66 => ?_)
    · have ic66 : r53.toInt ≠ (-1) := zi_ne rfl rfl c66
      refine lv_aload_n hx hb dX12_carry_113 rfl (lv_at hl 5 rfl) ?_
      have hf_67 : f62 h0 = .inr (12, [.int o57_x0, .int o57_x1, .ref (ρ h0 2), .ref (ρ h0 3), .ref (ρ h0 4), .ref (ρ h0 5), .ref (ρ h0 6), .int o57_x7, .ref (ρ h0 8), .int o57_x9, .int o57_x10, .int o57_x11, .int o57_x12, .long o57_x13, .int o57_x14, .int o57_x15, .int o57_x16, .int o57_x17, .int o57_x18, .int o57_x19, .int o57_x20, .ref (ρ h0 21), .int o57_x22, .ref (ρ h0 23), .ref (ρ h0 24), .int o57_x25, .ref (ρ h0 26), .ref (ρ h0 27), .int o57_x28, .int o57_x29, .ref (ρ h0 30), .ref (ρ h0 31), .int o57_x32, .long o57_x33, .long o57_x34, .long o57_x35, .int o57_x36, .int o57_x37, .int o57_x38, .ref (ρ h0 39), .ref (ρ h0 40), .ref (ρ h0 41), .ref (ρ h0 42), .ref (ρ h0 43), .ref (ρ h0 44), .ref (ρ h0 45), .ref (ρ h0 46), .int o57_x47, .int o57_x48, .ref (ρ h0 49), .ref (ρ h0 50), .ref (ρ h0 51), .ref (ρ h0 52)]) := (k63 _ (tp_ne ht_h0 y14 (by decide))).trans hf_o57
      refine tpk_pos (tp_in hG ht_h0 (by decide)) hf_67 (fun q68 eq68 => ?_)
      refine va_get (D := (dC, dI)) (ci := 12) (v := .ref (ρ h0 2)) (C := RX12) (T := TX12) (N := 53) hx hb hts hfX12 hown hK hP q68 eq68 rfl 2 (by decide) (hts (.fieldLink RX12 7 "ColdShipsModel" "row" "[I") wa_148) (fun _ h9 => h9) rfl dX12_carry_114 ?_
      refine lv_aload_n hx hb dX12_carry_117 rfl (lv_at hl 5 rfl) ?_
      refine va_get (D := (dC, dI)) (ci := 12) (v := .ref (ρ h0 2)) (C := RX12) (T := TX12) (N := 53) hx hb hts hfX12 hown hK hP q68 eq68 rfl 2 (by decide) (hts (.fieldLink RX12 7 "ColdShipsModel" "row" "[I") wa_148) (fun _ h9 => h9) rfl dX12_carry_118 ?_
      refine lv_iload_n hx hb dX12_carry_121 rfl (lv_at hl 4 rfl) ?_
      refine lv_iconst (v := 1) hx hb dX12_carry_122 (by decide) ?_
      refine lv_iadd hx hb dX12_carry_123 ?_
      refine lv_topi (fun z69 ez69 => ?_)
      have iz69 : z69.toInt = z29.toInt + 1 := zi_add ez69 rfl rfl (by omega) (by omega)
      have hf_70 : f55 (ρ h0 2) = .inl (κ 0, 12967, .inl g27) := (hF56 _ (by rw [y1]; decide)).trans hf_o26
      have hf_71 : f62 (ρ h0 2) = .inl (κ 0, 12967, .inl g27) := (k63 _ (tp_ne y1 y14 (by decide))).trans hf_70
      refine tpk_pos (tp_in hG y1 (by decide)) hf_71 (fun q72 eq72 => ?_)
      refine va_iald hx hb hK hP q72 0 eq72 rfl (vp_in_iff.mpr ⟨by omega, by omega⟩) dX12_carry_124 ?_
      refine lv_topi (fun z73 ez73 => ?_)
      have jz73 : z73.toInt = mo_R g27 (12919 + 8 * u.toInt + 1) := mo_rd ez73 (by omega)
      have kz73 := hI.A1 (k := u.toInt) (by omega) (by omega)
      refine pz_calli (va_runS (As := [.int z73]) (rest := [.ref (ρ h0 2)]) ⟨hx, hb, hml, hown, hts⟩ (t_X12_terminalAt l dC dI _ z73 (z73.toInt) (by omega) rfl) (va_cwS 1 hts gX12_carry_X12_terminalAt rfl rfl rfl pd_X12_terminalAt ⟨Nat.le_of_ble_eq_true rfl, Nat.le_of_ble_eq_true rfl⟩) ⟨pz_blind, pz_pre pz_P0 (hK.sub (tys' := []) [] rfl) (pz_D0 (A := fun _ => True)) hN⟩ rfl rfl hl.1 rfl (lv_room (Nat.le_of_ble_eq_true rfl)) dX12_carry_125 ⟨Nat.le_of_ble_eq_true rfl, Nat.le_of_ble_eq_true rfl⟩) (fun r74 hw75 => ?_)
      obtain ⟨hw75r, hw75p⟩ := hw75
      refine lv_iconst (v := 2) hx hb dX12_carry_128 (by decide) ?_
      refine lv_iadd hx hb dX12_carry_129 ?_
      refine lv_topi (fun z76 ez76 => ?_)
      have iz76 : z76.toInt = r74.toInt + 2 := zi_add ez76 rfl rfl (by omega) (by omega)
      refine va_iald hx hb hK hP q72 0 eq72 rfl (vp_in_iff.mpr ⟨by omega, by omega⟩) dX12_carry_130 ?_
      refine lv_topi (fun z77 ez77 => ?_)
      have jz77 : z77.toInt = mo_R g27 (20 + 5 * z73.toInt + 2) := mo_rd ez77 (by omega)
      have kz77 := hI.T (t := z73.toInt) (by omega) (by omega)
      refine lv_istore (lv' := [(8, .int z77), (7, .int r53), (6, .int z44), (5, .int z36), (4, .int r30), (3, .int z29), (0, .ref h0), (1, .int v), (2, .int u)]) hx hb dX12_carry_131 hl (by decide) rfl (fun ls hl => ?_)
      refine lv_aload_n hx hb dX12_carry_133 rfl (lv_at hl 6 rfl) ?_
      refine lv_aload_n hx hb dX12_carry_134 rfl (lv_at hl 6 rfl) ?_
      refine va_get (D := (dC, dI)) (ci := 12) (v := .ref (ρ h0 2)) (C := RX12) (T := TX12) (N := 53) hx hb hts hfX12 hown hK hP q68 eq68 rfl 2 (by decide) (hts (.fieldLink RX12 7 "ColdShipsModel" "row" "[I") wa_148) (fun _ h9 => h9) rfl dX12_carry_135 ?_
      refine lv_iload_n hx hb dX12_carry_138 rfl (lv_at hl 5 rfl) ?_
      refine lv_iconst (v := 1) hx hb dX12_carry_139 (by decide) ?_
      refine lv_iadd hx hb dX12_carry_140 ?_
      refine lv_topi (fun z78 ez78 => ?_)
      have iz78 : z78.toInt = z29.toInt + 1 := zi_add ez78 rfl rfl (by omega) (by omega)
      refine va_iald hx hb hK hP q72 0 eq72 rfl (vp_in_iff.mpr ⟨by omega, by omega⟩) dX12_carry_141 ?_
      refine lv_topi (fun z79 ez79 => ?_)
      have jz79 : z79.toInt = mo_R g27 (12919 + 8 * u.toInt + 1) := mo_rd ez79 (by omega)
      have kz79 := hI.A1 (k := u.toInt) (by omega) (by omega)
      have vz79 : z79.toInt = z73.toInt := jz79.trans (jz73).symm
      refine lv_aload_n hx hb dX12_carry_142 rfl (lv_at hl 6 rfl) ?_
      refine va_get (D := (dC, dI)) (ci := 12) (v := .ref (ρ h0 2)) (C := RX12) (T := TX12) (N := 53) hx hb hts hfX12 hown hK hP q68 eq68 rfl 2 (by decide) (hts (.fieldLink RX12 7 "ColdShipsModel" "row" "[I") wa_148) (fun _ h9 => h9) rfl dX12_carry_143 ?_
      refine lv_iload_n hx hb dX12_carry_146 rfl (lv_at hl 5 rfl) ?_
      refine lv_iconst (v := 4) hx hb dX12_carry_147 (by decide) ?_
      refine lv_iadd hx hb dX12_carry_148 ?_
      refine lv_topi (fun z80 ez80 => ?_)
      have iz80 : z80.toInt = z29.toInt + 4 := zi_add ez80 rfl rfl (by omega) (by omega)
      refine va_iald hx hb hK hP q72 0 eq72 rfl (vp_in_iff.mpr ⟨by omega, by omega⟩) dX12_carry_149 ?_
      refine lv_topi (fun z81 ez81 => ?_)
      refine lv_aload_n hx hb dX12_carry_150 rfl (lv_at hl 6 rfl) ?_
      refine va_get (D := (dC, dI)) (ci := 12) (v := .ref (ρ h0 2)) (C := RX12) (T := TX12) (N := 53) hx hb hts hfX12 hown hK hP q68 eq68 rfl 2 (by decide) (hts (.fieldLink RX12 7 "ColdShipsModel" "row" "[I") wa_148) (fun _ h9 => h9) rfl dX12_carry_151 ?_
      refine lv_iload_n hx hb dX12_carry_154 rfl (lv_at hl 5 rfl) ?_
      refine lv_iconst (v := 5) hx hb dX12_carry_155 (by decide) ?_
      refine lv_iadd hx hb dX12_carry_156 ?_
      refine lv_topi (fun z82 ez82 => ?_)
      have iz82 : z82.toInt = z29.toInt + 5 := zi_add ez82 rfl rfl (by omega) (by omega)
      refine va_iald hx hb hK hP q72 0 eq72 rfl (vp_in_iff.mpr ⟨by omega, by omega⟩) dX12_carry_157 ?_
      refine lv_topi (fun z83 ez83 => ?_)
      refine lv_iload hx hb dX12_carry_158 (lv_at hl 3 rfl) ?_
      refine lv_iload hx hb dX12_carry_160 (lv_at hl 0 rfl) ?_
      refine lv_iadd hx hb dX12_carry_162 ?_
      refine lv_topi (fun z84 ez84 => ?_)
      refine lv_iconst (v := 1) hx hb dX12_carry_163 (by decide) ?_
      refine lv_isub hx hb dX12_carry_164 ?_
      refine lv_topi (fun z85 ez85 => ?_)
      refine lv_iload hx hb dX12_carry_165 (lv_at hl 0 rfl) ?_
      refine lv_idiv hx hb dX12_carry_167 (zi_nz (by omega) rfl) ?_
      refine lv_topi (fun z86 ez86 => ?_)
      have hFc := tp_fr hD hS hA
      refine va_calli (va_runV (As := [.int z79, .int z81, .int z83, .int z86]) (rest := []) ⟨hx, hb, hml, hown, hts⟩ (t_X12_goTo l dC dI _ κ τ ν ρ L f62 hG hT h0 z79 z81 z83 z86 x b ht_h0 (by first | decide | omega) (by omega) (by rw [hf_71, mo_i1]; exact hI)) (cwV 4 hts gX12_carry_X12_goTo rfl rfl rfl ⟨rfl, pd_X12_goTo⟩ ⟨Nat.le_of_ble_eq_true rfl, Nat.le_of_ble_eq_true rfl⟩) ⟨pz_blind, va_recv hK hP (ci := 12) (q0 := q68) rfl eq68, pz_pre hP hK hD hN⟩ rfl rfl hl.1 rfl (lv_room (Nat.le_of_ble_eq_true rfl)) dX12_carry_168 ⟨Nat.le_of_ble_eq_true rfl, Nat.le_of_ble_eq_true rfl⟩) hS (fun q _ h => hFc q h) hFc (fun r87 f89 t H1 locs ht hvm hw88 hB hz1 hk1 hS => ?_)
      refine tn_4 hw88 (fun hT hF90 hw88r hw88p => ?_); clear hw88
      have hR := hR.then hF90 (by decide)
      have hP := hB.1; rw [ht] at hP; have hD := tp_ad f89 hD; clear hB hFc hz1 hk1; subst ht; generalize t.heap = H at hP hS ⊢
      refine lv_istore (lv' := [(9, .int r87), (8, .int z77), (7, .int r53), (6, .int z44), (5, .int z36), (4, .int r30), (3, .int z29), (0, .ref h0), (1, .int v), (2, .int u)]) hx hb dX12_carry_171 hl (by decide) rfl (fun ls hl => ?_)
      refine lv_aload_n hx hb dX12_carry_173 rfl (lv_at hl 7 rfl) ?_
      refine tpk_13 hT ht_h0 (fun o91_x0 o91_x1 o91_x7 o91_x9 o91_x10 o91_x11 o91_x12 o91_x13 o91_x14 o91_x15 o91_x16 o91_x17 o91_x18 o91_x19 o91_x20 o91_x22 o91_x25 o91_x28 o91_x29 o91_x32 o91_x33 o91_x34 o91_x35 o91_x36 o91_x37 o91_x38 o91_x47 o91_x48 hf_o91 ro91_0 ro91_1 ro91_2 ro91_3 ro91_4 ro91_5 ro91_6 ro91_7 ro91_8 ro91_9 ro91_10 ro91_11 ro91_12 ro91_13 => ?_)
      refine tpk_pos (tp_in hG ht_h0 (by decide)) hf_o91 (fun q92 eq92 => ?_)
      refine va_get (D := (dC, dI)) (ci := 12) (v := .ref (ρ h0 40)) (C := RX12) (T := TX12) (N := 53) hx hb hts hfX12 hown hK hP q92 eq92 rfl 40 (by decide) (hts (.fieldLink RX12 58 "ColdShipsModel" "lands" "[I") wa_164) (fun _ h9 => h9) rfl dX12_carry_174 ?_
      refine lv_iload_n hx hb dX12_carry_177 rfl (lv_at hl 9 rfl) ?_
      refine lv_aload_n hx hb dX12_carry_178 rfl (lv_at hl 7 rfl) ?_
      refine va_get (D := (dC, dI)) (ci := 12) (v := .int o91_x38) (C := RX12) (T := TX12) (N := 53) hx hb hts hfX12 hown hK hP q92 eq92 rfl 38 (by decide) (hts (.fieldLink RX12 506 "ColdShipsModel" "began" "I") wa_1434) (fun _ h9 => h9) rfl dX12_carry_179 ?_
      refine tpk_70 hT y15 (fun g94 hf_o93 => ?_)
      refine tpk_pos (tp_in hG y15 (by decide)) hf_o93 (fun q95 eq95 => ?_)
      refine va_iast hx hb hK hP hD hS q95 0 eq95 rfl (vp_in_iff.mpr ⟨by omega, by omega⟩) dX12_carry_182 (tp_k (.inl (κ 0, 6, .inl (upd g94 u.toNatClampNeg o91_x38))) hD (tp_in hG y15 (by decide)) eq95 (fun f96 H locs hP hD hS g98 k97 => ?_))
      have hT := hT.up y15 g98 k97 tp_o70
      have hR := hR.up y15 (by decide) k97
      generalize (upd g94 u.toNatClampNeg o91_x38) = g99 at g98
      refine lv_iload hx hb dX12_carry_183 (lv_at hl 0 rfl) ?_
      refine lv_iconst (v := (-1)) hx hb dX12_carry_185 (by decide) ?_
      refine lv_icmp_ne (tgt := 191) hx hb dX12_carry_186 (by decide) (fun c100 => ?_) (fun c100 => ?_)
      · have ic100 : r87.toInt ≠ (-1) := zi_ne rfl rfl c100
        refine lv_iload hx hb dX12_carry_191 (lv_at hl 4 rfl) ?_
        refine lv_i2l hx hb dX12_carry_193 rfl ?_
        refine lv_aload_n hx hb dX12_carry_194 rfl (lv_at hl 7 rfl) ?_
        have hf_101 : f96 h0 = .inr (12, [.int o91_x0, .int o91_x1, .ref (ρ h0 2), .ref (ρ h0 3), .ref (ρ h0 4), .ref (ρ h0 5), .ref (ρ h0 6), .int o91_x7, .ref (ρ h0 8), .int o91_x9, .int o91_x10, .int o91_x11, .int o91_x12, .long o91_x13, .int o91_x14, .int o91_x15, .int o91_x16, .int o91_x17, .int o91_x18, .int o91_x19, .int o91_x20, .ref (ρ h0 21), .int o91_x22, .ref (ρ h0 23), .ref (ρ h0 24), .int o91_x25, .ref (ρ h0 26), .ref (ρ h0 27), .int o91_x28, .int o91_x29, .ref (ρ h0 30), .ref (ρ h0 31), .int o91_x32, .long o91_x33, .long o91_x34, .long o91_x35, .int o91_x36, .int o91_x37, .int o91_x38, .ref (ρ h0 39), .ref (ρ h0 40), .ref (ρ h0 41), .ref (ρ h0 42), .ref (ρ h0 43), .ref (ρ h0 44), .ref (ρ h0 45), .ref (ρ h0 46), .int o91_x47, .int o91_x48, .ref (ρ h0 49), .ref (ρ h0 50), .ref (ρ h0 51), .ref (ρ h0 52)]) := (k97 _ (tp_ne ht_h0 y15 (by decide))).trans hf_o91
        refine tpk_pos (tp_in hG ht_h0 (by decide)) hf_101 (fun q102 eq102 => ?_)
        refine va_get (D := (dC, dI)) (ci := 12) (v := .ref (ρ h0 40)) (C := RX12) (T := TX12) (N := 53) hx hb hts hfX12 hown hK hP q102 eq102 rfl 40 (by decide) (hts (.fieldLink RX12 58 "ColdShipsModel" "lands" "[I") wa_164) (fun _ h9 => h9) rfl dX12_carry_195 ?_
        refine lv_iload_n hx hb dX12_carry_198 rfl (lv_at hl 9 rfl) ?_
        refine tpk_pos (tp_in hG y15 (by decide)) g98 (fun q103 eq103 => ?_)
        refine va_iald hx hb hK hP q103 0 eq103 rfl (vp_in_iff.mpr ⟨by omega, by omega⟩) dX12_carry_199 ?_
        refine lv_topi (fun z104 ez104 => ?_)
        refine lv_aload_n hx hb dX12_carry_200 rfl (lv_at hl 7 rfl) ?_
        refine va_get (D := (dC, dI)) (ci := 12) (v := .ref (ρ h0 39)) (C := RX12) (T := TX12) (N := 53) hx hb hts hfX12 hown hK hP q102 eq102 rfl 39 (by decide) (hts (.fieldLink RX12 55 "ColdShipsModel" "loads" "[I") wa_163) (fun _ h9 => h9) rfl dX12_carry_201 ?_
        refine lv_iload_n hx hb dX12_carry_204 rfl (lv_at hl 9 rfl) ?_
        have hf_105 : f89 (ρ h0 39) = .inl (κ 0, 6, .inl g65) := (hF90 _ (by rw [y14]; decide)).trans g64
        have hf_106 : f96 (ρ h0 39) = .inl (κ 0, 6, .inl g65) := (k97 _ (tp_ne y14 y15 (by decide))).trans hf_105
        refine tpk_pos (tp_in hG y14 (by decide)) hf_106 (fun q107 eq107 => ?_)
        refine va_iald hx hb hK hP q107 0 eq107 rfl (vp_in_iff.mpr ⟨by omega, by omega⟩) dX12_carry_205 ?_
        refine lv_topi (fun z108 ez108 => ?_)
        refine lv_isub hx hb dX12_carry_206 ?_
        refine lv_topi (fun z109 ez109 => ?_)
        refine lv_i2l hx hb dX12_carry_207 rfl ?_
        refine lv_lmul hx hb dX12_carry_208 ?_
        refine lv_topl (fun z110 ez110 => ?_)
        refine lv_aload_n hx hb dX12_carry_209 rfl (lv_at hl 7 rfl) ?_
        refine va_get (D := (dC, dI)) (ci := 12) (v := .ref (ρ h0 2)) (C := RX12) (T := TX12) (N := 53) hx hb hts hfX12 hown hK hP q102 eq102 rfl 2 (by decide) (hts (.fieldLink RX12 7 "ColdShipsModel" "row" "[I") wa_148) (fun _ h9 => h9) rfl dX12_carry_210 ?_
        refine lv_bipush (v := 12) hx hb dX12_carry_213 (by decide) ?_
        have hf_111 : f89 (ρ h0 2) = .inl (κ 0, 12967, .inl g27) := (hF90 _ (by rw [y1]; decide)).trans hf_71
        have hf_112 : f96 (ρ h0 2) = .inl (κ 0, 12967, .inl g27) := (k97 _ (tp_ne y1 y15 (by decide))).trans hf_111
        refine tpk_pos (tp_in hG y1 (by decide)) hf_112 (fun q113 eq113 => ?_)
        refine va_iald hx hb hK hP q113 0 eq113 rfl (vp_in_iff.mpr ⟨by decide, by decide⟩) dX12_carry_215 ?_
        refine lv_topi (fun z114 ez114 => ?_)
        have jz114 : z114.toInt = mo_R g27 (12) := mo_rd ez114 (show (12 : Int32).toInt = (12) from by decide)
        have kz114 := hI.k12
        refine lv_i2l hx hb dX12_carry_216 rfl ?_
        refine lv_lmul hx hb dX12_carry_217 ?_
        refine lv_topl (fun z115 ez115 => ?_)
        refine lv_ldc2 (own := RX12) (v := 100000) hx hb hown (hts (.constantLong RX12 177 (100000)) wa_552) dX12_carry_218 ?_
        refine lv_ldiv hx hb dX12_carry_221 (by decide) ?_
        refine lv_topl (fun z116 ez116 => ?_)
        refine lv_lstore (lv' := [(10, .long z116), (9, .int r87), (8, .int z77), (7, .int r53), (6, .int z44), (5, .int z36), (4, .int r30), (3, .int z29), (0, .ref h0), (1, .int v), (2, .int u)]) hx hb dX12_carry_222 hl (by decide) rfl (fun ls hl => ?_)
        refine lv_lload hx hb dX12_carry_224 (lv_at hl 0 rfl) ?_
        refine lv_iload hx hb dX12_carry_226 (lv_at hl 5 rfl) ?_
        refine lv_i2l hx hb dX12_carry_228 rfl ?_
        refine tp_join 241 (fun H locs ls stk => ∃ w117 : Int64, stk = [.long w117] ∧ va_P (dC, dI) vwCl (va_pl L f96) H ∧ va_D A (va_pl L f96) ∧ va_S A s.heap H locs ∧ lv_has ls 12 [(10, .long z116), (9, .int r87), (8, .int z77), (7, .int r53), (6, .int z44), (5, .int z36), (4, .int r30), (3, .int z29), (0, .ref h0), (1, .int v), (2, .int u)]) ?_ (fun hj118 => ?_)
        · intro H locs ls stk hI
          refine Exists.elim hI (fun w117 hE90 => tn_5 hE90 (fun e90 hP hD hS hl => ?_))
          clear hE90 hI; subst e90
          refine lv_lstore (lv' := [(10, .long w117), (9, .int r87), (8, .int z77), (7, .int r53), (6, .int z44), (5, .int z36), (4, .int r30), (3, .int z29), (0, .ref h0), (1, .int v), (2, .int u)]) hx hb dX12_carry_241 hl (by decide) rfl (fun ls hl => ?_)
          refine lv_aload_n hx hb dX12_carry_243 rfl (lv_at hl 8 rfl) ?_
          refine va_get (D := (dC, dI)) (ci := 12) (v := .ref (ρ h0 41)) (C := RX12) (T := TX12) (N := 53) hx hb hts hfX12 hown hK hP q102 eq102 rfl 41 (by decide) (hts (.fieldLink RX12 61 "ColdShipsModel" "worths" "[J") wa_165) (fun _ h9 => h9) rfl dX12_carry_244 ?_
          refine lv_iload_n hx hb dX12_carry_247 rfl (lv_at hl 10 rfl) ?_
          refine lv_iload hx hb dX12_carry_248 (lv_at hl 5 rfl) ?_
          refine lv_i2l hx hb dX12_carry_250 rfl ?_
          refine lv_lload hx hb dX12_carry_251 (lv_at hl 0 rfl) ?_
          refine lv_lsub hx hb dX12_carry_253 ?_
          refine lv_topl (fun z119 ez119 => ?_)
          refine lv_aload_n hx hb dX12_carry_254 rfl (lv_at hl 8 rfl) ?_
          refine va_get (D := (dC, dI)) (ci := 12) (v := .ref (ρ h0 2)) (C := RX12) (T := TX12) (N := 53) hx hb hts hfX12 hown hK hP q102 eq102 rfl 2 (by decide) (hts (.fieldLink RX12 7 "ColdShipsModel" "row" "[I") wa_148) (fun _ h9 => h9) rfl dX12_carry_255 ?_
          refine lv_iload_n hx hb dX12_carry_258 rfl (lv_at hl 7 rfl) ?_
          refine lv_bipush (v := 7) hx hb dX12_carry_259 (by decide) ?_
          refine lv_iadd hx hb dX12_carry_261 ?_
          refine lv_topi (fun z120 ez120 => ?_)
          have iz120 : z120.toInt = z29.toInt + 7 := zi_add ez120 rfl rfl (by omega) (by omega)
          refine va_iald hx hb hK hP q113 0 eq113 rfl (vp_in_iff.mpr ⟨by omega, by omega⟩) dX12_carry_262 ?_
          refine lv_topi (fun z121 ez121 => ?_)
          refine lv_i2l hx hb dX12_carry_263 rfl ?_
          refine lv_lmul hx hb dX12_carry_264 ?_
          refine lv_topl (fun z122 ez122 => ?_)
          refine lv_ldc2 (own := RX12) (v := 100) hx hb hown (hts (.constantLong RX12 150 (100)) wa_375) dX12_carry_265 ?_
          refine lv_aload_n hx hb dX12_carry_268 rfl (lv_at hl 8 rfl) ?_
          refine va_get (D := (dC, dI)) (ci := 12) (v := .ref (ρ h0 2)) (C := RX12) (T := TX12) (N := 53) hx hb hts hfX12 hown hK hP q102 eq102 rfl 2 (by decide) (hts (.fieldLink RX12 7 "ColdShipsModel" "row" "[I") wa_148) (fun _ h9 => h9) rfl dX12_carry_269 ?_
          refine lv_iload hx hb dX12_carry_272 (lv_at hl 6 rfl) ?_
          refine lv_bipush (v := 8) hx hb dX12_carry_274 (by decide) ?_
          refine lv_iadd hx hb dX12_carry_276 ?_
          refine lv_topi (fun z123 ez123 => ?_)
          have iz123 : z123.toInt = r30.toInt + 8 := zi_add ez123 rfl rfl (by omega) (by omega)
          refine va_iald hx hb hK hP q113 0 eq113 rfl (vp_in_iff.mpr ⟨by omega, by omega⟩) dX12_carry_277 ?_
          refine lv_topi (fun z124 ez124 => ?_)
          have jz124 : z124.toInt = mo_R g27 (547 + 84 * v.toInt + 8) := mo_rd ez124 (by omega)
          have kz124 := hI.SF (s := v.toInt) (by omega) (by omega)
          refine lv_i2l hx hb dX12_carry_278 rfl ?_
          refine lv_lmul hx hb dX12_carry_279 ?_
          refine lv_topl (fun z125 ez125 => ?_)
          have iz125 : z125.toInt = 100 * z124.toInt := zl_mul ez125 rfl (Int32.toInt_toInt64 z124) (by omega) (by omega)
          refine lv_iload hx hb dX12_carry_280 (lv_at hl 3 rfl) ?_
          refine lv_iload hx hb dX12_carry_282 (lv_at hl 1 rfl) ?_
          refine lv_iadd hx hb dX12_carry_284 ?_
          refine lv_topi (fun z126 ez126 => ?_)
          refine lv_i2l hx hb dX12_carry_285 rfl ?_
          refine lv_lmul hx hb dX12_carry_286 ?_
          refine lv_topl (fun z127 ez127 => ?_)
          refine lv_lsub hx hb dX12_carry_287 ?_
          refine lv_topl (fun z128 ez128 => ?_)
          refine tpk_71 hT y16 (fun g130 hf_o129 => ?_)
          refine tpk_pos (tp_in hG y16 (by decide)) hf_o129 (fun q131 eq131 => ?_)
          refine va_last hx hb hK hP hD hS q131 1 eq131 rfl (vp_in_iff.mpr ⟨by omega, by omega⟩) dX12_carry_288 (tp_k (.inl (κ 1, 6, .inr (.inl (vp_updL g130 u.toNatClampNeg z128)))) hD (tp_in hG y16 (by decide)) eq131 (fun f132 H locs hP hD hS g134 k133 => ?_))
          have hT := hT.up y16 g134 k133 tp_o71
          have hR := hR.up y16 (by decide) k133
          generalize (vp_updL g130 u.toNatClampNeg z128) = g135 at g134
          refine lv_iconst (v := 1) hx hb dX12_carry_289 (by decide) ?_
          exact W.zret (v := 1) hx hb hr rfl (fun t ht hW => ⟨⟨1, f132, rfl, ⟨hT, hR, (by first | decide | omega), trivial⟩, by rw [ht]; exact hP, va_K.moved hW.alike hK, hD⟩, hS.F ht⟩) hS.2.2 dX12_carry_290
        · refine W.lcmp hx hb dX12_carry_229 ?_
          refine lv_if_le (tgt := 239) hx hb dX12_carry_230 (by decide) (fun c136 => ?_) (fun c136 => ?_)
          · have ic136 : z116.toInt ≤ z36.toInt := zl_le rfl (Int32.toInt_toInt64 z36) c136
            refine lv_lload hx hb dX12_carry_239 (lv_at hl 0 rfl) ?_
            exact hj118 _ _ _ _ ⟨z116, rfl, hP, hD, hS, lv_sub hl [0, 1, 2, 3, 4, 5, 6, 7, 8, 9, 10] rfl⟩
          · have ic136 : z116.toInt > z36.toInt := zl_lef rfl (Int32.toInt_toInt64 z36) c136
            refine lv_iload hx hb dX12_carry_233 (lv_at hl 5 rfl) ?_
            refine lv_i2l hx hb dX12_carry_235 rfl ?_
            refine lv_goto (tgt := 241) hx hb dX12_carry_236 (by decide) ?_
            exact hj118 _ _ _ _ ⟨z36.toInt64, rfl, hP, hD, hS, lv_sub hl [0, 1, 2, 3, 4, 5, 6, 7, 8, 9, 10] rfl⟩
      · have ic100 : r87.toInt = (-1) := zi_nef rfl rfl c100
        refine lv_iconst (v := 0) hx hb dX12_carry_189 (by decide) ?_
        exact W.zret (v := 0) hx hb hr rfl (fun t ht hW => ⟨⟨0, f96, rfl, ⟨hT, hR, (by first | decide | omega), trivial⟩, by rw [ht]; exact hP, va_K.moved hW.alike hK, hD⟩, hS.F ht⟩) hS.2.2 dX12_carry_190
    · have ic66 : r53.toInt = (-1) := zi_nef rfl rfl c66
      refine lv_iconst (v := 0) hx hb dX12_carry_111 (by decide) ?_
      exact W.zret (v := 0) hx hb hr rfl (fun t ht hW => ⟨⟨0, f62, rfl, ⟨hT, hR, (by first | decide | omega), trivial⟩, by rw [ht]; exact hP, va_K.moved hW.alike hK, hD⟩, hS.F ht⟩) hS.2.2 dX12_carry_112
  · have ic39 : z36.toInt > r37.toInt := zi_lef rfl rfl c39
    refine lv_iconst (v := 0) hx hb dX12_carry_37 (by decide) ?_
    exact W.zret (v := 0) hx hb hr rfl (fun t ht hW => ⟨⟨0, f, rfl, ⟨hT, hR, (by first | decide | omega), trivial⟩, by rw [ht]; exact hP, va_K.moved hW.alike hK, hD⟩, hS.F ht⟩) hS.2.2 dX12_carry_38
set_option maxHeartbeats 4000000 in
set_option maxRecDepth 100000 in
theorem t_X12_sailRow (l : Launch) (dC : Nat → ClassId) (dI : Nat → Nat → Nat) (sz : Nat) (κ : Nat → ClassId) (τ ν : Nat → Nat) (ρ : Nat → Nat → Nat) (L : List Nat) (f : Nat → va_E) (hG : tp_G τ ν ρ L) (hT : tp_T (mo_O κ) κ τ ν ρ f) (h0 : Nat) (v : Int32) (u : Int32) (a : Int32) (x : Int) (b : Int) (ht_h0 : τ h0 = 13) (hr_u : 0 ≤ u.toInt ∧ u.toInt ≤ 6) (hbb : 0 ≤ b ∧ b ≤ 1000) (hJ : mo_RI x b (mo_R (mo_i (f (ρ h0 2))))) (hv1 : 0 ≤ v.toInt ∧ v.toInt < (mo_R (mo_i (f (ρ h0 2)))) (1)) (hln : ∀ j, 0 ≤ j → j < u.toInt → 0 ≤ (mo_R (mo_i (f (ρ h0 42)))) j ∧ (mo_R (mo_i (f (ρ h0 42)))) j < (mo_R (mo_i (f (ρ h0 2)))) 10) : Met l yX12_sailRow wqX12_sailRow ({ frames := 7, cells := 0, slots := 0, locals := 2400 }) (va_Pc [.ref h0, .int v, .int u, .int a] (pz_B dC dI (tp_K κ) (va_pl L f) sz)) (va_Ql (fun (r : Int64) (f1 : Nat → va_E) => tp_T (mo_O κ) κ τ ν ρ f1 ∧ tp_F τ [13, 69, 70, 71] f f1 ∧ True ∧ (u.toInt = 0 → r.toInt = 0)) (fun (f1 : Nat → va_E) (t : State) => pz_E dC dI (tp_K κ) (va_A (va_pl L f) sz) (va_pl L f1) t) (va_A (va_pl L f) sz)) 0 0 (va_A (va_pl L f) sz) := by
  refine Met.ofW (cc := cX12_sailRow) (maxL := 7) (ret := some .long) (by decide) rfl ?_
  intro p e s m args below meth c s₁ B hml hv
  obtain ⟨rfl, hsz, hP, hK, hD0, hN⟩ := hv
  have hx := B.exec
  have hb := B.bytes
  have hr := B.returns
  have hts := fun (w : Cond) (h : w ∈ WALL) => atoms_spec (ws := wqX12_sailRow) B.pre w (List.mem_cons_of_mem _ h)
  have hown : s.vm.findClass RX12 = some m.cls := findClass_of_methodNamed B.named
  have hlocks := B.notSynchronized
  subst hsz
  have hD := hD0.self (sz := s.heap.size)
  generalize hAe : va_A (va_pl L f) s.heap.size = A at hD ⊢
  have hA : ∀ q : Nat, s.heap.size ≤ q → A q := fun q h => by rw [← hAe]; exact Or.inr h
  have hS : va_S A s.heap s.heap [] := va_S.rf
  have hR : tp_F τ [13, 69, 70, 71] f f := tp_F.rf
  have hl := lv_entry ([.ref h0, .int v, .int u, .int a]) (n := 7) (Nat.le_of_ble_eq_true rfl)
  rw [lg_entry_eq]
  generalize (lg_sl ([.ref h0, .int v, .int u, .int a]) ++ List.replicate (7 - (lg_sl ([.ref h0, .int v, .int u, .int a])).length) Slot.unset).toArray = ls at hl ⊢
  have hl : lv_has ls 7 [(0, .ref h0), (1, .int v), (2, .int u), (3, .int a)] := hl
  refine tgk_13 hG ht_h0 (fun y1 y2 y3 y4 y5 y6 y7 y8 y9 y10 y11 y12 y13 y14 y15 y16 y17 y18 y19 y20 y21 y22 y23 y24 y25 => ?_)
  refine tpk_32 hT y1 (fun g27 hf_o26 => ?_)
  have hI : mo_RI x b (mo_R g27) := by have q9 := hJ; rw [hf_o26, mo_i1] at q9; exact q9
  rw [hf_o26, mo_i1] at hv1
  refine tpk_72 hT y17 (fun g29 hf_o28 => ?_)
  have tf30 : mo_hd (mo_i (f (ρ h0 42)) = g29) := tfa_i hf_o28
  replace hln : mo_hd (∀ j, 0 ≤ j → j < u.toInt → 0 ≤ (mo_R g29) j ∧ (mo_R g29) j < (mo_R g27) 10) := by have q9 := hln; first | (simp only [(mo_un tf30), hf_o26, mo_i1, mo_l1] at q9; exact q9) | (rw [(mo_un tf30), hf_o26] at q9; exact q9)
  have := hI.k1; have := hI.k10
  refine lv_aload_n hx hb dX12_sailRow_0 rfl (lv_at hl 0 rfl) ?_
  refine lv_iload_n hx hb dX12_sailRow_1 rfl (lv_at hl 3 rfl) ?_
  refine tpk_13 hT ht_h0 (fun o31_x0 o31_x1 o31_x7 o31_x9 o31_x10 o31_x11 o31_x12 o31_x13 o31_x14 o31_x15 o31_x16 o31_x17 o31_x18 o31_x19 o31_x20 o31_x22 o31_x25 o31_x28 o31_x29 o31_x32 o31_x33 o31_x34 o31_x35 o31_x36 o31_x37 o31_x38 o31_x47 o31_x48 hf_o31 ro31_0 ro31_1 ro31_2 ro31_3 ro31_4 ro31_5 ro31_6 ro31_7 ro31_8 ro31_9 ro31_10 ro31_11 ro31_12 ro31_13 => ?_)
  refine tpk_pos (tp_in hG ht_h0 (by decide)) hf_o31 (fun q32 eq32 => ?_)
  refine va_put (D := (dC, dI)) (ci := 12) (v := .int a) (ty := .int) (C := RX12) (T := TX12) (N := 53) hx hb hts hfX12 tyX12 tyX12_ok nmX12 hown hK hP hD hS q32 eq32 rfl 36 (by decide) (hts (.fieldLink RX12 500 "ColdShipsModel" "clock" "I") wa_1428) (fun _ h9 => h9) rfl (tyX12_ok 36 (by decide)) rfl rfl (Nat.le_of_ble_eq_true rfl) dX12_sailRow_2 (tp_k (.inr (12, [.int o31_x0, .int o31_x1, .ref (ρ h0 2), .ref (ρ h0 3), .ref (ρ h0 4), .ref (ρ h0 5), .ref (ρ h0 6), .int o31_x7, .ref (ρ h0 8), .int o31_x9, .int o31_x10, .int o31_x11, .int o31_x12, .long o31_x13, .int o31_x14, .int o31_x15, .int o31_x16, .int o31_x17, .int o31_x18, .int o31_x19, .int o31_x20, .ref (ρ h0 21), .int o31_x22, .ref (ρ h0 23), .ref (ρ h0 24), .int o31_x25, .ref (ρ h0 26), .ref (ρ h0 27), .int o31_x28, .int o31_x29, .ref (ρ h0 30), .ref (ρ h0 31), .int o31_x32, .long o31_x33, .long o31_x34, .long o31_x35, .int a, .int o31_x37, .int o31_x38, .ref (ρ h0 39), .ref (ρ h0 40), .ref (ρ h0 41), .ref (ρ h0 42), .ref (ρ h0 43), .ref (ρ h0 44), .ref (ρ h0 45), .ref (ρ h0 46), .int o31_x47, .int o31_x48, .ref (ρ h0 49), .ref (ρ h0 50), .ref (ρ h0 51), .ref (ρ h0 52)])) hD (tp_in hG ht_h0 (by decide)) eq32 (fun f33 H locs hP hD hS g35 k34 => ?_))
  have hT := hT.up ht_h0 g35 k34 ⟨_, _, _, _, _, _, _, _, _, _, _, _, _, _, _, _, _, _, _, _, _, _, _, _, _, _, _, _, rfl, ro31_0, ro31_1, ro31_2, ro31_3, ro31_4, ro31_5, ro31_6, ro31_7, ro31_8, ro31_9, ro31_10, ro31_11, ro31_12, ro31_13⟩
  have hR := hR.up ht_h0 (by decide) k34
  refine lv_aload_n hx hb dX12_sailRow_5 rfl (lv_at hl 0 rfl) ?_
  refine lv_aload_n hx hb dX12_sailRow_6 rfl (lv_at hl 0 rfl) ?_
  refine tpk_pos (tp_in hG ht_h0 (by decide)) g35 (fun q36 eq36 => ?_)
  refine va_get (D := (dC, dI)) (ci := 12) (v := .ref (ρ h0 2)) (C := RX12) (T := TX12) (N := 53) hx hb hts hfX12 hown hK hP q36 eq36 rfl 2 (by decide) (hts (.fieldLink RX12 7 "ColdShipsModel" "row" "[I") wa_148) (fun _ h9 => h9) rfl dX12_sailRow_7 ?_
  refine lv_iload_n hx hb dX12_sailRow_10 rfl (lv_at hl 1 rfl) ?_
  have hf_37 : f33 (ρ h0 2) = .inl (κ 0, 12967, .inl g27) := (k34 _ (tp_ne y1 ht_h0 (by decide))).trans hf_o26
  refine pz_calli (va_runS (As := [.int v]) (rest := [.ref (ρ h0 2), .ref h0]) ⟨hx, hb, hml, hown, hts⟩ (t_X12_shipAt l dC dI _ v (v.toInt) (by (first | omega | (have u0 := mo_un hln; omega))) rfl) (va_cwS 1 hts gX12_sailRow_X12_shipAt rfl rfl rfl pd_X12_shipAt ⟨Nat.le_of_ble_eq_true rfl, Nat.le_of_ble_eq_true rfl⟩) ⟨pz_blind, pz_pre pz_P0 (hK.sub (tys' := []) [] rfl) (pz_D0 (A := fun _ => True)) hN⟩ rfl rfl hl.1 rfl (lv_room (Nat.le_of_ble_eq_true rfl)) dX12_sailRow_11 ⟨Nat.le_of_ble_eq_true rfl, Nat.le_of_ble_eq_true rfl⟩) (fun r38 hw39 => ?_)
  obtain ⟨hw39r, hw39p⟩ := hw39
  refine lv_iconst (v := 0) hx hb dX12_sailRow_14 (by decide) ?_
  refine lv_iadd hx hb dX12_sailRow_15 ?_
  refine lv_topi (fun z40 ez40 => ?_)
  have iz40 : z40.toInt = r38.toInt + 0 := zi_add ez40 rfl rfl (by (first | omega | (have u0 := mo_un hln; omega))) (by (first | omega | (have u0 := mo_un hln; omega)))
  refine tpk_pos (tp_in hG y1 (by decide)) hf_37 (fun q41 eq41 => ?_)
  refine va_iald hx hb hK hP q41 0 eq41 rfl (vp_in_iff.mpr ⟨by (first | omega | (have u0 := mo_un hln; omega)), by (first | omega | (have u0 := mo_un hln; omega))⟩) dX12_sailRow_16 ?_
  refine lv_topi (fun z42 ez42 => ?_)
  have jz42 : z42.toInt = mo_R g27 (547 + 84 * v.toInt + 0) := mo_rd ez42 (by (first | omega | (have u0 := mo_un hln; omega)))
  have kz42 := hI.SA (s := v.toInt) (by (first | omega | (have u0 := mo_un hln; omega))) (by (first | omega | (have u0 := mo_un hln; omega)))
  refine va_put (D := (dC, dI)) (ci := 12) (v := .int z42) (ty := .int) (C := RX12) (T := TX12) (N := 53) hx hb hts hfX12 tyX12 tyX12_ok nmX12 hown hK hP hD hS q36 eq36 rfl 37 (by decide) (hts (.fieldLink RX12 503 "ColdShipsModel" "place" "I") wa_1429) (fun _ h9 => h9) rfl (tyX12_ok 37 (by decide)) rfl rfl (Nat.le_of_ble_eq_true rfl) dX12_sailRow_17 (tp_k (.inr (12, [.int o31_x0, .int o31_x1, .ref (ρ h0 2), .ref (ρ h0 3), .ref (ρ h0 4), .ref (ρ h0 5), .ref (ρ h0 6), .int o31_x7, .ref (ρ h0 8), .int o31_x9, .int o31_x10, .int o31_x11, .int o31_x12, .long o31_x13, .int o31_x14, .int o31_x15, .int o31_x16, .int o31_x17, .int o31_x18, .int o31_x19, .int o31_x20, .ref (ρ h0 21), .int o31_x22, .ref (ρ h0 23), .ref (ρ h0 24), .int o31_x25, .ref (ρ h0 26), .ref (ρ h0 27), .int o31_x28, .int o31_x29, .ref (ρ h0 30), .ref (ρ h0 31), .int o31_x32, .long o31_x33, .long o31_x34, .long o31_x35, .int a, .int z42, .int o31_x38, .ref (ρ h0 39), .ref (ρ h0 40), .ref (ρ h0 41), .ref (ρ h0 42), .ref (ρ h0 43), .ref (ρ h0 44), .ref (ρ h0 45), .ref (ρ h0 46), .int o31_x47, .int o31_x48, .ref (ρ h0 49), .ref (ρ h0 50), .ref (ρ h0 51), .ref (ρ h0 52)])) hD (tp_in hG ht_h0 (by decide)) eq36 (fun f43 H locs hP hD hS g45 k44 => ?_))
  have hT := hT.up ht_h0 g45 k44 ⟨_, _, _, _, _, _, _, _, _, _, _, _, _, _, _, _, _, _, _, _, _, _, _, _, _, _, _, _, rfl, ro31_0, ro31_1, ro31_2, ro31_3, ro31_4, ro31_5, ro31_6, ro31_7, ro31_8, ro31_9, ro31_10, (by (first | omega | (have u0 := mo_un hln; omega))), ro31_12, ro31_13⟩
  have hR := hR.up ht_h0 (by decide) k44
  refine lv_lconst (v := 0) hx hb dX12_sailRow_20 (by decide) ?_
  refine lv_lstore (lv' := [(4, .long 0), (0, .ref h0), (1, .int v), (2, .int u), (3, .int a)]) hx hb dX12_sailRow_21 hl (by decide) rfl (fun ls hl => ?_)
  refine lv_iconst (v := 0) hx hb dX12_sailRow_23 (by decide) ?_
  refine lv_istore (lv' := [(6, .int 0), (4, .long 0), (0, .ref h0), (1, .int v), (2, .int u), (3, .int a)]) hx hb dX12_sailRow_24 hl (by decide) rfl (fun ls hl => ?_)
  have hf_46 : f43 (ρ h0 2) = .inl (κ 0, 12967, .inl g27) := (k44 _ (tp_ne y1 ht_h0 (by decide))).trans hf_37
  have hf_51 : f33 (ρ h0 42) = .inl (κ 0, 6, .inl g29) := (k34 _ (tp_ne y17 ht_h0 (by decide))).trans hf_o28
  have hf_52 : f43 (ρ h0 42) = .inl (κ 0, 6, .inl g29) := (k44 _ (tp_ne y17 ht_h0 (by decide))).trans hf_51
  refine pz_loop (fun n0 H locs ls => ∃ f55 : Nat → va_E, ∃ w47 : Int32, ∃ w48 : Int64, n0 = (6 - (w47.toInt)).toNat ∧ tp_T (mo_O κ) κ τ ν ρ f55 ∧ tp_F τ [13, 69, 70, 71] f f55 ∧ f55 (ρ h0 2) = .inl (κ 0, 12967, .inl g27) ∧ f55 (ρ h0 42) = .inl (κ 0, 6, .inl g29) ∧ (0 ≤ w47.toInt ∧ w47.toInt ≤ 6) ∧ ((w47.toInt) ≤ u.toInt) ∧ (((w47.toInt) = 0 → (w48.toInt) = 0)) ∧ va_P (dC, dI) vwCl (va_pl L f55) H ∧ va_D A (va_pl L f55) ∧ va_S A s.heap H locs ∧ lv_has ls 7 [(6, .int w47), (4, .long w48), (0, .ref h0), (1, .int v), (2, .int u), (3, .int a)]) ?_ _ _ _ _ ⟨f43, 0, 0, rfl, hT, hR, hf_46, hf_52, (by have : (0 : Int32).toInt = 0 := rfl; have : (0 : Int64).toInt = 0 := rfl; (first | omega | (have u0 := mo_un hln; omega))), (by have : (0 : Int32).toInt = 0 := rfl; have : (0 : Int64).toInt = 0 := rfl; (first | omega | (have u0 := mo_un hln; omega))), (by have : (0 : Int32).toInt = 0 := rfl; have : (0 : Int64).toInt = 0 := rfl; (first | omega | (have u0 := mo_un hln; omega))), hP, hD, hS, lv_sub hl [0, 1, 2, 3, 4, 5] rfl⟩
  intro n0 H locs ls hI ih57
  refine Exists.elim hI (fun f55 hE90 => Exists.elim hE90 (fun w47 hE91 => Exists.elim hE91 (fun w48 hE92 => tn_12 hE92 (fun hn58 hT hR hk53k hk54k rw47 k49 k50 hP hD hS hl => ?_))))
  clear hE92 hE91 hE90 hI
  refine lv_iload hx hb dX12_sailRow_26 (lv_at hl 0 rfl) ?_
  refine lv_iload_n hx hb dX12_sailRow_28 rfl (lv_at hl 4 rfl) ?_
  refine lv_icmp_ge (tgt := 74) hx hb dX12_sailRow_29 (by decide) (fun c59 => ?_) (fun c59 => ?_)
  · have ic59 : w47.toInt ≥ u.toInt := zi_ge rfl rfl c59
    refine lv_lload hx hb dX12_sailRow_74 (lv_at hl 1 rfl) ?_
    exact W.lret (v := w48) hx hb hr (fun t ht hW => ⟨⟨w48, f55, rfl, ⟨hT, hR, trivial, (fun q9 => by (first | omega | (have u0 := mo_un hln; omega)))⟩, by rw [ht]; exact hP, va_K.moved hW.alike hK, hD⟩, hS.F ht⟩) hS.2.2 dX12_sailRow_76
  · have ic59 : w47.toInt < u.toInt := zi_gef rfl rfl c59
    refine lv_aload_n hx hb dX12_sailRow_32 rfl (lv_at hl 2 rfl) ?_
    refine lv_iload_n hx hb dX12_sailRow_33 rfl (lv_at hl 3 rfl) ?_
    refine lv_aload_n hx hb dX12_sailRow_34 rfl (lv_at hl 2 rfl) ?_
    refine tpk_13 hT ht_h0 (fun o60_x0 o60_x1 o60_x7 o60_x9 o60_x10 o60_x11 o60_x12 o60_x13 o60_x14 o60_x15 o60_x16 o60_x17 o60_x18 o60_x19 o60_x20 o60_x22 o60_x25 o60_x28 o60_x29 o60_x32 o60_x33 o60_x34 o60_x35 o60_x36 o60_x37 o60_x38 o60_x47 o60_x48 hf_o60 ro60_0 ro60_1 ro60_2 ro60_3 ro60_4 ro60_5 ro60_6 ro60_7 ro60_8 ro60_9 ro60_10 ro60_11 ro60_12 ro60_13 => ?_)
    refine tpk_pos (tp_in hG ht_h0 (by decide)) hf_o60 (fun q61 eq61 => ?_)
    refine va_get (D := (dC, dI)) (ci := 12) (v := .ref (ρ h0 42)) (C := RX12) (T := TX12) (N := 53) hx hb hts hfX12 hown hK hP q61 eq61 rfl 42 (by decide) (hts (.fieldLink RX12 64 "ColdShipsModel" "line" "[I") wa_166) (fun _ h9 => h9) rfl dX12_sailRow_35 ?_
    refine lv_iload hx hb dX12_sailRow_38 (lv_at hl 0 rfl) ?_
    refine tpk_pos (tp_in hG y17 (by decide)) hk54k (fun q62 eq62 => ?_)
    refine va_iald hx hb hK hP q62 0 eq62 rfl (vp_in_iff.mpr ⟨by (first | omega | (have u0 := mo_un hln; omega)), by (first | omega | (have u0 := mo_un hln; omega))⟩) dX12_sailRow_40 ?_
    refine lv_topi (fun z63 ez63 => ?_)
    have jz63 : z63.toInt = mo_R g29 w47.toInt := mo_rd ez63 (rfl : w47.toInt = _)
    have kz63 := hln w47.toInt (by (first | omega | (have u0 := mo_un hln; omega))) (by (first | omega | (have u0 := mo_un hln; omega)))
    have hFc := tp_fr hD hS hA
    refine va_calli (va_runV (As := [.int v, .int z63]) (rest := []) ⟨hx, hb, hml, hown, hts⟩ (t_X12_carry l dC dI _ κ τ ν ρ L f55 hG hT h0 v z63 x b ht_h0 (by (first | omega | (have u0 := mo_un hln; omega))) (by rw [hk53k, mo_i1]; exact hI) (by first | (simp only [hk53k, hf_o26, mo_i1]; (first | omega | (have u0 := mo_un hln; omega))) | (simp only [hk53k, hf_o26, mo_i1]; trivial) | (simp only [hk53k, hf_o26, mo_i1]; done) | (first | omega | (have u0 := mo_un hln; omega))) (by first | (simp only [hk53k, hf_o26, mo_i1]; (first | omega | (have u0 := mo_un hln; omega))) | (simp only [hk53k, hf_o26, mo_i1]; trivial) | (simp only [hk53k, hf_o26, mo_i1]; done) | (first | omega | (have u0 := mo_un hln; omega)))) (cwV 2 hts gX12_sailRow_X12_carry rfl rfl rfl ⟨rfl, pd_X12_carry⟩ ⟨Nat.le_of_ble_eq_true rfl, Nat.le_of_ble_eq_true rfl⟩) ⟨pz_blind, va_recv hK hP (ci := 12) (q0 := q61) rfl eq61, pz_pre hP hK hD hN⟩ rfl rfl hl.1 rfl (lv_room (Nat.le_of_ble_eq_true rfl)) dX12_sailRow_41 ⟨Nat.le_of_ble_eq_true rfl, Nat.le_of_ble_eq_true rfl⟩) hS (fun q _ h => hFc q h) hFc (fun r64 f66 t H1 locs ht hvm hw65 hB hz1 hk1 hS => ?_)
    refine tn_4 hw65 (fun hT hF67 hw65r hw65p => ?_); clear hw65
    have hR := hR.then hF67 (by decide)
    have hP := hB.1; rw [ht] at hP; have hD := tp_ad f66 hD; clear hB hFc hz1 hk1; subst ht; generalize t.heap = H at hP hS ⊢
    refine lv_if_ne (tgt := 51) hx hb dX12_sailRow_44 (by decide) (fun c68 => ?_) (fun c68 => ?_)
    · have ic68 : r64.toInt ≠ 0 := zi_ne rfl rfl c68
      replace ic68 : 1 ≤ r64.toInt := by (first | omega | (have u0 := mo_un hln; omega))
      refine lv_lload hx hb dX12_sailRow_51 (lv_at hl 1 rfl) ?_
      refine lv_aload_n hx hb dX12_sailRow_53 rfl (lv_at hl 2 rfl) ?_
      refine tpk_13 hT ht_h0 (fun o69_x0 o69_x1 o69_x7 o69_x9 o69_x10 o69_x11 o69_x12 o69_x13 o69_x14 o69_x15 o69_x16 o69_x17 o69_x18 o69_x19 o69_x20 o69_x22 o69_x25 o69_x28 o69_x29 o69_x32 o69_x33 o69_x34 o69_x35 o69_x36 o69_x37 o69_x38 o69_x47 o69_x48 hf_o69 ro69_0 ro69_1 ro69_2 ro69_3 ro69_4 ro69_5 ro69_6 ro69_7 ro69_8 ro69_9 ro69_10 ro69_11 ro69_12 ro69_13 => ?_)
      refine tpk_pos (tp_in hG ht_h0 (by decide)) hf_o69 (fun q70 eq70 => ?_)
      refine va_get (D := (dC, dI)) (ci := 12) (v := .ref (ρ h0 41)) (C := RX12) (T := TX12) (N := 53) hx hb hts hfX12 hown hK hP q70 eq70 rfl 41 (by decide) (hts (.fieldLink RX12 61 "ColdShipsModel" "worths" "[J") wa_165) (fun _ h9 => h9) rfl dX12_sailRow_54 ?_
      refine lv_aload_n hx hb dX12_sailRow_57 rfl (lv_at hl 2 rfl) ?_
      refine va_get (D := (dC, dI)) (ci := 12) (v := .ref (ρ h0 42)) (C := RX12) (T := TX12) (N := 53) hx hb hts hfX12 hown hK hP q70 eq70 rfl 42 (by decide) (hts (.fieldLink RX12 64 "ColdShipsModel" "line" "[I") wa_166) (fun _ h9 => h9) rfl dX12_sailRow_58 ?_
      refine lv_iload hx hb dX12_sailRow_61 (lv_at hl 0 rfl) ?_
      have hf_71 : f66 (ρ h0 42) = .inl (κ 0, 6, .inl g29) := (hF67 _ (by rw [y17]; decide)).trans hk54k
      refine tpk_pos (tp_in hG y17 (by decide)) hf_71 (fun q72 eq72 => ?_)
      refine va_iald hx hb hK hP q72 0 eq72 rfl (vp_in_iff.mpr ⟨by (first | omega | (have u0 := mo_un hln; omega)), by (first | omega | (have u0 := mo_un hln; omega))⟩) dX12_sailRow_63 ?_
      refine lv_topi (fun z73 ez73 => ?_)
      have jz73 : z73.toInt = mo_R g29 w47.toInt := mo_rd ez73 (rfl : w47.toInt = _)
      have kz73 := hln w47.toInt (by (first | omega | (have u0 := mo_un hln; omega))) (by (first | omega | (have u0 := mo_un hln; omega)))
      refine tpk_71 hT y16 (fun g75 hf_o74 => ?_)
      refine tpk_pos (tp_in hG y16 (by decide)) hf_o74 (fun q76 eq76 => ?_)
      refine va_lald hx hb hK hP q76 1 eq76 rfl (vp_in_iff.mpr ⟨by (first | omega | (have u0 := mo_un hln; omega)), by (first | omega | (have u0 := mo_un hln; omega))⟩) dX12_sailRow_64 ?_
      refine lv_topl (fun z77 ez77 => ?_)
      refine lv_ladd hx hb dX12_sailRow_65 ?_
      refine lv_topl (fun z78 ez78 => ?_)
      refine lv_lstore (lv' := [(4, .long z78), (6, .int w47), (0, .ref h0), (1, .int v), (2, .int u), (3, .int a)]) hx hb dX12_sailRow_66 hl (by decide) rfl (fun ls hl => ?_)
      obtain ⟨z79, ez79⟩ : ∃ y : Int32, y = w47 + 1 := ⟨_, rfl⟩
      refine lv_iinc (v := z79) (lv' := [(6, .int z79), (4, .long z78), (0, .ref h0), (1, .int v), (2, .int u), (3, .int a)]) hx hb dX12_sailRow_68 hl (k := 1) rfl (by rw [ez79]; rfl) (by decide) rfl (fun ls hl => ?_)
      have iz79 : z79.toInt = w47.toInt + 1 := zi_add ez79 rfl rfl (by (first | omega | (have u0 := mo_un hln; omega))) (by (first | omega | (have u0 := mo_un hln; omega)))
      refine lv_goto (tgt := 26) hx hb dX12_sailRow_71 (by decide) ?_
      have hf_80 : f66 (ρ h0 2) = .inl (κ 0, 12967, .inl g27) := (hF67 _ (by rw [y1]; decide)).trans hk53k
      exact ih57 _ _ _ _ (by rw [hn58]; (first | omega | (have u0 := mo_un hln; omega))) ⟨f66, z79, z78, rfl, hT, hR, hf_80, hf_71, (by (first | omega | (have u0 := mo_un hln; omega))), (by (first | omega | (have u0 := mo_un hln; omega))), (by (first | omega | (have u0 := mo_un hln; omega))), hP, hD, hS, lv_sub hl [0, 1, 2, 3, 4, 5] rfl⟩
    · have ic68 : r64.toInt = 0 := zi_nef rfl rfl c68
      refine lv_ldc2 (own := RX12) (v := (-2000000000000000)) hx hb hown (hts (.constantLong RX12 466 (-2000000000000000)) wa_1189) dX12_sailRow_47 ?_
      exact W.lret (v := (-2000000000000000)) hx hb hr (fun t ht hW => ⟨⟨(-2000000000000000), f66, rfl, ⟨hT, hR, trivial, (fun q9 => by have : (0 : Int64).toInt = 0 := rfl; have : ((-2000000000000000) : Int64).toInt = (-2000000000000000) := rfl; (first | omega | (have u0 := mo_un hln; omega)))⟩, by rw [ht]; exact hP, va_K.moved hW.alike hK, hD⟩, hS.F ht⟩) hS.2.2 dX12_sailRow_50
