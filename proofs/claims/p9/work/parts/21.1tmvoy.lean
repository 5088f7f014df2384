section
set_option maxHeartbeats 4000000 in
set_option maxRecDepth 100000 in
theorem t_X12_work (l : Launch) (dC : Nat → ClassId) (dI : Nat → Nat → Nat) (sz : Nat) (κ : Nat → ClassId) (Θ : Nat → Option Int) (τ ν : Nat → Nat) (ρ : Nat → Nat → Nat) (L : List Nat) (f : Nat → va_E) (hG : tp_G τ ν ρ L) (hT : tp_T (mo_O κ Θ) κ τ ν ρ f) (h0 : Nat) (v : Int32) (u : Int32) (x : Int) (b : Int) (ht_h0 : τ h0 = 13) (hbb : 0 ≤ b ∧ b ≤ 1000) (hJ : mo_RI x b (mo_R (mo_i (f (ρ h0 2))))) : Met l yX12_work wqX12_work ({ frames := 4, cells := 0, slots := 0, locals := 1200 }) (va_Pc [.ref h0, .int v, .int u] (pz_B dC dI (tp_K κ) (va_pl L f) sz)) (va_Qi (fun (r : Int32) (f1 : Nat → va_E) => tp_T (mo_O κ Θ) κ τ ν ρ f1 ∧ tp_F τ [13] f f1 ∧ (0 ≤ r.toInt ∧ r.toInt ≤ 1) ∧ True) (fun (f1 : Nat → va_E) (t : State) => pz_E dC dI (tp_K κ) (va_A (va_pl L f) sz) (va_pl L f1) t) (va_A (va_pl L f) sz)) 0 0 (va_A (va_pl L f) sz) := by
  refine Met.ofW (cc := cX12_work) (maxL := 4) (ret := some .boolean) (by decide) rfl ?_
  intro p e s m args below meth c s₁ B hml hv
  obtain ⟨rfl, hsz, hP, hK, hD0, hN⟩ := hv
  have hx := B.exec
  have hb := B.bytes
  have hr := B.returns
  have hts := fun (w : Cond) (h : w ∈ WALL) => atoms_spec (ws := wqX12_work) B.pre w (List.mem_cons_of_mem _ h)
  have hown : s.vm.findClass RX12 = some m.cls := findClass_of_methodNamed B.named
  have hlocks := B.notSynchronized
  subst hsz
  have hD := hD0.self (sz := s.heap.size)
  generalize hAe : va_A (va_pl L f) s.heap.size = A at hD ⊢
  have hA : ∀ q : Nat, s.heap.size ≤ q → A q := fun q h => by rw [← hAe]; exact Or.inr h
  have hS : va_S A s.heap s.heap [] := va_S.rf
  have hR : tp_F τ [13] f f := tp_F.rf
  have hl := lv_entry ([.ref h0, .int v, .int u]) (n := 4) (Nat.le_of_ble_eq_true rfl)
  rw [lg_entry_eq]
  generalize (lg_sl ([.ref h0, .int v, .int u]) ++ List.replicate (4 - (lg_sl ([.ref h0, .int v, .int u])).length) Slot.unset).toArray = ls at hl ⊢
  have hl : lv_has ls 4 [(0, .ref h0), (1, .int v), (2, .int u)] := hl
  refine tgk_13 hG ht_h0 (fun y1 y2 y3 y4 y5 y6 y7 y8 y9 y10 y11 y12 y13 y14 y15 y16 y17 y18 y19 y20 y21 y22 y23 y24 y25 => ?_)
  refine tpk_32 hT y1 (fun g27 hf_o26 => ?_)
  have hI : mo_RI x b (mo_R g27) := by have q9 := hJ; rw [hf_o26, mo_i1] at q9; exact q9
  refine tpk_13 hT ht_h0 (fun o28_x0 o28_x1 o28_x7 o28_x9 o28_x10 o28_x11 o28_x12 o28_x13 o28_x14 o28_x15 o28_x16 o28_x17 o28_x18 o28_x19 o28_x20 o28_x22 o28_x25 o28_x28 o28_x29 o28_x32 o28_x33 o28_x34 o28_x35 o28_x36 o28_x37 o28_x38 o28_x47 o28_x48 hf_o28 ro28_0 ro28_1 ro28_2 ro28_3 ro28_4 ro28_5 ro28_6 ro28_7 ro28_8 ro28_9 ro28_10 ro28_11 ro28_12 ro28_13 ro28_14 => ?_)
  refine lv_iload_n hx hb dX12_work_0 rfl (lv_at hl 2 rfl) ?_
  refine lv_istore_n (lv' := [(3, .int u), (0, .ref h0), (1, .int v), (2, .int u)]) hx hb dX12_work_1 rfl hl (by decide) rfl (fun ls hl => ?_)
  refine pz_loop (fun n0 H locs ls => ∃ f33 : Nat → va_E, ∃ w29 : Int32, ∃ w30 : Int32, n0 = (2400 - (w29.toInt)).toNat ∧ tp_T (mo_O κ Θ) κ τ ν ρ f33 ∧ tp_F τ [13] f f33 ∧ f33 (ρ h0 2) = .inl (κ 0, 12967, .inl g27) ∧ f33 h0 = .inr (12, [.int o28_x0, .int o28_x1, .ref (ρ h0 2), .ref (ρ h0 3), .ref (ρ h0 4), .ref (ρ h0 5), .ref (ρ h0 6), .int o28_x7, .ref (ρ h0 8), .int o28_x9, .int o28_x10, .int o28_x11, .int o28_x12, .long o28_x13, .int o28_x14, .int o28_x15, .int o28_x16, .int o28_x17, .int o28_x18, .int o28_x19, .int o28_x20, .ref (ρ h0 21), .int o28_x22, .ref (ρ h0 23), .ref (ρ h0 24), .int o28_x25, .ref (ρ h0 26), .ref (ρ h0 27), .int o28_x28, .int o28_x29, .ref (ρ h0 30), .ref (ρ h0 31), .int o28_x32, .long o28_x33, .long o28_x34, .long o28_x35, .int w29, .int o28_x37, .int o28_x38, .ref (ρ h0 39), .ref (ρ h0 40), .ref (ρ h0 41), .ref (ρ h0 42), .ref (ρ h0 43), .ref (ρ h0 44), .ref (ρ h0 45), .ref (ρ h0 46), .int o28_x47, .int o28_x48, .ref (ρ h0 49), .ref (ρ h0 50), .ref (ρ h0 51), .ref (ρ h0 52)]) ∧ va_P (dC, dI) vwCl (va_pl L f33) H ∧ va_D A (va_pl L f33) ∧ va_S A s.heap H locs ∧ lv_has ls 4 [(3, .int w30), (0, .ref h0), (1, .int v), (2, .int u)]) ?_ _ _ _ _ ⟨f, o28_x36, u, rfl, hT, hR, hf_o26, hf_o28, hP, hD, hS, lv_sub hl [0, 1, 2, 3] rfl⟩
  intro n0 H locs ls hI ih35
  refine Exists.elim hI (fun f33 hE90 => Exists.elim hE90 (fun w29 hE91 => Exists.elim hE91 (fun w30 hE92 => tn_9 hE92 (fun hn36 hT hR hk31k hk32k hP hD hS hl => ?_))))
  clear hE92 hE91 hE90 hI
  refine lv_iload_n hx hb dX12_work_2 rfl (lv_at hl 0 rfl) ?_
  refine lv_if_le (tgt := 49) hx hb dX12_work_3 (by decide) (fun c37 => ?_) (fun c37 => ?_)
  · have ic37 : w30.toInt ≤ 0 := zi_le rfl rfl c37
    refine lv_iload_n hx hb dX12_work_49 rfl (lv_at hl 0 rfl) ?_
    refine lv_if_ne (tgt := 57) hx hb dX12_work_50 (by decide) (fun c38 => ?_) (fun c38 => ?_)
    · have ic38 : w30.toInt ≠ 0 := zi_ne rfl rfl c38
      replace ic38 : w30.toInt ≤ (-1) := by omega
      refine lv_iconst (v := 0) hx hb dX12_work_57 (by decide) ?_
      exact W.zret (v := 0) hx hb hr rfl (fun t ht hW => ⟨⟨0, f33, rfl, ⟨hT, hR, (by first | decide | omega), trivial⟩, by rw [ht]; exact hP, va_K.moved hW.alike hK, hD⟩, hS.F ht⟩) hS.2.2 dX12_work_58
    · have ic38 : w30.toInt = 0 := zi_nef rfl rfl c38
      refine lv_iconst (v := 1) hx hb dX12_work_53 (by decide) ?_
      refine lv_goto (tgt := 58) hx hb dX12_work_54 (by decide) ?_
      exact W.zret (v := 1) hx hb hr rfl (fun t ht hW => ⟨⟨1, f33, rfl, ⟨hT, hR, (by first | decide | omega), trivial⟩, by rw [ht]; exact hP, va_K.moved hW.alike hK, hD⟩, hS.F ht⟩) hS.2.2 dX12_work_58
  · have ic37 : w30.toInt > 0 := zi_lef rfl rfl c37
    refine lv_aload_n hx hb dX12_work_6 rfl (lv_at hl 1 rfl) ?_
    refine tpk_pos (tp_in hG ht_h0 (by decide)) hk32k (fun q39 eq39 => ?_)
    refine va_get (D := (dC, dI)) (ci := 12) (v := .int w29) (C := RX12) (T := TX12) (N := 53) hx hb hts hfX12 hown hK hP q39 eq39 rfl 36 (by decide) (hts (.fieldLink RX12 500 "ColdShipsModel" "clock" "I") wa_1428) (fun _ h9 => h9) rfl dX12_work_7 ?_
    refine lv_sipush (v := 2399) hx hb dX12_work_10 (by decide) ?_
    refine lv_icmp_gt (tgt := 49) hx hb dX12_work_13 (by decide) (fun c40 => ?_) (fun c40 => ?_)
    · have ic40 : w29.toInt > 2399 := zi_gt rfl rfl c40
      refine lv_iload_n hx hb dX12_work_49 rfl (lv_at hl 0 rfl) ?_
      refine lv_if_ne (tgt := 57) hx hb dX12_work_50 (by decide) (fun c41 => ?_) (fun c41 => ?_)
      · have ic41 : w30.toInt ≠ 0 := zi_ne rfl rfl c41
        refine lv_iconst (v := 0) hx hb dX12_work_57 (by decide) ?_
        exact W.zret (v := 0) hx hb hr rfl (fun t ht hW => ⟨⟨0, f33, rfl, ⟨hT, hR, (by first | decide | omega), trivial⟩, by rw [ht]; exact hP, va_K.moved hW.alike hK, hD⟩, hS.F ht⟩) hS.2.2 dX12_work_58
      · have ic41 : w30.toInt = 0 := zi_nef rfl rfl c41
        exfalso; omega
    · have ic40 : w29.toInt ≤ 2399 := zi_gtf rfl rfl c40
      refine lv_iload_n hx hb dX12_work_16 rfl (lv_at hl 0 rfl) ?_
      refine lv_aload_n hx hb dX12_work_17 rfl (lv_at hl 1 rfl) ?_
      refine lv_iload_n hx hb dX12_work_18 rfl (lv_at hl 2 rfl) ?_
      refine lv_aload_n hx hb dX12_work_19 rfl (lv_at hl 1 rfl) ?_
      refine va_get (D := (dC, dI)) (ci := 12) (v := .int w29) (C := RX12) (T := TX12) (N := 53) hx hb hts hfX12 hown hK hP q39 eq39 rfl 36 (by decide) (hts (.fieldLink RX12 500 "ColdShipsModel" "clock" "I") wa_1428) (fun _ h9 => h9) rfl dX12_work_20 ?_
      refine pz_calli (va_runV (As := [.int v, .int w29]) (rest := [.int w30]) ⟨hx, hb, hml, hown, hts⟩ (t_X12_isBroken l dC dI _ κ Θ τ ν ρ L f33 hG hT h0 v w29 x b ht_h0 (by omega) (by rw [hk31k, mo_i1]; exact hI)) (cwV 2 hts gX12_work_X12_isBroken rfl rfl rfl ⟨rfl, pd_X12_isBroken⟩ ⟨Nat.le_of_ble_eq_true rfl, Nat.le_of_ble_eq_true rfl⟩) ⟨pz_blind, va_recv hK hP (ci := 12) (q0 := q39) rfl eq39, pz_pre hP hK hD hN⟩ rfl rfl hl.1 rfl (lv_room (Nat.le_of_ble_eq_true rfl)) dX12_work_23 ⟨Nat.le_of_ble_eq_true rfl, Nat.le_of_ble_eq_true rfl⟩) (fun r42 hw43 => ?_)
      obtain ⟨hw43r, hw43p⟩ := hw43
      refine tp_join 34 (fun H locs ls stk => ∃ w44 : Int32, stk = [.int w44, .int w30] ∧ (0 ≤ w44.toInt ∧ w44.toInt ≤ 1) ∧ va_P (dC, dI) vwCl (va_pl L f33) H ∧ va_D A (va_pl L f33) ∧ va_S A s.heap H locs ∧ lv_has ls 4 [(3, .int w30), (0, .ref h0), (1, .int v), (2, .int u)]) ?_ (fun hj45 => ?_)
      · intro H locs ls stk hI
        refine Exists.elim hI (fun w44 hE90 => tn_6 hE90 (fun e90 rw44 hP hD hS hl => ?_))
        clear hE90 hI; subst e90
        refine lv_isub hx hb dX12_work_34 ?_
        refine lv_topi (fun z46 ez46 => ?_)
        have := zi_bd w30
        have iz46 : z46.toInt = w30.toInt - w44.toInt := zi_sub ez46 rfl rfl (by omega) (by omega)
        refine lv_istore_n (lv' := [(3, .int z46), (0, .ref h0), (1, .int v), (2, .int u)]) hx hb dX12_work_35 rfl hl (by decide) rfl (fun ls hl => ?_)
        refine lv_aload_n hx hb dX12_work_36 rfl (lv_at hl 1 rfl) ?_
        refine lv_dup hx hb dX12_work_37 rfl ?_
        refine va_get (D := (dC, dI)) (ci := 12) (v := .int w29) (C := RX12) (T := TX12) (N := 53) hx hb hts hfX12 hown hK hP q39 eq39 rfl 36 (by decide) (hts (.fieldLink RX12 500 "ColdShipsModel" "clock" "I") wa_1428) (fun _ h9 => h9) rfl dX12_work_38 ?_
        refine lv_iconst (v := 1) hx hb dX12_work_41 (by decide) ?_
        refine lv_iadd hx hb dX12_work_42 ?_
        refine lv_topi (fun z47 ez47 => ?_)
        have := zi_bd w29
        have iz47 : z47.toInt = w29.toInt + 1 := zi_add ez47 rfl rfl (by omega) (by omega)
        refine va_put (D := (dC, dI)) (ci := 12) (v := .int z47) (ty := .int) (C := RX12) (T := TX12) (N := 53) hx hb hts hfX12 tyX12 tyX12_ok nmX12 hown hK hP hD hS q39 eq39 rfl 36 (by decide) (hts (.fieldLink RX12 500 "ColdShipsModel" "clock" "I") wa_1428) (fun _ h9 => h9) rfl (tyX12_ok 36 (by decide)) rfl rfl (Nat.le_of_ble_eq_true rfl) dX12_work_43 (tp_k (.inr (12, [.int o28_x0, .int o28_x1, .ref (ρ h0 2), .ref (ρ h0 3), .ref (ρ h0 4), .ref (ρ h0 5), .ref (ρ h0 6), .int o28_x7, .ref (ρ h0 8), .int o28_x9, .int o28_x10, .int o28_x11, .int o28_x12, .long o28_x13, .int o28_x14, .int o28_x15, .int o28_x16, .int o28_x17, .int o28_x18, .int o28_x19, .int o28_x20, .ref (ρ h0 21), .int o28_x22, .ref (ρ h0 23), .ref (ρ h0 24), .int o28_x25, .ref (ρ h0 26), .ref (ρ h0 27), .int o28_x28, .int o28_x29, .ref (ρ h0 30), .ref (ρ h0 31), .int o28_x32, .long o28_x33, .long o28_x34, .long o28_x35, .int z47, .int o28_x37, .int o28_x38, .ref (ρ h0 39), .ref (ρ h0 40), .ref (ρ h0 41), .ref (ρ h0 42), .ref (ρ h0 43), .ref (ρ h0 44), .ref (ρ h0 45), .ref (ρ h0 46), .int o28_x47, .int o28_x48, .ref (ρ h0 49), .ref (ρ h0 50), .ref (ρ h0 51), .ref (ρ h0 52)])) hD (tp_in hG ht_h0 (by decide)) eq39 (fun f48 H locs hP hD hS g50 k49 => ?_))
        have hT := hT.up ht_h0 g50 k49 ⟨_, _, _, _, _, _, _, _, _, _, _, _, _, _, _, _, _, _, _, _, _, _, _, _, _, _, _, _, rfl, ro28_0, ro28_1, ro28_2, ro28_3, ro28_4, ro28_5, ro28_6, ro28_7, ro28_8, ro28_9, ro28_10, ro28_11, ro28_12, ro28_13, ro28_14⟩
        have hR := hR.up ht_h0 (by decide) k49
        refine lv_goto (tgt := 2) hx hb dX12_work_46 (by decide) ?_
        have hf_51 : f48 (ρ h0 2) = .inl (κ 0, 12967, .inl g27) := (k49 _ (tp_ne y1 ht_h0 (by decide))).trans hk31k
        exact ih35 _ _ _ _ (by rw [hn36]; omega) ⟨f48, z47, z46, rfl, hT, hR, hf_51, g50, hP, hD, hS, lv_sub hl [0, 1, 2, 3] rfl⟩
      · refine lv_if_eq (tgt := 33) hx hb dX12_work_26 (by decide) (fun c52 => ?_) (fun c52 => ?_)
        · have ic52 : r42.toInt = 0 := zi_eq rfl rfl c52
          refine lv_iconst (v := 1) hx hb dX12_work_33 (by decide) ?_
          exact hj45 _ _ _ _ ⟨1, rfl, (by have : (1 : Int32).toInt = 1 := rfl; omega), hP, hD, hS, lv_sub hl [0, 1, 2, 3] rfl⟩
        · have ic52 : r42.toInt ≠ 0 := zi_eqf rfl rfl c52
          replace ic52 : 1 ≤ r42.toInt := by omega
          refine lv_iconst (v := 0) hx hb dX12_work_29 (by decide) ?_
          refine lv_goto (tgt := 34) hx hb dX12_work_30 (by decide) ?_
          exact hj45 _ _ _ _ ⟨0, rfl, (by have : (0 : Int32).toInt = 0 := rfl; omega), hP, hD, hS, lv_sub hl [0, 1, 2, 3] rfl⟩
set_option maxHeartbeats 4000000 in
set_option maxRecDepth 100000 in
theorem t_X12_goTo (l : Launch) (dC : Nat → ClassId) (dI : Nat → Nat → Nat) (sz : Nat) (κ : Nat → ClassId) (Θ : Nat → Option Int) (τ ν : Nat → Nat) (ρ : Nat → Nat → Nat) (L : List Nat) (f : Nat → va_E) (hG : tp_G τ ν ρ L) (hT : tp_T (mo_O κ Θ) κ τ ν ρ f) (h0 : Nat) (v : Int32) (u : Int32) (a : Int32) (a4 : Int32) (x : Int) (b : Int) (ht_h0 : τ h0 = 13) (hr_v : 0 ≤ v.toInt ∧ v.toInt ≤ 5) (hbb : 0 ≤ b ∧ b ≤ 1000) (hJ : mo_RI x b (mo_R (mo_i (f (ρ h0 2))))) : Met l yX12_goTo wqX12_goTo ({ frames := 5, cells := 0, slots := 0, locals := 1600 }) (va_Pc [.ref h0, .int v, .int u, .int a, .int a4] (pz_B dC dI (tp_K κ) (va_pl L f) sz)) (va_Qi (fun (r : Int32) (f1 : Nat → va_E) => tp_T (mo_O κ Θ) κ τ ν ρ f1 ∧ tp_F τ [13] f f1 ∧ True ∧ True) (fun (f1 : Nat → va_E) (t : State) => pz_E dC dI (tp_K κ) (va_A (va_pl L f) sz) (va_pl L f1) t) (va_A (va_pl L f) sz)) 0 0 (va_A (va_pl L f) sz) := by
  refine Met.ofW (cc := cX12_goTo) (maxL := 6) (ret := some .int) (by decide) rfl ?_
  intro p e s m args below meth c s₁ B hml hv
  obtain ⟨rfl, hsz, hP, hK, hD0, hN⟩ := hv
  have hx := B.exec
  have hb := B.bytes
  have hr := B.returns
  have hts := fun (w : Cond) (h : w ∈ WALL) => atoms_spec (ws := wqX12_goTo) B.pre w (List.mem_cons_of_mem _ h)
  have hown : s.vm.findClass RX12 = some m.cls := findClass_of_methodNamed B.named
  have hlocks := B.notSynchronized
  subst hsz
  have hD := hD0.self (sz := s.heap.size)
  generalize hAe : va_A (va_pl L f) s.heap.size = A at hD ⊢
  have hA : ∀ q : Nat, s.heap.size ≤ q → A q := fun q h => by rw [← hAe]; exact Or.inr h
  have hS : va_S A s.heap s.heap [] := va_S.rf
  have hR : tp_F τ [13] f f := tp_F.rf
  have hl := lv_entry ([.ref h0, .int v, .int u, .int a, .int a4]) (n := 6) (Nat.le_of_ble_eq_true rfl)
  rw [lg_entry_eq]
  generalize (lg_sl ([.ref h0, .int v, .int u, .int a, .int a4]) ++ List.replicate (6 - (lg_sl ([.ref h0, .int v, .int u, .int a, .int a4])).length) Slot.unset).toArray = ls at hl ⊢
  have hl : lv_has ls 6 [(0, .ref h0), (1, .int v), (2, .int u), (3, .int a), (4, .int a4)] := hl
  refine tgk_13 hG ht_h0 (fun y1 y2 y3 y4 y5 y6 y7 y8 y9 y10 y11 y12 y13 y14 y15 y16 y17 y18 y19 y20 y21 y22 y23 y24 y25 => ?_)
  refine tpk_32 hT y1 (fun g27 hf_o26 => ?_)
  have hI : mo_RI x b (mo_R g27) := by have q9 := hJ; rw [hf_o26, mo_i1] at q9; exact q9
  refine lv_aload_n hx hb dX12_goTo_0 rfl (lv_at hl 0 rfl) ?_
  refine tpk_13 hT ht_h0 (fun o28_x0 o28_x1 o28_x7 o28_x9 o28_x10 o28_x11 o28_x12 o28_x13 o28_x14 o28_x15 o28_x16 o28_x17 o28_x18 o28_x19 o28_x20 o28_x22 o28_x25 o28_x28 o28_x29 o28_x32 o28_x33 o28_x34 o28_x35 o28_x36 o28_x37 o28_x38 o28_x47 o28_x48 hf_o28 ro28_0 ro28_1 ro28_2 ro28_3 ro28_4 ro28_5 ro28_6 ro28_7 ro28_8 ro28_9 ro28_10 ro28_11 ro28_12 ro28_13 ro28_14 => ?_)
  refine tpk_pos (tp_in hG ht_h0 (by decide)) hf_o28 (fun q29 eq29 => ?_)
  have ro28_11 := tp_hu ro28_11
  refine va_get (D := (dC, dI)) (ci := 12) (v := .int o28_x37) (C := RX12) (T := TX12) (N := 53) hx hb hts hfX12 hown hK hP q29 eq29 rfl 37 (by decide) (hts (.fieldLink RX12 503 "ColdShipsModel" "place" "I") wa_1429) (fun _ h9 => h9) rfl dX12_goTo_1 ?_
  refine lv_iload_n hx hb dX12_goTo_4 rfl (lv_at hl 1 rfl) ?_
  refine tp_join 21 (fun H locs ls stk => ∃ w30 : Int32, stk = [.int w30] ∧ va_P (dC, dI) vwCl (va_pl L f) H ∧ va_D A (va_pl L f) ∧ va_S A s.heap H locs ∧ lv_has ls 6 [(0, .ref h0), (1, .int v), (2, .int u), (3, .int a), (4, .int a4)]) ?_ (fun hj31 => ?_)
  · intro H locs ls stk hI
    refine Exists.elim hI (fun w30 hE90 => tn_5 hE90 (fun e90 hP hD hS hl => ?_))
    clear hE90 hI; subst e90
    refine lv_istore (lv' := [(5, .int w30), (0, .ref h0), (1, .int v), (2, .int u), (3, .int a), (4, .int a4)]) hx hb dX12_goTo_21 hl (by decide) rfl (fun ls hl => ?_)
    refine lv_aload_n hx hb dX12_goTo_23 rfl (lv_at hl 1 rfl) ?_
    refine va_get (D := (dC, dI)) (ci := 12) (v := .int o28_x37) (C := RX12) (T := TX12) (N := 53) hx hb hts hfX12 hown hK hP q29 eq29 rfl 37 (by decide) (hts (.fieldLink RX12 503 "ColdShipsModel" "place" "I") wa_1429) (fun _ h9 => h9) rfl dX12_goTo_24 ?_
    refine lv_iload_n hx hb dX12_goTo_27 rfl (lv_at hl 2 rfl) ?_
    refine tp_join 38 (fun H locs ls stk => stk = [] ∧ va_P (dC, dI) vwCl (va_pl L f) H ∧ va_D A (va_pl L f) ∧ va_S A s.heap H locs ∧ lv_has ls 6 [(5, .int w30), (0, .ref h0), (1, .int v), (2, .int u), (3, .int a), (4, .int a4)]) ?_ (fun hj32 => ?_)
    · intro H locs ls stk hI
      refine tn_5 hI (fun e90 hP hD hS hl => ?_)
      clear hI; subst e90
      refine lv_aload_n hx hb dX12_goTo_38 rfl (lv_at hl 1 rfl) ?_
      refine lv_dup hx hb dX12_goTo_39 rfl ?_
      refine va_get (D := (dC, dI)) (ci := 12) (v := .int o28_x36) (C := RX12) (T := TX12) (N := 53) hx hb hts hfX12 hown hK hP q29 eq29 rfl 36 (by decide) (hts (.fieldLink RX12 500 "ColdShipsModel" "clock" "I") wa_1428) (fun _ h9 => h9) rfl dX12_goTo_40 ?_
      refine lv_iload hx hb dX12_goTo_43 (lv_at hl 0 rfl) ?_
      refine lv_iadd hx hb dX12_goTo_45 ?_
      refine lv_topi (fun z33 ez33 => ?_)
      refine va_put (D := (dC, dI)) (ci := 12) (v := .int z33) (ty := .int) (C := RX12) (T := TX12) (N := 53) hx hb hts hfX12 tyX12 tyX12_ok nmX12 hown hK hP hD hS q29 eq29 rfl 36 (by decide) (hts (.fieldLink RX12 500 "ColdShipsModel" "clock" "I") wa_1428) (fun _ h9 => h9) rfl (tyX12_ok 36 (by decide)) rfl rfl (Nat.le_of_ble_eq_true rfl) dX12_goTo_46 (tp_k (.inr (12, [.int o28_x0, .int o28_x1, .ref (ρ h0 2), .ref (ρ h0 3), .ref (ρ h0 4), .ref (ρ h0 5), .ref (ρ h0 6), .int o28_x7, .ref (ρ h0 8), .int o28_x9, .int o28_x10, .int o28_x11, .int o28_x12, .long o28_x13, .int o28_x14, .int o28_x15, .int o28_x16, .int o28_x17, .int o28_x18, .int o28_x19, .int o28_x20, .ref (ρ h0 21), .int o28_x22, .ref (ρ h0 23), .ref (ρ h0 24), .int o28_x25, .ref (ρ h0 26), .ref (ρ h0 27), .int o28_x28, .int o28_x29, .ref (ρ h0 30), .ref (ρ h0 31), .int o28_x32, .long o28_x33, .long o28_x34, .long o28_x35, .int z33, .int o28_x37, .int o28_x38, .ref (ρ h0 39), .ref (ρ h0 40), .ref (ρ h0 41), .ref (ρ h0 42), .ref (ρ h0 43), .ref (ρ h0 44), .ref (ρ h0 45), .ref (ρ h0 46), .int o28_x47, .int o28_x48, .ref (ρ h0 49), .ref (ρ h0 50), .ref (ρ h0 51), .ref (ρ h0 52)])) hD (tp_in hG ht_h0 (by decide)) eq29 (fun f34 H locs hP hD hS g36 k35 => ?_))
      have hT := hT.up ht_h0 g36 k35 ⟨_, _, _, _, _, _, _, _, _, _, _, _, _, _, _, _, _, _, _, _, _, _, _, _, _, _, _, _, rfl, ro28_0, ro28_1, ro28_2, ro28_3, ro28_4, ro28_5, ro28_6, ro28_7, ro28_8, ro28_9, ro28_10, ro28_11, ro28_12, ro28_13, ro28_14⟩
      have hR := hR.up ht_h0 (by decide) k35
      refine lv_aload_n hx hb dX12_goTo_49 rfl (lv_at hl 1 rfl) ?_
      refine lv_aload_n hx hb dX12_goTo_50 rfl (lv_at hl 1 rfl) ?_
      refine tpk_pos (tp_in hG ht_h0 (by decide)) g36 (fun q37 eq37 => ?_)
      refine va_get (D := (dC, dI)) (ci := 12) (v := .int z33) (C := RX12) (T := TX12) (N := 53) hx hb hts hfX12 hown hK hP q37 eq37 rfl 36 (by decide) (hts (.fieldLink RX12 500 "ColdShipsModel" "clock" "I") wa_1428) (fun _ h9 => h9) rfl dX12_goTo_51 ?_
      refine lv_iload_n hx hb dX12_goTo_54 rfl (lv_at hl 3 rfl) ?_
      refine tp_join 66 (fun H locs ls stk => ∃ w38 : Int32, stk = [.int w38, .ref h0] ∧ va_P (dC, dI) vwCl (va_pl L f34) H ∧ va_D A (va_pl L f34) ∧ va_S A s.heap H locs ∧ lv_has ls 6 [(5, .int w30), (0, .ref h0), (1, .int v), (2, .int u), (3, .int a), (4, .int a4)]) ?_ (fun hj39 => ?_)
      · intro H locs ls stk hI
        refine Exists.elim hI (fun w38 hE90 => tn_5 hE90 (fun e90 hP hD hS hl => ?_))
        clear hE90 hI; subst e90
        refine va_put (D := (dC, dI)) (ci := 12) (v := .int w38) (ty := .int) (C := RX12) (T := TX12) (N := 53) hx hb hts hfX12 tyX12 tyX12_ok nmX12 hown hK hP hD hS q37 eq37 rfl 36 (by decide) (hts (.fieldLink RX12 500 "ColdShipsModel" "clock" "I") wa_1428) (fun _ h9 => h9) rfl (tyX12_ok 36 (by decide)) rfl rfl (Nat.le_of_ble_eq_true rfl) dX12_goTo_66 (tp_k (.inr (12, [.int o28_x0, .int o28_x1, .ref (ρ h0 2), .ref (ρ h0 3), .ref (ρ h0 4), .ref (ρ h0 5), .ref (ρ h0 6), .int o28_x7, .ref (ρ h0 8), .int o28_x9, .int o28_x10, .int o28_x11, .int o28_x12, .long o28_x13, .int o28_x14, .int o28_x15, .int o28_x16, .int o28_x17, .int o28_x18, .int o28_x19, .int o28_x20, .ref (ρ h0 21), .int o28_x22, .ref (ρ h0 23), .ref (ρ h0 24), .int o28_x25, .ref (ρ h0 26), .ref (ρ h0 27), .int o28_x28, .int o28_x29, .ref (ρ h0 30), .ref (ρ h0 31), .int o28_x32, .long o28_x33, .long o28_x34, .long o28_x35, .int w38, .int o28_x37, .int o28_x38, .ref (ρ h0 39), .ref (ρ h0 40), .ref (ρ h0 41), .ref (ρ h0 42), .ref (ρ h0 43), .ref (ρ h0 44), .ref (ρ h0 45), .ref (ρ h0 46), .int o28_x47, .int o28_x48, .ref (ρ h0 49), .ref (ρ h0 50), .ref (ρ h0 51), .ref (ρ h0 52)])) hD (tp_in hG ht_h0 (by decide)) eq37 (fun f40 H locs hP hD hS g42 k41 => ?_))
        have hT := hT.up ht_h0 g42 k41 ⟨_, _, _, _, _, _, _, _, _, _, _, _, _, _, _, _, _, _, _, _, _, _, _, _, _, _, _, _, rfl, ro28_0, ro28_1, ro28_2, ro28_3, ro28_4, ro28_5, ro28_6, ro28_7, ro28_8, ro28_9, ro28_10, ro28_11, ro28_12, ro28_13, ro28_14⟩
        have hR := hR.up ht_h0 (by decide) k41
        refine lv_aload_n hx hb dX12_goTo_69 rfl (lv_at hl 1 rfl) ?_
        refine tpk_pos (tp_in hG ht_h0 (by decide)) g42 (fun q43 eq43 => ?_)
        refine va_get (D := (dC, dI)) (ci := 12) (v := .int w38) (C := RX12) (T := TX12) (N := 53) hx hb hts hfX12 hown hK hP q43 eq43 rfl 36 (by decide) (hts (.fieldLink RX12 500 "ColdShipsModel" "clock" "I") wa_1428) (fun _ h9 => h9) rfl dX12_goTo_70 ?_
        refine lv_iload_n hx hb dX12_goTo_73 rfl (lv_at hl 4 rfl) ?_
        refine lv_icmp_le (tgt := 79) hx hb dX12_goTo_74 (by decide) (fun c44 => ?_) (fun c44 => ?_)
        · have ic44 : w38.toInt ≤ a.toInt := zi_le rfl rfl c44
          refine lv_aload_n hx hb dX12_goTo_79 rfl (lv_at hl 1 rfl) ?_
          refine lv_aload_n hx hb dX12_goTo_80 rfl (lv_at hl 1 rfl) ?_
          refine va_get (D := (dC, dI)) (ci := 12) (v := .int w38) (C := RX12) (T := TX12) (N := 53) hx hb hts hfX12 hown hK hP q43 eq43 rfl 36 (by decide) (hts (.fieldLink RX12 500 "ColdShipsModel" "clock" "I") wa_1428) (fun _ h9 => h9) rfl dX12_goTo_81 ?_
          refine va_put (D := (dC, dI)) (ci := 12) (v := .int w38) (ty := .int) (C := RX12) (T := TX12) (N := 53) hx hb hts hfX12 tyX12 tyX12_ok nmX12 hown hK hP hD hS q43 eq43 rfl 38 (by decide) (hts (.fieldLink RX12 506 "ColdShipsModel" "began" "I") wa_1434) (fun _ h9 => h9) rfl (tyX12_ok 38 (by decide)) rfl rfl (Nat.le_of_ble_eq_true rfl) dX12_goTo_84 (tp_k (.inr (12, [.int o28_x0, .int o28_x1, .ref (ρ h0 2), .ref (ρ h0 3), .ref (ρ h0 4), .ref (ρ h0 5), .ref (ρ h0 6), .int o28_x7, .ref (ρ h0 8), .int o28_x9, .int o28_x10, .int o28_x11, .int o28_x12, .long o28_x13, .int o28_x14, .int o28_x15, .int o28_x16, .int o28_x17, .int o28_x18, .int o28_x19, .int o28_x20, .ref (ρ h0 21), .int o28_x22, .ref (ρ h0 23), .ref (ρ h0 24), .int o28_x25, .ref (ρ h0 26), .ref (ρ h0 27), .int o28_x28, .int o28_x29, .ref (ρ h0 30), .ref (ρ h0 31), .int o28_x32, .long o28_x33, .long o28_x34, .long o28_x35, .int w38, .int o28_x37, .int w38, .ref (ρ h0 39), .ref (ρ h0 40), .ref (ρ h0 41), .ref (ρ h0 42), .ref (ρ h0 43), .ref (ρ h0 44), .ref (ρ h0 45), .ref (ρ h0 46), .int o28_x47, .int o28_x48, .ref (ρ h0 49), .ref (ρ h0 50), .ref (ρ h0 51), .ref (ρ h0 52)])) hD (tp_in hG ht_h0 (by decide)) eq43 (fun f45 H locs hP hD hS g47 k46 => ?_))
          have hT := hT.up ht_h0 g47 k46 ⟨_, _, _, _, _, _, _, _, _, _, _, _, _, _, _, _, _, _, _, _, _, _, _, _, _, _, _, _, rfl, ro28_0, ro28_1, ro28_2, ro28_3, ro28_4, ro28_5, ro28_6, ro28_7, ro28_8, ro28_9, ro28_10, ro28_11, ro28_12, ro28_13, ro28_14⟩
          have hR := hR.up ht_h0 (by decide) k46
          refine lv_aload_n hx hb dX12_goTo_87 rfl (lv_at hl 1 rfl) ?_
          refine lv_iload_n hx hb dX12_goTo_88 rfl (lv_at hl 2 rfl) ?_
          refine tpk_pos (tp_in hG ht_h0 (by decide)) g47 (fun q48 eq48 => ?_)
          refine va_put (D := (dC, dI)) (ci := 12) (v := .int v) (ty := .int) (C := RX12) (T := TX12) (N := 53) hx hb hts hfX12 tyX12 tyX12_ok nmX12 hown hK hP hD hS q48 eq48 rfl 37 (by decide) (hts (.fieldLink RX12 503 "ColdShipsModel" "place" "I") wa_1429) (fun _ h9 => h9) rfl (tyX12_ok 37 (by decide)) rfl rfl (Nat.le_of_ble_eq_true rfl) dX12_goTo_89 (tp_k (.inr (12, [.int o28_x0, .int o28_x1, .ref (ρ h0 2), .ref (ρ h0 3), .ref (ρ h0 4), .ref (ρ h0 5), .ref (ρ h0 6), .int o28_x7, .ref (ρ h0 8), .int o28_x9, .int o28_x10, .int o28_x11, .int o28_x12, .long o28_x13, .int o28_x14, .int o28_x15, .int o28_x16, .int o28_x17, .int o28_x18, .int o28_x19, .int o28_x20, .ref (ρ h0 21), .int o28_x22, .ref (ρ h0 23), .ref (ρ h0 24), .int o28_x25, .ref (ρ h0 26), .ref (ρ h0 27), .int o28_x28, .int o28_x29, .ref (ρ h0 30), .ref (ρ h0 31), .int o28_x32, .long o28_x33, .long o28_x34, .long o28_x35, .int w38, .int v, .int w38, .ref (ρ h0 39), .ref (ρ h0 40), .ref (ρ h0 41), .ref (ρ h0 42), .ref (ρ h0 43), .ref (ρ h0 44), .ref (ρ h0 45), .ref (ρ h0 46), .int o28_x47, .int o28_x48, .ref (ρ h0 49), .ref (ρ h0 50), .ref (ρ h0 51), .ref (ρ h0 52)])) hD (tp_in hG ht_h0 (by decide)) eq48 (fun f49 H locs hP hD hS g51 k50 => ?_))
          have hT := hT.up ht_h0 g51 k50 ⟨_, _, _, _, _, _, _, _, _, _, _, _, _, _, _, _, _, _, _, _, _, _, _, _, _, _, _, _, rfl, ro28_0, ro28_1, ro28_2, ro28_3, ro28_4, ro28_5, ro28_6, ro28_7, ro28_8, ro28_9, ro28_10, (by omega), ro28_12, ro28_13, ro28_14⟩
          have hR := hR.up ht_h0 (by decide) k50
          refine lv_aload_n hx hb dX12_goTo_92 rfl (lv_at hl 1 rfl) ?_
          refine lv_iload_n hx hb dX12_goTo_93 rfl (lv_at hl 2 rfl) ?_
          refine lv_iload hx hb dX12_goTo_94 (lv_at hl 5 rfl) ?_
          have hf_52 : f34 (ρ h0 2) = .inl (κ 0, 12967, .inl g27) := (k35 _ (tp_ne y1 ht_h0 (by decide))).trans hf_o26
          have hf_53 : f40 (ρ h0 2) = .inl (κ 0, 12967, .inl g27) := (k41 _ (tp_ne y1 ht_h0 (by decide))).trans hf_52
          have hf_54 : f45 (ρ h0 2) = .inl (κ 0, 12967, .inl g27) := (k46 _ (tp_ne y1 ht_h0 (by decide))).trans hf_53
          have hf_55 : f49 (ρ h0 2) = .inl (κ 0, 12967, .inl g27) := (k50 _ (tp_ne y1 ht_h0 (by decide))).trans hf_54
          refine tpk_pos (tp_in hG ht_h0 (by decide)) g51 (fun q56 eq56 => ?_)
          have hFc := tp_fr hD hS hA
          refine va_calli (va_runV (As := [.int v, .int a4]) (rest := []) ⟨hx, hb, hml, hown, hts⟩ (t_X12_work l dC dI _ κ Θ τ ν ρ L f49 hG hT h0 v a4 x b ht_h0 (by omega) (by rw [hf_55, mo_i1]; exact hI)) (cwV 2 hts gX12_goTo_X12_work rfl rfl rfl ⟨rfl, pd_X12_work⟩ ⟨Nat.le_of_ble_eq_true rfl, Nat.le_of_ble_eq_true rfl⟩) ⟨pz_blind, va_recv hK hP (ci := 12) (q0 := q56) rfl eq56, pz_pre hP hK hD hN⟩ rfl rfl hl.1 rfl (lv_room (Nat.le_of_ble_eq_true rfl)) dX12_goTo_96 ⟨Nat.le_of_ble_eq_true rfl, Nat.le_of_ble_eq_true rfl⟩) hS (fun q _ h => hFc q h) hFc (fun r57 f59 t H1 locs ht hvm hw58 hB hz1 hk1 hS => ?_)
          refine tn_4 hw58 (fun hT hF60 hw58r hw58p => ?_); clear hw58
          have hR := hR.then hF60 (by decide)
          have hP := hB.1; rw [ht] at hP; have hD := tp_ad f59 hD; clear hB hFc hz1 hk1; subst ht; generalize t.heap = H at hP hS ⊢
          refine lv_if_eq (tgt := 107) hx hb dX12_goTo_99 (by decide) (fun c61 => ?_) (fun c61 => ?_)
          · have ic61 : r57.toInt = 0 := zi_eq rfl rfl c61
            refine lv_iconst (v := (-1)) hx hb dX12_goTo_107 (by decide) ?_
            exact W.iret (v := (-1)) hx hb hr (fun t ht hW => ⟨⟨(-1), f59, rfl, ⟨hT, hR, trivial, trivial⟩, by rw [ht]; exact hP, va_K.moved hW.alike hK, hD⟩, hS.F ht⟩) hS.2.2 dX12_goTo_108
          · have ic61 : r57.toInt ≠ 0 := zi_eqf rfl rfl c61
            replace ic61 : 1 ≤ r57.toInt := by omega
            refine lv_iload hx hb dX12_goTo_102 (lv_at hl 0 rfl) ?_
            refine lv_goto (tgt := 108) hx hb dX12_goTo_104 (by decide) ?_
            exact W.iret (v := w30) hx hb hr (fun t ht hW => ⟨⟨w30, f59, rfl, ⟨hT, hR, trivial, trivial⟩, by rw [ht]; exact hP, va_K.moved hW.alike hK, hD⟩, hS.F ht⟩) hS.2.2 dX12_goTo_108
        · have ic44 : w38.toInt > a.toInt := zi_lef rfl rfl c44
          refine lv_iconst (v := (-1)) hx hb dX12_goTo_77 (by decide) ?_
          exact W.iret (v := (-1)) hx hb hr (fun t ht hW => ⟨⟨(-1), f40, rfl, ⟨hT, hR, trivial, trivial⟩, by rw [ht]; exact hP, va_K.moved hW.alike hK, hD⟩, hS.F ht⟩) hS.2.2 dX12_goTo_78
      · refine lv_icmp_ge (tgt := 62) hx hb dX12_goTo_55 (by decide) (fun c62 => ?_) (fun c62 => ?_)
        · have ic62 : z33.toInt ≥ u.toInt := zi_ge rfl rfl c62
          refine lv_aload_n hx hb dX12_goTo_62 rfl (lv_at hl 1 rfl) ?_
          refine va_get (D := (dC, dI)) (ci := 12) (v := .int z33) (C := RX12) (T := TX12) (N := 53) hx hb hts hfX12 hown hK hP q37 eq37 rfl 36 (by decide) (hts (.fieldLink RX12 500 "ColdShipsModel" "clock" "I") wa_1428) (fun _ h9 => h9) rfl dX12_goTo_63 ?_
          exact hj39 _ _ _ _ ⟨z33, rfl, hP, hD, hS, lv_sub hl [0, 1, 2, 3, 4, 5] rfl⟩
        · have ic62 : z33.toInt < u.toInt := zi_gef rfl rfl c62
          refine lv_iload_n hx hb dX12_goTo_58 rfl (lv_at hl 3 rfl) ?_
          refine lv_goto (tgt := 66) hx hb dX12_goTo_59 (by decide) ?_
          exact hj39 _ _ _ _ ⟨u, rfl, hP, hD, hS, lv_sub hl [0, 1, 2, 3, 4, 5] rfl⟩
    · refine lv_icmp_eq (tgt := 38) hx hb dX12_goTo_28 (by decide) (fun c63 => ?_) (fun c63 => ?_)
      · have ic63 : o28_x37.toInt = v.toInt := zi_eq rfl rfl c63
        exact hj32 _ _ _ _ ⟨rfl, hP, hD, hS, lv_sub hl [0, 1, 2, 3, 4, 5] rfl⟩
      · have ic63 : o28_x37.toInt ≠ v.toInt := zi_eqf rfl rfl c63
        refine lv_iload hx hb dX12_goTo_31 (lv_at hl 0 rfl) ?_
        refine lv_if_ne (tgt := 38) hx hb dX12_goTo_33 (by decide) (fun c64 => ?_) (fun c64 => ?_)
        · have ic64 : w30.toInt ≠ 0 := zi_ne rfl rfl c64
          exact hj32 _ _ _ _ ⟨rfl, hP, hD, hS, lv_sub hl [0, 1, 2, 3, 4, 5] rfl⟩
        · have ic64 : w30.toInt = 0 := zi_nef rfl rfl c64
          refine lv_iconst (v := (-1)) hx hb dX12_goTo_36 (by decide) ?_
          exact W.iret (v := (-1)) hx hb hr (fun t ht hW => ⟨⟨(-1), f, rfl, ⟨hT, hR, trivial, trivial⟩, by rw [ht]; exact hP, va_K.moved hW.alike hK, hD⟩, hS.F ht⟩) hS.2.2 dX12_goTo_37
  · refine lv_icmp_ne (tgt := 12) hx hb dX12_goTo_5 (by decide) (fun c65 => ?_) (fun c65 => ?_)
    · have ic65 : o28_x37.toInt ≠ v.toInt := zi_ne rfl rfl c65
      refine lv_aload_n hx hb dX12_goTo_12 rfl (lv_at hl 0 rfl) ?_
      refine lv_aload_n hx hb dX12_goTo_13 rfl (lv_at hl 0 rfl) ?_
      refine va_get (D := (dC, dI)) (ci := 12) (v := .int o28_x37) (C := RX12) (T := TX12) (N := 53) hx hb hts hfX12 hown hK hP q29 eq29 rfl 37 (by decide) (hts (.fieldLink RX12 503 "ColdShipsModel" "place" "I") wa_1429) (fun _ h9 => h9) rfl dX12_goTo_14 ?_
      refine lv_iload_n hx hb dX12_goTo_17 rfl (lv_at hl 1 rfl) ?_
      refine pz_calli (va_runV (As := [.int o28_x37, .int v]) (rest := []) ⟨hx, hb, hml, hown, hts⟩ (t_X12_wayOf l dC dI _ κ Θ τ ν ρ L f hG hT h0 o28_x37 v x b ht_h0 (by first | decide | omega) (by first | decide | omega) (by omega) (by rw [hf_o26, mo_i1]; exact hI)) (cwV 2 hts gX12_goTo_X12_wayOf rfl rfl rfl ⟨rfl, pd_X12_wayOf⟩ ⟨Nat.le_of_ble_eq_true rfl, Nat.le_of_ble_eq_true rfl⟩) ⟨pz_blind, va_recv hK hP (ci := 12) (q0 := q29) rfl eq29, pz_pre hP hK hD hN⟩ rfl rfl hl.1 rfl (lv_room (Nat.le_of_ble_eq_true rfl)) dX12_goTo_18 ⟨Nat.le_of_ble_eq_true rfl, Nat.le_of_ble_eq_true rfl⟩) (fun r66 hw67 => ?_)
      obtain ⟨hw67r, hw67p⟩ := hw67
      exact hj31 _ _ _ _ ⟨r66, rfl, hP, hD, hS, lv_sub hl [0, 1, 2, 3, 4] rfl⟩
    · have ic65 : o28_x37.toInt = v.toInt := zi_nef rfl rfl c65
      refine lv_iconst (v := 0) hx hb dX12_goTo_8 (by decide) ?_
      refine lv_goto (tgt := 21) hx hb dX12_goTo_9 (by decide) ?_
      exact hj31 _ _ _ _ ⟨0, rfl, hP, hD, hS, lv_sub hl [0, 1, 2, 3, 4] rfl⟩
set_option maxHeartbeats 4000000 in
set_option maxRecDepth 100000 in
theorem t_X12_carry (l : Launch) (dC : Nat → ClassId) (dI : Nat → Nat → Nat) (sz : Nat) (κ : Nat → ClassId) (Θ : Nat → Option Int) (τ ν : Nat → Nat) (ρ : Nat → Nat → Nat) (L : List Nat) (f : Nat → va_E) (hG : tp_G τ ν ρ L) (hT : tp_T (mo_O κ Θ) κ τ ν ρ f) (h0 : Nat) (v : Int32) (u : Int32) (x : Int) (b : Int) (ht_h0 : τ h0 = 13) (hbb : 0 ≤ b ∧ b ≤ 1000) (hJ : mo_RI x b (mo_R (mo_i (f (ρ h0 2))))) (hv1 : 0 ≤ v.toInt ∧ v.toInt < (mo_R (mo_i (f (ρ h0 2)))) (1)) (hu10 : 0 ≤ u.toInt ∧ u.toInt < (mo_R (mo_i (f (ρ h0 2)))) (10)) : Met l yX12_carry wqX12_carry ({ frames := 6, cells := 0, slots := 0, locals := 2000 }) (va_Pc [.ref h0, .int v, .int u] (pz_B dC dI (tp_K κ) (va_pl L f) sz)) (va_Qi (fun (r : Int32) (f1 : Nat → va_E) => tp_T (mo_O κ Θ) κ τ ν ρ f1 ∧ tp_F τ [13, 69, 70, 71] f f1 ∧ (0 ≤ r.toInt ∧ r.toInt ≤ 1) ∧ True) (fun (f1 : Nat → va_E) (t : State) => pz_E dC dI (tp_K κ) (va_A (va_pl L f) sz) (va_pl L f1) t) (va_A (va_pl L f) sz)) 0 0 (va_A (va_pl L f) sz) := by
  refine Met.ofW (cc := cX12_carry) (maxL := 12) (ret := some .boolean) (by decide) rfl ?_
  intro p e s m args below meth c s₁ B hml hv
  obtain ⟨rfl, hsz, hP, hK, hD0, hN⟩ := hv
  have hx := B.exec
  have hb := B.bytes
  have hr := B.returns
  have hts := fun (w : Cond) (h : w ∈ WALL) => atoms_spec (ws := wqX12_carry) B.pre w (List.mem_cons_of_mem _ h)
  have hown : s.vm.findClass RX12 = some m.cls := findClass_of_methodNamed B.named
  have hlocks := B.notSynchronized
  subst hsz
  have hD := hD0.self (sz := s.heap.size)
  generalize hAe : va_A (va_pl L f) s.heap.size = A at hD ⊢
  have hA : ∀ q : Nat, s.heap.size ≤ q → A q := fun q h => by rw [← hAe]; exact Or.inr h
  have hS : va_S A s.heap s.heap [] := va_S.rf
  have hR : tp_F τ [13, 69, 70, 71] f f := tp_F.rf
  have hl := lv_entry ([.ref h0, .int v, .int u]) (n := 12) (Nat.le_of_ble_eq_true rfl)
  rw [lg_entry_eq]
  generalize (lg_sl ([.ref h0, .int v, .int u]) ++ List.replicate (12 - (lg_sl ([.ref h0, .int v, .int u])).length) Slot.unset).toArray = ls at hl ⊢
  have hl : lv_has ls 12 [(0, .ref h0), (1, .int v), (2, .int u)] := hl
  refine tgk_13 hG ht_h0 (fun y1 y2 y3 y4 y5 y6 y7 y8 y9 y10 y11 y12 y13 y14 y15 y16 y17 y18 y19 y20 y21 y22 y23 y24 y25 => ?_)
  refine tpk_32 hT y1 (fun g27 hf_o26 => ?_)
  have hI : mo_RI x b (mo_R g27) := by have q9 := hJ; rw [hf_o26, mo_i1] at q9; exact q9
  rw [hf_o26, mo_i1] at hv1
  rw [hf_o26, mo_i1] at hu10
  have := hI.k0; have := hI.k1; have := hI.k10
  refine lv_sipush (v := 12919) hx hb dX12_carry_0 (by decide) ?_
  refine lv_bipush (v := 8) hx hb dX12_carry_3 (by decide) ?_
  refine lv_iload_n hx hb dX12_carry_5 rfl (lv_at hl 2 rfl) ?_
  refine lv_imul hx hb dX12_carry_6 ?_
  refine lv_topi (fun z28 ez28 => ?_)
  have iz28 : z28.toInt = 8 * u.toInt := zi_mul ez28 rfl rfl (by omega) (by omega)
  refine lv_iadd hx hb dX12_carry_7 ?_
  refine lv_topi (fun z29 ez29 => ?_)
  have iz29 : z29.toInt = 12919 + z28.toInt := zi_add ez29 rfl rfl (by omega) (by omega)
  refine lv_istore_n (lv' := [(3, .int z29), (0, .ref h0), (1, .int v), (2, .int u)]) hx hb dX12_carry_8 rfl hl (by decide) rfl (fun ls hl => ?_)
  refine lv_iload_n hx hb dX12_carry_9 rfl (lv_at hl 2 rfl) ?_
  refine pz_calli (va_runS (As := [.int v]) (rest := []) ⟨hx, hb, hml, hown, hts⟩ (t_X12_shipAt l dC dI _ v (v.toInt) (by omega) rfl) (va_cwS 1 hts gX12_carry_X12_shipAt rfl rfl rfl pd_X12_shipAt ⟨Nat.le_of_ble_eq_true rfl, Nat.le_of_ble_eq_true rfl⟩) ⟨pz_blind, pz_pre pz_P0 (hK.sub (tys' := []) [] rfl) (pz_D0 (A := fun _ => True)) hN⟩ rfl rfl hl.1 rfl (lv_room (Nat.le_of_ble_eq_true rfl)) dX12_carry_10 ⟨Nat.le_of_ble_eq_true rfl, Nat.le_of_ble_eq_true rfl⟩) (fun r30 hw31 => ?_)
  obtain ⟨hw31r, hw31p⟩ := hw31
  refine lv_istore (lv' := [(4, .int r30), (3, .int z29), (0, .ref h0), (1, .int v), (2, .int u)]) hx hb dX12_carry_13 hl (by decide) rfl (fun ls hl => ?_)
  refine lv_aload_n hx hb dX12_carry_15 rfl (lv_at hl 2 rfl) ?_
  refine tpk_13 hT ht_h0 (fun o32_x0 o32_x1 o32_x7 o32_x9 o32_x10 o32_x11 o32_x12 o32_x13 o32_x14 o32_x15 o32_x16 o32_x17 o32_x18 o32_x19 o32_x20 o32_x22 o32_x25 o32_x28 o32_x29 o32_x32 o32_x33 o32_x34 o32_x35 o32_x36 o32_x37 o32_x38 o32_x47 o32_x48 hf_o32 ro32_0 ro32_1 ro32_2 ro32_3 ro32_4 ro32_5 ro32_6 ro32_7 ro32_8 ro32_9 ro32_10 ro32_11 ro32_12 ro32_13 ro32_14 => ?_)
  refine tpk_pos (tp_in hG ht_h0 (by decide)) hf_o32 (fun q33 eq33 => ?_)
  refine va_get (D := (dC, dI)) (ci := 12) (v := .ref (ρ h0 2)) (C := RX12) (T := TX12) (N := 53) hx hb hts hfX12 hown hK hP q33 eq33 rfl 2 (by decide) (hts (.fieldLink RX12 7 "ColdShipsModel" "row" "[I") wa_148) (fun _ h9 => h9) rfl dX12_carry_16 ?_
  refine lv_iload_n hx hb dX12_carry_19 rfl (lv_at hl 1 rfl) ?_
  refine lv_bipush (v := 6) hx hb dX12_carry_20 (by decide) ?_
  refine lv_iadd hx hb dX12_carry_22 ?_
  refine lv_topi (fun z34 ez34 => ?_)
  have iz34 : z34.toInt = z29.toInt + 6 := zi_add ez34 rfl rfl (by omega) (by omega)
  refine tpk_pos (tp_in hG y1 (by decide)) hf_o26 (fun q35 eq35 => ?_)
  refine va_iald hx hb hK hP q35 0 eq35 rfl (vp_in_iff.mpr ⟨by omega, by omega⟩) dX12_carry_23 ?_
  refine lv_topi (fun z36 ez36 => ?_)
  refine lv_istore (lv' := [(5, .int z36), (4, .int r30), (3, .int z29), (0, .ref h0), (1, .int v), (2, .int u)]) hx hb dX12_carry_24 hl (by decide) rfl (fun ls hl => ?_)
  refine lv_iload hx hb dX12_carry_26 (lv_at hl 0 rfl) ?_
  refine lv_aload_n hx hb dX12_carry_28 rfl (lv_at hl 3 rfl) ?_
  refine lv_iload hx hb dX12_carry_29 (lv_at hl 1 rfl) ?_
  refine pz_calli (va_runV (As := [.int r30]) (rest := [.int z36]) ⟨hx, hb, hml, hown, hts⟩ (t_X12_topOf l dC dI _ κ Θ τ ν ρ L f hG hT h0 r30 x b v.toInt ht_h0 (by omega) (by omega) (by omega) (by rw [hf_o26, mo_i1]; exact hI) (by first | (simp only [hf_o26, mo_i1]; omega) | (simp only [hf_o26, mo_i1]; trivial) | (simp only [hf_o26, mo_i1]; done) | omega)) (cwV 1 hts gX12_carry_X12_topOf rfl rfl rfl ⟨rfl, pd_X12_topOf⟩ ⟨Nat.le_of_ble_eq_true rfl, Nat.le_of_ble_eq_true rfl⟩) ⟨pz_blind, va_recv hK hP (ci := 12) (q0 := q33) rfl eq33, pz_pre hP hK hD hN⟩ rfl rfl hl.1 rfl (lv_room (Nat.le_of_ble_eq_true rfl)) dX12_carry_31 ⟨Nat.le_of_ble_eq_true rfl, Nat.le_of_ble_eq_true rfl⟩) (fun r37 hw38 => ?_)
  obtain ⟨hw38r, hw38p⟩ := hw38
  rw [hf_o26, mo_i1] at hw38p
  refine lv_icmp_le (tgt := 39) hx hb dX12_carry_34 (by decide) (fun c39 => ?_) (fun c39 => ?_)
  · have ic39 : z36.toInt ≤ r37.toInt := zi_le rfl rfl c39
    refine lv_aload_n hx hb dX12_carry_39 rfl (lv_at hl 3 rfl) ?_
    refine va_get (D := (dC, dI)) (ci := 12) (v := .ref (ρ h0 2)) (C := RX12) (T := TX12) (N := 53) hx hb hts hfX12 hown hK hP q33 eq33 rfl 2 (by decide) (hts (.fieldLink RX12 7 "ColdShipsModel" "row" "[I") wa_148) (fun _ h9 => h9) rfl dX12_carry_40 ?_
    refine lv_aload_n hx hb dX12_carry_43 rfl (lv_at hl 3 rfl) ?_
    refine va_get (D := (dC, dI)) (ci := 12) (v := .ref (ρ h0 2)) (C := RX12) (T := TX12) (N := 53) hx hb hts hfX12 hown hK hP q33 eq33 rfl 2 (by decide) (hts (.fieldLink RX12 7 "ColdShipsModel" "row" "[I") wa_148) (fun _ h9 => h9) rfl dX12_carry_44 ?_
    refine lv_iload_n hx hb dX12_carry_47 rfl (lv_at hl 2 rfl) ?_
    refine va_iald hx hb hK hP q35 0 eq35 rfl (vp_in_iff.mpr ⟨by omega, by omega⟩) dX12_carry_48 ?_
    refine lv_topi (fun z40 ez40 => ?_)
    have jz40 : z40.toInt = mo_R g27 (12919 + 8 * u.toInt + 0) := mo_rd ez40 (by omega)
    have kz40 := hI.A0 (k := u.toInt) (by omega) (by omega)
    refine pz_calli (va_runS (As := [.int z40]) (rest := [.ref (ρ h0 2)]) ⟨hx, hb, hml, hown, hts⟩ (t_X12_terminalAt l dC dI _ z40 (z40.toInt) (by omega) rfl) (va_cwS 1 hts gX12_carry_X12_terminalAt rfl rfl rfl pd_X12_terminalAt ⟨Nat.le_of_ble_eq_true rfl, Nat.le_of_ble_eq_true rfl⟩) ⟨pz_blind, pz_pre pz_P0 (hK.sub (tys' := []) [] rfl) (pz_D0 (A := fun _ => True)) hN⟩ rfl rfl hl.1 rfl (lv_room (Nat.le_of_ble_eq_true rfl)) dX12_carry_49 ⟨Nat.le_of_ble_eq_true rfl, Nat.le_of_ble_eq_true rfl⟩) (fun r41 hw42 => ?_)
    obtain ⟨hw42r, hw42p⟩ := hw42
    refine lv_iconst (v := 2) hx hb dX12_carry_52 (by decide) ?_
    refine lv_iadd hx hb dX12_carry_53 ?_
    refine lv_topi (fun z43 ez43 => ?_)
    have iz43 : z43.toInt = r41.toInt + 2 := zi_add ez43 rfl rfl (by omega) (by omega)
    refine va_iald hx hb hK hP q35 0 eq35 rfl (vp_in_iff.mpr ⟨by omega, by omega⟩) dX12_carry_54 ?_
    refine lv_topi (fun z44 ez44 => ?_)
    have jz44 : z44.toInt = mo_R g27 (20 + 5 * z40.toInt + 2) := mo_rd ez44 (by omega)
    have kz44 := hI.T (t := z40.toInt) (by omega) (by omega)
    refine lv_istore (lv' := [(6, .int z44), (5, .int z36), (4, .int r30), (3, .int z29), (0, .ref h0), (1, .int v), (2, .int u)]) hx hb dX12_carry_55 hl (by decide) rfl (fun ls hl => ?_)
    refine lv_aload_n hx hb dX12_carry_57 rfl (lv_at hl 4 rfl) ?_
    refine lv_aload_n hx hb dX12_carry_58 rfl (lv_at hl 4 rfl) ?_
    refine va_get (D := (dC, dI)) (ci := 12) (v := .ref (ρ h0 2)) (C := RX12) (T := TX12) (N := 53) hx hb hts hfX12 hown hK hP q33 eq33 rfl 2 (by decide) (hts (.fieldLink RX12 7 "ColdShipsModel" "row" "[I") wa_148) (fun _ h9 => h9) rfl dX12_carry_59 ?_
    refine lv_iload_n hx hb dX12_carry_62 rfl (lv_at hl 3 rfl) ?_
    refine va_iald hx hb hK hP q35 0 eq35 rfl (vp_in_iff.mpr ⟨by omega, by omega⟩) dX12_carry_63 ?_
    refine lv_topi (fun z45 ez45 => ?_)
    have jz45 : z45.toInt = mo_R g27 (12919 + 8 * u.toInt + 0) := mo_rd ez45 (by omega)
    have kz45 := hI.A0 (k := u.toInt) (by omega) (by omega)
    have vz45 : z45.toInt = z40.toInt := jz45.trans (jz40).symm
    refine lv_aload_n hx hb dX12_carry_64 rfl (lv_at hl 4 rfl) ?_
    refine va_get (D := (dC, dI)) (ci := 12) (v := .ref (ρ h0 2)) (C := RX12) (T := TX12) (N := 53) hx hb hts hfX12 hown hK hP q33 eq33 rfl 2 (by decide) (hts (.fieldLink RX12 7 "ColdShipsModel" "row" "[I") wa_148) (fun _ h9 => h9) rfl dX12_carry_65 ?_
    refine lv_iload_n hx hb dX12_carry_68 rfl (lv_at hl 3 rfl) ?_
    refine lv_iconst (v := 2) hx hb dX12_carry_69 (by decide) ?_
    refine lv_iadd hx hb dX12_carry_70 ?_
    refine lv_topi (fun z46 ez46 => ?_)
    have iz46 : z46.toInt = z29.toInt + 2 := zi_add ez46 rfl rfl (by omega) (by omega)
    refine va_iald hx hb hK hP q35 0 eq35 rfl (vp_in_iff.mpr ⟨by omega, by omega⟩) dX12_carry_71 ?_
    refine lv_topi (fun z47 ez47 => ?_)
    refine lv_aload_n hx hb dX12_carry_72 rfl (lv_at hl 4 rfl) ?_
    refine va_get (D := (dC, dI)) (ci := 12) (v := .ref (ρ h0 2)) (C := RX12) (T := TX12) (N := 53) hx hb hts hfX12 hown hK hP q33 eq33 rfl 2 (by decide) (hts (.fieldLink RX12 7 "ColdShipsModel" "row" "[I") wa_148) (fun _ h9 => h9) rfl dX12_carry_73 ?_
    refine lv_iload_n hx hb dX12_carry_76 rfl (lv_at hl 3 rfl) ?_
    refine lv_iconst (v := 3) hx hb dX12_carry_77 (by decide) ?_
    refine lv_iadd hx hb dX12_carry_78 ?_
    refine lv_topi (fun z48 ez48 => ?_)
    have iz48 : z48.toInt = z29.toInt + 3 := zi_add ez48 rfl rfl (by omega) (by omega)
    refine va_iald hx hb hK hP q35 0 eq35 rfl (vp_in_iff.mpr ⟨by omega, by omega⟩) dX12_carry_79 ?_
    refine lv_topi (fun z49 ez49 => ?_)
    refine lv_iload hx hb dX12_carry_80 (lv_at hl 1 rfl) ?_
    refine lv_iload hx hb dX12_carry_82 (lv_at hl 0 rfl) ?_
    refine lv_iadd hx hb dX12_carry_84 ?_
    refine lv_topi (fun z50 ez50 => ?_)
    refine lv_iconst (v := 1) hx hb dX12_carry_85 (by decide) ?_
    refine lv_isub hx hb dX12_carry_86 ?_
    refine lv_topi (fun z51 ez51 => ?_)
    refine lv_iload hx hb dX12_carry_87 (lv_at hl 0 rfl) ?_
    refine lv_idiv hx hb dX12_carry_89 (zi_nz (by omega) rfl) ?_
    refine lv_topi (fun z52 ez52 => ?_)
    have hFc := tp_fr hD hS hA
    refine va_calli (va_runV (As := [.int z45, .int z47, .int z49, .int z52]) (rest := []) ⟨hx, hb, hml, hown, hts⟩ (t_X12_goTo l dC dI _ κ Θ τ ν ρ L f hG hT h0 z45 z47 z49 z52 x b ht_h0 (by first | decide | omega) (by omega) (by rw [hf_o26, mo_i1]; exact hI)) (cwV 4 hts gX12_carry_X12_goTo rfl rfl rfl ⟨rfl, pd_X12_goTo⟩ ⟨Nat.le_of_ble_eq_true rfl, Nat.le_of_ble_eq_true rfl⟩) ⟨pz_blind, va_recv hK hP (ci := 12) (q0 := q33) rfl eq33, pz_pre hP hK hD hN⟩ rfl rfl hl.1 rfl (lv_room (Nat.le_of_ble_eq_true rfl)) dX12_carry_90 ⟨Nat.le_of_ble_eq_true rfl, Nat.le_of_ble_eq_true rfl⟩) hS (fun q _ h => hFc q h) hFc (fun r53 f55 t H1 locs ht hvm hw54 hB hz1 hk1 hS => ?_)
    refine tn_4 hw54 (fun hT hF56 hw54r hw54p => ?_); clear hw54
    have hR := hR.then hF56 (by decide)
    have hP := hB.1; rw [ht] at hP; have hD := tp_ad f55 hD; clear hB hFc hz1 hk1; subst ht; generalize t.heap = H at hP hS ⊢
    refine lv_istore (lv' := [(7, .int r53), (6, .int z44), (5, .int z36), (4, .int r30), (3, .int z29), (0, .ref h0), (1, .int v), (2, .int u)]) hx hb dX12_carry_93 hl (by decide) rfl (fun ls hl => ?_)
    refine lv_aload_n hx hb dX12_carry_95 rfl (lv_at hl 5 rfl) ?_
    refine tpk_13 hT ht_h0 (fun o57_x0 o57_x1 o57_x7 o57_x9 o57_x10 o57_x11 o57_x12 o57_x13 o57_x14 o57_x15 o57_x16 o57_x17 o57_x18 o57_x19 o57_x20 o57_x22 o57_x25 o57_x28 o57_x29 o57_x32 o57_x33 o57_x34 o57_x35 o57_x36 o57_x37 o57_x38 o57_x47 o57_x48 hf_o57 ro57_0 ro57_1 ro57_2 ro57_3 ro57_4 ro57_5 ro57_6 ro57_7 ro57_8 ro57_9 ro57_10 ro57_11 ro57_12 ro57_13 ro57_14 => ?_)
    refine tpk_pos (tp_in hG ht_h0 (by decide)) hf_o57 (fun q58 eq58 => ?_)
    refine va_get (D := (dC, dI)) (ci := 12) (v := .ref (ρ h0 39)) (C := RX12) (T := TX12) (N := 53) hx hb hts hfX12 hown hK hP q58 eq58 rfl 39 (by decide) (hts (.fieldLink RX12 55 "ColdShipsModel" "loads" "[I") wa_163) (fun _ h9 => h9) rfl dX12_carry_96 ?_
    refine lv_iload_n hx hb dX12_carry_99 rfl (lv_at hl 7 rfl) ?_
    refine lv_aload_n hx hb dX12_carry_100 rfl (lv_at hl 5 rfl) ?_
    refine va_get (D := (dC, dI)) (ci := 12) (v := .int o57_x38) (C := RX12) (T := TX12) (N := 53) hx hb hts hfX12 hown hK hP q58 eq58 rfl 38 (by decide) (hts (.fieldLink RX12 506 "ColdShipsModel" "began" "I") wa_1434) (fun _ h9 => h9) rfl dX12_carry_101 ?_
    refine tpk_69 hT y14 (fun g60 hf_o59 => ?_)
    refine tpk_pos (tp_in hG y14 (by decide)) hf_o59 (fun q61 eq61 => ?_)
    refine va_iast hx hb hK hP hD hS q61 0 eq61 rfl (vp_in_iff.mpr ⟨by omega, by omega⟩) dX12_carry_104 (tp_k (.inl (κ 0, 6, .inl (upd g60 u.toNatClampNeg o57_x38))) hD (tp_in hG y14 (by decide)) eq61 (fun f62 H locs hP hD hS g64 k63 => ?_))
    have hT := hT.up y14 g64 k63 tp_o69
    have hR := hR.up y14 (by decide) k63
    generalize (upd g60 u.toNatClampNeg o57_x38) = g65 at g64
    refine lv_iload hx hb dX12_carry_105 (lv_at hl 0 rfl) ?_
    refine lv_iconst (v := (-1)) hx hb dX12_carry_107 (by decide) ?_
    refine lv_icmp_ne (tgt := 113) hx hb dX12_carry_108 (by decide) (fun c66 => ?_) (fun c66 => ?_)
    · have ic66 : r53.toInt ≠ (-1) := zi_ne rfl rfl c66
      refine lv_aload_n hx hb dX12_carry_113 rfl (lv_at hl 5 rfl) ?_
      have hf_67 : f62 h0 = .inr (12, [.int o57_x0, .int o57_x1, .ref (ρ h0 2), .ref (ρ h0 3), .ref (ρ h0 4), .ref (ρ h0 5), .ref (ρ h0 6), .int o57_x7, .ref (ρ h0 8), .int o57_x9, .int o57_x10, .int o57_x11, .int o57_x12, .long o57_x13, .int o57_x14, .int o57_x15, .int o57_x16, .int o57_x17, .int o57_x18, .int o57_x19, .int o57_x20, .ref (ρ h0 21), .int o57_x22, .ref (ρ h0 23), .ref (ρ h0 24), .int o57_x25, .ref (ρ h0 26), .ref (ρ h0 27), .int o57_x28, .int o57_x29, .ref (ρ h0 30), .ref (ρ h0 31), .int o57_x32, .long o57_x33, .long o57_x34, .long o57_x35, .int o57_x36, .int o57_x37, .int o57_x38, .ref (ρ h0 39), .ref (ρ h0 40), .ref (ρ h0 41), .ref (ρ h0 42), .ref (ρ h0 43), .ref (ρ h0 44), .ref (ρ h0 45), .ref (ρ h0 46), .int o57_x47, .int o57_x48, .ref (ρ h0 49), .ref (ρ h0 50), .ref (ρ h0 51), .ref (ρ h0 52)]) := (k63 _ (tp_ne ht_h0 y14 (by decide))).trans hf_o57
      refine tpk_pos (tp_in hG ht_h0 (by decide)) hf_67 (fun q68 eq68 => ?_)
      refine va_get (D := (dC, dI)) (ci := 12) (v := .ref (ρ h0 2)) (C := RX12) (T := TX12) (N := 53) hx hb hts hfX12 hown hK hP q68 eq68 rfl 2 (by decide) (hts (.fieldLink RX12 7 "ColdShipsModel" "row" "[I") wa_148) (fun _ h9 => h9) rfl dX12_carry_114 ?_
      refine lv_aload_n hx hb dX12_carry_117 rfl (lv_at hl 5 rfl) ?_
      refine va_get (D := (dC, dI)) (ci := 12) (v := .ref (ρ h0 2)) (C := RX12) (T := TX12) (N := 53) hx hb hts hfX12 hown hK hP q68 eq68 rfl 2 (by decide) (hts (.fieldLink RX12 7 "ColdShipsModel" "row" "[I") wa_148) (fun _ h9 => h9) rfl dX12_carry_118 ?_
      refine lv_iload_n hx hb dX12_carry_121 rfl (lv_at hl 4 rfl) ?_
      refine lv_iconst (v := 1) hx hb dX12_carry_122 (by decide) ?_
      refine lv_iadd hx hb dX12_carry_123 ?_
      refine lv_topi (fun z69 ez69 => ?_)
      have iz69 : z69.toInt = z29.toInt + 1 := zi_add ez69 rfl rfl (by omega) (by omega)
      have hf_70 : f55 (ρ h0 2) = .inl (κ 0, 12967, .inl g27) := (hF56 _ (by rw [tp_iu y1]; decide)).trans hf_o26
      have hf_71 : f62 (ρ h0 2) = .inl (κ 0, 12967, .inl g27) := (k63 _ (tp_ne y1 y14 (by decide))).trans hf_70
      refine tpk_pos (tp_in hG y1 (by decide)) hf_71 (fun q72 eq72 => ?_)
      refine va_iald hx hb hK hP q72 0 eq72 rfl (vp_in_iff.mpr ⟨by omega, by omega⟩) dX12_carry_124 ?_
      refine lv_topi (fun z73 ez73 => ?_)
      have jz73 : z73.toInt = mo_R g27 (12919 + 8 * u.toInt + 1) := mo_rd ez73 (by omega)
      have kz73 := hI.A1 (k := u.toInt) (by omega) (by omega)
      refine pz_calli (va_runS (As := [.int z73]) (rest := [.ref (ρ h0 2)]) ⟨hx, hb, hml, hown, hts⟩ (t_X12_terminalAt l dC dI _ z73 (z73.toInt) (by omega) rfl) (va_cwS 1 hts gX12_carry_X12_terminalAt rfl rfl rfl pd_X12_terminalAt ⟨Nat.le_of_ble_eq_true rfl, Nat.le_of_ble_eq_true rfl⟩) ⟨pz_blind, pz_pre pz_P0 (hK.sub (tys' := []) [] rfl) (pz_D0 (A := fun _ => True)) hN⟩ rfl rfl hl.1 rfl (lv_room (Nat.le_of_ble_eq_true rfl)) dX12_carry_125 ⟨Nat.le_of_ble_eq_true rfl, Nat.le_of_ble_eq_true rfl⟩) (fun r74 hw75 => ?_)
      obtain ⟨hw75r, hw75p⟩ := hw75
      refine lv_iconst (v := 2) hx hb dX12_carry_128 (by decide) ?_
      refine lv_iadd hx hb dX12_carry_129 ?_
      refine lv_topi (fun z76 ez76 => ?_)
      have iz76 : z76.toInt = r74.toInt + 2 := zi_add ez76 rfl rfl (by omega) (by omega)
      refine va_iald hx hb hK hP q72 0 eq72 rfl (vp_in_iff.mpr ⟨by omega, by omega⟩) dX12_carry_130 ?_
      refine lv_topi (fun z77 ez77 => ?_)
      have jz77 : z77.toInt = mo_R g27 (20 + 5 * z73.toInt + 2) := mo_rd ez77 (by omega)
      have kz77 := hI.T (t := z73.toInt) (by omega) (by omega)
      refine lv_istore (lv' := [(8, .int z77), (7, .int r53), (6, .int z44), (5, .int z36), (4, .int r30), (3, .int z29), (0, .ref h0), (1, .int v), (2, .int u)]) hx hb dX12_carry_131 hl (by decide) rfl (fun ls hl => ?_)
      refine lv_aload_n hx hb dX12_carry_133 rfl (lv_at hl 6 rfl) ?_
      refine lv_aload_n hx hb dX12_carry_134 rfl (lv_at hl 6 rfl) ?_
      refine va_get (D := (dC, dI)) (ci := 12) (v := .ref (ρ h0 2)) (C := RX12) (T := TX12) (N := 53) hx hb hts hfX12 hown hK hP q68 eq68 rfl 2 (by decide) (hts (.fieldLink RX12 7 "ColdShipsModel" "row" "[I") wa_148) (fun _ h9 => h9) rfl dX12_carry_135 ?_
      refine lv_iload_n hx hb dX12_carry_138 rfl (lv_at hl 5 rfl) ?_
      refine lv_iconst (v := 1) hx hb dX12_carry_139 (by decide) ?_
      refine lv_iadd hx hb dX12_carry_140 ?_
      refine lv_topi (fun z78 ez78 => ?_)
      have iz78 : z78.toInt = z29.toInt + 1 := zi_add ez78 rfl rfl (by omega) (by omega)
      refine va_iald hx hb hK hP q72 0 eq72 rfl (vp_in_iff.mpr ⟨by omega, by omega⟩) dX12_carry_141 ?_
      refine lv_topi (fun z79 ez79 => ?_)
      have jz79 : z79.toInt = mo_R g27 (12919 + 8 * u.toInt + 1) := mo_rd ez79 (by omega)
      have kz79 := hI.A1 (k := u.toInt) (by omega) (by omega)
      have vz79 : z79.toInt = z73.toInt := jz79.trans (jz73).symm
      refine lv_aload_n hx hb dX12_carry_142 rfl (lv_at hl 6 rfl) ?_
      refine va_get (D := (dC, dI)) (ci := 12) (v := .ref (ρ h0 2)) (C := RX12) (T := TX12) (N := 53) hx hb hts hfX12 hown hK hP q68 eq68 rfl 2 (by decide) (hts (.fieldLink RX12 7 "ColdShipsModel" "row" "[I") wa_148) (fun _ h9 => h9) rfl dX12_carry_143 ?_
      refine lv_iload_n hx hb dX12_carry_146 rfl (lv_at hl 5 rfl) ?_
      refine lv_iconst (v := 4) hx hb dX12_carry_147 (by decide) ?_
      refine lv_iadd hx hb dX12_carry_148 ?_
      refine lv_topi (fun z80 ez80 => ?_)
      have iz80 : z80.toInt = z29.toInt + 4 := zi_add ez80 rfl rfl (by omega) (by omega)
      refine va_iald hx hb hK hP q72 0 eq72 rfl (vp_in_iff.mpr ⟨by omega, by omega⟩) dX12_carry_149 ?_
      refine lv_topi (fun z81 ez81 => ?_)
      refine lv_aload_n hx hb dX12_carry_150 rfl (lv_at hl 6 rfl) ?_
      refine va_get (D := (dC, dI)) (ci := 12) (v := .ref (ρ h0 2)) (C := RX12) (T := TX12) (N := 53) hx hb hts hfX12 hown hK hP q68 eq68 rfl 2 (by decide) (hts (.fieldLink RX12 7 "ColdShipsModel" "row" "[I") wa_148) (fun _ h9 => h9) rfl dX12_carry_151 ?_
      refine lv_iload_n hx hb dX12_carry_154 rfl (lv_at hl 5 rfl) ?_
      refine lv_iconst (v := 5) hx hb dX12_carry_155 (by decide) ?_
      refine lv_iadd hx hb dX12_carry_156 ?_
      refine lv_topi (fun z82 ez82 => ?_)
      have iz82 : z82.toInt = z29.toInt + 5 := zi_add ez82 rfl rfl (by omega) (by omega)
      refine va_iald hx hb hK hP q72 0 eq72 rfl (vp_in_iff.mpr ⟨by omega, by omega⟩) dX12_carry_157 ?_
      refine lv_topi (fun z83 ez83 => ?_)
      refine lv_iload hx hb dX12_carry_158 (lv_at hl 3 rfl) ?_
      refine lv_iload hx hb dX12_carry_160 (lv_at hl 0 rfl) ?_
      refine lv_iadd hx hb dX12_carry_162 ?_
      refine lv_topi (fun z84 ez84 => ?_)
      refine lv_iconst (v := 1) hx hb dX12_carry_163 (by decide) ?_
      refine lv_isub hx hb dX12_carry_164 ?_
      refine lv_topi (fun z85 ez85 => ?_)
      refine lv_iload hx hb dX12_carry_165 (lv_at hl 0 rfl) ?_
      refine lv_idiv hx hb dX12_carry_167 (zi_nz (by omega) rfl) ?_
      refine lv_topi (fun z86 ez86 => ?_)
      have hFc := tp_fr hD hS hA
      refine va_calli (va_runV (As := [.int z79, .int z81, .int z83, .int z86]) (rest := []) ⟨hx, hb, hml, hown, hts⟩ (t_X12_goTo l dC dI _ κ Θ τ ν ρ L f62 hG hT h0 z79 z81 z83 z86 x b ht_h0 (by first | decide | omega) (by omega) (by rw [hf_71, mo_i1]; exact hI)) (cwV 4 hts gX12_carry_X12_goTo rfl rfl rfl ⟨rfl, pd_X12_goTo⟩ ⟨Nat.le_of_ble_eq_true rfl, Nat.le_of_ble_eq_true rfl⟩) ⟨pz_blind, va_recv hK hP (ci := 12) (q0 := q68) rfl eq68, pz_pre hP hK hD hN⟩ rfl rfl hl.1 rfl (lv_room (Nat.le_of_ble_eq_true rfl)) dX12_carry_168 ⟨Nat.le_of_ble_eq_true rfl, Nat.le_of_ble_eq_true rfl⟩) hS (fun q _ h => hFc q h) hFc (fun r87 f89 t H1 locs ht hvm hw88 hB hz1 hk1 hS => ?_)
      refine tn_4 hw88 (fun hT hF90 hw88r hw88p => ?_); clear hw88
      have hR := hR.then hF90 (by decide)
      have hP := hB.1; rw [ht] at hP; have hD := tp_ad f89 hD; clear hB hFc hz1 hk1; subst ht; generalize t.heap = H at hP hS ⊢
      refine lv_istore (lv' := [(9, .int r87), (8, .int z77), (7, .int r53), (6, .int z44), (5, .int z36), (4, .int r30), (3, .int z29), (0, .ref h0), (1, .int v), (2, .int u)]) hx hb dX12_carry_171 hl (by decide) rfl (fun ls hl => ?_)
      refine lv_aload_n hx hb dX12_carry_173 rfl (lv_at hl 7 rfl) ?_
      refine tpk_13 hT ht_h0 (fun o91_x0 o91_x1 o91_x7 o91_x9 o91_x10 o91_x11 o91_x12 o91_x13 o91_x14 o91_x15 o91_x16 o91_x17 o91_x18 o91_x19 o91_x20 o91_x22 o91_x25 o91_x28 o91_x29 o91_x32 o91_x33 o91_x34 o91_x35 o91_x36 o91_x37 o91_x38 o91_x47 o91_x48 hf_o91 ro91_0 ro91_1 ro91_2 ro91_3 ro91_4 ro91_5 ro91_6 ro91_7 ro91_8 ro91_9 ro91_10 ro91_11 ro91_12 ro91_13 ro91_14 => ?_)
      refine tpk_pos (tp_in hG ht_h0 (by decide)) hf_o91 (fun q92 eq92 => ?_)
      refine va_get (D := (dC, dI)) (ci := 12) (v := .ref (ρ h0 40)) (C := RX12) (T := TX12) (N := 53) hx hb hts hfX12 hown hK hP q92 eq92 rfl 40 (by decide) (hts (.fieldLink RX12 58 "ColdShipsModel" "lands" "[I") wa_164) (fun _ h9 => h9) rfl dX12_carry_174 ?_
      refine lv_iload_n hx hb dX12_carry_177 rfl (lv_at hl 9 rfl) ?_
      refine lv_aload_n hx hb dX12_carry_178 rfl (lv_at hl 7 rfl) ?_
      refine va_get (D := (dC, dI)) (ci := 12) (v := .int o91_x38) (C := RX12) (T := TX12) (N := 53) hx hb hts hfX12 hown hK hP q92 eq92 rfl 38 (by decide) (hts (.fieldLink RX12 506 "ColdShipsModel" "began" "I") wa_1434) (fun _ h9 => h9) rfl dX12_carry_179 ?_
      refine tpk_70 hT y15 (fun g94 hf_o93 => ?_)
      refine tpk_pos (tp_in hG y15 (by decide)) hf_o93 (fun q95 eq95 => ?_)
      refine va_iast hx hb hK hP hD hS q95 0 eq95 rfl (vp_in_iff.mpr ⟨by omega, by omega⟩) dX12_carry_182 (tp_k (.inl (κ 0, 6, .inl (upd g94 u.toNatClampNeg o91_x38))) hD (tp_in hG y15 (by decide)) eq95 (fun f96 H locs hP hD hS g98 k97 => ?_))
      have hT := hT.up y15 g98 k97 tp_o70
      have hR := hR.up y15 (by decide) k97
      generalize (upd g94 u.toNatClampNeg o91_x38) = g99 at g98
      refine lv_iload hx hb dX12_carry_183 (lv_at hl 0 rfl) ?_
      refine lv_iconst (v := (-1)) hx hb dX12_carry_185 (by decide) ?_
      refine lv_icmp_ne (tgt := 191) hx hb dX12_carry_186 (by decide) (fun c100 => ?_) (fun c100 => ?_)
      · have ic100 : r87.toInt ≠ (-1) := zi_ne rfl rfl c100
        refine lv_iload hx hb dX12_carry_191 (lv_at hl 4 rfl) ?_
        refine lv_i2l hx hb dX12_carry_193 rfl ?_
        refine lv_aload_n hx hb dX12_carry_194 rfl (lv_at hl 7 rfl) ?_
        have hf_101 : f96 h0 = .inr (12, [.int o91_x0, .int o91_x1, .ref (ρ h0 2), .ref (ρ h0 3), .ref (ρ h0 4), .ref (ρ h0 5), .ref (ρ h0 6), .int o91_x7, .ref (ρ h0 8), .int o91_x9, .int o91_x10, .int o91_x11, .int o91_x12, .long o91_x13, .int o91_x14, .int o91_x15, .int o91_x16, .int o91_x17, .int o91_x18, .int o91_x19, .int o91_x20, .ref (ρ h0 21), .int o91_x22, .ref (ρ h0 23), .ref (ρ h0 24), .int o91_x25, .ref (ρ h0 26), .ref (ρ h0 27), .int o91_x28, .int o91_x29, .ref (ρ h0 30), .ref (ρ h0 31), .int o91_x32, .long o91_x33, .long o91_x34, .long o91_x35, .int o91_x36, .int o91_x37, .int o91_x38, .ref (ρ h0 39), .ref (ρ h0 40), .ref (ρ h0 41), .ref (ρ h0 42), .ref (ρ h0 43), .ref (ρ h0 44), .ref (ρ h0 45), .ref (ρ h0 46), .int o91_x47, .int o91_x48, .ref (ρ h0 49), .ref (ρ h0 50), .ref (ρ h0 51), .ref (ρ h0 52)]) := (k97 _ (tp_ne ht_h0 y15 (by decide))).trans hf_o91
        refine tpk_pos (tp_in hG ht_h0 (by decide)) hf_101 (fun q102 eq102 => ?_)
        refine va_get (D := (dC, dI)) (ci := 12) (v := .ref (ρ h0 40)) (C := RX12) (T := TX12) (N := 53) hx hb hts hfX12 hown hK hP q102 eq102 rfl 40 (by decide) (hts (.fieldLink RX12 58 "ColdShipsModel" "lands" "[I") wa_164) (fun _ h9 => h9) rfl dX12_carry_195 ?_
        refine lv_iload_n hx hb dX12_carry_198 rfl (lv_at hl 9 rfl) ?_
        refine tpk_pos (tp_in hG y15 (by decide)) g98 (fun q103 eq103 => ?_)
        refine va_iald hx hb hK hP q103 0 eq103 rfl (vp_in_iff.mpr ⟨by omega, by omega⟩) dX12_carry_199 ?_
        refine lv_topi (fun z104 ez104 => ?_)
        refine lv_aload_n hx hb dX12_carry_200 rfl (lv_at hl 7 rfl) ?_
        refine va_get (D := (dC, dI)) (ci := 12) (v := .ref (ρ h0 39)) (C := RX12) (T := TX12) (N := 53) hx hb hts hfX12 hown hK hP q102 eq102 rfl 39 (by decide) (hts (.fieldLink RX12 55 "ColdShipsModel" "loads" "[I") wa_163) (fun _ h9 => h9) rfl dX12_carry_201 ?_
        refine lv_iload_n hx hb dX12_carry_204 rfl (lv_at hl 9 rfl) ?_
        have hf_105 : f89 (ρ h0 39) = .inl (κ 0, 6, .inl g65) := (hF90 _ (by rw [tp_iu y14]; decide)).trans g64
        have hf_106 : f96 (ρ h0 39) = .inl (κ 0, 6, .inl g65) := (k97 _ (tp_ne y14 y15 (by decide))).trans hf_105
        refine tpk_pos (tp_in hG y14 (by decide)) hf_106 (fun q107 eq107 => ?_)
        refine va_iald hx hb hK hP q107 0 eq107 rfl (vp_in_iff.mpr ⟨by omega, by omega⟩) dX12_carry_205 ?_
        refine lv_topi (fun z108 ez108 => ?_)
        refine lv_isub hx hb dX12_carry_206 ?_
        refine lv_topi (fun z109 ez109 => ?_)
        refine lv_i2l hx hb dX12_carry_207 rfl ?_
        refine lv_lmul hx hb dX12_carry_208 ?_
        refine lv_topl (fun z110 ez110 => ?_)
        refine lv_aload_n hx hb dX12_carry_209 rfl (lv_at hl 7 rfl) ?_
        refine va_get (D := (dC, dI)) (ci := 12) (v := .ref (ρ h0 2)) (C := RX12) (T := TX12) (N := 53) hx hb hts hfX12 hown hK hP q102 eq102 rfl 2 (by decide) (hts (.fieldLink RX12 7 "ColdShipsModel" "row" "[I") wa_148) (fun _ h9 => h9) rfl dX12_carry_210 ?_
        refine lv_bipush (v := 12) hx hb dX12_carry_213 (by decide) ?_
        have hf_111 : f89 (ρ h0 2) = .inl (κ 0, 12967, .inl g27) := (hF90 _ (by rw [tp_iu y1]; decide)).trans hf_71
        have hf_112 : f96 (ρ h0 2) = .inl (κ 0, 12967, .inl g27) := (k97 _ (tp_ne y1 y15 (by decide))).trans hf_111
        refine tpk_pos (tp_in hG y1 (by decide)) hf_112 (fun q113 eq113 => ?_)
        refine va_iald hx hb hK hP q113 0 eq113 rfl (vp_in_iff.mpr ⟨by decide, by decide⟩) dX12_carry_215 ?_
        refine lv_topi (fun z114 ez114 => ?_)
        have jz114 : z114.toInt = mo_R g27 (12) := mo_rd ez114 (show (12 : Int32).toInt = (12) from by decide)
        have kz114 := hI.k12
        refine lv_i2l hx hb dX12_carry_216 rfl ?_
        refine lv_lmul hx hb dX12_carry_217 ?_
        refine lv_topl (fun z115 ez115 => ?_)
        refine lv_ldc2 (own := RX12) (v := 100000) hx hb hown (hts (.constantLong RX12 177 (100000)) wa_552) dX12_carry_218 ?_
        refine lv_ldiv hx hb dX12_carry_221 (by decide) ?_
        refine lv_topl (fun z116 ez116 => ?_)
        refine lv_lstore (lv' := [(10, .long z116), (9, .int r87), (8, .int z77), (7, .int r53), (6, .int z44), (5, .int z36), (4, .int r30), (3, .int z29), (0, .ref h0), (1, .int v), (2, .int u)]) hx hb dX12_carry_222 hl (by decide) rfl (fun ls hl => ?_)
        refine lv_lload hx hb dX12_carry_224 (lv_at hl 0 rfl) ?_
        refine lv_iload hx hb dX12_carry_226 (lv_at hl 5 rfl) ?_
        refine lv_i2l hx hb dX12_carry_228 rfl ?_
        refine tp_join 241 (fun H locs ls stk => ∃ w117 : Int64, stk = [.long w117] ∧ va_P (dC, dI) vwCl (va_pl L f96) H ∧ va_D A (va_pl L f96) ∧ va_S A s.heap H locs ∧ lv_has ls 12 [(10, .long z116), (9, .int r87), (8, .int z77), (7, .int r53), (6, .int z44), (5, .int z36), (4, .int r30), (3, .int z29), (0, .ref h0), (1, .int v), (2, .int u)]) ?_ (fun hj118 => ?_)
        · intro H locs ls stk hI
          refine Exists.elim hI (fun w117 hE90 => tn_5 hE90 (fun e90 hP hD hS hl => ?_))
          clear hE90 hI; subst e90
          refine lv_lstore (lv' := [(10, .long w117), (9, .int r87), (8, .int z77), (7, .int r53), (6, .int z44), (5, .int z36), (4, .int r30), (3, .int z29), (0, .ref h0), (1, .int v), (2, .int u)]) hx hb dX12_carry_241 hl (by decide) rfl (fun ls hl => ?_)
          refine lv_aload_n hx hb dX12_carry_243 rfl (lv_at hl 8 rfl) ?_
          refine va_get (D := (dC, dI)) (ci := 12) (v := .ref (ρ h0 41)) (C := RX12) (T := TX12) (N := 53) hx hb hts hfX12 hown hK hP q102 eq102 rfl 41 (by decide) (hts (.fieldLink RX12 61 "ColdShipsModel" "worths" "[J") wa_165) (fun _ h9 => h9) rfl dX12_carry_244 ?_
          refine lv_iload_n hx hb dX12_carry_247 rfl (lv_at hl 10 rfl) ?_
          refine lv_iload hx hb dX12_carry_248 (lv_at hl 5 rfl) ?_
          refine lv_i2l hx hb dX12_carry_250 rfl ?_
          refine lv_lload hx hb dX12_carry_251 (lv_at hl 0 rfl) ?_
          refine lv_lsub hx hb dX12_carry_253 ?_
          refine lv_topl (fun z119 ez119 => ?_)
          refine lv_aload_n hx hb dX12_carry_254 rfl (lv_at hl 8 rfl) ?_
          refine va_get (D := (dC, dI)) (ci := 12) (v := .ref (ρ h0 2)) (C := RX12) (T := TX12) (N := 53) hx hb hts hfX12 hown hK hP q102 eq102 rfl 2 (by decide) (hts (.fieldLink RX12 7 "ColdShipsModel" "row" "[I") wa_148) (fun _ h9 => h9) rfl dX12_carry_255 ?_
          refine lv_iload_n hx hb dX12_carry_258 rfl (lv_at hl 7 rfl) ?_
          refine lv_bipush (v := 7) hx hb dX12_carry_259 (by decide) ?_
          refine lv_iadd hx hb dX12_carry_261 ?_
          refine lv_topi (fun z120 ez120 => ?_)
          have iz120 : z120.toInt = z29.toInt + 7 := zi_add ez120 rfl rfl (by omega) (by omega)
          refine va_iald hx hb hK hP q113 0 eq113 rfl (vp_in_iff.mpr ⟨by omega, by omega⟩) dX12_carry_262 ?_
          refine lv_topi (fun z121 ez121 => ?_)
          refine lv_i2l hx hb dX12_carry_263 rfl ?_
          refine lv_lmul hx hb dX12_carry_264 ?_
          refine lv_topl (fun z122 ez122 => ?_)
          refine lv_ldc2 (own := RX12) (v := 100) hx hb hown (hts (.constantLong RX12 150 (100)) wa_375) dX12_carry_265 ?_
          refine lv_aload_n hx hb dX12_carry_268 rfl (lv_at hl 8 rfl) ?_
          refine va_get (D := (dC, dI)) (ci := 12) (v := .ref (ρ h0 2)) (C := RX12) (T := TX12) (N := 53) hx hb hts hfX12 hown hK hP q102 eq102 rfl 2 (by decide) (hts (.fieldLink RX12 7 "ColdShipsModel" "row" "[I") wa_148) (fun _ h9 => h9) rfl dX12_carry_269 ?_
          refine lv_iload hx hb dX12_carry_272 (lv_at hl 6 rfl) ?_
          refine lv_bipush (v := 8) hx hb dX12_carry_274 (by decide) ?_
          refine lv_iadd hx hb dX12_carry_276 ?_
          refine lv_topi (fun z123 ez123 => ?_)
          have iz123 : z123.toInt = r30.toInt + 8 := zi_add ez123 rfl rfl (by omega) (by omega)
          refine va_iald hx hb hK hP q113 0 eq113 rfl (vp_in_iff.mpr ⟨by omega, by omega⟩) dX12_carry_277 ?_
          refine lv_topi (fun z124 ez124 => ?_)
          have jz124 : z124.toInt = mo_R g27 (547 + 84 * v.toInt + 8) := mo_rd ez124 (by omega)
          have kz124 := hI.SF (s := v.toInt) (by omega) (by omega)
          refine lv_i2l hx hb dX12_carry_278 rfl ?_
          refine lv_lmul hx hb dX12_carry_279 ?_
          refine lv_topl (fun z125 ez125 => ?_)
          have iz125 : z125.toInt = 100 * z124.toInt := zl_mul ez125 rfl (Int32.toInt_toInt64 z124) (by omega) (by omega)
          refine lv_iload hx hb dX12_carry_280 (lv_at hl 3 rfl) ?_
          refine lv_iload hx hb dX12_carry_282 (lv_at hl 1 rfl) ?_
          refine lv_iadd hx hb dX12_carry_284 ?_
          refine lv_topi (fun z126 ez126 => ?_)
          refine lv_i2l hx hb dX12_carry_285 rfl ?_
          refine lv_lmul hx hb dX12_carry_286 ?_
          refine lv_topl (fun z127 ez127 => ?_)
          refine lv_lsub hx hb dX12_carry_287 ?_
          refine lv_topl (fun z128 ez128 => ?_)
          refine tpk_71 hT y16 (fun g130 hf_o129 => ?_)
          refine tpk_pos (tp_in hG y16 (by decide)) hf_o129 (fun q131 eq131 => ?_)
          refine va_last hx hb hK hP hD hS q131 1 eq131 rfl (vp_in_iff.mpr ⟨by omega, by omega⟩) dX12_carry_288 (tp_k (.inl (κ 1, 6, .inr (.inl (vp_updL g130 u.toNatClampNeg z128)))) hD (tp_in hG y16 (by decide)) eq131 (fun f132 H locs hP hD hS g134 k133 => ?_))
          have hT := hT.up y16 g134 k133 tp_o71
          have hR := hR.up y16 (by decide) k133
          generalize (vp_updL g130 u.toNatClampNeg z128) = g135 at g134
          refine lv_iconst (v := 1) hx hb dX12_carry_289 (by decide) ?_
          exact W.zret (v := 1) hx hb hr rfl (fun t ht hW => ⟨⟨1, f132, rfl, ⟨hT, hR, (by first | decide | omega), trivial⟩, by rw [ht]; exact hP, va_K.moved hW.alike hK, hD⟩, hS.F ht⟩) hS.2.2 dX12_carry_290
        · refine W.lcmp hx hb dX12_carry_229 ?_
          refine lv_if_le (tgt := 239) hx hb dX12_carry_230 (by decide) (fun c136 => ?_) (fun c136 => ?_)
          · have ic136 : z116.toInt ≤ z36.toInt := zl_le rfl (Int32.toInt_toInt64 z36) c136
            refine lv_lload hx hb dX12_carry_239 (lv_at hl 0 rfl) ?_
            exact hj118 _ _ _ _ ⟨z116, rfl, hP, hD, hS, lv_sub hl [0, 1, 2, 3, 4, 5, 6, 7, 8, 9, 10] rfl⟩
          · have ic136 : z116.toInt > z36.toInt := zl_lef rfl (Int32.toInt_toInt64 z36) c136
            refine lv_iload hx hb dX12_carry_233 (lv_at hl 5 rfl) ?_
            refine lv_i2l hx hb dX12_carry_235 rfl ?_
            refine lv_goto (tgt := 241) hx hb dX12_carry_236 (by decide) ?_
            exact hj118 _ _ _ _ ⟨z36.toInt64, rfl, hP, hD, hS, lv_sub hl [0, 1, 2, 3, 4, 5, 6, 7, 8, 9, 10] rfl⟩
      · have ic100 : r87.toInt = (-1) := zi_nef rfl rfl c100
        refine lv_iconst (v := 0) hx hb dX12_carry_189 (by decide) ?_
        exact W.zret (v := 0) hx hb hr rfl (fun t ht hW => ⟨⟨0, f96, rfl, ⟨hT, hR, (by first | decide | omega), trivial⟩, by rw [ht]; exact hP, va_K.moved hW.alike hK, hD⟩, hS.F ht⟩) hS.2.2 dX12_carry_190
    · have ic66 : r53.toInt = (-1) := zi_nef rfl rfl c66
      refine lv_iconst (v := 0) hx hb dX12_carry_111 (by decide) ?_
      exact W.zret (v := 0) hx hb hr rfl (fun t ht hW => ⟨⟨0, f62, rfl, ⟨hT, hR, (by first | decide | omega), trivial⟩, by rw [ht]; exact hP, va_K.moved hW.alike hK, hD⟩, hS.F ht⟩) hS.2.2 dX12_carry_112
  · have ic39 : z36.toInt > r37.toInt := zi_lef rfl rfl c39
    refine lv_iconst (v := 0) hx hb dX12_carry_37 (by decide) ?_
    exact W.zret (v := 0) hx hb hr rfl (fun t ht hW => ⟨⟨0, f, rfl, ⟨hT, hR, (by first | decide | omega), trivial⟩, by rw [ht]; exact hP, va_K.moved hW.alike hK, hD⟩, hS.F ht⟩) hS.2.2 dX12_carry_38
set_option maxHeartbeats 4000000 in
set_option maxRecDepth 100000 in
theorem t_X12_sailRow (l : Launch) (dC : Nat → ClassId) (dI : Nat → Nat → Nat) (sz : Nat) (κ : Nat → ClassId) (Θ : Nat → Option Int) (τ ν : Nat → Nat) (ρ : Nat → Nat → Nat) (L : List Nat) (f : Nat → va_E) (hG : tp_G τ ν ρ L) (hT : tp_T (mo_O κ Θ) κ τ ν ρ f) (h0 : Nat) (v : Int32) (u : Int32) (a : Int32) (x : Int) (b : Int) (ht_h0 : τ h0 = 13) (hr_u : 0 ≤ u.toInt ∧ u.toInt ≤ 6) (hbb : 0 ≤ b ∧ b ≤ 1000) (hJ : mo_RI x b (mo_R (mo_i (f (ρ h0 2))))) (hv1 : 0 ≤ v.toInt ∧ v.toInt < (mo_R (mo_i (f (ρ h0 2)))) (1)) (hln : ∀ j, 0 ≤ j → j < u.toInt → 0 ≤ (mo_R (mo_i (f (ρ h0 42)))) j ∧ (mo_R (mo_i (f (ρ h0 42)))) j < (mo_R (mo_i (f (ρ h0 2)))) 10) : Met l yX12_sailRow wqX12_sailRow ({ frames := 7, cells := 0, slots := 0, locals := 2400 }) (va_Pc [.ref h0, .int v, .int u, .int a] (pz_B dC dI (tp_K κ) (va_pl L f) sz)) (va_Ql (fun (r : Int64) (f1 : Nat → va_E) => tp_T (mo_O κ Θ) κ τ ν ρ f1 ∧ tp_F τ [13, 69, 70, 71] f f1 ∧ True ∧ (u.toInt = 0 → r.toInt = 0)) (fun (f1 : Nat → va_E) (t : State) => pz_E dC dI (tp_K κ) (va_A (va_pl L f) sz) (va_pl L f1) t) (va_A (va_pl L f) sz)) 0 0 (va_A (va_pl L f) sz) := by
  refine Met.ofW (cc := cX12_sailRow) (maxL := 7) (ret := some .long) (by decide) rfl ?_
  intro p e s m args below meth c s₁ B hml hv
  obtain ⟨rfl, hsz, hP, hK, hD0, hN⟩ := hv
  have hx := B.exec
  have hb := B.bytes
  have hr := B.returns
  have hts := fun (w : Cond) (h : w ∈ WALL) => atoms_spec (ws := wqX12_sailRow) B.pre w (List.mem_cons_of_mem _ h)
  have hown : s.vm.findClass RX12 = some m.cls := findClass_of_methodNamed B.named
  have hlocks := B.notSynchronized
  subst hsz
  have hD := hD0.self (sz := s.heap.size)
  generalize hAe : va_A (va_pl L f) s.heap.size = A at hD ⊢
  have hA : ∀ q : Nat, s.heap.size ≤ q → A q := fun q h => by rw [← hAe]; exact Or.inr h
  have hS : va_S A s.heap s.heap [] := va_S.rf
  have hR : tp_F τ [13, 69, 70, 71] f f := tp_F.rf
  have hl := lv_entry ([.ref h0, .int v, .int u, .int a]) (n := 7) (Nat.le_of_ble_eq_true rfl)
  rw [lg_entry_eq]
  generalize (lg_sl ([.ref h0, .int v, .int u, .int a]) ++ List.replicate (7 - (lg_sl ([.ref h0, .int v, .int u, .int a])).length) Slot.unset).toArray = ls at hl ⊢
  have hl : lv_has ls 7 [(0, .ref h0), (1, .int v), (2, .int u), (3, .int a)] := hl
  refine tgk_13 hG ht_h0 (fun y1 y2 y3 y4 y5 y6 y7 y8 y9 y10 y11 y12 y13 y14 y15 y16 y17 y18 y19 y20 y21 y22 y23 y24 y25 => ?_)
  refine tpk_32 hT y1 (fun g27 hf_o26 => ?_)
  have hI : mo_RI x b (mo_R g27) := by have q9 := hJ; rw [hf_o26, mo_i1] at q9; exact q9
  rw [hf_o26, mo_i1] at hv1
  refine tpk_72 hT y17 (fun g29 hf_o28 => ?_)
  have tf30 : mo_hd (mo_i (f (ρ h0 42)) = g29) := tfa_i hf_o28
  replace hln : mo_hd (∀ j, 0 ≤ j → j < u.toInt → 0 ≤ (mo_R g29) j ∧ (mo_R g29) j < (mo_R g27) 10) := by have q9 := hln; first | (simp only [(mo_un tf30), hf_o26, mo_i1, mo_l1] at q9; exact q9) | (rw [(mo_un tf30), hf_o26] at q9; exact q9)
  have := hI.k1; have := hI.k10
  refine lv_aload_n hx hb dX12_sailRow_0 rfl (lv_at hl 0 rfl) ?_
  refine lv_iload_n hx hb dX12_sailRow_1 rfl (lv_at hl 3 rfl) ?_
  refine tpk_13 hT ht_h0 (fun o31_x0 o31_x1 o31_x7 o31_x9 o31_x10 o31_x11 o31_x12 o31_x13 o31_x14 o31_x15 o31_x16 o31_x17 o31_x18 o31_x19 o31_x20 o31_x22 o31_x25 o31_x28 o31_x29 o31_x32 o31_x33 o31_x34 o31_x35 o31_x36 o31_x37 o31_x38 o31_x47 o31_x48 hf_o31 ro31_0 ro31_1 ro31_2 ro31_3 ro31_4 ro31_5 ro31_6 ro31_7 ro31_8 ro31_9 ro31_10 ro31_11 ro31_12 ro31_13 ro31_14 => ?_)
  refine tpk_pos (tp_in hG ht_h0 (by decide)) hf_o31 (fun q32 eq32 => ?_)
  refine va_put (D := (dC, dI)) (ci := 12) (v := .int a) (ty := .int) (C := RX12) (T := TX12) (N := 53) hx hb hts hfX12 tyX12 tyX12_ok nmX12 hown hK hP hD hS q32 eq32 rfl 36 (by decide) (hts (.fieldLink RX12 500 "ColdShipsModel" "clock" "I") wa_1428) (fun _ h9 => h9) rfl (tyX12_ok 36 (by decide)) rfl rfl (Nat.le_of_ble_eq_true rfl) dX12_sailRow_2 (tp_k (.inr (12, [.int o31_x0, .int o31_x1, .ref (ρ h0 2), .ref (ρ h0 3), .ref (ρ h0 4), .ref (ρ h0 5), .ref (ρ h0 6), .int o31_x7, .ref (ρ h0 8), .int o31_x9, .int o31_x10, .int o31_x11, .int o31_x12, .long o31_x13, .int o31_x14, .int o31_x15, .int o31_x16, .int o31_x17, .int o31_x18, .int o31_x19, .int o31_x20, .ref (ρ h0 21), .int o31_x22, .ref (ρ h0 23), .ref (ρ h0 24), .int o31_x25, .ref (ρ h0 26), .ref (ρ h0 27), .int o31_x28, .int o31_x29, .ref (ρ h0 30), .ref (ρ h0 31), .int o31_x32, .long o31_x33, .long o31_x34, .long o31_x35, .int a, .int o31_x37, .int o31_x38, .ref (ρ h0 39), .ref (ρ h0 40), .ref (ρ h0 41), .ref (ρ h0 42), .ref (ρ h0 43), .ref (ρ h0 44), .ref (ρ h0 45), .ref (ρ h0 46), .int o31_x47, .int o31_x48, .ref (ρ h0 49), .ref (ρ h0 50), .ref (ρ h0 51), .ref (ρ h0 52)])) hD (tp_in hG ht_h0 (by decide)) eq32 (fun f33 H locs hP hD hS g35 k34 => ?_))
  have hT := hT.up ht_h0 g35 k34 ⟨_, _, _, _, _, _, _, _, _, _, _, _, _, _, _, _, _, _, _, _, _, _, _, _, _, _, _, _, rfl, ro31_0, ro31_1, ro31_2, ro31_3, ro31_4, ro31_5, ro31_6, ro31_7, ro31_8, ro31_9, ro31_10, ro31_11, ro31_12, ro31_13, ro31_14⟩
  have hR := hR.up ht_h0 (by decide) k34
  refine lv_aload_n hx hb dX12_sailRow_5 rfl (lv_at hl 0 rfl) ?_
  refine lv_aload_n hx hb dX12_sailRow_6 rfl (lv_at hl 0 rfl) ?_
  refine tpk_pos (tp_in hG ht_h0 (by decide)) g35 (fun q36 eq36 => ?_)
  refine va_get (D := (dC, dI)) (ci := 12) (v := .ref (ρ h0 2)) (C := RX12) (T := TX12) (N := 53) hx hb hts hfX12 hown hK hP q36 eq36 rfl 2 (by decide) (hts (.fieldLink RX12 7 "ColdShipsModel" "row" "[I") wa_148) (fun _ h9 => h9) rfl dX12_sailRow_7 ?_
  refine lv_iload_n hx hb dX12_sailRow_10 rfl (lv_at hl 1 rfl) ?_
  have hf_37 : f33 (ρ h0 2) = .inl (κ 0, 12967, .inl g27) := (k34 _ (tp_ne y1 ht_h0 (by decide))).trans hf_o26
  refine pz_calli (va_runS (As := [.int v]) (rest := [.ref (ρ h0 2), .ref h0]) ⟨hx, hb, hml, hown, hts⟩ (t_X12_shipAt l dC dI _ v (v.toInt) (by (first | omega | (have u0 := mo_un hln; omega))) rfl) (va_cwS 1 hts gX12_sailRow_X12_shipAt rfl rfl rfl pd_X12_shipAt ⟨Nat.le_of_ble_eq_true rfl, Nat.le_of_ble_eq_true rfl⟩) ⟨pz_blind, pz_pre pz_P0 (hK.sub (tys' := []) [] rfl) (pz_D0 (A := fun _ => True)) hN⟩ rfl rfl hl.1 rfl (lv_room (Nat.le_of_ble_eq_true rfl)) dX12_sailRow_11 ⟨Nat.le_of_ble_eq_true rfl, Nat.le_of_ble_eq_true rfl⟩) (fun r38 hw39 => ?_)
  obtain ⟨hw39r, hw39p⟩ := hw39
  refine lv_iconst (v := 0) hx hb dX12_sailRow_14 (by decide) ?_
  refine lv_iadd hx hb dX12_sailRow_15 ?_
  refine lv_topi (fun z40 ez40 => ?_)
  have iz40 : z40.toInt = r38.toInt + 0 := zi_add ez40 rfl rfl (by (first | omega | (have u0 := mo_un hln; omega))) (by (first | omega | (have u0 := mo_un hln; omega)))
  refine tpk_pos (tp_in hG y1 (by decide)) hf_37 (fun q41 eq41 => ?_)
  refine va_iald hx hb hK hP q41 0 eq41 rfl (vp_in_iff.mpr ⟨by (first | omega | (have u0 := mo_un hln; omega)), by (first | omega | (have u0 := mo_un hln; omega))⟩) dX12_sailRow_16 ?_
  refine lv_topi (fun z42 ez42 => ?_)
  have jz42 : z42.toInt = mo_R g27 (547 + 84 * v.toInt + 0) := mo_rd ez42 (by (first | omega | (have u0 := mo_un hln; omega)))
  have kz42 := hI.SA (s := v.toInt) (by (first | omega | (have u0 := mo_un hln; omega))) (by (first | omega | (have u0 := mo_un hln; omega)))
  refine va_put (D := (dC, dI)) (ci := 12) (v := .int z42) (ty := .int) (C := RX12) (T := TX12) (N := 53) hx hb hts hfX12 tyX12 tyX12_ok nmX12 hown hK hP hD hS q36 eq36 rfl 37 (by decide) (hts (.fieldLink RX12 503 "ColdShipsModel" "place" "I") wa_1429) (fun _ h9 => h9) rfl (tyX12_ok 37 (by decide)) rfl rfl (Nat.le_of_ble_eq_true rfl) dX12_sailRow_17 (tp_k (.inr (12, [.int o31_x0, .int o31_x1, .ref (ρ h0 2), .ref (ρ h0 3), .ref (ρ h0 4), .ref (ρ h0 5), .ref (ρ h0 6), .int o31_x7, .ref (ρ h0 8), .int o31_x9, .int o31_x10, .int o31_x11, .int o31_x12, .long o31_x13, .int o31_x14, .int o31_x15, .int o31_x16, .int o31_x17, .int o31_x18, .int o31_x19, .int o31_x20, .ref (ρ h0 21), .int o31_x22, .ref (ρ h0 23), .ref (ρ h0 24), .int o31_x25, .ref (ρ h0 26), .ref (ρ h0 27), .int o31_x28, .int o31_x29, .ref (ρ h0 30), .ref (ρ h0 31), .int o31_x32, .long o31_x33, .long o31_x34, .long o31_x35, .int a, .int z42, .int o31_x38, .ref (ρ h0 39), .ref (ρ h0 40), .ref (ρ h0 41), .ref (ρ h0 42), .ref (ρ h0 43), .ref (ρ h0 44), .ref (ρ h0 45), .ref (ρ h0 46), .int o31_x47, .int o31_x48, .ref (ρ h0 49), .ref (ρ h0 50), .ref (ρ h0 51), .ref (ρ h0 52)])) hD (tp_in hG ht_h0 (by decide)) eq36 (fun f43 H locs hP hD hS g45 k44 => ?_))
  have hT := hT.up ht_h0 g45 k44 ⟨_, _, _, _, _, _, _, _, _, _, _, _, _, _, _, _, _, _, _, _, _, _, _, _, _, _, _, _, rfl, ro31_0, ro31_1, ro31_2, ro31_3, ro31_4, ro31_5, ro31_6, ro31_7, ro31_8, ro31_9, ro31_10, (by (first | omega | (have u0 := mo_un hln; omega))), ro31_12, ro31_13, ro31_14⟩
  have hR := hR.up ht_h0 (by decide) k44
  refine lv_lconst (v := 0) hx hb dX12_sailRow_20 (by decide) ?_
  refine lv_lstore (lv' := [(4, .long 0), (0, .ref h0), (1, .int v), (2, .int u), (3, .int a)]) hx hb dX12_sailRow_21 hl (by decide) rfl (fun ls hl => ?_)
  refine lv_iconst (v := 0) hx hb dX12_sailRow_23 (by decide) ?_
  refine lv_istore (lv' := [(6, .int 0), (4, .long 0), (0, .ref h0), (1, .int v), (2, .int u), (3, .int a)]) hx hb dX12_sailRow_24 hl (by decide) rfl (fun ls hl => ?_)
  have hf_46 : f43 (ρ h0 2) = .inl (κ 0, 12967, .inl g27) := (k44 _ (tp_ne y1 ht_h0 (by decide))).trans hf_37
  have hf_51 : f33 (ρ h0 42) = .inl (κ 0, 6, .inl g29) := (k34 _ (tp_ne y17 ht_h0 (by decide))).trans hf_o28
  have hf_52 : f43 (ρ h0 42) = .inl (κ 0, 6, .inl g29) := (k44 _ (tp_ne y17 ht_h0 (by decide))).trans hf_51
  refine pz_loop (fun n0 H locs ls => ∃ f55 : Nat → va_E, ∃ w47 : Int32, ∃ w48 : Int64, n0 = (6 - (w47.toInt)).toNat ∧ tp_T (mo_O κ Θ) κ τ ν ρ f55 ∧ tp_F τ [13, 69, 70, 71] f f55 ∧ f55 (ρ h0 2) = .inl (κ 0, 12967, .inl g27) ∧ f55 (ρ h0 42) = .inl (κ 0, 6, .inl g29) ∧ (0 ≤ w47.toInt ∧ w47.toInt ≤ 6) ∧ ((w47.toInt) ≤ u.toInt) ∧ (((w47.toInt) = 0 → (w48.toInt) = 0)) ∧ va_P (dC, dI) vwCl (va_pl L f55) H ∧ va_D A (va_pl L f55) ∧ va_S A s.heap H locs ∧ lv_has ls 7 [(6, .int w47), (4, .long w48), (0, .ref h0), (1, .int v), (2, .int u), (3, .int a)]) ?_ _ _ _ _ ⟨f43, 0, 0, rfl, hT, hR, hf_46, hf_52, (by have : (0 : Int32).toInt = 0 := rfl; have : (0 : Int64).toInt = 0 := rfl; (first | omega | (have u0 := mo_un hln; omega))), (by have : (0 : Int32).toInt = 0 := rfl; have : (0 : Int64).toInt = 0 := rfl; (first | omega | (have u0 := mo_un hln; omega))), (by have : (0 : Int32).toInt = 0 := rfl; have : (0 : Int64).toInt = 0 := rfl; (first | omega | (have u0 := mo_un hln; omega))), hP, hD, hS, lv_sub hl [0, 1, 2, 3, 4, 5] rfl⟩
  intro n0 H locs ls hI ih57
  refine Exists.elim hI (fun f55 hE90 => Exists.elim hE90 (fun w47 hE91 => Exists.elim hE91 (fun w48 hE92 => tn_12 hE92 (fun hn58 hT hR hk53k hk54k rw47 k49 k50 hP hD hS hl => ?_))))
  clear hE92 hE91 hE90 hI
  refine lv_iload hx hb dX12_sailRow_26 (lv_at hl 0 rfl) ?_
  refine lv_iload_n hx hb dX12_sailRow_28 rfl (lv_at hl 4 rfl) ?_
  refine lv_icmp_ge (tgt := 74) hx hb dX12_sailRow_29 (by decide) (fun c59 => ?_) (fun c59 => ?_)
  · have ic59 : w47.toInt ≥ u.toInt := zi_ge rfl rfl c59
    refine lv_lload hx hb dX12_sailRow_74 (lv_at hl 1 rfl) ?_
    exact W.lret (v := w48) hx hb hr (fun t ht hW => ⟨⟨w48, f55, rfl, ⟨hT, hR, trivial, (fun q9 => by (first | omega | (have u0 := mo_un hln; omega)))⟩, by rw [ht]; exact hP, va_K.moved hW.alike hK, hD⟩, hS.F ht⟩) hS.2.2 dX12_sailRow_76
  · have ic59 : w47.toInt < u.toInt := zi_gef rfl rfl c59
    refine lv_aload_n hx hb dX12_sailRow_32 rfl (lv_at hl 2 rfl) ?_
    refine lv_iload_n hx hb dX12_sailRow_33 rfl (lv_at hl 3 rfl) ?_
    refine lv_aload_n hx hb dX12_sailRow_34 rfl (lv_at hl 2 rfl) ?_
    refine tpk_13 hT ht_h0 (fun o60_x0 o60_x1 o60_x7 o60_x9 o60_x10 o60_x11 o60_x12 o60_x13 o60_x14 o60_x15 o60_x16 o60_x17 o60_x18 o60_x19 o60_x20 o60_x22 o60_x25 o60_x28 o60_x29 o60_x32 o60_x33 o60_x34 o60_x35 o60_x36 o60_x37 o60_x38 o60_x47 o60_x48 hf_o60 ro60_0 ro60_1 ro60_2 ro60_3 ro60_4 ro60_5 ro60_6 ro60_7 ro60_8 ro60_9 ro60_10 ro60_11 ro60_12 ro60_13 ro60_14 => ?_)
    refine tpk_pos (tp_in hG ht_h0 (by decide)) hf_o60 (fun q61 eq61 => ?_)
    refine va_get (D := (dC, dI)) (ci := 12) (v := .ref (ρ h0 42)) (C := RX12) (T := TX12) (N := 53) hx hb hts hfX12 hown hK hP q61 eq61 rfl 42 (by decide) (hts (.fieldLink RX12 64 "ColdShipsModel" "line" "[I") wa_166) (fun _ h9 => h9) rfl dX12_sailRow_35 ?_
    refine lv_iload hx hb dX12_sailRow_38 (lv_at hl 0 rfl) ?_
    refine tpk_pos (tp_in hG y17 (by decide)) hk54k (fun q62 eq62 => ?_)
    refine va_iald hx hb hK hP q62 0 eq62 rfl (vp_in_iff.mpr ⟨by (first | omega | (have u0 := mo_un hln; omega)), by (first | omega | (have u0 := mo_un hln; omega))⟩) dX12_sailRow_40 ?_
    refine lv_topi (fun z63 ez63 => ?_)
    have jz63 : z63.toInt = mo_R g29 w47.toInt := mo_rd ez63 (rfl : w47.toInt = _)
    have kz63 := hln w47.toInt (by (first | omega | (have u0 := mo_un hln; omega))) (by (first | omega | (have u0 := mo_un hln; omega)))
    have hFc := tp_fr hD hS hA
    refine va_calli (va_runV (As := [.int v, .int z63]) (rest := []) ⟨hx, hb, hml, hown, hts⟩ (t_X12_carry l dC dI _ κ Θ τ ν ρ L f55 hG hT h0 v z63 x b ht_h0 (by (first | omega | (have u0 := mo_un hln; omega))) (by rw [hk53k, mo_i1]; exact hI) (by first | (simp only [hk53k, hf_o26, mo_i1]; (first | omega | (have u0 := mo_un hln; omega))) | (simp only [hk53k, hf_o26, mo_i1]; trivial) | (simp only [hk53k, hf_o26, mo_i1]; done) | (first | omega | (have u0 := mo_un hln; omega))) (by first | (simp only [hk53k, hf_o26, mo_i1]; (first | omega | (have u0 := mo_un hln; omega))) | (simp only [hk53k, hf_o26, mo_i1]; trivial) | (simp only [hk53k, hf_o26, mo_i1]; done) | (first | omega | (have u0 := mo_un hln; omega)))) (cwV 2 hts gX12_sailRow_X12_carry rfl rfl rfl ⟨rfl, pd_X12_carry⟩ ⟨Nat.le_of_ble_eq_true rfl, Nat.le_of_ble_eq_true rfl⟩) ⟨pz_blind, va_recv hK hP (ci := 12) (q0 := q61) rfl eq61, pz_pre hP hK hD hN⟩ rfl rfl hl.1 rfl (lv_room (Nat.le_of_ble_eq_true rfl)) dX12_sailRow_41 ⟨Nat.le_of_ble_eq_true rfl, Nat.le_of_ble_eq_true rfl⟩) hS (fun q _ h => hFc q h) hFc (fun r64 f66 t H1 locs ht hvm hw65 hB hz1 hk1 hS => ?_)
    refine tn_4 hw65 (fun hT hF67 hw65r hw65p => ?_); clear hw65
    have hR := hR.then hF67 (by decide)
    have hP := hB.1; rw [ht] at hP; have hD := tp_ad f66 hD; clear hB hFc hz1 hk1; subst ht; generalize t.heap = H at hP hS ⊢
    refine lv_if_ne (tgt := 51) hx hb dX12_sailRow_44 (by decide) (fun c68 => ?_) (fun c68 => ?_)
    · have ic68 : r64.toInt ≠ 0 := zi_ne rfl rfl c68
      replace ic68 : 1 ≤ r64.toInt := by (first | omega | (have u0 := mo_un hln; omega))
      refine lv_lload hx hb dX12_sailRow_51 (lv_at hl 1 rfl) ?_
      refine lv_aload_n hx hb dX12_sailRow_53 rfl (lv_at hl 2 rfl) ?_
      refine tpk_13 hT ht_h0 (fun o69_x0 o69_x1 o69_x7 o69_x9 o69_x10 o69_x11 o69_x12 o69_x13 o69_x14 o69_x15 o69_x16 o69_x17 o69_x18 o69_x19 o69_x20 o69_x22 o69_x25 o69_x28 o69_x29 o69_x32 o69_x33 o69_x34 o69_x35 o69_x36 o69_x37 o69_x38 o69_x47 o69_x48 hf_o69 ro69_0 ro69_1 ro69_2 ro69_3 ro69_4 ro69_5 ro69_6 ro69_7 ro69_8 ro69_9 ro69_10 ro69_11 ro69_12 ro69_13 ro69_14 => ?_)
      refine tpk_pos (tp_in hG ht_h0 (by decide)) hf_o69 (fun q70 eq70 => ?_)
      refine va_get (D := (dC, dI)) (ci := 12) (v := .ref (ρ h0 41)) (C := RX12) (T := TX12) (N := 53) hx hb hts hfX12 hown hK hP q70 eq70 rfl 41 (by decide) (hts (.fieldLink RX12 61 "ColdShipsModel" "worths" "[J") wa_165) (fun _ h9 => h9) rfl dX12_sailRow_54 ?_
      refine lv_aload_n hx hb dX12_sailRow_57 rfl (lv_at hl 2 rfl) ?_
      refine va_get (D := (dC, dI)) (ci := 12) (v := .ref (ρ h0 42)) (C := RX12) (T := TX12) (N := 53) hx hb hts hfX12 hown hK hP q70 eq70 rfl 42 (by decide) (hts (.fieldLink RX12 64 "ColdShipsModel" "line" "[I") wa_166) (fun _ h9 => h9) rfl dX12_sailRow_58 ?_
      refine lv_iload hx hb dX12_sailRow_61 (lv_at hl 0 rfl) ?_
      have hf_71 : f66 (ρ h0 42) = .inl (κ 0, 6, .inl g29) := (hF67 _ (by rw [tp_iu y17]; decide)).trans hk54k
      refine tpk_pos (tp_in hG y17 (by decide)) hf_71 (fun q72 eq72 => ?_)
      refine va_iald hx hb hK hP q72 0 eq72 rfl (vp_in_iff.mpr ⟨by (first | omega | (have u0 := mo_un hln; omega)), by (first | omega | (have u0 := mo_un hln; omega))⟩) dX12_sailRow_63 ?_
      refine lv_topi (fun z73 ez73 => ?_)
      have jz73 : z73.toInt = mo_R g29 w47.toInt := mo_rd ez73 (rfl : w47.toInt = _)
      have kz73 := hln w47.toInt (by (first | omega | (have u0 := mo_un hln; omega))) (by (first | omega | (have u0 := mo_un hln; omega)))
      refine tpk_71 hT y16 (fun g75 hf_o74 => ?_)
      refine tpk_pos (tp_in hG y16 (by decide)) hf_o74 (fun q76 eq76 => ?_)
      refine va_lald hx hb hK hP q76 1 eq76 rfl (vp_in_iff.mpr ⟨by (first | omega | (have u0 := mo_un hln; omega)), by (first | omega | (have u0 := mo_un hln; omega))⟩) dX12_sailRow_64 ?_
      refine lv_topl (fun z77 ez77 => ?_)
      refine lv_ladd hx hb dX12_sailRow_65 ?_
      refine lv_topl (fun z78 ez78 => ?_)
      refine lv_lstore (lv' := [(4, .long z78), (6, .int w47), (0, .ref h0), (1, .int v), (2, .int u), (3, .int a)]) hx hb dX12_sailRow_66 hl (by decide) rfl (fun ls hl => ?_)
      obtain ⟨z79, ez79⟩ : ∃ y : Int32, y = w47 + 1 := ⟨_, rfl⟩
      refine lv_iinc (v := z79) (lv' := [(6, .int z79), (4, .long z78), (0, .ref h0), (1, .int v), (2, .int u), (3, .int a)]) hx hb dX12_sailRow_68 hl (k := 1) rfl (by rw [ez79]; rfl) (by decide) rfl (fun ls hl => ?_)
      have iz79 : z79.toInt = w47.toInt + 1 := zi_add ez79 rfl rfl (by (first | omega | (have u0 := mo_un hln; omega))) (by (first | omega | (have u0 := mo_un hln; omega)))
      refine lv_goto (tgt := 26) hx hb dX12_sailRow_71 (by decide) ?_
      have hf_80 : f66 (ρ h0 2) = .inl (κ 0, 12967, .inl g27) := (hF67 _ (by rw [tp_iu y1]; decide)).trans hk53k
      exact ih57 _ _ _ _ (by rw [hn58]; (first | omega | (have u0 := mo_un hln; omega))) ⟨f66, z79, z78, rfl, hT, hR, hf_80, hf_71, (by (first | omega | (have u0 := mo_un hln; omega))), (by (first | omega | (have u0 := mo_un hln; omega))), (by (first | omega | (have u0 := mo_un hln; omega))), hP, hD, hS, lv_sub hl [0, 1, 2, 3, 4, 5] rfl⟩
    · have ic68 : r64.toInt = 0 := zi_nef rfl rfl c68
      refine lv_ldc2 (own := RX12) (v := (-2000000000000000)) hx hb hown (hts (.constantLong RX12 466 (-2000000000000000)) wa_1189) dX12_sailRow_47 ?_
      exact W.lret (v := (-2000000000000000)) hx hb hr (fun t ht hW => ⟨⟨(-2000000000000000), f66, rfl, ⟨hT, hR, trivial, (fun q9 => by have : (0 : Int64).toInt = 0 := rfl; have : ((-2000000000000000) : Int64).toInt = (-2000000000000000) := rfl; (first | omega | (have u0 := mo_un hln; omega)))⟩, by rw [ht]; exact hP, va_K.moved hW.alike hK, hD⟩, hS.F ht⟩) hS.2.2 dX12_sailRow_50
end
section
def mo_RL (g : Nat → Int64) (j : Int) : Int := (g j.toNat).toInt
theorem mo_upL {g : Nat → Int64} {i : Int32} {v : Int64} {I V : Int} (hi : i.toInt = I) (hv : v.toInt = V) (h0 : 0 ≤ I) : mo_U (mo_RL g) (mo_RL (vp_updL g i.toNatClampNeg v)) I V := by
  intro j hj
  have e : i.toNatClampNeg = i.toInt.toNat := rfl
  unfold mo_RL vp_updL
  by_cases q : j = I
  · rw [if_pos q, if_pos (by rw [e, hi, q]), hv]
  · rw [if_neg q, if_neg (by rw [e, hi]; omega)]
theorem mo_rdL {g : Nat → Int64} {i : Int32} {z : Int64} {I : Int} (e : z = g i.toNatClampNeg) (hi : i.toInt = I) : z.toInt = mo_RL g I := by rw [e, ← hi]; rfl
/-- a permutation of 0 .. n - 1 -/
def mo_PM (P : Int → Int) (n : Int) : Prop := (∀ i, 0 ≤ i → i < n → 0 ≤ P i ∧ P i < n) ∧ (∀ i j, 0 ≤ i → i < j → j < n → P i ≠ P j) ∧ ∀ t, 0 ≤ t → t < n → ∃ i, 0 ≤ i ∧ i < n ∧ P i = t
def mo_SW (P P' : Int → Int) (a b : Int) : Prop := ∀ j, 0 ≤ j → (j = a ∧ P' j = P b) ∨ (j ≠ a ∧ j = b ∧ P' j = P a) ∨ (j ≠ a ∧ j ≠ b ∧ P' j = P j)
theorem mo_SW.of {P Q P' : Int → Int} {a b x y : Int} (h1 : mo_U P Q a x) (h2 : mo_U Q P' b y) (hx : x = P b) (hy : y = P a) : mo_SW P P' a b := by
  intro j hj
  rcases h2.at j hj with ⟨z, e⟩ | ⟨z, e⟩
  · by_cases q : j = a
    · exact Or.inl ⟨q, by rw [e, hy, ← q, z]⟩
    · exact Or.inr (Or.inl ⟨q, z, by rw [e, hy]⟩)
  · rcases h1.at j hj with ⟨z2, e2⟩ | ⟨z2, e2⟩
    · exact Or.inl ⟨z2, by rw [e, e2, hx]⟩
    · exact Or.inr (Or.inr ⟨z2, z, by rw [e, e2]⟩)
theorem mo_SW.ne {P P' : Int → Int} {a b j : Int} (h : mo_SW P P' a b) (h0 : 0 ≤ j) (h1 : j ≠ a) (h2 : j ≠ b) : P' j = P j := by
  rcases h j h0 with ⟨z, e⟩ | ⟨z, z2, e⟩ | ⟨z, z2, e⟩
  · exact absurd z h1
  · exact absurd z2 h2
  · exact e
theorem mo_SW.fst {P P' : Int → Int} {a b : Int} (h : mo_SW P P' a b) (h0 : 0 ≤ a) : P' a = P b := by
  rcases h a h0 with ⟨z, e⟩ | ⟨z, z2, e⟩ | ⟨z, z2, e⟩
  · exact e
  · exact absurd rfl z
  · exact absurd rfl z
theorem mo_PM.inj {P : Int → Int} {n x y : Int} (h : mo_PM P n) (h0 : 0 ≤ x) (h1 : x < n) (h2 : 0 ≤ y) (h3 : y < n) (e : P x = P y) : x = y := by
  rcases (show x < y ∨ x = y ∨ y < x by omega) with q | q | q
  · exact absurd e (h.2.1 x y h0 q h3)
  · exact q
  · exact absurd e.symm (h.2.1 y x h2 q h1)
theorem mo_PM.sw {P P' : Int → Int} {n a b : Int} (h : mo_PM P n) (hs : mo_SW P P' a b) (ha : 0 ≤ a) (ha1 : a < n) (hb : 0 ≤ b) (hb1 : b < n) : mo_PM P' n := by
  refine ⟨fun i h0 h1 => ?_, fun i j h0 h1 h2 he => ?_, fun t h0 h1 => ?_⟩
  · rcases hs i h0 with ⟨z, e⟩ | ⟨z, z2, e⟩ | ⟨z, z2, e⟩ <;> rw [e]
    · exact h.1 b hb hb1
    · exact h.1 a ha ha1
    · exact h.1 i h0 h1
  · rcases hs i h0 with ⟨z, e⟩ | ⟨z, z2, e⟩ | ⟨z, z2, e⟩ <;> rcases hs j (by omega) with ⟨y, d⟩ | ⟨y, y2, d⟩ | ⟨y, y2, d⟩ <;> (rw [e, d] at he; have q := h.inj (by omega) (by omega) (by omega) (by omega) he; omega)
  · obtain ⟨i, i0, i1, e⟩ := h.2.2 t h0 h1
    by_cases qa : i = a
    · refine ⟨b, hb, hb1, ?_⟩
      rcases hs b hb with ⟨z, d⟩ | ⟨z, z2, d⟩ | ⟨z, z2, d⟩
      · rw [d, z, ← qa]; exact e
      · rw [d, ← qa]; exact e
      · exact absurd rfl z2
    · by_cases qb : i = b
      · exact ⟨a, ha, ha1, by rw [hs.fst ha, ← qb]; exact e⟩
      · exact ⟨i, i0, i1, by rw [hs.ne i0 qa qb]; exact e⟩
theorem mo_PM.id {P : Int → Int} {n : Int} (h : ∀ i, 0 ≤ i → i < n → P i = i) : mo_PM P n :=
  ⟨fun i h0 h1 => by rw [h i h0 h1]; exact ⟨h0, h1⟩, fun i j h0 h1 h2 => by rw [h i h0 (by omega), h j (by omega) h2]; omega, fun t h0 h1 => ⟨t, h0, h1, h t h0 h1⟩⟩
def mo_VL (P : Int → Int) : Nat → Int
  | 0 => 0
  | k + 1 => 6 * mo_VL P k + P k
theorem mo_VL_eq {P P' : Int → Int} (n : Nat) (h : ∀ i : Nat, i < n → P' i = P i) : mo_VL P' n = mo_VL P n := by
  induction n with
  | zero => rfl
  | succ n ih => simp only [mo_VL]; rw [ih (fun i hi => h i (by omega)), h n (by omega)]
theorem mo_VL_lt {P P' : Int → Int} {k : Nat} (n : Nat) (hk : k < n) (he : ∀ i : Nat, i < k → P' i = P i) (hl : P k < P' k) (hr : ∀ i : Nat, i < n → 0 ≤ P i ∧ P i ≤ 5 ∧ 0 ≤ P' i ∧ P' i ≤ 5) : mo_VL P n < mo_VL P' n := by
  induction n with
  | zero => omega
  | succ n ih =>
    simp only [mo_VL]
    by_cases q : k = n
    · subst q; rw [mo_VL_eq k he]; omega
    · have := ih (by omega) (fun i hi => hr i (by omega)); have := hr n (by omega); omega
theorem mo_VL_bd {P : Int → Int} (n : Nat) (h : ∀ i : Nat, i < n → 0 ≤ P i ∧ P i ≤ 5) : 0 ≤ mo_VL P n ∧ mo_VL P n + 1 ≤ 6 ^ n := by
  induction n with
  | zero => exact ⟨Int.le_refl 0, (by decide : (0 : Int) + 1 ≤ 6 ^ 0)⟩
  | succ n ih =>
    simp only [mo_VL]
    have a := ih (fun i hi => h i (by omega)); have b := h n (by omega)
    rw [Int.pow_succ]
    generalize (6 : Int) ^ n = w at a ⊢
    omega
theorem mo_PM.bd {P : Int → Int} {n : Int} (h : mo_PM P n) (h0 : 0 ≤ n) (h6 : n ≤ 6) : 0 ≤ mo_VL P n.toNat ∧ mo_VL P n.toNat ≤ 46655 := by
  have a := mo_VL_bd (P := P) n.toNat (fun i hi => by have := h.1 i (by omega) (by omega); omega)
  rcases (show n = 0 ∨ n = 1 ∨ n = 2 ∨ n = 3 ∨ n = 4 ∨ n = 5 ∨ n = 6 by omega) with rfl | rfl | rfl | rfl | rfl | rfl | rfl
  all_goals (refine ⟨a.1, ?_⟩; have b := a.2; revert b; generalize mo_VL P _ = w; intro b; have c : w + 1 ≤ 46656 := Int.le_trans b (by decide); omega)
theorem mo_lex {P P' : Int → Int} {n k : Int} (h0 : 0 ≤ k) (hk : k < n) (he : ∀ i, 0 ≤ i → i < k → P' i = P i) (hl : P k < P' k) (hp : mo_PM P n) (hp' : mo_PM P' n) (hn : n ≤ 6) : mo_VL P n.toNat < mo_VL P' n.toNat := by
  refine mo_VL_lt (k := k.toNat) n.toNat (by omega) (fun i hi => he i (by omega) (by omega)) ?_ (fun i hi => ?_)
  · rw [show ((k.toNat : Nat) : Int) = k by omega]; exact hl
  · have := hp.1 i (by omega) (by omega); have := hp'.1 i (by omega) (by omega); omega
/-- bit c of x; place c in a code -/
def mo_bt (x c : Int) : Prop := (c = 0 ∧ x % 2 = 1) ∨ (c = 1 ∧ x / 2 % 2 = 1) ∨ (c = 2 ∧ x / 4 % 2 = 1) ∨ (c = 3 ∧ x / 8 % 2 = 1) ∨ (c = 4 ∧ x / 16 % 2 = 1) ∨ (c = 5 ∧ x / 32 % 2 = 1)
def mo_P2 (n : Int) : Int := if n = 0 then 1 else if n = 1 then 2 else if n = 2 then 4 else if n = 3 then 8 else if n = 4 then 16 else if n = 5 then 32 else 64
theorem mo_bt_lt {x c n : Int} (h : mo_bt x c) (h0 : 0 ≤ x) (hx : x < mo_P2 n) (hn : 0 ≤ n ∧ n ≤ 6) : c < n := by
  unfold mo_bt at h
  have e0 : mo_P2 0 = 1 := by decide
  have e1 : mo_P2 1 = 2 := by decide
  have e2 : mo_P2 2 = 4 := by decide
  have e3 : mo_P2 3 = 8 := by decide
  have e4 : mo_P2 4 = 16 := by decide
  have e5 : mo_P2 5 = 32 := by decide
  have e6 : mo_P2 6 = 64 := by decide
  rcases (show n = 0 ∨ n = 1 ∨ n = 2 ∨ n = 3 ∨ n = 4 ∨ n = 5 ∨ n = 6 by omega) with rfl | rfl | rfl | rfl | rfl | rfl | rfl <;> omega
theorem mo_P2_le (n : Int) : 1 ≤ mo_P2 n ∧ mo_P2 n ≤ 64 := by
  unfold mo_P2
  repeat' split
  all_goals omega
def mo_cn (x c : Int) : Int := (if 0 < c then x % 2 else 0) + (if 1 < c then x / 2 % 2 else 0) + (if 2 < c then x / 4 % 2 else 0) + (if 3 < c then x / 8 % 2 else 0) + (if 4 < c then x / 16 % 2 else 0) + (if 5 < c then x / 32 % 2 else 0)
theorem mo_cn_yes {x c : Int} (h : mo_bt x c) : mo_cn x (c + 1) = mo_cn x c + 1 := by
  unfold mo_bt at h
  rcases h with ⟨rfl, h⟩ | ⟨rfl, h⟩ | ⟨rfl, h⟩ | ⟨rfl, h⟩ | ⟨rfl, h⟩ | ⟨rfl, h⟩ <;> (simp [mo_cn]; omega)
theorem mo_cn_no {x c : Int} (h : ¬ mo_bt x c) (h0 : 0 ≤ c) (h1 : c < 6) : mo_cn x (c + 1) = mo_cn x c := by
  unfold mo_bt at h
  rcases (show c = 0 ∨ c = 1 ∨ c = 2 ∨ c = 3 ∨ c = 4 ∨ c = 5 by omega) with rfl | rfl | rfl | rfl | rfl | rfl <;> (simp at h; simp [mo_cn]; omega)
theorem mo_cn0 (x : Int) : mo_cn x 0 = 0 := by simp [mo_cn]
def mo_pl (x c : Int) : Int := if c = 0 then x % 8 else if c = 1 then x / 8 % 8 else if c = 2 then x / 64 % 8 else if c = 3 then x / 512 % 8 else if c = 4 then x / 4096 % 8 else x / 32768 % 8
def mo_p8 (c : Int) : Int := if c = 0 then 1 else if c = 1 then 8 else if c = 2 then 64 else if c = 3 then 512 else if c = 4 then 4096 else 32768
theorem mo_pl_add {x p m c : Int} (h0 : 0 ≤ x) (h1 : x < 262144) (hp : 0 ≤ p) (hp1 : p < 8) (hm : 0 ≤ m) (hm1 : m < 6) (hc : 0 ≤ c) (hc1 : c < 6) (hz : mo_pl x m = 0) : (c = m → mo_pl (x + p * mo_p8 m) c = p) ∧ (c ≠ m → mo_pl (x + p * mo_p8 m) c = mo_pl x c) ∧ 0 ≤ x + p * mo_p8 m ∧ x + p * mo_p8 m < 262144 := by
  rcases (show m = 0 ∨ m = 1 ∨ m = 2 ∨ m = 3 ∨ m = 4 ∨ m = 5 by omega) with rfl | rfl | rfl | rfl | rfl | rfl <;> rcases (show c = 0 ∨ c = 1 ∨ c = 2 ∨ c = 3 ∨ c = 4 ∨ c = 5 by omega) with rfl | rfl | rfl | rfl | rfl | rfl <;>
    (simp [mo_pl, mo_p8] at hz ⊢; omega)
def mo_GD (x u : Int) : Prop := (0 ≤ x ∧ x < 262144) ∧ (∀ c, 0 ≤ c → c < 6 → mo_bt u c → 0 ≤ mo_pl x c ∧ mo_pl x c ≤ 5) ∧ ∀ t, 0 ≤ t → t < mo_cn u 6 → ∃ c, 0 ≤ c ∧ c < 6 ∧ mo_bt u c ∧ mo_pl x c = t
/-- the members of the set u below c, in order -/
def mo_MB (M : Int → Int) (u n c : Int) : Prop := n = mo_cn u c ∧ (0 ≤ n ∧ n ≤ c) ∧ (∀ i, 0 ≤ i → i < n → 0 ≤ M i ∧ M i < c ∧ mo_bt u (M i)) ∧ (∀ i j, 0 ≤ i → i < j → j < n → M i < M j) ∧ ∀ d, 0 ≤ d → d < c → mo_bt u d → ∃ i, 0 ≤ i ∧ i < n ∧ M i = d
theorem mo_MB.rf (M : Int → Int) (u : Int) {n c : Int} (hn : n = 0) (hc : c = 0) : mo_MB M u n c := by
  subst hn; subst hc
  exact ⟨(mo_cn0 u).symm, ⟨by omega, by omega⟩, fun i h0 h1 => by omega, fun i j h0 h1 h2 => by omega, fun d h0 h1 => by omega⟩
theorem mo_MB.yes {M M' : Int → Int} {u n c i v : Int} (h : mo_MB M u n c) (hU : mo_U M M' i v) (hi : i = n) (hv : v = c) (hb : mo_bt u c) (n' c' : Int) (hn : n' = n + 1) (hc : c' = c + 1) : mo_MB M' u n' c' := by
  subst hi; subst hv; subst hn; subst hc
  obtain ⟨a, b, h1, h2, h3⟩ := h
  have hc0 : 0 ≤ v := by omega
  refine ⟨by rw [mo_cn_yes hb, a], by omega, fun j j0 j1 => ?_, fun j k j0 j1 j2 => ?_, fun d d0 d1 hd => ?_⟩
  · rcases hU.at j j0 with ⟨z, e⟩ | ⟨z, e⟩ <;> rw [e]
    · exact ⟨hc0, by omega, hb⟩
    · have := h1 j j0 (by omega); exact ⟨this.1, by omega, this.2.2⟩
  · rcases hU.at j j0 with ⟨z, e⟩ | ⟨z, e⟩ <;> rcases hU.at k (by omega) with ⟨y, d⟩ | ⟨y, d⟩ <;> rw [e, d]
    · omega
    · omega
    · exact (h1 j j0 (by omega)).2.1
    · exact h2 j k j0 j1 (by omega)
  · rcases (show d < v ∨ d = v by omega) with q | q
    · obtain ⟨j, j0, j1, e⟩ := h3 d d0 q hd
      exact ⟨j, j0, by omega, by rw [hU.ne j0 (by omega)]; exact e⟩
    · exact ⟨i, b.1, by omega, by rw [hU.eq b.1, q]⟩
theorem mo_MB.no {M : Int → Int} {u n c : Int} (h : mo_MB M u n c) (hb : ¬ mo_bt u c) (h6 : c < 6) (c' : Int) (hc : c' = c + 1) : mo_MB M u n c' := by
  subst hc
  obtain ⟨a, b, h1, h2, h3⟩ := h
  refine ⟨by rw [mo_cn_no hb (by omega) h6]; exact a, by omega, fun j j0 j1 => ?_, h2, fun d d0 d1 hd => ?_⟩
  · have := h1 j j0 j1; exact ⟨this.1, by omega, this.2.2⟩
  · rcases (show d < c ∨ d = c by omega) with q | q
    · exact h3 d d0 q hd
    · subst q; exact absurd hd hb
/-- the line and the code as far as k: places P, members M -/
def mo_LC (P M Ln : Int → Int) (x k : Int) : Prop := (0 ≤ x ∧ x < 262144) ∧ (∀ i, 0 ≤ i → i < k → Ln (P i) = M i ∧ mo_pl x (M i) = P i) ∧ ∀ c, 0 ≤ c → c < 6 → (∀ i, 0 ≤ i → i < k → M i ≠ c) → mo_pl x c = 0
theorem mo_LC.rf (P M Ln : Int → Int) {x k : Int} (hx : x = 0) (hk : k = 0) : mo_LC P M Ln x k := by
  subst hx; subst hk
  refine ⟨⟨by omega, by omega⟩, fun i h0 h1 => by omega, fun c h0 h1 _ => ?_⟩
  rcases (show c = 0 ∨ c = 1 ∨ c = 2 ∨ c = 3 ∨ c = 4 ∨ c = 5 by omega) with rfl | rfl | rfl | rfl | rfl | rfl <;> decide
theorem mo_LC.up {P M Ln Ln' : Int → Int} {x k n u i v x' k' : Int} (h : mo_LC P M Ln x k) (hP : mo_PM P n) (hM : mo_MB M u n 6) (hk : 0 ≤ k) (hk1 : k < n) (hU : mo_U Ln Ln' i v) (hi : i = P k) (hv : v = M k) (hx : x' = x + P k * mo_p8 (M k)) (hk' : k' = k + 1) : mo_LC P M Ln' x' k' := by
  subst hi; subst hv; subst hx; subst hk'
  obtain ⟨a, b, c⟩ := h
  obtain ⟨-, m0, m1, m2, m3⟩ := hM
  have mk := m1 k hk hk1; have pk := hP.1 k hk hk1
  have hz : mo_pl x (M k) = 0 := c (M k) mk.1 (by omega) (fun i i0 i1 => by have := m2 i k i0 i1 hk1; omega)
  have pa := fun c (h0 : 0 ≤ c) (h1 : c < 6) => mo_pl_add (x := x) (p := P k) (m := M k) (c := c) a.1 a.2 pk.1 (by omega) mk.1 (by omega) h0 h1 hz
  refine ⟨(pa 0 (by omega) (by omega)).2.2, fun j j0 j1 => ?_, fun d d0 d1 hd => ?_⟩
  · rcases (show j < k ∨ j = k by omega) with q | q
    · have := b j j0 q; have mj := m1 j j0 (by omega)
      refine ⟨?_, ?_⟩
      · rw [hU.ne (hP.1 j j0 (by omega)).1 (fun z => by have := hP.inj j0 (by omega) hk hk1 z; omega)]; exact this.1
      · rw [(pa (M j) mj.1 (by omega)).2.1 (by have := m2 j k j0 q hk1; omega)]; exact this.2
    · subst q; exact ⟨hU.eq pk.1, (pa (M j) mk.1 (by omega)).1 rfl⟩
  · rw [(pa d d0 d1).2.1 (fun z => hd k hk (by omega) z.symm)]; exact c d d0 d1 (fun i i0 i1 => hd i i0 (by omega))
theorem mo_LC.good {P M Ln : Int → Int} {x n u k : Int} (h : mo_LC P M Ln x k) (hk : k = n) (hP : mo_PM P n) (hM : mo_MB M u n 6) : mo_GD x u := by
  subst hk
  obtain ⟨m4, m0, m1, m2, m3⟩ := hM
  refine ⟨h.1, fun c c0 c1 hc => ?_, fun t t0 t1 => ?_⟩
  · obtain ⟨i, i0, i1, e⟩ := m3 c c0 c1 hc
    rw [← e, (h.2.1 i i0 i1).2]; have := hP.1 i i0 i1; omega
  · obtain ⟨i, i0, i1, e⟩ := hP.2.2 t t0 (by omega)
    have := m1 i i0 i1
    exact ⟨M i, this.1, by omega, this.2.2, by rw [(h.2.1 i i0 i1).2]; exact e⟩
theorem mo_LC.line {P M Ln : Int → Int} {x n u k w : Int} (h : mo_LC P M Ln x k) (hk : k = n) (hP : mo_PM P n) (hM : mo_MB M u n 6) (hu : 0 ≤ u) (hu1 : u < mo_P2 w) (hw : 0 ≤ w ∧ w ≤ 6) : ∀ j, 0 ≤ j → j < n → 0 ≤ Ln j ∧ Ln j < w := by
  subst hk
  intro j j0 j1
  obtain ⟨i, i0, i1, e⟩ := hP.2.2 j j0 j1
  obtain ⟨-, m0, m1, m2, m3⟩ := hM
  have := m1 i i0 i1
  rw [← e, (h.2.1 i i0 i1).1]; exact ⟨this.1, mo_bt_lt this.2.2 hu hu1 hw⟩
theorem mo_MB.zero {M : Int → Int} {u n : Int} (h : mo_MB M u n 6) (hu : u = 0) : n = 0 := by
  rw [h.1, hu]; decide
theorem zb_bt0 : ∀ a : Fin 64, ∀ c : Fin 6, ((Int32.ofNat a.val >>> (Int32.ofNat c.val &&& 31)) &&& 1).toInt = ((a.val / 2 ^ c.val % 2 : Nat) : Int) := by decide +kernel
theorem zb_small {x : Int32} {k : Nat} (h0 : 0 ≤ x.toInt) (h1 : x.toInt < (k : Int)) (hk : k ≤ 1000000) : ∃ a : Fin k, x = Int32.ofNat a.val ∧ x.toInt = (a.val : Int) := by
  refine ⟨⟨x.toInt.toNat, by omega⟩, ?_, by show x.toInt = ((x.toInt.toNat : Nat) : Int); omega⟩
  apply Int32.toInt_inj.mp
  have e := Int32.toInt_ofNat_of_lt (n := x.toInt.toNat) (by omega)
  show x.toInt = (Int32.ofNat x.toInt.toNat).toInt
  rw [e]; omega
theorem zb_bt {x c y z : Int32} (e1 : y = x >>> (c &&& 31)) (e2 : z = y &&& 1) (h0 : 0 ≤ x.toInt) (h1 : x.toInt < 64) (h2 : 0 ≤ c.toInt) (h3 : c.toInt < 6) : (z.toInt = 1 → mo_bt x.toInt c.toInt) ∧ (z.toInt ≠ 1 → ¬ mo_bt x.toInt c.toInt) := by
  obtain ⟨a, ea, ia⟩ := zb_small (k := 64) h0 h1 (by decide)
  obtain ⟨d, ed, id⟩ := zb_small (k := 6) h2 h3 (by decide)
  have k := zb_bt0 a d
  rw [← ea, ← ed, ← e1, ← e2] at k
  rw [k, ia, id]
  unfold mo_bt
  have hd := d.isLt
  rcases (show d.val = 0 ∨ d.val = 1 ∨ d.val = 2 ∨ d.val = 3 ∨ d.val = 4 ∨ d.val = 5 by omega) with q | q | q | q | q | q <;> (rw [q]; simp <;> omega)
theorem zb_shl0 : ∀ c : Fin 7, ((1 : Int32) <<< (Int32.ofNat c.val &&& 31)).toInt = mo_P2 (c.val : Int) := by decide +kernel
theorem zb_P2 {c z : Int32} (e : z = (1 : Int32) <<< (c &&& 31)) (h0 : 0 ≤ c.toInt) (h1 : c.toInt ≤ 6) : z.toInt = mo_P2 c.toInt := by
  obtain ⟨a, ea, ia⟩ := zb_small (k := 7) h0 (by omega) (by decide)
  have k := zb_shl0 a
  rw [← ea, ← e] at k
  rw [k, ia]
theorem zb_orN {x p m : Nat} (hz : x >>> (3 * m) % 8 = 0) (hp : p < 8) : x ||| (p <<< (3 * m)) = x + p * 8 ^ m := by
  have e8 : (8 : Nat) ^ m = 2 ^ (3 * m) := by rw [show (8 : Nat) = 2 ^ 3 from rfl, ← Nat.pow_mul]
  have hx : x = (x >>> (3 * m)) <<< (3 * m) ||| (x % 2 ^ (3 * m)) := by
    rw [← Nat.shiftLeft_add_eq_or_of_lt (Nat.mod_lt _ (Nat.two_pow_pos _)), Nat.shiftLeft_eq, Nat.shiftRight_eq_div_pow, Nat.mul_comm]
    exact (Nat.div_add_mod x (2 ^ (3 * m))).symm
  have hA : x >>> (3 * m) = (x >>> (3 * m) / 8) <<< 3 := by rw [Nat.shiftLeft_eq]; omega
  generalize hl : x % 2 ^ (3 * m) = lo at hx
  have hlo : lo < 2 ^ (3 * m) := by rw [← hl]; exact Nat.mod_lt _ (Nat.two_pow_pos _)
  generalize hB : x >>> (3 * m) = A at hx hA
  have k1 : A ||| p = A + p := by rw [hA, ← Nat.shiftLeft_add_eq_or_of_lt (show p < 2 ^ 3 from hp)]
  have k2 : x = A * 2 ^ (3 * m) + lo := by rw [hx, ← Nat.shiftLeft_add_eq_or_of_lt hlo, Nat.shiftLeft_eq]
  calc x ||| (p <<< (3 * m)) = (A <<< (3 * m) ||| lo) ||| (p <<< (3 * m)) := by rw [← hx]
    _ = (A <<< (3 * m) ||| p <<< (3 * m)) ||| lo := by rw [Nat.or_assoc, Nat.or_comm lo, ← Nat.or_assoc]
    _ = (A ||| p) <<< (3 * m) ||| lo := by rw [Nat.shiftLeft_or_distrib]
    _ = (A + p) <<< (3 * m) + lo := by rw [k1, Nat.shiftLeft_add_eq_or_of_lt hlo]
    _ = x + p * 8 ^ m := by rw [Nat.shiftLeft_eq, e8, k2, Nat.add_mul]; omega
theorem zb_cd0 : ∀ p : Fin 8, ∀ m : Fin 6, (Int32.ofNat p.val <<< (Int32.ofNat (3 * m.val) &&& 31)).toBitVec.toNat = p.val <<< (3 * m.val) := by decide +kernel
theorem mo_p8N (m : Nat) (h : m < 6) : mo_p8 (m : Int) = ((8 ^ m : Nat) : Int) := by
  rcases (show m = 0 ∨ m = 1 ∨ m = 2 ∨ m = 3 ∨ m = 4 ∨ m = 5 by omega) with rfl | rfl | rfl | rfl | rfl | rfl <;> decide
theorem zb_cd {x p m y z : Int32} {M : Int} (e1 : y = p <<< (m &&& 31)) (e2 : z = x ||| y) (hm : m.toInt = 3 * M) (hM : 0 ≤ M) (hM1 : M < 6) (hx : 0 ≤ x.toInt) (hx1 : x.toInt < 262144) (hp : 0 ≤ p.toInt) (hp1 : p.toInt < 8) (hz : mo_pl x.toInt M = 0) : z.toInt = x.toInt + p.toInt * mo_p8 M := by
  obtain ⟨a, ea, ia⟩ := zb_small (k := 8) hp hp1 (by decide)
  have em : m = Int32.ofNat (3 * M.toNat) := by
    apply Int32.toInt_inj.mp
    rw [hm, Int32.toInt_ofNat', zi_bm _ (by omega) (by omega)]; omega
  have k := zb_cd0 a ⟨M.toNat, by omega⟩
  rw [← ea, ← em, ← e1] at k
  have ez : z.toBitVec.toNat = x.toBitVec.toNat ||| a.val <<< (3 * M.toNat) := by rw [e2, Int32.toBitVec_or, BitVec.toNat_or, k]
  have nx := zb_nat hx
  have hs : x.toBitVec.toNat >>> (3 * M.toNat) % 8 = 0 := by
    rw [Nat.shiftRight_eq_div_pow]
    rcases (show M = 0 ∨ M = 1 ∨ M = 2 ∨ M = 3 ∨ M = 4 ∨ M = 5 by omega) with rfl | rfl | rfl | rfl | rfl | rfl <;> (simp [mo_pl] at hz; rw [nx] at hz; simp; omega)
  rw [zb_orN hs a.isLt] at ez
  have p8 := mo_p8N M.toNat (by omega)
  rw [show ((M.toNat : Nat) : Int) = M by omega] at p8
  have b8 : 8 ^ M.toNat ≤ 8 ^ 5 := Nat.pow_le_pow_right (by decide) (by omega)
  have b9 : a.val * 8 ^ M.toNat ≤ 7 * 8 ^ 5 := Nat.mul_le_mul (by have := a.isLt; omega) b8
  have hz2 := zb_of (z := z) (k := z.toBitVec.toNat) (Nat.le_refl _) (by rw [ez]; omega)
  have nz := zb_nat hz2.1
  rw [nz, ez, nx, ia, p8]
  simp
theorem mo_LC.free {P M Ln : Int → Int} {x k n u : Int} (h : mo_LC P M Ln x k) (hM : mo_MB M u n 6) (hk : 0 ≤ k) (hk1 : k < n) : mo_pl x (M k) = 0 := by
  obtain ⟨-, m0, m1, m2, m3⟩ := hM
  have mk := m1 k hk hk1
  exact h.2.2 (M k) mk.1 (by omega) (fun i i0 i1 => by have := m2 i k i0 i1 hk1; omega)
end
section
theorem gX12_nextPlaces_X12_swapPlaces : GoodIn WALL (wsV RX12 522 RX12 yX12_swapPlaces wqX12_swapPlaces) := wg_V wa_1447 wa_1448 wa_1449 wa_5 wa_1450
theorem dX12_nextPlaces_0 : decode cX12_nextPlaces 0 = .ok (.iload_n 1, 1) := od_27  (by decide +kernel)
theorem dX12_nextPlaces_1 : decode cX12_nextPlaces 1 = .ok (.iconst 2, 1) := od_5  (by decide +kernel)
theorem dX12_nextPlaces_2 : decode cX12_nextPlaces 2 = .ok (.isub, 1) := od_100  (by decide +kernel)
theorem dX12_nextPlaces_3 : decode cX12_nextPlaces 3 = .ok (.istore_n 2, 1) := od_61  (by decide +kernel)
theorem dX12_nextPlaces_4 : decode cX12_nextPlaces 4 = .ok (.iload_n 2, 1) := od_28  (by decide +kernel)
theorem dX12_nextPlaces_5 : decode cX12_nextPlaces 5 = .ok (.ifCond .lt 26, 3) := od_155 (a := 0) (b := 26) (by decide +kernel) (by decide +kernel)
theorem dX12_nextPlaces_8 : decode cX12_nextPlaces 8 = .ok (.aload_n 0, 1) := od_42  (by decide +kernel)
theorem dX12_nextPlaces_9 : decode cX12_nextPlaces 9 = .ok (.getfield 76, 3) := od_180 (a := 0) (b := 76) (by decide +kernel) (by decide)
theorem dX12_nextPlaces_12 : decode cX12_nextPlaces 12 = .ok (.iload_n 2, 1) := od_28  (by decide +kernel)
theorem dX12_nextPlaces_13 : decode cX12_nextPlaces 13 = .ok (.iaload, 1) := od_46  (by decide +kernel)
theorem dX12_nextPlaces_14 : decode cX12_nextPlaces 14 = .ok (.aload_n 0, 1) := od_42  (by decide +kernel)
theorem dX12_nextPlaces_15 : decode cX12_nextPlaces 15 = .ok (.getfield 76, 3) := od_180 (a := 0) (b := 76) (by decide +kernel) (by decide)
theorem dX12_nextPlaces_18 : decode cX12_nextPlaces 18 = .ok (.iload_n 2, 1) := od_28  (by decide +kernel)
theorem dX12_nextPlaces_19 : decode cX12_nextPlaces 19 = .ok (.iconst 1, 1) := od_4  (by decide +kernel)
theorem dX12_nextPlaces_20 : decode cX12_nextPlaces 20 = .ok (.iadd, 1) := od_96  (by decide +kernel)
theorem dX12_nextPlaces_21 : decode cX12_nextPlaces 21 = .ok (.iaload, 1) := od_46  (by decide +kernel)
theorem dX12_nextPlaces_22 : decode cX12_nextPlaces 22 = .ok (.if_icmp .le 9, 3) := od_164 (a := 0) (b := 9) (by decide +kernel) (by decide +kernel)
theorem dX12_nextPlaces_25 : decode cX12_nextPlaces 25 = .ok (.iinc 2 (-1), 3) := od_132 (a := 2) (b := 255) (by decide +kernel) (by decide +kernel)
theorem dX12_nextPlaces_28 : decode cX12_nextPlaces 28 = .ok (.goto (-24), 3) := od_167 (a := 255) (b := 232) (by decide +kernel) (by decide +kernel)
theorem dX12_nextPlaces_31 : decode cX12_nextPlaces 31 = .ok (.iload_n 2, 1) := od_28  (by decide +kernel)
theorem dX12_nextPlaces_32 : decode cX12_nextPlaces 32 = .ok (.ifCond .ge 5, 3) := od_156 (a := 0) (b := 5) (by decide +kernel) (by decide +kernel)
theorem dX12_nextPlaces_35 : decode cX12_nextPlaces 35 = .ok (.iconst 0, 1) := od_3  (by decide +kernel)
theorem dX12_nextPlaces_36 : decode cX12_nextPlaces 36 = .ok (.ireturn, 1) := od_172  (by decide +kernel)
theorem dX12_nextPlaces_37 : decode cX12_nextPlaces 37 = .ok (.iload_n 1, 1) := od_27  (by decide +kernel)
theorem dX12_nextPlaces_38 : decode cX12_nextPlaces 38 = .ok (.iconst 1, 1) := od_4  (by decide +kernel)
theorem dX12_nextPlaces_39 : decode cX12_nextPlaces 39 = .ok (.isub, 1) := od_100  (by decide +kernel)
theorem dX12_nextPlaces_40 : decode cX12_nextPlaces 40 = .ok (.istore_n 3, 1) := od_62  (by decide +kernel)
theorem dX12_nextPlaces_41 : decode cX12_nextPlaces 41 = .ok (.aload_n 0, 1) := od_42  (by decide +kernel)
theorem dX12_nextPlaces_42 : decode cX12_nextPlaces 42 = .ok (.getfield 76, 3) := od_180 (a := 0) (b := 76) (by decide +kernel) (by decide)
theorem dX12_nextPlaces_45 : decode cX12_nextPlaces 45 = .ok (.iload_n 3, 1) := od_29  (by decide +kernel)
theorem dX12_nextPlaces_46 : decode cX12_nextPlaces 46 = .ok (.iaload, 1) := od_46  (by decide +kernel)
theorem dX12_nextPlaces_47 : decode cX12_nextPlaces 47 = .ok (.aload_n 0, 1) := od_42  (by decide +kernel)
theorem dX12_nextPlaces_48 : decode cX12_nextPlaces 48 = .ok (.getfield 76, 3) := od_180 (a := 0) (b := 76) (by decide +kernel) (by decide)
theorem dX12_nextPlaces_51 : decode cX12_nextPlaces 51 = .ok (.iload_n 2, 1) := od_28  (by decide +kernel)
theorem dX12_nextPlaces_52 : decode cX12_nextPlaces 52 = .ok (.iaload, 1) := od_46  (by decide +kernel)
theorem dX12_nextPlaces_53 : decode cX12_nextPlaces 53 = .ok (.if_icmp .ge 9, 3) := od_162 (a := 0) (b := 9) (by decide +kernel) (by decide +kernel)
theorem dX12_nextPlaces_56 : decode cX12_nextPlaces 56 = .ok (.iinc 3 (-1), 3) := od_132 (a := 3) (b := 255) (by decide +kernel) (by decide +kernel)
theorem dX12_nextPlaces_59 : decode cX12_nextPlaces 59 = .ok (.goto (-18), 3) := od_167 (a := 255) (b := 238) (by decide +kernel) (by decide +kernel)
theorem dX12_nextPlaces_62 : decode cX12_nextPlaces 62 = .ok (.aload_n 0, 1) := od_42  (by decide +kernel)
theorem dX12_nextPlaces_63 : decode cX12_nextPlaces 63 = .ok (.iload_n 2, 1) := od_28  (by decide +kernel)
theorem dX12_nextPlaces_64 : decode cX12_nextPlaces 64 = .ok (.iload_n 3, 1) := od_29  (by decide +kernel)
theorem dX12_nextPlaces_65 : decode cX12_nextPlaces 65 = .ok (.invokevirtual 522, 3) := od_182 (a := 2) (b := 10) (by decide +kernel) (by decide)
theorem dX12_nextPlaces_68 : decode cX12_nextPlaces 68 = .ok (.iload_n 2, 1) := od_28  (by decide +kernel)
theorem dX12_nextPlaces_69 : decode cX12_nextPlaces 69 = .ok (.iconst 1, 1) := od_4  (by decide +kernel)
theorem dX12_nextPlaces_70 : decode cX12_nextPlaces 70 = .ok (.iadd, 1) := od_96  (by decide +kernel)
theorem dX12_nextPlaces_71 : decode cX12_nextPlaces 71 = .ok (.istore 4, 2) := od_54 (n := 4) (by decide +kernel)
theorem dX12_nextPlaces_73 : decode cX12_nextPlaces 73 = .ok (.iload_n 1, 1) := od_27  (by decide +kernel)
theorem dX12_nextPlaces_74 : decode cX12_nextPlaces 74 = .ok (.iconst 1, 1) := od_4  (by decide +kernel)
theorem dX12_nextPlaces_75 : decode cX12_nextPlaces 75 = .ok (.isub, 1) := od_100  (by decide +kernel)
theorem dX12_nextPlaces_76 : decode cX12_nextPlaces 76 = .ok (.istore 5, 2) := od_54 (n := 5) (by decide +kernel)
theorem dX12_nextPlaces_78 : decode cX12_nextPlaces 78 = .ok (.iload 4, 2) := od_21 (n := 4) (by decide +kernel)
theorem dX12_nextPlaces_80 : decode cX12_nextPlaces 80 = .ok (.iload 5, 2) := od_21 (n := 5) (by decide +kernel)
theorem dX12_nextPlaces_82 : decode cX12_nextPlaces 82 = .ok (.if_icmp .ge 20, 3) := od_162 (a := 0) (b := 20) (by decide +kernel) (by decide +kernel)
theorem dX12_nextPlaces_85 : decode cX12_nextPlaces 85 = .ok (.aload_n 0, 1) := od_42  (by decide +kernel)
theorem dX12_nextPlaces_86 : decode cX12_nextPlaces 86 = .ok (.iload 4, 2) := od_21 (n := 4) (by decide +kernel)
theorem dX12_nextPlaces_88 : decode cX12_nextPlaces 88 = .ok (.iload 5, 2) := od_21 (n := 5) (by decide +kernel)
theorem dX12_nextPlaces_90 : decode cX12_nextPlaces 90 = .ok (.invokevirtual 522, 3) := od_182 (a := 2) (b := 10) (by decide +kernel) (by decide)
theorem dX12_nextPlaces_93 : decode cX12_nextPlaces 93 = .ok (.iinc 4 1, 3) := od_132 (a := 4) (b := 1) (by decide +kernel) (by decide +kernel)
theorem dX12_nextPlaces_96 : decode cX12_nextPlaces 96 = .ok (.iinc 5 (-1), 3) := od_132 (a := 5) (b := 255) (by decide +kernel) (by decide +kernel)
theorem dX12_nextPlaces_99 : decode cX12_nextPlaces 99 = .ok (.goto (-21), 3) := od_167 (a := 255) (b := 235) (by decide +kernel) (by decide +kernel)
theorem dX12_nextPlaces_102 : decode cX12_nextPlaces 102 = .ok (.iconst 1, 1) := od_4  (by decide +kernel)
theorem dX12_nextPlaces_103 : decode cX12_nextPlaces 103 = .ok (.ireturn, 1) := od_172  (by decide +kernel)
theorem dX12_swapPlaces_0 : decode cX12_swapPlaces 0 = .ok (.aload_n 0, 1) := od_42  (by decide +kernel)
theorem dX12_swapPlaces_1 : decode cX12_swapPlaces 1 = .ok (.getfield 76, 3) := od_180 (a := 0) (b := 76) (by decide +kernel) (by decide)
theorem dX12_swapPlaces_4 : decode cX12_swapPlaces 4 = .ok (.iload_n 1, 1) := od_27  (by decide +kernel)
theorem dX12_swapPlaces_5 : decode cX12_swapPlaces 5 = .ok (.iaload, 1) := od_46  (by decide +kernel)
theorem dX12_swapPlaces_6 : decode cX12_swapPlaces 6 = .ok (.istore_n 3, 1) := od_62  (by decide +kernel)
theorem dX12_swapPlaces_7 : decode cX12_swapPlaces 7 = .ok (.aload_n 0, 1) := od_42  (by decide +kernel)
theorem dX12_swapPlaces_8 : decode cX12_swapPlaces 8 = .ok (.getfield 76, 3) := od_180 (a := 0) (b := 76) (by decide +kernel) (by decide)
theorem dX12_swapPlaces_11 : decode cX12_swapPlaces 11 = .ok (.iload_n 1, 1) := od_27  (by decide +kernel)
theorem dX12_swapPlaces_12 : decode cX12_swapPlaces 12 = .ok (.aload_n 0, 1) := od_42  (by decide +kernel)
theorem dX12_swapPlaces_13 : decode cX12_swapPlaces 13 = .ok (.getfield 76, 3) := od_180 (a := 0) (b := 76) (by decide +kernel) (by decide)
theorem dX12_swapPlaces_16 : decode cX12_swapPlaces 16 = .ok (.iload_n 2, 1) := od_28  (by decide +kernel)
theorem dX12_swapPlaces_17 : decode cX12_swapPlaces 17 = .ok (.iaload, 1) := od_46  (by decide +kernel)
theorem dX12_swapPlaces_18 : decode cX12_swapPlaces 18 = .ok (.iastore, 1) := od_79  (by decide +kernel)
theorem dX12_swapPlaces_19 : decode cX12_swapPlaces 19 = .ok (.aload_n 0, 1) := od_42  (by decide +kernel)
theorem dX12_swapPlaces_20 : decode cX12_swapPlaces 20 = .ok (.getfield 76, 3) := od_180 (a := 0) (b := 76) (by decide +kernel) (by decide)
theorem dX12_swapPlaces_23 : decode cX12_swapPlaces 23 = .ok (.iload_n 2, 1) := od_28  (by decide +kernel)
theorem dX12_swapPlaces_24 : decode cX12_swapPlaces 24 = .ok (.iload_n 3, 1) := od_29  (by decide +kernel)
theorem dX12_swapPlaces_25 : decode cX12_swapPlaces 25 = .ok (.iastore, 1) := od_79  (by decide +kernel)
theorem dX12_swapPlaces_26 : decode cX12_swapPlaces 26 = .ok (.return_, 1) := od_177  (by decide +kernel)
end
section
set_option maxHeartbeats 4000000 in
set_option maxRecDepth 100000 in
theorem t_X12_swapPlaces (l : Launch) (dC : Nat → ClassId) (dI : Nat → Nat → Nat) (sz : Nat) (κ : Nat → ClassId) (Θ : Nat → Option Int) (τ ν : Nat → Nat) (ρ : Nat → Nat → Nat) (L : List Nat) (f : Nat → va_E) (hG : tp_G τ ν ρ L) (hT : tp_T (mo_O κ Θ) κ τ ν ρ f) (h0 : Nat) (v : Int32) (u : Int32) (ht_h0 : τ h0 = 13) (hr_v : 0 ≤ v.toInt ∧ v.toInt ≤ 5) (hr_u : 0 ≤ u.toInt ∧ u.toInt ≤ 5) : Met l yX12_swapPlaces wqX12_swapPlaces ({ frames := 2, cells := 0, slots := 0, locals := 400 }) (va_Pc [.ref h0, .int v, .int u] (pz_B dC dI (tp_K κ) (va_pl L f) sz)) (va_Qv (fun (f1 : Nat → va_E) => tp_T (mo_O κ Θ) κ τ ν ρ f1 ∧ tp_F τ [76] f f1 ∧ mo_SW (mo_R (mo_i (f (ρ h0 46)))) (mo_R (mo_i (f1 (ρ h0 46)))) v.toInt u.toInt) (fun (f1 : Nat → va_E) (t : State) => pz_E dC dI (tp_K κ) (va_A (va_pl L f) sz) (va_pl L f1) t) (va_A (va_pl L f) sz)) 0 0 (va_A (va_pl L f) sz) := by
  refine Met.ofW (cc := cX12_swapPlaces) (maxL := 4) (ret := none) (by decide) rfl ?_
  intro p e s m args below meth c s₁ B hml hv
  obtain ⟨rfl, hsz, hP, hK, hD0, hN⟩ := hv
  have hx := B.exec
  have hb := B.bytes
  have hr := B.returns
  have hts := fun (w : Cond) (h : w ∈ WALL) => atoms_spec (ws := wqX12_swapPlaces) B.pre w (List.mem_cons_of_mem _ h)
  have hown : s.vm.findClass RX12 = some m.cls := findClass_of_methodNamed B.named
  have hlocks := B.notSynchronized
  subst hsz
  have hD := hD0.self (sz := s.heap.size)
  generalize hAe : va_A (va_pl L f) s.heap.size = A at hD ⊢
  have hA : ∀ q : Nat, s.heap.size ≤ q → A q := fun q h => by rw [← hAe]; exact Or.inr h
  have hS : va_S A s.heap s.heap [] := va_S.rf
  have hR : tp_F τ [76] f f := tp_F.rf
  have hl := lv_entry ([.ref h0, .int v, .int u]) (n := 4) (Nat.le_of_ble_eq_true rfl)
  rw [lg_entry_eq]
  generalize (lg_sl ([.ref h0, .int v, .int u]) ++ List.replicate (4 - (lg_sl ([.ref h0, .int v, .int u])).length) Slot.unset).toArray = ls at hl ⊢
  have hl : lv_has ls 4 [(0, .ref h0), (1, .int v), (2, .int u)] := hl
  refine tgk_13 hG ht_h0 (fun y1 y2 y3 y4 y5 y6 y7 y8 y9 y10 y11 y12 y13 y14 y15 y16 y17 y18 y19 y20 y21 y22 y23 y24 y25 => ?_)
  refine tpk_76 hT y21 (fun g27 hf_o26 => ?_)
  have tf28 : mo_hd (mo_i (f (ρ h0 46)) = g27) := tfa_i hf_o26
  refine lv_aload_n hx hb dX12_swapPlaces_0 rfl (lv_at hl 0 rfl) ?_
  refine tpk_13 hT ht_h0 (fun o29_x0 o29_x1 o29_x7 o29_x9 o29_x10 o29_x11 o29_x12 o29_x13 o29_x14 o29_x15 o29_x16 o29_x17 o29_x18 o29_x19 o29_x20 o29_x22 o29_x25 o29_x28 o29_x29 o29_x32 o29_x33 o29_x34 o29_x35 o29_x36 o29_x37 o29_x38 o29_x47 o29_x48 hf_o29 ro29_0 ro29_1 ro29_2 ro29_3 ro29_4 ro29_5 ro29_6 ro29_7 ro29_8 ro29_9 ro29_10 ro29_11 ro29_12 ro29_13 ro29_14 => ?_)
  refine tpk_pos (tp_in hG ht_h0 (by decide)) hf_o29 (fun q30 eq30 => ?_)
  refine va_get (D := (dC, dI)) (ci := 12) (v := .ref (ρ h0 46)) (C := RX12) (T := TX12) (N := 53) hx hb hts hfX12 hown hK hP q30 eq30 rfl 46 (by decide) (hts (.fieldLink RX12 76 "ColdShipsModel" "places" "[I") wa_170) (fun _ h9 => h9) rfl dX12_swapPlaces_1 ?_
  refine lv_iload_n hx hb dX12_swapPlaces_4 rfl (lv_at hl 1 rfl) ?_
  refine tpk_pos (tp_in hG y21 (by decide)) hf_o26 (fun q31 eq31 => ?_)
  refine va_iald hx hb hK hP q31 0 eq31 rfl (vp_in_iff.mpr ⟨by omega, by omega⟩) dX12_swapPlaces_5 ?_
  refine lv_topi (fun z32 ez32 => ?_)
  have jz32 : z32.toInt = mo_R g27 v.toInt := mo_rd ez32 (by omega)
  refine lv_istore_n (lv' := [(3, .int z32), (0, .ref h0), (1, .int v), (2, .int u)]) hx hb dX12_swapPlaces_6 rfl hl (by decide) rfl (fun ls hl => ?_)
  refine lv_aload_n hx hb dX12_swapPlaces_7 rfl (lv_at hl 1 rfl) ?_
  refine va_get (D := (dC, dI)) (ci := 12) (v := .ref (ρ h0 46)) (C := RX12) (T := TX12) (N := 53) hx hb hts hfX12 hown hK hP q30 eq30 rfl 46 (by decide) (hts (.fieldLink RX12 76 "ColdShipsModel" "places" "[I") wa_170) (fun _ h9 => h9) rfl dX12_swapPlaces_8 ?_
  refine lv_iload_n hx hb dX12_swapPlaces_11 rfl (lv_at hl 2 rfl) ?_
  refine lv_aload_n hx hb dX12_swapPlaces_12 rfl (lv_at hl 1 rfl) ?_
  refine va_get (D := (dC, dI)) (ci := 12) (v := .ref (ρ h0 46)) (C := RX12) (T := TX12) (N := 53) hx hb hts hfX12 hown hK hP q30 eq30 rfl 46 (by decide) (hts (.fieldLink RX12 76 "ColdShipsModel" "places" "[I") wa_170) (fun _ h9 => h9) rfl dX12_swapPlaces_13 ?_
  refine lv_iload_n hx hb dX12_swapPlaces_16 rfl (lv_at hl 3 rfl) ?_
  refine va_iald hx hb hK hP q31 0 eq31 rfl (vp_in_iff.mpr ⟨by omega, by omega⟩) dX12_swapPlaces_17 ?_
  refine lv_topi (fun z33 ez33 => ?_)
  have jz33 : z33.toInt = mo_R g27 u.toInt := mo_rd ez33 (by omega)
  refine va_iast hx hb hK hP hD hS q31 0 eq31 rfl (vp_in_iff.mpr ⟨by omega, by omega⟩) dX12_swapPlaces_18 (tp_k (.inl (κ 0, 6, .inl (upd g27 v.toNatClampNeg z33))) hD (tp_in hG y21 (by decide)) eq31 (fun f34 H locs hP hD hS g36 k35 => ?_))
  have hT := hT.up y21 g36 k35 tp_o76
  have hR := hR.up y21 (by decide) k35
  have hU38 : mo_U (mo_R g27) (mo_R (upd g27 v.toNatClampNeg z33)) (v.toInt) (z33.toInt) := mo_up (by omega) (rfl : z33.toInt = _) (by omega)
  generalize (upd g27 v.toNatClampNeg z33) = g37 at g36 hU38
  have hU38e := hU38.eq (by omega)
  refine lv_aload_n hx hb dX12_swapPlaces_19 rfl (lv_at hl 1 rfl) ?_
  have hf_39 : f34 h0 = .inr (12, [.int o29_x0, .int o29_x1, .ref (ρ h0 2), .ref (ρ h0 3), .ref (ρ h0 4), .ref (ρ h0 5), .ref (ρ h0 6), .int o29_x7, .ref (ρ h0 8), .int o29_x9, .int o29_x10, .int o29_x11, .int o29_x12, .long o29_x13, .int o29_x14, .int o29_x15, .int o29_x16, .int o29_x17, .int o29_x18, .int o29_x19, .int o29_x20, .ref (ρ h0 21), .int o29_x22, .ref (ρ h0 23), .ref (ρ h0 24), .int o29_x25, .ref (ρ h0 26), .ref (ρ h0 27), .int o29_x28, .int o29_x29, .ref (ρ h0 30), .ref (ρ h0 31), .int o29_x32, .long o29_x33, .long o29_x34, .long o29_x35, .int o29_x36, .int o29_x37, .int o29_x38, .ref (ρ h0 39), .ref (ρ h0 40), .ref (ρ h0 41), .ref (ρ h0 42), .ref (ρ h0 43), .ref (ρ h0 44), .ref (ρ h0 45), .ref (ρ h0 46), .int o29_x47, .int o29_x48, .ref (ρ h0 49), .ref (ρ h0 50), .ref (ρ h0 51), .ref (ρ h0 52)]) := (k35 _ (tp_ne ht_h0 y21 (by decide))).trans hf_o29
  refine tpk_pos (tp_in hG ht_h0 (by decide)) hf_39 (fun q40 eq40 => ?_)
  refine va_get (D := (dC, dI)) (ci := 12) (v := .ref (ρ h0 46)) (C := RX12) (T := TX12) (N := 53) hx hb hts hfX12 hown hK hP q40 eq40 rfl 46 (by decide) (hts (.fieldLink RX12 76 "ColdShipsModel" "places" "[I") wa_170) (fun _ h9 => h9) rfl dX12_swapPlaces_20 ?_
  refine lv_iload_n hx hb dX12_swapPlaces_23 rfl (lv_at hl 3 rfl) ?_
  refine lv_iload_n hx hb dX12_swapPlaces_24 rfl (lv_at hl 0 rfl) ?_
  refine tpk_pos (tp_in hG y21 (by decide)) g36 (fun q41 eq41 => ?_)
  refine va_iast hx hb hK hP hD hS q41 0 eq41 rfl (vp_in_iff.mpr ⟨by omega, by omega⟩) dX12_swapPlaces_25 (tp_k (.inl (κ 0, 6, .inl (upd g37 u.toNatClampNeg z32))) hD (tp_in hG y21 (by decide)) eq41 (fun f42 H locs hP hD hS g44 k43 => ?_))
  have hT := hT.up y21 g44 k43 tp_o76
  have hR := hR.up y21 (by decide) k43
  have hU46 : mo_U (mo_R g37) (mo_R (upd g37 u.toNatClampNeg z32)) (u.toInt) (z32.toInt) := mo_up (by omega) (rfl : z32.toInt = _) (by omega)
  generalize (upd g37 u.toNatClampNeg z32) = g45 at g44 hU46
  have hU46e := hU46.eq (by omega)
  have tf47 : mo_hd (mo_i (f42 (ρ h0 46)) = g45) := tfa_i g44
  exact W.vret hx hb hr (fun t ht hW => ⟨⟨f42, rfl, ⟨hT, hR, (by first | (simp only [(mo_un tf28), (mo_un tf47), mo_i1, mo_l1]; exact (show mo_SW (mo_R g27) (mo_R g45) v.toInt u.toInt from mo_SW.of hU38 hU46 (by omega) (by omega))) | (rw [(mo_un tf28), (mo_un tf47)]; exact (show mo_SW (mo_R g27) (mo_R g45) v.toInt u.toInt from mo_SW.of hU38 hU46 (by omega) (by omega))))⟩, by rw [ht]; exact hP, va_K.moved hW.alike hK, hD⟩, hS.F ht⟩) hS.2.2 dX12_swapPlaces_26
set_option maxHeartbeats 4000000 in
set_option maxRecDepth 100000 in
theorem t_X12_nextPlaces (l : Launch) (dC : Nat → ClassId) (dI : Nat → Nat → Nat) (sz : Nat) (κ : Nat → ClassId) (Θ : Nat → Option Int) (τ ν : Nat → Nat) (ρ : Nat → Nat → Nat) (L : List Nat) (f : Nat → va_E) (hG : tp_G τ ν ρ L) (hT : tp_T (mo_O κ Θ) κ τ ν ρ f) (h0 : Nat) (v : Int32) (ht_h0 : τ h0 = 13) (hr_v : 0 ≤ v.toInt ∧ v.toInt ≤ 6) (hpm : mo_PM (mo_R (mo_i (f (ρ h0 46)))) v.toInt) : Met l yX12_nextPlaces wqX12_nextPlaces ({ frames := 3, cells := 0, slots := 0, locals := 800 }) (va_Pc [.ref h0, .int v] (pz_B dC dI (tp_K κ) (va_pl L f) sz)) (va_Qi (fun (r : Int32) (f1 : Nat → va_E) => tp_T (mo_O κ Θ) κ τ ν ρ f1 ∧ tp_F τ [76] f f1 ∧ (0 ≤ r.toInt ∧ r.toInt ≤ 1) ∧ mo_PM (mo_R (mo_i (f1 (ρ h0 46)))) v.toInt ∧ mo_VL (mo_R (mo_i (f (ρ h0 46)))) v.toInt.toNat ≤ mo_VL (mo_R (mo_i (f1 (ρ h0 46)))) v.toInt.toNat ∧ (r.toInt ≠ 0 → mo_VL (mo_R (mo_i (f (ρ h0 46)))) v.toInt.toNat < mo_VL (mo_R (mo_i (f1 (ρ h0 46)))) v.toInt.toNat)) (fun (f1 : Nat → va_E) (t : State) => pz_E dC dI (tp_K κ) (va_A (va_pl L f) sz) (va_pl L f1) t) (va_A (va_pl L f) sz)) 0 0 (va_A (va_pl L f) sz) := by
  refine Met.ofW (cc := cX12_nextPlaces) (maxL := 6) (ret := some .boolean) (by decide) rfl ?_
  intro p e s m args below meth c s₁ B hml hv
  obtain ⟨rfl, hsz, hP, hK, hD0, hN⟩ := hv
  have hx := B.exec
  have hb := B.bytes
  have hr := B.returns
  have hts := fun (w : Cond) (h : w ∈ WALL) => atoms_spec (ws := wqX12_nextPlaces) B.pre w (List.mem_cons_of_mem _ h)
  have hown : s.vm.findClass RX12 = some m.cls := findClass_of_methodNamed B.named
  have hlocks := B.notSynchronized
  subst hsz
  have hD := hD0.self (sz := s.heap.size)
  generalize hAe : va_A (va_pl L f) s.heap.size = A at hD ⊢
  have hA : ∀ q : Nat, s.heap.size ≤ q → A q := fun q h => by rw [← hAe]; exact Or.inr h
  have hS : va_S A s.heap s.heap [] := va_S.rf
  have hR : tp_F τ [76] f f := tp_F.rf
  have hl := lv_entry ([.ref h0, .int v]) (n := 6) (Nat.le_of_ble_eq_true rfl)
  rw [lg_entry_eq]
  generalize (lg_sl ([.ref h0, .int v]) ++ List.replicate (6 - (lg_sl ([.ref h0, .int v])).length) Slot.unset).toArray = ls at hl ⊢
  have hl : lv_has ls 6 [(0, .ref h0), (1, .int v)] := hl
  refine tgk_13 hG ht_h0 (fun y1 y2 y3 y4 y5 y6 y7 y8 y9 y10 y11 y12 y13 y14 y15 y16 y17 y18 y19 y20 y21 y22 y23 y24 y25 => ?_)
  refine tpk_76 hT y21 (fun g27 hf_o26 => ?_)
  have tf28 : mo_hd (mo_i (f (ρ h0 46)) = g27) := tfa_i hf_o26
  replace hpm : mo_PM (mo_R g27) v.toInt := by have q9 := hpm; first | (simp only [(mo_un tf28), mo_i1, mo_l1] at q9; exact q9) | (rw [(mo_un tf28)] at q9; exact q9)
  refine lv_iload_n hx hb dX12_nextPlaces_0 rfl (lv_at hl 1 rfl) ?_
  refine lv_iconst (v := 2) hx hb dX12_nextPlaces_1 (by decide) ?_
  refine lv_isub hx hb dX12_nextPlaces_2 ?_
  refine lv_topi (fun z29 ez29 => ?_)
  have iz29 : z29.toInt = v.toInt - 2 := zi_sub ez29 rfl rfl (by omega) (by omega)
  refine lv_istore_n (lv' := [(2, .int z29), (0, .ref h0), (1, .int v)]) hx hb dX12_nextPlaces_3 rfl hl (by decide) rfl (fun ls hl => ?_)
  refine pz_loop (fun n0 H locs ls => ∃ w30 : Int32, n0 = ((w30.toInt) + 2).toNat ∧ ((-2) ≤ w30.toInt ∧ w30.toInt ≤ 4) ∧ ((w30.toInt) ≤ v.toInt - 2) ∧ va_P (dC, dI) vwCl (va_pl L f) H ∧ va_D A (va_pl L f) ∧ va_S A s.heap H locs ∧ lv_has ls 6 [(2, .int w30), (0, .ref h0), (1, .int v)]) ?_ _ _ _ _ ⟨z29, rfl, (by omega), (by omega), hP, hD, hS, lv_sub hl [0, 1, 2] rfl⟩
  intro n0 H locs ls hI ih32
  refine Exists.elim hI (fun w30 hE90 => tn_7 hE90 (fun hn33 rw30 k31 hP hD hS hl => ?_))
  clear hE90 hI
  refine lv_iload_n hx hb dX12_nextPlaces_4 rfl (lv_at hl 0 rfl) ?_
  refine lv_if_lt (tgt := 31) hx hb dX12_nextPlaces_5 (by decide) (fun c34 => ?_) (fun c34 => ?_)
  · have ic34 : w30.toInt < 0 := zi_lt rfl rfl c34
    refine lv_iload_n hx hb dX12_nextPlaces_31 rfl (lv_at hl 0 rfl) ?_
    refine lv_if_ge (tgt := 37) hx hb dX12_nextPlaces_32 (by decide) (fun c35 => ?_) (fun c35 => ?_)
    · have ic35 : w30.toInt ≥ 0 := zi_ge rfl rfl c35
      exfalso; omega
    · have ic35 : w30.toInt < 0 := zi_gef rfl rfl c35
      refine lv_iconst (v := 0) hx hb dX12_nextPlaces_35 (by decide) ?_
      exact W.zret (v := 0) hx hb hr rfl (fun t ht hW => ⟨⟨0, f, rfl, ⟨hT, hR, (by first | decide | omega), (by first | (simp only [(mo_un tf28), mo_i1, mo_l1]; exact (show mo_PM (mo_R g27) v.toInt ∧ mo_VL (mo_R g27) v.toInt.toNat ≤ mo_VL (mo_R g27) v.toInt.toNat ∧ ((0 : Int32).toInt ≠ 0 → mo_VL (mo_R g27) v.toInt.toNat < mo_VL (mo_R g27) v.toInt.toNat) from ⟨hpm, Int.le_refl _, fun q9 => absurd (by decide) q9⟩)) | (rw [(mo_un tf28)]; exact (show mo_PM (mo_R g27) v.toInt ∧ mo_VL (mo_R g27) v.toInt.toNat ≤ mo_VL (mo_R g27) v.toInt.toNat ∧ ((0 : Int32).toInt ≠ 0 → mo_VL (mo_R g27) v.toInt.toNat < mo_VL (mo_R g27) v.toInt.toNat) from ⟨hpm, Int.le_refl _, fun q9 => absurd (by decide) q9⟩)))⟩, by rw [ht]; exact hP, va_K.moved hW.alike hK, hD⟩, hS.F ht⟩) hS.2.2 dX12_nextPlaces_36
  · have ic34 : w30.toInt ≥ 0 := zi_ltf rfl rfl c34
    refine lv_aload_n hx hb dX12_nextPlaces_8 rfl (lv_at hl 1 rfl) ?_
    refine tpk_13 hT ht_h0 (fun o36_x0 o36_x1 o36_x7 o36_x9 o36_x10 o36_x11 o36_x12 o36_x13 o36_x14 o36_x15 o36_x16 o36_x17 o36_x18 o36_x19 o36_x20 o36_x22 o36_x25 o36_x28 o36_x29 o36_x32 o36_x33 o36_x34 o36_x35 o36_x36 o36_x37 o36_x38 o36_x47 o36_x48 hf_o36 ro36_0 ro36_1 ro36_2 ro36_3 ro36_4 ro36_5 ro36_6 ro36_7 ro36_8 ro36_9 ro36_10 ro36_11 ro36_12 ro36_13 ro36_14 => ?_)
    refine tpk_pos (tp_in hG ht_h0 (by decide)) hf_o36 (fun q37 eq37 => ?_)
    refine va_get (D := (dC, dI)) (ci := 12) (v := .ref (ρ h0 46)) (C := RX12) (T := TX12) (N := 53) hx hb hts hfX12 hown hK hP q37 eq37 rfl 46 (by decide) (hts (.fieldLink RX12 76 "ColdShipsModel" "places" "[I") wa_170) (fun _ h9 => h9) rfl dX12_nextPlaces_9 ?_
    refine lv_iload_n hx hb dX12_nextPlaces_12 rfl (lv_at hl 0 rfl) ?_
    refine tpk_pos (tp_in hG y21 (by decide)) hf_o26 (fun q38 eq38 => ?_)
    refine va_iald hx hb hK hP q38 0 eq38 rfl (vp_in_iff.mpr ⟨by omega, by omega⟩) dX12_nextPlaces_13 ?_
    refine lv_topi (fun z39 ez39 => ?_)
    have jz39 : z39.toInt = mo_R g27 w30.toInt := mo_rd ez39 (by omega)
    refine lv_aload_n hx hb dX12_nextPlaces_14 rfl (lv_at hl 1 rfl) ?_
    refine va_get (D := (dC, dI)) (ci := 12) (v := .ref (ρ h0 46)) (C := RX12) (T := TX12) (N := 53) hx hb hts hfX12 hown hK hP q37 eq37 rfl 46 (by decide) (hts (.fieldLink RX12 76 "ColdShipsModel" "places" "[I") wa_170) (fun _ h9 => h9) rfl dX12_nextPlaces_15 ?_
    refine lv_iload_n hx hb dX12_nextPlaces_18 rfl (lv_at hl 0 rfl) ?_
    refine lv_iconst (v := 1) hx hb dX12_nextPlaces_19 (by decide) ?_
    refine lv_iadd hx hb dX12_nextPlaces_20 ?_
    refine lv_topi (fun z40 ez40 => ?_)
    have iz40 : z40.toInt = w30.toInt + 1 := zi_add ez40 rfl rfl (by omega) (by omega)
    refine va_iald hx hb hK hP q38 0 eq38 rfl (vp_in_iff.mpr ⟨by omega, by omega⟩) dX12_nextPlaces_21 ?_
    refine lv_topi (fun z41 ez41 => ?_)
    have jz41 : z41.toInt = mo_R g27 (w30.toInt + 1) := mo_rd ez41 (by omega)
    refine lv_icmp_le (tgt := 31) hx hb dX12_nextPlaces_22 (by decide) (fun c42 => ?_) (fun c42 => ?_)
    · have ic42 : z39.toInt ≤ z41.toInt := zi_le rfl rfl c42
      refine lv_iload_n hx hb dX12_nextPlaces_31 rfl (lv_at hl 0 rfl) ?_
      refine lv_if_ge (tgt := 37) hx hb dX12_nextPlaces_32 (by decide) (fun c43 => ?_) (fun c43 => ?_)
      · have ic43 : w30.toInt ≥ 0 := zi_ge rfl rfl c43
        refine lv_iload_n hx hb dX12_nextPlaces_37 rfl (lv_at hl 2 rfl) ?_
        refine lv_iconst (v := 1) hx hb dX12_nextPlaces_38 (by decide) ?_
        refine lv_isub hx hb dX12_nextPlaces_39 ?_
        refine lv_topi (fun z44 ez44 => ?_)
        have iz44 : z44.toInt = v.toInt - 1 := zi_sub ez44 rfl rfl (by omega) (by omega)
        refine lv_istore_n (lv' := [(3, .int z44), (2, .int w30), (0, .ref h0), (1, .int v)]) hx hb dX12_nextPlaces_40 rfl hl (by decide) rfl (fun ls hl => ?_)
        refine pz_loop (fun n0 H locs ls => ∃ w45 : Int32, n0 = ((w45.toInt)).toNat ∧ (0 ≤ w45.toInt ∧ w45.toInt ≤ 5) ∧ (w30.toInt < (w45.toInt)) ∧ ((w45.toInt) ≤ v.toInt - 1) ∧ va_P (dC, dI) vwCl (va_pl L f) H ∧ va_D A (va_pl L f) ∧ va_S A s.heap H locs ∧ lv_has ls 6 [(3, .int w45), (2, .int w30), (0, .ref h0), (1, .int v)]) ?_ _ _ _ _ ⟨z44, rfl, (by omega), (by omega), (by omega), hP, hD, hS, lv_sub hl [0, 1, 2, 3] rfl⟩
        intro n0 H locs ls hI ih48
        refine Exists.elim hI (fun w45 hE90 => tn_8 hE90 (fun hn49 rw45 k46 k47 hP hD hS hl => ?_))
        clear hE90 hI
        refine lv_aload_n hx hb dX12_nextPlaces_41 rfl (lv_at hl 2 rfl) ?_
        refine va_get (D := (dC, dI)) (ci := 12) (v := .ref (ρ h0 46)) (C := RX12) (T := TX12) (N := 53) hx hb hts hfX12 hown hK hP q37 eq37 rfl 46 (by decide) (hts (.fieldLink RX12 76 "ColdShipsModel" "places" "[I") wa_170) (fun _ h9 => h9) rfl dX12_nextPlaces_42 ?_
        refine lv_iload_n hx hb dX12_nextPlaces_45 rfl (lv_at hl 0 rfl) ?_
        refine va_iald hx hb hK hP q38 0 eq38 rfl (vp_in_iff.mpr ⟨by omega, by omega⟩) dX12_nextPlaces_46 ?_
        refine lv_topi (fun z50 ez50 => ?_)
        have jz50 : z50.toInt = mo_R g27 w45.toInt := mo_rd ez50 (by omega)
        refine lv_aload_n hx hb dX12_nextPlaces_47 rfl (lv_at hl 2 rfl) ?_
        refine va_get (D := (dC, dI)) (ci := 12) (v := .ref (ρ h0 46)) (C := RX12) (T := TX12) (N := 53) hx hb hts hfX12 hown hK hP q37 eq37 rfl 46 (by decide) (hts (.fieldLink RX12 76 "ColdShipsModel" "places" "[I") wa_170) (fun _ h9 => h9) rfl dX12_nextPlaces_48 ?_
        refine lv_iload_n hx hb dX12_nextPlaces_51 rfl (lv_at hl 1 rfl) ?_
        refine va_iald hx hb hK hP q38 0 eq38 rfl (vp_in_iff.mpr ⟨by omega, by omega⟩) dX12_nextPlaces_52 ?_
        refine lv_topi (fun z51 ez51 => ?_)
        have jz51 : z51.toInt = mo_R g27 w30.toInt := mo_rd ez51 (by omega)
        refine lv_icmp_ge (tgt := 62) hx hb dX12_nextPlaces_53 (by decide) (fun c52 => ?_) (fun c52 => ?_)
        · have ic52 : z50.toInt ≥ z51.toInt := zi_ge rfl rfl c52
          refine lv_aload_n hx hb dX12_nextPlaces_62 rfl (lv_at hl 2 rfl) ?_
          refine lv_iload_n hx hb dX12_nextPlaces_63 rfl (lv_at hl 1 rfl) ?_
          refine lv_iload_n hx hb dX12_nextPlaces_64 rfl (lv_at hl 0 rfl) ?_
          have hFc := tp_fr hD hS hA
          refine va_callv (va_runV (As := [.int w30, .int w45]) (rest := []) ⟨hx, hb, hml, hown, hts⟩ (t_X12_swapPlaces l dC dI _ κ Θ τ ν ρ L f hG hT h0 w30 w45 ht_h0 (by first | decide | omega) (by first | decide | omega)) (cwV 2 hts gX12_nextPlaces_X12_swapPlaces rfl rfl rfl ⟨rfl, pd_X12_swapPlaces⟩ ⟨Nat.le_of_ble_eq_true rfl, Nat.le_of_ble_eq_true rfl⟩) ⟨pz_blind, va_recv hK hP (ci := 12) (q0 := q37) rfl eq37, pz_pre hP hK hD hN⟩ rfl rfl hl.1 rfl (lv_room (Nat.le_of_ble_eq_true rfl)) dX12_nextPlaces_65 ⟨Nat.le_of_ble_eq_true rfl, Nat.le_of_ble_eq_true rfl⟩) hS (fun q _ h => hFc q h) hFc (fun f55 t H1 locs ht hvm hw54 hB hz1 hk1 hS => ?_)
          refine tn_3 hw54 (fun hT hF56 hw54p => ?_); clear hw54
          have hR := hR.then hF56 (by decide)
          have hP := hB.1; rw [ht] at hP; have hD := tp_ad f55 hD; clear hB hFc hz1 hk1; subst ht; generalize t.heap = H at hP hS ⊢
          refine tpk_76 hT y21 (fun g58 hf_o57 => ?_)
          have tf59 : mo_hd (mo_i (f55 (ρ h0 46)) = g58) := tfa_i hf_o57
          have tk60 : mo_SW (mo_R g27) (mo_R g58) w30.toInt w45.toInt := by have q9 := hw54p; first | (simp only [(mo_un tf28), (mo_un tf59), mo_i1, mo_l1] at q9; exact q9) | (rw [(mo_un tf28), (mo_un tf59)] at q9; exact q9)
          clear hw54p
          have np61n : (mo_R g27) w30.toInt ≠ (mo_R g27) w45.toInt := hpm.2.1 w30.toInt w45.toInt (by omega) (by omega) (by omega)
          refine lv_iload_n hx hb dX12_nextPlaces_68 rfl (lv_at hl 1 rfl) ?_
          refine lv_iconst (v := 1) hx hb dX12_nextPlaces_69 (by decide) ?_
          refine lv_iadd hx hb dX12_nextPlaces_70 ?_
          refine lv_topi (fun z62 ez62 => ?_)
          have iz62 : z62.toInt = w30.toInt + 1 := zi_add ez62 rfl rfl (by omega) (by omega)
          refine lv_istore (lv' := [(4, .int z62), (3, .int w45), (2, .int w30), (0, .ref h0), (1, .int v)]) hx hb dX12_nextPlaces_71 hl (by decide) rfl (fun ls hl => ?_)
          refine lv_iload_n hx hb dX12_nextPlaces_73 rfl (lv_at hl 4 rfl) ?_
          refine lv_iconst (v := 1) hx hb dX12_nextPlaces_74 (by decide) ?_
          refine lv_isub hx hb dX12_nextPlaces_75 ?_
          refine lv_topi (fun z63 ez63 => ?_)
          have iz63 : z63.toInt = v.toInt - 1 := zi_sub ez63 rfl rfl (by omega) (by omega)
          refine lv_istore (lv' := [(5, .int z63), (4, .int z62), (3, .int w45), (2, .int w30), (0, .ref h0), (1, .int v)]) hx hb dX12_nextPlaces_76 hl (by decide) rfl (fun ls hl => ?_)
          refine pz_loop (fun n0 H locs ls => ∃ f68 : Nat → va_E, ∃ w64 : Int32, ∃ w65 : Int32, n0 = ((w64.toInt) - (w65.toInt)).toNat ∧ tp_T (mo_O κ Θ) κ τ ν ρ f68 ∧ tp_F τ [76] f f68 ∧ ((mo_PM (mo_R (mo_i (f68 (ρ h0 46)))) v.toInt)) ∧ ((∀ i, 0 ≤ i → i < w30.toInt → (mo_R (mo_i (f68 (ρ h0 46)))) i = (mo_R g27) i)) ∧ (((mo_R g27) w30.toInt < (mo_R (mo_i (f68 (ρ h0 46)))) w30.toInt)) ∧ (0 ≤ w64.toInt ∧ w64.toInt ≤ 5) ∧ (1 ≤ w65.toInt ∧ w65.toInt ≤ 6) ∧ (w30.toInt < (w65.toInt)) ∧ ((w64.toInt) ≤ v.toInt - 1) ∧ va_P (dC, dI) vwCl (va_pl L f68) H ∧ va_D A (va_pl L f68) ∧ va_S A s.heap H locs ∧ lv_has ls 6 [(5, .int w64), (4, .int w65), (3, .int w45), (2, .int w30), (0, .ref h0), (1, .int v)]) ?_ _ _ _ _ ⟨f55, z63, z62, rfl, hT, hR, (by first | (simp only [(mo_un tf59), mo_i1, mo_l1]; exact (show mo_PM (mo_R g58) v.toInt from (hpm.sw tk60 (by omega) (by omega) (by omega) (by omega)))) | (rw [(mo_un tf59)]; exact (show mo_PM (mo_R g58) v.toInt from (hpm.sw tk60 (by omega) (by omega) (by omega) (by omega))))), (by first | (simp only [(mo_un tf59), mo_i1, mo_l1]; exact (show ∀ i, 0 ≤ i → i < w30.toInt → (mo_R g58) i = (mo_R g27) i from (fun i i0 i1 => tk60.ne i0 (by omega) (by omega)))) | (rw [(mo_un tf59)]; exact (show ∀ i, 0 ≤ i → i < w30.toInt → (mo_R g58) i = (mo_R g27) i from (fun i i0 i1 => tk60.ne i0 (by omega) (by omega))))), (by first | (simp only [(mo_un tf59), mo_i1, mo_l1]; exact (show (mo_R g27) w30.toInt < (mo_R g58) w30.toInt from (by rw [tk60.fst (by omega)]; omega))) | (rw [(mo_un tf59)]; exact (show (mo_R g27) w30.toInt < (mo_R g58) w30.toInt from (by rw [tk60.fst (by omega)]; omega)))), (by omega), (by omega), (by omega), (by omega), hP, hD, hS, lv_sub hl [0, 1, 2, 3, 4, 5] rfl⟩
          intro n0 H locs ls hI ih70
          refine Exists.elim hI (fun f68 hE90 => Exists.elim hE90 (fun w64 hE91 => Exists.elim hE91 (fun w65 hE92 => tn_14 hE92 (fun hn71 hT hR jf72 jf73 jf74 rw64 rw65 k66 k67 hP hD hS hl => ?_))))
          clear hE92 hE91 hE90 hI
          refine tpk_76 hT y21 (fun g76 hf_o75 => ?_)
          have tf77 : mo_hd (mo_i (f68 (ρ h0 46)) = g76) := tfa_i hf_o75
          replace jf72 : mo_PM (mo_R g76) v.toInt := by have q9 := jf72; first | (simp only [(mo_un tf77), mo_i1, mo_l1] at q9; exact q9) | (rw [(mo_un tf77)] at q9; exact q9)
          replace jf73 : mo_hd (∀ i, 0 ≤ i → i < w30.toInt → (mo_R g76) i = (mo_R g27) i) := by have q9 := jf73; first | (simp only [(mo_un tf77), mo_i1, mo_l1] at q9; exact q9) | (rw [(mo_un tf77)] at q9; exact q9)
          replace jf74 : (mo_R g27) w30.toInt < (mo_R g76) w30.toInt := by have q9 := jf74; first | (simp only [(mo_un tf77), mo_i1, mo_l1] at q9; exact q9) | (rw [(mo_un tf77)] at q9; exact q9)
          refine lv_iload hx hb dX12_nextPlaces_78 (lv_at hl 1 rfl) ?_
          refine lv_iload hx hb dX12_nextPlaces_80 (lv_at hl 0 rfl) ?_
          refine lv_icmp_ge (tgt := 102) hx hb dX12_nextPlaces_82 (by decide) (fun c78 => ?_) (fun c78 => ?_)
          · have ic78 : w65.toInt ≥ w64.toInt := zi_ge rfl rfl c78
            refine lv_iconst (v := 1) hx hb dX12_nextPlaces_102 (by decide) ?_
            exact W.zret (v := 1) hx hb hr rfl (fun t ht hW => ⟨⟨1, f68, rfl, ⟨hT, hR, (by first | decide | (first | omega | (have u0 := mo_un jf73; omega))), (by first | (simp only [(mo_un tf77), (mo_un tf28), mo_i1, mo_l1]; exact (show mo_PM (mo_R g76) v.toInt ∧ mo_VL (mo_R g27) v.toInt.toNat ≤ mo_VL (mo_R g76) v.toInt.toNat ∧ ((1 : Int32).toInt ≠ 0 → mo_VL (mo_R g27) v.toInt.toNat < mo_VL (mo_R g76) v.toInt.toNat) from (have q7 := mo_lex (by (first | omega | (have u0 := mo_un jf73; omega))) (by (first | omega | (have u0 := mo_un jf73; omega))) jf73 jf74 hpm jf72 (by (first | omega | (have u0 := mo_un jf73; omega))); ⟨jf72, Int.le_of_lt q7, fun _ => q7⟩))) | (rw [(mo_un tf77), (mo_un tf28)]; exact (show mo_PM (mo_R g76) v.toInt ∧ mo_VL (mo_R g27) v.toInt.toNat ≤ mo_VL (mo_R g76) v.toInt.toNat ∧ ((1 : Int32).toInt ≠ 0 → mo_VL (mo_R g27) v.toInt.toNat < mo_VL (mo_R g76) v.toInt.toNat) from (have q7 := mo_lex (by (first | omega | (have u0 := mo_un jf73; omega))) (by (first | omega | (have u0 := mo_un jf73; omega))) jf73 jf74 hpm jf72 (by (first | omega | (have u0 := mo_un jf73; omega))); ⟨jf72, Int.le_of_lt q7, fun _ => q7⟩))))⟩, by rw [ht]; exact hP, va_K.moved hW.alike hK, hD⟩, hS.F ht⟩) hS.2.2 dX12_nextPlaces_103
          · have ic78 : w65.toInt < w64.toInt := zi_gef rfl rfl c78
            refine lv_aload_n hx hb dX12_nextPlaces_85 rfl (lv_at hl 4 rfl) ?_
            refine lv_iload hx hb dX12_nextPlaces_86 (lv_at hl 1 rfl) ?_
            refine lv_iload hx hb dX12_nextPlaces_88 (lv_at hl 0 rfl) ?_
            refine tpk_13 hT ht_h0 (fun o79_x0 o79_x1 o79_x7 o79_x9 o79_x10 o79_x11 o79_x12 o79_x13 o79_x14 o79_x15 o79_x16 o79_x17 o79_x18 o79_x19 o79_x20 o79_x22 o79_x25 o79_x28 o79_x29 o79_x32 o79_x33 o79_x34 o79_x35 o79_x36 o79_x37 o79_x38 o79_x47 o79_x48 hf_o79 ro79_0 ro79_1 ro79_2 ro79_3 ro79_4 ro79_5 ro79_6 ro79_7 ro79_8 ro79_9 ro79_10 ro79_11 ro79_12 ro79_13 ro79_14 => ?_)
            refine tpk_pos (tp_in hG ht_h0 (by decide)) hf_o79 (fun q80 eq80 => ?_)
            have hFc := tp_fr hD hS hA
            refine va_callv (va_runV (As := [.int w65, .int w64]) (rest := []) ⟨hx, hb, hml, hown, hts⟩ (t_X12_swapPlaces l dC dI _ κ Θ τ ν ρ L f68 hG hT h0 w65 w64 ht_h0 (by first | decide | (first | omega | (have u0 := mo_un jf73; omega))) (by first | decide | (first | omega | (have u0 := mo_un jf73; omega)))) (cwV 2 hts gX12_nextPlaces_X12_swapPlaces rfl rfl rfl ⟨rfl, pd_X12_swapPlaces⟩ ⟨Nat.le_of_ble_eq_true rfl, Nat.le_of_ble_eq_true rfl⟩) ⟨pz_blind, va_recv hK hP (ci := 12) (q0 := q80) rfl eq80, pz_pre hP hK hD hN⟩ rfl rfl hl.1 rfl (lv_room (Nat.le_of_ble_eq_true rfl)) dX12_nextPlaces_90 ⟨Nat.le_of_ble_eq_true rfl, Nat.le_of_ble_eq_true rfl⟩) hS (fun q _ h => hFc q h) hFc (fun f83 t H1 locs ht hvm hw82 hB hz1 hk1 hS => ?_)
            refine tn_3 hw82 (fun hT hF84 hw82p => ?_); clear hw82
            have hR := hR.then hF84 (by decide)
            have hP := hB.1; rw [ht] at hP; have hD := tp_ad f83 hD; clear hB hFc hz1 hk1; subst ht; generalize t.heap = H at hP hS ⊢
            refine tpk_76 hT y21 (fun g86 hf_o85 => ?_)
            have tf87 : mo_hd (mo_i (f83 (ρ h0 46)) = g86) := tfa_i hf_o85
            have tk88 : mo_SW (mo_R g76) (mo_R g86) w65.toInt w64.toInt := by have q9 := hw82p; first | (simp only [(mo_un tf77), (mo_un tf87), mo_i1, mo_l1] at q9; exact q9) | (rw [(mo_un tf77), (mo_un tf87)] at q9; exact q9)
            clear hw82p
            obtain ⟨z89, ez89⟩ : ∃ y : Int32, y = w65 + 1 := ⟨_, rfl⟩
            refine lv_iinc (v := z89) (lv' := [(4, .int z89), (5, .int w64), (3, .int w45), (2, .int w30), (0, .ref h0), (1, .int v)]) hx hb dX12_nextPlaces_93 hl (k := 1) rfl (by rw [ez89]; rfl) (by decide) rfl (fun ls hl => ?_)
            have iz89 : z89.toInt = w65.toInt + 1 := zi_add ez89 rfl rfl (by (first | omega | (have u0 := mo_un jf73; omega))) (by (first | omega | (have u0 := mo_un jf73; omega)))
            obtain ⟨z90, ez90⟩ : ∃ y : Int32, y = w64 + (-1) := ⟨_, rfl⟩
            refine lv_iinc (v := z90) (lv' := [(5, .int z90), (4, .int z89), (3, .int w45), (2, .int w30), (0, .ref h0), (1, .int v)]) hx hb dX12_nextPlaces_96 hl (k := 1) rfl (by rw [ez90]; rfl) (by decide) rfl (fun ls hl => ?_)
            have iz90 : z90.toInt = w64.toInt + (-1) := zi_add ez90 rfl rfl (by (first | omega | (have u0 := mo_un jf73; omega))) (by (first | omega | (have u0 := mo_un jf73; omega)))
            refine lv_goto (tgt := 78) hx hb dX12_nextPlaces_99 (by decide) ?_
            exact ih70 _ _ _ _ (by rw [hn71]; (first | omega | (have u0 := mo_un jf73; omega))) ⟨f83, z90, z89, rfl, hT, hR, (by first | (simp only [(mo_un tf87), mo_i1, mo_l1]; exact (show mo_PM (mo_R g86) v.toInt from (jf72.sw tk88 (by (first | omega | (have u0 := mo_un jf73; omega))) (by (first | omega | (have u0 := mo_un jf73; omega))) (by (first | omega | (have u0 := mo_un jf73; omega))) (by (first | omega | (have u0 := mo_un jf73; omega)))))) | (rw [(mo_un tf87)]; exact (show mo_PM (mo_R g86) v.toInt from (jf72.sw tk88 (by (first | omega | (have u0 := mo_un jf73; omega))) (by (first | omega | (have u0 := mo_un jf73; omega))) (by (first | omega | (have u0 := mo_un jf73; omega))) (by (first | omega | (have u0 := mo_un jf73; omega))))))), (by first | (simp only [(mo_un tf87), mo_i1, mo_l1]; exact (show ∀ i, 0 ≤ i → i < w30.toInt → (mo_R g86) i = (mo_R g27) i from (fun i i0 i1 => (tk88.ne i0 (by (first | omega | (have u0 := mo_un jf73; omega))) (by (first | omega | (have u0 := mo_un jf73; omega)))).trans (jf73 i i0 i1)))) | (rw [(mo_un tf87)]; exact (show ∀ i, 0 ≤ i → i < w30.toInt → (mo_R g86) i = (mo_R g27) i from (fun i i0 i1 => (tk88.ne i0 (by (first | omega | (have u0 := mo_un jf73; omega))) (by (first | omega | (have u0 := mo_un jf73; omega)))).trans (jf73 i i0 i1))))), (by first | (simp only [(mo_un tf87), mo_i1, mo_l1]; exact (show (mo_R g27) w30.toInt < (mo_R g86) w30.toInt from (by rw [tk88.ne (by (first | omega | (have u0 := mo_un jf73; omega))) (by (first | omega | (have u0 := mo_un jf73; omega))) (by (first | omega | (have u0 := mo_un jf73; omega)))]; exact jf74))) | (rw [(mo_un tf87)]; exact (show (mo_R g27) w30.toInt < (mo_R g86) w30.toInt from (by rw [tk88.ne (by (first | omega | (have u0 := mo_un jf73; omega))) (by (first | omega | (have u0 := mo_un jf73; omega))) (by (first | omega | (have u0 := mo_un jf73; omega)))]; exact jf74)))), (by (first | omega | (have u0 := mo_un jf73; omega))), (by (first | omega | (have u0 := mo_un jf73; omega))), (by (first | omega | (have u0 := mo_un jf73; omega))), (by (first | omega | (have u0 := mo_un jf73; omega))), hP, hD, hS, lv_sub hl [0, 1, 2, 3, 4, 5] rfl⟩
        · have ic52 : z50.toInt < z51.toInt := zi_gef rfl rfl c52
          obtain ⟨z91, ez91⟩ : ∃ y : Int32, y = w45 + (-1) := ⟨_, rfl⟩
          refine lv_iinc (v := z91) (lv' := [(3, .int z91), (2, .int w30), (0, .ref h0), (1, .int v)]) hx hb dX12_nextPlaces_56 hl (k := 0) rfl (by rw [ez91]; rfl) (by decide) rfl (fun ls hl => ?_)
          have iz91 : z91.toInt = w45.toInt + (-1) := zi_add ez91 rfl rfl (by omega) (by omega)
          refine lv_goto (tgt := 41) hx hb dX12_nextPlaces_59 (by decide) ?_
          exact ih48 _ _ _ _ (by rw [hn49]; omega) ⟨z91, rfl, (by omega), (by rcases (show w45.toInt = w30.toInt + 1 ∨ w45.toInt ≠ w30.toInt + 1 by omega) with q9 | q9; (exfalso; have q8 : mo_R g27 w45.toInt = mo_R g27 (w30.toInt + 1) := congrArg (mo_R g27) q9; omega); omega), (by omega), hP, hD, hS, lv_sub hl [0, 1, 2, 3] rfl⟩
      · have ic43 : w30.toInt < 0 := zi_gef rfl rfl c43
        exfalso; omega
    · have ic42 : z39.toInt > z41.toInt := zi_lef rfl rfl c42
      obtain ⟨z92, ez92⟩ : ∃ y : Int32, y = w30 + (-1) := ⟨_, rfl⟩
      refine lv_iinc (v := z92) (lv' := [(2, .int z92), (0, .ref h0), (1, .int v)]) hx hb dX12_nextPlaces_25 hl (k := 0) rfl (by rw [ez92]; rfl) (by decide) rfl (fun ls hl => ?_)
      have iz92 : z92.toInt = w30.toInt + (-1) := zi_add ez92 rfl rfl (by omega) (by omega)
      refine lv_goto (tgt := 4) hx hb dX12_nextPlaces_28 (by decide) ?_
      exact ih32 _ _ _ _ (by rw [hn33]; omega) ⟨z92, rfl, (by omega), (by omega), hP, hD, hS, lv_sub hl [0, 1, 2] rfl⟩
end
section
theorem gX12_findSet_X12_sailRow : GoodIn WALL (wsV RX12 519 RX12 yX12_sailRow wqX12_sailRow) := wg_V wa_1424 wa_1425 wa_1426 wa_5 wa_1427
theorem gX12_findSet_X12_nextPlaces : GoodIn WALL (wsV RX12 525 RX12 yX12_nextPlaces wqX12_nextPlaces) := wg_V wa_1443 wa_1444 wa_1445 wa_5 wa_1446
theorem dX12_findSet_0 : decode cX12_findSet 0 = .ok (.iconst 0, 1) := od_3  (by decide +kernel)
theorem dX12_findSet_1 : decode cX12_findSet 1 = .ok (.istore 4, 2) := od_54 (n := 4) (by decide +kernel)
theorem dX12_findSet_3 : decode cX12_findSet 3 = .ok (.iconst 0, 1) := od_3  (by decide +kernel)
theorem dX12_findSet_4 : decode cX12_findSet 4 = .ok (.istore 5, 2) := od_54 (n := 5) (by decide +kernel)
theorem dX12_findSet_6 : decode cX12_findSet 6 = .ok (.iload 5, 2) := od_21 (n := 5) (by decide +kernel)
theorem dX12_findSet_8 : decode cX12_findSet 8 = .ok (.bipush 6, 2) := od_16 (a := 6) (by decide +kernel) (by decide +kernel)
theorem dX12_findSet_10 : decode cX12_findSet 10 = .ok (.if_icmp .ge 40, 3) := od_162 (a := 0) (b := 40) (by decide +kernel) (by decide +kernel)
theorem dX12_findSet_13 : decode cX12_findSet 13 = .ok (.iload_n 2, 1) := od_28  (by decide +kernel)
theorem dX12_findSet_14 : decode cX12_findSet 14 = .ok (.iload 5, 2) := od_21 (n := 5) (by decide +kernel)
theorem dX12_findSet_16 : decode cX12_findSet 16 = .ok (.ishr, 1) := od_122  (by decide +kernel)
theorem dX12_findSet_17 : decode cX12_findSet 17 = .ok (.iconst 1, 1) := od_4  (by decide +kernel)
theorem dX12_findSet_18 : decode cX12_findSet 18 = .ok (.iand, 1) := od_126  (by decide +kernel)
theorem dX12_findSet_19 : decode cX12_findSet 19 = .ok (.iconst 1, 1) := od_4  (by decide +kernel)
theorem dX12_findSet_20 : decode cX12_findSet 20 = .ok (.if_icmp .ne 24, 3) := od_160 (a := 0) (b := 24) (by decide +kernel) (by decide +kernel)
theorem dX12_findSet_23 : decode cX12_findSet 23 = .ok (.aload_n 0, 1) := od_42  (by decide +kernel)
theorem dX12_findSet_24 : decode cX12_findSet 24 = .ok (.getfield 73, 3) := od_180 (a := 0) (b := 73) (by decide +kernel) (by decide)
theorem dX12_findSet_27 : decode cX12_findSet 27 = .ok (.iload 4, 2) := od_21 (n := 4) (by decide +kernel)
theorem dX12_findSet_29 : decode cX12_findSet 29 = .ok (.iload 5, 2) := od_21 (n := 5) (by decide +kernel)
theorem dX12_findSet_31 : decode cX12_findSet 31 = .ok (.iastore, 1) := od_79  (by decide +kernel)
theorem dX12_findSet_32 : decode cX12_findSet 32 = .ok (.aload_n 0, 1) := od_42  (by decide +kernel)
theorem dX12_findSet_33 : decode cX12_findSet 33 = .ok (.getfield 76, 3) := od_180 (a := 0) (b := 76) (by decide +kernel) (by decide)
theorem dX12_findSet_36 : decode cX12_findSet 36 = .ok (.iload 4, 2) := od_21 (n := 4) (by decide +kernel)
theorem dX12_findSet_38 : decode cX12_findSet 38 = .ok (.iload 4, 2) := od_21 (n := 4) (by decide +kernel)
theorem dX12_findSet_40 : decode cX12_findSet 40 = .ok (.iastore, 1) := od_79  (by decide +kernel)
theorem dX12_findSet_41 : decode cX12_findSet 41 = .ok (.iinc 4 1, 3) := od_132 (a := 4) (b := 1) (by decide +kernel) (by decide +kernel)
theorem dX12_findSet_44 : decode cX12_findSet 44 = .ok (.iinc 5 1, 3) := od_132 (a := 5) (b := 1) (by decide +kernel) (by decide +kernel)
theorem dX12_findSet_47 : decode cX12_findSet 47 = .ok (.goto (-41), 3) := od_167 (a := 255) (b := 215) (by decide +kernel) (by decide +kernel)
theorem dX12_findSet_50 : decode cX12_findSet 50 = .ok (.ldc2_w 466, 3) := od_20 (a := 1) (b := 210) (by decide +kernel) (by decide)
theorem dX12_findSet_53 : decode cX12_findSet 53 = .ok (.lstore 5, 2) := od_55 (n := 5) (by decide +kernel)
theorem dX12_findSet_55 : decode cX12_findSet 55 = .ok (.iconst 0, 1) := od_3  (by decide +kernel)
theorem dX12_findSet_56 : decode cX12_findSet 56 = .ok (.istore 7, 2) := od_54 (n := 7) (by decide +kernel)
theorem dX12_findSet_58 : decode cX12_findSet 58 = .ok (.iconst 1, 1) := od_4  (by decide +kernel)
theorem dX12_findSet_59 : decode cX12_findSet 59 = .ok (.istore 8, 2) := od_54 (n := 8) (by decide +kernel)
theorem dX12_findSet_61 : decode cX12_findSet 61 = .ok (.iload 8, 2) := od_21 (n := 8) (by decide +kernel)
theorem dX12_findSet_63 : decode cX12_findSet 63 = .ok (.ifCond .eq 118, 3) := od_153 (a := 0) (b := 118) (by decide +kernel) (by decide +kernel)
theorem dX12_findSet_66 : decode cX12_findSet 66 = .ok (.iconst 0, 1) := od_3  (by decide +kernel)
theorem dX12_findSet_67 : decode cX12_findSet 67 = .ok (.istore 9, 2) := od_54 (n := 9) (by decide +kernel)
theorem dX12_findSet_69 : decode cX12_findSet 69 = .ok (.iconst 0, 1) := od_3  (by decide +kernel)
theorem dX12_findSet_70 : decode cX12_findSet 70 = .ok (.istore 10, 2) := od_54 (n := 10) (by decide +kernel)
theorem dX12_findSet_72 : decode cX12_findSet 72 = .ok (.iload 10, 2) := od_21 (n := 10) (by decide +kernel)
theorem dX12_findSet_74 : decode cX12_findSet 74 = .ok (.iload 4, 2) := od_21 (n := 4) (by decide +kernel)
theorem dX12_findSet_76 : decode cX12_findSet 76 = .ok (.if_icmp .ge 50, 3) := od_162 (a := 0) (b := 50) (by decide +kernel) (by decide +kernel)
theorem dX12_findSet_79 : decode cX12_findSet 79 = .ok (.aload_n 0, 1) := od_42  (by decide +kernel)
theorem dX12_findSet_80 : decode cX12_findSet 80 = .ok (.getfield 64, 3) := od_180 (a := 0) (b := 64) (by decide +kernel) (by decide)
theorem dX12_findSet_83 : decode cX12_findSet 83 = .ok (.aload_n 0, 1) := od_42  (by decide +kernel)
theorem dX12_findSet_84 : decode cX12_findSet 84 = .ok (.getfield 76, 3) := od_180 (a := 0) (b := 76) (by decide +kernel) (by decide)
theorem dX12_findSet_87 : decode cX12_findSet 87 = .ok (.iload 10, 2) := od_21 (n := 10) (by decide +kernel)
theorem dX12_findSet_89 : decode cX12_findSet 89 = .ok (.iaload, 1) := od_46  (by decide +kernel)
theorem dX12_findSet_90 : decode cX12_findSet 90 = .ok (.aload_n 0, 1) := od_42  (by decide +kernel)
theorem dX12_findSet_91 : decode cX12_findSet 91 = .ok (.getfield 73, 3) := od_180 (a := 0) (b := 73) (by decide +kernel) (by decide)
theorem dX12_findSet_94 : decode cX12_findSet 94 = .ok (.iload 10, 2) := od_21 (n := 10) (by decide +kernel)
theorem dX12_findSet_96 : decode cX12_findSet 96 = .ok (.iaload, 1) := od_46  (by decide +kernel)
theorem dX12_findSet_97 : decode cX12_findSet 97 = .ok (.iastore, 1) := od_79  (by decide +kernel)
theorem dX12_findSet_98 : decode cX12_findSet 98 = .ok (.iload 9, 2) := od_21 (n := 9) (by decide +kernel)
theorem dX12_findSet_100 : decode cX12_findSet 100 = .ok (.aload_n 0, 1) := od_42  (by decide +kernel)
theorem dX12_findSet_101 : decode cX12_findSet 101 = .ok (.getfield 76, 3) := od_180 (a := 0) (b := 76) (by decide +kernel) (by decide)
theorem dX12_findSet_104 : decode cX12_findSet 104 = .ok (.iload 10, 2) := od_21 (n := 10) (by decide +kernel)
theorem dX12_findSet_106 : decode cX12_findSet 106 = .ok (.iaload, 1) := od_46  (by decide +kernel)
theorem dX12_findSet_107 : decode cX12_findSet 107 = .ok (.iconst 3, 1) := od_6  (by decide +kernel)
theorem dX12_findSet_108 : decode cX12_findSet 108 = .ok (.aload_n 0, 1) := od_42  (by decide +kernel)
theorem dX12_findSet_109 : decode cX12_findSet 109 = .ok (.getfield 73, 3) := od_180 (a := 0) (b := 73) (by decide +kernel) (by decide)
theorem dX12_findSet_112 : decode cX12_findSet 112 = .ok (.iload 10, 2) := od_21 (n := 10) (by decide +kernel)
theorem dX12_findSet_114 : decode cX12_findSet 114 = .ok (.iaload, 1) := od_46  (by decide +kernel)
theorem dX12_findSet_115 : decode cX12_findSet 115 = .ok (.imul, 1) := od_104  (by decide +kernel)
theorem dX12_findSet_116 : decode cX12_findSet 116 = .ok (.ishl, 1) := od_120  (by decide +kernel)
theorem dX12_findSet_117 : decode cX12_findSet 117 = .ok (.ior, 1) := od_128  (by decide +kernel)
theorem dX12_findSet_118 : decode cX12_findSet 118 = .ok (.istore 9, 2) := od_54 (n := 9) (by decide +kernel)
theorem dX12_findSet_120 : decode cX12_findSet 120 = .ok (.iinc 10 1, 3) := od_132 (a := 10) (b := 1) (by decide +kernel) (by decide +kernel)
theorem dX12_findSet_123 : decode cX12_findSet 123 = .ok (.goto (-51), 3) := od_167 (a := 255) (b := 205) (by decide +kernel) (by decide +kernel)
theorem dX12_findSet_126 : decode cX12_findSet 126 = .ok (.aload_n 0, 1) := od_42  (by decide +kernel)
theorem dX12_findSet_127 : decode cX12_findSet 127 = .ok (.iload_n 1, 1) := od_27  (by decide +kernel)
theorem dX12_findSet_128 : decode cX12_findSet 128 = .ok (.iload 4, 2) := od_21 (n := 4) (by decide +kernel)
theorem dX12_findSet_130 : decode cX12_findSet 130 = .ok (.iload_n 3, 1) := od_29  (by decide +kernel)
theorem dX12_findSet_131 : decode cX12_findSet 131 = .ok (.invokevirtual 519, 3) := od_182 (a := 2) (b := 7) (by decide +kernel) (by decide)
theorem dX12_findSet_134 : decode cX12_findSet 134 = .ok (.lstore 10, 2) := od_55 (n := 10) (by decide +kernel)
theorem dX12_findSet_136 : decode cX12_findSet 136 = .ok (.lload 10, 2) := od_22 (n := 10) (by decide +kernel)
theorem dX12_findSet_138 : decode cX12_findSet 138 = .ok (.lload 5, 2) := od_22 (n := 5) (by decide +kernel)
theorem dX12_findSet_140 : decode cX12_findSet 140 = .ok (.lcmp, 1) := od_148  (by decide +kernel)
theorem dX12_findSet_141 : decode cX12_findSet 141 = .ok (.ifCond .le 8, 3) := od_158 (a := 0) (b := 8) (by decide +kernel) (by decide +kernel)
theorem dX12_findSet_144 : decode cX12_findSet 144 = .ok (.iload 9, 2) := od_21 (n := 9) (by decide +kernel)
theorem dX12_findSet_146 : decode cX12_findSet 146 = .ok (.goto 5, 3) := od_167 (a := 0) (b := 5) (by decide +kernel) (by decide +kernel)
theorem dX12_findSet_149 : decode cX12_findSet 149 = .ok (.iload 7, 2) := od_21 (n := 7) (by decide +kernel)
theorem dX12_findSet_151 : decode cX12_findSet 151 = .ok (.istore 7, 2) := od_54 (n := 7) (by decide +kernel)
theorem dX12_findSet_153 : decode cX12_findSet 153 = .ok (.lload 10, 2) := od_22 (n := 10) (by decide +kernel)
theorem dX12_findSet_155 : decode cX12_findSet 155 = .ok (.lload 5, 2) := od_22 (n := 5) (by decide +kernel)
theorem dX12_findSet_157 : decode cX12_findSet 157 = .ok (.lcmp, 1) := od_148  (by decide +kernel)
theorem dX12_findSet_158 : decode cX12_findSet 158 = .ok (.ifCond .le 8, 3) := od_158 (a := 0) (b := 8) (by decide +kernel) (by decide +kernel)
theorem dX12_findSet_161 : decode cX12_findSet 161 = .ok (.lload 10, 2) := od_22 (n := 10) (by decide +kernel)
theorem dX12_findSet_163 : decode cX12_findSet 163 = .ok (.goto 5, 3) := od_167 (a := 0) (b := 5) (by decide +kernel) (by decide +kernel)
theorem dX12_findSet_166 : decode cX12_findSet 166 = .ok (.lload 5, 2) := od_22 (n := 5) (by decide +kernel)
theorem dX12_findSet_168 : decode cX12_findSet 168 = .ok (.lstore 5, 2) := od_55 (n := 5) (by decide +kernel)
theorem dX12_findSet_170 : decode cX12_findSet 170 = .ok (.aload_n 0, 1) := od_42  (by decide +kernel)
theorem dX12_findSet_171 : decode cX12_findSet 171 = .ok (.iload 4, 2) := od_21 (n := 4) (by decide +kernel)
theorem dX12_findSet_173 : decode cX12_findSet 173 = .ok (.invokevirtual 525, 3) := od_182 (a := 2) (b := 13) (by decide +kernel) (by decide)
theorem dX12_findSet_176 : decode cX12_findSet 176 = .ok (.istore 8, 2) := od_54 (n := 8) (by decide +kernel)
theorem dX12_findSet_178 : decode cX12_findSet 178 = .ok (.goto (-117), 3) := od_167 (a := 255) (b := 139) (by decide +kernel) (by decide +kernel)
theorem dX12_findSet_181 : decode cX12_findSet 181 = .ok (.aload_n 0, 1) := od_42  (by decide +kernel)
theorem dX12_findSet_182 : decode cX12_findSet 182 = .ok (.getfield 67, 3) := od_180 (a := 0) (b := 67) (by decide +kernel) (by decide)
theorem dX12_findSet_185 : decode cX12_findSet 185 = .ok (.bipush 64, 2) := od_16 (a := 64) (by decide +kernel) (by decide +kernel)
theorem dX12_findSet_187 : decode cX12_findSet 187 = .ok (.iload_n 1, 1) := od_27  (by decide +kernel)
theorem dX12_findSet_188 : decode cX12_findSet 188 = .ok (.imul, 1) := od_104  (by decide +kernel)
theorem dX12_findSet_189 : decode cX12_findSet 189 = .ok (.iload_n 2, 1) := od_28  (by decide +kernel)
theorem dX12_findSet_190 : decode cX12_findSet 190 = .ok (.iadd, 1) := od_96  (by decide +kernel)
theorem dX12_findSet_191 : decode cX12_findSet 191 = .ok (.lload 5, 2) := od_22 (n := 5) (by decide +kernel)
theorem dX12_findSet_193 : decode cX12_findSet 193 = .ok (.lastore, 1) := od_80  (by decide +kernel)
theorem dX12_findSet_194 : decode cX12_findSet 194 = .ok (.aload_n 0, 1) := od_42  (by decide +kernel)
theorem dX12_findSet_195 : decode cX12_findSet 195 = .ok (.getfield 70, 3) := od_180 (a := 0) (b := 70) (by decide +kernel) (by decide)
theorem dX12_findSet_198 : decode cX12_findSet 198 = .ok (.bipush 64, 2) := od_16 (a := 64) (by decide +kernel) (by decide +kernel)
theorem dX12_findSet_200 : decode cX12_findSet 200 = .ok (.iload_n 1, 1) := od_27  (by decide +kernel)
theorem dX12_findSet_201 : decode cX12_findSet 201 = .ok (.imul, 1) := od_104  (by decide +kernel)
theorem dX12_findSet_202 : decode cX12_findSet 202 = .ok (.iload_n 2, 1) := od_28  (by decide +kernel)
theorem dX12_findSet_203 : decode cX12_findSet 203 = .ok (.iadd, 1) := od_96  (by decide +kernel)
theorem dX12_findSet_204 : decode cX12_findSet 204 = .ok (.iload 7, 2) := od_21 (n := 7) (by decide +kernel)
theorem dX12_findSet_206 : decode cX12_findSet 206 = .ok (.iastore, 1) := od_79  (by decide +kernel)
theorem dX12_findSet_207 : decode cX12_findSet 207 = .ok (.return_, 1) := od_177  (by decide +kernel)
end
section
set_option maxHeartbeats 4000000 in
set_option maxRecDepth 100000 in
theorem t_X12_findSet (l : Launch) (dC : Nat → ClassId) (dI : Nat → Nat → Nat) (sz : Nat) (κ : Nat → ClassId) (Θ : Nat → Option Int) (τ ν : Nat → Nat) (ρ : Nat → Nat → Nat) (L : List Nat) (f : Nat → va_E) (hG : tp_G τ ν ρ L) (hT : tp_T (mo_O κ Θ) κ τ ν ρ f) (h0 : Nat) (v : Int32) (u : Int32) (a : Int32) (x : Int) (b : Int) (ht_h0 : τ h0 = 13) (hbb : 0 ≤ b ∧ b ≤ 1000) (hJ : mo_RI x b (mo_R (mo_i (f (ρ h0 2))))) (hv1 : 0 ≤ v.toInt ∧ v.toInt < (mo_R (mo_i (f (ρ h0 2)))) (1)) (hv2 : v.toInt ≤ 2) (hu1 : 0 ≤ u.toInt) (hu2 : u.toInt < mo_P2 ((mo_R (mo_i (f (ρ h0 2)))) 10)) : Met l yX12_findSet wqX12_findSet ({ frames := 8, cells := 0, slots := 0, locals := 2800 }) (va_Pc [.ref h0, .int v, .int u, .int a] (pz_B dC dI (tp_K κ) (va_pl L f) sz)) (va_Qv (fun (f1 : Nat → va_E) => tp_T (mo_O κ Θ) κ τ ν ρ f1 ∧ tp_F τ [13, 69, 70, 71, 72, 73, 74, 75, 76] f f1 ∧ ∃ m9 t9 : Int, mo_U (mo_RL (mo_l (f (ρ h0 43)))) (mo_RL (mo_l (f1 (ρ h0 43)))) (64 * v.toInt + u.toInt) m9 ∧ mo_U (mo_R (mo_i (f (ρ h0 44)))) (mo_R (mo_i (f1 (ρ h0 44)))) (64 * v.toInt + u.toInt) t9 ∧ (m9 ≠ -2000000000000000 → mo_GD t9 u.toInt) ∧ (u.toInt = 0 → m9 = 0)) (fun (f1 : Nat → va_E) (t : State) => pz_E dC dI (tp_K κ) (va_A (va_pl L f) sz) (va_pl L f1) t) (va_A (va_pl L f) sz)) 0 0 (va_A (va_pl L f) sz) := by
  refine Met.ofW (cc := cX12_findSet) (maxL := 12) (ret := none) (by decide) rfl ?_
  intro p e s m args below meth c s₁ B hml hv
  obtain ⟨rfl, hsz, hP, hK, hD0, hN⟩ := hv
  have hx := B.exec
  have hb := B.bytes
  have hr := B.returns
  have hts := fun (w : Cond) (h : w ∈ WALL) => atoms_spec (ws := wqX12_findSet) B.pre w (List.mem_cons_of_mem _ h)
  have hown : s.vm.findClass RX12 = some m.cls := findClass_of_methodNamed B.named
  have hlocks := B.notSynchronized
  subst hsz
  have hD := hD0.self (sz := s.heap.size)
  generalize hAe : va_A (va_pl L f) s.heap.size = A at hD ⊢
  have hA : ∀ q : Nat, s.heap.size ≤ q → A q := fun q h => by rw [← hAe]; exact Or.inr h
  have hS : va_S A s.heap s.heap [] := va_S.rf
  have hR : tp_F τ [13, 69, 70, 71, 72, 73, 74, 75, 76] f f := tp_F.rf
  have hl := lv_entry ([.ref h0, .int v, .int u, .int a]) (n := 12) (Nat.le_of_ble_eq_true rfl)
  rw [lg_entry_eq]
  generalize (lg_sl ([.ref h0, .int v, .int u, .int a]) ++ List.replicate (12 - (lg_sl ([.ref h0, .int v, .int u, .int a])).length) Slot.unset).toArray = ls at hl ⊢
  have hl : lv_has ls 12 [(0, .ref h0), (1, .int v), (2, .int u), (3, .int a)] := hl
  refine tgk_13 hG ht_h0 (fun y1 y2 y3 y4 y5 y6 y7 y8 y9 y10 y11 y12 y13 y14 y15 y16 y17 y18 y19 y20 y21 y22 y23 y24 y25 => ?_)
  refine tpk_32 hT y1 (fun g27 hf_o26 => ?_)
  have hI : mo_RI x b (mo_R g27) := by have q9 := hJ; rw [hf_o26, mo_i1] at q9; exact q9
  rw [hf_o26, mo_i1] at hv1
  rw [hf_o26, mo_i1] at hu2
  refine tpk_74 hT y19 (fun g29 hf_o28 => ?_)
  have tf30 : mo_hd (mo_i (f (ρ h0 44)) = g29) := tfa_i hf_o28
  refine tpk_73 hT y18 (fun g32 hf_o31 => ?_)
  have tf33 : mo_hd (mo_l (f (ρ h0 43)) = g32) := tfa_l hf_o31
  have := hI.k1; have hk10 := hI.k10
  have hP2 := mo_P2_le (mo_R g27 10)
  refine lv_iconst (v := 0) hx hb dX12_findSet_0 (by decide) ?_
  refine lv_istore (lv' := [(4, .int 0), (0, .ref h0), (1, .int v), (2, .int u), (3, .int a)]) hx hb dX12_findSet_1 hl (by decide) rfl (fun ls hl => ?_)
  refine lv_iconst (v := 0) hx hb dX12_findSet_3 (by decide) ?_
  refine lv_istore (lv' := [(5, .int 0), (4, .int 0), (0, .ref h0), (1, .int v), (2, .int u), (3, .int a)]) hx hb dX12_findSet_4 hl (by decide) rfl (fun ls hl => ?_)
  refine tpk_75 hT y20 (fun g41 hf_o40 => ?_)
  have tf42 : mo_hd (mo_i (f (ρ h0 45)) = g41) := tfa_i hf_o40
  refine tpk_76 hT y21 (fun g44 hf_o43 => ?_)
  have tf45 : mo_hd (mo_i (f (ρ h0 46)) = g44) := tfa_i hf_o43
  refine pz_loop (fun n0 H locs ls => ∃ f46 : Nat → va_E, ∃ w34 : Int32, ∃ w35 : Int32, n0 = (6 - (w34.toInt)).toNat ∧ tp_T (mo_O κ Θ) κ τ ν ρ f46 ∧ tp_F τ [13, 69, 70, 71, 72, 73, 74, 75, 76] f f46 ∧ f46 (ρ h0 2) = .inl (κ 0, 12967, .inl g27) ∧ f46 (ρ h0 43) = .inl (κ 1, 192, .inr (.inl g32)) ∧ f46 (ρ h0 44) = .inl (κ 0, 192, .inl g29) ∧ ((mo_MB (mo_R (mo_i (f46 (ρ h0 45)))) u.toInt (w35.toInt) (w34.toInt))) ∧ ((∀ i, 0 ≤ i → i < (w35.toInt) → (mo_R (mo_i (f46 (ρ h0 46)))) i = i)) ∧ (0 ≤ w34.toInt ∧ w34.toInt ≤ 6) ∧ (0 ≤ w35.toInt ∧ w35.toInt ≤ 6) ∧ ((w35.toInt) ≤ (w34.toInt)) ∧ va_P (dC, dI) vwCl (va_pl L f46) H ∧ va_D A (va_pl L f46) ∧ va_S A s.heap H locs ∧ lv_has ls 12 [(5, .int w34), (4, .int w35), (0, .ref h0), (1, .int v), (2, .int u), (3, .int a)]) ?_ _ _ _ _ ⟨f, 0, 0, rfl, hT, hR, hf_o26, hf_o31, hf_o28, (by first | (simp only [(mo_un tf42), mo_i1, mo_l1]; exact (show mo_MB (mo_R g41) u.toInt (0 : Int32).toInt (0 : Int32).toInt from mo_MB.rf _ _ (by decide) (by decide))) | (rw [(mo_un tf42)]; exact (show mo_MB (mo_R g41) u.toInt (0 : Int32).toInt (0 : Int32).toInt from mo_MB.rf _ _ (by decide) (by decide)))), (by first | (simp only [(mo_un tf45), mo_i1, mo_l1]; exact (show ∀ i, 0 ≤ i → i < (0 : Int32).toInt → (mo_R g44) i = i from (fun i i0 i1 => absurd i1 (by have : (0 : Int32).toInt = 0 := rfl; omega)))) | (rw [(mo_un tf45)]; exact (show ∀ i, 0 ≤ i → i < (0 : Int32).toInt → (mo_R g44) i = i from (fun i i0 i1 => absurd i1 (by have : (0 : Int32).toInt = 0 := rfl; omega))))), (by have : (0 : Int32).toInt = 0 := rfl; have : (0 : Int32).toInt = 0 := rfl; omega), (by have : (0 : Int32).toInt = 0 := rfl; have : (0 : Int32).toInt = 0 := rfl; omega), (by have : (0 : Int32).toInt = 0 := rfl; have : (0 : Int32).toInt = 0 := rfl; omega), hP, hD, hS, lv_sub hl [0, 1, 2, 3, 4, 5] rfl⟩
  intro n0 H locs ls hI ih48
  refine Exists.elim hI (fun f46 hE90 => Exists.elim hE90 (fun w34 hE91 => Exists.elim hE91 (fun w35 hE92 => tn_15 hE92 (fun hn49 hT hR hk37k hk38k hk39k jf50 jf51 rw34 rw35 k36 hP hD hS hl => ?_))))
  clear hE92 hE91 hE90 hI
  refine tpk_75 hT y20 (fun g53 hf_o52 => ?_)
  have tf54 : mo_hd (mo_i (f46 (ρ h0 45)) = g53) := tfa_i hf_o52
  replace jf50 : mo_MB (mo_R g53) u.toInt (w35.toInt) (w34.toInt) := by have q9 := jf50; first | (simp only [(mo_un tf54), mo_i1, mo_l1] at q9; exact q9) | (rw [(mo_un tf54)] at q9; exact q9)
  refine tpk_76 hT y21 (fun g56 hf_o55 => ?_)
  have tf57 : mo_hd (mo_i (f46 (ρ h0 46)) = g56) := tfa_i hf_o55
  replace jf51 : mo_hd (∀ i, 0 ≤ i → i < (w35.toInt) → (mo_R g56) i = i) := by have q9 := jf51; first | (simp only [(mo_un tf57), mo_i1, mo_l1] at q9; exact q9) | (rw [(mo_un tf57)] at q9; exact q9)
  refine lv_iload hx hb dX12_findSet_6 (lv_at hl 0 rfl) ?_
  refine lv_bipush (v := 6) hx hb dX12_findSet_8 (by decide) ?_
  refine lv_icmp_ge (tgt := 50) hx hb dX12_findSet_10 (by decide) (fun c58 => ?_) (fun c58 => ?_)
  · have ic58 : w34.toInt ≥ 6 := zi_ge rfl rfl c58
    have hMB : mo_MB (mo_R g53) u.toInt w35.toInt 6 := by have q9 := jf50; rw [show w34.toInt = 6 by (first | omega | (have u0 := mo_un jf51; omega))] at q9; exact q9
    have hPM := mo_PM.id jf51
    have hPMb := hPM.bd (by (first | omega | (have u0 := mo_un jf51; omega))) (by (first | omega | (have u0 := mo_un jf51; omega)))
    refine lv_ldc2 (own := RX12) (v := (-2000000000000000)) hx hb hown (hts (.constantLong RX12 466 (-2000000000000000)) wa_1189) dX12_findSet_50 ?_
    refine lv_lstore (lv' := [(5, .long (-2000000000000000)), (4, .int w35), (0, .ref h0), (1, .int v), (2, .int u), (3, .int a)]) hx hb dX12_findSet_53 hl (by decide) rfl (fun ls hl => ?_)
    refine lv_iconst (v := 0) hx hb dX12_findSet_55 (by decide) ?_
    refine lv_istore (lv' := [(7, .int 0), (5, .long (-2000000000000000)), (4, .int w35), (0, .ref h0), (1, .int v), (2, .int u), (3, .int a)]) hx hb dX12_findSet_56 hl (by decide) rfl (fun ls hl => ?_)
    refine lv_iconst (v := 1) hx hb dX12_findSet_58 (by decide) ?_
    refine lv_istore (lv' := [(8, .int 1), (7, .int 0), (5, .long (-2000000000000000)), (4, .int w35), (0, .ref h0), (1, .int v), (2, .int u), (3, .int a)]) hx hb dX12_findSet_59 hl (by decide) rfl (fun ls hl => ?_)
    refine pz_loop (fun n0 H locs ls => ∃ f68 : Nat → va_E, ∃ w59 : Int32, ∃ w60 : Int32, ∃ w61 : Int64, n0 = (46656 - mo_VL (mo_R (mo_i (f68 (ρ h0 46)))) w35.toInt.toNat).toNat + ((w59.toInt)).toNat ∧ tp_T (mo_O κ Θ) κ τ ν ρ f68 ∧ tp_F τ [13, 69, 70, 71, 72, 73, 74, 75, 76] f f68 ∧ f68 (ρ h0 2) = .inl (κ 0, 12967, .inl g27) ∧ f68 (ρ h0 45) = .inl (κ 0, 6, .inl g53) ∧ f68 (ρ h0 43) = .inl (κ 1, 192, .inr (.inl g32)) ∧ f68 (ρ h0 44) = .inl (κ 0, 192, .inl g29) ∧ ((mo_PM (mo_R (mo_i (f68 (ρ h0 46)))) w35.toInt)) ∧ (0 ≤ w59.toInt ∧ w59.toInt ≤ 1) ∧ (((w61.toInt) ≠ -2000000000000000 → mo_GD (w60.toInt) u.toInt)) ∧ ((w35.toInt = 0 → (w61.toInt) = 0 ∨ ((w59.toInt) = 1 ∧ (w61.toInt) = -2000000000000000))) ∧ va_P (dC, dI) vwCl (va_pl L f68) H ∧ va_D A (va_pl L f68) ∧ va_S A s.heap H locs ∧ lv_has ls 12 [(8, .int w59), (7, .int w60), (5, .long w61), (4, .int w35), (0, .ref h0), (1, .int v), (2, .int u), (3, .int a)]) ?_ _ _ _ _ ⟨f46, 1, 0, (-2000000000000000), rfl, hT, hR, hk37k, hf_o52, hk38k, hk39k, (by first | (simp only [(mo_un tf57), mo_i1, mo_l1]; exact (show mo_PM (mo_R g56) w35.toInt from hPM)) | (rw [(mo_un tf57)]; exact (show mo_PM (mo_R g56) w35.toInt from hPM))), (by have : (1 : Int32).toInt = 1 := rfl; have : (0 : Int32).toInt = 0 := rfl; have : ((-2000000000000000) : Int64).toInt = (-2000000000000000) := rfl; (first | omega | (have u0 := mo_un jf51; omega))), (fun q9 => absurd (by decide) q9), (fun _ => Or.inr ⟨by decide, by decide⟩), hP, hD, hS, lv_sub hl [0, 1, 2, 3, 4, 5, 6, 7] rfl⟩
    intro n0 H locs ls hI ih70
    refine Exists.elim hI (fun f68 hE90 => Exists.elim hE90 (fun w59 hE91 => Exists.elim hE91 (fun w60 hE92 => Exists.elim hE92 (fun w61 hE93 => tn_15 hE93 (fun hn71 hT hR hk64k hk65k hk66k hk67k jf72 rw59 k62 k63 hP hD hS hl => ?_)))))
    clear hE93 hE92 hE91 hE90 hI
    refine tpk_76 hT y21 (fun g74 hf_o73 => ?_)
    have tf75 : mo_hd (mo_i (f68 (ρ h0 46)) = g74) := tfa_i hf_o73
    replace jf72 : mo_PM (mo_R g74) w35.toInt := by have q9 := jf72; first | (simp only [(mo_un tf75), mo_i1, mo_l1] at q9; exact q9) | (rw [(mo_un tf75)] at q9; exact q9)
    have hn71 : n0 = (46656 - mo_VL (mo_R g74) w35.toInt.toNat).toNat + ((w59.toInt)).toNat := by have q9 := hn71; first | (simp only [(mo_un tf75), mo_i1, mo_l1] at q9; exact q9) | (rw [(mo_un tf75)] at q9; exact q9)
    refine lv_iload hx hb dX12_findSet_61 (lv_at hl 0 rfl) ?_
    refine lv_if_eq (tgt := 181) hx hb dX12_findSet_63 (by decide) (fun c76 => ?_) (fun c76 => ?_)
    · have ic76 : w59.toInt = 0 := zi_eq rfl rfl c76
      refine lv_aload_n hx hb dX12_findSet_181 rfl (lv_at hl 4 rfl) ?_
      refine tpk_13 hT ht_h0 (fun o77_x0 o77_x1 o77_x7 o77_x9 o77_x10 o77_x11 o77_x12 o77_x13 o77_x14 o77_x15 o77_x16 o77_x17 o77_x18 o77_x19 o77_x20 o77_x22 o77_x25 o77_x28 o77_x29 o77_x32 o77_x33 o77_x34 o77_x35 o77_x36 o77_x37 o77_x38 o77_x47 o77_x48 hf_o77 ro77_0 ro77_1 ro77_2 ro77_3 ro77_4 ro77_5 ro77_6 ro77_7 ro77_8 ro77_9 ro77_10 ro77_11 ro77_12 ro77_13 ro77_14 => ?_)
      refine tpk_pos (tp_in hG ht_h0 (by decide)) hf_o77 (fun q78 eq78 => ?_)
      refine va_get (D := (dC, dI)) (ci := 12) (v := .ref (ρ h0 43)) (C := RX12) (T := TX12) (N := 53) hx hb hts hfX12 hown hK hP q78 eq78 rfl 43 (by decide) (hts (.fieldLink RX12 67 "ColdShipsModel" "bestOf" "[J") wa_167) (fun _ h9 => h9) rfl dX12_findSet_182 ?_
      refine lv_bipush (v := 64) hx hb dX12_findSet_185 (by decide) ?_
      refine lv_iload_n hx hb dX12_findSet_187 rfl (lv_at hl 5 rfl) ?_
      refine lv_imul hx hb dX12_findSet_188 ?_
      refine lv_topi (fun z79 ez79 => ?_)
      have iz79 : z79.toInt = 64 * v.toInt := zi_mul ez79 rfl rfl (by (first | omega | (have u0 := mo_un jf51; omega))) (by (first | omega | (have u0 := mo_un jf51; omega)))
      refine lv_iload_n hx hb dX12_findSet_189 rfl (lv_at hl 6 rfl) ?_
      refine lv_iadd hx hb dX12_findSet_190 ?_
      refine lv_topi (fun z80 ez80 => ?_)
      have iz80 : z80.toInt = z79.toInt + u.toInt := zi_add ez80 rfl rfl (by (first | omega | (have u0 := mo_un jf51; omega))) (by (first | omega | (have u0 := mo_un jf51; omega)))
      refine lv_lload hx hb dX12_findSet_191 (lv_at hl 2 rfl) ?_
      refine tpk_pos (tp_in hG y18 (by decide)) hk66k (fun q81 eq81 => ?_)
      refine va_last hx hb hK hP hD hS q81 1 eq81 rfl (vp_in_iff.mpr ⟨by (first | omega | (have u0 := mo_un jf51; omega)), by (first | omega | (have u0 := mo_un jf51; omega))⟩) dX12_findSet_193 (tp_k (.inl (κ 1, 192, .inr (.inl (vp_updL g32 z80.toNatClampNeg w61)))) hD (tp_in hG y18 (by decide)) eq81 (fun f82 H locs hP hD hS g84 k83 => ?_))
      have hT := hT.up y18 g84 k83 tp_o73
      have hR := hR.up y18 (by decide) k83
      have hU86 : mo_U (mo_RL g32) (mo_RL (vp_updL g32 z80.toNatClampNeg w61)) (64 * v.toInt + u.toInt) (w61.toInt) := mo_upL (by (first | omega | (have u0 := mo_un jf51; omega))) (rfl : w61.toInt = _) (by (first | omega | (have u0 := mo_un jf51; omega)))
      generalize (vp_updL g32 z80.toNatClampNeg w61) = g85 at g84 hU86
      refine lv_aload_n hx hb dX12_findSet_194 rfl (lv_at hl 4 rfl) ?_
      have hf_87 : f82 h0 = .inr (12, [.int o77_x0, .int o77_x1, .ref (ρ h0 2), .ref (ρ h0 3), .ref (ρ h0 4), .ref (ρ h0 5), .ref (ρ h0 6), .int o77_x7, .ref (ρ h0 8), .int o77_x9, .int o77_x10, .int o77_x11, .int o77_x12, .long o77_x13, .int o77_x14, .int o77_x15, .int o77_x16, .int o77_x17, .int o77_x18, .int o77_x19, .int o77_x20, .ref (ρ h0 21), .int o77_x22, .ref (ρ h0 23), .ref (ρ h0 24), .int o77_x25, .ref (ρ h0 26), .ref (ρ h0 27), .int o77_x28, .int o77_x29, .ref (ρ h0 30), .ref (ρ h0 31), .int o77_x32, .long o77_x33, .long o77_x34, .long o77_x35, .int o77_x36, .int o77_x37, .int o77_x38, .ref (ρ h0 39), .ref (ρ h0 40), .ref (ρ h0 41), .ref (ρ h0 42), .ref (ρ h0 43), .ref (ρ h0 44), .ref (ρ h0 45), .ref (ρ h0 46), .int o77_x47, .int o77_x48, .ref (ρ h0 49), .ref (ρ h0 50), .ref (ρ h0 51), .ref (ρ h0 52)]) := (k83 _ (tp_ne ht_h0 y18 (by decide))).trans hf_o77
      refine tpk_pos (tp_in hG ht_h0 (by decide)) hf_87 (fun q88 eq88 => ?_)
      refine va_get (D := (dC, dI)) (ci := 12) (v := .ref (ρ h0 44)) (C := RX12) (T := TX12) (N := 53) hx hb hts hfX12 hown hK hP q88 eq88 rfl 44 (by decide) (hts (.fieldLink RX12 70 "ColdShipsModel" "placesOf" "[I") wa_168) (fun _ h9 => h9) rfl dX12_findSet_195 ?_
      refine lv_bipush (v := 64) hx hb dX12_findSet_198 (by decide) ?_
      refine lv_iload_n hx hb dX12_findSet_200 rfl (lv_at hl 5 rfl) ?_
      refine lv_imul hx hb dX12_findSet_201 ?_
      refine lv_topi (fun z89 ez89 => ?_)
      have iz89 : z89.toInt = 64 * v.toInt := zi_mul ez89 rfl rfl (by (first | omega | (have u0 := mo_un jf51; omega))) (by (first | omega | (have u0 := mo_un jf51; omega)))
      refine lv_iload_n hx hb dX12_findSet_202 rfl (lv_at hl 6 rfl) ?_
      refine lv_iadd hx hb dX12_findSet_203 ?_
      refine lv_topi (fun z90 ez90 => ?_)
      have iz90 : z90.toInt = z89.toInt + u.toInt := zi_add ez90 rfl rfl (by (first | omega | (have u0 := mo_un jf51; omega))) (by (first | omega | (have u0 := mo_un jf51; omega)))
      refine lv_iload hx hb dX12_findSet_204 (lv_at hl 1 rfl) ?_
      have hf_91 : f82 (ρ h0 44) = .inl (κ 0, 192, .inl g29) := (k83 _ (tp_ne y19 y18 (by decide))).trans hk67k
      refine tpk_pos (tp_in hG y19 (by decide)) hf_91 (fun q92 eq92 => ?_)
      refine va_iast hx hb hK hP hD hS q92 0 eq92 rfl (vp_in_iff.mpr ⟨by (first | omega | (have u0 := mo_un jf51; omega)), by (first | omega | (have u0 := mo_un jf51; omega))⟩) dX12_findSet_206 (tp_k (.inl (κ 0, 192, .inl (upd g29 z90.toNatClampNeg w60))) hD (tp_in hG y19 (by decide)) eq92 (fun f93 H locs hP hD hS g95 k94 => ?_))
      have hT := hT.up y19 g95 k94 tp_o74
      have hR := hR.up y19 (by decide) k94
      have hU97 : mo_U (mo_R g29) (mo_R (upd g29 z90.toNatClampNeg w60)) (64 * v.toInt + u.toInt) (w60.toInt) := mo_up (by (first | omega | (have u0 := mo_un jf51; omega))) (rfl : w60.toInt = _) (by (first | omega | (have u0 := mo_un jf51; omega)))
      generalize (upd g29 z90.toNatClampNeg w60) = g96 at g95 hU97
      have hf_98 : f93 (ρ h0 43) = .inl (κ 1, 192, .inr (.inl g85)) := (k94 _ (tp_ne y18 y19 (by decide))).trans g84
      have tf99 : mo_hd (mo_l (f93 (ρ h0 43)) = g85) := tfa_l hf_98
      have tf100 : mo_hd (mo_i (f93 (ρ h0 44)) = g96) := tfa_i g95
      exact W.vret hx hb hr (fun t ht hW => ⟨⟨f93, rfl, ⟨hT, hR, (by first | (simp only [(mo_un tf33), (mo_un tf99), (mo_un tf30), (mo_un tf100), mo_i1, mo_l1]; exact (show ∃ m9 t9 : Int, mo_U (mo_RL g32) (mo_RL g85) (64 * v.toInt + u.toInt) m9 ∧ mo_U (mo_R g29) (mo_R g96) (64 * v.toInt + u.toInt) t9 ∧ (m9 ≠ -2000000000000000 → mo_GD t9 u.toInt) ∧ (u.toInt = 0 → m9 = 0) from ⟨w61.toInt, w60.toInt, hU86, hU97, k62, fun q9 => by have q8 := hMB.zero q9; (first | omega | (have u0 := mo_un jf51; omega))⟩)) | (rw [(mo_un tf33), (mo_un tf99), (mo_un tf30), (mo_un tf100)]; exact (show ∃ m9 t9 : Int, mo_U (mo_RL g32) (mo_RL g85) (64 * v.toInt + u.toInt) m9 ∧ mo_U (mo_R g29) (mo_R g96) (64 * v.toInt + u.toInt) t9 ∧ (m9 ≠ -2000000000000000 → mo_GD t9 u.toInt) ∧ (u.toInt = 0 → m9 = 0) from ⟨w61.toInt, w60.toInt, hU86, hU97, k62, fun q9 => by have q8 := hMB.zero q9; (first | omega | (have u0 := mo_un jf51; omega))⟩)))⟩, by rw [ht]; exact hP, va_K.moved hW.alike hK, hD⟩, hS.F ht⟩) hS.2.2 dX12_findSet_207
    · have ic76 : w59.toInt ≠ 0 := zi_eqf rfl rfl c76
      replace ic76 : 1 ≤ w59.toInt := by (first | omega | (have u0 := mo_un jf51; omega))
      have hPM := jf72
      have hPMb := hPM.bd (by (first | omega | (have u0 := mo_un jf51; omega))) (by (first | omega | (have u0 := mo_un jf51; omega)))
      refine lv_iconst (v := 0) hx hb dX12_findSet_66 (by decide) ?_
      refine lv_istore (lv' := [(9, .int 0), (8, .int w59), (7, .int w60), (5, .long w61), (4, .int w35), (0, .ref h0), (1, .int v), (2, .int u), (3, .int a)]) hx hb dX12_findSet_67 hl (by decide) rfl (fun ls hl => ?_)
      refine lv_iconst (v := 0) hx hb dX12_findSet_69 (by decide) ?_
      refine lv_istore (lv' := [(10, .int 0), (9, .int 0), (8, .int w59), (7, .int w60), (5, .long w61), (4, .int w35), (0, .ref h0), (1, .int v), (2, .int u), (3, .int a)]) hx hb dX12_findSet_70 hl (by decide) rfl (fun ls hl => ?_)
      have tf101 : mo_hd (mo_i (f68 (ρ h0 45)) = g53) := tfa_i hk65k
      refine tpk_72 hT y17 (fun g111 hf_o110 => ?_)
      have tf112 : mo_hd (mo_i (f68 (ρ h0 42)) = g111) := tfa_i hf_o110
      refine pz_loop (fun n0 H locs ls => ∃ f113 : Nat → va_E, ∃ w102 : Int32, ∃ w103 : Int32, n0 = (6 - (w102.toInt)).toNat ∧ tp_T (mo_O κ Θ) κ τ ν ρ f113 ∧ tp_F τ [13, 69, 70, 71, 72, 73, 74, 75, 76] f f113 ∧ f113 (ρ h0 2) = .inl (κ 0, 12967, .inl g27) ∧ f113 (ρ h0 45) = .inl (κ 0, 6, .inl g53) ∧ f113 (ρ h0 46) = .inl (κ 0, 6, .inl g74) ∧ f113 (ρ h0 43) = .inl (κ 1, 192, .inr (.inl g32)) ∧ f113 (ρ h0 44) = .inl (κ 0, 192, .inl g29) ∧ ((mo_LC (mo_R g74) (mo_R g53) (mo_R (mo_i (f113 (ρ h0 42)))) (w103.toInt) (w102.toInt))) ∧ (0 ≤ w102.toInt ∧ w102.toInt ≤ 6) ∧ (0 ≤ w103.toInt ∧ w103.toInt ≤ 262143) ∧ ((w102.toInt) ≤ w35.toInt) ∧ va_P (dC, dI) vwCl (va_pl L f113) H ∧ va_D A (va_pl L f113) ∧ va_S A s.heap H locs ∧ lv_has ls 12 [(10, .int w102), (9, .int w103), (8, .int w59), (7, .int w60), (5, .long w61), (4, .int w35), (0, .ref h0), (1, .int v), (2, .int u), (3, .int a)]) ?_ _ _ _ _ ⟨f68, 0, 0, rfl, hT, hR, hk64k, hk65k, hf_o73, hk66k, hk67k, (by first | (simp only [(mo_un tf112), mo_i1, mo_l1]; exact (show mo_LC (mo_R g74) (mo_R g53) (mo_R g111) (0 : Int32).toInt (0 : Int32).toInt from mo_LC.rf _ _ _ (by decide) (by decide))) | (rw [(mo_un tf112)]; exact (show mo_LC (mo_R g74) (mo_R g53) (mo_R g111) (0 : Int32).toInt (0 : Int32).toInt from mo_LC.rf _ _ _ (by decide) (by decide)))), (by have : (0 : Int32).toInt = 0 := rfl; have : (0 : Int32).toInt = 0 := rfl; (first | omega | (have u0 := mo_un jf51; omega))), (by have : (0 : Int32).toInt = 0 := rfl; have : (0 : Int32).toInt = 0 := rfl; (first | omega | (have u0 := mo_un jf51; omega))), (by have : (0 : Int32).toInt = 0 := rfl; have : (0 : Int32).toInt = 0 := rfl; (first | omega | (have u0 := mo_un jf51; omega))), hP, hD, hS, lv_sub hl [0, 1, 2, 3, 4, 5, 6, 7, 8, 9] rfl⟩
      intro n0 H locs ls hI ih115
      refine Exists.elim hI (fun f113 hE90 => Exists.elim hE90 (fun w102 hE91 => Exists.elim hE91 (fun w103 hE92 => tn_16 hE92 (fun hn116 hT hR hk105k hk106k hk107k hk108k hk109k jf117 rw102 rw103 k104 hP hD hS hl => ?_))))
      clear hE92 hE91 hE90 hI
      refine tpk_72 hT y17 (fun g119 hf_o118 => ?_)
      have tf120 : mo_hd (mo_i (f113 (ρ h0 42)) = g119) := tfa_i hf_o118
      replace jf117 : mo_LC (mo_R g74) (mo_R g53) (mo_R g119) (w103.toInt) (w102.toInt) := by have q9 := jf117; first | (simp only [(mo_un tf120), mo_i1, mo_l1] at q9; exact q9) | (rw [(mo_un tf120)] at q9; exact q9)
      refine lv_iload hx hb dX12_findSet_72 (lv_at hl 0 rfl) ?_
      refine lv_iload hx hb dX12_findSet_74 (lv_at hl 5 rfl) ?_
      refine lv_icmp_ge (tgt := 126) hx hb dX12_findSet_76 (by decide) (fun c121 => ?_) (fun c121 => ?_)
      · have ic121 : w102.toInt ≥ w35.toInt := zi_ge rfl rfl c121
        have hGD := jf117.good (by (first | omega | (have u0 := mo_un jf51; omega))) hPM hMB
        have hLN := jf117.line (by (first | omega | (have u0 := mo_un jf51; omega))) hPM hMB (by (first | omega | (have u0 := mo_un jf51; omega))) hu2 (by (first | omega | (have u0 := mo_un jf51; omega)))
        refine lv_aload_n hx hb dX12_findSet_126 rfl (lv_at hl 6 rfl) ?_
        refine lv_iload_n hx hb dX12_findSet_127 rfl (lv_at hl 7 rfl) ?_
        refine lv_iload hx hb dX12_findSet_128 (lv_at hl 5 rfl) ?_
        refine lv_iload_n hx hb dX12_findSet_130 rfl (lv_at hl 9 rfl) ?_
        refine tpk_13 hT ht_h0 (fun o122_x0 o122_x1 o122_x7 o122_x9 o122_x10 o122_x11 o122_x12 o122_x13 o122_x14 o122_x15 o122_x16 o122_x17 o122_x18 o122_x19 o122_x20 o122_x22 o122_x25 o122_x28 o122_x29 o122_x32 o122_x33 o122_x34 o122_x35 o122_x36 o122_x37 o122_x38 o122_x47 o122_x48 hf_o122 ro122_0 ro122_1 ro122_2 ro122_3 ro122_4 ro122_5 ro122_6 ro122_7 ro122_8 ro122_9 ro122_10 ro122_11 ro122_12 ro122_13 ro122_14 => ?_)
        refine tpk_pos (tp_in hG ht_h0 (by decide)) hf_o122 (fun q123 eq123 => ?_)
        have hFc := tp_fr hD hS hA
        refine va_calll (va_runV (As := [.int v, .int w35, .int a]) (rest := []) ⟨hx, hb, hml, hown, hts⟩ (t_X12_sailRow l dC dI _ κ Θ τ ν ρ L f113 hG hT h0 v w35 a x b ht_h0 (by first | decide | (first | omega | (have u0 := mo_un jf51; omega))) (by (first | omega | (have u0 := mo_un jf51; omega))) (by rw [hk105k, mo_i1]; exact hI) (by first | (simp only [hk105k, hf_o26, mo_i1]; (first | omega | (have u0 := mo_un jf51; omega))) | (simp only [hk105k, hf_o26, mo_i1]; trivial) | (simp only [hk105k, hf_o26, mo_i1]; done) | (first | omega | (have u0 := mo_un jf51; omega))) (by first | (simp only [(mo_un tf120), hk105k, mo_i1, mo_l1]; exact (show ∀ j, 0 ≤ j → j < w35.toInt → 0 ≤ (mo_R g119) j ∧ (mo_R g119) j < (mo_R g27) 10 from hLN)) | (rw [(mo_un tf120), hk105k]; exact (show ∀ j, 0 ≤ j → j < w35.toInt → 0 ≤ (mo_R g119) j ∧ (mo_R g119) j < (mo_R g27) 10 from hLN)))) (cwV 3 hts gX12_findSet_X12_sailRow rfl rfl rfl ⟨rfl, pd_X12_sailRow⟩ ⟨Nat.le_of_ble_eq_true rfl, Nat.le_of_ble_eq_true rfl⟩) ⟨pz_blind, va_recv hK hP (ci := 12) (q0 := q123) rfl eq123, pz_pre hP hK hD hN⟩ rfl rfl hl.1 rfl (lv_room (Nat.le_of_ble_eq_true rfl)) dX12_findSet_131 ⟨Nat.le_of_ble_eq_true rfl, Nat.le_of_ble_eq_true rfl⟩) hS (fun q _ h => hFc q h) hFc (fun r124 f126 t H1 locs ht hvm hw125 hB hz1 hk1 hS => ?_)
        refine tn_4 hw125 (fun hT hF127 hw125r hw125p => ?_); clear hw125
        have hR := hR.then hF127 (by decide)
        have hP := hB.1; rw [ht] at hP; have hD := tp_ad f126 hD; clear hB hFc hz1 hk1; subst ht; generalize t.heap = H at hP hS ⊢
        refine lv_lstore (lv' := [(10, .long r124), (9, .int w103), (8, .int w59), (7, .int w60), (5, .long w61), (4, .int w35), (0, .ref h0), (1, .int v), (2, .int u), (3, .int a)]) hx hb dX12_findSet_134 hl (by decide) rfl (fun ls hl => ?_)
        refine lv_lload hx hb dX12_findSet_136 (lv_at hl 0 rfl) ?_
        refine lv_lload hx hb dX12_findSet_138 (lv_at hl 4 rfl) ?_
        refine W.lcmp hx hb dX12_findSet_140 ?_
        refine lv_if_le (tgt := 149) hx hb dX12_findSet_141 (by decide) (fun c128 => ?_) (fun c128 => ?_)
        · have ic128 : r124.toInt ≤ w61.toInt := zl_le rfl rfl c128
          refine lv_iload hx hb dX12_findSet_149 (lv_at hl 3 rfl) ?_
          refine lv_istore (lv' := [(7, .int w60), (10, .long r124), (9, .int w103), (8, .int w59), (5, .long w61), (4, .int w35), (0, .ref h0), (1, .int v), (2, .int u), (3, .int a)]) hx hb dX12_findSet_151 hl (by decide) rfl (fun ls hl => ?_)
          refine lv_lload hx hb dX12_findSet_153 (lv_at hl 1 rfl) ?_
          refine lv_lload hx hb dX12_findSet_155 (lv_at hl 4 rfl) ?_
          refine W.lcmp hx hb dX12_findSet_157 ?_
          refine lv_if_le (tgt := 166) hx hb dX12_findSet_158 (by decide) (fun c129 => ?_) (fun c129 => ?_)
          · have ic129 : r124.toInt ≤ w61.toInt := zl_le rfl rfl c129
            refine lv_lload hx hb dX12_findSet_166 (lv_at hl 4 rfl) ?_
            refine lv_lstore (lv' := [(5, .long w61), (7, .int w60), (10, .long r124), (9, .int w103), (8, .int w59), (4, .int w35), (0, .ref h0), (1, .int v), (2, .int u), (3, .int a)]) hx hb dX12_findSet_168 hl (by decide) rfl (fun ls hl => ?_)
            refine lv_aload_n hx hb dX12_findSet_170 rfl (lv_at hl 6 rfl) ?_
            refine lv_iload hx hb dX12_findSet_171 (lv_at hl 5 rfl) ?_
            have hf_130 : f126 (ρ h0 2) = .inl (κ 0, 12967, .inl g27) := (hF127 _ (by rw [tp_iu y1]; decide)).trans hk105k
            have hf_131 : f126 (ρ h0 46) = .inl (κ 0, 6, .inl g74) := (hF127 _ (by rw [tp_iu y21]; decide)).trans hk107k
            have tf132 : mo_hd (mo_i (f126 (ρ h0 46)) = g74) := tfa_i hf_131
            refine tpk_13 hT ht_h0 (fun o133_x0 o133_x1 o133_x7 o133_x9 o133_x10 o133_x11 o133_x12 o133_x13 o133_x14 o133_x15 o133_x16 o133_x17 o133_x18 o133_x19 o133_x20 o133_x22 o133_x25 o133_x28 o133_x29 o133_x32 o133_x33 o133_x34 o133_x35 o133_x36 o133_x37 o133_x38 o133_x47 o133_x48 hf_o133 ro133_0 ro133_1 ro133_2 ro133_3 ro133_4 ro133_5 ro133_6 ro133_7 ro133_8 ro133_9 ro133_10 ro133_11 ro133_12 ro133_13 ro133_14 => ?_)
            refine tpk_pos (tp_in hG ht_h0 (by decide)) hf_o133 (fun q134 eq134 => ?_)
            have hFc := tp_fr hD hS hA
            refine va_calli (va_runV (As := [.int w35]) (rest := []) ⟨hx, hb, hml, hown, hts⟩ (t_X12_nextPlaces l dC dI _ κ Θ τ ν ρ L f126 hG hT h0 w35 ht_h0 (by first | decide | (first | omega | (have u0 := mo_un jf51; omega))) (by first | (simp only [(mo_un tf132), mo_i1, mo_l1]; exact (show mo_PM (mo_R g74) w35.toInt from hPM)) | (rw [(mo_un tf132)]; exact (show mo_PM (mo_R g74) w35.toInt from hPM)))) (cwV 1 hts gX12_findSet_X12_nextPlaces rfl rfl rfl ⟨rfl, pd_X12_nextPlaces⟩ ⟨Nat.le_of_ble_eq_true rfl, Nat.le_of_ble_eq_true rfl⟩) ⟨pz_blind, va_recv hK hP (ci := 12) (q0 := q134) rfl eq134, pz_pre hP hK hD hN⟩ rfl rfl hl.1 rfl (lv_room (Nat.le_of_ble_eq_true rfl)) dX12_findSet_173 ⟨Nat.le_of_ble_eq_true rfl, Nat.le_of_ble_eq_true rfl⟩) hS (fun q _ h => hFc q h) hFc (fun r135 f137 t H1 locs ht hvm hw136 hB hz1 hk1 hS => ?_)
            refine tn_4 hw136 (fun hT hF138 hw136r hw136p => ?_); clear hw136
            have hR := hR.then hF138 (by decide)
            have hP := hB.1; rw [ht] at hP; have hD := tp_ad f137 hD; clear hB hFc hz1 hk1; subst ht; generalize t.heap = H at hP hS ⊢
            refine tpk_76 hT y21 (fun g140 hf_o139 => ?_)
            have tf141 : mo_hd (mo_i (f137 (ρ h0 46)) = g140) := tfa_i hf_o139
            have tk142 : mo_hd (mo_PM (mo_R g140) w35.toInt ∧ mo_VL (mo_R g74) w35.toInt.toNat ≤ mo_VL (mo_R g140) w35.toInt.toNat ∧ (r135.toInt ≠ 0 → mo_VL (mo_R g74) w35.toInt.toNat < mo_VL (mo_R g140) w35.toInt.toNat)) := by have q9 := hw136p; first | (simp only [(mo_un tf141), (mo_un tf132), mo_i1, mo_l1] at q9; exact q9) | (rw [(mo_un tf141), (mo_un tf132)] at q9; exact q9)
            clear hw136p
            have hPM := tk142.1
            have hPMc := hPM.bd (by (first | omega | (have u1 := mo_un tk142; first | omega | (have u0 := mo_un jf51; omega)))) (by (first | omega | (have u1 := mo_un tk142; first | omega | (have u0 := mo_un jf51; omega))))
            have hVm := tk142.2
            refine lv_istore (lv' := [(8, .int r135), (5, .long w61), (7, .int w60), (10, .long r124), (9, .int w103), (4, .int w35), (0, .ref h0), (1, .int v), (2, .int u), (3, .int a)]) hx hb dX12_findSet_176 hl (by decide) rfl (fun ls hl => ?_)
            refine lv_goto (tgt := 61) hx hb dX12_findSet_178 (by decide) ?_
            have hf_143 : f137 (ρ h0 2) = .inl (κ 0, 12967, .inl g27) := (hF138 _ (by rw [tp_iu y1]; decide)).trans hf_130
            have hf_144 : f126 (ρ h0 45) = .inl (κ 0, 6, .inl g53) := (hF127 _ (by rw [tp_iu y20]; decide)).trans hk106k
            have hf_145 : f137 (ρ h0 45) = .inl (κ 0, 6, .inl g53) := (hF138 _ (by rw [tp_iu y20]; decide)).trans hf_144
            have hf_146 : f126 (ρ h0 43) = .inl (κ 1, 192, .inr (.inl g32)) := (hF127 _ (by rw [tp_iu y18]; decide)).trans hk108k
            have hf_147 : f137 (ρ h0 43) = .inl (κ 1, 192, .inr (.inl g32)) := (hF138 _ (by rw [tp_iu y18]; decide)).trans hf_146
            have hf_148 : f126 (ρ h0 44) = .inl (κ 0, 192, .inl g29) := (hF127 _ (by rw [tp_iu y19]; decide)).trans hk109k
            have hf_149 : f137 (ρ h0 44) = .inl (κ 0, 192, .inl g29) := (hF138 _ (by rw [tp_iu y19]; decide)).trans hf_148
            exact ih70 _ _ _ _ (by rw [hn71]; first | (simp only [(mo_un tf141), mo_i1, mo_l1]; exact (show (46656 - mo_VL (mo_R g140) w35.toInt.toNat).toNat + ((r135.toInt)).toNat < (46656 - mo_VL (mo_R g74) w35.toInt.toNat).toNat + ((w59.toInt)).toNat from by (first | omega | (have u1 := mo_un tk142; first | omega | (have u0 := mo_un jf51; omega))))) | (rw [(mo_un tf141)]; exact (show (46656 - mo_VL (mo_R g140) w35.toInt.toNat).toNat + ((r135.toInt)).toNat < (46656 - mo_VL (mo_R g74) w35.toInt.toNat).toNat + ((w59.toInt)).toNat from by (first | omega | (have u1 := mo_un tk142; first | omega | (have u0 := mo_un jf51; omega)))))) ⟨f137, r135, w60, w61, rfl, hT, hR, hf_143, hf_145, hf_147, hf_149, (by first | (simp only [(mo_un tf141), mo_i1, mo_l1]; exact (show mo_PM (mo_R g140) w35.toInt from hPM)) | (rw [(mo_un tf141)]; exact (show mo_PM (mo_R g140) w35.toInt from hPM))), (by (first | omega | (have u1 := mo_un tk142; first | omega | (have u0 := mo_un jf51; omega)))), (by first | exact (fun _ => hGD) | exact k62 | (intro q9; exfalso; (first | omega | (have u1 := mo_un tk142; first | omega | (have u0 := mo_un jf51; omega)))) | (intro q9; exact k62 (by (first | omega | (have u1 := mo_un tk142; first | omega | (have u0 := mo_un jf51; omega)))))), (by (first | omega | (have u1 := mo_un tk142; first | omega | (have u0 := mo_un jf51; omega)))), hP, hD, hS, lv_sub hl [0, 2, 1, 5, 6, 7, 8, 9] rfl⟩
          · have ic129 : r124.toInt > w61.toInt := zl_lef rfl rfl c129
            refine lv_lload hx hb dX12_findSet_161 (lv_at hl 1 rfl) ?_
            refine lv_goto (tgt := 168) hx hb dX12_findSet_163 (by decide) ?_
            refine lv_lstore (lv' := [(5, .long r124), (7, .int w60), (10, .long r124), (9, .int w103), (8, .int w59), (4, .int w35), (0, .ref h0), (1, .int v), (2, .int u), (3, .int a)]) hx hb dX12_findSet_168 hl (by decide) rfl (fun ls hl => ?_)
            refine lv_aload_n hx hb dX12_findSet_170 rfl (lv_at hl 6 rfl) ?_
            refine lv_iload hx hb dX12_findSet_171 (lv_at hl 5 rfl) ?_
            have hf_150 : f126 (ρ h0 2) = .inl (κ 0, 12967, .inl g27) := (hF127 _ (by rw [tp_iu y1]; decide)).trans hk105k
            have hf_151 : f126 (ρ h0 46) = .inl (κ 0, 6, .inl g74) := (hF127 _ (by rw [tp_iu y21]; decide)).trans hk107k
            have tf152 : mo_hd (mo_i (f126 (ρ h0 46)) = g74) := tfa_i hf_151
            refine tpk_13 hT ht_h0 (fun o153_x0 o153_x1 o153_x7 o153_x9 o153_x10 o153_x11 o153_x12 o153_x13 o153_x14 o153_x15 o153_x16 o153_x17 o153_x18 o153_x19 o153_x20 o153_x22 o153_x25 o153_x28 o153_x29 o153_x32 o153_x33 o153_x34 o153_x35 o153_x36 o153_x37 o153_x38 o153_x47 o153_x48 hf_o153 ro153_0 ro153_1 ro153_2 ro153_3 ro153_4 ro153_5 ro153_6 ro153_7 ro153_8 ro153_9 ro153_10 ro153_11 ro153_12 ro153_13 ro153_14 => ?_)
            refine tpk_pos (tp_in hG ht_h0 (by decide)) hf_o153 (fun q154 eq154 => ?_)
            have hFc := tp_fr hD hS hA
            refine va_calli (va_runV (As := [.int w35]) (rest := []) ⟨hx, hb, hml, hown, hts⟩ (t_X12_nextPlaces l dC dI _ κ Θ τ ν ρ L f126 hG hT h0 w35 ht_h0 (by first | decide | (first | omega | (have u0 := mo_un jf51; omega))) (by first | (simp only [(mo_un tf152), mo_i1, mo_l1]; exact (show mo_PM (mo_R g74) w35.toInt from hPM)) | (rw [(mo_un tf152)]; exact (show mo_PM (mo_R g74) w35.toInt from hPM)))) (cwV 1 hts gX12_findSet_X12_nextPlaces rfl rfl rfl ⟨rfl, pd_X12_nextPlaces⟩ ⟨Nat.le_of_ble_eq_true rfl, Nat.le_of_ble_eq_true rfl⟩) ⟨pz_blind, va_recv hK hP (ci := 12) (q0 := q154) rfl eq154, pz_pre hP hK hD hN⟩ rfl rfl hl.1 rfl (lv_room (Nat.le_of_ble_eq_true rfl)) dX12_findSet_173 ⟨Nat.le_of_ble_eq_true rfl, Nat.le_of_ble_eq_true rfl⟩) hS (fun q _ h => hFc q h) hFc (fun r155 f157 t H1 locs ht hvm hw156 hB hz1 hk1 hS => ?_)
            refine tn_4 hw156 (fun hT hF158 hw156r hw156p => ?_); clear hw156
            have hR := hR.then hF158 (by decide)
            have hP := hB.1; rw [ht] at hP; have hD := tp_ad f157 hD; clear hB hFc hz1 hk1; subst ht; generalize t.heap = H at hP hS ⊢
            refine tpk_76 hT y21 (fun g160 hf_o159 => ?_)
            have tf161 : mo_hd (mo_i (f157 (ρ h0 46)) = g160) := tfa_i hf_o159
            have tk162 : mo_hd (mo_PM (mo_R g160) w35.toInt ∧ mo_VL (mo_R g74) w35.toInt.toNat ≤ mo_VL (mo_R g160) w35.toInt.toNat ∧ (r155.toInt ≠ 0 → mo_VL (mo_R g74) w35.toInt.toNat < mo_VL (mo_R g160) w35.toInt.toNat)) := by have q9 := hw156p; first | (simp only [(mo_un tf161), (mo_un tf152), mo_i1, mo_l1] at q9; exact q9) | (rw [(mo_un tf161), (mo_un tf152)] at q9; exact q9)
            clear hw156p
            have hPM := tk162.1
            have hPMc := hPM.bd (by (first | omega | (have u1 := mo_un tk162; first | omega | (have u0 := mo_un jf51; omega)))) (by (first | omega | (have u1 := mo_un tk162; first | omega | (have u0 := mo_un jf51; omega))))
            have hVm := tk162.2
            refine lv_istore (lv' := [(8, .int r155), (5, .long r124), (7, .int w60), (10, .long r124), (9, .int w103), (4, .int w35), (0, .ref h0), (1, .int v), (2, .int u), (3, .int a)]) hx hb dX12_findSet_176 hl (by decide) rfl (fun ls hl => ?_)
            refine lv_goto (tgt := 61) hx hb dX12_findSet_178 (by decide) ?_
            have hf_163 : f157 (ρ h0 2) = .inl (κ 0, 12967, .inl g27) := (hF158 _ (by rw [tp_iu y1]; decide)).trans hf_150
            have hf_164 : f126 (ρ h0 45) = .inl (κ 0, 6, .inl g53) := (hF127 _ (by rw [tp_iu y20]; decide)).trans hk106k
            have hf_165 : f157 (ρ h0 45) = .inl (κ 0, 6, .inl g53) := (hF158 _ (by rw [tp_iu y20]; decide)).trans hf_164
            have hf_166 : f126 (ρ h0 43) = .inl (κ 1, 192, .inr (.inl g32)) := (hF127 _ (by rw [tp_iu y18]; decide)).trans hk108k
            have hf_167 : f157 (ρ h0 43) = .inl (κ 1, 192, .inr (.inl g32)) := (hF158 _ (by rw [tp_iu y18]; decide)).trans hf_166
            have hf_168 : f126 (ρ h0 44) = .inl (κ 0, 192, .inl g29) := (hF127 _ (by rw [tp_iu y19]; decide)).trans hk109k
            have hf_169 : f157 (ρ h0 44) = .inl (κ 0, 192, .inl g29) := (hF158 _ (by rw [tp_iu y19]; decide)).trans hf_168
            exact ih70 _ _ _ _ (by rw [hn71]; first | (simp only [(mo_un tf161), mo_i1, mo_l1]; exact (show (46656 - mo_VL (mo_R g160) w35.toInt.toNat).toNat + ((r155.toInt)).toNat < (46656 - mo_VL (mo_R g74) w35.toInt.toNat).toNat + ((w59.toInt)).toNat from by (first | omega | (have u1 := mo_un tk162; first | omega | (have u0 := mo_un jf51; omega))))) | (rw [(mo_un tf161)]; exact (show (46656 - mo_VL (mo_R g160) w35.toInt.toNat).toNat + ((r155.toInt)).toNat < (46656 - mo_VL (mo_R g74) w35.toInt.toNat).toNat + ((w59.toInt)).toNat from by (first | omega | (have u1 := mo_un tk162; first | omega | (have u0 := mo_un jf51; omega)))))) ⟨f157, r155, w60, r124, rfl, hT, hR, hf_163, hf_165, hf_167, hf_169, (by first | (simp only [(mo_un tf161), mo_i1, mo_l1]; exact (show mo_PM (mo_R g160) w35.toInt from hPM)) | (rw [(mo_un tf161)]; exact (show mo_PM (mo_R g160) w35.toInt from hPM))), (by (first | omega | (have u1 := mo_un tk162; first | omega | (have u0 := mo_un jf51; omega)))), (by first | exact (fun _ => hGD) | exact k62 | (intro q9; exfalso; (first | omega | (have u1 := mo_un tk162; first | omega | (have u0 := mo_un jf51; omega)))) | (intro q9; exact k62 (by (first | omega | (have u1 := mo_un tk162; first | omega | (have u0 := mo_un jf51; omega)))))), (by (first | omega | (have u1 := mo_un tk162; first | omega | (have u0 := mo_un jf51; omega)))), hP, hD, hS, lv_sub hl [0, 2, 1, 5, 6, 7, 8, 9] rfl⟩
        · have ic128 : r124.toInt > w61.toInt := zl_lef rfl rfl c128
          refine lv_iload hx hb dX12_findSet_144 (lv_at hl 1 rfl) ?_
          refine lv_goto (tgt := 151) hx hb dX12_findSet_146 (by decide) ?_
          refine lv_istore (lv' := [(7, .int w103), (10, .long r124), (9, .int w103), (8, .int w59), (5, .long w61), (4, .int w35), (0, .ref h0), (1, .int v), (2, .int u), (3, .int a)]) hx hb dX12_findSet_151 hl (by decide) rfl (fun ls hl => ?_)
          refine lv_lload hx hb dX12_findSet_153 (lv_at hl 1 rfl) ?_
          refine lv_lload hx hb dX12_findSet_155 (lv_at hl 4 rfl) ?_
          refine W.lcmp hx hb dX12_findSet_157 ?_
          refine lv_if_le (tgt := 166) hx hb dX12_findSet_158 (by decide) (fun c170 => ?_) (fun c170 => ?_)
          · have ic170 : r124.toInt ≤ w61.toInt := zl_le rfl rfl c170
            refine lv_lload hx hb dX12_findSet_166 (lv_at hl 4 rfl) ?_
            refine lv_lstore (lv' := [(5, .long w61), (7, .int w103), (10, .long r124), (9, .int w103), (8, .int w59), (4, .int w35), (0, .ref h0), (1, .int v), (2, .int u), (3, .int a)]) hx hb dX12_findSet_168 hl (by decide) rfl (fun ls hl => ?_)
            refine lv_aload_n hx hb dX12_findSet_170 rfl (lv_at hl 6 rfl) ?_
            refine lv_iload hx hb dX12_findSet_171 (lv_at hl 5 rfl) ?_
            have hf_171 : f126 (ρ h0 2) = .inl (κ 0, 12967, .inl g27) := (hF127 _ (by rw [tp_iu y1]; decide)).trans hk105k
            have hf_172 : f126 (ρ h0 46) = .inl (κ 0, 6, .inl g74) := (hF127 _ (by rw [tp_iu y21]; decide)).trans hk107k
            have tf173 : mo_hd (mo_i (f126 (ρ h0 46)) = g74) := tfa_i hf_172
            refine tpk_13 hT ht_h0 (fun o174_x0 o174_x1 o174_x7 o174_x9 o174_x10 o174_x11 o174_x12 o174_x13 o174_x14 o174_x15 o174_x16 o174_x17 o174_x18 o174_x19 o174_x20 o174_x22 o174_x25 o174_x28 o174_x29 o174_x32 o174_x33 o174_x34 o174_x35 o174_x36 o174_x37 o174_x38 o174_x47 o174_x48 hf_o174 ro174_0 ro174_1 ro174_2 ro174_3 ro174_4 ro174_5 ro174_6 ro174_7 ro174_8 ro174_9 ro174_10 ro174_11 ro174_12 ro174_13 ro174_14 => ?_)
            refine tpk_pos (tp_in hG ht_h0 (by decide)) hf_o174 (fun q175 eq175 => ?_)
            have hFc := tp_fr hD hS hA
            refine va_calli (va_runV (As := [.int w35]) (rest := []) ⟨hx, hb, hml, hown, hts⟩ (t_X12_nextPlaces l dC dI _ κ Θ τ ν ρ L f126 hG hT h0 w35 ht_h0 (by first | decide | (first | omega | (have u0 := mo_un jf51; omega))) (by first | (simp only [(mo_un tf173), mo_i1, mo_l1]; exact (show mo_PM (mo_R g74) w35.toInt from hPM)) | (rw [(mo_un tf173)]; exact (show mo_PM (mo_R g74) w35.toInt from hPM)))) (cwV 1 hts gX12_findSet_X12_nextPlaces rfl rfl rfl ⟨rfl, pd_X12_nextPlaces⟩ ⟨Nat.le_of_ble_eq_true rfl, Nat.le_of_ble_eq_true rfl⟩) ⟨pz_blind, va_recv hK hP (ci := 12) (q0 := q175) rfl eq175, pz_pre hP hK hD hN⟩ rfl rfl hl.1 rfl (lv_room (Nat.le_of_ble_eq_true rfl)) dX12_findSet_173 ⟨Nat.le_of_ble_eq_true rfl, Nat.le_of_ble_eq_true rfl⟩) hS (fun q _ h => hFc q h) hFc (fun r176 f178 t H1 locs ht hvm hw177 hB hz1 hk1 hS => ?_)
            refine tn_4 hw177 (fun hT hF179 hw177r hw177p => ?_); clear hw177
            have hR := hR.then hF179 (by decide)
            have hP := hB.1; rw [ht] at hP; have hD := tp_ad f178 hD; clear hB hFc hz1 hk1; subst ht; generalize t.heap = H at hP hS ⊢
            refine tpk_76 hT y21 (fun g181 hf_o180 => ?_)
            have tf182 : mo_hd (mo_i (f178 (ρ h0 46)) = g181) := tfa_i hf_o180
            have tk183 : mo_hd (mo_PM (mo_R g181) w35.toInt ∧ mo_VL (mo_R g74) w35.toInt.toNat ≤ mo_VL (mo_R g181) w35.toInt.toNat ∧ (r176.toInt ≠ 0 → mo_VL (mo_R g74) w35.toInt.toNat < mo_VL (mo_R g181) w35.toInt.toNat)) := by have q9 := hw177p; first | (simp only [(mo_un tf182), (mo_un tf173), mo_i1, mo_l1] at q9; exact q9) | (rw [(mo_un tf182), (mo_un tf173)] at q9; exact q9)
            clear hw177p
            have hPM := tk183.1
            have hPMc := hPM.bd (by (first | omega | (have u1 := mo_un tk183; first | omega | (have u0 := mo_un jf51; omega)))) (by (first | omega | (have u1 := mo_un tk183; first | omega | (have u0 := mo_un jf51; omega))))
            have hVm := tk183.2
            refine lv_istore (lv' := [(8, .int r176), (5, .long w61), (7, .int w103), (10, .long r124), (9, .int w103), (4, .int w35), (0, .ref h0), (1, .int v), (2, .int u), (3, .int a)]) hx hb dX12_findSet_176 hl (by decide) rfl (fun ls hl => ?_)
            refine lv_goto (tgt := 61) hx hb dX12_findSet_178 (by decide) ?_
            have hf_184 : f178 (ρ h0 2) = .inl (κ 0, 12967, .inl g27) := (hF179 _ (by rw [tp_iu y1]; decide)).trans hf_171
            have hf_185 : f126 (ρ h0 45) = .inl (κ 0, 6, .inl g53) := (hF127 _ (by rw [tp_iu y20]; decide)).trans hk106k
            have hf_186 : f178 (ρ h0 45) = .inl (κ 0, 6, .inl g53) := (hF179 _ (by rw [tp_iu y20]; decide)).trans hf_185
            have hf_187 : f126 (ρ h0 43) = .inl (κ 1, 192, .inr (.inl g32)) := (hF127 _ (by rw [tp_iu y18]; decide)).trans hk108k
            have hf_188 : f178 (ρ h0 43) = .inl (κ 1, 192, .inr (.inl g32)) := (hF179 _ (by rw [tp_iu y18]; decide)).trans hf_187
            have hf_189 : f126 (ρ h0 44) = .inl (κ 0, 192, .inl g29) := (hF127 _ (by rw [tp_iu y19]; decide)).trans hk109k
            have hf_190 : f178 (ρ h0 44) = .inl (κ 0, 192, .inl g29) := (hF179 _ (by rw [tp_iu y19]; decide)).trans hf_189
            exact ih70 _ _ _ _ (by rw [hn71]; first | (simp only [(mo_un tf182), mo_i1, mo_l1]; exact (show (46656 - mo_VL (mo_R g181) w35.toInt.toNat).toNat + ((r176.toInt)).toNat < (46656 - mo_VL (mo_R g74) w35.toInt.toNat).toNat + ((w59.toInt)).toNat from by (first | omega | (have u1 := mo_un tk183; first | omega | (have u0 := mo_un jf51; omega))))) | (rw [(mo_un tf182)]; exact (show (46656 - mo_VL (mo_R g181) w35.toInt.toNat).toNat + ((r176.toInt)).toNat < (46656 - mo_VL (mo_R g74) w35.toInt.toNat).toNat + ((w59.toInt)).toNat from by (first | omega | (have u1 := mo_un tk183; first | omega | (have u0 := mo_un jf51; omega)))))) ⟨f178, r176, w103, w61, rfl, hT, hR, hf_184, hf_186, hf_188, hf_190, (by first | (simp only [(mo_un tf182), mo_i1, mo_l1]; exact (show mo_PM (mo_R g181) w35.toInt from hPM)) | (rw [(mo_un tf182)]; exact (show mo_PM (mo_R g181) w35.toInt from hPM))), (by (first | omega | (have u1 := mo_un tk183; first | omega | (have u0 := mo_un jf51; omega)))), (by first | exact (fun _ => hGD) | exact k62 | (intro q9; exfalso; (first | omega | (have u1 := mo_un tk183; first | omega | (have u0 := mo_un jf51; omega)))) | (intro q9; exact k62 (by (first | omega | (have u1 := mo_un tk183; first | omega | (have u0 := mo_un jf51; omega)))))), (by (first | omega | (have u1 := mo_un tk183; first | omega | (have u0 := mo_un jf51; omega)))), hP, hD, hS, lv_sub hl [0, 2, 1, 5, 6, 7, 8, 9] rfl⟩
          · have ic170 : r124.toInt > w61.toInt := zl_lef rfl rfl c170
            refine lv_lload hx hb dX12_findSet_161 (lv_at hl 1 rfl) ?_
            refine lv_goto (tgt := 168) hx hb dX12_findSet_163 (by decide) ?_
            refine lv_lstore (lv' := [(5, .long r124), (7, .int w103), (10, .long r124), (9, .int w103), (8, .int w59), (4, .int w35), (0, .ref h0), (1, .int v), (2, .int u), (3, .int a)]) hx hb dX12_findSet_168 hl (by decide) rfl (fun ls hl => ?_)
            refine lv_aload_n hx hb dX12_findSet_170 rfl (lv_at hl 6 rfl) ?_
            refine lv_iload hx hb dX12_findSet_171 (lv_at hl 5 rfl) ?_
            have hf_191 : f126 (ρ h0 2) = .inl (κ 0, 12967, .inl g27) := (hF127 _ (by rw [tp_iu y1]; decide)).trans hk105k
            have hf_192 : f126 (ρ h0 46) = .inl (κ 0, 6, .inl g74) := (hF127 _ (by rw [tp_iu y21]; decide)).trans hk107k
            have tf193 : mo_hd (mo_i (f126 (ρ h0 46)) = g74) := tfa_i hf_192
            refine tpk_13 hT ht_h0 (fun o194_x0 o194_x1 o194_x7 o194_x9 o194_x10 o194_x11 o194_x12 o194_x13 o194_x14 o194_x15 o194_x16 o194_x17 o194_x18 o194_x19 o194_x20 o194_x22 o194_x25 o194_x28 o194_x29 o194_x32 o194_x33 o194_x34 o194_x35 o194_x36 o194_x37 o194_x38 o194_x47 o194_x48 hf_o194 ro194_0 ro194_1 ro194_2 ro194_3 ro194_4 ro194_5 ro194_6 ro194_7 ro194_8 ro194_9 ro194_10 ro194_11 ro194_12 ro194_13 ro194_14 => ?_)
            refine tpk_pos (tp_in hG ht_h0 (by decide)) hf_o194 (fun q195 eq195 => ?_)
            have hFc := tp_fr hD hS hA
            refine va_calli (va_runV (As := [.int w35]) (rest := []) ⟨hx, hb, hml, hown, hts⟩ (t_X12_nextPlaces l dC dI _ κ Θ τ ν ρ L f126 hG hT h0 w35 ht_h0 (by first | decide | (first | omega | (have u0 := mo_un jf51; omega))) (by first | (simp only [(mo_un tf193), mo_i1, mo_l1]; exact (show mo_PM (mo_R g74) w35.toInt from hPM)) | (rw [(mo_un tf193)]; exact (show mo_PM (mo_R g74) w35.toInt from hPM)))) (cwV 1 hts gX12_findSet_X12_nextPlaces rfl rfl rfl ⟨rfl, pd_X12_nextPlaces⟩ ⟨Nat.le_of_ble_eq_true rfl, Nat.le_of_ble_eq_true rfl⟩) ⟨pz_blind, va_recv hK hP (ci := 12) (q0 := q195) rfl eq195, pz_pre hP hK hD hN⟩ rfl rfl hl.1 rfl (lv_room (Nat.le_of_ble_eq_true rfl)) dX12_findSet_173 ⟨Nat.le_of_ble_eq_true rfl, Nat.le_of_ble_eq_true rfl⟩) hS (fun q _ h => hFc q h) hFc (fun r196 f198 t H1 locs ht hvm hw197 hB hz1 hk1 hS => ?_)
            refine tn_4 hw197 (fun hT hF199 hw197r hw197p => ?_); clear hw197
            have hR := hR.then hF199 (by decide)
            have hP := hB.1; rw [ht] at hP; have hD := tp_ad f198 hD; clear hB hFc hz1 hk1; subst ht; generalize t.heap = H at hP hS ⊢
            refine tpk_76 hT y21 (fun g201 hf_o200 => ?_)
            have tf202 : mo_hd (mo_i (f198 (ρ h0 46)) = g201) := tfa_i hf_o200
            have tk203 : mo_hd (mo_PM (mo_R g201) w35.toInt ∧ mo_VL (mo_R g74) w35.toInt.toNat ≤ mo_VL (mo_R g201) w35.toInt.toNat ∧ (r196.toInt ≠ 0 → mo_VL (mo_R g74) w35.toInt.toNat < mo_VL (mo_R g201) w35.toInt.toNat)) := by have q9 := hw197p; first | (simp only [(mo_un tf202), (mo_un tf193), mo_i1, mo_l1] at q9; exact q9) | (rw [(mo_un tf202), (mo_un tf193)] at q9; exact q9)
            clear hw197p
            have hPM := tk203.1
            have hPMc := hPM.bd (by (first | omega | (have u1 := mo_un tk203; first | omega | (have u0 := mo_un jf51; omega)))) (by (first | omega | (have u1 := mo_un tk203; first | omega | (have u0 := mo_un jf51; omega))))
            have hVm := tk203.2
            refine lv_istore (lv' := [(8, .int r196), (5, .long r124), (7, .int w103), (10, .long r124), (9, .int w103), (4, .int w35), (0, .ref h0), (1, .int v), (2, .int u), (3, .int a)]) hx hb dX12_findSet_176 hl (by decide) rfl (fun ls hl => ?_)
            refine lv_goto (tgt := 61) hx hb dX12_findSet_178 (by decide) ?_
            have hf_204 : f198 (ρ h0 2) = .inl (κ 0, 12967, .inl g27) := (hF199 _ (by rw [tp_iu y1]; decide)).trans hf_191
            have hf_205 : f126 (ρ h0 45) = .inl (κ 0, 6, .inl g53) := (hF127 _ (by rw [tp_iu y20]; decide)).trans hk106k
            have hf_206 : f198 (ρ h0 45) = .inl (κ 0, 6, .inl g53) := (hF199 _ (by rw [tp_iu y20]; decide)).trans hf_205
            have hf_207 : f126 (ρ h0 43) = .inl (κ 1, 192, .inr (.inl g32)) := (hF127 _ (by rw [tp_iu y18]; decide)).trans hk108k
            have hf_208 : f198 (ρ h0 43) = .inl (κ 1, 192, .inr (.inl g32)) := (hF199 _ (by rw [tp_iu y18]; decide)).trans hf_207
            have hf_209 : f126 (ρ h0 44) = .inl (κ 0, 192, .inl g29) := (hF127 _ (by rw [tp_iu y19]; decide)).trans hk109k
            have hf_210 : f198 (ρ h0 44) = .inl (κ 0, 192, .inl g29) := (hF199 _ (by rw [tp_iu y19]; decide)).trans hf_209
            exact ih70 _ _ _ _ (by rw [hn71]; first | (simp only [(mo_un tf202), mo_i1, mo_l1]; exact (show (46656 - mo_VL (mo_R g201) w35.toInt.toNat).toNat + ((r196.toInt)).toNat < (46656 - mo_VL (mo_R g74) w35.toInt.toNat).toNat + ((w59.toInt)).toNat from by (first | omega | (have u1 := mo_un tk203; first | omega | (have u0 := mo_un jf51; omega))))) | (rw [(mo_un tf202)]; exact (show (46656 - mo_VL (mo_R g201) w35.toInt.toNat).toNat + ((r196.toInt)).toNat < (46656 - mo_VL (mo_R g74) w35.toInt.toNat).toNat + ((w59.toInt)).toNat from by (first | omega | (have u1 := mo_un tk203; first | omega | (have u0 := mo_un jf51; omega)))))) ⟨f198, r196, w103, r124, rfl, hT, hR, hf_204, hf_206, hf_208, hf_210, (by first | (simp only [(mo_un tf202), mo_i1, mo_l1]; exact (show mo_PM (mo_R g201) w35.toInt from hPM)) | (rw [(mo_un tf202)]; exact (show mo_PM (mo_R g201) w35.toInt from hPM))), (by (first | omega | (have u1 := mo_un tk203; first | omega | (have u0 := mo_un jf51; omega)))), (by first | exact (fun _ => hGD) | exact k62 | (intro q9; exfalso; (first | omega | (have u1 := mo_un tk203; first | omega | (have u0 := mo_un jf51; omega)))) | (intro q9; exact k62 (by (first | omega | (have u1 := mo_un tk203; first | omega | (have u0 := mo_un jf51; omega)))))), (by (first | omega | (have u1 := mo_un tk203; first | omega | (have u0 := mo_un jf51; omega)))), hP, hD, hS, lv_sub hl [0, 2, 1, 5, 6, 7, 8, 9] rfl⟩
      · have ic121 : w102.toInt < w35.toInt := zi_gef rfl rfl c121
        have hPk := hPM.1 w102.toInt (by (first | omega | (have u0 := mo_un jf51; omega))) (by (first | omega | (have u0 := mo_un jf51; omega)))
        have hMk := hMB.2.2.1 w102.toInt (by (first | omega | (have u0 := mo_un jf51; omega))) (by (first | omega | (have u0 := mo_un jf51; omega)))
        refine lv_aload_n hx hb dX12_findSet_79 rfl (lv_at hl 6 rfl) ?_
        refine tpk_13 hT ht_h0 (fun o211_x0 o211_x1 o211_x7 o211_x9 o211_x10 o211_x11 o211_x12 o211_x13 o211_x14 o211_x15 o211_x16 o211_x17 o211_x18 o211_x19 o211_x20 o211_x22 o211_x25 o211_x28 o211_x29 o211_x32 o211_x33 o211_x34 o211_x35 o211_x36 o211_x37 o211_x38 o211_x47 o211_x48 hf_o211 ro211_0 ro211_1 ro211_2 ro211_3 ro211_4 ro211_5 ro211_6 ro211_7 ro211_8 ro211_9 ro211_10 ro211_11 ro211_12 ro211_13 ro211_14 => ?_)
        refine tpk_pos (tp_in hG ht_h0 (by decide)) hf_o211 (fun q212 eq212 => ?_)
        refine va_get (D := (dC, dI)) (ci := 12) (v := .ref (ρ h0 42)) (C := RX12) (T := TX12) (N := 53) hx hb hts hfX12 hown hK hP q212 eq212 rfl 42 (by decide) (hts (.fieldLink RX12 64 "ColdShipsModel" "line" "[I") wa_166) (fun _ h9 => h9) rfl dX12_findSet_80 ?_
        refine lv_aload_n hx hb dX12_findSet_83 rfl (lv_at hl 6 rfl) ?_
        refine va_get (D := (dC, dI)) (ci := 12) (v := .ref (ρ h0 46)) (C := RX12) (T := TX12) (N := 53) hx hb hts hfX12 hown hK hP q212 eq212 rfl 46 (by decide) (hts (.fieldLink RX12 76 "ColdShipsModel" "places" "[I") wa_170) (fun _ h9 => h9) rfl dX12_findSet_84 ?_
        refine lv_iload hx hb dX12_findSet_87 (lv_at hl 0 rfl) ?_
        refine tpk_pos (tp_in hG y21 (by decide)) hk107k (fun q213 eq213 => ?_)
        refine va_iald hx hb hK hP q213 0 eq213 rfl (vp_in_iff.mpr ⟨by (first | omega | (have u0 := mo_un jf51; omega)), by (first | omega | (have u0 := mo_un jf51; omega))⟩) dX12_findSet_89 ?_
        refine lv_topi (fun z214 ez214 => ?_)
        have jz214 : z214.toInt = mo_R g74 w102.toInt := mo_rd ez214 (by (first | omega | (have u0 := mo_un jf51; omega)))
        refine lv_aload_n hx hb dX12_findSet_90 rfl (lv_at hl 6 rfl) ?_
        refine va_get (D := (dC, dI)) (ci := 12) (v := .ref (ρ h0 45)) (C := RX12) (T := TX12) (N := 53) hx hb hts hfX12 hown hK hP q212 eq212 rfl 45 (by decide) (hts (.fieldLink RX12 73 "ColdShipsModel" "members" "[I") wa_169) (fun _ h9 => h9) rfl dX12_findSet_91 ?_
        refine lv_iload hx hb dX12_findSet_94 (lv_at hl 0 rfl) ?_
        refine tpk_pos (tp_in hG y20 (by decide)) hk106k (fun q215 eq215 => ?_)
        refine va_iald hx hb hK hP q215 0 eq215 rfl (vp_in_iff.mpr ⟨by (first | omega | (have u0 := mo_un jf51; omega)), by (first | omega | (have u0 := mo_un jf51; omega))⟩) dX12_findSet_96 ?_
        refine lv_topi (fun z216 ez216 => ?_)
        have jz216 : z216.toInt = mo_R g53 w102.toInt := mo_rd ez216 (by (first | omega | (have u0 := mo_un jf51; omega)))
        refine tpk_pos (tp_in hG y17 (by decide)) hf_o118 (fun q217 eq217 => ?_)
        refine va_iast hx hb hK hP hD hS q217 0 eq217 rfl (vp_in_iff.mpr ⟨by (first | omega | (have u0 := mo_un jf51; omega)), by (first | omega | (have u0 := mo_un jf51; omega))⟩) dX12_findSet_97 (tp_k (.inl (κ 0, 6, .inl (upd g119 z214.toNatClampNeg z216))) hD (tp_in hG y17 (by decide)) eq217 (fun f218 H locs hP hD hS g220 k219 => ?_))
        have hT := hT.up y17 g220 k219 tp_o72
        have hR := hR.up y17 (by decide) k219
        have hU222 : mo_U (mo_R g119) (mo_R (upd g119 z214.toNatClampNeg z216)) (z214.toInt) (z216.toInt) := mo_up (by (first | omega | (have u0 := mo_un jf51; omega))) (rfl : z216.toInt = _) (by (first | omega | (have u0 := mo_un jf51; omega)))
        generalize (upd g119 z214.toNatClampNeg z216) = g221 at g220 hU222
        refine lv_iload hx hb dX12_findSet_98 (lv_at hl 1 rfl) ?_
        refine lv_aload_n hx hb dX12_findSet_100 rfl (lv_at hl 6 rfl) ?_
        have hf_223 : f218 h0 = .inr (12, [.int o211_x0, .int o211_x1, .ref (ρ h0 2), .ref (ρ h0 3), .ref (ρ h0 4), .ref (ρ h0 5), .ref (ρ h0 6), .int o211_x7, .ref (ρ h0 8), .int o211_x9, .int o211_x10, .int o211_x11, .int o211_x12, .long o211_x13, .int o211_x14, .int o211_x15, .int o211_x16, .int o211_x17, .int o211_x18, .int o211_x19, .int o211_x20, .ref (ρ h0 21), .int o211_x22, .ref (ρ h0 23), .ref (ρ h0 24), .int o211_x25, .ref (ρ h0 26), .ref (ρ h0 27), .int o211_x28, .int o211_x29, .ref (ρ h0 30), .ref (ρ h0 31), .int o211_x32, .long o211_x33, .long o211_x34, .long o211_x35, .int o211_x36, .int o211_x37, .int o211_x38, .ref (ρ h0 39), .ref (ρ h0 40), .ref (ρ h0 41), .ref (ρ h0 42), .ref (ρ h0 43), .ref (ρ h0 44), .ref (ρ h0 45), .ref (ρ h0 46), .int o211_x47, .int o211_x48, .ref (ρ h0 49), .ref (ρ h0 50), .ref (ρ h0 51), .ref (ρ h0 52)]) := (k219 _ (tp_ne ht_h0 y17 (by decide))).trans hf_o211
        refine tpk_pos (tp_in hG ht_h0 (by decide)) hf_223 (fun q224 eq224 => ?_)
        refine va_get (D := (dC, dI)) (ci := 12) (v := .ref (ρ h0 46)) (C := RX12) (T := TX12) (N := 53) hx hb hts hfX12 hown hK hP q224 eq224 rfl 46 (by decide) (hts (.fieldLink RX12 76 "ColdShipsModel" "places" "[I") wa_170) (fun _ h9 => h9) rfl dX12_findSet_101 ?_
        refine lv_iload hx hb dX12_findSet_104 (lv_at hl 0 rfl) ?_
        have hf_225 : f218 (ρ h0 46) = .inl (κ 0, 6, .inl g74) := (k219 _ (tp_ne y21 y17 (by decide))).trans hk107k
        refine tpk_pos (tp_in hG y21 (by decide)) hf_225 (fun q226 eq226 => ?_)
        refine va_iald hx hb hK hP q226 0 eq226 rfl (vp_in_iff.mpr ⟨by (first | omega | (have u0 := mo_un jf51; omega)), by (first | omega | (have u0 := mo_un jf51; omega))⟩) dX12_findSet_106 ?_
        refine lv_topi (fun z227 ez227 => ?_)
        have jz227 : z227.toInt = mo_R g74 w102.toInt := mo_rd ez227 (by (first | omega | (have u0 := mo_un jf51; omega)))
        refine lv_iconst (v := 3) hx hb dX12_findSet_107 (by decide) ?_
        refine lv_aload_n hx hb dX12_findSet_108 rfl (lv_at hl 6 rfl) ?_
        refine va_get (D := (dC, dI)) (ci := 12) (v := .ref (ρ h0 45)) (C := RX12) (T := TX12) (N := 53) hx hb hts hfX12 hown hK hP q224 eq224 rfl 45 (by decide) (hts (.fieldLink RX12 73 "ColdShipsModel" "members" "[I") wa_169) (fun _ h9 => h9) rfl dX12_findSet_109 ?_
        refine lv_iload hx hb dX12_findSet_112 (lv_at hl 0 rfl) ?_
        have hf_228 : f218 (ρ h0 45) = .inl (κ 0, 6, .inl g53) := (k219 _ (tp_ne y20 y17 (by decide))).trans hk106k
        refine tpk_pos (tp_in hG y20 (by decide)) hf_228 (fun q229 eq229 => ?_)
        refine va_iald hx hb hK hP q229 0 eq229 rfl (vp_in_iff.mpr ⟨by (first | omega | (have u0 := mo_un jf51; omega)), by (first | omega | (have u0 := mo_un jf51; omega))⟩) dX12_findSet_114 ?_
        refine lv_topi (fun z230 ez230 => ?_)
        have jz230 : z230.toInt = mo_R g53 w102.toInt := mo_rd ez230 (by (first | omega | (have u0 := mo_un jf51; omega)))
        refine lv_imul hx hb dX12_findSet_115 ?_
        refine lv_topi (fun z231 ez231 => ?_)
        have iz231 : z231.toInt = 3 * z230.toInt := zi_mul ez231 rfl rfl (by (first | omega | (have u0 := mo_un jf51; omega))) (by (first | omega | (have u0 := mo_un jf51; omega)))
        refine lv_ishl hx hb dX12_findSet_116 ?_
        refine lv_topi (fun z232 ez232 => ?_)
        refine lv_ior hx hb dX12_findSet_117 ?_
        refine lv_topi (fun z233 ez233 => ?_)
        have tf234 : mo_hd (mo_i (f218 (ρ h0 46)) = g74) := tfa_i hf_225
        have tf235 : mo_hd (mo_i (f218 (ρ h0 45)) = g53) := tfa_i hf_228
        have hfree := jf117.free hMB (by (first | omega | (have u0 := mo_un jf51; omega))) (by (first | omega | (have u0 := mo_un jf51; omega)))
        have hcd := jf117.1
        have hcode : z233.toInt = w103.toInt + (mo_R g74) w102.toInt * mo_p8 ((mo_R g53) w102.toInt) := by rw [zb_cd (M := z230.toInt) ez232 ez233 (by (first | omega | (have u0 := mo_un jf51; omega))) (by (first | omega | (have u0 := mo_un jf51; omega))) (by (first | omega | (have u0 := mo_un jf51; omega))) (by (first | omega | (have u0 := mo_un jf51; omega))) (by (first | omega | (have u0 := mo_un jf51; omega))) (by (first | omega | (have u0 := mo_un jf51; omega))) (by (first | omega | (have u0 := mo_un jf51; omega))) (by rw [jz230]; exact hfree), jz227, jz230]
        have hcz := (mo_pl_add (x := w103.toInt) (p := (mo_R g74) w102.toInt) (m := (mo_R g53) w102.toInt) (c := 0) (by (first | omega | (have u0 := mo_un jf51; omega))) (by (first | omega | (have u0 := mo_un jf51; omega))) (by (first | omega | (have u0 := mo_un jf51; omega))) (by (first | omega | (have u0 := mo_un jf51; omega))) (by (first | omega | (have u0 := mo_un jf51; omega))) (by (first | omega | (have u0 := mo_un jf51; omega))) (by (first | omega | (have u0 := mo_un jf51; omega))) (by (first | omega | (have u0 := mo_un jf51; omega))) hfree).2.2
        rw [← hcode] at hcz
        refine lv_istore (lv' := [(9, .int z233), (10, .int w102), (8, .int w59), (7, .int w60), (5, .long w61), (4, .int w35), (0, .ref h0), (1, .int v), (2, .int u), (3, .int a)]) hx hb dX12_findSet_118 hl (by decide) rfl (fun ls hl => ?_)
        obtain ⟨z236, ez236⟩ : ∃ y : Int32, y = w102 + 1 := ⟨_, rfl⟩
        refine lv_iinc (v := z236) (lv' := [(10, .int z236), (9, .int z233), (8, .int w59), (7, .int w60), (5, .long w61), (4, .int w35), (0, .ref h0), (1, .int v), (2, .int u), (3, .int a)]) hx hb dX12_findSet_120 hl (k := 1) rfl (by rw [ez236]; rfl) (by decide) rfl (fun ls hl => ?_)
        have iz236 : z236.toInt = w102.toInt + 1 := zi_add ez236 rfl rfl (by (first | omega | (have u0 := mo_un jf51; omega))) (by (first | omega | (have u0 := mo_un jf51; omega)))
        refine lv_goto (tgt := 72) hx hb dX12_findSet_123 (by decide) ?_
        have tf237 : mo_hd (mo_i (f218 (ρ h0 42)) = g221) := tfa_i g220
        have hf_238 : f218 (ρ h0 2) = .inl (κ 0, 12967, .inl g27) := (k219 _ (tp_ne y1 y17 (by decide))).trans hk105k
        have hf_239 : f218 (ρ h0 43) = .inl (κ 1, 192, .inr (.inl g32)) := (k219 _ (tp_ne y18 y17 (by decide))).trans hk108k
        have hf_240 : f218 (ρ h0 44) = .inl (κ 0, 192, .inl g29) := (k219 _ (tp_ne y19 y17 (by decide))).trans hk109k
        exact ih115 _ _ _ _ (by rw [hn116]; (first | omega | (have u0 := mo_un jf51; omega))) ⟨f218, z236, z233, rfl, hT, hR, hf_238, hf_228, hf_225, hf_239, hf_240, (by first | (simp only [(mo_un tf237), mo_i1, mo_l1]; exact (show mo_LC (mo_R g74) (mo_R g53) (mo_R g221) (z233.toInt) (z236.toInt) from jf117.up hPM hMB (by (first | omega | (have u0 := mo_un jf51; omega))) (by (first | omega | (have u0 := mo_un jf51; omega))) hU222 (by (first | omega | (have u0 := mo_un jf51; omega))) (by (first | omega | (have u0 := mo_un jf51; omega))) hcode (by (first | omega | (have u0 := mo_un jf51; omega))))) | (rw [(mo_un tf237)]; exact (show mo_LC (mo_R g74) (mo_R g53) (mo_R g221) (z233.toInt) (z236.toInt) from jf117.up hPM hMB (by (first | omega | (have u0 := mo_un jf51; omega))) (by (first | omega | (have u0 := mo_un jf51; omega))) hU222 (by (first | omega | (have u0 := mo_un jf51; omega))) (by (first | omega | (have u0 := mo_un jf51; omega))) hcode (by (first | omega | (have u0 := mo_un jf51; omega)))))), (by (first | omega | (have u0 := mo_un jf51; omega))), (by (first | omega | (have u0 := mo_un jf51; omega))), (by (first | omega | (have u0 := mo_un jf51; omega))), hP, hD, hS, lv_sub hl [0, 1, 2, 3, 4, 5, 6, 7, 8, 9] rfl⟩
  · have ic58 : w34.toInt < 6 := zi_gef rfl rfl c58
    refine lv_iload_n hx hb dX12_findSet_13 rfl (lv_at hl 4 rfl) ?_
    refine lv_iload hx hb dX12_findSet_14 (lv_at hl 0 rfl) ?_
    refine lv_ishr hx hb dX12_findSet_16 ?_
    refine lv_topi (fun z241 ez241 => ?_)
    refine lv_iconst (v := 1) hx hb dX12_findSet_17 (by decide) ?_
    refine lv_iand hx hb dX12_findSet_18 ?_
    refine lv_topi (fun z242 ez242 => ?_)
    have iz242 : 0 ≤ z242.toInt ∧ z242.toInt ≤ 1 := zb_mask ez242 (by decide)
    refine lv_iconst (v := 1) hx hb dX12_findSet_19 (by decide) ?_
    have hbt := zb_bt ez241 ez242 (by (first | omega | (have u0 := mo_un jf51; omega))) (by (first | omega | (have u0 := mo_un jf51; omega))) (by (first | omega | (have u0 := mo_un jf51; omega))) (by (first | omega | (have u0 := mo_un jf51; omega)))
    refine lv_icmp_ne (tgt := 44) hx hb dX12_findSet_20 (by decide) (fun c243 => ?_) (fun c243 => ?_)
    · have ic243 : z242.toInt ≠ 1 := zi_ne rfl rfl c243
      replace ic243 : z242.toInt ≤ 0 := by (first | omega | (have u0 := mo_un jf51; omega))
      obtain ⟨z244, ez244⟩ : ∃ y : Int32, y = w34 + 1 := ⟨_, rfl⟩
      refine lv_iinc (v := z244) (lv' := [(5, .int z244), (4, .int w35), (0, .ref h0), (1, .int v), (2, .int u), (3, .int a)]) hx hb dX12_findSet_44 hl (k := 0) rfl (by rw [ez244]; rfl) (by decide) rfl (fun ls hl => ?_)
      have iz244 : z244.toInt = w34.toInt + 1 := zi_add ez244 rfl rfl (by (first | omega | (have u0 := mo_un jf51; omega))) (by (first | omega | (have u0 := mo_un jf51; omega)))
      refine lv_goto (tgt := 6) hx hb dX12_findSet_47 (by decide) ?_
      exact ih48 _ _ _ _ (by rw [hn49]; (first | omega | (have u0 := mo_un jf51; omega))) ⟨f46, z244, w35, rfl, hT, hR, hk37k, hk38k, hk39k, (by first | (simp only [(mo_un tf54), mo_i1, mo_l1]; exact (show mo_MB (mo_R g53) u.toInt (w35.toInt) (z244.toInt) from mo_MB.no jf50 (hbt.2 (by (first | omega | (have u0 := mo_un jf51; omega)))) (by (first | omega | (have u0 := mo_un jf51; omega))) _ (by (first | omega | (have u0 := mo_un jf51; omega))))) | (rw [(mo_un tf54)]; exact (show mo_MB (mo_R g53) u.toInt (w35.toInt) (z244.toInt) from mo_MB.no jf50 (hbt.2 (by (first | omega | (have u0 := mo_un jf51; omega)))) (by (first | omega | (have u0 := mo_un jf51; omega))) _ (by (first | omega | (have u0 := mo_un jf51; omega)))))), (by first | (simp only [(mo_un tf57), mo_i1, mo_l1]; exact (show ∀ i, 0 ≤ i → i < (w35.toInt) → (mo_R g56) i = i from (fun i i0 i1 => jf51 i i0 (by (first | omega | (have u0 := mo_un jf51; omega)))))) | (rw [(mo_un tf57)]; exact (show ∀ i, 0 ≤ i → i < (w35.toInt) → (mo_R g56) i = i from (fun i i0 i1 => jf51 i i0 (by (first | omega | (have u0 := mo_un jf51; omega))))))), (by (first | omega | (have u0 := mo_un jf51; omega))), (by (first | omega | (have u0 := mo_un jf51; omega))), (by (first | omega | (have u0 := mo_un jf51; omega))), hP, hD, hS, lv_sub hl [0, 1, 2, 3, 4, 5] rfl⟩
    · have ic243 : z242.toInt = 1 := zi_nef rfl rfl c243
      refine lv_aload_n hx hb dX12_findSet_23 rfl (lv_at hl 2 rfl) ?_
      refine tpk_13 hT ht_h0 (fun o245_x0 o245_x1 o245_x7 o245_x9 o245_x10 o245_x11 o245_x12 o245_x13 o245_x14 o245_x15 o245_x16 o245_x17 o245_x18 o245_x19 o245_x20 o245_x22 o245_x25 o245_x28 o245_x29 o245_x32 o245_x33 o245_x34 o245_x35 o245_x36 o245_x37 o245_x38 o245_x47 o245_x48 hf_o245 ro245_0 ro245_1 ro245_2 ro245_3 ro245_4 ro245_5 ro245_6 ro245_7 ro245_8 ro245_9 ro245_10 ro245_11 ro245_12 ro245_13 ro245_14 => ?_)
      refine tpk_pos (tp_in hG ht_h0 (by decide)) hf_o245 (fun q246 eq246 => ?_)
      refine va_get (D := (dC, dI)) (ci := 12) (v := .ref (ρ h0 45)) (C := RX12) (T := TX12) (N := 53) hx hb hts hfX12 hown hK hP q246 eq246 rfl 45 (by decide) (hts (.fieldLink RX12 73 "ColdShipsModel" "members" "[I") wa_169) (fun _ h9 => h9) rfl dX12_findSet_24 ?_
      refine lv_iload hx hb dX12_findSet_27 (lv_at hl 1 rfl) ?_
      refine lv_iload hx hb dX12_findSet_29 (lv_at hl 0 rfl) ?_
      refine tpk_pos (tp_in hG y20 (by decide)) hf_o52 (fun q247 eq247 => ?_)
      refine va_iast hx hb hK hP hD hS q247 0 eq247 rfl (vp_in_iff.mpr ⟨by (first | omega | (have u0 := mo_un jf51; omega)), by (first | omega | (have u0 := mo_un jf51; omega))⟩) dX12_findSet_31 (tp_k (.inl (κ 0, 6, .inl (upd g53 w35.toNatClampNeg w34))) hD (tp_in hG y20 (by decide)) eq247 (fun f248 H locs hP hD hS g250 k249 => ?_))
      have hT := hT.up y20 g250 k249 tp_o75
      have hR := hR.up y20 (by decide) k249
      have hU252 : mo_U (mo_R g53) (mo_R (upd g53 w35.toNatClampNeg w34)) (w35.toInt) (w34.toInt) := mo_up (by (first | omega | (have u0 := mo_un jf51; omega))) (rfl : w34.toInt = _) (by (first | omega | (have u0 := mo_un jf51; omega)))
      generalize (upd g53 w35.toNatClampNeg w34) = g251 at g250 hU252
      have hU252e := hU252.eq (by (first | omega | (have u0 := mo_un jf51; omega)))
      refine lv_aload_n hx hb dX12_findSet_32 rfl (lv_at hl 2 rfl) ?_
      have hf_253 : f248 h0 = .inr (12, [.int o245_x0, .int o245_x1, .ref (ρ h0 2), .ref (ρ h0 3), .ref (ρ h0 4), .ref (ρ h0 5), .ref (ρ h0 6), .int o245_x7, .ref (ρ h0 8), .int o245_x9, .int o245_x10, .int o245_x11, .int o245_x12, .long o245_x13, .int o245_x14, .int o245_x15, .int o245_x16, .int o245_x17, .int o245_x18, .int o245_x19, .int o245_x20, .ref (ρ h0 21), .int o245_x22, .ref (ρ h0 23), .ref (ρ h0 24), .int o245_x25, .ref (ρ h0 26), .ref (ρ h0 27), .int o245_x28, .int o245_x29, .ref (ρ h0 30), .ref (ρ h0 31), .int o245_x32, .long o245_x33, .long o245_x34, .long o245_x35, .int o245_x36, .int o245_x37, .int o245_x38, .ref (ρ h0 39), .ref (ρ h0 40), .ref (ρ h0 41), .ref (ρ h0 42), .ref (ρ h0 43), .ref (ρ h0 44), .ref (ρ h0 45), .ref (ρ h0 46), .int o245_x47, .int o245_x48, .ref (ρ h0 49), .ref (ρ h0 50), .ref (ρ h0 51), .ref (ρ h0 52)]) := (k249 _ (tp_ne ht_h0 y20 (by decide))).trans hf_o245
      refine tpk_pos (tp_in hG ht_h0 (by decide)) hf_253 (fun q254 eq254 => ?_)
      refine va_get (D := (dC, dI)) (ci := 12) (v := .ref (ρ h0 46)) (C := RX12) (T := TX12) (N := 53) hx hb hts hfX12 hown hK hP q254 eq254 rfl 46 (by decide) (hts (.fieldLink RX12 76 "ColdShipsModel" "places" "[I") wa_170) (fun _ h9 => h9) rfl dX12_findSet_33 ?_
      refine lv_iload hx hb dX12_findSet_36 (lv_at hl 1 rfl) ?_
      refine lv_iload hx hb dX12_findSet_38 (lv_at hl 1 rfl) ?_
      have hf_255 : f248 (ρ h0 46) = .inl (κ 0, 6, .inl g56) := (k249 _ (tp_ne y21 y20 (by decide))).trans hf_o55
      refine tpk_pos (tp_in hG y21 (by decide)) hf_255 (fun q256 eq256 => ?_)
      refine va_iast hx hb hK hP hD hS q256 0 eq256 rfl (vp_in_iff.mpr ⟨by (first | omega | (have u0 := mo_un jf51; omega)), by (first | omega | (have u0 := mo_un jf51; omega))⟩) dX12_findSet_40 (tp_k (.inl (κ 0, 6, .inl (upd g56 w35.toNatClampNeg w35))) hD (tp_in hG y21 (by decide)) eq256 (fun f257 H locs hP hD hS g259 k258 => ?_))
      have hT := hT.up y21 g259 k258 tp_o76
      have hR := hR.up y21 (by decide) k258
      have hU261 : mo_U (mo_R g56) (mo_R (upd g56 w35.toNatClampNeg w35)) (w35.toInt) (w35.toInt) := mo_up (by (first | omega | (have u0 := mo_un jf51; omega))) (rfl : w35.toInt = _) (by (first | omega | (have u0 := mo_un jf51; omega)))
      generalize (upd g56 w35.toNatClampNeg w35) = g260 at g259 hU261
      have hU261e := hU261.eq (by (first | omega | (have u0 := mo_un jf51; omega)))
      obtain ⟨z262, ez262⟩ : ∃ y : Int32, y = w35 + 1 := ⟨_, rfl⟩
      refine lv_iinc (v := z262) (lv' := [(4, .int z262), (5, .int w34), (0, .ref h0), (1, .int v), (2, .int u), (3, .int a)]) hx hb dX12_findSet_41 hl (k := 1) rfl (by rw [ez262]; rfl) (by decide) rfl (fun ls hl => ?_)
      have iz262 : z262.toInt = w35.toInt + 1 := zi_add ez262 rfl rfl (by (first | omega | (have u0 := mo_un jf51; omega))) (by (first | omega | (have u0 := mo_un jf51; omega)))
      obtain ⟨z263, ez263⟩ : ∃ y : Int32, y = w34 + 1 := ⟨_, rfl⟩
      refine lv_iinc (v := z263) (lv' := [(5, .int z263), (4, .int z262), (0, .ref h0), (1, .int v), (2, .int u), (3, .int a)]) hx hb dX12_findSet_44 hl (k := 1) rfl (by rw [ez263]; rfl) (by decide) rfl (fun ls hl => ?_)
      have iz263 : z263.toInt = w34.toInt + 1 := zi_add ez263 rfl rfl (by (first | omega | (have u0 := mo_un jf51; omega))) (by (first | omega | (have u0 := mo_un jf51; omega)))
      refine lv_goto (tgt := 6) hx hb dX12_findSet_47 (by decide) ?_
      have hf_264 : f257 (ρ h0 45) = .inl (κ 0, 6, .inl g251) := (k258 _ (tp_ne y20 y21 (by decide))).trans g250
      have tf265 : mo_hd (mo_i (f257 (ρ h0 45)) = g251) := tfa_i hf_264
      have tf266 : mo_hd (mo_i (f257 (ρ h0 46)) = g260) := tfa_i g259
      have hf_267 : f248 (ρ h0 2) = .inl (κ 0, 12967, .inl g27) := (k249 _ (tp_ne y1 y20 (by decide))).trans hk37k
      have hf_268 : f257 (ρ h0 2) = .inl (κ 0, 12967, .inl g27) := (k258 _ (tp_ne y1 y21 (by decide))).trans hf_267
      have hf_269 : f248 (ρ h0 43) = .inl (κ 1, 192, .inr (.inl g32)) := (k249 _ (tp_ne y18 y20 (by decide))).trans hk38k
      have hf_270 : f257 (ρ h0 43) = .inl (κ 1, 192, .inr (.inl g32)) := (k258 _ (tp_ne y18 y21 (by decide))).trans hf_269
      have hf_271 : f248 (ρ h0 44) = .inl (κ 0, 192, .inl g29) := (k249 _ (tp_ne y19 y20 (by decide))).trans hk39k
      have hf_272 : f257 (ρ h0 44) = .inl (κ 0, 192, .inl g29) := (k258 _ (tp_ne y19 y21 (by decide))).trans hf_271
      exact ih48 _ _ _ _ (by rw [hn49]; (first | omega | (have u0 := mo_un jf51; omega))) ⟨f257, z263, z262, rfl, hT, hR, hf_268, hf_270, hf_272, (by first | (simp only [(mo_un tf265), mo_i1, mo_l1]; exact (show mo_MB (mo_R g251) u.toInt (z262.toInt) (z263.toInt) from mo_MB.yes jf50 hU252 (by (first | omega | (have u0 := mo_un jf51; omega))) (by (first | omega | (have u0 := mo_un jf51; omega))) (hbt.1 (by (first | omega | (have u0 := mo_un jf51; omega)))) _ _ (by (first | omega | (have u0 := mo_un jf51; omega))) (by (first | omega | (have u0 := mo_un jf51; omega))))) | (rw [(mo_un tf265)]; exact (show mo_MB (mo_R g251) u.toInt (z262.toInt) (z263.toInt) from mo_MB.yes jf50 hU252 (by (first | omega | (have u0 := mo_un jf51; omega))) (by (first | omega | (have u0 := mo_un jf51; omega))) (hbt.1 (by (first | omega | (have u0 := mo_un jf51; omega)))) _ _ (by (first | omega | (have u0 := mo_un jf51; omega))) (by (first | omega | (have u0 := mo_un jf51; omega)))))), (by first | (simp only [(mo_un tf266), mo_i1, mo_l1]; exact (show ∀ i, 0 ≤ i → i < (z262.toInt) → (mo_R g260) i = i from (fun i i0 i1 => by rcases hU261.at i i0 with ⟨z0, a0⟩ | ⟨z0, a0⟩ <;> first | (rw [a0]; (first | omega | (have u0 := mo_un jf51; omega))) | (rw [a0]; exact jf51 i i0 (by (first | omega | (have u0 := mo_un jf51; omega))))))) | (rw [(mo_un tf266)]; exact (show ∀ i, 0 ≤ i → i < (z262.toInt) → (mo_R g260) i = i from (fun i i0 i1 => by rcases hU261.at i i0 with ⟨z0, a0⟩ | ⟨z0, a0⟩ <;> first | (rw [a0]; (first | omega | (have u0 := mo_un jf51; omega))) | (rw [a0]; exact jf51 i i0 (by (first | omega | (have u0 := mo_un jf51; omega)))))))), (by (first | omega | (have u0 := mo_un jf51; omega))), (by (first | omega | (have u0 := mo_un jf51; omega))), (by (first | omega | (have u0 := mo_un jf51; omega))), hP, hD, hS, lv_sub hl [0, 1, 2, 3, 4, 5] rfl⟩
end
section
theorem zb_or0 : ∀ a : Fin 64, ∀ c : Fin 6, (Int32.ofNat a.val ||| ((1 : Int32) <<< (Int32.ofNat c.val &&& 31))).toInt = ((a.val ||| 2 ^ c.val : Nat) : Int) := by decide +kernel
theorem zb_or1 : ∀ a : Fin 64, ∀ c : Fin 6, ∀ d : Fin 6, (a.val ||| 2 ^ c.val) < 64 ∧ ((a.val ||| 2 ^ c.val) / 2 ^ d.val % 2 = 1 ↔ (a.val / 2 ^ d.val % 2 = 1 ∨ d.val = c.val)) := by decide +kernel
theorem mo_btN {x d : Nat} (h : d < 6) : mo_bt (x : Int) (d : Int) ↔ x / 2 ^ d % 2 = 1 := by
  unfold mo_bt
  rcases (show d = 0 ∨ d = 1 ∨ d = 2 ∨ d = 3 ∨ d = 4 ∨ d = 5 by omega) with rfl | rfl | rfl | rfl | rfl | rfl <;> (simp; omega)
theorem zb_orbit {x c y z : Int32} (e1 : y = (1 : Int32) <<< (c &&& 31)) (e2 : z = x ||| y) (h0 : 0 ≤ x.toInt) (h1 : x.toInt < 64) (h2 : 0 ≤ c.toInt) (h3 : c.toInt < 6) : (0 ≤ z.toInt ∧ z.toInt < 64) ∧ ∀ d, 0 ≤ d → d < 6 → (mo_bt z.toInt d ↔ (mo_bt x.toInt d ∨ d = c.toInt)) := by
  obtain ⟨a, ea, ia⟩ := zb_small (k := 64) h0 h1 (by decide)
  obtain ⟨b, eb, ib⟩ := zb_small (k := 6) h2 h3 (by decide)
  have k := zb_or0 a b
  rw [← ea, ← eb, ← e1, ← e2] at k
  rw [k, ia, ib]
  have k0 := (zb_or1 a b ⟨0, by decide⟩).1
  refine ⟨⟨by omega, by omega⟩, fun d d0 d1 => ?_⟩
  obtain ⟨n, rfl⟩ : ∃ n : Nat, d = (n : Int) := ⟨d.toNat, by omega⟩
  have q := (zb_or1 a b ⟨n, by omega⟩).2
  replace q : (a.val ||| 2 ^ b.val) / 2 ^ n % 2 = 1 ↔ (a.val / 2 ^ n % 2 = 1 ∨ n = b.val) := q
  rw [mo_btN (by omega), mo_btN (by omega), q]
  constructor
  · rintro (h | h)
    · exact Or.inl h
    · exact Or.inr (by omega)
  · rintro (h | h)
    · exact Or.inl h
    · exact Or.inr (by omega)
theorem zb_or00 {x z : Int32} (e : z = x ||| 0) : z.toInt = x.toInt := by rw [e]; simp
theorem mo_bt_P2 {x u : Int} (h0 : 0 ≤ x) (h1 : x < 64) (hu : 0 ≤ u ∧ u ≤ 6) (h : ∀ d, 0 ≤ d → d < 6 → mo_bt x d → d < u) : x < mo_P2 u := by
  have q0 := h 0 (by decide) (by decide); have q1 := h 1 (by decide) (by decide); have q2 := h 2 (by decide) (by decide); have q3 := h 3 (by decide) (by decide); have q4 := h 4 (by decide) (by decide); have q5 := h 5 (by decide) (by decide)
  simp [mo_bt] at q0 q1 q2 q3 q4 q5
  rcases (show u = 0 ∨ u = 1 ∨ u = 2 ∨ u = 3 ∨ u = 4 ∨ u = 5 ∨ u = 6 by omega) with rfl | rfl | rfl | rfl | rfl | rfl | rfl <;> (simp [mo_P2]; omega)
theorem mo_ib {a b : Int} (h : a % 2 = 1 ↔ b % 2 = 1) : a % 2 = b % 2 := by omega
theorem mo_bt_eq {x y : Int} (h0 : 0 ≤ x) (h1 : x < 64) (h2 : 0 ≤ y) (h3 : y < 64) (h : ∀ d, 0 ≤ d → d < 6 → (mo_bt x d ↔ mo_bt y d)) : x = y := by
  have q0 := h 0 (by decide) (by decide); have q1 := h 1 (by decide) (by decide); have q2 := h 2 (by decide) (by decide); have q3 := h 3 (by decide) (by decide); have q4 := h 4 (by decide) (by decide); have q5 := h 5 (by decide) (by decide)
  simp [mo_bt] at q0 q1 q2 q3 q4 q5
  have e0 := mo_ib q0; have e1 := mo_ib q1; have e2 := mo_ib q2; have e3 := mo_ib q3; have e4 := mo_ib q4; have e5 := mo_ib q5
  clear h q0 q1 q2 q3 q4 q5
  omega
theorem mo_bt0 (d : Int) : ¬ mo_bt 0 d := by unfold mo_bt; omega
theorem mo_cn_top {x u : Int} (hu : 0 ≤ u ∧ u ≤ 6) (h : ∀ d, 0 ≤ d → d < 6 → mo_bt x d → d < u) : mo_cn x 6 = mo_cn x u := by
  have q0 := h 0 (by decide) (by decide); have q1 := h 1 (by decide) (by decide); have q2 := h 2 (by decide) (by decide); have q3 := h 3 (by decide) (by decide); have q4 := h 4 (by decide) (by decide); have q5 := h 5 (by decide) (by decide)
  simp [mo_bt] at q0 q1 q2 q3 q4 q5
  rcases (show u = 0 ∨ u = 1 ∨ u = 2 ∨ u = 3 ∨ u = 4 ∨ u = 5 ∨ u = 6 by omega) with rfl | rfl | rfl | rfl | rfl | rfl | rfl <;> (simp [mo_cn]; try omega)
def mo_pw (a : Int) : Nat → Int
  | 0 => 1
  | n + 1 => (a + 1) * mo_pw a n
theorem mo_pw_bd {a : Int} (h0 : 0 ≤ a) (h3 : a ≤ 3) (n : Nat) : 1 ≤ mo_pw a n ∧ mo_pw a n ≤ 4 ^ n := by
  induction n with
  | zero => exact ⟨Int.le_refl _, Int.le_refl _⟩
  | succ n ih =>
    simp only [mo_pw]; rw [Int.pow_succ]
    generalize mo_pw a n = w at ih ⊢
    generalize (4 : Int) ^ n = t at ih ⊢
    rcases (show a = 0 ∨ a = 1 ∨ a = 2 ∨ a = 3 by omega) with rfl | rfl | rfl | rfl <;> omega
theorem mo_pw6 {a n : Int} (h0 : 0 ≤ a) (h3 : a ≤ 3) (hn : 0 ≤ n ∧ n ≤ 6) : 1 ≤ mo_pw a n.toNat ∧ mo_pw a n.toNat ≤ 4096 := by
  have k := mo_pw_bd h0 h3 n.toNat
  refine ⟨k.1, Int.le_trans k.2 ?_⟩
  rcases (show n = 0 ∨ n = 1 ∨ n = 2 ∨ n = 3 ∨ n = 4 ∨ n = 5 ∨ n = 6 by omega) with rfl | rfl | rfl | rfl | rfl | rfl | rfl <;> decide
theorem zi_pw {x y z : Int32} {a n m : Int} (e : z = x * y) (hx : x.toInt = mo_pw a n.toNat) (hy : y.toInt = a + 1) (h0 : 0 ≤ a) (h3 : a ≤ 3) (hn : 0 ≤ n ∧ n ≤ 5) (hm : m = n + 1) : z.toInt = mo_pw a m.toNat := by
  subst hm
  have k := mo_pw6 h0 h3 (n := n) (by omega)
  rw [show (n + 1).toNat = n.toNat + 1 by omega]
  simp only [mo_pw]
  generalize mo_pw a n.toNat = w at hx k ⊢
  have b : 1 ≤ w * (a + 1) ∧ w * (a + 1) ≤ 16384 := by rcases (show a = 0 ∨ a = 1 ∨ a = 2 ∨ a = 3 by omega) with rfl | rfl | rfl | rfl <;> omega
  rw [zi_mul e hx hy (by omega) (by omega), Int.mul_comm]
theorem mo_last {L a W : Int} (h : L + 1 = (a + 1) * W) (h0 : 0 ≤ a) (h3 : a ≤ 3) : L % (a + 1) = a ∧ L / (a + 1) + 1 = W := by
  rcases (show a = 0 ∨ a = 1 ∨ a = 2 ∨ a = 3 by omega) with rfl | rfl | rfl | rfl <;> (constructor <;> simp <;> omega)
theorem mo_modr {L a : Int} (h0 : 0 ≤ a) : 0 ≤ L % (a + 1) ∧ L % (a + 1) ≤ a := ⟨Int.emod_nonneg _ (by omega), by have := Int.emod_lt_of_pos L (show 0 < a + 1 by omega); omega⟩
def mo_SBB (C S : Int → Int) (u a c : Int) : Prop := (∀ d, c < d → d < u → C d = -1 ∨ (0 ≤ C d ∧ C d < a)) ∧ ∀ s, 0 ≤ s → s < 3 → (0 ≤ S s ∧ S s < 64) ∧ ∀ d, 0 ≤ d → d < 6 → (mo_bt (S s) d ↔ (c < d ∧ d < u ∧ C d = s))
theorem mo_SBB.rf {C S : Int → Int} {u a c : Int} (hc : c = u - 1) (h : ∀ s, 0 ≤ s → s < 3 → S s = 0) : mo_SBB C S u a c :=
  ⟨fun d h0 h1 => by omega, fun s h0 h1 => by rw [h s h0 h1]; exact ⟨by omega, fun d _ _ => ⟨fun q => absurd q (mo_bt0 d), fun q => by omega⟩⟩⟩
theorem mo_SBB.yes {C C' S S' : Int → Int} {u a c c1 t i v : Int} (h : mo_SBB C S u a c) (hc : 0 ≤ c ∧ c < u ∧ u ≤ 6) (hC : ∀ j, 0 ≤ j → j ≠ c → C' j = C j) (hc' : C' c = t) (ht : 0 ≤ t ∧ t < a ∧ a ≤ 3) (hU : mo_U S S' i v) (hi : i = t) (hv : 0 ≤ v ∧ v < 64) (hb : ∀ d, 0 ≤ d → d < 6 → (mo_bt v d ↔ (mo_bt (S t) d ∨ d = c))) (h1 : c1 = c - 1) : mo_SBB C' S' u a c1 := by
  subst hi; subst h1
  refine ⟨fun d d0 d1 => ?_, fun s s0 s1 => ?_⟩
  · rcases (show d = c ∨ c < d by omega) with rfl | q
    · rw [hc']; omega
    · rw [hC d (by omega) (by omega)]; exact h.1 d q d1
  · obtain ⟨r, k⟩ := h.2 s s0 s1
    rcases hU.at s s0 with ⟨z, e⟩ | ⟨z, e⟩ <;> rw [e]
    · subst z
      refine ⟨hv, fun d d0 d1 => ?_⟩
      rw [hb d d0 d1, k d d0 d1]
      rcases (show d = c ∨ d ≠ c by omega) with rfl | q
      · rw [hc']; omega
      · rw [hC d d0 q]; omega
    · refine ⟨r, fun d d0 d1 => ?_⟩
      rw [k d d0 d1]
      rcases (show d = c ∨ d ≠ c by omega) with rfl | q
      · rw [hc']; omega
      · rw [hC d d0 q]; omega
theorem mo_SBB.no {C C' S : Int → Int} {u a c c1 : Int} (h : mo_SBB C S u a c) (hc : 0 ≤ c ∧ c < u ∧ u ≤ 6) (hC : ∀ j, 0 ≤ j → j ≠ c → C' j = C j) (hc' : C' c = -1) (h1 : c1 = c - 1) : mo_SBB C' S u a c1 := by
  subst h1
  refine ⟨fun d d0 d1 => ?_, fun s s0 s1 => ?_⟩
  · rcases (show d = c ∨ c < d by omega) with rfl | q
    · rw [hc']; omega
    · rw [hC d (by omega) (by omega)]; exact h.1 d q d1
  · obtain ⟨r, k⟩ := h.2 s s0 s1
    refine ⟨r, fun d d0 d1 => ?_⟩
    rw [k d d0 d1]
    rcases (show d = c ∨ d ≠ c by omega) with rfl | q
    · rw [hc']; omega
    · rw [hC d d0 q]; omega
def mo_BG (B L : Int → Int) (u a : Int) : Prop := (∀ d, 0 ≤ d → d < u → B d = -1 ∨ (0 ≤ B d ∧ B d < a)) ∧ ∀ s, 0 ≤ s → s < a → ∃ x, (0 ≤ x ∧ x < mo_P2 u ∧ x < 64) ∧ (∀ d, 0 ≤ d → d < 6 → (mo_bt x d ↔ (d < u ∧ B d = s))) ∧ L (64 * s + x) ≠ -2000000000000000
theorem mo_BG.of {B C S L : Int → Int} {u a : Int} (h : mo_SBB C S u a (-1)) (hu : 0 ≤ u ∧ u ≤ 6) (ha : a ≤ 3) (hB : ∀ d, 0 ≤ d → d < u → B d = C d) (hL : ∀ s, 0 ≤ s → s < a → L (64 * s + S s) ≠ -2000000000000000) : mo_BG B L u a := by
  refine ⟨fun d d0 d1 => by rw [hB d d0 d1]; exact h.1 d (by omega) d1, fun s s0 s1 => ?_⟩
  obtain ⟨r, k⟩ := h.2 s s0 (by omega)
  refine ⟨S s, ⟨r.1, mo_bt_P2 r.1 r.2 hu (fun d d0 d1 q => by have := (k d d0 d1).mp q; omega), r.2⟩, fun d d0 d1 => ?_, hL s s0 s1⟩
  rw [k d d0 d1]
  constructor
  · intro q; exact ⟨q.2.1, by rw [hB d d0 q.2.1]; exact q.2.2⟩
  · intro q; exact ⟨by omega, q.1, by rw [← hB d d0 q.1]; exact q.2⟩
def mo_TB (L A : Int → Int) (s k m : Int) : Prop := ∀ t x, 0 ≤ t → 0 ≤ x → x < m → (t < s ∨ (t = s ∧ x < k)) → (L (64 * t + x) ≠ -2000000000000000 → mo_GD (A (64 * t + x)) x) ∧ (x = 0 → L (64 * t + x) = 0)
theorem mo_TB.rf (L A : Int → Int) {s k m : Int} (hs : s = 0) (hk : k = 0) : mo_TB L A s k m := fun t x h0 h1 h2 h3 => by omega
theorem mo_TB.up {L L' A A' : Int → Int} {s k m i v w k1 : Int} (h : mo_TB L A s k m) (hL : mo_U L L' i v) (hA : mo_U A A' i w) (hi : i = 64 * s + k) (hm : m ≤ 64) (hk : 0 ≤ k ∧ k < m) (hs : 0 ≤ s) (h1 : v ≠ -2000000000000000 → mo_GD w k) (h2 : k = 0 → v = 0) (hk1 : k1 = k + 1) : mo_TB L' A' s k1 m := by
  subst hi; subst hk1
  intro t x t0 x0 x1 q
  rcases (show (t = s ∧ x = k) ∨ ¬ (t = s ∧ x = k) by omega) with ⟨rfl, rfl⟩ | z
  · rw [hL.eq (by omega), hA.eq (by omega)]; exact ⟨h1, h2⟩
  · rw [hL.ne (by omega) (by omega), hA.ne (by omega) (by omega)]; exact h t x t0 x0 x1 (by omega)
theorem mo_TB.nx {L A : Int → Int} {s k m s1 : Int} (h : mo_TB L A s k m) (hk : m ≤ k) (hs : s1 = s + 1) (k1 : Int) (hk1 : k1 = 0) : mo_TB L A s1 k1 m := by
  subst hs; subst hk1
  intro t x t0 x0 x1 q
  exact h t x t0 x0 x1 (by omega)
/-- the line of keepBest: places that were hit hold cargoes -/
def mo_KL (Ln : Int → Int) (y x c u : Int) : Prop := ∀ d, 0 ≤ d → d < c → mo_bt x d → 0 ≤ Ln (mo_pl y d) ∧ Ln (mo_pl y d) < u
theorem mo_KL.line {Ln : Int → Int} {y x c u n : Int} (h : mo_KL Ln y x c u) (hg : mo_GD y x) (hc : c = u) (hn : n = mo_cn x 6) (hx : ∀ d, 0 ≤ d → d < 6 → mo_bt x d → d < u) : ∀ j, 0 ≤ j → j < n → 0 ≤ Ln j ∧ Ln j < u := by
  subst hc; subst hn
  intro j j0 j1
  obtain ⟨d, d0, d1, hb, e⟩ := hg.2.2 j j0 j1
  have := h d d0 (hx d d0 d1 hb) hb
  rw [e] at this; exact this
theorem mo_KL.up {Ln Ln' : Int → Int} {y x c u i v c1 : Int} (h : mo_KL Ln y x c u) (hg : mo_GD y x) (hU : mo_U Ln Ln' i v) (hi : i = mo_pl y c) (hv : 0 ≤ v ∧ v < u) (hc : 0 ≤ c ∧ c < 6) (h1 : c1 = c + 1) : mo_KL Ln' y x c1 u := by
  subst h1; subst hi
  intro d d0 d1 hb
  have g := hg.2.1 d d0 (by omega) hb
  rcases hU.at (mo_pl y d) g.1 with ⟨z, e⟩ | ⟨z, e⟩ <;> rw [e]
  · exact hv
  · rcases (show d < c ∨ d = c by omega) with q | rfl
    · exact h d d0 q hb
    · exact absurd rfl z
theorem mo_KL.no {Ln : Int → Int} {y x c u c1 : Int} (h : mo_KL Ln y x c u) (hb : ¬ mo_bt x c) (h1 : c1 = c + 1) : mo_KL Ln y x c1 u := by
  subst h1
  intro d d0 d1 q
  rcases (show d < c ∨ d = c by omega) with z | rfl
  · exact h d d0 z q
  · exact absurd q hb
theorem zb_pl {x m y z : Int32} {C : Int} (e1 : y = x >>> (m &&& 31)) (e2 : z = y &&& 7) (hm : m.toInt = 3 * C) (hC : 0 ≤ C ∧ C < 6) (hx : 0 ≤ x.toInt ∧ x.toInt < 262144) : z.toInt = mo_pl x.toInt C := by
  have nx := zb_nat hx.1
  have em : m = Int32.ofNat (3 * C.toNat) := by
    apply Int32.toInt_inj.mp
    rw [hm, Int32.toInt_ofNat', zi_bm _ (by omega) (by omega)]; omega
  have key : z.toBitVec.toNat = x.toBitVec.toNat / 2 ^ (3 * C.toNat) % 8 := by
    rw [e2, Int32.toBitVec_and, BitVec.toNat_and, show ((7 : Int32).toBitVec.toNat) = 2 ^ 3 - 1 from rfl, Nat.and_two_pow_sub_one_eq_mod]
    have hy : y.toBitVec.toNat = x.toBitVec.toNat / 2 ^ (3 * C.toNat) := by
      rw [e1, Int32.toBitVec_shiftRight]
      have hs : (BitVec.smod (m &&& 31).toBitVec 32).toNat = 3 * C.toNat := by
        rcases (show C = 0 ∨ C = 1 ∨ C = 2 ∨ C = 3 ∨ C = 4 ∨ C = 5 by omega) with rfl | rfl | rfl | rfl | rfl | rfl <;> (rw [em]; decide)
      rw [BitVec.sshiftRight', hs, BitVec.sshiftRight_eq_of_msb_false (by rw [BitVec.msb_eq_decide]; simp; omega), BitVec.toNat_ushiftRight, Nat.shiftRight_eq_div_pow]
    rw [hy]
  have hb : z.toBitVec.toNat < 8 := by rw [key]; exact Nat.mod_lt _ (by decide)
  have nz := zb_nat (x := z) (zb_of (z := z) (k := 7) (by omega) (by decide)).1
  rw [nz, key, nx]
  rcases (show C = 0 ∨ C = 1 ∨ C = 2 ∨ C = 3 ∨ C = 4 ∨ C = 5 by omega) with rfl | rfl | rfl | rfl | rfl | rfl <;> (simp [mo_pl]; try omega)
end
section
theorem gX12_judge_X12_isShip : GoodIn WALL (wsV RX12 147 RX12 yX12_isShip wqX12_isShip) := wg_V wa_355 wa_356 wa_357 wa_5 wa_358
theorem gX12_judge_X12_isHour : GoodIn WALL (va_wsS RX12 144 yX12_isHour wqX12_isHour) := wg_S wa_351 wa_352 wa_5 wa_353
theorem gX12_judge_X12_in : GoodIn WALL (va_wsS RX12 99 yX12_in wqX12_in) := wg_S wa_213 wa_214 wa_5 wa_215
theorem gX12_judge_X12_sailRow : GoodIn WALL (wsV RX12 519 RX12 yX12_sailRow wqX12_sailRow) := wg_V wa_1424 wa_1425 wa_1426 wa_5 wa_1427
theorem dX12_judge_0 : decode cX12_judge 0 = .ok (.aload_n 0, 1) := od_42  (by decide +kernel)
theorem dX12_judge_1 : decode cX12_judge 1 = .ok (.iconst 0, 1) := od_3  (by decide +kernel)
theorem dX12_judge_2 : decode cX12_judge 2 = .ok (.putfield 91, 3) := od_181 (a := 0) (b := 91) (by decide +kernel) (by decide)
theorem dX12_judge_5 : decode cX12_judge 5 = .ok (.aload_n 0, 1) := od_42  (by decide +kernel)
theorem dX12_judge_6 : decode cX12_judge 6 = .ok (.iload_n 1, 1) := od_27  (by decide +kernel)
theorem dX12_judge_7 : decode cX12_judge 7 = .ok (.invokevirtual 147, 3) := od_182 (a := 0) (b := 147) (by decide +kernel) (by decide)
theorem dX12_judge_10 : decode cX12_judge 10 = .ok (.ifCond .eq 11, 3) := od_153 (a := 0) (b := 11) (by decide +kernel) (by decide +kernel)
theorem dX12_judge_13 : decode cX12_judge 13 = .ok (.iload 5, 2) := od_21 (n := 5) (by decide +kernel)
theorem dX12_judge_15 : decode cX12_judge 15 = .ok (.invokestatic 144, 3) := od_184 (a := 0) (b := 144) (by decide +kernel) (by decide)
theorem dX12_judge_18 : decode cX12_judge 18 = .ok (.ifCond .ne 7, 3) := od_154 (a := 0) (b := 7) (by decide +kernel) (by decide +kernel)
theorem dX12_judge_21 : decode cX12_judge 21 = .ok (.ldc2_w 466, 3) := od_20 (a := 1) (b := 210) (by decide +kernel) (by decide)
theorem dX12_judge_24 : decode cX12_judge 24 = .ok (.lreturn, 1) := od_173  (by decide +kernel)
theorem dX12_judge_25 : decode cX12_judge 25 = .ok (.aload_n 0, 1) := od_42  (by decide +kernel)
theorem dX12_judge_26 : decode cX12_judge 26 = .ok (.getfield 64, 3) := od_180 (a := 0) (b := 64) (by decide +kernel) (by decide)
theorem dX12_judge_29 : decode cX12_judge 29 = .ok (.iconst 0, 1) := od_3  (by decide +kernel)
theorem dX12_judge_30 : decode cX12_judge 30 = .ok (.iload_n 2, 1) := od_28  (by decide +kernel)
theorem dX12_judge_31 : decode cX12_judge 31 = .ok (.iastore, 1) := od_79  (by decide +kernel)
theorem dX12_judge_32 : decode cX12_judge 32 = .ok (.aload_n 0, 1) := od_42  (by decide +kernel)
theorem dX12_judge_33 : decode cX12_judge 33 = .ok (.getfield 64, 3) := od_180 (a := 0) (b := 64) (by decide +kernel) (by decide)
theorem dX12_judge_36 : decode cX12_judge 36 = .ok (.iconst 1, 1) := od_4  (by decide +kernel)
theorem dX12_judge_37 : decode cX12_judge 37 = .ok (.iload_n 3, 1) := od_29  (by decide +kernel)
theorem dX12_judge_38 : decode cX12_judge 38 = .ok (.iastore, 1) := od_79  (by decide +kernel)
theorem dX12_judge_39 : decode cX12_judge 39 = .ok (.aload_n 0, 1) := od_42  (by decide +kernel)
theorem dX12_judge_40 : decode cX12_judge 40 = .ok (.getfield 64, 3) := od_180 (a := 0) (b := 64) (by decide +kernel) (by decide)
theorem dX12_judge_43 : decode cX12_judge 43 = .ok (.iconst 2, 1) := od_5  (by decide +kernel)
theorem dX12_judge_44 : decode cX12_judge 44 = .ok (.iload 4, 2) := od_21 (n := 4) (by decide +kernel)
theorem dX12_judge_46 : decode cX12_judge 46 = .ok (.iastore, 1) := od_79  (by decide +kernel)
theorem dX12_judge_47 : decode cX12_judge 47 = .ok (.iload_n 2, 1) := od_28  (by decide +kernel)
theorem dX12_judge_48 : decode cX12_judge 48 = .ok (.iconst (-1), 1) := od_2  (by decide +kernel)
theorem dX12_judge_49 : decode cX12_judge 49 = .ok (.if_icmp .ne 7, 3) := od_160 (a := 0) (b := 7) (by decide +kernel) (by decide +kernel)
theorem dX12_judge_52 : decode cX12_judge 52 = .ok (.iconst 0, 1) := od_3  (by decide +kernel)
theorem dX12_judge_53 : decode cX12_judge 53 = .ok (.goto 23, 3) := od_167 (a := 0) (b := 23) (by decide +kernel) (by decide +kernel)
theorem dX12_judge_56 : decode cX12_judge 56 = .ok (.iload_n 3, 1) := od_29  (by decide +kernel)
theorem dX12_judge_57 : decode cX12_judge 57 = .ok (.iconst (-1), 1) := od_2  (by decide +kernel)
theorem dX12_judge_58 : decode cX12_judge 58 = .ok (.if_icmp .ne 7, 3) := od_160 (a := 0) (b := 7) (by decide +kernel) (by decide +kernel)
theorem dX12_judge_61 : decode cX12_judge 61 = .ok (.iconst 1, 1) := od_4  (by decide +kernel)
theorem dX12_judge_62 : decode cX12_judge 62 = .ok (.goto 14, 3) := od_167 (a := 0) (b := 14) (by decide +kernel) (by decide +kernel)
theorem dX12_judge_65 : decode cX12_judge 65 = .ok (.iload 4, 2) := od_21 (n := 4) (by decide +kernel)
theorem dX12_judge_67 : decode cX12_judge 67 = .ok (.iconst (-1), 1) := od_2  (by decide +kernel)
theorem dX12_judge_68 : decode cX12_judge 68 = .ok (.if_icmp .ne 7, 3) := od_160 (a := 0) (b := 7) (by decide +kernel) (by decide +kernel)
theorem dX12_judge_71 : decode cX12_judge 71 = .ok (.iconst 2, 1) := od_5  (by decide +kernel)
theorem dX12_judge_72 : decode cX12_judge 72 = .ok (.goto 4, 3) := od_167 (a := 0) (b := 4) (by decide +kernel) (by decide +kernel)
theorem dX12_judge_75 : decode cX12_judge 75 = .ok (.iconst 3, 1) := od_6  (by decide +kernel)
theorem dX12_judge_76 : decode cX12_judge 76 = .ok (.istore 6, 2) := od_54 (n := 6) (by decide +kernel)
theorem dX12_judge_78 : decode cX12_judge 78 = .ok (.iconst 0, 1) := od_3  (by decide +kernel)
theorem dX12_judge_79 : decode cX12_judge 79 = .ok (.istore 7, 2) := od_54 (n := 7) (by decide +kernel)
theorem dX12_judge_81 : decode cX12_judge 81 = .ok (.iload 7, 2) := od_21 (n := 7) (by decide +kernel)
theorem dX12_judge_83 : decode cX12_judge 83 = .ok (.iload 6, 2) := od_21 (n := 6) (by decide +kernel)
theorem dX12_judge_85 : decode cX12_judge 85 = .ok (.if_icmp .ge 75, 3) := od_162 (a := 0) (b := 75) (by decide +kernel) (by decide +kernel)
theorem dX12_judge_88 : decode cX12_judge 88 = .ok (.iconst 0, 1) := od_3  (by decide +kernel)
theorem dX12_judge_89 : decode cX12_judge 89 = .ok (.istore 8, 2) := od_54 (n := 8) (by decide +kernel)
theorem dX12_judge_91 : decode cX12_judge 91 = .ok (.iload 8, 2) := od_21 (n := 8) (by decide +kernel)
theorem dX12_judge_93 : decode cX12_judge 93 = .ok (.iload 7, 2) := od_21 (n := 7) (by decide +kernel)
theorem dX12_judge_95 : decode cX12_judge 95 = .ok (.if_icmp .ge 30, 3) := od_162 (a := 0) (b := 30) (by decide +kernel) (by decide +kernel)
theorem dX12_judge_98 : decode cX12_judge 98 = .ok (.aload_n 0, 1) := od_42  (by decide +kernel)
theorem dX12_judge_99 : decode cX12_judge 99 = .ok (.getfield 64, 3) := od_180 (a := 0) (b := 64) (by decide +kernel) (by decide)
theorem dX12_judge_102 : decode cX12_judge 102 = .ok (.iload 7, 2) := od_21 (n := 7) (by decide +kernel)
theorem dX12_judge_104 : decode cX12_judge 104 = .ok (.iaload, 1) := od_46  (by decide +kernel)
theorem dX12_judge_105 : decode cX12_judge 105 = .ok (.aload_n 0, 1) := od_42  (by decide +kernel)
theorem dX12_judge_106 : decode cX12_judge 106 = .ok (.getfield 64, 3) := od_180 (a := 0) (b := 64) (by decide +kernel) (by decide)
theorem dX12_judge_109 : decode cX12_judge 109 = .ok (.iload 8, 2) := od_21 (n := 8) (by decide +kernel)
theorem dX12_judge_111 : decode cX12_judge 111 = .ok (.iaload, 1) := od_46  (by decide +kernel)
theorem dX12_judge_112 : decode cX12_judge 112 = .ok (.if_icmp .ne 7, 3) := od_160 (a := 0) (b := 7) (by decide +kernel) (by decide +kernel)
theorem dX12_judge_115 : decode cX12_judge 115 = .ok (.ldc2_w 466, 3) := od_20 (a := 1) (b := 210) (by decide +kernel) (by decide)
theorem dX12_judge_118 : decode cX12_judge 118 = .ok (.lreturn, 1) := od_173  (by decide +kernel)
theorem dX12_judge_119 : decode cX12_judge 119 = .ok (.iinc 8 1, 3) := od_132 (a := 8) (b := 1) (by decide +kernel) (by decide +kernel)
theorem dX12_judge_122 : decode cX12_judge 122 = .ok (.goto (-31), 3) := od_167 (a := 255) (b := 225) (by decide +kernel) (by decide +kernel)
theorem dX12_judge_125 : decode cX12_judge 125 = .ok (.aload_n 0, 1) := od_42  (by decide +kernel)
theorem dX12_judge_126 : decode cX12_judge 126 = .ok (.getfield 64, 3) := od_180 (a := 0) (b := 64) (by decide +kernel) (by decide)
theorem dX12_judge_129 : decode cX12_judge 129 = .ok (.iload 7, 2) := od_21 (n := 7) (by decide +kernel)
theorem dX12_judge_131 : decode cX12_judge 131 = .ok (.iaload, 1) := od_46  (by decide +kernel)
theorem dX12_judge_132 : decode cX12_judge 132 = .ok (.i2l, 1) := od_133  (by decide +kernel)
theorem dX12_judge_133 : decode cX12_judge 133 = .ok (.lconst 0, 1) := od_9  (by decide +kernel)
theorem dX12_judge_134 : decode cX12_judge 134 = .ok (.aload_n 0, 1) := od_42  (by decide +kernel)
theorem dX12_judge_135 : decode cX12_judge 135 = .ok (.getfield 7, 3) := od_180 (a := 0) (b := 7) (by decide +kernel) (by decide)
theorem dX12_judge_138 : decode cX12_judge 138 = .ok (.bipush 10, 2) := od_16 (a := 10) (by decide +kernel) (by decide +kernel)
theorem dX12_judge_140 : decode cX12_judge 140 = .ok (.iaload, 1) := od_46  (by decide +kernel)
theorem dX12_judge_141 : decode cX12_judge 141 = .ok (.i2l, 1) := od_133  (by decide +kernel)
theorem dX12_judge_142 : decode cX12_judge 142 = .ok (.lconst 1, 1) := od_10  (by decide +kernel)
theorem dX12_judge_143 : decode cX12_judge 143 = .ok (.lsub, 1) := od_101  (by decide +kernel)
theorem dX12_judge_144 : decode cX12_judge 144 = .ok (.invokestatic 99, 3) := od_184 (a := 0) (b := 99) (by decide +kernel) (by decide)
theorem dX12_judge_147 : decode cX12_judge 147 = .ok (.ifCond .ne 7, 3) := od_154 (a := 0) (b := 7) (by decide +kernel) (by decide +kernel)
theorem dX12_judge_150 : decode cX12_judge 150 = .ok (.ldc2_w 466, 3) := od_20 (a := 1) (b := 210) (by decide +kernel) (by decide)
theorem dX12_judge_153 : decode cX12_judge 153 = .ok (.lreturn, 1) := od_173  (by decide +kernel)
theorem dX12_judge_154 : decode cX12_judge 154 = .ok (.iinc 7 1, 3) := od_132 (a := 7) (b := 1) (by decide +kernel) (by decide +kernel)
theorem dX12_judge_157 : decode cX12_judge 157 = .ok (.goto (-76), 3) := od_167 (a := 255) (b := 180) (by decide +kernel) (by decide +kernel)
theorem dX12_judge_160 : decode cX12_judge 160 = .ok (.aload_n 0, 1) := od_42  (by decide +kernel)
theorem dX12_judge_161 : decode cX12_judge 161 = .ok (.iload_n 1, 1) := od_27  (by decide +kernel)
theorem dX12_judge_162 : decode cX12_judge 162 = .ok (.iload 6, 2) := od_21 (n := 6) (by decide +kernel)
theorem dX12_judge_164 : decode cX12_judge 164 = .ok (.iload 5, 2) := od_21 (n := 5) (by decide +kernel)
theorem dX12_judge_166 : decode cX12_judge 166 = .ok (.invokevirtual 519, 3) := od_182 (a := 2) (b := 7) (by decide +kernel) (by decide)
theorem dX12_judge_169 : decode cX12_judge 169 = .ok (.lreturn, 1) := od_173  (by decide +kernel)
theorem dX12_share_0 : decode cX12_share 0 = .ok (.iconst 0, 1) := od_3  (by decide +kernel)
theorem dX12_share_1 : decode cX12_share 1 = .ok (.istore 4, 2) := od_54 (n := 4) (by decide +kernel)
theorem dX12_share_3 : decode cX12_share 3 = .ok (.iload 4, 2) := od_21 (n := 4) (by decide +kernel)
theorem dX12_share_5 : decode cX12_share 5 = .ok (.iconst 3, 1) := od_6  (by decide +kernel)
theorem dX12_share_6 : decode cX12_share 6 = .ok (.if_icmp .ge 17, 3) := od_162 (a := 0) (b := 17) (by decide +kernel) (by decide +kernel)
theorem dX12_share_9 : decode cX12_share 9 = .ok (.aload_n 0, 1) := od_42  (by decide +kernel)
theorem dX12_share_10 : decode cX12_share 10 = .ok (.getfield 88, 3) := od_180 (a := 0) (b := 88) (by decide +kernel) (by decide)
theorem dX12_share_13 : decode cX12_share 13 = .ok (.iload 4, 2) := od_21 (n := 4) (by decide +kernel)
theorem dX12_share_15 : decode cX12_share 15 = .ok (.iconst 0, 1) := od_3  (by decide +kernel)
theorem dX12_share_16 : decode cX12_share 16 = .ok (.iastore, 1) := od_79  (by decide +kernel)
theorem dX12_share_17 : decode cX12_share 17 = .ok (.iinc 4 1, 3) := od_132 (a := 4) (b := 1) (by decide +kernel) (by decide +kernel)
theorem dX12_share_20 : decode cX12_share 20 = .ok (.goto (-17), 3) := od_167 (a := 255) (b := 239) (by decide +kernel) (by decide +kernel)
theorem dX12_share_23 : decode cX12_share 23 = .ok (.iload_n 1, 1) := od_27  (by decide +kernel)
theorem dX12_share_24 : decode cX12_share 24 = .ok (.istore 4, 2) := od_54 (n := 4) (by decide +kernel)
theorem dX12_share_26 : decode cX12_share 26 = .ok (.iconst 0, 1) := od_3  (by decide +kernel)
theorem dX12_share_27 : decode cX12_share 27 = .ok (.istore 5, 2) := od_54 (n := 5) (by decide +kernel)
theorem dX12_share_29 : decode cX12_share 29 = .ok (.iload_n 2, 1) := od_28  (by decide +kernel)
theorem dX12_share_30 : decode cX12_share 30 = .ok (.iconst 1, 1) := od_4  (by decide +kernel)
theorem dX12_share_31 : decode cX12_share 31 = .ok (.isub, 1) := od_100  (by decide +kernel)
theorem dX12_share_32 : decode cX12_share 32 = .ok (.istore 6, 2) := od_54 (n := 6) (by decide +kernel)
theorem dX12_share_34 : decode cX12_share 34 = .ok (.iload 6, 2) := od_21 (n := 6) (by decide +kernel)
theorem dX12_share_36 : decode cX12_share 36 = .ok (.ifCond .lt 74, 3) := od_155 (a := 0) (b := 74) (by decide +kernel) (by decide +kernel)
theorem dX12_share_39 : decode cX12_share 39 = .ok (.aload_n 0, 1) := od_42  (by decide +kernel)
theorem dX12_share_40 : decode cX12_share 40 = .ok (.getfield 85, 3) := od_180 (a := 0) (b := 85) (by decide +kernel) (by decide)
theorem dX12_share_43 : decode cX12_share 43 = .ok (.iload 6, 2) := od_21 (n := 6) (by decide +kernel)
theorem dX12_share_45 : decode cX12_share 45 = .ok (.iload 4, 2) := od_21 (n := 4) (by decide +kernel)
theorem dX12_share_47 : decode cX12_share 47 = .ok (.iload_n 3, 1) := od_29  (by decide +kernel)
theorem dX12_share_48 : decode cX12_share 48 = .ok (.iconst 1, 1) := od_4  (by decide +kernel)
theorem dX12_share_49 : decode cX12_share 49 = .ok (.iadd, 1) := od_96  (by decide +kernel)
theorem dX12_share_50 : decode cX12_share 50 = .ok (.irem, 1) := od_112  (by decide +kernel)
theorem dX12_share_51 : decode cX12_share 51 = .ok (.iastore, 1) := od_79  (by decide +kernel)
theorem dX12_share_52 : decode cX12_share 52 = .ok (.iload 4, 2) := od_21 (n := 4) (by decide +kernel)
theorem dX12_share_54 : decode cX12_share 54 = .ok (.iload_n 3, 1) := od_29  (by decide +kernel)
theorem dX12_share_55 : decode cX12_share 55 = .ok (.iconst 1, 1) := od_4  (by decide +kernel)
theorem dX12_share_56 : decode cX12_share 56 = .ok (.iadd, 1) := od_96  (by decide +kernel)
theorem dX12_share_57 : decode cX12_share 57 = .ok (.idiv, 1) := od_108  (by decide +kernel)
theorem dX12_share_58 : decode cX12_share 58 = .ok (.istore 4, 2) := od_54 (n := 4) (by decide +kernel)
theorem dX12_share_60 : decode cX12_share 60 = .ok (.aload_n 0, 1) := od_42  (by decide +kernel)
theorem dX12_share_61 : decode cX12_share 61 = .ok (.getfield 85, 3) := od_180 (a := 0) (b := 85) (by decide +kernel) (by decide)
theorem dX12_share_64 : decode cX12_share 64 = .ok (.iload 6, 2) := od_21 (n := 6) (by decide +kernel)
theorem dX12_share_66 : decode cX12_share 66 = .ok (.iaload, 1) := od_46  (by decide +kernel)
theorem dX12_share_67 : decode cX12_share 67 = .ok (.iload_n 3, 1) := od_29  (by decide +kernel)
theorem dX12_share_68 : decode cX12_share 68 = .ok (.if_icmp .ge 28, 3) := od_162 (a := 0) (b := 28) (by decide +kernel) (by decide +kernel)
theorem dX12_share_71 : decode cX12_share 71 = .ok (.aload_n 0, 1) := od_42  (by decide +kernel)
theorem dX12_share_72 : decode cX12_share 72 = .ok (.getfield 88, 3) := od_180 (a := 0) (b := 88) (by decide +kernel) (by decide)
theorem dX12_share_75 : decode cX12_share 75 = .ok (.aload_n 0, 1) := od_42  (by decide +kernel)
theorem dX12_share_76 : decode cX12_share 76 = .ok (.getfield 85, 3) := od_180 (a := 0) (b := 85) (by decide +kernel) (by decide)
theorem dX12_share_79 : decode cX12_share 79 = .ok (.iload 6, 2) := od_21 (n := 6) (by decide +kernel)
theorem dX12_share_81 : decode cX12_share 81 = .ok (.iaload, 1) := od_46  (by decide +kernel)
theorem dX12_share_82 : decode cX12_share 82 = .ok (.dup2, 1) := od_92  (by decide +kernel)
theorem dX12_share_83 : decode cX12_share 83 = .ok (.iaload, 1) := od_46  (by decide +kernel)
theorem dX12_share_84 : decode cX12_share 84 = .ok (.iconst 1, 1) := od_4  (by decide +kernel)
theorem dX12_share_85 : decode cX12_share 85 = .ok (.iload 6, 2) := od_21 (n := 6) (by decide +kernel)
theorem dX12_share_87 : decode cX12_share 87 = .ok (.ishl, 1) := od_120  (by decide +kernel)
theorem dX12_share_88 : decode cX12_share 88 = .ok (.ior, 1) := od_128  (by decide +kernel)
theorem dX12_share_89 : decode cX12_share 89 = .ok (.iastore, 1) := od_79  (by decide +kernel)
theorem dX12_share_90 : decode cX12_share 90 = .ok (.iinc 5 1, 3) := od_132 (a := 5) (b := 1) (by decide +kernel) (by decide +kernel)
theorem dX12_share_93 : decode cX12_share 93 = .ok (.goto 11, 3) := od_167 (a := 0) (b := 11) (by decide +kernel) (by decide +kernel)
theorem dX12_share_96 : decode cX12_share 96 = .ok (.aload_n 0, 1) := od_42  (by decide +kernel)
theorem dX12_share_97 : decode cX12_share 97 = .ok (.getfield 85, 3) := od_180 (a := 0) (b := 85) (by decide +kernel) (by decide)
theorem dX12_share_100 : decode cX12_share 100 = .ok (.iload 6, 2) := od_21 (n := 6) (by decide +kernel)
theorem dX12_share_102 : decode cX12_share 102 = .ok (.iconst (-1), 1) := od_2  (by decide +kernel)
theorem dX12_share_103 : decode cX12_share 103 = .ok (.iastore, 1) := od_79  (by decide +kernel)
theorem dX12_share_104 : decode cX12_share 104 = .ok (.iinc 6 (-1), 3) := od_132 (a := 6) (b := 255) (by decide +kernel) (by decide +kernel)
theorem dX12_share_107 : decode cX12_share 107 = .ok (.goto (-73), 3) := od_167 (a := 255) (b := 183) (by decide +kernel) (by decide +kernel)
theorem dX12_share_110 : decode cX12_share 110 = .ok (.iload 5, 2) := od_21 (n := 5) (by decide +kernel)
theorem dX12_share_112 : decode cX12_share 112 = .ok (.ireturn, 1) := od_172  (by decide +kernel)
end
