set_option maxHeartbeats 4000000 in
set_option maxRecDepth 100000 in
theorem t_X12_best (l : Launch) (dC : Nat → ClassId) (dI : Nat → Nat → Nat) (sz : Nat) (κ : Nat → ClassId) (τ ν : Nat → Nat) (ρ : Nat → Nat → Nat) (L : List Nat) (f : Nat → va_E) (hG : tp_G τ ν ρ L) (hT : tp_T (mo_O κ) κ τ ν ρ f) (h0 : Nat) (v : Int32) (ht_h0 : τ h0 = 13) (hJ : mo_RI (-1) 0 (mo_R (mo_i (f (ρ h0 2))))) : Met l yX12_best wqX12_best ({ frames := 9, cells := 0, slots := 0, locals := 3200 }) (va_Pc [.ref h0, .int v] (pz_B dC dI (tp_K κ) (va_pl L f) sz)) (va_Ql (fun (r : Int64) (f1 : Nat → va_E) => tp_T (mo_O κ) κ τ ν ρ f1 ∧ tp_F τ [13, 69, 70, 71, 72, 73, 74, 75, 76, 79, 80, 81, 82] f f1 ∧ True ∧ True) (fun (f1 : Nat → va_E) (t : State) => pz_E dC dI (tp_K κ) (va_A (va_pl L f) sz) (va_pl L f1) t) (va_A (va_pl L f) sz)) 0 0 (va_A (va_pl L f) sz) := by
  refine Met.ofW (cc := cX12_best) (maxL := 15) (ret := some .long) (by decide) rfl ?_
  intro p e s m args below meth c s₁ B hml hv
  obtain ⟨rfl, hsz, hP, hK, hD0, hN⟩ := hv
  have hx := B.exec
  have hb := B.bytes
  have hr := B.returns
  have hts := fun (w : Cond) (h : w ∈ WALL) => atoms_spec (ws := wqX12_best) B.pre w (List.mem_cons_of_mem _ h)
  have hown : s.vm.findClass RX12 = some m.cls := findClass_of_methodNamed B.named
  have hlocks := B.notSynchronized
  subst hsz
  have hD := hD0.self (sz := s.heap.size)
  generalize hAe : va_A (va_pl L f) s.heap.size = A at hD ⊢
  have hA : ∀ q : Nat, s.heap.size ≤ q → A q := fun q h => by rw [← hAe]; exact Or.inr h
  have hS : va_S A s.heap s.heap [] := va_S.rf
  have hR : tp_F τ [13, 69, 70, 71, 72, 73, 74, 75, 76, 79, 80, 81, 82] f f := tp_F.rf
  have hl := lv_entry ([.ref h0, .int v]) (n := 15) (Nat.le_of_ble_eq_true rfl)
  rw [lg_entry_eq]
  generalize (lg_sl ([.ref h0, .int v]) ++ List.replicate (15 - (lg_sl ([.ref h0, .int v])).length) Slot.unset).toArray = ls at hl ⊢
  have hl : lv_has ls 15 [(0, .ref h0), (1, .int v)] := hl
  obtain ⟨y1, y2, y3, y4, y5, y6, y7, y8, y9, y10, y11, y12, y13, y14, y15, y16, y17, y18, y19, y20, y21, y22, y23, y24, y25⟩ := tpg_13 hG ht_h0
  obtain ⟨g27, hf_o26⟩ := tpo_32 hT y1
  have hI : mo_RI (-1) 0 (mo_R g27) := by have q9 := hJ; rw [hf_o26, mo_i1] at q9; exact q9
  refine lv_aload_n hx hb dX12_best_0 rfl (lv_at hl 0 rfl) ?_
  refine lv_iconst (v := 0) hx hb dX12_best_1 (by decide) ?_
  obtain ⟨o28_x0, o28_x1, o28_x7, o28_x9, o28_x10, o28_x11, o28_x12, o28_x13, o28_x14, o28_x15, o28_x16, o28_x17, o28_x18, o28_x19, o28_x20, o28_x22, o28_x25, o28_x28, o28_x29, o28_x32, o28_x33, o28_x34, o28_x35, o28_x36, o28_x37, o28_x38, o28_x47, o28_x48, hf_o28, ro28_0, ro28_1, ro28_2, ro28_3, ro28_4, ro28_5, ro28_6, ro28_7, ro28_8, ro28_9, ro28_10, ro28_11, ro28_12, ro28_13⟩ := tpo_13 hT ht_h0
  obtain ⟨q29, eq29⟩ := tp_pos (tp_in hG ht_h0 (by decide)) hf_o28
  refine va_put (D := (dC, dI)) (ci := 12) (v := .int 0) (ty := .int) (C := RX12) (T := TX12) (N := 53) hx hb hts hfX12 tyX12 tyX12_ok nmX12 hown hK hP hD hS q29 eq29 rfl 0 (by decide) (hts (.fieldLink RX12 91 "ColdShipsModel" "thrown" "I") wa_209) (fun _ h9 => h9) rfl (tyX12_ok 0 (by decide)) rfl rfl (Nat.le_of_ble_eq_true rfl) dX12_best_2 (tp_k (.inr (12, [.int 0, .int o28_x1, .ref (ρ h0 2), .ref (ρ h0 3), .ref (ρ h0 4), .ref (ρ h0 5), .ref (ρ h0 6), .int o28_x7, .ref (ρ h0 8), .int o28_x9, .int o28_x10, .int o28_x11, .int o28_x12, .long o28_x13, .int o28_x14, .int o28_x15, .int o28_x16, .int o28_x17, .int o28_x18, .int o28_x19, .int o28_x20, .ref (ρ h0 21), .int o28_x22, .ref (ρ h0 23), .ref (ρ h0 24), .int o28_x25, .ref (ρ h0 26), .ref (ρ h0 27), .int o28_x28, .int o28_x29, .ref (ρ h0 30), .ref (ρ h0 31), .int o28_x32, .long o28_x33, .long o28_x34, .long o28_x35, .int o28_x36, .int o28_x37, .int o28_x38, .ref (ρ h0 39), .ref (ρ h0 40), .ref (ρ h0 41), .ref (ρ h0 42), .ref (ρ h0 43), .ref (ρ h0 44), .ref (ρ h0 45), .ref (ρ h0 46), .int o28_x47, .int o28_x48, .ref (ρ h0 49), .ref (ρ h0 50), .ref (ρ h0 51), .ref (ρ h0 52)])) hD (tp_in hG ht_h0 (by decide)) eq29 (fun f30 H locs hP hD hS g32 k31 => ?_))
  have hT := hT.up ht_h0 g32 k31 ⟨_, _, _, _, _, _, _, _, _, _, _, _, _, _, _, _, _, _, _, _, _, _, _, _, _, _, _, _, rfl, ro28_0, ro28_1, ro28_2, ro28_3, ro28_4, ro28_5, ro28_6, ro28_7, ro28_8, ro28_9, ro28_10, ro28_11, ro28_12, ro28_13⟩
  have hR := hR.up ht_h0 (by decide) k31
  refine lv_iload_n hx hb dX12_best_5 rfl (lv_at hl 1 rfl) ?_
  have hf_33 : f30 (ρ h0 2) = .inl (κ 0, 12967, .inl g27) := (k31 _ (tp_ne y1 ht_h0 (by decide))).trans hf_o26
  refine pz_calli (va_runS (As := [.int v]) (rest := []) ⟨hx, hb, hml, hown, hts⟩ (t_X12_isHour l dC dI _ v (v.toInt) rfl) (va_cwS 1 hts gX12_best_X12_isHour rfl rfl rfl pd_X12_isHour ⟨Nat.le_of_ble_eq_true rfl, Nat.le_of_ble_eq_true rfl⟩) ⟨pz_blind, pz_pre pz_P0 (hK.sub (tys' := []) [] rfl) (pz_D0 (A := fun _ => True)) hN⟩ rfl rfl hl.1 rfl (lv_room (Nat.le_of_ble_eq_true rfl)) dX12_best_6 ⟨Nat.le_of_ble_eq_true rfl, Nat.le_of_ble_eq_true rfl⟩) (fun r34 hw35 => ?_)
  obtain ⟨hw35r, hw35p⟩ := hw35
  refine lv_if_ne (tgt := 16) hx hb dX12_best_9 (by decide) (fun c36 => ?_) (fun c36 => ?_)
  · have ic36 : r34.toInt ≠ 0 := zi_ne rfl rfl c36
    have p37 : 0 ≤ (v.toInt) ∧ (v.toInt) ≤ 2399 := (tp_cond.yes hw35p) (by omega)
    refine lv_aload_n hx hb dX12_best_16 rfl (lv_at hl 0 rfl) ?_
    obtain ⟨q38, eq38⟩ := tp_pos (tp_in hG ht_h0 (by decide)) g32
    refine va_get (D := (dC, dI)) (ci := 12) (v := .ref (ρ h0 2)) (C := RX12) (T := TX12) (N := 53) hx hb hts hfX12 hown hK hP q38 eq38 rfl 2 (by decide) (hts (.fieldLink RX12 7 "ColdShipsModel" "row" "[I") wa_148) (fun _ h9 => h9) rfl dX12_best_17 ?_
    refine lv_bipush (v := 10) hx hb dX12_best_20 (by decide) ?_
    obtain ⟨q39, eq39⟩ := tp_pos (tp_in hG y1 (by decide)) hf_33
    refine va_iald hx hb hK hP q39 0 eq39 rfl (vp_in_iff.mpr ⟨by decide, by decide⟩) dX12_best_22 ?_
    refine lv_topi (fun z40 ez40 => ?_)
    have jz40 : z40.toInt = mo_R g27 (10) := mo_rd ez40 (show (10 : Int32).toInt = (10) from by decide)
    have kz40 := hI.k10
    refine lv_istore_n (lv' := [(2, .int z40), (0, .ref h0), (1, .int v)]) hx hb dX12_best_23 rfl hl (by decide) rfl (fun ls hl => ?_)
    refine lv_iconst (v := 3) hx hb dX12_best_24 (by decide) ?_
    refine lv_aload_n hx hb dX12_best_25 rfl (lv_at hl 1 rfl) ?_
    refine va_get (D := (dC, dI)) (ci := 12) (v := .ref (ρ h0 2)) (C := RX12) (T := TX12) (N := 53) hx hb hts hfX12 hown hK hP q38 eq38 rfl 2 (by decide) (hts (.fieldLink RX12 7 "ColdShipsModel" "row" "[I") wa_148) (fun _ h9 => h9) rfl dX12_best_26 ?_
    refine lv_iconst (v := 1) hx hb dX12_best_29 (by decide) ?_
    refine va_iald hx hb hK hP q39 0 eq39 rfl (vp_in_iff.mpr ⟨by decide, by decide⟩) dX12_best_30 ?_
    refine lv_topi (fun z41 ez41 => ?_)
    have jz41 : z41.toInt = mo_R g27 (1) := mo_rd ez41 (show (1 : Int32).toInt = (1) from by decide)
    have kz41 := hI.k1
    refine pz_calli (va_runS (As := [.int 3, .int z41]) (rest := []) ⟨hx, hb, hml, hown, hts⟩ (t_X12_lesser l dC dI _ (3) z41 (3) (z41.toInt) rfl rfl) (va_cwS 2 hts gX12_best_X12_lesser rfl rfl rfl pd_X12_lesser ⟨Nat.le_of_ble_eq_true rfl, Nat.le_of_ble_eq_true rfl⟩) ⟨pz_blind, pz_pre pz_P0 (hK.sub (tys' := []) [] rfl) (pz_D0 (A := fun _ => True)) hN⟩ rfl rfl hl.1 rfl (lv_room (Nat.le_of_ble_eq_true rfl)) dX12_best_31 ⟨Nat.le_of_ble_eq_true rfl, Nat.le_of_ble_eq_true rfl⟩) (fun r42 hw43 => ?_)
    obtain ⟨hw43r, hw43p⟩ := hw43
    refine lv_istore_n (lv' := [(3, .int r42), (2, .int z40), (0, .ref h0), (1, .int v)]) hx hb dX12_best_34 rfl hl (by decide) rfl (fun ls hl => ?_)
    refine lv_iconst (v := 0) hx hb dX12_best_35 (by decide) ?_
    refine lv_istore (lv' := [(4, .int 0), (3, .int r42), (2, .int z40), (0, .ref h0), (1, .int v)]) hx hb dX12_best_36 hl (by decide) rfl (fun ls hl => ?_)
    have hP2 := mo_P2_le z40.toInt
    have := hI.k10; have := hI.k1
    obtain ⟨g47, hf_o46⟩ := tpo_73 hT y18
    obtain ⟨g49, hf_o48⟩ := tpo_74 hT y19
    refine pz_loop (fun n0 H locs ls => ∃ f50 : Nat → va_E, ∃ w44 : Int32, n0 = (3 - (w44.toInt)).toNat ∧ tp_T (mo_O κ) κ τ ν ρ f50 ∧ tp_F τ [13, 69, 70, 71, 72, 73, 74, 75, 76, 79, 80, 81, 82] f f50 ∧ f50 (ρ h0 2) = .inl (κ 0, 12967, .inl g27) ∧ ((mo_TB (mo_RL (mo_l (f50 (ρ h0 43)))) (mo_R (mo_i (f50 (ρ h0 44)))) (w44.toInt) 0 (mo_P2 z40.toInt))) ∧ (0 ≤ w44.toInt ∧ w44.toInt ≤ 3) ∧ va_P (dC, dI) vwCl (va_pl L f50) H ∧ va_D A (va_pl L f50) ∧ va_S A s.heap H locs ∧ lv_has ls 15 [(4, .int w44), (3, .int r42), (2, .int z40), (0, .ref h0), (1, .int v)]) ?_ _ _ _ _ ⟨f30, 0, rfl, hT, hR, hf_33, (by simp only [hf_o46, hf_o48, mo_i1, mo_l1]; exact (show mo_TB (mo_RL g47) (mo_R g49) (0 : Int32).toInt 0 (mo_P2 z40.toInt) from mo_TB.rf _ _ (by decide) rfl)), (by have : (0 : Int32).toInt = 0 := rfl; omega), hP, hD, hS, lv_sub hl [0, 1, 2, 3, 4] rfl⟩
    intro n0 H locs ls hI ih52
    obtain ⟨f50, w44, hn53, hT, hR, hk45k, jf54, rw44, hP, hD, hS, hl⟩ := hI
    obtain ⟨g56, hf_o55⟩ := tpo_73 hT y18
    obtain ⟨g58, hf_o57⟩ := tpo_74 hT y19
    have jf54 : mo_TB (mo_RL g56) (mo_R g58) (w44.toInt) 0 (mo_P2 z40.toInt) := by have q9 := jf54; simp only [hf_o55, hf_o57, mo_i1, mo_l1] at q9; exact q9
    refine lv_iload hx hb dX12_best_38 (lv_at hl 0 rfl) ?_
    refine lv_iload_n hx hb dX12_best_40 rfl (lv_at hl 1 rfl) ?_
    refine lv_icmp_ge (tgt := 76) hx hb dX12_best_41 (by decide) (fun c59 => ?_) (fun c59 => ?_)
    · have ic59 : w44.toInt ≥ r42.toInt := zi_ge rfl rfl c59
      refine lv_iconst (v := 1) hx hb dX12_best_76 (by decide) ?_
      refine lv_istore (lv' := [(4, .int 1), (3, .int r42), (2, .int z40), (0, .ref h0), (1, .int v)]) hx hb dX12_best_77 hl (by decide) rfl (fun ls hl => ?_)
      refine lv_iconst (v := 0) hx hb dX12_best_79 (by decide) ?_
      refine lv_istore (lv' := [(5, .int 0), (4, .int 1), (3, .int r42), (2, .int z40), (0, .ref h0), (1, .int v)]) hx hb dX12_best_80 hl (by decide) rfl (fun ls hl => ?_)
      refine pz_loop (fun n0 H locs ls => ∃ w60 : Int32, ∃ w61 : Int32, n0 = (6 - (w60.toInt)).toNat ∧ (0 ≤ w60.toInt ∧ w60.toInt ≤ 6) ∧ (1 ≤ w61.toInt ∧ w61.toInt ≤ 4096) ∧ ((w60.toInt) ≤ z40.toInt) ∧ ((w61.toInt) = mo_pw r42.toInt ((w60.toInt)).toNat) ∧ va_P (dC, dI) vwCl (va_pl L f50) H ∧ va_D A (va_pl L f50) ∧ va_S A s.heap H locs ∧ lv_has ls 15 [(5, .int w60), (4, .int w61), (3, .int r42), (2, .int z40), (0, .ref h0), (1, .int v)]) ?_ _ _ _ _ ⟨0, 1, rfl, (by have : (0 : Int32).toInt = 0 := rfl; have : (1 : Int32).toInt = 1 := rfl; omega), (by have : (0 : Int32).toInt = 0 := rfl; have : (1 : Int32).toInt = 1 := rfl; omega), (by have : (0 : Int32).toInt = 0 := rfl; have : (1 : Int32).toInt = 1 := rfl; omega), rfl, hP, hD, hS, lv_sub hl [0, 1, 2, 3, 4, 5] rfl⟩
      intro n0 H locs ls hI ih64
      obtain ⟨w60, w61, hn65, rw60, rw61, k62, k63, hP, hD, hS, hl⟩ := hI
      refine lv_iload hx hb dX12_best_82 (lv_at hl 0 rfl) ?_
      refine lv_iload_n hx hb dX12_best_84 rfl (lv_at hl 3 rfl) ?_
      refine lv_icmp_ge (tgt := 102) hx hb dX12_best_85 (by decide) (fun c66 => ?_) (fun c66 => ?_)
      · have ic66 : w60.toInt ≥ z40.toInt := zi_ge rfl rfl c66
        have hall : w61.toInt = mo_pw r42.toInt z40.toInt.toNat := by have q9 := k63; rw [show w60.toInt = z40.toInt by omega] at q9; exact q9
        have hTB : mo_TB (mo_RL g56) (mo_R g58) r42.toInt 0 (mo_P2 z40.toInt) := by have q9 := jf54; rw [show w44.toInt = r42.toInt by omega] at q9; exact q9
        refine lv_ldc2 (own := RX12) (v := (-2000000000000000)) hx hb hown (hts (.constantLong RX12 466 (-2000000000000000)) wa_1189) dX12_best_102 ?_
        refine lv_lstore (lv' := [(5, .long (-2000000000000000)), (4, .int w61), (3, .int r42), (2, .int z40), (0, .ref h0), (1, .int v)]) hx hb dX12_best_105 hl (by decide) rfl (fun ls hl => ?_)
        refine lv_iconst (v := 0) hx hb dX12_best_107 (by decide) ?_
        refine lv_istore (lv' := [(7, .int 0), (5, .long (-2000000000000000)), (4, .int w61), (3, .int r42), (2, .int z40), (0, .ref h0), (1, .int v)]) hx hb dX12_best_108 hl (by decide) rfl (fun ls hl => ?_)
        refine lv_iconst (v := 0) hx hb dX12_best_110 (by decide) ?_
        refine lv_istore (lv' := [(8, .int 0), (7, .int 0), (5, .long (-2000000000000000)), (4, .int w61), (3, .int r42), (2, .int z40), (0, .ref h0), (1, .int v)]) hx hb dX12_best_111 hl (by decide) rfl (fun ls hl => ?_)
        obtain ⟨g76, hf_o75⟩ := tpo_79 hT y22
        refine pz_loop (fun n0 H locs ls => ∃ f77 : Nat → va_E, ∃ w67 : Int32, ∃ w68 : Int32, ∃ w69 : Int64, n0 = (4096 - (w67.toInt)).toNat ∧ tp_T (mo_O κ) κ τ ν ρ f77 ∧ tp_F τ [13, 69, 70, 71, 72, 73, 74, 75, 76, 79, 80, 81, 82] f f77 ∧ f77 (ρ h0 2) = .inl (κ 0, 12967, .inl g27) ∧ f77 (ρ h0 43) = .inl (κ 1, 192, .inr (.inl g56)) ∧ f77 (ρ h0 44) = .inl (κ 0, 192, .inl g58) ∧ ((((w69.toInt) ≠ -2000000000000000 → mo_BG (mo_R (mo_i (f77 (ρ h0 49)))) (mo_RL g56) z40.toInt r42.toInt))) ∧ (0 ≤ w67.toInt ∧ w67.toInt ≤ 4096) ∧ ((w67.toInt) ≤ w61.toInt) ∧ (((w67.toInt) = w61.toInt → (w69.toInt) ≠ -2000000000000000)) ∧ va_P (dC, dI) vwCl (va_pl L f77) H ∧ va_D A (va_pl L f77) ∧ va_S A s.heap H locs ∧ lv_has ls 15 [(8, .int w67), (7, .int w68), (5, .long w69), (4, .int w61), (3, .int r42), (2, .int z40), (0, .ref h0), (1, .int v)]) ?_ _ _ _ _ ⟨f50, 0, 0, (-2000000000000000), rfl, hT, hR, hk45k, hf_o55, hf_o57, (by simp only [hf_o75, mo_i1, mo_l1]; exact (show (((-2000000000000000) : Int32).toInt ≠ -2000000000000000 → mo_BG (mo_R g76) (mo_RL g56) z40.toInt r42.toInt) from (fun q9 => absurd (by decide) q9))), (by have : (0 : Int32).toInt = 0 := rfl; have : (0 : Int32).toInt = 0 := rfl; have : ((-2000000000000000) : Int64).toInt = (-2000000000000000) := rfl; omega), (by have : (0 : Int32).toInt = 0 := rfl; have : (0 : Int32).toInt = 0 := rfl; have : ((-2000000000000000) : Int64).toInt = (-2000000000000000) := rfl; omega), (fun q9 => by have : (0 : Int32).toInt = 0 := rfl; omega), hP, hD, hS, lv_sub hl [0, 1, 2, 3, 4, 5, 6, 7] rfl⟩
        intro n0 H locs ls hI ih79
        obtain ⟨f77, w67, w68, w69, hn80, hT, hR, hk72k, hk73k, hk74k, jf81, rw67, k70, k71, hP, hD, hS, hl⟩ := hI
        obtain ⟨g83, hf_o82⟩ := tpo_79 hT y22
        have jf81 : ((w69.toInt) ≠ -2000000000000000 → mo_BG (mo_R g83) (mo_RL g56) z40.toInt r42.toInt) := by have q9 := jf81; simp only [hf_o82, mo_i1, mo_l1] at q9; exact q9
        refine lv_iload hx hb dX12_best_113 (lv_at hl 0 rfl) ?_
        refine lv_iload hx hb dX12_best_115 (lv_at hl 3 rfl) ?_
        refine lv_icmp_ge (tgt := 283) hx hb dX12_best_117 (by decide) (fun c84 => ?_) (fun c84 => ?_)
        · have ic84 : w67.toInt ≥ w61.toInt := zi_ge rfl rfl c84
          refine lv_aload_n hx hb dX12_best_283 rfl (lv_at hl 6 rfl) ?_
          refine lv_iload_n hx hb dX12_best_284 rfl (lv_at hl 5 rfl) ?_
          refine lv_iload_n hx hb dX12_best_285 rfl (lv_at hl 4 rfl) ?_
          refine lv_iload_n hx hb dX12_best_286 rfl (lv_at hl 7 rfl) ?_
          obtain ⟨o85_x0, o85_x1, o85_x7, o85_x9, o85_x10, o85_x11, o85_x12, o85_x13, o85_x14, o85_x15, o85_x16, o85_x17, o85_x18, o85_x19, o85_x20, o85_x22, o85_x25, o85_x28, o85_x29, o85_x32, o85_x33, o85_x34, o85_x35, o85_x36, o85_x37, o85_x38, o85_x47, o85_x48, hf_o85, ro85_0, ro85_1, ro85_2, ro85_3, ro85_4, ro85_5, ro85_6, ro85_7, ro85_8, ro85_9, ro85_10, ro85_11, ro85_12, ro85_13⟩ := tpo_13 hT ht_h0
          obtain ⟨q86, eq86⟩ := tp_pos (tp_in hG ht_h0 (by decide)) hf_o85
          have hFc := tp_fr hD hS hA
          refine va_callv (va_runV (As := [.int z40, .int r42, .int v]) (rest := []) ⟨hx, hb, hml, hown, hts⟩ (t_X12_keepBest l dC dI _ κ τ ν ρ L f77 hG hT h0 z40 r42 v (-1) 0 ht_h0 (by omega) (by rw [hk72k, mo_i1]; exact hI) (by omega) (by omega) (by first | (simp only [hk72k, hf_o26, mo_i1]; omega) | simp only [hk72k, hf_o26, mo_i1] | omega) (by first | (simp only [hk72k, hf_o26, mo_i1]; omega) | simp only [hk72k, hf_o26, mo_i1] | omega) (by simp only [hf_o82, hk73k, mo_i1, mo_l1]; exact (show mo_BG (mo_R g83) (mo_RL g56) z40.toInt r42.toInt from jf81 (by omega))) (by simp only [hk73k, hk74k, mo_i1, mo_l1]; exact (show mo_TB (mo_RL g56) (mo_R g58) r42.toInt 0 (mo_P2 z40.toInt) from hTB))) (cwV 3 hts gX12_best_X12_keepBest rfl rfl rfl ⟨rfl, pd_X12_keepBest⟩ ⟨Nat.le_of_ble_eq_true rfl, Nat.le_of_ble_eq_true rfl⟩) ⟨pz_blind, va_recv hK hP (ci := 12) (q0 := q86) rfl eq86, pz_pre hP hK hD hN⟩ rfl rfl hl.1 rfl (lv_room (Nat.le_of_ble_eq_true rfl)) dX12_best_287 ⟨Nat.le_of_ble_eq_true rfl, Nat.le_of_ble_eq_true rfl⟩) hS (fun q _ h => hFc q h) hFc (fun f89 t H1 locs ht hvm hw88 hB hz1 hk1 hS => ?_)
          obtain ⟨hT, hF90, hw88p⟩ := hw88
          have hR := hR.then hF90 (by decide)
          have hP := hB.1; rw [ht] at hP; have hD := tp_ad f89 hD; clear hB hFc hz1 hk1; subst ht; generalize t.heap = H at hP hS ⊢
          refine lv_lload hx hb dX12_best_290 (lv_at hl 2 rfl) ?_
          exact W.lret (v := w69) hx hb hr (fun t ht hW => ⟨⟨w69, f89, rfl, ⟨hT, hR, trivial, trivial⟩, by rw [ht]; exact hP, va_K.moved hW.alike hK, hD⟩, hS.F ht⟩) hS.2.2 dX12_best_292
        · have ic84 : w67.toInt < w61.toInt := zi_gef rfl rfl c84
          refine lv_aload_n hx hb dX12_best_120 rfl (lv_at hl 6 rfl) ?_
          refine lv_iload hx hb dX12_best_121 (lv_at hl 0 rfl) ?_
          refine lv_iload_n hx hb dX12_best_123 rfl (lv_at hl 5 rfl) ?_
          refine lv_iload_n hx hb dX12_best_124 rfl (lv_at hl 4 rfl) ?_
          obtain ⟨o91_x0, o91_x1, o91_x7, o91_x9, o91_x10, o91_x11, o91_x12, o91_x13, o91_x14, o91_x15, o91_x16, o91_x17, o91_x18, o91_x19, o91_x20, o91_x22, o91_x25, o91_x28, o91_x29, o91_x32, o91_x33, o91_x34, o91_x35, o91_x36, o91_x37, o91_x38, o91_x47, o91_x48, hf_o91, ro91_0, ro91_1, ro91_2, ro91_3, ro91_4, ro91_5, ro91_6, ro91_7, ro91_8, ro91_9, ro91_10, ro91_11, ro91_12, ro91_13⟩ := tpo_13 hT ht_h0
          obtain ⟨q92, eq92⟩ := tp_pos (tp_in hG ht_h0 (by decide)) hf_o91
          have hFc := tp_fr hD hS hA
          refine va_calli (va_runV (As := [.int w67, .int z40, .int r42]) (rest := []) ⟨hx, hb, hml, hown, hts⟩ (t_X12_share l dC dI _ κ τ ν ρ L f77 hG hT h0 w67 z40 r42 ht_h0 (by first | decide | omega) (by first | decide | omega) (by omega)) (cwV 3 hts gX12_best_X12_share rfl rfl rfl ⟨rfl, pd_X12_share⟩ ⟨Nat.le_of_ble_eq_true rfl, Nat.le_of_ble_eq_true rfl⟩) ⟨pz_blind, va_recv hK hP (ci := 12) (q0 := q92) rfl eq92, pz_pre hP hK hD hN⟩ rfl rfl hl.1 rfl (lv_room (Nat.le_of_ble_eq_true rfl)) dX12_best_125 ⟨Nat.le_of_ble_eq_true rfl, Nat.le_of_ble_eq_true rfl⟩) hS (fun q _ h => hFc q h) hFc (fun r93 f95 t H1 locs ht hvm hw94 hB hz1 hk1 hS => ?_)
          obtain ⟨hT, hF96, hw94r, hw94p⟩ := hw94
          have hR := hR.then hF96 (by decide)
          have hP := hB.1; rw [ht] at hP; have hD := tp_ad f95 hD; clear hB hFc hz1 hk1; subst ht; generalize t.heap = H at hP hS ⊢
          obtain ⟨g98, hf_o97⟩ := tpo_81 hT y24
          obtain ⟨g100, hf_o99⟩ := tpo_82 hT y25
          have tk101 : mo_SB (mo_R g98) (mo_R g100) z40.toInt r42.toInt (-1) ∧ (w67.toInt + 1 = mo_pw r42.toInt z40.toInt.toNat → ∀ s9, 0 ≤ s9 → s9 < 3 → (mo_R g100) s9 = 0) := by have q9 := hw94p; simp only [hf_o97, hf_o99, mo_i1, mo_l1] at q9; exact q9
          have hSB := tk101.1
          have hLST := tk101.2
          refine lv_istore (lv' := [(9, .int r93), (8, .int w67), (7, .int w68), (5, .long w69), (4, .int w61), (3, .int r42), (2, .int z40), (0, .ref h0), (1, .int v)]) hx hb dX12_best_128 hl (by decide) rfl (fun ls hl => ?_)
          refine lv_lconst (v := 0) hx hb dX12_best_130 (by decide) ?_
          refine lv_lstore (lv' := [(10, .long 0), (9, .int r93), (8, .int w67), (7, .int w68), (5, .long w69), (4, .int w61), (3, .int r42), (2, .int z40), (0, .ref h0), (1, .int v)]) hx hb dX12_best_131 hl (by decide) rfl (fun ls hl => ?_)
          refine lv_iconst (v := 0) hx hb dX12_best_133 (by decide) ?_
          refine lv_istore (lv' := [(12, .int 0), (10, .long 0), (9, .int r93), (8, .int w67), (7, .int w68), (5, .long w69), (4, .int w61), (3, .int r42), (2, .int z40), (0, .ref h0), (1, .int v)]) hx hb dX12_best_134 hl (by decide) rfl (fun ls hl => ?_)
          have hf_102 : f95 (ρ h0 2) = .inl (κ 0, 12967, .inl g27) := (hF96 _ (by rw [y1]; decide)).trans hk72k
          refine pz_loop (fun n0 H locs ls => ∃ w103 : Int32, ∃ w104 : Int64, n0 = (3 - (w103.toInt)).toNat ∧ (0 ≤ w103.toInt ∧ w103.toInt ≤ 3) ∧ ((w103.toInt) ≤ r42.toInt) ∧ (((w104.toInt) ≠ -2000000000000000 → ∀ t, 0 ≤ t → t < (w103.toInt) → (mo_RL g56) (64 * t + (mo_R g100) t) ≠ -2000000000000000)) ∧ ((w67.toInt + 1 = mo_pw r42.toInt z40.toInt.toNat → (w104.toInt) = 0)) ∧ va_P (dC, dI) vwCl (va_pl L f95) H ∧ va_D A (va_pl L f95) ∧ va_S A s.heap H locs ∧ lv_has ls 15 [(12, .int w103), (10, .long w104), (9, .int r93), (8, .int w67), (7, .int w68), (5, .long w69), (4, .int w61), (3, .int r42), (2, .int z40), (0, .ref h0), (1, .int v)]) ?_ _ _ _ _ ⟨0, 0, rfl, (by have : (0 : Int32).toInt = 0 := rfl; have : (0 : Int64).toInt = 0 := rfl; omega), (by have : (0 : Int32).toInt = 0 := rfl; have : (0 : Int64).toInt = 0 := rfl; omega), (fun _ t t0 t1 => absurd t1 (by have : (0 : Int32).toInt = 0 := rfl; omega)), (fun _ => by decide), hP, hD, hS, lv_sub hl [0, 1, 2, 3, 4, 5, 6, 7, 8, 9, 10] rfl⟩
          intro n0 H locs ls hI ih108
          obtain ⟨w103, w104, hn109, rw103, k105, k106, k107, hP, hD, hS, hl⟩ := hI
          refine lv_iload hx hb dX12_best_136 (lv_at hl 0 rfl) ?_
          refine lv_iload_n hx hb dX12_best_138 rfl (lv_at hl 7 rfl) ?_
          refine lv_icmp_ge (tgt := 199) hx hb dX12_best_139 (by decide) (fun c110 => ?_) (fun c110 => ?_)
          · have ic110 : w103.toInt ≥ r42.toInt := zi_ge rfl rfl c110
            have hlast0 : w67.toInt + 1 = w61.toInt → w104.toInt = 0 := fun q9 => k107 (by omega)
            refine lv_lload hx hb dX12_best_199 (lv_at hl 1 rfl) ?_
            refine lv_ldc2 (own := RX12) (v := (-2000000000000000)) hx hb hown (hts (.constantLong RX12 466 (-2000000000000000)) wa_1189) dX12_best_201 ?_
            refine W.lcmp hx hb dX12_best_204 ?_
            refine lv_if_eq (tgt := 277) hx hb dX12_best_205 (by decide) (fun c111 => ?_) (fun c111 => ?_)
            · have ic111 : w104.toInt = (-2000000000000000) := zl_eq rfl rfl c111
              obtain ⟨z112, ez112⟩ : ∃ y : Int32, y = w67 + 1 := ⟨_, rfl⟩
              refine lv_iinc (v := z112) (lv' := [(8, .int z112), (12, .int w103), (10, .long w104), (9, .int r93), (7, .int w68), (5, .long w69), (4, .int w61), (3, .int r42), (2, .int z40), (0, .ref h0), (1, .int v)]) hx hb dX12_best_277 hl (k := 3) rfl (by rw [ez112]; rfl) (by decide) rfl (fun ls hl => ?_)
              have iz112 : z112.toInt = w67.toInt + 1 := zi_add ez112 rfl rfl (by omega) (by omega)
              refine lv_goto (tgt := 113) hx hb dX12_best_280 (by decide) ?_
              have hf_113 : f95 (ρ h0 49) = .inl (κ 0, 6, .inl g83) := (hF96 _ (by rw [y22]; decide)).trans hf_o82
              have hf_114 : f95 (ρ h0 43) = .inl (κ 1, 192, .inr (.inl g56)) := (hF96 _ (by rw [y18]; decide)).trans hk73k
              have hf_115 : f95 (ρ h0 44) = .inl (κ 0, 192, .inl g58) := (hF96 _ (by rw [y19]; decide)).trans hk74k
              exact ih79 _ _ _ _ (by rw [hn80]; omega) ⟨f95, z112, w68, w69, rfl, hT, hR, hf_102, hf_114, hf_115, (by simp only [hf_113, mo_i1, mo_l1]; exact (show ((w69.toInt) ≠ -2000000000000000 → mo_BG (mo_R g83) (mo_RL g56) z40.toInt r42.toInt) from (by first | exact jf81 | (intro q9; exact jf81 (by omega))))), (by omega), (by omega), (fun q9 => by have q8 := hlast0 (by omega); omega), hP, hD, hS, lv_sub hl [0, 4, 5, 6, 7, 8, 9, 10] rfl⟩
            · have ic111 : w104.toInt ≠ (-2000000000000000) := zl_eqf rfl rfl c111
              refine lv_lload hx hb dX12_best_208 (lv_at hl 5 rfl) ?_
              refine lv_ldc2 (own := RX12) (v := (-2000000000000000)) hx hb hown (hts (.constantLong RX12 466 (-2000000000000000)) wa_1189) dX12_best_210 ?_
              refine W.lcmp hx hb dX12_best_213 ?_
              refine lv_if_eq (tgt := 240) hx hb dX12_best_214 (by decide) (fun c116 => ?_) (fun c116 => ?_)
              · have ic116 : w69.toInt = (-2000000000000000) := zl_eq rfl rfl c116
                refine lv_lload hx hb dX12_best_240 (lv_at hl 1 rfl) ?_
                refine lv_lstore (lv' := [(5, .long w104), (12, .int w103), (10, .long w104), (9, .int r93), (8, .int w67), (7, .int w68), (4, .int w61), (3, .int r42), (2, .int z40), (0, .ref h0), (1, .int v)]) hx hb dX12_best_242 hl (by decide) rfl (fun ls hl => ?_)
                refine lv_iload hx hb dX12_best_244 (lv_at hl 3 rfl) ?_
                refine lv_istore (lv' := [(7, .int r93), (5, .long w104), (12, .int w103), (10, .long w104), (9, .int r93), (8, .int w67), (4, .int w61), (3, .int r42), (2, .int z40), (0, .ref h0), (1, .int v)]) hx hb dX12_best_246 hl (by decide) rfl (fun ls hl => ?_)
                refine lv_iconst (v := 0) hx hb dX12_best_248 (by decide) ?_
                refine lv_istore (lv' := [(12, .int 0), (7, .int r93), (5, .long w104), (10, .long w104), (9, .int r93), (8, .int w67), (4, .int w61), (3, .int r42), (2, .int z40), (0, .ref h0), (1, .int v)]) hx hb dX12_best_249 hl (by decide) rfl (fun ls hl => ?_)
                have hf_118 : f95 (ρ h0 43) = .inl (κ 1, 192, .inr (.inl g56)) := (hF96 _ (by rw [y18]; decide)).trans hk73k
                have hf_119 : f95 (ρ h0 44) = .inl (κ 0, 192, .inl g58) := (hF96 _ (by rw [y19]; decide)).trans hk74k
                have hf_125 : f95 (ρ h0 49) = .inl (κ 0, 6, .inl g83) := (hF96 _ (by rw [y22]; decide)).trans hf_o82
                refine pz_loop (fun n0 H locs ls => ∃ f126 : Nat → va_E, ∃ w117 : Int32, n0 = (6 - (w117.toInt)).toNat ∧ tp_T (mo_O κ) κ τ ν ρ f126 ∧ tp_F τ [13, 69, 70, 71, 72, 73, 74, 75, 76, 79, 80, 81, 82] f f126 ∧ f126 (ρ h0 2) = .inl (κ 0, 12967, .inl g27) ∧ f126 (ρ h0 43) = .inl (κ 1, 192, .inr (.inl g56)) ∧ f126 (ρ h0 44) = .inl (κ 0, 192, .inl g58) ∧ f126 (ρ h0 51) = .inl (κ 0, 6, .inl g98) ∧ f126 (ρ h0 52) = .inl (κ 0, 3, .inl g100) ∧ ((∀ d, 0 ≤ d → d < (w117.toInt) → (mo_R (mo_i (f126 (ρ h0 49)))) d = (mo_R g98) d)) ∧ (0 ≤ w117.toInt ∧ w117.toInt ≤ 6) ∧ va_P (dC, dI) vwCl (va_pl L f126) H ∧ va_D A (va_pl L f126) ∧ va_S A s.heap H locs ∧ lv_has ls 15 [(12, .int w117), (7, .int r93), (5, .long w104), (10, .long w104), (9, .int r93), (8, .int w67), (4, .int w61), (3, .int r42), (2, .int z40), (0, .ref h0), (1, .int v)]) ?_ _ _ _ _ ⟨f95, 0, rfl, hT, hR, hf_102, hf_118, hf_119, hf_o97, hf_o99, (by simp only [hf_125, mo_i1, mo_l1]; exact (show ∀ d, 0 ≤ d → d < (0 : Int32).toInt → (mo_R g83) d = (mo_R g98) d from (fun d d0 d1 => absurd d1 (by have : (0 : Int32).toInt = 0 := rfl; omega)))), (by have : (0 : Int32).toInt = 0 := rfl; omega), hP, hD, hS, lv_sub hl [0, 1, 2, 3, 4, 5, 6, 7, 8, 9, 10] rfl⟩
                intro n0 H locs ls hI ih128
                obtain ⟨f126, w117, hn129, hT, hR, hk120k, hk121k, hk122k, hk123k, hk124k, jf130, rw117, hP, hD, hS, hl⟩ := hI
                obtain ⟨g132, hf_o131⟩ := tpo_79 hT y22
                have jf130 : ∀ d, 0 ≤ d → d < (w117.toInt) → (mo_R g132) d = (mo_R g98) d := by have q9 := jf130; simp only [hf_o131, mo_i1, mo_l1] at q9; exact q9
                refine lv_iload hx hb dX12_best_251 (lv_at hl 0 rfl) ?_
                refine lv_iload_n hx hb dX12_best_253 rfl (lv_at hl 8 rfl) ?_
                refine lv_icmp_ge (tgt := 277) hx hb dX12_best_254 (by decide) (fun c133 => ?_) (fun c133 => ?_)
                · have ic133 : w117.toInt ≥ z40.toInt := zi_ge rfl rfl c133
                  obtain ⟨z134, ez134⟩ : ∃ y : Int32, y = w67 + 1 := ⟨_, rfl⟩
                  refine lv_iinc (v := z134) (lv' := [(8, .int z134), (12, .int w117), (7, .int r93), (5, .long w104), (10, .long w104), (9, .int r93), (4, .int w61), (3, .int r42), (2, .int z40), (0, .ref h0), (1, .int v)]) hx hb dX12_best_277 hl (k := 5) rfl (by rw [ez134]; rfl) (by decide) rfl (fun ls hl => ?_)
                  have iz134 : z134.toInt = w67.toInt + 1 := zi_add ez134 rfl rfl (by omega) (by omega)
                  refine lv_goto (tgt := 113) hx hb dX12_best_280 (by decide) ?_
                  exact ih79 _ _ _ _ (by rw [hn80]; omega) ⟨f126, z134, r93, w104, rfl, hT, hR, hk120k, hk121k, hk122k, (by simp only [hf_o131, mo_i1, mo_l1]; exact (show ((w104.toInt) ≠ -2000000000000000 → mo_BG (mo_R g132) (mo_RL g56) z40.toInt r42.toInt) from (fun _ => mo_BG.of hSB (by omega) (by omega) (fun d d0 d1 => jf130 d d0 (by omega)) (fun t t0 t1 => k106 (by omega) t t0 (by omega))))), (by omega), (by omega), (fun q9 => by have q8 := hlast0 (by omega); omega), hP, hD, hS, lv_sub hl [0, 2, 3, 6, 7, 8, 9, 10] rfl⟩
                · have ic133 : w117.toInt < z40.toInt := zi_gef rfl rfl c133
                  refine lv_aload_n hx hb dX12_best_257 rfl (lv_at hl 9 rfl) ?_
                  obtain ⟨o135_x0, o135_x1, o135_x7, o135_x9, o135_x10, o135_x11, o135_x12, o135_x13, o135_x14, o135_x15, o135_x16, o135_x17, o135_x18, o135_x19, o135_x20, o135_x22, o135_x25, o135_x28, o135_x29, o135_x32, o135_x33, o135_x34, o135_x35, o135_x36, o135_x37, o135_x38, o135_x47, o135_x48, hf_o135, ro135_0, ro135_1, ro135_2, ro135_3, ro135_4, ro135_5, ro135_6, ro135_7, ro135_8, ro135_9, ro135_10, ro135_11, ro135_12, ro135_13⟩ := tpo_13 hT ht_h0
                  obtain ⟨q136, eq136⟩ := tp_pos (tp_in hG ht_h0 (by decide)) hf_o135
                  refine va_get (D := (dC, dI)) (ci := 12) (v := .ref (ρ h0 49)) (C := RX12) (T := TX12) (N := 53) hx hb hts hfX12 hown hK hP q136 eq136 rfl 49 (by decide) (hts (.fieldLink RX12 79 "ColdShipsModel" "bestShip" "[I") wa_171) (fun _ h9 => h9) rfl dX12_best_258 ?_
                  refine lv_iload hx hb dX12_best_261 (lv_at hl 0 rfl) ?_
                  refine lv_aload_n hx hb dX12_best_263 rfl (lv_at hl 9 rfl) ?_
                  refine va_get (D := (dC, dI)) (ci := 12) (v := .ref (ρ h0 51)) (C := RX12) (T := TX12) (N := 53) hx hb hts hfX12 hown hK hP q136 eq136 rfl 51 (by decide) (hts (.fieldLink RX12 85 "ColdShipsModel" "chosen" "[I") wa_173) (fun _ h9 => h9) rfl dX12_best_264 ?_
                  refine lv_iload hx hb dX12_best_267 (lv_at hl 0 rfl) ?_
                  obtain ⟨q137, eq137⟩ := tp_pos (tp_in hG y24 (by decide)) hk123k
                  refine va_iald hx hb hK hP q137 0 eq137 rfl (vp_in_iff.mpr ⟨by omega, by omega⟩) dX12_best_269 ?_
                  refine lv_topi (fun z138 ez138 => ?_)
                  have jz138 : z138.toInt = mo_R g98 w117.toInt := mo_rd ez138 (by omega)
                  obtain ⟨q139, eq139⟩ := tp_pos (tp_in hG y22 (by decide)) hf_o131
                  refine va_iast hx hb hK hP hD hS q139 0 eq139 rfl (vp_in_iff.mpr ⟨by omega, by omega⟩) dX12_best_270 (tp_k (.inl (κ 0, 6, .inl (upd g132 w117.toNatClampNeg z138))) hD (tp_in hG y22 (by decide)) eq139 (fun f140 H locs hP hD hS g142 k141 => ?_))
                  have hT := hT.up y22 g142 k141 tp_o79
                  have hR := hR.up y22 (by decide) k141
                  have hU144 : mo_U (mo_R g132) (mo_R (upd g132 w117.toNatClampNeg z138)) (w117.toInt) (z138.toInt) := mo_up (by omega) (rfl : z138.toInt = _) (by omega)
                  generalize (upd g132 w117.toNatClampNeg z138) = g143 at g142 hU144
                  obtain ⟨z145, ez145⟩ : ∃ y : Int32, y = w117 + 1 := ⟨_, rfl⟩
                  refine lv_iinc (v := z145) (lv' := [(12, .int z145), (7, .int r93), (5, .long w104), (10, .long w104), (9, .int r93), (8, .int w67), (4, .int w61), (3, .int r42), (2, .int z40), (0, .ref h0), (1, .int v)]) hx hb dX12_best_271 hl (k := 0) rfl (by rw [ez145]; rfl) (by decide) rfl (fun ls hl => ?_)
                  have iz145 : z145.toInt = w117.toInt + 1 := zi_add ez145 rfl rfl (by omega) (by omega)
                  refine lv_goto (tgt := 251) hx hb dX12_best_274 (by decide) ?_
                  have hf_146 : f140 (ρ h0 2) = .inl (κ 0, 12967, .inl g27) := (k141 _ (tp_ne y1 y22 (by decide))).trans hk120k
                  have hf_147 : f140 (ρ h0 43) = .inl (κ 1, 192, .inr (.inl g56)) := (k141 _ (tp_ne y18 y22 (by decide))).trans hk121k
                  have hf_148 : f140 (ρ h0 44) = .inl (κ 0, 192, .inl g58) := (k141 _ (tp_ne y19 y22 (by decide))).trans hk122k
                  have hf_149 : f140 (ρ h0 51) = .inl (κ 0, 6, .inl g98) := (k141 _ (tp_ne y24 y22 (by decide))).trans hk123k
                  have hf_150 : f140 (ρ h0 52) = .inl (κ 0, 3, .inl g100) := (k141 _ (tp_ne y25 y22 (by decide))).trans hk124k
                  exact ih128 _ _ _ _ (by rw [hn129]; omega) ⟨f140, z145, rfl, hT, hR, hf_146, hf_147, hf_148, hf_149, hf_150, (by simp only [g142, mo_i1, mo_l1]; exact (show ∀ d, 0 ≤ d → d < (z145.toInt) → (mo_R g143) d = (mo_R g98) d from (fun d d0 d1 => by rcases hU144.at d d0 with ⟨z0, a0⟩ | ⟨z0, a0⟩ <;> first | (rw [a0, z0]; omega) | (rw [a0]; exact jf130 d d0 (by omega))))), (by omega), hP, hD, hS, lv_sub hl [0, 1, 2, 3, 4, 5, 6, 7, 8, 9, 10] rfl⟩
              · have ic116 : w69.toInt ≠ (-2000000000000000) := zl_eqf rfl rfl c116
                refine lv_lload hx hb dX12_best_217 (lv_at hl 1 rfl) ?_
                refine lv_lload hx hb dX12_best_219 (lv_at hl 5 rfl) ?_
                refine W.lcmp hx hb dX12_best_221 ?_
                refine lv_if_gt (tgt := 240) hx hb dX12_best_222 (by decide) (fun c151 => ?_) (fun c151 => ?_)
                · have ic151 : w104.toInt > w69.toInt := zl_gt rfl rfl c151
                  refine lv_lload hx hb dX12_best_240 (lv_at hl 1 rfl) ?_
                  refine lv_lstore (lv' := [(5, .long w104), (12, .int w103), (10, .long w104), (9, .int r93), (8, .int w67), (7, .int w68), (4, .int w61), (3, .int r42), (2, .int z40), (0, .ref h0), (1, .int v)]) hx hb dX12_best_242 hl (by decide) rfl (fun ls hl => ?_)
                  refine lv_iload hx hb dX12_best_244 (lv_at hl 3 rfl) ?_
                  refine lv_istore (lv' := [(7, .int r93), (5, .long w104), (12, .int w103), (10, .long w104), (9, .int r93), (8, .int w67), (4, .int w61), (3, .int r42), (2, .int z40), (0, .ref h0), (1, .int v)]) hx hb dX12_best_246 hl (by decide) rfl (fun ls hl => ?_)
                  refine lv_iconst (v := 0) hx hb dX12_best_248 (by decide) ?_
                  refine lv_istore (lv' := [(12, .int 0), (7, .int r93), (5, .long w104), (10, .long w104), (9, .int r93), (8, .int w67), (4, .int w61), (3, .int r42), (2, .int z40), (0, .ref h0), (1, .int v)]) hx hb dX12_best_249 hl (by decide) rfl (fun ls hl => ?_)
                  have hf_153 : f95 (ρ h0 43) = .inl (κ 1, 192, .inr (.inl g56)) := (hF96 _ (by rw [y18]; decide)).trans hk73k
                  have hf_154 : f95 (ρ h0 44) = .inl (κ 0, 192, .inl g58) := (hF96 _ (by rw [y19]; decide)).trans hk74k
                  have hf_160 : f95 (ρ h0 49) = .inl (κ 0, 6, .inl g83) := (hF96 _ (by rw [y22]; decide)).trans hf_o82
                  refine pz_loop (fun n0 H locs ls => ∃ f161 : Nat → va_E, ∃ w152 : Int32, n0 = (6 - (w152.toInt)).toNat ∧ tp_T (mo_O κ) κ τ ν ρ f161 ∧ tp_F τ [13, 69, 70, 71, 72, 73, 74, 75, 76, 79, 80, 81, 82] f f161 ∧ f161 (ρ h0 2) = .inl (κ 0, 12967, .inl g27) ∧ f161 (ρ h0 43) = .inl (κ 1, 192, .inr (.inl g56)) ∧ f161 (ρ h0 44) = .inl (κ 0, 192, .inl g58) ∧ f161 (ρ h0 51) = .inl (κ 0, 6, .inl g98) ∧ f161 (ρ h0 52) = .inl (κ 0, 3, .inl g100) ∧ ((∀ d, 0 ≤ d → d < (w152.toInt) → (mo_R (mo_i (f161 (ρ h0 49)))) d = (mo_R g98) d)) ∧ (0 ≤ w152.toInt ∧ w152.toInt ≤ 6) ∧ va_P (dC, dI) vwCl (va_pl L f161) H ∧ va_D A (va_pl L f161) ∧ va_S A s.heap H locs ∧ lv_has ls 15 [(12, .int w152), (7, .int r93), (5, .long w104), (10, .long w104), (9, .int r93), (8, .int w67), (4, .int w61), (3, .int r42), (2, .int z40), (0, .ref h0), (1, .int v)]) ?_ _ _ _ _ ⟨f95, 0, rfl, hT, hR, hf_102, hf_153, hf_154, hf_o97, hf_o99, (by simp only [hf_160, mo_i1, mo_l1]; exact (show ∀ d, 0 ≤ d → d < (0 : Int32).toInt → (mo_R g83) d = (mo_R g98) d from (fun d d0 d1 => absurd d1 (by have : (0 : Int32).toInt = 0 := rfl; omega)))), (by have : (0 : Int32).toInt = 0 := rfl; omega), hP, hD, hS, lv_sub hl [0, 1, 2, 3, 4, 5, 6, 7, 8, 9, 10] rfl⟩
                  intro n0 H locs ls hI ih163
                  obtain ⟨f161, w152, hn164, hT, hR, hk155k, hk156k, hk157k, hk158k, hk159k, jf165, rw152, hP, hD, hS, hl⟩ := hI
                  obtain ⟨g167, hf_o166⟩ := tpo_79 hT y22
                  have jf165 : ∀ d, 0 ≤ d → d < (w152.toInt) → (mo_R g167) d = (mo_R g98) d := by have q9 := jf165; simp only [hf_o166, mo_i1, mo_l1] at q9; exact q9
                  refine lv_iload hx hb dX12_best_251 (lv_at hl 0 rfl) ?_
                  refine lv_iload_n hx hb dX12_best_253 rfl (lv_at hl 8 rfl) ?_
                  refine lv_icmp_ge (tgt := 277) hx hb dX12_best_254 (by decide) (fun c168 => ?_) (fun c168 => ?_)
                  · have ic168 : w152.toInt ≥ z40.toInt := zi_ge rfl rfl c168
                    obtain ⟨z169, ez169⟩ : ∃ y : Int32, y = w67 + 1 := ⟨_, rfl⟩
                    refine lv_iinc (v := z169) (lv' := [(8, .int z169), (12, .int w152), (7, .int r93), (5, .long w104), (10, .long w104), (9, .int r93), (4, .int w61), (3, .int r42), (2, .int z40), (0, .ref h0), (1, .int v)]) hx hb dX12_best_277 hl (k := 5) rfl (by rw [ez169]; rfl) (by decide) rfl (fun ls hl => ?_)
                    have iz169 : z169.toInt = w67.toInt + 1 := zi_add ez169 rfl rfl (by omega) (by omega)
                    refine lv_goto (tgt := 113) hx hb dX12_best_280 (by decide) ?_
                    exact ih79 _ _ _ _ (by rw [hn80]; omega) ⟨f161, z169, r93, w104, rfl, hT, hR, hk155k, hk156k, hk157k, (by simp only [hf_o166, mo_i1, mo_l1]; exact (show ((w104.toInt) ≠ -2000000000000000 → mo_BG (mo_R g167) (mo_RL g56) z40.toInt r42.toInt) from (fun _ => mo_BG.of hSB (by omega) (by omega) (fun d d0 d1 => jf165 d d0 (by omega)) (fun t t0 t1 => k106 (by omega) t t0 (by omega))))), (by omega), (by omega), (fun q9 => by have q8 := hlast0 (by omega); omega), hP, hD, hS, lv_sub hl [0, 2, 3, 6, 7, 8, 9, 10] rfl⟩
                  · have ic168 : w152.toInt < z40.toInt := zi_gef rfl rfl c168
                    refine lv_aload_n hx hb dX12_best_257 rfl (lv_at hl 9 rfl) ?_
                    obtain ⟨o170_x0, o170_x1, o170_x7, o170_x9, o170_x10, o170_x11, o170_x12, o170_x13, o170_x14, o170_x15, o170_x16, o170_x17, o170_x18, o170_x19, o170_x20, o170_x22, o170_x25, o170_x28, o170_x29, o170_x32, o170_x33, o170_x34, o170_x35, o170_x36, o170_x37, o170_x38, o170_x47, o170_x48, hf_o170, ro170_0, ro170_1, ro170_2, ro170_3, ro170_4, ro170_5, ro170_6, ro170_7, ro170_8, ro170_9, ro170_10, ro170_11, ro170_12, ro170_13⟩ := tpo_13 hT ht_h0
                    obtain ⟨q171, eq171⟩ := tp_pos (tp_in hG ht_h0 (by decide)) hf_o170
                    refine va_get (D := (dC, dI)) (ci := 12) (v := .ref (ρ h0 49)) (C := RX12) (T := TX12) (N := 53) hx hb hts hfX12 hown hK hP q171 eq171 rfl 49 (by decide) (hts (.fieldLink RX12 79 "ColdShipsModel" "bestShip" "[I") wa_171) (fun _ h9 => h9) rfl dX12_best_258 ?_
                    refine lv_iload hx hb dX12_best_261 (lv_at hl 0 rfl) ?_
                    refine lv_aload_n hx hb dX12_best_263 rfl (lv_at hl 9 rfl) ?_
                    refine va_get (D := (dC, dI)) (ci := 12) (v := .ref (ρ h0 51)) (C := RX12) (T := TX12) (N := 53) hx hb hts hfX12 hown hK hP q171 eq171 rfl 51 (by decide) (hts (.fieldLink RX12 85 "ColdShipsModel" "chosen" "[I") wa_173) (fun _ h9 => h9) rfl dX12_best_264 ?_
                    refine lv_iload hx hb dX12_best_267 (lv_at hl 0 rfl) ?_
                    obtain ⟨q172, eq172⟩ := tp_pos (tp_in hG y24 (by decide)) hk158k
                    refine va_iald hx hb hK hP q172 0 eq172 rfl (vp_in_iff.mpr ⟨by omega, by omega⟩) dX12_best_269 ?_
                    refine lv_topi (fun z173 ez173 => ?_)
                    have jz173 : z173.toInt = mo_R g98 w152.toInt := mo_rd ez173 (by omega)
                    obtain ⟨q174, eq174⟩ := tp_pos (tp_in hG y22 (by decide)) hf_o166
                    refine va_iast hx hb hK hP hD hS q174 0 eq174 rfl (vp_in_iff.mpr ⟨by omega, by omega⟩) dX12_best_270 (tp_k (.inl (κ 0, 6, .inl (upd g167 w152.toNatClampNeg z173))) hD (tp_in hG y22 (by decide)) eq174 (fun f175 H locs hP hD hS g177 k176 => ?_))
                    have hT := hT.up y22 g177 k176 tp_o79
                    have hR := hR.up y22 (by decide) k176
                    have hU179 : mo_U (mo_R g167) (mo_R (upd g167 w152.toNatClampNeg z173)) (w152.toInt) (z173.toInt) := mo_up (by omega) (rfl : z173.toInt = _) (by omega)
                    generalize (upd g167 w152.toNatClampNeg z173) = g178 at g177 hU179
                    obtain ⟨z180, ez180⟩ : ∃ y : Int32, y = w152 + 1 := ⟨_, rfl⟩
                    refine lv_iinc (v := z180) (lv' := [(12, .int z180), (7, .int r93), (5, .long w104), (10, .long w104), (9, .int r93), (8, .int w67), (4, .int w61), (3, .int r42), (2, .int z40), (0, .ref h0), (1, .int v)]) hx hb dX12_best_271 hl (k := 0) rfl (by rw [ez180]; rfl) (by decide) rfl (fun ls hl => ?_)
                    have iz180 : z180.toInt = w152.toInt + 1 := zi_add ez180 rfl rfl (by omega) (by omega)
                    refine lv_goto (tgt := 251) hx hb dX12_best_274 (by decide) ?_
                    have hf_181 : f175 (ρ h0 2) = .inl (κ 0, 12967, .inl g27) := (k176 _ (tp_ne y1 y22 (by decide))).trans hk155k
                    have hf_182 : f175 (ρ h0 43) = .inl (κ 1, 192, .inr (.inl g56)) := (k176 _ (tp_ne y18 y22 (by decide))).trans hk156k
                    have hf_183 : f175 (ρ h0 44) = .inl (κ 0, 192, .inl g58) := (k176 _ (tp_ne y19 y22 (by decide))).trans hk157k
                    have hf_184 : f175 (ρ h0 51) = .inl (κ 0, 6, .inl g98) := (k176 _ (tp_ne y24 y22 (by decide))).trans hk158k
                    have hf_185 : f175 (ρ h0 52) = .inl (κ 0, 3, .inl g100) := (k176 _ (tp_ne y25 y22 (by decide))).trans hk159k
                    exact ih163 _ _ _ _ (by rw [hn164]; omega) ⟨f175, z180, rfl, hT, hR, hf_181, hf_182, hf_183, hf_184, hf_185, (by simp only [g177, mo_i1, mo_l1]; exact (show ∀ d, 0 ≤ d → d < (z180.toInt) → (mo_R g178) d = (mo_R g98) d from (fun d d0 d1 => by rcases hU179.at d d0 with ⟨z0, a0⟩ | ⟨z0, a0⟩ <;> first | (rw [a0, z0]; omega) | (rw [a0]; exact jf165 d d0 (by omega))))), (by omega), hP, hD, hS, lv_sub hl [0, 1, 2, 3, 4, 5, 6, 7, 8, 9, 10] rfl⟩
                · have ic151 : w104.toInt ≤ w69.toInt := zl_gtf rfl rfl c151
                  refine lv_lload hx hb dX12_best_225 (lv_at hl 1 rfl) ?_
                  refine lv_lload hx hb dX12_best_227 (lv_at hl 5 rfl) ?_
                  refine W.lcmp hx hb dX12_best_229 ?_
                  refine lv_if_ne (tgt := 277) hx hb dX12_best_230 (by decide) (fun c186 => ?_) (fun c186 => ?_)
                  · have ic186 : w104.toInt ≠ w69.toInt := zl_ne rfl rfl c186
                    obtain ⟨z187, ez187⟩ : ∃ y : Int32, y = w67 + 1 := ⟨_, rfl⟩
                    refine lv_iinc (v := z187) (lv' := [(8, .int z187), (12, .int w103), (10, .long w104), (9, .int r93), (7, .int w68), (5, .long w69), (4, .int w61), (3, .int r42), (2, .int z40), (0, .ref h0), (1, .int v)]) hx hb dX12_best_277 hl (k := 3) rfl (by rw [ez187]; rfl) (by decide) rfl (fun ls hl => ?_)
                    have iz187 : z187.toInt = w67.toInt + 1 := zi_add ez187 rfl rfl (by omega) (by omega)
                    refine lv_goto (tgt := 113) hx hb dX12_best_280 (by decide) ?_
                    have hf_188 : f95 (ρ h0 49) = .inl (κ 0, 6, .inl g83) := (hF96 _ (by rw [y22]; decide)).trans hf_o82
                    have hf_189 : f95 (ρ h0 43) = .inl (κ 1, 192, .inr (.inl g56)) := (hF96 _ (by rw [y18]; decide)).trans hk73k
                    have hf_190 : f95 (ρ h0 44) = .inl (κ 0, 192, .inl g58) := (hF96 _ (by rw [y19]; decide)).trans hk74k
                    exact ih79 _ _ _ _ (by rw [hn80]; omega) ⟨f95, z187, w68, w69, rfl, hT, hR, hf_102, hf_189, hf_190, (by simp only [hf_188, mo_i1, mo_l1]; exact (show ((w69.toInt) ≠ -2000000000000000 → mo_BG (mo_R g83) (mo_RL g56) z40.toInt r42.toInt) from (by first | exact jf81 | (intro q9; exact jf81 (by omega))))), (by omega), (by omega), (fun q9 => by have q8 := hlast0 (by omega); omega), hP, hD, hS, lv_sub hl [0, 4, 5, 6, 7, 8, 9, 10] rfl⟩
                  · have ic186 : w104.toInt = w69.toInt := zl_nef rfl rfl c186
                    refine lv_iload hx hb dX12_best_233 (lv_at hl 2 rfl) ?_
                    refine lv_iload hx hb dX12_best_235 (lv_at hl 4 rfl) ?_
                    refine lv_icmp_ge (tgt := 277) hx hb dX12_best_237 (by decide) (fun c191 => ?_) (fun c191 => ?_)
                    · have ic191 : r93.toInt ≥ w68.toInt := zi_ge rfl rfl c191
                      obtain ⟨z192, ez192⟩ : ∃ y : Int32, y = w67 + 1 := ⟨_, rfl⟩
                      refine lv_iinc (v := z192) (lv' := [(8, .int z192), (12, .int w103), (10, .long w104), (9, .int r93), (7, .int w68), (5, .long w69), (4, .int w61), (3, .int r42), (2, .int z40), (0, .ref h0), (1, .int v)]) hx hb dX12_best_277 hl (k := 3) rfl (by rw [ez192]; rfl) (by decide) rfl (fun ls hl => ?_)
                      have iz192 : z192.toInt = w67.toInt + 1 := zi_add ez192 rfl rfl (by omega) (by omega)
                      refine lv_goto (tgt := 113) hx hb dX12_best_280 (by decide) ?_
                      have hf_193 : f95 (ρ h0 49) = .inl (κ 0, 6, .inl g83) := (hF96 _ (by rw [y22]; decide)).trans hf_o82
                      have hf_194 : f95 (ρ h0 43) = .inl (κ 1, 192, .inr (.inl g56)) := (hF96 _ (by rw [y18]; decide)).trans hk73k
                      have hf_195 : f95 (ρ h0 44) = .inl (κ 0, 192, .inl g58) := (hF96 _ (by rw [y19]; decide)).trans hk74k
                      exact ih79 _ _ _ _ (by rw [hn80]; omega) ⟨f95, z192, w68, w69, rfl, hT, hR, hf_102, hf_194, hf_195, (by simp only [hf_193, mo_i1, mo_l1]; exact (show ((w69.toInt) ≠ -2000000000000000 → mo_BG (mo_R g83) (mo_RL g56) z40.toInt r42.toInt) from (by first | exact jf81 | (intro q9; exact jf81 (by omega))))), (by omega), (by omega), (fun q9 => by have q8 := hlast0 (by omega); omega), hP, hD, hS, lv_sub hl [0, 4, 5, 6, 7, 8, 9, 10] rfl⟩
                    · have ic191 : r93.toInt < w68.toInt := zi_gef rfl rfl c191
                      refine lv_lload hx hb dX12_best_240 (lv_at hl 1 rfl) ?_
                      refine lv_lstore (lv' := [(5, .long w104), (12, .int w103), (10, .long w104), (9, .int r93), (8, .int w67), (7, .int w68), (4, .int w61), (3, .int r42), (2, .int z40), (0, .ref h0), (1, .int v)]) hx hb dX12_best_242 hl (by decide) rfl (fun ls hl => ?_)
                      refine lv_iload hx hb dX12_best_244 (lv_at hl 3 rfl) ?_
                      refine lv_istore (lv' := [(7, .int r93), (5, .long w104), (12, .int w103), (10, .long w104), (9, .int r93), (8, .int w67), (4, .int w61), (3, .int r42), (2, .int z40), (0, .ref h0), (1, .int v)]) hx hb dX12_best_246 hl (by decide) rfl (fun ls hl => ?_)
                      refine lv_iconst (v := 0) hx hb dX12_best_248 (by decide) ?_
                      refine lv_istore (lv' := [(12, .int 0), (7, .int r93), (5, .long w104), (10, .long w104), (9, .int r93), (8, .int w67), (4, .int w61), (3, .int r42), (2, .int z40), (0, .ref h0), (1, .int v)]) hx hb dX12_best_249 hl (by decide) rfl (fun ls hl => ?_)
                      have hf_197 : f95 (ρ h0 43) = .inl (κ 1, 192, .inr (.inl g56)) := (hF96 _ (by rw [y18]; decide)).trans hk73k
                      have hf_198 : f95 (ρ h0 44) = .inl (κ 0, 192, .inl g58) := (hF96 _ (by rw [y19]; decide)).trans hk74k
                      have hf_204 : f95 (ρ h0 49) = .inl (κ 0, 6, .inl g83) := (hF96 _ (by rw [y22]; decide)).trans hf_o82
                      refine pz_loop (fun n0 H locs ls => ∃ f205 : Nat → va_E, ∃ w196 : Int32, n0 = (6 - (w196.toInt)).toNat ∧ tp_T (mo_O κ) κ τ ν ρ f205 ∧ tp_F τ [13, 69, 70, 71, 72, 73, 74, 75, 76, 79, 80, 81, 82] f f205 ∧ f205 (ρ h0 2) = .inl (κ 0, 12967, .inl g27) ∧ f205 (ρ h0 43) = .inl (κ 1, 192, .inr (.inl g56)) ∧ f205 (ρ h0 44) = .inl (κ 0, 192, .inl g58) ∧ f205 (ρ h0 51) = .inl (κ 0, 6, .inl g98) ∧ f205 (ρ h0 52) = .inl (κ 0, 3, .inl g100) ∧ ((∀ d, 0 ≤ d → d < (w196.toInt) → (mo_R (mo_i (f205 (ρ h0 49)))) d = (mo_R g98) d)) ∧ (0 ≤ w196.toInt ∧ w196.toInt ≤ 6) ∧ va_P (dC, dI) vwCl (va_pl L f205) H ∧ va_D A (va_pl L f205) ∧ va_S A s.heap H locs ∧ lv_has ls 15 [(12, .int w196), (7, .int r93), (5, .long w104), (10, .long w104), (9, .int r93), (8, .int w67), (4, .int w61), (3, .int r42), (2, .int z40), (0, .ref h0), (1, .int v)]) ?_ _ _ _ _ ⟨f95, 0, rfl, hT, hR, hf_102, hf_197, hf_198, hf_o97, hf_o99, (by simp only [hf_204, mo_i1, mo_l1]; exact (show ∀ d, 0 ≤ d → d < (0 : Int32).toInt → (mo_R g83) d = (mo_R g98) d from (fun d d0 d1 => absurd d1 (by have : (0 : Int32).toInt = 0 := rfl; omega)))), (by have : (0 : Int32).toInt = 0 := rfl; omega), hP, hD, hS, lv_sub hl [0, 1, 2, 3, 4, 5, 6, 7, 8, 9, 10] rfl⟩
                      intro n0 H locs ls hI ih207
                      obtain ⟨f205, w196, hn208, hT, hR, hk199k, hk200k, hk201k, hk202k, hk203k, jf209, rw196, hP, hD, hS, hl⟩ := hI
                      obtain ⟨g211, hf_o210⟩ := tpo_79 hT y22
                      have jf209 : ∀ d, 0 ≤ d → d < (w196.toInt) → (mo_R g211) d = (mo_R g98) d := by have q9 := jf209; simp only [hf_o210, mo_i1, mo_l1] at q9; exact q9
                      refine lv_iload hx hb dX12_best_251 (lv_at hl 0 rfl) ?_
                      refine lv_iload_n hx hb dX12_best_253 rfl (lv_at hl 8 rfl) ?_
                      refine lv_icmp_ge (tgt := 277) hx hb dX12_best_254 (by decide) (fun c212 => ?_) (fun c212 => ?_)
                      · have ic212 : w196.toInt ≥ z40.toInt := zi_ge rfl rfl c212
                        obtain ⟨z213, ez213⟩ : ∃ y : Int32, y = w67 + 1 := ⟨_, rfl⟩
                        refine lv_iinc (v := z213) (lv' := [(8, .int z213), (12, .int w196), (7, .int r93), (5, .long w104), (10, .long w104), (9, .int r93), (4, .int w61), (3, .int r42), (2, .int z40), (0, .ref h0), (1, .int v)]) hx hb dX12_best_277 hl (k := 5) rfl (by rw [ez213]; rfl) (by decide) rfl (fun ls hl => ?_)
                        have iz213 : z213.toInt = w67.toInt + 1 := zi_add ez213 rfl rfl (by omega) (by omega)
                        refine lv_goto (tgt := 113) hx hb dX12_best_280 (by decide) ?_
                        exact ih79 _ _ _ _ (by rw [hn80]; omega) ⟨f205, z213, r93, w104, rfl, hT, hR, hk199k, hk200k, hk201k, (by simp only [hf_o210, mo_i1, mo_l1]; exact (show ((w104.toInt) ≠ -2000000000000000 → mo_BG (mo_R g211) (mo_RL g56) z40.toInt r42.toInt) from (fun _ => mo_BG.of hSB (by omega) (by omega) (fun d d0 d1 => jf209 d d0 (by omega)) (fun t t0 t1 => k106 (by omega) t t0 (by omega))))), (by omega), (by omega), (fun q9 => by have q8 := hlast0 (by omega); omega), hP, hD, hS, lv_sub hl [0, 2, 3, 6, 7, 8, 9, 10] rfl⟩
                      · have ic212 : w196.toInt < z40.toInt := zi_gef rfl rfl c212
                        refine lv_aload_n hx hb dX12_best_257 rfl (lv_at hl 9 rfl) ?_
                        obtain ⟨o214_x0, o214_x1, o214_x7, o214_x9, o214_x10, o214_x11, o214_x12, o214_x13, o214_x14, o214_x15, o214_x16, o214_x17, o214_x18, o214_x19, o214_x20, o214_x22, o214_x25, o214_x28, o214_x29, o214_x32, o214_x33, o214_x34, o214_x35, o214_x36, o214_x37, o214_x38, o214_x47, o214_x48, hf_o214, ro214_0, ro214_1, ro214_2, ro214_3, ro214_4, ro214_5, ro214_6, ro214_7, ro214_8, ro214_9, ro214_10, ro214_11, ro214_12, ro214_13⟩ := tpo_13 hT ht_h0
                        obtain ⟨q215, eq215⟩ := tp_pos (tp_in hG ht_h0 (by decide)) hf_o214
                        refine va_get (D := (dC, dI)) (ci := 12) (v := .ref (ρ h0 49)) (C := RX12) (T := TX12) (N := 53) hx hb hts hfX12 hown hK hP q215 eq215 rfl 49 (by decide) (hts (.fieldLink RX12 79 "ColdShipsModel" "bestShip" "[I") wa_171) (fun _ h9 => h9) rfl dX12_best_258 ?_
                        refine lv_iload hx hb dX12_best_261 (lv_at hl 0 rfl) ?_
                        refine lv_aload_n hx hb dX12_best_263 rfl (lv_at hl 9 rfl) ?_
                        refine va_get (D := (dC, dI)) (ci := 12) (v := .ref (ρ h0 51)) (C := RX12) (T := TX12) (N := 53) hx hb hts hfX12 hown hK hP q215 eq215 rfl 51 (by decide) (hts (.fieldLink RX12 85 "ColdShipsModel" "chosen" "[I") wa_173) (fun _ h9 => h9) rfl dX12_best_264 ?_
                        refine lv_iload hx hb dX12_best_267 (lv_at hl 0 rfl) ?_
                        obtain ⟨q216, eq216⟩ := tp_pos (tp_in hG y24 (by decide)) hk202k
                        refine va_iald hx hb hK hP q216 0 eq216 rfl (vp_in_iff.mpr ⟨by omega, by omega⟩) dX12_best_269 ?_
                        refine lv_topi (fun z217 ez217 => ?_)
                        have jz217 : z217.toInt = mo_R g98 w196.toInt := mo_rd ez217 (by omega)
                        obtain ⟨q218, eq218⟩ := tp_pos (tp_in hG y22 (by decide)) hf_o210
                        refine va_iast hx hb hK hP hD hS q218 0 eq218 rfl (vp_in_iff.mpr ⟨by omega, by omega⟩) dX12_best_270 (tp_k (.inl (κ 0, 6, .inl (upd g211 w196.toNatClampNeg z217))) hD (tp_in hG y22 (by decide)) eq218 (fun f219 H locs hP hD hS g221 k220 => ?_))
                        have hT := hT.up y22 g221 k220 tp_o79
                        have hR := hR.up y22 (by decide) k220
                        have hU223 : mo_U (mo_R g211) (mo_R (upd g211 w196.toNatClampNeg z217)) (w196.toInt) (z217.toInt) := mo_up (by omega) (rfl : z217.toInt = _) (by omega)
                        generalize (upd g211 w196.toNatClampNeg z217) = g222 at g221 hU223
                        obtain ⟨z224, ez224⟩ : ∃ y : Int32, y = w196 + 1 := ⟨_, rfl⟩
                        refine lv_iinc (v := z224) (lv' := [(12, .int z224), (7, .int r93), (5, .long w104), (10, .long w104), (9, .int r93), (8, .int w67), (4, .int w61), (3, .int r42), (2, .int z40), (0, .ref h0), (1, .int v)]) hx hb dX12_best_271 hl (k := 0) rfl (by rw [ez224]; rfl) (by decide) rfl (fun ls hl => ?_)
                        have iz224 : z224.toInt = w196.toInt + 1 := zi_add ez224 rfl rfl (by omega) (by omega)
                        refine lv_goto (tgt := 251) hx hb dX12_best_274 (by decide) ?_
                        have hf_225 : f219 (ρ h0 2) = .inl (κ 0, 12967, .inl g27) := (k220 _ (tp_ne y1 y22 (by decide))).trans hk199k
                        have hf_226 : f219 (ρ h0 43) = .inl (κ 1, 192, .inr (.inl g56)) := (k220 _ (tp_ne y18 y22 (by decide))).trans hk200k
                        have hf_227 : f219 (ρ h0 44) = .inl (κ 0, 192, .inl g58) := (k220 _ (tp_ne y19 y22 (by decide))).trans hk201k
                        have hf_228 : f219 (ρ h0 51) = .inl (κ 0, 6, .inl g98) := (k220 _ (tp_ne y24 y22 (by decide))).trans hk202k
                        have hf_229 : f219 (ρ h0 52) = .inl (κ 0, 3, .inl g100) := (k220 _ (tp_ne y25 y22 (by decide))).trans hk203k
                        exact ih207 _ _ _ _ (by rw [hn208]; omega) ⟨f219, z224, rfl, hT, hR, hf_225, hf_226, hf_227, hf_228, hf_229, (by simp only [g221, mo_i1, mo_l1]; exact (show ∀ d, 0 ≤ d → d < (z224.toInt) → (mo_R g222) d = (mo_R g98) d from (fun d d0 d1 => by rcases hU223.at d d0 with ⟨z0, a0⟩ | ⟨z0, a0⟩ <;> first | (rw [a0, z0]; omega) | (rw [a0]; exact jf209 d d0 (by omega))))), (by omega), hP, hD, hS, lv_sub hl [0, 1, 2, 3, 4, 5, 6, 7, 8, 9, 10] rfl⟩
          · have ic110 : w103.toInt < r42.toInt := zi_gef rfl rfl c110
            refine lv_lload hx hb dX12_best_142 (lv_at hl 1 rfl) ?_
            refine lv_ldc2 (own := RX12) (v := (-2000000000000000)) hx hb hown (hts (.constantLong RX12 466 (-2000000000000000)) wa_1189) dX12_best_144 ?_
            refine W.lcmp hx hb dX12_best_147 ?_
            refine lv_if_eq (tgt := 199) hx hb dX12_best_148 (by decide) (fun c230 => ?_) (fun c230 => ?_)
            · have ic230 : w104.toInt = (-2000000000000000) := zl_eq rfl rfl c230
              have hlast0 : w67.toInt + 1 = w61.toInt → w104.toInt = 0 := fun q9 => k107 (by omega)
              refine lv_lload hx hb dX12_best_199 (lv_at hl 1 rfl) ?_
              refine lv_ldc2 (own := RX12) (v := (-2000000000000000)) hx hb hown (hts (.constantLong RX12 466 (-2000000000000000)) wa_1189) dX12_best_201 ?_
              refine W.lcmp hx hb dX12_best_204 ?_
              refine lv_if_eq (tgt := 277) hx hb dX12_best_205 (by decide) (fun c231 => ?_) (fun c231 => ?_)
              · have ic231 : w104.toInt = (-2000000000000000) := zl_eq rfl rfl c231
                obtain ⟨z232, ez232⟩ : ∃ y : Int32, y = w67 + 1 := ⟨_, rfl⟩
                refine lv_iinc (v := z232) (lv' := [(8, .int z232), (12, .int w103), (10, .long w104), (9, .int r93), (7, .int w68), (5, .long w69), (4, .int w61), (3, .int r42), (2, .int z40), (0, .ref h0), (1, .int v)]) hx hb dX12_best_277 hl (k := 3) rfl (by rw [ez232]; rfl) (by decide) rfl (fun ls hl => ?_)
                have iz232 : z232.toInt = w67.toInt + 1 := zi_add ez232 rfl rfl (by omega) (by omega)
                refine lv_goto (tgt := 113) hx hb dX12_best_280 (by decide) ?_
                have hf_233 : f95 (ρ h0 49) = .inl (κ 0, 6, .inl g83) := (hF96 _ (by rw [y22]; decide)).trans hf_o82
                have hf_234 : f95 (ρ h0 43) = .inl (κ 1, 192, .inr (.inl g56)) := (hF96 _ (by rw [y18]; decide)).trans hk73k
                have hf_235 : f95 (ρ h0 44) = .inl (κ 0, 192, .inl g58) := (hF96 _ (by rw [y19]; decide)).trans hk74k
                exact ih79 _ _ _ _ (by rw [hn80]; omega) ⟨f95, z232, w68, w69, rfl, hT, hR, hf_102, hf_234, hf_235, (by simp only [hf_233, mo_i1, mo_l1]; exact (show ((w69.toInt) ≠ -2000000000000000 → mo_BG (mo_R g83) (mo_RL g56) z40.toInt r42.toInt) from (by first | exact jf81 | (intro q9; exact jf81 (by omega))))), (by omega), (by omega), (fun q9 => by have q8 := hlast0 (by omega); omega), hP, hD, hS, lv_sub hl [0, 4, 5, 6, 7, 8, 9, 10] rfl⟩
              · have ic231 : w104.toInt ≠ (-2000000000000000) := zl_eqf rfl rfl c231
                exfalso; omega
            · have ic230 : w104.toInt ≠ (-2000000000000000) := zl_eqf rfl rfl c230
              refine lv_aload_n hx hb dX12_best_151 rfl (lv_at hl 9 rfl) ?_
              have hf_236 : f95 h0 = .inr (12, [.int o91_x0, .int o91_x1, .ref (ρ h0 2), .ref (ρ h0 3), .ref (ρ h0 4), .ref (ρ h0 5), .ref (ρ h0 6), .int o91_x7, .ref (ρ h0 8), .int o91_x9, .int o91_x10, .int o91_x11, .int o91_x12, .long o91_x13, .int o91_x14, .int o91_x15, .int o91_x16, .int o91_x17, .int o91_x18, .int o91_x19, .int o91_x20, .ref (ρ h0 21), .int o91_x22, .ref (ρ h0 23), .ref (ρ h0 24), .int o91_x25, .ref (ρ h0 26), .ref (ρ h0 27), .int o91_x28, .int o91_x29, .ref (ρ h0 30), .ref (ρ h0 31), .int o91_x32, .long o91_x33, .long o91_x34, .long o91_x35, .int o91_x36, .int o91_x37, .int o91_x38, .ref (ρ h0 39), .ref (ρ h0 40), .ref (ρ h0 41), .ref (ρ h0 42), .ref (ρ h0 43), .ref (ρ h0 44), .ref (ρ h0 45), .ref (ρ h0 46), .int o91_x47, .int o91_x48, .ref (ρ h0 49), .ref (ρ h0 50), .ref (ρ h0 51), .ref (ρ h0 52)]) := (hF96 _ (by rw [ht_h0]; decide)).trans hf_o91
              obtain ⟨q237, eq237⟩ := tp_pos (tp_in hG ht_h0 (by decide)) hf_236
              refine va_get (D := (dC, dI)) (ci := 12) (v := .ref (ρ h0 43)) (C := RX12) (T := TX12) (N := 53) hx hb hts hfX12 hown hK hP q237 eq237 rfl 43 (by decide) (hts (.fieldLink RX12 67 "ColdShipsModel" "bestOf" "[J") wa_167) (fun _ h9 => h9) rfl dX12_best_152 ?_
              refine lv_bipush (v := 64) hx hb dX12_best_155 (by decide) ?_
              refine lv_iload hx hb dX12_best_157 (lv_at hl 0 rfl) ?_
              refine lv_imul hx hb dX12_best_159 ?_
              refine lv_topi (fun z238 ez238 => ?_)
              have iz238 : z238.toInt = 64 * w103.toInt := zi_mul ez238 rfl rfl (by omega) (by omega)
              refine lv_aload_n hx hb dX12_best_160 rfl (lv_at hl 9 rfl) ?_
              refine va_get (D := (dC, dI)) (ci := 12) (v := .ref (ρ h0 52)) (C := RX12) (T := TX12) (N := 53) hx hb hts hfX12 hown hK hP q237 eq237 rfl 52 (by decide) (hts (.fieldLink RX12 88 "ColdShipsModel" "sets" "[I") wa_174) (fun _ h9 => h9) rfl dX12_best_161 ?_
              refine lv_iload hx hb dX12_best_164 (lv_at hl 0 rfl) ?_
              obtain ⟨q239, eq239⟩ := tp_pos (tp_in hG y25 (by decide)) hf_o99
              refine va_iald hx hb hK hP q239 0 eq239 rfl (vp_in_iff.mpr ⟨by omega, by omega⟩) dX12_best_166 ?_
              refine lv_topi (fun z240 ez240 => ?_)
              have jz240 : z240.toInt = mo_R g100 w103.toInt := mo_rd ez240 (by omega)
              have hsr := (hSB.2 w103.toInt (by omega) (by omega)).1
              refine lv_iadd hx hb dX12_best_167 ?_
              refine lv_topi (fun z241 ez241 => ?_)
              have iz241 : z241.toInt = z238.toInt + z240.toInt := zi_add ez241 rfl rfl (by omega) (by omega)
              have hf_242 : f95 (ρ h0 43) = .inl (κ 1, 192, .inr (.inl g56)) := (hF96 _ (by rw [y18]; decide)).trans hk73k
              obtain ⟨q243, eq243⟩ := tp_pos (tp_in hG y18 (by decide)) hf_242
              refine va_lald hx hb hK hP q243 1 eq243 rfl (vp_in_iff.mpr ⟨by omega, by omega⟩) dX12_best_168 ?_
              refine lv_topl (fun z244 ez244 => ?_)
              have jz244 : z244.toInt = mo_RL g56 (64 * w103.toInt + z240.toInt) := mo_rdL ez244 (by omega)
              refine lv_lstore (lv' := [(13, .long z244), (12, .int w103), (10, .long w104), (9, .int r93), (8, .int w67), (7, .int w68), (5, .long w69), (4, .int w61), (3, .int r42), (2, .int z40), (0, .ref h0), (1, .int v)]) hx hb dX12_best_169 hl (by decide) rfl (fun ls hl => ?_)
              refine lv_lload hx hb dX12_best_171 (lv_at hl 0 rfl) ?_
              refine lv_ldc2 (own := RX12) (v := (-2000000000000000)) hx hb hown (hts (.constantLong RX12 466 (-2000000000000000)) wa_1189) dX12_best_173 ?_
              refine W.lcmp hx hb dX12_best_176 ?_
              refine lv_if_ne (tgt := 186) hx hb dX12_best_177 (by decide) (fun c245 => ?_) (fun c245 => ?_)
              · have ic245 : z244.toInt ≠ (-2000000000000000) := zl_ne rfl rfl c245
                refine lv_lload hx hb dX12_best_186 (lv_at hl 2 rfl) ?_
                refine lv_lload hx hb dX12_best_188 (lv_at hl 0 rfl) ?_
                refine lv_ladd hx hb dX12_best_190 ?_
                refine lv_topl (fun z246 ez246 => ?_)
                refine lv_lstore (lv' := [(10, .long z246), (13, .long z244), (12, .int w103), (9, .int r93), (8, .int w67), (7, .int w68), (5, .long w69), (4, .int w61), (3, .int r42), (2, .int z40), (0, .ref h0), (1, .int v)]) hx hb dX12_best_191 hl (by decide) rfl (fun ls hl => ?_)
                obtain ⟨z247, ez247⟩ : ∃ y : Int32, y = w103 + 1 := ⟨_, rfl⟩
                refine lv_iinc (v := z247) (lv' := [(12, .int z247), (10, .long z246), (13, .long z244), (9, .int r93), (8, .int w67), (7, .int w68), (5, .long w69), (4, .int w61), (3, .int r42), (2, .int z40), (0, .ref h0), (1, .int v)]) hx hb dX12_best_193 hl (k := 2) rfl (by rw [ez247]; rfl) (by decide) rfl (fun ls hl => ?_)
                have iz247 : z247.toInt = w103.toInt + 1 := zi_add ez247 rfl rfl (by omega) (by omega)
                refine lv_goto (tgt := 136) hx hb dX12_best_196 (by decide) ?_
                exact ih108 _ _ _ _ (by rw [hn109]; omega) ⟨z247, z246, rfl, (by omega), (by omega), (fun q9 t t0 t1 => by rcases (show t < w103.toInt ∨ t = w103.toInt by omega) with q8 | rfl; (exact k106 (by omega) t t0 q8); (rw [← jz240, ← jz244]; omega)), (fun q9 => by have q7 := hLST (by omega) w103.toInt (by omega) (by omega); have q6 := (hTB w103.toInt 0 (by omega) (by omega) (by omega) (by omega)).2 rfl; have q5 : 64 * w103.toInt + z240.toInt = 64 * w103.toInt + 0 := by omega; rw [q5] at jz244; have q4 := k107 (by omega); have q3 := zl_add ez246 (rfl : w104.toInt = _) (rfl : z244.toInt = _) (by omega) (by omega); omega), hP, hD, hS, lv_sub hl [0, 1, 3, 4, 5, 6, 7, 8, 9, 10, 11] rfl⟩
              · have ic245 : z244.toInt = (-2000000000000000) := zl_nef rfl rfl c245
                refine lv_ldc2 (own := RX12) (v := (-2000000000000000)) hx hb hown (hts (.constantLong RX12 466 (-2000000000000000)) wa_1189) dX12_best_180 ?_
                refine lv_goto (tgt := 191) hx hb dX12_best_183 (by decide) ?_
                refine lv_lstore (lv' := [(10, .long (-2000000000000000)), (13, .long z244), (12, .int w103), (9, .int r93), (8, .int w67), (7, .int w68), (5, .long w69), (4, .int w61), (3, .int r42), (2, .int z40), (0, .ref h0), (1, .int v)]) hx hb dX12_best_191 hl (by decide) rfl (fun ls hl => ?_)
                obtain ⟨z248, ez248⟩ : ∃ y : Int32, y = w103 + 1 := ⟨_, rfl⟩
                refine lv_iinc (v := z248) (lv' := [(12, .int z248), (10, .long (-2000000000000000)), (13, .long z244), (9, .int r93), (8, .int w67), (7, .int w68), (5, .long w69), (4, .int w61), (3, .int r42), (2, .int z40), (0, .ref h0), (1, .int v)]) hx hb dX12_best_193 hl (k := 2) rfl (by rw [ez248]; rfl) (by decide) rfl (fun ls hl => ?_)
                have iz248 : z248.toInt = w103.toInt + 1 := zi_add ez248 rfl rfl (by omega) (by omega)
                refine lv_goto (tgt := 136) hx hb dX12_best_196 (by decide) ?_
                exact ih108 _ _ _ _ (by rw [hn109]; omega) ⟨z248, (-2000000000000000), rfl, (by have : ((-2000000000000000) : Int64).toInt = (-2000000000000000) := rfl; omega), (by have : ((-2000000000000000) : Int64).toInt = (-2000000000000000) := rfl; omega), (fun q9 => absurd (by decide) q9), (fun q9 => by have q7 := hLST (by omega) w103.toInt (by omega) (by omega); have q6 := (hTB w103.toInt 0 (by omega) (by omega) (by omega) (by omega)).2 rfl; have q5 : 64 * w103.toInt + z240.toInt = 64 * w103.toInt + 0 := by omega; rw [q5] at jz244; have q4 := k107 (by omega); exfalso; omega), hP, hD, hS, lv_sub hl [0, 1, 3, 4, 5, 6, 7, 8, 9, 10, 11] rfl⟩
      · have ic66 : w60.toInt < z40.toInt := zi_gef rfl rfl c66
        refine lv_iload hx hb dX12_best_88 (lv_at hl 1 rfl) ?_
        refine lv_iload_n hx hb dX12_best_90 rfl (lv_at hl 2 rfl) ?_
        refine lv_iconst (v := 1) hx hb dX12_best_91 (by decide) ?_
        refine lv_iadd hx hb dX12_best_92 ?_
        refine lv_topi (fun z249 ez249 => ?_)
        have iz249 : z249.toInt = r42.toInt + 1 := zi_add ez249 rfl rfl (by omega) (by omega)
        refine lv_imul hx hb dX12_best_93 ?_
        refine lv_topi (fun z250 ez250 => ?_)
        have iz250 : z250.toInt = mo_pw r42.toInt (w60.toInt + 1).toNat := zi_pw ez250 k63 (by omega) (by omega) (by omega) (by omega) rfl
        refine lv_istore (lv' := [(4, .int z250), (5, .int w60), (3, .int r42), (2, .int z40), (0, .ref h0), (1, .int v)]) hx hb dX12_best_94 hl (by decide) rfl (fun ls hl => ?_)
        obtain ⟨z251, ez251⟩ : ∃ y : Int32, y = w60 + 1 := ⟨_, rfl⟩
        refine lv_iinc (v := z251) (lv' := [(5, .int z251), (4, .int z250), (3, .int r42), (2, .int z40), (0, .ref h0), (1, .int v)]) hx hb dX12_best_96 hl (k := 1) rfl (by rw [ez251]; rfl) (by decide) rfl (fun ls hl => ?_)
        have iz251 : z251.toInt = w60.toInt + 1 := zi_add ez251 rfl rfl (by omega) (by omega)
        refine lv_goto (tgt := 82) hx hb dX12_best_99 (by decide) ?_
        exact ih64 _ _ _ _ (by rw [hn65]; omega) ⟨z251, z250, rfl, (by omega), (by omega), (by omega), (zi_pw ez250 k63 (by omega) (by omega) (by omega) (by omega) (by omega)), hP, hD, hS, lv_sub hl [0, 1, 2, 3, 4, 5] rfl⟩
    · have ic59 : w44.toInt < r42.toInt := zi_gef rfl rfl c59
      refine lv_iconst (v := 0) hx hb dX12_best_44 (by decide) ?_
      refine lv_istore (lv' := [(5, .int 0), (4, .int w44), (3, .int r42), (2, .int z40), (0, .ref h0), (1, .int v)]) hx hb dX12_best_45 hl (by decide) rfl (fun ls hl => ?_)
      refine pz_loop (fun n0 H locs ls => ∃ f254 : Nat → va_E, ∃ w252 : Int32, n0 = (64 - (w252.toInt)).toNat ∧ tp_T (mo_O κ) κ τ ν ρ f254 ∧ tp_F τ [13, 69, 70, 71, 72, 73, 74, 75, 76, 79, 80, 81, 82] f f254 ∧ f254 (ρ h0 2) = .inl (κ 0, 12967, .inl g27) ∧ ((mo_TB (mo_RL (mo_l (f254 (ρ h0 43)))) (mo_R (mo_i (f254 (ρ h0 44)))) (w44.toInt) (w252.toInt) (mo_P2 z40.toInt))) ∧ (0 ≤ w252.toInt ∧ w252.toInt ≤ 64) ∧ va_P (dC, dI) vwCl (va_pl L f254) H ∧ va_D A (va_pl L f254) ∧ va_S A s.heap H locs ∧ lv_has ls 15 [(5, .int w252), (4, .int w44), (3, .int r42), (2, .int z40), (0, .ref h0), (1, .int v)]) ?_ _ _ _ _ ⟨f50, 0, rfl, hT, hR, hk45k, (by simp only [hf_o55, hf_o57, mo_i1, mo_l1]; exact (show mo_TB (mo_RL g56) (mo_R g58) (w44.toInt) (0 : Int32).toInt (mo_P2 z40.toInt) from jf54)), (by have : (0 : Int32).toInt = 0 := rfl; omega), hP, hD, hS, lv_sub hl [0, 1, 2, 3, 4, 5] rfl⟩
      intro n0 H locs ls hI ih256
      obtain ⟨f254, w252, hn257, hT, hR, hk253k, jf258, rw252, hP, hD, hS, hl⟩ := hI
      obtain ⟨g260, hf_o259⟩ := tpo_73 hT y18
      obtain ⟨g262, hf_o261⟩ := tpo_74 hT y19
      have jf258 : mo_TB (mo_RL g260) (mo_R g262) (w44.toInt) (w252.toInt) (mo_P2 z40.toInt) := by have q9 := jf258; simp only [hf_o259, hf_o261, mo_i1, mo_l1] at q9; exact q9
      refine lv_iload hx hb dX12_best_47 (lv_at hl 0 rfl) ?_
      refine lv_iconst (v := 1) hx hb dX12_best_49 (by decide) ?_
      refine lv_iload_n hx hb dX12_best_50 rfl (lv_at hl 3 rfl) ?_
      refine lv_ishl hx hb dX12_best_51 ?_
      refine lv_topi (fun z263 ez263 => ?_)
      have iz263 : 1 ≤ z263.toInt ∧ z263.toInt ≤ 64 := zb_shl6 ez263 rfl (by omega) (by omega)
      have hz2 := zb_P2 ez263 (by omega) (by omega)
      refine lv_icmp_ge (tgt := 70) hx hb dX12_best_52 (by decide) (fun c264 => ?_) (fun c264 => ?_)
      · have ic264 : w252.toInt ≥ z263.toInt := zi_ge rfl rfl c264
        obtain ⟨z265, ez265⟩ : ∃ y : Int32, y = w44 + 1 := ⟨_, rfl⟩
        refine lv_iinc (v := z265) (lv' := [(4, .int z265), (5, .int w252), (3, .int r42), (2, .int z40), (0, .ref h0), (1, .int v)]) hx hb dX12_best_70 hl (k := 1) rfl (by rw [ez265]; rfl) (by decide) rfl (fun ls hl => ?_)
        have iz265 : z265.toInt = w44.toInt + 1 := zi_add ez265 rfl rfl (by omega) (by omega)
        refine lv_goto (tgt := 38) hx hb dX12_best_73 (by decide) ?_
        exact ih52 _ _ _ _ (by rw [hn53]; omega) ⟨f254, z265, rfl, hT, hR, hk253k, (by simp only [hf_o259, hf_o261, mo_i1, mo_l1]; exact (show mo_TB (mo_RL g260) (mo_R g262) (z265.toInt) 0 (mo_P2 z40.toInt) from jf258.nx (by omega) (by omega) 0 rfl)), (by omega), hP, hD, hS, lv_sub hl [0, 2, 3, 4, 5] rfl⟩
      · have ic264 : w252.toInt < z263.toInt := zi_gef rfl rfl c264
        refine lv_aload_n hx hb dX12_best_55 rfl (lv_at hl 4 rfl) ?_
        refine lv_iload hx hb dX12_best_56 (lv_at hl 1 rfl) ?_
        refine lv_iload hx hb dX12_best_58 (lv_at hl 0 rfl) ?_
        refine lv_iload_n hx hb dX12_best_60 rfl (lv_at hl 5 rfl) ?_
        obtain ⟨o266_x0, o266_x1, o266_x7, o266_x9, o266_x10, o266_x11, o266_x12, o266_x13, o266_x14, o266_x15, o266_x16, o266_x17, o266_x18, o266_x19, o266_x20, o266_x22, o266_x25, o266_x28, o266_x29, o266_x32, o266_x33, o266_x34, o266_x35, o266_x36, o266_x37, o266_x38, o266_x47, o266_x48, hf_o266, ro266_0, ro266_1, ro266_2, ro266_3, ro266_4, ro266_5, ro266_6, ro266_7, ro266_8, ro266_9, ro266_10, ro266_11, ro266_12, ro266_13⟩ := tpo_13 hT ht_h0
        obtain ⟨q267, eq267⟩ := tp_pos (tp_in hG ht_h0 (by decide)) hf_o266
        have hFc := tp_fr hD hS hA
        refine va_callv (va_runV (As := [.int w44, .int w252, .int v]) (rest := []) ⟨hx, hb, hml, hown, hts⟩ (t_X12_findSet l dC dI _ κ τ ν ρ L f254 hG hT h0 w44 w252 v (-1) 0 ht_h0 (by omega) (by rw [hk253k, mo_i1]; exact hI) (by first | (simp only [hk253k, hf_o26, mo_i1]; omega) | simp only [hk253k, hf_o26, mo_i1] | omega) (by omega) (by omega) (by rw [hk253k, mo_i1, ← jz40]; omega)) (cwV 3 hts gX12_best_X12_findSet rfl rfl rfl ⟨rfl, pd_X12_findSet⟩ ⟨Nat.le_of_ble_eq_true rfl, Nat.le_of_ble_eq_true rfl⟩) ⟨pz_blind, va_recv hK hP (ci := 12) (q0 := q267) rfl eq267, pz_pre hP hK hD hN⟩ rfl rfl hl.1 rfl (lv_room (Nat.le_of_ble_eq_true rfl)) dX12_best_61 ⟨Nat.le_of_ble_eq_true rfl, Nat.le_of_ble_eq_true rfl⟩) hS (fun q _ h => hFc q h) hFc (fun f270 t H1 locs ht hvm hw269 hB hz1 hk1 hS => ?_)
        obtain ⟨hT, hF271, hw269p⟩ := hw269
        have hR := hR.then hF271 (by decide)
        have hP := hB.1; rw [ht] at hP; have hD := tp_ad f270 hD; clear hB hFc hz1 hk1; subst ht; generalize t.heap = H at hP hS ⊢
        obtain ⟨g273, hf_o272⟩ := tpo_73 hT y18
        obtain ⟨g275, hf_o274⟩ := tpo_74 hT y19
        have tk276 : ∃ m9 t9 : Int, mo_U (mo_RL g260) (mo_RL g273) (64 * w44.toInt + w252.toInt) m9 ∧ mo_U (mo_R g262) (mo_R g275) (64 * w44.toInt + w252.toInt) t9 ∧ (m9 ≠ -2000000000000000 → mo_GD t9 w252.toInt) ∧ (w252.toInt = 0 → m9 = 0) := by have q9 := hw269p; simp only [hf_o259, hf_o272, hf_o261, hf_o274, mo_i1, mo_l1] at q9; exact q9
        obtain ⟨m9, t9, hL9, hA9, h19, h29⟩ := tk276
        obtain ⟨z277, ez277⟩ : ∃ y : Int32, y = w252 + 1 := ⟨_, rfl⟩
        refine lv_iinc (v := z277) (lv' := [(5, .int z277), (4, .int w44), (3, .int r42), (2, .int z40), (0, .ref h0), (1, .int v)]) hx hb dX12_best_64 hl (k := 0) rfl (by rw [ez277]; rfl) (by decide) rfl (fun ls hl => ?_)
        have iz277 : z277.toInt = w252.toInt + 1 := zi_add ez277 rfl rfl (by omega) (by omega)
        refine lv_goto (tgt := 47) hx hb dX12_best_67 (by decide) ?_
        have hf_278 : f270 (ρ h0 2) = .inl (κ 0, 12967, .inl g27) := (hF271 _ (by rw [y1]; decide)).trans hk253k
        exact ih256 _ _ _ _ (by rw [hn257]; omega) ⟨f270, z277, rfl, hT, hR, hf_278, (by simp only [hf_o272, hf_o274, mo_i1, mo_l1]; exact (show mo_TB (mo_RL g273) (mo_R g275) (w44.toInt) (z277.toInt) (mo_P2 z40.toInt) from jf258.up hL9 hA9 (by omega) (by omega) (by omega) (by omega) h19 h29 (by omega))), (by omega), hP, hD, hS, lv_sub hl [0, 1, 2, 3, 4, 5] rfl⟩
  · have ic36 : r34.toInt = 0 := zi_nef rfl rfl c36
    refine lv_ldc2 (own := RX12) (v := (-1)) hx hb hown (hts (.constantLong RX12 158 (-1)) wa_557) dX12_best_12 ?_
    exact W.lret (v := (-1)) hx hb hr (fun t ht hW => ⟨⟨(-1), f30, rfl, ⟨hT, hR, trivial, trivial⟩, by rw [ht]; exact hP, va_K.moved hW.alike hK, hD⟩, hS.F ht⟩) hS.2.2 dX12_best_15
