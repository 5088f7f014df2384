set_option maxHeartbeats 4000000 in
set_option maxRecDepth 100000 in
theorem t_X12_best (l : Launch) (dC : Nat → ClassId) (dI : Nat → Nat → Nat) (sz : Nat) (κ : Nat → ClassId) (τ ν : Nat → Nat) (ρ : Nat → Nat → Nat) (L : List Nat) (f : Nat → va_E) (hG : tp_G τ ν ρ L) (hT : tp_T (mo_O κ) κ τ ν ρ f) (h0 : Nat) (v : Int32) (ht_h0 : τ h0 = 13) (hJ : mo_RI (-1) 0 (mo_R (mo_i (f (ρ h0 2))))) : Met l yX12_best wqX12_best ({ frames := 9, cells := 0, slots := 0, locals := 3200 }) (va_Pc [.ref h0, .int v] (pz_B dC dI (tp_K κ) (va_pl L f) sz)) (va_Ql (fun (r : Int64) (f1 : Nat → va_E) => tp_T (mo_O κ) κ τ ν ρ f1 ∧ tp_F τ [13, 69, 70, 71, 72, 73, 74, 75, 76, 79, 80, 81, 82] f f1 ∧ True ∧ True) (fun (f1 : Nat → va_E) (t : State) => pz_E dC dI (tp_K κ) (va_A (va_pl L f) sz) (va_pl L f1) t) (va_A (va_pl L f) sz)) 0 0 (va_A (va_pl L f) sz) := by
  refine Met.ofW (cc := cX12_best) (maxL := 15) (ret := some .long) (by decide) rfl ?_
  intro p e s m args below meth c s₁ B hml hv
  obtain ⟨rfl, hsz, hP, hK, hD0, hN⟩ := hv
  have hx := B.exec
  have hb := B.bytes
  have hr := B.returns
  have hts := fun (w : Cond) (h : w ∈ WALL) => atoms_spec (ws := wqX12_best) B.pre w (List.mem_cons_of_mem _ h)
  have hown : s.vm.findClass RX12 = some m.cls := findClass_of_methodNamed B.named
  have hlocks := B.notSynchronized
  subst hsz
  have hD := hD0.self (sz := s.heap.size)
  generalize hAe : va_A (va_pl L f) s.heap.size = A at hD ⊢
  have hA : ∀ q : Nat, s.heap.size ≤ q → A q := fun q h => by rw [← hAe]; exact Or.inr h
  have hS : va_S A s.heap s.heap [] := va_S.rf
  have hR : tp_F τ [13, 69, 70, 71, 72, 73, 74, 75, 76, 79, 80, 81, 82] f f := tp_F.rf
  have hl := lv_entry ([.ref h0, .int v]) (n := 15) (Nat.le_of_ble_eq_true rfl)
  rw [lg_entry_eq]
  generalize (lg_sl ([.ref h0, .int v]) ++ List.replicate (15 - (lg_sl ([.ref h0, .int v])).length) Slot.unset).toArray = ls at hl ⊢
  have hl : lv_has ls 15 [(0, .ref h0), (1, .int v)] := hl
  obtain ⟨y1, y2, y3, y4, y5, y6, y7, y8, y9, y10, y11, y12, y13, y14, y15, y16, y17, y18, y19, y20, y21, y22, y23, y24, y25⟩ := tpg_13 hG ht_h0
  obtain ⟨g27, hf_o26⟩ := tpo_32 hT y1
  have hI : mo_RI (-1) 0 (mo_R g27) := by have q9 := hJ; rw [hf_o26, mo_i1] at q9; exact q9
  refine lv_aload_n hx hb dX12_best_0 rfl (lv_at hl 0 rfl) ?_
  refine lv_iconst (v := 0) hx hb dX12_best_1 (by decide) ?_
  obtain ⟨o28_x0, o28_x1, o28_x7, o28_x9, o28_x10, o28_x11, o28_x12, o28_x13, o28_x14, o28_x15, o28_x16, o28_x17, o28_x18, o28_x19, o28_x20, o28_x22, o28_x25, o28_x28, o28_x29, o28_x32, o28_x33, o28_x34, o28_x35, o28_x36, o28_x37, o28_x38, o28_x47, o28_x48, hf_o28, ro28_0, ro28_1, ro28_2, ro28_3, ro28_4, ro28_5, ro28_6, ro28_7, ro28_8, ro28_9, ro28_10, ro28_11, ro28_12, ro28_13⟩ := tpo_13 hT ht_h0
  obtain ⟨q29, eq29⟩ := tp_pos (tp_in hG ht_h0 (by decide)) hf_o28
  refine va_put (D := (dC, dI)) (ci := 12) (v := .int 0) (ty := .int) (C := RX12) (T := TX12) (N := 53) hx hb hts hfX12 tyX12 tyX12_ok nmX12 hown hK hP hD hS q29 eq29 rfl 0 (by decide) (hts (.fieldLink RX12 91 "ColdShipsModel" "thrown" "I") wa_209) (fun _ h9 => h9) rfl (tyX12_ok 0 (by decide)) rfl rfl (Nat.le_of_ble_eq_true rfl) dX12_best_2 (tp_k (.inr (12, [.int 0, .int o28_x1, .ref (ρ h0 2), .ref (ρ h0 3), .ref (ρ h0 4), .ref (ρ h0 5), .ref (ρ h0 6), .int o28_x7, .ref (ρ h0 8), .int o28_x9, .int o28_x10, .int o28_x11, .int o28_x12, .long o28_x13, .int o28_x14, .int o28_x15, .int o28_x16, .int o28_x17, .int o28_x18, .int o28_x19, .int o28_x20, .ref (ρ h0 21), .int o28_x22, .ref (ρ h0 23), .ref (ρ h0 24), .int o28_x25, .ref (ρ h0 26), .ref (ρ h0 27), .int o28_x28, .int o28_x29, .ref (ρ h0 30), .ref (ρ h0 31), .int o28_x32, .long o28_x33, .long o28_x34, .long o28_x35, .int o28_x36, .int o28_x37, .int o28_x38, .ref (ρ h0 39), .ref (ρ h0 40), .ref (ρ h0 41), .ref (ρ h0 42), .ref (ρ h0 43), .ref (ρ h0 44), .ref (ρ h0 45), .ref (ρ h0 46), .int o28_x47, .int o28_x48, .ref (ρ h0 49), .ref (ρ h0 50), .ref (ρ h0 51), .ref (ρ h0 52)])) hD (tp_in hG ht_h0 (by decide)) eq29 (fun f30 H locs hP hD hS g32 k31 => ?_))
  have hT := hT.up ht_h0 g32 k31 ⟨_, _, _, _, _, _, _, _, _, _, _, _, _, _, _, _, _, _, _, _, _, _, _, _, _, _, _, _, rfl, ro28_0, ro28_1, ro28_2, ro28_3, ro28_4, ro28_5, ro28_6, ro28_7, ro28_8, ro28_9, ro28_10, ro28_11, ro28_12, ro28_13⟩
  have hR := hR.up ht_h0 (by decide) k31
  refine lv_iload_n hx hb dX12_best_5 rfl (lv_at hl 1 rfl) ?_
  have hf_33 : f30 (ρ h0 2) = .inl (κ 0, 12967, .inl g27) := (k31 _ (tp_ne y1 ht_h0 (by decide))).trans hf_o26
  refine pz_calli (va_runS (As := [.int v]) (rest := []) ⟨hx, hb, hml, hown, hts⟩ (t_X12_isHour l dC dI _ v (v.toInt) rfl) (va_cwS 1 hts gX12_best_X12_isHour rfl rfl rfl pd_X12_isHour ⟨Nat.le_of_ble_eq_true rfl, Nat.le_of_ble_eq_true rfl⟩) ⟨pz_blind, pz_pre pz_P0 (hK.sub (tys' := []) [] rfl) (pz_D0 (A := fun _ => True)) hN⟩ rfl rfl hl.1 rfl (lv_room (Nat.le_of_ble_eq_true rfl)) dX12_best_6 ⟨Nat.le_of_ble_eq_true rfl, Nat.le_of_ble_eq_true rfl⟩) (fun r34 hw35 => ?_)
  obtain ⟨hw35r, hw35p⟩ := hw35
  refine lv_if_ne (tgt := 16) hx hb dX12_best_9 (by decide) (fun c36 => ?_) (fun c36 => ?_)
  · have ic36 : r34.toInt ≠ 0 := zi_ne rfl rfl c36
    have p37 : 0 ≤ (v.toInt) ∧ (v.toInt) ≤ 2399 := (tp_cond.yes hw35p) (by omega)
    refine lv_aload_n hx hb dX12_best_16 rfl (lv_at hl 0 rfl) ?_
    obtain ⟨q38, eq38⟩ := tp_pos (tp_in hG ht_h0 (by decide)) g32
    refine va_get (D := (dC, dI)) (ci := 12) (v := .ref (ρ h0 2)) (C := RX12) (T := TX12) (N := 53) hx hb hts hfX12 hown hK hP q38 eq38 rfl 2 (by decide) (hts (.fieldLink RX12 7 "ColdShipsModel" "row" "[I") wa_148) (fun _ h9 => h9) rfl dX12_best_17 ?_
    refine lv_bipush (v := 10) hx hb dX12_best_20 (by decide) ?_
    obtain ⟨q39, eq39⟩ := tp_pos (tp_in hG y1 (by decide)) hf_33
    refine va_iald hx hb hK hP q39 0 eq39 rfl (vp_in_iff.mpr ⟨by decide, by decide⟩) dX12_best_22 ?_
    refine lv_topi (fun z40 ez40 => ?_)
    have jz40 : z40.toInt = mo_R g27 (10) := mo_rd ez40 (show (10 : Int32).toInt = (10) from by decide)
    have kz40 := hI.k10
    refine lv_istore_n (lv' := [(2, .int z40), (0, .ref h0), (1, .int v)]) hx hb dX12_best_23 rfl hl (by decide) rfl (fun ls hl => ?_)
    refine lv_iconst (v := 3) hx hb dX12_best_24 (by decide) ?_
    refine lv_aload_n hx hb dX12_best_25 rfl (lv_at hl 1 rfl) ?_
    refine va_get (D := (dC, dI)) (ci := 12) (v := .ref (ρ h0 2)) (C := RX12) (T := TX12) (N := 53) hx hb hts hfX12 hown hK hP q38 eq38 rfl 2 (by decide) (hts (.fieldLink RX12 7 "ColdShipsModel" "row" "[I") wa_148) (fun _ h9 => h9) rfl dX12_best_26 ?_
    refine lv_iconst (v := 1) hx hb dX12_best_29 (by decide) ?_
    refine va_iald hx hb hK hP q39 0 eq39 rfl (vp_in_iff.mpr ⟨by decide, by decide⟩) dX12_best_30 ?_
    refine lv_topi (fun z41 ez41 => ?_)
    have jz41 : z41.toInt = mo_R g27 (1) := mo_rd ez41 (show (1 : Int32).toInt = (1) from by decide)
    have kz41 := hI.k1
    refine pz_calli (va_runS (As := [.int 3, .int z41]) (rest := []) ⟨hx, hb, hml, hown, hts⟩ (t_X12_lesser l dC dI _ (3) z41 (3) (z41.toInt) rfl rfl) (va_cwS 2 hts gX12_best_X12_lesser rfl rfl rfl pd_X12_lesser ⟨Nat.le_of_ble_eq_true rfl, Nat.le_of_ble_eq_true rfl⟩) ⟨pz_blind, pz_pre pz_P0 (hK.sub (tys' := []) [] rfl) (pz_D0 (A := fun _ => True)) hN⟩ rfl rfl hl.1 rfl (lv_room (Nat.le_of_ble_eq_true rfl)) dX12_best_31 ⟨Nat.le_of_ble_eq_true rfl, Nat.le_of_ble_eq_true rfl⟩) (fun r42 hw43 => ?_)
    obtain ⟨hw43r, hw43p⟩ := hw43
    refine lv_istore_n (lv' := [(3, .int r42), (2, .int z40), (0, .ref h0), (1, .int v)]) hx hb dX12_best_34 rfl hl (by decide) rfl (fun ls hl => ?_)
    refine lv_iconst (v := 0) hx hb dX12_best_35 (by decide) ?_
    refine lv_istore (lv' := [(4, .int 0), (3, .int r42), (2, .int z40), (0, .ref h0), (1, .int v)]) hx hb dX12_best_36 hl (by decide) rfl (fun ls hl => ?_)
    have hP2 := mo_P2_le z40.toInt
    have := hI.k10; have := hI.k1
    obtain ⟨g47, hf_o46⟩ := tpo_73 hT y18
    have tf48 : mo_l (f30 (ρ h0 43)) = g47 := tfa_l hf_o46
    obtain ⟨g50, hf_o49⟩ := tpo_74 hT y19
    have tf51 : mo_i (f30 (ρ h0 44)) = g50 := tfa_i hf_o49
    refine pz_loop (fun n0 H locs ls => ∃ f52 : Nat → va_E, ∃ w44 : Int32, n0 = (3 - (w44.toInt)).toNat ∧ tp_T (mo_O κ) κ τ ν ρ f52 ∧ tp_F τ [13, 69, 70, 71, 72, 73, 74, 75, 76, 79, 80, 81, 82] f f52 ∧ f52 (ρ h0 2) = .inl (κ 0, 12967, .inl g27) ∧ ((mo_TB (mo_RL (mo_l (f52 (ρ h0 43)))) (mo_R (mo_i (f52 (ρ h0 44)))) (w44.toInt) 0 (mo_P2 z40.toInt))) ∧ (0 ≤ w44.toInt ∧ w44.toInt ≤ 3) ∧ va_P (dC, dI) vwCl (va_pl L f52) H ∧ va_D A (va_pl L f52) ∧ va_S A s.heap H locs ∧ lv_has ls 15 [(4, .int w44), (3, .int r42), (2, .int z40), (0, .ref h0), (1, .int v)]) ?_ _ _ _ _ ⟨f30, 0, rfl, hT, hR, hf_33, (by first | (simp only [tf48, tf51, mo_i1, mo_l1]; exact (show mo_TB (mo_RL g47) (mo_R g50) (0 : Int32).toInt 0 (mo_P2 z40.toInt) from mo_TB.rf _ _ (by decide) rfl)) | (rw [tf48, tf51]; exact (show mo_TB (mo_RL g47) (mo_R g50) (0 : Int32).toInt 0 (mo_P2 z40.toInt) from mo_TB.rf _ _ (by decide) rfl))), (by have : (0 : Int32).toInt = 0 := rfl; omega), hP, hD, hS, lv_sub hl [0, 1, 2, 3, 4] rfl⟩
    intro n0 H locs ls hI ih54
    obtain ⟨f52, w44, hn55, hT, hR, hk45k, jf56, rw44, hP, hD, hS, hl⟩ := hI
    obtain ⟨g58, hf_o57⟩ := tpo_73 hT y18
    have tf59 : mo_l (f52 (ρ h0 43)) = g58 := tfa_l hf_o57
    obtain ⟨g61, hf_o60⟩ := tpo_74 hT y19
    have tf62 : mo_i (f52 (ρ h0 44)) = g61 := tfa_i hf_o60
    have jf56 : mo_TB (mo_RL g58) (mo_R g61) (w44.toInt) 0 (mo_P2 z40.toInt) := by have q9 := jf56; first | (simp only [tf59, tf62, mo_i1, mo_l1] at q9; exact q9) | (rw [tf59, tf62] at q9; exact q9)
    refine lv_iload hx hb dX12_best_38 (lv_at hl 0 rfl) ?_
    refine lv_iload_n hx hb dX12_best_40 rfl (lv_at hl 1 rfl) ?_
    refine lv_icmp_ge (tgt := 76) hx hb dX12_best_41 (by decide) (fun c63 => ?_) (fun c63 => ?_)
    · have ic63 : w44.toInt ≥ r42.toInt := zi_ge rfl rfl c63
      refine lv_iconst (v := 1) hx hb dX12_best_76 (by decide) ?_
      refine lv_istore (lv' := [(4, .int 1), (3, .int r42), (2, .int z40), (0, .ref h0), (1, .int v)]) hx hb dX12_best_77 hl (by decide) rfl (fun ls hl => ?_)
      refine lv_iconst (v := 0) hx hb dX12_best_79 (by decide) ?_
      refine lv_istore (lv' := [(5, .int 0), (4, .int 1), (3, .int r42), (2, .int z40), (0, .ref h0), (1, .int v)]) hx hb dX12_best_80 hl (by decide) rfl (fun ls hl => ?_)
      refine pz_loop (fun n0 H locs ls => ∃ w64 : Int32, ∃ w65 : Int32, n0 = (6 - (w64.toInt)).toNat ∧ (0 ≤ w64.toInt ∧ w64.toInt ≤ 6) ∧ (1 ≤ w65.toInt ∧ w65.toInt ≤ 4096) ∧ ((w64.toInt) ≤ z40.toInt) ∧ ((w65.toInt) = mo_pw r42.toInt ((w64.toInt)).toNat) ∧ va_P (dC, dI) vwCl (va_pl L f52) H ∧ va_D A (va_pl L f52) ∧ va_S A s.heap H locs ∧ lv_has ls 15 [(5, .int w64), (4, .int w65), (3, .int r42), (2, .int z40), (0, .ref h0), (1, .int v)]) ?_ _ _ _ _ ⟨0, 1, rfl, (by have : (0 : Int32).toInt = 0 := rfl; have : (1 : Int32).toInt = 1 := rfl; omega), (by have : (0 : Int32).toInt = 0 := rfl; have : (1 : Int32).toInt = 1 := rfl; omega), (by have : (0 : Int32).toInt = 0 := rfl; have : (1 : Int32).toInt = 1 := rfl; omega), rfl, hP, hD, hS, lv_sub hl [0, 1, 2, 3, 4, 5] rfl⟩
      intro n0 H locs ls hI ih68
      obtain ⟨w64, w65, hn69, rw64, rw65, k66, k67, hP, hD, hS, hl⟩ := hI
      refine lv_iload hx hb dX12_best_82 (lv_at hl 0 rfl) ?_
      refine lv_iload_n hx hb dX12_best_84 rfl (lv_at hl 3 rfl) ?_
      refine lv_icmp_ge (tgt := 102) hx hb dX12_best_85 (by decide) (fun c70 => ?_) (fun c70 => ?_)
      · have ic70 : w64.toInt ≥ z40.toInt := zi_ge rfl rfl c70
        have hall : w65.toInt = mo_pw r42.toInt z40.toInt.toNat := by have q9 := k67; rw [show w64.toInt = z40.toInt by omega] at q9; exact q9
        have hTB : mo_TB (mo_RL g58) (mo_R g61) r42.toInt 0 (mo_P2 z40.toInt) := by have q9 := jf56; rw [show w44.toInt = r42.toInt by omega] at q9; exact q9
        refine lv_ldc2 (own := RX12) (v := (-2000000000000000)) hx hb hown (hts (.constantLong RX12 466 (-2000000000000000)) wa_1189) dX12_best_102 ?_
        refine lv_lstore (lv' := [(5, .long (-2000000000000000)), (4, .int w65), (3, .int r42), (2, .int z40), (0, .ref h0), (1, .int v)]) hx hb dX12_best_105 hl (by decide) rfl (fun ls hl => ?_)
        refine lv_iconst (v := 0) hx hb dX12_best_107 (by decide) ?_
        refine lv_istore (lv' := [(7, .int 0), (5, .long (-2000000000000000)), (4, .int w65), (3, .int r42), (2, .int z40), (0, .ref h0), (1, .int v)]) hx hb dX12_best_108 hl (by decide) rfl (fun ls hl => ?_)
        refine lv_iconst (v := 0) hx hb dX12_best_110 (by decide) ?_
        refine lv_istore (lv' := [(8, .int 0), (7, .int 0), (5, .long (-2000000000000000)), (4, .int w65), (3, .int r42), (2, .int z40), (0, .ref h0), (1, .int v)]) hx hb dX12_best_111 hl (by decide) rfl (fun ls hl => ?_)
        obtain ⟨g80, hf_o79⟩ := tpo_79 hT y22
        have tf81 : mo_i (f52 (ρ h0 49)) = g80 := tfa_i hf_o79
        refine pz_loop (fun n0 H locs ls => ∃ f82 : Nat → va_E, ∃ w71 : Int32, ∃ w72 : Int32, ∃ w73 : Int64, n0 = (4096 - (w71.toInt)).toNat ∧ tp_T (mo_O κ) κ τ ν ρ f82 ∧ tp_F τ [13, 69, 70, 71, 72, 73, 74, 75, 76, 79, 80, 81, 82] f f82 ∧ f82 (ρ h0 2) = .inl (κ 0, 12967, .inl g27) ∧ f82 (ρ h0 43) = .inl (κ 1, 192, .inr (.inl g58)) ∧ f82 (ρ h0 44) = .inl (κ 0, 192, .inl g61) ∧ ((((w73.toInt) ≠ -2000000000000000 → mo_BG (mo_R (mo_i (f82 (ρ h0 49)))) (mo_RL g58) z40.toInt r42.toInt))) ∧ (0 ≤ w71.toInt ∧ w71.toInt ≤ 4096) ∧ ((w71.toInt) ≤ w65.toInt) ∧ (((w71.toInt) = w65.toInt → (w73.toInt) ≠ -2000000000000000)) ∧ va_P (dC, dI) vwCl (va_pl L f82) H ∧ va_D A (va_pl L f82) ∧ va_S A s.heap H locs ∧ lv_has ls 15 [(8, .int w71), (7, .int w72), (5, .long w73), (4, .int w65), (3, .int r42), (2, .int z40), (0, .ref h0), (1, .int v)]) ?_ _ _ _ _ ⟨f52, 0, 0, (-2000000000000000), rfl, hT, hR, hk45k, hf_o57, hf_o60, (by first | (simp only [tf81, mo_i1, mo_l1]; exact (show (((-2000000000000000) : Int32).toInt ≠ -2000000000000000 → mo_BG (mo_R g80) (mo_RL g58) z40.toInt r42.toInt) from (fun q9 => absurd (by decide) q9))) | (rw [tf81]; exact (show (((-2000000000000000) : Int32).toInt ≠ -2000000000000000 → mo_BG (mo_R g80) (mo_RL g58) z40.toInt r42.toInt) from (fun q9 => absurd (by decide) q9)))), (by have : (0 : Int32).toInt = 0 := rfl; have : (0 : Int32).toInt = 0 := rfl; have : ((-2000000000000000) : Int64).toInt = (-2000000000000000) := rfl; omega), (by have : (0 : Int32).toInt = 0 := rfl; have : (0 : Int32).toInt = 0 := rfl; have : ((-2000000000000000) : Int64).toInt = (-2000000000000000) := rfl; omega), (fun q9 => by have : (0 : Int32).toInt = 0 := rfl; omega), hP, hD, hS, lv_sub hl [0, 1, 2, 3, 4, 5, 6, 7] rfl⟩
        intro n0 H locs ls hI ih84
        obtain ⟨f82, w71, w72, w73, hn85, hT, hR, hk76k, hk77k, hk78k, jf86, rw71, k74, k75, hP, hD, hS, hl⟩ := hI
        obtain ⟨g88, hf_o87⟩ := tpo_79 hT y22
        have tf89 : mo_i (f82 (ρ h0 49)) = g88 := tfa_i hf_o87
        have jf86 : ((w73.toInt) ≠ -2000000000000000 → mo_BG (mo_R g88) (mo_RL g58) z40.toInt r42.toInt) := by have q9 := jf86; first | (simp only [tf89, mo_i1, mo_l1] at q9; exact q9) | (rw [tf89] at q9; exact q9)
        refine lv_iload hx hb dX12_best_113 (lv_at hl 0 rfl) ?_
        refine lv_iload hx hb dX12_best_115 (lv_at hl 3 rfl) ?_
        refine lv_icmp_ge (tgt := 283) hx hb dX12_best_117 (by decide) (fun c90 => ?_) (fun c90 => ?_)
        · have ic90 : w71.toInt ≥ w65.toInt := zi_ge rfl rfl c90
          refine lv_aload_n hx hb dX12_best_283 rfl (lv_at hl 6 rfl) ?_
          refine lv_iload_n hx hb dX12_best_284 rfl (lv_at hl 5 rfl) ?_
          refine lv_iload_n hx hb dX12_best_285 rfl (lv_at hl 4 rfl) ?_
          refine lv_iload_n hx hb dX12_best_286 rfl (lv_at hl 7 rfl) ?_
          have tf91 : mo_l (f82 (ρ h0 43)) = g58 := tfa_l hk77k
          have tf92 : mo_i (f82 (ρ h0 44)) = g61 := tfa_i hk78k
          obtain ⟨o93_x0, o93_x1, o93_x7, o93_x9, o93_x10, o93_x11, o93_x12, o93_x13, o93_x14, o93_x15, o93_x16, o93_x17, o93_x18, o93_x19, o93_x20, o93_x22, o93_x25, o93_x28, o93_x29, o93_x32, o93_x33, o93_x34, o93_x35, o93_x36, o93_x37, o93_x38, o93_x47, o93_x48, hf_o93, ro93_0, ro93_1, ro93_2, ro93_3, ro93_4, ro93_5, ro93_6, ro93_7, ro93_8, ro93_9, ro93_10, ro93_11, ro93_12, ro93_13⟩ := tpo_13 hT ht_h0
          obtain ⟨q94, eq94⟩ := tp_pos (tp_in hG ht_h0 (by decide)) hf_o93
          have hFc := tp_fr hD hS hA
          refine va_callv (va_runV (As := [.int z40, .int r42, .int v]) (rest := []) ⟨hx, hb, hml, hown, hts⟩ (t_X12_keepBest l dC dI _ κ τ ν ρ L f82 hG hT h0 z40 r42 v (-1) 0 ht_h0 (by omega) (by rw [hk76k, mo_i1]; exact hI) (by omega) (by omega) (by first | (simp only [hk76k, hf_o26, mo_i1]; omega) | simp only [hk76k, hf_o26, mo_i1] | omega) (by first | (simp only [hk76k, hf_o26, mo_i1]; omega) | simp only [hk76k, hf_o26, mo_i1] | omega) (by first | (simp only [tf89, tf91, mo_i1, mo_l1]; exact (show mo_BG (mo_R g88) (mo_RL g58) z40.toInt r42.toInt from jf86 (by omega))) | (rw [tf89, tf91]; exact (show mo_BG (mo_R g88) (mo_RL g58) z40.toInt r42.toInt from jf86 (by omega)))) (by first | (simp only [tf91, tf92, mo_i1, mo_l1]; exact (show mo_TB (mo_RL g58) (mo_R g61) r42.toInt 0 (mo_P2 z40.toInt) from hTB)) | (rw [tf91, tf92]; exact (show mo_TB (mo_RL g58) (mo_R g61) r42.toInt 0 (mo_P2 z40.toInt) from hTB)))) (cwV 3 hts gX12_best_X12_keepBest rfl rfl rfl ⟨rfl, pd_X12_keepBest⟩ ⟨Nat.le_of_ble_eq_true rfl, Nat.le_of_ble_eq_true rfl⟩) ⟨pz_blind, va_recv hK hP (ci := 12) (q0 := q94) rfl eq94, pz_pre hP hK hD hN⟩ rfl rfl hl.1 rfl (lv_room (Nat.le_of_ble_eq_true rfl)) dX12_best_287 ⟨Nat.le_of_ble_eq_true rfl, Nat.le_of_ble_eq_true rfl⟩) hS (fun q _ h => hFc q h) hFc (fun f97 t H1 locs ht hvm hw96 hB hz1 hk1 hS => ?_)
          obtain ⟨hT, hF98, hw96p⟩ := hw96
          have hR := hR.then hF98 (by decide)
          have hP := hB.1; rw [ht] at hP; have hD := tp_ad f97 hD; clear hB hFc hz1 hk1; subst ht; generalize t.heap = H at hP hS ⊢
          refine lv_lload hx hb dX12_best_290 (lv_at hl 2 rfl) ?_
          exact W.lret (v := w73) hx hb hr (fun t ht hW => ⟨⟨w73, f97, rfl, ⟨hT, hR, trivial, trivial⟩, by rw [ht]; exact hP, va_K.moved hW.alike hK, hD⟩, hS.F ht⟩) hS.2.2 dX12_best_292
        · have ic90 : w71.toInt < w65.toInt := zi_gef rfl rfl c90
          refine lv_aload_n hx hb dX12_best_120 rfl (lv_at hl 6 rfl) ?_
          refine lv_iload hx hb dX12_best_121 (lv_at hl 0 rfl) ?_
          refine lv_iload_n hx hb dX12_best_123 rfl (lv_at hl 5 rfl) ?_
          refine lv_iload_n hx hb dX12_best_124 rfl (lv_at hl 4 rfl) ?_
          obtain ⟨o99_x0, o99_x1, o99_x7, o99_x9, o99_x10, o99_x11, o99_x12, o99_x13, o99_x14, o99_x15, o99_x16, o99_x17, o99_x18, o99_x19, o99_x20, o99_x22, o99_x25, o99_x28, o99_x29, o99_x32, o99_x33, o99_x34, o99_x35, o99_x36, o99_x37, o99_x38, o99_x47, o99_x48, hf_o99, ro99_0, ro99_1, ro99_2, ro99_3, ro99_4, ro99_5, ro99_6, ro99_7, ro99_8, ro99_9, ro99_10, ro99_11, ro99_12, ro99_13⟩ := tpo_13 hT ht_h0
          obtain ⟨q100, eq100⟩ := tp_pos (tp_in hG ht_h0 (by decide)) hf_o99
          have hFc := tp_fr hD hS hA
          refine va_calli (va_runV (As := [.int w71, .int z40, .int r42]) (rest := []) ⟨hx, hb, hml, hown, hts⟩ (t_X12_share l dC dI _ κ τ ν ρ L f82 hG hT h0 w71 z40 r42 ht_h0 (by first | decide | omega) (by first | decide | omega) (by omega)) (cwV 3 hts gX12_best_X12_share rfl rfl rfl ⟨rfl, pd_X12_share⟩ ⟨Nat.le_of_ble_eq_true rfl, Nat.le_of_ble_eq_true rfl⟩) ⟨pz_blind, va_recv hK hP (ci := 12) (q0 := q100) rfl eq100, pz_pre hP hK hD hN⟩ rfl rfl hl.1 rfl (lv_room (Nat.le_of_ble_eq_true rfl)) dX12_best_125 ⟨Nat.le_of_ble_eq_true rfl, Nat.le_of_ble_eq_true rfl⟩) hS (fun q _ h => hFc q h) hFc (fun r101 f103 t H1 locs ht hvm hw102 hB hz1 hk1 hS => ?_)
          obtain ⟨hT, hF104, hw102r, hw102p⟩ := hw102
          have hR := hR.then hF104 (by decide)
          have hP := hB.1; rw [ht] at hP; have hD := tp_ad f103 hD; clear hB hFc hz1 hk1; subst ht; generalize t.heap = H at hP hS ⊢
          obtain ⟨g106, hf_o105⟩ := tpo_81 hT y24
          have tf107 : mo_i (f103 (ρ h0 51)) = g106 := tfa_i hf_o105
          obtain ⟨g109, hf_o108⟩ := tpo_82 hT y25
          have tf110 : mo_i (f103 (ρ h0 52)) = g109 := tfa_i hf_o108
          have tk111 : mo_SB (mo_R g106) (mo_R g109) z40.toInt r42.toInt (-1) ∧ (w71.toInt + 1 = mo_pw r42.toInt z40.toInt.toNat → ∀ s9, 0 ≤ s9 → s9 < 3 → (mo_R g109) s9 = 0) := by have q9 := hw102p; first | (simp only [tf107, tf110, mo_i1, mo_l1] at q9; exact q9) | (rw [tf107, tf110] at q9; exact q9)
          have hSB := tk111.1
          have hLST := tk111.2
          refine lv_istore (lv' := [(9, .int r101), (8, .int w71), (7, .int w72), (5, .long w73), (4, .int w65), (3, .int r42), (2, .int z40), (0, .ref h0), (1, .int v)]) hx hb dX12_best_128 hl (by decide) rfl (fun ls hl => ?_)
          refine lv_lconst (v := 0) hx hb dX12_best_130 (by decide) ?_
          refine lv_lstore (lv' := [(10, .long 0), (9, .int r101), (8, .int w71), (7, .int w72), (5, .long w73), (4, .int w65), (3, .int r42), (2, .int z40), (0, .ref h0), (1, .int v)]) hx hb dX12_best_131 hl (by decide) rfl (fun ls hl => ?_)
          refine lv_iconst (v := 0) hx hb dX12_best_133 (by decide) ?_
          refine lv_istore (lv' := [(12, .int 0), (10, .long 0), (9, .int r101), (8, .int w71), (7, .int w72), (5, .long w73), (4, .int w65), (3, .int r42), (2, .int z40), (0, .ref h0), (1, .int v)]) hx hb dX12_best_134 hl (by decide) rfl (fun ls hl => ?_)
          have hf_112 : f103 (ρ h0 2) = .inl (κ 0, 12967, .inl g27) := (hF104 _ (by rw [y1]; decide)).trans hk76k
          refine pz_loop (fun n0 H locs ls => ∃ w113 : Int32, ∃ w114 : Int64, n0 = (3 - (w113.toInt)).toNat ∧ (0 ≤ w113.toInt ∧ w113.toInt ≤ 3) ∧ ((w113.toInt) ≤ r42.toInt) ∧ (((w114.toInt) ≠ -2000000000000000 → ∀ t, 0 ≤ t → t < (w113.toInt) → (mo_RL g58) (64 * t + (mo_R g109) t) ≠ -2000000000000000)) ∧ ((w71.toInt + 1 = mo_pw r42.toInt z40.toInt.toNat → (w114.toInt) = 0)) ∧ va_P (dC, dI) vwCl (va_pl L f103) H ∧ va_D A (va_pl L f103) ∧ va_S A s.heap H locs ∧ lv_has ls 15 [(12, .int w113), (10, .long w114), (9, .int r101), (8, .int w71), (7, .int w72), (5, .long w73), (4, .int w65), (3, .int r42), (2, .int z40), (0, .ref h0), (1, .int v)]) ?_ _ _ _ _ ⟨0, 0, rfl, (by have : (0 : Int32).toInt = 0 := rfl; have : (0 : Int64).toInt = 0 := rfl; omega), (by have : (0 : Int32).toInt = 0 := rfl; have : (0 : Int64).toInt = 0 := rfl; omega), (fun _ t t0 t1 => absurd t1 (by have : (0 : Int32).toInt = 0 := rfl; omega)), (fun _ => by decide), hP, hD, hS, lv_sub hl [0, 1, 2, 3, 4, 5, 6, 7, 8, 9, 10] rfl⟩
          intro n0 H locs ls hI ih118
          obtain ⟨w113, w114, hn119, rw113, k115, k116, k117, hP, hD, hS, hl⟩ := hI
          refine lv_iload hx hb dX12_best_136 (lv_at hl 0 rfl) ?_
          refine lv_iload_n hx hb dX12_best_138 rfl (lv_at hl 7 rfl) ?_
          refine lv_icmp_ge (tgt := 199) hx hb dX12_best_139 (by decide) (fun c120 => ?_) (fun c120 => ?_)
          · have ic120 : w113.toInt ≥ r42.toInt := zi_ge rfl rfl c120
            have hlast0 : w71.toInt + 1 = w65.toInt → w114.toInt = 0 := fun q9 => k117 (by omega)
            refine lv_lload hx hb dX12_best_199 (lv_at hl 1 rfl) ?_
            refine lv_ldc2 (own := RX12) (v := (-2000000000000000)) hx hb hown (hts (.constantLong RX12 466 (-2000000000000000)) wa_1189) dX12_best_201 ?_
            refine W.lcmp hx hb dX12_best_204 ?_
            refine lv_if_eq (tgt := 277) hx hb dX12_best_205 (by decide) (fun c121 => ?_) (fun c121 => ?_)
            · have ic121 : w114.toInt = (-2000000000000000) := zl_eq rfl rfl c121
              obtain ⟨z122, ez122⟩ : ∃ y : Int32, y = w71 + 1 := ⟨_, rfl⟩
              refine lv_iinc (v := z122) (lv' := [(8, .int z122), (12, .int w113), (10, .long w114), (9, .int r101), (7, .int w72), (5, .long w73), (4, .int w65), (3, .int r42), (2, .int z40), (0, .ref h0), (1, .int v)]) hx hb dX12_best_277 hl (k := 3) rfl (by rw [ez122]; rfl) (by decide) rfl (fun ls hl => ?_)
              have iz122 : z122.toInt = w71.toInt + 1 := zi_add ez122 rfl rfl (by omega) (by omega)
              refine lv_goto (tgt := 113) hx hb dX12_best_280 (by decide) ?_
              have hf_123 : f103 (ρ h0 49) = .inl (κ 0, 6, .inl g88) := (hF104 _ (by rw [y22]; decide)).trans hf_o87
              have tf124 : mo_i (f103 (ρ h0 49)) = g88 := tfa_i hf_123
              have hf_125 : f103 (ρ h0 43) = .inl (κ 1, 192, .inr (.inl g58)) := (hF104 _ (by rw [y18]; decide)).trans hk77k
              have hf_126 : f103 (ρ h0 44) = .inl (κ 0, 192, .inl g61) := (hF104 _ (by rw [y19]; decide)).trans hk78k
              exact ih84 _ _ _ _ (by rw [hn85]; omega) ⟨f103, z122, w72, w73, rfl, hT, hR, hf_112, hf_125, hf_126, (by first | (simp only [tf124, mo_i1, mo_l1]; exact (show ((w73.toInt) ≠ -2000000000000000 → mo_BG (mo_R g88) (mo_RL g58) z40.toInt r42.toInt) from (by first | exact jf86 | (intro q9; exact jf86 (by omega))))) | (rw [tf124]; exact (show ((w73.toInt) ≠ -2000000000000000 → mo_BG (mo_R g88) (mo_RL g58) z40.toInt r42.toInt) from (by first | exact jf86 | (intro q9; exact jf86 (by omega)))))), (by omega), (by omega), (fun q9 => by have q8 := hlast0 (by omega); omega), hP, hD, hS, lv_sub hl [0, 4, 5, 6, 7, 8, 9, 10] rfl⟩
            · have ic121 : w114.toInt ≠ (-2000000000000000) := zl_eqf rfl rfl c121
              refine lv_lload hx hb dX12_best_208 (lv_at hl 5 rfl) ?_
              refine lv_ldc2 (own := RX12) (v := (-2000000000000000)) hx hb hown (hts (.constantLong RX12 466 (-2000000000000000)) wa_1189) dX12_best_210 ?_
              refine W.lcmp hx hb dX12_best_213 ?_
              refine lv_if_eq (tgt := 240) hx hb dX12_best_214 (by decide) (fun c127 => ?_) (fun c127 => ?_)
              · have ic127 : w73.toInt = (-2000000000000000) := zl_eq rfl rfl c127
                refine lv_lload hx hb dX12_best_240 (lv_at hl 1 rfl) ?_
                refine lv_lstore (lv' := [(5, .long w114), (12, .int w113), (10, .long w114), (9, .int r101), (8, .int w71), (7, .int w72), (4, .int w65), (3, .int r42), (2, .int z40), (0, .ref h0), (1, .int v)]) hx hb dX12_best_242 hl (by decide) rfl (fun ls hl => ?_)
                refine lv_iload hx hb dX12_best_244 (lv_at hl 3 rfl) ?_
                refine lv_istore (lv' := [(7, .int r101), (5, .long w114), (12, .int w113), (10, .long w114), (9, .int r101), (8, .int w71), (4, .int w65), (3, .int r42), (2, .int z40), (0, .ref h0), (1, .int v)]) hx hb dX12_best_246 hl (by decide) rfl (fun ls hl => ?_)
                refine lv_iconst (v := 0) hx hb dX12_best_248 (by decide) ?_
                refine lv_istore (lv' := [(12, .int 0), (7, .int r101), (5, .long w114), (10, .long w114), (9, .int r101), (8, .int w71), (4, .int w65), (3, .int r42), (2, .int z40), (0, .ref h0), (1, .int v)]) hx hb dX12_best_249 hl (by decide) rfl (fun ls hl => ?_)
                have hf_129 : f103 (ρ h0 43) = .inl (κ 1, 192, .inr (.inl g58)) := (hF104 _ (by rw [y18]; decide)).trans hk77k
                have hf_130 : f103 (ρ h0 44) = .inl (κ 0, 192, .inl g61) := (hF104 _ (by rw [y19]; decide)).trans hk78k
                have hf_136 : f103 (ρ h0 49) = .inl (κ 0, 6, .inl g88) := (hF104 _ (by rw [y22]; decide)).trans hf_o87
                have tf137 : mo_i (f103 (ρ h0 49)) = g88 := tfa_i hf_136
                refine pz_loop (fun n0 H locs ls => ∃ f138 : Nat → va_E, ∃ w128 : Int32, n0 = (6 - (w128.toInt)).toNat ∧ tp_T (mo_O κ) κ τ ν ρ f138 ∧ tp_F τ [13, 69, 70, 71, 72, 73, 74, 75, 76, 79, 80, 81, 82] f f138 ∧ f138 (ρ h0 2) = .inl (κ 0, 12967, .inl g27) ∧ f138 (ρ h0 43) = .inl (κ 1, 192, .inr (.inl g58)) ∧ f138 (ρ h0 44) = .inl (κ 0, 192, .inl g61) ∧ f138 (ρ h0 51) = .inl (κ 0, 6, .inl g106) ∧ f138 (ρ h0 52) = .inl (κ 0, 3, .inl g109) ∧ ((∀ d, 0 ≤ d → d < (w128.toInt) → (mo_R (mo_i (f138 (ρ h0 49)))) d = (mo_R g106) d)) ∧ (0 ≤ w128.toInt ∧ w128.toInt ≤ 6) ∧ va_P (dC, dI) vwCl (va_pl L f138) H ∧ va_D A (va_pl L f138) ∧ va_S A s.heap H locs ∧ lv_has ls 15 [(12, .int w128), (7, .int r101), (5, .long w114), (10, .long w114), (9, .int r101), (8, .int w71), (4, .int w65), (3, .int r42), (2, .int z40), (0, .ref h0), (1, .int v)]) ?_ _ _ _ _ ⟨f103, 0, rfl, hT, hR, hf_112, hf_129, hf_130, hf_o105, hf_o108, (by first | (simp only [tf137, mo_i1, mo_l1]; exact (show ∀ d, 0 ≤ d → d < (0 : Int32).toInt → (mo_R g88) d = (mo_R g106) d from (fun d d0 d1 => absurd d1 (by have : (0 : Int32).toInt = 0 := rfl; omega)))) | (rw [tf137]; exact (show ∀ d, 0 ≤ d → d < (0 : Int32).toInt → (mo_R g88) d = (mo_R g106) d from (fun d d0 d1 => absurd d1 (by have : (0 : Int32).toInt = 0 := rfl; omega))))), (by have : (0 : Int32).toInt = 0 := rfl; omega), hP, hD, hS, lv_sub hl [0, 1, 2, 3, 4, 5, 6, 7, 8, 9, 10] rfl⟩
                intro n0 H locs ls hI ih140
                obtain ⟨f138, w128, hn141, hT, hR, hk131k, hk132k, hk133k, hk134k, hk135k, jf142, rw128, hP, hD, hS, hl⟩ := hI
                obtain ⟨g144, hf_o143⟩ := tpo_79 hT y22
                have tf145 : mo_i (f138 (ρ h0 49)) = g144 := tfa_i hf_o143
                have jf142 : ∀ d, 0 ≤ d → d < (w128.toInt) → (mo_R g144) d = (mo_R g106) d := by have q9 := jf142; first | (simp only [tf145, mo_i1, mo_l1] at q9; exact q9) | (rw [tf145] at q9; exact q9)
                refine lv_iload hx hb dX12_best_251 (lv_at hl 0 rfl) ?_
                refine lv_iload_n hx hb dX12_best_253 rfl (lv_at hl 8 rfl) ?_
                refine lv_icmp_ge (tgt := 277) hx hb dX12_best_254 (by decide) (fun c146 => ?_) (fun c146 => ?_)
                · have ic146 : w128.toInt ≥ z40.toInt := zi_ge rfl rfl c146
                  obtain ⟨z147, ez147⟩ : ∃ y : Int32, y = w71 + 1 := ⟨_, rfl⟩
                  refine lv_iinc (v := z147) (lv' := [(8, .int z147), (12, .int w128), (7, .int r101), (5, .long w114), (10, .long w114), (9, .int r101), (4, .int w65), (3, .int r42), (2, .int z40), (0, .ref h0), (1, .int v)]) hx hb dX12_best_277 hl (k := 5) rfl (by rw [ez147]; rfl) (by decide) rfl (fun ls hl => ?_)
                  have iz147 : z147.toInt = w71.toInt + 1 := zi_add ez147 rfl rfl (by omega) (by omega)
                  refine lv_goto (tgt := 113) hx hb dX12_best_280 (by decide) ?_
                  exact ih84 _ _ _ _ (by rw [hn85]; omega) ⟨f138, z147, r101, w114, rfl, hT, hR, hk131k, hk132k, hk133k, (by first | (simp only [tf145, mo_i1, mo_l1]; exact (show ((w114.toInt) ≠ -2000000000000000 → mo_BG (mo_R g144) (mo_RL g58) z40.toInt r42.toInt) from (fun _ => mo_BG.of hSB (by omega) (by omega) (fun d d0 d1 => jf142 d d0 (by omega)) (fun t t0 t1 => k116 (by omega) t t0 (by omega))))) | (rw [tf145]; exact (show ((w114.toInt) ≠ -2000000000000000 → mo_BG (mo_R g144) (mo_RL g58) z40.toInt r42.toInt) from (fun _ => mo_BG.of hSB (by omega) (by omega) (fun d d0 d1 => jf142 d d0 (by omega)) (fun t t0 t1 => k116 (by omega) t t0 (by omega)))))), (by omega), (by omega), (fun q9 => by have q8 := hlast0 (by omega); omega), hP, hD, hS, lv_sub hl [0, 2, 3, 6, 7, 8, 9, 10] rfl⟩
                · have ic146 : w128.toInt < z40.toInt := zi_gef rfl rfl c146
                  refine lv_aload_n hx hb dX12_best_257 rfl (lv_at hl 9 rfl) ?_
                  obtain ⟨o148_x0, o148_x1, o148_x7, o148_x9, o148_x10, o148_x11, o148_x12, o148_x13, o148_x14, o148_x15, o148_x16, o148_x17, o148_x18, o148_x19, o148_x20, o148_x22, o148_x25, o148_x28, o148_x29, o148_x32, o148_x33, o148_x34, o148_x35, o148_x36, o148_x37, o148_x38, o148_x47, o148_x48, hf_o148, ro148_0, ro148_1, ro148_2, ro148_3, ro148_4, ro148_5, ro148_6, ro148_7, ro148_8, ro148_9, ro148_10, ro148_11, ro148_12, ro148_13⟩ := tpo_13 hT ht_h0
                  obtain ⟨q149, eq149⟩ := tp_pos (tp_in hG ht_h0 (by decide)) hf_o148
                  refine va_get (D := (dC, dI)) (ci := 12) (v := .ref (ρ h0 49)) (C := RX12) (T := TX12) (N := 53) hx hb hts hfX12 hown hK hP q149 eq149 rfl 49 (by decide) (hts (.fieldLink RX12 79 "ColdShipsModel" "bestShip" "[I") wa_171) (fun _ h9 => h9) rfl dX12_best_258 ?_
                  refine lv_iload hx hb dX12_best_261 (lv_at hl 0 rfl) ?_
                  refine lv_aload_n hx hb dX12_best_263 rfl (lv_at hl 9 rfl) ?_
                  refine va_get (D := (dC, dI)) (ci := 12) (v := .ref (ρ h0 51)) (C := RX12) (T := TX12) (N := 53) hx hb hts hfX12 hown hK hP q149 eq149 rfl 51 (by decide) (hts (.fieldLink RX12 85 "ColdShipsModel" "chosen" "[I") wa_173) (fun _ h9 => h9) rfl dX12_best_264 ?_
                  refine lv_iload hx hb dX12_best_267 (lv_at hl 0 rfl) ?_
                  obtain ⟨q150, eq150⟩ := tp_pos (tp_in hG y24 (by decide)) hk134k
                  refine va_iald hx hb hK hP q150 0 eq150 rfl (vp_in_iff.mpr ⟨by omega, by omega⟩) dX12_best_269 ?_
                  refine lv_topi (fun z151 ez151 => ?_)
                  have jz151 : z151.toInt = mo_R g106 w128.toInt := mo_rd ez151 (by omega)
                  obtain ⟨q152, eq152⟩ := tp_pos (tp_in hG y22 (by decide)) hf_o143
                  refine va_iast hx hb hK hP hD hS q152 0 eq152 rfl (vp_in_iff.mpr ⟨by omega, by omega⟩) dX12_best_270 (tp_k (.inl (κ 0, 6, .inl (upd g144 w128.toNatClampNeg z151))) hD (tp_in hG y22 (by decide)) eq152 (fun f153 H locs hP hD hS g155 k154 => ?_))
                  have hT := hT.up y22 g155 k154 tp_o79
                  have hR := hR.up y22 (by decide) k154
                  have hU157 : mo_U (mo_R g144) (mo_R (upd g144 w128.toNatClampNeg z151)) (w128.toInt) (z151.toInt) := mo_up (by omega) (rfl : z151.toInt = _) (by omega)
                  generalize (upd g144 w128.toNatClampNeg z151) = g156 at g155 hU157
                  obtain ⟨z158, ez158⟩ : ∃ y : Int32, y = w128 + 1 := ⟨_, rfl⟩
                  refine lv_iinc (v := z158) (lv' := [(12, .int z158), (7, .int r101), (5, .long w114), (10, .long w114), (9, .int r101), (8, .int w71), (4, .int w65), (3, .int r42), (2, .int z40), (0, .ref h0), (1, .int v)]) hx hb dX12_best_271 hl (k := 0) rfl (by rw [ez158]; rfl) (by decide) rfl (fun ls hl => ?_)
                  have iz158 : z158.toInt = w128.toInt + 1 := zi_add ez158 rfl rfl (by omega) (by omega)
                  refine lv_goto (tgt := 251) hx hb dX12_best_274 (by decide) ?_
                  have tf159 : mo_i (f153 (ρ h0 49)) = g156 := tfa_i g155
                  have hf_160 : f153 (ρ h0 2) = .inl (κ 0, 12967, .inl g27) := (k154 _ (tp_ne y1 y22 (by decide))).trans hk131k
                  have hf_161 : f153 (ρ h0 43) = .inl (κ 1, 192, .inr (.inl g58)) := (k154 _ (tp_ne y18 y22 (by decide))).trans hk132k
                  have hf_162 : f153 (ρ h0 44) = .inl (κ 0, 192, .inl g61) := (k154 _ (tp_ne y19 y22 (by decide))).trans hk133k
                  have hf_163 : f153 (ρ h0 51) = .inl (κ 0, 6, .inl g106) := (k154 _ (tp_ne y24 y22 (by decide))).trans hk134k
                  have hf_164 : f153 (ρ h0 52) = .inl (κ 0, 3, .inl g109) := (k154 _ (tp_ne y25 y22 (by decide))).trans hk135k
                  exact ih140 _ _ _ _ (by rw [hn141]; omega) ⟨f153, z158, rfl, hT, hR, hf_160, hf_161, hf_162, hf_163, hf_164, (by first | (simp only [tf159, mo_i1, mo_l1]; exact (show ∀ d, 0 ≤ d → d < (z158.toInt) → (mo_R g156) d = (mo_R g106) d from (fun d d0 d1 => by rcases hU157.at d d0 with ⟨z0, a0⟩ | ⟨z0, a0⟩ <;> first | (rw [a0, z0]; omega) | (rw [a0]; exact jf142 d d0 (by omega))))) | (rw [tf159]; exact (show ∀ d, 0 ≤ d → d < (z158.toInt) → (mo_R g156) d = (mo_R g106) d from (fun d d0 d1 => by rcases hU157.at d d0 with ⟨z0, a0⟩ | ⟨z0, a0⟩ <;> first | (rw [a0, z0]; omega) | (rw [a0]; exact jf142 d d0 (by omega)))))), (by omega), hP, hD, hS, lv_sub hl [0, 1, 2, 3, 4, 5, 6, 7, 8, 9, 10] rfl⟩
              · have ic127 : w73.toInt ≠ (-2000000000000000) := zl_eqf rfl rfl c127
                refine lv_lload hx hb dX12_best_217 (lv_at hl 1 rfl) ?_
                refine lv_lload hx hb dX12_best_219 (lv_at hl 5 rfl) ?_
                refine W.lcmp hx hb dX12_best_221 ?_
                refine lv_if_gt (tgt := 240) hx hb dX12_best_222 (by decide) (fun c165 => ?_) (fun c165 => ?_)
                · have ic165 : w114.toInt > w73.toInt := zl_gt rfl rfl c165
                  refine lv_lload hx hb dX12_best_240 (lv_at hl 1 rfl) ?_
                  refine lv_lstore (lv' := [(5, .long w114), (12, .int w113), (10, .long w114), (9, .int r101), (8, .int w71), (7, .int w72), (4, .int w65), (3, .int r42), (2, .int z40), (0, .ref h0), (1, .int v)]) hx hb dX12_best_242 hl (by decide) rfl (fun ls hl => ?_)
                  refine lv_iload hx hb dX12_best_244 (lv_at hl 3 rfl) ?_
                  refine lv_istore (lv' := [(7, .int r101), (5, .long w114), (12, .int w113), (10, .long w114), (9, .int r101), (8, .int w71), (4, .int w65), (3, .int r42), (2, .int z40), (0, .ref h0), (1, .int v)]) hx hb dX12_best_246 hl (by decide) rfl (fun ls hl => ?_)
                  refine lv_iconst (v := 0) hx hb dX12_best_248 (by decide) ?_
                  refine lv_istore (lv' := [(12, .int 0), (7, .int r101), (5, .long w114), (10, .long w114), (9, .int r101), (8, .int w71), (4, .int w65), (3, .int r42), (2, .int z40), (0, .ref h0), (1, .int v)]) hx hb dX12_best_249 hl (by decide) rfl (fun ls hl => ?_)
                  have hf_167 : f103 (ρ h0 43) = .inl (κ 1, 192, .inr (.inl g58)) := (hF104 _ (by rw [y18]; decide)).trans hk77k
                  have hf_168 : f103 (ρ h0 44) = .inl (κ 0, 192, .inl g61) := (hF104 _ (by rw [y19]; decide)).trans hk78k
                  have hf_174 : f103 (ρ h0 49) = .inl (κ 0, 6, .inl g88) := (hF104 _ (by rw [y22]; decide)).trans hf_o87
                  have tf175 : mo_i (f103 (ρ h0 49)) = g88 := tfa_i hf_174
                  refine pz_loop (fun n0 H locs ls => ∃ f176 : Nat → va_E, ∃ w166 : Int32, n0 = (6 - (w166.toInt)).toNat ∧ tp_T (mo_O κ) κ τ ν ρ f176 ∧ tp_F τ [13, 69, 70, 71, 72, 73, 74, 75, 76, 79, 80, 81, 82] f f176 ∧ f176 (ρ h0 2) = .inl (κ 0, 12967, .inl g27) ∧ f176 (ρ h0 43) = .inl (κ 1, 192, .inr (.inl g58)) ∧ f176 (ρ h0 44) = .inl (κ 0, 192, .inl g61) ∧ f176 (ρ h0 51) = .inl (κ 0, 6, .inl g106) ∧ f176 (ρ h0 52) = .inl (κ 0, 3, .inl g109) ∧ ((∀ d, 0 ≤ d → d < (w166.toInt) → (mo_R (mo_i (f176 (ρ h0 49)))) d = (mo_R g106) d)) ∧ (0 ≤ w166.toInt ∧ w166.toInt ≤ 6) ∧ va_P (dC, dI) vwCl (va_pl L f176) H ∧ va_D A (va_pl L f176) ∧ va_S A s.heap H locs ∧ lv_has ls 15 [(12, .int w166), (7, .int r101), (5, .long w114), (10, .long w114), (9, .int r101), (8, .int w71), (4, .int w65), (3, .int r42), (2, .int z40), (0, .ref h0), (1, .int v)]) ?_ _ _ _ _ ⟨f103, 0, rfl, hT, hR, hf_112, hf_167, hf_168, hf_o105, hf_o108, (by first | (simp only [tf175, mo_i1, mo_l1]; exact (show ∀ d, 0 ≤ d → d < (0 : Int32).toInt → (mo_R g88) d = (mo_R g106) d from (fun d d0 d1 => absurd d1 (by have : (0 : Int32).toInt = 0 := rfl; omega)))) | (rw [tf175]; exact (show ∀ d, 0 ≤ d → d < (0 : Int32).toInt → (mo_R g88) d = (mo_R g106) d from (fun d d0 d1 => absurd d1 (by have : (0 : Int32).toInt = 0 := rfl; omega))))), (by have : (0 : Int32).toInt = 0 := rfl; omega), hP, hD, hS, lv_sub hl [0, 1, 2, 3, 4, 5, 6, 7, 8, 9, 10] rfl⟩
                  intro n0 H locs ls hI ih178
                  obtain ⟨f176, w166, hn179, hT, hR, hk169k, hk170k, hk171k, hk172k, hk173k, jf180, rw166, hP, hD, hS, hl⟩ := hI
                  obtain ⟨g182, hf_o181⟩ := tpo_79 hT y22
                  have tf183 : mo_i (f176 (ρ h0 49)) = g182 := tfa_i hf_o181
                  have jf180 : ∀ d, 0 ≤ d → d < (w166.toInt) → (mo_R g182) d = (mo_R g106) d := by have q9 := jf180; first | (simp only [tf183, mo_i1, mo_l1] at q9; exact q9) | (rw [tf183] at q9; exact q9)
                  refine lv_iload hx hb dX12_best_251 (lv_at hl 0 rfl) ?_
                  refine lv_iload_n hx hb dX12_best_253 rfl (lv_at hl 8 rfl) ?_
                  refine lv_icmp_ge (tgt := 277) hx hb dX12_best_254 (by decide) (fun c184 => ?_) (fun c184 => ?_)
                  · have ic184 : w166.toInt ≥ z40.toInt := zi_ge rfl rfl c184
                    obtain ⟨z185, ez185⟩ : ∃ y : Int32, y = w71 + 1 := ⟨_, rfl⟩
                    refine lv_iinc (v := z185) (lv' := [(8, .int z185), (12, .int w166), (7, .int r101), (5, .long w114), (10, .long w114), (9, .int r101), (4, .int w65), (3, .int r42), (2, .int z40), (0, .ref h0), (1, .int v)]) hx hb dX12_best_277 hl (k := 5) rfl (by rw [ez185]; rfl) (by decide) rfl (fun ls hl => ?_)
                    have iz185 : z185.toInt = w71.toInt + 1 := zi_add ez185 rfl rfl (by omega) (by omega)
                    refine lv_goto (tgt := 113) hx hb dX12_best_280 (by decide) ?_
                    exact ih84 _ _ _ _ (by rw [hn85]; omega) ⟨f176, z185, r101, w114, rfl, hT, hR, hk169k, hk170k, hk171k, (by first | (simp only [tf183, mo_i1, mo_l1]; exact (show ((w114.toInt) ≠ -2000000000000000 → mo_BG (mo_R g182) (mo_RL g58) z40.toInt r42.toInt) from (fun _ => mo_BG.of hSB (by omega) (by omega) (fun d d0 d1 => jf180 d d0 (by omega)) (fun t t0 t1 => k116 (by omega) t t0 (by omega))))) | (rw [tf183]; exact (show ((w114.toInt) ≠ -2000000000000000 → mo_BG (mo_R g182) (mo_RL g58) z40.toInt r42.toInt) from (fun _ => mo_BG.of hSB (by omega) (by omega) (fun d d0 d1 => jf180 d d0 (by omega)) (fun t t0 t1 => k116 (by omega) t t0 (by omega)))))), (by omega), (by omega), (fun q9 => by have q8 := hlast0 (by omega); omega), hP, hD, hS, lv_sub hl [0, 2, 3, 6, 7, 8, 9, 10] rfl⟩
                  · have ic184 : w166.toInt < z40.toInt := zi_gef rfl rfl c184
                    refine lv_aload_n hx hb dX12_best_257 rfl (lv_at hl 9 rfl) ?_
                    obtain ⟨o186_x0, o186_x1, o186_x7, o186_x9, o186_x10, o186_x11, o186_x12, o186_x13, o186_x14, o186_x15, o186_x16, o186_x17, o186_x18, o186_x19, o186_x20, o186_x22, o186_x25, o186_x28, o186_x29, o186_x32, o186_x33, o186_x34, o186_x35, o186_x36, o186_x37, o186_x38, o186_x47, o186_x48, hf_o186, ro186_0, ro186_1, ro186_2, ro186_3, ro186_4, ro186_5, ro186_6, ro186_7, ro186_8, ro186_9, ro186_10, ro186_11, ro186_12, ro186_13⟩ := tpo_13 hT ht_h0
                    obtain ⟨q187, eq187⟩ := tp_pos (tp_in hG ht_h0 (by decide)) hf_o186
                    refine va_get (D := (dC, dI)) (ci := 12) (v := .ref (ρ h0 49)) (C := RX12) (T := TX12) (N := 53) hx hb hts hfX12 hown hK hP q187 eq187 rfl 49 (by decide) (hts (.fieldLink RX12 79 "ColdShipsModel" "bestShip" "[I") wa_171) (fun _ h9 => h9) rfl dX12_best_258 ?_
                    refine lv_iload hx hb dX12_best_261 (lv_at hl 0 rfl) ?_
                    refine lv_aload_n hx hb dX12_best_263 rfl (lv_at hl 9 rfl) ?_
                    refine va_get (D := (dC, dI)) (ci := 12) (v := .ref (ρ h0 51)) (C := RX12) (T := TX12) (N := 53) hx hb hts hfX12 hown hK hP q187 eq187 rfl 51 (by decide) (hts (.fieldLink RX12 85 "ColdShipsModel" "chosen" "[I") wa_173) (fun _ h9 => h9) rfl dX12_best_264 ?_
                    refine lv_iload hx hb dX12_best_267 (lv_at hl 0 rfl) ?_
                    obtain ⟨q188, eq188⟩ := tp_pos (tp_in hG y24 (by decide)) hk172k
                    refine va_iald hx hb hK hP q188 0 eq188 rfl (vp_in_iff.mpr ⟨by omega, by omega⟩) dX12_best_269 ?_
                    refine lv_topi (fun z189 ez189 => ?_)
                    have jz189 : z189.toInt = mo_R g106 w166.toInt := mo_rd ez189 (by omega)
                    obtain ⟨q190, eq190⟩ := tp_pos (tp_in hG y22 (by decide)) hf_o181
                    refine va_iast hx hb hK hP hD hS q190 0 eq190 rfl (vp_in_iff.mpr ⟨by omega, by omega⟩) dX12_best_270 (tp_k (.inl (κ 0, 6, .inl (upd g182 w166.toNatClampNeg z189))) hD (tp_in hG y22 (by decide)) eq190 (fun f191 H locs hP hD hS g193 k192 => ?_))
                    have hT := hT.up y22 g193 k192 tp_o79
                    have hR := hR.up y22 (by decide) k192
                    have hU195 : mo_U (mo_R g182) (mo_R (upd g182 w166.toNatClampNeg z189)) (w166.toInt) (z189.toInt) := mo_up (by omega) (rfl : z189.toInt = _) (by omega)
                    generalize (upd g182 w166.toNatClampNeg z189) = g194 at g193 hU195
                    obtain ⟨z196, ez196⟩ : ∃ y : Int32, y = w166 + 1 := ⟨_, rfl⟩
                    refine lv_iinc (v := z196) (lv' := [(12, .int z196), (7, .int r101), (5, .long w114), (10, .long w114), (9, .int r101), (8, .int w71), (4, .int w65), (3, .int r42), (2, .int z40), (0, .ref h0), (1, .int v)]) hx hb dX12_best_271 hl (k := 0) rfl (by rw [ez196]; rfl) (by decide) rfl (fun ls hl => ?_)
                    have iz196 : z196.toInt = w166.toInt + 1 := zi_add ez196 rfl rfl (by omega) (by omega)
                    refine lv_goto (tgt := 251) hx hb dX12_best_274 (by decide) ?_
                    have tf197 : mo_i (f191 (ρ h0 49)) = g194 := tfa_i g193
                    have hf_198 : f191 (ρ h0 2) = .inl (κ 0, 12967, .inl g27) := (k192 _ (tp_ne y1 y22 (by decide))).trans hk169k
                    have hf_199 : f191 (ρ h0 43) = .inl (κ 1, 192, .inr (.inl g58)) := (k192 _ (tp_ne y18 y22 (by decide))).trans hk170k
                    have hf_200 : f191 (ρ h0 44) = .inl (κ 0, 192, .inl g61) := (k192 _ (tp_ne y19 y22 (by decide))).trans hk171k
                    have hf_201 : f191 (ρ h0 51) = .inl (κ 0, 6, .inl g106) := (k192 _ (tp_ne y24 y22 (by decide))).trans hk172k
                    have hf_202 : f191 (ρ h0 52) = .inl (κ 0, 3, .inl g109) := (k192 _ (tp_ne y25 y22 (by decide))).trans hk173k
                    exact ih178 _ _ _ _ (by rw [hn179]; omega) ⟨f191, z196, rfl, hT, hR, hf_198, hf_199, hf_200, hf_201, hf_202, (by first | (simp only [tf197, mo_i1, mo_l1]; exact (show ∀ d, 0 ≤ d → d < (z196.toInt) → (mo_R g194) d = (mo_R g106) d from (fun d d0 d1 => by rcases hU195.at d d0 with ⟨z0, a0⟩ | ⟨z0, a0⟩ <;> first | (rw [a0, z0]; omega) | (rw [a0]; exact jf180 d d0 (by omega))))) | (rw [tf197]; exact (show ∀ d, 0 ≤ d → d < (z196.toInt) → (mo_R g194) d = (mo_R g106) d from (fun d d0 d1 => by rcases hU195.at d d0 with ⟨z0, a0⟩ | ⟨z0, a0⟩ <;> first | (rw [a0, z0]; omega) | (rw [a0]; exact jf180 d d0 (by omega)))))), (by omega), hP, hD, hS, lv_sub hl [0, 1, 2, 3, 4, 5, 6, 7, 8, 9, 10] rfl⟩
                · have ic165 : w114.toInt ≤ w73.toInt := zl_gtf rfl rfl c165
                  refine lv_lload hx hb dX12_best_225 (lv_at hl 1 rfl) ?_
                  refine lv_lload hx hb dX12_best_227 (lv_at hl 5 rfl) ?_
                  refine W.lcmp hx hb dX12_best_229 ?_
                  refine lv_if_ne (tgt := 277) hx hb dX12_best_230 (by decide) (fun c203 => ?_) (fun c203 => ?_)
                  · have ic203 : w114.toInt ≠ w73.toInt := zl_ne rfl rfl c203
                    obtain ⟨z204, ez204⟩ : ∃ y : Int32, y = w71 + 1 := ⟨_, rfl⟩
                    refine lv_iinc (v := z204) (lv' := [(8, .int z204), (12, .int w113), (10, .long w114), (9, .int r101), (7, .int w72), (5, .long w73), (4, .int w65), (3, .int r42), (2, .int z40), (0, .ref h0), (1, .int v)]) hx hb dX12_best_277 hl (k := 3) rfl (by rw [ez204]; rfl) (by decide) rfl (fun ls hl => ?_)
                    have iz204 : z204.toInt = w71.toInt + 1 := zi_add ez204 rfl rfl (by omega) (by omega)
                    refine lv_goto (tgt := 113) hx hb dX12_best_280 (by decide) ?_
                    have hf_205 : f103 (ρ h0 49) = .inl (κ 0, 6, .inl g88) := (hF104 _ (by rw [y22]; decide)).trans hf_o87
                    have tf206 : mo_i (f103 (ρ h0 49)) = g88 := tfa_i hf_205
                    have hf_207 : f103 (ρ h0 43) = .inl (κ 1, 192, .inr (.inl g58)) := (hF104 _ (by rw [y18]; decide)).trans hk77k
                    have hf_208 : f103 (ρ h0 44) = .inl (κ 0, 192, .inl g61) := (hF104 _ (by rw [y19]; decide)).trans hk78k
                    exact ih84 _ _ _ _ (by rw [hn85]; omega) ⟨f103, z204, w72, w73, rfl, hT, hR, hf_112, hf_207, hf_208, (by first | (simp only [tf206, mo_i1, mo_l1]; exact (show ((w73.toInt) ≠ -2000000000000000 → mo_BG (mo_R g88) (mo_RL g58) z40.toInt r42.toInt) from (by first | exact jf86 | (intro q9; exact jf86 (by omega))))) | (rw [tf206]; exact (show ((w73.toInt) ≠ -2000000000000000 → mo_BG (mo_R g88) (mo_RL g58) z40.toInt r42.toInt) from (by first | exact jf86 | (intro q9; exact jf86 (by omega)))))), (by omega), (by omega), (fun q9 => by have q8 := hlast0 (by omega); omega), hP, hD, hS, lv_sub hl [0, 4, 5, 6, 7, 8, 9, 10] rfl⟩
                  · have ic203 : w114.toInt = w73.toInt := zl_nef rfl rfl c203
                    refine lv_iload hx hb dX12_best_233 (lv_at hl 2 rfl) ?_
                    refine lv_iload hx hb dX12_best_235 (lv_at hl 4 rfl) ?_
                    refine lv_icmp_ge (tgt := 277) hx hb dX12_best_237 (by decide) (fun c209 => ?_) (fun c209 => ?_)
                    · have ic209 : r101.toInt ≥ w72.toInt := zi_ge rfl rfl c209
                      obtain ⟨z210, ez210⟩ : ∃ y : Int32, y = w71 + 1 := ⟨_, rfl⟩
                      refine lv_iinc (v := z210) (lv' := [(8, .int z210), (12, .int w113), (10, .long w114), (9, .int r101), (7, .int w72), (5, .long w73), (4, .int w65), (3, .int r42), (2, .int z40), (0, .ref h0), (1, .int v)]) hx hb dX12_best_277 hl (k := 3) rfl (by rw [ez210]; rfl) (by decide) rfl (fun ls hl => ?_)
                      have iz210 : z210.toInt = w71.toInt + 1 := zi_add ez210 rfl rfl (by omega) (by omega)
                      refine lv_goto (tgt := 113) hx hb dX12_best_280 (by decide) ?_
                      have hf_211 : f103 (ρ h0 49) = .inl (κ 0, 6, .inl g88) := (hF104 _ (by rw [y22]; decide)).trans hf_o87
                      have tf212 : mo_i (f103 (ρ h0 49)) = g88 := tfa_i hf_211
                      have hf_213 : f103 (ρ h0 43) = .inl (κ 1, 192, .inr (.inl g58)) := (hF104 _ (by rw [y18]; decide)).trans hk77k
                      have hf_214 : f103 (ρ h0 44) = .inl (κ 0, 192, .inl g61) := (hF104 _ (by rw [y19]; decide)).trans hk78k
                      exact ih84 _ _ _ _ (by rw [hn85]; omega) ⟨f103, z210, w72, w73, rfl, hT, hR, hf_112, hf_213, hf_214, (by first | (simp only [tf212, mo_i1, mo_l1]; exact (show ((w73.toInt) ≠ -2000000000000000 → mo_BG (mo_R g88) (mo_RL g58) z40.toInt r42.toInt) from (by first | exact jf86 | (intro q9; exact jf86 (by omega))))) | (rw [tf212]; exact (show ((w73.toInt) ≠ -2000000000000000 → mo_BG (mo_R g88) (mo_RL g58) z40.toInt r42.toInt) from (by first | exact jf86 | (intro q9; exact jf86 (by omega)))))), (by omega), (by omega), (fun q9 => by have q8 := hlast0 (by omega); omega), hP, hD, hS, lv_sub hl [0, 4, 5, 6, 7, 8, 9, 10] rfl⟩
                    · have ic209 : r101.toInt < w72.toInt := zi_gef rfl rfl c209
                      refine lv_lload hx hb dX12_best_240 (lv_at hl 1 rfl) ?_
                      refine lv_lstore (lv' := [(5, .long w114), (12, .int w113), (10, .long w114), (9, .int r101), (8, .int w71), (7, .int w72), (4, .int w65), (3, .int r42), (2, .int z40), (0, .ref h0), (1, .int v)]) hx hb dX12_best_242 hl (by decide) rfl (fun ls hl => ?_)
                      refine lv_iload hx hb dX12_best_244 (lv_at hl 3 rfl) ?_
                      refine lv_istore (lv' := [(7, .int r101), (5, .long w114), (12, .int w113), (10, .long w114), (9, .int r101), (8, .int w71), (4, .int w65), (3, .int r42), (2, .int z40), (0, .ref h0), (1, .int v)]) hx hb dX12_best_246 hl (by decide) rfl (fun ls hl => ?_)
                      refine lv_iconst (v := 0) hx hb dX12_best_248 (by decide) ?_
                      refine lv_istore (lv' := [(12, .int 0), (7, .int r101), (5, .long w114), (10, .long w114), (9, .int r101), (8, .int w71), (4, .int w65), (3, .int r42), (2, .int z40), (0, .ref h0), (1, .int v)]) hx hb dX12_best_249 hl (by decide) rfl (fun ls hl => ?_)
                      have hf_216 : f103 (ρ h0 43) = .inl (κ 1, 192, .inr (.inl g58)) := (hF104 _ (by rw [y18]; decide)).trans hk77k
                      have hf_217 : f103 (ρ h0 44) = .inl (κ 0, 192, .inl g61) := (hF104 _ (by rw [y19]; decide)).trans hk78k
                      have hf_223 : f103 (ρ h0 49) = .inl (κ 0, 6, .inl g88) := (hF104 _ (by rw [y22]; decide)).trans hf_o87
                      have tf224 : mo_i (f103 (ρ h0 49)) = g88 := tfa_i hf_223
                      refine pz_loop (fun n0 H locs ls => ∃ f225 : Nat → va_E, ∃ w215 : Int32, n0 = (6 - (w215.toInt)).toNat ∧ tp_T (mo_O κ) κ τ ν ρ f225 ∧ tp_F τ [13, 69, 70, 71, 72, 73, 74, 75, 76, 79, 80, 81, 82] f f225 ∧ f225 (ρ h0 2) = .inl (κ 0, 12967, .inl g27) ∧ f225 (ρ h0 43) = .inl (κ 1, 192, .inr (.inl g58)) ∧ f225 (ρ h0 44) = .inl (κ 0, 192, .inl g61) ∧ f225 (ρ h0 51) = .inl (κ 0, 6, .inl g106) ∧ f225 (ρ h0 52) = .inl (κ 0, 3, .inl g109) ∧ ((∀ d, 0 ≤ d → d < (w215.toInt) → (mo_R (mo_i (f225 (ρ h0 49)))) d = (mo_R g106) d)) ∧ (0 ≤ w215.toInt ∧ w215.toInt ≤ 6) ∧ va_P (dC, dI) vwCl (va_pl L f225) H ∧ va_D A (va_pl L f225) ∧ va_S A s.heap H locs ∧ lv_has ls 15 [(12, .int w215), (7, .int r101), (5, .long w114), (10, .long w114), (9, .int r101), (8, .int w71), (4, .int w65), (3, .int r42), (2, .int z40), (0, .ref h0), (1, .int v)]) ?_ _ _ _ _ ⟨f103, 0, rfl, hT, hR, hf_112, hf_216, hf_217, hf_o105, hf_o108, (by first | (simp only [tf224, mo_i1, mo_l1]; exact (show ∀ d, 0 ≤ d → d < (0 : Int32).toInt → (mo_R g88) d = (mo_R g106) d from (fun d d0 d1 => absurd d1 (by have : (0 : Int32).toInt = 0 := rfl; omega)))) | (rw [tf224]; exact (show ∀ d, 0 ≤ d → d < (0 : Int32).toInt → (mo_R g88) d = (mo_R g106) d from (fun d d0 d1 => absurd d1 (by have : (0 : Int32).toInt = 0 := rfl; omega))))), (by have : (0 : Int32).toInt = 0 := rfl; omega), hP, hD, hS, lv_sub hl [0, 1, 2, 3, 4, 5, 6, 7, 8, 9, 10] rfl⟩
                      intro n0 H locs ls hI ih227
                      obtain ⟨f225, w215, hn228, hT, hR, hk218k, hk219k, hk220k, hk221k, hk222k, jf229, rw215, hP, hD, hS, hl⟩ := hI
                      obtain ⟨g231, hf_o230⟩ := tpo_79 hT y22
                      have tf232 : mo_i (f225 (ρ h0 49)) = g231 := tfa_i hf_o230
                      have jf229 : ∀ d, 0 ≤ d → d < (w215.toInt) → (mo_R g231) d = (mo_R g106) d := by have q9 := jf229; first | (simp only [tf232, mo_i1, mo_l1] at q9; exact q9) | (rw [tf232] at q9; exact q9)
                      refine lv_iload hx hb dX12_best_251 (lv_at hl 0 rfl) ?_
                      refine lv_iload_n hx hb dX12_best_253 rfl (lv_at hl 8 rfl) ?_
                      refine lv_icmp_ge (tgt := 277) hx hb dX12_best_254 (by decide) (fun c233 => ?_) (fun c233 => ?_)
                      · have ic233 : w215.toInt ≥ z40.toInt := zi_ge rfl rfl c233
                        obtain ⟨z234, ez234⟩ : ∃ y : Int32, y = w71 + 1 := ⟨_, rfl⟩
                        refine lv_iinc (v := z234) (lv' := [(8, .int z234), (12, .int w215), (7, .int r101), (5, .long w114), (10, .long w114), (9, .int r101), (4, .int w65), (3, .int r42), (2, .int z40), (0, .ref h0), (1, .int v)]) hx hb dX12_best_277 hl (k := 5) rfl (by rw [ez234]; rfl) (by decide) rfl (fun ls hl => ?_)
                        have iz234 : z234.toInt = w71.toInt + 1 := zi_add ez234 rfl rfl (by omega) (by omega)
                        refine lv_goto (tgt := 113) hx hb dX12_best_280 (by decide) ?_
                        exact ih84 _ _ _ _ (by rw [hn85]; omega) ⟨f225, z234, r101, w114, rfl, hT, hR, hk218k, hk219k, hk220k, (by first | (simp only [tf232, mo_i1, mo_l1]; exact (show ((w114.toInt) ≠ -2000000000000000 → mo_BG (mo_R g231) (mo_RL g58) z40.toInt r42.toInt) from (fun _ => mo_BG.of hSB (by omega) (by omega) (fun d d0 d1 => jf229 d d0 (by omega)) (fun t t0 t1 => k116 (by omega) t t0 (by omega))))) | (rw [tf232]; exact (show ((w114.toInt) ≠ -2000000000000000 → mo_BG (mo_R g231) (mo_RL g58) z40.toInt r42.toInt) from (fun _ => mo_BG.of hSB (by omega) (by omega) (fun d d0 d1 => jf229 d d0 (by omega)) (fun t t0 t1 => k116 (by omega) t t0 (by omega)))))), (by omega), (by omega), (fun q9 => by have q8 := hlast0 (by omega); omega), hP, hD, hS, lv_sub hl [0, 2, 3, 6, 7, 8, 9, 10] rfl⟩
                      · have ic233 : w215.toInt < z40.toInt := zi_gef rfl rfl c233
                        refine lv_aload_n hx hb dX12_best_257 rfl (lv_at hl 9 rfl) ?_
                        obtain ⟨o235_x0, o235_x1, o235_x7, o235_x9, o235_x10, o235_x11, o235_x12, o235_x13, o235_x14, o235_x15, o235_x16, o235_x17, o235_x18, o235_x19, o235_x20, o235_x22, o235_x25, o235_x28, o235_x29, o235_x32, o235_x33, o235_x34, o235_x35, o235_x36, o235_x37, o235_x38, o235_x47, o235_x48, hf_o235, ro235_0, ro235_1, ro235_2, ro235_3, ro235_4, ro235_5, ro235_6, ro235_7, ro235_8, ro235_9, ro235_10, ro235_11, ro235_12, ro235_13⟩ := tpo_13 hT ht_h0
                        obtain ⟨q236, eq236⟩ := tp_pos (tp_in hG ht_h0 (by decide)) hf_o235
                        refine va_get (D := (dC, dI)) (ci := 12) (v := .ref (ρ h0 49)) (C := RX12) (T := TX12) (N := 53) hx hb hts hfX12 hown hK hP q236 eq236 rfl 49 (by decide) (hts (.fieldLink RX12 79 "ColdShipsModel" "bestShip" "[I") wa_171) (fun _ h9 => h9) rfl dX12_best_258 ?_
                        refine lv_iload hx hb dX12_best_261 (lv_at hl 0 rfl) ?_
                        refine lv_aload_n hx hb dX12_best_263 rfl (lv_at hl 9 rfl) ?_
                        refine va_get (D := (dC, dI)) (ci := 12) (v := .ref (ρ h0 51)) (C := RX12) (T := TX12) (N := 53) hx hb hts hfX12 hown hK hP q236 eq236 rfl 51 (by decide) (hts (.fieldLink RX12 85 "ColdShipsModel" "chosen" "[I") wa_173) (fun _ h9 => h9) rfl dX12_best_264 ?_
                        refine lv_iload hx hb dX12_best_267 (lv_at hl 0 rfl) ?_
                        obtain ⟨q237, eq237⟩ := tp_pos (tp_in hG y24 (by decide)) hk221k
                        refine va_iald hx hb hK hP q237 0 eq237 rfl (vp_in_iff.mpr ⟨by omega, by omega⟩) dX12_best_269 ?_
                        refine lv_topi (fun z238 ez238 => ?_)
                        have jz238 : z238.toInt = mo_R g106 w215.toInt := mo_rd ez238 (by omega)
                        obtain ⟨q239, eq239⟩ := tp_pos (tp_in hG y22 (by decide)) hf_o230
                        refine va_iast hx hb hK hP hD hS q239 0 eq239 rfl (vp_in_iff.mpr ⟨by omega, by omega⟩) dX12_best_270 (tp_k (.inl (κ 0, 6, .inl (upd g231 w215.toNatClampNeg z238))) hD (tp_in hG y22 (by decide)) eq239 (fun f240 H locs hP hD hS g242 k241 => ?_))
                        have hT := hT.up y22 g242 k241 tp_o79
                        have hR := hR.up y22 (by decide) k241
                        have hU244 : mo_U (mo_R g231) (mo_R (upd g231 w215.toNatClampNeg z238)) (w215.toInt) (z238.toInt) := mo_up (by omega) (rfl : z238.toInt = _) (by omega)
                        generalize (upd g231 w215.toNatClampNeg z238) = g243 at g242 hU244
                        obtain ⟨z245, ez245⟩ : ∃ y : Int32, y = w215 + 1 := ⟨_, rfl⟩
                        refine lv_iinc (v := z245) (lv' := [(12, .int z245), (7, .int r101), (5, .long w114), (10, .long w114), (9, .int r101), (8, .int w71), (4, .int w65), (3, .int r42), (2, .int z40), (0, .ref h0), (1, .int v)]) hx hb dX12_best_271 hl (k := 0) rfl (by rw [ez245]; rfl) (by decide) rfl (fun ls hl => ?_)
                        have iz245 : z245.toInt = w215.toInt + 1 := zi_add ez245 rfl rfl (by omega) (by omega)
                        refine lv_goto (tgt := 251) hx hb dX12_best_274 (by decide) ?_
                        have tf246 : mo_i (f240 (ρ h0 49)) = g243 := tfa_i g242
                        have hf_247 : f240 (ρ h0 2) = .inl (κ 0, 12967, .inl g27) := (k241 _ (tp_ne y1 y22 (by decide))).trans hk218k
                        have hf_248 : f240 (ρ h0 43) = .inl (κ 1, 192, .inr (.inl g58)) := (k241 _ (tp_ne y18 y22 (by decide))).trans hk219k
                        have hf_249 : f240 (ρ h0 44) = .inl (κ 0, 192, .inl g61) := (k241 _ (tp_ne y19 y22 (by decide))).trans hk220k
                        have hf_250 : f240 (ρ h0 51) = .inl (κ 0, 6, .inl g106) := (k241 _ (tp_ne y24 y22 (by decide))).trans hk221k
                        have hf_251 : f240 (ρ h0 52) = .inl (κ 0, 3, .inl g109) := (k241 _ (tp_ne y25 y22 (by decide))).trans hk222k
                        exact ih227 _ _ _ _ (by rw [hn228]; omega) ⟨f240, z245, rfl, hT, hR, hf_247, hf_248, hf_249, hf_250, hf_251, (by first | (simp only [tf246, mo_i1, mo_l1]; exact (show ∀ d, 0 ≤ d → d < (z245.toInt) → (mo_R g243) d = (mo_R g106) d from (fun d d0 d1 => by rcases hU244.at d d0 with ⟨z0, a0⟩ | ⟨z0, a0⟩ <;> first | (rw [a0, z0]; omega) | (rw [a0]; exact jf229 d d0 (by omega))))) | (rw [tf246]; exact (show ∀ d, 0 ≤ d → d < (z245.toInt) → (mo_R g243) d = (mo_R g106) d from (fun d d0 d1 => by rcases hU244.at d d0 with ⟨z0, a0⟩ | ⟨z0, a0⟩ <;> first | (rw [a0, z0]; omega) | (rw [a0]; exact jf229 d d0 (by omega)))))), (by omega), hP, hD, hS, lv_sub hl [0, 1, 2, 3, 4, 5, 6, 7, 8, 9, 10] rfl⟩
          · have ic120 : w113.toInt < r42.toInt := zi_gef rfl rfl c120
            refine lv_lload hx hb dX12_best_142 (lv_at hl 1 rfl) ?_
            refine lv_ldc2 (own := RX12) (v := (-2000000000000000)) hx hb hown (hts (.constantLong RX12 466 (-2000000000000000)) wa_1189) dX12_best_144 ?_
            refine W.lcmp hx hb dX12_best_147 ?_
            refine lv_if_eq (tgt := 199) hx hb dX12_best_148 (by decide) (fun c252 => ?_) (fun c252 => ?_)
            · have ic252 : w114.toInt = (-2000000000000000) := zl_eq rfl rfl c252
              have hlast0 : w71.toInt + 1 = w65.toInt → w114.toInt = 0 := fun q9 => k117 (by omega)
              refine lv_lload hx hb dX12_best_199 (lv_at hl 1 rfl) ?_
              refine lv_ldc2 (own := RX12) (v := (-2000000000000000)) hx hb hown (hts (.constantLong RX12 466 (-2000000000000000)) wa_1189) dX12_best_201 ?_
              refine W.lcmp hx hb dX12_best_204 ?_
              refine lv_if_eq (tgt := 277) hx hb dX12_best_205 (by decide) (fun c253 => ?_) (fun c253 => ?_)
              · have ic253 : w114.toInt = (-2000000000000000) := zl_eq rfl rfl c253
                obtain ⟨z254, ez254⟩ : ∃ y : Int32, y = w71 + 1 := ⟨_, rfl⟩
                refine lv_iinc (v := z254) (lv' := [(8, .int z254), (12, .int w113), (10, .long w114), (9, .int r101), (7, .int w72), (5, .long w73), (4, .int w65), (3, .int r42), (2, .int z40), (0, .ref h0), (1, .int v)]) hx hb dX12_best_277 hl (k := 3) rfl (by rw [ez254]; rfl) (by decide) rfl (fun ls hl => ?_)
                have iz254 : z254.toInt = w71.toInt + 1 := zi_add ez254 rfl rfl (by omega) (by omega)
                refine lv_goto (tgt := 113) hx hb dX12_best_280 (by decide) ?_
                have hf_255 : f103 (ρ h0 49) = .inl (κ 0, 6, .inl g88) := (hF104 _ (by rw [y22]; decide)).trans hf_o87
                have tf256 : mo_i (f103 (ρ h0 49)) = g88 := tfa_i hf_255
                have hf_257 : f103 (ρ h0 43) = .inl (κ 1, 192, .inr (.inl g58)) := (hF104 _ (by rw [y18]; decide)).trans hk77k
                have hf_258 : f103 (ρ h0 44) = .inl (κ 0, 192, .inl g61) := (hF104 _ (by rw [y19]; decide)).trans hk78k
                exact ih84 _ _ _ _ (by rw [hn85]; omega) ⟨f103, z254, w72, w73, rfl, hT, hR, hf_112, hf_257, hf_258, (by first | (simp only [tf256, mo_i1, mo_l1]; exact (show ((w73.toInt) ≠ -2000000000000000 → mo_BG (mo_R g88) (mo_RL g58) z40.toInt r42.toInt) from (by first | exact jf86 | (intro q9; exact jf86 (by omega))))) | (rw [tf256]; exact (show ((w73.toInt) ≠ -2000000000000000 → mo_BG (mo_R g88) (mo_RL g58) z40.toInt r42.toInt) from (by first | exact jf86 | (intro q9; exact jf86 (by omega)))))), (by omega), (by omega), (fun q9 => by have q8 := hlast0 (by omega); omega), hP, hD, hS, lv_sub hl [0, 4, 5, 6, 7, 8, 9, 10] rfl⟩
              · have ic253 : w114.toInt ≠ (-2000000000000000) := zl_eqf rfl rfl c253
                exfalso; omega
            · have ic252 : w114.toInt ≠ (-2000000000000000) := zl_eqf rfl rfl c252
              refine lv_aload_n hx hb dX12_best_151 rfl (lv_at hl 9 rfl) ?_
              have hf_259 : f103 h0 = .inr (12, [.int o99_x0, .int o99_x1, .ref (ρ h0 2), .ref (ρ h0 3), .ref (ρ h0 4), .ref (ρ h0 5), .ref (ρ h0 6), .int o99_x7, .ref (ρ h0 8), .int o99_x9, .int o99_x10, .int o99_x11, .int o99_x12, .long o99_x13, .int o99_x14, .int o99_x15, .int o99_x16, .int o99_x17, .int o99_x18, .int o99_x19, .int o99_x20, .ref (ρ h0 21), .int o99_x22, .ref (ρ h0 23), .ref (ρ h0 24), .int o99_x25, .ref (ρ h0 26), .ref (ρ h0 27), .int o99_x28, .int o99_x29, .ref (ρ h0 30), .ref (ρ h0 31), .int o99_x32, .long o99_x33, .long o99_x34, .long o99_x35, .int o99_x36, .int o99_x37, .int o99_x38, .ref (ρ h0 39), .ref (ρ h0 40), .ref (ρ h0 41), .ref (ρ h0 42), .ref (ρ h0 43), .ref (ρ h0 44), .ref (ρ h0 45), .ref (ρ h0 46), .int o99_x47, .int o99_x48, .ref (ρ h0 49), .ref (ρ h0 50), .ref (ρ h0 51), .ref (ρ h0 52)]) := (hF104 _ (by rw [ht_h0]; decide)).trans hf_o99
              obtain ⟨q260, eq260⟩ := tp_pos (tp_in hG ht_h0 (by decide)) hf_259
              refine va_get (D := (dC, dI)) (ci := 12) (v := .ref (ρ h0 43)) (C := RX12) (T := TX12) (N := 53) hx hb hts hfX12 hown hK hP q260 eq260 rfl 43 (by decide) (hts (.fieldLink RX12 67 "ColdShipsModel" "bestOf" "[J") wa_167) (fun _ h9 => h9) rfl dX12_best_152 ?_
              refine lv_bipush (v := 64) hx hb dX12_best_155 (by decide) ?_
              refine lv_iload hx hb dX12_best_157 (lv_at hl 0 rfl) ?_
              refine lv_imul hx hb dX12_best_159 ?_
              refine lv_topi (fun z261 ez261 => ?_)
              have iz261 : z261.toInt = 64 * w113.toInt := zi_mul ez261 rfl rfl (by omega) (by omega)
              refine lv_aload_n hx hb dX12_best_160 rfl (lv_at hl 9 rfl) ?_
              refine va_get (D := (dC, dI)) (ci := 12) (v := .ref (ρ h0 52)) (C := RX12) (T := TX12) (N := 53) hx hb hts hfX12 hown hK hP q260 eq260 rfl 52 (by decide) (hts (.fieldLink RX12 88 "ColdShipsModel" "sets" "[I") wa_174) (fun _ h9 => h9) rfl dX12_best_161 ?_
              refine lv_iload hx hb dX12_best_164 (lv_at hl 0 rfl) ?_
              obtain ⟨q262, eq262⟩ := tp_pos (tp_in hG y25 (by decide)) hf_o108
              refine va_iald hx hb hK hP q262 0 eq262 rfl (vp_in_iff.mpr ⟨by omega, by omega⟩) dX12_best_166 ?_
              refine lv_topi (fun z263 ez263 => ?_)
              have jz263 : z263.toInt = mo_R g109 w113.toInt := mo_rd ez263 (by omega)
              have hsr := (hSB.2 w113.toInt (by omega) (by omega)).1
              refine lv_iadd hx hb dX12_best_167 ?_
              refine lv_topi (fun z264 ez264 => ?_)
              have iz264 : z264.toInt = z261.toInt + z263.toInt := zi_add ez264 rfl rfl (by omega) (by omega)
              have hf_265 : f103 (ρ h0 43) = .inl (κ 1, 192, .inr (.inl g58)) := (hF104 _ (by rw [y18]; decide)).trans hk77k
              obtain ⟨q266, eq266⟩ := tp_pos (tp_in hG y18 (by decide)) hf_265
              refine va_lald hx hb hK hP q266 1 eq266 rfl (vp_in_iff.mpr ⟨by omega, by omega⟩) dX12_best_168 ?_
              refine lv_topl (fun z267 ez267 => ?_)
              have jz267 : z267.toInt = mo_RL g58 (64 * w113.toInt + z263.toInt) := mo_rdL ez267 (by omega)
              refine lv_lstore (lv' := [(13, .long z267), (12, .int w113), (10, .long w114), (9, .int r101), (8, .int w71), (7, .int w72), (5, .long w73), (4, .int w65), (3, .int r42), (2, .int z40), (0, .ref h0), (1, .int v)]) hx hb dX12_best_169 hl (by decide) rfl (fun ls hl => ?_)
              refine lv_lload hx hb dX12_best_171 (lv_at hl 0 rfl) ?_
              refine lv_ldc2 (own := RX12) (v := (-2000000000000000)) hx hb hown (hts (.constantLong RX12 466 (-2000000000000000)) wa_1189) dX12_best_173 ?_
              refine W.lcmp hx hb dX12_best_176 ?_
              refine lv_if_ne (tgt := 186) hx hb dX12_best_177 (by decide) (fun c268 => ?_) (fun c268 => ?_)
              · have ic268 : z267.toInt ≠ (-2000000000000000) := zl_ne rfl rfl c268
                refine lv_lload hx hb dX12_best_186 (lv_at hl 2 rfl) ?_
                refine lv_lload hx hb dX12_best_188 (lv_at hl 0 rfl) ?_
                refine lv_ladd hx hb dX12_best_190 ?_
                refine lv_topl (fun z269 ez269 => ?_)
                refine lv_lstore (lv' := [(10, .long z269), (13, .long z267), (12, .int w113), (9, .int r101), (8, .int w71), (7, .int w72), (5, .long w73), (4, .int w65), (3, .int r42), (2, .int z40), (0, .ref h0), (1, .int v)]) hx hb dX12_best_191 hl (by decide) rfl (fun ls hl => ?_)
                obtain ⟨z270, ez270⟩ : ∃ y : Int32, y = w113 + 1 := ⟨_, rfl⟩
                refine lv_iinc (v := z270) (lv' := [(12, .int z270), (10, .long z269), (13, .long z267), (9, .int r101), (8, .int w71), (7, .int w72), (5, .long w73), (4, .int w65), (3, .int r42), (2, .int z40), (0, .ref h0), (1, .int v)]) hx hb dX12_best_193 hl (k := 2) rfl (by rw [ez270]; rfl) (by decide) rfl (fun ls hl => ?_)
                have iz270 : z270.toInt = w113.toInt + 1 := zi_add ez270 rfl rfl (by omega) (by omega)
                refine lv_goto (tgt := 136) hx hb dX12_best_196 (by decide) ?_
                exact ih118 _ _ _ _ (by rw [hn119]; omega) ⟨z270, z269, rfl, (by omega), (by omega), (fun q9 t t0 t1 => by rcases (show t < w113.toInt ∨ t = w113.toInt by omega) with q8 | rfl; (exact k116 (by omega) t t0 q8); (rw [← jz263, ← jz267]; omega)), (fun q9 => by have q7 := hLST (by omega) w113.toInt (by omega) (by omega); have q6 := (hTB w113.toInt 0 (by omega) (by omega) (by omega) (by omega)).2 rfl; have q5 : 64 * w113.toInt + z263.toInt = 64 * w113.toInt + 0 := by omega; rw [q5] at jz267; have q4 := k117 (by omega); have q3 := zl_add ez269 (rfl : w114.toInt = _) (rfl : z267.toInt = _) (by omega) (by omega); omega), hP, hD, hS, lv_sub hl [0, 1, 3, 4, 5, 6, 7, 8, 9, 10, 11] rfl⟩
              · have ic268 : z267.toInt = (-2000000000000000) := zl_nef rfl rfl c268
                refine lv_ldc2 (own := RX12) (v := (-2000000000000000)) hx hb hown (hts (.constantLong RX12 466 (-2000000000000000)) wa_1189) dX12_best_180 ?_
                refine lv_goto (tgt := 191) hx hb dX12_best_183 (by decide) ?_
                refine lv_lstore (lv' := [(10, .long (-2000000000000000)), (13, .long z267), (12, .int w113), (9, .int r101), (8, .int w71), (7, .int w72), (5, .long w73), (4, .int w65), (3, .int r42), (2, .int z40), (0, .ref h0), (1, .int v)]) hx hb dX12_best_191 hl (by decide) rfl (fun ls hl => ?_)
                obtain ⟨z271, ez271⟩ : ∃ y : Int32, y = w113 + 1 := ⟨_, rfl⟩
                refine lv_iinc (v := z271) (lv' := [(12, .int z271), (10, .long (-2000000000000000)), (13, .long z267), (9, .int r101), (8, .int w71), (7, .int w72), (5, .long w73), (4, .int w65), (3, .int r42), (2, .int z40), (0, .ref h0), (1, .int v)]) hx hb dX12_best_193 hl (k := 2) rfl (by rw [ez271]; rfl) (by decide) rfl (fun ls hl => ?_)
                have iz271 : z271.toInt = w113.toInt + 1 := zi_add ez271 rfl rfl (by omega) (by omega)
                refine lv_goto (tgt := 136) hx hb dX12_best_196 (by decide) ?_
                exact ih118 _ _ _ _ (by rw [hn119]; omega) ⟨z271, (-2000000000000000), rfl, (by have : ((-2000000000000000) : Int64).toInt = (-2000000000000000) := rfl; omega), (by have : ((-2000000000000000) : Int64).toInt = (-2000000000000000) := rfl; omega), (fun q9 => absurd (by decide) q9), (fun q9 => by have q7 := hLST (by omega) w113.toInt (by omega) (by omega); have q6 := (hTB w113.toInt 0 (by omega) (by omega) (by omega) (by omega)).2 rfl; have q5 : 64 * w113.toInt + z263.toInt = 64 * w113.toInt + 0 := by omega; rw [q5] at jz267; have q4 := k117 (by omega); exfalso; omega), hP, hD, hS, lv_sub hl [0, 1, 3, 4, 5, 6, 7, 8, 9, 10, 11] rfl⟩
      · have ic70 : w64.toInt < z40.toInt := zi_gef rfl rfl c70
        refine lv_iload hx hb dX12_best_88 (lv_at hl 1 rfl) ?_
        refine lv_iload_n hx hb dX12_best_90 rfl (lv_at hl 2 rfl) ?_
        refine lv_iconst (v := 1) hx hb dX12_best_91 (by decide) ?_
        refine lv_iadd hx hb dX12_best_92 ?_
        refine lv_topi (fun z272 ez272 => ?_)
        have iz272 : z272.toInt = r42.toInt + 1 := zi_add ez272 rfl rfl (by omega) (by omega)
        refine lv_imul hx hb dX12_best_93 ?_
        refine lv_topi (fun z273 ez273 => ?_)
        have iz273 : z273.toInt = mo_pw r42.toInt (w64.toInt + 1).toNat := zi_pw ez273 k67 (by omega) (by omega) (by omega) (by omega) rfl
        refine lv_istore (lv' := [(4, .int z273), (5, .int w64), (3, .int r42), (2, .int z40), (0, .ref h0), (1, .int v)]) hx hb dX12_best_94 hl (by decide) rfl (fun ls hl => ?_)
        obtain ⟨z274, ez274⟩ : ∃ y : Int32, y = w64 + 1 := ⟨_, rfl⟩
        refine lv_iinc (v := z274) (lv' := [(5, .int z274), (4, .int z273), (3, .int r42), (2, .int z40), (0, .ref h0), (1, .int v)]) hx hb dX12_best_96 hl (k := 1) rfl (by rw [ez274]; rfl) (by decide) rfl (fun ls hl => ?_)
        have iz274 : z274.toInt = w64.toInt + 1 := zi_add ez274 rfl rfl (by omega) (by omega)
        refine lv_goto (tgt := 82) hx hb dX12_best_99 (by decide) ?_
        exact ih68 _ _ _ _ (by rw [hn69]; omega) ⟨z274, z273, rfl, (by omega), (by omega), (by omega), (zi_pw ez273 k67 (by omega) (by omega) (by omega) (by omega) (by omega)), hP, hD, hS, lv_sub hl [0, 1, 2, 3, 4, 5] rfl⟩
    · have ic63 : w44.toInt < r42.toInt := zi_gef rfl rfl c63
      refine lv_iconst (v := 0) hx hb dX12_best_44 (by decide) ?_
      refine lv_istore (lv' := [(5, .int 0), (4, .int w44), (3, .int r42), (2, .int z40), (0, .ref h0), (1, .int v)]) hx hb dX12_best_45 hl (by decide) rfl (fun ls hl => ?_)
      refine pz_loop (fun n0 H locs ls => ∃ f277 : Nat → va_E, ∃ w275 : Int32, n0 = (64 - (w275.toInt)).toNat ∧ tp_T (mo_O κ) κ τ ν ρ f277 ∧ tp_F τ [13, 69, 70, 71, 72, 73, 74, 75, 76, 79, 80, 81, 82] f f277 ∧ f277 (ρ h0 2) = .inl (κ 0, 12967, .inl g27) ∧ ((mo_TB (mo_RL (mo_l (f277 (ρ h0 43)))) (mo_R (mo_i (f277 (ρ h0 44)))) (w44.toInt) (w275.toInt) (mo_P2 z40.toInt))) ∧ (0 ≤ w275.toInt ∧ w275.toInt ≤ 64) ∧ va_P (dC, dI) vwCl (va_pl L f277) H ∧ va_D A (va_pl L f277) ∧ va_S A s.heap H locs ∧ lv_has ls 15 [(5, .int w275), (4, .int w44), (3, .int r42), (2, .int z40), (0, .ref h0), (1, .int v)]) ?_ _ _ _ _ ⟨f52, 0, rfl, hT, hR, hk45k, (by first | (simp only [tf59, tf62, mo_i1, mo_l1]; exact (show mo_TB (mo_RL g58) (mo_R g61) (w44.toInt) (0 : Int32).toInt (mo_P2 z40.toInt) from jf56)) | (rw [tf59, tf62]; exact (show mo_TB (mo_RL g58) (mo_R g61) (w44.toInt) (0 : Int32).toInt (mo_P2 z40.toInt) from jf56))), (by have : (0 : Int32).toInt = 0 := rfl; omega), hP, hD, hS, lv_sub hl [0, 1, 2, 3, 4, 5] rfl⟩
      intro n0 H locs ls hI ih279
      obtain ⟨f277, w275, hn280, hT, hR, hk276k, jf281, rw275, hP, hD, hS, hl⟩ := hI
      obtain ⟨g283, hf_o282⟩ := tpo_73 hT y18
      have tf284 : mo_l (f277 (ρ h0 43)) = g283 := tfa_l hf_o282
      obtain ⟨g286, hf_o285⟩ := tpo_74 hT y19
      have tf287 : mo_i (f277 (ρ h0 44)) = g286 := tfa_i hf_o285
      have jf281 : mo_TB (mo_RL g283) (mo_R g286) (w44.toInt) (w275.toInt) (mo_P2 z40.toInt) := by have q9 := jf281; first | (simp only [tf284, tf287, mo_i1, mo_l1] at q9; exact q9) | (rw [tf284, tf287] at q9; exact q9)
      refine lv_iload hx hb dX12_best_47 (lv_at hl 0 rfl) ?_
      refine lv_iconst (v := 1) hx hb dX12_best_49 (by decide) ?_
      refine lv_iload_n hx hb dX12_best_50 rfl (lv_at hl 3 rfl) ?_
      refine lv_ishl hx hb dX12_best_51 ?_
      refine lv_topi (fun z288 ez288 => ?_)
      have iz288 : 1 ≤ z288.toInt ∧ z288.toInt ≤ 64 := zb_shl6 ez288 rfl (by omega) (by omega)
      have hz2 := zb_P2 ez288 (by omega) (by omega)
      refine lv_icmp_ge (tgt := 70) hx hb dX12_best_52 (by decide) (fun c289 => ?_) (fun c289 => ?_)
      · have ic289 : w275.toInt ≥ z288.toInt := zi_ge rfl rfl c289
        obtain ⟨z290, ez290⟩ : ∃ y : Int32, y = w44 + 1 := ⟨_, rfl⟩
        refine lv_iinc (v := z290) (lv' := [(4, .int z290), (5, .int w275), (3, .int r42), (2, .int z40), (0, .ref h0), (1, .int v)]) hx hb dX12_best_70 hl (k := 1) rfl (by rw [ez290]; rfl) (by decide) rfl (fun ls hl => ?_)
        have iz290 : z290.toInt = w44.toInt + 1 := zi_add ez290 rfl rfl (by omega) (by omega)
        refine lv_goto (tgt := 38) hx hb dX12_best_73 (by decide) ?_
        exact ih54 _ _ _ _ (by rw [hn55]; omega) ⟨f277, z290, rfl, hT, hR, hk276k, (by first | (simp only [tf284, tf287, mo_i1, mo_l1]; exact (show mo_TB (mo_RL g283) (mo_R g286) (z290.toInt) 0 (mo_P2 z40.toInt) from jf281.nx (by omega) (by omega) 0 rfl)) | (rw [tf284, tf287]; exact (show mo_TB (mo_RL g283) (mo_R g286) (z290.toInt) 0 (mo_P2 z40.toInt) from jf281.nx (by omega) (by omega) 0 rfl))), (by omega), hP, hD, hS, lv_sub hl [0, 2, 3, 4, 5] rfl⟩
      · have ic289 : w275.toInt < z288.toInt := zi_gef rfl rfl c289
        refine lv_aload_n hx hb dX12_best_55 rfl (lv_at hl 4 rfl) ?_
        refine lv_iload hx hb dX12_best_56 (lv_at hl 1 rfl) ?_
        refine lv_iload hx hb dX12_best_58 (lv_at hl 0 rfl) ?_
        refine lv_iload_n hx hb dX12_best_60 rfl (lv_at hl 5 rfl) ?_
        obtain ⟨o291_x0, o291_x1, o291_x7, o291_x9, o291_x10, o291_x11, o291_x12, o291_x13, o291_x14, o291_x15, o291_x16, o291_x17, o291_x18, o291_x19, o291_x20, o291_x22, o291_x25, o291_x28, o291_x29, o291_x32, o291_x33, o291_x34, o291_x35, o291_x36, o291_x37, o291_x38, o291_x47, o291_x48, hf_o291, ro291_0, ro291_1, ro291_2, ro291_3, ro291_4, ro291_5, ro291_6, ro291_7, ro291_8, ro291_9, ro291_10, ro291_11, ro291_12, ro291_13⟩ := tpo_13 hT ht_h0
        obtain ⟨q292, eq292⟩ := tp_pos (tp_in hG ht_h0 (by decide)) hf_o291
        have hFc := tp_fr hD hS hA
        refine va_callv (va_runV (As := [.int w44, .int w275, .int v]) (rest := []) ⟨hx, hb, hml, hown, hts⟩ (t_X12_findSet l dC dI _ κ τ ν ρ L f277 hG hT h0 w44 w275 v (-1) 0 ht_h0 (by omega) (by rw [hk276k, mo_i1]; exact hI) (by first | (simp only [hk276k, hf_o26, mo_i1]; omega) | simp only [hk276k, hf_o26, mo_i1] | omega) (by omega) (by omega) (by rw [hk276k, mo_i1, ← jz40]; omega)) (cwV 3 hts gX12_best_X12_findSet rfl rfl rfl ⟨rfl, pd_X12_findSet⟩ ⟨Nat.le_of_ble_eq_true rfl, Nat.le_of_ble_eq_true rfl⟩) ⟨pz_blind, va_recv hK hP (ci := 12) (q0 := q292) rfl eq292, pz_pre hP hK hD hN⟩ rfl rfl hl.1 rfl (lv_room (Nat.le_of_ble_eq_true rfl)) dX12_best_61 ⟨Nat.le_of_ble_eq_true rfl, Nat.le_of_ble_eq_true rfl⟩) hS (fun q _ h => hFc q h) hFc (fun f295 t H1 locs ht hvm hw294 hB hz1 hk1 hS => ?_)
        obtain ⟨hT, hF296, hw294p⟩ := hw294
        have hR := hR.then hF296 (by decide)
        have hP := hB.1; rw [ht] at hP; have hD := tp_ad f295 hD; clear hB hFc hz1 hk1; subst ht; generalize t.heap = H at hP hS ⊢
        obtain ⟨g298, hf_o297⟩ := tpo_73 hT y18
        have tf299 : mo_l (f295 (ρ h0 43)) = g298 := tfa_l hf_o297
        obtain ⟨g301, hf_o300⟩ := tpo_74 hT y19
        have tf302 : mo_i (f295 (ρ h0 44)) = g301 := tfa_i hf_o300
        have tk303 : ∃ m9 t9 : Int, mo_U (mo_RL g283) (mo_RL g298) (64 * w44.toInt + w275.toInt) m9 ∧ mo_U (mo_R g286) (mo_R g301) (64 * w44.toInt + w275.toInt) t9 ∧ (m9 ≠ -2000000000000000 → mo_GD t9 w275.toInt) ∧ (w275.toInt = 0 → m9 = 0) := by have q9 := hw294p; first | (simp only [tf284, tf299, tf287, tf302, mo_i1, mo_l1] at q9; exact q9) | (rw [tf284, tf299, tf287, tf302] at q9; exact q9)
        obtain ⟨m9, t9, hL9, hA9, h19, h29⟩ := tk303
        obtain ⟨z304, ez304⟩ : ∃ y : Int32, y = w275 + 1 := ⟨_, rfl⟩
        refine lv_iinc (v := z304) (lv' := [(5, .int z304), (4, .int w44), (3, .int r42), (2, .int z40), (0, .ref h0), (1, .int v)]) hx hb dX12_best_64 hl (k := 0) rfl (by rw [ez304]; rfl) (by decide) rfl (fun ls hl => ?_)
        have iz304 : z304.toInt = w275.toInt + 1 := zi_add ez304 rfl rfl (by omega) (by omega)
        refine lv_goto (tgt := 47) hx hb dX12_best_67 (by decide) ?_
        have hf_305 : f295 (ρ h0 2) = .inl (κ 0, 12967, .inl g27) := (hF296 _ (by rw [y1]; decide)).trans hk276k
        exact ih279 _ _ _ _ (by rw [hn280]; omega) ⟨f295, z304, rfl, hT, hR, hf_305, (by first | (simp only [tf299, tf302, mo_i1, mo_l1]; exact (show mo_TB (mo_RL g298) (mo_R g301) (w44.toInt) (z304.toInt) (mo_P2 z40.toInt) from jf281.up hL9 hA9 (by omega) (by omega) (by omega) (by omega) h19 h29 (by omega))) | (rw [tf299, tf302]; exact (show mo_TB (mo_RL g298) (mo_R g301) (w44.toInt) (z304.toInt) (mo_P2 z40.toInt) from jf281.up hL9 hA9 (by omega) (by omega) (by omega) (by omega) h19 h29 (by omega)))), (by omega), hP, hD, hS, lv_sub hl [0, 1, 2, 3, 4, 5] rfl⟩
  · have ic36 : r34.toInt = 0 := zi_nef rfl rfl c36
    refine lv_ldc2 (own := RX12) (v := (-1)) hx hb hown (hts (.constantLong RX12 158 (-1)) wa_557) dX12_best_12 ?_
    exact W.lret (v := (-1)) hx hb hr (fun t ht hW => ⟨⟨(-1), f30, rfl, ⟨hT, hR, trivial, trivial⟩, by rw [ht]; exact hP, va_K.moved hW.alike hK, hD⟩, hS.F ht⟩) hS.2.2 dX12_best_15
