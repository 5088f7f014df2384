section
set_option maxHeartbeats 4000000 in
set_option maxRecDepth 100000 in
theorem t_X12_best (l : Launch) (dC : Nat → ClassId) (dI : Nat → Nat → Nat) (sz : Nat) (κ : Nat → ClassId) (Θ : Nat → Option Int) (τ ν : Nat → Nat) (ρ : Nat → Nat → Nat) (L : List Nat) (f : Nat → va_E) (hG : tp_G τ ν ρ L) (hT : tp_T (mo_O κ Θ) κ τ ν ρ f) (h0 : Nat) (v : Int32) (ht_h0 : τ h0 = 13) (hJ : mo_RI (-1) 0 (mo_R (mo_i (f (ρ h0 2))))) : Met l yX12_best wqX12_best ({ frames := 9, cells := 0, slots := 0, locals := 3200 }) (va_Pc [.ref h0, .int v] (pz_B dC dI (tp_K κ) (va_pl L f) sz)) (va_Ql (fun (r : Int64) (f1 : Nat → va_E) => tp_T (mo_O κ Θ) κ τ ν ρ f1 ∧ tp_F τ [13, 69, 70, 71, 72, 73, 74, 75, 76, 79, 80, 81, 82] f f1 ∧ True ∧ True) (fun (f1 : Nat → va_E) (t : State) => pz_E dC dI (tp_K κ) (va_A (va_pl L f) sz) (va_pl L f1) t) (va_A (va_pl L f) sz)) 0 0 (va_A (va_pl L f) sz) := by
  refine Met.ofW (cc := cX12_best) (maxL := 15) (ret := some .long) (by decide) rfl ?_
  intro p e s m args below meth c s₁ B hml hv
  obtain ⟨rfl, hsz, hP, hK, hD0, hN⟩ := hv
  have hx := B.exec
  have hb := B.bytes
  have hr := B.returns
  have hts := fun (w : Cond) (h : w ∈ WALL) => atoms_spec (ws := wqX12_best) B.pre w (List.mem_cons_of_mem _ h)
  have hown : s.vm.findClass RX12 = some m.cls := findClass_of_methodNamed B.named
  have hlocks := B.notSynchronized
  subst hsz
  have hD := hD0.self (sz := s.heap.size)
  generalize hAe : va_A (va_pl L f) s.heap.size = A at hD ⊢
  have hA : ∀ q : Nat, s.heap.size ≤ q → A q := fun q h => by rw [← hAe]; exact Or.inr h
  have hS : va_S A s.heap s.heap [] := va_S.rf
  have hR : tp_F τ [13, 69, 70, 71, 72, 73, 74, 75, 76, 79, 80, 81, 82] f f := tp_F.rf
  have hl := lv_entry ([.ref h0, .int v]) (n := 15) (Nat.le_of_ble_eq_true rfl)
  rw [lg_entry_eq]
  generalize (lg_sl ([.ref h0, .int v]) ++ List.replicate (15 - (lg_sl ([.ref h0, .int v])).length) Slot.unset).toArray = ls at hl ⊢
  have hl : lv_has ls 15 [(0, .ref h0), (1, .int v)] := hl
  refine tgk_13 hG ht_h0 (fun y1 y2 y3 y4 y5 y6 y7 y8 y9 y10 y11 y12 y13 y14 y15 y16 y17 y18 y19 y20 y21 y22 y23 y24 y25 => ?_)
  refine tpk_32 hT y1 (fun g27 hf_o26 => ?_)
  have hI : mo_RI (-1) 0 (mo_R g27) := by have q9 := hJ; rw [hf_o26, mo_i1] at q9; exact q9
  refine lv_aload_n hx hb dX12_best_0 rfl (lv_at hl 0 rfl) ?_
  refine lv_iconst (v := 0) hx hb dX12_best_1 (by decide) ?_
  refine tpk_13 hT ht_h0 (fun o28_x0 o28_x1 o28_x7 o28_x9 o28_x10 o28_x11 o28_x12 o28_x13 o28_x14 o28_x15 o28_x16 o28_x17 o28_x18 o28_x19 o28_x20 o28_x22 o28_x25 o28_x28 o28_x29 o28_x32 o28_x33 o28_x34 o28_x35 o28_x36 o28_x37 o28_x38 o28_x47 o28_x48 hf_o28 ro28_0 ro28_1 ro28_2 ro28_3 ro28_4 ro28_5 ro28_6 ro28_7 ro28_8 ro28_9 ro28_10 ro28_11 ro28_12 ro28_13 ro28_14 => ?_)
  refine tpk_pos (tp_in hG ht_h0 (by decide)) hf_o28 (fun q29 eq29 => ?_)
  refine va_put (D := (dC, dI)) (ci := 12) (v := .int 0) (ty := .int) (C := RX12) (T := TX12) (N := 53) hx hb hts hfX12 tyX12 tyX12_ok nmX12 hown hK hP hD hS q29 eq29 rfl 0 (by decide) (hts (.fieldLink RX12 91 "ColdShipsModel" "thrown" "I") wa_209) (fun _ h9 => h9) rfl (tyX12_ok 0 (by decide)) rfl rfl (Nat.le_of_ble_eq_true rfl) dX12_best_2 (tp_k (.inr (12, [.int 0, .int o28_x1, .ref (ρ h0 2), .ref (ρ h0 3), .ref (ρ h0 4), .ref (ρ h0 5), .ref (ρ h0 6), .int o28_x7, .ref (ρ h0 8), .int o28_x9, .int o28_x10, .int o28_x11, .int o28_x12, .long o28_x13, .int o28_x14, .int o28_x15, .int o28_x16, .int o28_x17, .int o28_x18, .int o28_x19, .int o28_x20, .ref (ρ h0 21), .int o28_x22, .ref (ρ h0 23), .ref (ρ h0 24), .int o28_x25, .ref (ρ h0 26), .ref (ρ h0 27), .int o28_x28, .int o28_x29, .ref (ρ h0 30), .ref (ρ h0 31), .int o28_x32, .long o28_x33, .long o28_x34, .long o28_x35, .int o28_x36, .int o28_x37, .int o28_x38, .ref (ρ h0 39), .ref (ρ h0 40), .ref (ρ h0 41), .ref (ρ h0 42), .ref (ρ h0 43), .ref (ρ h0 44), .ref (ρ h0 45), .ref (ρ h0 46), .int o28_x47, .int o28_x48, .ref (ρ h0 49), .ref (ρ h0 50), .ref (ρ h0 51), .ref (ρ h0 52)])) hD (tp_in hG ht_h0 (by decide)) eq29 (fun f30 H locs hP hD hS g32 k31 => ?_))
  have hT := hT.up ht_h0 g32 k31 ⟨_, _, _, _, _, _, _, _, _, _, _, _, _, _, _, _, _, _, _, _, _, _, _, _, _, _, _, _, rfl, ro28_0, ro28_1, ro28_2, ro28_3, ro28_4, ro28_5, ro28_6, ro28_7, ro28_8, ro28_9, ro28_10, ro28_11, ro28_12, ro28_13, ro28_14⟩
  have hR := hR.up ht_h0 (by decide) k31
  refine lv_iload_n hx hb dX12_best_5 rfl (lv_at hl 1 rfl) ?_
  have hf_33 : f30 (ρ h0 2) = .inl (κ 0, 12967, .inl g27) := (k31 _ (tp_ne y1 ht_h0 (by decide))).trans hf_o26
  refine pz_calli (va_runS (As := [.int v]) (rest := []) ⟨hx, hb, hml, hown, hts⟩ (t_X12_isHour l dC dI _ v (v.toInt) rfl) (va_cwS 1 hts gX12_best_X12_isHour rfl rfl rfl pd_X12_isHour ⟨Nat.le_of_ble_eq_true rfl, Nat.le_of_ble_eq_true rfl⟩) ⟨pz_blind, pz_pre pz_P0 (hK.sub (tys' := []) [] rfl) (pz_D0 (A := fun _ => True)) hN⟩ rfl rfl hl.1 rfl (lv_room (Nat.le_of_ble_eq_true rfl)) dX12_best_6 ⟨Nat.le_of_ble_eq_true rfl, Nat.le_of_ble_eq_true rfl⟩) (fun r34 hw35 => ?_)
  obtain ⟨hw35r, hw35p⟩ := hw35
  refine lv_if_ne (tgt := 16) hx hb dX12_best_9 (by decide) (fun c36 => ?_) (fun c36 => ?_)
  · have ic36 : r34.toInt ≠ 0 := zi_ne rfl rfl c36
    replace ic36 : 1 ≤ r34.toInt := by omega
    have p37 : 0 ≤ (v.toInt) ∧ (v.toInt) ≤ 2399 := (tp_cond.yes hw35p) (by omega)
    clear hw35r ic36
    refine lv_aload_n hx hb dX12_best_16 rfl (lv_at hl 0 rfl) ?_
    refine tpk_pos (tp_in hG ht_h0 (by decide)) g32 (fun q38 eq38 => ?_)
    refine va_get (D := (dC, dI)) (ci := 12) (v := .ref (ρ h0 2)) (C := RX12) (T := TX12) (N := 53) hx hb hts hfX12 hown hK hP q38 eq38 rfl 2 (by decide) (hts (.fieldLink RX12 7 "ColdShipsModel" "row" "[I") wa_148) (fun _ h9 => h9) rfl dX12_best_17 ?_
    refine lv_bipush (v := 10) hx hb dX12_best_20 (by decide) ?_
    refine tpk_pos (tp_in hG y1 (by decide)) hf_33 (fun q39 eq39 => ?_)
    refine va_iald hx hb hK hP q39 0 eq39 rfl (vp_in_iff.mpr ⟨by decide, by decide⟩) dX12_best_22 ?_
    refine lv_topi (fun z40 ez40 => ?_)
    have jz40 : z40.toInt = mo_R g27 (10) := mo_rd ez40 (show (10 : Int32).toInt = (10) from by decide)
    have kz40 := hI.k10
    refine lv_istore_n (lv' := [(2, .int z40), (0, .ref h0), (1, .int v)]) hx hb dX12_best_23 rfl hl (by decide) rfl (fun ls hl => ?_)
    refine lv_iconst (v := 3) hx hb dX12_best_24 (by decide) ?_
    refine lv_aload_n hx hb dX12_best_25 rfl (lv_at hl 1 rfl) ?_
    refine va_get (D := (dC, dI)) (ci := 12) (v := .ref (ρ h0 2)) (C := RX12) (T := TX12) (N := 53) hx hb hts hfX12 hown hK hP q38 eq38 rfl 2 (by decide) (hts (.fieldLink RX12 7 "ColdShipsModel" "row" "[I") wa_148) (fun _ h9 => h9) rfl dX12_best_26 ?_
    refine lv_iconst (v := 1) hx hb dX12_best_29 (by decide) ?_
    refine va_iald hx hb hK hP q39 0 eq39 rfl (vp_in_iff.mpr ⟨by decide, by decide⟩) dX12_best_30 ?_
    refine lv_topi (fun z41 ez41 => ?_)
    have jz41 : z41.toInt = mo_R g27 (1) := mo_rd ez41 (show (1 : Int32).toInt = (1) from by decide)
    have kz41 := hI.k1
    refine pz_calli (va_runS (As := [.int 3, .int z41]) (rest := []) ⟨hx, hb, hml, hown, hts⟩ (t_X12_lesser l dC dI _ (3) z41 (3) (z41.toInt) rfl rfl) (va_cwS 2 hts gX12_best_X12_lesser rfl rfl rfl pd_X12_lesser ⟨Nat.le_of_ble_eq_true rfl, Nat.le_of_ble_eq_true rfl⟩) ⟨pz_blind, pz_pre pz_P0 (hK.sub (tys' := []) [] rfl) (pz_D0 (A := fun _ => True)) hN⟩ rfl rfl hl.1 rfl (lv_room (Nat.le_of_ble_eq_true rfl)) dX12_best_31 ⟨Nat.le_of_ble_eq_true rfl, Nat.le_of_ble_eq_true rfl⟩) (fun r42 hw43 => ?_)
    obtain ⟨hw43r, hw43p⟩ := hw43
    refine lv_istore_n (lv' := [(3, .int r42), (2, .int z40), (0, .ref h0), (1, .int v)]) hx hb dX12_best_34 rfl hl (by decide) rfl (fun ls hl => ?_)
    refine lv_iconst (v := 0) hx hb dX12_best_35 (by decide) ?_
    refine lv_istore (lv' := [(4, .int 0), (3, .int r42), (2, .int z40), (0, .ref h0), (1, .int v)]) hx hb dX12_best_36 hl (by decide) rfl (fun ls hl => ?_)
    have hP2 := mo_P2_le z40.toInt
    have := hI.k10; have := hI.k1
    refine tpk_73 hT y18 (fun g48 hf_o47 => ?_)
    have tf49 : mo_hd (mo_l (f30 (ρ h0 43)) = g48) := tfa_l hf_o47
    refine tpk_74 hT y19 (fun g51 hf_o50 => ?_)
    have tf52 : mo_hd (mo_i (f30 (ρ h0 44)) = g51) := tfa_i hf_o50
    refine pz_loop (fun n0 H locs ls => ∃ f53 : Nat → va_E, ∃ w44 : Int32, n0 = (3 - (w44.toInt)).toNat ∧ tp_T (mo_O κ Θ) κ τ ν ρ f53 ∧ tp_F τ [13, 69, 70, 71, 72, 73, 74, 75, 76, 79, 80, 81, 82] f f53 ∧ f53 (ρ h0 2) = .inl (κ 0, 12967, .inl g27) ∧ ((mo_TB (mo_RL (mo_l (f53 (ρ h0 43)))) (mo_R (mo_i (f53 (ρ h0 44)))) (w44.toInt) 0 (mo_P2 z40.toInt))) ∧ (0 ≤ w44.toInt ∧ w44.toInt ≤ 3) ∧ ((w44.toInt) ≤ r42.toInt) ∧ va_P (dC, dI) vwCl (va_pl L f53) H ∧ va_D A (va_pl L f53) ∧ va_S A s.heap H locs ∧ lv_has ls 15 [(4, .int w44), (3, .int r42), (2, .int z40), (0, .ref h0), (1, .int v)]) ?_ _ _ _ _ ⟨f30, 0, rfl, hT, hR, hf_33, (by first | (simp only [(mo_un tf49), (mo_un tf52), mo_i1, mo_l1]; exact (show mo_TB (mo_RL g48) (mo_R g51) (0 : Int32).toInt 0 (mo_P2 z40.toInt) from mo_TB.rf _ _ (by decide) rfl)) | (rw [(mo_un tf49), (mo_un tf52)]; exact (show mo_TB (mo_RL g48) (mo_R g51) (0 : Int32).toInt 0 (mo_P2 z40.toInt) from mo_TB.rf _ _ (by decide) rfl))), (by have : (0 : Int32).toInt = 0 := rfl; omega), (by have : (0 : Int32).toInt = 0 := rfl; omega), hP, hD, hS, lv_sub hl [0, 1, 2, 3, 4] rfl⟩
    intro n0 H locs ls hI ih55
    refine Exists.elim hI (fun f53 hE90 => Exists.elim hE90 (fun w44 hE91 => tn_11 hE91 (fun hn56 hT hR hk46k jf57 rw44 k45 hP hD hS hl => ?_)))
    clear hE91 hE90 hI
    refine tpk_73 hT y18 (fun g59 hf_o58 => ?_)
    have tf60 : mo_hd (mo_l (f53 (ρ h0 43)) = g59) := tfa_l hf_o58
    refine tpk_74 hT y19 (fun g62 hf_o61 => ?_)
    have tf63 : mo_hd (mo_i (f53 (ρ h0 44)) = g62) := tfa_i hf_o61
    replace jf57 : mo_TB (mo_RL g59) (mo_R g62) (w44.toInt) 0 (mo_P2 z40.toInt) := by have q9 := jf57; first | (simp only [(mo_un tf60), (mo_un tf63), mo_i1, mo_l1] at q9; exact q9) | (rw [(mo_un tf60), (mo_un tf63)] at q9; exact q9)
    refine lv_iload hx hb dX12_best_38 (lv_at hl 0 rfl) ?_
    refine lv_iload_n hx hb dX12_best_40 rfl (lv_at hl 1 rfl) ?_
    refine lv_icmp_ge (tgt := 76) hx hb dX12_best_41 (by decide) (fun c64 => ?_) (fun c64 => ?_)
    · have ic64 : w44.toInt ≥ r42.toInt := zi_ge rfl rfl c64
      refine lv_iconst (v := 1) hx hb dX12_best_76 (by decide) ?_
      refine lv_istore (lv' := [(4, .int 1), (3, .int r42), (2, .int z40), (0, .ref h0), (1, .int v)]) hx hb dX12_best_77 hl (by decide) rfl (fun ls hl => ?_)
      refine lv_iconst (v := 0) hx hb dX12_best_79 (by decide) ?_
      refine lv_istore (lv' := [(5, .int 0), (4, .int 1), (3, .int r42), (2, .int z40), (0, .ref h0), (1, .int v)]) hx hb dX12_best_80 hl (by decide) rfl (fun ls hl => ?_)
      refine pz_loop (fun n0 H locs ls => ∃ w65 : Int32, ∃ w66 : Int32, n0 = (6 - (w65.toInt)).toNat ∧ (0 ≤ w65.toInt ∧ w65.toInt ≤ 6) ∧ (1 ≤ w66.toInt ∧ w66.toInt ≤ 4096) ∧ ((w65.toInt) ≤ z40.toInt) ∧ ((w66.toInt) = mo_pw r42.toInt ((w65.toInt)).toNat) ∧ va_P (dC, dI) vwCl (va_pl L f53) H ∧ va_D A (va_pl L f53) ∧ va_S A s.heap H locs ∧ lv_has ls 15 [(5, .int w65), (4, .int w66), (3, .int r42), (2, .int z40), (0, .ref h0), (1, .int v)]) ?_ _ _ _ _ ⟨0, 1, rfl, (by have : (0 : Int32).toInt = 0 := rfl; have : (1 : Int32).toInt = 1 := rfl; omega), (by have : (0 : Int32).toInt = 0 := rfl; have : (1 : Int32).toInt = 1 := rfl; omega), (by have : (0 : Int32).toInt = 0 := rfl; have : (1 : Int32).toInt = 1 := rfl; omega), rfl, hP, hD, hS, lv_sub hl [0, 1, 2, 3, 4, 5] rfl⟩
      intro n0 H locs ls hI ih69
      refine Exists.elim hI (fun w65 hE90 => Exists.elim hE90 (fun w66 hE91 => tn_9 hE91 (fun hn70 rw65 rw66 k67 k68 hP hD hS hl => ?_)))
      clear hE91 hE90 hI
      refine lv_iload hx hb dX12_best_82 (lv_at hl 0 rfl) ?_
      refine lv_iload_n hx hb dX12_best_84 rfl (lv_at hl 3 rfl) ?_
      refine lv_icmp_ge (tgt := 102) hx hb dX12_best_85 (by decide) (fun c71 => ?_) (fun c71 => ?_)
      · have ic71 : w65.toInt ≥ z40.toInt := zi_ge rfl rfl c71
        have hall : w66.toInt = mo_pw r42.toInt z40.toInt.toNat := by have q9 := k68; rw [show w65.toInt = z40.toInt by omega] at q9; exact q9
        have hTB : mo_TB (mo_RL g59) (mo_R g62) r42.toInt 0 (mo_P2 z40.toInt) := by have q9 := jf57; rw [show w44.toInt = r42.toInt by omega] at q9; exact q9
        refine lv_ldc2 (own := RX12) (v := (-2000000000000000)) hx hb hown (hts (.constantLong RX12 466 (-2000000000000000)) wa_1189) dX12_best_102 ?_
        refine lv_lstore (lv' := [(5, .long (-2000000000000000)), (4, .int w66), (3, .int r42), (2, .int z40), (0, .ref h0), (1, .int v)]) hx hb dX12_best_105 hl (by decide) rfl (fun ls hl => ?_)
        refine lv_iconst (v := 0) hx hb dX12_best_107 (by decide) ?_
        refine lv_istore (lv' := [(7, .int 0), (5, .long (-2000000000000000)), (4, .int w66), (3, .int r42), (2, .int z40), (0, .ref h0), (1, .int v)]) hx hb dX12_best_108 hl (by decide) rfl (fun ls hl => ?_)
        refine lv_iconst (v := 0) hx hb dX12_best_110 (by decide) ?_
        refine lv_istore (lv' := [(8, .int 0), (7, .int 0), (5, .long (-2000000000000000)), (4, .int w66), (3, .int r42), (2, .int z40), (0, .ref h0), (1, .int v)]) hx hb dX12_best_111 hl (by decide) rfl (fun ls hl => ?_)
        refine tpk_79 hT y22 (fun g81 hf_o80 => ?_)
        have tf82 : mo_hd (mo_i (f53 (ρ h0 49)) = g81) := tfa_i hf_o80
        refine pz_loop (fun n0 H locs ls => ∃ f83 : Nat → va_E, ∃ w72 : Int32, ∃ w73 : Int32, ∃ w74 : Int64, n0 = (4096 - (w72.toInt)).toNat ∧ tp_T (mo_O κ Θ) κ τ ν ρ f83 ∧ tp_F τ [13, 69, 70, 71, 72, 73, 74, 75, 76, 79, 80, 81, 82] f f83 ∧ f83 (ρ h0 2) = .inl (κ 0, 12967, .inl g27) ∧ f83 (ρ h0 43) = .inl (κ 1, 192, .inr (.inl g59)) ∧ f83 (ρ h0 44) = .inl (κ 0, 192, .inl g62) ∧ ((((w74.toInt) ≠ -2000000000000000 → mo_BG (mo_R (mo_i (f83 (ρ h0 49)))) (mo_RL g59) z40.toInt r42.toInt))) ∧ (0 ≤ w72.toInt ∧ w72.toInt ≤ 4096) ∧ ((w72.toInt) ≤ w66.toInt) ∧ (((w72.toInt) = w66.toInt → (w74.toInt) ≠ -2000000000000000)) ∧ va_P (dC, dI) vwCl (va_pl L f83) H ∧ va_D A (va_pl L f83) ∧ va_S A s.heap H locs ∧ lv_has ls 15 [(8, .int w72), (7, .int w73), (5, .long w74), (4, .int w66), (3, .int r42), (2, .int z40), (0, .ref h0), (1, .int v)]) ?_ _ _ _ _ ⟨f53, 0, 0, (-2000000000000000), rfl, hT, hR, hk46k, hf_o58, hf_o61, (by first | (simp only [(mo_un tf82), mo_i1, mo_l1]; exact (show (((-2000000000000000) : Int64).toInt ≠ -2000000000000000 → mo_BG (mo_R g81) (mo_RL g59) z40.toInt r42.toInt) from (fun q9 => absurd (by decide) q9))) | (rw [(mo_un tf82)]; exact (show (((-2000000000000000) : Int64).toInt ≠ -2000000000000000 → mo_BG (mo_R g81) (mo_RL g59) z40.toInt r42.toInt) from (fun q9 => absurd (by decide) q9)))), (by have : (0 : Int32).toInt = 0 := rfl; have : (0 : Int32).toInt = 0 := rfl; have : ((-2000000000000000) : Int64).toInt = (-2000000000000000) := rfl; omega), (by have : (0 : Int32).toInt = 0 := rfl; have : (0 : Int32).toInt = 0 := rfl; have : ((-2000000000000000) : Int64).toInt = (-2000000000000000) := rfl; omega), (fun q9 => by have : (0 : Int32).toInt = 0 := rfl; omega), hP, hD, hS, lv_sub hl [0, 1, 2, 3, 4, 5, 6, 7] rfl⟩
        intro n0 H locs ls hI ih85
        refine Exists.elim hI (fun f83 hE90 => Exists.elim hE90 (fun w72 hE91 => Exists.elim hE91 (fun w73 hE92 => Exists.elim hE92 (fun w74 hE93 => tn_14 hE93 (fun hn86 hT hR hk77k hk78k hk79k jf87 rw72 k75 k76 hP hD hS hl => ?_)))))
        clear hE93 hE92 hE91 hE90 hI
        refine tpk_79 hT y22 (fun g89 hf_o88 => ?_)
        have tf90 : mo_hd (mo_i (f83 (ρ h0 49)) = g89) := tfa_i hf_o88
        replace jf87 : mo_hd (((w74.toInt) ≠ -2000000000000000 → mo_BG (mo_R g89) (mo_RL g59) z40.toInt r42.toInt)) := by have q9 := jf87; first | (simp only [(mo_un tf90), mo_i1, mo_l1] at q9; exact q9) | (rw [(mo_un tf90)] at q9; exact q9)
        refine lv_iload hx hb dX12_best_113 (lv_at hl 0 rfl) ?_
        refine lv_iload hx hb dX12_best_115 (lv_at hl 3 rfl) ?_
        refine lv_icmp_ge (tgt := 283) hx hb dX12_best_117 (by decide) (fun c91 => ?_) (fun c91 => ?_)
        · have ic91 : w72.toInt ≥ w66.toInt := zi_ge rfl rfl c91
          refine lv_aload_n hx hb dX12_best_283 rfl (lv_at hl 6 rfl) ?_
          refine lv_iload_n hx hb dX12_best_284 rfl (lv_at hl 5 rfl) ?_
          refine lv_iload_n hx hb dX12_best_285 rfl (lv_at hl 4 rfl) ?_
          refine lv_iload_n hx hb dX12_best_286 rfl (lv_at hl 7 rfl) ?_
          have tf92 : mo_hd (mo_l (f83 (ρ h0 43)) = g59) := tfa_l hk78k
          have tf93 : mo_hd (mo_i (f83 (ρ h0 44)) = g62) := tfa_i hk79k
          refine tpk_13 hT ht_h0 (fun o94_x0 o94_x1 o94_x7 o94_x9 o94_x10 o94_x11 o94_x12 o94_x13 o94_x14 o94_x15 o94_x16 o94_x17 o94_x18 o94_x19 o94_x20 o94_x22 o94_x25 o94_x28 o94_x29 o94_x32 o94_x33 o94_x34 o94_x35 o94_x36 o94_x37 o94_x38 o94_x47 o94_x48 hf_o94 ro94_0 ro94_1 ro94_2 ro94_3 ro94_4 ro94_5 ro94_6 ro94_7 ro94_8 ro94_9 ro94_10 ro94_11 ro94_12 ro94_13 ro94_14 => ?_)
          refine tpk_pos (tp_in hG ht_h0 (by decide)) hf_o94 (fun q95 eq95 => ?_)
          have hFc := tp_fr hD hS hA
          refine va_callv (va_runV (As := [.int z40, .int r42, .int v]) (rest := []) ⟨hx, hb, hml, hown, hts⟩ (t_X12_keepBest l dC dI _ κ Θ τ ν ρ L f83 hG hT h0 z40 r42 v (-1) 0 ht_h0 (by (first | omega | (have u0 := mo_un jf87; omega))) (by rw [hk77k, mo_i1]; exact hI) (by (first | omega | (have u0 := mo_un jf87; omega))) (by (first | omega | (have u0 := mo_un jf87; omega))) (by first | (simp only [hk77k, hf_o26, mo_i1]; (first | omega | (have u0 := mo_un jf87; omega))) | (simp only [hk77k, hf_o26, mo_i1]; trivial) | (simp only [hk77k, hf_o26, mo_i1]; done) | (first | omega | (have u0 := mo_un jf87; omega))) (by first | (simp only [hk77k, hf_o26, mo_i1]; (first | omega | (have u0 := mo_un jf87; omega))) | (simp only [hk77k, hf_o26, mo_i1]; trivial) | (simp only [hk77k, hf_o26, mo_i1]; done) | (first | omega | (have u0 := mo_un jf87; omega))) (by first | (simp only [(mo_un tf90), (mo_un tf92), mo_i1, mo_l1]; exact (show mo_BG (mo_R g89) (mo_RL g59) z40.toInt r42.toInt from jf87 (by (first | omega | (have u0 := mo_un jf87; omega))))) | (rw [(mo_un tf90), (mo_un tf92)]; exact (show mo_BG (mo_R g89) (mo_RL g59) z40.toInt r42.toInt from jf87 (by (first | omega | (have u0 := mo_un jf87; omega)))))) (by first | (simp only [(mo_un tf92), (mo_un tf93), mo_i1, mo_l1]; exact (show mo_TB (mo_RL g59) (mo_R g62) r42.toInt 0 (mo_P2 z40.toInt) from hTB)) | (rw [(mo_un tf92), (mo_un tf93)]; exact (show mo_TB (mo_RL g59) (mo_R g62) r42.toInt 0 (mo_P2 z40.toInt) from hTB)))) (cwV 3 hts gX12_best_X12_keepBest rfl rfl rfl ⟨rfl, pd_X12_keepBest⟩ ⟨Nat.le_of_ble_eq_true rfl, Nat.le_of_ble_eq_true rfl⟩) ⟨pz_blind, va_recv hK hP (ci := 12) (q0 := q95) rfl eq95, pz_pre hP hK hD hN⟩ rfl rfl hl.1 rfl (lv_room (Nat.le_of_ble_eq_true rfl)) dX12_best_287 ⟨Nat.le_of_ble_eq_true rfl, Nat.le_of_ble_eq_true rfl⟩) hS (fun q _ h => hFc q h) hFc (fun f98 t H1 locs ht hvm hw97 hB hz1 hk1 hS => ?_)
          refine tn_3 hw97 (fun hT hF99 hw97p => ?_); clear hw97
          have hR := hR.then hF99 (by decide)
          have hP := hB.1; rw [ht] at hP; have hD := tp_ad f98 hD; clear hB hFc hz1 hk1; subst ht; generalize t.heap = H at hP hS ⊢
          refine lv_lload hx hb dX12_best_290 (lv_at hl 2 rfl) ?_
          exact W.lret (v := w74) hx hb hr (fun t ht hW => ⟨⟨w74, f98, rfl, ⟨hT, hR, trivial, trivial⟩, by rw [ht]; exact hP, va_K.moved hW.alike hK, hD⟩, hS.F ht⟩) hS.2.2 dX12_best_292
        · have ic91 : w72.toInt < w66.toInt := zi_gef rfl rfl c91
          refine lv_aload_n hx hb dX12_best_120 rfl (lv_at hl 6 rfl) ?_
          refine lv_iload hx hb dX12_best_121 (lv_at hl 0 rfl) ?_
          refine lv_iload_n hx hb dX12_best_123 rfl (lv_at hl 5 rfl) ?_
          refine lv_iload_n hx hb dX12_best_124 rfl (lv_at hl 4 rfl) ?_
          refine tpk_13 hT ht_h0 (fun o100_x0 o100_x1 o100_x7 o100_x9 o100_x10 o100_x11 o100_x12 o100_x13 o100_x14 o100_x15 o100_x16 o100_x17 o100_x18 o100_x19 o100_x20 o100_x22 o100_x25 o100_x28 o100_x29 o100_x32 o100_x33 o100_x34 o100_x35 o100_x36 o100_x37 o100_x38 o100_x47 o100_x48 hf_o100 ro100_0 ro100_1 ro100_2 ro100_3 ro100_4 ro100_5 ro100_6 ro100_7 ro100_8 ro100_9 ro100_10 ro100_11 ro100_12 ro100_13 ro100_14 => ?_)
          refine tpk_pos (tp_in hG ht_h0 (by decide)) hf_o100 (fun q101 eq101 => ?_)
          have hFc := tp_fr hD hS hA
          refine va_calli (va_runV (As := [.int w72, .int z40, .int r42]) (rest := []) ⟨hx, hb, hml, hown, hts⟩ (t_X12_share l dC dI _ κ Θ τ ν ρ L f83 hG hT h0 w72 z40 r42 ht_h0 (by first | decide | (first | omega | (have u0 := mo_un jf87; omega))) (by first | decide | (first | omega | (have u0 := mo_un jf87; omega))) (by (first | omega | (have u0 := mo_un jf87; omega)))) (cwV 3 hts gX12_best_X12_share rfl rfl rfl ⟨rfl, pd_X12_share⟩ ⟨Nat.le_of_ble_eq_true rfl, Nat.le_of_ble_eq_true rfl⟩) ⟨pz_blind, va_recv hK hP (ci := 12) (q0 := q101) rfl eq101, pz_pre hP hK hD hN⟩ rfl rfl hl.1 rfl (lv_room (Nat.le_of_ble_eq_true rfl)) dX12_best_125 ⟨Nat.le_of_ble_eq_true rfl, Nat.le_of_ble_eq_true rfl⟩) hS (fun q _ h => hFc q h) hFc (fun r102 f104 t H1 locs ht hvm hw103 hB hz1 hk1 hS => ?_)
          refine tn_4 hw103 (fun hT hF105 hw103r hw103p => ?_); clear hw103
          have hR := hR.then hF105 (by decide)
          have hP := hB.1; rw [ht] at hP; have hD := tp_ad f104 hD; clear hB hFc hz1 hk1; subst ht; generalize t.heap = H at hP hS ⊢
          refine tpk_81 hT y24 (fun g107 hf_o106 => ?_)
          have tf108 : mo_hd (mo_i (f104 (ρ h0 51)) = g107) := tfa_i hf_o106
          refine tpk_82 hT y25 (fun g110 hf_o109 => ?_)
          have tf111 : mo_hd (mo_i (f104 (ρ h0 52)) = g110) := tfa_i hf_o109
          have tk112 : mo_hd (mo_SBB (mo_R g107) (mo_R g110) z40.toInt r42.toInt (-1) ∧ (w72.toInt + 1 = mo_pw r42.toInt z40.toInt.toNat → ∀ s9, 0 ≤ s9 → s9 < 3 → (mo_R g110) s9 = 0)) := by have q9 := hw103p; first | (simp only [(mo_un tf108), (mo_un tf111), mo_i1, mo_l1] at q9; exact q9) | (rw [(mo_un tf108), (mo_un tf111)] at q9; exact q9)
          clear hw103p
          have hSB := tk112.1
          have hLST := tk112.2
          refine lv_istore (lv' := [(9, .int r102), (8, .int w72), (7, .int w73), (5, .long w74), (4, .int w66), (3, .int r42), (2, .int z40), (0, .ref h0), (1, .int v)]) hx hb dX12_best_128 hl (by decide) rfl (fun ls hl => ?_)
          refine lv_lconst (v := 0) hx hb dX12_best_130 (by decide) ?_
          refine lv_lstore (lv' := [(10, .long 0), (9, .int r102), (8, .int w72), (7, .int w73), (5, .long w74), (4, .int w66), (3, .int r42), (2, .int z40), (0, .ref h0), (1, .int v)]) hx hb dX12_best_131 hl (by decide) rfl (fun ls hl => ?_)
          refine lv_iconst (v := 0) hx hb dX12_best_133 (by decide) ?_
          refine lv_istore (lv' := [(12, .int 0), (10, .long 0), (9, .int r102), (8, .int w72), (7, .int w73), (5, .long w74), (4, .int w66), (3, .int r42), (2, .int z40), (0, .ref h0), (1, .int v)]) hx hb dX12_best_134 hl (by decide) rfl (fun ls hl => ?_)
          have hf_113 : f104 (ρ h0 2) = .inl (κ 0, 12967, .inl g27) := (hF105 _ (by rw [tp_iu y1]; decide)).trans hk77k
          refine pz_loop (fun n0 H locs ls => ∃ w114 : Int32, ∃ w115 : Int64, n0 = (3 - (w114.toInt)).toNat ∧ (0 ≤ w114.toInt ∧ w114.toInt ≤ 3) ∧ ((w114.toInt) ≤ r42.toInt) ∧ (((w115.toInt) ≠ -2000000000000000 → ∀ t, 0 ≤ t → t < (w114.toInt) → (mo_RL g59) (64 * t + (mo_R g110) t) ≠ -2000000000000000)) ∧ ((w72.toInt + 1 = mo_pw r42.toInt z40.toInt.toNat → (w115.toInt) = 0)) ∧ va_P (dC, dI) vwCl (va_pl L f104) H ∧ va_D A (va_pl L f104) ∧ va_S A s.heap H locs ∧ lv_has ls 15 [(12, .int w114), (10, .long w115), (9, .int r102), (8, .int w72), (7, .int w73), (5, .long w74), (4, .int w66), (3, .int r42), (2, .int z40), (0, .ref h0), (1, .int v)]) ?_ _ _ _ _ ⟨0, 0, rfl, (by have : (0 : Int32).toInt = 0 := rfl; have : (0 : Int64).toInt = 0 := rfl; (first | omega | (have u1 := mo_un tk112; first | omega | (have u0 := mo_un jf87; omega)))), (by have : (0 : Int32).toInt = 0 := rfl; have : (0 : Int64).toInt = 0 := rfl; (first | omega | (have u1 := mo_un tk112; first | omega | (have u0 := mo_un jf87; omega)))), (fun _ t t0 t1 => absurd t1 (by have : (0 : Int32).toInt = 0 := rfl; (first | omega | (have u1 := mo_un tk112; first | omega | (have u0 := mo_un jf87; omega))))), (fun _ => by decide), hP, hD, hS, lv_sub hl [0, 1, 2, 3, 4, 5, 6, 7, 8, 9, 10] rfl⟩
          intro n0 H locs ls hI ih119
          refine Exists.elim hI (fun w114 hE90 => Exists.elim hE90 (fun w115 hE91 => tn_9 hE91 (fun hn120 rw114 k116 k117 k118 hP hD hS hl => ?_)))
          clear hE91 hE90 hI
          refine lv_iload hx hb dX12_best_136 (lv_at hl 0 rfl) ?_
          refine lv_iload_n hx hb dX12_best_138 rfl (lv_at hl 7 rfl) ?_
          refine lv_icmp_ge (tgt := 199) hx hb dX12_best_139 (by decide) (fun c121 => ?_) (fun c121 => ?_)
          · have ic121 : w114.toInt ≥ r42.toInt := zi_ge rfl rfl c121
            have hlast0 : w72.toInt + 1 = w66.toInt → w115.toInt = 0 := fun q9 => k118 (by (first | omega | (have u1 := mo_un tk112; first | omega | (have u0 := mo_un jf87; omega))))
            refine lv_lload hx hb dX12_best_199 (lv_at hl 1 rfl) ?_
            refine lv_ldc2 (own := RX12) (v := (-2000000000000000)) hx hb hown (hts (.constantLong RX12 466 (-2000000000000000)) wa_1189) dX12_best_201 ?_
            refine W.lcmp hx hb dX12_best_204 ?_
            refine lv_if_eq (tgt := 277) hx hb dX12_best_205 (by decide) (fun c122 => ?_) (fun c122 => ?_)
            · have ic122 : w115.toInt = (-2000000000000000) := zl_eq rfl rfl c122
              obtain ⟨z123, ez123⟩ : ∃ y : Int32, y = w72 + 1 := ⟨_, rfl⟩
              refine lv_iinc (v := z123) (lv' := [(8, .int z123), (12, .int w114), (10, .long w115), (9, .int r102), (7, .int w73), (5, .long w74), (4, .int w66), (3, .int r42), (2, .int z40), (0, .ref h0), (1, .int v)]) hx hb dX12_best_277 hl (k := 3) rfl (by rw [ez123]; rfl) (by decide) rfl (fun ls hl => ?_)
              have iz123 : z123.toInt = w72.toInt + 1 := zi_add ez123 rfl rfl (by (first | omega | (have u1 := mo_un tk112; first | omega | (have u0 := mo_un jf87; omega)))) (by (first | omega | (have u1 := mo_un tk112; first | omega | (have u0 := mo_un jf87; omega))))
              refine lv_goto (tgt := 113) hx hb dX12_best_280 (by decide) ?_
              have hf_124 : f104 (ρ h0 49) = .inl (κ 0, 6, .inl g89) := (hF105 _ (by rw [tp_iu y22]; decide)).trans hf_o88
              have tf125 : mo_hd (mo_i (f104 (ρ h0 49)) = g89) := tfa_i hf_124
              have hf_126 : f104 (ρ h0 43) = .inl (κ 1, 192, .inr (.inl g59)) := (hF105 _ (by rw [tp_iu y18]; decide)).trans hk78k
              have hf_127 : f104 (ρ h0 44) = .inl (κ 0, 192, .inl g62) := (hF105 _ (by rw [tp_iu y19]; decide)).trans hk79k
              exact ih85 _ _ _ _ (by rw [hn86]; (first | omega | (have u1 := mo_un tk112; first | omega | (have u0 := mo_un jf87; omega)))) ⟨f104, z123, w73, w74, rfl, hT, hR, hf_113, hf_126, hf_127, (by first | (simp only [(mo_un tf125), mo_i1, mo_l1]; exact (show ((w74.toInt) ≠ -2000000000000000 → mo_BG (mo_R g89) (mo_RL g59) z40.toInt r42.toInt) from (by first | exact jf87 | (intro q9; exact jf87 (by (first | omega | (have u1 := mo_un tk112; first | omega | (have u0 := mo_un jf87; omega)))))))) | (rw [(mo_un tf125)]; exact (show ((w74.toInt) ≠ -2000000000000000 → mo_BG (mo_R g89) (mo_RL g59) z40.toInt r42.toInt) from (by first | exact jf87 | (intro q9; exact jf87 (by (first | omega | (have u1 := mo_un tk112; first | omega | (have u0 := mo_un jf87; omega))))))))), (by (first | omega | (have u1 := mo_un tk112; first | omega | (have u0 := mo_un jf87; omega)))), (by (first | omega | (have u1 := mo_un tk112; first | omega | (have u0 := mo_un jf87; omega)))), (fun q9 => by have q8 := hlast0 (by (first | omega | (have u1 := mo_un tk112; first | omega | (have u0 := mo_un jf87; omega)))); (first | omega | (have u1 := mo_un tk112; first | omega | (have u0 := mo_un jf87; omega)))), hP, hD, hS, lv_sub hl [0, 4, 5, 6, 7, 8, 9, 10] rfl⟩
            · have ic122 : w115.toInt ≠ (-2000000000000000) := zl_eqf rfl rfl c122
              refine lv_lload hx hb dX12_best_208 (lv_at hl 5 rfl) ?_
              refine lv_ldc2 (own := RX12) (v := (-2000000000000000)) hx hb hown (hts (.constantLong RX12 466 (-2000000000000000)) wa_1189) dX12_best_210 ?_
              refine W.lcmp hx hb dX12_best_213 ?_
              refine lv_if_eq (tgt := 240) hx hb dX12_best_214 (by decide) (fun c128 => ?_) (fun c128 => ?_)
              · have ic128 : w74.toInt = (-2000000000000000) := zl_eq rfl rfl c128
                refine lv_lload hx hb dX12_best_240 (lv_at hl 1 rfl) ?_
                refine lv_lstore (lv' := [(5, .long w115), (12, .int w114), (10, .long w115), (9, .int r102), (8, .int w72), (7, .int w73), (4, .int w66), (3, .int r42), (2, .int z40), (0, .ref h0), (1, .int v)]) hx hb dX12_best_242 hl (by decide) rfl (fun ls hl => ?_)
                refine lv_iload hx hb dX12_best_244 (lv_at hl 3 rfl) ?_
                refine lv_istore (lv' := [(7, .int r102), (5, .long w115), (12, .int w114), (10, .long w115), (9, .int r102), (8, .int w72), (4, .int w66), (3, .int r42), (2, .int z40), (0, .ref h0), (1, .int v)]) hx hb dX12_best_246 hl (by decide) rfl (fun ls hl => ?_)
                refine lv_iconst (v := 0) hx hb dX12_best_248 (by decide) ?_
                refine lv_istore (lv' := [(12, .int 0), (7, .int r102), (5, .long w115), (10, .long w115), (9, .int r102), (8, .int w72), (4, .int w66), (3, .int r42), (2, .int z40), (0, .ref h0), (1, .int v)]) hx hb dX12_best_249 hl (by decide) rfl (fun ls hl => ?_)
                have hf_130 : f104 (ρ h0 43) = .inl (κ 1, 192, .inr (.inl g59)) := (hF105 _ (by rw [tp_iu y18]; decide)).trans hk78k
                have hf_131 : f104 (ρ h0 44) = .inl (κ 0, 192, .inl g62) := (hF105 _ (by rw [tp_iu y19]; decide)).trans hk79k
                have hf_137 : f104 (ρ h0 49) = .inl (κ 0, 6, .inl g89) := (hF105 _ (by rw [tp_iu y22]; decide)).trans hf_o88
                have tf138 : mo_hd (mo_i (f104 (ρ h0 49)) = g89) := tfa_i hf_137
                refine pz_loop (fun n0 H locs ls => ∃ f139 : Nat → va_E, ∃ w129 : Int32, n0 = (6 - (w129.toInt)).toNat ∧ tp_T (mo_O κ Θ) κ τ ν ρ f139 ∧ tp_F τ [13, 69, 70, 71, 72, 73, 74, 75, 76, 79, 80, 81, 82] f f139 ∧ f139 (ρ h0 2) = .inl (κ 0, 12967, .inl g27) ∧ f139 (ρ h0 43) = .inl (κ 1, 192, .inr (.inl g59)) ∧ f139 (ρ h0 44) = .inl (κ 0, 192, .inl g62) ∧ f139 (ρ h0 51) = .inl (κ 0, 6, .inl g107) ∧ f139 (ρ h0 52) = .inl (κ 0, 3, .inl g110) ∧ ((∀ d, 0 ≤ d → d < (w129.toInt) → (mo_R (mo_i (f139 (ρ h0 49)))) d = (mo_R g107) d)) ∧ (0 ≤ w129.toInt ∧ w129.toInt ≤ 6) ∧ va_P (dC, dI) vwCl (va_pl L f139) H ∧ va_D A (va_pl L f139) ∧ va_S A s.heap H locs ∧ lv_has ls 15 [(12, .int w129), (7, .int r102), (5, .long w115), (10, .long w115), (9, .int r102), (8, .int w72), (4, .int w66), (3, .int r42), (2, .int z40), (0, .ref h0), (1, .int v)]) ?_ _ _ _ _ ⟨f104, 0, rfl, hT, hR, hf_113, hf_130, hf_131, hf_o106, hf_o109, (by first | (simp only [(mo_un tf138), mo_i1, mo_l1]; exact (show ∀ d, 0 ≤ d → d < (0 : Int32).toInt → (mo_R g89) d = (mo_R g107) d from (fun d d0 d1 => absurd d1 (by have : (0 : Int32).toInt = 0 := rfl; (first | omega | (have u1 := mo_un tk112; first | omega | (have u0 := mo_un jf87; omega))))))) | (rw [(mo_un tf138)]; exact (show ∀ d, 0 ≤ d → d < (0 : Int32).toInt → (mo_R g89) d = (mo_R g107) d from (fun d d0 d1 => absurd d1 (by have : (0 : Int32).toInt = 0 := rfl; (first | omega | (have u1 := mo_un tk112; first | omega | (have u0 := mo_un jf87; omega)))))))), (by have : (0 : Int32).toInt = 0 := rfl; (first | omega | (have u1 := mo_un tk112; first | omega | (have u0 := mo_un jf87; omega)))), hP, hD, hS, lv_sub hl [0, 1, 2, 3, 4, 5, 6, 7, 8, 9, 10] rfl⟩
                intro n0 H locs ls hI ih141
                refine Exists.elim hI (fun f139 hE90 => Exists.elim hE90 (fun w129 hE91 => tn_14 hE91 (fun hn142 hT hR hk132k hk133k hk134k hk135k hk136k jf143 rw129 hP hD hS hl => ?_)))
                clear hE91 hE90 hI
                refine tpk_79 hT y22 (fun g145 hf_o144 => ?_)
                have tf146 : mo_hd (mo_i (f139 (ρ h0 49)) = g145) := tfa_i hf_o144
                replace jf143 : mo_hd (∀ d, 0 ≤ d → d < (w129.toInt) → (mo_R g145) d = (mo_R g107) d) := by have q9 := jf143; first | (simp only [(mo_un tf146), mo_i1, mo_l1] at q9; exact q9) | (rw [(mo_un tf146)] at q9; exact q9)
                refine lv_iload hx hb dX12_best_251 (lv_at hl 0 rfl) ?_
                refine lv_iload_n hx hb dX12_best_253 rfl (lv_at hl 8 rfl) ?_
                refine lv_icmp_ge (tgt := 277) hx hb dX12_best_254 (by decide) (fun c147 => ?_) (fun c147 => ?_)
                · have ic147 : w129.toInt ≥ z40.toInt := zi_ge rfl rfl c147
                  obtain ⟨z148, ez148⟩ : ∃ y : Int32, y = w72 + 1 := ⟨_, rfl⟩
                  refine lv_iinc (v := z148) (lv' := [(8, .int z148), (12, .int w129), (7, .int r102), (5, .long w115), (10, .long w115), (9, .int r102), (4, .int w66), (3, .int r42), (2, .int z40), (0, .ref h0), (1, .int v)]) hx hb dX12_best_277 hl (k := 5) rfl (by rw [ez148]; rfl) (by decide) rfl (fun ls hl => ?_)
                  have iz148 : z148.toInt = w72.toInt + 1 := zi_add ez148 rfl rfl (by (first | omega | (have u2 := mo_un jf143; first | omega | (have u1 := mo_un tk112; first | omega | (have u0 := mo_un jf87; omega))))) (by (first | omega | (have u2 := mo_un jf143; first | omega | (have u1 := mo_un tk112; first | omega | (have u0 := mo_un jf87; omega)))))
                  refine lv_goto (tgt := 113) hx hb dX12_best_280 (by decide) ?_
                  exact ih85 _ _ _ _ (by rw [hn86]; (first | omega | (have u2 := mo_un jf143; first | omega | (have u1 := mo_un tk112; first | omega | (have u0 := mo_un jf87; omega))))) ⟨f139, z148, r102, w115, rfl, hT, hR, hk132k, hk133k, hk134k, (by first | (simp only [(mo_un tf146), mo_i1, mo_l1]; exact (show ((w115.toInt) ≠ -2000000000000000 → mo_BG (mo_R g145) (mo_RL g59) z40.toInt r42.toInt) from (fun _ => mo_BG.of hSB (by (first | omega | (have u2 := mo_un jf143; first | omega | (have u1 := mo_un tk112; first | omega | (have u0 := mo_un jf87; omega))))) (by (first | omega | (have u2 := mo_un jf143; first | omega | (have u1 := mo_un tk112; first | omega | (have u0 := mo_un jf87; omega))))) (fun d d0 d1 => jf143 d d0 (by (first | omega | (have u2 := mo_un jf143; first | omega | (have u1 := mo_un tk112; first | omega | (have u0 := mo_un jf87; omega)))))) (fun t t0 t1 => k117 (by (first | omega | (have u2 := mo_un jf143; first | omega | (have u1 := mo_un tk112; first | omega | (have u0 := mo_un jf87; omega))))) t t0 (by (first | omega | (have u2 := mo_un jf143; first | omega | (have u1 := mo_un tk112; first | omega | (have u0 := mo_un jf87; omega))))))))) | (rw [(mo_un tf146)]; exact (show ((w115.toInt) ≠ -2000000000000000 → mo_BG (mo_R g145) (mo_RL g59) z40.toInt r42.toInt) from (fun _ => mo_BG.of hSB (by (first | omega | (have u2 := mo_un jf143; first | omega | (have u1 := mo_un tk112; first | omega | (have u0 := mo_un jf87; omega))))) (by (first | omega | (have u2 := mo_un jf143; first | omega | (have u1 := mo_un tk112; first | omega | (have u0 := mo_un jf87; omega))))) (fun d d0 d1 => jf143 d d0 (by (first | omega | (have u2 := mo_un jf143; first | omega | (have u1 := mo_un tk112; first | omega | (have u0 := mo_un jf87; omega)))))) (fun t t0 t1 => k117 (by (first | omega | (have u2 := mo_un jf143; first | omega | (have u1 := mo_un tk112; first | omega | (have u0 := mo_un jf87; omega))))) t t0 (by (first | omega | (have u2 := mo_un jf143; first | omega | (have u1 := mo_un tk112; first | omega | (have u0 := mo_un jf87; omega)))))))))), (by (first | omega | (have u2 := mo_un jf143; first | omega | (have u1 := mo_un tk112; first | omega | (have u0 := mo_un jf87; omega))))), (by (first | omega | (have u2 := mo_un jf143; first | omega | (have u1 := mo_un tk112; first | omega | (have u0 := mo_un jf87; omega))))), (fun q9 => by have q8 := hlast0 (by (first | omega | (have u2 := mo_un jf143; first | omega | (have u1 := mo_un tk112; first | omega | (have u0 := mo_un jf87; omega))))); (first | omega | (have u2 := mo_un jf143; first | omega | (have u1 := mo_un tk112; first | omega | (have u0 := mo_un jf87; omega))))), hP, hD, hS, lv_sub hl [0, 2, 3, 6, 7, 8, 9, 10] rfl⟩
                · have ic147 : w129.toInt < z40.toInt := zi_gef rfl rfl c147
                  refine lv_aload_n hx hb dX12_best_257 rfl (lv_at hl 9 rfl) ?_
                  refine tpk_13 hT ht_h0 (fun o149_x0 o149_x1 o149_x7 o149_x9 o149_x10 o149_x11 o149_x12 o149_x13 o149_x14 o149_x15 o149_x16 o149_x17 o149_x18 o149_x19 o149_x20 o149_x22 o149_x25 o149_x28 o149_x29 o149_x32 o149_x33 o149_x34 o149_x35 o149_x36 o149_x37 o149_x38 o149_x47 o149_x48 hf_o149 ro149_0 ro149_1 ro149_2 ro149_3 ro149_4 ro149_5 ro149_6 ro149_7 ro149_8 ro149_9 ro149_10 ro149_11 ro149_12 ro149_13 ro149_14 => ?_)
                  refine tpk_pos (tp_in hG ht_h0 (by decide)) hf_o149 (fun q150 eq150 => ?_)
                  refine va_get (D := (dC, dI)) (ci := 12) (v := .ref (ρ h0 49)) (C := RX12) (T := TX12) (N := 53) hx hb hts hfX12 hown hK hP q150 eq150 rfl 49 (by decide) (hts (.fieldLink RX12 79 "ColdShipsModel" "bestShip" "[I") wa_171) (fun _ h9 => h9) rfl dX12_best_258 ?_
                  refine lv_iload hx hb dX12_best_261 (lv_at hl 0 rfl) ?_
                  refine lv_aload_n hx hb dX12_best_263 rfl (lv_at hl 9 rfl) ?_
                  refine va_get (D := (dC, dI)) (ci := 12) (v := .ref (ρ h0 51)) (C := RX12) (T := TX12) (N := 53) hx hb hts hfX12 hown hK hP q150 eq150 rfl 51 (by decide) (hts (.fieldLink RX12 85 "ColdShipsModel" "chosen" "[I") wa_173) (fun _ h9 => h9) rfl dX12_best_264 ?_
                  refine lv_iload hx hb dX12_best_267 (lv_at hl 0 rfl) ?_
                  refine tpk_pos (tp_in hG y24 (by decide)) hk135k (fun q151 eq151 => ?_)
                  refine va_iald hx hb hK hP q151 0 eq151 rfl (vp_in_iff.mpr ⟨by (first | omega | (have u2 := mo_un jf143; first | omega | (have u1 := mo_un tk112; first | omega | (have u0 := mo_un jf87; omega)))), by (first | omega | (have u2 := mo_un jf143; first | omega | (have u1 := mo_un tk112; first | omega | (have u0 := mo_un jf87; omega))))⟩) dX12_best_269 ?_
                  refine lv_topi (fun z152 ez152 => ?_)
                  have jz152 : z152.toInt = mo_R g107 w129.toInt := mo_rd ez152 (by (first | omega | (have u2 := mo_un jf143; first | omega | (have u1 := mo_un tk112; first | omega | (have u0 := mo_un jf87; omega)))))
                  refine tpk_pos (tp_in hG y22 (by decide)) hf_o144 (fun q153 eq153 => ?_)
                  refine va_iast hx hb hK hP hD hS q153 0 eq153 rfl (vp_in_iff.mpr ⟨by (first | omega | (have u2 := mo_un jf143; first | omega | (have u1 := mo_un tk112; first | omega | (have u0 := mo_un jf87; omega)))), by (first | omega | (have u2 := mo_un jf143; first | omega | (have u1 := mo_un tk112; first | omega | (have u0 := mo_un jf87; omega))))⟩) dX12_best_270 (tp_k (.inl (κ 0, 6, .inl (upd g145 w129.toNatClampNeg z152))) hD (tp_in hG y22 (by decide)) eq153 (fun f154 H locs hP hD hS g156 k155 => ?_))
                  have hT := hT.up y22 g156 k155 tp_o79
                  have hR := hR.up y22 (by decide) k155
                  have hU158 : mo_U (mo_R g145) (mo_R (upd g145 w129.toNatClampNeg z152)) (w129.toInt) (z152.toInt) := mo_up (by (first | omega | (have u2 := mo_un jf143; first | omega | (have u1 := mo_un tk112; first | omega | (have u0 := mo_un jf87; omega))))) (rfl : z152.toInt = _) (by (first | omega | (have u2 := mo_un jf143; first | omega | (have u1 := mo_un tk112; first | omega | (have u0 := mo_un jf87; omega)))))
                  generalize (upd g145 w129.toNatClampNeg z152) = g157 at g156 hU158
                  obtain ⟨z159, ez159⟩ : ∃ y : Int32, y = w129 + 1 := ⟨_, rfl⟩
                  refine lv_iinc (v := z159) (lv' := [(12, .int z159), (7, .int r102), (5, .long w115), (10, .long w115), (9, .int r102), (8, .int w72), (4, .int w66), (3, .int r42), (2, .int z40), (0, .ref h0), (1, .int v)]) hx hb dX12_best_271 hl (k := 0) rfl (by rw [ez159]; rfl) (by decide) rfl (fun ls hl => ?_)
                  have iz159 : z159.toInt = w129.toInt + 1 := zi_add ez159 rfl rfl (by (first | omega | (have u2 := mo_un jf143; first | omega | (have u1 := mo_un tk112; first | omega | (have u0 := mo_un jf87; omega))))) (by (first | omega | (have u2 := mo_un jf143; first | omega | (have u1 := mo_un tk112; first | omega | (have u0 := mo_un jf87; omega)))))
                  refine lv_goto (tgt := 251) hx hb dX12_best_274 (by decide) ?_
                  have tf160 : mo_hd (mo_i (f154 (ρ h0 49)) = g157) := tfa_i g156
                  have hf_161 : f154 (ρ h0 2) = .inl (κ 0, 12967, .inl g27) := (k155 _ (tp_ne y1 y22 (by decide))).trans hk132k
                  have hf_162 : f154 (ρ h0 43) = .inl (κ 1, 192, .inr (.inl g59)) := (k155 _ (tp_ne y18 y22 (by decide))).trans hk133k
                  have hf_163 : f154 (ρ h0 44) = .inl (κ 0, 192, .inl g62) := (k155 _ (tp_ne y19 y22 (by decide))).trans hk134k
                  have hf_164 : f154 (ρ h0 51) = .inl (κ 0, 6, .inl g107) := (k155 _ (tp_ne y24 y22 (by decide))).trans hk135k
                  have hf_165 : f154 (ρ h0 52) = .inl (κ 0, 3, .inl g110) := (k155 _ (tp_ne y25 y22 (by decide))).trans hk136k
                  exact ih141 _ _ _ _ (by rw [hn142]; (first | omega | (have u2 := mo_un jf143; first | omega | (have u1 := mo_un tk112; first | omega | (have u0 := mo_un jf87; omega))))) ⟨f154, z159, rfl, hT, hR, hf_161, hf_162, hf_163, hf_164, hf_165, (by first | (simp only [(mo_un tf160), mo_i1, mo_l1]; exact (show ∀ d, 0 ≤ d → d < (z159.toInt) → (mo_R g157) d = (mo_R g107) d from (fun d d0 d1 => by rcases hU158.at d d0 with ⟨z0, a0⟩ | ⟨z0, a0⟩ <;> first | (rw [a0, z0]; (first | omega | (have u2 := mo_un jf143; first | omega | (have u1 := mo_un tk112; first | omega | (have u0 := mo_un jf87; omega))))) | (rw [a0]; exact jf143 d d0 (by (first | omega | (have u2 := mo_un jf143; first | omega | (have u1 := mo_un tk112; first | omega | (have u0 := mo_un jf87; omega))))))))) | (rw [(mo_un tf160)]; exact (show ∀ d, 0 ≤ d → d < (z159.toInt) → (mo_R g157) d = (mo_R g107) d from (fun d d0 d1 => by rcases hU158.at d d0 with ⟨z0, a0⟩ | ⟨z0, a0⟩ <;> first | (rw [a0, z0]; (first | omega | (have u2 := mo_un jf143; first | omega | (have u1 := mo_un tk112; first | omega | (have u0 := mo_un jf87; omega))))) | (rw [a0]; exact jf143 d d0 (by (first | omega | (have u2 := mo_un jf143; first | omega | (have u1 := mo_un tk112; first | omega | (have u0 := mo_un jf87; omega)))))))))), (by (first | omega | (have u2 := mo_un jf143; first | omega | (have u1 := mo_un tk112; first | omega | (have u0 := mo_un jf87; omega))))), hP, hD, hS, lv_sub hl [0, 1, 2, 3, 4, 5, 6, 7, 8, 9, 10] rfl⟩
              · have ic128 : w74.toInt ≠ (-2000000000000000) := zl_eqf rfl rfl c128
                refine lv_lload hx hb dX12_best_217 (lv_at hl 1 rfl) ?_
                refine lv_lload hx hb dX12_best_219 (lv_at hl 5 rfl) ?_
                refine W.lcmp hx hb dX12_best_221 ?_
                refine lv_if_gt (tgt := 240) hx hb dX12_best_222 (by decide) (fun c166 => ?_) (fun c166 => ?_)
                · have ic166 : w115.toInt > w74.toInt := zl_gt rfl rfl c166
                  refine lv_lload hx hb dX12_best_240 (lv_at hl 1 rfl) ?_
                  refine lv_lstore (lv' := [(5, .long w115), (12, .int w114), (10, .long w115), (9, .int r102), (8, .int w72), (7, .int w73), (4, .int w66), (3, .int r42), (2, .int z40), (0, .ref h0), (1, .int v)]) hx hb dX12_best_242 hl (by decide) rfl (fun ls hl => ?_)
                  refine lv_iload hx hb dX12_best_244 (lv_at hl 3 rfl) ?_
                  refine lv_istore (lv' := [(7, .int r102), (5, .long w115), (12, .int w114), (10, .long w115), (9, .int r102), (8, .int w72), (4, .int w66), (3, .int r42), (2, .int z40), (0, .ref h0), (1, .int v)]) hx hb dX12_best_246 hl (by decide) rfl (fun ls hl => ?_)
                  refine lv_iconst (v := 0) hx hb dX12_best_248 (by decide) ?_
                  refine lv_istore (lv' := [(12, .int 0), (7, .int r102), (5, .long w115), (10, .long w115), (9, .int r102), (8, .int w72), (4, .int w66), (3, .int r42), (2, .int z40), (0, .ref h0), (1, .int v)]) hx hb dX12_best_249 hl (by decide) rfl (fun ls hl => ?_)
                  have hf_168 : f104 (ρ h0 43) = .inl (κ 1, 192, .inr (.inl g59)) := (hF105 _ (by rw [tp_iu y18]; decide)).trans hk78k
                  have hf_169 : f104 (ρ h0 44) = .inl (κ 0, 192, .inl g62) := (hF105 _ (by rw [tp_iu y19]; decide)).trans hk79k
                  have hf_175 : f104 (ρ h0 49) = .inl (κ 0, 6, .inl g89) := (hF105 _ (by rw [tp_iu y22]; decide)).trans hf_o88
                  have tf176 : mo_hd (mo_i (f104 (ρ h0 49)) = g89) := tfa_i hf_175
                  refine pz_loop (fun n0 H locs ls => ∃ f177 : Nat → va_E, ∃ w167 : Int32, n0 = (6 - (w167.toInt)).toNat ∧ tp_T (mo_O κ Θ) κ τ ν ρ f177 ∧ tp_F τ [13, 69, 70, 71, 72, 73, 74, 75, 76, 79, 80, 81, 82] f f177 ∧ f177 (ρ h0 2) = .inl (κ 0, 12967, .inl g27) ∧ f177 (ρ h0 43) = .inl (κ 1, 192, .inr (.inl g59)) ∧ f177 (ρ h0 44) = .inl (κ 0, 192, .inl g62) ∧ f177 (ρ h0 51) = .inl (κ 0, 6, .inl g107) ∧ f177 (ρ h0 52) = .inl (κ 0, 3, .inl g110) ∧ ((∀ d, 0 ≤ d → d < (w167.toInt) → (mo_R (mo_i (f177 (ρ h0 49)))) d = (mo_R g107) d)) ∧ (0 ≤ w167.toInt ∧ w167.toInt ≤ 6) ∧ va_P (dC, dI) vwCl (va_pl L f177) H ∧ va_D A (va_pl L f177) ∧ va_S A s.heap H locs ∧ lv_has ls 15 [(12, .int w167), (7, .int r102), (5, .long w115), (10, .long w115), (9, .int r102), (8, .int w72), (4, .int w66), (3, .int r42), (2, .int z40), (0, .ref h0), (1, .int v)]) ?_ _ _ _ _ ⟨f104, 0, rfl, hT, hR, hf_113, hf_168, hf_169, hf_o106, hf_o109, (by first | (simp only [(mo_un tf176), mo_i1, mo_l1]; exact (show ∀ d, 0 ≤ d → d < (0 : Int32).toInt → (mo_R g89) d = (mo_R g107) d from (fun d d0 d1 => absurd d1 (by have : (0 : Int32).toInt = 0 := rfl; (first | omega | (have u1 := mo_un tk112; first | omega | (have u0 := mo_un jf87; omega))))))) | (rw [(mo_un tf176)]; exact (show ∀ d, 0 ≤ d → d < (0 : Int32).toInt → (mo_R g89) d = (mo_R g107) d from (fun d d0 d1 => absurd d1 (by have : (0 : Int32).toInt = 0 := rfl; (first | omega | (have u1 := mo_un tk112; first | omega | (have u0 := mo_un jf87; omega)))))))), (by have : (0 : Int32).toInt = 0 := rfl; (first | omega | (have u1 := mo_un tk112; first | omega | (have u0 := mo_un jf87; omega)))), hP, hD, hS, lv_sub hl [0, 1, 2, 3, 4, 5, 6, 7, 8, 9, 10] rfl⟩
                  intro n0 H locs ls hI ih179
                  refine Exists.elim hI (fun f177 hE90 => Exists.elim hE90 (fun w167 hE91 => tn_14 hE91 (fun hn180 hT hR hk170k hk171k hk172k hk173k hk174k jf181 rw167 hP hD hS hl => ?_)))
                  clear hE91 hE90 hI
                  refine tpk_79 hT y22 (fun g183 hf_o182 => ?_)
                  have tf184 : mo_hd (mo_i (f177 (ρ h0 49)) = g183) := tfa_i hf_o182
                  replace jf181 : mo_hd (∀ d, 0 ≤ d → d < (w167.toInt) → (mo_R g183) d = (mo_R g107) d) := by have q9 := jf181; first | (simp only [(mo_un tf184), mo_i1, mo_l1] at q9; exact q9) | (rw [(mo_un tf184)] at q9; exact q9)
                  refine lv_iload hx hb dX12_best_251 (lv_at hl 0 rfl) ?_
                  refine lv_iload_n hx hb dX12_best_253 rfl (lv_at hl 8 rfl) ?_
                  refine lv_icmp_ge (tgt := 277) hx hb dX12_best_254 (by decide) (fun c185 => ?_) (fun c185 => ?_)
                  · have ic185 : w167.toInt ≥ z40.toInt := zi_ge rfl rfl c185
                    obtain ⟨z186, ez186⟩ : ∃ y : Int32, y = w72 + 1 := ⟨_, rfl⟩
                    refine lv_iinc (v := z186) (lv' := [(8, .int z186), (12, .int w167), (7, .int r102), (5, .long w115), (10, .long w115), (9, .int r102), (4, .int w66), (3, .int r42), (2, .int z40), (0, .ref h0), (1, .int v)]) hx hb dX12_best_277 hl (k := 5) rfl (by rw [ez186]; rfl) (by decide) rfl (fun ls hl => ?_)
                    have iz186 : z186.toInt = w72.toInt + 1 := zi_add ez186 rfl rfl (by (first | omega | (have u2 := mo_un jf181; first | omega | (have u1 := mo_un tk112; first | omega | (have u0 := mo_un jf87; omega))))) (by (first | omega | (have u2 := mo_un jf181; first | omega | (have u1 := mo_un tk112; first | omega | (have u0 := mo_un jf87; omega)))))
                    refine lv_goto (tgt := 113) hx hb dX12_best_280 (by decide) ?_
                    exact ih85 _ _ _ _ (by rw [hn86]; (first | omega | (have u2 := mo_un jf181; first | omega | (have u1 := mo_un tk112; first | omega | (have u0 := mo_un jf87; omega))))) ⟨f177, z186, r102, w115, rfl, hT, hR, hk170k, hk171k, hk172k, (by first | (simp only [(mo_un tf184), mo_i1, mo_l1]; exact (show ((w115.toInt) ≠ -2000000000000000 → mo_BG (mo_R g183) (mo_RL g59) z40.toInt r42.toInt) from (fun _ => mo_BG.of hSB (by (first | omega | (have u2 := mo_un jf181; first | omega | (have u1 := mo_un tk112; first | omega | (have u0 := mo_un jf87; omega))))) (by (first | omega | (have u2 := mo_un jf181; first | omega | (have u1 := mo_un tk112; first | omega | (have u0 := mo_un jf87; omega))))) (fun d d0 d1 => jf181 d d0 (by (first | omega | (have u2 := mo_un jf181; first | omega | (have u1 := mo_un tk112; first | omega | (have u0 := mo_un jf87; omega)))))) (fun t t0 t1 => k117 (by (first | omega | (have u2 := mo_un jf181; first | omega | (have u1 := mo_un tk112; first | omega | (have u0 := mo_un jf87; omega))))) t t0 (by (first | omega | (have u2 := mo_un jf181; first | omega | (have u1 := mo_un tk112; first | omega | (have u0 := mo_un jf87; omega))))))))) | (rw [(mo_un tf184)]; exact (show ((w115.toInt) ≠ -2000000000000000 → mo_BG (mo_R g183) (mo_RL g59) z40.toInt r42.toInt) from (fun _ => mo_BG.of hSB (by (first | omega | (have u2 := mo_un jf181; first | omega | (have u1 := mo_un tk112; first | omega | (have u0 := mo_un jf87; omega))))) (by (first | omega | (have u2 := mo_un jf181; first | omega | (have u1 := mo_un tk112; first | omega | (have u0 := mo_un jf87; omega))))) (fun d d0 d1 => jf181 d d0 (by (first | omega | (have u2 := mo_un jf181; first | omega | (have u1 := mo_un tk112; first | omega | (have u0 := mo_un jf87; omega)))))) (fun t t0 t1 => k117 (by (first | omega | (have u2 := mo_un jf181; first | omega | (have u1 := mo_un tk112; first | omega | (have u0 := mo_un jf87; omega))))) t t0 (by (first | omega | (have u2 := mo_un jf181; first | omega | (have u1 := mo_un tk112; first | omega | (have u0 := mo_un jf87; omega)))))))))), (by (first | omega | (have u2 := mo_un jf181; first | omega | (have u1 := mo_un tk112; first | omega | (have u0 := mo_un jf87; omega))))), (by (first | omega | (have u2 := mo_un jf181; first | omega | (have u1 := mo_un tk112; first | omega | (have u0 := mo_un jf87; omega))))), (fun q9 => by have q8 := hlast0 (by (first | omega | (have u2 := mo_un jf181; first | omega | (have u1 := mo_un tk112; first | omega | (have u0 := mo_un jf87; omega))))); (first | omega | (have u2 := mo_un jf181; first | omega | (have u1 := mo_un tk112; first | omega | (have u0 := mo_un jf87; omega))))), hP, hD, hS, lv_sub hl [0, 2, 3, 6, 7, 8, 9, 10] rfl⟩
                  · have ic185 : w167.toInt < z40.toInt := zi_gef rfl rfl c185
                    refine lv_aload_n hx hb dX12_best_257 rfl (lv_at hl 9 rfl) ?_
                    refine tpk_13 hT ht_h0 (fun o187_x0 o187_x1 o187_x7 o187_x9 o187_x10 o187_x11 o187_x12 o187_x13 o187_x14 o187_x15 o187_x16 o187_x17 o187_x18 o187_x19 o187_x20 o187_x22 o187_x25 o187_x28 o187_x29 o187_x32 o187_x33 o187_x34 o187_x35 o187_x36 o187_x37 o187_x38 o187_x47 o187_x48 hf_o187 ro187_0 ro187_1 ro187_2 ro187_3 ro187_4 ro187_5 ro187_6 ro187_7 ro187_8 ro187_9 ro187_10 ro187_11 ro187_12 ro187_13 ro187_14 => ?_)
                    refine tpk_pos (tp_in hG ht_h0 (by decide)) hf_o187 (fun q188 eq188 => ?_)
                    refine va_get (D := (dC, dI)) (ci := 12) (v := .ref (ρ h0 49)) (C := RX12) (T := TX12) (N := 53) hx hb hts hfX12 hown hK hP q188 eq188 rfl 49 (by decide) (hts (.fieldLink RX12 79 "ColdShipsModel" "bestShip" "[I") wa_171) (fun _ h9 => h9) rfl dX12_best_258 ?_
                    refine lv_iload hx hb dX12_best_261 (lv_at hl 0 rfl) ?_
                    refine lv_aload_n hx hb dX12_best_263 rfl (lv_at hl 9 rfl) ?_
                    refine va_get (D := (dC, dI)) (ci := 12) (v := .ref (ρ h0 51)) (C := RX12) (T := TX12) (N := 53) hx hb hts hfX12 hown hK hP q188 eq188 rfl 51 (by decide) (hts (.fieldLink RX12 85 "ColdShipsModel" "chosen" "[I") wa_173) (fun _ h9 => h9) rfl dX12_best_264 ?_
                    refine lv_iload hx hb dX12_best_267 (lv_at hl 0 rfl) ?_
                    refine tpk_pos (tp_in hG y24 (by decide)) hk173k (fun q189 eq189 => ?_)
                    refine va_iald hx hb hK hP q189 0 eq189 rfl (vp_in_iff.mpr ⟨by (first | omega | (have u2 := mo_un jf181; first | omega | (have u1 := mo_un tk112; first | omega | (have u0 := mo_un jf87; omega)))), by (first | omega | (have u2 := mo_un jf181; first | omega | (have u1 := mo_un tk112; first | omega | (have u0 := mo_un jf87; omega))))⟩) dX12_best_269 ?_
                    refine lv_topi (fun z190 ez190 => ?_)
                    have jz190 : z190.toInt = mo_R g107 w167.toInt := mo_rd ez190 (by (first | omega | (have u2 := mo_un jf181; first | omega | (have u1 := mo_un tk112; first | omega | (have u0 := mo_un jf87; omega)))))
                    refine tpk_pos (tp_in hG y22 (by decide)) hf_o182 (fun q191 eq191 => ?_)
                    refine va_iast hx hb hK hP hD hS q191 0 eq191 rfl (vp_in_iff.mpr ⟨by (first | omega | (have u2 := mo_un jf181; first | omega | (have u1 := mo_un tk112; first | omega | (have u0 := mo_un jf87; omega)))), by (first | omega | (have u2 := mo_un jf181; first | omega | (have u1 := mo_un tk112; first | omega | (have u0 := mo_un jf87; omega))))⟩) dX12_best_270 (tp_k (.inl (κ 0, 6, .inl (upd g183 w167.toNatClampNeg z190))) hD (tp_in hG y22 (by decide)) eq191 (fun f192 H locs hP hD hS g194 k193 => ?_))
                    have hT := hT.up y22 g194 k193 tp_o79
                    have hR := hR.up y22 (by decide) k193
                    have hU196 : mo_U (mo_R g183) (mo_R (upd g183 w167.toNatClampNeg z190)) (w167.toInt) (z190.toInt) := mo_up (by (first | omega | (have u2 := mo_un jf181; first | omega | (have u1 := mo_un tk112; first | omega | (have u0 := mo_un jf87; omega))))) (rfl : z190.toInt = _) (by (first | omega | (have u2 := mo_un jf181; first | omega | (have u1 := mo_un tk112; first | omega | (have u0 := mo_un jf87; omega)))))
                    generalize (upd g183 w167.toNatClampNeg z190) = g195 at g194 hU196
                    obtain ⟨z197, ez197⟩ : ∃ y : Int32, y = w167 + 1 := ⟨_, rfl⟩
                    refine lv_iinc (v := z197) (lv' := [(12, .int z197), (7, .int r102), (5, .long w115), (10, .long w115), (9, .int r102), (8, .int w72), (4, .int w66), (3, .int r42), (2, .int z40), (0, .ref h0), (1, .int v)]) hx hb dX12_best_271 hl (k := 0) rfl (by rw [ez197]; rfl) (by decide) rfl (fun ls hl => ?_)
                    have iz197 : z197.toInt = w167.toInt + 1 := zi_add ez197 rfl rfl (by (first | omega | (have u2 := mo_un jf181; first | omega | (have u1 := mo_un tk112; first | omega | (have u0 := mo_un jf87; omega))))) (by (first | omega | (have u2 := mo_un jf181; first | omega | (have u1 := mo_un tk112; first | omega | (have u0 := mo_un jf87; omega)))))
                    refine lv_goto (tgt := 251) hx hb dX12_best_274 (by decide) ?_
                    have tf198 : mo_hd (mo_i (f192 (ρ h0 49)) = g195) := tfa_i g194
                    have hf_199 : f192 (ρ h0 2) = .inl (κ 0, 12967, .inl g27) := (k193 _ (tp_ne y1 y22 (by decide))).trans hk170k
                    have hf_200 : f192 (ρ h0 43) = .inl (κ 1, 192, .inr (.inl g59)) := (k193 _ (tp_ne y18 y22 (by decide))).trans hk171k
                    have hf_201 : f192 (ρ h0 44) = .inl (κ 0, 192, .inl g62) := (k193 _ (tp_ne y19 y22 (by decide))).trans hk172k
                    have hf_202 : f192 (ρ h0 51) = .inl (κ 0, 6, .inl g107) := (k193 _ (tp_ne y24 y22 (by decide))).trans hk173k
                    have hf_203 : f192 (ρ h0 52) = .inl (κ 0, 3, .inl g110) := (k193 _ (tp_ne y25 y22 (by decide))).trans hk174k
                    exact ih179 _ _ _ _ (by rw [hn180]; (first | omega | (have u2 := mo_un jf181; first | omega | (have u1 := mo_un tk112; first | omega | (have u0 := mo_un jf87; omega))))) ⟨f192, z197, rfl, hT, hR, hf_199, hf_200, hf_201, hf_202, hf_203, (by first | (simp only [(mo_un tf198), mo_i1, mo_l1]; exact (show ∀ d, 0 ≤ d → d < (z197.toInt) → (mo_R g195) d = (mo_R g107) d from (fun d d0 d1 => by rcases hU196.at d d0 with ⟨z0, a0⟩ | ⟨z0, a0⟩ <;> first | (rw [a0, z0]; (first | omega | (have u2 := mo_un jf181; first | omega | (have u1 := mo_un tk112; first | omega | (have u0 := mo_un jf87; omega))))) | (rw [a0]; exact jf181 d d0 (by (first | omega | (have u2 := mo_un jf181; first | omega | (have u1 := mo_un tk112; first | omega | (have u0 := mo_un jf87; omega))))))))) | (rw [(mo_un tf198)]; exact (show ∀ d, 0 ≤ d → d < (z197.toInt) → (mo_R g195) d = (mo_R g107) d from (fun d d0 d1 => by rcases hU196.at d d0 with ⟨z0, a0⟩ | ⟨z0, a0⟩ <;> first | (rw [a0, z0]; (first | omega | (have u2 := mo_un jf181; first | omega | (have u1 := mo_un tk112; first | omega | (have u0 := mo_un jf87; omega))))) | (rw [a0]; exact jf181 d d0 (by (first | omega | (have u2 := mo_un jf181; first | omega | (have u1 := mo_un tk112; first | omega | (have u0 := mo_un jf87; omega)))))))))), (by (first | omega | (have u2 := mo_un jf181; first | omega | (have u1 := mo_un tk112; first | omega | (have u0 := mo_un jf87; omega))))), hP, hD, hS, lv_sub hl [0, 1, 2, 3, 4, 5, 6, 7, 8, 9, 10] rfl⟩
                · have ic166 : w115.toInt ≤ w74.toInt := zl_gtf rfl rfl c166
                  refine lv_lload hx hb dX12_best_225 (lv_at hl 1 rfl) ?_
                  refine lv_lload hx hb dX12_best_227 (lv_at hl 5 rfl) ?_
                  refine W.lcmp hx hb dX12_best_229 ?_
                  refine lv_if_ne (tgt := 277) hx hb dX12_best_230 (by decide) (fun c204 => ?_) (fun c204 => ?_)
                  · have ic204 : w115.toInt ≠ w74.toInt := zl_ne rfl rfl c204
                    obtain ⟨z205, ez205⟩ : ∃ y : Int32, y = w72 + 1 := ⟨_, rfl⟩
                    refine lv_iinc (v := z205) (lv' := [(8, .int z205), (12, .int w114), (10, .long w115), (9, .int r102), (7, .int w73), (5, .long w74), (4, .int w66), (3, .int r42), (2, .int z40), (0, .ref h0), (1, .int v)]) hx hb dX12_best_277 hl (k := 3) rfl (by rw [ez205]; rfl) (by decide) rfl (fun ls hl => ?_)
                    have iz205 : z205.toInt = w72.toInt + 1 := zi_add ez205 rfl rfl (by (first | omega | (have u1 := mo_un tk112; first | omega | (have u0 := mo_un jf87; omega)))) (by (first | omega | (have u1 := mo_un tk112; first | omega | (have u0 := mo_un jf87; omega))))
                    refine lv_goto (tgt := 113) hx hb dX12_best_280 (by decide) ?_
                    have hf_206 : f104 (ρ h0 49) = .inl (κ 0, 6, .inl g89) := (hF105 _ (by rw [tp_iu y22]; decide)).trans hf_o88
                    have tf207 : mo_hd (mo_i (f104 (ρ h0 49)) = g89) := tfa_i hf_206
                    have hf_208 : f104 (ρ h0 43) = .inl (κ 1, 192, .inr (.inl g59)) := (hF105 _ (by rw [tp_iu y18]; decide)).trans hk78k
                    have hf_209 : f104 (ρ h0 44) = .inl (κ 0, 192, .inl g62) := (hF105 _ (by rw [tp_iu y19]; decide)).trans hk79k
                    exact ih85 _ _ _ _ (by rw [hn86]; (first | omega | (have u1 := mo_un tk112; first | omega | (have u0 := mo_un jf87; omega)))) ⟨f104, z205, w73, w74, rfl, hT, hR, hf_113, hf_208, hf_209, (by first | (simp only [(mo_un tf207), mo_i1, mo_l1]; exact (show ((w74.toInt) ≠ -2000000000000000 → mo_BG (mo_R g89) (mo_RL g59) z40.toInt r42.toInt) from (by first | exact jf87 | (intro q9; exact jf87 (by (first | omega | (have u1 := mo_un tk112; first | omega | (have u0 := mo_un jf87; omega)))))))) | (rw [(mo_un tf207)]; exact (show ((w74.toInt) ≠ -2000000000000000 → mo_BG (mo_R g89) (mo_RL g59) z40.toInt r42.toInt) from (by first | exact jf87 | (intro q9; exact jf87 (by (first | omega | (have u1 := mo_un tk112; first | omega | (have u0 := mo_un jf87; omega))))))))), (by (first | omega | (have u1 := mo_un tk112; first | omega | (have u0 := mo_un jf87; omega)))), (by (first | omega | (have u1 := mo_un tk112; first | omega | (have u0 := mo_un jf87; omega)))), (fun q9 => by have q8 := hlast0 (by (first | omega | (have u1 := mo_un tk112; first | omega | (have u0 := mo_un jf87; omega)))); (first | omega | (have u1 := mo_un tk112; first | omega | (have u0 := mo_un jf87; omega)))), hP, hD, hS, lv_sub hl [0, 4, 5, 6, 7, 8, 9, 10] rfl⟩
                  · have ic204 : w115.toInt = w74.toInt := zl_nef rfl rfl c204
                    refine lv_iload hx hb dX12_best_233 (lv_at hl 2 rfl) ?_
                    refine lv_iload hx hb dX12_best_235 (lv_at hl 4 rfl) ?_
                    refine lv_icmp_ge (tgt := 277) hx hb dX12_best_237 (by decide) (fun c210 => ?_) (fun c210 => ?_)
                    · have ic210 : r102.toInt ≥ w73.toInt := zi_ge rfl rfl c210
                      obtain ⟨z211, ez211⟩ : ∃ y : Int32, y = w72 + 1 := ⟨_, rfl⟩
                      refine lv_iinc (v := z211) (lv' := [(8, .int z211), (12, .int w114), (10, .long w115), (9, .int r102), (7, .int w73), (5, .long w74), (4, .int w66), (3, .int r42), (2, .int z40), (0, .ref h0), (1, .int v)]) hx hb dX12_best_277 hl (k := 3) rfl (by rw [ez211]; rfl) (by decide) rfl (fun ls hl => ?_)
                      have iz211 : z211.toInt = w72.toInt + 1 := zi_add ez211 rfl rfl (by (first | omega | (have u1 := mo_un tk112; first | omega | (have u0 := mo_un jf87; omega)))) (by (first | omega | (have u1 := mo_un tk112; first | omega | (have u0 := mo_un jf87; omega))))
                      refine lv_goto (tgt := 113) hx hb dX12_best_280 (by decide) ?_
                      have hf_212 : f104 (ρ h0 49) = .inl (κ 0, 6, .inl g89) := (hF105 _ (by rw [tp_iu y22]; decide)).trans hf_o88
                      have tf213 : mo_hd (mo_i (f104 (ρ h0 49)) = g89) := tfa_i hf_212
                      have hf_214 : f104 (ρ h0 43) = .inl (κ 1, 192, .inr (.inl g59)) := (hF105 _ (by rw [tp_iu y18]; decide)).trans hk78k
                      have hf_215 : f104 (ρ h0 44) = .inl (κ 0, 192, .inl g62) := (hF105 _ (by rw [tp_iu y19]; decide)).trans hk79k
                      exact ih85 _ _ _ _ (by rw [hn86]; (first | omega | (have u1 := mo_un tk112; first | omega | (have u0 := mo_un jf87; omega)))) ⟨f104, z211, w73, w74, rfl, hT, hR, hf_113, hf_214, hf_215, (by first | (simp only [(mo_un tf213), mo_i1, mo_l1]; exact (show ((w74.toInt) ≠ -2000000000000000 → mo_BG (mo_R g89) (mo_RL g59) z40.toInt r42.toInt) from (by first | exact jf87 | (intro q9; exact jf87 (by (first | omega | (have u1 := mo_un tk112; first | omega | (have u0 := mo_un jf87; omega)))))))) | (rw [(mo_un tf213)]; exact (show ((w74.toInt) ≠ -2000000000000000 → mo_BG (mo_R g89) (mo_RL g59) z40.toInt r42.toInt) from (by first | exact jf87 | (intro q9; exact jf87 (by (first | omega | (have u1 := mo_un tk112; first | omega | (have u0 := mo_un jf87; omega))))))))), (by (first | omega | (have u1 := mo_un tk112; first | omega | (have u0 := mo_un jf87; omega)))), (by (first | omega | (have u1 := mo_un tk112; first | omega | (have u0 := mo_un jf87; omega)))), (fun q9 => by have q8 := hlast0 (by (first | omega | (have u1 := mo_un tk112; first | omega | (have u0 := mo_un jf87; omega)))); (first | omega | (have u1 := mo_un tk112; first | omega | (have u0 := mo_un jf87; omega)))), hP, hD, hS, lv_sub hl [0, 4, 5, 6, 7, 8, 9, 10] rfl⟩
                    · have ic210 : r102.toInt < w73.toInt := zi_gef rfl rfl c210
                      refine lv_lload hx hb dX12_best_240 (lv_at hl 1 rfl) ?_
                      refine lv_lstore (lv' := [(5, .long w115), (12, .int w114), (10, .long w115), (9, .int r102), (8, .int w72), (7, .int w73), (4, .int w66), (3, .int r42), (2, .int z40), (0, .ref h0), (1, .int v)]) hx hb dX12_best_242 hl (by decide) rfl (fun ls hl => ?_)
                      refine lv_iload hx hb dX12_best_244 (lv_at hl 3 rfl) ?_
                      refine lv_istore (lv' := [(7, .int r102), (5, .long w115), (12, .int w114), (10, .long w115), (9, .int r102), (8, .int w72), (4, .int w66), (3, .int r42), (2, .int z40), (0, .ref h0), (1, .int v)]) hx hb dX12_best_246 hl (by decide) rfl (fun ls hl => ?_)
                      refine lv_iconst (v := 0) hx hb dX12_best_248 (by decide) ?_
                      refine lv_istore (lv' := [(12, .int 0), (7, .int r102), (5, .long w115), (10, .long w115), (9, .int r102), (8, .int w72), (4, .int w66), (3, .int r42), (2, .int z40), (0, .ref h0), (1, .int v)]) hx hb dX12_best_249 hl (by decide) rfl (fun ls hl => ?_)
                      have hf_217 : f104 (ρ h0 43) = .inl (κ 1, 192, .inr (.inl g59)) := (hF105 _ (by rw [tp_iu y18]; decide)).trans hk78k
                      have hf_218 : f104 (ρ h0 44) = .inl (κ 0, 192, .inl g62) := (hF105 _ (by rw [tp_iu y19]; decide)).trans hk79k
                      have hf_224 : f104 (ρ h0 49) = .inl (κ 0, 6, .inl g89) := (hF105 _ (by rw [tp_iu y22]; decide)).trans hf_o88
                      have tf225 : mo_hd (mo_i (f104 (ρ h0 49)) = g89) := tfa_i hf_224
                      refine pz_loop (fun n0 H locs ls => ∃ f226 : Nat → va_E, ∃ w216 : Int32, n0 = (6 - (w216.toInt)).toNat ∧ tp_T (mo_O κ Θ) κ τ ν ρ f226 ∧ tp_F τ [13, 69, 70, 71, 72, 73, 74, 75, 76, 79, 80, 81, 82] f f226 ∧ f226 (ρ h0 2) = .inl (κ 0, 12967, .inl g27) ∧ f226 (ρ h0 43) = .inl (κ 1, 192, .inr (.inl g59)) ∧ f226 (ρ h0 44) = .inl (κ 0, 192, .inl g62) ∧ f226 (ρ h0 51) = .inl (κ 0, 6, .inl g107) ∧ f226 (ρ h0 52) = .inl (κ 0, 3, .inl g110) ∧ ((∀ d, 0 ≤ d → d < (w216.toInt) → (mo_R (mo_i (f226 (ρ h0 49)))) d = (mo_R g107) d)) ∧ (0 ≤ w216.toInt ∧ w216.toInt ≤ 6) ∧ va_P (dC, dI) vwCl (va_pl L f226) H ∧ va_D A (va_pl L f226) ∧ va_S A s.heap H locs ∧ lv_has ls 15 [(12, .int w216), (7, .int r102), (5, .long w115), (10, .long w115), (9, .int r102), (8, .int w72), (4, .int w66), (3, .int r42), (2, .int z40), (0, .ref h0), (1, .int v)]) ?_ _ _ _ _ ⟨f104, 0, rfl, hT, hR, hf_113, hf_217, hf_218, hf_o106, hf_o109, (by first | (simp only [(mo_un tf225), mo_i1, mo_l1]; exact (show ∀ d, 0 ≤ d → d < (0 : Int32).toInt → (mo_R g89) d = (mo_R g107) d from (fun d d0 d1 => absurd d1 (by have : (0 : Int32).toInt = 0 := rfl; (first | omega | (have u1 := mo_un tk112; first | omega | (have u0 := mo_un jf87; omega))))))) | (rw [(mo_un tf225)]; exact (show ∀ d, 0 ≤ d → d < (0 : Int32).toInt → (mo_R g89) d = (mo_R g107) d from (fun d d0 d1 => absurd d1 (by have : (0 : Int32).toInt = 0 := rfl; (first | omega | (have u1 := mo_un tk112; first | omega | (have u0 := mo_un jf87; omega)))))))), (by have : (0 : Int32).toInt = 0 := rfl; (first | omega | (have u1 := mo_un tk112; first | omega | (have u0 := mo_un jf87; omega)))), hP, hD, hS, lv_sub hl [0, 1, 2, 3, 4, 5, 6, 7, 8, 9, 10] rfl⟩
                      intro n0 H locs ls hI ih228
                      refine Exists.elim hI (fun f226 hE90 => Exists.elim hE90 (fun w216 hE91 => tn_14 hE91 (fun hn229 hT hR hk219k hk220k hk221k hk222k hk223k jf230 rw216 hP hD hS hl => ?_)))
                      clear hE91 hE90 hI
                      refine tpk_79 hT y22 (fun g232 hf_o231 => ?_)
                      have tf233 : mo_hd (mo_i (f226 (ρ h0 49)) = g232) := tfa_i hf_o231
                      replace jf230 : mo_hd (∀ d, 0 ≤ d → d < (w216.toInt) → (mo_R g232) d = (mo_R g107) d) := by have q9 := jf230; first | (simp only [(mo_un tf233), mo_i1, mo_l1] at q9; exact q9) | (rw [(mo_un tf233)] at q9; exact q9)
                      refine lv_iload hx hb dX12_best_251 (lv_at hl 0 rfl) ?_
                      refine lv_iload_n hx hb dX12_best_253 rfl (lv_at hl 8 rfl) ?_
                      refine lv_icmp_ge (tgt := 277) hx hb dX12_best_254 (by decide) (fun c234 => ?_) (fun c234 => ?_)
                      · have ic234 : w216.toInt ≥ z40.toInt := zi_ge rfl rfl c234
                        obtain ⟨z235, ez235⟩ : ∃ y : Int32, y = w72 + 1 := ⟨_, rfl⟩
                        refine lv_iinc (v := z235) (lv' := [(8, .int z235), (12, .int w216), (7, .int r102), (5, .long w115), (10, .long w115), (9, .int r102), (4, .int w66), (3, .int r42), (2, .int z40), (0, .ref h0), (1, .int v)]) hx hb dX12_best_277 hl (k := 5) rfl (by rw [ez235]; rfl) (by decide) rfl (fun ls hl => ?_)
                        have iz235 : z235.toInt = w72.toInt + 1 := zi_add ez235 rfl rfl (by (first | omega | (have u2 := mo_un jf230; first | omega | (have u1 := mo_un tk112; first | omega | (have u0 := mo_un jf87; omega))))) (by (first | omega | (have u2 := mo_un jf230; first | omega | (have u1 := mo_un tk112; first | omega | (have u0 := mo_un jf87; omega)))))
                        refine lv_goto (tgt := 113) hx hb dX12_best_280 (by decide) ?_
                        exact ih85 _ _ _ _ (by rw [hn86]; (first | omega | (have u2 := mo_un jf230; first | omega | (have u1 := mo_un tk112; first | omega | (have u0 := mo_un jf87; omega))))) ⟨f226, z235, r102, w115, rfl, hT, hR, hk219k, hk220k, hk221k, (by first | (simp only [(mo_un tf233), mo_i1, mo_l1]; exact (show ((w115.toInt) ≠ -2000000000000000 → mo_BG (mo_R g232) (mo_RL g59) z40.toInt r42.toInt) from (fun _ => mo_BG.of hSB (by (first | omega | (have u2 := mo_un jf230; first | omega | (have u1 := mo_un tk112; first | omega | (have u0 := mo_un jf87; omega))))) (by (first | omega | (have u2 := mo_un jf230; first | omega | (have u1 := mo_un tk112; first | omega | (have u0 := mo_un jf87; omega))))) (fun d d0 d1 => jf230 d d0 (by (first | omega | (have u2 := mo_un jf230; first | omega | (have u1 := mo_un tk112; first | omega | (have u0 := mo_un jf87; omega)))))) (fun t t0 t1 => k117 (by (first | omega | (have u2 := mo_un jf230; first | omega | (have u1 := mo_un tk112; first | omega | (have u0 := mo_un jf87; omega))))) t t0 (by (first | omega | (have u2 := mo_un jf230; first | omega | (have u1 := mo_un tk112; first | omega | (have u0 := mo_un jf87; omega))))))))) | (rw [(mo_un tf233)]; exact (show ((w115.toInt) ≠ -2000000000000000 → mo_BG (mo_R g232) (mo_RL g59) z40.toInt r42.toInt) from (fun _ => mo_BG.of hSB (by (first | omega | (have u2 := mo_un jf230; first | omega | (have u1 := mo_un tk112; first | omega | (have u0 := mo_un jf87; omega))))) (by (first | omega | (have u2 := mo_un jf230; first | omega | (have u1 := mo_un tk112; first | omega | (have u0 := mo_un jf87; omega))))) (fun d d0 d1 => jf230 d d0 (by (first | omega | (have u2 := mo_un jf230; first | omega | (have u1 := mo_un tk112; first | omega | (have u0 := mo_un jf87; omega)))))) (fun t t0 t1 => k117 (by (first | omega | (have u2 := mo_un jf230; first | omega | (have u1 := mo_un tk112; first | omega | (have u0 := mo_un jf87; omega))))) t t0 (by (first | omega | (have u2 := mo_un jf230; first | omega | (have u1 := mo_un tk112; first | omega | (have u0 := mo_un jf87; omega)))))))))), (by (first | omega | (have u2 := mo_un jf230; first | omega | (have u1 := mo_un tk112; first | omega | (have u0 := mo_un jf87; omega))))), (by (first | omega | (have u2 := mo_un jf230; first | omega | (have u1 := mo_un tk112; first | omega | (have u0 := mo_un jf87; omega))))), (fun q9 => by have q8 := hlast0 (by (first | omega | (have u2 := mo_un jf230; first | omega | (have u1 := mo_un tk112; first | omega | (have u0 := mo_un jf87; omega))))); (first | omega | (have u2 := mo_un jf230; first | omega | (have u1 := mo_un tk112; first | omega | (have u0 := mo_un jf87; omega))))), hP, hD, hS, lv_sub hl [0, 2, 3, 6, 7, 8, 9, 10] rfl⟩
                      · have ic234 : w216.toInt < z40.toInt := zi_gef rfl rfl c234
                        refine lv_aload_n hx hb dX12_best_257 rfl (lv_at hl 9 rfl) ?_
                        refine tpk_13 hT ht_h0 (fun o236_x0 o236_x1 o236_x7 o236_x9 o236_x10 o236_x11 o236_x12 o236_x13 o236_x14 o236_x15 o236_x16 o236_x17 o236_x18 o236_x19 o236_x20 o236_x22 o236_x25 o236_x28 o236_x29 o236_x32 o236_x33 o236_x34 o236_x35 o236_x36 o236_x37 o236_x38 o236_x47 o236_x48 hf_o236 ro236_0 ro236_1 ro236_2 ro236_3 ro236_4 ro236_5 ro236_6 ro236_7 ro236_8 ro236_9 ro236_10 ro236_11 ro236_12 ro236_13 ro236_14 => ?_)
                        refine tpk_pos (tp_in hG ht_h0 (by decide)) hf_o236 (fun q237 eq237 => ?_)
                        refine va_get (D := (dC, dI)) (ci := 12) (v := .ref (ρ h0 49)) (C := RX12) (T := TX12) (N := 53) hx hb hts hfX12 hown hK hP q237 eq237 rfl 49 (by decide) (hts (.fieldLink RX12 79 "ColdShipsModel" "bestShip" "[I") wa_171) (fun _ h9 => h9) rfl dX12_best_258 ?_
                        refine lv_iload hx hb dX12_best_261 (lv_at hl 0 rfl) ?_
                        refine lv_aload_n hx hb dX12_best_263 rfl (lv_at hl 9 rfl) ?_
                        refine va_get (D := (dC, dI)) (ci := 12) (v := .ref (ρ h0 51)) (C := RX12) (T := TX12) (N := 53) hx hb hts hfX12 hown hK hP q237 eq237 rfl 51 (by decide) (hts (.fieldLink RX12 85 "ColdShipsModel" "chosen" "[I") wa_173) (fun _ h9 => h9) rfl dX12_best_264 ?_
                        refine lv_iload hx hb dX12_best_267 (lv_at hl 0 rfl) ?_
                        refine tpk_pos (tp_in hG y24 (by decide)) hk222k (fun q238 eq238 => ?_)
                        refine va_iald hx hb hK hP q238 0 eq238 rfl (vp_in_iff.mpr ⟨by (first | omega | (have u2 := mo_un jf230; first | omega | (have u1 := mo_un tk112; first | omega | (have u0 := mo_un jf87; omega)))), by (first | omega | (have u2 := mo_un jf230; first | omega | (have u1 := mo_un tk112; first | omega | (have u0 := mo_un jf87; omega))))⟩) dX12_best_269 ?_
                        refine lv_topi (fun z239 ez239 => ?_)
                        have jz239 : z239.toInt = mo_R g107 w216.toInt := mo_rd ez239 (by (first | omega | (have u2 := mo_un jf230; first | omega | (have u1 := mo_un tk112; first | omega | (have u0 := mo_un jf87; omega)))))
                        refine tpk_pos (tp_in hG y22 (by decide)) hf_o231 (fun q240 eq240 => ?_)
                        refine va_iast hx hb hK hP hD hS q240 0 eq240 rfl (vp_in_iff.mpr ⟨by (first | omega | (have u2 := mo_un jf230; first | omega | (have u1 := mo_un tk112; first | omega | (have u0 := mo_un jf87; omega)))), by (first | omega | (have u2 := mo_un jf230; first | omega | (have u1 := mo_un tk112; first | omega | (have u0 := mo_un jf87; omega))))⟩) dX12_best_270 (tp_k (.inl (κ 0, 6, .inl (upd g232 w216.toNatClampNeg z239))) hD (tp_in hG y22 (by decide)) eq240 (fun f241 H locs hP hD hS g243 k242 => ?_))
                        have hT := hT.up y22 g243 k242 tp_o79
                        have hR := hR.up y22 (by decide) k242
                        have hU245 : mo_U (mo_R g232) (mo_R (upd g232 w216.toNatClampNeg z239)) (w216.toInt) (z239.toInt) := mo_up (by (first | omega | (have u2 := mo_un jf230; first | omega | (have u1 := mo_un tk112; first | omega | (have u0 := mo_un jf87; omega))))) (rfl : z239.toInt = _) (by (first | omega | (have u2 := mo_un jf230; first | omega | (have u1 := mo_un tk112; first | omega | (have u0 := mo_un jf87; omega)))))
                        generalize (upd g232 w216.toNatClampNeg z239) = g244 at g243 hU245
                        obtain ⟨z246, ez246⟩ : ∃ y : Int32, y = w216 + 1 := ⟨_, rfl⟩
                        refine lv_iinc (v := z246) (lv' := [(12, .int z246), (7, .int r102), (5, .long w115), (10, .long w115), (9, .int r102), (8, .int w72), (4, .int w66), (3, .int r42), (2, .int z40), (0, .ref h0), (1, .int v)]) hx hb dX12_best_271 hl (k := 0) rfl (by rw [ez246]; rfl) (by decide) rfl (fun ls hl => ?_)
                        have iz246 : z246.toInt = w216.toInt + 1 := zi_add ez246 rfl rfl (by (first | omega | (have u2 := mo_un jf230; first | omega | (have u1 := mo_un tk112; first | omega | (have u0 := mo_un jf87; omega))))) (by (first | omega | (have u2 := mo_un jf230; first | omega | (have u1 := mo_un tk112; first | omega | (have u0 := mo_un jf87; omega)))))
                        refine lv_goto (tgt := 251) hx hb dX12_best_274 (by decide) ?_
                        have tf247 : mo_hd (mo_i (f241 (ρ h0 49)) = g244) := tfa_i g243
                        have hf_248 : f241 (ρ h0 2) = .inl (κ 0, 12967, .inl g27) := (k242 _ (tp_ne y1 y22 (by decide))).trans hk219k
                        have hf_249 : f241 (ρ h0 43) = .inl (κ 1, 192, .inr (.inl g59)) := (k242 _ (tp_ne y18 y22 (by decide))).trans hk220k
                        have hf_250 : f241 (ρ h0 44) = .inl (κ 0, 192, .inl g62) := (k242 _ (tp_ne y19 y22 (by decide))).trans hk221k
                        have hf_251 : f241 (ρ h0 51) = .inl (κ 0, 6, .inl g107) := (k242 _ (tp_ne y24 y22 (by decide))).trans hk222k
                        have hf_252 : f241 (ρ h0 52) = .inl (κ 0, 3, .inl g110) := (k242 _ (tp_ne y25 y22 (by decide))).trans hk223k
                        exact ih228 _ _ _ _ (by rw [hn229]; (first | omega | (have u2 := mo_un jf230; first | omega | (have u1 := mo_un tk112; first | omega | (have u0 := mo_un jf87; omega))))) ⟨f241, z246, rfl, hT, hR, hf_248, hf_249, hf_250, hf_251, hf_252, (by first | (simp only [(mo_un tf247), mo_i1, mo_l1]; exact (show ∀ d, 0 ≤ d → d < (z246.toInt) → (mo_R g244) d = (mo_R g107) d from (fun d d0 d1 => by rcases hU245.at d d0 with ⟨z0, a0⟩ | ⟨z0, a0⟩ <;> first | (rw [a0, z0]; (first | omega | (have u2 := mo_un jf230; first | omega | (have u1 := mo_un tk112; first | omega | (have u0 := mo_un jf87; omega))))) | (rw [a0]; exact jf230 d d0 (by (first | omega | (have u2 := mo_un jf230; first | omega | (have u1 := mo_un tk112; first | omega | (have u0 := mo_un jf87; omega))))))))) | (rw [(mo_un tf247)]; exact (show ∀ d, 0 ≤ d → d < (z246.toInt) → (mo_R g244) d = (mo_R g107) d from (fun d d0 d1 => by rcases hU245.at d d0 with ⟨z0, a0⟩ | ⟨z0, a0⟩ <;> first | (rw [a0, z0]; (first | omega | (have u2 := mo_un jf230; first | omega | (have u1 := mo_un tk112; first | omega | (have u0 := mo_un jf87; omega))))) | (rw [a0]; exact jf230 d d0 (by (first | omega | (have u2 := mo_un jf230; first | omega | (have u1 := mo_un tk112; first | omega | (have u0 := mo_un jf87; omega)))))))))), (by (first | omega | (have u2 := mo_un jf230; first | omega | (have u1 := mo_un tk112; first | omega | (have u0 := mo_un jf87; omega))))), hP, hD, hS, lv_sub hl [0, 1, 2, 3, 4, 5, 6, 7, 8, 9, 10] rfl⟩
          · have ic121 : w114.toInt < r42.toInt := zi_gef rfl rfl c121
            refine lv_lload hx hb dX12_best_142 (lv_at hl 1 rfl) ?_
            refine lv_ldc2 (own := RX12) (v := (-2000000000000000)) hx hb hown (hts (.constantLong RX12 466 (-2000000000000000)) wa_1189) dX12_best_144 ?_
            refine W.lcmp hx hb dX12_best_147 ?_
            refine lv_if_eq (tgt := 199) hx hb dX12_best_148 (by decide) (fun c253 => ?_) (fun c253 => ?_)
            · have ic253 : w115.toInt = (-2000000000000000) := zl_eq rfl rfl c253
              have hlast0 : w72.toInt + 1 = w66.toInt → w115.toInt = 0 := fun q9 => k118 (by (first | omega | (have u1 := mo_un tk112; first | omega | (have u0 := mo_un jf87; omega))))
              refine lv_lload hx hb dX12_best_199 (lv_at hl 1 rfl) ?_
              refine lv_ldc2 (own := RX12) (v := (-2000000000000000)) hx hb hown (hts (.constantLong RX12 466 (-2000000000000000)) wa_1189) dX12_best_201 ?_
              refine W.lcmp hx hb dX12_best_204 ?_
              refine lv_if_eq (tgt := 277) hx hb dX12_best_205 (by decide) (fun c254 => ?_) (fun c254 => ?_)
              · have ic254 : w115.toInt = (-2000000000000000) := zl_eq rfl rfl c254
                obtain ⟨z255, ez255⟩ : ∃ y : Int32, y = w72 + 1 := ⟨_, rfl⟩
                refine lv_iinc (v := z255) (lv' := [(8, .int z255), (12, .int w114), (10, .long w115), (9, .int r102), (7, .int w73), (5, .long w74), (4, .int w66), (3, .int r42), (2, .int z40), (0, .ref h0), (1, .int v)]) hx hb dX12_best_277 hl (k := 3) rfl (by rw [ez255]; rfl) (by decide) rfl (fun ls hl => ?_)
                have iz255 : z255.toInt = w72.toInt + 1 := zi_add ez255 rfl rfl (by (first | omega | (have u1 := mo_un tk112; first | omega | (have u0 := mo_un jf87; omega)))) (by (first | omega | (have u1 := mo_un tk112; first | omega | (have u0 := mo_un jf87; omega))))
                refine lv_goto (tgt := 113) hx hb dX12_best_280 (by decide) ?_
                have hf_256 : f104 (ρ h0 49) = .inl (κ 0, 6, .inl g89) := (hF105 _ (by rw [tp_iu y22]; decide)).trans hf_o88
                have tf257 : mo_hd (mo_i (f104 (ρ h0 49)) = g89) := tfa_i hf_256
                have hf_258 : f104 (ρ h0 43) = .inl (κ 1, 192, .inr (.inl g59)) := (hF105 _ (by rw [tp_iu y18]; decide)).trans hk78k
                have hf_259 : f104 (ρ h0 44) = .inl (κ 0, 192, .inl g62) := (hF105 _ (by rw [tp_iu y19]; decide)).trans hk79k
                exact ih85 _ _ _ _ (by rw [hn86]; (first | omega | (have u1 := mo_un tk112; first | omega | (have u0 := mo_un jf87; omega)))) ⟨f104, z255, w73, w74, rfl, hT, hR, hf_113, hf_258, hf_259, (by first | (simp only [(mo_un tf257), mo_i1, mo_l1]; exact (show ((w74.toInt) ≠ -2000000000000000 → mo_BG (mo_R g89) (mo_RL g59) z40.toInt r42.toInt) from (by first | exact jf87 | (intro q9; exact jf87 (by (first | omega | (have u1 := mo_un tk112; first | omega | (have u0 := mo_un jf87; omega)))))))) | (rw [(mo_un tf257)]; exact (show ((w74.toInt) ≠ -2000000000000000 → mo_BG (mo_R g89) (mo_RL g59) z40.toInt r42.toInt) from (by first | exact jf87 | (intro q9; exact jf87 (by (first | omega | (have u1 := mo_un tk112; first | omega | (have u0 := mo_un jf87; omega))))))))), (by (first | omega | (have u1 := mo_un tk112; first | omega | (have u0 := mo_un jf87; omega)))), (by (first | omega | (have u1 := mo_un tk112; first | omega | (have u0 := mo_un jf87; omega)))), (fun q9 => by have q8 := hlast0 (by (first | omega | (have u1 := mo_un tk112; first | omega | (have u0 := mo_un jf87; omega)))); (first | omega | (have u1 := mo_un tk112; first | omega | (have u0 := mo_un jf87; omega)))), hP, hD, hS, lv_sub hl [0, 4, 5, 6, 7, 8, 9, 10] rfl⟩
              · have ic254 : w115.toInt ≠ (-2000000000000000) := zl_eqf rfl rfl c254
                exfalso; (first | omega | (have u1 := mo_un tk112; first | omega | (have u0 := mo_un jf87; omega)))
            · have ic253 : w115.toInt ≠ (-2000000000000000) := zl_eqf rfl rfl c253
              refine lv_aload_n hx hb dX12_best_151 rfl (lv_at hl 9 rfl) ?_
              have hf_260 : f104 h0 = .inr (12, [.int o100_x0, .int o100_x1, .ref (ρ h0 2), .ref (ρ h0 3), .ref (ρ h0 4), .ref (ρ h0 5), .ref (ρ h0 6), .int o100_x7, .ref (ρ h0 8), .int o100_x9, .int o100_x10, .int o100_x11, .int o100_x12, .long o100_x13, .int o100_x14, .int o100_x15, .int o100_x16, .int o100_x17, .int o100_x18, .int o100_x19, .int o100_x20, .ref (ρ h0 21), .int o100_x22, .ref (ρ h0 23), .ref (ρ h0 24), .int o100_x25, .ref (ρ h0 26), .ref (ρ h0 27), .int o100_x28, .int o100_x29, .ref (ρ h0 30), .ref (ρ h0 31), .int o100_x32, .long o100_x33, .long o100_x34, .long o100_x35, .int o100_x36, .int o100_x37, .int o100_x38, .ref (ρ h0 39), .ref (ρ h0 40), .ref (ρ h0 41), .ref (ρ h0 42), .ref (ρ h0 43), .ref (ρ h0 44), .ref (ρ h0 45), .ref (ρ h0 46), .int o100_x47, .int o100_x48, .ref (ρ h0 49), .ref (ρ h0 50), .ref (ρ h0 51), .ref (ρ h0 52)]) := (hF105 _ (by rw [ht_h0]; decide)).trans hf_o100
              refine tpk_pos (tp_in hG ht_h0 (by decide)) hf_260 (fun q261 eq261 => ?_)
              refine va_get (D := (dC, dI)) (ci := 12) (v := .ref (ρ h0 43)) (C := RX12) (T := TX12) (N := 53) hx hb hts hfX12 hown hK hP q261 eq261 rfl 43 (by decide) (hts (.fieldLink RX12 67 "ColdShipsModel" "bestOf" "[J") wa_167) (fun _ h9 => h9) rfl dX12_best_152 ?_
              refine lv_bipush (v := 64) hx hb dX12_best_155 (by decide) ?_
              refine lv_iload hx hb dX12_best_157 (lv_at hl 0 rfl) ?_
              refine lv_imul hx hb dX12_best_159 ?_
              refine lv_topi (fun z262 ez262 => ?_)
              have iz262 : z262.toInt = 64 * w114.toInt := zi_mul ez262 rfl rfl (by (first | omega | (have u1 := mo_un tk112; first | omega | (have u0 := mo_un jf87; omega)))) (by (first | omega | (have u1 := mo_un tk112; first | omega | (have u0 := mo_un jf87; omega))))
              refine lv_aload_n hx hb dX12_best_160 rfl (lv_at hl 9 rfl) ?_
              refine va_get (D := (dC, dI)) (ci := 12) (v := .ref (ρ h0 52)) (C := RX12) (T := TX12) (N := 53) hx hb hts hfX12 hown hK hP q261 eq261 rfl 52 (by decide) (hts (.fieldLink RX12 88 "ColdShipsModel" "sets" "[I") wa_174) (fun _ h9 => h9) rfl dX12_best_161 ?_
              refine lv_iload hx hb dX12_best_164 (lv_at hl 0 rfl) ?_
              refine tpk_pos (tp_in hG y25 (by decide)) hf_o109 (fun q263 eq263 => ?_)
              refine va_iald hx hb hK hP q263 0 eq263 rfl (vp_in_iff.mpr ⟨by (first | omega | (have u1 := mo_un tk112; first | omega | (have u0 := mo_un jf87; omega))), by (first | omega | (have u1 := mo_un tk112; first | omega | (have u0 := mo_un jf87; omega)))⟩) dX12_best_166 ?_
              refine lv_topi (fun z264 ez264 => ?_)
              have jz264 : z264.toInt = mo_R g110 w114.toInt := mo_rd ez264 (by (first | omega | (have u1 := mo_un tk112; first | omega | (have u0 := mo_un jf87; omega))))
              have hsr := (hSB.2 w114.toInt (by (first | omega | (have u1 := mo_un tk112; first | omega | (have u0 := mo_un jf87; omega)))) (by (first | omega | (have u1 := mo_un tk112; first | omega | (have u0 := mo_un jf87; omega))))).1
              refine lv_iadd hx hb dX12_best_167 ?_
              refine lv_topi (fun z265 ez265 => ?_)
              have iz265 : z265.toInt = z262.toInt + z264.toInt := zi_add ez265 rfl rfl (by (first | omega | (have u1 := mo_un tk112; first | omega | (have u0 := mo_un jf87; omega)))) (by (first | omega | (have u1 := mo_un tk112; first | omega | (have u0 := mo_un jf87; omega))))
              have hf_266 : f104 (ρ h0 43) = .inl (κ 1, 192, .inr (.inl g59)) := (hF105 _ (by rw [tp_iu y18]; decide)).trans hk78k
              refine tpk_pos (tp_in hG y18 (by decide)) hf_266 (fun q267 eq267 => ?_)
              refine va_lald hx hb hK hP q267 1 eq267 rfl (vp_in_iff.mpr ⟨by (first | omega | (have u1 := mo_un tk112; first | omega | (have u0 := mo_un jf87; omega))), by (first | omega | (have u1 := mo_un tk112; first | omega | (have u0 := mo_un jf87; omega)))⟩) dX12_best_168 ?_
              refine lv_topl (fun z268 ez268 => ?_)
              have jz268 : z268.toInt = mo_RL g59 (64 * w114.toInt + z264.toInt) := mo_rdL ez268 (by (first | omega | (have u1 := mo_un tk112; first | omega | (have u0 := mo_un jf87; omega))))
              refine lv_lstore (lv' := [(13, .long z268), (12, .int w114), (10, .long w115), (9, .int r102), (8, .int w72), (7, .int w73), (5, .long w74), (4, .int w66), (3, .int r42), (2, .int z40), (0, .ref h0), (1, .int v)]) hx hb dX12_best_169 hl (by decide) rfl (fun ls hl => ?_)
              refine lv_lload hx hb dX12_best_171 (lv_at hl 0 rfl) ?_
              refine lv_ldc2 (own := RX12) (v := (-2000000000000000)) hx hb hown (hts (.constantLong RX12 466 (-2000000000000000)) wa_1189) dX12_best_173 ?_
              refine W.lcmp hx hb dX12_best_176 ?_
              refine lv_if_ne (tgt := 186) hx hb dX12_best_177 (by decide) (fun c269 => ?_) (fun c269 => ?_)
              · have ic269 : z268.toInt ≠ (-2000000000000000) := zl_ne rfl rfl c269
                refine lv_lload hx hb dX12_best_186 (lv_at hl 2 rfl) ?_
                refine lv_lload hx hb dX12_best_188 (lv_at hl 0 rfl) ?_
                refine lv_ladd hx hb dX12_best_190 ?_
                refine lv_topl (fun z270 ez270 => ?_)
                refine lv_lstore (lv' := [(10, .long z270), (13, .long z268), (12, .int w114), (9, .int r102), (8, .int w72), (7, .int w73), (5, .long w74), (4, .int w66), (3, .int r42), (2, .int z40), (0, .ref h0), (1, .int v)]) hx hb dX12_best_191 hl (by decide) rfl (fun ls hl => ?_)
                obtain ⟨z271, ez271⟩ : ∃ y : Int32, y = w114 + 1 := ⟨_, rfl⟩
                refine lv_iinc (v := z271) (lv' := [(12, .int z271), (10, .long z270), (13, .long z268), (9, .int r102), (8, .int w72), (7, .int w73), (5, .long w74), (4, .int w66), (3, .int r42), (2, .int z40), (0, .ref h0), (1, .int v)]) hx hb dX12_best_193 hl (k := 2) rfl (by rw [ez271]; rfl) (by decide) rfl (fun ls hl => ?_)
                have iz271 : z271.toInt = w114.toInt + 1 := zi_add ez271 rfl rfl (by (first | omega | (have u1 := mo_un tk112; first | omega | (have u0 := mo_un jf87; omega)))) (by (first | omega | (have u1 := mo_un tk112; first | omega | (have u0 := mo_un jf87; omega))))
                refine lv_goto (tgt := 136) hx hb dX12_best_196 (by decide) ?_
                exact ih119 _ _ _ _ (by rw [hn120]; (first | omega | (have u1 := mo_un tk112; first | omega | (have u0 := mo_un jf87; omega)))) ⟨z271, z270, rfl, (by (first | omega | (have u1 := mo_un tk112; first | omega | (have u0 := mo_un jf87; omega)))), (by (first | omega | (have u1 := mo_un tk112; first | omega | (have u0 := mo_un jf87; omega)))), (fun q9 t t0 t1 => by rcases (show t < w114.toInt ∨ t = w114.toInt by (first | omega | (have u1 := mo_un tk112; first | omega | (have u0 := mo_un jf87; omega)))) with q8 | rfl; (exact k117 (by (first | omega | (have u1 := mo_un tk112; first | omega | (have u0 := mo_un jf87; omega)))) t t0 q8); (rw [← jz264, ← jz268]; (first | omega | (have u1 := mo_un tk112; first | omega | (have u0 := mo_un jf87; omega))))), (fun q9 => by have q7 := hLST (by (first | omega | (have u1 := mo_un tk112; first | omega | (have u0 := mo_un jf87; omega)))) w114.toInt (by (first | omega | (have u1 := mo_un tk112; first | omega | (have u0 := mo_un jf87; omega)))) (by (first | omega | (have u1 := mo_un tk112; first | omega | (have u0 := mo_un jf87; omega)))); have q6 := (hTB w114.toInt 0 (by (first | omega | (have u1 := mo_un tk112; first | omega | (have u0 := mo_un jf87; omega)))) (by (first | omega | (have u1 := mo_un tk112; first | omega | (have u0 := mo_un jf87; omega)))) (by (first | omega | (have u1 := mo_un tk112; first | omega | (have u0 := mo_un jf87; omega)))) (by (first | omega | (have u1 := mo_un tk112; first | omega | (have u0 := mo_un jf87; omega))))).2 rfl; have q5 : 64 * w114.toInt + z264.toInt = 64 * w114.toInt + 0 := (by (first | omega | (have u1 := mo_un tk112; first | omega | (have u0 := mo_un jf87; omega)))); rw [q5] at jz268; have q4 := k118 (by (first | omega | (have u1 := mo_un tk112; first | omega | (have u0 := mo_un jf87; omega)))); have q3 := zl_add ez270 (rfl : w115.toInt = _) (rfl : z268.toInt = _) (by (first | omega | (have u1 := mo_un tk112; first | omega | (have u0 := mo_un jf87; omega)))) (by (first | omega | (have u1 := mo_un tk112; first | omega | (have u0 := mo_un jf87; omega)))); (first | omega | (have u1 := mo_un tk112; first | omega | (have u0 := mo_un jf87; omega)))), hP, hD, hS, lv_sub hl [0, 1, 3, 4, 5, 6, 7, 8, 9, 10, 11] rfl⟩
              · have ic269 : z268.toInt = (-2000000000000000) := zl_nef rfl rfl c269
                refine lv_ldc2 (own := RX12) (v := (-2000000000000000)) hx hb hown (hts (.constantLong RX12 466 (-2000000000000000)) wa_1189) dX12_best_180 ?_
                refine lv_goto (tgt := 191) hx hb dX12_best_183 (by decide) ?_
                refine lv_lstore (lv' := [(10, .long (-2000000000000000)), (13, .long z268), (12, .int w114), (9, .int r102), (8, .int w72), (7, .int w73), (5, .long w74), (4, .int w66), (3, .int r42), (2, .int z40), (0, .ref h0), (1, .int v)]) hx hb dX12_best_191 hl (by decide) rfl (fun ls hl => ?_)
                obtain ⟨z272, ez272⟩ : ∃ y : Int32, y = w114 + 1 := ⟨_, rfl⟩
                refine lv_iinc (v := z272) (lv' := [(12, .int z272), (10, .long (-2000000000000000)), (13, .long z268), (9, .int r102), (8, .int w72), (7, .int w73), (5, .long w74), (4, .int w66), (3, .int r42), (2, .int z40), (0, .ref h0), (1, .int v)]) hx hb dX12_best_193 hl (k := 2) rfl (by rw [ez272]; rfl) (by decide) rfl (fun ls hl => ?_)
                have iz272 : z272.toInt = w114.toInt + 1 := zi_add ez272 rfl rfl (by (first | omega | (have u1 := mo_un tk112; first | omega | (have u0 := mo_un jf87; omega)))) (by (first | omega | (have u1 := mo_un tk112; first | omega | (have u0 := mo_un jf87; omega))))
                refine lv_goto (tgt := 136) hx hb dX12_best_196 (by decide) ?_
                exact ih119 _ _ _ _ (by rw [hn120]; (first | omega | (have u1 := mo_un tk112; first | omega | (have u0 := mo_un jf87; omega)))) ⟨z272, (-2000000000000000), rfl, (by have : ((-2000000000000000) : Int64).toInt = (-2000000000000000) := rfl; (first | omega | (have u1 := mo_un tk112; first | omega | (have u0 := mo_un jf87; omega)))), (by have : ((-2000000000000000) : Int64).toInt = (-2000000000000000) := rfl; (first | omega | (have u1 := mo_un tk112; first | omega | (have u0 := mo_un jf87; omega)))), (fun q9 => absurd (by decide) q9), (fun q9 => by have q7 := hLST (by (first | omega | (have u1 := mo_un tk112; first | omega | (have u0 := mo_un jf87; omega)))) w114.toInt (by (first | omega | (have u1 := mo_un tk112; first | omega | (have u0 := mo_un jf87; omega)))) (by (first | omega | (have u1 := mo_un tk112; first | omega | (have u0 := mo_un jf87; omega)))); have q6 := (hTB w114.toInt 0 (by (first | omega | (have u1 := mo_un tk112; first | omega | (have u0 := mo_un jf87; omega)))) (by (first | omega | (have u1 := mo_un tk112; first | omega | (have u0 := mo_un jf87; omega)))) (by (first | omega | (have u1 := mo_un tk112; first | omega | (have u0 := mo_un jf87; omega)))) (by (first | omega | (have u1 := mo_un tk112; first | omega | (have u0 := mo_un jf87; omega))))).2 rfl; have q5 : 64 * w114.toInt + z264.toInt = 64 * w114.toInt + 0 := (by (first | omega | (have u1 := mo_un tk112; first | omega | (have u0 := mo_un jf87; omega)))); rw [q5] at jz268; have q4 := k118 (by (first | omega | (have u1 := mo_un tk112; first | omega | (have u0 := mo_un jf87; omega)))); exfalso; (first | omega | (have u1 := mo_un tk112; first | omega | (have u0 := mo_un jf87; omega)))), hP, hD, hS, lv_sub hl [0, 1, 3, 4, 5, 6, 7, 8, 9, 10, 11] rfl⟩
      · have ic71 : w65.toInt < z40.toInt := zi_gef rfl rfl c71
        have hpw := mo_pw6 (a := r42.toInt) (n := w65.toInt + 1) (by omega) (by omega) (by omega)
        refine lv_iload hx hb dX12_best_88 (lv_at hl 1 rfl) ?_
        refine lv_iload_n hx hb dX12_best_90 rfl (lv_at hl 2 rfl) ?_
        refine lv_iconst (v := 1) hx hb dX12_best_91 (by decide) ?_
        refine lv_iadd hx hb dX12_best_92 ?_
        refine lv_topi (fun z273 ez273 => ?_)
        have iz273 : z273.toInt = r42.toInt + 1 := zi_add ez273 rfl rfl (by omega) (by omega)
        refine lv_imul hx hb dX12_best_93 ?_
        refine lv_topi (fun z274 ez274 => ?_)
        have iz274 : z274.toInt = mo_pw r42.toInt (w65.toInt + 1).toNat := zi_pw ez274 k68 (by omega) (by omega) (by omega) (by omega) rfl
        refine lv_istore (lv' := [(4, .int z274), (5, .int w65), (3, .int r42), (2, .int z40), (0, .ref h0), (1, .int v)]) hx hb dX12_best_94 hl (by decide) rfl (fun ls hl => ?_)
        obtain ⟨z275, ez275⟩ : ∃ y : Int32, y = w65 + 1 := ⟨_, rfl⟩
        refine lv_iinc (v := z275) (lv' := [(5, .int z275), (4, .int z274), (3, .int r42), (2, .int z40), (0, .ref h0), (1, .int v)]) hx hb dX12_best_96 hl (k := 1) rfl (by rw [ez275]; rfl) (by decide) rfl (fun ls hl => ?_)
        have iz275 : z275.toInt = w65.toInt + 1 := zi_add ez275 rfl rfl (by omega) (by omega)
        refine lv_goto (tgt := 82) hx hb dX12_best_99 (by decide) ?_
        exact ih69 _ _ _ _ (by rw [hn70]; omega) ⟨z275, z274, rfl, (by omega), (by omega), (by omega), (zi_pw ez274 k68 (by omega) (by omega) (by omega) (by omega) (by omega)), hP, hD, hS, lv_sub hl [0, 1, 2, 3, 4, 5] rfl⟩
    · have ic64 : w44.toInt < r42.toInt := zi_gef rfl rfl c64
      refine lv_iconst (v := 0) hx hb dX12_best_44 (by decide) ?_
      refine lv_istore (lv' := [(5, .int 0), (4, .int w44), (3, .int r42), (2, .int z40), (0, .ref h0), (1, .int v)]) hx hb dX12_best_45 hl (by decide) rfl (fun ls hl => ?_)
      refine pz_loop (fun n0 H locs ls => ∃ f278 : Nat → va_E, ∃ w276 : Int32, n0 = (64 - (w276.toInt)).toNat ∧ tp_T (mo_O κ Θ) κ τ ν ρ f278 ∧ tp_F τ [13, 69, 70, 71, 72, 73, 74, 75, 76, 79, 80, 81, 82] f f278 ∧ f278 (ρ h0 2) = .inl (κ 0, 12967, .inl g27) ∧ ((mo_TB (mo_RL (mo_l (f278 (ρ h0 43)))) (mo_R (mo_i (f278 (ρ h0 44)))) (w44.toInt) (w276.toInt) (mo_P2 z40.toInt))) ∧ (0 ≤ w276.toInt ∧ w276.toInt ≤ 64) ∧ va_P (dC, dI) vwCl (va_pl L f278) H ∧ va_D A (va_pl L f278) ∧ va_S A s.heap H locs ∧ lv_has ls 15 [(5, .int w276), (4, .int w44), (3, .int r42), (2, .int z40), (0, .ref h0), (1, .int v)]) ?_ _ _ _ _ ⟨f53, 0, rfl, hT, hR, hk46k, (by first | (simp only [(mo_un tf60), (mo_un tf63), mo_i1, mo_l1]; exact (show mo_TB (mo_RL g59) (mo_R g62) (w44.toInt) (0 : Int32).toInt (mo_P2 z40.toInt) from jf57)) | (rw [(mo_un tf60), (mo_un tf63)]; exact (show mo_TB (mo_RL g59) (mo_R g62) (w44.toInt) (0 : Int32).toInt (mo_P2 z40.toInt) from jf57))), (by have : (0 : Int32).toInt = 0 := rfl; omega), hP, hD, hS, lv_sub hl [0, 1, 2, 3, 4, 5] rfl⟩
      intro n0 H locs ls hI ih280
      refine Exists.elim hI (fun f278 hE90 => Exists.elim hE90 (fun w276 hE91 => tn_10 hE91 (fun hn281 hT hR hk277k jf282 rw276 hP hD hS hl => ?_)))
      clear hE91 hE90 hI
      refine tpk_73 hT y18 (fun g284 hf_o283 => ?_)
      have tf285 : mo_hd (mo_l (f278 (ρ h0 43)) = g284) := tfa_l hf_o283
      refine tpk_74 hT y19 (fun g287 hf_o286 => ?_)
      have tf288 : mo_hd (mo_i (f278 (ρ h0 44)) = g287) := tfa_i hf_o286
      replace jf282 : mo_TB (mo_RL g284) (mo_R g287) (w44.toInt) (w276.toInt) (mo_P2 z40.toInt) := by have q9 := jf282; first | (simp only [(mo_un tf285), (mo_un tf288), mo_i1, mo_l1] at q9; exact q9) | (rw [(mo_un tf285), (mo_un tf288)] at q9; exact q9)
      refine lv_iload hx hb dX12_best_47 (lv_at hl 0 rfl) ?_
      refine lv_iconst (v := 1) hx hb dX12_best_49 (by decide) ?_
      refine lv_iload_n hx hb dX12_best_50 rfl (lv_at hl 3 rfl) ?_
      refine lv_ishl hx hb dX12_best_51 ?_
      refine lv_topi (fun z289 ez289 => ?_)
      have iz289 : 1 ≤ z289.toInt ∧ z289.toInt ≤ 64 := zb_shl6 ez289 rfl (by omega) (by omega)
      have hz2 := zb_P2 ez289 (by omega) (by omega)
      refine lv_icmp_ge (tgt := 70) hx hb dX12_best_52 (by decide) (fun c290 => ?_) (fun c290 => ?_)
      · have ic290 : w276.toInt ≥ z289.toInt := zi_ge rfl rfl c290
        obtain ⟨z291, ez291⟩ : ∃ y : Int32, y = w44 + 1 := ⟨_, rfl⟩
        refine lv_iinc (v := z291) (lv' := [(4, .int z291), (5, .int w276), (3, .int r42), (2, .int z40), (0, .ref h0), (1, .int v)]) hx hb dX12_best_70 hl (k := 1) rfl (by rw [ez291]; rfl) (by decide) rfl (fun ls hl => ?_)
        have iz291 : z291.toInt = w44.toInt + 1 := zi_add ez291 rfl rfl (by omega) (by omega)
        refine lv_goto (tgt := 38) hx hb dX12_best_73 (by decide) ?_
        exact ih55 _ _ _ _ (by rw [hn56]; omega) ⟨f278, z291, rfl, hT, hR, hk277k, (by first | (simp only [(mo_un tf285), (mo_un tf288), mo_i1, mo_l1]; exact (show mo_TB (mo_RL g284) (mo_R g287) (z291.toInt) 0 (mo_P2 z40.toInt) from jf282.nx (by omega) (by omega) 0 rfl)) | (rw [(mo_un tf285), (mo_un tf288)]; exact (show mo_TB (mo_RL g284) (mo_R g287) (z291.toInt) 0 (mo_P2 z40.toInt) from jf282.nx (by omega) (by omega) 0 rfl))), (by omega), (by omega), hP, hD, hS, lv_sub hl [0, 2, 3, 4, 5] rfl⟩
      · have ic290 : w276.toInt < z289.toInt := zi_gef rfl rfl c290
        refine lv_aload_n hx hb dX12_best_55 rfl (lv_at hl 4 rfl) ?_
        refine lv_iload hx hb dX12_best_56 (lv_at hl 1 rfl) ?_
        refine lv_iload hx hb dX12_best_58 (lv_at hl 0 rfl) ?_
        refine lv_iload_n hx hb dX12_best_60 rfl (lv_at hl 5 rfl) ?_
        refine tpk_13 hT ht_h0 (fun o292_x0 o292_x1 o292_x7 o292_x9 o292_x10 o292_x11 o292_x12 o292_x13 o292_x14 o292_x15 o292_x16 o292_x17 o292_x18 o292_x19 o292_x20 o292_x22 o292_x25 o292_x28 o292_x29 o292_x32 o292_x33 o292_x34 o292_x35 o292_x36 o292_x37 o292_x38 o292_x47 o292_x48 hf_o292 ro292_0 ro292_1 ro292_2 ro292_3 ro292_4 ro292_5 ro292_6 ro292_7 ro292_8 ro292_9 ro292_10 ro292_11 ro292_12 ro292_13 ro292_14 => ?_)
        refine tpk_pos (tp_in hG ht_h0 (by decide)) hf_o292 (fun q293 eq293 => ?_)
        have hFc := tp_fr hD hS hA
        refine va_callv (va_runV (As := [.int w44, .int w276, .int v]) (rest := []) ⟨hx, hb, hml, hown, hts⟩ (t_X12_findSet l dC dI _ κ Θ τ ν ρ L f278 hG hT h0 w44 w276 v (-1) 0 ht_h0 (by omega) (by rw [hk277k, mo_i1]; exact hI) (by first | (simp only [hk277k, hf_o26, mo_i1]; omega) | (simp only [hk277k, hf_o26, mo_i1]; trivial) | (simp only [hk277k, hf_o26, mo_i1]; done) | omega) (by omega) (by omega) (by rw [hk277k, mo_i1, ← jz40]; omega)) (cwV 3 hts gX12_best_X12_findSet rfl rfl rfl ⟨rfl, pd_X12_findSet⟩ ⟨Nat.le_of_ble_eq_true rfl, Nat.le_of_ble_eq_true rfl⟩) ⟨pz_blind, va_recv hK hP (ci := 12) (q0 := q293) rfl eq293, pz_pre hP hK hD hN⟩ rfl rfl hl.1 rfl (lv_room (Nat.le_of_ble_eq_true rfl)) dX12_best_61 ⟨Nat.le_of_ble_eq_true rfl, Nat.le_of_ble_eq_true rfl⟩) hS (fun q _ h => hFc q h) hFc (fun f296 t H1 locs ht hvm hw295 hB hz1 hk1 hS => ?_)
        refine tn_3 hw295 (fun hT hF297 hw295p => ?_); clear hw295
        have hR := hR.then hF297 (by decide)
        have hP := hB.1; rw [ht] at hP; have hD := tp_ad f296 hD; clear hB hFc hz1 hk1; subst ht; generalize t.heap = H at hP hS ⊢
        refine tpk_73 hT y18 (fun g299 hf_o298 => ?_)
        have tf300 : mo_hd (mo_l (f296 (ρ h0 43)) = g299) := tfa_l hf_o298
        refine tpk_74 hT y19 (fun g302 hf_o301 => ?_)
        have tf303 : mo_hd (mo_i (f296 (ρ h0 44)) = g302) := tfa_i hf_o301
        have tk304 : mo_hd (∃ m9 t9 : Int, mo_U (mo_RL g284) (mo_RL g299) (64 * w44.toInt + w276.toInt) m9 ∧ mo_U (mo_R g287) (mo_R g302) (64 * w44.toInt + w276.toInt) t9 ∧ (m9 ≠ -2000000000000000 → mo_GD t9 w276.toInt) ∧ (w276.toInt = 0 → m9 = 0)) := by have q9 := hw295p; first | (simp only [(mo_un tf285), (mo_un tf300), (mo_un tf288), (mo_un tf303), mo_i1, mo_l1] at q9; exact q9) | (rw [(mo_un tf285), (mo_un tf300), (mo_un tf288), (mo_un tf303)] at q9; exact q9)
        clear hw295p
        obtain ⟨m9, t9, hL9, hA9, h19, h29⟩ := tk304
        obtain ⟨z305, ez305⟩ : ∃ y : Int32, y = w276 + 1 := ⟨_, rfl⟩
        refine lv_iinc (v := z305) (lv' := [(5, .int z305), (4, .int w44), (3, .int r42), (2, .int z40), (0, .ref h0), (1, .int v)]) hx hb dX12_best_64 hl (k := 0) rfl (by rw [ez305]; rfl) (by decide) rfl (fun ls hl => ?_)
        have iz305 : z305.toInt = w276.toInt + 1 := zi_add ez305 rfl rfl (by (first | omega | (have u0 := mo_un tk304; omega))) (by (first | omega | (have u0 := mo_un tk304; omega)))
        refine lv_goto (tgt := 47) hx hb dX12_best_67 (by decide) ?_
        have hf_306 : f296 (ρ h0 2) = .inl (κ 0, 12967, .inl g27) := (hF297 _ (by rw [tp_iu y1]; decide)).trans hk277k
        exact ih280 _ _ _ _ (by rw [hn281]; (first | omega | (have u0 := mo_un tk304; omega))) ⟨f296, z305, rfl, hT, hR, hf_306, (by first | (simp only [(mo_un tf300), (mo_un tf303), mo_i1, mo_l1]; exact (show mo_TB (mo_RL g299) (mo_R g302) (w44.toInt) (z305.toInt) (mo_P2 z40.toInt) from jf282.up hL9 hA9 (by (first | omega | (have u0 := mo_un tk304; omega))) (by (first | omega | (have u0 := mo_un tk304; omega))) (by (first | omega | (have u0 := mo_un tk304; omega))) (by (first | omega | (have u0 := mo_un tk304; omega))) h19 h29 (by (first | omega | (have u0 := mo_un tk304; omega))))) | (rw [(mo_un tf300), (mo_un tf303)]; exact (show mo_TB (mo_RL g299) (mo_R g302) (w44.toInt) (z305.toInt) (mo_P2 z40.toInt) from jf282.up hL9 hA9 (by (first | omega | (have u0 := mo_un tk304; omega))) (by (first | omega | (have u0 := mo_un tk304; omega))) (by (first | omega | (have u0 := mo_un tk304; omega))) (by (first | omega | (have u0 := mo_un tk304; omega))) h19 h29 (by (first | omega | (have u0 := mo_un tk304; omega)))))), (by (first | omega | (have u0 := mo_un tk304; omega))), hP, hD, hS, lv_sub hl [0, 1, 2, 3, 4, 5] rfl⟩
  · have ic36 : r34.toInt = 0 := zi_nef rfl rfl c36
    clear hw35r ic36
    refine lv_ldc2 (own := RX12) (v := (-1)) hx hb hown (hts (.constantLong RX12 158 (-1)) wa_557) dX12_best_12 ?_
    exact W.lret (v := (-1)) hx hb hr (fun t ht hW => ⟨⟨(-1), f30, rfl, ⟨hT, hR, trivial, trivial⟩, by rw [ht]; exact hP, va_K.moved hW.alike hK, hD⟩, hS.F ht⟩) hS.2.2 dX12_best_15
end
section
theorem gX12_contract_X12_told : GoodIn WALL (wsV RX12 105 RX12 yX12_told wqX12_told) := wg_V wa_216 wa_217 wa_218 wa_5 wa_219
theorem gX12_contract_X12_begin : GoodIn WALL (wsV RX12 419 RX12 yX12_begin wqX12_begin) := wg_V wa_996 wa_997 wa_998 wa_5 wa_999
theorem gX12_contract_X12_readClause : GoodIn WALL (wsV RX12 422 RX12 yX12_readClause wqX12_readClause) := wg_V wa_1018 wa_1019 wa_1020 wa_5 wa_1021
theorem gX12_contract_X12_isSign : GoodIn WALL (wsV RX12 341 RX12 yX12_isSign wqX12_isSign) := wg_V wa_1056 wa_1057 wa_1058 wa_5 wa_1059
theorem gX12_contract_X12_next : GoodIn WALL (wsV RX12 264 RX12 yX12_next wqX12_next) := wg_V wa_1001 wa_1002 wa_1003 wa_5 wa_1004
theorem gX12_contract_X12_must : GoodIn WALL (wsV RX12 293 RX12 yX12_must wqX12_must) := wg_V wa_1033 wa_1034 wa_1035 wa_5 wa_1036
theorem gX12_contract_X12_addFour : GoodIn WALL (wsV RX12 118 RX12 yX12_addFour wqX12_addFour) := wg_V wa_224 wa_225 wa_226 wa_5 wa_227
theorem dX12_contract_0 : decode cX12_contract 0 = .ok (.aload_n 0, 1) := od_42  (by decide +kernel)
theorem dX12_contract_1 : decode cX12_contract 1 = .ok (.iconst 0, 1) := od_3  (by decide +kernel)
theorem dX12_contract_2 : decode cX12_contract 2 = .ok (.putfield 91, 3) := od_181 (a := 0) (b := 91) (by decide +kernel) (by decide)
theorem dX12_contract_5 : decode cX12_contract 5 = .ok (.aload_n 0, 1) := od_42  (by decide +kernel)
theorem dX12_contract_6 : decode cX12_contract 6 = .ok (.getfield 7, 3) := od_180 (a := 0) (b := 7) (by decide +kernel) (by decide)
theorem dX12_contract_9 : decode cX12_contract 9 = .ok (.bipush 8, 2) := od_16 (a := 8) (by decide +kernel) (by decide +kernel)
theorem dX12_contract_11 : decode cX12_contract 11 = .ok (.iaload, 1) := od_46  (by decide +kernel)
theorem dX12_contract_12 : decode cX12_contract 12 = .ok (.bipush 12, 2) := od_16 (a := 12) (by decide +kernel) (by decide +kernel)
theorem dX12_contract_14 : decode cX12_contract 14 = .ok (.if_icmp .ne 15, 3) := od_160 (a := 0) (b := 15) (by decide +kernel) (by decide +kernel)
theorem dX12_contract_17 : decode cX12_contract 17 = .ok (.aload_n 0, 1) := od_42  (by decide +kernel)
theorem dX12_contract_18 : decode cX12_contract 18 = .ok (.iconst 0, 1) := od_3  (by decide +kernel)
theorem dX12_contract_19 : decode cX12_contract 19 = .ok (.putfield 252, 3) := od_181 (a := 0) (b := 252) (by decide +kernel) (by decide)
theorem dX12_contract_22 : decode cX12_contract 22 = .ok (.aload_n 0, 1) := od_42  (by decide +kernel)
theorem dX12_contract_23 : decode cX12_contract 23 = .ok (.bipush (-5), 2) := od_16 (a := 251) (by decide +kernel) (by decide +kernel)
theorem dX12_contract_25 : decode cX12_contract 25 = .ok (.invokevirtual 105, 3) := od_182 (a := 0) (b := 105) (by decide +kernel) (by decide)
theorem dX12_contract_28 : decode cX12_contract 28 = .ok (.ireturn, 1) := od_172  (by decide +kernel)
theorem dX12_contract_29 : decode cX12_contract 29 = .ok (.aload_n 0, 1) := od_42  (by decide +kernel)
theorem dX12_contract_30 : decode cX12_contract 30 = .ok (.invokevirtual 419, 3) := od_182 (a := 1) (b := 163) (by decide +kernel) (by decide)
theorem dX12_contract_33 : decode cX12_contract 33 = .ok (.aload_n 0, 1) := od_42  (by decide +kernel)
theorem dX12_contract_34 : decode cX12_contract 34 = .ok (.iconst 0, 1) := od_3  (by decide +kernel)
theorem dX12_contract_35 : decode cX12_contract 35 = .ok (.putfield 391, 3) := od_181 (a := 1) (b := 135) (by decide +kernel) (by decide)
theorem dX12_contract_38 : decode cX12_contract 38 = .ok (.aload_n 0, 1) := od_42  (by decide +kernel)
theorem dX12_contract_39 : decode cX12_contract 39 = .ok (.iconst 0, 1) := od_3  (by decide +kernel)
theorem dX12_contract_40 : decode cX12_contract 40 = .ok (.putfield 411, 3) := od_181 (a := 1) (b := 155) (by decide +kernel) (by decide)
theorem dX12_contract_43 : decode cX12_contract 43 = .ok (.aload_n 0, 1) := od_42  (by decide +kernel)
theorem dX12_contract_44 : decode cX12_contract 44 = .ok (.iconst 0, 1) := od_3  (by decide +kernel)
theorem dX12_contract_45 : decode cX12_contract 45 = .ok (.putfield 297, 3) := od_181 (a := 1) (b := 41) (by decide +kernel) (by decide)
theorem dX12_contract_48 : decode cX12_contract 48 = .ok (.aload_n 0, 1) := od_42  (by decide +kernel)
theorem dX12_contract_49 : decode cX12_contract 49 = .ok (.iconst 0, 1) := od_3  (by decide +kernel)
theorem dX12_contract_50 : decode cX12_contract 50 = .ok (.putfield 351, 3) := od_181 (a := 1) (b := 95) (by decide +kernel) (by decide)
theorem dX12_contract_53 : decode cX12_contract 53 = .ok (.aload_n 0, 1) := od_42  (by decide +kernel)
theorem dX12_contract_54 : decode cX12_contract 54 = .ok (.iconst 0, 1) := od_3  (by decide +kernel)
theorem dX12_contract_55 : decode cX12_contract 55 = .ok (.putfield 398, 3) := od_181 (a := 1) (b := 142) (by decide +kernel) (by decide)
theorem dX12_contract_58 : decode cX12_contract 58 = .ok (.aload_n 0, 1) := od_42  (by decide +kernel)
theorem dX12_contract_59 : decode cX12_contract 59 = .ok (.sipush 2399, 3) := od_17 (a := 9) (b := 95) (by decide +kernel) (by decide +kernel)
theorem dX12_contract_62 : decode cX12_contract 62 = .ok (.putfield 403, 3) := od_181 (a := 1) (b := 147) (by decide +kernel) (by decide)
theorem dX12_contract_65 : decode cX12_contract 65 = .ok (.aload_n 0, 1) := od_42  (by decide +kernel)
theorem dX12_contract_66 : decode cX12_contract 66 = .ok (.iconst (-1), 1) := od_2  (by decide +kernel)
theorem dX12_contract_67 : decode cX12_contract 67 = .ok (.putfield 408, 3) := od_181 (a := 1) (b := 152) (by decide +kernel) (by decide)
theorem dX12_contract_70 : decode cX12_contract 70 = .ok (.aload_n 0, 1) := od_42  (by decide +kernel)
theorem dX12_contract_71 : decode cX12_contract 71 = .ok (.invokevirtual 422, 3) := od_182 (a := 1) (b := 166) (by decide +kernel) (by decide)
theorem dX12_contract_74 : decode cX12_contract 74 = .ok (.aload_n 0, 1) := od_42  (by decide +kernel)
theorem dX12_contract_75 : decode cX12_contract 75 = .ok (.getfield 261, 3) := od_180 (a := 1) (b := 5) (by decide +kernel) (by decide)
theorem dX12_contract_78 : decode cX12_contract 78 = .ok (.ifCond .ne 23, 3) := od_154 (a := 0) (b := 23) (by decide +kernel) (by decide +kernel)
theorem dX12_contract_81 : decode cX12_contract 81 = .ok (.aload_n 0, 1) := od_42  (by decide +kernel)
theorem dX12_contract_82 : decode cX12_contract 82 = .ok (.bipush 59, 2) := od_16 (a := 59) (by decide +kernel) (by decide +kernel)
theorem dX12_contract_84 : decode cX12_contract 84 = .ok (.invokevirtual 341, 3) := od_182 (a := 1) (b := 85) (by decide +kernel) (by decide)
theorem dX12_contract_87 : decode cX12_contract 87 = .ok (.ifCond .eq 14, 3) := od_153 (a := 0) (b := 14) (by decide +kernel) (by decide +kernel)
theorem dX12_contract_90 : decode cX12_contract 90 = .ok (.aload_n 0, 1) := od_42  (by decide +kernel)
theorem dX12_contract_91 : decode cX12_contract 91 = .ok (.invokevirtual 264, 3) := od_182 (a := 1) (b := 8) (by decide +kernel) (by decide)
theorem dX12_contract_94 : decode cX12_contract 94 = .ok (.aload_n 0, 1) := od_42  (by decide +kernel)
theorem dX12_contract_95 : decode cX12_contract 95 = .ok (.invokevirtual 422, 3) := od_182 (a := 1) (b := 166) (by decide +kernel) (by decide)
theorem dX12_contract_98 : decode cX12_contract 98 = .ok (.goto (-24), 3) := od_167 (a := 255) (b := 232) (by decide +kernel) (by decide +kernel)
theorem dX12_contract_101 : decode cX12_contract 101 = .ok (.aload_n 0, 1) := od_42  (by decide +kernel)
theorem dX12_contract_102 : decode cX12_contract 102 = .ok (.getfield 261, 3) := od_180 (a := 1) (b := 5) (by decide +kernel) (by decide)
theorem dX12_contract_105 : decode cX12_contract 105 = .ok (.ifCond .ne 15, 3) := od_154 (a := 0) (b := 15) (by decide +kernel) (by decide +kernel)
theorem dX12_contract_108 : decode cX12_contract 108 = .ok (.aload_n 0, 1) := od_42  (by decide +kernel)
theorem dX12_contract_109 : decode cX12_contract 109 = .ok (.getfield 280, 3) := od_180 (a := 1) (b := 24) (by decide +kernel) (by decide)
theorem dX12_contract_112 : decode cX12_contract 112 = .ok (.ifCond .eq 8, 3) := od_153 (a := 0) (b := 8) (by decide +kernel) (by decide +kernel)
theorem dX12_contract_115 : decode cX12_contract 115 = .ok (.aload_n 0, 1) := od_42  (by decide +kernel)
theorem dX12_contract_116 : decode cX12_contract 116 = .ok (.iconst 0, 1) := od_3  (by decide +kernel)
theorem dX12_contract_117 : decode cX12_contract 117 = .ok (.invokevirtual 293, 3) := od_182 (a := 1) (b := 37) (by decide +kernel) (by decide)
theorem dX12_contract_120 : decode cX12_contract 120 = .ok (.aload_n 0, 1) := od_42  (by decide +kernel)
theorem dX12_contract_121 : decode cX12_contract 121 = .ok (.iconst 0, 1) := od_3  (by decide +kernel)
theorem dX12_contract_122 : decode cX12_contract 122 = .ok (.putfield 252, 3) := od_181 (a := 0) (b := 252) (by decide +kernel) (by decide)
theorem dX12_contract_125 : decode cX12_contract 125 = .ok (.aload_n 0, 1) := od_42  (by decide +kernel)
theorem dX12_contract_126 : decode cX12_contract 126 = .ok (.getfield 261, 3) := od_180 (a := 1) (b := 5) (by decide +kernel) (by decide)
theorem dX12_contract_129 : decode cX12_contract 129 = .ok (.ifCond .eq 10, 3) := od_153 (a := 0) (b := 10) (by decide +kernel) (by decide +kernel)
theorem dX12_contract_132 : decode cX12_contract 132 = .ok (.aload_n 0, 1) := od_42  (by decide +kernel)
theorem dX12_contract_133 : decode cX12_contract 133 = .ok (.bipush (-6), 2) := od_16 (a := 250) (by decide +kernel) (by decide +kernel)
theorem dX12_contract_135 : decode cX12_contract 135 = .ok (.invokevirtual 105, 3) := od_182 (a := 0) (b := 105) (by decide +kernel) (by decide)
theorem dX12_contract_138 : decode cX12_contract 138 = .ok (.ireturn, 1) := od_172  (by decide +kernel)
theorem dX12_contract_139 : decode cX12_contract 139 = .ok (.sipush 2251, 3) := od_17 (a := 8) (b := 203) (by decide +kernel) (by decide +kernel)
theorem dX12_contract_142 : decode cX12_contract 142 = .ok (.sipush 864, 3) := od_17 (a := 3) (b := 96) (by decide +kernel) (by decide +kernel)
theorem dX12_contract_145 : decode cX12_contract 145 = .ok (.aload_n 0, 1) := od_42  (by decide +kernel)
theorem dX12_contract_146 : decode cX12_contract 146 = .ok (.getfield 7, 3) := od_180 (a := 0) (b := 7) (by decide +kernel) (by decide)
theorem dX12_contract_149 : decode cX12_contract 149 = .ok (.bipush 8, 2) := od_16 (a := 8) (by decide +kernel) (by decide +kernel)
theorem dX12_contract_151 : decode cX12_contract 151 = .ok (.iaload, 1) := od_46  (by decide +kernel)
theorem dX12_contract_152 : decode cX12_contract 152 = .ok (.imul, 1) := od_104  (by decide +kernel)
theorem dX12_contract_153 : decode cX12_contract 153 = .ok (.iadd, 1) := od_96  (by decide +kernel)
theorem dX12_contract_154 : decode cX12_contract 154 = .ok (.istore_n 1, 1) := od_60  (by decide +kernel)
theorem dX12_contract_155 : decode cX12_contract 155 = .ok (.aload_n 0, 1) := od_42  (by decide +kernel)
theorem dX12_contract_156 : decode cX12_contract 156 = .ok (.iload_n 1, 1) := od_27  (by decide +kernel)
theorem dX12_contract_157 : decode cX12_contract 157 = .ok (.aload_n 0, 1) := od_42  (by decide +kernel)
theorem dX12_contract_158 : decode cX12_contract 158 = .ok (.getfield 398, 3) := od_180 (a := 1) (b := 142) (by decide +kernel) (by decide)
theorem dX12_contract_161 : decode cX12_contract 161 = .ok (.aload_n 0, 1) := od_42  (by decide +kernel)
theorem dX12_contract_162 : decode cX12_contract 162 = .ok (.getfield 403, 3) := od_180 (a := 1) (b := 147) (by decide +kernel) (by decide)
theorem dX12_contract_165 : decode cX12_contract 165 = .ok (.aload_n 0, 1) := od_42  (by decide +kernel)
theorem dX12_contract_166 : decode cX12_contract 166 = .ok (.getfield 408, 3) := od_180 (a := 1) (b := 152) (by decide +kernel) (by decide)
theorem dX12_contract_169 : decode cX12_contract 169 = .ok (.aload_n 0, 1) := od_42  (by decide +kernel)
theorem dX12_contract_170 : decode cX12_contract 170 = .ok (.getfield 411, 3) := od_180 (a := 1) (b := 155) (by decide +kernel) (by decide)
theorem dX12_contract_173 : decode cX12_contract 173 = .ok (.invokevirtual 118, 3) := od_182 (a := 0) (b := 118) (by decide +kernel) (by decide)
theorem dX12_contract_176 : decode cX12_contract 176 = .ok (.iconst 0, 1) := od_3  (by decide +kernel)
theorem dX12_contract_177 : decode cX12_contract 177 = .ok (.istore_n 2, 1) := od_61  (by decide +kernel)
theorem dX12_contract_178 : decode cX12_contract 178 = .ok (.iload_n 2, 1) := od_28  (by decide +kernel)
theorem dX12_contract_179 : decode cX12_contract 179 = .ok (.iconst 5, 1) := od_8  (by decide +kernel)
theorem dX12_contract_180 : decode cX12_contract 180 = .ok (.aload_n 0, 1) := od_42  (by decide +kernel)
theorem dX12_contract_181 : decode cX12_contract 181 = .ok (.getfield 411, 3) := od_180 (a := 1) (b := 155) (by decide +kernel) (by decide)
theorem dX12_contract_184 : decode cX12_contract 184 = .ok (.imul, 1) := od_104  (by decide +kernel)
theorem dX12_contract_185 : decode cX12_contract 185 = .ok (.if_icmp .ge 25, 3) := od_162 (a := 0) (b := 25) (by decide +kernel) (by decide +kernel)
theorem dX12_contract_188 : decode cX12_contract 188 = .ok (.aload_n 0, 1) := od_42  (by decide +kernel)
theorem dX12_contract_189 : decode cX12_contract 189 = .ok (.getfield 7, 3) := od_180 (a := 0) (b := 7) (by decide +kernel) (by decide)
theorem dX12_contract_192 : decode cX12_contract 192 = .ok (.iload_n 1, 1) := od_27  (by decide +kernel)
theorem dX12_contract_193 : decode cX12_contract 193 = .ok (.iconst 4, 1) := od_7  (by decide +kernel)
theorem dX12_contract_194 : decode cX12_contract 194 = .ok (.iadd, 1) := od_96  (by decide +kernel)
theorem dX12_contract_195 : decode cX12_contract 195 = .ok (.iload_n 2, 1) := od_28  (by decide +kernel)
theorem dX12_contract_196 : decode cX12_contract 196 = .ok (.iadd, 1) := od_96  (by decide +kernel)
theorem dX12_contract_197 : decode cX12_contract 197 = .ok (.aload_n 0, 1) := od_42  (by decide +kernel)
theorem dX12_contract_198 : decode cX12_contract 198 = .ok (.getfield 34, 3) := od_180 (a := 0) (b := 34) (by decide +kernel) (by decide)
theorem dX12_contract_201 : decode cX12_contract 201 = .ok (.iload_n 2, 1) := od_28  (by decide +kernel)
theorem dX12_contract_202 : decode cX12_contract 202 = .ok (.iaload, 1) := od_46  (by decide +kernel)
theorem dX12_contract_203 : decode cX12_contract 203 = .ok (.iastore, 1) := od_79  (by decide +kernel)
theorem dX12_contract_204 : decode cX12_contract 204 = .ok (.iinc 2 1, 3) := od_132 (a := 2) (b := 1) (by decide +kernel) (by decide +kernel)
theorem dX12_contract_207 : decode cX12_contract 207 = .ok (.goto (-29), 3) := od_167 (a := 255) (b := 227) (by decide +kernel) (by decide +kernel)
theorem dX12_contract_210 : decode cX12_contract 210 = .ok (.iconst 0, 1) := od_3  (by decide +kernel)
theorem dX12_contract_211 : decode cX12_contract 211 = .ok (.istore_n 2, 1) := od_61  (by decide +kernel)
theorem dX12_contract_212 : decode cX12_contract 212 = .ok (.iload_n 2, 1) := od_28  (by decide +kernel)
theorem dX12_contract_213 : decode cX12_contract 213 = .ok (.aload_n 0, 1) := od_42  (by decide +kernel)
theorem dX12_contract_214 : decode cX12_contract 214 = .ok (.getfield 297, 3) := od_180 (a := 1) (b := 41) (by decide +kernel) (by decide)
theorem dX12_contract_217 : decode cX12_contract 217 = .ok (.if_icmp .ge 49, 3) := od_162 (a := 0) (b := 49) (by decide +kernel) (by decide +kernel)
theorem dX12_contract_220 : decode cX12_contract 220 = .ok (.aload_n 0, 1) := od_42  (by decide +kernel)
theorem dX12_contract_221 : decode cX12_contract 221 = .ok (.getfield 7, 3) := od_180 (a := 0) (b := 7) (by decide +kernel) (by decide)
theorem dX12_contract_224 : decode cX12_contract 224 = .ok (.iload_n 1, 1) := od_27  (by decide +kernel)
theorem dX12_contract_225 : decode cX12_contract 225 = .ok (.bipush 64, 2) := od_16 (a := 64) (by decide +kernel) (by decide +kernel)
theorem dX12_contract_227 : decode cX12_contract 227 = .ok (.iadd, 1) := od_96  (by decide +kernel)
theorem dX12_contract_228 : decode cX12_contract 228 = .ok (.iconst 2, 1) := od_5  (by decide +kernel)
theorem dX12_contract_229 : decode cX12_contract 229 = .ok (.iload_n 2, 1) := od_28  (by decide +kernel)
theorem dX12_contract_230 : decode cX12_contract 230 = .ok (.imul, 1) := od_104  (by decide +kernel)
theorem dX12_contract_231 : decode cX12_contract 231 = .ok (.iadd, 1) := od_96  (by decide +kernel)
theorem dX12_contract_232 : decode cX12_contract 232 = .ok (.aload_n 0, 1) := od_42  (by decide +kernel)
theorem dX12_contract_233 : decode cX12_contract 233 = .ok (.getfield 37, 3) := od_180 (a := 0) (b := 37) (by decide +kernel) (by decide)
theorem dX12_contract_236 : decode cX12_contract 236 = .ok (.iload_n 2, 1) := od_28  (by decide +kernel)
theorem dX12_contract_237 : decode cX12_contract 237 = .ok (.iaload, 1) := od_46  (by decide +kernel)
theorem dX12_contract_238 : decode cX12_contract 238 = .ok (.iastore, 1) := od_79  (by decide +kernel)
theorem dX12_contract_239 : decode cX12_contract 239 = .ok (.aload_n 0, 1) := od_42  (by decide +kernel)
theorem dX12_contract_240 : decode cX12_contract 240 = .ok (.getfield 7, 3) := od_180 (a := 0) (b := 7) (by decide +kernel) (by decide)
theorem dX12_contract_243 : decode cX12_contract 243 = .ok (.iload_n 1, 1) := od_27  (by decide +kernel)
theorem dX12_contract_244 : decode cX12_contract 244 = .ok (.bipush 64, 2) := od_16 (a := 64) (by decide +kernel) (by decide +kernel)
theorem dX12_contract_246 : decode cX12_contract 246 = .ok (.iadd, 1) := od_96  (by decide +kernel)
theorem dX12_contract_247 : decode cX12_contract 247 = .ok (.iconst 2, 1) := od_5  (by decide +kernel)
theorem dX12_contract_248 : decode cX12_contract 248 = .ok (.iload_n 2, 1) := od_28  (by decide +kernel)
theorem dX12_contract_249 : decode cX12_contract 249 = .ok (.imul, 1) := od_104  (by decide +kernel)
theorem dX12_contract_250 : decode cX12_contract 250 = .ok (.iadd, 1) := od_96  (by decide +kernel)
theorem dX12_contract_251 : decode cX12_contract 251 = .ok (.iconst 1, 1) := od_4  (by decide +kernel)
theorem dX12_contract_252 : decode cX12_contract 252 = .ok (.iadd, 1) := od_96  (by decide +kernel)
theorem dX12_contract_253 : decode cX12_contract 253 = .ok (.aload_n 0, 1) := od_42  (by decide +kernel)
theorem dX12_contract_254 : decode cX12_contract 254 = .ok (.getfield 40, 3) := od_180 (a := 0) (b := 40) (by decide +kernel) (by decide)
theorem dX12_contract_257 : decode cX12_contract 257 = .ok (.iload_n 2, 1) := od_28  (by decide +kernel)
theorem dX12_contract_258 : decode cX12_contract 258 = .ok (.iaload, 1) := od_46  (by decide +kernel)
theorem dX12_contract_259 : decode cX12_contract 259 = .ok (.iastore, 1) := od_79  (by decide +kernel)
theorem dX12_contract_260 : decode cX12_contract 260 = .ok (.iinc 2 1, 3) := od_132 (a := 2) (b := 1) (by decide +kernel) (by decide +kernel)
theorem dX12_contract_263 : decode cX12_contract 263 = .ok (.goto (-51), 3) := od_167 (a := 255) (b := 205) (by decide +kernel) (by decide +kernel)
theorem dX12_contract_266 : decode cX12_contract 266 = .ok (.aload_n 0, 1) := od_42  (by decide +kernel)
theorem dX12_contract_267 : decode cX12_contract 267 = .ok (.getfield 7, 3) := od_180 (a := 0) (b := 7) (by decide +kernel) (by decide)
theorem dX12_contract_270 : decode cX12_contract 270 = .ok (.bipush 8, 2) := od_16 (a := 8) (by decide +kernel) (by decide +kernel)
theorem dX12_contract_272 : decode cX12_contract 272 = .ok (.dup2, 1) := od_92  (by decide +kernel)
theorem dX12_contract_273 : decode cX12_contract 273 = .ok (.iaload, 1) := od_46  (by decide +kernel)
theorem dX12_contract_274 : decode cX12_contract 274 = .ok (.iconst 1, 1) := od_4  (by decide +kernel)
theorem dX12_contract_275 : decode cX12_contract 275 = .ok (.iadd, 1) := od_96  (by decide +kernel)
theorem dX12_contract_276 : decode cX12_contract 276 = .ok (.iastore, 1) := od_79  (by decide +kernel)
theorem dX12_contract_277 : decode cX12_contract 277 = .ok (.aload_n 0, 1) := od_42  (by decide +kernel)
theorem dX12_contract_278 : decode cX12_contract 278 = .ok (.aload_n 0, 1) := od_42  (by decide +kernel)
theorem dX12_contract_279 : decode cX12_contract 279 = .ok (.getfield 7, 3) := od_180 (a := 0) (b := 7) (by decide +kernel) (by decide)
theorem dX12_contract_282 : decode cX12_contract 282 = .ok (.bipush 8, 2) := od_16 (a := 8) (by decide +kernel) (by decide +kernel)
theorem dX12_contract_284 : decode cX12_contract 284 = .ok (.iaload, 1) := od_46  (by decide +kernel)
theorem dX12_contract_285 : decode cX12_contract 285 = .ok (.iconst 1, 1) := od_4  (by decide +kernel)
theorem dX12_contract_286 : decode cX12_contract 286 = .ok (.isub, 1) := od_100  (by decide +kernel)
theorem dX12_contract_287 : decode cX12_contract 287 = .ok (.invokevirtual 105, 3) := od_182 (a := 0) (b := 105) (by decide +kernel) (by decide)
theorem dX12_contract_290 : decode cX12_contract 290 = .ok (.ireturn, 1) := od_172  (by decide +kernel)
end
