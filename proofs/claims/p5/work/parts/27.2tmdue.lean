set_option maxHeartbeats 4000000 in
set_option maxRecDepth 100000 in
theorem t_X12_setFor (l : Launch) (dC : Nat → ClassId) (dI : Nat → Nat → Nat) (sz : Nat) (κ : Nat → ClassId) (τ ν : Nat → Nat) (ρ : Nat → Nat → Nat) (L : List Nat) (f : Nat → va_E) (hG : tp_G τ ν ρ L) (hT : tp_T (mo_O κ) κ τ ν ρ f) (h0 : Nat) (ul : Int32) (uc : Int32) (a : Int32) (x : Int) (b : Int) (ql : Int) (qc : Int) (ht_h0 : τ h0 = 13) (hL_ul : ul.toInt = 1051 + 16 * ql) (hq_ul : 0 ≤ ql ∧ ql ≤ 59) (hL_uc : uc.toInt = 2251 + 864 * qc) (hq_uc : 0 ≤ qc ∧ qc ≤ 11) (hbb : 0 ≤ b ∧ b ≤ 1000) (hJ : mo_RI x b (mo_R (mo_i (f (ρ h0 2))))) (hn5 : ql < (mo_R (mo_i (f (ρ h0 2)))) (5)) (hn8 : qc < (mo_R (mo_i (f (ρ h0 2)))) (8)) : Met l yX12_setFor wqX12_setFor ({ frames := 4, cells := 0, slots := 0, locals := 1200 }) (va_Pc [.ref h0, .int ul, .int uc, .int a] (pz_B dC dI (tp_K κ) (va_pl L f) sz)) (va_Qv (fun (f1 : Nat → va_E) => tp_T (mo_O κ) κ τ ν ρ f1 ∧ tp_F τ [60] f f1 ∧ True) (fun (f1 : Nat → va_E) (t : State) => pz_E dC dI (tp_K κ) (va_A (va_pl L f) sz) (va_pl L f1) t) (va_A (va_pl L f) sz)) 0 0 (va_A (va_pl L f) sz) := by
  refine Met.ofW (cc := cX12_setFor) (maxL := 7) (ret := none) (by decide) rfl ?_
  intro p e s m args below meth c s₁ B hml hv
  obtain ⟨rfl, hsz, hP, hK, hD0, hN⟩ := hv
  have hx := B.exec
  have hb := B.bytes
  have hr := B.returns
  have hts := fun (w : Cond) (h : w ∈ WALL) => atoms_spec (ws := wqX12_setFor) B.pre w (List.mem_cons_of_mem _ h)
  have hown : s.vm.findClass RX12 = some m.cls := findClass_of_methodNamed B.named
  have hlocks := B.notSynchronized
  subst hsz
  have hD := hD0.self (sz := s.heap.size)
  generalize hAe : va_A (va_pl L f) s.heap.size = A at hD ⊢
  have hA : ∀ q : Nat, s.heap.size ≤ q → A q := fun q h => by rw [← hAe]; exact Or.inr h
  have hS : va_S A s.heap s.heap [] := va_S.rf
  have hR : tp_F τ [60] f f := tp_F.rf
  have hl := lv_entry ([.ref h0, .int ul, .int uc, .int a]) (n := 7) (Nat.le_of_ble_eq_true rfl)
  rw [lg_entry_eq]
  generalize (lg_sl ([.ref h0, .int ul, .int uc, .int a]) ++ List.replicate (7 - (lg_sl ([.ref h0, .int ul, .int uc, .int a])).length) Slot.unset).toArray = ls at hl ⊢
  have hl : lv_has ls 7 [(0, .ref h0), (1, .int ul), (2, .int uc), (3, .int a)] := hl
  refine tgk_13 hG ht_h0 (fun y1 y2 y3 y4 y5 y6 y7 y8 y9 y10 y11 y12 y13 y14 y15 y16 y17 y18 y19 y20 y21 y22 y23 y24 y25 => ?_)
  refine tpk_32 hT y1 (fun g27 hf_o26 => ?_)
  have hI : mo_RI x b (mo_R g27) := by have q9 := hJ; rw [hf_o26, mo_i1] at q9; exact q9
  rw [hf_o26, mo_i1] at hn5
  rw [hf_o26, mo_i1] at hn8
  refine lv_aload_n hx hb dX12_setFor_0 rfl (lv_at hl 0 rfl) ?_
  refine tpk_13 hT ht_h0 (fun o28_x0 o28_x1 o28_x7 o28_x9 o28_x10 o28_x11 o28_x12 o28_x13 o28_x14 o28_x15 o28_x16 o28_x17 o28_x18 o28_x19 o28_x20 o28_x22 o28_x25 o28_x28 o28_x29 o28_x32 o28_x33 o28_x34 o28_x35 o28_x36 o28_x37 o28_x38 o28_x47 o28_x48 hf_o28 ro28_0 ro28_1 ro28_2 ro28_3 ro28_4 ro28_5 ro28_6 ro28_7 ro28_8 ro28_9 ro28_10 ro28_11 ro28_12 ro28_13 => ?_)
  refine tpk_pos (tp_in hG ht_h0 (by decide)) hf_o28 (fun q29 eq29 => ?_)
  refine va_get (D := (dC, dI)) (ci := 12) (v := .ref (ρ h0 2)) (C := RX12) (T := TX12) (N := 53) hx hb hts hfX12 hown hK hP q29 eq29 rfl 2 (by decide) (hts (.fieldLink RX12 7 "ColdShipsModel" "row" "[I") wa_148) (fun _ h9 => h9) rfl dX12_setFor_1 ?_
  refine lv_iload_n hx hb dX12_setFor_4 rfl (lv_at hl 1 rfl) ?_
  refine lv_iconst (v := 2) hx hb dX12_setFor_5 (by decide) ?_
  refine lv_iadd hx hb dX12_setFor_6 ?_
  refine lv_topi (fun z30 ez30 => ?_)
  have iz30 : z30.toInt = ul.toInt + 2 := zi_add ez30 rfl rfl (by omega) (by omega)
  refine tpk_pos (tp_in hG y1 (by decide)) hf_o26 (fun q31 eq31 => ?_)
  refine va_iald hx hb hK hP q31 0 eq31 rfl (vp_in_iff.mpr ⟨by omega, by omega⟩) dX12_setFor_7 ?_
  refine lv_topi (fun z32 ez32 => ?_)
  refine lv_istore (lv' := [(4, .int z32), (0, .ref h0), (1, .int ul), (2, .int uc), (3, .int a)]) hx hb dX12_setFor_8 hl (by decide) rfl (fun ls hl => ?_)
  refine lv_aload_n hx hb dX12_setFor_10 rfl (lv_at hl 1 rfl) ?_
  refine va_get (D := (dC, dI)) (ci := 12) (v := .ref (ρ h0 2)) (C := RX12) (T := TX12) (N := 53) hx hb hts hfX12 hown hK hP q29 eq29 rfl 2 (by decide) (hts (.fieldLink RX12 7 "ColdShipsModel" "row" "[I") wa_148) (fun _ h9 => h9) rfl dX12_setFor_11 ?_
  refine lv_iload_n hx hb dX12_setFor_14 rfl (lv_at hl 2 rfl) ?_
  refine lv_iconst (v := 3) hx hb dX12_setFor_15 (by decide) ?_
  refine lv_iadd hx hb dX12_setFor_16 ?_
  refine lv_topi (fun z33 ez33 => ?_)
  have iz33 : z33.toInt = ul.toInt + 3 := zi_add ez33 rfl rfl (by omega) (by omega)
  refine va_iald hx hb hK hP q31 0 eq31 rfl (vp_in_iff.mpr ⟨by omega, by omega⟩) dX12_setFor_17 ?_
  refine lv_topi (fun z34 ez34 => ?_)
  have jz34 : z34.toInt = mo_R g27 (1051 + 16 * ql + 3) := mo_rd ez34 (by omega)
  have kz34 := hI.LL (l := ql) (by omega) (by omega)
  refine lv_istore (lv' := [(5, .int z34), (4, .int z32), (0, .ref h0), (1, .int ul), (2, .int uc), (3, .int a)]) hx hb dX12_setFor_18 hl (by decide) rfl (fun ls hl => ?_)
  refine lv_aload_n hx hb dX12_setFor_20 rfl (lv_at hl 2 rfl) ?_
  refine va_get (D := (dC, dI)) (ci := 12) (v := .ref (ρ h0 30)) (C := RX12) (T := TX12) (N := 53) hx hb hts hfX12 hown hK hP q29 eq29 rfl 30 (by decide) (hts (.fieldLink RX12 49 "ColdShipsModel" "set" "[J") wa_161) (fun _ h9 => h9) rfl dX12_setFor_21 ?_
  refine lv_iconst (v := 1) hx hb dX12_setFor_24 (by decide) ?_
  refine lv_aload_n hx hb dX12_setFor_25 rfl (lv_at hl 2 rfl) ?_
  refine va_get (D := (dC, dI)) (ci := 12) (v := .ref (ρ h0 2)) (C := RX12) (T := TX12) (N := 53) hx hb hts hfX12 hown hK hP q29 eq29 rfl 2 (by decide) (hts (.fieldLink RX12 7 "ColdShipsModel" "row" "[I") wa_148) (fun _ h9 => h9) rfl dX12_setFor_26 ?_
  refine lv_iload_n hx hb dX12_setFor_29 rfl (lv_at hl 3 rfl) ?_
  refine lv_iconst (v := 4) hx hb dX12_setFor_30 (by decide) ?_
  refine lv_iadd hx hb dX12_setFor_31 ?_
  refine lv_topi (fun z35 ez35 => ?_)
  have iz35 : z35.toInt = ul.toInt + 4 := zi_add ez35 rfl rfl (by omega) (by omega)
  refine va_iald hx hb hK hP q31 0 eq31 rfl (vp_in_iff.mpr ⟨by omega, by omega⟩) dX12_setFor_32 ?_
  refine lv_topi (fun z36 ez36 => ?_)
  have jz36 : z36.toInt = mo_R g27 (1051 + 16 * ql + 4) := mo_rd ez36 (by omega)
  have kz36 := hI.LT (l := ql) (by omega) (by omega)
  refine lv_i2l hx hb dX12_setFor_33 rfl ?_
  refine tpk_60 hT y12 (fun g38 hf_o37 => ?_)
  refine tpk_pos (tp_in hG y12 (by decide)) hf_o37 (fun q39 eq39 => ?_)
  refine va_last hx hb hK hP hD hS q39 1 eq39 rfl (vp_in_iff.mpr ⟨by decide, by decide⟩) dX12_setFor_34 (tp_k (.inl (κ 1, 9, .inr (.inl (vp_updL g38 (1 : Int32).toNatClampNeg z36.toInt64)))) hD (tp_in hG y12 (by decide)) eq39 (fun f40 H locs hP hD hS g42 k41 => ?_))
  have hT := hT.up y12 g42 k41 tp_o60
  have hR := hR.up y12 (by decide) k41
  generalize (vp_updL g38 (1 : Int32).toNatClampNeg z36.toInt64) = g43 at g42
  refine lv_aload_n hx hb dX12_setFor_35 rfl (lv_at hl 2 rfl) ?_
  have hf_44 : f40 h0 = .inr (12, [.int o28_x0, .int o28_x1, .ref (ρ h0 2), .ref (ρ h0 3), .ref (ρ h0 4), .ref (ρ h0 5), .ref (ρ h0 6), .int o28_x7, .ref (ρ h0 8), .int o28_x9, .int o28_x10, .int o28_x11, .int o28_x12, .long o28_x13, .int o28_x14, .int o28_x15, .int o28_x16, .int o28_x17, .int o28_x18, .int o28_x19, .int o28_x20, .ref (ρ h0 21), .int o28_x22, .ref (ρ h0 23), .ref (ρ h0 24), .int o28_x25, .ref (ρ h0 26), .ref (ρ h0 27), .int o28_x28, .int o28_x29, .ref (ρ h0 30), .ref (ρ h0 31), .int o28_x32, .long o28_x33, .long o28_x34, .long o28_x35, .int o28_x36, .int o28_x37, .int o28_x38, .ref (ρ h0 39), .ref (ρ h0 40), .ref (ρ h0 41), .ref (ρ h0 42), .ref (ρ h0 43), .ref (ρ h0 44), .ref (ρ h0 45), .ref (ρ h0 46), .int o28_x47, .int o28_x48, .ref (ρ h0 49), .ref (ρ h0 50), .ref (ρ h0 51), .ref (ρ h0 52)]) := (k41 _ (tp_ne ht_h0 y12 (by decide))).trans hf_o28
  refine tpk_pos (tp_in hG ht_h0 (by decide)) hf_44 (fun q45 eq45 => ?_)
  refine va_get (D := (dC, dI)) (ci := 12) (v := .ref (ρ h0 30)) (C := RX12) (T := TX12) (N := 53) hx hb hts hfX12 hown hK hP q45 eq45 rfl 30 (by decide) (hts (.fieldLink RX12 49 "ColdShipsModel" "set" "[J") wa_161) (fun _ h9 => h9) rfl dX12_setFor_36 ?_
  refine lv_iconst (v := 2) hx hb dX12_setFor_39 (by decide) ?_
  refine lv_aload_n hx hb dX12_setFor_40 rfl (lv_at hl 2 rfl) ?_
  refine lv_iload_n hx hb dX12_setFor_41 rfl (lv_at hl 3 rfl) ?_
  have hf_46 : f40 (ρ h0 2) = .inl (κ 0, 12967, .inl g27) := (k41 _ (tp_ne y1 y12 (by decide))).trans hf_o26
  refine pz_calli (va_runV (As := [.int ul]) (rest := [.int 2, .ref (ρ h0 30)]) ⟨hx, hb, hml, hown, hts⟩ (t_X12_billed l dC dI _ κ τ ν ρ L f40 hG hT h0 ul x b ql ht_h0 (by omega) (by omega) (by omega) (by rw [hf_46, mo_i1]; exact hI)) (cwV 1 hts gX12_setFor_X12_billed rfl rfl rfl ⟨rfl, pd_X12_billed⟩ ⟨Nat.le_of_ble_eq_true rfl, Nat.le_of_ble_eq_true rfl⟩) ⟨pz_blind, va_recv hK hP (ci := 12) (q0 := q45) rfl eq45, pz_pre hP hK hD hN⟩ rfl rfl hl.1 rfl (lv_room (Nat.le_of_ble_eq_true rfl)) dX12_setFor_42 ⟨Nat.le_of_ble_eq_true rfl, Nat.le_of_ble_eq_true rfl⟩) (fun r47 hw48 => ?_)
  obtain ⟨hw48r, hw48p⟩ := hw48
  refine lv_i2l hx hb dX12_setFor_45 rfl ?_
  refine tpk_pos (tp_in hG y12 (by decide)) g42 (fun q49 eq49 => ?_)
  refine va_last hx hb hK hP hD hS q49 1 eq49 rfl (vp_in_iff.mpr ⟨by decide, by decide⟩) dX12_setFor_46 (tp_k (.inl (κ 1, 9, .inr (.inl (vp_updL g43 (2 : Int32).toNatClampNeg r47.toInt64)))) hD (tp_in hG y12 (by decide)) eq49 (fun f50 H locs hP hD hS g52 k51 => ?_))
  have hT := hT.up y12 g52 k51 tp_o60
  have hR := hR.up y12 (by decide) k51
  generalize (vp_updL g43 (2 : Int32).toNatClampNeg r47.toInt64) = g53 at g52
  refine lv_aload_n hx hb dX12_setFor_47 rfl (lv_at hl 2 rfl) ?_
  have hf_54 : f50 h0 = .inr (12, [.int o28_x0, .int o28_x1, .ref (ρ h0 2), .ref (ρ h0 3), .ref (ρ h0 4), .ref (ρ h0 5), .ref (ρ h0 6), .int o28_x7, .ref (ρ h0 8), .int o28_x9, .int o28_x10, .int o28_x11, .int o28_x12, .long o28_x13, .int o28_x14, .int o28_x15, .int o28_x16, .int o28_x17, .int o28_x18, .int o28_x19, .int o28_x20, .ref (ρ h0 21), .int o28_x22, .ref (ρ h0 23), .ref (ρ h0 24), .int o28_x25, .ref (ρ h0 26), .ref (ρ h0 27), .int o28_x28, .int o28_x29, .ref (ρ h0 30), .ref (ρ h0 31), .int o28_x32, .long o28_x33, .long o28_x34, .long o28_x35, .int o28_x36, .int o28_x37, .int o28_x38, .ref (ρ h0 39), .ref (ρ h0 40), .ref (ρ h0 41), .ref (ρ h0 42), .ref (ρ h0 43), .ref (ρ h0 44), .ref (ρ h0 45), .ref (ρ h0 46), .int o28_x47, .int o28_x48, .ref (ρ h0 49), .ref (ρ h0 50), .ref (ρ h0 51), .ref (ρ h0 52)]) := (k51 _ (tp_ne ht_h0 y12 (by decide))).trans hf_44
  refine tpk_pos (tp_in hG ht_h0 (by decide)) hf_54 (fun q55 eq55 => ?_)
  refine va_get (D := (dC, dI)) (ci := 12) (v := .ref (ρ h0 30)) (C := RX12) (T := TX12) (N := 53) hx hb hts hfX12 hown hK hP q55 eq55 rfl 30 (by decide) (hts (.fieldLink RX12 49 "ColdShipsModel" "set" "[J") wa_161) (fun _ h9 => h9) rfl dX12_setFor_48 ?_
  refine lv_iconst (v := 3) hx hb dX12_setFor_51 (by decide) ?_
  refine lv_aload_n hx hb dX12_setFor_52 rfl (lv_at hl 2 rfl) ?_
  refine lv_iload_n hx hb dX12_setFor_53 rfl (lv_at hl 3 rfl) ?_
  have hf_56 : f50 (ρ h0 2) = .inl (κ 0, 12967, .inl g27) := (k51 _ (tp_ne y1 y12 (by decide))).trans hf_46
  refine pz_calli (va_runV (As := [.int ul]) (rest := [.int 3, .ref (ρ h0 30)]) ⟨hx, hb, hml, hown, hts⟩ (t_X12_heatOf l dC dI _ κ τ ν ρ L f50 hG hT h0 ul x b ql ht_h0 (by omega) (by omega) (by omega) (by rw [hf_56, mo_i1]; exact hI) (by first | (simp only [hf_56, hf_o26, mo_i1]; omega) | (simp only [hf_56, hf_o26, mo_i1]; trivial) | (simp only [hf_56, hf_o26, mo_i1]; done) | omega)) (cwV 1 hts gX12_setFor_X12_heatOf rfl rfl rfl ⟨rfl, pd_X12_heatOf⟩ ⟨Nat.le_of_ble_eq_true rfl, Nat.le_of_ble_eq_true rfl⟩) ⟨pz_blind, va_recv hK hP (ci := 12) (q0 := q55) rfl eq55, pz_pre hP hK hD hN⟩ rfl rfl hl.1 rfl (lv_room (Nat.le_of_ble_eq_true rfl)) dX12_setFor_54 ⟨Nat.le_of_ble_eq_true rfl, Nat.le_of_ble_eq_true rfl⟩) (fun r57 hw58 => ?_)
  obtain ⟨hw58r, hw58p⟩ := hw58
  refine lv_i2l hx hb dX12_setFor_57 rfl ?_
  refine tpk_pos (tp_in hG y12 (by decide)) g52 (fun q59 eq59 => ?_)
  refine va_last hx hb hK hP hD hS q59 1 eq59 rfl (vp_in_iff.mpr ⟨by decide, by decide⟩) dX12_setFor_58 (tp_k (.inl (κ 1, 9, .inr (.inl (vp_updL g53 (3 : Int32).toNatClampNeg r57.toInt64)))) hD (tp_in hG y12 (by decide)) eq59 (fun f60 H locs hP hD hS g62 k61 => ?_))
  have hT := hT.up y12 g62 k61 tp_o60
  have hR := hR.up y12 (by decide) k61
  generalize (vp_updL g53 (3 : Int32).toNatClampNeg r57.toInt64) = g63 at g62
  refine lv_aload_n hx hb dX12_setFor_59 rfl (lv_at hl 2 rfl) ?_
  have hf_64 : f60 h0 = .inr (12, [.int o28_x0, .int o28_x1, .ref (ρ h0 2), .ref (ρ h0 3), .ref (ρ h0 4), .ref (ρ h0 5), .ref (ρ h0 6), .int o28_x7, .ref (ρ h0 8), .int o28_x9, .int o28_x10, .int o28_x11, .int o28_x12, .long o28_x13, .int o28_x14, .int o28_x15, .int o28_x16, .int o28_x17, .int o28_x18, .int o28_x19, .int o28_x20, .ref (ρ h0 21), .int o28_x22, .ref (ρ h0 23), .ref (ρ h0 24), .int o28_x25, .ref (ρ h0 26), .ref (ρ h0 27), .int o28_x28, .int o28_x29, .ref (ρ h0 30), .ref (ρ h0 31), .int o28_x32, .long o28_x33, .long o28_x34, .long o28_x35, .int o28_x36, .int o28_x37, .int o28_x38, .ref (ρ h0 39), .ref (ρ h0 40), .ref (ρ h0 41), .ref (ρ h0 42), .ref (ρ h0 43), .ref (ρ h0 44), .ref (ρ h0 45), .ref (ρ h0 46), .int o28_x47, .int o28_x48, .ref (ρ h0 49), .ref (ρ h0 50), .ref (ρ h0 51), .ref (ρ h0 52)]) := (k61 _ (tp_ne ht_h0 y12 (by decide))).trans hf_54
  refine tpk_pos (tp_in hG ht_h0 (by decide)) hf_64 (fun q65 eq65 => ?_)
  refine va_get (D := (dC, dI)) (ci := 12) (v := .ref (ρ h0 30)) (C := RX12) (T := TX12) (N := 53) hx hb hts hfX12 hown hK hP q65 eq65 rfl 30 (by decide) (hts (.fieldLink RX12 49 "ColdShipsModel" "set" "[J") wa_161) (fun _ h9 => h9) rfl dX12_setFor_60 ?_
  refine lv_iconst (v := 4) hx hb dX12_setFor_63 (by decide) ?_
  refine lv_lconst (v := 0) hx hb dX12_setFor_64 (by decide) ?_
  refine tpk_pos (tp_in hG y12 (by decide)) g62 (fun q66 eq66 => ?_)
  refine va_last hx hb hK hP hD hS q66 1 eq66 rfl (vp_in_iff.mpr ⟨by decide, by decide⟩) dX12_setFor_65 (tp_k (.inl (κ 1, 9, .inr (.inl (vp_updL g63 (4 : Int32).toNatClampNeg (0 : Int64))))) hD (tp_in hG y12 (by decide)) eq66 (fun f67 H locs hP hD hS g69 k68 => ?_))
  have hT := hT.up y12 g69 k68 tp_o60
  have hR := hR.up y12 (by decide) k68
  generalize (vp_updL g63 (4 : Int32).toNatClampNeg (0 : Int64)) = g70 at g69
  refine lv_aload_n hx hb dX12_setFor_66 rfl (lv_at hl 2 rfl) ?_
  have hf_71 : f67 h0 = .inr (12, [.int o28_x0, .int o28_x1, .ref (ρ h0 2), .ref (ρ h0 3), .ref (ρ h0 4), .ref (ρ h0 5), .ref (ρ h0 6), .int o28_x7, .ref (ρ h0 8), .int o28_x9, .int o28_x10, .int o28_x11, .int o28_x12, .long o28_x13, .int o28_x14, .int o28_x15, .int o28_x16, .int o28_x17, .int o28_x18, .int o28_x19, .int o28_x20, .ref (ρ h0 21), .int o28_x22, .ref (ρ h0 23), .ref (ρ h0 24), .int o28_x25, .ref (ρ h0 26), .ref (ρ h0 27), .int o28_x28, .int o28_x29, .ref (ρ h0 30), .ref (ρ h0 31), .int o28_x32, .long o28_x33, .long o28_x34, .long o28_x35, .int o28_x36, .int o28_x37, .int o28_x38, .ref (ρ h0 39), .ref (ρ h0 40), .ref (ρ h0 41), .ref (ρ h0 42), .ref (ρ h0 43), .ref (ρ h0 44), .ref (ρ h0 45), .ref (ρ h0 46), .int o28_x47, .int o28_x48, .ref (ρ h0 49), .ref (ρ h0 50), .ref (ρ h0 51), .ref (ρ h0 52)]) := (k68 _ (tp_ne ht_h0 y12 (by decide))).trans hf_64
  refine tpk_pos (tp_in hG ht_h0 (by decide)) hf_71 (fun q72 eq72 => ?_)
  refine va_get (D := (dC, dI)) (ci := 12) (v := .ref (ρ h0 2)) (C := RX12) (T := TX12) (N := 53) hx hb hts hfX12 hown hK hP q72 eq72 rfl 2 (by decide) (hts (.fieldLink RX12 7 "ColdShipsModel" "row" "[I") wa_148) (fun _ h9 => h9) rfl dX12_setFor_67 ?_
  refine lv_iload_n hx hb dX12_setFor_70 rfl (lv_at hl 4 rfl) ?_
  refine lv_iconst (v := 1) hx hb dX12_setFor_71 (by decide) ?_
  refine lv_iadd hx hb dX12_setFor_72 ?_
  refine lv_topi (fun z73 ez73 => ?_)
  have iz73 : z73.toInt = uc.toInt + 1 := zi_add ez73 rfl rfl (by omega) (by omega)
  have hf_74 : f60 (ρ h0 2) = .inl (κ 0, 12967, .inl g27) := (k61 _ (tp_ne y1 y12 (by decide))).trans hf_56
  have hf_75 : f67 (ρ h0 2) = .inl (κ 0, 12967, .inl g27) := (k68 _ (tp_ne y1 y12 (by decide))).trans hf_74
  refine tpk_pos (tp_in hG y1 (by decide)) hf_75 (fun q76 eq76 => ?_)
  refine va_iald hx hb hK hP q76 0 eq76 rfl (vp_in_iff.mpr ⟨by omega, by omega⟩) dX12_setFor_73 ?_
  refine lv_topi (fun z77 ez77 => ?_)
  refine lv_iconst (v := 1) hx hb dX12_setFor_74 (by decide) ?_
  refine lv_iadd hx hb dX12_setFor_75 ?_
  refine lv_topi (fun z78 ez78 => ?_)
  refine lv_istore (lv' := [(6, .int z78), (5, .int z34), (4, .int z32), (0, .ref h0), (1, .int ul), (2, .int uc), (3, .int a)]) hx hb dX12_setFor_76 hl (by decide) rfl (fun ls hl => ?_)
  refine pz_loop (fun n0 H locs ls => ∃ f81 : Nat → va_E, ∃ w79 : Int32, n0 = (2400 - (w79.toInt)).toNat ∧ tp_T (mo_O κ) κ τ ν ρ f81 ∧ tp_F τ [60] f f81 ∧ f81 (ρ h0 2) = .inl (κ 0, 12967, .inl g27) ∧ va_P (dC, dI) vwCl (va_pl L f81) H ∧ va_D A (va_pl L f81) ∧ va_S A s.heap H locs ∧ lv_has ls 7 [(6, .int w79), (5, .int z34), (4, .int z32), (0, .ref h0), (1, .int ul), (2, .int uc), (3, .int a)]) ?_ _ _ _ _ ⟨f67, z78, rfl, hT, hR, hf_75, hP, hD, hS, lv_sub hl [0, 1, 2, 3, 4, 5, 6] rfl⟩
  intro n0 H locs ls hI ih83
  refine Exists.elim hI (fun f81 hE90 => Exists.elim hE90 (fun w79 hE91 => tn_8 hE91 (fun hn84 hT hR hk80k hP hD hS hl => ?_)))
  clear hE91 hE90 hI
  refine lv_iload hx hb dX12_setFor_78 (lv_at hl 0 rfl) ?_
  refine lv_iload hx hb dX12_setFor_80 (lv_at hl 1 rfl) ?_
  refine lv_icmp_gt (tgt := 115) hx hb dX12_setFor_82 (by decide) (fun c85 => ?_) (fun c85 => ?_)
  · have ic85 : w79.toInt > z34.toInt := zi_gt rfl rfl c85
    refine lv_aload_n hx hb dX12_setFor_115 rfl (lv_at hl 3 rfl) ?_
    refine tpk_13 hT ht_h0 (fun o86_x0 o86_x1 o86_x7 o86_x9 o86_x10 o86_x11 o86_x12 o86_x13 o86_x14 o86_x15 o86_x16 o86_x17 o86_x18 o86_x19 o86_x20 o86_x22 o86_x25 o86_x28 o86_x29 o86_x32 o86_x33 o86_x34 o86_x35 o86_x36 o86_x37 o86_x38 o86_x47 o86_x48 hf_o86 ro86_0 ro86_1 ro86_2 ro86_3 ro86_4 ro86_5 ro86_6 ro86_7 ro86_8 ro86_9 ro86_10 ro86_11 ro86_12 ro86_13 => ?_)
    refine tpk_pos (tp_in hG ht_h0 (by decide)) hf_o86 (fun q87 eq87 => ?_)
    refine va_get (D := (dC, dI)) (ci := 12) (v := .ref (ρ h0 30)) (C := RX12) (T := TX12) (N := 53) hx hb hts hfX12 hown hK hP q87 eq87 rfl 30 (by decide) (hts (.fieldLink RX12 49 "ColdShipsModel" "set" "[J") wa_161) (fun _ h9 => h9) rfl dX12_setFor_116 ?_
    refine lv_iconst (v := 5) hx hb dX12_setFor_119 (by decide) ?_
    refine lv_iload hx hb dX12_setFor_120 (lv_at hl 2 rfl) ?_
    refine lv_aload_n hx hb dX12_setFor_122 rfl (lv_at hl 3 rfl) ?_
    refine va_get (D := (dC, dI)) (ci := 12) (v := .ref (ρ h0 2)) (C := RX12) (T := TX12) (N := 53) hx hb hts hfX12 hown hK hP q87 eq87 rfl 2 (by decide) (hts (.fieldLink RX12 7 "ColdShipsModel" "row" "[I") wa_148) (fun _ h9 => h9) rfl dX12_setFor_123 ?_
    refine lv_iload_n hx hb dX12_setFor_126 rfl (lv_at hl 5 rfl) ?_
    refine tpk_pos (tp_in hG y1 (by decide)) hk80k (fun q88 eq88 => ?_)
    refine va_iald hx hb hK hP q88 0 eq88 rfl (vp_in_iff.mpr ⟨by omega, by omega⟩) dX12_setFor_127 ?_
    refine lv_topi (fun z89 ez89 => ?_)
    refine tp_join 145 (fun H locs ls stk => ∃ w90 : Int64, stk = [.long w90, .int 5, .ref (ρ h0 30)] ∧ va_P (dC, dI) vwCl (va_pl L f81) H ∧ va_D A (va_pl L f81) ∧ va_S A s.heap H locs ∧ lv_has ls 7 [(6, .int w79), (5, .int z34), (4, .int z32), (0, .ref h0), (1, .int ul), (2, .int uc), (3, .int a)]) ?_ (fun hj91 => ?_)
    · intro H locs ls stk hI
      refine Exists.elim hI (fun w90 hE90 => tn_5 hE90 (fun e90 hP hD hS hl => ?_))
      clear hE90 hI; subst e90
      refine tpk_60 hT y12 (fun g93 hf_o92 => ?_)
      refine tpk_pos (tp_in hG y12 (by decide)) hf_o92 (fun q94 eq94 => ?_)
      refine va_last hx hb hK hP hD hS q94 1 eq94 rfl (vp_in_iff.mpr ⟨by decide, by decide⟩) dX12_setFor_145 (tp_k (.inl (κ 1, 9, .inr (.inl (vp_updL g93 (5 : Int32).toNatClampNeg w90)))) hD (tp_in hG y12 (by decide)) eq94 (fun f95 H locs hP hD hS g97 k96 => ?_))
      have hT := hT.up y12 g97 k96 tp_o60
      have hR := hR.up y12 (by decide) k96
      generalize (vp_updL g93 (5 : Int32).toNatClampNeg w90) = g98 at g97
      refine lv_aload_n hx hb dX12_setFor_146 rfl (lv_at hl 3 rfl) ?_
      have hf_99 : f95 h0 = .inr (12, [.int o86_x0, .int o86_x1, .ref (ρ h0 2), .ref (ρ h0 3), .ref (ρ h0 4), .ref (ρ h0 5), .ref (ρ h0 6), .int o86_x7, .ref (ρ h0 8), .int o86_x9, .int o86_x10, .int o86_x11, .int o86_x12, .long o86_x13, .int o86_x14, .int o86_x15, .int o86_x16, .int o86_x17, .int o86_x18, .int o86_x19, .int o86_x20, .ref (ρ h0 21), .int o86_x22, .ref (ρ h0 23), .ref (ρ h0 24), .int o86_x25, .ref (ρ h0 26), .ref (ρ h0 27), .int o86_x28, .int o86_x29, .ref (ρ h0 30), .ref (ρ h0 31), .int o86_x32, .long o86_x33, .long o86_x34, .long o86_x35, .int o86_x36, .int o86_x37, .int o86_x38, .ref (ρ h0 39), .ref (ρ h0 40), .ref (ρ h0 41), .ref (ρ h0 42), .ref (ρ h0 43), .ref (ρ h0 44), .ref (ρ h0 45), .ref (ρ h0 46), .int o86_x47, .int o86_x48, .ref (ρ h0 49), .ref (ρ h0 50), .ref (ρ h0 51), .ref (ρ h0 52)]) := (k96 _ (tp_ne ht_h0 y12 (by decide))).trans hf_o86
      refine tpk_pos (tp_in hG ht_h0 (by decide)) hf_99 (fun q100 eq100 => ?_)
      refine va_get (D := (dC, dI)) (ci := 12) (v := .ref (ρ h0 30)) (C := RX12) (T := TX12) (N := 53) hx hb hts hfX12 hown hK hP q100 eq100 rfl 30 (by decide) (hts (.fieldLink RX12 49 "ColdShipsModel" "set" "[J") wa_161) (fun _ h9 => h9) rfl dX12_setFor_147 ?_
      refine lv_bipush (v := 6) hx hb dX12_setFor_150 (by decide) ?_
      refine lv_aload_n hx hb dX12_setFor_152 rfl (lv_at hl 3 rfl) ?_
      refine lv_iload hx hb dX12_setFor_153 (lv_at hl 1 rfl) ?_
      refine lv_bipush (v := 24) hx hb dX12_setFor_155 (by decide) ?_
      refine lv_idiv hx hb dX12_setFor_157 (by decide) ?_
      refine lv_topi (fun z101 ez101 => ?_)
      refine lv_iload_n hx hb dX12_setFor_158 rfl (lv_at hl 6 rfl) ?_
      have hf_102 : f95 (ρ h0 2) = .inl (κ 0, 12967, .inl g27) := (k96 _ (tp_ne y1 y12 (by decide))).trans hk80k
      refine pz_calli (va_runV (As := [.int z101, .int a]) (rest := [.int 6, .ref (ρ h0 30)]) ⟨hx, hb, hml, hown, hts⟩ (t_X12_priceOf l dC dI _ κ τ ν ρ L f95 hG hT h0 z101 a x b ht_h0 (by omega) (by rw [hf_102, mo_i1]; exact hI)) (cwV 2 hts gX12_setFor_X12_priceOf rfl rfl rfl ⟨rfl, pd_X12_priceOf⟩ ⟨Nat.le_of_ble_eq_true rfl, Nat.le_of_ble_eq_true rfl⟩) ⟨pz_blind, va_recv hK hP (ci := 12) (q0 := q100) rfl eq100, pz_pre hP hK hD hN⟩ rfl rfl hl.1 rfl (lv_room (Nat.le_of_ble_eq_true rfl)) dX12_setFor_159 ⟨Nat.le_of_ble_eq_true rfl, Nat.le_of_ble_eq_true rfl⟩) (fun r103 hw104 => ?_)
      obtain ⟨hw104r, hw104p⟩ := hw104
      refine lv_i2l hx hb dX12_setFor_162 rfl ?_
      refine tpk_pos (tp_in hG y12 (by decide)) g97 (fun q105 eq105 => ?_)
      refine va_last hx hb hK hP hD hS q105 1 eq105 rfl (vp_in_iff.mpr ⟨by decide, by decide⟩) dX12_setFor_163 (tp_k (.inl (κ 1, 9, .inr (.inl (vp_updL g98 (6 : Int32).toNatClampNeg r103.toInt64)))) hD (tp_in hG y12 (by decide)) eq105 (fun f106 H locs hP hD hS g108 k107 => ?_))
      have hT := hT.up y12 g108 k107 tp_o60
      have hR := hR.up y12 (by decide) k107
      generalize (vp_updL g98 (6 : Int32).toNatClampNeg r103.toInt64) = g109 at g108
      refine lv_aload_n hx hb dX12_setFor_164 rfl (lv_at hl 3 rfl) ?_
      have hf_110 : f106 h0 = .inr (12, [.int o86_x0, .int o86_x1, .ref (ρ h0 2), .ref (ρ h0 3), .ref (ρ h0 4), .ref (ρ h0 5), .ref (ρ h0 6), .int o86_x7, .ref (ρ h0 8), .int o86_x9, .int o86_x10, .int o86_x11, .int o86_x12, .long o86_x13, .int o86_x14, .int o86_x15, .int o86_x16, .int o86_x17, .int o86_x18, .int o86_x19, .int o86_x20, .ref (ρ h0 21), .int o86_x22, .ref (ρ h0 23), .ref (ρ h0 24), .int o86_x25, .ref (ρ h0 26), .ref (ρ h0 27), .int o86_x28, .int o86_x29, .ref (ρ h0 30), .ref (ρ h0 31), .int o86_x32, .long o86_x33, .long o86_x34, .long o86_x35, .int o86_x36, .int o86_x37, .int o86_x38, .ref (ρ h0 39), .ref (ρ h0 40), .ref (ρ h0 41), .ref (ρ h0 42), .ref (ρ h0 43), .ref (ρ h0 44), .ref (ρ h0 45), .ref (ρ h0 46), .int o86_x47, .int o86_x48, .ref (ρ h0 49), .ref (ρ h0 50), .ref (ρ h0 51), .ref (ρ h0 52)]) := (k107 _ (tp_ne ht_h0 y12 (by decide))).trans hf_99
      refine tpk_pos (tp_in hG ht_h0 (by decide)) hf_110 (fun q111 eq111 => ?_)
      refine va_get (D := (dC, dI)) (ci := 12) (v := .ref (ρ h0 30)) (C := RX12) (T := TX12) (N := 53) hx hb hts hfX12 hown hK hP q111 eq111 rfl 30 (by decide) (hts (.fieldLink RX12 49 "ColdShipsModel" "set" "[J") wa_161) (fun _ h9 => h9) rfl dX12_setFor_165 ?_
      refine lv_bipush (v := 7) hx hb dX12_setFor_168 (by decide) ?_
      refine lv_iload hx hb dX12_setFor_170 (lv_at hl 1 rfl) ?_
      refine lv_iload hx hb dX12_setFor_172 (lv_at hl 2 rfl) ?_
      refine lv_isub hx hb dX12_setFor_174 ?_
      refine lv_topi (fun z112 ez112 => ?_)
      refine lv_i2l hx hb dX12_setFor_175 rfl ?_
      refine lv_lconst (v := 1) hx hb dX12_setFor_176 (by decide) ?_
      refine lv_ladd hx hb dX12_setFor_177 ?_
      refine lv_topl (fun z113 ez113 => ?_)
      have := zi_bd z112
      have iz113 : z113.toInt = z112.toInt + 1 := zl_add ez113 (Int32.toInt_toInt64 z112) rfl (by omega) (by omega)
      refine tpk_pos (tp_in hG y12 (by decide)) g108 (fun q114 eq114 => ?_)
      refine va_last hx hb hK hP hD hS q114 1 eq114 rfl (vp_in_iff.mpr ⟨by decide, by decide⟩) dX12_setFor_178 (tp_k (.inl (κ 1, 9, .inr (.inl (vp_updL g109 (7 : Int32).toNatClampNeg z113)))) hD (tp_in hG y12 (by decide)) eq114 (fun f115 H locs hP hD hS g117 k116 => ?_))
      have hT := hT.up y12 g117 k116 tp_o60
      have hR := hR.up y12 (by decide) k116
      generalize (vp_updL g109 (7 : Int32).toNatClampNeg z113) = g118 at g117
      refine lv_aload_n hx hb dX12_setFor_179 rfl (lv_at hl 3 rfl) ?_
      have hf_119 : f115 h0 = .inr (12, [.int o86_x0, .int o86_x1, .ref (ρ h0 2), .ref (ρ h0 3), .ref (ρ h0 4), .ref (ρ h0 5), .ref (ρ h0 6), .int o86_x7, .ref (ρ h0 8), .int o86_x9, .int o86_x10, .int o86_x11, .int o86_x12, .long o86_x13, .int o86_x14, .int o86_x15, .int o86_x16, .int o86_x17, .int o86_x18, .int o86_x19, .int o86_x20, .ref (ρ h0 21), .int o86_x22, .ref (ρ h0 23), .ref (ρ h0 24), .int o86_x25, .ref (ρ h0 26), .ref (ρ h0 27), .int o86_x28, .int o86_x29, .ref (ρ h0 30), .ref (ρ h0 31), .int o86_x32, .long o86_x33, .long o86_x34, .long o86_x35, .int o86_x36, .int o86_x37, .int o86_x38, .ref (ρ h0 39), .ref (ρ h0 40), .ref (ρ h0 41), .ref (ρ h0 42), .ref (ρ h0 43), .ref (ρ h0 44), .ref (ρ h0 45), .ref (ρ h0 46), .int o86_x47, .int o86_x48, .ref (ρ h0 49), .ref (ρ h0 50), .ref (ρ h0 51), .ref (ρ h0 52)]) := (k116 _ (tp_ne ht_h0 y12 (by decide))).trans hf_110
      refine tpk_pos (tp_in hG ht_h0 (by decide)) hf_119 (fun q120 eq120 => ?_)
      refine va_get (D := (dC, dI)) (ci := 12) (v := .ref (ρ h0 30)) (C := RX12) (T := TX12) (N := 53) hx hb hts hfX12 hown hK hP q120 eq120 rfl 30 (by decide) (hts (.fieldLink RX12 49 "ColdShipsModel" "set" "[J") wa_161) (fun _ h9 => h9) rfl dX12_setFor_180 ?_
      refine lv_bipush (v := 8) hx hb dX12_setFor_183 (by decide) ?_
      refine lv_aload_n hx hb dX12_setFor_185 rfl (lv_at hl 3 rfl) ?_
      refine va_get (D := (dC, dI)) (ci := 12) (v := .ref (ρ h0 2)) (C := RX12) (T := TX12) (N := 53) hx hb hts hfX12 hown hK hP q120 eq120 rfl 2 (by decide) (hts (.fieldLink RX12 7 "ColdShipsModel" "row" "[I") wa_148) (fun _ h9 => h9) rfl dX12_setFor_186 ?_
      refine lv_iload_n hx hb dX12_setFor_189 rfl (lv_at hl 4 rfl) ?_
      refine lv_iconst (v := 1) hx hb dX12_setFor_190 (by decide) ?_
      refine lv_iadd hx hb dX12_setFor_191 ?_
      refine lv_topi (fun z121 ez121 => ?_)
      have iz121 : z121.toInt = ul.toInt + 1 := zi_add ez121 rfl rfl (by omega) (by omega)
      have hf_122 : f106 (ρ h0 2) = .inl (κ 0, 12967, .inl g27) := (k107 _ (tp_ne y1 y12 (by decide))).trans hf_102
      have hf_123 : f115 (ρ h0 2) = .inl (κ 0, 12967, .inl g27) := (k116 _ (tp_ne y1 y12 (by decide))).trans hf_122
      refine tpk_pos (tp_in hG y1 (by decide)) hf_123 (fun q124 eq124 => ?_)
      refine va_iald hx hb hK hP q124 0 eq124 rfl (vp_in_iff.mpr ⟨by omega, by omega⟩) dX12_setFor_192 ?_
      refine lv_topi (fun z125 ez125 => ?_)
      refine lv_aload_n hx hb dX12_setFor_193 rfl (lv_at hl 3 rfl) ?_
      refine va_get (D := (dC, dI)) (ci := 12) (v := .ref (ρ h0 2)) (C := RX12) (T := TX12) (N := 53) hx hb hts hfX12 hown hK hP q120 eq120 rfl 2 (by decide) (hts (.fieldLink RX12 7 "ColdShipsModel" "row" "[I") wa_148) (fun _ h9 => h9) rfl dX12_setFor_194 ?_
      refine lv_iload_n hx hb dX12_setFor_197 rfl (lv_at hl 5 rfl) ?_
      refine lv_iconst (v := 2) hx hb dX12_setFor_198 (by decide) ?_
      refine lv_iadd hx hb dX12_setFor_199 ?_
      refine lv_topi (fun z126 ez126 => ?_)
      have iz126 : z126.toInt = uc.toInt + 2 := zi_add ez126 rfl rfl (by omega) (by omega)
      refine va_iald hx hb hK hP q124 0 eq124 rfl (vp_in_iff.mpr ⟨by omega, by omega⟩) dX12_setFor_200 ?_
      refine lv_topi (fun z127 ez127 => ?_)
      refine lv_icmp_ne (tgt := 208) hx hb dX12_setFor_201 (by decide) (fun c128 => ?_) (fun c128 => ?_)
      · have ic128 : z125.toInt ≠ z127.toInt := zi_ne rfl rfl c128
        refine lv_lconst (v := 1) hx hb dX12_setFor_208 (by decide) ?_
        refine tpk_pos (tp_in hG y12 (by decide)) g117 (fun q129 eq129 => ?_)
        refine va_last hx hb hK hP hD hS q129 1 eq129 rfl (vp_in_iff.mpr ⟨by decide, by decide⟩) dX12_setFor_209 (tp_k (.inl (κ 1, 9, .inr (.inl (vp_updL g118 (8 : Int32).toNatClampNeg (1 : Int64))))) hD (tp_in hG y12 (by decide)) eq129 (fun f130 H locs hP hD hS g132 k131 => ?_))
        have hT := hT.up y12 g132 k131 tp_o60
        have hR := hR.up y12 (by decide) k131
        generalize (vp_updL g118 (8 : Int32).toNatClampNeg (1 : Int64)) = g133 at g132
        exact W.vret hx hb hr (fun t ht hW => ⟨⟨f130, rfl, ⟨hT, hR, trivial⟩, by rw [ht]; exact hP, va_K.moved hW.alike hK, hD⟩, hS.F ht⟩) hS.2.2 dX12_setFor_210
      · have ic128 : z125.toInt = z127.toInt := zi_nef rfl rfl c128
        refine lv_lconst (v := 0) hx hb dX12_setFor_204 (by decide) ?_
        refine lv_goto (tgt := 209) hx hb dX12_setFor_205 (by decide) ?_
        refine tpk_pos (tp_in hG y12 (by decide)) g117 (fun q134 eq134 => ?_)
        refine va_last hx hb hK hP hD hS q134 1 eq134 rfl (vp_in_iff.mpr ⟨by decide, by decide⟩) dX12_setFor_209 (tp_k (.inl (κ 1, 9, .inr (.inl (vp_updL g118 (8 : Int32).toNatClampNeg (0 : Int64))))) hD (tp_in hG y12 (by decide)) eq134 (fun f135 H locs hP hD hS g137 k136 => ?_))
        have hT := hT.up y12 g137 k136 tp_o60
        have hR := hR.up y12 (by decide) k136
        generalize (vp_updL g118 (8 : Int32).toNatClampNeg (0 : Int64)) = g138 at g137
        exact W.vret hx hb hr (fun t ht hW => ⟨⟨f135, rfl, ⟨hT, hR, trivial⟩, by rw [ht]; exact hP, va_K.moved hW.alike hK, hD⟩, hS.F ht⟩) hS.2.2 dX12_setFor_210
    · refine lv_icmp_ge (tgt := 144) hx hb dX12_setFor_128 (by decide) (fun c139 => ?_) (fun c139 => ?_)
      · have ic139 : z32.toInt ≥ z89.toInt := zi_ge rfl rfl c139
        refine lv_lconst (v := 0) hx hb dX12_setFor_144 (by decide) ?_
        exact hj91 _ _ _ _ ⟨0, rfl, hP, hD, hS, lv_sub hl [0, 1, 2, 3, 4, 5, 6] rfl⟩
      · have ic139 : z32.toInt < z89.toInt := zi_gef rfl rfl c139
        refine lv_aload_n hx hb dX12_setFor_131 rfl (lv_at hl 3 rfl) ?_
        refine va_get (D := (dC, dI)) (ci := 12) (v := .ref (ρ h0 2)) (C := RX12) (T := TX12) (N := 53) hx hb hts hfX12 hown hK hP q87 eq87 rfl 2 (by decide) (hts (.fieldLink RX12 7 "ColdShipsModel" "row" "[I") wa_148) (fun _ h9 => h9) rfl dX12_setFor_132 ?_
        refine lv_iload_n hx hb dX12_setFor_135 rfl (lv_at hl 5 rfl) ?_
        refine va_iald hx hb hK hP q88 0 eq88 rfl (vp_in_iff.mpr ⟨by omega, by omega⟩) dX12_setFor_136 ?_
        refine lv_topi (fun z140 ez140 => ?_)
        refine lv_iload hx hb dX12_setFor_137 (lv_at hl 2 rfl) ?_
        refine lv_isub hx hb dX12_setFor_139 ?_
        refine lv_topi (fun z141 ez141 => ?_)
        refine lv_i2l hx hb dX12_setFor_140 rfl ?_
        refine lv_goto (tgt := 145) hx hb dX12_setFor_141 (by decide) ?_
        exact hj91 _ _ _ _ ⟨z141.toInt64, rfl, hP, hD, hS, lv_sub hl [0, 1, 2, 3, 4, 5, 6] rfl⟩
  · have ic85 : w79.toInt ≤ z34.toInt := zi_gtf rfl rfl c85
    refine lv_aload_n hx hb dX12_setFor_85 rfl (lv_at hl 3 rfl) ?_
    refine tpk_13 hT ht_h0 (fun o142_x0 o142_x1 o142_x7 o142_x9 o142_x10 o142_x11 o142_x12 o142_x13 o142_x14 o142_x15 o142_x16 o142_x17 o142_x18 o142_x19 o142_x20 o142_x22 o142_x25 o142_x28 o142_x29 o142_x32 o142_x33 o142_x34 o142_x35 o142_x36 o142_x37 o142_x38 o142_x47 o142_x48 hf_o142 ro142_0 ro142_1 ro142_2 ro142_3 ro142_4 ro142_5 ro142_6 ro142_7 ro142_8 ro142_9 ro142_10 ro142_11 ro142_12 ro142_13 => ?_)
    refine tpk_pos (tp_in hG ht_h0 (by decide)) hf_o142 (fun q143 eq143 => ?_)
    refine va_get (D := (dC, dI)) (ci := 12) (v := .ref (ρ h0 30)) (C := RX12) (T := TX12) (N := 53) hx hb hts hfX12 hown hK hP q143 eq143 rfl 30 (by decide) (hts (.fieldLink RX12 49 "ColdShipsModel" "set" "[J") wa_161) (fun _ h9 => h9) rfl dX12_setFor_86 ?_
    refine lv_iconst (v := 4) hx hb dX12_setFor_89 (by decide) ?_
    refine lv_dup2_11 hx hb dX12_setFor_90 rfl rfl ?_
    refine tpk_60 hT y12 (fun g145 hf_o144 => ?_)
    refine tpk_pos (tp_in hG y12 (by decide)) hf_o144 (fun q146 eq146 => ?_)
    refine va_lald hx hb hK hP q146 1 eq146 rfl (vp_in_iff.mpr ⟨by decide, by decide⟩) dX12_setFor_91 ?_
    refine lv_topl (fun z147 ez147 => ?_)
    refine lv_aload_n hx hb dX12_setFor_92 rfl (lv_at hl 3 rfl) ?_
    refine lv_iload hx hb dX12_setFor_93 (lv_at hl 0 rfl) ?_
    refine lv_iload_n hx hb dX12_setFor_95 rfl (lv_at hl 6 rfl) ?_
    refine pz_calli (va_runV (As := [.int w79, .int a]) (rest := [.long z147, .int 4, .ref (ρ h0 30)]) ⟨hx, hb, hml, hown, hts⟩ (t_X12_isForce l dC dI _ κ τ ν ρ L f81 hG hT h0 w79 a x b ht_h0 (by omega) (by rw [hk80k, mo_i1]; exact hI)) (cwV 2 hts gX12_setFor_X12_isForce rfl rfl rfl ⟨rfl, pd_X12_isForce⟩ ⟨Nat.le_of_ble_eq_true rfl, Nat.le_of_ble_eq_true rfl⟩) ⟨pz_blind, va_recv hK hP (ci := 12) (q0 := q143) rfl eq143, pz_pre hP hK hD hN⟩ rfl rfl hl.1 rfl (lv_room (Nat.le_of_ble_eq_true rfl)) dX12_setFor_96 ⟨Nat.le_of_ble_eq_true rfl, Nat.le_of_ble_eq_true rfl⟩) (fun r148 hw149 => ?_)
    obtain ⟨hw149r, hw149p⟩ := hw149
    refine lv_if_eq (tgt := 106) hx hb dX12_setFor_99 (by decide) (fun c150 => ?_) (fun c150 => ?_)
    · have ic150 : r148.toInt = 0 := zi_eq rfl rfl c150
      refine lv_lconst (v := 1) hx hb dX12_setFor_106 (by decide) ?_
      refine lv_ladd hx hb dX12_setFor_107 ?_
      refine lv_topl (fun z151 ez151 => ?_)
      refine va_last hx hb hK hP hD hS q146 1 eq146 rfl (vp_in_iff.mpr ⟨by decide, by decide⟩) dX12_setFor_108 (tp_k (.inl (κ 1, 9, .inr (.inl (vp_updL g145 (4 : Int32).toNatClampNeg z151)))) hD (tp_in hG y12 (by decide)) eq146 (fun f152 H locs hP hD hS g154 k153 => ?_))
      have hT := hT.up y12 g154 k153 tp_o60
      have hR := hR.up y12 (by decide) k153
      generalize (vp_updL g145 (4 : Int32).toNatClampNeg z151) = g155 at g154
      obtain ⟨z156, ez156⟩ : ∃ y : Int32, y = w79 + 1 := ⟨_, rfl⟩
      refine lv_iinc (v := z156) (lv' := [(6, .int z156), (5, .int z34), (4, .int z32), (0, .ref h0), (1, .int ul), (2, .int uc), (3, .int a)]) hx hb dX12_setFor_109 hl (k := 0) rfl (by rw [ez156]; rfl) (by decide) rfl (fun ls hl => ?_)
      have := zi_bd w79
      have iz156 : z156.toInt = w79.toInt + 1 := zi_add ez156 rfl rfl (by omega) (by omega)
      refine lv_goto (tgt := 78) hx hb dX12_setFor_112 (by decide) ?_
      have hf_157 : f152 (ρ h0 2) = .inl (κ 0, 12967, .inl g27) := (k153 _ (tp_ne y1 y12 (by decide))).trans hk80k
      exact ih83 _ _ _ _ (by rw [hn84]; omega) ⟨f152, z156, rfl, hT, hR, hf_157, hP, hD, hS, lv_sub hl [0, 1, 2, 3, 4, 5, 6] rfl⟩
    · have ic150 : r148.toInt ≠ 0 := zi_eqf rfl rfl c150
      replace ic150 : 1 ≤ r148.toInt := by omega
      refine lv_lconst (v := 0) hx hb dX12_setFor_102 (by decide) ?_
      refine lv_goto (tgt := 107) hx hb dX12_setFor_103 (by decide) ?_
      refine lv_ladd hx hb dX12_setFor_107 ?_
      refine lv_topl (fun z158 ez158 => ?_)
      have := zl_bd z147
      have iz158 : z158.toInt = z147.toInt + 0 := zl_add ez158 rfl rfl (by omega) (by omega)
      refine va_last hx hb hK hP hD hS q146 1 eq146 rfl (vp_in_iff.mpr ⟨by decide, by decide⟩) dX12_setFor_108 (tp_k (.inl (κ 1, 9, .inr (.inl (vp_updL g145 (4 : Int32).toNatClampNeg z158)))) hD (tp_in hG y12 (by decide)) eq146 (fun f159 H locs hP hD hS g161 k160 => ?_))
      have hT := hT.up y12 g161 k160 tp_o60
      have hR := hR.up y12 (by decide) k160
      generalize (vp_updL g145 (4 : Int32).toNatClampNeg z158) = g162 at g161
      obtain ⟨z163, ez163⟩ : ∃ y : Int32, y = w79 + 1 := ⟨_, rfl⟩
      refine lv_iinc (v := z163) (lv' := [(6, .int z163), (5, .int z34), (4, .int z32), (0, .ref h0), (1, .int ul), (2, .int uc), (3, .int a)]) hx hb dX12_setFor_109 hl (k := 0) rfl (by rw [ez163]; rfl) (by decide) rfl (fun ls hl => ?_)
      have := zi_bd w79
      have iz163 : z163.toInt = w79.toInt + 1 := zi_add ez163 rfl rfl (by omega) (by omega)
      refine lv_goto (tgt := 78) hx hb dX12_setFor_112 (by decide) ?_
      have hf_164 : f159 (ρ h0 2) = .inl (κ 0, 12967, .inl g27) := (k160 _ (tp_ne y1 y12 (by decide))).trans hk80k
      exact ih83 _ _ _ _ (by rw [hn84]; omega) ⟨f159, z163, rfl, hT, hR, hf_164, hP, hD, hS, lv_sub hl [0, 1, 2, 3, 4, 5, 6] rfl⟩
set_option maxHeartbeats 4000000 in
set_option maxRecDepth 100000 in
theorem t_X12_due (l : Launch) (dC : Nat → ClassId) (dI : Nat → Nat → Nat) (sz : Nat) (κ : Nat → ClassId) (τ ν : Nat → Nat) (ρ : Nat → Nat → Nat) (L : List Nat) (f : Nat → va_E) (hG : tp_G τ ν ρ L) (hT : tp_T (mo_O κ) κ τ ν ρ f) (h0 : Nat) (v : Int32) (u : Int32) (a : Int32) (a4 : Int32) (ht_h0 : τ h0 = 13) (hJ : mo_RI (-1) 0 (mo_R (mo_i (f (ρ h0 2))))) : Met l yX12_due wqX12_due ({ frames := 6, cells := 0, slots := 0, locals := 2000 }) (va_Pc [.ref h0, .int v, .int u, .int a, .int a4] (pz_B dC dI (tp_K κ) (va_pl L f) sz)) (va_Ql (fun (r : Int64) (f1 : Nat → va_E) => tp_T (mo_O κ) κ τ ν ρ f1 ∧ tp_F τ [13, 60, 61] f f1 ∧ True ∧ True) (fun (f1 : Nat → va_E) (t : State) => pz_E dC dI (tp_K κ) (va_A (va_pl L f) sz) (va_pl L f1) t) (va_A (va_pl L f) sz)) 0 0 (va_A (va_pl L f) sz) := by
  refine Met.ofW (cc := cX12_due) (maxL := 7) (ret := some .long) (by decide) rfl ?_
  intro p e s m args below meth c s₁ B hml hv
  obtain ⟨rfl, hsz, hP, hK, hD0, hN⟩ := hv
  have hx := B.exec
  have hb := B.bytes
  have hr := B.returns
  have hts := fun (w : Cond) (h : w ∈ WALL) => atoms_spec (ws := wqX12_due) B.pre w (List.mem_cons_of_mem _ h)
  have hown : s.vm.findClass RX12 = some m.cls := findClass_of_methodNamed B.named
  have hlocks := B.notSynchronized
  subst hsz
  have hD := hD0.self (sz := s.heap.size)
  generalize hAe : va_A (va_pl L f) s.heap.size = A at hD ⊢
  have hA : ∀ q : Nat, s.heap.size ≤ q → A q := fun q h => by rw [← hAe]; exact Or.inr h
  have hS : va_S A s.heap s.heap [] := va_S.rf
  have hR : tp_F τ [13, 60, 61] f f := tp_F.rf
  have hl := lv_entry ([.ref h0, .int v, .int u, .int a, .int a4]) (n := 7) (Nat.le_of_ble_eq_true rfl)
  rw [lg_entry_eq]
  generalize (lg_sl ([.ref h0, .int v, .int u, .int a, .int a4]) ++ List.replicate (7 - (lg_sl ([.ref h0, .int v, .int u, .int a, .int a4])).length) Slot.unset).toArray = ls at hl ⊢
  have hl : lv_has ls 7 [(0, .ref h0), (1, .int v), (2, .int u), (3, .int a), (4, .int a4)] := hl
  refine tgk_13 hG ht_h0 (fun y1 y2 y3 y4 y5 y6 y7 y8 y9 y10 y11 y12 y13 y14 y15 y16 y17 y18 y19 y20 y21 y22 y23 y24 y25 => ?_)
  refine tpk_32 hT y1 (fun g27 hf_o26 => ?_)
  have hI : mo_RI (-1) 0 (mo_R g27) := by have q9 := hJ; rw [hf_o26, mo_i1] at q9; exact q9
  refine lv_aload_n hx hb dX12_due_0 rfl (lv_at hl 0 rfl) ?_
  refine lv_iconst (v := 0) hx hb dX12_due_1 (by decide) ?_
  refine tpk_13 hT ht_h0 (fun o28_x0 o28_x1 o28_x7 o28_x9 o28_x10 o28_x11 o28_x12 o28_x13 o28_x14 o28_x15 o28_x16 o28_x17 o28_x18 o28_x19 o28_x20 o28_x22 o28_x25 o28_x28 o28_x29 o28_x32 o28_x33 o28_x34 o28_x35 o28_x36 o28_x37 o28_x38 o28_x47 o28_x48 hf_o28 ro28_0 ro28_1 ro28_2 ro28_3 ro28_4 ro28_5 ro28_6 ro28_7 ro28_8 ro28_9 ro28_10 ro28_11 ro28_12 ro28_13 => ?_)
  refine tpk_pos (tp_in hG ht_h0 (by decide)) hf_o28 (fun q29 eq29 => ?_)
  refine va_put (D := (dC, dI)) (ci := 12) (v := .int 0) (ty := .int) (C := RX12) (T := TX12) (N := 53) hx hb hts hfX12 tyX12 tyX12_ok nmX12 hown hK hP hD hS q29 eq29 rfl 0 (by decide) (hts (.fieldLink RX12 91 "ColdShipsModel" "thrown" "I") wa_209) (fun _ h9 => h9) rfl (tyX12_ok 0 (by decide)) rfl rfl (Nat.le_of_ble_eq_true rfl) dX12_due_2 (tp_k (.inr (12, [.int 0, .int o28_x1, .ref (ρ h0 2), .ref (ρ h0 3), .ref (ρ h0 4), .ref (ρ h0 5), .ref (ρ h0 6), .int o28_x7, .ref (ρ h0 8), .int o28_x9, .int o28_x10, .int o28_x11, .int o28_x12, .long o28_x13, .int o28_x14, .int o28_x15, .int o28_x16, .int o28_x17, .int o28_x18, .int o28_x19, .int o28_x20, .ref (ρ h0 21), .int o28_x22, .ref (ρ h0 23), .ref (ρ h0 24), .int o28_x25, .ref (ρ h0 26), .ref (ρ h0 27), .int o28_x28, .int o28_x29, .ref (ρ h0 30), .ref (ρ h0 31), .int o28_x32, .long o28_x33, .long o28_x34, .long o28_x35, .int o28_x36, .int o28_x37, .int o28_x38, .ref (ρ h0 39), .ref (ρ h0 40), .ref (ρ h0 41), .ref (ρ h0 42), .ref (ρ h0 43), .ref (ρ h0 44), .ref (ρ h0 45), .ref (ρ h0 46), .int o28_x47, .int o28_x48, .ref (ρ h0 49), .ref (ρ h0 50), .ref (ρ h0 51), .ref (ρ h0 52)])) hD (tp_in hG ht_h0 (by decide)) eq29 (fun f30 H locs hP hD hS g32 k31 => ?_))
  have hT := hT.up ht_h0 g32 k31 ⟨_, _, _, _, _, _, _, _, _, _, _, _, _, _, _, _, _, _, _, _, _, _, _, _, _, _, _, _, rfl, ro28_0, ro28_1, ro28_2, ro28_3, ro28_4, ro28_5, ro28_6, ro28_7, ro28_8, ro28_9, ro28_10, ro28_11, ro28_12, ro28_13⟩
  have hR := hR.up ht_h0 (by decide) k31
  refine lv_aload_n hx hb dX12_due_5 rfl (lv_at hl 0 rfl) ?_
  refine lv_iload_n hx hb dX12_due_6 rfl (lv_at hl 1 rfl) ?_
  have hf_33 : f30 (ρ h0 2) = .inl (κ 0, 12967, .inl g27) := (k31 _ (tp_ne y1 ht_h0 (by decide))).trans hf_o26
  refine tpk_pos (tp_in hG ht_h0 (by decide)) g32 (fun q34 eq34 => ?_)
  refine pz_calli (va_runV (As := [.int v]) (rest := []) ⟨hx, hb, hml, hown, hts⟩ (t_X12_isLanding l dC dI _ κ τ ν ρ L f30 hG hT h0 v (-1) 0 ht_h0 (by omega) (by rw [hf_33, mo_i1]; exact hI)) (cwV 1 hts gX12_due_X12_isLanding rfl rfl rfl ⟨rfl, pd_X12_isLanding⟩ ⟨Nat.le_of_ble_eq_true rfl, Nat.le_of_ble_eq_true rfl⟩) ⟨pz_blind, va_recv hK hP (ci := 12) (q0 := q34) rfl eq34, pz_pre hP hK hD hN⟩ rfl rfl hl.1 rfl (lv_room (Nat.le_of_ble_eq_true rfl)) dX12_due_7 ⟨Nat.le_of_ble_eq_true rfl, Nat.le_of_ble_eq_true rfl⟩) (fun r35 hw36 => ?_)
  obtain ⟨hw36r, hw36p⟩ := hw36
  have := hI.k5
  rw [hf_33, mo_i1] at hw36p
  refine lv_if_eq (tgt := 41) hx hb dX12_due_10 (by decide) (fun c37 => ?_) (fun c37 => ?_)
  · have ic37 : r35.toInt = 0 := zi_eq rfl rfl c37
    refine lv_ldc2 (own := RX12) (v := (-2000000000000000)) hx hb hown (hts (.constantLong RX12 466 (-2000000000000000)) wa_1189) dX12_due_41 ?_
    exact W.lret (v := (-2000000000000000)) hx hb hr (fun t ht hW => ⟨⟨(-2000000000000000), f30, rfl, ⟨hT, hR, trivial, trivial⟩, by rw [ht]; exact hP, va_K.moved hW.alike hK, hD⟩, hS.F ht⟩) hS.2.2 dX12_due_44
  · have ic37 : r35.toInt ≠ 0 := zi_eqf rfl rfl c37
    replace ic37 : 1 ≤ r35.toInt := by omega
    have p38 : 0 ≤ v.toInt ∧ v.toInt < mo_R g27 5 := (tp_cond.yes hw36p) (by omega)
    refine lv_aload_n hx hb dX12_due_13 rfl (lv_at hl 0 rfl) ?_
    refine lv_iload_n hx hb dX12_due_14 rfl (lv_at hl 2 rfl) ?_
    refine pz_calli (va_runV (As := [.int u]) (rest := []) ⟨hx, hb, hml, hown, hts⟩ (t_X12_isContract l dC dI _ κ τ ν ρ L f30 hG hT h0 u (-1) 0 ht_h0 (by omega) (by rw [hf_33, mo_i1]; exact hI)) (cwV 1 hts gX12_due_X12_isContract rfl rfl rfl ⟨rfl, pd_X12_isContract⟩ ⟨Nat.le_of_ble_eq_true rfl, Nat.le_of_ble_eq_true rfl⟩) ⟨pz_blind, va_recv hK hP (ci := 12) (q0 := q34) rfl eq34, pz_pre hP hK hD hN⟩ rfl rfl hl.1 rfl (lv_room (Nat.le_of_ble_eq_true rfl)) dX12_due_15 ⟨Nat.le_of_ble_eq_true rfl, Nat.le_of_ble_eq_true rfl⟩) (fun r39 hw40 => ?_)
    obtain ⟨hw40r, hw40p⟩ := hw40
    have := hI.k8
    rw [hf_33, mo_i1] at hw40p
    refine lv_if_eq (tgt := 41) hx hb dX12_due_18 (by decide) (fun c41 => ?_) (fun c41 => ?_)
    · have ic41 : r39.toInt = 0 := zi_eq rfl rfl c41
      refine lv_ldc2 (own := RX12) (v := (-2000000000000000)) hx hb hown (hts (.constantLong RX12 466 (-2000000000000000)) wa_1189) dX12_due_41 ?_
      exact W.lret (v := (-2000000000000000)) hx hb hr (fun t ht hW => ⟨⟨(-2000000000000000), f30, rfl, ⟨hT, hR, trivial, trivial⟩, by rw [ht]; exact hP, va_K.moved hW.alike hK, hD⟩, hS.F ht⟩) hS.2.2 dX12_due_44
    · have ic41 : r39.toInt ≠ 0 := zi_eqf rfl rfl c41
      replace ic41 : 1 ≤ r39.toInt := by omega
      have p42 : 0 ≤ u.toInt ∧ u.toInt < mo_R g27 8 := (tp_cond.yes hw40p) (by omega)
      refine lv_iload_n hx hb dX12_due_21 rfl (lv_at hl 3 rfl) ?_
      refine pz_calli (va_runS (As := [.int a]) (rest := []) ⟨hx, hb, hml, hown, hts⟩ (t_X12_isHour l dC dI _ a (a.toInt) rfl) (va_cwS 1 hts gX12_due_X12_isHour rfl rfl rfl pd_X12_isHour ⟨Nat.le_of_ble_eq_true rfl, Nat.le_of_ble_eq_true rfl⟩) ⟨pz_blind, pz_pre pz_P0 (hK.sub (tys' := []) [] rfl) (pz_D0 (A := fun _ => True)) hN⟩ rfl rfl hl.1 rfl (lv_room (Nat.le_of_ble_eq_true rfl)) dX12_due_22 ⟨Nat.le_of_ble_eq_true rfl, Nat.le_of_ble_eq_true rfl⟩) (fun r43 hw44 => ?_)
      obtain ⟨hw44r, hw44p⟩ := hw44
      refine lv_if_eq (tgt := 41) hx hb dX12_due_25 (by decide) (fun c45 => ?_) (fun c45 => ?_)
      · have ic45 : r43.toInt = 0 := zi_eq rfl rfl c45
        refine lv_ldc2 (own := RX12) (v := (-2000000000000000)) hx hb hown (hts (.constantLong RX12 466 (-2000000000000000)) wa_1189) dX12_due_41 ?_
        exact W.lret (v := (-2000000000000000)) hx hb hr (fun t ht hW => ⟨⟨(-2000000000000000), f30, rfl, ⟨hT, hR, trivial, trivial⟩, by rw [ht]; exact hP, va_K.moved hW.alike hK, hD⟩, hS.F ht⟩) hS.2.2 dX12_due_44
      · have ic45 : r43.toInt ≠ 0 := zi_eqf rfl rfl c45
        replace ic45 : 1 ≤ r43.toInt := by omega
        have p46 : 0 ≤ (a.toInt) ∧ (a.toInt) ≤ 2399 := (tp_cond.yes hw44p) (by omega)
        refine lv_iload hx hb dX12_due_28 (lv_at hl 4 rfl) ?_
        refine lv_i2l hx hb dX12_due_30 rfl ?_
        refine lv_lconst (v := 0) hx hb dX12_due_31 (by decide) ?_
        refine lv_ldc2 (own := RX12) (v := 4) hx hb hown (hts (.constantLong RX12 464 (4)) wa_1188) dX12_due_32 ?_
        refine pz_calli (va_runS (As := [.long a4.toInt64, .long 0, .long 4]) (rest := []) ⟨hx, hb, hml, hown, hts⟩ (t_X12_in l dC dI _ a4.toInt64 (0) (4) (a4.toInt) (0) (4) (Int32.toInt_toInt64 a4) rfl rfl) (va_cwS 3 hts gX12_due_X12_in rfl rfl rfl pd_X12_in ⟨Nat.le_of_ble_eq_true rfl, Nat.le_of_ble_eq_true rfl⟩) ⟨pz_blind, pz_pre pz_P0 (hK.sub (tys' := []) [] rfl) (pz_D0 (A := fun _ => True)) hN⟩ rfl rfl hl.1 rfl (lv_room (Nat.le_of_ble_eq_true rfl)) dX12_due_35 ⟨Nat.le_of_ble_eq_true rfl, Nat.le_of_ble_eq_true rfl⟩) (fun r47 hw48 => ?_)
        obtain ⟨hw48r, hw48p⟩ := hw48
        refine lv_if_ne (tgt := 45) hx hb dX12_due_38 (by decide) (fun c49 => ?_) (fun c49 => ?_)
        · have ic49 : r47.toInt ≠ 0 := zi_ne rfl rfl c49
          replace ic49 : 1 ≤ r47.toInt := by omega
          have p50 : (0) ≤ (a4.toInt) ∧ (a4.toInt) ≤ (4) := (tp_cond.yes hw48p) (by omega)
          refine lv_iload_n hx hb dX12_due_45 rfl (lv_at hl 1 rfl) ?_
          refine pz_calli (va_runS (As := [.int v]) (rest := []) ⟨hx, hb, hml, hown, hts⟩ (t_X12_landingAt l dC dI _ v (v.toInt) (by omega) rfl) (va_cwS 1 hts gX12_due_X12_landingAt rfl rfl rfl pd_X12_landingAt ⟨Nat.le_of_ble_eq_true rfl, Nat.le_of_ble_eq_true rfl⟩) ⟨pz_blind, pz_pre pz_P0 (hK.sub (tys' := []) [] rfl) (pz_D0 (A := fun _ => True)) hN⟩ rfl rfl hl.1 rfl (lv_room (Nat.le_of_ble_eq_true rfl)) dX12_due_46 ⟨Nat.le_of_ble_eq_true rfl, Nat.le_of_ble_eq_true rfl⟩) (fun r51 hw52 => ?_)
          obtain ⟨hw52r, hw52p⟩ := hw52
          refine lv_istore (lv' := [(5, .int r51), (0, .ref h0), (1, .int v), (2, .int u), (3, .int a), (4, .int a4)]) hx hb dX12_due_49 hl (by decide) rfl (fun ls hl => ?_)
          refine lv_iload_n hx hb dX12_due_51 rfl (lv_at hl 3 rfl) ?_
          refine pz_calli (va_runS (As := [.int u]) (rest := []) ⟨hx, hb, hml, hown, hts⟩ (t_X12_contractAt l dC dI _ u (u.toInt) (by omega) rfl) (va_cwS 1 hts gX12_due_X12_contractAt rfl rfl rfl pd_X12_contractAt ⟨Nat.le_of_ble_eq_true rfl, Nat.le_of_ble_eq_true rfl⟩) ⟨pz_blind, pz_pre pz_P0 (hK.sub (tys' := []) [] rfl) (pz_D0 (A := fun _ => True)) hN⟩ rfl rfl hl.1 rfl (lv_room (Nat.le_of_ble_eq_true rfl)) dX12_due_52 ⟨Nat.le_of_ble_eq_true rfl, Nat.le_of_ble_eq_true rfl⟩) (fun r53 hw54 => ?_)
          obtain ⟨hw54r, hw54p⟩ := hw54
          refine lv_istore (lv' := [(6, .int r53), (5, .int r51), (0, .ref h0), (1, .int v), (2, .int u), (3, .int a), (4, .int a4)]) hx hb dX12_due_55 hl (by decide) rfl (fun ls hl => ?_)
          refine lv_aload_n hx hb dX12_due_57 rfl (lv_at hl 2 rfl) ?_
          refine lv_iload hx hb dX12_due_58 (lv_at hl 1 rfl) ?_
          refine lv_iload hx hb dX12_due_60 (lv_at hl 0 rfl) ?_
          refine lv_iload_n hx hb dX12_due_62 rfl (lv_at hl 5 rfl) ?_
          have hFc := tp_fr hD hS hA
          refine va_callv (va_runV (As := [.int r51, .int r53, .int a]) (rest := []) ⟨hx, hb, hml, hown, hts⟩ (t_X12_setFor l dC dI _ κ τ ν ρ L f30 hG hT h0 r51 r53 a (-1) 0 v.toInt u.toInt ht_h0 (by omega) (by omega) (by omega) (by omega) (by omega) (by rw [hf_33, mo_i1]; exact hI) (by first | (simp only [hf_33, hf_o26, mo_i1]; omega) | (simp only [hf_33, hf_o26, mo_i1]; trivial) | (simp only [hf_33, hf_o26, mo_i1]; done) | omega) (by first | (simp only [hf_33, hf_o26, mo_i1]; omega) | (simp only [hf_33, hf_o26, mo_i1]; trivial) | (simp only [hf_33, hf_o26, mo_i1]; done) | omega)) (cwV 3 hts gX12_due_X12_setFor rfl rfl rfl ⟨rfl, pd_X12_setFor⟩ ⟨Nat.le_of_ble_eq_true rfl, Nat.le_of_ble_eq_true rfl⟩) ⟨pz_blind, va_recv hK hP (ci := 12) (q0 := q34) rfl eq34, pz_pre hP hK hD hN⟩ rfl rfl hl.1 rfl (lv_room (Nat.le_of_ble_eq_true rfl)) dX12_due_63 ⟨Nat.le_of_ble_eq_true rfl, Nat.le_of_ble_eq_true rfl⟩) hS (fun q _ h => hFc q h) hFc (fun f57 t H1 locs ht hvm hw56 hB hz1 hk1 hS => ?_)
          refine tn_3 hw56 (fun hT hF58 hw56p => ?_); clear hw56
          have hR := hR.then hF58 (by decide)
          have hP := hB.1; rw [ht] at hP; have hD := tp_ad f57 hD; clear hB hFc hz1 hk1; subst ht; generalize t.heap = H at hP hS ⊢
          refine lv_aload_n hx hb dX12_due_66 rfl (lv_at hl 2 rfl) ?_
          refine lv_iload hx hb dX12_due_67 (lv_at hl 1 rfl) ?_
          refine lv_iload hx hb dX12_due_69 (lv_at hl 0 rfl) ?_
          have hf_59 : f57 (ρ h0 2) = .inl (κ 0, 12967, .inl g27) := (hF58 _ (by rw [y1]; decide)).trans hf_33
          have hf_60 : f57 h0 = .inr (12, [.int 0, .int o28_x1, .ref (ρ h0 2), .ref (ρ h0 3), .ref (ρ h0 4), .ref (ρ h0 5), .ref (ρ h0 6), .int o28_x7, .ref (ρ h0 8), .int o28_x9, .int o28_x10, .int o28_x11, .int o28_x12, .long o28_x13, .int o28_x14, .int o28_x15, .int o28_x16, .int o28_x17, .int o28_x18, .int o28_x19, .int o28_x20, .ref (ρ h0 21), .int o28_x22, .ref (ρ h0 23), .ref (ρ h0 24), .int o28_x25, .ref (ρ h0 26), .ref (ρ h0 27), .int o28_x28, .int o28_x29, .ref (ρ h0 30), .ref (ρ h0 31), .int o28_x32, .long o28_x33, .long o28_x34, .long o28_x35, .int o28_x36, .int o28_x37, .int o28_x38, .ref (ρ h0 39), .ref (ρ h0 40), .ref (ρ h0 41), .ref (ρ h0 42), .ref (ρ h0 43), .ref (ρ h0 44), .ref (ρ h0 45), .ref (ρ h0 46), .int o28_x47, .int o28_x48, .ref (ρ h0 49), .ref (ρ h0 50), .ref (ρ h0 51), .ref (ρ h0 52)]) := (hF58 _ (by rw [ht_h0]; decide)).trans g32
          refine tpk_pos (tp_in hG ht_h0 (by decide)) hf_60 (fun q61 eq61 => ?_)
          have hFc := tp_fr hD hS hA
          refine va_callv (va_runV (As := [.int r51, .int r53]) (rest := []) ⟨hx, hb, hml, hown, hts⟩ (t_X12_judgeLanding l dC dI _ κ τ ν ρ L f57 hG hT h0 r51 r53 (-1) 0 u.toInt ht_h0 (by omega) (by omega) (by omega) (by rw [hf_59, mo_i1]; exact hI) (by first | (simp only [hf_59, hf_o26, mo_i1]; omega) | (simp only [hf_59, hf_o26, mo_i1]; trivial) | (simp only [hf_59, hf_o26, mo_i1]; done) | omega)) (cwV 2 hts gX12_due_X12_judgeLanding rfl rfl rfl ⟨rfl, pd_X12_judgeLanding⟩ ⟨Nat.le_of_ble_eq_true rfl, Nat.le_of_ble_eq_true rfl⟩) ⟨pz_blind, va_recv hK hP (ci := 12) (q0 := q61) rfl eq61, pz_pre hP hK hD hN⟩ rfl rfl hl.1 rfl (lv_room (Nat.le_of_ble_eq_true rfl)) dX12_due_71 ⟨Nat.le_of_ble_eq_true rfl, Nat.le_of_ble_eq_true rfl⟩) hS (fun q _ h => hFc q h) hFc (fun f64 t H1 locs ht hvm hw63 hB hz1 hk1 hS => ?_)
          refine tn_3 hw63 (fun hT hF65 hw63p => ?_); clear hw63
          have hR := hR.then hF65 (by decide)
          have hP := hB.1; rw [ht] at hP; have hD := tp_ad f64 hD; clear hB hFc hz1 hk1; subst ht; generalize t.heap = H at hP hS ⊢
          refine lv_iload hx hb dX12_due_74 (lv_at hl 6 rfl) ?_
          refine lv_if_ne (tgt := 91) hx hb dX12_due_76 (by decide) (fun c66 => ?_) (fun c66 => ?_)
          · have ic66 : a4.toInt ≠ 0 := zi_ne rfl rfl c66
            replace ic66 : 1 ≤ a4.toInt := by omega
            refine lv_iload hx hb dX12_due_91 (lv_at hl 6 rfl) ?_
            refine lv_iconst (v := 1) hx hb dX12_due_93 (by decide) ?_
            refine lv_icmp_ne (tgt := 104) hx hb dX12_due_94 (by decide) (fun c67 => ?_) (fun c67 => ?_)
            · have ic67 : a4.toInt ≠ 1 := zi_ne rfl rfl c67
              replace ic67 : 2 ≤ a4.toInt := by omega
              refine lv_iload hx hb dX12_due_104 (lv_at hl 6 rfl) ?_
              refine lv_iconst (v := 2) hx hb dX12_due_106 (by decide) ?_
              refine lv_icmp_ne (tgt := 117) hx hb dX12_due_107 (by decide) (fun c68 => ?_) (fun c68 => ?_)
              · have ic68 : a4.toInt ≠ 2 := zi_ne rfl rfl c68
                replace ic68 : 3 ≤ a4.toInt := by omega
                refine lv_iload hx hb dX12_due_117 (lv_at hl 6 rfl) ?_
                refine lv_iconst (v := 3) hx hb dX12_due_119 (by decide) ?_
                refine lv_icmp_ne (tgt := 132) hx hb dX12_due_120 (by decide) (fun c69 => ?_) (fun c69 => ?_)
                · have ic69 : a4.toInt ≠ 3 := zi_ne rfl rfl c69
                  replace ic69 : 4 ≤ a4.toInt := by omega
                  refine lv_aload_n hx hb dX12_due_132 rfl (lv_at hl 2 rfl) ?_
                  refine tpk_13 hT ht_h0 (fun o70_x0 o70_x1 o70_x7 o70_x9 o70_x10 o70_x11 o70_x12 o70_x13 o70_x14 o70_x15 o70_x16 o70_x17 o70_x18 o70_x19 o70_x20 o70_x22 o70_x25 o70_x28 o70_x29 o70_x32 o70_x33 o70_x34 o70_x35 o70_x36 o70_x37 o70_x38 o70_x47 o70_x48 hf_o70 ro70_0 ro70_1 ro70_2 ro70_3 ro70_4 ro70_5 ro70_6 ro70_7 ro70_8 ro70_9 ro70_10 ro70_11 ro70_12 ro70_13 => ?_)
                  refine tpk_pos (tp_in hG ht_h0 (by decide)) hf_o70 (fun q71 eq71 => ?_)
                  refine va_get (D := (dC, dI)) (ci := 12) (v := .ref (ρ h0 30)) (C := RX12) (T := TX12) (N := 53) hx hb hts hfX12 hown hK hP q71 eq71 rfl 30 (by decide) (hts (.fieldLink RX12 49 "ColdShipsModel" "set" "[J") wa_161) (fun _ h9 => h9) rfl dX12_due_133 ?_
                  refine lv_bipush (v := 6) hx hb dX12_due_136 (by decide) ?_
                  refine tpk_60 hT y12 (fun g73 hf_o72 => ?_)
                  refine tpk_pos (tp_in hG y12 (by decide)) hf_o72 (fun q74 eq74 => ?_)
                  refine va_lald hx hb hK hP q74 1 eq74 rfl (vp_in_iff.mpr ⟨by decide, by decide⟩) dX12_due_138 ?_
                  refine lv_topl (fun z75 ez75 => ?_)
                  exact W.lret (v := z75) hx hb hr (fun t ht hW => ⟨⟨z75, f64, rfl, ⟨hT, hR, trivial, trivial⟩, by rw [ht]; exact hP, va_K.moved hW.alike hK, hD⟩, hS.F ht⟩) hS.2.2 dX12_due_139
                · have ic69 : a4.toInt = 3 := zi_nef rfl rfl c69
                  refine lv_aload_n hx hb dX12_due_123 rfl (lv_at hl 2 rfl) ?_
                  refine tpk_13 hT ht_h0 (fun o76_x0 o76_x1 o76_x7 o76_x9 o76_x10 o76_x11 o76_x12 o76_x13 o76_x14 o76_x15 o76_x16 o76_x17 o76_x18 o76_x19 o76_x20 o76_x22 o76_x25 o76_x28 o76_x29 o76_x32 o76_x33 o76_x34 o76_x35 o76_x36 o76_x37 o76_x38 o76_x47 o76_x48 hf_o76 ro76_0 ro76_1 ro76_2 ro76_3 ro76_4 ro76_5 ro76_6 ro76_7 ro76_8 ro76_9 ro76_10 ro76_11 ro76_12 ro76_13 => ?_)
                  refine tpk_pos (tp_in hG ht_h0 (by decide)) hf_o76 (fun q77 eq77 => ?_)
                  refine va_get (D := (dC, dI)) (ci := 12) (v := .ref (ρ h0 30)) (C := RX12) (T := TX12) (N := 53) hx hb hts hfX12 hown hK hP q77 eq77 rfl 30 (by decide) (hts (.fieldLink RX12 49 "ColdShipsModel" "set" "[J") wa_161) (fun _ h9 => h9) rfl dX12_due_124 ?_
                  refine lv_iconst (v := 4) hx hb dX12_due_127 (by decide) ?_
                  refine tpk_60 hT y12 (fun g79 hf_o78 => ?_)
                  refine tpk_pos (tp_in hG y12 (by decide)) hf_o78 (fun q80 eq80 => ?_)
                  refine va_lald hx hb hK hP q80 1 eq80 rfl (vp_in_iff.mpr ⟨by decide, by decide⟩) dX12_due_128 ?_
                  refine lv_topl (fun z81 ez81 => ?_)
                  refine lv_goto (tgt := 139) hx hb dX12_due_129 (by decide) ?_
                  exact W.lret (v := z81) hx hb hr (fun t ht hW => ⟨⟨z81, f64, rfl, ⟨hT, hR, trivial, trivial⟩, by rw [ht]; exact hP, va_K.moved hW.alike hK, hD⟩, hS.F ht⟩) hS.2.2 dX12_due_139
              · have ic68 : a4.toInt = 2 := zi_nef rfl rfl c68
                refine lv_aload_n hx hb dX12_due_110 rfl (lv_at hl 2 rfl) ?_
                refine tpk_13 hT ht_h0 (fun o82_x0 o82_x1 o82_x7 o82_x9 o82_x10 o82_x11 o82_x12 o82_x13 o82_x14 o82_x15 o82_x16 o82_x17 o82_x18 o82_x19 o82_x20 o82_x22 o82_x25 o82_x28 o82_x29 o82_x32 o82_x33 o82_x34 o82_x35 o82_x36 o82_x37 o82_x38 o82_x47 o82_x48 hf_o82 ro82_0 ro82_1 ro82_2 ro82_3 ro82_4 ro82_5 ro82_6 ro82_7 ro82_8 ro82_9 ro82_10 ro82_11 ro82_12 ro82_13 => ?_)
                refine tpk_pos (tp_in hG ht_h0 (by decide)) hf_o82 (fun q83 eq83 => ?_)
                refine va_get (D := (dC, dI)) (ci := 12) (v := .long o82_x35) (C := RX12) (T := TX12) (N := 53) hx hb hts hfX12 hown hK hP q83 eq83 rfl 35 (by decide) (hts (.fieldLink RX12 455 "ColdShipsModel" "fines" "J") wa_1191) (fun _ h9 => h9) rfl dX12_due_111 ?_
                refine lv_goto (tgt := 139) hx hb dX12_due_114 (by decide) ?_
                exact W.lret (v := o82_x35) hx hb hr (fun t ht hW => ⟨⟨o82_x35, f64, rfl, ⟨hT, hR, trivial, trivial⟩, by rw [ht]; exact hP, va_K.moved hW.alike hK, hD⟩, hS.F ht⟩) hS.2.2 dX12_due_139
            · have ic67 : a4.toInt = 1 := zi_nef rfl rfl c67
              refine lv_aload_n hx hb dX12_due_97 rfl (lv_at hl 2 rfl) ?_
              refine tpk_13 hT ht_h0 (fun o84_x0 o84_x1 o84_x7 o84_x9 o84_x10 o84_x11 o84_x12 o84_x13 o84_x14 o84_x15 o84_x16 o84_x17 o84_x18 o84_x19 o84_x20 o84_x22 o84_x25 o84_x28 o84_x29 o84_x32 o84_x33 o84_x34 o84_x35 o84_x36 o84_x37 o84_x38 o84_x47 o84_x48 hf_o84 ro84_0 ro84_1 ro84_2 ro84_3 ro84_4 ro84_5 ro84_6 ro84_7 ro84_8 ro84_9 ro84_10 ro84_11 ro84_12 ro84_13 => ?_)
              refine tpk_pos (tp_in hG ht_h0 (by decide)) hf_o84 (fun q85 eq85 => ?_)
              refine va_get (D := (dC, dI)) (ci := 12) (v := .long o84_x34) (C := RX12) (T := TX12) (N := 53) hx hb hts hfX12 hown hK hP q85 eq85 rfl 34 (by decide) (hts (.fieldLink RX12 452 "ColdShipsModel" "pays" "J") wa_1190) (fun _ h9 => h9) rfl dX12_due_98 ?_
              refine lv_goto (tgt := 139) hx hb dX12_due_101 (by decide) ?_
              exact W.lret (v := o84_x34) hx hb hr (fun t ht hW => ⟨⟨o84_x34, f64, rfl, ⟨hT, hR, trivial, trivial⟩, by rw [ht]; exact hP, va_K.moved hW.alike hK, hD⟩, hS.F ht⟩) hS.2.2 dX12_due_139
          · have ic66 : a4.toInt = 0 := zi_nef rfl rfl c66
            refine lv_aload_n hx hb dX12_due_79 rfl (lv_at hl 2 rfl) ?_
            refine tpk_13 hT ht_h0 (fun o86_x0 o86_x1 o86_x7 o86_x9 o86_x10 o86_x11 o86_x12 o86_x13 o86_x14 o86_x15 o86_x16 o86_x17 o86_x18 o86_x19 o86_x20 o86_x22 o86_x25 o86_x28 o86_x29 o86_x32 o86_x33 o86_x34 o86_x35 o86_x36 o86_x37 o86_x38 o86_x47 o86_x48 hf_o86 ro86_0 ro86_1 ro86_2 ro86_3 ro86_4 ro86_5 ro86_6 ro86_7 ro86_8 ro86_9 ro86_10 ro86_11 ro86_12 ro86_13 => ?_)
            refine tpk_pos (tp_in hG ht_h0 (by decide)) hf_o86 (fun q87 eq87 => ?_)
            refine va_get (D := (dC, dI)) (ci := 12) (v := .long o86_x34) (C := RX12) (T := TX12) (N := 53) hx hb hts hfX12 hown hK hP q87 eq87 rfl 34 (by decide) (hts (.fieldLink RX12 452 "ColdShipsModel" "pays" "J") wa_1190) (fun _ h9 => h9) rfl dX12_due_80 ?_
            refine lv_aload_n hx hb dX12_due_83 rfl (lv_at hl 2 rfl) ?_
            refine va_get (D := (dC, dI)) (ci := 12) (v := .long o86_x35) (C := RX12) (T := TX12) (N := 53) hx hb hts hfX12 hown hK hP q87 eq87 rfl 35 (by decide) (hts (.fieldLink RX12 455 "ColdShipsModel" "fines" "J") wa_1191) (fun _ h9 => h9) rfl dX12_due_84 ?_
            refine lv_lsub hx hb dX12_due_87 ?_
            refine lv_topl (fun z88 ez88 => ?_)
            refine lv_goto (tgt := 139) hx hb dX12_due_88 (by decide) ?_
            exact W.lret (v := z88) hx hb hr (fun t ht hW => ⟨⟨z88, f64, rfl, ⟨hT, hR, trivial, trivial⟩, by rw [ht]; exact hP, va_K.moved hW.alike hK, hD⟩, hS.F ht⟩) hS.2.2 dX12_due_139
        · have ic49 : r47.toInt = 0 := zi_nef rfl rfl c49
          refine lv_ldc2 (own := RX12) (v := (-2000000000000000)) hx hb hown (hts (.constantLong RX12 466 (-2000000000000000)) wa_1189) dX12_due_41 ?_
          exact W.lret (v := (-2000000000000000)) hx hb hr (fun t ht hW => ⟨⟨(-2000000000000000), f30, rfl, ⟨hT, hR, trivial, trivial⟩, by rw [ht]; exact hP, va_K.moved hW.alike hK, hD⟩, hS.F ht⟩) hS.2.2 dX12_due_44
set_option maxHeartbeats 4000000 in
set_option maxRecDepth 100000 in
theorem t_X12_settle (l : Launch) (dC : Nat → ClassId) (dI : Nat → Nat → Nat) (sz : Nat) (κ : Nat → ClassId) (τ ν : Nat → Nat) (ρ : Nat → Nat → Nat) (L : List Nat) (f : Nat → va_E) (hG : tp_G τ ν ρ L) (hT : tp_T (mo_O κ) κ τ ν ρ f) (h0 : Nat) (v : Int32) (u : Int32) (ht_h0 : τ h0 = 13) (hJ : mo_RI (-1) 0 (mo_R (mo_i (f (ρ h0 2))))) : Met l yX12_settle wqX12_settle ({ frames := 6, cells := 0, slots := 0, locals := 2000 }) (va_Pc [.ref h0, .int v, .int u] (pz_B dC dI (tp_K κ) (va_pl L f) sz)) (va_Qi (fun (r : Int32) (f1 : Nat → va_E) => tp_T (mo_O κ) κ τ ν ρ f1 ∧ tp_F τ [13, 32, 60, 61] f f1 ∧ True ∧ mo_RI (-1) 0 (mo_R (mo_i (f1 (ρ h0 2))))) (fun (f1 : Nat → va_E) (t : State) => pz_E dC dI (tp_K κ) (va_A (va_pl L f) sz) (va_pl L f1) t) (va_A (va_pl L f) sz)) 0 0 (va_A (va_pl L f) sz) := by
  refine Met.ofW (cc := cX12_settle) (maxL := 6) (ret := some .int) (by decide) rfl ?_
  intro p e s m args below meth c s₁ B hml hv
  obtain ⟨rfl, hsz, hP, hK, hD0, hN⟩ := hv
  have hx := B.exec
  have hb := B.bytes
  have hr := B.returns
  have hts := fun (w : Cond) (h : w ∈ WALL) => atoms_spec (ws := wqX12_settle) B.pre w (List.mem_cons_of_mem _ h)
  have hown : s.vm.findClass RX12 = some m.cls := findClass_of_methodNamed B.named
  have hlocks := B.notSynchronized
  subst hsz
  have hD := hD0.self (sz := s.heap.size)
  generalize hAe : va_A (va_pl L f) s.heap.size = A at hD ⊢
  have hA : ∀ q : Nat, s.heap.size ≤ q → A q := fun q h => by rw [← hAe]; exact Or.inr h
  have hS : va_S A s.heap s.heap [] := va_S.rf
  have hR : tp_F τ [13, 32, 60, 61] f f := tp_F.rf
  have hl := lv_entry ([.ref h0, .int v, .int u]) (n := 6) (Nat.le_of_ble_eq_true rfl)
  rw [lg_entry_eq]
  generalize (lg_sl ([.ref h0, .int v, .int u]) ++ List.replicate (6 - (lg_sl ([.ref h0, .int v, .int u])).length) Slot.unset).toArray = ls at hl ⊢
  have hl : lv_has ls 6 [(0, .ref h0), (1, .int v), (2, .int u)] := hl
  refine tgk_13 hG ht_h0 (fun y1 y2 y3 y4 y5 y6 y7 y8 y9 y10 y11 y12 y13 y14 y15 y16 y17 y18 y19 y20 y21 y22 y23 y24 y25 => ?_)
  refine tpk_32 hT y1 (fun g27 hf_o26 => ?_)
  have hI : mo_RI (-1) 0 (mo_R g27) := by have q9 := hJ; rw [hf_o26, mo_i1] at q9; exact q9
  refine lv_aload_n hx hb dX12_settle_0 rfl (lv_at hl 0 rfl) ?_
  refine lv_iconst (v := 0) hx hb dX12_settle_1 (by decide) ?_
  refine tpk_13 hT ht_h0 (fun o28_x0 o28_x1 o28_x7 o28_x9 o28_x10 o28_x11 o28_x12 o28_x13 o28_x14 o28_x15 o28_x16 o28_x17 o28_x18 o28_x19 o28_x20 o28_x22 o28_x25 o28_x28 o28_x29 o28_x32 o28_x33 o28_x34 o28_x35 o28_x36 o28_x37 o28_x38 o28_x47 o28_x48 hf_o28 ro28_0 ro28_1 ro28_2 ro28_3 ro28_4 ro28_5 ro28_6 ro28_7 ro28_8 ro28_9 ro28_10 ro28_11 ro28_12 ro28_13 => ?_)
  refine tpk_pos (tp_in hG ht_h0 (by decide)) hf_o28 (fun q29 eq29 => ?_)
  refine va_put (D := (dC, dI)) (ci := 12) (v := .int 0) (ty := .int) (C := RX12) (T := TX12) (N := 53) hx hb hts hfX12 tyX12 tyX12_ok nmX12 hown hK hP hD hS q29 eq29 rfl 0 (by decide) (hts (.fieldLink RX12 91 "ColdShipsModel" "thrown" "I") wa_209) (fun _ h9 => h9) rfl (tyX12_ok 0 (by decide)) rfl rfl (Nat.le_of_ble_eq_true rfl) dX12_settle_2 (tp_k (.inr (12, [.int 0, .int o28_x1, .ref (ρ h0 2), .ref (ρ h0 3), .ref (ρ h0 4), .ref (ρ h0 5), .ref (ρ h0 6), .int o28_x7, .ref (ρ h0 8), .int o28_x9, .int o28_x10, .int o28_x11, .int o28_x12, .long o28_x13, .int o28_x14, .int o28_x15, .int o28_x16, .int o28_x17, .int o28_x18, .int o28_x19, .int o28_x20, .ref (ρ h0 21), .int o28_x22, .ref (ρ h0 23), .ref (ρ h0 24), .int o28_x25, .ref (ρ h0 26), .ref (ρ h0 27), .int o28_x28, .int o28_x29, .ref (ρ h0 30), .ref (ρ h0 31), .int o28_x32, .long o28_x33, .long o28_x34, .long o28_x35, .int o28_x36, .int o28_x37, .int o28_x38, .ref (ρ h0 39), .ref (ρ h0 40), .ref (ρ h0 41), .ref (ρ h0 42), .ref (ρ h0 43), .ref (ρ h0 44), .ref (ρ h0 45), .ref (ρ h0 46), .int o28_x47, .int o28_x48, .ref (ρ h0 49), .ref (ρ h0 50), .ref (ρ h0 51), .ref (ρ h0 52)])) hD (tp_in hG ht_h0 (by decide)) eq29 (fun f30 H locs hP hD hS g32 k31 => ?_))
  have hT := hT.up ht_h0 g32 k31 ⟨_, _, _, _, _, _, _, _, _, _, _, _, _, _, _, _, _, _, _, _, _, _, _, _, _, _, _, _, rfl, ro28_0, ro28_1, ro28_2, ro28_3, ro28_4, ro28_5, ro28_6, ro28_7, ro28_8, ro28_9, ro28_10, ro28_11, ro28_12, ro28_13⟩
  have hR := hR.up ht_h0 (by decide) k31
  refine lv_aload_n hx hb dX12_settle_5 rfl (lv_at hl 0 rfl) ?_
  refine lv_iload_n hx hb dX12_settle_6 rfl (lv_at hl 1 rfl) ?_
  have hf_33 : f30 (ρ h0 2) = .inl (κ 0, 12967, .inl g27) := (k31 _ (tp_ne y1 ht_h0 (by decide))).trans hf_o26
  refine tpk_pos (tp_in hG ht_h0 (by decide)) g32 (fun q34 eq34 => ?_)
  refine pz_calli (va_runV (As := [.int v]) (rest := []) ⟨hx, hb, hml, hown, hts⟩ (t_X12_isLanding l dC dI _ κ τ ν ρ L f30 hG hT h0 v (-1) 0 ht_h0 (by omega) (by rw [hf_33, mo_i1]; exact hI)) (cwV 1 hts gX12_settle_X12_isLanding rfl rfl rfl ⟨rfl, pd_X12_isLanding⟩ ⟨Nat.le_of_ble_eq_true rfl, Nat.le_of_ble_eq_true rfl⟩) ⟨pz_blind, va_recv hK hP (ci := 12) (q0 := q34) rfl eq34, pz_pre hP hK hD hN⟩ rfl rfl hl.1 rfl (lv_room (Nat.le_of_ble_eq_true rfl)) dX12_settle_7 ⟨Nat.le_of_ble_eq_true rfl, Nat.le_of_ble_eq_true rfl⟩) (fun r35 hw36 => ?_)
  obtain ⟨hw36r, hw36p⟩ := hw36
  have := hI.k5
  rw [hf_33, mo_i1] at hw36p
  refine lv_if_eq (tgt := 21) hx hb dX12_settle_10 (by decide) (fun c37 => ?_) (fun c37 => ?_)
  · have ic37 : r35.toInt = 0 := zi_eq rfl rfl c37
    refine lv_aload_n hx hb dX12_settle_21 rfl (lv_at hl 0 rfl) ?_
    refine lv_bipush (v := (-2)) hx hb dX12_settle_22 (by decide) ?_
    have hFc := tp_fr hD hS hA
    refine va_calli (va_runV (As := [.int (-2)]) (rest := []) ⟨hx, hb, hml, hown, hts⟩ (t_X12_told l dC dI _ κ τ ν ρ L f30 hG hT h0 ((-2)) ht_h0) (cwV 1 hts gX12_settle_X12_told rfl rfl rfl ⟨rfl, pd_X12_told⟩ ⟨Nat.le_of_ble_eq_true rfl, Nat.le_of_ble_eq_true rfl⟩) ⟨pz_blind, va_recv hK hP (ci := 12) (q0 := q34) rfl eq34, pz_pre hP hK hD hN⟩ rfl rfl hl.1 rfl (lv_room (Nat.le_of_ble_eq_true rfl)) dX12_settle_24 ⟨Nat.le_of_ble_eq_true rfl, Nat.le_of_ble_eq_true rfl⟩) hS (fun q _ h => hFc q h) hFc (fun r38 f40 t H1 locs ht hvm hw39 hB hz1 hk1 hS => ?_)
    refine tn_4 hw39 (fun hT hF41 hw39r hw39p => ?_); clear hw39
    have hR := hR.then hF41 (by decide)
    have hP := hB.1; rw [ht] at hP; have hD := tp_ad f40 hD; clear hB hFc hz1 hk1; subst ht; generalize t.heap = H at hP hS ⊢
    have hw39pq : r38.toInt = (-2) := by rw [hw39p]; rfl
    have hf_42 : f40 (ρ h0 2) = .inl (κ 0, 12967, .inl g27) := (hF41 _ (by rw [y1]; decide)).trans hf_33
    exact W.iret (v := r38) hx hb hr (fun t ht hW => ⟨⟨r38, f40, rfl, ⟨hT, hR, trivial, (by rw [hf_42, mo_i1]; exact hI)⟩, by rw [ht]; exact hP, va_K.moved hW.alike hK, hD⟩, hS.F ht⟩) hS.2.2 dX12_settle_27
  · have ic37 : r35.toInt ≠ 0 := zi_eqf rfl rfl c37
    replace ic37 : 1 ≤ r35.toInt := by omega
    have p43 : 0 ≤ v.toInt ∧ v.toInt < mo_R g27 5 := (tp_cond.yes hw36p) (by omega)
    refine lv_aload_n hx hb dX12_settle_13 rfl (lv_at hl 0 rfl) ?_
    refine lv_iload_n hx hb dX12_settle_14 rfl (lv_at hl 2 rfl) ?_
    refine pz_calli (va_runV (As := [.int u]) (rest := []) ⟨hx, hb, hml, hown, hts⟩ (t_X12_isContract l dC dI _ κ τ ν ρ L f30 hG hT h0 u (-1) 0 ht_h0 (by omega) (by rw [hf_33, mo_i1]; exact hI)) (cwV 1 hts gX12_settle_X12_isContract rfl rfl rfl ⟨rfl, pd_X12_isContract⟩ ⟨Nat.le_of_ble_eq_true rfl, Nat.le_of_ble_eq_true rfl⟩) ⟨pz_blind, va_recv hK hP (ci := 12) (q0 := q34) rfl eq34, pz_pre hP hK hD hN⟩ rfl rfl hl.1 rfl (lv_room (Nat.le_of_ble_eq_true rfl)) dX12_settle_15 ⟨Nat.le_of_ble_eq_true rfl, Nat.le_of_ble_eq_true rfl⟩) (fun r44 hw45 => ?_)
    obtain ⟨hw45r, hw45p⟩ := hw45
    have := hI.k8
    rw [hf_33, mo_i1] at hw45p
    refine lv_if_ne (tgt := 28) hx hb dX12_settle_18 (by decide) (fun c46 => ?_) (fun c46 => ?_)
    · have ic46 : r44.toInt ≠ 0 := zi_ne rfl rfl c46
      replace ic46 : 1 ≤ r44.toInt := by omega
      have p47 : 0 ≤ u.toInt ∧ u.toInt < mo_R g27 8 := (tp_cond.yes hw45p) (by omega)
      refine lv_iload_n hx hb dX12_settle_28 rfl (lv_at hl 1 rfl) ?_
      refine pz_calli (va_runS (As := [.int v]) (rest := []) ⟨hx, hb, hml, hown, hts⟩ (t_X12_landingAt l dC dI _ v (v.toInt) (by omega) rfl) (va_cwS 1 hts gX12_settle_X12_landingAt rfl rfl rfl pd_X12_landingAt ⟨Nat.le_of_ble_eq_true rfl, Nat.le_of_ble_eq_true rfl⟩) ⟨pz_blind, pz_pre pz_P0 (hK.sub (tys' := []) [] rfl) (pz_D0 (A := fun _ => True)) hN⟩ rfl rfl hl.1 rfl (lv_room (Nat.le_of_ble_eq_true rfl)) dX12_settle_29 ⟨Nat.le_of_ble_eq_true rfl, Nat.le_of_ble_eq_true rfl⟩) (fun r48 hw49 => ?_)
      obtain ⟨hw49r, hw49p⟩ := hw49
      refine lv_istore_n (lv' := [(3, .int r48), (0, .ref h0), (1, .int v), (2, .int u)]) hx hb dX12_settle_32 rfl hl (by decide) rfl (fun ls hl => ?_)
      refine lv_aload_n hx hb dX12_settle_33 rfl (lv_at hl 1 rfl) ?_
      refine va_get (D := (dC, dI)) (ci := 12) (v := .ref (ρ h0 2)) (C := RX12) (T := TX12) (N := 53) hx hb hts hfX12 hown hK hP q34 eq34 rfl 2 (by decide) (hts (.fieldLink RX12 7 "ColdShipsModel" "row" "[I") wa_148) (fun _ h9 => h9) rfl dX12_settle_34 ?_
      refine lv_iload_n hx hb dX12_settle_37 rfl (lv_at hl 0 rfl) ?_
      refine lv_bipush (v := 12) hx hb dX12_settle_38 (by decide) ?_
      refine lv_iadd hx hb dX12_settle_40 ?_
      refine lv_topi (fun z50 ez50 => ?_)
      have iz50 : z50.toInt = r48.toInt + 12 := zi_add ez50 rfl rfl (by omega) (by omega)
      refine tpk_pos (tp_in hG y1 (by decide)) hf_33 (fun q51 eq51 => ?_)
      refine va_iald hx hb hK hP q51 0 eq51 rfl (vp_in_iff.mpr ⟨by omega, by omega⟩) dX12_settle_41 ?_
      refine lv_topi (fun z52 ez52 => ?_)
      refine lv_iconst (v := (-1)) hx hb dX12_settle_42 (by decide) ?_
      refine lv_icmp_eq (tgt := 53) hx hb dX12_settle_43 (by decide) (fun c53 => ?_) (fun c53 => ?_)
      · have ic53 : z52.toInt = (-1) := zi_eq rfl rfl c53
        refine lv_aload_n hx hb dX12_settle_53 rfl (lv_at hl 1 rfl) ?_
        refine lv_iload_n hx hb dX12_settle_54 rfl (lv_at hl 0 rfl) ?_
        refine lv_iload_n hx hb dX12_settle_55 rfl (lv_at hl 3 rfl) ?_
        refine pz_calli (va_runS (As := [.int u]) (rest := [.int r48, .ref h0]) ⟨hx, hb, hml, hown, hts⟩ (t_X12_contractAt l dC dI _ u (u.toInt) (by omega) rfl) (va_cwS 1 hts gX12_settle_X12_contractAt rfl rfl rfl pd_X12_contractAt ⟨Nat.le_of_ble_eq_true rfl, Nat.le_of_ble_eq_true rfl⟩) ⟨pz_blind, pz_pre pz_P0 (hK.sub (tys' := []) [] rfl) (pz_D0 (A := fun _ => True)) hN⟩ rfl rfl hl.1 rfl (lv_room (Nat.le_of_ble_eq_true rfl)) dX12_settle_56 ⟨Nat.le_of_ble_eq_true rfl, Nat.le_of_ble_eq_true rfl⟩) (fun r54 hw55 => ?_)
        obtain ⟨hw55r, hw55p⟩ := hw55
        refine lv_aload_n hx hb dX12_settle_59 rfl (lv_at hl 1 rfl) ?_
        refine va_get (D := (dC, dI)) (ci := 12) (v := .ref (ρ h0 2)) (C := RX12) (T := TX12) (N := 53) hx hb hts hfX12 hown hK hP q34 eq34 rfl 2 (by decide) (hts (.fieldLink RX12 7 "ColdShipsModel" "row" "[I") wa_148) (fun _ h9 => h9) rfl dX12_settle_60 ?_
        refine lv_bipush (v := 11) hx hb dX12_settle_63 (by decide) ?_
        refine va_iald hx hb hK hP q51 0 eq51 rfl (vp_in_iff.mpr ⟨by decide, by decide⟩) dX12_settle_65 ?_
        refine lv_topi (fun z56 ez56 => ?_)
        have jz56 : z56.toInt = mo_R g27 (11) := mo_rd ez56 (show (11 : Int32).toInt = (11) from by decide)
        have kz56 := hI.k11
        have hFc := tp_fr hD hS hA
        refine va_callv (va_runV (As := [.int r48, .int r54, .int z56]) (rest := []) ⟨hx, hb, hml, hown, hts⟩ (t_X12_setFor l dC dI _ κ τ ν ρ L f30 hG hT h0 r48 r54 z56 (-1) 0 v.toInt u.toInt ht_h0 (by omega) (by omega) (by omega) (by omega) (by omega) (by rw [hf_33, mo_i1]; exact hI) (by first | (simp only [hf_33, hf_o26, mo_i1]; omega) | (simp only [hf_33, hf_o26, mo_i1]; trivial) | (simp only [hf_33, hf_o26, mo_i1]; done) | omega) (by first | (simp only [hf_33, hf_o26, mo_i1]; omega) | (simp only [hf_33, hf_o26, mo_i1]; trivial) | (simp only [hf_33, hf_o26, mo_i1]; done) | omega)) (cwV 3 hts gX12_settle_X12_setFor rfl rfl rfl ⟨rfl, pd_X12_setFor⟩ ⟨Nat.le_of_ble_eq_true rfl, Nat.le_of_ble_eq_true rfl⟩) ⟨pz_blind, va_recv hK hP (ci := 12) (q0 := q34) rfl eq34, pz_pre hP hK hD hN⟩ rfl rfl hl.1 rfl (lv_room (Nat.le_of_ble_eq_true rfl)) dX12_settle_66 ⟨Nat.le_of_ble_eq_true rfl, Nat.le_of_ble_eq_true rfl⟩) hS (fun q _ h => hFc q h) hFc (fun f59 t H1 locs ht hvm hw58 hB hz1 hk1 hS => ?_)
        refine tn_3 hw58 (fun hT hF60 hw58p => ?_); clear hw58
        have hR := hR.then hF60 (by decide)
        have hP := hB.1; rw [ht] at hP; have hD := tp_ad f59 hD; clear hB hFc hz1 hk1; subst ht; generalize t.heap = H at hP hS ⊢
        refine lv_aload_n hx hb dX12_settle_69 rfl (lv_at hl 1 rfl) ?_
        refine lv_iload_n hx hb dX12_settle_70 rfl (lv_at hl 0 rfl) ?_
        refine lv_iload_n hx hb dX12_settle_71 rfl (lv_at hl 3 rfl) ?_
        have hf_61 : f59 (ρ h0 2) = .inl (κ 0, 12967, .inl g27) := (hF60 _ (by rw [y1]; decide)).trans hf_33
        refine pz_calli (va_runS (As := [.int u]) (rest := [.int r48, .ref h0]) ⟨hx, hb, hml, hown, hts⟩ (t_X12_contractAt l dC dI _ u (u.toInt) (by omega) rfl) (va_cwS 1 hts gX12_settle_X12_contractAt rfl rfl rfl pd_X12_contractAt ⟨Nat.le_of_ble_eq_true rfl, Nat.le_of_ble_eq_true rfl⟩) ⟨pz_blind, pz_pre pz_P0 (hK.sub (tys' := []) [] rfl) (pz_D0 (A := fun _ => True)) hN⟩ rfl rfl hl.1 rfl (lv_room (Nat.le_of_ble_eq_true rfl)) dX12_settle_72 ⟨Nat.le_of_ble_eq_true rfl, Nat.le_of_ble_eq_true rfl⟩) (fun r62 hw63 => ?_)
        obtain ⟨hw63r, hw63p⟩ := hw63
        have hf_64 : f59 h0 = .inr (12, [.int 0, .int o28_x1, .ref (ρ h0 2), .ref (ρ h0 3), .ref (ρ h0 4), .ref (ρ h0 5), .ref (ρ h0 6), .int o28_x7, .ref (ρ h0 8), .int o28_x9, .int o28_x10, .int o28_x11, .int o28_x12, .long o28_x13, .int o28_x14, .int o28_x15, .int o28_x16, .int o28_x17, .int o28_x18, .int o28_x19, .int o28_x20, .ref (ρ h0 21), .int o28_x22, .ref (ρ h0 23), .ref (ρ h0 24), .int o28_x25, .ref (ρ h0 26), .ref (ρ h0 27), .int o28_x28, .int o28_x29, .ref (ρ h0 30), .ref (ρ h0 31), .int o28_x32, .long o28_x33, .long o28_x34, .long o28_x35, .int o28_x36, .int o28_x37, .int o28_x38, .ref (ρ h0 39), .ref (ρ h0 40), .ref (ρ h0 41), .ref (ρ h0 42), .ref (ρ h0 43), .ref (ρ h0 44), .ref (ρ h0 45), .ref (ρ h0 46), .int o28_x47, .int o28_x48, .ref (ρ h0 49), .ref (ρ h0 50), .ref (ρ h0 51), .ref (ρ h0 52)]) := (hF60 _ (by rw [ht_h0]; decide)).trans g32
        refine tpk_pos (tp_in hG ht_h0 (by decide)) hf_64 (fun q65 eq65 => ?_)
        have hFc := tp_fr hD hS hA
        refine va_callv (va_runV (As := [.int r48, .int r62]) (rest := []) ⟨hx, hb, hml, hown, hts⟩ (t_X12_judgeLanding l dC dI _ κ τ ν ρ L f59 hG hT h0 r48 r62 (-1) 0 u.toInt ht_h0 (by omega) (by omega) (by omega) (by rw [hf_61, mo_i1]; exact hI) (by first | (simp only [hf_61, hf_o26, mo_i1]; omega) | (simp only [hf_61, hf_o26, mo_i1]; trivial) | (simp only [hf_61, hf_o26, mo_i1]; done) | omega)) (cwV 2 hts gX12_settle_X12_judgeLanding rfl rfl rfl ⟨rfl, pd_X12_judgeLanding⟩ ⟨Nat.le_of_ble_eq_true rfl, Nat.le_of_ble_eq_true rfl⟩) ⟨pz_blind, va_recv hK hP (ci := 12) (q0 := q65) rfl eq65, pz_pre hP hK hD hN⟩ rfl rfl hl.1 rfl (lv_room (Nat.le_of_ble_eq_true rfl)) dX12_settle_75 ⟨Nat.le_of_ble_eq_true rfl, Nat.le_of_ble_eq_true rfl⟩) hS (fun q _ h => hFc q h) hFc (fun f68 t H1 locs ht hvm hw67 hB hz1 hk1 hS => ?_)
        refine tn_3 hw67 (fun hT hF69 hw67p => ?_); clear hw67
        have hR := hR.then hF69 (by decide)
        have hP := hB.1; rw [ht] at hP; have hD := tp_ad f68 hD; clear hB hFc hz1 hk1; subst ht; generalize t.heap = H at hP hS ⊢
        refine lv_aload_n hx hb dX12_settle_78 rfl (lv_at hl 1 rfl) ?_
        refine tpk_13 hT ht_h0 (fun o70_x0 o70_x1 o70_x7 o70_x9 o70_x10 o70_x11 o70_x12 o70_x13 o70_x14 o70_x15 o70_x16 o70_x17 o70_x18 o70_x19 o70_x20 o70_x22 o70_x25 o70_x28 o70_x29 o70_x32 o70_x33 o70_x34 o70_x35 o70_x36 o70_x37 o70_x38 o70_x47 o70_x48 hf_o70 ro70_0 ro70_1 ro70_2 ro70_3 ro70_4 ro70_5 ro70_6 ro70_7 ro70_8 ro70_9 ro70_10 ro70_11 ro70_12 ro70_13 => ?_)
        refine tpk_pos (tp_in hG ht_h0 (by decide)) hf_o70 (fun q71 eq71 => ?_)
        refine va_get (D := (dC, dI)) (ci := 12) (v := .long o70_x34) (C := RX12) (T := TX12) (N := 53) hx hb hts hfX12 hown hK hP q71 eq71 rfl 34 (by decide) (hts (.fieldLink RX12 452 "ColdShipsModel" "pays" "J") wa_1190) (fun _ h9 => h9) rfl dX12_settle_79 ?_
        refine lv_aload_n hx hb dX12_settle_82 rfl (lv_at hl 1 rfl) ?_
        refine va_get (D := (dC, dI)) (ci := 12) (v := .long o70_x35) (C := RX12) (T := TX12) (N := 53) hx hb hts hfX12 hown hK hP q71 eq71 rfl 35 (by decide) (hts (.fieldLink RX12 455 "ColdShipsModel" "fines" "J") wa_1191) (fun _ h9 => h9) rfl dX12_settle_83 ?_
        refine lv_lsub hx hb dX12_settle_86 ?_
        refine lv_topl (fun z72 ez72 => ?_)
        refine lv_lstore (lv' := [(4, .long z72), (3, .int r48), (0, .ref h0), (1, .int v), (2, .int u)]) hx hb dX12_settle_87 hl (by decide) rfl (fun ls hl => ?_)
        refine lv_aload_n hx hb dX12_settle_89 rfl (lv_at hl 2 rfl) ?_
        refine va_get (D := (dC, dI)) (ci := 12) (v := .ref (ρ h0 2)) (C := RX12) (T := TX12) (N := 53) hx hb hts hfX12 hown hK hP q71 eq71 rfl 2 (by decide) (hts (.fieldLink RX12 7 "ColdShipsModel" "row" "[I") wa_148) (fun _ h9 => h9) rfl dX12_settle_90 ?_
        refine lv_iload_n hx hb dX12_settle_93 rfl (lv_at hl 1 rfl) ?_
        refine lv_bipush (v := 12) hx hb dX12_settle_94 (by decide) ?_
        refine lv_iadd hx hb dX12_settle_96 ?_
        refine lv_topi (fun z73 ez73 => ?_)
        have iz73 : z73.toInt = r48.toInt + 12 := zi_add ez73 rfl rfl (by omega) (by omega)
        refine lv_iload_n hx hb dX12_settle_97 rfl (lv_at hl 4 rfl) ?_
        have hf_74 : f68 (ρ h0 2) = .inl (κ 0, 12967, .inl g27) := (hF69 _ (by rw [y1]; decide)).trans hf_61
        refine tpk_pos (tp_in hG y1 (by decide)) hf_74 (fun q75 eq75 => ?_)
        refine va_iast hx hb hK hP hD hS q75 0 eq75 rfl (vp_in_iff.mpr ⟨by omega, by omega⟩) dX12_settle_98 (tp_k (.inl (κ 0, 12967, .inl (upd g27 z73.toNatClampNeg u))) hD (tp_in hG y1 (by decide)) eq75 (fun f76 H locs hP hD hS g78 k77 => ?_))
        have hT := hT.up y1 g78 k77 tp_o32
        have hR := hR.up y1 (by decide) k77
        have hU : mo_U (mo_R g27) (mo_R (upd g27 z73.toNatClampNeg u)) (1051 + 16 * v.toInt + 12) (u.toInt) := mo_up (by omega) (rfl : u.toInt = _) (by omega)
        generalize (upd g27 z73.toNatClampNeg u) = g79 at g78 hU
        have hI := mo_w_land hI hU v.toInt (12) (by omega) (by omega) (by omega)
        have pn80 : mo_R g79 (11) = z56.toInt := (hU.ne (by omega) (by omega)).trans (jz56).symm
        refine lv_aload_n hx hb dX12_settle_99 rfl (lv_at hl 2 rfl) ?_
        have hf_81 : f76 h0 = .inr (12, [.int o70_x0, .int o70_x1, .ref (ρ h0 2), .ref (ρ h0 3), .ref (ρ h0 4), .ref (ρ h0 5), .ref (ρ h0 6), .int o70_x7, .ref (ρ h0 8), .int o70_x9, .int o70_x10, .int o70_x11, .int o70_x12, .long o70_x13, .int o70_x14, .int o70_x15, .int o70_x16, .int o70_x17, .int o70_x18, .int o70_x19, .int o70_x20, .ref (ρ h0 21), .int o70_x22, .ref (ρ h0 23), .ref (ρ h0 24), .int o70_x25, .ref (ρ h0 26), .ref (ρ h0 27), .int o70_x28, .int o70_x29, .ref (ρ h0 30), .ref (ρ h0 31), .int o70_x32, .long o70_x33, .long o70_x34, .long o70_x35, .int o70_x36, .int o70_x37, .int o70_x38, .ref (ρ h0 39), .ref (ρ h0 40), .ref (ρ h0 41), .ref (ρ h0 42), .ref (ρ h0 43), .ref (ρ h0 44), .ref (ρ h0 45), .ref (ρ h0 46), .int o70_x47, .int o70_x48, .ref (ρ h0 49), .ref (ρ h0 50), .ref (ρ h0 51), .ref (ρ h0 52)]) := (k77 _ (tp_ne ht_h0 y1 (by decide))).trans hf_o70
        refine tpk_pos (tp_in hG ht_h0 (by decide)) hf_81 (fun q82 eq82 => ?_)
        refine va_get (D := (dC, dI)) (ci := 12) (v := .ref (ρ h0 2)) (C := RX12) (T := TX12) (N := 53) hx hb hts hfX12 hown hK hP q82 eq82 rfl 2 (by decide) (hts (.fieldLink RX12 7 "ColdShipsModel" "row" "[I") wa_148) (fun _ h9 => h9) rfl dX12_settle_100 ?_
        refine lv_iload_n hx hb dX12_settle_103 rfl (lv_at hl 1 rfl) ?_
        refine lv_bipush (v := 13) hx hb dX12_settle_104 (by decide) ?_
        refine lv_iadd hx hb dX12_settle_106 ?_
        refine lv_topi (fun z83 ez83 => ?_)
        have iz83 : z83.toInt = r48.toInt + 13 := zi_add ez83 rfl rfl (by omega) (by omega)
        refine lv_aload_n hx hb dX12_settle_107 rfl (lv_at hl 2 rfl) ?_
        refine va_get (D := (dC, dI)) (ci := 12) (v := .ref (ρ h0 2)) (C := RX12) (T := TX12) (N := 53) hx hb hts hfX12 hown hK hP q82 eq82 rfl 2 (by decide) (hts (.fieldLink RX12 7 "ColdShipsModel" "row" "[I") wa_148) (fun _ h9 => h9) rfl dX12_settle_108 ?_
        refine lv_bipush (v := 11) hx hb dX12_settle_111 (by decide) ?_
        refine tpk_pos (tp_in hG y1 (by decide)) g78 (fun q84 eq84 => ?_)
        refine va_iald hx hb hK hP q84 0 eq84 rfl (vp_in_iff.mpr ⟨by decide, by decide⟩) dX12_settle_113 ?_
        refine lv_topi (fun z85 ez85 => ?_)
        have jz85 : z85.toInt = mo_R g79 (11) := mo_rd ez85 (show (11 : Int32).toInt = (11) from by decide)
        have kz85 := hI.k11
        have vz85 : z85.toInt = z56.toInt := jz85.trans pn80
        refine va_iast hx hb hK hP hD hS q84 0 eq84 rfl (vp_in_iff.mpr ⟨by omega, by omega⟩) dX12_settle_114 (tp_k (.inl (κ 0, 12967, .inl (upd g79 z83.toNatClampNeg z85))) hD (tp_in hG y1 (by decide)) eq84 (fun f86 H locs hP hD hS g88 k87 => ?_))
        have hT := hT.up y1 g88 k87 tp_o32
        have hR := hR.up y1 (by decide) k87
        have hU : mo_U (mo_R g79) (mo_R (upd g79 z83.toNatClampNeg z85)) (1051 + 16 * v.toInt + 13) (z85.toInt) := mo_up (by omega) (rfl : z85.toInt = _) (by omega)
        generalize (upd g79 z83.toNatClampNeg z85) = g89 at g88 hU
        have hI := mo_w_land hI hU v.toInt (13) (by omega) (by omega) (by omega)
        have pn90 : mo_R g89 (11) = z56.toInt := (hU.ne (by omega) (by omega)).trans pn80
        refine lv_aload_n hx hb dX12_settle_115 rfl (lv_at hl 2 rfl) ?_
        have hf_91 : f86 h0 = .inr (12, [.int o70_x0, .int o70_x1, .ref (ρ h0 2), .ref (ρ h0 3), .ref (ρ h0 4), .ref (ρ h0 5), .ref (ρ h0 6), .int o70_x7, .ref (ρ h0 8), .int o70_x9, .int o70_x10, .int o70_x11, .int o70_x12, .long o70_x13, .int o70_x14, .int o70_x15, .int o70_x16, .int o70_x17, .int o70_x18, .int o70_x19, .int o70_x20, .ref (ρ h0 21), .int o70_x22, .ref (ρ h0 23), .ref (ρ h0 24), .int o70_x25, .ref (ρ h0 26), .ref (ρ h0 27), .int o70_x28, .int o70_x29, .ref (ρ h0 30), .ref (ρ h0 31), .int o70_x32, .long o70_x33, .long o70_x34, .long o70_x35, .int o70_x36, .int o70_x37, .int o70_x38, .ref (ρ h0 39), .ref (ρ h0 40), .ref (ρ h0 41), .ref (ρ h0 42), .ref (ρ h0 43), .ref (ρ h0 44), .ref (ρ h0 45), .ref (ρ h0 46), .int o70_x47, .int o70_x48, .ref (ρ h0 49), .ref (ρ h0 50), .ref (ρ h0 51), .ref (ρ h0 52)]) := (k87 _ (tp_ne ht_h0 y1 (by decide))).trans hf_81
        refine tpk_pos (tp_in hG ht_h0 (by decide)) hf_91 (fun q92 eq92 => ?_)
        refine va_get (D := (dC, dI)) (ci := 12) (v := .ref (ρ h0 2)) (C := RX12) (T := TX12) (N := 53) hx hb hts hfX12 hown hK hP q92 eq92 rfl 2 (by decide) (hts (.fieldLink RX12 7 "ColdShipsModel" "row" "[I") wa_148) (fun _ h9 => h9) rfl dX12_settle_116 ?_
        refine lv_iload_n hx hb dX12_settle_119 rfl (lv_at hl 1 rfl) ?_
        refine lv_bipush (v := 14) hx hb dX12_settle_120 (by decide) ?_
        refine lv_iadd hx hb dX12_settle_122 ?_
        refine lv_topi (fun z93 ez93 => ?_)
        have iz93 : z93.toInt = r48.toInt + 14 := zi_add ez93 rfl rfl (by omega) (by omega)
        refine lv_lload hx hb dX12_settle_123 (lv_at hl 0 rfl) ?_
        refine lv_bipush (v := 32) hx hb dX12_settle_125 (by decide) ?_
        refine lv_lshr hx hb dX12_settle_127 rfl ?_
        refine lv_topl (fun z94 ez94 => ?_)
        refine lv_l2i hx hb dX12_settle_128 rfl ?_
        refine lv_topi (fun z95 ez95 => ?_)
        refine tpk_pos (tp_in hG y1 (by decide)) g88 (fun q96 eq96 => ?_)
        refine va_iast hx hb hK hP hD hS q96 0 eq96 rfl (vp_in_iff.mpr ⟨by omega, by omega⟩) dX12_settle_129 (tp_k (.inl (κ 0, 12967, .inl (upd g89 z93.toNatClampNeg z95))) hD (tp_in hG y1 (by decide)) eq96 (fun f97 H locs hP hD hS g99 k98 => ?_))
        have hT := hT.up y1 g99 k98 tp_o32
        have hR := hR.up y1 (by decide) k98
        have hU : mo_U (mo_R g89) (mo_R (upd g89 z93.toNatClampNeg z95)) (1051 + 16 * v.toInt + 14) (z95.toInt) := mo_up (by omega) (rfl : z95.toInt = _) (by omega)
        generalize (upd g89 z93.toNatClampNeg z95) = g100 at g99 hU
        have hI := mo_w_land hI hU v.toInt (14) (by omega) (by omega) (by omega)
        have pn101 : mo_R g100 (11) = z56.toInt := (hU.ne (by omega) (by omega)).trans pn90
        refine lv_aload_n hx hb dX12_settle_130 rfl (lv_at hl 2 rfl) ?_
        have hf_102 : f97 h0 = .inr (12, [.int o70_x0, .int o70_x1, .ref (ρ h0 2), .ref (ρ h0 3), .ref (ρ h0 4), .ref (ρ h0 5), .ref (ρ h0 6), .int o70_x7, .ref (ρ h0 8), .int o70_x9, .int o70_x10, .int o70_x11, .int o70_x12, .long o70_x13, .int o70_x14, .int o70_x15, .int o70_x16, .int o70_x17, .int o70_x18, .int o70_x19, .int o70_x20, .ref (ρ h0 21), .int o70_x22, .ref (ρ h0 23), .ref (ρ h0 24), .int o70_x25, .ref (ρ h0 26), .ref (ρ h0 27), .int o70_x28, .int o70_x29, .ref (ρ h0 30), .ref (ρ h0 31), .int o70_x32, .long o70_x33, .long o70_x34, .long o70_x35, .int o70_x36, .int o70_x37, .int o70_x38, .ref (ρ h0 39), .ref (ρ h0 40), .ref (ρ h0 41), .ref (ρ h0 42), .ref (ρ h0 43), .ref (ρ h0 44), .ref (ρ h0 45), .ref (ρ h0 46), .int o70_x47, .int o70_x48, .ref (ρ h0 49), .ref (ρ h0 50), .ref (ρ h0 51), .ref (ρ h0 52)]) := (k98 _ (tp_ne ht_h0 y1 (by decide))).trans hf_91
        refine tpk_pos (tp_in hG ht_h0 (by decide)) hf_102 (fun q103 eq103 => ?_)
        refine va_get (D := (dC, dI)) (ci := 12) (v := .ref (ρ h0 2)) (C := RX12) (T := TX12) (N := 53) hx hb hts hfX12 hown hK hP q103 eq103 rfl 2 (by decide) (hts (.fieldLink RX12 7 "ColdShipsModel" "row" "[I") wa_148) (fun _ h9 => h9) rfl dX12_settle_131 ?_
        refine lv_iload_n hx hb dX12_settle_134 rfl (lv_at hl 1 rfl) ?_
        refine lv_bipush (v := 15) hx hb dX12_settle_135 (by decide) ?_
        refine lv_iadd hx hb dX12_settle_137 ?_
        refine lv_topi (fun z104 ez104 => ?_)
        have iz104 : z104.toInt = r48.toInt + 15 := zi_add ez104 rfl rfl (by omega) (by omega)
        refine lv_lload hx hb dX12_settle_138 (lv_at hl 0 rfl) ?_
        refine lv_l2i hx hb dX12_settle_140 rfl ?_
        refine lv_topi (fun z105 ez105 => ?_)
        refine tpk_pos (tp_in hG y1 (by decide)) g99 (fun q106 eq106 => ?_)
        refine va_iast hx hb hK hP hD hS q106 0 eq106 rfl (vp_in_iff.mpr ⟨by omega, by omega⟩) dX12_settle_141 (tp_k (.inl (κ 0, 12967, .inl (upd g100 z104.toNatClampNeg z105))) hD (tp_in hG y1 (by decide)) eq106 (fun f107 H locs hP hD hS g109 k108 => ?_))
        have hT := hT.up y1 g109 k108 tp_o32
        have hR := hR.up y1 (by decide) k108
        have hU : mo_U (mo_R g100) (mo_R (upd g100 z104.toNatClampNeg z105)) (1051 + 16 * v.toInt + 15) (z105.toInt) := mo_up (by omega) (rfl : z105.toInt = _) (by omega)
        generalize (upd g100 z104.toNatClampNeg z105) = g110 at g109 hU
        have hI := mo_w_land hI hU v.toInt (15) (by omega) (by omega) (by omega)
        have pn111 : mo_R g110 (11) = z56.toInt := (hU.ne (by omega) (by omega)).trans pn101
        refine lv_aload_n hx hb dX12_settle_142 rfl (lv_at hl 2 rfl) ?_
        refine lv_iconst (v := 0) hx hb dX12_settle_143 (by decide) ?_
        have hf_112 : f107 h0 = .inr (12, [.int o70_x0, .int o70_x1, .ref (ρ h0 2), .ref (ρ h0 3), .ref (ρ h0 4), .ref (ρ h0 5), .ref (ρ h0 6), .int o70_x7, .ref (ρ h0 8), .int o70_x9, .int o70_x10, .int o70_x11, .int o70_x12, .long o70_x13, .int o70_x14, .int o70_x15, .int o70_x16, .int o70_x17, .int o70_x18, .int o70_x19, .int o70_x20, .ref (ρ h0 21), .int o70_x22, .ref (ρ h0 23), .ref (ρ h0 24), .int o70_x25, .ref (ρ h0 26), .ref (ρ h0 27), .int o70_x28, .int o70_x29, .ref (ρ h0 30), .ref (ρ h0 31), .int o70_x32, .long o70_x33, .long o70_x34, .long o70_x35, .int o70_x36, .int o70_x37, .int o70_x38, .ref (ρ h0 39), .ref (ρ h0 40), .ref (ρ h0 41), .ref (ρ h0 42), .ref (ρ h0 43), .ref (ρ h0 44), .ref (ρ h0 45), .ref (ρ h0 46), .int o70_x47, .int o70_x48, .ref (ρ h0 49), .ref (ρ h0 50), .ref (ρ h0 51), .ref (ρ h0 52)]) := (k108 _ (tp_ne ht_h0 y1 (by decide))).trans hf_102
        refine tpk_pos (tp_in hG ht_h0 (by decide)) hf_112 (fun q113 eq113 => ?_)
        have hFc := tp_fr hD hS hA
        refine va_calli (va_runV (As := [.int 0]) (rest := []) ⟨hx, hb, hml, hown, hts⟩ (t_X12_told l dC dI _ κ τ ν ρ L f107 hG hT h0 (0) ht_h0) (cwV 1 hts gX12_settle_X12_told rfl rfl rfl ⟨rfl, pd_X12_told⟩ ⟨Nat.le_of_ble_eq_true rfl, Nat.le_of_ble_eq_true rfl⟩) ⟨pz_blind, va_recv hK hP (ci := 12) (q0 := q113) rfl eq113, pz_pre hP hK hD hN⟩ rfl rfl hl.1 rfl (lv_room (Nat.le_of_ble_eq_true rfl)) dX12_settle_144 ⟨Nat.le_of_ble_eq_true rfl, Nat.le_of_ble_eq_true rfl⟩) hS (fun q _ h => hFc q h) hFc (fun r114 f116 t H1 locs ht hvm hw115 hB hz1 hk1 hS => ?_)
        refine tn_4 hw115 (fun hT hF117 hw115r hw115p => ?_); clear hw115
        have hR := hR.then hF117 (by decide)
        have hP := hB.1; rw [ht] at hP; have hD := tp_ad f116 hD; clear hB hFc hz1 hk1; subst ht; generalize t.heap = H at hP hS ⊢
        have hw115pq : r114.toInt = 0 := by rw [hw115p]; rfl
        have hf_118 : f116 (ρ h0 2) = .inl (κ 0, 12967, .inl g110) := (hF117 _ (by rw [y1]; decide)).trans g109
        exact W.iret (v := r114) hx hb hr (fun t ht hW => ⟨⟨r114, f116, rfl, ⟨hT, hR, trivial, (by rw [hf_118, mo_i1]; exact hI)⟩, by rw [ht]; exact hP, va_K.moved hW.alike hK, hD⟩, hS.F ht⟩) hS.2.2 dX12_settle_147
      · have ic53 : z52.toInt ≠ (-1) := zi_eqf rfl rfl c53
        refine lv_aload_n hx hb dX12_settle_46 rfl (lv_at hl 1 rfl) ?_
        refine lv_bipush (v := (-4)) hx hb dX12_settle_47 (by decide) ?_
        have hFc := tp_fr hD hS hA
        refine va_calli (va_runV (As := [.int (-4)]) (rest := []) ⟨hx, hb, hml, hown, hts⟩ (t_X12_told l dC dI _ κ τ ν ρ L f30 hG hT h0 ((-4)) ht_h0) (cwV 1 hts gX12_settle_X12_told rfl rfl rfl ⟨rfl, pd_X12_told⟩ ⟨Nat.le_of_ble_eq_true rfl, Nat.le_of_ble_eq_true rfl⟩) ⟨pz_blind, va_recv hK hP (ci := 12) (q0 := q34) rfl eq34, pz_pre hP hK hD hN⟩ rfl rfl hl.1 rfl (lv_room (Nat.le_of_ble_eq_true rfl)) dX12_settle_49 ⟨Nat.le_of_ble_eq_true rfl, Nat.le_of_ble_eq_true rfl⟩) hS (fun q _ h => hFc q h) hFc (fun r119 f121 t H1 locs ht hvm hw120 hB hz1 hk1 hS => ?_)
        refine tn_4 hw120 (fun hT hF122 hw120r hw120p => ?_); clear hw120
        have hR := hR.then hF122 (by decide)
        have hP := hB.1; rw [ht] at hP; have hD := tp_ad f121 hD; clear hB hFc hz1 hk1; subst ht; generalize t.heap = H at hP hS ⊢
        have hw120pq : r119.toInt = (-4) := by rw [hw120p]; rfl
        have hf_123 : f121 (ρ h0 2) = .inl (κ 0, 12967, .inl g27) := (hF122 _ (by rw [y1]; decide)).trans hf_33
        exact W.iret (v := r119) hx hb hr (fun t ht hW => ⟨⟨r119, f121, rfl, ⟨hT, hR, trivial, (by rw [hf_123, mo_i1]; exact hI)⟩, by rw [ht]; exact hP, va_K.moved hW.alike hK, hD⟩, hS.F ht⟩) hS.2.2 dX12_settle_52
    · have ic46 : r44.toInt = 0 := zi_nef rfl rfl c46
      refine lv_aload_n hx hb dX12_settle_21 rfl (lv_at hl 0 rfl) ?_
      refine lv_bipush (v := (-2)) hx hb dX12_settle_22 (by decide) ?_
      have hFc := tp_fr hD hS hA
      refine va_calli (va_runV (As := [.int (-2)]) (rest := []) ⟨hx, hb, hml, hown, hts⟩ (t_X12_told l dC dI _ κ τ ν ρ L f30 hG hT h0 ((-2)) ht_h0) (cwV 1 hts gX12_settle_X12_told rfl rfl rfl ⟨rfl, pd_X12_told⟩ ⟨Nat.le_of_ble_eq_true rfl, Nat.le_of_ble_eq_true rfl⟩) ⟨pz_blind, va_recv hK hP (ci := 12) (q0 := q34) rfl eq34, pz_pre hP hK hD hN⟩ rfl rfl hl.1 rfl (lv_room (Nat.le_of_ble_eq_true rfl)) dX12_settle_24 ⟨Nat.le_of_ble_eq_true rfl, Nat.le_of_ble_eq_true rfl⟩) hS (fun q _ h => hFc q h) hFc (fun r124 f126 t H1 locs ht hvm hw125 hB hz1 hk1 hS => ?_)
      refine tn_4 hw125 (fun hT hF127 hw125r hw125p => ?_); clear hw125
      have hR := hR.then hF127 (by decide)
      have hP := hB.1; rw [ht] at hP; have hD := tp_ad f126 hD; clear hB hFc hz1 hk1; subst ht; generalize t.heap = H at hP hS ⊢
      have hw125pq : r124.toInt = (-2) := by rw [hw125p]; rfl
      have hf_128 : f126 (ρ h0 2) = .inl (κ 0, 12967, .inl g27) := (hF127 _ (by rw [y1]; decide)).trans hf_33
      exact W.iret (v := r124) hx hb hr (fun t ht hW => ⟨⟨r124, f126, rfl, ⟨hT, hR, trivial, (by rw [hf_128, mo_i1]; exact hI)⟩, by rw [ht]; exact hP, va_K.moved hW.alike hK, hD⟩, hS.F ht⟩) hS.2.2 dX12_settle_27
