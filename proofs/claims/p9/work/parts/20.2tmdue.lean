section
set_option maxHeartbeats 4000000 in
set_option maxRecDepth 100000 in
theorem t_X12_setFor (l : Launch) (dC : Nat → ClassId) (dI : Nat → Nat → Nat) (sz : Nat) (κ : Nat → ClassId) (Θ : Nat → Option Int) (τ ν : Nat → Nat) (ρ : Nat → Nat → Nat) (L : List Nat) (f : Nat → va_E) (hG : tp_G τ ν ρ L) (hT : tp_T (mo_O κ Θ) κ τ ν ρ f) (h0 : Nat) (ul : Int32) (uc : Int32) (a : Int32) (x : Int) (b : Int) (ql : Int) (qc : Int) (ht_h0 : τ h0 = 13) (hL_ul : ul.toInt = 1051 + 16 * ql) (hq_ul : 0 ≤ ql ∧ ql ≤ 59) (hL_uc : uc.toInt = 2251 + 864 * qc) (hq_uc : 0 ≤ qc ∧ qc ≤ 11) (hbb : 0 ≤ b ∧ b ≤ 1000) (hJ : mo_RI x b (mo_R (mo_i (f (ρ h0 2))))) (hn5 : ql < (mo_R (mo_i (f (ρ h0 2)))) (5)) (hn8 : qc < (mo_R (mo_i (f (ρ h0 2)))) (8)) : Met l yX12_setFor wqX12_setFor ({ frames := 4, cells := 0, slots := 0, locals := 1200 }) (va_Pc [.ref h0, .int ul, .int uc, .int a] (pz_B dC dI (tp_K κ) (va_pl L f) sz)) (va_Qv (fun (f1 : Nat → va_E) => tp_T (mo_O κ Θ) κ τ ν ρ f1 ∧ tp_F τ [60] f f1 ∧ True) (fun (f1 : Nat → va_E) (t : State) => pz_E dC dI (tp_K κ) (va_A (va_pl L f) sz) (va_pl L f1) t) (va_A (va_pl L f) sz)) 0 0 (va_A (va_pl L f) sz) := by
  refine Met.ofW (cc := cX12_setFor) (maxL := 7) (ret := none) (by decide) rfl ?_
  intro p e s m args below meth c s₁ B hml hv
  obtain ⟨rfl, hsz, hP, hK, hD0, hN⟩ := hv
  have hx := B.exec
  have hb := B.bytes
  have hr := B.returns
  have hts := fun (w : Cond) (h : w ∈ WALL) => atoms_spec (ws := wqX12_setFor) B.pre w (List.mem_cons_of_mem _ h)
  have hown : s.vm.findClass RX12 = some m.cls := findClass_of_methodNamed B.named
  have hlocks := B.notSynchronized
  subst hsz
  have hD := hD0.self (sz := s.heap.size)
  generalize hAe : va_A (va_pl L f) s.heap.size = A at hD ⊢
  have hA : ∀ q : Nat, s.heap.size ≤ q → A q := fun q h => by rw [← hAe]; exact Or.inr h
  have hS : va_S A s.heap s.heap [] := va_S.rf
  have hR : tp_F τ [60] f f := tp_F.rf
  have hl := lv_entry ([.ref h0, .int ul, .int uc, .int a]) (n := 7) (Nat.le_of_ble_eq_true rfl)
  rw [lg_entry_eq]
  generalize (lg_sl ([.ref h0, .int ul, .int uc, .int a]) ++ List.replicate (7 - (lg_sl ([.ref h0, .int ul, .int uc, .int a])).length) Slot.unset).toArray = ls at hl ⊢
  have hl : lv_has ls 7 [(0, .ref h0), (1, .int ul), (2, .int uc), (3, .int a)] := hl
  refine tgk_13 hG ht_h0 (fun y1 y2 y3 y4 y5 y6 y7 y8 y9 y10 y11 y12 y13 y14 y15 y16 y17 y18 y19 y20 y21 y22 y23 y24 y25 => ?_)
  refine tpk_32 hT y1 (fun g27 hf_o26 => ?_)
  have hI : mo_RI x b (mo_R g27) := by have q9 := hJ; rw [hf_o26, mo_i1] at q9; exact q9
  rw [hf_o26, mo_i1] at hn5
  rw [hf_o26, mo_i1] at hn8
  refine lv_aload_n hx hb dX12_setFor_0 rfl (lv_at hl 0 rfl) ?_
  refine tpk_13 hT ht_h0 (fun o28_x0 o28_x1 o28_x7 o28_x9 o28_x10 o28_x11 o28_x12 o28_x13 o28_x14 o28_x15 o28_x16 o28_x17 o28_x18 o28_x19 o28_x20 o28_x22 o28_x25 o28_x28 o28_x29 o28_x32 o28_x33 o28_x34 o28_x35 o28_x36 o28_x37 o28_x38 o28_x47 o28_x48 hf_o28 ro28_0 ro28_1 ro28_2 ro28_3 ro28_4 ro28_5 ro28_6 ro28_7 ro28_8 ro28_9 ro28_10 ro28_11 ro28_12 ro28_13 ro28_14 => ?_)
  refine tpk_pos (tp_in hG ht_h0 (by decide)) hf_o28 (fun q29 eq29 => ?_)
  refine va_get (D := (dC, dI)) (ci := 12) (v := .ref (ρ h0 2)) (C := RX12) (T := TX12) (N := 53) hx hb hts hfX12 hown hK hP q29 eq29 rfl 2 (by decide) (hts (.fieldLink RX12 7 "ColdShipsModel" "row" "[I") wa_148) (fun _ h9 => h9) rfl dX12_setFor_1 ?_
  refine lv_iload_n hx hb dX12_setFor_4 rfl (lv_at hl 1 rfl) ?_
  refine lv_iconst (v := 2) hx hb dX12_setFor_5 (by decide) ?_
  refine lv_iadd hx hb dX12_setFor_6 ?_
  refine lv_topi (fun z30 ez30 => ?_)
  have iz30 : z30.toInt = ul.toInt + 2 := zi_add ez30 rfl rfl (by omega) (by omega)
  refine tpk_pos (tp_in hG y1 (by decide)) hf_o26 (fun q31 eq31 => ?_)
  refine va_iald hx hb hK hP q31 0 eq31 rfl (vp_in_iff.mpr ⟨by omega, by omega⟩) dX12_setFor_7 ?_
  refine lv_topi (fun z32 ez32 => ?_)
  refine lv_istore (lv' := [(4, .int z32), (0, .ref h0), (1, .int ul), (2, .int uc), (3, .int a)]) hx hb dX12_setFor_8 hl (by decide) rfl (fun ls hl => ?_)
  refine lv_aload_n hx hb dX12_setFor_10 rfl (lv_at hl 1 rfl) ?_
  refine va_get (D := (dC, dI)) (ci := 12) (v := .ref (ρ h0 2)) (C := RX12) (T := TX12) (N := 53) hx hb hts hfX12 hown hK hP q29 eq29 rfl 2 (by decide) (hts (.fieldLink RX12 7 "ColdShipsModel" "row" "[I") wa_148) (fun _ h9 => h9) rfl dX12_setFor_11 ?_
  refine lv_iload_n hx hb dX12_setFor_14 rfl (lv_at hl 2 rfl) ?_
  refine lv_iconst (v := 3) hx hb dX12_setFor_15 (by decide) ?_
  refine lv_iadd hx hb dX12_setFor_16 ?_
  refine lv_topi (fun z33 ez33 => ?_)
  have iz33 : z33.toInt = ul.toInt + 3 := zi_add ez33 rfl rfl (by omega) (by omega)
  refine va_iald hx hb hK hP q31 0 eq31 rfl (vp_in_iff.mpr ⟨by omega, by omega⟩) dX12_setFor_17 ?_
  refine lv_topi (fun z34 ez34 => ?_)
  have jz34 : z34.toInt = mo_R g27 (1051 + 16 * ql + 3) := mo_rd ez34 (by omega)
  have kz34 := hI.LL (l := ql) (by omega) (by omega)
  refine lv_istore (lv' := [(5, .int z34), (4, .int z32), (0, .ref h0), (1, .int ul), (2, .int uc), (3, .int a)]) hx hb dX12_setFor_18 hl (by decide) rfl (fun ls hl => ?_)
  refine lv_aload_n hx hb dX12_setFor_20 rfl (lv_at hl 2 rfl) ?_
  refine va_get (D := (dC, dI)) (ci := 12) (v := .ref (ρ h0 30)) (C := RX12) (T := TX12) (N := 53) hx hb hts hfX12 hown hK hP q29 eq29 rfl 30 (by decide) (hts (.fieldLink RX12 49 "ColdShipsModel" "set" "[J") wa_161) (fun _ h9 => h9) rfl dX12_setFor_21 ?_
  refine lv_iconst (v := 1) hx hb dX12_setFor_24 (by decide) ?_
  refine lv_aload_n hx hb dX12_setFor_25 rfl (lv_at hl 2 rfl) ?_
  refine va_get (D := (dC, dI)) (ci := 12) (v := .ref (ρ h0 2)) (C := RX12) (T := TX12) (N := 53) hx hb hts hfX12 hown hK hP q29 eq29 rfl 2 (by decide) (hts (.fieldLink RX12 7 "ColdShipsModel" "row" "[I") wa_148) (fun _ h9 => h9) rfl dX12_setFor_26 ?_
  refine lv_iload_n hx hb dX12_setFor_29 rfl (lv_at hl 3 rfl) ?_
  refine lv_iconst (v := 4) hx hb dX12_setFor_30 (by decide) ?_
  refine lv_iadd hx hb dX12_setFor_31 ?_
  refine lv_topi (fun z35 ez35 => ?_)
  have iz35 : z35.toInt = ul.toInt + 4 := zi_add ez35 rfl rfl (by omega) (by omega)
  refine va_iald hx hb hK hP q31 0 eq31 rfl (vp_in_iff.mpr ⟨by omega, by omega⟩) dX12_setFor_32 ?_
  refine lv_topi (fun z36 ez36 => ?_)
  have jz36 : z36.toInt = mo_R g27 (1051 + 16 * ql + 4) := mo_rd ez36 (by omega)
  have kz36 := hI.LT (l := ql) (by omega) (by omega)
  refine lv_i2l hx hb dX12_setFor_33 rfl ?_
  refine tpk_60 hT y12 (fun g38 hf_o37 => ?_)
  refine tpk_pos (tp_in hG y12 (by decide)) hf_o37 (fun q39 eq39 => ?_)
  refine va_last hx hb hK hP hD hS q39 1 eq39 rfl (vp_in_iff.mpr ⟨by decide, by decide⟩) dX12_setFor_34 (tp_k (.inl (κ 1, 9, .inr (.inl (vp_updL g38 (1 : Int32).toNatClampNeg z36.toInt64)))) hD (tp_in hG y12 (by decide)) eq39 (fun f40 H locs hP hD hS g42 k41 => ?_))
  have hT := hT.up y12 g42 k41 tp_o60
  have hR := hR.up y12 (by decide) k41
  generalize (vp_updL g38 (1 : Int32).toNatClampNeg z36.toInt64) = g43 at g42
  refine lv_aload_n hx hb dX12_setFor_35 rfl (lv_at hl 2 rfl) ?_
  have hf_44 : f40 h0 = .inr (12, [.int o28_x0, .int o28_x1, .ref (ρ h0 2), .ref (ρ h0 3), .ref (ρ h0 4), .ref (ρ h0 5), .ref (ρ h0 6), .int o28_x7, .ref (ρ h0 8), .int o28_x9, .int o28_x10, .int o28_x11, .int o28_x12, .long o28_x13, .int o28_x14, .int o28_x15, .int o28_x16, .int o28_x17, .int o28_x18, .int o28_x19, .int o28_x20, .ref (ρ h0 21), .int o28_x22, .ref (ρ h0 23), .ref (ρ h0 24), .int o28_x25, .ref (ρ h0 26), .ref (ρ h0 27), .int o28_x28, .int o28_x29, .ref (ρ h0 30), .ref (ρ h0 31), .int o28_x32, .long o28_x33, .long o28_x34, .long o28_x35, .int o28_x36, .int o28_x37, .int o28_x38, .ref (ρ h0 39), .ref (ρ h0 40), .ref (ρ h0 41), .ref (ρ h0 42), .ref (ρ h0 43), .ref (ρ h0 44), .ref (ρ h0 45), .ref (ρ h0 46), .int o28_x47, .int o28_x48, .ref (ρ h0 49), .ref (ρ h0 50), .ref (ρ h0 51), .ref (ρ h0 52)]) := (k41 _ (tp_ne ht_h0 y12 (by decide))).trans hf_o28
  refine tpk_pos (tp_in hG ht_h0 (by decide)) hf_44 (fun q45 eq45 => ?_)
  refine va_get (D := (dC, dI)) (ci := 12) (v := .ref (ρ h0 30)) (C := RX12) (T := TX12) (N := 53) hx hb hts hfX12 hown hK hP q45 eq45 rfl 30 (by decide) (hts (.fieldLink RX12 49 "ColdShipsModel" "set" "[J") wa_161) (fun _ h9 => h9) rfl dX12_setFor_36 ?_
  refine lv_iconst (v := 2) hx hb dX12_setFor_39 (by decide) ?_
  refine lv_aload_n hx hb dX12_setFor_40 rfl (lv_at hl 2 rfl) ?_
  refine lv_iload_n hx hb dX12_setFor_41 rfl (lv_at hl 3 rfl) ?_
  have hf_46 : f40 (ρ h0 2) = .inl (κ 0, 12967, .inl g27) := (k41 _ (tp_ne y1 y12 (by decide))).trans hf_o26
  refine pz_calli (va_runV (As := [.int ul]) (rest := [.int 2, .ref (ρ h0 30)]) ⟨hx, hb, hml, hown, hts⟩ (t_X12_billed l dC dI _ κ Θ τ ν ρ L f40 hG hT h0 ul x b ql ht_h0 (by omega) (by omega) (by omega) (by rw [hf_46, mo_i1]; exact hI)) (cwV 1 hts gX12_setFor_X12_billed rfl rfl rfl ⟨rfl, pd_X12_billed⟩ ⟨Nat.le_of_ble_eq_true rfl, Nat.le_of_ble_eq_true rfl⟩) ⟨pz_blind, va_recv hK hP (ci := 12) (q0 := q45) rfl eq45, pz_pre hP hK hD hN⟩ rfl rfl hl.1 rfl (lv_room (Nat.le_of_ble_eq_true rfl)) dX12_setFor_42 ⟨Nat.le_of_ble_eq_true rfl, Nat.le_of_ble_eq_true rfl⟩) (fun r47 hw48 => ?_)
  obtain ⟨hw48r, hw48p⟩ := hw48
  refine lv_i2l hx hb dX12_setFor_45 rfl ?_
  refine tpk_pos (tp_in hG y12 (by decide)) g42 (fun q49 eq49 => ?_)
  refine va_last hx hb hK hP hD hS q49 1 eq49 rfl (vp_in_iff.mpr ⟨by decide, by decide⟩) dX12_setFor_46 (tp_k (.inl (κ 1, 9, .inr (.inl (vp_updL g43 (2 : Int32).toNatClampNeg r47.toInt64)))) hD (tp_in hG y12 (by decide)) eq49 (fun f50 H locs hP hD hS g52 k51 => ?_))
  have hT := hT.up y12 g52 k51 tp_o60
  have hR := hR.up y12 (by decide) k51
  generalize (vp_updL g43 (2 : Int32).toNatClampNeg r47.toInt64) = g53 at g52
  refine lv_aload_n hx hb dX12_setFor_47 rfl (lv_at hl 2 rfl) ?_
  have hf_54 : f50 h0 = .inr (12, [.int o28_x0, .int o28_x1, .ref (ρ h0 2), .ref (ρ h0 3), .ref (ρ h0 4), .ref (ρ h0 5), .ref (ρ h0 6), .int o28_x7, .ref (ρ h0 8), .int o28_x9, .int o28_x10, .int o28_x11, .int o28_x12, .long o28_x13, .int o28_x14, .int o28_x15, .int o28_x16, .int o28_x17, .int o28_x18, .int o28_x19, .int o28_x20, .ref (ρ h0 21), .int o28_x22, .ref (ρ h0 23), .ref (ρ h0 24), .int o28_x25, .ref (ρ h0 26), .ref (ρ h0 27), .int o28_x28, .int o28_x29, .ref (ρ h0 30), .ref (ρ h0 31), .int o28_x32, .long o28_x33, .long o28_x34, .long o28_x35, .int o28_x36, .int o28_x37, .int o28_x38, .ref (ρ h0 39), .ref (ρ h0 40), .ref (ρ h0 41), .ref (ρ h0 42), .ref (ρ h0 43), .ref (ρ h0 44), .ref (ρ h0 45), .ref (ρ h0 46), .int o28_x47, .int o28_x48, .ref (ρ h0 49), .ref (ρ h0 50), .ref (ρ h0 51), .ref (ρ h0 52)]) := (k51 _ (tp_ne ht_h0 y12 (by decide))).trans hf_44
  refine tpk_pos (tp_in hG ht_h0 (by decide)) hf_54 (fun q55 eq55 => ?_)
  refine va_get (D := (dC, dI)) (ci := 12) (v := .ref (ρ h0 30)) (C := RX12) (T := TX12) (N := 53) hx hb hts hfX12 hown hK hP q55 eq55 rfl 30 (by decide) (hts (.fieldLink RX12 49 "ColdShipsModel" "set" "[J") wa_161) (fun _ h9 => h9) rfl dX12_setFor_48 ?_
  refine lv_iconst (v := 3) hx hb dX12_setFor_51 (by decide) ?_
  refine lv_aload_n hx hb dX12_setFor_52 rfl (lv_at hl 2 rfl) ?_
  refine lv_iload_n hx hb dX12_setFor_53 rfl (lv_at hl 3 rfl) ?_
  have hf_56 : f50 (ρ h0 2) = .inl (κ 0, 12967, .inl g27) := (k51 _ (tp_ne y1 y12 (by decide))).trans hf_46
  refine pz_calli (va_runV (As := [.int ul]) (rest := [.int 3, .ref (ρ h0 30)]) ⟨hx, hb, hml, hown, hts⟩ (t_X12_heatOf l dC dI _ κ Θ τ ν ρ L f50 hG hT h0 ul x b ql ht_h0 (by omega) (by omega) (by omega) (by rw [hf_56, mo_i1]; exact hI) (by first | (simp only [hf_56, hf_o26, mo_i1]; omega) | (simp only [hf_56, hf_o26, mo_i1]; trivial) | (simp only [hf_56, hf_o26, mo_i1]; done) | omega)) (cwV 1 hts gX12_setFor_X12_heatOf rfl rfl rfl ⟨rfl, pd_X12_heatOf⟩ ⟨Nat.le_of_ble_eq_true rfl, Nat.le_of_ble_eq_true rfl⟩) ⟨pz_blind, va_recv hK hP (ci := 12) (q0 := q55) rfl eq55, pz_pre hP hK hD hN⟩ rfl rfl hl.1 rfl (lv_room (Nat.le_of_ble_eq_true rfl)) dX12_setFor_54 ⟨Nat.le_of_ble_eq_true rfl, Nat.le_of_ble_eq_true rfl⟩) (fun r57 hw58 => ?_)
  obtain ⟨hw58r, hw58p⟩ := hw58
  refine lv_i2l hx hb dX12_setFor_57 rfl ?_
  refine tpk_pos (tp_in hG y12 (by decide)) g52 (fun q59 eq59 => ?_)
  refine va_last hx hb hK hP hD hS q59 1 eq59 rfl (vp_in_iff.mpr ⟨by decide, by decide⟩) dX12_setFor_58 (tp_k (.inl (κ 1, 9, .inr (.inl (vp_updL g53 (3 : Int32).toNatClampNeg r57.toInt64)))) hD (tp_in hG y12 (by decide)) eq59 (fun f60 H locs hP hD hS g62 k61 => ?_))
  have hT := hT.up y12 g62 k61 tp_o60
  have hR := hR.up y12 (by decide) k61
  generalize (vp_updL g53 (3 : Int32).toNatClampNeg r57.toInt64) = g63 at g62
  refine lv_aload_n hx hb dX12_setFor_59 rfl (lv_at hl 2 rfl) ?_
  have hf_64 : f60 h0 = .inr (12, [.int o28_x0, .int o28_x1, .ref (ρ h0 2), .ref (ρ h0 3), .ref (ρ h0 4), .ref (ρ h0 5), .ref (ρ h0 6), .int o28_x7, .ref (ρ h0 8), .int o28_x9, .int o28_x10, .int o28_x11, .int o28_x12, .long o28_x13, .int o28_x14, .int o28_x15, .int o28_x16, .int o28_x17, .int o28_x18, .int o28_x19, .int o28_x20, .ref (ρ h0 21), .int o28_x22, .ref (ρ h0 23), .ref (ρ h0 24), .int o28_x25, .ref (ρ h0 26), .ref (ρ h0 27), .int o28_x28, .int o28_x29, .ref (ρ h0 30), .ref (ρ h0 31), .int o28_x32, .long o28_x33, .long o28_x34, .long o28_x35, .int o28_x36, .int o28_x37, .int o28_x38, .ref (ρ h0 39), .ref (ρ h0 40), .ref (ρ h0 41), .ref (ρ h0 42), .ref (ρ h0 43), .ref (ρ h0 44), .ref (ρ h0 45), .ref (ρ h0 46), .int o28_x47, .int o28_x48, .ref (ρ h0 49), .ref (ρ h0 50), .ref (ρ h0 51), .ref (ρ h0 52)]) := (k61 _ (tp_ne ht_h0 y12 (by decide))).trans hf_54
  refine tpk_pos (tp_in hG ht_h0 (by decide)) hf_64 (fun q65 eq65 => ?_)
  refine va_get (D := (dC, dI)) (ci := 12) (v := .ref (ρ h0 30)) (C := RX12) (T := TX12) (N := 53) hx hb hts hfX12 hown hK hP q65 eq65 rfl 30 (by decide) (hts (.fieldLink RX12 49 "ColdShipsModel" "set" "[J") wa_161) (fun _ h9 => h9) rfl dX12_setFor_60 ?_
  refine lv_iconst (v := 4) hx hb dX12_setFor_63 (by decide) ?_
  refine lv_lconst (v := 0) hx hb dX12_setFor_64 (by decide) ?_
  refine tpk_pos (tp_in hG y12 (by decide)) g62 (fun q66 eq66 => ?_)
  refine va_last hx hb hK hP hD hS q66 1 eq66 rfl (vp_in_iff.mpr ⟨by decide, by decide⟩) dX12_setFor_65 (tp_k (.inl (κ 1, 9, .inr (.inl (vp_updL g63 (4 : Int32).toNatClampNeg (0 : Int64))))) hD (tp_in hG y12 (by decide)) eq66 (fun f67 H locs hP hD hS g69 k68 => ?_))
  have hT := hT.up y12 g69 k68 tp_o60
  have hR := hR.up y12 (by decide) k68
  generalize (vp_updL g63 (4 : Int32).toNatClampNeg (0 : Int64)) = g70 at g69
  refine lv_aload_n hx hb dX12_setFor_66 rfl (lv_at hl 2 rfl) ?_
  have hf_71 : f67 h0 = .inr (12, [.int o28_x0, .int o28_x1, .ref (ρ h0 2), .ref (ρ h0 3), .ref (ρ h0 4), .ref (ρ h0 5), .ref (ρ h0 6), .int o28_x7, .ref (ρ h0 8), .int o28_x9, .int o28_x10, .int o28_x11, .int o28_x12, .long o28_x13, .int o28_x14, .int o28_x15, .int o28_x16, .int o28_x17, .int o28_x18, .int o28_x19, .int o28_x20, .ref (ρ h0 21), .int o28_x22, .ref (ρ h0 23), .ref (ρ h0 24), .int o28_x25, .ref (ρ h0 26), .ref (ρ h0 27), .int o28_x28, .int o28_x29, .ref (ρ h0 30), .ref (ρ h0 31), .int o28_x32, .long o28_x33, .long o28_x34, .long o28_x35, .int o28_x36, .int o28_x37, .int o28_x38, .ref (ρ h0 39), .ref (ρ h0 40), .ref (ρ h0 41), .ref (ρ h0 42), .ref (ρ h0 43), .ref (ρ h0 44), .ref (ρ h0 45), .ref (ρ h0 46), .int o28_x47, .int o28_x48, .ref (ρ h0 49), .ref (ρ h0 50), .ref (ρ h0 51), .ref (ρ h0 52)]) := (k68 _ (tp_ne ht_h0 y12 (by decide))).trans hf_64
  refine tpk_pos (tp_in hG ht_h0 (by decide)) hf_71 (fun q72 eq72 => ?_)
  refine va_get (D := (dC, dI)) (ci := 12) (v := .ref (ρ h0 2)) (C := RX12) (T := TX12) (N := 53) hx hb hts hfX12 hown hK hP q72 eq72 rfl 2 (by decide) (hts (.fieldLink RX12 7 "ColdShipsModel" "row" "[I") wa_148) (fun _ h9 => h9) rfl dX12_setFor_67 ?_
  refine lv_iload_n hx hb dX12_setFor_70 rfl (lv_at hl 4 rfl) ?_
  refine lv_iconst (v := 1) hx hb dX12_setFor_71 (by decide) ?_
  refine lv_iadd hx hb dX12_setFor_72 ?_
  refine lv_topi (fun z73 ez73 => ?_)
  have iz73 : z73.toInt = uc.toInt + 1 := zi_add ez73 rfl rfl (by omega) (by omega)
  have hf_74 : f60 (ρ h0 2) = .inl (κ 0, 12967, .inl g27) := (k61 _ (tp_ne y1 y12 (by decide))).trans hf_56
  have hf_75 : f67 (ρ h0 2) = .inl (κ 0, 12967, .inl g27) := (k68 _ (tp_ne y1 y12 (by decide))).trans hf_74
  refine tpk_pos (tp_in hG y1 (by decide)) hf_75 (fun q76 eq76 => ?_)
  refine va_iald hx hb hK hP q76 0 eq76 rfl (vp_in_iff.mpr ⟨by omega, by omega⟩) dX12_setFor_73 ?_
  refine lv_topi (fun z77 ez77 => ?_)
  refine lv_iconst (v := 1) hx hb dX12_setFor_74 (by decide) ?_
  refine lv_iadd hx hb dX12_setFor_75 ?_
  refine lv_topi (fun z78 ez78 => ?_)
  refine lv_istore (lv' := [(6, .int z78), (5, .int z34), (4, .int z32), (0, .ref h0), (1, .int ul), (2, .int uc), (3, .int a)]) hx hb dX12_setFor_76 hl (by decide) rfl (fun ls hl => ?_)
  refine pz_loop (fun n0 H locs ls => ∃ f81 : Nat → va_E, ∃ w79 : Int32, n0 = (2400 - (w79.toInt)).toNat ∧ tp_T (mo_O κ Θ) κ τ ν ρ f81 ∧ tp_F τ [60] f f81 ∧ f81 (ρ h0 2) = .inl (κ 0, 12967, .inl g27) ∧ va_P (dC, dI) vwCl (va_pl L f81) H ∧ va_D A (va_pl L f81) ∧ va_S A s.heap H locs ∧ lv_has ls 7 [(6, .int w79), (5, .int z34), (4, .int z32), (0, .ref h0), (1, .int ul), (2, .int uc), (3, .int a)]) ?_ _ _ _ _ ⟨f67, z78, rfl, hT, hR, hf_75, hP, hD, hS, lv_sub hl [0, 1, 2, 3, 4, 5, 6] rfl⟩
  intro n0 H locs ls hI ih83
  refine Exists.elim hI (fun f81 hE90 => Exists.elim hE90 (fun w79 hE91 => tn_8 hE91 (fun hn84 hT hR hk80k hP hD hS hl => ?_)))
  clear hE91 hE90 hI
  refine lv_iload hx hb dX12_setFor_78 (lv_at hl 0 rfl) ?_
  refine lv_iload hx hb dX12_setFor_80 (lv_at hl 1 rfl) ?_
  refine lv_icmp_gt (tgt := 115) hx hb dX12_setFor_82 (by decide) (fun c85 => ?_) (fun c85 => ?_)
  · have ic85 : w79.toInt > z34.toInt := zi_gt rfl rfl c85
    refine lv_aload_n hx hb dX12_setFor_115 rfl (lv_at hl 3 rfl) ?_
    refine tpk_13 hT ht_h0 (fun o86_x0 o86_x1 o86_x7 o86_x9 o86_x10 o86_x11 o86_x12 o86_x13 o86_x14 o86_x15 o86_x16 o86_x17 o86_x18 o86_x19 o86_x20 o86_x22 o86_x25 o86_x28 o86_x29 o86_x32 o86_x33 o86_x34 o86_x35 o86_x36 o86_x37 o86_x38 o86_x47 o86_x48 hf_o86 ro86_0 ro86_1 ro86_2 ro86_3 ro86_4 ro86_5 ro86_6 ro86_7 ro86_8 ro86_9 ro86_10 ro86_11 ro86_12 ro86_13 ro86_14 => ?_)
    refine tpk_pos (tp_in hG ht_h0 (by decide)) hf_o86 (fun q87 eq87 => ?_)
    refine va_get (D := (dC, dI)) (ci := 12) (v := .ref (ρ h0 30)) (C := RX12) (T := TX12) (N := 53) hx hb hts hfX12 hown hK hP q87 eq87 rfl 30 (by decide) (hts (.fieldLink RX12 49 "ColdShipsModel" "set" "[J") wa_161) (fun _ h9 => h9) rfl dX12_setFor_116 ?_
    refine lv_iconst (v := 5) hx hb dX12_setFor_119 (by decide) ?_
    refine lv_iload hx hb dX12_setFor_120 (lv_at hl 2 rfl) ?_
    refine lv_aload_n hx hb dX12_setFor_122 rfl (lv_at hl 3 rfl) ?_
    refine va_get (D := (dC, dI)) (ci := 12) (v := .ref (ρ h0 2)) (C := RX12) (T := TX12) (N := 53) hx hb hts hfX12 hown hK hP q87 eq87 rfl 2 (by decide) (hts (.fieldLink RX12 7 "ColdShipsModel" "row" "[I") wa_148) (fun _ h9 => h9) rfl dX12_setFor_123 ?_
    refine lv_iload_n hx hb dX12_setFor_126 rfl (lv_at hl 5 rfl) ?_
    refine tpk_pos (tp_in hG y1 (by decide)) hk80k (fun q88 eq88 => ?_)
    refine va_iald hx hb hK hP q88 0 eq88 rfl (vp_in_iff.mpr ⟨by omega, by omega⟩) dX12_setFor_127 ?_
    refine lv_topi (fun z89 ez89 => ?_)
    refine tp_join 145 (fun H locs ls stk => ∃ w90 : Int64, stk = [.long w90, .int 5, .ref (ρ h0 30)] ∧ va_P (dC, dI) vwCl (va_pl L f81) H ∧ va_D A (va_pl L f81) ∧ va_S A s.heap H locs ∧ lv_has ls 7 [(6, .int w79), (5, .int z34), (4, .int z32), (0, .ref h0), (1, .int ul), (2, .int uc), (3, .int a)]) ?_ (fun hj91 => ?_)
    · intro H locs ls stk hI
      refine Exists.elim hI (fun w90 hE90 => tn_5 hE90 (fun e90 hP hD hS hl => ?_))
      clear hE90 hI; subst e90
      refine tpk_60 hT y12 (fun g93 hf_o92 => ?_)
      refine tpk_pos (tp_in hG y12 (by decide)) hf_o92 (fun q94 eq94 => ?_)
      refine va_last hx hb hK hP hD hS q94 1 eq94 rfl (vp_in_iff.mpr ⟨by decide, by decide⟩) dX12_setFor_145 (tp_k (.inl (κ 1, 9, .inr (.inl (vp_updL g93 (5 : Int32).toNatClampNeg w90)))) hD (tp_in hG y12 (by decide)) eq94 (fun f95 H locs hP hD hS g97 k96 => ?_))
      have hT := hT.up y12 g97 k96 tp_o60
      have hR := hR.up y12 (by decide) k96
      generalize (vp_updL g93 (5 : Int32).toNatClampNeg w90) = g98 at g97
      refine lv_aload_n hx hb dX12_setFor_146 rfl (lv_at hl 3 rfl) ?_
      have hf_99 : f95 h0 = .inr (12, [.int o86_x0, .int o86_x1, .ref (ρ h0 2), .ref (ρ h0 3), .ref (ρ h0 4), .ref (ρ h0 5), .ref (ρ h0 6), .int o86_x7, .ref (ρ h0 8), .int o86_x9, .int o86_x10, .int o86_x11, .int o86_x12, .long o86_x13, .int o86_x14, .int o86_x15, .int o86_x16, .int o86_x17, .int o86_x18, .int o86_x19, .int o86_x20, .ref (ρ h0 21), .int o86_x22, .ref (ρ h0 23), .ref (ρ h0 24), .int o86_x25, .ref (ρ h0 26), .ref (ρ h0 27), .int o86_x28, .int o86_x29, .ref (ρ h0 30), .ref (ρ h0 31), .int o86_x32, .long o86_x33, .long o86_x34, .long o86_x35, .int o86_x36, .int o86_x37, .int o86_x38, .ref (ρ h0 39), .ref (ρ h0 40), .ref (ρ h0 41), .ref (ρ h0 42), .ref (ρ h0 43), .ref (ρ h0 44), .ref (ρ h0 45), .ref (ρ h0 46), .int o86_x47, .int o86_x48, .ref (ρ h0 49), .ref (ρ h0 50), .ref (ρ h0 51), .ref (ρ h0 52)]) := (k96 _ (tp_ne ht_h0 y12 (by decide))).trans hf_o86
      refine tpk_pos (tp_in hG ht_h0 (by decide)) hf_99 (fun q100 eq100 => ?_)
      refine va_get (D := (dC, dI)) (ci := 12) (v := .ref (ρ h0 30)) (C := RX12) (T := TX12) (N := 53) hx hb hts hfX12 hown hK hP q100 eq100 rfl 30 (by decide) (hts (.fieldLink RX12 49 "ColdShipsModel" "set" "[J") wa_161) (fun _ h9 => h9) rfl dX12_setFor_147 ?_
      refine lv_bipush (v := 6) hx hb dX12_setFor_150 (by decide) ?_
      refine lv_aload_n hx hb dX12_setFor_152 rfl (lv_at hl 3 rfl) ?_
      refine lv_iload hx hb dX12_setFor_153 (lv_at hl 1 rfl) ?_
      refine lv_bipush (v := 24) hx hb dX12_setFor_155 (by decide) ?_
      refine lv_idiv hx hb dX12_setFor_157 (by decide) ?_
      refine lv_topi (fun z101 ez101 => ?_)
      refine lv_iload_n hx hb dX12_setFor_158 rfl (lv_at hl 6 rfl) ?_
      have hf_102 : f95 (ρ h0 2) = .inl (κ 0, 12967, .inl g27) := (k96 _ (tp_ne y1 y12 (by decide))).trans hk80k
      refine pz_calli (va_runV (As := [.int z101, .int a]) (rest := [.int 6, .ref (ρ h0 30)]) ⟨hx, hb, hml, hown, hts⟩ (t_X12_priceOf l dC dI _ κ Θ τ ν ρ L f95 hG hT h0 z101 a x b ht_h0 (by omega) (by rw [hf_102, mo_i1]; exact hI)) (cwV 2 hts gX12_setFor_X12_priceOf rfl rfl rfl ⟨rfl, pd_X12_priceOf⟩ ⟨Nat.le_of_ble_eq_true rfl, Nat.le_of_ble_eq_true rfl⟩) ⟨pz_blind, va_recv hK hP (ci := 12) (q0 := q100) rfl eq100, pz_pre hP hK hD hN⟩ rfl rfl hl.1 rfl (lv_room (Nat.le_of_ble_eq_true rfl)) dX12_setFor_159 ⟨Nat.le_of_ble_eq_true rfl, Nat.le_of_ble_eq_true rfl⟩) (fun r103 hw104 => ?_)
      obtain ⟨hw104r, hw104p⟩ := hw104
      refine lv_i2l hx hb dX12_setFor_162 rfl ?_
      refine tpk_pos (tp_in hG y12 (by decide)) g97 (fun q105 eq105 => ?_)
      refine va_last hx hb hK hP hD hS q105 1 eq105 rfl (vp_in_iff.mpr ⟨by decide, by decide⟩) dX12_setFor_163 (tp_k (.inl (κ 1, 9, .inr (.inl (vp_updL g98 (6 : Int32).toNatClampNeg r103.toInt64)))) hD (tp_in hG y12 (by decide)) eq105 (fun f106 H locs hP hD hS g108 k107 => ?_))
      have hT := hT.up y12 g108 k107 tp_o60
      have hR := hR.up y12 (by decide) k107
      generalize (vp_updL g98 (6 : Int32).toNatClampNeg r103.toInt64) = g109 at g108
      refine lv_aload_n hx hb dX12_setFor_164 rfl (lv_at hl 3 rfl) ?_
      have hf_110 : f106 h0 = .inr (12, [.int o86_x0, .int o86_x1, .ref (ρ h0 2), .ref (ρ h0 3), .ref (ρ h0 4), .ref (ρ h0 5), .ref (ρ h0 6), .int o86_x7, .ref (ρ h0 8), .int o86_x9, .int o86_x10, .int o86_x11, .int o86_x12, .long o86_x13, .int o86_x14, .int o86_x15, .int o86_x16, .int o86_x17, .int o86_x18, .int o86_x19, .int o86_x20, .ref (ρ h0 21), .int o86_x22, .ref (ρ h0 23), .ref (ρ h0 24), .int o86_x25, .ref (ρ h0 26), .ref (ρ h0 27), .int o86_x28, .int o86_x29, .ref (ρ h0 30), .ref (ρ h0 31), .int o86_x32, .long o86_x33, .long o86_x34, .long o86_x35, .int o86_x36, .int o86_x37, .int o86_x38, .ref (ρ h0 39), .ref (ρ h0 40), .ref (ρ h0 41), .ref (ρ h0 42), .ref (ρ h0 43), .ref (ρ h0 44), .ref (ρ h0 45), .ref (ρ h0 46), .int o86_x47, .int o86_x48, .ref (ρ h0 49), .ref (ρ h0 50), .ref (ρ h0 51), .ref (ρ h0 52)]) := (k107 _ (tp_ne ht_h0 y12 (by decide))).trans hf_99
      refine tpk_pos (tp_in hG ht_h0 (by decide)) hf_110 (fun q111 eq111 => ?_)
      refine va_get (D := (dC, dI)) (ci := 12) (v := .ref (ρ h0 30)) (C := RX12) (T := TX12) (N := 53) hx hb hts hfX12 hown hK hP q111 eq111 rfl 30 (by decide) (hts (.fieldLink RX12 49 "ColdShipsModel" "set" "[J") wa_161) (fun _ h9 => h9) rfl dX12_setFor_165 ?_
      refine lv_bipush (v := 7) hx hb dX12_setFor_168 (by decide) ?_
      refine lv_iload hx hb dX12_setFor_170 (lv_at hl 1 rfl) ?_
      refine lv_iload hx hb dX12_setFor_172 (lv_at hl 2 rfl) ?_
      refine lv_isub hx hb dX12_setFor_174 ?_
      refine lv_topi (fun z112 ez112 => ?_)
      refine lv_i2l hx hb dX12_setFor_175 rfl ?_
      refine lv_lconst (v := 1) hx hb dX12_setFor_176 (by decide) ?_
      refine lv_ladd hx hb dX12_setFor_177 ?_
      refine lv_topl (fun z113 ez113 => ?_)
      have := zi_bd z112
      have iz113 : z113.toInt = z112.toInt + 1 := zl_add ez113 (Int32.toInt_toInt64 z112) rfl (by omega) (by omega)
      refine tpk_pos (tp_in hG y12 (by decide)) g108 (fun q114 eq114 => ?_)
      refine va_last hx hb hK hP hD hS q114 1 eq114 rfl (vp_in_iff.mpr ⟨by decide, by decide⟩) dX12_setFor_178 (tp_k (.inl (κ 1, 9, .inr (.inl (vp_updL g109 (7 : Int32).toNatClampNeg z113)))) hD (tp_in hG y12 (by decide)) eq114 (fun f115 H locs hP hD hS g117 k116 => ?_))
      have hT := hT.up y12 g117 k116 tp_o60
      have hR := hR.up y12 (by decide) k116
      generalize (vp_updL g109 (7 : Int32).toNatClampNeg z113) = g118 at g117
      refine lv_aload_n hx hb dX12_setFor_179 rfl (lv_at hl 3 rfl) ?_
      have hf_119 : f115 h0 = .inr (12, [.int o86_x0, .int o86_x1, .ref (ρ h0 2), .ref (ρ h0 3), .ref (ρ h0 4), .ref (ρ h0 5), .ref (ρ h0 6), .int o86_x7, .ref (ρ h0 8), .int o86_x9, .int o86_x10, .int o86_x11, .int o86_x12, .long o86_x13, .int o86_x14, .int o86_x15, .int o86_x16, .int o86_x17, .int o86_x18, .int o86_x19, .int o86_x20, .ref (ρ h0 21), .int o86_x22, .ref (ρ h0 23), .ref (ρ h0 24), .int o86_x25, .ref (ρ h0 26), .ref (ρ h0 27), .int o86_x28, .int o86_x29, .ref (ρ h0 30), .ref (ρ h0 31), .int o86_x32, .long o86_x33, .long o86_x34, .long o86_x35, .int o86_x36, .int o86_x37, .int o86_x38, .ref (ρ h0 39), .ref (ρ h0 40), .ref (ρ h0 41), .ref (ρ h0 42), .ref (ρ h0 43), .ref (ρ h0 44), .ref (ρ h0 45), .ref (ρ h0 46), .int o86_x47, .int o86_x48, .ref (ρ h0 49), .ref (ρ h0 50), .ref (ρ h0 51), .ref (ρ h0 52)]) := (k116 _ (tp_ne ht_h0 y12 (by decide))).trans hf_110
      refine tpk_pos (tp_in hG ht_h0 (by decide)) hf_119 (fun q120 eq120 => ?_)
      refine va_get (D := (dC, dI)) (ci := 12) (v := .ref (ρ h0 30)) (C := RX12) (T := TX12) (N := 53) hx hb hts hfX12 hown hK hP q120 eq120 rfl 30 (by decide) (hts (.fieldLink RX12 49 "ColdShipsModel" "set" "[J") wa_161) (fun _ h9 => h9) rfl dX12_setFor_180 ?_
      refine lv_bipush (v := 8) hx hb dX12_setFor_183 (by decide) ?_
      refine lv_aload_n hx hb dX12_setFor_185 rfl (lv_at hl 3 rfl) ?_
      refine va_get (D := (dC, dI)) (ci := 12) (v := .ref (ρ h0 2)) (C := RX12) (T := TX12) (N := 53) hx hb hts hfX12 hown hK hP q120 eq120 rfl 2 (by decide) (hts (.fieldLink RX12 7 "ColdShipsModel" "row" "[I") wa_148) (fun _ h9 => h9) rfl dX12_setFor_186 ?_
      refine lv_iload_n hx hb dX12_setFor_189 rfl (lv_at hl 4 rfl) ?_
      refine lv_iconst (v := 1) hx hb dX12_setFor_190 (by decide) ?_
      refine lv_iadd hx hb dX12_setFor_191 ?_
      refine lv_topi (fun z121 ez121 => ?_)
      have iz121 : z121.toInt = ul.toInt + 1 := zi_add ez121 rfl rfl (by omega) (by omega)
      have hf_122 : f106 (ρ h0 2) = .inl (κ 0, 12967, .inl g27) := (k107 _ (tp_ne y1 y12 (by decide))).trans hf_102
      have hf_123 : f115 (ρ h0 2) = .inl (κ 0, 12967, .inl g27) := (k116 _ (tp_ne y1 y12 (by decide))).trans hf_122
      refine tpk_pos (tp_in hG y1 (by decide)) hf_123 (fun q124 eq124 => ?_)
      refine va_iald hx hb hK hP q124 0 eq124 rfl (vp_in_iff.mpr ⟨by omega, by omega⟩) dX12_setFor_192 ?_
      refine lv_topi (fun z125 ez125 => ?_)
      refine lv_aload_n hx hb dX12_setFor_193 rfl (lv_at hl 3 rfl) ?_
      refine va_get (D := (dC, dI)) (ci := 12) (v := .ref (ρ h0 2)) (C := RX12) (T := TX12) (N := 53) hx hb hts hfX12 hown hK hP q120 eq120 rfl 2 (by decide) (hts (.fieldLink RX12 7 "ColdShipsModel" "row" "[I") wa_148) (fun _ h9 => h9) rfl dX12_setFor_194 ?_
      refine lv_iload_n hx hb dX12_setFor_197 rfl (lv_at hl 5 rfl) ?_
      refine lv_iconst (v := 2) hx hb dX12_setFor_198 (by decide) ?_
      refine lv_iadd hx hb dX12_setFor_199 ?_
      refine lv_topi (fun z126 ez126 => ?_)
      have iz126 : z126.toInt = uc.toInt + 2 := zi_add ez126 rfl rfl (by omega) (by omega)
      refine va_iald hx hb hK hP q124 0 eq124 rfl (vp_in_iff.mpr ⟨by omega, by omega⟩) dX12_setFor_200 ?_
      refine lv_topi (fun z127 ez127 => ?_)
      refine lv_icmp_ne (tgt := 208) hx hb dX12_setFor_201 (by decide) (fun c128 => ?_) (fun c128 => ?_)
      · have ic128 : z125.toInt ≠ z127.toInt := zi_ne rfl rfl c128
        refine lv_lconst (v := 1) hx hb dX12_setFor_208 (by decide) ?_
        refine tpk_pos (tp_in hG y12 (by decide)) g117 (fun q129 eq129 => ?_)
        refine va_last hx hb hK hP hD hS q129 1 eq129 rfl (vp_in_iff.mpr ⟨by decide, by decide⟩) dX12_setFor_209 (tp_k (.inl (κ 1, 9, .inr (.inl (vp_updL g118 (8 : Int32).toNatClampNeg (1 : Int64))))) hD (tp_in hG y12 (by decide)) eq129 (fun f130 H locs hP hD hS g132 k131 => ?_))
        have hT := hT.up y12 g132 k131 tp_o60
        have hR := hR.up y12 (by decide) k131
        generalize (vp_updL g118 (8 : Int32).toNatClampNeg (1 : Int64)) = g133 at g132
        exact W.vret hx hb hr (fun t ht hW => ⟨⟨f130, rfl, ⟨hT, hR, trivial⟩, by rw [ht]; exact hP, va_K.moved hW.alike hK, hD⟩, hS.F ht⟩) hS.2.2 dX12_setFor_210
      · have ic128 : z125.toInt = z127.toInt := zi_nef rfl rfl c128
        refine lv_lconst (v := 0) hx hb dX12_setFor_204 (by decide) ?_
        refine lv_goto (tgt := 209) hx hb dX12_setFor_205 (by decide) ?_
        refine tpk_pos (tp_in hG y12 (by decide)) g117 (fun q134 eq134 => ?_)
        refine va_last hx hb hK hP hD hS q134 1 eq134 rfl (vp_in_iff.mpr ⟨by decide, by decide⟩) dX12_setFor_209 (tp_k (.inl (κ 1, 9, .inr (.inl (vp_updL g118 (8 : Int32).toNatClampNeg (0 : Int64))))) hD (tp_in hG y12 (by decide)) eq134 (fun f135 H locs hP hD hS g137 k136 => ?_))
        have hT := hT.up y12 g137 k136 tp_o60
        have hR := hR.up y12 (by decide) k136
        generalize (vp_updL g118 (8 : Int32).toNatClampNeg (0 : Int64)) = g138 at g137
        exact W.vret hx hb hr (fun t ht hW => ⟨⟨f135, rfl, ⟨hT, hR, trivial⟩, by rw [ht]; exact hP, va_K.moved hW.alike hK, hD⟩, hS.F ht⟩) hS.2.2 dX12_setFor_210
    · refine lv_icmp_ge (tgt := 144) hx hb dX12_setFor_128 (by decide) (fun c139 => ?_) (fun c139 => ?_)
      · have ic139 : z32.toInt ≥ z89.toInt := zi_ge rfl rfl c139
        refine lv_lconst (v := 0) hx hb dX12_setFor_144 (by decide) ?_
        exact hj91 _ _ _ _ ⟨0, rfl, hP, hD, hS, lv_sub hl [0, 1, 2, 3, 4, 5, 6] rfl⟩
      · have ic139 : z32.toInt < z89.toInt := zi_gef rfl rfl c139
        refine lv_aload_n hx hb dX12_setFor_131 rfl (lv_at hl 3 rfl) ?_
        refine va_get (D := (dC, dI)) (ci := 12) (v := .ref (ρ h0 2)) (C := RX12) (T := TX12) (N := 53) hx hb hts hfX12 hown hK hP q87 eq87 rfl 2 (by decide) (hts (.fieldLink RX12 7 "ColdShipsModel" "row" "[I") wa_148) (fun _ h9 => h9) rfl dX12_setFor_132 ?_
        refine lv_iload_n hx hb dX12_setFor_135 rfl (lv_at hl 5 rfl) ?_
        refine va_iald hx hb hK hP q88 0 eq88 rfl (vp_in_iff.mpr ⟨by omega, by omega⟩) dX12_setFor_136 ?_
        refine lv_topi (fun z140 ez140 => ?_)
        refine lv_iload hx hb dX12_setFor_137 (lv_at hl 2 rfl) ?_
        refine lv_isub hx hb dX12_setFor_139 ?_
        refine lv_topi (fun z141 ez141 => ?_)
        refine lv_i2l hx hb dX12_setFor_140 rfl ?_
        refine lv_goto (tgt := 145) hx hb dX12_setFor_141 (by decide) ?_
        exact hj91 _ _ _ _ ⟨z141.toInt64, rfl, hP, hD, hS, lv_sub hl [0, 1, 2, 3, 4, 5, 6] rfl⟩
  · have ic85 : w79.toInt ≤ z34.toInt := zi_gtf rfl rfl c85
    refine lv_aload_n hx hb dX12_setFor_85 rfl (lv_at hl 3 rfl) ?_
    refine tpk_13 hT ht_h0 (fun o142_x0 o142_x1 o142_x7 o142_x9 o142_x10 o142_x11 o142_x12 o142_x13 o142_x14 o142_x15 o142_x16 o142_x17 o142_x18 o142_x19 o142_x20 o142_x22 o142_x25 o142_x28 o142_x29 o142_x32 o142_x33 o142_x34 o142_x35 o142_x36 o142_x37 o142_x38 o142_x47 o142_x48 hf_o142 ro142_0 ro142_1 ro142_2 ro142_3 ro142_4 ro142_5 ro142_6 ro142_7 ro142_8 ro142_9 ro142_10 ro142_11 ro142_12 ro142_13 ro142_14 => ?_)
    refine tpk_pos (tp_in hG ht_h0 (by decide)) hf_o142 (fun q143 eq143 => ?_)
    refine va_get (D := (dC, dI)) (ci := 12) (v := .ref (ρ h0 30)) (C := RX12) (T := TX12) (N := 53) hx hb hts hfX12 hown hK hP q143 eq143 rfl 30 (by decide) (hts (.fieldLink RX12 49 "ColdShipsModel" "set" "[J") wa_161) (fun _ h9 => h9) rfl dX12_setFor_86 ?_
    refine lv_iconst (v := 4) hx hb dX12_setFor_89 (by decide) ?_
    refine lv_dup2_11 hx hb dX12_setFor_90 rfl rfl ?_
    refine tpk_60 hT y12 (fun g145 hf_o144 => ?_)
    refine tpk_pos (tp_in hG y12 (by decide)) hf_o144 (fun q146 eq146 => ?_)
    refine va_lald hx hb hK hP q146 1 eq146 rfl (vp_in_iff.mpr ⟨by decide, by decide⟩) dX12_setFor_91 ?_
    refine lv_topl (fun z147 ez147 => ?_)
    refine lv_aload_n hx hb dX12_setFor_92 rfl (lv_at hl 3 rfl) ?_
    refine lv_iload hx hb dX12_setFor_93 (lv_at hl 0 rfl) ?_
    refine lv_iload_n hx hb dX12_setFor_95 rfl (lv_at hl 6 rfl) ?_
    refine pz_calli (va_runV (As := [.int w79, .int a]) (rest := [.long z147, .int 4, .ref (ρ h0 30)]) ⟨hx, hb, hml, hown, hts⟩ (t_X12_isForce l dC dI _ κ Θ τ ν ρ L f81 hG hT h0 w79 a x b ht_h0 (by omega) (by rw [hk80k, mo_i1]; exact hI)) (cwV 2 hts gX12_setFor_X12_isForce rfl rfl rfl ⟨rfl, pd_X12_isForce⟩ ⟨Nat.le_of_ble_eq_true rfl, Nat.le_of_ble_eq_true rfl⟩) ⟨pz_blind, va_recv hK hP (ci := 12) (q0 := q143) rfl eq143, pz_pre hP hK hD hN⟩ rfl rfl hl.1 rfl (lv_room (Nat.le_of_ble_eq_true rfl)) dX12_setFor_96 ⟨Nat.le_of_ble_eq_true rfl, Nat.le_of_ble_eq_true rfl⟩) (fun r148 hw149 => ?_)
    obtain ⟨hw149r, hw149p⟩ := hw149
    refine lv_if_eq (tgt := 106) hx hb dX12_setFor_99 (by decide) (fun c150 => ?_) (fun c150 => ?_)
    · have ic150 : r148.toInt = 0 := zi_eq rfl rfl c150
      refine lv_lconst (v := 1) hx hb dX12_setFor_106 (by decide) ?_
      refine lv_ladd hx hb dX12_setFor_107 ?_
      refine lv_topl (fun z151 ez151 => ?_)
      refine va_last hx hb hK hP hD hS q146 1 eq146 rfl (vp_in_iff.mpr ⟨by decide, by decide⟩) dX12_setFor_108 (tp_k (.inl (κ 1, 9, .inr (.inl (vp_updL g145 (4 : Int32).toNatClampNeg z151)))) hD (tp_in hG y12 (by decide)) eq146 (fun f152 H locs hP hD hS g154 k153 => ?_))
      have hT := hT.up y12 g154 k153 tp_o60
      have hR := hR.up y12 (by decide) k153
      generalize (vp_updL g145 (4 : Int32).toNatClampNeg z151) = g155 at g154
      obtain ⟨z156, ez156⟩ : ∃ y : Int32, y = w79 + 1 := ⟨_, rfl⟩
      refine lv_iinc (v := z156) (lv' := [(6, .int z156), (5, .int z34), (4, .int z32), (0, .ref h0), (1, .int ul), (2, .int uc), (3, .int a)]) hx hb dX12_setFor_109 hl (k := 0) rfl (by rw [ez156]; rfl) (by decide) rfl (fun ls hl => ?_)
      have := zi_bd w79
      have iz156 : z156.toInt = w79.toInt + 1 := zi_add ez156 rfl rfl (by omega) (by omega)
      refine lv_goto (tgt := 78) hx hb dX12_setFor_112 (by decide) ?_
      have hf_157 : f152 (ρ h0 2) = .inl (κ 0, 12967, .inl g27) := (k153 _ (tp_ne y1 y12 (by decide))).trans hk80k
      exact ih83 _ _ _ _ (by rw [hn84]; omega) ⟨f152, z156, rfl, hT, hR, hf_157, hP, hD, hS, lv_sub hl [0, 1, 2, 3, 4, 5, 6] rfl⟩
    · have ic150 : r148.toInt ≠ 0 := zi_eqf rfl rfl c150
      replace ic150 : 1 ≤ r148.toInt := by omega
      refine lv_lconst (v := 0) hx hb dX12_setFor_102 (by decide) ?_
      refine lv_goto (tgt := 107) hx hb dX12_setFor_103 (by decide) ?_
      refine lv_ladd hx hb dX12_setFor_107 ?_
      refine lv_topl (fun z158 ez158 => ?_)
      have := zl_bd z147
      have iz158 : z158.toInt = z147.toInt + 0 := zl_add ez158 rfl rfl (by omega) (by omega)
      refine va_last hx hb hK hP hD hS q146 1 eq146 rfl (vp_in_iff.mpr ⟨by decide, by decide⟩) dX12_setFor_108 (tp_k (.inl (κ 1, 9, .inr (.inl (vp_updL g145 (4 : Int32).toNatClampNeg z158)))) hD (tp_in hG y12 (by decide)) eq146 (fun f159 H locs hP hD hS g161 k160 => ?_))
      have hT := hT.up y12 g161 k160 tp_o60
      have hR := hR.up y12 (by decide) k160
      generalize (vp_updL g145 (4 : Int32).toNatClampNeg z158) = g162 at g161
      obtain ⟨z163, ez163⟩ : ∃ y : Int32, y = w79 + 1 := ⟨_, rfl⟩
      refine lv_iinc (v := z163) (lv' := [(6, .int z163), (5, .int z34), (4, .int z32), (0, .ref h0), (1, .int ul), (2, .int uc), (3, .int a)]) hx hb dX12_setFor_109 hl (k := 0) rfl (by rw [ez163]; rfl) (by decide) rfl (fun ls hl => ?_)
      have := zi_bd w79
      have iz163 : z163.toInt = w79.toInt + 1 := zi_add ez163 rfl rfl (by omega) (by omega)
      refine lv_goto (tgt := 78) hx hb dX12_setFor_112 (by decide) ?_
      have hf_164 : f159 (ρ h0 2) = .inl (κ 0, 12967, .inl g27) := (k160 _ (tp_ne y1 y12 (by decide))).trans hk80k
      exact ih83 _ _ _ _ (by rw [hn84]; omega) ⟨f159, z163, rfl, hT, hR, hf_164, hP, hD, hS, lv_sub hl [0, 1, 2, 3, 4, 5, 6] rfl⟩
set_option maxHeartbeats 4000000 in
set_option maxRecDepth 100000 in
theorem t_X12_due (l : Launch) (dC : Nat → ClassId) (dI : Nat → Nat → Nat) (sz : Nat) (κ : Nat → ClassId) (Θ : Nat → Option Int) (τ ν : Nat → Nat) (ρ : Nat → Nat → Nat) (L : List Nat) (f : Nat → va_E) (hG : tp_G τ ν ρ L) (hT : tp_T (mo_O κ Θ) κ τ ν ρ f) (h0 : Nat) (v : Int32) (u : Int32) (a : Int32) (a4 : Int32) (ht_h0 : τ h0 = 13) (hJ : mo_RI (-1) 0 (mo_R (mo_i (f (ρ h0 2))))) : Met l yX12_due wqX12_due ({ frames := 6, cells := 0, slots := 0, locals := 2000 }) (va_Pc [.ref h0, .int v, .int u, .int a, .int a4] (pz_B dC dI (tp_K κ) (va_pl L f) sz)) (va_Ql (fun (r : Int64) (f1 : Nat → va_E) => tp_T (mo_O κ Θ) κ τ ν ρ f1 ∧ tp_F τ [13, 60, 61] f f1 ∧ True ∧ True) (fun (f1 : Nat → va_E) (t : State) => pz_E dC dI (tp_K κ) (va_A (va_pl L f) sz) (va_pl L f1) t) (va_A (va_pl L f) sz)) 0 0 (va_A (va_pl L f) sz) := by
  refine Met.ofW (cc := cX12_due) (maxL := 7) (ret := some .long) (by decide) rfl ?_
  intro p e s m args below meth c s₁ B hml hv
  obtain ⟨rfl, hsz, hP, hK, hD0, hN⟩ := hv
  have hx := B.exec
  have hb := B.bytes
  have hr := B.returns
  have hts := fun (w : Cond) (h : w ∈ WALL) => atoms_spec (ws := wqX12_due) B.pre w (List.mem_cons_of_mem _ h)
  have hown : s.vm.findClass RX12 = some m.cls := findClass_of_methodNamed B.named
  have hlocks := B.notSynchronized
  subst hsz
  have hD := hD0.self (sz := s.heap.size)
  generalize hAe : va_A (va_pl L f) s.heap.size = A at hD ⊢
  have hA : ∀ q : Nat, s.heap.size ≤ q → A q := fun q h => by rw [← hAe]; exact Or.inr h
  have hS : va_S A s.heap s.heap [] := va_S.rf
  have hR : tp_F τ [13, 60, 61] f f := tp_F.rf
  have hl := lv_entry ([.ref h0, .int v, .int u, .int a, .int a4]) (n := 7) (Nat.le_of_ble_eq_true rfl)
  rw [lg_entry_eq]
  generalize (lg_sl ([.ref h0, .int v, .int u, .int a, .int a4]) ++ List.replicate (7 - (lg_sl ([.ref h0, .int v, .int u, .int a, .int a4])).length) Slot.unset).toArray = ls at hl ⊢
  have hl : lv_has ls 7 [(0, .ref h0), (1, .int v), (2, .int u), (3, .int a), (4, .int a4)] := hl
  refine tgk_13 hG ht_h0 (fun y1 y2 y3 y4 y5 y6 y7 y8 y9 y10 y11 y12 y13 y14 y15 y16 y17 y18 y19 y20 y21 y22 y23 y24 y25 => ?_)
  refine tpk_32 hT y1 (fun g27 hf_o26 => ?_)
  have hI : mo_RI (-1) 0 (mo_R g27) := by have q9 := hJ; rw [hf_o26, mo_i1] at q9; exact q9
  refine lv_aload_n hx hb dX12_due_0 rfl (lv_at hl 0 rfl) ?_
  refine lv_iconst (v := 0) hx hb dX12_due_1 (by decide) ?_
  refine tpk_13 hT ht_h0 (fun o28_x0 o28_x1 o28_x7 o28_x9 o28_x10 o28_x11 o28_x12 o28_x13 o28_x14 o28_x15 o28_x16 o28_x17 o28_x18 o28_x19 o28_x20 o28_x22 o28_x25 o28_x28 o28_x29 o28_x32 o28_x33 o28_x34 o28_x35 o28_x36 o28_x37 o28_x38 o28_x47 o28_x48 hf_o28 ro28_0 ro28_1 ro28_2 ro28_3 ro28_4 ro28_5 ro28_6 ro28_7 ro28_8 ro28_9 ro28_10 ro28_11 ro28_12 ro28_13 ro28_14 => ?_)
  refine tpk_pos (tp_in hG ht_h0 (by decide)) hf_o28 (fun q29 eq29 => ?_)
  refine va_put (D := (dC, dI)) (ci := 12) (v := .int 0) (ty := .int) (C := RX12) (T := TX12) (N := 53) hx hb hts hfX12 tyX12 tyX12_ok nmX12 hown hK hP hD hS q29 eq29 rfl 0 (by decide) (hts (.fieldLink RX12 91 "ColdShipsModel" "thrown" "I") wa_209) (fun _ h9 => h9) rfl (tyX12_ok 0 (by decide)) rfl rfl (Nat.le_of_ble_eq_true rfl) dX12_due_2 (tp_k (.inr (12, [.int 0, .int o28_x1, .ref (ρ h0 2), .ref (ρ h0 3), .ref (ρ h0 4), .ref (ρ h0 5), .ref (ρ h0 6), .int o28_x7, .ref (ρ h0 8), .int o28_x9, .int o28_x10, .int o28_x11, .int o28_x12, .long o28_x13, .int o28_x14, .int o28_x15, .int o28_x16, .int o28_x17, .int o28_x18, .int o28_x19, .int o28_x20, .ref (ρ h0 21), .int o28_x22, .ref (ρ h0 23), .ref (ρ h0 24), .int o28_x25, .ref (ρ h0 26), .ref (ρ h0 27), .int o28_x28, .int o28_x29, .ref (ρ h0 30), .ref (ρ h0 31), .int o28_x32, .long o28_x33, .long o28_x34, .long o28_x35, .int o28_x36, .int o28_x37, .int o28_x38, .ref (ρ h0 39), .ref (ρ h0 40), .ref (ρ h0 41), .ref (ρ h0 42), .ref (ρ h0 43), .ref (ρ h0 44), .ref (ρ h0 45), .ref (ρ h0 46), .int o28_x47, .int o28_x48, .ref (ρ h0 49), .ref (ρ h0 50), .ref (ρ h0 51), .ref (ρ h0 52)])) hD (tp_in hG ht_h0 (by decide)) eq29 (fun f30 H locs hP hD hS g32 k31 => ?_))
  have hT := hT.up ht_h0 g32 k31 ⟨_, _, _, _, _, _, _, _, _, _, _, _, _, _, _, _, _, _, _, _, _, _, _, _, _, _, _, _, rfl, ro28_0, ro28_1, ro28_2, ro28_3, ro28_4, ro28_5, ro28_6, ro28_7, ro28_8, ro28_9, ro28_10, ro28_11, ro28_12, ro28_13, ro28_14⟩
  have hR := hR.up ht_h0 (by decide) k31
  refine lv_aload_n hx hb dX12_due_5 rfl (lv_at hl 0 rfl) ?_
  refine lv_iload_n hx hb dX12_due_6 rfl (lv_at hl 1 rfl) ?_
  have hf_33 : f30 (ρ h0 2) = .inl (κ 0, 12967, .inl g27) := (k31 _ (tp_ne y1 ht_h0 (by decide))).trans hf_o26
  refine tpk_pos (tp_in hG ht_h0 (by decide)) g32 (fun q34 eq34 => ?_)
  refine pz_calli (va_runV (As := [.int v]) (rest := []) ⟨hx, hb, hml, hown, hts⟩ (t_X12_isLanding l dC dI _ κ Θ τ ν ρ L f30 hG hT h0 v (-1) 0 ht_h0 (by omega) (by rw [hf_33, mo_i1]; exact hI)) (cwV 1 hts gX12_due_X12_isLanding rfl rfl rfl ⟨rfl, pd_X12_isLanding⟩ ⟨Nat.le_of_ble_eq_true rfl, Nat.le_of_ble_eq_true rfl⟩) ⟨pz_blind, va_recv hK hP (ci := 12) (q0 := q34) rfl eq34, pz_pre hP hK hD hN⟩ rfl rfl hl.1 rfl (lv_room (Nat.le_of_ble_eq_true rfl)) dX12_due_7 ⟨Nat.le_of_ble_eq_true rfl, Nat.le_of_ble_eq_true rfl⟩) (fun r35 hw36 => ?_)
  obtain ⟨hw36r, hw36p⟩ := hw36
  have := hI.k5
  rw [hf_33, mo_i1] at hw36p
  refine lv_if_eq (tgt := 41) hx hb dX12_due_10 (by decide) (fun c37 => ?_) (fun c37 => ?_)
  · have ic37 : r35.toInt = 0 := zi_eq rfl rfl c37
    clear hw36r ic37
    refine lv_ldc2 (own := RX12) (v := (-2000000000000000)) hx hb hown (hts (.constantLong RX12 466 (-2000000000000000)) wa_1189) dX12_due_41 ?_
    exact W.lret (v := (-2000000000000000)) hx hb hr (fun t ht hW => ⟨⟨(-2000000000000000), f30, rfl, ⟨hT, hR, trivial, trivial⟩, by rw [ht]; exact hP, va_K.moved hW.alike hK, hD⟩, hS.F ht⟩) hS.2.2 dX12_due_44
  · have ic37 : r35.toInt ≠ 0 := zi_eqf rfl rfl c37
    replace ic37 : 1 ≤ r35.toInt := by omega
    have p38 : 0 ≤ v.toInt ∧ v.toInt < mo_R g27 5 := (tp_cond.yes hw36p) (by omega)
    clear hw36r ic37
    refine lv_aload_n hx hb dX12_due_13 rfl (lv_at hl 0 rfl) ?_
    refine lv_iload_n hx hb dX12_due_14 rfl (lv_at hl 2 rfl) ?_
    refine pz_calli (va_runV (As := [.int u]) (rest := []) ⟨hx, hb, hml, hown, hts⟩ (t_X12_isContract l dC dI _ κ Θ τ ν ρ L f30 hG hT h0 u (-1) 0 ht_h0 (by omega) (by rw [hf_33, mo_i1]; exact hI)) (cwV 1 hts gX12_due_X12_isContract rfl rfl rfl ⟨rfl, pd_X12_isContract⟩ ⟨Nat.le_of_ble_eq_true rfl, Nat.le_of_ble_eq_true rfl⟩) ⟨pz_blind, va_recv hK hP (ci := 12) (q0 := q34) rfl eq34, pz_pre hP hK hD hN⟩ rfl rfl hl.1 rfl (lv_room (Nat.le_of_ble_eq_true rfl)) dX12_due_15 ⟨Nat.le_of_ble_eq_true rfl, Nat.le_of_ble_eq_true rfl⟩) (fun r39 hw40 => ?_)
    obtain ⟨hw40r, hw40p⟩ := hw40
    have := hI.k8
    rw [hf_33, mo_i1] at hw40p
    refine lv_if_eq (tgt := 41) hx hb dX12_due_18 (by decide) (fun c41 => ?_) (fun c41 => ?_)
    · have ic41 : r39.toInt = 0 := zi_eq rfl rfl c41
      clear hw40r ic41
      refine lv_ldc2 (own := RX12) (v := (-2000000000000000)) hx hb hown (hts (.constantLong RX12 466 (-2000000000000000)) wa_1189) dX12_due_41 ?_
      exact W.lret (v := (-2000000000000000)) hx hb hr (fun t ht hW => ⟨⟨(-2000000000000000), f30, rfl, ⟨hT, hR, trivial, trivial⟩, by rw [ht]; exact hP, va_K.moved hW.alike hK, hD⟩, hS.F ht⟩) hS.2.2 dX12_due_44
    · have ic41 : r39.toInt ≠ 0 := zi_eqf rfl rfl c41
      replace ic41 : 1 ≤ r39.toInt := by omega
      have p42 : 0 ≤ u.toInt ∧ u.toInt < mo_R g27 8 := (tp_cond.yes hw40p) (by omega)
      clear hw40r ic41
      refine lv_iload_n hx hb dX12_due_21 rfl (lv_at hl 3 rfl) ?_
      refine pz_calli (va_runS (As := [.int a]) (rest := []) ⟨hx, hb, hml, hown, hts⟩ (t_X12_isHour l dC dI _ a (a.toInt) rfl) (va_cwS 1 hts gX12_due_X12_isHour rfl rfl rfl pd_X12_isHour ⟨Nat.le_of_ble_eq_true rfl, Nat.le_of_ble_eq_true rfl⟩) ⟨pz_blind, pz_pre pz_P0 (hK.sub (tys' := []) [] rfl) (pz_D0 (A := fun _ => True)) hN⟩ rfl rfl hl.1 rfl (lv_room (Nat.le_of_ble_eq_true rfl)) dX12_due_22 ⟨Nat.le_of_ble_eq_true rfl, Nat.le_of_ble_eq_true rfl⟩) (fun r43 hw44 => ?_)
      obtain ⟨hw44r, hw44p⟩ := hw44
      refine lv_if_eq (tgt := 41) hx hb dX12_due_25 (by decide) (fun c45 => ?_) (fun c45 => ?_)
      · have ic45 : r43.toInt = 0 := zi_eq rfl rfl c45
        clear hw44r ic45
        refine lv_ldc2 (own := RX12) (v := (-2000000000000000)) hx hb hown (hts (.constantLong RX12 466 (-2000000000000000)) wa_1189) dX12_due_41 ?_
        exact W.lret (v := (-2000000000000000)) hx hb hr (fun t ht hW => ⟨⟨(-2000000000000000), f30, rfl, ⟨hT, hR, trivial, trivial⟩, by rw [ht]; exact hP, va_K.moved hW.alike hK, hD⟩, hS.F ht⟩) hS.2.2 dX12_due_44
      · have ic45 : r43.toInt ≠ 0 := zi_eqf rfl rfl c45
        replace ic45 : 1 ≤ r43.toInt := by omega
        have p46 : 0 ≤ (a.toInt) ∧ (a.toInt) ≤ 2399 := (tp_cond.yes hw44p) (by omega)
        clear hw44r ic45
        refine lv_iload hx hb dX12_due_28 (lv_at hl 4 rfl) ?_
        refine lv_i2l hx hb dX12_due_30 rfl ?_
        refine lv_lconst (v := 0) hx hb dX12_due_31 (by decide) ?_
        refine lv_ldc2 (own := RX12) (v := 4) hx hb hown (hts (.constantLong RX12 464 (4)) wa_1188) dX12_due_32 ?_
        refine pz_calli (va_runS (As := [.long a4.toInt64, .long 0, .long 4]) (rest := []) ⟨hx, hb, hml, hown, hts⟩ (t_X12_in l dC dI _ a4.toInt64 (0) (4) (a4.toInt) (0) (4) (Int32.toInt_toInt64 a4) rfl rfl) (va_cwS 3 hts gX12_due_X12_in rfl rfl rfl pd_X12_in ⟨Nat.le_of_ble_eq_true rfl, Nat.le_of_ble_eq_true rfl⟩) ⟨pz_blind, pz_pre pz_P0 (hK.sub (tys' := []) [] rfl) (pz_D0 (A := fun _ => True)) hN⟩ rfl rfl hl.1 rfl (lv_room (Nat.le_of_ble_eq_true rfl)) dX12_due_35 ⟨Nat.le_of_ble_eq_true rfl, Nat.le_of_ble_eq_true rfl⟩) (fun r47 hw48 => ?_)
        obtain ⟨hw48r, hw48p⟩ := hw48
        refine lv_if_ne (tgt := 45) hx hb dX12_due_38 (by decide) (fun c49 => ?_) (fun c49 => ?_)
        · have ic49 : r47.toInt ≠ 0 := zi_ne rfl rfl c49
          replace ic49 : 1 ≤ r47.toInt := by omega
          have p50 : (0) ≤ (a4.toInt) ∧ (a4.toInt) ≤ (4) := (tp_cond.yes hw48p) (by omega)
          clear hw48r ic49
          refine lv_iload_n hx hb dX12_due_45 rfl (lv_at hl 1 rfl) ?_
          refine pz_calli (va_runS (As := [.int v]) (rest := []) ⟨hx, hb, hml, hown, hts⟩ (t_X12_landingAt l dC dI _ v (v.toInt) (by omega) rfl) (va_cwS 1 hts gX12_due_X12_landingAt rfl rfl rfl pd_X12_landingAt ⟨Nat.le_of_ble_eq_true rfl, Nat.le_of_ble_eq_true rfl⟩) ⟨pz_blind, pz_pre pz_P0 (hK.sub (tys' := []) [] rfl) (pz_D0 (A := fun _ => True)) hN⟩ rfl rfl hl.1 rfl (lv_room (Nat.le_of_ble_eq_true rfl)) dX12_due_46 ⟨Nat.le_of_ble_eq_true rfl, Nat.le_of_ble_eq_true rfl⟩) (fun r51 hw52 => ?_)
          obtain ⟨hw52r, hw52p⟩ := hw52
          refine lv_istore (lv' := [(5, .int r51), (0, .ref h0), (1, .int v), (2, .int u), (3, .int a), (4, .int a4)]) hx hb dX12_due_49 hl (by decide) rfl (fun ls hl => ?_)
          refine lv_iload_n hx hb dX12_due_51 rfl (lv_at hl 3 rfl) ?_
          refine pz_calli (va_runS (As := [.int u]) (rest := []) ⟨hx, hb, hml, hown, hts⟩ (t_X12_contractAt l dC dI _ u (u.toInt) (by omega) rfl) (va_cwS 1 hts gX12_due_X12_contractAt rfl rfl rfl pd_X12_contractAt ⟨Nat.le_of_ble_eq_true rfl, Nat.le_of_ble_eq_true rfl⟩) ⟨pz_blind, pz_pre pz_P0 (hK.sub (tys' := []) [] rfl) (pz_D0 (A := fun _ => True)) hN⟩ rfl rfl hl.1 rfl (lv_room (Nat.le_of_ble_eq_true rfl)) dX12_due_52 ⟨Nat.le_of_ble_eq_true rfl, Nat.le_of_ble_eq_true rfl⟩) (fun r53 hw54 => ?_)
          obtain ⟨hw54r, hw54p⟩ := hw54
          refine lv_istore (lv' := [(6, .int r53), (5, .int r51), (0, .ref h0), (1, .int v), (2, .int u), (3, .int a), (4, .int a4)]) hx hb dX12_due_55 hl (by decide) rfl (fun ls hl => ?_)
          refine lv_aload_n hx hb dX12_due_57 rfl (lv_at hl 2 rfl) ?_
          refine lv_iload hx hb dX12_due_58 (lv_at hl 1 rfl) ?_
          refine lv_iload hx hb dX12_due_60 (lv_at hl 0 rfl) ?_
          refine lv_iload_n hx hb dX12_due_62 rfl (lv_at hl 5 rfl) ?_
          have hFc := tp_fr hD hS hA
          refine va_callv (va_runV (As := [.int r51, .int r53, .int a]) (rest := []) ⟨hx, hb, hml, hown, hts⟩ (t_X12_setFor l dC dI _ κ Θ τ ν ρ L f30 hG hT h0 r51 r53 a (-1) 0 v.toInt u.toInt ht_h0 (by omega) (by omega) (by omega) (by omega) (by omega) (by rw [hf_33, mo_i1]; exact hI) (by first | (simp only [hf_33, hf_o26, mo_i1]; omega) | (simp only [hf_33, hf_o26, mo_i1]; trivial) | (simp only [hf_33, hf_o26, mo_i1]; done) | omega) (by first | (simp only [hf_33, hf_o26, mo_i1]; omega) | (simp only [hf_33, hf_o26, mo_i1]; trivial) | (simp only [hf_33, hf_o26, mo_i1]; done) | omega)) (cwV 3 hts gX12_due_X12_setFor rfl rfl rfl ⟨rfl, pd_X12_setFor⟩ ⟨Nat.le_of_ble_eq_true rfl, Nat.le_of_ble_eq_true rfl⟩) ⟨pz_blind, va_recv hK hP (ci := 12) (q0 := q34) rfl eq34, pz_pre hP hK hD hN⟩ rfl rfl hl.1 rfl (lv_room (Nat.le_of_ble_eq_true rfl)) dX12_due_63 ⟨Nat.le_of_ble_eq_true rfl, Nat.le_of_ble_eq_true rfl⟩) hS (fun q _ h => hFc q h) hFc (fun f57 t H1 locs ht hvm hw56 hB hz1 hk1 hS => ?_)
          refine tn_3 hw56 (fun hT hF58 hw56p => ?_); clear hw56
          have hR := hR.then hF58 (by decide)
          have hP := hB.1; rw [ht] at hP; have hD := tp_ad f57 hD; clear hB hFc hz1 hk1; subst ht; generalize t.heap = H at hP hS ⊢
          refine lv_aload_n hx hb dX12_due_66 rfl (lv_at hl 2 rfl) ?_
          refine lv_iload hx hb dX12_due_67 (lv_at hl 1 rfl) ?_
          refine lv_iload hx hb dX12_due_69 (lv_at hl 0 rfl) ?_
          have hf_59 : f57 (ρ h0 2) = .inl (κ 0, 12967, .inl g27) := (hF58 _ (by rw [tp_iu y1]; decide)).trans hf_33
          have hf_60 : f57 h0 = .inr (12, [.int 0, .int o28_x1, .ref (ρ h0 2), .ref (ρ h0 3), .ref (ρ h0 4), .ref (ρ h0 5), .ref (ρ h0 6), .int o28_x7, .ref (ρ h0 8), .int o28_x9, .int o28_x10, .int o28_x11, .int o28_x12, .long o28_x13, .int o28_x14, .int o28_x15, .int o28_x16, .int o28_x17, .int o28_x18, .int o28_x19, .int o28_x20, .ref (ρ h0 21), .int o28_x22, .ref (ρ h0 23), .ref (ρ h0 24), .int o28_x25, .ref (ρ h0 26), .ref (ρ h0 27), .int o28_x28, .int o28_x29, .ref (ρ h0 30), .ref (ρ h0 31), .int o28_x32, .long o28_x33, .long o28_x34, .long o28_x35, .int o28_x36, .int o28_x37, .int o28_x38, .ref (ρ h0 39), .ref (ρ h0 40), .ref (ρ h0 41), .ref (ρ h0 42), .ref (ρ h0 43), .ref (ρ h0 44), .ref (ρ h0 45), .ref (ρ h0 46), .int o28_x47, .int o28_x48, .ref (ρ h0 49), .ref (ρ h0 50), .ref (ρ h0 51), .ref (ρ h0 52)]) := (hF58 _ (by rw [ht_h0]; decide)).trans g32
          refine tpk_pos (tp_in hG ht_h0 (by decide)) hf_60 (fun q61 eq61 => ?_)
          have hFc := tp_fr hD hS hA
          refine va_callv (va_runV (As := [.int r51, .int r53]) (rest := []) ⟨hx, hb, hml, hown, hts⟩ (t_X12_judgeLanding l dC dI _ κ Θ τ ν ρ L f57 hG hT h0 r51 r53 (-1) 0 u.toInt ht_h0 (by omega) (by omega) (by omega) (by rw [hf_59, mo_i1]; exact hI) (by first | (simp only [hf_59, hf_o26, mo_i1]; omega) | (simp only [hf_59, hf_o26, mo_i1]; trivial) | (simp only [hf_59, hf_o26, mo_i1]; done) | omega)) (cwV 2 hts gX12_due_X12_judgeLanding rfl rfl rfl ⟨rfl, pd_X12_judgeLanding⟩ ⟨Nat.le_of_ble_eq_true rfl, Nat.le_of_ble_eq_true rfl⟩) ⟨pz_blind, va_recv hK hP (ci := 12) (q0 := q61) rfl eq61, pz_pre hP hK hD hN⟩ rfl rfl hl.1 rfl (lv_room (Nat.le_of_ble_eq_true rfl)) dX12_due_71 ⟨Nat.le_of_ble_eq_true rfl, Nat.le_of_ble_eq_true rfl⟩) hS (fun q _ h => hFc q h) hFc (fun f64 t H1 locs ht hvm hw63 hB hz1 hk1 hS => ?_)
          refine tn_3 hw63 (fun hT hF65 hw63p => ?_); clear hw63
          have hR := hR.then hF65 (by decide)
          have hP := hB.1; rw [ht] at hP; have hD := tp_ad f64 hD; clear hB hFc hz1 hk1; subst ht; generalize t.heap = H at hP hS ⊢
          refine lv_iload hx hb dX12_due_74 (lv_at hl 6 rfl) ?_
          refine lv_if_ne (tgt := 91) hx hb dX12_due_76 (by decide) (fun c66 => ?_) (fun c66 => ?_)
          · have ic66 : a4.toInt ≠ 0 := zi_ne rfl rfl c66
            replace ic66 : 1 ≤ a4.toInt := by omega
            refine lv_iload hx hb dX12_due_91 (lv_at hl 6 rfl) ?_
            refine lv_iconst (v := 1) hx hb dX12_due_93 (by decide) ?_
            refine lv_icmp_ne (tgt := 104) hx hb dX12_due_94 (by decide) (fun c67 => ?_) (fun c67 => ?_)
            · have ic67 : a4.toInt ≠ 1 := zi_ne rfl rfl c67
              replace ic67 : 2 ≤ a4.toInt := by omega
              refine lv_iload hx hb dX12_due_104 (lv_at hl 6 rfl) ?_
              refine lv_iconst (v := 2) hx hb dX12_due_106 (by decide) ?_
              refine lv_icmp_ne (tgt := 117) hx hb dX12_due_107 (by decide) (fun c68 => ?_) (fun c68 => ?_)
              · have ic68 : a4.toInt ≠ 2 := zi_ne rfl rfl c68
                replace ic68 : 3 ≤ a4.toInt := by omega
                refine lv_iload hx hb dX12_due_117 (lv_at hl 6 rfl) ?_
                refine lv_iconst (v := 3) hx hb dX12_due_119 (by decide) ?_
                refine lv_icmp_ne (tgt := 132) hx hb dX12_due_120 (by decide) (fun c69 => ?_) (fun c69 => ?_)
                · have ic69 : a4.toInt ≠ 3 := zi_ne rfl rfl c69
                  replace ic69 : 4 ≤ a4.toInt := by omega
                  refine lv_aload_n hx hb dX12_due_132 rfl (lv_at hl 2 rfl) ?_
                  refine tpk_13 hT ht_h0 (fun o70_x0 o70_x1 o70_x7 o70_x9 o70_x10 o70_x11 o70_x12 o70_x13 o70_x14 o70_x15 o70_x16 o70_x17 o70_x18 o70_x19 o70_x20 o70_x22 o70_x25 o70_x28 o70_x29 o70_x32 o70_x33 o70_x34 o70_x35 o70_x36 o70_x37 o70_x38 o70_x47 o70_x48 hf_o70 ro70_0 ro70_1 ro70_2 ro70_3 ro70_4 ro70_5 ro70_6 ro70_7 ro70_8 ro70_9 ro70_10 ro70_11 ro70_12 ro70_13 ro70_14 => ?_)
                  refine tpk_pos (tp_in hG ht_h0 (by decide)) hf_o70 (fun q71 eq71 => ?_)
                  refine va_get (D := (dC, dI)) (ci := 12) (v := .ref (ρ h0 30)) (C := RX12) (T := TX12) (N := 53) hx hb hts hfX12 hown hK hP q71 eq71 rfl 30 (by decide) (hts (.fieldLink RX12 49 "ColdShipsModel" "set" "[J") wa_161) (fun _ h9 => h9) rfl dX12_due_133 ?_
                  refine lv_bipush (v := 6) hx hb dX12_due_136 (by decide) ?_
                  refine tpk_60 hT y12 (fun g73 hf_o72 => ?_)
                  refine tpk_pos (tp_in hG y12 (by decide)) hf_o72 (fun q74 eq74 => ?_)
                  refine va_lald hx hb hK hP q74 1 eq74 rfl (vp_in_iff.mpr ⟨by decide, by decide⟩) dX12_due_138 ?_
                  refine lv_topl (fun z75 ez75 => ?_)
                  exact W.lret (v := z75) hx hb hr (fun t ht hW => ⟨⟨z75, f64, rfl, ⟨hT, hR, trivial, trivial⟩, by rw [ht]; exact hP, va_K.moved hW.alike hK, hD⟩, hS.F ht⟩) hS.2.2 dX12_due_139
                · have ic69 : a4.toInt = 3 := zi_nef rfl rfl c69
                  refine lv_aload_n hx hb dX12_due_123 rfl (lv_at hl 2 rfl) ?_
                  refine tpk_13 hT ht_h0 (fun o76_x0 o76_x1 o76_x7 o76_x9 o76_x10 o76_x11 o76_x12 o76_x13 o76_x14 o76_x15 o76_x16 o76_x17 o76_x18 o76_x19 o76_x20 o76_x22 o76_x25 o76_x28 o76_x29 o76_x32 o76_x33 o76_x34 o76_x35 o76_x36 o76_x37 o76_x38 o76_x47 o76_x48 hf_o76 ro76_0 ro76_1 ro76_2 ro76_3 ro76_4 ro76_5 ro76_6 ro76_7 ro76_8 ro76_9 ro76_10 ro76_11 ro76_12 ro76_13 ro76_14 => ?_)
                  refine tpk_pos (tp_in hG ht_h0 (by decide)) hf_o76 (fun q77 eq77 => ?_)
                  refine va_get (D := (dC, dI)) (ci := 12) (v := .ref (ρ h0 30)) (C := RX12) (T := TX12) (N := 53) hx hb hts hfX12 hown hK hP q77 eq77 rfl 30 (by decide) (hts (.fieldLink RX12 49 "ColdShipsModel" "set" "[J") wa_161) (fun _ h9 => h9) rfl dX12_due_124 ?_
                  refine lv_iconst (v := 4) hx hb dX12_due_127 (by decide) ?_
                  refine tpk_60 hT y12 (fun g79 hf_o78 => ?_)
                  refine tpk_pos (tp_in hG y12 (by decide)) hf_o78 (fun q80 eq80 => ?_)
                  refine va_lald hx hb hK hP q80 1 eq80 rfl (vp_in_iff.mpr ⟨by decide, by decide⟩) dX12_due_128 ?_
                  refine lv_topl (fun z81 ez81 => ?_)
                  refine lv_goto (tgt := 139) hx hb dX12_due_129 (by decide) ?_
                  exact W.lret (v := z81) hx hb hr (fun t ht hW => ⟨⟨z81, f64, rfl, ⟨hT, hR, trivial, trivial⟩, by rw [ht]; exact hP, va_K.moved hW.alike hK, hD⟩, hS.F ht⟩) hS.2.2 dX12_due_139
              · have ic68 : a4.toInt = 2 := zi_nef rfl rfl c68
                refine lv_aload_n hx hb dX12_due_110 rfl (lv_at hl 2 rfl) ?_
                refine tpk_13 hT ht_h0 (fun o82_x0 o82_x1 o82_x7 o82_x9 o82_x10 o82_x11 o82_x12 o82_x13 o82_x14 o82_x15 o82_x16 o82_x17 o82_x18 o82_x19 o82_x20 o82_x22 o82_x25 o82_x28 o82_x29 o82_x32 o82_x33 o82_x34 o82_x35 o82_x36 o82_x37 o82_x38 o82_x47 o82_x48 hf_o82 ro82_0 ro82_1 ro82_2 ro82_3 ro82_4 ro82_5 ro82_6 ro82_7 ro82_8 ro82_9 ro82_10 ro82_11 ro82_12 ro82_13 ro82_14 => ?_)
                refine tpk_pos (tp_in hG ht_h0 (by decide)) hf_o82 (fun q83 eq83 => ?_)
                refine va_get (D := (dC, dI)) (ci := 12) (v := .long o82_x35) (C := RX12) (T := TX12) (N := 53) hx hb hts hfX12 hown hK hP q83 eq83 rfl 35 (by decide) (hts (.fieldLink RX12 455 "ColdShipsModel" "fines" "J") wa_1191) (fun _ h9 => h9) rfl dX12_due_111 ?_
                refine lv_goto (tgt := 139) hx hb dX12_due_114 (by decide) ?_
                exact W.lret (v := o82_x35) hx hb hr (fun t ht hW => ⟨⟨o82_x35, f64, rfl, ⟨hT, hR, trivial, trivial⟩, by rw [ht]; exact hP, va_K.moved hW.alike hK, hD⟩, hS.F ht⟩) hS.2.2 dX12_due_139
            · have ic67 : a4.toInt = 1 := zi_nef rfl rfl c67
              refine lv_aload_n hx hb dX12_due_97 rfl (lv_at hl 2 rfl) ?_
              refine tpk_13 hT ht_h0 (fun o84_x0 o84_x1 o84_x7 o84_x9 o84_x10 o84_x11 o84_x12 o84_x13 o84_x14 o84_x15 o84_x16 o84_x17 o84_x18 o84_x19 o84_x20 o84_x22 o84_x25 o84_x28 o84_x29 o84_x32 o84_x33 o84_x34 o84_x35 o84_x36 o84_x37 o84_x38 o84_x47 o84_x48 hf_o84 ro84_0 ro84_1 ro84_2 ro84_3 ro84_4 ro84_5 ro84_6 ro84_7 ro84_8 ro84_9 ro84_10 ro84_11 ro84_12 ro84_13 ro84_14 => ?_)
              refine tpk_pos (tp_in hG ht_h0 (by decide)) hf_o84 (fun q85 eq85 => ?_)
              refine va_get (D := (dC, dI)) (ci := 12) (v := .long o84_x34) (C := RX12) (T := TX12) (N := 53) hx hb hts hfX12 hown hK hP q85 eq85 rfl 34 (by decide) (hts (.fieldLink RX12 452 "ColdShipsModel" "pays" "J") wa_1190) (fun _ h9 => h9) rfl dX12_due_98 ?_
              refine lv_goto (tgt := 139) hx hb dX12_due_101 (by decide) ?_
              exact W.lret (v := o84_x34) hx hb hr (fun t ht hW => ⟨⟨o84_x34, f64, rfl, ⟨hT, hR, trivial, trivial⟩, by rw [ht]; exact hP, va_K.moved hW.alike hK, hD⟩, hS.F ht⟩) hS.2.2 dX12_due_139
          · have ic66 : a4.toInt = 0 := zi_nef rfl rfl c66
            refine lv_aload_n hx hb dX12_due_79 rfl (lv_at hl 2 rfl) ?_
            refine tpk_13 hT ht_h0 (fun o86_x0 o86_x1 o86_x7 o86_x9 o86_x10 o86_x11 o86_x12 o86_x13 o86_x14 o86_x15 o86_x16 o86_x17 o86_x18 o86_x19 o86_x20 o86_x22 o86_x25 o86_x28 o86_x29 o86_x32 o86_x33 o86_x34 o86_x35 o86_x36 o86_x37 o86_x38 o86_x47 o86_x48 hf_o86 ro86_0 ro86_1 ro86_2 ro86_3 ro86_4 ro86_5 ro86_6 ro86_7 ro86_8 ro86_9 ro86_10 ro86_11 ro86_12 ro86_13 ro86_14 => ?_)
            refine tpk_pos (tp_in hG ht_h0 (by decide)) hf_o86 (fun q87 eq87 => ?_)
            refine va_get (D := (dC, dI)) (ci := 12) (v := .long o86_x34) (C := RX12) (T := TX12) (N := 53) hx hb hts hfX12 hown hK hP q87 eq87 rfl 34 (by decide) (hts (.fieldLink RX12 452 "ColdShipsModel" "pays" "J") wa_1190) (fun _ h9 => h9) rfl dX12_due_80 ?_
            refine lv_aload_n hx hb dX12_due_83 rfl (lv_at hl 2 rfl) ?_
            refine va_get (D := (dC, dI)) (ci := 12) (v := .long o86_x35) (C := RX12) (T := TX12) (N := 53) hx hb hts hfX12 hown hK hP q87 eq87 rfl 35 (by decide) (hts (.fieldLink RX12 455 "ColdShipsModel" "fines" "J") wa_1191) (fun _ h9 => h9) rfl dX12_due_84 ?_
            refine lv_lsub hx hb dX12_due_87 ?_
            refine lv_topl (fun z88 ez88 => ?_)
            refine lv_goto (tgt := 139) hx hb dX12_due_88 (by decide) ?_
            exact W.lret (v := z88) hx hb hr (fun t ht hW => ⟨⟨z88, f64, rfl, ⟨hT, hR, trivial, trivial⟩, by rw [ht]; exact hP, va_K.moved hW.alike hK, hD⟩, hS.F ht⟩) hS.2.2 dX12_due_139
        · have ic49 : r47.toInt = 0 := zi_nef rfl rfl c49
          clear hw48r ic49
          refine lv_ldc2 (own := RX12) (v := (-2000000000000000)) hx hb hown (hts (.constantLong RX12 466 (-2000000000000000)) wa_1189) dX12_due_41 ?_
          exact W.lret (v := (-2000000000000000)) hx hb hr (fun t ht hW => ⟨⟨(-2000000000000000), f30, rfl, ⟨hT, hR, trivial, trivial⟩, by rw [ht]; exact hP, va_K.moved hW.alike hK, hD⟩, hS.F ht⟩) hS.2.2 dX12_due_44
set_option maxHeartbeats 4000000 in
set_option maxRecDepth 100000 in
theorem t_X12_settle (l : Launch) (dC : Nat → ClassId) (dI : Nat → Nat → Nat) (sz : Nat) (κ : Nat → ClassId) (Θ : Nat → Option Int) (τ ν : Nat → Nat) (ρ : Nat → Nat → Nat) (L : List Nat) (f : Nat → va_E) (hG : tp_G τ ν ρ L) (hT : tp_T (mo_O κ Θ) κ τ ν ρ f) (h0 : Nat) (v : Int32) (u : Int32) (ht_h0 : τ h0 = 13) (hJ : mo_RI (-1) 0 (mo_R (mo_i (f (ρ h0 2))))) : Met l yX12_settle wqX12_settle ({ frames := 6, cells := 0, slots := 0, locals := 2000 }) (va_Pc [.ref h0, .int v, .int u] (pz_B dC dI (tp_K κ) (va_pl L f) sz)) (va_Qi (fun (r : Int32) (f1 : Nat → va_E) => tp_T (mo_O κ Θ) κ τ ν ρ f1 ∧ tp_F τ [13, 32, 60, 61] f f1 ∧ True ∧ mo_RI (-1) 0 (mo_R (mo_i (f1 (ρ h0 2)))) ∧ mo_KN (fun k => False) (mo_R (mo_i (f (ρ h0 2)))) (mo_R (mo_i (f1 (ρ h0 2))))) (fun (f1 : Nat → va_E) (t : State) => pz_E dC dI (tp_K κ) (va_A (va_pl L f) sz) (va_pl L f1) t) (va_A (va_pl L f) sz)) 0 0 (va_A (va_pl L f) sz) := by
  refine Met.ofW (cc := cX12_settle) (maxL := 6) (ret := some .int) (by decide) rfl ?_
  intro p e s m args below meth c s₁ B hml hv
  obtain ⟨rfl, hsz, hP, hK, hD0, hN⟩ := hv
  have hx := B.exec
  have hb := B.bytes
  have hr := B.returns
  have hts := fun (w : Cond) (h : w ∈ WALL) => atoms_spec (ws := wqX12_settle) B.pre w (List.mem_cons_of_mem _ h)
  have hown : s.vm.findClass RX12 = some m.cls := findClass_of_methodNamed B.named
  have hlocks := B.notSynchronized
  subst hsz
  have hD := hD0.self (sz := s.heap.size)
  generalize hAe : va_A (va_pl L f) s.heap.size = A at hD ⊢
  have hA : ∀ q : Nat, s.heap.size ≤ q → A q := fun q h => by rw [← hAe]; exact Or.inr h
  have hS : va_S A s.heap s.heap [] := va_S.rf
  have hR : tp_F τ [13, 32, 60, 61] f f := tp_F.rf
  have hl := lv_entry ([.ref h0, .int v, .int u]) (n := 6) (Nat.le_of_ble_eq_true rfl)
  rw [lg_entry_eq]
  generalize (lg_sl ([.ref h0, .int v, .int u]) ++ List.replicate (6 - (lg_sl ([.ref h0, .int v, .int u])).length) Slot.unset).toArray = ls at hl ⊢
  have hl : lv_has ls 6 [(0, .ref h0), (1, .int v), (2, .int u)] := hl
  refine tgk_13 hG ht_h0 (fun y1 y2 y3 y4 y5 y6 y7 y8 y9 y10 y11 y12 y13 y14 y15 y16 y17 y18 y19 y20 y21 y22 y23 y24 y25 => ?_)
  refine tpk_32 hT y1 (fun g27 hf_o26 => ?_)
  have hI : mo_RI (-1) 0 (mo_R g27) := by have q9 := hJ; rw [hf_o26, mo_i1] at q9; exact q9
  have hKN : mo_KN (fun k => False) (mo_R g27) (mo_R g27) := mo_KN.rf
  refine lv_aload_n hx hb dX12_settle_0 rfl (lv_at hl 0 rfl) ?_
  refine lv_iconst (v := 0) hx hb dX12_settle_1 (by decide) ?_
  refine tpk_13 hT ht_h0 (fun o28_x0 o28_x1 o28_x7 o28_x9 o28_x10 o28_x11 o28_x12 o28_x13 o28_x14 o28_x15 o28_x16 o28_x17 o28_x18 o28_x19 o28_x20 o28_x22 o28_x25 o28_x28 o28_x29 o28_x32 o28_x33 o28_x34 o28_x35 o28_x36 o28_x37 o28_x38 o28_x47 o28_x48 hf_o28 ro28_0 ro28_1 ro28_2 ro28_3 ro28_4 ro28_5 ro28_6 ro28_7 ro28_8 ro28_9 ro28_10 ro28_11 ro28_12 ro28_13 ro28_14 => ?_)
  refine tpk_pos (tp_in hG ht_h0 (by decide)) hf_o28 (fun q29 eq29 => ?_)
  refine va_put (D := (dC, dI)) (ci := 12) (v := .int 0) (ty := .int) (C := RX12) (T := TX12) (N := 53) hx hb hts hfX12 tyX12 tyX12_ok nmX12 hown hK hP hD hS q29 eq29 rfl 0 (by decide) (hts (.fieldLink RX12 91 "ColdShipsModel" "thrown" "I") wa_209) (fun _ h9 => h9) rfl (tyX12_ok 0 (by decide)) rfl rfl (Nat.le_of_ble_eq_true rfl) dX12_settle_2 (tp_k (.inr (12, [.int 0, .int o28_x1, .ref (ρ h0 2), .ref (ρ h0 3), .ref (ρ h0 4), .ref (ρ h0 5), .ref (ρ h0 6), .int o28_x7, .ref (ρ h0 8), .int o28_x9, .int o28_x10, .int o28_x11, .int o28_x12, .long o28_x13, .int o28_x14, .int o28_x15, .int o28_x16, .int o28_x17, .int o28_x18, .int o28_x19, .int o28_x20, .ref (ρ h0 21), .int o28_x22, .ref (ρ h0 23), .ref (ρ h0 24), .int o28_x25, .ref (ρ h0 26), .ref (ρ h0 27), .int o28_x28, .int o28_x29, .ref (ρ h0 30), .ref (ρ h0 31), .int o28_x32, .long o28_x33, .long o28_x34, .long o28_x35, .int o28_x36, .int o28_x37, .int o28_x38, .ref (ρ h0 39), .ref (ρ h0 40), .ref (ρ h0 41), .ref (ρ h0 42), .ref (ρ h0 43), .ref (ρ h0 44), .ref (ρ h0 45), .ref (ρ h0 46), .int o28_x47, .int o28_x48, .ref (ρ h0 49), .ref (ρ h0 50), .ref (ρ h0 51), .ref (ρ h0 52)])) hD (tp_in hG ht_h0 (by decide)) eq29 (fun f30 H locs hP hD hS g32 k31 => ?_))
  have hT := hT.up ht_h0 g32 k31 ⟨_, _, _, _, _, _, _, _, _, _, _, _, _, _, _, _, _, _, _, _, _, _, _, _, _, _, _, _, rfl, ro28_0, ro28_1, ro28_2, ro28_3, ro28_4, ro28_5, ro28_6, ro28_7, ro28_8, ro28_9, ro28_10, ro28_11, ro28_12, ro28_13, ro28_14⟩
  have hR := hR.up ht_h0 (by decide) k31
  refine lv_aload_n hx hb dX12_settle_5 rfl (lv_at hl 0 rfl) ?_
  refine lv_iload_n hx hb dX12_settle_6 rfl (lv_at hl 1 rfl) ?_
  have hf_33 : f30 (ρ h0 2) = .inl (κ 0, 12967, .inl g27) := (k31 _ (tp_ne y1 ht_h0 (by decide))).trans hf_o26
  refine tpk_pos (tp_in hG ht_h0 (by decide)) g32 (fun q34 eq34 => ?_)
  refine pz_calli (va_runV (As := [.int v]) (rest := []) ⟨hx, hb, hml, hown, hts⟩ (t_X12_isLanding l dC dI _ κ Θ τ ν ρ L f30 hG hT h0 v (-1) 0 ht_h0 (by omega) (by rw [hf_33, mo_i1]; exact hI)) (cwV 1 hts gX12_settle_X12_isLanding rfl rfl rfl ⟨rfl, pd_X12_isLanding⟩ ⟨Nat.le_of_ble_eq_true rfl, Nat.le_of_ble_eq_true rfl⟩) ⟨pz_blind, va_recv hK hP (ci := 12) (q0 := q34) rfl eq34, pz_pre hP hK hD hN⟩ rfl rfl hl.1 rfl (lv_room (Nat.le_of_ble_eq_true rfl)) dX12_settle_7 ⟨Nat.le_of_ble_eq_true rfl, Nat.le_of_ble_eq_true rfl⟩) (fun r35 hw36 => ?_)
  obtain ⟨hw36r, hw36p⟩ := hw36
  have := hI.k5
  rw [hf_33, mo_i1] at hw36p
  refine lv_if_eq (tgt := 21) hx hb dX12_settle_10 (by decide) (fun c37 => ?_) (fun c37 => ?_)
  · have ic37 : r35.toInt = 0 := zi_eq rfl rfl c37
    clear hw36r ic37
    refine lv_aload_n hx hb dX12_settle_21 rfl (lv_at hl 0 rfl) ?_
    refine lv_bipush (v := (-2)) hx hb dX12_settle_22 (by decide) ?_
    have hFc := tp_fr hD hS hA
    refine va_calli (va_runV (As := [.int (-2)]) (rest := []) ⟨hx, hb, hml, hown, hts⟩ (t_X12_told l dC dI _ κ Θ τ ν ρ L f30 hG hT h0 ((-2)) ht_h0) (cwV 1 hts gX12_settle_X12_told rfl rfl rfl ⟨rfl, pd_X12_told⟩ ⟨Nat.le_of_ble_eq_true rfl, Nat.le_of_ble_eq_true rfl⟩) ⟨pz_blind, va_recv hK hP (ci := 12) (q0 := q34) rfl eq34, pz_pre hP hK hD hN⟩ rfl rfl hl.1 rfl (lv_room (Nat.le_of_ble_eq_true rfl)) dX12_settle_24 ⟨Nat.le_of_ble_eq_true rfl, Nat.le_of_ble_eq_true rfl⟩) hS (fun q _ h => hFc q h) hFc (fun r38 f40 t H1 locs ht hvm hw39 hB hz1 hk1 hS => ?_)
    refine tn_4 hw39 (fun hT hF41 hw39r hw39p => ?_); clear hw39
    have hR := hR.then hF41 (by decide)
    have hP := hB.1; rw [ht] at hP; have hD := tp_ad f40 hD; clear hB hFc hz1 hk1; subst ht; generalize t.heap = H at hP hS ⊢
    have hw39pq : r38.toInt = (-2) := by rw [hw39p]; rfl
    have hf_42 : f40 (ρ h0 2) = .inl (κ 0, 12967, .inl g27) := (hF41 _ (by rw [tp_iu y1]; decide)).trans hf_33
    exact W.iret (v := r38) hx hb hr (fun t ht hW => ⟨⟨r38, f40, rfl, ⟨hT, hR, trivial, ⟨(by rw [hf_42, mo_i1]; exact hI), (by rw [hf_42, mo_i1, hf_o26, mo_i1]; exact hKN)⟩⟩, by rw [ht]; exact hP, va_K.moved hW.alike hK, hD⟩, hS.F ht⟩) hS.2.2 dX12_settle_27
  · have ic37 : r35.toInt ≠ 0 := zi_eqf rfl rfl c37
    replace ic37 : 1 ≤ r35.toInt := by omega
    have p43 : 0 ≤ v.toInt ∧ v.toInt < mo_R g27 5 := (tp_cond.yes hw36p) (by omega)
    clear hw36r ic37
    refine lv_aload_n hx hb dX12_settle_13 rfl (lv_at hl 0 rfl) ?_
    refine lv_iload_n hx hb dX12_settle_14 rfl (lv_at hl 2 rfl) ?_
    refine pz_calli (va_runV (As := [.int u]) (rest := []) ⟨hx, hb, hml, hown, hts⟩ (t_X12_isContract l dC dI _ κ Θ τ ν ρ L f30 hG hT h0 u (-1) 0 ht_h0 (by omega) (by rw [hf_33, mo_i1]; exact hI)) (cwV 1 hts gX12_settle_X12_isContract rfl rfl rfl ⟨rfl, pd_X12_isContract⟩ ⟨Nat.le_of_ble_eq_true rfl, Nat.le_of_ble_eq_true rfl⟩) ⟨pz_blind, va_recv hK hP (ci := 12) (q0 := q34) rfl eq34, pz_pre hP hK hD hN⟩ rfl rfl hl.1 rfl (lv_room (Nat.le_of_ble_eq_true rfl)) dX12_settle_15 ⟨Nat.le_of_ble_eq_true rfl, Nat.le_of_ble_eq_true rfl⟩) (fun r44 hw45 => ?_)
    obtain ⟨hw45r, hw45p⟩ := hw45
    have := hI.k8
    rw [hf_33, mo_i1] at hw45p
    refine lv_if_ne (tgt := 28) hx hb dX12_settle_18 (by decide) (fun c46 => ?_) (fun c46 => ?_)
    · have ic46 : r44.toInt ≠ 0 := zi_ne rfl rfl c46
      replace ic46 : 1 ≤ r44.toInt := by omega
      have p47 : 0 ≤ u.toInt ∧ u.toInt < mo_R g27 8 := (tp_cond.yes hw45p) (by omega)
      clear hw45r ic46
      refine lv_iload_n hx hb dX12_settle_28 rfl (lv_at hl 1 rfl) ?_
      refine pz_calli (va_runS (As := [.int v]) (rest := []) ⟨hx, hb, hml, hown, hts⟩ (t_X12_landingAt l dC dI _ v (v.toInt) (by omega) rfl) (va_cwS 1 hts gX12_settle_X12_landingAt rfl rfl rfl pd_X12_landingAt ⟨Nat.le_of_ble_eq_true rfl, Nat.le_of_ble_eq_true rfl⟩) ⟨pz_blind, pz_pre pz_P0 (hK.sub (tys' := []) [] rfl) (pz_D0 (A := fun _ => True)) hN⟩ rfl rfl hl.1 rfl (lv_room (Nat.le_of_ble_eq_true rfl)) dX12_settle_29 ⟨Nat.le_of_ble_eq_true rfl, Nat.le_of_ble_eq_true rfl⟩) (fun r48 hw49 => ?_)
      obtain ⟨hw49r, hw49p⟩ := hw49
      refine lv_istore_n (lv' := [(3, .int r48), (0, .ref h0), (1, .int v), (2, .int u)]) hx hb dX12_settle_32 rfl hl (by decide) rfl (fun ls hl => ?_)
      refine lv_aload_n hx hb dX12_settle_33 rfl (lv_at hl 1 rfl) ?_
      refine va_get (D := (dC, dI)) (ci := 12) (v := .ref (ρ h0 2)) (C := RX12) (T := TX12) (N := 53) hx hb hts hfX12 hown hK hP q34 eq34 rfl 2 (by decide) (hts (.fieldLink RX12 7 "ColdShipsModel" "row" "[I") wa_148) (fun _ h9 => h9) rfl dX12_settle_34 ?_
      refine lv_iload_n hx hb dX12_settle_37 rfl (lv_at hl 0 rfl) ?_
      refine lv_bipush (v := 12) hx hb dX12_settle_38 (by decide) ?_
      refine lv_iadd hx hb dX12_settle_40 ?_
      refine lv_topi (fun z50 ez50 => ?_)
      have iz50 : z50.toInt = r48.toInt + 12 := zi_add ez50 rfl rfl (by omega) (by omega)
      refine tpk_pos (tp_in hG y1 (by decide)) hf_33 (fun q51 eq51 => ?_)
      refine va_iald hx hb hK hP q51 0 eq51 rfl (vp_in_iff.mpr ⟨by omega, by omega⟩) dX12_settle_41 ?_
      refine lv_topi (fun z52 ez52 => ?_)
      refine lv_iconst (v := (-1)) hx hb dX12_settle_42 (by decide) ?_
      refine lv_icmp_eq (tgt := 53) hx hb dX12_settle_43 (by decide) (fun c53 => ?_) (fun c53 => ?_)
      · have ic53 : z52.toInt = (-1) := zi_eq rfl rfl c53
        refine lv_aload_n hx hb dX12_settle_53 rfl (lv_at hl 1 rfl) ?_
        refine lv_iload_n hx hb dX12_settle_54 rfl (lv_at hl 0 rfl) ?_
        refine lv_iload_n hx hb dX12_settle_55 rfl (lv_at hl 3 rfl) ?_
        refine pz_calli (va_runS (As := [.int u]) (rest := [.int r48, .ref h0]) ⟨hx, hb, hml, hown, hts⟩ (t_X12_contractAt l dC dI _ u (u.toInt) (by omega) rfl) (va_cwS 1 hts gX12_settle_X12_contractAt rfl rfl rfl pd_X12_contractAt ⟨Nat.le_of_ble_eq_true rfl, Nat.le_of_ble_eq_true rfl⟩) ⟨pz_blind, pz_pre pz_P0 (hK.sub (tys' := []) [] rfl) (pz_D0 (A := fun _ => True)) hN⟩ rfl rfl hl.1 rfl (lv_room (Nat.le_of_ble_eq_true rfl)) dX12_settle_56 ⟨Nat.le_of_ble_eq_true rfl, Nat.le_of_ble_eq_true rfl⟩) (fun r54 hw55 => ?_)
        obtain ⟨hw55r, hw55p⟩ := hw55
        refine lv_aload_n hx hb dX12_settle_59 rfl (lv_at hl 1 rfl) ?_
        refine va_get (D := (dC, dI)) (ci := 12) (v := .ref (ρ h0 2)) (C := RX12) (T := TX12) (N := 53) hx hb hts hfX12 hown hK hP q34 eq34 rfl 2 (by decide) (hts (.fieldLink RX12 7 "ColdShipsModel" "row" "[I") wa_148) (fun _ h9 => h9) rfl dX12_settle_60 ?_
        refine lv_bipush (v := 11) hx hb dX12_settle_63 (by decide) ?_
        refine va_iald hx hb hK hP q51 0 eq51 rfl (vp_in_iff.mpr ⟨by decide, by decide⟩) dX12_settle_65 ?_
        refine lv_topi (fun z56 ez56 => ?_)
        have jz56 : z56.toInt = mo_R g27 (11) := mo_rd ez56 (show (11 : Int32).toInt = (11) from by decide)
        have kz56 := hI.k11
        have hFc := tp_fr hD hS hA
        refine va_callv (va_runV (As := [.int r48, .int r54, .int z56]) (rest := []) ⟨hx, hb, hml, hown, hts⟩ (t_X12_setFor l dC dI _ κ Θ τ ν ρ L f30 hG hT h0 r48 r54 z56 (-1) 0 v.toInt u.toInt ht_h0 (by omega) (by omega) (by omega) (by omega) (by omega) (by rw [hf_33, mo_i1]; exact hI) (by first | (simp only [hf_33, hf_o26, mo_i1]; omega) | (simp only [hf_33, hf_o26, mo_i1]; trivial) | (simp only [hf_33, hf_o26, mo_i1]; done) | omega) (by first | (simp only [hf_33, hf_o26, mo_i1]; omega) | (simp only [hf_33, hf_o26, mo_i1]; trivial) | (simp only [hf_33, hf_o26, mo_i1]; done) | omega)) (cwV 3 hts gX12_settle_X12_setFor rfl rfl rfl ⟨rfl, pd_X12_setFor⟩ ⟨Nat.le_of_ble_eq_true rfl, Nat.le_of_ble_eq_true rfl⟩) ⟨pz_blind, va_recv hK hP (ci := 12) (q0 := q34) rfl eq34, pz_pre hP hK hD hN⟩ rfl rfl hl.1 rfl (lv_room (Nat.le_of_ble_eq_true rfl)) dX12_settle_66 ⟨Nat.le_of_ble_eq_true rfl, Nat.le_of_ble_eq_true rfl⟩) hS (fun q _ h => hFc q h) hFc (fun f59 t H1 locs ht hvm hw58 hB hz1 hk1 hS => ?_)
        refine tn_3 hw58 (fun hT hF60 hw58p => ?_); clear hw58
        have hR := hR.then hF60 (by decide)
        have hP := hB.1; rw [ht] at hP; have hD := tp_ad f59 hD; clear hB hFc hz1 hk1; subst ht; generalize t.heap = H at hP hS ⊢
        refine lv_aload_n hx hb dX12_settle_69 rfl (lv_at hl 1 rfl) ?_
        refine lv_iload_n hx hb dX12_settle_70 rfl (lv_at hl 0 rfl) ?_
        refine lv_iload_n hx hb dX12_settle_71 rfl (lv_at hl 3 rfl) ?_
        have hf_61 : f59 (ρ h0 2) = .inl (κ 0, 12967, .inl g27) := (hF60 _ (by rw [tp_iu y1]; decide)).trans hf_33
        refine pz_calli (va_runS (As := [.int u]) (rest := [.int r48, .ref h0]) ⟨hx, hb, hml, hown, hts⟩ (t_X12_contractAt l dC dI _ u (u.toInt) (by omega) rfl) (va_cwS 1 hts gX12_settle_X12_contractAt rfl rfl rfl pd_X12_contractAt ⟨Nat.le_of_ble_eq_true rfl, Nat.le_of_ble_eq_true rfl⟩) ⟨pz_blind, pz_pre pz_P0 (hK.sub (tys' := []) [] rfl) (pz_D0 (A := fun _ => True)) hN⟩ rfl rfl hl.1 rfl (lv_room (Nat.le_of_ble_eq_true rfl)) dX12_settle_72 ⟨Nat.le_of_ble_eq_true rfl, Nat.le_of_ble_eq_true rfl⟩) (fun r62 hw63 => ?_)
        obtain ⟨hw63r, hw63p⟩ := hw63
        have hf_64 : f59 h0 = .inr (12, [.int 0, .int o28_x1, .ref (ρ h0 2), .ref (ρ h0 3), .ref (ρ h0 4), .ref (ρ h0 5), .ref (ρ h0 6), .int o28_x7, .ref (ρ h0 8), .int o28_x9, .int o28_x10, .int o28_x11, .int o28_x12, .long o28_x13, .int o28_x14, .int o28_x15, .int o28_x16, .int o28_x17, .int o28_x18, .int o28_x19, .int o28_x20, .ref (ρ h0 21), .int o28_x22, .ref (ρ h0 23), .ref (ρ h0 24), .int o28_x25, .ref (ρ h0 26), .ref (ρ h0 27), .int o28_x28, .int o28_x29, .ref (ρ h0 30), .ref (ρ h0 31), .int o28_x32, .long o28_x33, .long o28_x34, .long o28_x35, .int o28_x36, .int o28_x37, .int o28_x38, .ref (ρ h0 39), .ref (ρ h0 40), .ref (ρ h0 41), .ref (ρ h0 42), .ref (ρ h0 43), .ref (ρ h0 44), .ref (ρ h0 45), .ref (ρ h0 46), .int o28_x47, .int o28_x48, .ref (ρ h0 49), .ref (ρ h0 50), .ref (ρ h0 51), .ref (ρ h0 52)]) := (hF60 _ (by rw [ht_h0]; decide)).trans g32
        refine tpk_pos (tp_in hG ht_h0 (by decide)) hf_64 (fun q65 eq65 => ?_)
        have hFc := tp_fr hD hS hA
        refine va_callv (va_runV (As := [.int r48, .int r62]) (rest := []) ⟨hx, hb, hml, hown, hts⟩ (t_X12_judgeLanding l dC dI _ κ Θ τ ν ρ L f59 hG hT h0 r48 r62 (-1) 0 u.toInt ht_h0 (by omega) (by omega) (by omega) (by rw [hf_61, mo_i1]; exact hI) (by first | (simp only [hf_61, hf_o26, mo_i1]; omega) | (simp only [hf_61, hf_o26, mo_i1]; trivial) | (simp only [hf_61, hf_o26, mo_i1]; done) | omega)) (cwV 2 hts gX12_settle_X12_judgeLanding rfl rfl rfl ⟨rfl, pd_X12_judgeLanding⟩ ⟨Nat.le_of_ble_eq_true rfl, Nat.le_of_ble_eq_true rfl⟩) ⟨pz_blind, va_recv hK hP (ci := 12) (q0 := q65) rfl eq65, pz_pre hP hK hD hN⟩ rfl rfl hl.1 rfl (lv_room (Nat.le_of_ble_eq_true rfl)) dX12_settle_75 ⟨Nat.le_of_ble_eq_true rfl, Nat.le_of_ble_eq_true rfl⟩) hS (fun q _ h => hFc q h) hFc (fun f68 t H1 locs ht hvm hw67 hB hz1 hk1 hS => ?_)
        refine tn_3 hw67 (fun hT hF69 hw67p => ?_); clear hw67
        have hR := hR.then hF69 (by decide)
        have hP := hB.1; rw [ht] at hP; have hD := tp_ad f68 hD; clear hB hFc hz1 hk1; subst ht; generalize t.heap = H at hP hS ⊢
        refine lv_aload_n hx hb dX12_settle_78 rfl (lv_at hl 1 rfl) ?_
        refine tpk_13 hT ht_h0 (fun o70_x0 o70_x1 o70_x7 o70_x9 o70_x10 o70_x11 o70_x12 o70_x13 o70_x14 o70_x15 o70_x16 o70_x17 o70_x18 o70_x19 o70_x20 o70_x22 o70_x25 o70_x28 o70_x29 o70_x32 o70_x33 o70_x34 o70_x35 o70_x36 o70_x37 o70_x38 o70_x47 o70_x48 hf_o70 ro70_0 ro70_1 ro70_2 ro70_3 ro70_4 ro70_5 ro70_6 ro70_7 ro70_8 ro70_9 ro70_10 ro70_11 ro70_12 ro70_13 ro70_14 => ?_)
        refine tpk_pos (tp_in hG ht_h0 (by decide)) hf_o70 (fun q71 eq71 => ?_)
        refine va_get (D := (dC, dI)) (ci := 12) (v := .long o70_x34) (C := RX12) (T := TX12) (N := 53) hx hb hts hfX12 hown hK hP q71 eq71 rfl 34 (by decide) (hts (.fieldLink RX12 452 "ColdShipsModel" "pays" "J") wa_1190) (fun _ h9 => h9) rfl dX12_settle_79 ?_
        refine lv_aload_n hx hb dX12_settle_82 rfl (lv_at hl 1 rfl) ?_
        refine va_get (D := (dC, dI)) (ci := 12) (v := .long o70_x35) (C := RX12) (T := TX12) (N := 53) hx hb hts hfX12 hown hK hP q71 eq71 rfl 35 (by decide) (hts (.fieldLink RX12 455 "ColdShipsModel" "fines" "J") wa_1191) (fun _ h9 => h9) rfl dX12_settle_83 ?_
        refine lv_lsub hx hb dX12_settle_86 ?_
        refine lv_topl (fun z72 ez72 => ?_)
        refine lv_lstore (lv' := [(4, .long z72), (3, .int r48), (0, .ref h0), (1, .int v), (2, .int u)]) hx hb dX12_settle_87 hl (by decide) rfl (fun ls hl => ?_)
        refine lv_aload_n hx hb dX12_settle_89 rfl (lv_at hl 2 rfl) ?_
        refine va_get (D := (dC, dI)) (ci := 12) (v := .ref (ρ h0 2)) (C := RX12) (T := TX12) (N := 53) hx hb hts hfX12 hown hK hP q71 eq71 rfl 2 (by decide) (hts (.fieldLink RX12 7 "ColdShipsModel" "row" "[I") wa_148) (fun _ h9 => h9) rfl dX12_settle_90 ?_
        refine lv_iload_n hx hb dX12_settle_93 rfl (lv_at hl 1 rfl) ?_
        refine lv_bipush (v := 12) hx hb dX12_settle_94 (by decide) ?_
        refine lv_iadd hx hb dX12_settle_96 ?_
        refine lv_topi (fun z73 ez73 => ?_)
        have iz73 : z73.toInt = r48.toInt + 12 := zi_add ez73 rfl rfl (by omega) (by omega)
        refine lv_iload_n hx hb dX12_settle_97 rfl (lv_at hl 4 rfl) ?_
        have hf_74 : f68 (ρ h0 2) = .inl (κ 0, 12967, .inl g27) := (hF69 _ (by rw [tp_iu y1]; decide)).trans hf_61
        refine tpk_pos (tp_in hG y1 (by decide)) hf_74 (fun q75 eq75 => ?_)
        refine va_iast hx hb hK hP hD hS q75 0 eq75 rfl (vp_in_iff.mpr ⟨by omega, by omega⟩) dX12_settle_98 (tp_k (.inl (κ 0, 12967, .inl (upd g27 z73.toNatClampNeg u))) hD (tp_in hG y1 (by decide)) eq75 (fun f76 H locs hP hD hS g78 k77 => ?_))
        have hT := hT.up y1 g78 k77 tp_o32
        have hR := hR.up y1 (by decide) k77
        have hU : mo_U (mo_R g27) (mo_R (upd g27 z73.toNatClampNeg u)) (1051 + 16 * v.toInt + 12) (u.toInt) := mo_up (by omega) (rfl : u.toInt = _) (by omega)
        generalize (upd g27 z73.toNatClampNeg u) = g79 at g78 hU
        have hI := mo_w_land hI hU v.toInt (12) (by omega) (by omega) (by omega)
        have hKN := hKN.up hU (Or.inl (by omega))
        have pn80 : mo_R g79 (11) = z56.toInt := (hU.ne (by omega) (by omega)).trans (jz56).symm
        refine lv_aload_n hx hb dX12_settle_99 rfl (lv_at hl 2 rfl) ?_
        have hf_81 : f76 h0 = .inr (12, [.int o70_x0, .int o70_x1, .ref (ρ h0 2), .ref (ρ h0 3), .ref (ρ h0 4), .ref (ρ h0 5), .ref (ρ h0 6), .int o70_x7, .ref (ρ h0 8), .int o70_x9, .int o70_x10, .int o70_x11, .int o70_x12, .long o70_x13, .int o70_x14, .int o70_x15, .int o70_x16, .int o70_x17, .int o70_x18, .int o70_x19, .int o70_x20, .ref (ρ h0 21), .int o70_x22, .ref (ρ h0 23), .ref (ρ h0 24), .int o70_x25, .ref (ρ h0 26), .ref (ρ h0 27), .int o70_x28, .int o70_x29, .ref (ρ h0 30), .ref (ρ h0 31), .int o70_x32, .long o70_x33, .long o70_x34, .long o70_x35, .int o70_x36, .int o70_x37, .int o70_x38, .ref (ρ h0 39), .ref (ρ h0 40), .ref (ρ h0 41), .ref (ρ h0 42), .ref (ρ h0 43), .ref (ρ h0 44), .ref (ρ h0 45), .ref (ρ h0 46), .int o70_x47, .int o70_x48, .ref (ρ h0 49), .ref (ρ h0 50), .ref (ρ h0 51), .ref (ρ h0 52)]) := (k77 _ (tp_ne ht_h0 y1 (by decide))).trans hf_o70
        refine tpk_pos (tp_in hG ht_h0 (by decide)) hf_81 (fun q82 eq82 => ?_)
        refine va_get (D := (dC, dI)) (ci := 12) (v := .ref (ρ h0 2)) (C := RX12) (T := TX12) (N := 53) hx hb hts hfX12 hown hK hP q82 eq82 rfl 2 (by decide) (hts (.fieldLink RX12 7 "ColdShipsModel" "row" "[I") wa_148) (fun _ h9 => h9) rfl dX12_settle_100 ?_
        refine lv_iload_n hx hb dX12_settle_103 rfl (lv_at hl 1 rfl) ?_
        refine lv_bipush (v := 13) hx hb dX12_settle_104 (by decide) ?_
        refine lv_iadd hx hb dX12_settle_106 ?_
        refine lv_topi (fun z83 ez83 => ?_)
        have iz83 : z83.toInt = r48.toInt + 13 := zi_add ez83 rfl rfl (by omega) (by omega)
        refine lv_aload_n hx hb dX12_settle_107 rfl (lv_at hl 2 rfl) ?_
        refine va_get (D := (dC, dI)) (ci := 12) (v := .ref (ρ h0 2)) (C := RX12) (T := TX12) (N := 53) hx hb hts hfX12 hown hK hP q82 eq82 rfl 2 (by decide) (hts (.fieldLink RX12 7 "ColdShipsModel" "row" "[I") wa_148) (fun _ h9 => h9) rfl dX12_settle_108 ?_
        refine lv_bipush (v := 11) hx hb dX12_settle_111 (by decide) ?_
        refine tpk_pos (tp_in hG y1 (by decide)) g78 (fun q84 eq84 => ?_)
        refine va_iald hx hb hK hP q84 0 eq84 rfl (vp_in_iff.mpr ⟨by decide, by decide⟩) dX12_settle_113 ?_
        refine lv_topi (fun z85 ez85 => ?_)
        have jz85 : z85.toInt = mo_R g79 (11) := mo_rd ez85 (show (11 : Int32).toInt = (11) from by decide)
        have kz85 := hI.k11
        have vz85 : z85.toInt = z56.toInt := jz85.trans pn80
        refine va_iast hx hb hK hP hD hS q84 0 eq84 rfl (vp_in_iff.mpr ⟨by omega, by omega⟩) dX12_settle_114 (tp_k (.inl (κ 0, 12967, .inl (upd g79 z83.toNatClampNeg z85))) hD (tp_in hG y1 (by decide)) eq84 (fun f86 H locs hP hD hS g88 k87 => ?_))
        have hT := hT.up y1 g88 k87 tp_o32
        have hR := hR.up y1 (by decide) k87
        have hU : mo_U (mo_R g79) (mo_R (upd g79 z83.toNatClampNeg z85)) (1051 + 16 * v.toInt + 13) (z85.toInt) := mo_up (by omega) (rfl : z85.toInt = _) (by omega)
        generalize (upd g79 z83.toNatClampNeg z85) = g89 at g88 hU
        have hI := mo_w_land hI hU v.toInt (13) (by omega) (by omega) (by omega)
        have hKN := hKN.up hU (Or.inl (by omega))
        have pn90 : mo_R g89 (11) = z56.toInt := (hU.ne (by omega) (by omega)).trans pn80
        refine lv_aload_n hx hb dX12_settle_115 rfl (lv_at hl 2 rfl) ?_
        have hf_91 : f86 h0 = .inr (12, [.int o70_x0, .int o70_x1, .ref (ρ h0 2), .ref (ρ h0 3), .ref (ρ h0 4), .ref (ρ h0 5), .ref (ρ h0 6), .int o70_x7, .ref (ρ h0 8), .int o70_x9, .int o70_x10, .int o70_x11, .int o70_x12, .long o70_x13, .int o70_x14, .int o70_x15, .int o70_x16, .int o70_x17, .int o70_x18, .int o70_x19, .int o70_x20, .ref (ρ h0 21), .int o70_x22, .ref (ρ h0 23), .ref (ρ h0 24), .int o70_x25, .ref (ρ h0 26), .ref (ρ h0 27), .int o70_x28, .int o70_x29, .ref (ρ h0 30), .ref (ρ h0 31), .int o70_x32, .long o70_x33, .long o70_x34, .long o70_x35, .int o70_x36, .int o70_x37, .int o70_x38, .ref (ρ h0 39), .ref (ρ h0 40), .ref (ρ h0 41), .ref (ρ h0 42), .ref (ρ h0 43), .ref (ρ h0 44), .ref (ρ h0 45), .ref (ρ h0 46), .int o70_x47, .int o70_x48, .ref (ρ h0 49), .ref (ρ h0 50), .ref (ρ h0 51), .ref (ρ h0 52)]) := (k87 _ (tp_ne ht_h0 y1 (by decide))).trans hf_81
        refine tpk_pos (tp_in hG ht_h0 (by decide)) hf_91 (fun q92 eq92 => ?_)
        refine va_get (D := (dC, dI)) (ci := 12) (v := .ref (ρ h0 2)) (C := RX12) (T := TX12) (N := 53) hx hb hts hfX12 hown hK hP q92 eq92 rfl 2 (by decide) (hts (.fieldLink RX12 7 "ColdShipsModel" "row" "[I") wa_148) (fun _ h9 => h9) rfl dX12_settle_116 ?_
        refine lv_iload_n hx hb dX12_settle_119 rfl (lv_at hl 1 rfl) ?_
        refine lv_bipush (v := 14) hx hb dX12_settle_120 (by decide) ?_
        refine lv_iadd hx hb dX12_settle_122 ?_
        refine lv_topi (fun z93 ez93 => ?_)
        have iz93 : z93.toInt = r48.toInt + 14 := zi_add ez93 rfl rfl (by omega) (by omega)
        refine lv_lload hx hb dX12_settle_123 (lv_at hl 0 rfl) ?_
        refine lv_bipush (v := 32) hx hb dX12_settle_125 (by decide) ?_
        refine lv_lshr hx hb dX12_settle_127 rfl ?_
        refine lv_topl (fun z94 ez94 => ?_)
        refine lv_l2i hx hb dX12_settle_128 rfl ?_
        refine lv_topi (fun z95 ez95 => ?_)
        refine tpk_pos (tp_in hG y1 (by decide)) g88 (fun q96 eq96 => ?_)
        refine va_iast hx hb hK hP hD hS q96 0 eq96 rfl (vp_in_iff.mpr ⟨by omega, by omega⟩) dX12_settle_129 (tp_k (.inl (κ 0, 12967, .inl (upd g89 z93.toNatClampNeg z95))) hD (tp_in hG y1 (by decide)) eq96 (fun f97 H locs hP hD hS g99 k98 => ?_))
        have hT := hT.up y1 g99 k98 tp_o32
        have hR := hR.up y1 (by decide) k98
        have hU : mo_U (mo_R g89) (mo_R (upd g89 z93.toNatClampNeg z95)) (1051 + 16 * v.toInt + 14) (z95.toInt) := mo_up (by omega) (rfl : z95.toInt = _) (by omega)
        generalize (upd g89 z93.toNatClampNeg z95) = g100 at g99 hU
        have hI := mo_w_land hI hU v.toInt (14) (by omega) (by omega) (by omega)
        have hKN := hKN.up hU (Or.inl (by omega))
        have pn101 : mo_R g100 (11) = z56.toInt := (hU.ne (by omega) (by omega)).trans pn90
        refine lv_aload_n hx hb dX12_settle_130 rfl (lv_at hl 2 rfl) ?_
        have hf_102 : f97 h0 = .inr (12, [.int o70_x0, .int o70_x1, .ref (ρ h0 2), .ref (ρ h0 3), .ref (ρ h0 4), .ref (ρ h0 5), .ref (ρ h0 6), .int o70_x7, .ref (ρ h0 8), .int o70_x9, .int o70_x10, .int o70_x11, .int o70_x12, .long o70_x13, .int o70_x14, .int o70_x15, .int o70_x16, .int o70_x17, .int o70_x18, .int o70_x19, .int o70_x20, .ref (ρ h0 21), .int o70_x22, .ref (ρ h0 23), .ref (ρ h0 24), .int o70_x25, .ref (ρ h0 26), .ref (ρ h0 27), .int o70_x28, .int o70_x29, .ref (ρ h0 30), .ref (ρ h0 31), .int o70_x32, .long o70_x33, .long o70_x34, .long o70_x35, .int o70_x36, .int o70_x37, .int o70_x38, .ref (ρ h0 39), .ref (ρ h0 40), .ref (ρ h0 41), .ref (ρ h0 42), .ref (ρ h0 43), .ref (ρ h0 44), .ref (ρ h0 45), .ref (ρ h0 46), .int o70_x47, .int o70_x48, .ref (ρ h0 49), .ref (ρ h0 50), .ref (ρ h0 51), .ref (ρ h0 52)]) := (k98 _ (tp_ne ht_h0 y1 (by decide))).trans hf_91
        refine tpk_pos (tp_in hG ht_h0 (by decide)) hf_102 (fun q103 eq103 => ?_)
        refine va_get (D := (dC, dI)) (ci := 12) (v := .ref (ρ h0 2)) (C := RX12) (T := TX12) (N := 53) hx hb hts hfX12 hown hK hP q103 eq103 rfl 2 (by decide) (hts (.fieldLink RX12 7 "ColdShipsModel" "row" "[I") wa_148) (fun _ h9 => h9) rfl dX12_settle_131 ?_
        refine lv_iload_n hx hb dX12_settle_134 rfl (lv_at hl 1 rfl) ?_
        refine lv_bipush (v := 15) hx hb dX12_settle_135 (by decide) ?_
        refine lv_iadd hx hb dX12_settle_137 ?_
        refine lv_topi (fun z104 ez104 => ?_)
        have iz104 : z104.toInt = r48.toInt + 15 := zi_add ez104 rfl rfl (by omega) (by omega)
        refine lv_lload hx hb dX12_settle_138 (lv_at hl 0 rfl) ?_
        refine lv_l2i hx hb dX12_settle_140 rfl ?_
        refine lv_topi (fun z105 ez105 => ?_)
        refine tpk_pos (tp_in hG y1 (by decide)) g99 (fun q106 eq106 => ?_)
        refine va_iast hx hb hK hP hD hS q106 0 eq106 rfl (vp_in_iff.mpr ⟨by omega, by omega⟩) dX12_settle_141 (tp_k (.inl (κ 0, 12967, .inl (upd g100 z104.toNatClampNeg z105))) hD (tp_in hG y1 (by decide)) eq106 (fun f107 H locs hP hD hS g109 k108 => ?_))
        have hT := hT.up y1 g109 k108 tp_o32
        have hR := hR.up y1 (by decide) k108
        have hU : mo_U (mo_R g100) (mo_R (upd g100 z104.toNatClampNeg z105)) (1051 + 16 * v.toInt + 15) (z105.toInt) := mo_up (by omega) (rfl : z105.toInt = _) (by omega)
        generalize (upd g100 z104.toNatClampNeg z105) = g110 at g109 hU
        have hI := mo_w_land hI hU v.toInt (15) (by omega) (by omega) (by omega)
        have hKN := hKN.up hU (Or.inl (by omega))
        have pn111 : mo_R g110 (11) = z56.toInt := (hU.ne (by omega) (by omega)).trans pn101
        refine lv_aload_n hx hb dX12_settle_142 rfl (lv_at hl 2 rfl) ?_
        refine lv_iconst (v := 0) hx hb dX12_settle_143 (by decide) ?_
        have hf_112 : f107 h0 = .inr (12, [.int o70_x0, .int o70_x1, .ref (ρ h0 2), .ref (ρ h0 3), .ref (ρ h0 4), .ref (ρ h0 5), .ref (ρ h0 6), .int o70_x7, .ref (ρ h0 8), .int o70_x9, .int o70_x10, .int o70_x11, .int o70_x12, .long o70_x13, .int o70_x14, .int o70_x15, .int o70_x16, .int o70_x17, .int o70_x18, .int o70_x19, .int o70_x20, .ref (ρ h0 21), .int o70_x22, .ref (ρ h0 23), .ref (ρ h0 24), .int o70_x25, .ref (ρ h0 26), .ref (ρ h0 27), .int o70_x28, .int o70_x29, .ref (ρ h0 30), .ref (ρ h0 31), .int o70_x32, .long o70_x33, .long o70_x34, .long o70_x35, .int o70_x36, .int o70_x37, .int o70_x38, .ref (ρ h0 39), .ref (ρ h0 40), .ref (ρ h0 41), .ref (ρ h0 42), .ref (ρ h0 43), .ref (ρ h0 44), .ref (ρ h0 45), .ref (ρ h0 46), .int o70_x47, .int o70_x48, .ref (ρ h0 49), .ref (ρ h0 50), .ref (ρ h0 51), .ref (ρ h0 52)]) := (k108 _ (tp_ne ht_h0 y1 (by decide))).trans hf_102
        refine tpk_pos (tp_in hG ht_h0 (by decide)) hf_112 (fun q113 eq113 => ?_)
        have hFc := tp_fr hD hS hA
        refine va_calli (va_runV (As := [.int 0]) (rest := []) ⟨hx, hb, hml, hown, hts⟩ (t_X12_told l dC dI _ κ Θ τ ν ρ L f107 hG hT h0 (0) ht_h0) (cwV 1 hts gX12_settle_X12_told rfl rfl rfl ⟨rfl, pd_X12_told⟩ ⟨Nat.le_of_ble_eq_true rfl, Nat.le_of_ble_eq_true rfl⟩) ⟨pz_blind, va_recv hK hP (ci := 12) (q0 := q113) rfl eq113, pz_pre hP hK hD hN⟩ rfl rfl hl.1 rfl (lv_room (Nat.le_of_ble_eq_true rfl)) dX12_settle_144 ⟨Nat.le_of_ble_eq_true rfl, Nat.le_of_ble_eq_true rfl⟩) hS (fun q _ h => hFc q h) hFc (fun r114 f116 t H1 locs ht hvm hw115 hB hz1 hk1 hS => ?_)
        refine tn_4 hw115 (fun hT hF117 hw115r hw115p => ?_); clear hw115
        have hR := hR.then hF117 (by decide)
        have hP := hB.1; rw [ht] at hP; have hD := tp_ad f116 hD; clear hB hFc hz1 hk1; subst ht; generalize t.heap = H at hP hS ⊢
        have hw115pq : r114.toInt = 0 := by rw [hw115p]; rfl
        have hf_118 : f116 (ρ h0 2) = .inl (κ 0, 12967, .inl g110) := (hF117 _ (by rw [tp_iu y1]; decide)).trans g109
        exact W.iret (v := r114) hx hb hr (fun t ht hW => ⟨⟨r114, f116, rfl, ⟨hT, hR, trivial, ⟨(by rw [hf_118, mo_i1]; exact hI), (by rw [hf_118, mo_i1, hf_o26, mo_i1]; exact hKN)⟩⟩, by rw [ht]; exact hP, va_K.moved hW.alike hK, hD⟩, hS.F ht⟩) hS.2.2 dX12_settle_147
      · have ic53 : z52.toInt ≠ (-1) := zi_eqf rfl rfl c53
        refine lv_aload_n hx hb dX12_settle_46 rfl (lv_at hl 1 rfl) ?_
        refine lv_bipush (v := (-4)) hx hb dX12_settle_47 (by decide) ?_
        have hFc := tp_fr hD hS hA
        refine va_calli (va_runV (As := [.int (-4)]) (rest := []) ⟨hx, hb, hml, hown, hts⟩ (t_X12_told l dC dI _ κ Θ τ ν ρ L f30 hG hT h0 ((-4)) ht_h0) (cwV 1 hts gX12_settle_X12_told rfl rfl rfl ⟨rfl, pd_X12_told⟩ ⟨Nat.le_of_ble_eq_true rfl, Nat.le_of_ble_eq_true rfl⟩) ⟨pz_blind, va_recv hK hP (ci := 12) (q0 := q34) rfl eq34, pz_pre hP hK hD hN⟩ rfl rfl hl.1 rfl (lv_room (Nat.le_of_ble_eq_true rfl)) dX12_settle_49 ⟨Nat.le_of_ble_eq_true rfl, Nat.le_of_ble_eq_true rfl⟩) hS (fun q _ h => hFc q h) hFc (fun r119 f121 t H1 locs ht hvm hw120 hB hz1 hk1 hS => ?_)
        refine tn_4 hw120 (fun hT hF122 hw120r hw120p => ?_); clear hw120
        have hR := hR.then hF122 (by decide)
        have hP := hB.1; rw [ht] at hP; have hD := tp_ad f121 hD; clear hB hFc hz1 hk1; subst ht; generalize t.heap = H at hP hS ⊢
        have hw120pq : r119.toInt = (-4) := by rw [hw120p]; rfl
        have hf_123 : f121 (ρ h0 2) = .inl (κ 0, 12967, .inl g27) := (hF122 _ (by rw [tp_iu y1]; decide)).trans hf_33
        exact W.iret (v := r119) hx hb hr (fun t ht hW => ⟨⟨r119, f121, rfl, ⟨hT, hR, trivial, ⟨(by rw [hf_123, mo_i1]; exact hI), (by rw [hf_123, mo_i1, hf_o26, mo_i1]; exact hKN)⟩⟩, by rw [ht]; exact hP, va_K.moved hW.alike hK, hD⟩, hS.F ht⟩) hS.2.2 dX12_settle_52
    · have ic46 : r44.toInt = 0 := zi_nef rfl rfl c46
      clear hw45r ic46
      refine lv_aload_n hx hb dX12_settle_21 rfl (lv_at hl 0 rfl) ?_
      refine lv_bipush (v := (-2)) hx hb dX12_settle_22 (by decide) ?_
      have hFc := tp_fr hD hS hA
      refine va_calli (va_runV (As := [.int (-2)]) (rest := []) ⟨hx, hb, hml, hown, hts⟩ (t_X12_told l dC dI _ κ Θ τ ν ρ L f30 hG hT h0 ((-2)) ht_h0) (cwV 1 hts gX12_settle_X12_told rfl rfl rfl ⟨rfl, pd_X12_told⟩ ⟨Nat.le_of_ble_eq_true rfl, Nat.le_of_ble_eq_true rfl⟩) ⟨pz_blind, va_recv hK hP (ci := 12) (q0 := q34) rfl eq34, pz_pre hP hK hD hN⟩ rfl rfl hl.1 rfl (lv_room (Nat.le_of_ble_eq_true rfl)) dX12_settle_24 ⟨Nat.le_of_ble_eq_true rfl, Nat.le_of_ble_eq_true rfl⟩) hS (fun q _ h => hFc q h) hFc (fun r124 f126 t H1 locs ht hvm hw125 hB hz1 hk1 hS => ?_)
      refine tn_4 hw125 (fun hT hF127 hw125r hw125p => ?_); clear hw125
      have hR := hR.then hF127 (by decide)
      have hP := hB.1; rw [ht] at hP; have hD := tp_ad f126 hD; clear hB hFc hz1 hk1; subst ht; generalize t.heap = H at hP hS ⊢
      have hw125pq : r124.toInt = (-2) := by rw [hw125p]; rfl
      have hf_128 : f126 (ρ h0 2) = .inl (κ 0, 12967, .inl g27) := (hF127 _ (by rw [tp_iu y1]; decide)).trans hf_33
      exact W.iret (v := r124) hx hb hr (fun t ht hW => ⟨⟨r124, f126, rfl, ⟨hT, hR, trivial, ⟨(by rw [hf_128, mo_i1]; exact hI), (by rw [hf_128, mo_i1, hf_o26, mo_i1]; exact hKN)⟩⟩, by rw [ht]; exact hP, va_K.moved hW.alike hK, hD⟩, hS.F ht⟩) hS.2.2 dX12_settle_27
end
section
set_option maxHeartbeats 4000000 in
set_option maxRecDepth 100000 in
theorem t_X12_hasTable (l : Launch) (dC : Nat → ClassId) (dI : Nat → Nat → Nat) (sz : Nat) (κ : Nat → ClassId) (Θ : Nat → Option Int) (τ ν : Nat → Nat) (ρ : Nat → Nat → Nat) (L : List Nat) (f : Nat → va_E) (hG : tp_G τ ν ρ L) (hT : tp_T (mo_O κ Θ) κ τ ν ρ f) (h0 : Nat) (us : Int32) (x : Int) (b : Int) (qs : Int) (ht_h0 : τ h0 = 13) (hL_us : us.toInt = 547 + 84 * qs) (hq_us : 0 ≤ qs ∧ qs ≤ 5) (hbb : 0 ≤ b ∧ b ≤ 1000) (hJ : mo_RI x b (mo_R (mo_i (f (ρ h0 2))))) (hn1 : qs < (mo_R (mo_i (f (ρ h0 2)))) (1)) : Met l yX12_hasTable wqX12_hasTable ({ frames := 2, cells := 0, slots := 0, locals := 400 }) (va_Pc [.ref h0, .int us] (pz_B dC dI (tp_K κ) (va_pl L f) sz)) (vp_Si (fun r => (0 ≤ r.toInt ∧ r.toInt ≤ 1) ∧ True)) 0 0 (fun _ => False) := by
  refine Met.ofW (cc := cX12_hasTable) (maxL := 5) (ret := some .boolean) (by decide) rfl ?_
  intro p e s m args below meth c s₁ B hml hv
  obtain ⟨rfl, hsz, hP, hK, hD0, hN⟩ := hv
  have hx := B.exec
  have hb := B.bytes
  have hr := B.returns
  have hts := fun (w : Cond) (h : w ∈ WALL) => atoms_spec (ws := wqX12_hasTable) B.pre w (List.mem_cons_of_mem _ h)
  have hown : s.vm.findClass RX12 = some m.cls := findClass_of_methodNamed B.named
  have hlocks := B.notSynchronized
  subst hsz
  have hD := hD0
  have hS : va_S (fun _ => True) s.heap s.heap [] := va_S.rf
  have hl := lv_entry ([.ref h0, .int us]) (n := 5) (Nat.le_of_ble_eq_true rfl)
  rw [lg_entry_eq]
  generalize (lg_sl ([.ref h0, .int us]) ++ List.replicate (5 - (lg_sl ([.ref h0, .int us])).length) Slot.unset).toArray = ls at hl ⊢
  have hl : lv_has ls 5 [(0, .ref h0), (1, .int us)] := hl
  refine tgk_13 hG ht_h0 (fun y1 y2 y3 y4 y5 y6 y7 y8 y9 y10 y11 y12 y13 y14 y15 y16 y17 y18 y19 y20 y21 y22 y23 y24 y25 => ?_)
  refine tpk_32 hT y1 (fun g27 hf_o26 => ?_)
  have hI : mo_RI x b (mo_R g27) := by have q9 := hJ; rw [hf_o26, mo_i1] at q9; exact q9
  rw [hf_o26, mo_i1] at hn1
  obtain ⟨n1, en1⟩ : ∃ n : Int, n = mo_R g27 (1) := ⟨_, rfl⟩
  have kn1 := hI.k1
  obtain ⟨n11, en11⟩ : ∃ n : Int, n = mo_R g27 (11) := ⟨_, rfl⟩
  have kn11 := hI.k11
  refine lv_aload_n hx hb dX12_hasTable_0 rfl (lv_at hl 0 rfl) ?_
  refine tpk_13 hT ht_h0 (fun o28_x0 o28_x1 o28_x7 o28_x9 o28_x10 o28_x11 o28_x12 o28_x13 o28_x14 o28_x15 o28_x16 o28_x17 o28_x18 o28_x19 o28_x20 o28_x22 o28_x25 o28_x28 o28_x29 o28_x32 o28_x33 o28_x34 o28_x35 o28_x36 o28_x37 o28_x38 o28_x47 o28_x48 hf_o28 ro28_0 ro28_1 ro28_2 ro28_3 ro28_4 ro28_5 ro28_6 ro28_7 ro28_8 ro28_9 ro28_10 ro28_11 ro28_12 ro28_13 ro28_14 => ?_)
  refine tpk_pos (tp_in hG ht_h0 (by decide)) hf_o28 (fun q29 eq29 => ?_)
  refine va_get (D := (dC, dI)) (ci := 12) (v := .ref (ρ h0 2)) (C := RX12) (T := TX12) (N := 53) hx hb hts hfX12 hown hK hP q29 eq29 rfl 2 (by decide) (hts (.fieldLink RX12 7 "ColdShipsModel" "row" "[I") wa_148) (fun _ h9 => h9) rfl dX12_hasTable_1 ?_
  refine lv_iload_n hx hb dX12_hasTable_4 rfl (lv_at hl 1 rfl) ?_
  refine lv_bipush (v := 32) hx hb dX12_hasTable_5 (by decide) ?_
  refine lv_iadd hx hb dX12_hasTable_7 ?_
  refine lv_topi (fun z30 ez30 => ?_)
  have iz30 : z30.toInt = us.toInt + 32 := zi_add ez30 rfl rfl (by omega) (by omega)
  refine tpk_pos (tp_in hG y1 (by decide)) hf_o26 (fun q31 eq31 => ?_)
  refine va_iald hx hb hK hP q31 0 eq31 rfl (vp_in_iff.mpr ⟨by omega, by omega⟩) dX12_hasTable_8 ?_
  refine lv_topi (fun z32 ez32 => ?_)
  refine lv_iconst (v := 1) hx hb dX12_hasTable_9 (by decide) ?_
  refine tp_join 18 (fun H locs ls stk => ∃ w33 : Int32, stk = [.int w33] ∧ (0 ≤ w33.toInt ∧ w33.toInt ≤ 1) ∧ H = s.heap ∧ locs = [] ∧ lv_has ls 5 [(0, .ref h0), (1, .int us)]) ?_ (fun hj34 => ?_)
  · intro H locs ls stk hI
    refine Exists.elim hI (fun w33 hE90 => tn_5 hE90 (fun e90 rw33 e92 e93 hl => ?_))
    clear hE90 hI; subst e90; subst e92; subst e93
    refine lv_istore_n (lv' := [(2, .int w33), (0, .ref h0), (1, .int us)]) hx hb dX12_hasTable_18 rfl hl (by decide) rfl (fun ls hl => ?_)
    refine lv_iconst (v := 1) hx hb dX12_hasTable_19 (by decide) ?_
    refine lv_istore_n (lv' := [(3, .int 1), (2, .int w33), (0, .ref h0), (1, .int us)]) hx hb dX12_hasTable_20 rfl hl (by decide) rfl (fun ls hl => ?_)
    refine pz_loop (fun n0 H locs ls => ∃ w35 : Int32, ∃ w36 : Int32, n0 = (4 - (w35.toInt)).toNat ∧ (1 ≤ w35.toInt ∧ w35.toInt ≤ 4) ∧ (0 ≤ w36.toInt ∧ w36.toInt ≤ 1) ∧ H = s.heap ∧ locs = [] ∧ lv_has ls 5 [(3, .int w35), (2, .int w36), (0, .ref h0), (1, .int us)]) ?_ _ _ _ _ ⟨1, w33, rfl, (by have : (1 : Int32).toInt = 1 := rfl; omega), (by have : (1 : Int32).toInt = 1 := rfl; omega), rfl, rfl, lv_sub hl [0, 1, 2, 3] rfl⟩
    intro n0 H locs ls hI ih37
    refine Exists.elim hI (fun w35 hE90 => Exists.elim hE90 (fun w36 hE91 => tn_6 hE91 (fun hn38 rw35 rw36 e93 e94 hl => ?_)))
    clear hE91 hE90 hI; subst e93; subst e94
    refine lv_iload_n hx hb dX12_hasTable_21 rfl (lv_at hl 0 rfl) ?_
    refine lv_iconst (v := 4) hx hb dX12_hasTable_22 (by decide) ?_
    refine lv_icmp_ge (tgt := 105) hx hb dX12_hasTable_23 (by decide) (fun c39 => ?_) (fun c39 => ?_)
    · have ic39 : w35.toInt ≥ 4 := zi_ge rfl rfl c39
      refine lv_iload_n hx hb dX12_hasTable_105 rfl (lv_at hl 1 rfl) ?_
      exact W.zret (v := w36) hx hb hr (zi_narZ (by omega) (by omega)) (fun t ht hW => ⟨w36, rfl, ⟨(by first | decide | omega), trivial⟩, ht⟩) (fun _ h => by cases h) dX12_hasTable_106
    · have ic39 : w35.toInt < 4 := zi_gef rfl rfl c39
      refine lv_iload_n hx hb dX12_hasTable_26 rfl (lv_at hl 3 rfl) ?_
      refine lv_bipush (v := 32) hx hb dX12_hasTable_27 (by decide) ?_
      refine lv_iadd hx hb dX12_hasTable_29 ?_
      refine lv_topi (fun z40 ez40 => ?_)
      have iz40 : z40.toInt = us.toInt + 32 := zi_add ez40 rfl rfl (by omega) (by omega)
      refine lv_iconst (v := 3) hx hb dX12_hasTable_30 (by decide) ?_
      refine lv_iload_n hx hb dX12_hasTable_31 rfl (lv_at hl 0 rfl) ?_
      refine lv_imul hx hb dX12_hasTable_32 ?_
      refine lv_topi (fun z41 ez41 => ?_)
      have iz41 : z41.toInt = 3 * w35.toInt := zi_mul ez41 rfl rfl (by omega) (by omega)
      refine lv_iadd hx hb dX12_hasTable_33 ?_
      refine lv_topi (fun z42 ez42 => ?_)
      have iz42 : z42.toInt = z40.toInt + z41.toInt := zi_add ez42 rfl rfl (by omega) (by omega)
      refine lv_istore (lv' := [(4, .int z42), (3, .int w35), (2, .int w36), (0, .ref h0), (1, .int us)]) hx hb dX12_hasTable_34 hl (by decide) rfl (fun ls hl => ?_)
      refine lv_iload_n hx hb dX12_hasTable_36 rfl (lv_at hl 2 rfl) ?_
      refine lv_if_eq (tgt := 97) hx hb dX12_hasTable_37 (by decide) (fun c43 => ?_) (fun c43 => ?_)
      · have ic43 : w36.toInt = 0 := zi_eq rfl rfl c43
        refine lv_iconst (v := 0) hx hb dX12_hasTable_97 (by decide) ?_
        refine lv_istore_n (lv' := [(2, .int 0), (4, .int z42), (3, .int w35), (0, .ref h0), (1, .int us)]) hx hb dX12_hasTable_98 rfl hl (by decide) rfl (fun ls hl => ?_)
        obtain ⟨z44, ez44⟩ : ∃ y : Int32, y = w35 + 1 := ⟨_, rfl⟩
        refine lv_iinc (v := z44) (lv' := [(3, .int z44), (2, .int 0), (4, .int z42), (0, .ref h0), (1, .int us)]) hx hb dX12_hasTable_99 hl (k := 2) rfl (by rw [ez44]; rfl) (by decide) rfl (fun ls hl => ?_)
        have iz44 : z44.toInt = w35.toInt + 1 := zi_add ez44 rfl rfl (by omega) (by omega)
        refine lv_goto (tgt := 21) hx hb dX12_hasTable_102 (by decide) ?_
        exact ih37 _ _ _ _ (by rw [hn38]; omega) ⟨z44, 0, rfl, (by have : (0 : Int32).toInt = 0 := rfl; omega), (by have : (0 : Int32).toInt = 0 := rfl; omega), rfl, rfl, lv_sub hl [0, 1, 3, 4] rfl⟩
      · have ic43 : w36.toInt ≠ 0 := zi_eqf rfl rfl c43
        replace ic43 : 1 ≤ w36.toInt := by omega
        refine lv_aload_n hx hb dX12_hasTable_40 rfl (lv_at hl 3 rfl) ?_
        refine va_get (D := (dC, dI)) (ci := 12) (v := .ref (ρ h0 2)) (C := RX12) (T := TX12) (N := 53) hx hb hts hfX12 hown hK hP q29 eq29 rfl 2 (by decide) (hts (.fieldLink RX12 7 "ColdShipsModel" "row" "[I") wa_148) (fun _ h9 => h9) rfl dX12_hasTable_41 ?_
        refine lv_iload hx hb dX12_hasTable_44 (lv_at hl 0 rfl) ?_
        refine va_iald hx hb hK hP q31 0 eq31 rfl (vp_in_iff.mpr ⟨by omega, by omega⟩) dX12_hasTable_46 ?_
        refine lv_topi (fun z45 ez45 => ?_)
        refine lv_iconst (v := 1) hx hb dX12_hasTable_47 (by decide) ?_
        refine lv_icmp_ne (tgt := 97) hx hb dX12_hasTable_48 (by decide) (fun c46 => ?_) (fun c46 => ?_)
        · have ic46 : z45.toInt ≠ 1 := zi_ne rfl rfl c46
          refine lv_iconst (v := 0) hx hb dX12_hasTable_97 (by decide) ?_
          refine lv_istore_n (lv' := [(2, .int 0), (4, .int z42), (3, .int w35), (0, .ref h0), (1, .int us)]) hx hb dX12_hasTable_98 rfl hl (by decide) rfl (fun ls hl => ?_)
          obtain ⟨z47, ez47⟩ : ∃ y : Int32, y = w35 + 1 := ⟨_, rfl⟩
          refine lv_iinc (v := z47) (lv' := [(3, .int z47), (2, .int 0), (4, .int z42), (0, .ref h0), (1, .int us)]) hx hb dX12_hasTable_99 hl (k := 2) rfl (by rw [ez47]; rfl) (by decide) rfl (fun ls hl => ?_)
          have iz47 : z47.toInt = w35.toInt + 1 := zi_add ez47 rfl rfl (by omega) (by omega)
          refine lv_goto (tgt := 21) hx hb dX12_hasTable_102 (by decide) ?_
          exact ih37 _ _ _ _ (by rw [hn38]; omega) ⟨z47, 0, rfl, (by have : (0 : Int32).toInt = 0 := rfl; omega), (by have : (0 : Int32).toInt = 0 := rfl; omega), rfl, rfl, lv_sub hl [0, 1, 3, 4] rfl⟩
        · have ic46 : z45.toInt = 1 := zi_nef rfl rfl c46
          refine lv_aload_n hx hb dX12_hasTable_51 rfl (lv_at hl 3 rfl) ?_
          refine va_get (D := (dC, dI)) (ci := 12) (v := .ref (ρ h0 2)) (C := RX12) (T := TX12) (N := 53) hx hb hts hfX12 hown hK hP q29 eq29 rfl 2 (by decide) (hts (.fieldLink RX12 7 "ColdShipsModel" "row" "[I") wa_148) (fun _ h9 => h9) rfl dX12_hasTable_52 ?_
          refine lv_iload hx hb dX12_hasTable_55 (lv_at hl 0 rfl) ?_
          refine lv_iconst (v := 1) hx hb dX12_hasTable_57 (by decide) ?_
          refine lv_iadd hx hb dX12_hasTable_58 ?_
          refine lv_topi (fun z48 ez48 => ?_)
          have iz48 : z48.toInt = z42.toInt + 1 := zi_add ez48 rfl rfl (by omega) (by omega)
          refine va_iald hx hb hK hP q31 0 eq31 rfl (vp_in_iff.mpr ⟨by omega, by omega⟩) dX12_hasTable_59 ?_
          refine lv_topi (fun z49 ez49 => ?_)
          have jz49 : z49.toInt = mo_R g27 (547 + 84 * qs + 33 + 3 * w35.toInt) := mo_rd ez49 (by omega)
          have kz49 := hI.SB (s := qs) (k := w35.toInt) (by omega) (by omega) (by omega) (by omega)
          refine lv_aload_n hx hb dX12_hasTable_60 rfl (lv_at hl 3 rfl) ?_
          refine va_get (D := (dC, dI)) (ci := 12) (v := .ref (ρ h0 2)) (C := RX12) (T := TX12) (N := 53) hx hb hts hfX12 hown hK hP q29 eq29 rfl 2 (by decide) (hts (.fieldLink RX12 7 "ColdShipsModel" "row" "[I") wa_148) (fun _ h9 => h9) rfl dX12_hasTable_61 ?_
          refine lv_iload hx hb dX12_hasTable_64 (lv_at hl 0 rfl) ?_
          refine lv_iconst (v := 2) hx hb dX12_hasTable_66 (by decide) ?_
          refine lv_isub hx hb dX12_hasTable_67 ?_
          refine lv_topi (fun z50 ez50 => ?_)
          have iz50 : z50.toInt = z42.toInt - 2 := zi_sub ez50 rfl rfl (by omega) (by omega)
          refine va_iald hx hb hK hP q31 0 eq31 rfl (vp_in_iff.mpr ⟨by omega, by omega⟩) dX12_hasTable_68 ?_
          refine lv_topi (fun z51 ez51 => ?_)
          refine lv_icmp_le (tgt := 97) hx hb dX12_hasTable_69 (by decide) (fun c52 => ?_) (fun c52 => ?_)
          · have ic52 : z49.toInt ≤ z51.toInt := zi_le rfl rfl c52
            refine lv_iconst (v := 0) hx hb dX12_hasTable_97 (by decide) ?_
            refine lv_istore_n (lv' := [(2, .int 0), (4, .int z42), (3, .int w35), (0, .ref h0), (1, .int us)]) hx hb dX12_hasTable_98 rfl hl (by decide) rfl (fun ls hl => ?_)
            obtain ⟨z53, ez53⟩ : ∃ y : Int32, y = w35 + 1 := ⟨_, rfl⟩
            refine lv_iinc (v := z53) (lv' := [(3, .int z53), (2, .int 0), (4, .int z42), (0, .ref h0), (1, .int us)]) hx hb dX12_hasTable_99 hl (k := 2) rfl (by rw [ez53]; rfl) (by decide) rfl (fun ls hl => ?_)
            have iz53 : z53.toInt = w35.toInt + 1 := zi_add ez53 rfl rfl (by omega) (by omega)
            refine lv_goto (tgt := 21) hx hb dX12_hasTable_102 (by decide) ?_
            exact ih37 _ _ _ _ (by rw [hn38]; omega) ⟨z53, 0, rfl, (by have : (0 : Int32).toInt = 0 := rfl; omega), (by have : (0 : Int32).toInt = 0 := rfl; omega), rfl, rfl, lv_sub hl [0, 1, 3, 4] rfl⟩
          · have ic52 : z49.toInt > z51.toInt := zi_lef rfl rfl c52
            refine lv_aload_n hx hb dX12_hasTable_72 rfl (lv_at hl 3 rfl) ?_
            refine va_get (D := (dC, dI)) (ci := 12) (v := .ref (ρ h0 2)) (C := RX12) (T := TX12) (N := 53) hx hb hts hfX12 hown hK hP q29 eq29 rfl 2 (by decide) (hts (.fieldLink RX12 7 "ColdShipsModel" "row" "[I") wa_148) (fun _ h9 => h9) rfl dX12_hasTable_73 ?_
            refine lv_iload hx hb dX12_hasTable_76 (lv_at hl 0 rfl) ?_
            refine lv_iconst (v := 2) hx hb dX12_hasTable_78 (by decide) ?_
            refine lv_iadd hx hb dX12_hasTable_79 ?_
            refine lv_topi (fun z54 ez54 => ?_)
            have iz54 : z54.toInt = z42.toInt + 2 := zi_add ez54 rfl rfl (by omega) (by omega)
            refine va_iald hx hb hK hP q31 0 eq31 rfl (vp_in_iff.mpr ⟨by omega, by omega⟩) dX12_hasTable_80 ?_
            refine lv_topi (fun z55 ez55 => ?_)
            refine lv_aload_n hx hb dX12_hasTable_81 rfl (lv_at hl 3 rfl) ?_
            refine va_get (D := (dC, dI)) (ci := 12) (v := .ref (ρ h0 2)) (C := RX12) (T := TX12) (N := 53) hx hb hts hfX12 hown hK hP q29 eq29 rfl 2 (by decide) (hts (.fieldLink RX12 7 "ColdShipsModel" "row" "[I") wa_148) (fun _ h9 => h9) rfl dX12_hasTable_82 ?_
            refine lv_iload hx hb dX12_hasTable_85 (lv_at hl 0 rfl) ?_
            refine lv_iconst (v := 1) hx hb dX12_hasTable_87 (by decide) ?_
            refine lv_isub hx hb dX12_hasTable_88 ?_
            refine lv_topi (fun z56 ez56 => ?_)
            have iz56 : z56.toInt = z42.toInt - 1 := zi_sub ez56 rfl rfl (by omega) (by omega)
            refine va_iald hx hb hK hP q31 0 eq31 rfl (vp_in_iff.mpr ⟨by omega, by omega⟩) dX12_hasTable_89 ?_
            refine lv_topi (fun z57 ez57 => ?_)
            refine lv_icmp_lt (tgt := 97) hx hb dX12_hasTable_90 (by decide) (fun c58 => ?_) (fun c58 => ?_)
            · have ic58 : z55.toInt < z57.toInt := zi_lt rfl rfl c58
              refine lv_iconst (v := 0) hx hb dX12_hasTable_97 (by decide) ?_
              refine lv_istore_n (lv' := [(2, .int 0), (4, .int z42), (3, .int w35), (0, .ref h0), (1, .int us)]) hx hb dX12_hasTable_98 rfl hl (by decide) rfl (fun ls hl => ?_)
              obtain ⟨z59, ez59⟩ : ∃ y : Int32, y = w35 + 1 := ⟨_, rfl⟩
              refine lv_iinc (v := z59) (lv' := [(3, .int z59), (2, .int 0), (4, .int z42), (0, .ref h0), (1, .int us)]) hx hb dX12_hasTable_99 hl (k := 2) rfl (by rw [ez59]; rfl) (by decide) rfl (fun ls hl => ?_)
              have iz59 : z59.toInt = w35.toInt + 1 := zi_add ez59 rfl rfl (by omega) (by omega)
              refine lv_goto (tgt := 21) hx hb dX12_hasTable_102 (by decide) ?_
              exact ih37 _ _ _ _ (by rw [hn38]; omega) ⟨z59, 0, rfl, (by have : (0 : Int32).toInt = 0 := rfl; omega), (by have : (0 : Int32).toInt = 0 := rfl; omega), rfl, rfl, lv_sub hl [0, 1, 3, 4] rfl⟩
            · have ic58 : z55.toInt ≥ z57.toInt := zi_ltf rfl rfl c58
              refine lv_iconst (v := 1) hx hb dX12_hasTable_93 (by decide) ?_
              refine lv_goto (tgt := 98) hx hb dX12_hasTable_94 (by decide) ?_
              refine lv_istore_n (lv' := [(2, .int 1), (4, .int z42), (3, .int w35), (0, .ref h0), (1, .int us)]) hx hb dX12_hasTable_98 rfl hl (by decide) rfl (fun ls hl => ?_)
              obtain ⟨z60, ez60⟩ : ∃ y : Int32, y = w35 + 1 := ⟨_, rfl⟩
              refine lv_iinc (v := z60) (lv' := [(3, .int z60), (2, .int 1), (4, .int z42), (0, .ref h0), (1, .int us)]) hx hb dX12_hasTable_99 hl (k := 2) rfl (by rw [ez60]; rfl) (by decide) rfl (fun ls hl => ?_)
              have iz60 : z60.toInt = w35.toInt + 1 := zi_add ez60 rfl rfl (by omega) (by omega)
              refine lv_goto (tgt := 21) hx hb dX12_hasTable_102 (by decide) ?_
              exact ih37 _ _ _ _ (by rw [hn38]; omega) ⟨z60, 1, rfl, (by have : (1 : Int32).toInt = 1 := rfl; omega), (by have : (1 : Int32).toInt = 1 := rfl; omega), rfl, rfl, lv_sub hl [0, 1, 3, 4] rfl⟩
  · refine lv_icmp_ne (tgt := 17) hx hb dX12_hasTable_10 (by decide) (fun c61 => ?_) (fun c61 => ?_)
    · have ic61 : z32.toInt ≠ 1 := zi_ne rfl rfl c61
      refine lv_iconst (v := 0) hx hb dX12_hasTable_17 (by decide) ?_
      exact hj34 _ _ _ _ ⟨0, rfl, (by have : (0 : Int32).toInt = 0 := rfl; omega), rfl, rfl, lv_sub hl [0, 1] rfl⟩
    · have ic61 : z32.toInt = 1 := zi_nef rfl rfl c61
      refine lv_iconst (v := 1) hx hb dX12_hasTable_13 (by decide) ?_
      refine lv_goto (tgt := 18) hx hb dX12_hasTable_14 (by decide) ?_
      exact hj34 _ _ _ _ ⟨1, rfl, (by have : (1 : Int32).toInt = 1 := rfl; omega), rfl, rfl, lv_sub hl [0, 1] rfl⟩
set_option maxHeartbeats 4000000 in
set_option maxRecDepth 100000 in
theorem t_X12_tonsBy (l : Launch) (dC : Nat → ClassId) (dI : Nat → Nat → Nat) (sz : Nat) (κ : Nat → ClassId) (Θ : Nat → Option Int) (τ ν : Nat → Nat) (ρ : Nat → Nat → Nat) (L : List Nat) (f : Nat → va_E) (hG : tp_G τ ν ρ L) (hT : tp_T (mo_O κ Θ) κ τ ν ρ f) (h0 : Nat) (us : Int32) (v : Int32) (x : Int) (b : Int) (qs : Int) (ht_h0 : τ h0 = 13) (hL_us : us.toInt = 547 + 84 * qs) (hq_us : 0 ≤ qs ∧ qs ≤ 5) (hbb : 0 ≤ b ∧ b ≤ 1000) (hJ : mo_RI x b (mo_R (mo_i (f (ρ h0 2))))) (hn1 : qs < (mo_R (mo_i (f (ρ h0 2)))) (1)) : Met l yX12_tonsBy wqX12_tonsBy ({ frames := 2, cells := 0, slots := 0, locals := 400 }) (va_Pc [.ref h0, .int us, .int v] (pz_B dC dI (tp_K κ) (va_pl L f) sz)) (vp_Sl (fun r => True ∧ True)) 0 0 (fun _ => False) := by
  refine Met.ofW (cc := cX12_tonsBy) (maxL := 7) (ret := some .long) (by decide) rfl ?_
  intro p e s m args below meth c s₁ B hml hv
  obtain ⟨rfl, hsz, hP, hK, hD0, hN⟩ := hv
  have hx := B.exec
  have hb := B.bytes
  have hr := B.returns
  have hts := fun (w : Cond) (h : w ∈ WALL) => atoms_spec (ws := wqX12_tonsBy) B.pre w (List.mem_cons_of_mem _ h)
  have hown : s.vm.findClass RX12 = some m.cls := findClass_of_methodNamed B.named
  have hlocks := B.notSynchronized
  subst hsz
  have hD := hD0
  have hS : va_S (fun _ => True) s.heap s.heap [] := va_S.rf
  have hl := lv_entry ([.ref h0, .int us, .int v]) (n := 7) (Nat.le_of_ble_eq_true rfl)
  rw [lg_entry_eq]
  generalize (lg_sl ([.ref h0, .int us, .int v]) ++ List.replicate (7 - (lg_sl ([.ref h0, .int us, .int v])).length) Slot.unset).toArray = ls at hl ⊢
  have hl : lv_has ls 7 [(0, .ref h0), (1, .int us), (2, .int v)] := hl
  refine tgk_13 hG ht_h0 (fun y1 y2 y3 y4 y5 y6 y7 y8 y9 y10 y11 y12 y13 y14 y15 y16 y17 y18 y19 y20 y21 y22 y23 y24 y25 => ?_)
  refine tpk_32 hT y1 (fun g27 hf_o26 => ?_)
  have hI : mo_RI x b (mo_R g27) := by have q9 := hJ; rw [hf_o26, mo_i1] at q9; exact q9
  rw [hf_o26, mo_i1] at hn1
  obtain ⟨n1, en1⟩ : ∃ n : Int, n = mo_R g27 (1) := ⟨_, rfl⟩
  have kn1 := hI.k1
  obtain ⟨n11, en11⟩ : ∃ n : Int, n = mo_R g27 (11) := ⟨_, rfl⟩
  have kn11 := hI.k11
  refine lv_iload_n hx hb dX12_tonsBy_0 rfl (lv_at hl 1 rfl) ?_
  refine lv_bipush (v := 32) hx hb dX12_tonsBy_1 (by decide) ?_
  refine lv_iadd hx hb dX12_tonsBy_3 ?_
  refine lv_topi (fun z28 ez28 => ?_)
  have iz28 : z28.toInt = us.toInt + 32 := zi_add ez28 rfl rfl (by omega) (by omega)
  refine lv_istore_n (lv' := [(3, .int z28), (0, .ref h0), (1, .int us), (2, .int v)]) hx hb dX12_tonsBy_4 rfl hl (by decide) rfl (fun ls hl => ?_)
  refine lv_iload_n hx hb dX12_tonsBy_5 rfl (lv_at hl 3 rfl) ?_
  refine lv_aload_n hx hb dX12_tonsBy_6 rfl (lv_at hl 1 rfl) ?_
  refine tpk_13 hT ht_h0 (fun o29_x0 o29_x1 o29_x7 o29_x9 o29_x10 o29_x11 o29_x12 o29_x13 o29_x14 o29_x15 o29_x16 o29_x17 o29_x18 o29_x19 o29_x20 o29_x22 o29_x25 o29_x28 o29_x29 o29_x32 o29_x33 o29_x34 o29_x35 o29_x36 o29_x37 o29_x38 o29_x47 o29_x48 hf_o29 ro29_0 ro29_1 ro29_2 ro29_3 ro29_4 ro29_5 ro29_6 ro29_7 ro29_8 ro29_9 ro29_10 ro29_11 ro29_12 ro29_13 ro29_14 => ?_)
  refine tpk_pos (tp_in hG ht_h0 (by decide)) hf_o29 (fun q30 eq30 => ?_)
  refine va_get (D := (dC, dI)) (ci := 12) (v := .ref (ρ h0 2)) (C := RX12) (T := TX12) (N := 53) hx hb hts hfX12 hown hK hP q30 eq30 rfl 2 (by decide) (hts (.fieldLink RX12 7 "ColdShipsModel" "row" "[I") wa_148) (fun _ h9 => h9) rfl dX12_tonsBy_7 ?_
  refine lv_iload_n hx hb dX12_tonsBy_10 rfl (lv_at hl 0 rfl) ?_
  refine lv_iconst (v := 1) hx hb dX12_tonsBy_11 (by decide) ?_
  refine lv_iadd hx hb dX12_tonsBy_12 ?_
  refine lv_topi (fun z31 ez31 => ?_)
  have iz31 : z31.toInt = z28.toInt + 1 := zi_add ez31 rfl rfl (by omega) (by omega)
  refine tpk_pos (tp_in hG y1 (by decide)) hf_o26 (fun q32 eq32 => ?_)
  refine va_iald hx hb hK hP q32 0 eq32 rfl (vp_in_iff.mpr ⟨by omega, by omega⟩) dX12_tonsBy_13 ?_
  refine lv_topi (fun z33 ez33 => ?_)
  have jz33 : z33.toInt = mo_R g27 (547 + 84 * qs + 33 + 3 * 0) := mo_rd ez33 (by omega)
  have kz33 := hI.SB (s := qs) (k := 0) (by omega) (by omega) (by omega) (by omega)
  refine lv_icmp_gt (tgt := 27) hx hb dX12_tonsBy_14 (by decide) (fun c34 => ?_) (fun c34 => ?_)
  · have ic34 : v.toInt > z33.toInt := zi_gt rfl rfl c34
    refine lv_iconst (v := 0) hx hb dX12_tonsBy_27 (by decide) ?_
    refine lv_istore (lv' := [(4, .int 0), (3, .int z28), (0, .ref h0), (1, .int us), (2, .int v)]) hx hb dX12_tonsBy_28 hl (by decide) rfl (fun ls hl => ?_)
    refine pz_loop (fun n0 H locs ls => ∃ w35 : Int32, n0 = (3 - (w35.toInt)).toNat ∧ (0 ≤ w35.toInt ∧ w35.toInt ≤ 3) ∧ (mo_R g27 (547 + 84 * qs + 33 + 3 * (w35.toInt)) < v.toInt) ∧ H = s.heap ∧ locs = [] ∧ lv_has ls 7 [(4, .int w35), (3, .int z28), (0, .ref h0), (1, .int us), (2, .int v)]) ?_ _ _ _ _ ⟨0, rfl, (by have : (0 : Int32).toInt = 0 := rfl; omega), (by have q9 : mo_R g27 (547 + 84 * qs + 33 + 3 * (0 : Int32).toInt) = mo_R g27 (547 + 84 * qs + 33 + 3 * 0) := congrArg (mo_R g27) (by have : (0 : Int32).toInt = 0 := rfl; omega); omega), rfl, rfl, lv_sub hl [0, 1, 2, 3, 4] rfl⟩
    intro n0 H locs ls hI ih37
    refine Exists.elim hI (fun w35 hE90 => tn_6 hE90 (fun hn38 rw35 k36 e93 e94 hl => ?_))
    clear hE90 hI; subst e93; subst e94
    refine lv_iload hx hb dX12_tonsBy_30 (lv_at hl 0 rfl) ?_
    refine lv_iconst (v := 3) hx hb dX12_tonsBy_32 (by decide) ?_
    refine lv_icmp_ge (tgt := 135) hx hb dX12_tonsBy_33 (by decide) (fun c39 => ?_) (fun c39 => ?_)
    · have ic39 : w35.toInt ≥ 3 := zi_ge rfl rfl c39
      refine lv_aload_n hx hb dX12_tonsBy_135 rfl (lv_at hl 2 rfl) ?_
      refine va_get (D := (dC, dI)) (ci := 12) (v := .ref (ρ h0 2)) (C := RX12) (T := TX12) (N := 53) hx hb hts hfX12 hown hK hP q30 eq30 rfl 2 (by decide) (hts (.fieldLink RX12 7 "ColdShipsModel" "row" "[I") wa_148) (fun _ h9 => h9) rfl dX12_tonsBy_136 ?_
      refine lv_iload_n hx hb dX12_tonsBy_139 rfl (lv_at hl 1 rfl) ?_
      refine lv_bipush (v := 11) hx hb dX12_tonsBy_140 (by decide) ?_
      refine lv_iadd hx hb dX12_tonsBy_142 ?_
      refine lv_topi (fun z40 ez40 => ?_)
      have iz40 : z40.toInt = z28.toInt + 11 := zi_add ez40 rfl rfl (by omega) (by omega)
      refine va_iald hx hb hK hP q32 0 eq32 rfl (vp_in_iff.mpr ⟨by omega, by omega⟩) dX12_tonsBy_143 ?_
      refine lv_topi (fun z41 ez41 => ?_)
      refine lv_i2l hx hb dX12_tonsBy_144 rfl ?_
      exact W.lret (v := z41.toInt64) hx hb hr (fun t ht hW => ⟨z41.toInt64, rfl, ⟨trivial, trivial⟩, ht⟩) (fun _ h => by cases h) dX12_tonsBy_145
    · have ic39 : w35.toInt < 3 := zi_gef rfl rfl c39
      refine lv_iload_n hx hb dX12_tonsBy_36 rfl (lv_at hl 1 rfl) ?_
      refine lv_iconst (v := 3) hx hb dX12_tonsBy_37 (by decide) ?_
      refine lv_iload hx hb dX12_tonsBy_38 (lv_at hl 0 rfl) ?_
      refine lv_imul hx hb dX12_tonsBy_40 ?_
      refine lv_topi (fun z42 ez42 => ?_)
      have iz42 : z42.toInt = 3 * w35.toInt := zi_mul ez42 rfl rfl (by omega) (by omega)
      refine lv_iadd hx hb dX12_tonsBy_41 ?_
      refine lv_topi (fun z43 ez43 => ?_)
      have iz43 : z43.toInt = z28.toInt + z42.toInt := zi_add ez43 rfl rfl (by omega) (by omega)
      refine lv_istore (lv' := [(5, .int z43), (4, .int w35), (3, .int z28), (0, .ref h0), (1, .int us), (2, .int v)]) hx hb dX12_tonsBy_42 hl (by decide) rfl (fun ls hl => ?_)
      refine lv_iload hx hb dX12_tonsBy_44 (lv_at hl 0 rfl) ?_
      refine lv_iconst (v := 3) hx hb dX12_tonsBy_46 (by decide) ?_
      refine lv_iadd hx hb dX12_tonsBy_47 ?_
      refine lv_topi (fun z44 ez44 => ?_)
      have iz44 : z44.toInt = z43.toInt + 3 := zi_add ez44 rfl rfl (by omega) (by omega)
      refine lv_istore (lv' := [(6, .int z44), (5, .int z43), (4, .int w35), (3, .int z28), (0, .ref h0), (1, .int us), (2, .int v)]) hx hb dX12_tonsBy_48 hl (by decide) rfl (fun ls hl => ?_)
      refine lv_iload_n hx hb dX12_tonsBy_50 rfl (lv_at hl 6 rfl) ?_
      refine lv_aload_n hx hb dX12_tonsBy_51 rfl (lv_at hl 4 rfl) ?_
      refine va_get (D := (dC, dI)) (ci := 12) (v := .ref (ρ h0 2)) (C := RX12) (T := TX12) (N := 53) hx hb hts hfX12 hown hK hP q30 eq30 rfl 2 (by decide) (hts (.fieldLink RX12 7 "ColdShipsModel" "row" "[I") wa_148) (fun _ h9 => h9) rfl dX12_tonsBy_52 ?_
      refine lv_iload hx hb dX12_tonsBy_55 (lv_at hl 0 rfl) ?_
      refine lv_iconst (v := 1) hx hb dX12_tonsBy_57 (by decide) ?_
      refine lv_iadd hx hb dX12_tonsBy_58 ?_
      refine lv_topi (fun z45 ez45 => ?_)
      have iz45 : z45.toInt = z44.toInt + 1 := zi_add ez45 rfl rfl (by omega) (by omega)
      refine va_iald hx hb hK hP q32 0 eq32 rfl (vp_in_iff.mpr ⟨by omega, by omega⟩) dX12_tonsBy_59 ?_
      refine lv_topi (fun z46 ez46 => ?_)
      have jz46 : z46.toInt = mo_R g27 (547 + 84 * qs + 33 + 3 * (w35.toInt + 1)) := mo_rd ez46 (by omega)
      have kz46 := hI.SB (s := qs) (k := (w35.toInt + 1)) (by omega) (by omega) (by omega) (by omega)
      refine lv_icmp_gt (tgt := 129) hx hb dX12_tonsBy_60 (by decide) (fun c47 => ?_) (fun c47 => ?_)
      · have ic47 : v.toInt > z46.toInt := zi_gt rfl rfl c47
        obtain ⟨z48, ez48⟩ : ∃ y : Int32, y = w35 + 1 := ⟨_, rfl⟩
        refine lv_iinc (v := z48) (lv' := [(4, .int z48), (6, .int z44), (5, .int z43), (3, .int z28), (0, .ref h0), (1, .int us), (2, .int v)]) hx hb dX12_tonsBy_129 hl (k := 2) rfl (by rw [ez48]; rfl) (by decide) rfl (fun ls hl => ?_)
        have iz48 : z48.toInt = w35.toInt + 1 := zi_add ez48 rfl rfl (by omega) (by omega)
        refine lv_goto (tgt := 30) hx hb dX12_tonsBy_132 (by decide) ?_
        exact ih37 _ _ _ _ (by rw [hn38]; omega) ⟨z48, rfl, (by omega), (by have q9 : mo_R g27 (547 + 84 * qs + 33 + 3 * z48.toInt) = mo_R g27 (547 + 84 * qs + 33 + 3 * (w35.toInt + 1)) := congrArg (mo_R g27) (by omega); omega), rfl, rfl, lv_sub hl [0, 3, 4, 5, 6] rfl⟩
      · have ic47 : v.toInt ≤ z46.toInt := zi_gtf rfl rfl c47
        refine lv_aload_n hx hb dX12_tonsBy_63 rfl (lv_at hl 4 rfl) ?_
        refine va_get (D := (dC, dI)) (ci := 12) (v := .ref (ρ h0 2)) (C := RX12) (T := TX12) (N := 53) hx hb hts hfX12 hown hK hP q30 eq30 rfl 2 (by decide) (hts (.fieldLink RX12 7 "ColdShipsModel" "row" "[I") wa_148) (fun _ h9 => h9) rfl dX12_tonsBy_64 ?_
        refine lv_iload hx hb dX12_tonsBy_67 (lv_at hl 1 rfl) ?_
        refine lv_iconst (v := 2) hx hb dX12_tonsBy_69 (by decide) ?_
        refine lv_iadd hx hb dX12_tonsBy_70 ?_
        refine lv_topi (fun z49 ez49 => ?_)
        have iz49 : z49.toInt = z43.toInt + 2 := zi_add ez49 rfl rfl (by omega) (by omega)
        refine va_iald hx hb hK hP q32 0 eq32 rfl (vp_in_iff.mpr ⟨by omega, by omega⟩) dX12_tonsBy_71 ?_
        refine lv_topi (fun z50 ez50 => ?_)
        refine lv_i2l hx hb dX12_tonsBy_72 rfl ?_
        refine lv_aload_n hx hb dX12_tonsBy_73 rfl (lv_at hl 4 rfl) ?_
        refine va_get (D := (dC, dI)) (ci := 12) (v := .ref (ρ h0 2)) (C := RX12) (T := TX12) (N := 53) hx hb hts hfX12 hown hK hP q30 eq30 rfl 2 (by decide) (hts (.fieldLink RX12 7 "ColdShipsModel" "row" "[I") wa_148) (fun _ h9 => h9) rfl dX12_tonsBy_74 ?_
        refine lv_iload hx hb dX12_tonsBy_77 (lv_at hl 0 rfl) ?_
        refine lv_iconst (v := 2) hx hb dX12_tonsBy_79 (by decide) ?_
        refine lv_iadd hx hb dX12_tonsBy_80 ?_
        refine lv_topi (fun z51 ez51 => ?_)
        have iz51 : z51.toInt = z44.toInt + 2 := zi_add ez51 rfl rfl (by omega) (by omega)
        refine va_iald hx hb hK hP q32 0 eq32 rfl (vp_in_iff.mpr ⟨by omega, by omega⟩) dX12_tonsBy_81 ?_
        refine lv_topi (fun z52 ez52 => ?_)
        refine lv_aload_n hx hb dX12_tonsBy_82 rfl (lv_at hl 4 rfl) ?_
        refine va_get (D := (dC, dI)) (ci := 12) (v := .ref (ρ h0 2)) (C := RX12) (T := TX12) (N := 53) hx hb hts hfX12 hown hK hP q30 eq30 rfl 2 (by decide) (hts (.fieldLink RX12 7 "ColdShipsModel" "row" "[I") wa_148) (fun _ h9 => h9) rfl dX12_tonsBy_83 ?_
        refine lv_iload hx hb dX12_tonsBy_86 (lv_at hl 1 rfl) ?_
        refine lv_iconst (v := 2) hx hb dX12_tonsBy_88 (by decide) ?_
        refine lv_iadd hx hb dX12_tonsBy_89 ?_
        refine lv_topi (fun z53 ez53 => ?_)
        have iz53 : z53.toInt = z43.toInt + 2 := zi_add ez53 rfl rfl (by omega) (by omega)
        refine va_iald hx hb hK hP q32 0 eq32 rfl (vp_in_iff.mpr ⟨by omega, by omega⟩) dX12_tonsBy_90 ?_
        refine lv_topi (fun z54 ez54 => ?_)
        refine lv_isub hx hb dX12_tonsBy_91 ?_
        refine lv_topi (fun z55 ez55 => ?_)
        refine lv_i2l hx hb dX12_tonsBy_92 rfl ?_
        refine lv_iload_n hx hb dX12_tonsBy_93 rfl (lv_at hl 6 rfl) ?_
        refine lv_aload_n hx hb dX12_tonsBy_94 rfl (lv_at hl 4 rfl) ?_
        refine va_get (D := (dC, dI)) (ci := 12) (v := .ref (ρ h0 2)) (C := RX12) (T := TX12) (N := 53) hx hb hts hfX12 hown hK hP q30 eq30 rfl 2 (by decide) (hts (.fieldLink RX12 7 "ColdShipsModel" "row" "[I") wa_148) (fun _ h9 => h9) rfl dX12_tonsBy_95 ?_
        refine lv_iload hx hb dX12_tonsBy_98 (lv_at hl 1 rfl) ?_
        refine lv_iconst (v := 1) hx hb dX12_tonsBy_100 (by decide) ?_
        refine lv_iadd hx hb dX12_tonsBy_101 ?_
        refine lv_topi (fun z56 ez56 => ?_)
        have iz56 : z56.toInt = z43.toInt + 1 := zi_add ez56 rfl rfl (by omega) (by omega)
        refine va_iald hx hb hK hP q32 0 eq32 rfl (vp_in_iff.mpr ⟨by omega, by omega⟩) dX12_tonsBy_102 ?_
        refine lv_topi (fun z57 ez57 => ?_)
        have jz57 : z57.toInt = mo_R g27 (547 + 84 * qs + 33 + 3 * w35.toInt) := mo_rd ez57 (by omega)
        have kz57 := hI.SB (s := qs) (k := w35.toInt) (by omega) (by omega) (by omega) (by omega)
        refine lv_isub hx hb dX12_tonsBy_103 ?_
        refine lv_topi (fun z58 ez58 => ?_)
        have iz58 : z58.toInt = v.toInt - z57.toInt := zi_sub ez58 rfl rfl (by omega) (by omega)
        refine lv_i2l hx hb dX12_tonsBy_104 rfl ?_
        refine lv_lmul hx hb dX12_tonsBy_105 ?_
        refine lv_topl (fun z59 ez59 => ?_)
        refine lv_aload_n hx hb dX12_tonsBy_106 rfl (lv_at hl 4 rfl) ?_
        refine va_get (D := (dC, dI)) (ci := 12) (v := .ref (ρ h0 2)) (C := RX12) (T := TX12) (N := 53) hx hb hts hfX12 hown hK hP q30 eq30 rfl 2 (by decide) (hts (.fieldLink RX12 7 "ColdShipsModel" "row" "[I") wa_148) (fun _ h9 => h9) rfl dX12_tonsBy_107 ?_
        refine lv_iload hx hb dX12_tonsBy_110 (lv_at hl 0 rfl) ?_
        refine lv_iconst (v := 1) hx hb dX12_tonsBy_112 (by decide) ?_
        refine lv_iadd hx hb dX12_tonsBy_113 ?_
        refine lv_topi (fun z60 ez60 => ?_)
        have iz60 : z60.toInt = z44.toInt + 1 := zi_add ez60 rfl rfl (by omega) (by omega)
        refine va_iald hx hb hK hP q32 0 eq32 rfl (vp_in_iff.mpr ⟨by omega, by omega⟩) dX12_tonsBy_114 ?_
        refine lv_topi (fun z61 ez61 => ?_)
        have jz61 : z61.toInt = mo_R g27 (547 + 84 * qs + 33 + 3 * (w35.toInt + 1)) := mo_rd ez61 (by omega)
        have kz61 := hI.SB (s := qs) (k := (w35.toInt + 1)) (by omega) (by omega) (by omega) (by omega)
        have vz61 : z61.toInt = z46.toInt := jz61.trans (jz46).symm
        refine lv_aload_n hx hb dX12_tonsBy_115 rfl (lv_at hl 4 rfl) ?_
        refine va_get (D := (dC, dI)) (ci := 12) (v := .ref (ρ h0 2)) (C := RX12) (T := TX12) (N := 53) hx hb hts hfX12 hown hK hP q30 eq30 rfl 2 (by decide) (hts (.fieldLink RX12 7 "ColdShipsModel" "row" "[I") wa_148) (fun _ h9 => h9) rfl dX12_tonsBy_116 ?_
        refine lv_iload hx hb dX12_tonsBy_119 (lv_at hl 1 rfl) ?_
        refine lv_iconst (v := 1) hx hb dX12_tonsBy_121 (by decide) ?_
        refine lv_iadd hx hb dX12_tonsBy_122 ?_
        refine lv_topi (fun z62 ez62 => ?_)
        have iz62 : z62.toInt = z43.toInt + 1 := zi_add ez62 rfl rfl (by omega) (by omega)
        refine va_iald hx hb hK hP q32 0 eq32 rfl (vp_in_iff.mpr ⟨by omega, by omega⟩) dX12_tonsBy_123 ?_
        refine lv_topi (fun z63 ez63 => ?_)
        have jz63 : z63.toInt = mo_R g27 (547 + 84 * qs + 33 + 3 * w35.toInt) := mo_rd ez63 (by omega)
        have kz63 := hI.SB (s := qs) (k := w35.toInt) (by omega) (by omega) (by omega) (by omega)
        have vz63 : z63.toInt = z57.toInt := jz63.trans (jz57).symm
        refine lv_isub hx hb dX12_tonsBy_124 ?_
        refine lv_topi (fun z64 ez64 => ?_)
        have iz64 : z64.toInt = z61.toInt - z63.toInt := zi_sub ez64 rfl rfl (by omega) (by omega)
        refine lv_i2l hx hb dX12_tonsBy_125 rfl ?_
        refine lv_ldiv hx hb dX12_tonsBy_126 (zl_nz (by omega) (Int32.toInt_toInt64 z64)) ?_
        refine lv_topl (fun z65 ez65 => ?_)
        refine lv_ladd hx hb dX12_tonsBy_127 ?_
        refine lv_topl (fun z66 ez66 => ?_)
        exact W.lret (v := z66) hx hb hr (fun t ht hW => ⟨z66, rfl, ⟨trivial, trivial⟩, ht⟩) (fun _ h => by cases h) dX12_tonsBy_128
  · have ic34 : v.toInt ≤ z33.toInt := zi_gtf rfl rfl c34
    refine lv_aload_n hx hb dX12_tonsBy_17 rfl (lv_at hl 1 rfl) ?_
    refine va_get (D := (dC, dI)) (ci := 12) (v := .ref (ρ h0 2)) (C := RX12) (T := TX12) (N := 53) hx hb hts hfX12 hown hK hP q30 eq30 rfl 2 (by decide) (hts (.fieldLink RX12 7 "ColdShipsModel" "row" "[I") wa_148) (fun _ h9 => h9) rfl dX12_tonsBy_18 ?_
    refine lv_iload_n hx hb dX12_tonsBy_21 rfl (lv_at hl 0 rfl) ?_
    refine lv_iconst (v := 2) hx hb dX12_tonsBy_22 (by decide) ?_
    refine lv_iadd hx hb dX12_tonsBy_23 ?_
    refine lv_topi (fun z67 ez67 => ?_)
    have iz67 : z67.toInt = z28.toInt + 2 := zi_add ez67 rfl rfl (by omega) (by omega)
    refine va_iald hx hb hK hP q32 0 eq32 rfl (vp_in_iff.mpr ⟨by omega, by omega⟩) dX12_tonsBy_24 ?_
    refine lv_topi (fun z68 ez68 => ?_)
    refine lv_i2l hx hb dX12_tonsBy_25 rfl ?_
    exact W.lret (v := z68.toInt64) hx hb hr (fun t ht hW => ⟨z68.toInt64, rfl, ⟨trivial, trivial⟩, ht⟩) (fun _ h => by cases h) dX12_tonsBy_26
set_option maxHeartbeats 4000000 in
set_option maxRecDepth 100000 in
theorem t_X12_gaugedBy (l : Launch) (dC : Nat → ClassId) (dI : Nat → Nat → Nat) (sz : Nat) (κ : Nat → ClassId) (Θ : Nat → Option Int) (τ ν : Nat → Nat) (ρ : Nat → Nat → Nat) (L : List Nat) (f : Nat → va_E) (hG : tp_G τ ν ρ L) (hT : tp_T (mo_O κ Θ) κ τ ν ρ f) (h0 : Nat) (v : Int32) (u : Int32) (a : Int32) (x : Int) (b : Int) (ht_h0 : τ h0 = 13) (hbb : 0 ≤ b ∧ b ≤ 1000) (hJ : mo_RI x b (mo_R (mo_i (f (ρ h0 2))))) (hv5 : 0 ≤ v.toInt ∧ v.toInt < (mo_R (mo_i (f (ρ h0 2)))) (5)) : Met l yX12_gaugedBy wqX12_gaugedBy ({ frames := 3, cells := 0, slots := 0, locals := 800 }) (va_Pc [.ref h0, .int v, .int u, .int a] (pz_B dC dI (tp_K κ) (va_pl L f) sz)) (vp_Sl (fun r => True ∧ True)) 0 0 (fun _ => False) := by
  refine Met.ofW (cc := cX12_gaugedBy) (maxL := 9) (ret := some .long) (by decide) rfl ?_
  intro p e s m args below meth c s₁ B hml hv
  obtain ⟨rfl, hsz, hP, hK, hD0, hN⟩ := hv
  have hx := B.exec
  have hb := B.bytes
  have hr := B.returns
  have hts := fun (w : Cond) (h : w ∈ WALL) => atoms_spec (ws := wqX12_gaugedBy) B.pre w (List.mem_cons_of_mem _ h)
  have hown : s.vm.findClass RX12 = some m.cls := findClass_of_methodNamed B.named
  have hlocks := B.notSynchronized
  subst hsz
  have hD := hD0
  have hS : va_S (fun _ => True) s.heap s.heap [] := va_S.rf
  have hl := lv_entry ([.ref h0, .int v, .int u, .int a]) (n := 9) (Nat.le_of_ble_eq_true rfl)
  rw [lg_entry_eq]
  generalize (lg_sl ([.ref h0, .int v, .int u, .int a]) ++ List.replicate (9 - (lg_sl ([.ref h0, .int v, .int u, .int a])).length) Slot.unset).toArray = ls at hl ⊢
  have hl : lv_has ls 9 [(0, .ref h0), (1, .int v), (2, .int u), (3, .int a)] := hl
  refine tgk_13 hG ht_h0 (fun y1 y2 y3 y4 y5 y6 y7 y8 y9 y10 y11 y12 y13 y14 y15 y16 y17 y18 y19 y20 y21 y22 y23 y24 y25 => ?_)
  refine tpk_32 hT y1 (fun g27 hf_o26 => ?_)
  have hI : mo_RI x b (mo_R g27) := by have q9 := hJ; rw [hf_o26, mo_i1] at q9; exact q9
  rw [hf_o26, mo_i1] at hv5
  have := hI.k5; have := hI.k1
  refine lv_aload_n hx hb dX12_gaugedBy_0 rfl (lv_at hl 0 rfl) ?_
  refine tpk_13 hT ht_h0 (fun o28_x0 o28_x1 o28_x7 o28_x9 o28_x10 o28_x11 o28_x12 o28_x13 o28_x14 o28_x15 o28_x16 o28_x17 o28_x18 o28_x19 o28_x20 o28_x22 o28_x25 o28_x28 o28_x29 o28_x32 o28_x33 o28_x34 o28_x35 o28_x36 o28_x37 o28_x38 o28_x47 o28_x48 hf_o28 ro28_0 ro28_1 ro28_2 ro28_3 ro28_4 ro28_5 ro28_6 ro28_7 ro28_8 ro28_9 ro28_10 ro28_11 ro28_12 ro28_13 ro28_14 => ?_)
  refine tpk_pos (tp_in hG ht_h0 (by decide)) hf_o28 (fun q29 eq29 => ?_)
  refine va_get (D := (dC, dI)) (ci := 12) (v := .ref (ρ h0 2)) (C := RX12) (T := TX12) (N := 53) hx hb hts hfX12 hown hK hP q29 eq29 rfl 2 (by decide) (hts (.fieldLink RX12 7 "ColdShipsModel" "row" "[I") wa_148) (fun _ h9 => h9) rfl dX12_gaugedBy_1 ?_
  refine lv_iload_n hx hb dX12_gaugedBy_4 rfl (lv_at hl 1 rfl) ?_
  refine pz_calli (va_runS (As := [.int v]) (rest := [.ref (ρ h0 2)]) ⟨hx, hb, hml, hown, hts⟩ (t_X12_landingAt l dC dI _ v (v.toInt) (by omega) rfl) (va_cwS 1 hts gX12_gaugedBy_X12_landingAt rfl rfl rfl pd_X12_landingAt ⟨Nat.le_of_ble_eq_true rfl, Nat.le_of_ble_eq_true rfl⟩) ⟨pz_blind, pz_pre pz_P0 (hK.sub (tys' := []) [] rfl) (pz_D0 (A := fun _ => True)) hN⟩ rfl rfl hl.1 rfl (lv_room (Nat.le_of_ble_eq_true rfl)) dX12_gaugedBy_5 ⟨Nat.le_of_ble_eq_true rfl, Nat.le_of_ble_eq_true rfl⟩) (fun r30 hw31 => ?_)
  obtain ⟨hw31r, hw31p⟩ := hw31
  refine tpk_pos (tp_in hG y1 (by decide)) hf_o26 (fun q32 eq32 => ?_)
  refine va_iald hx hb hK hP q32 0 eq32 rfl (vp_in_iff.mpr ⟨by omega, by omega⟩) dX12_gaugedBy_8 ?_
  refine lv_topi (fun z33 ez33 => ?_)
  have := hI.k1
  have jz33 : z33.toInt = mo_R g27 (1051 + 16 * v.toInt + 0) := mo_rd ez33 (by omega)
  have kz33 := hI.LS (l := v.toInt) (by omega) (by omega)
  refine pz_calli (va_runS (As := [.int z33]) (rest := []) ⟨hx, hb, hml, hown, hts⟩ (t_X12_shipAt l dC dI _ z33 (z33.toInt) (by omega) rfl) (va_cwS 1 hts gX12_gaugedBy_X12_shipAt rfl rfl rfl pd_X12_shipAt ⟨Nat.le_of_ble_eq_true rfl, Nat.le_of_ble_eq_true rfl⟩) ⟨pz_blind, pz_pre pz_P0 (hK.sub (tys' := []) [] rfl) (pz_D0 (A := fun _ => True)) hN⟩ rfl rfl hl.1 rfl (lv_room (Nat.le_of_ble_eq_true rfl)) dX12_gaugedBy_9 ⟨Nat.le_of_ble_eq_true rfl, Nat.le_of_ble_eq_true rfl⟩) (fun r34 hw35 => ?_)
  obtain ⟨hw35r, hw35p⟩ := hw35
  refine lv_istore (lv' := [(4, .int r34), (0, .ref h0), (1, .int v), (2, .int u), (3, .int a)]) hx hb dX12_gaugedBy_12 hl (by decide) rfl (fun ls hl => ?_)
  refine lv_ldc2 (own := RX12) (v := (-2000000000000000)) hx hb hown (hts (.constantLong RX12 466 (-2000000000000000)) wa_1189) dX12_gaugedBy_14 ?_
  refine lv_lstore (lv' := [(5, .long (-2000000000000000)), (4, .int r34), (0, .ref h0), (1, .int v), (2, .int u), (3, .int a)]) hx hb dX12_gaugedBy_17 hl (by decide) rfl (fun ls hl => ?_)
  refine lv_iconst (v := 0) hx hb dX12_gaugedBy_19 (by decide) ?_
  refine lv_istore (lv' := [(7, .int 0), (5, .long (-2000000000000000)), (4, .int r34), (0, .ref h0), (1, .int v), (2, .int u), (3, .int a)]) hx hb dX12_gaugedBy_20 hl (by decide) rfl (fun ls hl => ?_)
  refine pz_loop (fun n0 H locs ls => ∃ w36 : Int32, ∃ w37 : Int64, n0 = (60 - (w36.toInt)).toNat ∧ (0 ≤ w36.toInt ∧ w36.toInt ≤ 60) ∧ H = s.heap ∧ locs = [] ∧ lv_has ls 9 [(7, .int w36), (5, .long w37), (4, .int r34), (0, .ref h0), (1, .int v), (2, .int u), (3, .int a)]) ?_ _ _ _ _ ⟨0, (-2000000000000000), rfl, (by have : (0 : Int32).toInt = 0 := rfl; have : ((-2000000000000000) : Int64).toInt = (-2000000000000000) := rfl; omega), rfl, rfl, lv_sub hl [0, 1, 2, 3, 4, 5, 6] rfl⟩
  intro n0 H locs ls hI ih38
  refine Exists.elim hI (fun w36 hE90 => Exists.elim hE90 (fun w37 hE91 => tn_5 hE91 (fun hn39 rw36 e92 e93 hl => ?_)))
  clear hE91 hE90 hI; subst e92; subst e93
  refine lv_iload hx hb dX12_gaugedBy_22 (lv_at hl 0 rfl) ?_
  refine lv_aload_n hx hb dX12_gaugedBy_24 rfl (lv_at hl 3 rfl) ?_
  refine va_get (D := (dC, dI)) (ci := 12) (v := .ref (ρ h0 2)) (C := RX12) (T := TX12) (N := 53) hx hb hts hfX12 hown hK hP q29 eq29 rfl 2 (by decide) (hts (.fieldLink RX12 7 "ColdShipsModel" "row" "[I") wa_148) (fun _ h9 => h9) rfl dX12_gaugedBy_25 ?_
  refine lv_bipush (v := 9) hx hb dX12_gaugedBy_28 (by decide) ?_
  refine va_iald hx hb hK hP q32 0 eq32 rfl (vp_in_iff.mpr ⟨by decide, by decide⟩) dX12_gaugedBy_30 ?_
  refine lv_topi (fun z40 ez40 => ?_)
  have jz40 : z40.toInt = mo_R g27 (9) := mo_rd ez40 (show (9 : Int32).toInt = (9) from by decide)
  have kz40 := hI.k9
  refine lv_icmp_ge (tgt := 125) hx hb dX12_gaugedBy_31 (by decide) (fun c41 => ?_) (fun c41 => ?_)
  · have ic41 : w36.toInt ≥ z40.toInt := zi_ge rfl rfl c41
    refine lv_aload_n hx hb dX12_gaugedBy_125 rfl (lv_at hl 3 rfl) ?_
    refine lv_iload hx hb dX12_gaugedBy_126 (lv_at hl 2 rfl) ?_
    refine pz_calli (va_runV (As := [.int r34]) (rest := []) ⟨hx, hb, hml, hown, hts⟩ (t_X12_hasTable l dC dI _ κ Θ τ ν ρ L f hG hT h0 r34 x b z33.toInt ht_h0 (by omega) (by omega) (by omega) (by rw [hf_o26, mo_i1]; exact hI) (by first | (simp only [hf_o26, mo_i1]; omega) | (simp only [hf_o26, mo_i1]; trivial) | (simp only [hf_o26, mo_i1]; done) | omega)) (cwV 1 hts gX12_gaugedBy_X12_hasTable rfl rfl rfl ⟨rfl, pd_X12_hasTable⟩ ⟨Nat.le_of_ble_eq_true rfl, Nat.le_of_ble_eq_true rfl⟩) ⟨pz_blind, va_recv hK hP (ci := 12) (q0 := q29) rfl eq29, pz_pre hP hK hD hN⟩ rfl rfl hl.1 rfl (lv_room (Nat.le_of_ble_eq_true rfl)) dX12_gaugedBy_128 ⟨Nat.le_of_ble_eq_true rfl, Nat.le_of_ble_eq_true rfl⟩) (fun r42 hw43 => ?_)
    obtain ⟨hw43r, hw43p⟩ := hw43
    refine lv_if_eq (tgt := 139) hx hb dX12_gaugedBy_131 (by decide) (fun c44 => ?_) (fun c44 => ?_)
    · have ic44 : r42.toInt = 0 := zi_eq rfl rfl c44
      refine lv_ldc2 (own := RX12) (v := (-2000000000000000)) hx hb hown (hts (.constantLong RX12 466 (-2000000000000000)) wa_1189) dX12_gaugedBy_139 ?_
      exact W.lret (v := (-2000000000000000)) hx hb hr (fun t ht hW => ⟨(-2000000000000000), rfl, ⟨trivial, trivial⟩, ht⟩) (fun _ h => by cases h) dX12_gaugedBy_142
    · have ic44 : r42.toInt ≠ 0 := zi_eqf rfl rfl c44
      replace ic44 : 1 ≤ r42.toInt := by omega
      refine lv_lload hx hb dX12_gaugedBy_134 (lv_at hl 1 rfl) ?_
      refine lv_goto (tgt := 142) hx hb dX12_gaugedBy_136 (by decide) ?_
      exact W.lret (v := w37) hx hb hr (fun t ht hW => ⟨w37, rfl, ⟨trivial, trivial⟩, ht⟩) (fun _ h => by cases h) dX12_gaugedBy_142
  · have ic41 : w36.toInt < z40.toInt := zi_gef rfl rfl c41
    refine lv_sipush (v := 12619) hx hb dX12_gaugedBy_34 (by decide) ?_
    refine lv_iconst (v := 5) hx hb dX12_gaugedBy_37 (by decide) ?_
    refine lv_iload hx hb dX12_gaugedBy_38 (lv_at hl 0 rfl) ?_
    refine lv_imul hx hb dX12_gaugedBy_40 ?_
    refine lv_topi (fun z45 ez45 => ?_)
    have iz45 : z45.toInt = 5 * w36.toInt := zi_mul ez45 rfl rfl (by omega) (by omega)
    refine lv_iadd hx hb dX12_gaugedBy_41 ?_
    refine lv_topi (fun z46 ez46 => ?_)
    have iz46 : z46.toInt = 12619 + z45.toInt := zi_add ez46 rfl rfl (by omega) (by omega)
    refine lv_istore (lv' := [(8, .int z46), (7, .int w36), (5, .long w37), (4, .int r34), (0, .ref h0), (1, .int v), (2, .int u), (3, .int a)]) hx hb dX12_gaugedBy_42 hl (by decide) rfl (fun ls hl => ?_)
    refine lv_aload_n hx hb dX12_gaugedBy_44 rfl (lv_at hl 4 rfl) ?_
    refine va_get (D := (dC, dI)) (ci := 12) (v := .ref (ρ h0 2)) (C := RX12) (T := TX12) (N := 53) hx hb hts hfX12 hown hK hP q29 eq29 rfl 2 (by decide) (hts (.fieldLink RX12 7 "ColdShipsModel" "row" "[I") wa_148) (fun _ h9 => h9) rfl dX12_gaugedBy_45 ?_
    refine lv_iload hx hb dX12_gaugedBy_48 (lv_at hl 0 rfl) ?_
    refine va_iald hx hb hK hP q32 0 eq32 rfl (vp_in_iff.mpr ⟨by omega, by omega⟩) dX12_gaugedBy_50 ?_
    refine lv_topi (fun z47 ez47 => ?_)
    refine lv_iload_n hx hb dX12_gaugedBy_51 rfl (lv_at hl 5 rfl) ?_
    refine lv_icmp_ne (tgt := 119) hx hb dX12_gaugedBy_52 (by decide) (fun c48 => ?_) (fun c48 => ?_)
    · have ic48 : z47.toInt ≠ v.toInt := zi_ne rfl rfl c48
      obtain ⟨z49, ez49⟩ : ∃ y : Int32, y = w36 + 1 := ⟨_, rfl⟩
      refine lv_iinc (v := z49) (lv' := [(7, .int z49), (8, .int z46), (5, .long w37), (4, .int r34), (0, .ref h0), (1, .int v), (2, .int u), (3, .int a)]) hx hb dX12_gaugedBy_119 hl (k := 1) rfl (by rw [ez49]; rfl) (by decide) rfl (fun ls hl => ?_)
      have iz49 : z49.toInt = w36.toInt + 1 := zi_add ez49 rfl rfl (by omega) (by omega)
      refine lv_goto (tgt := 22) hx hb dX12_gaugedBy_122 (by decide) ?_
      exact ih38 _ _ _ _ (by rw [hn39]; omega) ⟨z49, w37, rfl, (by omega), rfl, rfl, lv_sub hl [0, 2, 3, 4, 5, 6, 7] rfl⟩
    · have ic48 : z47.toInt = v.toInt := zi_nef rfl rfl c48
      refine lv_aload_n hx hb dX12_gaugedBy_55 rfl (lv_at hl 4 rfl) ?_
      refine va_get (D := (dC, dI)) (ci := 12) (v := .ref (ρ h0 2)) (C := RX12) (T := TX12) (N := 53) hx hb hts hfX12 hown hK hP q29 eq29 rfl 2 (by decide) (hts (.fieldLink RX12 7 "ColdShipsModel" "row" "[I") wa_148) (fun _ h9 => h9) rfl dX12_gaugedBy_56 ?_
      refine lv_iload hx hb dX12_gaugedBy_59 (lv_at hl 0 rfl) ?_
      refine lv_iconst (v := 1) hx hb dX12_gaugedBy_61 (by decide) ?_
      refine lv_iadd hx hb dX12_gaugedBy_62 ?_
      refine lv_topi (fun z50 ez50 => ?_)
      have iz50 : z50.toInt = z46.toInt + 1 := zi_add ez50 rfl rfl (by omega) (by omega)
      refine va_iald hx hb hK hP q32 0 eq32 rfl (vp_in_iff.mpr ⟨by omega, by omega⟩) dX12_gaugedBy_63 ?_
      refine lv_topi (fun z51 ez51 => ?_)
      refine lv_iload_n hx hb dX12_gaugedBy_64 rfl (lv_at hl 6 rfl) ?_
      refine lv_icmp_ne (tgt := 119) hx hb dX12_gaugedBy_65 (by decide) (fun c52 => ?_) (fun c52 => ?_)
      · have ic52 : z51.toInt ≠ u.toInt := zi_ne rfl rfl c52
        obtain ⟨z53, ez53⟩ : ∃ y : Int32, y = w36 + 1 := ⟨_, rfl⟩
        refine lv_iinc (v := z53) (lv' := [(7, .int z53), (8, .int z46), (5, .long w37), (4, .int r34), (0, .ref h0), (1, .int v), (2, .int u), (3, .int a)]) hx hb dX12_gaugedBy_119 hl (k := 1) rfl (by rw [ez53]; rfl) (by decide) rfl (fun ls hl => ?_)
        have iz53 : z53.toInt = w36.toInt + 1 := zi_add ez53 rfl rfl (by omega) (by omega)
        refine lv_goto (tgt := 22) hx hb dX12_gaugedBy_122 (by decide) ?_
        exact ih38 _ _ _ _ (by rw [hn39]; omega) ⟨z53, w37, rfl, (by omega), rfl, rfl, lv_sub hl [0, 2, 3, 4, 5, 6, 7] rfl⟩
      · have ic52 : z51.toInt = u.toInt := zi_nef rfl rfl c52
        refine lv_aload_n hx hb dX12_gaugedBy_68 rfl (lv_at hl 4 rfl) ?_
        refine va_get (D := (dC, dI)) (ci := 12) (v := .ref (ρ h0 2)) (C := RX12) (T := TX12) (N := 53) hx hb hts hfX12 hown hK hP q29 eq29 rfl 2 (by decide) (hts (.fieldLink RX12 7 "ColdShipsModel" "row" "[I") wa_148) (fun _ h9 => h9) rfl dX12_gaugedBy_69 ?_
        refine lv_iload hx hb dX12_gaugedBy_72 (lv_at hl 0 rfl) ?_
        refine lv_iconst (v := 4) hx hb dX12_gaugedBy_74 (by decide) ?_
        refine lv_iadd hx hb dX12_gaugedBy_75 ?_
        refine lv_topi (fun z54 ez54 => ?_)
        have iz54 : z54.toInt = z46.toInt + 4 := zi_add ez54 rfl rfl (by omega) (by omega)
        refine va_iald hx hb hK hP q32 0 eq32 rfl (vp_in_iff.mpr ⟨by omega, by omega⟩) dX12_gaugedBy_76 ?_
        refine lv_topi (fun z55 ez55 => ?_)
        refine lv_iload_n hx hb dX12_gaugedBy_77 rfl (lv_at hl 7 rfl) ?_
        refine lv_icmp_gt (tgt := 119) hx hb dX12_gaugedBy_78 (by decide) (fun c56 => ?_) (fun c56 => ?_)
        · have ic56 : z55.toInt > a.toInt := zi_gt rfl rfl c56
          obtain ⟨z57, ez57⟩ : ∃ y : Int32, y = w36 + 1 := ⟨_, rfl⟩
          refine lv_iinc (v := z57) (lv' := [(7, .int z57), (8, .int z46), (5, .long w37), (4, .int r34), (0, .ref h0), (1, .int v), (2, .int u), (3, .int a)]) hx hb dX12_gaugedBy_119 hl (k := 1) rfl (by rw [ez57]; rfl) (by decide) rfl (fun ls hl => ?_)
          have iz57 : z57.toInt = w36.toInt + 1 := zi_add ez57 rfl rfl (by omega) (by omega)
          refine lv_goto (tgt := 22) hx hb dX12_gaugedBy_122 (by decide) ?_
          exact ih38 _ _ _ _ (by rw [hn39]; omega) ⟨z57, w37, rfl, (by omega), rfl, rfl, lv_sub hl [0, 2, 3, 4, 5, 6, 7] rfl⟩
        · have ic56 : z55.toInt ≤ a.toInt := zi_gtf rfl rfl c56
          refine lv_aload_n hx hb dX12_gaugedBy_81 rfl (lv_at hl 4 rfl) ?_
          refine lv_iload hx hb dX12_gaugedBy_82 (lv_at hl 3 rfl) ?_
          refine lv_aload_n hx hb dX12_gaugedBy_84 rfl (lv_at hl 4 rfl) ?_
          refine va_get (D := (dC, dI)) (ci := 12) (v := .ref (ρ h0 2)) (C := RX12) (T := TX12) (N := 53) hx hb hts hfX12 hown hK hP q29 eq29 rfl 2 (by decide) (hts (.fieldLink RX12 7 "ColdShipsModel" "row" "[I") wa_148) (fun _ h9 => h9) rfl dX12_gaugedBy_85 ?_
          refine lv_iload hx hb dX12_gaugedBy_88 (lv_at hl 0 rfl) ?_
          refine lv_iconst (v := 2) hx hb dX12_gaugedBy_90 (by decide) ?_
          refine lv_iadd hx hb dX12_gaugedBy_91 ?_
          refine lv_topi (fun z58 ez58 => ?_)
          have iz58 : z58.toInt = z46.toInt + 2 := zi_add ez58 rfl rfl (by omega) (by omega)
          refine va_iald hx hb hK hP q32 0 eq32 rfl (vp_in_iff.mpr ⟨by omega, by omega⟩) dX12_gaugedBy_92 ?_
          refine lv_topi (fun z59 ez59 => ?_)
          refine lv_aload_n hx hb dX12_gaugedBy_93 rfl (lv_at hl 4 rfl) ?_
          refine va_get (D := (dC, dI)) (ci := 12) (v := .ref (ρ h0 2)) (C := RX12) (T := TX12) (N := 53) hx hb hts hfX12 hown hK hP q29 eq29 rfl 2 (by decide) (hts (.fieldLink RX12 7 "ColdShipsModel" "row" "[I") wa_148) (fun _ h9 => h9) rfl dX12_gaugedBy_94 ?_
          refine lv_iload hx hb dX12_gaugedBy_97 (lv_at hl 0 rfl) ?_
          refine lv_iconst (v := 3) hx hb dX12_gaugedBy_99 (by decide) ?_
          refine lv_iadd hx hb dX12_gaugedBy_100 ?_
          refine lv_topi (fun z60 ez60 => ?_)
          have iz60 : z60.toInt = z46.toInt + 3 := zi_add ez60 rfl rfl (by omega) (by omega)
          refine va_iald hx hb hK hP q32 0 eq32 rfl (vp_in_iff.mpr ⟨by omega, by omega⟩) dX12_gaugedBy_101 ?_
          refine lv_topi (fun z61 ez61 => ?_)
          refine lv_aload_n hx hb dX12_gaugedBy_102 rfl (lv_at hl 4 rfl) ?_
          refine va_get (D := (dC, dI)) (ci := 12) (v := .ref (ρ h0 2)) (C := RX12) (T := TX12) (N := 53) hx hb hts hfX12 hown hK hP q29 eq29 rfl 2 (by decide) (hts (.fieldLink RX12 7 "ColdShipsModel" "row" "[I") wa_148) (fun _ h9 => h9) rfl dX12_gaugedBy_103 ?_
          refine lv_iload hx hb dX12_gaugedBy_106 (lv_at hl 3 rfl) ?_
          refine lv_bipush (v := 31) hx hb dX12_gaugedBy_108 (by decide) ?_
          refine lv_iadd hx hb dX12_gaugedBy_110 ?_
          refine lv_topi (fun z62 ez62 => ?_)
          have iz62 : z62.toInt = r34.toInt + 31 := zi_add ez62 rfl rfl (by omega) (by omega)
          refine va_iald hx hb hK hP q32 0 eq32 rfl (vp_in_iff.mpr ⟨by omega, by omega⟩) dX12_gaugedBy_111 ?_
          refine lv_topi (fun z63 ez63 => ?_)
          refine lv_imul hx hb dX12_gaugedBy_112 ?_
          refine lv_topi (fun z64 ez64 => ?_)
          refine lv_isub hx hb dX12_gaugedBy_113 ?_
          refine lv_topi (fun z65 ez65 => ?_)
          refine pz_calll (va_runV (As := [.int r34, .int z65]) (rest := []) ⟨hx, hb, hml, hown, hts⟩ (t_X12_tonsBy l dC dI _ κ Θ τ ν ρ L f hG hT h0 r34 z65 x b z33.toInt ht_h0 (by omega) (by omega) (by omega) (by rw [hf_o26, mo_i1]; exact hI) (by first | (simp only [hf_o26, mo_i1]; omega) | (simp only [hf_o26, mo_i1]; trivial) | (simp only [hf_o26, mo_i1]; done) | omega)) (cwV 2 hts gX12_gaugedBy_X12_tonsBy rfl rfl rfl ⟨rfl, pd_X12_tonsBy⟩ ⟨Nat.le_of_ble_eq_true rfl, Nat.le_of_ble_eq_true rfl⟩) ⟨pz_blind, va_recv hK hP (ci := 12) (q0 := q29) rfl eq29, pz_pre hP hK hD hN⟩ rfl rfl hl.1 rfl (lv_room (Nat.le_of_ble_eq_true rfl)) dX12_gaugedBy_114 ⟨Nat.le_of_ble_eq_true rfl, Nat.le_of_ble_eq_true rfl⟩) (fun r66 hw67 => ?_)
          obtain ⟨hw67r, hw67p⟩ := hw67
          refine lv_lstore (lv' := [(5, .long r66), (8, .int z46), (7, .int w36), (4, .int r34), (0, .ref h0), (1, .int v), (2, .int u), (3, .int a)]) hx hb dX12_gaugedBy_117 hl (by decide) rfl (fun ls hl => ?_)
          obtain ⟨z68, ez68⟩ : ∃ y : Int32, y = w36 + 1 := ⟨_, rfl⟩
          refine lv_iinc (v := z68) (lv' := [(7, .int z68), (5, .long r66), (8, .int z46), (4, .int r34), (0, .ref h0), (1, .int v), (2, .int u), (3, .int a)]) hx hb dX12_gaugedBy_119 hl (k := 2) rfl (by rw [ez68]; rfl) (by decide) rfl (fun ls hl => ?_)
          have iz68 : z68.toInt = w36.toInt + 1 := zi_add ez68 rfl rfl (by omega) (by omega)
          refine lv_goto (tgt := 22) hx hb dX12_gaugedBy_122 (by decide) ?_
          exact ih38 _ _ _ _ (by rw [hn39]; omega) ⟨z68, r66, rfl, (by omega), rfl, rfl, lv_sub hl [0, 1, 3, 4, 5, 6, 7] rfl⟩
set_option maxHeartbeats 4000000 in
set_option maxRecDepth 100000 in
theorem t_X12_gauged (l : Launch) (dC : Nat → ClassId) (dI : Nat → Nat → Nat) (sz : Nat) (κ : Nat → ClassId) (Θ : Nat → Option Int) (τ ν : Nat → Nat) (ρ : Nat → Nat → Nat) (L : List Nat) (f : Nat → va_E) (hG : tp_G τ ν ρ L) (hT : tp_T (mo_O κ Θ) κ τ ν ρ f) (h0 : Nat) (v : Int32) (u : Int32) (a : Int32) (ht_h0 : τ h0 = 13) (hJ : mo_RI (-1) 0 (mo_R (mo_i (f (ρ h0 2))))) : Met l yX12_gauged wqX12_gauged ({ frames := 4, cells := 0, slots := 0, locals := 1200 }) (va_Pc [.ref h0, .int v, .int u, .int a] (pz_B dC dI (tp_K κ) (va_pl L f) sz)) (va_Ql (fun (r : Int64) (f1 : Nat → va_E) => tp_T (mo_O κ Θ) κ τ ν ρ f1 ∧ tp_F τ [13] f f1 ∧ True ∧ True) (fun (f1 : Nat → va_E) (t : State) => pz_E dC dI (tp_K κ) (va_A (va_pl L f) sz) (va_pl L f1) t) (va_A (va_pl L f) sz)) 0 0 (va_A (va_pl L f) sz) := by
  refine Met.ofW (cc := cX12_gauged) (maxL := 11) (ret := some .long) (by decide) rfl ?_
  intro p e s m args below meth c s₁ B hml hv
  obtain ⟨rfl, hsz, hP, hK, hD0, hN⟩ := hv
  have hx := B.exec
  have hb := B.bytes
  have hr := B.returns
  have hts := fun (w : Cond) (h : w ∈ WALL) => atoms_spec (ws := wqX12_gauged) B.pre w (List.mem_cons_of_mem _ h)
  have hown : s.vm.findClass RX12 = some m.cls := findClass_of_methodNamed B.named
  have hlocks := B.notSynchronized
  subst hsz
  have hD := hD0.self (sz := s.heap.size)
  generalize hAe : va_A (va_pl L f) s.heap.size = A at hD ⊢
  have hA : ∀ q : Nat, s.heap.size ≤ q → A q := fun q h => by rw [← hAe]; exact Or.inr h
  have hS : va_S A s.heap s.heap [] := va_S.rf
  have hR : tp_F τ [13] f f := tp_F.rf
  have hl := lv_entry ([.ref h0, .int v, .int u, .int a]) (n := 11) (Nat.le_of_ble_eq_true rfl)
  rw [lg_entry_eq]
  generalize (lg_sl ([.ref h0, .int v, .int u, .int a]) ++ List.replicate (11 - (lg_sl ([.ref h0, .int v, .int u, .int a])).length) Slot.unset).toArray = ls at hl ⊢
  have hl : lv_has ls 11 [(0, .ref h0), (1, .int v), (2, .int u), (3, .int a)] := hl
  refine tgk_13 hG ht_h0 (fun y1 y2 y3 y4 y5 y6 y7 y8 y9 y10 y11 y12 y13 y14 y15 y16 y17 y18 y19 y20 y21 y22 y23 y24 y25 => ?_)
  refine tpk_32 hT y1 (fun g27 hf_o26 => ?_)
  have hI : mo_RI (-1) 0 (mo_R g27) := by have q9 := hJ; rw [hf_o26, mo_i1] at q9; exact q9
  refine lv_aload_n hx hb dX12_gauged_0 rfl (lv_at hl 0 rfl) ?_
  refine lv_iconst (v := 0) hx hb dX12_gauged_1 (by decide) ?_
  refine tpk_13 hT ht_h0 (fun o28_x0 o28_x1 o28_x7 o28_x9 o28_x10 o28_x11 o28_x12 o28_x13 o28_x14 o28_x15 o28_x16 o28_x17 o28_x18 o28_x19 o28_x20 o28_x22 o28_x25 o28_x28 o28_x29 o28_x32 o28_x33 o28_x34 o28_x35 o28_x36 o28_x37 o28_x38 o28_x47 o28_x48 hf_o28 ro28_0 ro28_1 ro28_2 ro28_3 ro28_4 ro28_5 ro28_6 ro28_7 ro28_8 ro28_9 ro28_10 ro28_11 ro28_12 ro28_13 ro28_14 => ?_)
  refine tpk_pos (tp_in hG ht_h0 (by decide)) hf_o28 (fun q29 eq29 => ?_)
  refine va_put (D := (dC, dI)) (ci := 12) (v := .int 0) (ty := .int) (C := RX12) (T := TX12) (N := 53) hx hb hts hfX12 tyX12 tyX12_ok nmX12 hown hK hP hD hS q29 eq29 rfl 0 (by decide) (hts (.fieldLink RX12 91 "ColdShipsModel" "thrown" "I") wa_209) (fun _ h9 => h9) rfl (tyX12_ok 0 (by decide)) rfl rfl (Nat.le_of_ble_eq_true rfl) dX12_gauged_2 (tp_k (.inr (12, [.int 0, .int o28_x1, .ref (ρ h0 2), .ref (ρ h0 3), .ref (ρ h0 4), .ref (ρ h0 5), .ref (ρ h0 6), .int o28_x7, .ref (ρ h0 8), .int o28_x9, .int o28_x10, .int o28_x11, .int o28_x12, .long o28_x13, .int o28_x14, .int o28_x15, .int o28_x16, .int o28_x17, .int o28_x18, .int o28_x19, .int o28_x20, .ref (ρ h0 21), .int o28_x22, .ref (ρ h0 23), .ref (ρ h0 24), .int o28_x25, .ref (ρ h0 26), .ref (ρ h0 27), .int o28_x28, .int o28_x29, .ref (ρ h0 30), .ref (ρ h0 31), .int o28_x32, .long o28_x33, .long o28_x34, .long o28_x35, .int o28_x36, .int o28_x37, .int o28_x38, .ref (ρ h0 39), .ref (ρ h0 40), .ref (ρ h0 41), .ref (ρ h0 42), .ref (ρ h0 43), .ref (ρ h0 44), .ref (ρ h0 45), .ref (ρ h0 46), .int o28_x47, .int o28_x48, .ref (ρ h0 49), .ref (ρ h0 50), .ref (ρ h0 51), .ref (ρ h0 52)])) hD (tp_in hG ht_h0 (by decide)) eq29 (fun f30 H locs hP hD hS g32 k31 => ?_))
  have hT := hT.up ht_h0 g32 k31 ⟨_, _, _, _, _, _, _, _, _, _, _, _, _, _, _, _, _, _, _, _, _, _, _, _, _, _, _, _, rfl, ro28_0, ro28_1, ro28_2, ro28_3, ro28_4, ro28_5, ro28_6, ro28_7, ro28_8, ro28_9, ro28_10, ro28_11, ro28_12, ro28_13, ro28_14⟩
  have hR := hR.up ht_h0 (by decide) k31
  refine lv_aload_n hx hb dX12_gauged_5 rfl (lv_at hl 0 rfl) ?_
  refine lv_iload_n hx hb dX12_gauged_6 rfl (lv_at hl 1 rfl) ?_
  have hf_33 : f30 (ρ h0 2) = .inl (κ 0, 12967, .inl g27) := (k31 _ (tp_ne y1 ht_h0 (by decide))).trans hf_o26
  refine tpk_pos (tp_in hG ht_h0 (by decide)) g32 (fun q34 eq34 => ?_)
  refine pz_calli (va_runV (As := [.int v]) (rest := []) ⟨hx, hb, hml, hown, hts⟩ (t_X12_isLanding l dC dI _ κ Θ τ ν ρ L f30 hG hT h0 v (-1) 0 ht_h0 (by omega) (by rw [hf_33, mo_i1]; exact hI)) (cwV 1 hts gX12_gauged_X12_isLanding rfl rfl rfl ⟨rfl, pd_X12_isLanding⟩ ⟨Nat.le_of_ble_eq_true rfl, Nat.le_of_ble_eq_true rfl⟩) ⟨pz_blind, va_recv hK hP (ci := 12) (q0 := q34) rfl eq34, pz_pre hP hK hD hN⟩ rfl rfl hl.1 rfl (lv_room (Nat.le_of_ble_eq_true rfl)) dX12_gauged_7 ⟨Nat.le_of_ble_eq_true rfl, Nat.le_of_ble_eq_true rfl⟩) (fun r35 hw36 => ?_)
  obtain ⟨hw36r, hw36p⟩ := hw36
  have := hI.k5
  rw [hf_33, mo_i1] at hw36p
  refine lv_if_eq (tgt := 32) hx hb dX12_gauged_10 (by decide) (fun c37 => ?_) (fun c37 => ?_)
  · have ic37 : r35.toInt = 0 := zi_eq rfl rfl c37
    clear hw36r ic37
    refine lv_ldc2 (own := RX12) (v := (-2000000000000000)) hx hb hown (hts (.constantLong RX12 466 (-2000000000000000)) wa_1189) dX12_gauged_32 ?_
    exact W.lret (v := (-2000000000000000)) hx hb hr (fun t ht hW => ⟨⟨(-2000000000000000), f30, rfl, ⟨hT, hR, trivial, trivial⟩, by rw [ht]; exact hP, va_K.moved hW.alike hK, hD⟩, hS.F ht⟩) hS.2.2 dX12_gauged_35
  · have ic37 : r35.toInt ≠ 0 := zi_eqf rfl rfl c37
    replace ic37 : 1 ≤ r35.toInt := by omega
    have p38 : 0 ≤ v.toInt ∧ v.toInt < mo_R g27 5 := (tp_cond.yes hw36p) (by omega)
    clear hw36r ic37
    refine lv_iload_n hx hb dX12_gauged_13 rfl (lv_at hl 2 rfl) ?_
    refine pz_calli (va_runS (As := [.int u]) (rest := []) ⟨hx, hb, hml, hown, hts⟩ (t_X12_isHour l dC dI _ u (u.toInt) rfl) (va_cwS 1 hts gX12_gauged_X12_isHour rfl rfl rfl pd_X12_isHour ⟨Nat.le_of_ble_eq_true rfl, Nat.le_of_ble_eq_true rfl⟩) ⟨pz_blind, pz_pre pz_P0 (hK.sub (tys' := []) [] rfl) (pz_D0 (A := fun _ => True)) hN⟩ rfl rfl hl.1 rfl (lv_room (Nat.le_of_ble_eq_true rfl)) dX12_gauged_14 ⟨Nat.le_of_ble_eq_true rfl, Nat.le_of_ble_eq_true rfl⟩) (fun r39 hw40 => ?_)
    obtain ⟨hw40r, hw40p⟩ := hw40
    refine lv_if_eq (tgt := 32) hx hb dX12_gauged_17 (by decide) (fun c41 => ?_) (fun c41 => ?_)
    · have ic41 : r39.toInt = 0 := zi_eq rfl rfl c41
      clear hw40r ic41
      refine lv_ldc2 (own := RX12) (v := (-2000000000000000)) hx hb hown (hts (.constantLong RX12 466 (-2000000000000000)) wa_1189) dX12_gauged_32 ?_
      exact W.lret (v := (-2000000000000000)) hx hb hr (fun t ht hW => ⟨⟨(-2000000000000000), f30, rfl, ⟨hT, hR, trivial, trivial⟩, by rw [ht]; exact hP, va_K.moved hW.alike hK, hD⟩, hS.F ht⟩) hS.2.2 dX12_gauged_35
    · have ic41 : r39.toInt ≠ 0 := zi_eqf rfl rfl c41
      replace ic41 : 1 ≤ r39.toInt := by omega
      have p42 : 0 ≤ (u.toInt) ∧ (u.toInt) ≤ 2399 := (tp_cond.yes hw40p) (by omega)
      clear hw40r ic41
      refine lv_iload_n hx hb dX12_gauged_20 rfl (lv_at hl 3 rfl) ?_
      refine lv_i2l hx hb dX12_gauged_21 rfl ?_
      refine lv_lconst (v := 0) hx hb dX12_gauged_22 (by decide) ?_
      refine lv_ldc2 (own := RX12) (v := 3) hx hb hown (hts (.constantLong RX12 152 (3)) wa_391) dX12_gauged_23 ?_
      refine pz_calli (va_runS (As := [.long a.toInt64, .long 0, .long 3]) (rest := []) ⟨hx, hb, hml, hown, hts⟩ (t_X12_in l dC dI _ a.toInt64 (0) (3) (a.toInt) (0) (3) (Int32.toInt_toInt64 a) rfl rfl) (va_cwS 3 hts gX12_gauged_X12_in rfl rfl rfl pd_X12_in ⟨Nat.le_of_ble_eq_true rfl, Nat.le_of_ble_eq_true rfl⟩) ⟨pz_blind, pz_pre pz_P0 (hK.sub (tys' := []) [] rfl) (pz_D0 (A := fun _ => True)) hN⟩ rfl rfl hl.1 rfl (lv_room (Nat.le_of_ble_eq_true rfl)) dX12_gauged_26 ⟨Nat.le_of_ble_eq_true rfl, Nat.le_of_ble_eq_true rfl⟩) (fun r43 hw44 => ?_)
      obtain ⟨hw44r, hw44p⟩ := hw44
      refine lv_if_ne (tgt := 36) hx hb dX12_gauged_29 (by decide) (fun c45 => ?_) (fun c45 => ?_)
      · have ic45 : r43.toInt ≠ 0 := zi_ne rfl rfl c45
        replace ic45 : 1 ≤ r43.toInt := by omega
        have p46 : (0) ≤ (a.toInt) ∧ (a.toInt) ≤ (3) := (tp_cond.yes hw44p) (by omega)
        clear hw44r ic45
        refine lv_aload_n hx hb dX12_gauged_36 rfl (lv_at hl 0 rfl) ?_
        refine lv_iload_n hx hb dX12_gauged_37 rfl (lv_at hl 1 rfl) ?_
        refine lv_iconst (v := 0) hx hb dX12_gauged_38 (by decide) ?_
        refine lv_iload_n hx hb dX12_gauged_39 rfl (lv_at hl 2 rfl) ?_
        refine pz_calll (va_runV (As := [.int v, .int 0, .int u]) (rest := []) ⟨hx, hb, hml, hown, hts⟩ (t_X12_gaugedBy l dC dI _ κ Θ τ ν ρ L f30 hG hT h0 v (0) u (-1) 0 ht_h0 (by first | omega | (have : (0 : Int32).toInt = 0 := rfl; omega)) (by rw [hf_33, mo_i1]; exact hI) (by first | (simp only [hf_33, hf_o26, mo_i1]; omega) | (simp only [hf_33, hf_o26, mo_i1]; trivial) | (simp only [hf_33, hf_o26, mo_i1]; done) | omega)) (cwV 3 hts gX12_gauged_X12_gaugedBy rfl rfl rfl ⟨rfl, pd_X12_gaugedBy⟩ ⟨Nat.le_of_ble_eq_true rfl, Nat.le_of_ble_eq_true rfl⟩) ⟨pz_blind, va_recv hK hP (ci := 12) (q0 := q34) rfl eq34, pz_pre hP hK hD hN⟩ rfl rfl hl.1 rfl (lv_room (Nat.le_of_ble_eq_true rfl)) dX12_gauged_40 ⟨Nat.le_of_ble_eq_true rfl, Nat.le_of_ble_eq_true rfl⟩) (fun r47 hw48 => ?_)
        obtain ⟨hw48r, hw48p⟩ := hw48
        refine lv_lstore (lv' := [(4, .long r47), (0, .ref h0), (1, .int v), (2, .int u), (3, .int a)]) hx hb dX12_gauged_43 hl (by decide) rfl (fun ls hl => ?_)
        refine lv_aload_n hx hb dX12_gauged_45 rfl (lv_at hl 1 rfl) ?_
        refine lv_iload_n hx hb dX12_gauged_46 rfl (lv_at hl 2 rfl) ?_
        refine lv_iconst (v := 1) hx hb dX12_gauged_47 (by decide) ?_
        refine lv_iload_n hx hb dX12_gauged_48 rfl (lv_at hl 3 rfl) ?_
        refine pz_calll (va_runV (As := [.int v, .int 1, .int u]) (rest := []) ⟨hx, hb, hml, hown, hts⟩ (t_X12_gaugedBy l dC dI _ κ Θ τ ν ρ L f30 hG hT h0 v (1) u (-1) 0 ht_h0 (by first | omega | (have : (1 : Int32).toInt = 1 := rfl; omega)) (by rw [hf_33, mo_i1]; exact hI) (by first | (simp only [hf_33, hf_o26, mo_i1]; omega) | (simp only [hf_33, hf_o26, mo_i1]; trivial) | (simp only [hf_33, hf_o26, mo_i1]; done) | omega)) (cwV 3 hts gX12_gauged_X12_gaugedBy rfl rfl rfl ⟨rfl, pd_X12_gaugedBy⟩ ⟨Nat.le_of_ble_eq_true rfl, Nat.le_of_ble_eq_true rfl⟩) ⟨pz_blind, va_recv hK hP (ci := 12) (q0 := q34) rfl eq34, pz_pre hP hK hD hN⟩ rfl rfl hl.1 rfl (lv_room (Nat.le_of_ble_eq_true rfl)) dX12_gauged_49 ⟨Nat.le_of_ble_eq_true rfl, Nat.le_of_ble_eq_true rfl⟩) (fun r49 hw50 => ?_)
        obtain ⟨hw50r, hw50p⟩ := hw50
        refine lv_lstore (lv' := [(6, .long r49), (4, .long r47), (0, .ref h0), (1, .int v), (2, .int u), (3, .int a)]) hx hb dX12_gauged_52 hl (by decide) rfl (fun ls hl => ?_)
        refine lv_iload_n hx hb dX12_gauged_54 rfl (lv_at hl 5 rfl) ?_
        refine lv_iconst (v := 2) hx hb dX12_gauged_55 (by decide) ?_
        refine lv_icmp_ge (tgt := 71) hx hb dX12_gauged_56 (by decide) (fun c51 => ?_) (fun c51 => ?_)
        · have ic51 : a.toInt ≥ 2 := zi_ge rfl rfl c51
          refine lv_lload hx hb dX12_gauged_71 (lv_at hl 1 rfl) ?_
          refine lv_ldc2 (own := RX12) (v := (-2000000000000000)) hx hb hown (hts (.constantLong RX12 466 (-2000000000000000)) wa_1189) dX12_gauged_73 ?_
          refine W.lcmp hx hb dX12_gauged_76 ?_
          refine lv_if_eq (tgt := 89) hx hb dX12_gauged_77 (by decide) (fun c52 => ?_) (fun c52 => ?_)
          · have ic52 : r47.toInt = (-2000000000000000) := zl_eq rfl rfl c52
            refine lv_ldc2 (own := RX12) (v := (-2000000000000000)) hx hb hown (hts (.constantLong RX12 466 (-2000000000000000)) wa_1189) dX12_gauged_89 ?_
            exact W.lret (v := (-2000000000000000)) hx hb hr (fun t ht hW => ⟨⟨(-2000000000000000), f30, rfl, ⟨hT, hR, trivial, trivial⟩, by rw [ht]; exact hP, va_K.moved hW.alike hK, hD⟩, hS.F ht⟩) hS.2.2 dX12_gauged_92
          · have ic52 : r47.toInt ≠ (-2000000000000000) := zl_eqf rfl rfl c52
            refine lv_lload hx hb dX12_gauged_80 (lv_at hl 0 rfl) ?_
            refine lv_ldc2 (own := RX12) (v := (-2000000000000000)) hx hb hown (hts (.constantLong RX12 466 (-2000000000000000)) wa_1189) dX12_gauged_82 ?_
            refine W.lcmp hx hb dX12_gauged_85 ?_
            refine lv_if_ne (tgt := 93) hx hb dX12_gauged_86 (by decide) (fun c53 => ?_) (fun c53 => ?_)
            · have ic53 : r49.toInt ≠ (-2000000000000000) := zl_ne rfl rfl c53
              refine lv_iload_n hx hb dX12_gauged_93 rfl (lv_at hl 3 rfl) ?_
              refine pz_calli (va_runS (As := [.int v]) (rest := []) ⟨hx, hb, hml, hown, hts⟩ (t_X12_landingAt l dC dI _ v (v.toInt) (by omega) rfl) (va_cwS 1 hts gX12_gauged_X12_landingAt rfl rfl rfl pd_X12_landingAt ⟨Nat.le_of_ble_eq_true rfl, Nat.le_of_ble_eq_true rfl⟩) ⟨pz_blind, pz_pre pz_P0 (hK.sub (tys' := []) [] rfl) (pz_D0 (A := fun _ => True)) hN⟩ rfl rfl hl.1 rfl (lv_room (Nat.le_of_ble_eq_true rfl)) dX12_gauged_94 ⟨Nat.le_of_ble_eq_true rfl, Nat.le_of_ble_eq_true rfl⟩) (fun r54 hw55 => ?_)
              obtain ⟨hw55r, hw55p⟩ := hw55
              refine lv_istore (lv' := [(8, .int r54), (6, .long r49), (4, .long r47), (0, .ref h0), (1, .int v), (2, .int u), (3, .int a)]) hx hb dX12_gauged_97 hl (by decide) rfl (fun ls hl => ?_)
              refine lv_lload hx hb dX12_gauged_99 (lv_at hl 2 rfl) ?_
              refine lv_lload hx hb dX12_gauged_101 (lv_at hl 1 rfl) ?_
              refine lv_lsub hx hb dX12_gauged_103 ?_
              refine lv_topl (fun z56 ez56 => ?_)
              refine lv_lstore (lv' := [(9, .long z56), (8, .int r54), (6, .long r49), (4, .long r47), (0, .ref h0), (1, .int v), (2, .int u), (3, .int a)]) hx hb dX12_gauged_104 hl (by decide) rfl (fun ls hl => ?_)
              refine lv_iload_n hx hb dX12_gauged_106 rfl (lv_at hl 7 rfl) ?_
              refine lv_iconst (v := 2) hx hb dX12_gauged_107 (by decide) ?_
              refine lv_icmp_ne (tgt := 116) hx hb dX12_gauged_108 (by decide) (fun c57 => ?_) (fun c57 => ?_)
              · have ic57 : a.toInt ≠ 2 := zi_ne rfl rfl c57
                replace ic57 : 3 ≤ a.toInt := by omega
                refine lv_aload_n hx hb dX12_gauged_116 rfl (lv_at hl 4 rfl) ?_
                refine lv_iload hx hb dX12_gauged_117 (lv_at hl 1 rfl) ?_
                refine pz_calli (va_runV (As := [.int r54]) (rest := []) ⟨hx, hb, hml, hown, hts⟩ (t_X12_billed l dC dI _ κ Θ τ ν ρ L f30 hG hT h0 r54 (-1) 0 v.toInt ht_h0 (by omega) (by omega) (by omega) (by rw [hf_33, mo_i1]; exact hI)) (cwV 1 hts gX12_gauged_X12_billed rfl rfl rfl ⟨rfl, pd_X12_billed⟩ ⟨Nat.le_of_ble_eq_true rfl, Nat.le_of_ble_eq_true rfl⟩) ⟨pz_blind, va_recv hK hP (ci := 12) (q0 := q34) rfl eq34, pz_pre hP hK hD hN⟩ rfl rfl hl.1 rfl (lv_room (Nat.le_of_ble_eq_true rfl)) dX12_gauged_119 ⟨Nat.le_of_ble_eq_true rfl, Nat.le_of_ble_eq_true rfl⟩) (fun r58 hw59 => ?_)
                obtain ⟨hw59r, hw59p⟩ := hw59
                refine lv_i2l hx hb dX12_gauged_122 rfl ?_
                refine lv_lload hx hb dX12_gauged_123 (lv_at hl 0 rfl) ?_
                refine lv_lsub hx hb dX12_gauged_125 ?_
                refine lv_topl (fun z60 ez60 => ?_)
                refine lv_aload_n hx hb dX12_gauged_126 rfl (lv_at hl 4 rfl) ?_
                refine lv_aload_n hx hb dX12_gauged_127 rfl (lv_at hl 4 rfl) ?_
                refine va_get (D := (dC, dI)) (ci := 12) (v := .ref (ρ h0 2)) (C := RX12) (T := TX12) (N := 53) hx hb hts hfX12 hown hK hP q34 eq34 rfl 2 (by decide) (hts (.fieldLink RX12 7 "ColdShipsModel" "row" "[I") wa_148) (fun _ h9 => h9) rfl dX12_gauged_128 ?_
                refine lv_iload hx hb dX12_gauged_131 (lv_at hl 1 rfl) ?_
                refine lv_iconst (v := 3) hx hb dX12_gauged_133 (by decide) ?_
                refine lv_iadd hx hb dX12_gauged_134 ?_
                refine lv_topi (fun z61 ez61 => ?_)
                have iz61 : z61.toInt = r54.toInt + 3 := zi_add ez61 rfl rfl (by omega) (by omega)
                refine tpk_pos (tp_in hG y1 (by decide)) hf_33 (fun q62 eq62 => ?_)
                refine va_iald hx hb hK hP q62 0 eq62 rfl (vp_in_iff.mpr ⟨by omega, by omega⟩) dX12_gauged_135 ?_
                refine lv_topi (fun z63 ez63 => ?_)
                refine lv_bipush (v := 24) hx hb dX12_gauged_136 (by decide) ?_
                refine lv_idiv hx hb dX12_gauged_138 (by decide) ?_
                refine lv_topi (fun z64 ez64 => ?_)
                refine lv_iload_n hx hb dX12_gauged_139 rfl (lv_at hl 6 rfl) ?_
                refine pz_calli (va_runV (As := [.int z64, .int u]) (rest := [.long z60]) ⟨hx, hb, hml, hown, hts⟩ (t_X12_priceOf l dC dI _ κ Θ τ ν ρ L f30 hG hT h0 z64 u (-1) 0 ht_h0 (by omega) (by rw [hf_33, mo_i1]; exact hI)) (cwV 2 hts gX12_gauged_X12_priceOf rfl rfl rfl ⟨rfl, pd_X12_priceOf⟩ ⟨Nat.le_of_ble_eq_true rfl, Nat.le_of_ble_eq_true rfl⟩) ⟨pz_blind, va_recv hK hP (ci := 12) (q0 := q34) rfl eq34, pz_pre hP hK hD hN⟩ rfl rfl hl.1 rfl (lv_room (Nat.le_of_ble_eq_true rfl)) dX12_gauged_140 ⟨Nat.le_of_ble_eq_true rfl, Nat.le_of_ble_eq_true rfl⟩) (fun r65 hw66 => ?_)
                obtain ⟨hw66r, hw66p⟩ := hw66
                refine lv_i2l hx hb dX12_gauged_143 rfl ?_
                refine lv_lmul hx hb dX12_gauged_144 ?_
                refine lv_topl (fun z67 ez67 => ?_)
                exact W.lret (v := z67) hx hb hr (fun t ht hW => ⟨⟨z67, f30, rfl, ⟨hT, hR, trivial, trivial⟩, by rw [ht]; exact hP, va_K.moved hW.alike hK, hD⟩, hS.F ht⟩) hS.2.2 dX12_gauged_145
              · have ic57 : a.toInt = 2 := zi_nef rfl rfl c57
                refine lv_lload hx hb dX12_gauged_111 (lv_at hl 0 rfl) ?_
                refine lv_goto (tgt := 145) hx hb dX12_gauged_113 (by decide) ?_
                exact W.lret (v := z56) hx hb hr (fun t ht hW => ⟨⟨z56, f30, rfl, ⟨hT, hR, trivial, trivial⟩, by rw [ht]; exact hP, va_K.moved hW.alike hK, hD⟩, hS.F ht⟩) hS.2.2 dX12_gauged_145
            · have ic53 : r49.toInt = (-2000000000000000) := zl_nef rfl rfl c53
              refine lv_ldc2 (own := RX12) (v := (-2000000000000000)) hx hb hown (hts (.constantLong RX12 466 (-2000000000000000)) wa_1189) dX12_gauged_89 ?_
              exact W.lret (v := (-2000000000000000)) hx hb hr (fun t ht hW => ⟨⟨(-2000000000000000), f30, rfl, ⟨hT, hR, trivial, trivial⟩, by rw [ht]; exact hP, va_K.moved hW.alike hK, hD⟩, hS.F ht⟩) hS.2.2 dX12_gauged_92
        · have ic51 : a.toInt < 2 := zi_gef rfl rfl c51
          refine lv_iload_n hx hb dX12_gauged_59 rfl (lv_at hl 5 rfl) ?_
          refine lv_if_ne (tgt := 68) hx hb dX12_gauged_60 (by decide) (fun c68 => ?_) (fun c68 => ?_)
          · have ic68 : a.toInt ≠ 0 := zi_ne rfl rfl c68
            replace ic68 : 1 ≤ a.toInt := by omega
            refine lv_lload hx hb dX12_gauged_68 (lv_at hl 0 rfl) ?_
            exact W.lret (v := r49) hx hb hr (fun t ht hW => ⟨⟨r49, f30, rfl, ⟨hT, hR, trivial, trivial⟩, by rw [ht]; exact hP, va_K.moved hW.alike hK, hD⟩, hS.F ht⟩) hS.2.2 dX12_gauged_70
          · have ic68 : a.toInt = 0 := zi_nef rfl rfl c68
            refine lv_lload hx hb dX12_gauged_63 (lv_at hl 1 rfl) ?_
            refine lv_goto (tgt := 70) hx hb dX12_gauged_65 (by decide) ?_
            exact W.lret (v := r47) hx hb hr (fun t ht hW => ⟨⟨r47, f30, rfl, ⟨hT, hR, trivial, trivial⟩, by rw [ht]; exact hP, va_K.moved hW.alike hK, hD⟩, hS.F ht⟩) hS.2.2 dX12_gauged_70
      · have ic45 : r43.toInt = 0 := zi_nef rfl rfl c45
        clear hw44r ic45
        refine lv_ldc2 (own := RX12) (v := (-2000000000000000)) hx hb hown (hts (.constantLong RX12 466 (-2000000000000000)) wa_1189) dX12_gauged_32 ?_
        exact W.lret (v := (-2000000000000000)) hx hb hr (fun t ht hW => ⟨⟨(-2000000000000000), f30, rfl, ⟨hT, hR, trivial, trivial⟩, by rw [ht]; exact hP, va_K.moved hW.alike hK, hD⟩, hS.F ht⟩) hS.2.2 dX12_gauged_35
set_option maxHeartbeats 4000000 in
set_option maxRecDepth 100000 in
theorem t_X12_image (l : Launch) (dC : Nat → ClassId) (dI : Nat → Nat → Nat) (sz : Nat) (κ : Nat → ClassId) (Θ : Nat → Option Int) (τ ν : Nat → Nat) (ρ : Nat → Nat → Nat) (L : List Nat) (f : Nat → va_E) (hG : tp_G τ ν ρ L) (hT : tp_T (mo_O κ Θ) κ τ ν ρ f) (h0 : Nat) (v : Int32) (ht_h0 : τ h0 = 13) (hJ : mo_RI (-1) 0 (mo_R (mo_i (f (ρ h0 2))))) (hIM : mo_IM (mo_R (mo_i (f (ρ h0 3))))) : Met l yX12_image wqX12_image ({ frames := 3, cells := 0, slots := 0, locals := 800 }) (va_Pc [.ref h0, .int v] (pz_B dC dI (tp_K κ) (va_pl L f) sz)) (va_Qi (fun (r : Int32) (f1 : Nat → va_E) => tp_T (mo_O κ Θ) κ τ ν ρ f1 ∧ tp_F τ [13, 33, 34] f f1 ∧ True ∧ mo_IM (mo_R (mo_i (f1 (ρ h0 3)))) ∧ ((((¬ (0 ≤ v.toInt ∧ v.toInt ≤ 1)) → r.toInt = -1) ∧ (¬ (¬ (0 ≤ v.toInt ∧ v.toInt ≤ 1)) → r.toInt = 0))) ∧ (0 ≤ v.toInt ∧ v.toInt ≤ 1 → mo_CP (mo_R (mo_i (f (ρ h0 3)))) (mo_R (mo_i (f (ρ h0 2)))) (mo_R (mo_i (f1 (ρ h0 3)))) (12967 * v.toInt) 12967 ∧ mo_U (mo_R (mo_i (f (ρ h0 4)))) (mo_R (mo_i (f1 (ρ h0 4)))) v.toInt 1) ∧ (¬ (0 ≤ v.toInt ∧ v.toInt ≤ 1) → (mo_R (mo_i (f1 (ρ h0 3)))) = (mo_R (mo_i (f (ρ h0 3)))) ∧ (mo_R (mo_i (f1 (ρ h0 4)))) = (mo_R (mo_i (f (ρ h0 4)))))) (fun (f1 : Nat → va_E) (t : State) => pz_E dC dI (tp_K κ) (va_A (va_pl L f) sz) (va_pl L f1) t) (va_A (va_pl L f) sz)) 0 0 (va_A (va_pl L f) sz) := by
  refine Met.ofW (cc := cX12_image) (maxL := 3) (ret := some .int) (by decide) rfl ?_
  intro p e s m args below meth c s₁ B hml hv
  obtain ⟨rfl, hsz, hP, hK, hD0, hN⟩ := hv
  have hx := B.exec
  have hb := B.bytes
  have hr := B.returns
  have hts := fun (w : Cond) (h : w ∈ WALL) => atoms_spec (ws := wqX12_image) B.pre w (List.mem_cons_of_mem _ h)
  have hown : s.vm.findClass RX12 = some m.cls := findClass_of_methodNamed B.named
  have hlocks := B.notSynchronized
  subst hsz
  have hD := hD0.self (sz := s.heap.size)
  generalize hAe : va_A (va_pl L f) s.heap.size = A at hD ⊢
  have hA : ∀ q : Nat, s.heap.size ≤ q → A q := fun q h => by rw [← hAe]; exact Or.inr h
  have hS : va_S A s.heap s.heap [] := va_S.rf
  have hR : tp_F τ [13, 33, 34] f f := tp_F.rf
  have hl := lv_entry ([.ref h0, .int v]) (n := 3) (Nat.le_of_ble_eq_true rfl)
  rw [lg_entry_eq]
  generalize (lg_sl ([.ref h0, .int v]) ++ List.replicate (3 - (lg_sl ([.ref h0, .int v])).length) Slot.unset).toArray = ls at hl ⊢
  have hl : lv_has ls 3 [(0, .ref h0), (1, .int v)] := hl
  refine tgk_13 hG ht_h0 (fun y1 y2 y3 y4 y5 y6 y7 y8 y9 y10 y11 y12 y13 y14 y15 y16 y17 y18 y19 y20 y21 y22 y23 y24 y25 => ?_)
  refine tpk_32 hT y1 (fun g27 hf_o26 => ?_)
  have hI : mo_RI (-1) 0 (mo_R g27) := by have q9 := hJ; rw [hf_o26, mo_i1] at q9; exact q9
  refine tpk_33 hT y2 (fun g29 hf_o28 => ?_)
  have tf30 : mo_hd (mo_i (f (ρ h0 3)) = g29) := tfa_i hf_o28
  refine tpk_34 hT y3 (fun g32 hf_o31 => ?_)
  have tf33 : mo_hd (mo_i (f (ρ h0 4)) = g32) := tfa_i hf_o31
  replace hIM : mo_IM (mo_R g29) := by have q9 := hIM; first | (simp only [(mo_un tf30), mo_i1, mo_l1] at q9; exact q9) | (rw [(mo_un tf30)] at q9; exact q9)
  refine lv_aload_n hx hb dX12_image_0 rfl (lv_at hl 0 rfl) ?_
  refine lv_iconst (v := 0) hx hb dX12_image_1 (by decide) ?_
  refine tpk_13 hT ht_h0 (fun o34_x0 o34_x1 o34_x7 o34_x9 o34_x10 o34_x11 o34_x12 o34_x13 o34_x14 o34_x15 o34_x16 o34_x17 o34_x18 o34_x19 o34_x20 o34_x22 o34_x25 o34_x28 o34_x29 o34_x32 o34_x33 o34_x34 o34_x35 o34_x36 o34_x37 o34_x38 o34_x47 o34_x48 hf_o34 ro34_0 ro34_1 ro34_2 ro34_3 ro34_4 ro34_5 ro34_6 ro34_7 ro34_8 ro34_9 ro34_10 ro34_11 ro34_12 ro34_13 ro34_14 => ?_)
  refine tpk_pos (tp_in hG ht_h0 (by decide)) hf_o34 (fun q35 eq35 => ?_)
  refine va_put (D := (dC, dI)) (ci := 12) (v := .int 0) (ty := .int) (C := RX12) (T := TX12) (N := 53) hx hb hts hfX12 tyX12 tyX12_ok nmX12 hown hK hP hD hS q35 eq35 rfl 0 (by decide) (hts (.fieldLink RX12 91 "ColdShipsModel" "thrown" "I") wa_209) (fun _ h9 => h9) rfl (tyX12_ok 0 (by decide)) rfl rfl (Nat.le_of_ble_eq_true rfl) dX12_image_2 (tp_k (.inr (12, [.int 0, .int o34_x1, .ref (ρ h0 2), .ref (ρ h0 3), .ref (ρ h0 4), .ref (ρ h0 5), .ref (ρ h0 6), .int o34_x7, .ref (ρ h0 8), .int o34_x9, .int o34_x10, .int o34_x11, .int o34_x12, .long o34_x13, .int o34_x14, .int o34_x15, .int o34_x16, .int o34_x17, .int o34_x18, .int o34_x19, .int o34_x20, .ref (ρ h0 21), .int o34_x22, .ref (ρ h0 23), .ref (ρ h0 24), .int o34_x25, .ref (ρ h0 26), .ref (ρ h0 27), .int o34_x28, .int o34_x29, .ref (ρ h0 30), .ref (ρ h0 31), .int o34_x32, .long o34_x33, .long o34_x34, .long o34_x35, .int o34_x36, .int o34_x37, .int o34_x38, .ref (ρ h0 39), .ref (ρ h0 40), .ref (ρ h0 41), .ref (ρ h0 42), .ref (ρ h0 43), .ref (ρ h0 44), .ref (ρ h0 45), .ref (ρ h0 46), .int o34_x47, .int o34_x48, .ref (ρ h0 49), .ref (ρ h0 50), .ref (ρ h0 51), .ref (ρ h0 52)])) hD (tp_in hG ht_h0 (by decide)) eq35 (fun f36 H locs hP hD hS g38 k37 => ?_))
  have hT := hT.up ht_h0 g38 k37 ⟨_, _, _, _, _, _, _, _, _, _, _, _, _, _, _, _, _, _, _, _, _, _, _, _, _, _, _, _, rfl, ro34_0, ro34_1, ro34_2, ro34_3, ro34_4, ro34_5, ro34_6, ro34_7, ro34_8, ro34_9, ro34_10, ro34_11, ro34_12, ro34_13, ro34_14⟩
  have hR := hR.up ht_h0 (by decide) k37
  refine lv_iload_n hx hb dX12_image_5 rfl (lv_at hl 1 rfl) ?_
  refine lv_i2l hx hb dX12_image_6 rfl ?_
  refine lv_lconst (v := 0) hx hb dX12_image_7 (by decide) ?_
  refine lv_lconst (v := 1) hx hb dX12_image_8 (by decide) ?_
  have hf_39 : f36 (ρ h0 2) = .inl (κ 0, 12967, .inl g27) := (k37 _ (tp_ne y1 ht_h0 (by decide))).trans hf_o26
  refine pz_calli (va_runS (As := [.long v.toInt64, .long 0, .long 1]) (rest := []) ⟨hx, hb, hml, hown, hts⟩ (t_X12_in l dC dI _ v.toInt64 (0) (1) (v.toInt) (0) (1) (Int32.toInt_toInt64 v) rfl rfl) (va_cwS 3 hts gX12_image_X12_in rfl rfl rfl pd_X12_in ⟨Nat.le_of_ble_eq_true rfl, Nat.le_of_ble_eq_true rfl⟩) ⟨pz_blind, pz_pre pz_P0 (hK.sub (tys' := []) [] rfl) (pz_D0 (A := fun _ => True)) hN⟩ rfl rfl hl.1 rfl (lv_room (Nat.le_of_ble_eq_true rfl)) dX12_image_9 ⟨Nat.le_of_ble_eq_true rfl, Nat.le_of_ble_eq_true rfl⟩) (fun r40 hw41 => ?_)
  obtain ⟨hw41r, hw41p⟩ := hw41
  refine lv_if_ne (tgt := 21) hx hb dX12_image_12 (by decide) (fun c42 => ?_) (fun c42 => ?_)
  · have ic42 : r40.toInt ≠ 0 := zi_ne rfl rfl c42
    replace ic42 : 1 ≤ r40.toInt := by omega
    have p43 : (0) ≤ (v.toInt) ∧ (v.toInt) ≤ (1) := (tp_cond.yes hw41p) (by omega)
    clear hw41r ic42
    refine lv_iconst (v := 0) hx hb dX12_image_21 (by decide) ?_
    refine lv_istore_n (lv' := [(2, .int 0), (0, .ref h0), (1, .int v)]) hx hb dX12_image_22 rfl hl (by decide) rfl (fun ls hl => ?_)
    have hf_45 : f36 (ρ h0 4) = .inl (κ 3, 2, .inl g32) := (k37 _ (tp_ne y3 ht_h0 (by decide))).trans hf_o31
    have hf_48 : f36 (ρ h0 3) = .inl (κ 0, 25934, .inl g29) := (k37 _ (tp_ne y2 ht_h0 (by decide))).trans hf_o28
    have tf49 : mo_hd (mo_i (f36 (ρ h0 3)) = g29) := tfa_i hf_48
    refine pz_loop (fun n0 H locs ls => ∃ f50 : Nat → va_E, ∃ w44 : Int32, n0 = (12967 - (w44.toInt)).toNat ∧ tp_T (mo_O κ Θ) κ τ ν ρ f50 ∧ tp_F τ [13, 33, 34] f f50 ∧ f50 (ρ h0 2) = .inl (κ 0, 12967, .inl g27) ∧ f50 (ρ h0 4) = .inl (κ 3, 2, .inl g32) ∧ ((mo_CP (mo_R g29) (mo_R g27) (mo_R (mo_i (f50 (ρ h0 3)))) (12967 * v.toInt) (w44.toInt))) ∧ (0 ≤ w44.toInt ∧ w44.toInt ≤ 12967) ∧ va_P (dC, dI) vwCl (va_pl L f50) H ∧ va_D A (va_pl L f50) ∧ va_S A s.heap H locs ∧ lv_has ls 3 [(2, .int w44), (0, .ref h0), (1, .int v)]) ?_ _ _ _ _ ⟨f36, 0, rfl, hT, hR, hf_39, hf_45, (by first | (simp only [(mo_un tf49), mo_i1, mo_l1]; exact (show mo_CP (mo_R g29) (mo_R g27) (mo_R g29) (12967 * v.toInt) (0 : Int32).toInt from mo_CP.rf (by decide))) | (rw [(mo_un tf49)]; exact (show mo_CP (mo_R g29) (mo_R g27) (mo_R g29) (12967 * v.toInt) (0 : Int32).toInt from mo_CP.rf (by decide)))), (by have : (0 : Int32).toInt = 0 := rfl; omega), hP, hD, hS, lv_sub hl [0, 1, 2] rfl⟩
    intro n0 H locs ls hI ih52
    refine Exists.elim hI (fun f50 hE90 => Exists.elim hE90 (fun w44 hE91 => tn_11 hE91 (fun hn53 hT hR hk46k hk47k jf54 rw44 hP hD hS hl => ?_)))
    clear hE91 hE90 hI
    refine tpk_33 hT y2 (fun g56 hf_o55 => ?_)
    have tf57 : mo_hd (mo_i (f50 (ρ h0 3)) = g56) := tfa_i hf_o55
    replace jf54 : mo_CP (mo_R g29) (mo_R g27) (mo_R g56) (12967 * v.toInt) (w44.toInt) := by have q9 := jf54; first | (simp only [(mo_un tf57), mo_i1, mo_l1] at q9; exact q9) | (rw [(mo_un tf57)] at q9; exact q9)
    refine lv_iload_n hx hb dX12_image_23 rfl (lv_at hl 0 rfl) ?_
    refine lv_sipush (v := 12967) hx hb dX12_image_24 (by decide) ?_
    refine lv_icmp_ge (tgt := 54) hx hb dX12_image_27 (by decide) (fun c58 => ?_) (fun c58 => ?_)
    · have ic58 : w44.toInt ≥ 12967 := zi_ge rfl rfl c58
      refine lv_aload_n hx hb dX12_image_54 rfl (lv_at hl 1 rfl) ?_
      refine tpk_13 hT ht_h0 (fun o59_x0 o59_x1 o59_x7 o59_x9 o59_x10 o59_x11 o59_x12 o59_x13 o59_x14 o59_x15 o59_x16 o59_x17 o59_x18 o59_x19 o59_x20 o59_x22 o59_x25 o59_x28 o59_x29 o59_x32 o59_x33 o59_x34 o59_x35 o59_x36 o59_x37 o59_x38 o59_x47 o59_x48 hf_o59 ro59_0 ro59_1 ro59_2 ro59_3 ro59_4 ro59_5 ro59_6 ro59_7 ro59_8 ro59_9 ro59_10 ro59_11 ro59_12 ro59_13 ro59_14 => ?_)
      refine tpk_pos (tp_in hG ht_h0 (by decide)) hf_o59 (fun q60 eq60 => ?_)
      refine va_get (D := (dC, dI)) (ci := 12) (v := .ref (ρ h0 4)) (C := RX12) (T := TX12) (N := 53) hx hb hts hfX12 hown hK hP q60 eq60 rfl 4 (by decide) (hts (.fieldLink RX12 16 "ColdShipsModel" "isKept" "[Z") wa_151) (fun _ h9 => h9) rfl dX12_image_55 ?_
      refine lv_iload_n hx hb dX12_image_58 rfl (lv_at hl 2 rfl) ?_
      refine lv_iconst (v := 1) hx hb dX12_image_59 (by decide) ?_
      refine tpk_pos (tp_in hG y3 (by decide)) hk47k (fun q61 eq61 => ?_)
      refine va_zast hx hb hK hP hD hS q61 3 eq61 rfl (vp_in_iff.mpr ⟨by omega, by omega⟩) dX12_image_60 (tp_k (.inl (κ 3, 2, .inl (upd g32 v.toNatClampNeg (vp_nar .boolean (1 : Int32))))) hD (tp_in hG y3 (by decide)) eq61 (fun f62 H locs hP hD hS g64 k63 => ?_))
      have hT := hT.up y3 g64 k63 tp_o34
      have hR := hR.up y3 (by decide) k63
      have hU66 : mo_U (mo_R g32) (mo_R (upd g32 v.toNatClampNeg (vp_nar .boolean (1 : Int32)))) (v.toInt) (1) := mo_up (by omega) (show (1 : Int32).toInt = 1 from rfl) (by omega)
      generalize (upd g32 v.toNatClampNeg (vp_nar .boolean (1 : Int32))) = g65 at g64 hU66
      refine lv_aload_n hx hb dX12_image_61 rfl (lv_at hl 1 rfl) ?_
      refine lv_iconst (v := 0) hx hb dX12_image_62 (by decide) ?_
      have hf_67 : f62 (ρ h0 2) = .inl (κ 0, 12967, .inl g27) := (k63 _ (tp_ne y1 y3 (by decide))).trans hk46k
      have hf_68 : f62 h0 = .inr (12, [.int o59_x0, .int o59_x1, .ref (ρ h0 2), .ref (ρ h0 3), .ref (ρ h0 4), .ref (ρ h0 5), .ref (ρ h0 6), .int o59_x7, .ref (ρ h0 8), .int o59_x9, .int o59_x10, .int o59_x11, .int o59_x12, .long o59_x13, .int o59_x14, .int o59_x15, .int o59_x16, .int o59_x17, .int o59_x18, .int o59_x19, .int o59_x20, .ref (ρ h0 21), .int o59_x22, .ref (ρ h0 23), .ref (ρ h0 24), .int o59_x25, .ref (ρ h0 26), .ref (ρ h0 27), .int o59_x28, .int o59_x29, .ref (ρ h0 30), .ref (ρ h0 31), .int o59_x32, .long o59_x33, .long o59_x34, .long o59_x35, .int o59_x36, .int o59_x37, .int o59_x38, .ref (ρ h0 39), .ref (ρ h0 40), .ref (ρ h0 41), .ref (ρ h0 42), .ref (ρ h0 43), .ref (ρ h0 44), .ref (ρ h0 45), .ref (ρ h0 46), .int o59_x47, .int o59_x48, .ref (ρ h0 49), .ref (ρ h0 50), .ref (ρ h0 51), .ref (ρ h0 52)]) := (k63 _ (tp_ne ht_h0 y3 (by decide))).trans hf_o59
      refine tpk_pos (tp_in hG ht_h0 (by decide)) hf_68 (fun q69 eq69 => ?_)
      have hFc := tp_fr hD hS hA
      refine va_calli (va_runV (As := [.int 0]) (rest := []) ⟨hx, hb, hml, hown, hts⟩ (t_X12_told l dC dI _ κ Θ τ ν ρ L f62 hG hT h0 (0) ht_h0) (cwV 1 hts gX12_image_X12_told rfl rfl rfl ⟨rfl, pd_X12_told⟩ ⟨Nat.le_of_ble_eq_true rfl, Nat.le_of_ble_eq_true rfl⟩) ⟨pz_blind, va_recv hK hP (ci := 12) (q0 := q69) rfl eq69, pz_pre hP hK hD hN⟩ rfl rfl hl.1 rfl (lv_room (Nat.le_of_ble_eq_true rfl)) dX12_image_63 ⟨Nat.le_of_ble_eq_true rfl, Nat.le_of_ble_eq_true rfl⟩) hS (fun q _ h => hFc q h) hFc (fun r70 f72 t H1 locs ht hvm hw71 hB hz1 hk1 hS => ?_)
      refine tn_4 hw71 (fun hT hF73 hw71r hw71p => ?_); clear hw71
      have hR := hR.then hF73 (by decide)
      have hP := hB.1; rw [ht] at hP; have hD := tp_ad f72 hD; clear hB hFc hz1 hk1; subst ht; generalize t.heap = H at hP hS ⊢
      have hw71pq : r70.toInt = 0 := by rw [hw71p]; rfl
      have hf_74 : f62 (ρ h0 3) = .inl (κ 0, 25934, .inl g56) := (k63 _ (tp_ne y2 y3 (by decide))).trans hf_o55
      have hf_75 : f72 (ρ h0 3) = .inl (κ 0, 25934, .inl g56) := (hF73 _ (by rw [tp_iu y2]; decide)).trans hf_74
      have tf76 : mo_hd (mo_i (f72 (ρ h0 3)) = g56) := tfa_i hf_75
      have hf_77 : f72 (ρ h0 4) = .inl (κ 3, 2, .inl g65) := (hF73 _ (by rw [tp_iu y3]; decide)).trans g64
      have tf78 : mo_hd (mo_i (f72 (ρ h0 4)) = g65) := tfa_i hf_77
      exact W.iret (v := r70) hx hb hr (fun t ht hW => ⟨⟨r70, f72, rfl, ⟨hT, hR, trivial, (by first | (simp only [(mo_un tf76), (mo_un tf30), (mo_un tf33), (mo_un tf78), hf_o26, mo_i1, mo_l1]; exact (show mo_IM (mo_R g56) ∧ ((((¬ (0 ≤ v.toInt ∧ v.toInt ≤ 1)) → r70.toInt = -1) ∧ (¬ (¬ (0 ≤ v.toInt ∧ v.toInt ≤ 1)) → r70.toInt = 0))) ∧ (0 ≤ v.toInt ∧ v.toInt ≤ 1 → mo_CP (mo_R g29) (mo_R g27) (mo_R g56) (12967 * v.toInt) 12967 ∧ mo_U (mo_R g32) (mo_R g65) v.toInt 1) ∧ (¬ (0 ≤ v.toInt ∧ v.toInt ≤ 1) → (mo_R g56) = (mo_R g29) ∧ (mo_R g65) = (mo_R g32)) from ⟨hIM.put hI jf54 (by omega), ⟨fun q0 => by omega, fun q0 => (by omega)⟩, fun q9 => ⟨(by have q8 := jf54; rw [show w44.toInt = 12967 by omega] at q8; exact q8), hU66⟩, fun q9 => by exfalso; omega⟩)) | (rw [(mo_un tf76), (mo_un tf30), (mo_un tf33), (mo_un tf78), hf_o26]; exact (show mo_IM (mo_R g56) ∧ ((((¬ (0 ≤ v.toInt ∧ v.toInt ≤ 1)) → r70.toInt = -1) ∧ (¬ (¬ (0 ≤ v.toInt ∧ v.toInt ≤ 1)) → r70.toInt = 0))) ∧ (0 ≤ v.toInt ∧ v.toInt ≤ 1 → mo_CP (mo_R g29) (mo_R g27) (mo_R g56) (12967 * v.toInt) 12967 ∧ mo_U (mo_R g32) (mo_R g65) v.toInt 1) ∧ (¬ (0 ≤ v.toInt ∧ v.toInt ≤ 1) → (mo_R g56) = (mo_R g29) ∧ (mo_R g65) = (mo_R g32)) from ⟨hIM.put hI jf54 (by omega), ⟨fun q0 => by omega, fun q0 => (by omega)⟩, fun q9 => ⟨(by have q8 := jf54; rw [show w44.toInt = 12967 by omega] at q8; exact q8), hU66⟩, fun q9 => by exfalso; omega⟩)))⟩, by rw [ht]; exact hP, va_K.moved hW.alike hK, hD⟩, hS.F ht⟩) hS.2.2 dX12_image_66
    · have ic58 : w44.toInt < 12967 := zi_gef rfl rfl c58
      refine lv_aload_n hx hb dX12_image_30 rfl (lv_at hl 1 rfl) ?_
      refine tpk_13 hT ht_h0 (fun o79_x0 o79_x1 o79_x7 o79_x9 o79_x10 o79_x11 o79_x12 o79_x13 o79_x14 o79_x15 o79_x16 o79_x17 o79_x18 o79_x19 o79_x20 o79_x22 o79_x25 o79_x28 o79_x29 o79_x32 o79_x33 o79_x34 o79_x35 o79_x36 o79_x37 o79_x38 o79_x47 o79_x48 hf_o79 ro79_0 ro79_1 ro79_2 ro79_3 ro79_4 ro79_5 ro79_6 ro79_7 ro79_8 ro79_9 ro79_10 ro79_11 ro79_12 ro79_13 ro79_14 => ?_)
      refine tpk_pos (tp_in hG ht_h0 (by decide)) hf_o79 (fun q80 eq80 => ?_)
      refine va_get (D := (dC, dI)) (ci := 12) (v := .ref (ρ h0 3)) (C := RX12) (T := TX12) (N := 53) hx hb hts hfX12 hown hK hP q80 eq80 rfl 3 (by decide) (hts (.fieldLink RX12 13 "ColdShipsModel" "images" "[I") wa_149) (fun _ h9 => h9) rfl dX12_image_31 ?_
      refine lv_sipush (v := 12967) hx hb dX12_image_34 (by decide) ?_
      refine lv_iload_n hx hb dX12_image_37 rfl (lv_at hl 2 rfl) ?_
      refine lv_imul hx hb dX12_image_38 ?_
      refine lv_topi (fun z81 ez81 => ?_)
      have iz81 : z81.toInt = 12967 * v.toInt := zi_mul ez81 rfl rfl (by omega) (by omega)
      refine lv_iload_n hx hb dX12_image_39 rfl (lv_at hl 0 rfl) ?_
      refine lv_iadd hx hb dX12_image_40 ?_
      refine lv_topi (fun z82 ez82 => ?_)
      have iz82 : z82.toInt = z81.toInt + w44.toInt := zi_add ez82 rfl rfl (by omega) (by omega)
      refine lv_aload_n hx hb dX12_image_41 rfl (lv_at hl 1 rfl) ?_
      refine va_get (D := (dC, dI)) (ci := 12) (v := .ref (ρ h0 2)) (C := RX12) (T := TX12) (N := 53) hx hb hts hfX12 hown hK hP q80 eq80 rfl 2 (by decide) (hts (.fieldLink RX12 7 "ColdShipsModel" "row" "[I") wa_148) (fun _ h9 => h9) rfl dX12_image_42 ?_
      refine lv_iload_n hx hb dX12_image_45 rfl (lv_at hl 0 rfl) ?_
      refine tpk_pos (tp_in hG y1 (by decide)) hk46k (fun q83 eq83 => ?_)
      refine va_iald hx hb hK hP q83 0 eq83 rfl (vp_in_iff.mpr ⟨by omega, by omega⟩) dX12_image_46 ?_
      refine lv_topi (fun z84 ez84 => ?_)
      have jz84 : z84.toInt = mo_R g27 (0 + w44.toInt) := mo_rd ez84 (by omega)
      refine tpk_pos (tp_in hG y2 (by decide)) hf_o55 (fun q85 eq85 => ?_)
      refine va_iast hx hb hK hP hD hS q85 0 eq85 rfl (vp_in_iff.mpr ⟨by omega, by omega⟩) dX12_image_47 (tp_k (.inl (κ 0, 25934, .inl (upd g56 z82.toNatClampNeg z84))) hD (tp_in hG y2 (by decide)) eq85 (fun f86 H locs hP hD hS g88 k87 => ?_))
      have hT := hT.up y2 g88 k87 tp_o33
      have hR := hR.up y2 (by decide) k87
      have hU90 : mo_U (mo_R g56) (mo_R (upd g56 z82.toNatClampNeg z84)) (12967 * v.toInt + w44.toInt) (z84.toInt) := mo_up (by omega) (rfl : z84.toInt = _) (by omega)
      generalize (upd g56 z82.toNatClampNeg z84) = g89 at g88 hU90
      obtain ⟨z91, ez91⟩ : ∃ y : Int32, y = w44 + 1 := ⟨_, rfl⟩
      refine lv_iinc (v := z91) (lv' := [(2, .int z91), (0, .ref h0), (1, .int v)]) hx hb dX12_image_48 hl (k := 0) rfl (by rw [ez91]; rfl) (by decide) rfl (fun ls hl => ?_)
      have iz91 : z91.toInt = w44.toInt + 1 := zi_add ez91 rfl rfl (by omega) (by omega)
      refine lv_goto (tgt := 23) hx hb dX12_image_51 (by decide) ?_
      have tf92 : mo_hd (mo_i (f86 (ρ h0 3)) = g89) := tfa_i g88
      have hf_93 : f86 (ρ h0 2) = .inl (κ 0, 12967, .inl g27) := (k87 _ (tp_ne y1 y2 (by decide))).trans hk46k
      have hf_94 : f86 (ρ h0 4) = .inl (κ 3, 2, .inl g32) := (k87 _ (tp_ne y3 y2 (by decide))).trans hk47k
      exact ih52 _ _ _ _ (by rw [hn53]; omega) ⟨f86, z91, rfl, hT, hR, hf_93, hf_94, (by first | (simp only [(mo_un tf92), mo_i1, mo_l1]; exact (show mo_CP (mo_R g29) (mo_R g27) (mo_R g89) (12967 * v.toInt) (z91.toInt) from mo_CP.up jf54 hU90 (by omega) (by rw [show (w44.toInt : Int) = 0 + w44.toInt by omega]; omega) (by omega) _ (by omega))) | (rw [(mo_un tf92)]; exact (show mo_CP (mo_R g29) (mo_R g27) (mo_R g89) (12967 * v.toInt) (z91.toInt) from mo_CP.up jf54 hU90 (by omega) (by rw [show (w44.toInt : Int) = 0 + w44.toInt by omega]; omega) (by omega) _ (by omega)))), (by omega), hP, hD, hS, lv_sub hl [0, 1, 2] rfl⟩
  · have ic42 : r40.toInt = 0 := zi_nef rfl rfl c42
    have p95 : ¬ ((0) ≤ (v.toInt) ∧ (v.toInt) ≤ (1)) := (tp_cond.no hw41p) (by omega)
    clear hw41r ic42
    refine lv_aload_n hx hb dX12_image_15 rfl (lv_at hl 0 rfl) ?_
    refine lv_iconst (v := (-1)) hx hb dX12_image_16 (by decide) ?_
    refine tpk_pos (tp_in hG ht_h0 (by decide)) g38 (fun q96 eq96 => ?_)
    have hFc := tp_fr hD hS hA
    refine va_calli (va_runV (As := [.int (-1)]) (rest := []) ⟨hx, hb, hml, hown, hts⟩ (t_X12_told l dC dI _ κ Θ τ ν ρ L f36 hG hT h0 ((-1)) ht_h0) (cwV 1 hts gX12_image_X12_told rfl rfl rfl ⟨rfl, pd_X12_told⟩ ⟨Nat.le_of_ble_eq_true rfl, Nat.le_of_ble_eq_true rfl⟩) ⟨pz_blind, va_recv hK hP (ci := 12) (q0 := q96) rfl eq96, pz_pre hP hK hD hN⟩ rfl rfl hl.1 rfl (lv_room (Nat.le_of_ble_eq_true rfl)) dX12_image_17 ⟨Nat.le_of_ble_eq_true rfl, Nat.le_of_ble_eq_true rfl⟩) hS (fun q _ h => hFc q h) hFc (fun r97 f99 t H1 locs ht hvm hw98 hB hz1 hk1 hS => ?_)
    refine tn_4 hw98 (fun hT hF100 hw98r hw98p => ?_); clear hw98
    have hR := hR.then hF100 (by decide)
    have hP := hB.1; rw [ht] at hP; have hD := tp_ad f99 hD; clear hB hFc hz1 hk1; subst ht; generalize t.heap = H at hP hS ⊢
    have hw98pq : r97.toInt = (-1) := by rw [hw98p]; rfl
    have hf_101 : f36 (ρ h0 3) = .inl (κ 0, 25934, .inl g29) := (k37 _ (tp_ne y2 ht_h0 (by decide))).trans hf_o28
    have hf_102 : f99 (ρ h0 3) = .inl (κ 0, 25934, .inl g29) := (hF100 _ (by rw [tp_iu y2]; decide)).trans hf_101
    have tf103 : mo_hd (mo_i (f99 (ρ h0 3)) = g29) := tfa_i hf_102
    have hf_104 : f36 (ρ h0 4) = .inl (κ 3, 2, .inl g32) := (k37 _ (tp_ne y3 ht_h0 (by decide))).trans hf_o31
    have hf_105 : f99 (ρ h0 4) = .inl (κ 3, 2, .inl g32) := (hF100 _ (by rw [tp_iu y3]; decide)).trans hf_104
    have tf106 : mo_hd (mo_i (f99 (ρ h0 4)) = g32) := tfa_i hf_105
    exact W.iret (v := r97) hx hb hr (fun t ht hW => ⟨⟨r97, f99, rfl, ⟨hT, hR, trivial, (by first | (simp only [(mo_un tf103), (mo_un tf30), (mo_un tf33), (mo_un tf106), hf_o26, mo_i1, mo_l1]; exact (show mo_IM (mo_R g29) ∧ ((((¬ (0 ≤ v.toInt ∧ v.toInt ≤ 1)) → r97.toInt = -1) ∧ (¬ (¬ (0 ≤ v.toInt ∧ v.toInt ≤ 1)) → r97.toInt = 0))) ∧ (0 ≤ v.toInt ∧ v.toInt ≤ 1 → mo_CP (mo_R g29) (mo_R g27) (mo_R g29) (12967 * v.toInt) 12967 ∧ mo_U (mo_R g32) (mo_R g32) v.toInt 1) ∧ (¬ (0 ≤ v.toInt ∧ v.toInt ≤ 1) → (mo_R g29) = (mo_R g29) ∧ (mo_R g32) = (mo_R g32)) from ⟨hIM, ⟨fun q0 => by omega, fun q0 => (by omega)⟩, fun q9 => by exfalso; omega, fun q9 => ⟨rfl, rfl⟩⟩)) | (rw [(mo_un tf103), (mo_un tf30), (mo_un tf33), (mo_un tf106), hf_o26]; exact (show mo_IM (mo_R g29) ∧ ((((¬ (0 ≤ v.toInt ∧ v.toInt ≤ 1)) → r97.toInt = -1) ∧ (¬ (¬ (0 ≤ v.toInt ∧ v.toInt ≤ 1)) → r97.toInt = 0))) ∧ (0 ≤ v.toInt ∧ v.toInt ≤ 1 → mo_CP (mo_R g29) (mo_R g27) (mo_R g29) (12967 * v.toInt) 12967 ∧ mo_U (mo_R g32) (mo_R g32) v.toInt 1) ∧ (¬ (0 ≤ v.toInt ∧ v.toInt ≤ 1) → (mo_R g29) = (mo_R g29) ∧ (mo_R g32) = (mo_R g32)) from ⟨hIM, ⟨fun q0 => by omega, fun q0 => (by omega)⟩, fun q9 => by exfalso; omega, fun q9 => ⟨rfl, rfl⟩⟩)))⟩, by rw [ht]; exact hP, va_K.moved hW.alike hK, hD⟩, hS.F ht⟩) hS.2.2 dX12_image_20
end
section
set_option maxHeartbeats 4000000 in
set_option maxRecDepth 100000 in
theorem t_X12_back (l : Launch) (dC : Nat → ClassId) (dI : Nat → Nat → Nat) (sz : Nat) (κ : Nat → ClassId) (Θ : Nat → Option Int) (τ ν : Nat → Nat) (ρ : Nat → Nat → Nat) (L : List Nat) (f : Nat → va_E) (hG : tp_G τ ν ρ L) (hT : tp_T (mo_O κ Θ) κ τ ν ρ f) (h0 : Nat) (v : Int32) (ht_h0 : τ h0 = 13) (hJ : mo_RI (-1) 0 (mo_R (mo_i (f (ρ h0 2))))) (hIM : mo_IM (mo_R (mo_i (f (ρ h0 3))))) : Met l yX12_back wqX12_back ({ frames := 3, cells := 0, slots := 0, locals := 800 }) (va_Pc [.ref h0, .int v] (pz_B dC dI (tp_K κ) (va_pl L f) sz)) (va_Qi (fun (r : Int32) (f1 : Nat → va_E) => tp_T (mo_O κ Θ) κ τ ν ρ f1 ∧ tp_F τ [13, 32] f f1 ∧ True ∧ mo_RI (-1) 0 (mo_R (mo_i (f1 (ρ h0 2)))) ∧ (¬ (0 ≤ v.toInt ∧ v.toInt ≤ 1) → r.toInt = -1 ∧ ∀ k : Int, 0 ≤ k → k < 20 → (mo_R (mo_i (f1 (ρ h0 2)))) k = (mo_R (mo_i (f (ρ h0 2)))) k) ∧ (0 ≤ v.toInt ∧ v.toInt ≤ 1 → (mo_R (mo_i (f (ρ h0 4)))) v.toInt = 0 → r.toInt = -2 ∧ ∀ k : Int, 0 ≤ k → k < 20 → (mo_R (mo_i (f1 (ρ h0 2)))) k = (mo_R (mo_i (f (ρ h0 2)))) k) ∧ (0 ≤ v.toInt ∧ v.toInt ≤ 1 → (mo_R (mo_i (f (ρ h0 4)))) v.toInt ≠ 0 → r.toInt = 0 ∧ ∀ j : Int, 0 ≤ j → j < 12967 → (mo_R (mo_i (f1 (ρ h0 2)))) j = (mo_R (mo_i (f (ρ h0 3)))) (12967 * v.toInt + j))) (fun (f1 : Nat → va_E) (t : State) => pz_E dC dI (tp_K κ) (va_A (va_pl L f) sz) (va_pl L f1) t) (va_A (va_pl L f) sz)) 0 0 (va_A (va_pl L f) sz) := by
  refine Met.ofW (cc := cX12_back) (maxL := 3) (ret := some .int) (by decide) rfl ?_
  intro p e s m args below meth c s₁ B hml hv
  obtain ⟨rfl, hsz, hP, hK, hD0, hN⟩ := hv
  have hx := B.exec
  have hb := B.bytes
  have hr := B.returns
  have hts := fun (w : Cond) (h : w ∈ WALL) => atoms_spec (ws := wqX12_back) B.pre w (List.mem_cons_of_mem _ h)
  have hown : s.vm.findClass RX12 = some m.cls := findClass_of_methodNamed B.named
  have hlocks := B.notSynchronized
  subst hsz
  have hD := hD0.self (sz := s.heap.size)
  generalize hAe : va_A (va_pl L f) s.heap.size = A at hD ⊢
  have hA : ∀ q : Nat, s.heap.size ≤ q → A q := fun q h => by rw [← hAe]; exact Or.inr h
  have hS : va_S A s.heap s.heap [] := va_S.rf
  have hR : tp_F τ [13, 32] f f := tp_F.rf
  have hl := lv_entry ([.ref h0, .int v]) (n := 3) (Nat.le_of_ble_eq_true rfl)
  rw [lg_entry_eq]
  generalize (lg_sl ([.ref h0, .int v]) ++ List.replicate (3 - (lg_sl ([.ref h0, .int v])).length) Slot.unset).toArray = ls at hl ⊢
  have hl : lv_has ls 3 [(0, .ref h0), (1, .int v)] := hl
  refine tgk_13 hG ht_h0 (fun y1 y2 y3 y4 y5 y6 y7 y8 y9 y10 y11 y12 y13 y14 y15 y16 y17 y18 y19 y20 y21 y22 y23 y24 y25 => ?_)
  refine tpk_32 hT y1 (fun g27 hf_o26 => ?_)
  have hI : mo_RI (-1) 0 (mo_R g27) := by have q9 := hJ; rw [hf_o26, mo_i1] at q9; exact q9
  refine tpk_33 hT y2 (fun g29 hf_o28 => ?_)
  have tf30 : mo_hd (mo_i (f (ρ h0 3)) = g29) := tfa_i hf_o28
  refine tpk_34 hT y3 (fun g32 hf_o31 => ?_)
  have tf33 : mo_hd (mo_i (f (ρ h0 4)) = g32) := tfa_i hf_o31
  replace hIM : mo_IM (mo_R g29) := by have q9 := hIM; first | (simp only [(mo_un tf30), mo_i1, mo_l1] at q9; exact q9) | (rw [(mo_un tf30)] at q9; exact q9)
  refine lv_aload_n hx hb dX12_back_0 rfl (lv_at hl 0 rfl) ?_
  refine lv_iconst (v := 0) hx hb dX12_back_1 (by decide) ?_
  refine tpk_13 hT ht_h0 (fun o34_x0 o34_x1 o34_x7 o34_x9 o34_x10 o34_x11 o34_x12 o34_x13 o34_x14 o34_x15 o34_x16 o34_x17 o34_x18 o34_x19 o34_x20 o34_x22 o34_x25 o34_x28 o34_x29 o34_x32 o34_x33 o34_x34 o34_x35 o34_x36 o34_x37 o34_x38 o34_x47 o34_x48 hf_o34 ro34_0 ro34_1 ro34_2 ro34_3 ro34_4 ro34_5 ro34_6 ro34_7 ro34_8 ro34_9 ro34_10 ro34_11 ro34_12 ro34_13 ro34_14 => ?_)
  refine tpk_pos (tp_in hG ht_h0 (by decide)) hf_o34 (fun q35 eq35 => ?_)
  refine va_put (D := (dC, dI)) (ci := 12) (v := .int 0) (ty := .int) (C := RX12) (T := TX12) (N := 53) hx hb hts hfX12 tyX12 tyX12_ok nmX12 hown hK hP hD hS q35 eq35 rfl 0 (by decide) (hts (.fieldLink RX12 91 "ColdShipsModel" "thrown" "I") wa_209) (fun _ h9 => h9) rfl (tyX12_ok 0 (by decide)) rfl rfl (Nat.le_of_ble_eq_true rfl) dX12_back_2 (tp_k (.inr (12, [.int 0, .int o34_x1, .ref (ρ h0 2), .ref (ρ h0 3), .ref (ρ h0 4), .ref (ρ h0 5), .ref (ρ h0 6), .int o34_x7, .ref (ρ h0 8), .int o34_x9, .int o34_x10, .int o34_x11, .int o34_x12, .long o34_x13, .int o34_x14, .int o34_x15, .int o34_x16, .int o34_x17, .int o34_x18, .int o34_x19, .int o34_x20, .ref (ρ h0 21), .int o34_x22, .ref (ρ h0 23), .ref (ρ h0 24), .int o34_x25, .ref (ρ h0 26), .ref (ρ h0 27), .int o34_x28, .int o34_x29, .ref (ρ h0 30), .ref (ρ h0 31), .int o34_x32, .long o34_x33, .long o34_x34, .long o34_x35, .int o34_x36, .int o34_x37, .int o34_x38, .ref (ρ h0 39), .ref (ρ h0 40), .ref (ρ h0 41), .ref (ρ h0 42), .ref (ρ h0 43), .ref (ρ h0 44), .ref (ρ h0 45), .ref (ρ h0 46), .int o34_x47, .int o34_x48, .ref (ρ h0 49), .ref (ρ h0 50), .ref (ρ h0 51), .ref (ρ h0 52)])) hD (tp_in hG ht_h0 (by decide)) eq35 (fun f36 H locs hP hD hS g38 k37 => ?_))
  have hT := hT.up ht_h0 g38 k37 ⟨_, _, _, _, _, _, _, _, _, _, _, _, _, _, _, _, _, _, _, _, _, _, _, _, _, _, _, _, rfl, ro34_0, ro34_1, ro34_2, ro34_3, ro34_4, ro34_5, ro34_6, ro34_7, ro34_8, ro34_9, ro34_10, ro34_11, ro34_12, ro34_13, ro34_14⟩
  have hR := hR.up ht_h0 (by decide) k37
  refine lv_iload_n hx hb dX12_back_5 rfl (lv_at hl 1 rfl) ?_
  refine lv_i2l hx hb dX12_back_6 rfl ?_
  refine lv_lconst (v := 0) hx hb dX12_back_7 (by decide) ?_
  refine lv_lconst (v := 1) hx hb dX12_back_8 (by decide) ?_
  have hf_39 : f36 (ρ h0 2) = .inl (κ 0, 12967, .inl g27) := (k37 _ (tp_ne y1 ht_h0 (by decide))).trans hf_o26
  refine pz_calli (va_runS (As := [.long v.toInt64, .long 0, .long 1]) (rest := []) ⟨hx, hb, hml, hown, hts⟩ (t_X12_in l dC dI _ v.toInt64 (0) (1) (v.toInt) (0) (1) (Int32.toInt_toInt64 v) rfl rfl) (va_cwS 3 hts gX12_back_X12_in rfl rfl rfl pd_X12_in ⟨Nat.le_of_ble_eq_true rfl, Nat.le_of_ble_eq_true rfl⟩) ⟨pz_blind, pz_pre pz_P0 (hK.sub (tys' := []) [] rfl) (pz_D0 (A := fun _ => True)) hN⟩ rfl rfl hl.1 rfl (lv_room (Nat.le_of_ble_eq_true rfl)) dX12_back_9 ⟨Nat.le_of_ble_eq_true rfl, Nat.le_of_ble_eq_true rfl⟩) (fun r40 hw41 => ?_)
  obtain ⟨hw41r, hw41p⟩ := hw41
  refine lv_if_ne (tgt := 21) hx hb dX12_back_12 (by decide) (fun c42 => ?_) (fun c42 => ?_)
  · have ic42 : r40.toInt ≠ 0 := zi_ne rfl rfl c42
    replace ic42 : 1 ≤ r40.toInt := by omega
    have p43 : (0) ≤ (v.toInt) ∧ (v.toInt) ≤ (1) := (tp_cond.yes hw41p) (by omega)
    clear hw41r ic42
    refine lv_aload_n hx hb dX12_back_21 rfl (lv_at hl 0 rfl) ?_
    refine tpk_pos (tp_in hG ht_h0 (by decide)) g38 (fun q44 eq44 => ?_)
    refine va_get (D := (dC, dI)) (ci := 12) (v := .ref (ρ h0 4)) (C := RX12) (T := TX12) (N := 53) hx hb hts hfX12 hown hK hP q44 eq44 rfl 4 (by decide) (hts (.fieldLink RX12 16 "ColdShipsModel" "isKept" "[Z") wa_151) (fun _ h9 => h9) rfl dX12_back_22 ?_
    refine lv_iload_n hx hb dX12_back_25 rfl (lv_at hl 1 rfl) ?_
    have hf_45 : f36 (ρ h0 4) = .inl (κ 3, 2, .inl g32) := (k37 _ (tp_ne y3 ht_h0 (by decide))).trans hf_o31
    refine tpk_pos (tp_in hG y3 (by decide)) hf_45 (fun q46 eq46 => ?_)
    refine va_zald hx hb hK hP q46 3 eq46 rfl (vp_in_iff.mpr ⟨by omega, by omega⟩) dX12_back_26 ?_
    refine lv_topi (fun z47 ez47 => ?_)
    have jz47 : z47.toInt = mo_R g32 v.toInt := mo_rd ez47 (by omega)
    refine lv_if_ne (tgt := 37) hx hb dX12_back_27 (by decide) (fun c48 => ?_) (fun c48 => ?_)
    · have ic48 : z47.toInt ≠ 0 := zi_ne rfl rfl c48
      refine lv_iconst (v := 0) hx hb dX12_back_37 (by decide) ?_
      refine lv_istore_n (lv' := [(2, .int 0), (0, .ref h0), (1, .int v)]) hx hb dX12_back_38 rfl hl (by decide) rfl (fun ls hl => ?_)
      have hf_49 : f36 (ρ h0 3) = .inl (κ 0, 25934, .inl g29) := (k37 _ (tp_ne y2 ht_h0 (by decide))).trans hf_o28
      have tf50 : mo_hd (mo_i (f36 (ρ h0 3)) = g29) := tfa_i hf_49
      refine pz_loop (fun n0 H locs ls => ∃ f53 : Nat → va_E, ∃ w51 : Int32, n0 = (12967 - (w51.toInt)).toNat ∧ tp_T (mo_O κ Θ) κ τ ν ρ f53 ∧ tp_F τ [13, 32] f f53 ∧ f53 (ρ h0 3) = .inl (κ 0, 25934, .inl g29) ∧ ((mo_CP (mo_R g27) (fun j => (mo_R g29) (12967 * v.toInt + j)) (mo_R (mo_i (f53 (ρ h0 2)))) 0 (w51.toInt))) ∧ (0 ≤ w51.toInt ∧ w51.toInt ≤ 12967) ∧ va_P (dC, dI) vwCl (va_pl L f53) H ∧ va_D A (va_pl L f53) ∧ va_S A s.heap H locs ∧ lv_has ls 3 [(2, .int w51), (0, .ref h0), (1, .int v)]) ?_ _ _ _ _ ⟨f36, 0, rfl, hT, hR, hf_49, (by rw [hf_39, mo_i1]; exact mo_CP.rf (by decide)), (by have : (0 : Int32).toInt = 0 := rfl; omega), hP, hD, hS, lv_sub hl [0, 1, 2] rfl⟩
      intro n0 H locs ls hI ih55
      refine Exists.elim hI (fun f53 hE90 => Exists.elim hE90 (fun w51 hE91 => tn_10 hE91 (fun hn56 hT hR hk52k hJ rw51 hP hD hS hl => ?_)))
      clear hE91 hE90 hI
      refine tpk_32 hT y1 (fun g58 hf_o57 => ?_)
      have hI : mo_CP (mo_R g27) (fun j => (mo_R g29) (12967 * v.toInt + j)) (mo_R g58) 0 (w51.toInt) := by have q9 := hJ; rw [hf_o57, mo_i1] at q9; exact q9
      refine lv_iload_n hx hb dX12_back_39 rfl (lv_at hl 0 rfl) ?_
      refine lv_sipush (v := 12967) hx hb dX12_back_40 (by decide) ?_
      refine lv_icmp_ge (tgt := 70) hx hb dX12_back_43 (by decide) (fun c59 => ?_) (fun c59 => ?_)
      · have ic59 : w51.toInt ≥ 12967 := zi_ge rfl rfl c59
        have hcp := hI
        have hI := hIM.get (by omega) (by omega) hI (by omega)
        refine lv_aload_n hx hb dX12_back_70 rfl (lv_at hl 1 rfl) ?_
        refine lv_iconst (v := 0) hx hb dX12_back_71 (by decide) ?_
        refine tpk_13 hT ht_h0 (fun o60_x0 o60_x1 o60_x7 o60_x9 o60_x10 o60_x11 o60_x12 o60_x13 o60_x14 o60_x15 o60_x16 o60_x17 o60_x18 o60_x19 o60_x20 o60_x22 o60_x25 o60_x28 o60_x29 o60_x32 o60_x33 o60_x34 o60_x35 o60_x36 o60_x37 o60_x38 o60_x47 o60_x48 hf_o60 ro60_0 ro60_1 ro60_2 ro60_3 ro60_4 ro60_5 ro60_6 ro60_7 ro60_8 ro60_9 ro60_10 ro60_11 ro60_12 ro60_13 ro60_14 => ?_)
        refine tpk_pos (tp_in hG ht_h0 (by decide)) hf_o60 (fun q61 eq61 => ?_)
        have hFc := tp_fr hD hS hA
        refine va_calli (va_runV (As := [.int 0]) (rest := []) ⟨hx, hb, hml, hown, hts⟩ (t_X12_told l dC dI _ κ Θ τ ν ρ L f53 hG hT h0 (0) ht_h0) (cwV 1 hts gX12_back_X12_told rfl rfl rfl ⟨rfl, pd_X12_told⟩ ⟨Nat.le_of_ble_eq_true rfl, Nat.le_of_ble_eq_true rfl⟩) ⟨pz_blind, va_recv hK hP (ci := 12) (q0 := q61) rfl eq61, pz_pre hP hK hD hN⟩ rfl rfl hl.1 rfl (lv_room (Nat.le_of_ble_eq_true rfl)) dX12_back_72 ⟨Nat.le_of_ble_eq_true rfl, Nat.le_of_ble_eq_true rfl⟩) hS (fun q _ h => hFc q h) hFc (fun r62 f64 t H1 locs ht hvm hw63 hB hz1 hk1 hS => ?_)
        refine tn_4 hw63 (fun hT hF65 hw63r hw63p => ?_); clear hw63
        have hR := hR.then hF65 (by decide)
        have hP := hB.1; rw [ht] at hP; have hD := tp_ad f64 hD; clear hB hFc hz1 hk1; subst ht; generalize t.heap = H at hP hS ⊢
        have hw63pq : r62.toInt = 0 := by rw [hw63p]; rfl
        have hf_66 : f64 (ρ h0 2) = .inl (κ 0, 12967, .inl g58) := (hF65 _ (by rw [tp_iu y1]; decide)).trans hf_o57
        exact W.iret (v := r62) hx hb hr (fun t ht hW => ⟨⟨r62, f64, rfl, ⟨hT, hR, trivial, ⟨(by rw [hf_66, mo_i1]; exact hI), (by first | (simp only [(mo_un tf33), (mo_un tf30), hf_o26, hf_66, mo_i1, mo_l1]; exact (show (¬ (0 ≤ v.toInt ∧ v.toInt ≤ 1) → r62.toInt = -1 ∧ ∀ k : Int, 0 ≤ k → k < 20 → (mo_R g58) k = (mo_R g27) k) ∧ (0 ≤ v.toInt ∧ v.toInt ≤ 1 → (mo_R g32) v.toInt = 0 → r62.toInt = -2 ∧ ∀ k : Int, 0 ≤ k → k < 20 → (mo_R g58) k = (mo_R g27) k) ∧ (0 ≤ v.toInt ∧ v.toInt ≤ 1 → (mo_R g32) v.toInt ≠ 0 → r62.toInt = 0 ∧ ∀ j : Int, 0 ≤ j → j < 12967 → (mo_R g58) j = (mo_R g29) (12967 * v.toInt + j)) from ⟨fun q9 => by exfalso; omega, fun _ q9 => by exfalso; omega, fun _ _ => ⟨by omega, fun j j0 j1 => (hcp.inn (j := j) j0 (by omega) (by omega)).trans (by rw [show j - 0 = j by omega])⟩⟩)) | (rw [(mo_un tf33), (mo_un tf30), hf_o26, hf_66]; exact (show (¬ (0 ≤ v.toInt ∧ v.toInt ≤ 1) → r62.toInt = -1 ∧ ∀ k : Int, 0 ≤ k → k < 20 → (mo_R g58) k = (mo_R g27) k) ∧ (0 ≤ v.toInt ∧ v.toInt ≤ 1 → (mo_R g32) v.toInt = 0 → r62.toInt = -2 ∧ ∀ k : Int, 0 ≤ k → k < 20 → (mo_R g58) k = (mo_R g27) k) ∧ (0 ≤ v.toInt ∧ v.toInt ≤ 1 → (mo_R g32) v.toInt ≠ 0 → r62.toInt = 0 ∧ ∀ j : Int, 0 ≤ j → j < 12967 → (mo_R g58) j = (mo_R g29) (12967 * v.toInt + j)) from ⟨fun q9 => by exfalso; omega, fun _ q9 => by exfalso; omega, fun _ _ => ⟨by omega, fun j j0 j1 => (hcp.inn (j := j) j0 (by omega) (by omega)).trans (by rw [show j - 0 = j by omega])⟩⟩)))⟩⟩, by rw [ht]; exact hP, va_K.moved hW.alike hK, hD⟩, hS.F ht⟩) hS.2.2 dX12_back_75
      · have ic59 : w51.toInt < 12967 := zi_gef rfl rfl c59
        refine lv_aload_n hx hb dX12_back_46 rfl (lv_at hl 1 rfl) ?_
        refine tpk_13 hT ht_h0 (fun o67_x0 o67_x1 o67_x7 o67_x9 o67_x10 o67_x11 o67_x12 o67_x13 o67_x14 o67_x15 o67_x16 o67_x17 o67_x18 o67_x19 o67_x20 o67_x22 o67_x25 o67_x28 o67_x29 o67_x32 o67_x33 o67_x34 o67_x35 o67_x36 o67_x37 o67_x38 o67_x47 o67_x48 hf_o67 ro67_0 ro67_1 ro67_2 ro67_3 ro67_4 ro67_5 ro67_6 ro67_7 ro67_8 ro67_9 ro67_10 ro67_11 ro67_12 ro67_13 ro67_14 => ?_)
        refine tpk_pos (tp_in hG ht_h0 (by decide)) hf_o67 (fun q68 eq68 => ?_)
        refine va_get (D := (dC, dI)) (ci := 12) (v := .ref (ρ h0 2)) (C := RX12) (T := TX12) (N := 53) hx hb hts hfX12 hown hK hP q68 eq68 rfl 2 (by decide) (hts (.fieldLink RX12 7 "ColdShipsModel" "row" "[I") wa_148) (fun _ h9 => h9) rfl dX12_back_47 ?_
        refine lv_iload_n hx hb dX12_back_50 rfl (lv_at hl 0 rfl) ?_
        refine lv_aload_n hx hb dX12_back_51 rfl (lv_at hl 1 rfl) ?_
        refine va_get (D := (dC, dI)) (ci := 12) (v := .ref (ρ h0 3)) (C := RX12) (T := TX12) (N := 53) hx hb hts hfX12 hown hK hP q68 eq68 rfl 3 (by decide) (hts (.fieldLink RX12 13 "ColdShipsModel" "images" "[I") wa_149) (fun _ h9 => h9) rfl dX12_back_52 ?_
        refine lv_sipush (v := 12967) hx hb dX12_back_55 (by decide) ?_
        refine lv_iload_n hx hb dX12_back_58 rfl (lv_at hl 2 rfl) ?_
        refine lv_imul hx hb dX12_back_59 ?_
        refine lv_topi (fun z69 ez69 => ?_)
        have iz69 : z69.toInt = 12967 * v.toInt := zi_mul ez69 rfl rfl (by omega) (by omega)
        refine lv_iload_n hx hb dX12_back_60 rfl (lv_at hl 0 rfl) ?_
        refine lv_iadd hx hb dX12_back_61 ?_
        refine lv_topi (fun z70 ez70 => ?_)
        have iz70 : z70.toInt = z69.toInt + w51.toInt := zi_add ez70 rfl rfl (by omega) (by omega)
        refine tpk_pos (tp_in hG y2 (by decide)) hk52k (fun q71 eq71 => ?_)
        refine va_iald hx hb hK hP q71 0 eq71 rfl (vp_in_iff.mpr ⟨by omega, by omega⟩) dX12_back_62 ?_
        refine lv_topi (fun z72 ez72 => ?_)
        have jz72 : z72.toInt = mo_R g29 (12967 * v.toInt + w51.toInt) := mo_rd ez72 (by omega)
        refine tpk_pos (tp_in hG y1 (by decide)) hf_o57 (fun q73 eq73 => ?_)
        refine va_iast hx hb hK hP hD hS q73 0 eq73 rfl (vp_in_iff.mpr ⟨by omega, by omega⟩) dX12_back_63 (tp_k (.inl (κ 0, 12967, .inl (upd g58 w51.toNatClampNeg z72))) hD (tp_in hG y1 (by decide)) eq73 (fun f74 H locs hP hD hS g76 k75 => ?_))
        have hT := hT.up y1 g76 k75 tp_o32
        have hR := hR.up y1 (by decide) k75
        have hU : mo_U (mo_R g58) (mo_R (upd g58 w51.toNatClampNeg z72)) (0 + w51.toInt) (z72.toInt) := mo_up (by omega) (rfl : z72.toInt = _) (by omega)
        generalize (upd g58 w51.toNatClampNeg z72) = g77 at g76 hU
        have hI := mo_CP.up hI hU (by omega) (by show z72.toInt = (mo_R g29) (12967 * v.toInt + w51.toInt); omega) (by omega) (w51.toInt + 1) (by omega)
        have pn78 : mo_R g77 (0 + w51.toInt) = z72.toInt := hU.eq (by omega)
        obtain ⟨z79, ez79⟩ : ∃ y : Int32, y = w51 + 1 := ⟨_, rfl⟩
        refine lv_iinc (v := z79) (lv' := [(2, .int z79), (0, .ref h0), (1, .int v)]) hx hb dX12_back_64 hl (k := 0) rfl (by rw [ez79]; rfl) (by decide) rfl (fun ls hl => ?_)
        have iz79 : z79.toInt = w51.toInt + 1 := zi_add ez79 rfl rfl (by omega) (by omega)
        refine lv_goto (tgt := 39) hx hb dX12_back_67 (by decide) ?_
        have hf_80 : f74 (ρ h0 3) = .inl (κ 0, 25934, .inl g29) := (k75 _ (tp_ne y2 y1 (by decide))).trans hk52k
        exact ih55 _ _ _ _ (by rw [hn56]; omega) ⟨f74, z79, rfl, hT, hR, hf_80, (by rw [g76, mo_i1]; exact (by rw [show z79.toInt = w51.toInt + 1 by omega]; exact hI)), (by omega), hP, hD, hS, lv_sub hl [0, 1, 2] rfl⟩
    · have ic48 : z47.toInt = 0 := zi_nef rfl rfl c48
      refine lv_aload_n hx hb dX12_back_30 rfl (lv_at hl 0 rfl) ?_
      refine lv_bipush (v := (-2)) hx hb dX12_back_31 (by decide) ?_
      have hFc := tp_fr hD hS hA
      refine va_calli (va_runV (As := [.int (-2)]) (rest := []) ⟨hx, hb, hml, hown, hts⟩ (t_X12_told l dC dI _ κ Θ τ ν ρ L f36 hG hT h0 ((-2)) ht_h0) (cwV 1 hts gX12_back_X12_told rfl rfl rfl ⟨rfl, pd_X12_told⟩ ⟨Nat.le_of_ble_eq_true rfl, Nat.le_of_ble_eq_true rfl⟩) ⟨pz_blind, va_recv hK hP (ci := 12) (q0 := q44) rfl eq44, pz_pre hP hK hD hN⟩ rfl rfl hl.1 rfl (lv_room (Nat.le_of_ble_eq_true rfl)) dX12_back_33 ⟨Nat.le_of_ble_eq_true rfl, Nat.le_of_ble_eq_true rfl⟩) hS (fun q _ h => hFc q h) hFc (fun r81 f83 t H1 locs ht hvm hw82 hB hz1 hk1 hS => ?_)
      refine tn_4 hw82 (fun hT hF84 hw82r hw82p => ?_); clear hw82
      have hR := hR.then hF84 (by decide)
      have hP := hB.1; rw [ht] at hP; have hD := tp_ad f83 hD; clear hB hFc hz1 hk1; subst ht; generalize t.heap = H at hP hS ⊢
      have hw82pq : r81.toInt = (-2) := by rw [hw82p]; rfl
      have hf_85 : f83 (ρ h0 2) = .inl (κ 0, 12967, .inl g27) := (hF84 _ (by rw [tp_iu y1]; decide)).trans hf_39
      exact W.iret (v := r81) hx hb hr (fun t ht hW => ⟨⟨r81, f83, rfl, ⟨hT, hR, trivial, ⟨(by rw [hf_85, mo_i1]; exact hI), (by first | (simp only [(mo_un tf33), (mo_un tf30), hf_o26, hf_85, mo_i1, mo_l1]; exact (show (¬ (0 ≤ v.toInt ∧ v.toInt ≤ 1) → r81.toInt = -1 ∧ ∀ k : Int, 0 ≤ k → k < 20 → (mo_R g27) k = (mo_R g27) k) ∧ (0 ≤ v.toInt ∧ v.toInt ≤ 1 → (mo_R g32) v.toInt = 0 → r81.toInt = -2 ∧ ∀ k : Int, 0 ≤ k → k < 20 → (mo_R g27) k = (mo_R g27) k) ∧ (0 ≤ v.toInt ∧ v.toInt ≤ 1 → (mo_R g32) v.toInt ≠ 0 → r81.toInt = 0 ∧ ∀ j : Int, 0 ≤ j → j < 12967 → (mo_R g27) j = (mo_R g29) (12967 * v.toInt + j)) from ⟨fun q9 => by exfalso; omega, fun _ _ => ⟨by omega, fun k _ _ => rfl⟩, fun _ q9 => by exfalso; omega⟩)) | (rw [(mo_un tf33), (mo_un tf30), hf_o26, hf_85]; exact (show (¬ (0 ≤ v.toInt ∧ v.toInt ≤ 1) → r81.toInt = -1 ∧ ∀ k : Int, 0 ≤ k → k < 20 → (mo_R g27) k = (mo_R g27) k) ∧ (0 ≤ v.toInt ∧ v.toInt ≤ 1 → (mo_R g32) v.toInt = 0 → r81.toInt = -2 ∧ ∀ k : Int, 0 ≤ k → k < 20 → (mo_R g27) k = (mo_R g27) k) ∧ (0 ≤ v.toInt ∧ v.toInt ≤ 1 → (mo_R g32) v.toInt ≠ 0 → r81.toInt = 0 ∧ ∀ j : Int, 0 ≤ j → j < 12967 → (mo_R g27) j = (mo_R g29) (12967 * v.toInt + j)) from ⟨fun q9 => by exfalso; omega, fun _ _ => ⟨by omega, fun k _ _ => rfl⟩, fun _ q9 => by exfalso; omega⟩)))⟩⟩, by rw [ht]; exact hP, va_K.moved hW.alike hK, hD⟩, hS.F ht⟩) hS.2.2 dX12_back_36
  · have ic42 : r40.toInt = 0 := zi_nef rfl rfl c42
    have p86 : ¬ ((0) ≤ (v.toInt) ∧ (v.toInt) ≤ (1)) := (tp_cond.no hw41p) (by omega)
    clear hw41r ic42
    refine lv_aload_n hx hb dX12_back_15 rfl (lv_at hl 0 rfl) ?_
    refine lv_iconst (v := (-1)) hx hb dX12_back_16 (by decide) ?_
    refine tpk_pos (tp_in hG ht_h0 (by decide)) g38 (fun q87 eq87 => ?_)
    have hFc := tp_fr hD hS hA
    refine va_calli (va_runV (As := [.int (-1)]) (rest := []) ⟨hx, hb, hml, hown, hts⟩ (t_X12_told l dC dI _ κ Θ τ ν ρ L f36 hG hT h0 ((-1)) ht_h0) (cwV 1 hts gX12_back_X12_told rfl rfl rfl ⟨rfl, pd_X12_told⟩ ⟨Nat.le_of_ble_eq_true rfl, Nat.le_of_ble_eq_true rfl⟩) ⟨pz_blind, va_recv hK hP (ci := 12) (q0 := q87) rfl eq87, pz_pre hP hK hD hN⟩ rfl rfl hl.1 rfl (lv_room (Nat.le_of_ble_eq_true rfl)) dX12_back_17 ⟨Nat.le_of_ble_eq_true rfl, Nat.le_of_ble_eq_true rfl⟩) hS (fun q _ h => hFc q h) hFc (fun r88 f90 t H1 locs ht hvm hw89 hB hz1 hk1 hS => ?_)
    refine tn_4 hw89 (fun hT hF91 hw89r hw89p => ?_); clear hw89
    have hR := hR.then hF91 (by decide)
    have hP := hB.1; rw [ht] at hP; have hD := tp_ad f90 hD; clear hB hFc hz1 hk1; subst ht; generalize t.heap = H at hP hS ⊢
    have hw89pq : r88.toInt = (-1) := by rw [hw89p]; rfl
    have hf_92 : f90 (ρ h0 2) = .inl (κ 0, 12967, .inl g27) := (hF91 _ (by rw [tp_iu y1]; decide)).trans hf_39
    exact W.iret (v := r88) hx hb hr (fun t ht hW => ⟨⟨r88, f90, rfl, ⟨hT, hR, trivial, ⟨(by rw [hf_92, mo_i1]; exact hI), (by first | (simp only [(mo_un tf33), (mo_un tf30), hf_o26, hf_92, mo_i1, mo_l1]; exact (show (¬ (0 ≤ v.toInt ∧ v.toInt ≤ 1) → r88.toInt = -1 ∧ ∀ k : Int, 0 ≤ k → k < 20 → (mo_R g27) k = (mo_R g27) k) ∧ (0 ≤ v.toInt ∧ v.toInt ≤ 1 → (mo_R g32) v.toInt = 0 → r88.toInt = -2 ∧ ∀ k : Int, 0 ≤ k → k < 20 → (mo_R g27) k = (mo_R g27) k) ∧ (0 ≤ v.toInt ∧ v.toInt ≤ 1 → (mo_R g32) v.toInt ≠ 0 → r88.toInt = 0 ∧ ∀ j : Int, 0 ≤ j → j < 12967 → (mo_R g27) j = (mo_R g29) (12967 * v.toInt + j)) from ⟨fun _ => ⟨by omega, fun k _ _ => rfl⟩, fun q9 => by exfalso; omega, fun q9 => by exfalso; omega⟩)) | (rw [(mo_un tf33), (mo_un tf30), hf_o26, hf_92]; exact (show (¬ (0 ≤ v.toInt ∧ v.toInt ≤ 1) → r88.toInt = -1 ∧ ∀ k : Int, 0 ≤ k → k < 20 → (mo_R g27) k = (mo_R g27) k) ∧ (0 ≤ v.toInt ∧ v.toInt ≤ 1 → (mo_R g32) v.toInt = 0 → r88.toInt = -2 ∧ ∀ k : Int, 0 ≤ k → k < 20 → (mo_R g27) k = (mo_R g27) k) ∧ (0 ≤ v.toInt ∧ v.toInt ≤ 1 → (mo_R g32) v.toInt ≠ 0 → r88.toInt = 0 ∧ ∀ j : Int, 0 ≤ j → j < 12967 → (mo_R g27) j = (mo_R g29) (12967 * v.toInt + j)) from ⟨fun _ => ⟨by omega, fun k _ _ => rfl⟩, fun q9 => by exfalso; omega, fun q9 => by exfalso; omega⟩)))⟩⟩, by rw [ht]; exact hP, va_K.moved hW.alike hK, hD⟩, hS.F ht⟩) hS.2.2 dX12_back_20
end
section
theorem gX12_work_X12_isBroken : GoodIn WALL (wsV RX12 221 RX12 yX12_isBroken wqX12_isBroken) := wg_V wa_586 wa_587 wa_588 wa_5 wa_589
theorem dX12_work_0 : decode cX12_work 0 = .ok (.iload_n 2, 1) := od_28  (by decide +kernel)
theorem dX12_work_1 : decode cX12_work 1 = .ok (.istore_n 3, 1) := od_62  (by decide +kernel)
theorem dX12_work_2 : decode cX12_work 2 = .ok (.iload_n 3, 1) := od_29  (by decide +kernel)
theorem dX12_work_3 : decode cX12_work 3 = .ok (.ifCond .le 46, 3) := od_158 (a := 0) (b := 46) (by decide +kernel) (by decide +kernel)
theorem dX12_work_6 : decode cX12_work 6 = .ok (.aload_n 0, 1) := od_42  (by decide +kernel)
theorem dX12_work_7 : decode cX12_work 7 = .ok (.getfield 500, 3) := od_180 (a := 1) (b := 244) (by decide +kernel) (by decide)
theorem dX12_work_10 : decode cX12_work 10 = .ok (.sipush 2399, 3) := od_17 (a := 9) (b := 95) (by decide +kernel) (by decide +kernel)
theorem dX12_work_13 : decode cX12_work 13 = .ok (.if_icmp .gt 36, 3) := od_163 (a := 0) (b := 36) (by decide +kernel) (by decide +kernel)
theorem dX12_work_16 : decode cX12_work 16 = .ok (.iload_n 3, 1) := od_29  (by decide +kernel)
theorem dX12_work_17 : decode cX12_work 17 = .ok (.aload_n 0, 1) := od_42  (by decide +kernel)
theorem dX12_work_18 : decode cX12_work 18 = .ok (.iload_n 1, 1) := od_27  (by decide +kernel)
theorem dX12_work_19 : decode cX12_work 19 = .ok (.aload_n 0, 1) := od_42  (by decide +kernel)
theorem dX12_work_20 : decode cX12_work 20 = .ok (.getfield 500, 3) := od_180 (a := 1) (b := 244) (by decide +kernel) (by decide)
theorem dX12_work_23 : decode cX12_work 23 = .ok (.invokevirtual 221, 3) := od_182 (a := 0) (b := 221) (by decide +kernel) (by decide)
theorem dX12_work_26 : decode cX12_work 26 = .ok (.ifCond .eq 7, 3) := od_153 (a := 0) (b := 7) (by decide +kernel) (by decide +kernel)
theorem dX12_work_29 : decode cX12_work 29 = .ok (.iconst 0, 1) := od_3  (by decide +kernel)
theorem dX12_work_30 : decode cX12_work 30 = .ok (.goto 4, 3) := od_167 (a := 0) (b := 4) (by decide +kernel) (by decide +kernel)
theorem dX12_work_33 : decode cX12_work 33 = .ok (.iconst 1, 1) := od_4  (by decide +kernel)
theorem dX12_work_34 : decode cX12_work 34 = .ok (.isub, 1) := od_100  (by decide +kernel)
theorem dX12_work_35 : decode cX12_work 35 = .ok (.istore_n 3, 1) := od_62  (by decide +kernel)
theorem dX12_work_36 : decode cX12_work 36 = .ok (.aload_n 0, 1) := od_42  (by decide +kernel)
theorem dX12_work_37 : decode cX12_work 37 = .ok (.dup, 1) := od_89  (by decide +kernel)
theorem dX12_work_38 : decode cX12_work 38 = .ok (.getfield 500, 3) := od_180 (a := 1) (b := 244) (by decide +kernel) (by decide)
theorem dX12_work_41 : decode cX12_work 41 = .ok (.iconst 1, 1) := od_4  (by decide +kernel)
theorem dX12_work_42 : decode cX12_work 42 = .ok (.iadd, 1) := od_96  (by decide +kernel)
theorem dX12_work_43 : decode cX12_work 43 = .ok (.putfield 500, 3) := od_181 (a := 1) (b := 244) (by decide +kernel) (by decide)
theorem dX12_work_46 : decode cX12_work 46 = .ok (.goto (-44), 3) := od_167 (a := 255) (b := 212) (by decide +kernel) (by decide +kernel)
theorem dX12_work_49 : decode cX12_work 49 = .ok (.iload_n 3, 1) := od_29  (by decide +kernel)
theorem dX12_work_50 : decode cX12_work 50 = .ok (.ifCond .ne 7, 3) := od_154 (a := 0) (b := 7) (by decide +kernel) (by decide +kernel)
theorem dX12_work_53 : decode cX12_work 53 = .ok (.iconst 1, 1) := od_4  (by decide +kernel)
theorem dX12_work_54 : decode cX12_work 54 = .ok (.goto 4, 3) := od_167 (a := 0) (b := 4) (by decide +kernel) (by decide +kernel)
theorem dX12_work_57 : decode cX12_work 57 = .ok (.iconst 0, 1) := od_3  (by decide +kernel)
theorem dX12_work_58 : decode cX12_work 58 = .ok (.ireturn, 1) := od_172  (by decide +kernel)
theorem gX12_goTo_X12_wayOf : GoodIn WALL (wsV RX12 217 RX12 yX12_wayOf wqX12_wayOf) := wg_V wa_578 wa_579 wa_580 wa_5 wa_581
theorem gX12_goTo_X12_work : GoodIn WALL (wsV RX12 509 RX12 yX12_work wqX12_work) := wg_V wa_1439 wa_1440 wa_1441 wa_5 wa_1442
theorem dX12_goTo_0 : decode cX12_goTo 0 = .ok (.aload_n 0, 1) := od_42  (by decide +kernel)
theorem dX12_goTo_1 : decode cX12_goTo 1 = .ok (.getfield 503, 3) := od_180 (a := 1) (b := 247) (by decide +kernel) (by decide)
theorem dX12_goTo_4 : decode cX12_goTo 4 = .ok (.iload_n 1, 1) := od_27  (by decide +kernel)
theorem dX12_goTo_5 : decode cX12_goTo 5 = .ok (.if_icmp .ne 7, 3) := od_160 (a := 0) (b := 7) (by decide +kernel) (by decide +kernel)
theorem dX12_goTo_8 : decode cX12_goTo 8 = .ok (.iconst 0, 1) := od_3  (by decide +kernel)
theorem dX12_goTo_9 : decode cX12_goTo 9 = .ok (.goto 12, 3) := od_167 (a := 0) (b := 12) (by decide +kernel) (by decide +kernel)
theorem dX12_goTo_12 : decode cX12_goTo 12 = .ok (.aload_n 0, 1) := od_42  (by decide +kernel)
theorem dX12_goTo_13 : decode cX12_goTo 13 = .ok (.aload_n 0, 1) := od_42  (by decide +kernel)
theorem dX12_goTo_14 : decode cX12_goTo 14 = .ok (.getfield 503, 3) := od_180 (a := 1) (b := 247) (by decide +kernel) (by decide)
theorem dX12_goTo_17 : decode cX12_goTo 17 = .ok (.iload_n 1, 1) := od_27  (by decide +kernel)
theorem dX12_goTo_18 : decode cX12_goTo 18 = .ok (.invokevirtual 217, 3) := od_182 (a := 0) (b := 217) (by decide +kernel) (by decide)
theorem dX12_goTo_21 : decode cX12_goTo 21 = .ok (.istore 5, 2) := od_54 (n := 5) (by decide +kernel)
theorem dX12_goTo_23 : decode cX12_goTo 23 = .ok (.aload_n 0, 1) := od_42  (by decide +kernel)
theorem dX12_goTo_24 : decode cX12_goTo 24 = .ok (.getfield 503, 3) := od_180 (a := 1) (b := 247) (by decide +kernel) (by decide)
theorem dX12_goTo_27 : decode cX12_goTo 27 = .ok (.iload_n 1, 1) := od_27  (by decide +kernel)
theorem dX12_goTo_28 : decode cX12_goTo 28 = .ok (.if_icmp .eq 10, 3) := od_159 (a := 0) (b := 10) (by decide +kernel) (by decide +kernel)
theorem dX12_goTo_31 : decode cX12_goTo 31 = .ok (.iload 5, 2) := od_21 (n := 5) (by decide +kernel)
theorem dX12_goTo_33 : decode cX12_goTo 33 = .ok (.ifCond .ne 5, 3) := od_154 (a := 0) (b := 5) (by decide +kernel) (by decide +kernel)
theorem dX12_goTo_36 : decode cX12_goTo 36 = .ok (.iconst (-1), 1) := od_2  (by decide +kernel)
theorem dX12_goTo_37 : decode cX12_goTo 37 = .ok (.ireturn, 1) := od_172  (by decide +kernel)
theorem dX12_goTo_38 : decode cX12_goTo 38 = .ok (.aload_n 0, 1) := od_42  (by decide +kernel)
theorem dX12_goTo_39 : decode cX12_goTo 39 = .ok (.dup, 1) := od_89  (by decide +kernel)
theorem dX12_goTo_40 : decode cX12_goTo 40 = .ok (.getfield 500, 3) := od_180 (a := 1) (b := 244) (by decide +kernel) (by decide)
theorem dX12_goTo_43 : decode cX12_goTo 43 = .ok (.iload 5, 2) := od_21 (n := 5) (by decide +kernel)
theorem dX12_goTo_45 : decode cX12_goTo 45 = .ok (.iadd, 1) := od_96  (by decide +kernel)
theorem dX12_goTo_46 : decode cX12_goTo 46 = .ok (.putfield 500, 3) := od_181 (a := 1) (b := 244) (by decide +kernel) (by decide)
theorem dX12_goTo_49 : decode cX12_goTo 49 = .ok (.aload_n 0, 1) := od_42  (by decide +kernel)
theorem dX12_goTo_50 : decode cX12_goTo 50 = .ok (.aload_n 0, 1) := od_42  (by decide +kernel)
theorem dX12_goTo_51 : decode cX12_goTo 51 = .ok (.getfield 500, 3) := od_180 (a := 1) (b := 244) (by decide +kernel) (by decide)
theorem dX12_goTo_54 : decode cX12_goTo 54 = .ok (.iload_n 2, 1) := od_28  (by decide +kernel)
theorem dX12_goTo_55 : decode cX12_goTo 55 = .ok (.if_icmp .ge 7, 3) := od_162 (a := 0) (b := 7) (by decide +kernel) (by decide +kernel)
theorem dX12_goTo_58 : decode cX12_goTo 58 = .ok (.iload_n 2, 1) := od_28  (by decide +kernel)
theorem dX12_goTo_59 : decode cX12_goTo 59 = .ok (.goto 7, 3) := od_167 (a := 0) (b := 7) (by decide +kernel) (by decide +kernel)
theorem dX12_goTo_62 : decode cX12_goTo 62 = .ok (.aload_n 0, 1) := od_42  (by decide +kernel)
theorem dX12_goTo_63 : decode cX12_goTo 63 = .ok (.getfield 500, 3) := od_180 (a := 1) (b := 244) (by decide +kernel) (by decide)
theorem dX12_goTo_66 : decode cX12_goTo 66 = .ok (.putfield 500, 3) := od_181 (a := 1) (b := 244) (by decide +kernel) (by decide)
theorem dX12_goTo_69 : decode cX12_goTo 69 = .ok (.aload_n 0, 1) := od_42  (by decide +kernel)
theorem dX12_goTo_70 : decode cX12_goTo 70 = .ok (.getfield 500, 3) := od_180 (a := 1) (b := 244) (by decide +kernel) (by decide)
theorem dX12_goTo_73 : decode cX12_goTo 73 = .ok (.iload_n 3, 1) := od_29  (by decide +kernel)
theorem dX12_goTo_74 : decode cX12_goTo 74 = .ok (.if_icmp .le 5, 3) := od_164 (a := 0) (b := 5) (by decide +kernel) (by decide +kernel)
theorem dX12_goTo_77 : decode cX12_goTo 77 = .ok (.iconst (-1), 1) := od_2  (by decide +kernel)
theorem dX12_goTo_78 : decode cX12_goTo 78 = .ok (.ireturn, 1) := od_172  (by decide +kernel)
theorem dX12_goTo_79 : decode cX12_goTo 79 = .ok (.aload_n 0, 1) := od_42  (by decide +kernel)
theorem dX12_goTo_80 : decode cX12_goTo 80 = .ok (.aload_n 0, 1) := od_42  (by decide +kernel)
theorem dX12_goTo_81 : decode cX12_goTo 81 = .ok (.getfield 500, 3) := od_180 (a := 1) (b := 244) (by decide +kernel) (by decide)
theorem dX12_goTo_84 : decode cX12_goTo 84 = .ok (.putfield 506, 3) := od_181 (a := 1) (b := 250) (by decide +kernel) (by decide)
theorem dX12_goTo_87 : decode cX12_goTo 87 = .ok (.aload_n 0, 1) := od_42  (by decide +kernel)
theorem dX12_goTo_88 : decode cX12_goTo 88 = .ok (.iload_n 1, 1) := od_27  (by decide +kernel)
theorem dX12_goTo_89 : decode cX12_goTo 89 = .ok (.putfield 503, 3) := od_181 (a := 1) (b := 247) (by decide +kernel) (by decide)
theorem dX12_goTo_92 : decode cX12_goTo 92 = .ok (.aload_n 0, 1) := od_42  (by decide +kernel)
theorem dX12_goTo_93 : decode cX12_goTo 93 = .ok (.iload_n 1, 1) := od_27  (by decide +kernel)
theorem dX12_goTo_94 : decode cX12_goTo 94 = .ok (.iload 4, 2) := od_21 (n := 4) (by decide +kernel)
theorem dX12_goTo_96 : decode cX12_goTo 96 = .ok (.invokevirtual 509, 3) := od_182 (a := 1) (b := 253) (by decide +kernel) (by decide)
theorem dX12_goTo_99 : decode cX12_goTo 99 = .ok (.ifCond .eq 8, 3) := od_153 (a := 0) (b := 8) (by decide +kernel) (by decide +kernel)
theorem dX12_goTo_102 : decode cX12_goTo 102 = .ok (.iload 5, 2) := od_21 (n := 5) (by decide +kernel)
theorem dX12_goTo_104 : decode cX12_goTo 104 = .ok (.goto 4, 3) := od_167 (a := 0) (b := 4) (by decide +kernel) (by decide +kernel)
theorem dX12_goTo_107 : decode cX12_goTo 107 = .ok (.iconst (-1), 1) := od_2  (by decide +kernel)
theorem dX12_goTo_108 : decode cX12_goTo 108 = .ok (.ireturn, 1) := od_172  (by decide +kernel)
theorem gX12_carry_X12_shipAt : GoodIn WALL (va_wsS RX12 132 yX12_shipAt wqX12_shipAt) := wg_S wa_278 wa_279 wa_5 wa_280
theorem gX12_carry_X12_topOf : GoodIn WALL (wsV RX12 231 RX12 yX12_topOf wqX12_topOf) := wg_V wa_602 wa_603 wa_604 wa_5 wa_605
theorem gX12_carry_X12_terminalAt : GoodIn WALL (va_wsS RX12 115 yX12_terminalAt wqX12_terminalAt) := wg_S wa_221 wa_222 wa_5 wa_223
theorem gX12_carry_X12_goTo : GoodIn WALL (wsV RX12 512 RX12 yX12_goTo wqX12_goTo) := wg_V wa_1435 wa_1436 wa_1437 wa_5 wa_1438
theorem dX12_carry_0 : decode cX12_carry 0 = .ok (.sipush 12919, 3) := od_17 (a := 50) (b := 119) (by decide +kernel) (by decide +kernel)
theorem dX12_carry_3 : decode cX12_carry 3 = .ok (.bipush 8, 2) := od_16 (a := 8) (by decide +kernel) (by decide +kernel)
theorem dX12_carry_5 : decode cX12_carry 5 = .ok (.iload_n 2, 1) := od_28  (by decide +kernel)
theorem dX12_carry_6 : decode cX12_carry 6 = .ok (.imul, 1) := od_104  (by decide +kernel)
theorem dX12_carry_7 : decode cX12_carry 7 = .ok (.iadd, 1) := od_96  (by decide +kernel)
theorem dX12_carry_8 : decode cX12_carry 8 = .ok (.istore_n 3, 1) := od_62  (by decide +kernel)
theorem dX12_carry_9 : decode cX12_carry 9 = .ok (.iload_n 1, 1) := od_27  (by decide +kernel)
theorem dX12_carry_10 : decode cX12_carry 10 = .ok (.invokestatic 132, 3) := od_184 (a := 0) (b := 132) (by decide +kernel) (by decide)
theorem dX12_carry_13 : decode cX12_carry 13 = .ok (.istore 4, 2) := od_54 (n := 4) (by decide +kernel)
theorem dX12_carry_15 : decode cX12_carry 15 = .ok (.aload_n 0, 1) := od_42  (by decide +kernel)
theorem dX12_carry_16 : decode cX12_carry 16 = .ok (.getfield 7, 3) := od_180 (a := 0) (b := 7) (by decide +kernel) (by decide)
theorem dX12_carry_19 : decode cX12_carry 19 = .ok (.iload_n 3, 1) := od_29  (by decide +kernel)
theorem dX12_carry_20 : decode cX12_carry 20 = .ok (.bipush 6, 2) := od_16 (a := 6) (by decide +kernel) (by decide +kernel)
theorem dX12_carry_22 : decode cX12_carry 22 = .ok (.iadd, 1) := od_96  (by decide +kernel)
theorem dX12_carry_23 : decode cX12_carry 23 = .ok (.iaload, 1) := od_46  (by decide +kernel)
theorem dX12_carry_24 : decode cX12_carry 24 = .ok (.istore 5, 2) := od_54 (n := 5) (by decide +kernel)
theorem dX12_carry_26 : decode cX12_carry 26 = .ok (.iload 5, 2) := od_21 (n := 5) (by decide +kernel)
theorem dX12_carry_28 : decode cX12_carry 28 = .ok (.aload_n 0, 1) := od_42  (by decide +kernel)
theorem dX12_carry_29 : decode cX12_carry 29 = .ok (.iload 4, 2) := od_21 (n := 4) (by decide +kernel)
theorem dX12_carry_31 : decode cX12_carry 31 = .ok (.invokevirtual 231, 3) := od_182 (a := 0) (b := 231) (by decide +kernel) (by decide)
theorem dX12_carry_34 : decode cX12_carry 34 = .ok (.if_icmp .le 5, 3) := od_164 (a := 0) (b := 5) (by decide +kernel) (by decide +kernel)
theorem dX12_carry_37 : decode cX12_carry 37 = .ok (.iconst 0, 1) := od_3  (by decide +kernel)
theorem dX12_carry_38 : decode cX12_carry 38 = .ok (.ireturn, 1) := od_172  (by decide +kernel)
theorem dX12_carry_39 : decode cX12_carry 39 = .ok (.aload_n 0, 1) := od_42  (by decide +kernel)
theorem dX12_carry_40 : decode cX12_carry 40 = .ok (.getfield 7, 3) := od_180 (a := 0) (b := 7) (by decide +kernel) (by decide)
theorem dX12_carry_43 : decode cX12_carry 43 = .ok (.aload_n 0, 1) := od_42  (by decide +kernel)
theorem dX12_carry_44 : decode cX12_carry 44 = .ok (.getfield 7, 3) := od_180 (a := 0) (b := 7) (by decide +kernel) (by decide)
theorem dX12_carry_47 : decode cX12_carry 47 = .ok (.iload_n 3, 1) := od_29  (by decide +kernel)
theorem dX12_carry_48 : decode cX12_carry 48 = .ok (.iaload, 1) := od_46  (by decide +kernel)
theorem dX12_carry_49 : decode cX12_carry 49 = .ok (.invokestatic 115, 3) := od_184 (a := 0) (b := 115) (by decide +kernel) (by decide)
theorem dX12_carry_52 : decode cX12_carry 52 = .ok (.iconst 2, 1) := od_5  (by decide +kernel)
theorem dX12_carry_53 : decode cX12_carry 53 = .ok (.iadd, 1) := od_96  (by decide +kernel)
theorem dX12_carry_54 : decode cX12_carry 54 = .ok (.iaload, 1) := od_46  (by decide +kernel)
theorem dX12_carry_55 : decode cX12_carry 55 = .ok (.istore 6, 2) := od_54 (n := 6) (by decide +kernel)
theorem dX12_carry_57 : decode cX12_carry 57 = .ok (.aload_n 0, 1) := od_42  (by decide +kernel)
theorem dX12_carry_58 : decode cX12_carry 58 = .ok (.aload_n 0, 1) := od_42  (by decide +kernel)
theorem dX12_carry_59 : decode cX12_carry 59 = .ok (.getfield 7, 3) := od_180 (a := 0) (b := 7) (by decide +kernel) (by decide)
theorem dX12_carry_62 : decode cX12_carry 62 = .ok (.iload_n 3, 1) := od_29  (by decide +kernel)
theorem dX12_carry_63 : decode cX12_carry 63 = .ok (.iaload, 1) := od_46  (by decide +kernel)
theorem dX12_carry_64 : decode cX12_carry 64 = .ok (.aload_n 0, 1) := od_42  (by decide +kernel)
theorem dX12_carry_65 : decode cX12_carry 65 = .ok (.getfield 7, 3) := od_180 (a := 0) (b := 7) (by decide +kernel) (by decide)
theorem dX12_carry_68 : decode cX12_carry 68 = .ok (.iload_n 3, 1) := od_29  (by decide +kernel)
theorem dX12_carry_69 : decode cX12_carry 69 = .ok (.iconst 2, 1) := od_5  (by decide +kernel)
theorem dX12_carry_70 : decode cX12_carry 70 = .ok (.iadd, 1) := od_96  (by decide +kernel)
theorem dX12_carry_71 : decode cX12_carry 71 = .ok (.iaload, 1) := od_46  (by decide +kernel)
theorem dX12_carry_72 : decode cX12_carry 72 = .ok (.aload_n 0, 1) := od_42  (by decide +kernel)
theorem dX12_carry_73 : decode cX12_carry 73 = .ok (.getfield 7, 3) := od_180 (a := 0) (b := 7) (by decide +kernel) (by decide)
theorem dX12_carry_76 : decode cX12_carry 76 = .ok (.iload_n 3, 1) := od_29  (by decide +kernel)
theorem dX12_carry_77 : decode cX12_carry 77 = .ok (.iconst 3, 1) := od_6  (by decide +kernel)
theorem dX12_carry_78 : decode cX12_carry 78 = .ok (.iadd, 1) := od_96  (by decide +kernel)
theorem dX12_carry_79 : decode cX12_carry 79 = .ok (.iaload, 1) := od_46  (by decide +kernel)
theorem dX12_carry_80 : decode cX12_carry 80 = .ok (.iload 5, 2) := od_21 (n := 5) (by decide +kernel)
theorem dX12_carry_82 : decode cX12_carry 82 = .ok (.iload 6, 2) := od_21 (n := 6) (by decide +kernel)
theorem dX12_carry_84 : decode cX12_carry 84 = .ok (.iadd, 1) := od_96  (by decide +kernel)
theorem dX12_carry_85 : decode cX12_carry 85 = .ok (.iconst 1, 1) := od_4  (by decide +kernel)
theorem dX12_carry_86 : decode cX12_carry 86 = .ok (.isub, 1) := od_100  (by decide +kernel)
theorem dX12_carry_87 : decode cX12_carry 87 = .ok (.iload 6, 2) := od_21 (n := 6) (by decide +kernel)
theorem dX12_carry_89 : decode cX12_carry 89 = .ok (.idiv, 1) := od_108  (by decide +kernel)
theorem dX12_carry_90 : decode cX12_carry 90 = .ok (.invokevirtual 512, 3) := od_182 (a := 2) (b := 0) (by decide +kernel) (by decide)
theorem dX12_carry_93 : decode cX12_carry 93 = .ok (.istore 7, 2) := od_54 (n := 7) (by decide +kernel)
theorem dX12_carry_95 : decode cX12_carry 95 = .ok (.aload_n 0, 1) := od_42  (by decide +kernel)
theorem dX12_carry_96 : decode cX12_carry 96 = .ok (.getfield 55, 3) := od_180 (a := 0) (b := 55) (by decide +kernel) (by decide)
theorem dX12_carry_99 : decode cX12_carry 99 = .ok (.iload_n 2, 1) := od_28  (by decide +kernel)
theorem dX12_carry_100 : decode cX12_carry 100 = .ok (.aload_n 0, 1) := od_42  (by decide +kernel)
theorem dX12_carry_101 : decode cX12_carry 101 = .ok (.getfield 506, 3) := od_180 (a := 1) (b := 250) (by decide +kernel) (by decide)
theorem dX12_carry_104 : decode cX12_carry 104 = .ok (.iastore, 1) := od_79  (by decide +kernel)
theorem dX12_carry_105 : decode cX12_carry 105 = .ok (.iload 7, 2) := od_21 (n := 7) (by decide +kernel)
theorem dX12_carry_107 : decode cX12_carry 107 = .ok (.iconst (-1), 1) := od_2  (by decide +kernel)
theorem dX12_carry_108 : decode cX12_carry 108 = .ok (.if_icmp .ne 5, 3) := od_160 (a := 0) (b := 5) (by decide +kernel) (by decide +kernel)
theorem dX12_carry_111 : decode cX12_carry 111 = .ok (.iconst 0, 1) := od_3  (by decide +kernel)
theorem dX12_carry_112 : decode cX12_carry 112 = .ok (.ireturn, 1) := od_172  (by decide +kernel)
theorem dX12_carry_113 : decode cX12_carry 113 = .ok (.aload_n 0, 1) := od_42  (by decide +kernel)
theorem dX12_carry_114 : decode cX12_carry 114 = .ok (.getfield 7, 3) := od_180 (a := 0) (b := 7) (by decide +kernel) (by decide)
theorem dX12_carry_117 : decode cX12_carry 117 = .ok (.aload_n 0, 1) := od_42  (by decide +kernel)
theorem dX12_carry_118 : decode cX12_carry 118 = .ok (.getfield 7, 3) := od_180 (a := 0) (b := 7) (by decide +kernel) (by decide)
theorem dX12_carry_121 : decode cX12_carry 121 = .ok (.iload_n 3, 1) := od_29  (by decide +kernel)
theorem dX12_carry_122 : decode cX12_carry 122 = .ok (.iconst 1, 1) := od_4  (by decide +kernel)
theorem dX12_carry_123 : decode cX12_carry 123 = .ok (.iadd, 1) := od_96  (by decide +kernel)
theorem dX12_carry_124 : decode cX12_carry 124 = .ok (.iaload, 1) := od_46  (by decide +kernel)
theorem dX12_carry_125 : decode cX12_carry 125 = .ok (.invokestatic 115, 3) := od_184 (a := 0) (b := 115) (by decide +kernel) (by decide)
theorem dX12_carry_128 : decode cX12_carry 128 = .ok (.iconst 2, 1) := od_5  (by decide +kernel)
theorem dX12_carry_129 : decode cX12_carry 129 = .ok (.iadd, 1) := od_96  (by decide +kernel)
theorem dX12_carry_130 : decode cX12_carry 130 = .ok (.iaload, 1) := od_46  (by decide +kernel)
theorem dX12_carry_131 : decode cX12_carry 131 = .ok (.istore 8, 2) := od_54 (n := 8) (by decide +kernel)
theorem dX12_carry_133 : decode cX12_carry 133 = .ok (.aload_n 0, 1) := od_42  (by decide +kernel)
theorem dX12_carry_134 : decode cX12_carry 134 = .ok (.aload_n 0, 1) := od_42  (by decide +kernel)
theorem dX12_carry_135 : decode cX12_carry 135 = .ok (.getfield 7, 3) := od_180 (a := 0) (b := 7) (by decide +kernel) (by decide)
theorem dX12_carry_138 : decode cX12_carry 138 = .ok (.iload_n 3, 1) := od_29  (by decide +kernel)
theorem dX12_carry_139 : decode cX12_carry 139 = .ok (.iconst 1, 1) := od_4  (by decide +kernel)
theorem dX12_carry_140 : decode cX12_carry 140 = .ok (.iadd, 1) := od_96  (by decide +kernel)
theorem dX12_carry_141 : decode cX12_carry 141 = .ok (.iaload, 1) := od_46  (by decide +kernel)
theorem dX12_carry_142 : decode cX12_carry 142 = .ok (.aload_n 0, 1) := od_42  (by decide +kernel)
theorem dX12_carry_143 : decode cX12_carry 143 = .ok (.getfield 7, 3) := od_180 (a := 0) (b := 7) (by decide +kernel) (by decide)
theorem dX12_carry_146 : decode cX12_carry 146 = .ok (.iload_n 3, 1) := od_29  (by decide +kernel)
theorem dX12_carry_147 : decode cX12_carry 147 = .ok (.iconst 4, 1) := od_7  (by decide +kernel)
theorem dX12_carry_148 : decode cX12_carry 148 = .ok (.iadd, 1) := od_96  (by decide +kernel)
theorem dX12_carry_149 : decode cX12_carry 149 = .ok (.iaload, 1) := od_46  (by decide +kernel)
theorem dX12_carry_150 : decode cX12_carry 150 = .ok (.aload_n 0, 1) := od_42  (by decide +kernel)
theorem dX12_carry_151 : decode cX12_carry 151 = .ok (.getfield 7, 3) := od_180 (a := 0) (b := 7) (by decide +kernel) (by decide)
theorem dX12_carry_154 : decode cX12_carry 154 = .ok (.iload_n 3, 1) := od_29  (by decide +kernel)
theorem dX12_carry_155 : decode cX12_carry 155 = .ok (.iconst 5, 1) := od_8  (by decide +kernel)
theorem dX12_carry_156 : decode cX12_carry 156 = .ok (.iadd, 1) := od_96  (by decide +kernel)
theorem dX12_carry_157 : decode cX12_carry 157 = .ok (.iaload, 1) := od_46  (by decide +kernel)
theorem dX12_carry_158 : decode cX12_carry 158 = .ok (.iload 5, 2) := od_21 (n := 5) (by decide +kernel)
theorem dX12_carry_160 : decode cX12_carry 160 = .ok (.iload 8, 2) := od_21 (n := 8) (by decide +kernel)
theorem dX12_carry_162 : decode cX12_carry 162 = .ok (.iadd, 1) := od_96  (by decide +kernel)
theorem dX12_carry_163 : decode cX12_carry 163 = .ok (.iconst 1, 1) := od_4  (by decide +kernel)
theorem dX12_carry_164 : decode cX12_carry 164 = .ok (.isub, 1) := od_100  (by decide +kernel)
theorem dX12_carry_165 : decode cX12_carry 165 = .ok (.iload 8, 2) := od_21 (n := 8) (by decide +kernel)
theorem dX12_carry_167 : decode cX12_carry 167 = .ok (.idiv, 1) := od_108  (by decide +kernel)
theorem dX12_carry_168 : decode cX12_carry 168 = .ok (.invokevirtual 512, 3) := od_182 (a := 2) (b := 0) (by decide +kernel) (by decide)
theorem dX12_carry_171 : decode cX12_carry 171 = .ok (.istore 9, 2) := od_54 (n := 9) (by decide +kernel)
theorem dX12_carry_173 : decode cX12_carry 173 = .ok (.aload_n 0, 1) := od_42  (by decide +kernel)
theorem dX12_carry_174 : decode cX12_carry 174 = .ok (.getfield 58, 3) := od_180 (a := 0) (b := 58) (by decide +kernel) (by decide)
theorem dX12_carry_177 : decode cX12_carry 177 = .ok (.iload_n 2, 1) := od_28  (by decide +kernel)
theorem dX12_carry_178 : decode cX12_carry 178 = .ok (.aload_n 0, 1) := od_42  (by decide +kernel)
theorem dX12_carry_179 : decode cX12_carry 179 = .ok (.getfield 506, 3) := od_180 (a := 1) (b := 250) (by decide +kernel) (by decide)
theorem dX12_carry_182 : decode cX12_carry 182 = .ok (.iastore, 1) := od_79  (by decide +kernel)
theorem dX12_carry_183 : decode cX12_carry 183 = .ok (.iload 9, 2) := od_21 (n := 9) (by decide +kernel)
theorem dX12_carry_185 : decode cX12_carry 185 = .ok (.iconst (-1), 1) := od_2  (by decide +kernel)
theorem dX12_carry_186 : decode cX12_carry 186 = .ok (.if_icmp .ne 5, 3) := od_160 (a := 0) (b := 5) (by decide +kernel) (by decide +kernel)
theorem dX12_carry_189 : decode cX12_carry 189 = .ok (.iconst 0, 1) := od_3  (by decide +kernel)
theorem dX12_carry_190 : decode cX12_carry 190 = .ok (.ireturn, 1) := od_172  (by decide +kernel)
theorem dX12_carry_191 : decode cX12_carry 191 = .ok (.iload 5, 2) := od_21 (n := 5) (by decide +kernel)
theorem dX12_carry_193 : decode cX12_carry 193 = .ok (.i2l, 1) := od_133  (by decide +kernel)
theorem dX12_carry_194 : decode cX12_carry 194 = .ok (.aload_n 0, 1) := od_42  (by decide +kernel)
theorem dX12_carry_195 : decode cX12_carry 195 = .ok (.getfield 58, 3) := od_180 (a := 0) (b := 58) (by decide +kernel) (by decide)
theorem dX12_carry_198 : decode cX12_carry 198 = .ok (.iload_n 2, 1) := od_28  (by decide +kernel)
theorem dX12_carry_199 : decode cX12_carry 199 = .ok (.iaload, 1) := od_46  (by decide +kernel)
theorem dX12_carry_200 : decode cX12_carry 200 = .ok (.aload_n 0, 1) := od_42  (by decide +kernel)
theorem dX12_carry_201 : decode cX12_carry 201 = .ok (.getfield 55, 3) := od_180 (a := 0) (b := 55) (by decide +kernel) (by decide)
theorem dX12_carry_204 : decode cX12_carry 204 = .ok (.iload_n 2, 1) := od_28  (by decide +kernel)
theorem dX12_carry_205 : decode cX12_carry 205 = .ok (.iaload, 1) := od_46  (by decide +kernel)
theorem dX12_carry_206 : decode cX12_carry 206 = .ok (.isub, 1) := od_100  (by decide +kernel)
theorem dX12_carry_207 : decode cX12_carry 207 = .ok (.i2l, 1) := od_133  (by decide +kernel)
theorem dX12_carry_208 : decode cX12_carry 208 = .ok (.lmul, 1) := od_105  (by decide +kernel)
theorem dX12_carry_209 : decode cX12_carry 209 = .ok (.aload_n 0, 1) := od_42  (by decide +kernel)
theorem dX12_carry_210 : decode cX12_carry 210 = .ok (.getfield 7, 3) := od_180 (a := 0) (b := 7) (by decide +kernel) (by decide)
theorem dX12_carry_213 : decode cX12_carry 213 = .ok (.bipush 12, 2) := od_16 (a := 12) (by decide +kernel) (by decide +kernel)
theorem dX12_carry_215 : decode cX12_carry 215 = .ok (.iaload, 1) := od_46  (by decide +kernel)
theorem dX12_carry_216 : decode cX12_carry 216 = .ok (.i2l, 1) := od_133  (by decide +kernel)
theorem dX12_carry_217 : decode cX12_carry 217 = .ok (.lmul, 1) := od_105  (by decide +kernel)
theorem dX12_carry_218 : decode cX12_carry 218 = .ok (.ldc2_w 177, 3) := od_20 (a := 0) (b := 177) (by decide +kernel) (by decide)
theorem dX12_carry_221 : decode cX12_carry 221 = .ok (.ldiv, 1) := od_109  (by decide +kernel)
theorem dX12_carry_222 : decode cX12_carry 222 = .ok (.lstore 10, 2) := od_55 (n := 10) (by decide +kernel)
theorem dX12_carry_224 : decode cX12_carry 224 = .ok (.lload 10, 2) := od_22 (n := 10) (by decide +kernel)
theorem dX12_carry_226 : decode cX12_carry 226 = .ok (.iload 5, 2) := od_21 (n := 5) (by decide +kernel)
theorem dX12_carry_228 : decode cX12_carry 228 = .ok (.i2l, 1) := od_133  (by decide +kernel)
theorem dX12_carry_229 : decode cX12_carry 229 = .ok (.lcmp, 1) := od_148  (by decide +kernel)
theorem dX12_carry_230 : decode cX12_carry 230 = .ok (.ifCond .le 9, 3) := od_158 (a := 0) (b := 9) (by decide +kernel) (by decide +kernel)
theorem dX12_carry_233 : decode cX12_carry 233 = .ok (.iload 5, 2) := od_21 (n := 5) (by decide +kernel)
theorem dX12_carry_235 : decode cX12_carry 235 = .ok (.i2l, 1) := od_133  (by decide +kernel)
theorem dX12_carry_236 : decode cX12_carry 236 = .ok (.goto 5, 3) := od_167 (a := 0) (b := 5) (by decide +kernel) (by decide +kernel)
theorem dX12_carry_239 : decode cX12_carry 239 = .ok (.lload 10, 2) := od_22 (n := 10) (by decide +kernel)
theorem dX12_carry_241 : decode cX12_carry 241 = .ok (.lstore 10, 2) := od_55 (n := 10) (by decide +kernel)
theorem dX12_carry_243 : decode cX12_carry 243 = .ok (.aload_n 0, 1) := od_42  (by decide +kernel)
theorem dX12_carry_244 : decode cX12_carry 244 = .ok (.getfield 61, 3) := od_180 (a := 0) (b := 61) (by decide +kernel) (by decide)
theorem dX12_carry_247 : decode cX12_carry 247 = .ok (.iload_n 2, 1) := od_28  (by decide +kernel)
theorem dX12_carry_248 : decode cX12_carry 248 = .ok (.iload 5, 2) := od_21 (n := 5) (by decide +kernel)
theorem dX12_carry_250 : decode cX12_carry 250 = .ok (.i2l, 1) := od_133  (by decide +kernel)
theorem dX12_carry_251 : decode cX12_carry 251 = .ok (.lload 10, 2) := od_22 (n := 10) (by decide +kernel)
theorem dX12_carry_253 : decode cX12_carry 253 = .ok (.lsub, 1) := od_101  (by decide +kernel)
theorem dX12_carry_254 : decode cX12_carry 254 = .ok (.aload_n 0, 1) := od_42  (by decide +kernel)
theorem dX12_carry_255 : decode cX12_carry 255 = .ok (.getfield 7, 3) := od_180 (a := 0) (b := 7) (by decide +kernel) (by decide)
theorem dX12_carry_258 : decode cX12_carry 258 = .ok (.iload_n 3, 1) := od_29  (by decide +kernel)
theorem dX12_carry_259 : decode cX12_carry 259 = .ok (.bipush 7, 2) := od_16 (a := 7) (by decide +kernel) (by decide +kernel)
theorem dX12_carry_261 : decode cX12_carry 261 = .ok (.iadd, 1) := od_96  (by decide +kernel)
theorem dX12_carry_262 : decode cX12_carry 262 = .ok (.iaload, 1) := od_46  (by decide +kernel)
theorem dX12_carry_263 : decode cX12_carry 263 = .ok (.i2l, 1) := od_133  (by decide +kernel)
theorem dX12_carry_264 : decode cX12_carry 264 = .ok (.lmul, 1) := od_105  (by decide +kernel)
theorem dX12_carry_265 : decode cX12_carry 265 = .ok (.ldc2_w 150, 3) := od_20 (a := 0) (b := 150) (by decide +kernel) (by decide)
theorem dX12_carry_268 : decode cX12_carry 268 = .ok (.aload_n 0, 1) := od_42  (by decide +kernel)
theorem dX12_carry_269 : decode cX12_carry 269 = .ok (.getfield 7, 3) := od_180 (a := 0) (b := 7) (by decide +kernel) (by decide)
theorem dX12_carry_272 : decode cX12_carry 272 = .ok (.iload 4, 2) := od_21 (n := 4) (by decide +kernel)
theorem dX12_carry_274 : decode cX12_carry 274 = .ok (.bipush 8, 2) := od_16 (a := 8) (by decide +kernel) (by decide +kernel)
theorem dX12_carry_276 : decode cX12_carry 276 = .ok (.iadd, 1) := od_96  (by decide +kernel)
theorem dX12_carry_277 : decode cX12_carry 277 = .ok (.iaload, 1) := od_46  (by decide +kernel)
theorem dX12_carry_278 : decode cX12_carry 278 = .ok (.i2l, 1) := od_133  (by decide +kernel)
theorem dX12_carry_279 : decode cX12_carry 279 = .ok (.lmul, 1) := od_105  (by decide +kernel)
theorem dX12_carry_280 : decode cX12_carry 280 = .ok (.iload 7, 2) := od_21 (n := 7) (by decide +kernel)
theorem dX12_carry_282 : decode cX12_carry 282 = .ok (.iload 9, 2) := od_21 (n := 9) (by decide +kernel)
theorem dX12_carry_284 : decode cX12_carry 284 = .ok (.iadd, 1) := od_96  (by decide +kernel)
theorem dX12_carry_285 : decode cX12_carry 285 = .ok (.i2l, 1) := od_133  (by decide +kernel)
theorem dX12_carry_286 : decode cX12_carry 286 = .ok (.lmul, 1) := od_105  (by decide +kernel)
theorem dX12_carry_287 : decode cX12_carry 287 = .ok (.lsub, 1) := od_101  (by decide +kernel)
theorem dX12_carry_288 : decode cX12_carry 288 = .ok (.lastore, 1) := od_80  (by decide +kernel)
theorem dX12_carry_289 : decode cX12_carry 289 = .ok (.iconst 1, 1) := od_4  (by decide +kernel)
theorem dX12_carry_290 : decode cX12_carry 290 = .ok (.ireturn, 1) := od_172  (by decide +kernel)
theorem gX12_sailRow_X12_shipAt : GoodIn WALL (va_wsS RX12 132 yX12_shipAt wqX12_shipAt) := wg_S wa_278 wa_279 wa_5 wa_280
theorem gX12_sailRow_X12_carry : GoodIn WALL (wsV RX12 516 RX12 yX12_carry wqX12_carry) := wg_V wa_1430 wa_1431 wa_1432 wa_5 wa_1433
theorem dX12_sailRow_0 : decode cX12_sailRow 0 = .ok (.aload_n 0, 1) := od_42  (by decide +kernel)
theorem dX12_sailRow_1 : decode cX12_sailRow 1 = .ok (.iload_n 3, 1) := od_29  (by decide +kernel)
theorem dX12_sailRow_2 : decode cX12_sailRow 2 = .ok (.putfield 500, 3) := od_181 (a := 1) (b := 244) (by decide +kernel) (by decide)
theorem dX12_sailRow_5 : decode cX12_sailRow 5 = .ok (.aload_n 0, 1) := od_42  (by decide +kernel)
theorem dX12_sailRow_6 : decode cX12_sailRow 6 = .ok (.aload_n 0, 1) := od_42  (by decide +kernel)
theorem dX12_sailRow_7 : decode cX12_sailRow 7 = .ok (.getfield 7, 3) := od_180 (a := 0) (b := 7) (by decide +kernel) (by decide)
theorem dX12_sailRow_10 : decode cX12_sailRow 10 = .ok (.iload_n 1, 1) := od_27  (by decide +kernel)
theorem dX12_sailRow_11 : decode cX12_sailRow 11 = .ok (.invokestatic 132, 3) := od_184 (a := 0) (b := 132) (by decide +kernel) (by decide)
theorem dX12_sailRow_14 : decode cX12_sailRow 14 = .ok (.iconst 0, 1) := od_3  (by decide +kernel)
theorem dX12_sailRow_15 : decode cX12_sailRow 15 = .ok (.iadd, 1) := od_96  (by decide +kernel)
theorem dX12_sailRow_16 : decode cX12_sailRow 16 = .ok (.iaload, 1) := od_46  (by decide +kernel)
theorem dX12_sailRow_17 : decode cX12_sailRow 17 = .ok (.putfield 503, 3) := od_181 (a := 1) (b := 247) (by decide +kernel) (by decide)
theorem dX12_sailRow_20 : decode cX12_sailRow 20 = .ok (.lconst 0, 1) := od_9  (by decide +kernel)
theorem dX12_sailRow_21 : decode cX12_sailRow 21 = .ok (.lstore 4, 2) := od_55 (n := 4) (by decide +kernel)
theorem dX12_sailRow_23 : decode cX12_sailRow 23 = .ok (.iconst 0, 1) := od_3  (by decide +kernel)
theorem dX12_sailRow_24 : decode cX12_sailRow 24 = .ok (.istore 6, 2) := od_54 (n := 6) (by decide +kernel)
theorem dX12_sailRow_26 : decode cX12_sailRow 26 = .ok (.iload 6, 2) := od_21 (n := 6) (by decide +kernel)
theorem dX12_sailRow_28 : decode cX12_sailRow 28 = .ok (.iload_n 2, 1) := od_28  (by decide +kernel)
theorem dX12_sailRow_29 : decode cX12_sailRow 29 = .ok (.if_icmp .ge 45, 3) := od_162 (a := 0) (b := 45) (by decide +kernel) (by decide +kernel)
theorem dX12_sailRow_32 : decode cX12_sailRow 32 = .ok (.aload_n 0, 1) := od_42  (by decide +kernel)
theorem dX12_sailRow_33 : decode cX12_sailRow 33 = .ok (.iload_n 1, 1) := od_27  (by decide +kernel)
theorem dX12_sailRow_34 : decode cX12_sailRow 34 = .ok (.aload_n 0, 1) := od_42  (by decide +kernel)
theorem dX12_sailRow_35 : decode cX12_sailRow 35 = .ok (.getfield 64, 3) := od_180 (a := 0) (b := 64) (by decide +kernel) (by decide)
theorem dX12_sailRow_38 : decode cX12_sailRow 38 = .ok (.iload 6, 2) := od_21 (n := 6) (by decide +kernel)
theorem dX12_sailRow_40 : decode cX12_sailRow 40 = .ok (.iaload, 1) := od_46  (by decide +kernel)
theorem dX12_sailRow_41 : decode cX12_sailRow 41 = .ok (.invokevirtual 516, 3) := od_182 (a := 2) (b := 4) (by decide +kernel) (by decide)
theorem dX12_sailRow_44 : decode cX12_sailRow 44 = .ok (.ifCond .ne 7, 3) := od_154 (a := 0) (b := 7) (by decide +kernel) (by decide +kernel)
theorem dX12_sailRow_47 : decode cX12_sailRow 47 = .ok (.ldc2_w 466, 3) := od_20 (a := 1) (b := 210) (by decide +kernel) (by decide)
theorem dX12_sailRow_50 : decode cX12_sailRow 50 = .ok (.lreturn, 1) := od_173  (by decide +kernel)
theorem dX12_sailRow_51 : decode cX12_sailRow 51 = .ok (.lload 4, 2) := od_22 (n := 4) (by decide +kernel)
theorem dX12_sailRow_53 : decode cX12_sailRow 53 = .ok (.aload_n 0, 1) := od_42  (by decide +kernel)
theorem dX12_sailRow_54 : decode cX12_sailRow 54 = .ok (.getfield 61, 3) := od_180 (a := 0) (b := 61) (by decide +kernel) (by decide)
theorem dX12_sailRow_57 : decode cX12_sailRow 57 = .ok (.aload_n 0, 1) := od_42  (by decide +kernel)
theorem dX12_sailRow_58 : decode cX12_sailRow 58 = .ok (.getfield 64, 3) := od_180 (a := 0) (b := 64) (by decide +kernel) (by decide)
theorem dX12_sailRow_61 : decode cX12_sailRow 61 = .ok (.iload 6, 2) := od_21 (n := 6) (by decide +kernel)
theorem dX12_sailRow_63 : decode cX12_sailRow 63 = .ok (.iaload, 1) := od_46  (by decide +kernel)
theorem dX12_sailRow_64 : decode cX12_sailRow 64 = .ok (.laload, 1) := od_47  (by decide +kernel)
theorem dX12_sailRow_65 : decode cX12_sailRow 65 = .ok (.ladd, 1) := od_97  (by decide +kernel)
theorem dX12_sailRow_66 : decode cX12_sailRow 66 = .ok (.lstore 4, 2) := od_55 (n := 4) (by decide +kernel)
theorem dX12_sailRow_68 : decode cX12_sailRow 68 = .ok (.iinc 6 1, 3) := od_132 (a := 6) (b := 1) (by decide +kernel) (by decide +kernel)
theorem dX12_sailRow_71 : decode cX12_sailRow 71 = .ok (.goto (-45), 3) := od_167 (a := 255) (b := 211) (by decide +kernel) (by decide +kernel)
theorem dX12_sailRow_74 : decode cX12_sailRow 74 = .ok (.lload 4, 2) := od_22 (n := 4) (by decide +kernel)
theorem dX12_sailRow_76 : decode cX12_sailRow 76 = .ok (.lreturn, 1) := od_173  (by decide +kernel)
end
