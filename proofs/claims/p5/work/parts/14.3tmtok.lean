set_option maxHeartbeats 4000000 in
set_option maxRecDepth 100000 in
theorem t_X12_push (l : Launch) (dC : Nat → ClassId) (dI : Nat → Nat → Nat) (sz : Nat) (κ : Nat → ClassId) (τ ν : Nat → Nat) (ρ : Nat → Nat → Nat) (L : List Nat) (f : Nat → va_E) (hG : tp_G τ ν ρ L) (hT : tp_T (mo_O κ) κ τ ν ρ f) (h0 : Nat) (v : Int32) (u : Int32) (ht_h0 : τ h0 = 13) (h28 : (tp_fld (f h0) 28) < 400) : Met l yX12_push wqX12_push ({ frames := 2, cells := 0, slots := 0, locals := 400 }) (va_Pc [.ref h0, .int v, .int u] (pz_B dC dI (tp_K κ) (va_pl L f) sz)) (va_Qv (fun (f1 : Nat → va_E) => tp_T (mo_O κ) κ τ ν ρ f1 ∧ tp_F τ [13, 56, 57] f f1 ∧ mo_U (mo_R (mo_i (f (ρ h0 26)))) (mo_R (mo_i (f1 (ρ h0 26)))) (tp_fld (f h0) 28) v.toInt ∧ mo_U (mo_R (mo_i (f (ρ h0 27)))) (mo_R (mo_i (f1 (ρ h0 27)))) (tp_fld (f h0) 28) u.toInt ∧ (tp_fld (f1 h0) 28) = (tp_fld (f h0) 28) + 1 ∧ (tp_fld (f1 h0) 9) = (tp_fld (f h0) 9) ∧ (tp_fld (f1 h0) 10) = (tp_fld (f h0) 10) ∧ (tp_fld (f1 h0) 11) = (tp_fld (f h0) 11) ∧ (tp_fld (f1 h0) 12) = (tp_fld (f h0) 12) ∧ (mo_fj (f1 h0) 13) = (mo_fj (f h0) 13) ∧ (tp_fld (f1 h0) 15) = (tp_fld (f h0) 15) ∧ (tp_fld (f1 h0) 19) = (tp_fld (f h0) 19) ∧ (tp_fld (f1 h0) 20) = (tp_fld (f h0) 20) ∧ (tp_fld (f1 h0) 22) = (tp_fld (f h0) 22)) (fun (f1 : Nat → va_E) (t : State) => pz_E dC dI (tp_K κ) (va_A (va_pl L f) sz) (va_pl L f1) t) (va_A (va_pl L f) sz)) 0 0 (va_A (va_pl L f) sz) := by
  refine Met.ofW (cc := cX12_push) (maxL := 3) (ret := none) (by decide) rfl ?_
  intro p e s m args below meth c s₁ B hml hv
  obtain ⟨rfl, hsz, hP, hK, hD0, hN⟩ := hv
  have hx := B.exec
  have hb := B.bytes
  have hr := B.returns
  have hts := fun (w : Cond) (h : w ∈ WALL) => atoms_spec (ws := wqX12_push) B.pre w (List.mem_cons_of_mem _ h)
  have hown : s.vm.findClass RX12 = some m.cls := findClass_of_methodNamed B.named
  have hlocks := B.notSynchronized
  subst hsz
  have hD := hD0.self (sz := s.heap.size)
  generalize hAe : va_A (va_pl L f) s.heap.size = A at hD ⊢
  have hA : ∀ q : Nat, s.heap.size ≤ q → A q := fun q h => by rw [← hAe]; exact Or.inr h
  have hS : va_S A s.heap s.heap [] := va_S.rf
  have hR : tp_F τ [13, 56, 57] f f := tp_F.rf
  have hl := lv_entry ([.ref h0, .int v, .int u]) (n := 3) (Nat.le_of_ble_eq_true rfl)
  rw [lg_entry_eq]
  generalize (lg_sl ([.ref h0, .int v, .int u]) ++ List.replicate (3 - (lg_sl ([.ref h0, .int v, .int u])).length) Slot.unset).toArray = ls at hl ⊢
  have hl : lv_has ls 3 [(0, .ref h0), (1, .int v), (2, .int u)] := hl
  refine tgk_13 hG ht_h0 (fun y1 y2 y3 y4 y5 y6 y7 y8 y9 y10 y11 y12 y13 y14 y15 y16 y17 y18 y19 y20 y21 y22 y23 y24 y25 => ?_)
  refine tpk_56 hT y10 (fun g27 hf_o26 => ?_)
  have tf28 : mo_hd (mo_i (f (ρ h0 26)) = g27) := tfa_i hf_o26
  refine tpk_57 hT y11 (fun g30 hf_o29 => ?_)
  have tf31 : mo_hd (mo_i (f (ρ h0 27)) = g30) := tfa_i hf_o29
  refine tpk_13 hT ht_h0 (fun o32_x0 o32_x1 o32_x7 o32_x9 o32_x10 o32_x11 o32_x12 o32_x13 o32_x14 o32_x15 o32_x16 o32_x17 o32_x18 o32_x19 o32_x20 o32_x22 o32_x25 o32_x28 o32_x29 o32_x32 o32_x33 o32_x34 o32_x35 o32_x36 o32_x37 o32_x38 o32_x47 o32_x48 hf_o32 ro32_0 ro32_1 ro32_2 ro32_3 ro32_4 ro32_5 ro32_6 ro32_7 ro32_8 ro32_9 ro32_10 ro32_11 ro32_12 ro32_13 => ?_)
  have tf33 : mo_hd (tp_fld (f h0) 9 = o32_x9.toInt) := tff_9 hf_o32
  have tf34 : mo_hd (tp_fld (f h0) 10 = o32_x10.toInt) := tff_10 hf_o32
  have tf35 : mo_hd (tp_fld (f h0) 11 = o32_x11.toInt) := tff_11 hf_o32
  have tf36 : mo_hd (tp_fld (f h0) 12 = o32_x12.toInt) := tff_12 hf_o32
  have tf37 : mo_hd (tp_fld (f h0) 15 = o32_x15.toInt) := tff_15 hf_o32
  have tf38 : mo_hd (tp_fld (f h0) 19 = o32_x19.toInt) := tff_19 hf_o32
  have tf39 : mo_hd (tp_fld (f h0) 20 = o32_x20.toInt) := tff_20 hf_o32
  have tf40 : mo_hd (tp_fld (f h0) 22 = o32_x22.toInt) := tff_22 hf_o32
  have tf41 : mo_hd (tp_fld (f h0) 28 = o32_x28.toInt) := tff_28 hf_o32
  have tf42 : mo_hd (mo_fj (f h0) 13 = o32_x13.toInt) := tff_13 hf_o32
  replace h28 : o32_x28.toInt < 400 := by have q9 := h28; first | (simp only [(mo_un tf41), mo_i1, mo_l1] at q9; exact q9) | (rw [(mo_un tf41)] at q9; exact q9)
  refine lv_aload_n hx hb dX12_push_0 rfl (lv_at hl 0 rfl) ?_
  refine tpk_pos (tp_in hG ht_h0 (by decide)) hf_o32 (fun q43 eq43 => ?_)
  refine va_get (D := (dC, dI)) (ci := 12) (v := .ref (ρ h0 26)) (C := RX12) (T := TX12) (N := 53) hx hb hts hfX12 hown hK hP q43 eq43 rfl 26 (by decide) (hts (.fieldLink RX12 43 "ColdShipsModel" "pile" "[I") wa_159) (fun _ h9 => h9) rfl dX12_push_1 ?_
  refine lv_aload_n hx hb dX12_push_4 rfl (lv_at hl 0 rfl) ?_
  refine va_get (D := (dC, dI)) (ci := 12) (v := .int o32_x28) (C := RX12) (T := TX12) (N := 53) hx hb hts hfX12 hown hK hP q43 eq43 rfl 28 (by decide) (hts (.fieldLink RX12 300 "ColdShipsModel" "piled" "I") wa_1045) (fun _ h9 => h9) rfl dX12_push_5 ?_
  refine lv_iload_n hx hb dX12_push_8 rfl (lv_at hl 1 rfl) ?_
  refine tpk_pos (tp_in hG y10 (by decide)) hf_o26 (fun q44 eq44 => ?_)
  refine va_iast hx hb hK hP hD hS q44 0 eq44 rfl (vp_in_iff.mpr ⟨by omega, by omega⟩) dX12_push_9 (tp_k (.inl (κ 0, 400, .inl (upd g27 o32_x28.toNatClampNeg v))) hD (tp_in hG y10 (by decide)) eq44 (fun f45 H locs hP hD hS g47 k46 => ?_))
  have hT := hT.up y10 g47 k46 tp_o56
  have hR := hR.up y10 (by decide) k46
  have hU49 : mo_U (mo_R g27) (mo_R (upd g27 o32_x28.toNatClampNeg v)) (o32_x28.toInt) (v.toInt) := mo_up (by omega) (rfl : v.toInt = _) (by omega)
  generalize (upd g27 o32_x28.toNatClampNeg v) = g48 at g47 hU49
  refine lv_aload_n hx hb dX12_push_10 rfl (lv_at hl 0 rfl) ?_
  have hf_50 : f45 h0 = .inr (12, [.int o32_x0, .int o32_x1, .ref (ρ h0 2), .ref (ρ h0 3), .ref (ρ h0 4), .ref (ρ h0 5), .ref (ρ h0 6), .int o32_x7, .ref (ρ h0 8), .int o32_x9, .int o32_x10, .int o32_x11, .int o32_x12, .long o32_x13, .int o32_x14, .int o32_x15, .int o32_x16, .int o32_x17, .int o32_x18, .int o32_x19, .int o32_x20, .ref (ρ h0 21), .int o32_x22, .ref (ρ h0 23), .ref (ρ h0 24), .int o32_x25, .ref (ρ h0 26), .ref (ρ h0 27), .int o32_x28, .int o32_x29, .ref (ρ h0 30), .ref (ρ h0 31), .int o32_x32, .long o32_x33, .long o32_x34, .long o32_x35, .int o32_x36, .int o32_x37, .int o32_x38, .ref (ρ h0 39), .ref (ρ h0 40), .ref (ρ h0 41), .ref (ρ h0 42), .ref (ρ h0 43), .ref (ρ h0 44), .ref (ρ h0 45), .ref (ρ h0 46), .int o32_x47, .int o32_x48, .ref (ρ h0 49), .ref (ρ h0 50), .ref (ρ h0 51), .ref (ρ h0 52)]) := (k46 _ (tp_ne ht_h0 y10 (by decide))).trans hf_o32
  refine tpk_pos (tp_in hG ht_h0 (by decide)) hf_50 (fun q51 eq51 => ?_)
  refine va_get (D := (dC, dI)) (ci := 12) (v := .ref (ρ h0 27)) (C := RX12) (T := TX12) (N := 53) hx hb hts hfX12 hown hK hP q51 eq51 rfl 27 (by decide) (hts (.fieldLink RX12 46 "ColdShipsModel" "pileAt" "[I") wa_160) (fun _ h9 => h9) rfl dX12_push_11 ?_
  refine lv_aload_n hx hb dX12_push_14 rfl (lv_at hl 0 rfl) ?_
  refine va_get (D := (dC, dI)) (ci := 12) (v := .int o32_x28) (C := RX12) (T := TX12) (N := 53) hx hb hts hfX12 hown hK hP q51 eq51 rfl 28 (by decide) (hts (.fieldLink RX12 300 "ColdShipsModel" "piled" "I") wa_1045) (fun _ h9 => h9) rfl dX12_push_15 ?_
  refine lv_iload_n hx hb dX12_push_18 rfl (lv_at hl 2 rfl) ?_
  have hf_52 : f45 (ρ h0 27) = .inl (κ 0, 400, .inl g30) := (k46 _ (tp_ne y11 y10 (by decide))).trans hf_o29
  refine tpk_pos (tp_in hG y11 (by decide)) hf_52 (fun q53 eq53 => ?_)
  refine va_iast hx hb hK hP hD hS q53 0 eq53 rfl (vp_in_iff.mpr ⟨by omega, by omega⟩) dX12_push_19 (tp_k (.inl (κ 0, 400, .inl (upd g30 o32_x28.toNatClampNeg u))) hD (tp_in hG y11 (by decide)) eq53 (fun f54 H locs hP hD hS g56 k55 => ?_))
  have hT := hT.up y11 g56 k55 tp_o57
  have hR := hR.up y11 (by decide) k55
  have hU58 : mo_U (mo_R g30) (mo_R (upd g30 o32_x28.toNatClampNeg u)) (o32_x28.toInt) (u.toInt) := mo_up (by omega) (rfl : u.toInt = _) (by omega)
  generalize (upd g30 o32_x28.toNatClampNeg u) = g57 at g56 hU58
  refine lv_aload_n hx hb dX12_push_20 rfl (lv_at hl 0 rfl) ?_
  refine lv_dup hx hb dX12_push_21 rfl ?_
  have hf_59 : f54 h0 = .inr (12, [.int o32_x0, .int o32_x1, .ref (ρ h0 2), .ref (ρ h0 3), .ref (ρ h0 4), .ref (ρ h0 5), .ref (ρ h0 6), .int o32_x7, .ref (ρ h0 8), .int o32_x9, .int o32_x10, .int o32_x11, .int o32_x12, .long o32_x13, .int o32_x14, .int o32_x15, .int o32_x16, .int o32_x17, .int o32_x18, .int o32_x19, .int o32_x20, .ref (ρ h0 21), .int o32_x22, .ref (ρ h0 23), .ref (ρ h0 24), .int o32_x25, .ref (ρ h0 26), .ref (ρ h0 27), .int o32_x28, .int o32_x29, .ref (ρ h0 30), .ref (ρ h0 31), .int o32_x32, .long o32_x33, .long o32_x34, .long o32_x35, .int o32_x36, .int o32_x37, .int o32_x38, .ref (ρ h0 39), .ref (ρ h0 40), .ref (ρ h0 41), .ref (ρ h0 42), .ref (ρ h0 43), .ref (ρ h0 44), .ref (ρ h0 45), .ref (ρ h0 46), .int o32_x47, .int o32_x48, .ref (ρ h0 49), .ref (ρ h0 50), .ref (ρ h0 51), .ref (ρ h0 52)]) := (k55 _ (tp_ne ht_h0 y11 (by decide))).trans hf_50
  refine tpk_pos (tp_in hG ht_h0 (by decide)) hf_59 (fun q60 eq60 => ?_)
  refine va_get (D := (dC, dI)) (ci := 12) (v := .int o32_x28) (C := RX12) (T := TX12) (N := 53) hx hb hts hfX12 hown hK hP q60 eq60 rfl 28 (by decide) (hts (.fieldLink RX12 300 "ColdShipsModel" "piled" "I") wa_1045) (fun _ h9 => h9) rfl dX12_push_22 ?_
  refine lv_iconst (v := 1) hx hb dX12_push_25 (by decide) ?_
  refine lv_iadd hx hb dX12_push_26 ?_
  refine lv_topi (fun z61 ez61 => ?_)
  have iz61 : z61.toInt = o32_x28.toInt + 1 := zi_add ez61 rfl rfl (by omega) (by omega)
  refine va_put (D := (dC, dI)) (ci := 12) (v := .int z61) (ty := .int) (C := RX12) (T := TX12) (N := 53) hx hb hts hfX12 tyX12 tyX12_ok nmX12 hown hK hP hD hS q60 eq60 rfl 28 (by decide) (hts (.fieldLink RX12 300 "ColdShipsModel" "piled" "I") wa_1045) (fun _ h9 => h9) rfl (tyX12_ok 28 (by decide)) rfl rfl (Nat.le_of_ble_eq_true rfl) dX12_push_27 (tp_k (.inr (12, [.int o32_x0, .int o32_x1, .ref (ρ h0 2), .ref (ρ h0 3), .ref (ρ h0 4), .ref (ρ h0 5), .ref (ρ h0 6), .int o32_x7, .ref (ρ h0 8), .int o32_x9, .int o32_x10, .int o32_x11, .int o32_x12, .long o32_x13, .int o32_x14, .int o32_x15, .int o32_x16, .int o32_x17, .int o32_x18, .int o32_x19, .int o32_x20, .ref (ρ h0 21), .int o32_x22, .ref (ρ h0 23), .ref (ρ h0 24), .int o32_x25, .ref (ρ h0 26), .ref (ρ h0 27), .int z61, .int o32_x29, .ref (ρ h0 30), .ref (ρ h0 31), .int o32_x32, .long o32_x33, .long o32_x34, .long o32_x35, .int o32_x36, .int o32_x37, .int o32_x38, .ref (ρ h0 39), .ref (ρ h0 40), .ref (ρ h0 41), .ref (ρ h0 42), .ref (ρ h0 43), .ref (ρ h0 44), .ref (ρ h0 45), .ref (ρ h0 46), .int o32_x47, .int o32_x48, .ref (ρ h0 49), .ref (ρ h0 50), .ref (ρ h0 51), .ref (ρ h0 52)])) hD (tp_in hG ht_h0 (by decide)) eq60 (fun f62 H locs hP hD hS g64 k63 => ?_))
  have hT := hT.up ht_h0 g64 k63 ⟨_, _, _, _, _, _, _, _, _, _, _, _, _, _, _, _, _, _, _, _, _, _, _, _, _, _, _, _, rfl, ro32_0, ro32_1, ro32_2, ro32_3, ro32_4, ro32_5, ro32_6, ro32_7, ro32_8, (by omega), ro32_10, ro32_11, ro32_12, ro32_13⟩
  have hR := hR.up ht_h0 (by decide) k63
  have hf_65 : f54 (ρ h0 26) = .inl (κ 0, 400, .inl g48) := (k55 _ (tp_ne y10 y11 (by decide))).trans g47
  have hf_66 : f62 (ρ h0 26) = .inl (κ 0, 400, .inl g48) := (k63 _ (tp_ne y10 ht_h0 (by decide))).trans hf_65
  have tf67 : mo_hd (mo_i (f62 (ρ h0 26)) = g48) := tfa_i hf_66
  have hf_68 : f62 (ρ h0 27) = .inl (κ 0, 400, .inl g57) := (k63 _ (tp_ne y11 ht_h0 (by decide))).trans g56
  have tf69 : mo_hd (mo_i (f62 (ρ h0 27)) = g57) := tfa_i hf_68
  have tf70 : mo_hd (tp_fld (f62 h0) 28 = z61.toInt) := tff_28 g64
  have tf71 : mo_hd (tp_fld (f62 h0) 9 = o32_x9.toInt) := tff_9 g64
  have tf72 : mo_hd (tp_fld (f62 h0) 10 = o32_x10.toInt) := tff_10 g64
  have tf73 : mo_hd (tp_fld (f62 h0) 11 = o32_x11.toInt) := tff_11 g64
  have tf74 : mo_hd (tp_fld (f62 h0) 12 = o32_x12.toInt) := tff_12 g64
  have tf75 : mo_hd (mo_fj (f62 h0) 13 = o32_x13.toInt) := tff_13 g64
  have tf76 : mo_hd (tp_fld (f62 h0) 15 = o32_x15.toInt) := tff_15 g64
  have tf77 : mo_hd (tp_fld (f62 h0) 19 = o32_x19.toInt) := tff_19 g64
  have tf78 : mo_hd (tp_fld (f62 h0) 20 = o32_x20.toInt) := tff_20 g64
  have tf79 : mo_hd (tp_fld (f62 h0) 22 = o32_x22.toInt) := tff_22 g64
  exact W.vret hx hb hr (fun t ht hW => ⟨⟨f62, rfl, ⟨hT, hR, (by first | (simp only [(mo_un tf28), (mo_un tf67), (mo_un tf41), (mo_un tf31), (mo_un tf69), (mo_un tf70), (mo_un tf71), (mo_un tf33), (mo_un tf72), (mo_un tf34), (mo_un tf73), (mo_un tf35), (mo_un tf74), (mo_un tf36), (mo_un tf75), (mo_un tf42), (mo_un tf76), (mo_un tf37), (mo_un tf77), (mo_un tf38), (mo_un tf78), (mo_un tf39), (mo_un tf79), (mo_un tf40), mo_i1, mo_l1]; exact (show mo_U (mo_R g27) (mo_R g48) o32_x28.toInt v.toInt ∧ mo_U (mo_R g30) (mo_R g57) o32_x28.toInt u.toInt ∧ z61.toInt = o32_x28.toInt + 1 ∧ o32_x9.toInt = o32_x9.toInt ∧ o32_x10.toInt = o32_x10.toInt ∧ o32_x11.toInt = o32_x11.toInt ∧ o32_x12.toInt = o32_x12.toInt ∧ o32_x13.toInt = o32_x13.toInt ∧ o32_x15.toInt = o32_x15.toInt ∧ o32_x19.toInt = o32_x19.toInt ∧ o32_x20.toInt = o32_x20.toInt ∧ o32_x22.toInt = o32_x22.toInt from ⟨hU49, hU58, by omega, rfl, rfl, rfl, rfl, rfl, rfl, rfl, rfl, rfl⟩)) | (rw [(mo_un tf28), (mo_un tf67), (mo_un tf41), (mo_un tf31), (mo_un tf69), (mo_un tf70), (mo_un tf71), (mo_un tf33), (mo_un tf72), (mo_un tf34), (mo_un tf73), (mo_un tf35), (mo_un tf74), (mo_un tf36), (mo_un tf75), (mo_un tf42), (mo_un tf76), (mo_un tf37), (mo_un tf77), (mo_un tf38), (mo_un tf78), (mo_un tf39), (mo_un tf79), (mo_un tf40)]; exact (show mo_U (mo_R g27) (mo_R g48) o32_x28.toInt v.toInt ∧ mo_U (mo_R g30) (mo_R g57) o32_x28.toInt u.toInt ∧ z61.toInt = o32_x28.toInt + 1 ∧ o32_x9.toInt = o32_x9.toInt ∧ o32_x10.toInt = o32_x10.toInt ∧ o32_x11.toInt = o32_x11.toInt ∧ o32_x12.toInt = o32_x12.toInt ∧ o32_x13.toInt = o32_x13.toInt ∧ o32_x15.toInt = o32_x15.toInt ∧ o32_x19.toInt = o32_x19.toInt ∧ o32_x20.toInt = o32_x20.toInt ∧ o32_x22.toInt = o32_x22.toInt from ⟨hU49, hU58, by omega, rfl, rfl, rfl, rfl, rfl, rfl, rfl, rfl, rfl⟩)))⟩, by rw [ht]; exact hP, va_K.moved hW.alike hK, hD⟩, hS.F ht⟩) hS.2.2 dX12_push_30
set_option maxHeartbeats 4000000 in
set_option maxRecDepth 100000 in
theorem t_X12_binds (l : Launch) (dC : Nat → ClassId) (dI : Nat → Nat → Nat) (sz : Nat) (v : Int32) (Z_v : Int) (hZ_v : v.toInt = Z_v) : Met l yX12_binds wqX12_binds ({ frames := 2, cells := 0, slots := 0, locals := 400 }) (va_Pc [.int v] (pz_B dC dI [] [] sz)) (vp_Si (fun r => (0 ≤ r.toInt ∧ r.toInt ≤ 6) ∧ ((30 ≤ Z_v → r.toInt = 0) ∧ (Z_v = 19 → r.toInt = 1) ∧ (Z_v = 18 → r.toInt = 2) ∧ (Z_v = 17 → r.toInt = 3) ∧ (14 ≤ Z_v → Z_v ≤ 16 → r.toInt = 4) ∧ (12 ≤ Z_v → Z_v ≤ 13 → r.toInt = 6) ∧ (Z_v < 12 → r.toInt = 5)))) 0 0 (fun _ => False) := by
  refine Met.ofW (cc := cX12_binds) (maxL := 1) (ret := some .int) (by decide) rfl ?_
  intro p e s m args below meth c s₁ B hml hv
  obtain ⟨rfl, hsz, hP, hK, hD0, hN⟩ := hv
  have hx := B.exec
  have hb := B.bytes
  have hr := B.returns
  have hts := fun (w : Cond) (h : w ∈ WALL) => atoms_spec (ws := wqX12_binds) B.pre w (List.mem_cons_of_mem _ h)
  have hown : s.vm.findClass RX12 = some m.cls := findClass_of_methodNamed B.named
  have hlocks := B.notSynchronized
  subst hsz
  have hD := hD0
  have hS : va_S (fun _ => True) s.heap s.heap [] := va_S.rf
  have hl := lv_entry ([.int v]) (n := 1) (Nat.le_of_ble_eq_true rfl)
  rw [lg_entry_eq]
  generalize (lg_sl ([.int v]) ++ List.replicate (1 - (lg_sl ([.int v])).length) Slot.unset).toArray = ls at hl ⊢
  have hl : lv_has ls 1 [(0, .int v)] := hl
  refine lv_iload_n hx hb dX12_binds_0 rfl (lv_at hl 0 rfl) ?_
  refine lv_bipush (v := 30) hx hb dX12_binds_1 (by decide) ?_
  refine lv_icmp_lt (tgt := 10) hx hb dX12_binds_3 (by decide) (fun c1 => ?_) (fun c1 => ?_)
  · have ic1 : Z_v < 30 := zi_lt hZ_v rfl c1
    refine lv_iload_n hx hb dX12_binds_10 rfl (lv_at hl 0 rfl) ?_
    refine lv_bipush (v := 19) hx hb dX12_binds_11 (by decide) ?_
    refine lv_icmp_ne (tgt := 20) hx hb dX12_binds_13 (by decide) (fun c2 => ?_) (fun c2 => ?_)
    · have ic2 : Z_v ≠ 19 := zi_ne hZ_v rfl c2
      refine lv_iload_n hx hb dX12_binds_20 rfl (lv_at hl 0 rfl) ?_
      refine lv_bipush (v := 18) hx hb dX12_binds_21 (by decide) ?_
      refine lv_icmp_ne (tgt := 30) hx hb dX12_binds_23 (by decide) (fun c3 => ?_) (fun c3 => ?_)
      · have ic3 : Z_v ≠ 18 := zi_ne hZ_v rfl c3
        refine lv_iload_n hx hb dX12_binds_30 rfl (lv_at hl 0 rfl) ?_
        refine lv_bipush (v := 17) hx hb dX12_binds_31 (by decide) ?_
        refine lv_icmp_ne (tgt := 40) hx hb dX12_binds_33 (by decide) (fun c4 => ?_) (fun c4 => ?_)
        · have ic4 : Z_v ≠ 17 := zi_ne hZ_v rfl c4
          refine lv_iload_n hx hb dX12_binds_40 rfl (lv_at hl 0 rfl) ?_
          refine lv_bipush (v := 14) hx hb dX12_binds_41 (by decide) ?_
          refine lv_icmp_lt (tgt := 50) hx hb dX12_binds_43 (by decide) (fun c5 => ?_) (fun c5 => ?_)
          · have ic5 : Z_v < 14 := zi_lt hZ_v rfl c5
            refine lv_iload_n hx hb dX12_binds_50 rfl (lv_at hl 0 rfl) ?_
            refine lv_bipush (v := 12) hx hb dX12_binds_51 (by decide) ?_
            refine lv_icmp_lt (tgt := 61) hx hb dX12_binds_53 (by decide) (fun c6 => ?_) (fun c6 => ?_)
            · have ic6 : Z_v < 12 := zi_lt hZ_v rfl c6
              refine lv_iconst (v := 5) hx hb dX12_binds_61 (by decide) ?_
              exact W.iret (v := 5) hx hb hr (fun t ht hW => ⟨5, rfl, ⟨(by first | decide | omega), (by have : (5 : Int32).toInt = 5 := rfl; omega)⟩, ht⟩) (fun _ h => by cases h) dX12_binds_62
            · have ic6 : Z_v ≥ 12 := zi_ltf hZ_v rfl c6
              refine lv_bipush (v := 6) hx hb dX12_binds_56 (by decide) ?_
              refine lv_goto (tgt := 62) hx hb dX12_binds_58 (by decide) ?_
              exact W.iret (v := 6) hx hb hr (fun t ht hW => ⟨6, rfl, ⟨(by first | decide | omega), (by have : (6 : Int32).toInt = 6 := rfl; omega)⟩, ht⟩) (fun _ h => by cases h) dX12_binds_62
          · have ic5 : Z_v ≥ 14 := zi_ltf hZ_v rfl c5
            refine lv_iconst (v := 4) hx hb dX12_binds_46 (by decide) ?_
            refine lv_goto (tgt := 62) hx hb dX12_binds_47 (by decide) ?_
            exact W.iret (v := 4) hx hb hr (fun t ht hW => ⟨4, rfl, ⟨(by first | decide | omega), (by have : (4 : Int32).toInt = 4 := rfl; omega)⟩, ht⟩) (fun _ h => by cases h) dX12_binds_62
        · have ic4 : Z_v = 17 := zi_nef hZ_v rfl c4
          refine lv_iconst (v := 3) hx hb dX12_binds_36 (by decide) ?_
          refine lv_goto (tgt := 62) hx hb dX12_binds_37 (by decide) ?_
          exact W.iret (v := 3) hx hb hr (fun t ht hW => ⟨3, rfl, ⟨(by first | decide | omega), (by have : (3 : Int32).toInt = 3 := rfl; omega)⟩, ht⟩) (fun _ h => by cases h) dX12_binds_62
      · have ic3 : Z_v = 18 := zi_nef hZ_v rfl c3
        refine lv_iconst (v := 2) hx hb dX12_binds_26 (by decide) ?_
        refine lv_goto (tgt := 62) hx hb dX12_binds_27 (by decide) ?_
        exact W.iret (v := 2) hx hb hr (fun t ht hW => ⟨2, rfl, ⟨(by first | decide | omega), (by have : (2 : Int32).toInt = 2 := rfl; omega)⟩, ht⟩) (fun _ h => by cases h) dX12_binds_62
    · have ic2 : Z_v = 19 := zi_nef hZ_v rfl c2
      refine lv_iconst (v := 1) hx hb dX12_binds_16 (by decide) ?_
      refine lv_goto (tgt := 62) hx hb dX12_binds_17 (by decide) ?_
      exact W.iret (v := 1) hx hb hr (fun t ht hW => ⟨1, rfl, ⟨(by first | decide | omega), (by have : (1 : Int32).toInt = 1 := rfl; omega)⟩, ht⟩) (fun _ h => by cases h) dX12_binds_62
  · have ic1 : Z_v ≥ 30 := zi_ltf hZ_v rfl c1
    refine lv_iconst (v := 0) hx hb dX12_binds_6 (by decide) ?_
    refine lv_goto (tgt := 62) hx hb dX12_binds_7 (by decide) ?_
    exact W.iret (v := 0) hx hb hr (fun t ht hW => ⟨0, rfl, ⟨(by first | decide | omega), (by have : (0 : Int32).toInt = 0 := rfl; omega)⟩, ht⟩) (fun _ h => by cases h) dX12_binds_62
