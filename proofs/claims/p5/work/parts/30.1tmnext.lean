set_option maxHeartbeats 4000000 in
set_option maxRecDepth 100000 in
theorem t_X12_swapPlaces (l : Launch) (dC : Nat → ClassId) (dI : Nat → Nat → Nat) (sz : Nat) (κ : Nat → ClassId) (τ ν : Nat → Nat) (ρ : Nat → Nat → Nat) (L : List Nat) (f : Nat → va_E) (hG : tp_G τ ν ρ L) (hT : tp_T (mo_O κ) κ τ ν ρ f) (h0 : Nat) (v : Int32) (u : Int32) (ht_h0 : τ h0 = 13) (hr_v : 0 ≤ v.toInt ∧ v.toInt ≤ 5) (hr_u : 0 ≤ u.toInt ∧ u.toInt ≤ 5) : Met l yX12_swapPlaces wqX12_swapPlaces ({ frames := 2, cells := 0, slots := 0, locals := 400 }) (va_Pc [.ref h0, .int v, .int u] (pz_B dC dI (tp_K κ) (va_pl L f) sz)) (va_Qv (fun (f1 : Nat → va_E) => tp_T (mo_O κ) κ τ ν ρ f1 ∧ tp_F τ [76] f f1 ∧ mo_SW (mo_R (mo_i (f (ρ h0 46)))) (mo_R (mo_i (f1 (ρ h0 46)))) v.toInt u.toInt) (fun (f1 : Nat → va_E) (t : State) => pz_E dC dI (tp_K κ) (va_A (va_pl L f) sz) (va_pl L f1) t) (va_A (va_pl L f) sz)) 0 0 (va_A (va_pl L f) sz) := by
  refine Met.ofW (cc := cX12_swapPlaces) (maxL := 4) (ret := none) (by decide) rfl ?_
  intro p e s m args below meth c s₁ B hml hv
  obtain ⟨rfl, hsz, hP, hK, hD0, hN⟩ := hv
  have hx := B.exec
  have hb := B.bytes
  have hr := B.returns
  have hts := fun (w : Cond) (h : w ∈ WALL) => atoms_spec (ws := wqX12_swapPlaces) B.pre w (List.mem_cons_of_mem _ h)
  have hown : s.vm.findClass RX12 = some m.cls := findClass_of_methodNamed B.named
  have hlocks := B.notSynchronized
  subst hsz
  have hD := hD0.self (sz := s.heap.size)
  generalize hAe : va_A (va_pl L f) s.heap.size = A at hD ⊢
  have hA : ∀ q : Nat, s.heap.size ≤ q → A q := fun q h => by rw [← hAe]; exact Or.inr h
  have hS : va_S A s.heap s.heap [] := va_S.rf
  have hR : tp_F τ [76] f f := tp_F.rf
  have hl := lv_entry ([.ref h0, .int v, .int u]) (n := 4) (Nat.le_of_ble_eq_true rfl)
  rw [lg_entry_eq]
  generalize (lg_sl ([.ref h0, .int v, .int u]) ++ List.replicate (4 - (lg_sl ([.ref h0, .int v, .int u])).length) Slot.unset).toArray = ls at hl ⊢
  have hl : lv_has ls 4 [(0, .ref h0), (1, .int v), (2, .int u)] := hl
  refine tgk_13 hG ht_h0 (fun y1 y2 y3 y4 y5 y6 y7 y8 y9 y10 y11 y12 y13 y14 y15 y16 y17 y18 y19 y20 y21 y22 y23 y24 y25 => ?_)
  refine tpk_76 hT y21 (fun g27 hf_o26 => ?_)
  have tf28 : mo_hd (mo_i (f (ρ h0 46)) = g27) := tfa_i hf_o26
  refine lv_aload_n hx hb dX12_swapPlaces_0 rfl (lv_at hl 0 rfl) ?_
  refine tpk_13 hT ht_h0 (fun o29_x0 o29_x1 o29_x7 o29_x9 o29_x10 o29_x11 o29_x12 o29_x13 o29_x14 o29_x15 o29_x16 o29_x17 o29_x18 o29_x19 o29_x20 o29_x22 o29_x25 o29_x28 o29_x29 o29_x32 o29_x33 o29_x34 o29_x35 o29_x36 o29_x37 o29_x38 o29_x47 o29_x48 hf_o29 ro29_0 ro29_1 ro29_2 ro29_3 ro29_4 ro29_5 ro29_6 ro29_7 ro29_8 ro29_9 ro29_10 ro29_11 ro29_12 ro29_13 => ?_)
  refine tpk_pos (tp_in hG ht_h0 (by decide)) hf_o29 (fun q30 eq30 => ?_)
  refine va_get (D := (dC, dI)) (ci := 12) (v := .ref (ρ h0 46)) (C := RX12) (T := TX12) (N := 53) hx hb hts hfX12 hown hK hP q30 eq30 rfl 46 (by decide) (hts (.fieldLink RX12 76 "ColdShipsModel" "places" "[I") wa_170) (fun _ h9 => h9) rfl dX12_swapPlaces_1 ?_
  refine lv_iload_n hx hb dX12_swapPlaces_4 rfl (lv_at hl 1 rfl) ?_
  refine tpk_pos (tp_in hG y21 (by decide)) hf_o26 (fun q31 eq31 => ?_)
  refine va_iald hx hb hK hP q31 0 eq31 rfl (vp_in_iff.mpr ⟨by omega, by omega⟩) dX12_swapPlaces_5 ?_
  refine lv_topi (fun z32 ez32 => ?_)
  have jz32 : z32.toInt = mo_R g27 v.toInt := mo_rd ez32 (by omega)
  refine lv_istore_n (lv' := [(3, .int z32), (0, .ref h0), (1, .int v), (2, .int u)]) hx hb dX12_swapPlaces_6 rfl hl (by decide) rfl (fun ls hl => ?_)
  refine lv_aload_n hx hb dX12_swapPlaces_7 rfl (lv_at hl 1 rfl) ?_
  refine va_get (D := (dC, dI)) (ci := 12) (v := .ref (ρ h0 46)) (C := RX12) (T := TX12) (N := 53) hx hb hts hfX12 hown hK hP q30 eq30 rfl 46 (by decide) (hts (.fieldLink RX12 76 "ColdShipsModel" "places" "[I") wa_170) (fun _ h9 => h9) rfl dX12_swapPlaces_8 ?_
  refine lv_iload_n hx hb dX12_swapPlaces_11 rfl (lv_at hl 2 rfl) ?_
  refine lv_aload_n hx hb dX12_swapPlaces_12 rfl (lv_at hl 1 rfl) ?_
  refine va_get (D := (dC, dI)) (ci := 12) (v := .ref (ρ h0 46)) (C := RX12) (T := TX12) (N := 53) hx hb hts hfX12 hown hK hP q30 eq30 rfl 46 (by decide) (hts (.fieldLink RX12 76 "ColdShipsModel" "places" "[I") wa_170) (fun _ h9 => h9) rfl dX12_swapPlaces_13 ?_
  refine lv_iload_n hx hb dX12_swapPlaces_16 rfl (lv_at hl 3 rfl) ?_
  refine va_iald hx hb hK hP q31 0 eq31 rfl (vp_in_iff.mpr ⟨by omega, by omega⟩) dX12_swapPlaces_17 ?_
  refine lv_topi (fun z33 ez33 => ?_)
  have jz33 : z33.toInt = mo_R g27 u.toInt := mo_rd ez33 (by omega)
  refine va_iast hx hb hK hP hD hS q31 0 eq31 rfl (vp_in_iff.mpr ⟨by omega, by omega⟩) dX12_swapPlaces_18 (tp_k (.inl (κ 0, 6, .inl (upd g27 v.toNatClampNeg z33))) hD (tp_in hG y21 (by decide)) eq31 (fun f34 H locs hP hD hS g36 k35 => ?_))
  have hT := hT.up y21 g36 k35 tp_o76
  have hR := hR.up y21 (by decide) k35
  have hU38 : mo_U (mo_R g27) (mo_R (upd g27 v.toNatClampNeg z33)) (v.toInt) (z33.toInt) := mo_up (by omega) (rfl : z33.toInt = _) (by omega)
  generalize (upd g27 v.toNatClampNeg z33) = g37 at g36 hU38
  have hU38e := hU38.eq (by omega)
  refine lv_aload_n hx hb dX12_swapPlaces_19 rfl (lv_at hl 1 rfl) ?_
  have hf_39 : f34 h0 = .inr (12, [.int o29_x0, .int o29_x1, .ref (ρ h0 2), .ref (ρ h0 3), .ref (ρ h0 4), .ref (ρ h0 5), .ref (ρ h0 6), .int o29_x7, .ref (ρ h0 8), .int o29_x9, .int o29_x10, .int o29_x11, .int o29_x12, .long o29_x13, .int o29_x14, .int o29_x15, .int o29_x16, .int o29_x17, .int o29_x18, .int o29_x19, .int o29_x20, .ref (ρ h0 21), .int o29_x22, .ref (ρ h0 23), .ref (ρ h0 24), .int o29_x25, .ref (ρ h0 26), .ref (ρ h0 27), .int o29_x28, .int o29_x29, .ref (ρ h0 30), .ref (ρ h0 31), .int o29_x32, .long o29_x33, .long o29_x34, .long o29_x35, .int o29_x36, .int o29_x37, .int o29_x38, .ref (ρ h0 39), .ref (ρ h0 40), .ref (ρ h0 41), .ref (ρ h0 42), .ref (ρ h0 43), .ref (ρ h0 44), .ref (ρ h0 45), .ref (ρ h0 46), .int o29_x47, .int o29_x48, .ref (ρ h0 49), .ref (ρ h0 50), .ref (ρ h0 51), .ref (ρ h0 52)]) := (k35 _ (tp_ne ht_h0 y21 (by decide))).trans hf_o29
  refine tpk_pos (tp_in hG ht_h0 (by decide)) hf_39 (fun q40 eq40 => ?_)
  refine va_get (D := (dC, dI)) (ci := 12) (v := .ref (ρ h0 46)) (C := RX12) (T := TX12) (N := 53) hx hb hts hfX12 hown hK hP q40 eq40 rfl 46 (by decide) (hts (.fieldLink RX12 76 "ColdShipsModel" "places" "[I") wa_170) (fun _ h9 => h9) rfl dX12_swapPlaces_20 ?_
  refine lv_iload_n hx hb dX12_swapPlaces_23 rfl (lv_at hl 3 rfl) ?_
  refine lv_iload_n hx hb dX12_swapPlaces_24 rfl (lv_at hl 0 rfl) ?_
  refine tpk_pos (tp_in hG y21 (by decide)) g36 (fun q41 eq41 => ?_)
  refine va_iast hx hb hK hP hD hS q41 0 eq41 rfl (vp_in_iff.mpr ⟨by omega, by omega⟩) dX12_swapPlaces_25 (tp_k (.inl (κ 0, 6, .inl (upd g37 u.toNatClampNeg z32))) hD (tp_in hG y21 (by decide)) eq41 (fun f42 H locs hP hD hS g44 k43 => ?_))
  have hT := hT.up y21 g44 k43 tp_o76
  have hR := hR.up y21 (by decide) k43
  have hU46 : mo_U (mo_R g37) (mo_R (upd g37 u.toNatClampNeg z32)) (u.toInt) (z32.toInt) := mo_up (by omega) (rfl : z32.toInt = _) (by omega)
  generalize (upd g37 u.toNatClampNeg z32) = g45 at g44 hU46
  have hU46e := hU46.eq (by omega)
  have tf47 : mo_hd (mo_i (f42 (ρ h0 46)) = g45) := tfa_i g44
  exact W.vret hx hb hr (fun t ht hW => ⟨⟨f42, rfl, ⟨hT, hR, (by first | (simp only [(mo_un tf28), (mo_un tf47), mo_i1, mo_l1]; exact (show mo_SW (mo_R g27) (mo_R g45) v.toInt u.toInt from mo_SW.of hU38 hU46 (by omega) (by omega))) | (rw [(mo_un tf28), (mo_un tf47)]; exact (show mo_SW (mo_R g27) (mo_R g45) v.toInt u.toInt from mo_SW.of hU38 hU46 (by omega) (by omega))))⟩, by rw [ht]; exact hP, va_K.moved hW.alike hK, hD⟩, hS.F ht⟩) hS.2.2 dX12_swapPlaces_26
set_option maxHeartbeats 4000000 in
set_option maxRecDepth 100000 in
theorem t_X12_nextPlaces (l : Launch) (dC : Nat → ClassId) (dI : Nat → Nat → Nat) (sz : Nat) (κ : Nat → ClassId) (τ ν : Nat → Nat) (ρ : Nat → Nat → Nat) (L : List Nat) (f : Nat → va_E) (hG : tp_G τ ν ρ L) (hT : tp_T (mo_O κ) κ τ ν ρ f) (h0 : Nat) (v : Int32) (ht_h0 : τ h0 = 13) (hr_v : 0 ≤ v.toInt ∧ v.toInt ≤ 6) (hpm : mo_PM (mo_R (mo_i (f (ρ h0 46)))) v.toInt) : Met l yX12_nextPlaces wqX12_nextPlaces ({ frames := 3, cells := 0, slots := 0, locals := 800 }) (va_Pc [.ref h0, .int v] (pz_B dC dI (tp_K κ) (va_pl L f) sz)) (va_Qi (fun (r : Int32) (f1 : Nat → va_E) => tp_T (mo_O κ) κ τ ν ρ f1 ∧ tp_F τ [76] f f1 ∧ (0 ≤ r.toInt ∧ r.toInt ≤ 1) ∧ mo_PM (mo_R (mo_i (f1 (ρ h0 46)))) v.toInt ∧ mo_VL (mo_R (mo_i (f (ρ h0 46)))) v.toInt.toNat ≤ mo_VL (mo_R (mo_i (f1 (ρ h0 46)))) v.toInt.toNat ∧ (r.toInt ≠ 0 → mo_VL (mo_R (mo_i (f (ρ h0 46)))) v.toInt.toNat < mo_VL (mo_R (mo_i (f1 (ρ h0 46)))) v.toInt.toNat)) (fun (f1 : Nat → va_E) (t : State) => pz_E dC dI (tp_K κ) (va_A (va_pl L f) sz) (va_pl L f1) t) (va_A (va_pl L f) sz)) 0 0 (va_A (va_pl L f) sz) := by
  refine Met.ofW (cc := cX12_nextPlaces) (maxL := 6) (ret := some .boolean) (by decide) rfl ?_
  intro p e s m args below meth c s₁ B hml hv
  obtain ⟨rfl, hsz, hP, hK, hD0, hN⟩ := hv
  have hx := B.exec
  have hb := B.bytes
  have hr := B.returns
  have hts := fun (w : Cond) (h : w ∈ WALL) => atoms_spec (ws := wqX12_nextPlaces) B.pre w (List.mem_cons_of_mem _ h)
  have hown : s.vm.findClass RX12 = some m.cls := findClass_of_methodNamed B.named
  have hlocks := B.notSynchronized
  subst hsz
  have hD := hD0.self (sz := s.heap.size)
  generalize hAe : va_A (va_pl L f) s.heap.size = A at hD ⊢
  have hA : ∀ q : Nat, s.heap.size ≤ q → A q := fun q h => by rw [← hAe]; exact Or.inr h
  have hS : va_S A s.heap s.heap [] := va_S.rf
  have hR : tp_F τ [76] f f := tp_F.rf
  have hl := lv_entry ([.ref h0, .int v]) (n := 6) (Nat.le_of_ble_eq_true rfl)
  rw [lg_entry_eq]
  generalize (lg_sl ([.ref h0, .int v]) ++ List.replicate (6 - (lg_sl ([.ref h0, .int v])).length) Slot.unset).toArray = ls at hl ⊢
  have hl : lv_has ls 6 [(0, .ref h0), (1, .int v)] := hl
  refine tgk_13 hG ht_h0 (fun y1 y2 y3 y4 y5 y6 y7 y8 y9 y10 y11 y12 y13 y14 y15 y16 y17 y18 y19 y20 y21 y22 y23 y24 y25 => ?_)
  refine tpk_76 hT y21 (fun g27 hf_o26 => ?_)
  have tf28 : mo_hd (mo_i (f (ρ h0 46)) = g27) := tfa_i hf_o26
  replace hpm : mo_PM (mo_R g27) v.toInt := by have q9 := hpm; first | (simp only [(mo_un tf28), mo_i1, mo_l1] at q9; exact q9) | (rw [(mo_un tf28)] at q9; exact q9)
  refine lv_iload_n hx hb dX12_nextPlaces_0 rfl (lv_at hl 1 rfl) ?_
  refine lv_iconst (v := 2) hx hb dX12_nextPlaces_1 (by decide) ?_
  refine lv_isub hx hb dX12_nextPlaces_2 ?_
  refine lv_topi (fun z29 ez29 => ?_)
  have iz29 : z29.toInt = v.toInt - 2 := zi_sub ez29 rfl rfl (by omega) (by omega)
  refine lv_istore_n (lv' := [(2, .int z29), (0, .ref h0), (1, .int v)]) hx hb dX12_nextPlaces_3 rfl hl (by decide) rfl (fun ls hl => ?_)
  refine pz_loop (fun n0 H locs ls => ∃ w30 : Int32, n0 = ((w30.toInt) + 2).toNat ∧ ((-2) ≤ w30.toInt ∧ w30.toInt ≤ 4) ∧ ((w30.toInt) ≤ v.toInt - 2) ∧ va_P (dC, dI) vwCl (va_pl L f) H ∧ va_D A (va_pl L f) ∧ va_S A s.heap H locs ∧ lv_has ls 6 [(2, .int w30), (0, .ref h0), (1, .int v)]) ?_ _ _ _ _ ⟨z29, rfl, (by omega), (by omega), hP, hD, hS, lv_sub hl [0, 1, 2] rfl⟩
  intro n0 H locs ls hI ih32
  refine Exists.elim hI (fun w30 hE90 => tn_7 hE90 (fun hn33 rw30 k31 hP hD hS hl => ?_))
  clear hE90 hI
  refine lv_iload_n hx hb dX12_nextPlaces_4 rfl (lv_at hl 0 rfl) ?_
  refine lv_if_lt (tgt := 31) hx hb dX12_nextPlaces_5 (by decide) (fun c34 => ?_) (fun c34 => ?_)
  · have ic34 : w30.toInt < 0 := zi_lt rfl rfl c34
    refine lv_iload_n hx hb dX12_nextPlaces_31 rfl (lv_at hl 0 rfl) ?_
    refine lv_if_ge (tgt := 37) hx hb dX12_nextPlaces_32 (by decide) (fun c35 => ?_) (fun c35 => ?_)
    · have ic35 : w30.toInt ≥ 0 := zi_ge rfl rfl c35
      exfalso; omega
    · have ic35 : w30.toInt < 0 := zi_gef rfl rfl c35
      refine lv_iconst (v := 0) hx hb dX12_nextPlaces_35 (by decide) ?_
      exact W.zret (v := 0) hx hb hr rfl (fun t ht hW => ⟨⟨0, f, rfl, ⟨hT, hR, (by first | decide | omega), (by first | (simp only [(mo_un tf28), mo_i1, mo_l1]; exact (show mo_PM (mo_R g27) v.toInt ∧ mo_VL (mo_R g27) v.toInt.toNat ≤ mo_VL (mo_R g27) v.toInt.toNat ∧ ((0 : Int32).toInt ≠ 0 → mo_VL (mo_R g27) v.toInt.toNat < mo_VL (mo_R g27) v.toInt.toNat) from ⟨hpm, Int.le_refl _, fun q9 => absurd (by decide) q9⟩)) | (rw [(mo_un tf28)]; exact (show mo_PM (mo_R g27) v.toInt ∧ mo_VL (mo_R g27) v.toInt.toNat ≤ mo_VL (mo_R g27) v.toInt.toNat ∧ ((0 : Int32).toInt ≠ 0 → mo_VL (mo_R g27) v.toInt.toNat < mo_VL (mo_R g27) v.toInt.toNat) from ⟨hpm, Int.le_refl _, fun q9 => absurd (by decide) q9⟩)))⟩, by rw [ht]; exact hP, va_K.moved hW.alike hK, hD⟩, hS.F ht⟩) hS.2.2 dX12_nextPlaces_36
  · have ic34 : w30.toInt ≥ 0 := zi_ltf rfl rfl c34
    refine lv_aload_n hx hb dX12_nextPlaces_8 rfl (lv_at hl 1 rfl) ?_
    refine tpk_13 hT ht_h0 (fun o36_x0 o36_x1 o36_x7 o36_x9 o36_x10 o36_x11 o36_x12 o36_x13 o36_x14 o36_x15 o36_x16 o36_x17 o36_x18 o36_x19 o36_x20 o36_x22 o36_x25 o36_x28 o36_x29 o36_x32 o36_x33 o36_x34 o36_x35 o36_x36 o36_x37 o36_x38 o36_x47 o36_x48 hf_o36 ro36_0 ro36_1 ro36_2 ro36_3 ro36_4 ro36_5 ro36_6 ro36_7 ro36_8 ro36_9 ro36_10 ro36_11 ro36_12 ro36_13 => ?_)
    refine tpk_pos (tp_in hG ht_h0 (by decide)) hf_o36 (fun q37 eq37 => ?_)
    refine va_get (D := (dC, dI)) (ci := 12) (v := .ref (ρ h0 46)) (C := RX12) (T := TX12) (N := 53) hx hb hts hfX12 hown hK hP q37 eq37 rfl 46 (by decide) (hts (.fieldLink RX12 76 "ColdShipsModel" "places" "[I") wa_170) (fun _ h9 => h9) rfl dX12_nextPlaces_9 ?_
    refine lv_iload_n hx hb dX12_nextPlaces_12 rfl (lv_at hl 0 rfl) ?_
    refine tpk_pos (tp_in hG y21 (by decide)) hf_o26 (fun q38 eq38 => ?_)
    refine va_iald hx hb hK hP q38 0 eq38 rfl (vp_in_iff.mpr ⟨by omega, by omega⟩) dX12_nextPlaces_13 ?_
    refine lv_topi (fun z39 ez39 => ?_)
    have jz39 : z39.toInt = mo_R g27 w30.toInt := mo_rd ez39 (by omega)
    refine lv_aload_n hx hb dX12_nextPlaces_14 rfl (lv_at hl 1 rfl) ?_
    refine va_get (D := (dC, dI)) (ci := 12) (v := .ref (ρ h0 46)) (C := RX12) (T := TX12) (N := 53) hx hb hts hfX12 hown hK hP q37 eq37 rfl 46 (by decide) (hts (.fieldLink RX12 76 "ColdShipsModel" "places" "[I") wa_170) (fun _ h9 => h9) rfl dX12_nextPlaces_15 ?_
    refine lv_iload_n hx hb dX12_nextPlaces_18 rfl (lv_at hl 0 rfl) ?_
    refine lv_iconst (v := 1) hx hb dX12_nextPlaces_19 (by decide) ?_
    refine lv_iadd hx hb dX12_nextPlaces_20 ?_
    refine lv_topi (fun z40 ez40 => ?_)
    have iz40 : z40.toInt = w30.toInt + 1 := zi_add ez40 rfl rfl (by omega) (by omega)
    refine va_iald hx hb hK hP q38 0 eq38 rfl (vp_in_iff.mpr ⟨by omega, by omega⟩) dX12_nextPlaces_21 ?_
    refine lv_topi (fun z41 ez41 => ?_)
    have jz41 : z41.toInt = mo_R g27 (w30.toInt + 1) := mo_rd ez41 (by omega)
    refine lv_icmp_le (tgt := 31) hx hb dX12_nextPlaces_22 (by decide) (fun c42 => ?_) (fun c42 => ?_)
    · have ic42 : z39.toInt ≤ z41.toInt := zi_le rfl rfl c42
      refine lv_iload_n hx hb dX12_nextPlaces_31 rfl (lv_at hl 0 rfl) ?_
      refine lv_if_ge (tgt := 37) hx hb dX12_nextPlaces_32 (by decide) (fun c43 => ?_) (fun c43 => ?_)
      · have ic43 : w30.toInt ≥ 0 := zi_ge rfl rfl c43
        refine lv_iload_n hx hb dX12_nextPlaces_37 rfl (lv_at hl 2 rfl) ?_
        refine lv_iconst (v := 1) hx hb dX12_nextPlaces_38 (by decide) ?_
        refine lv_isub hx hb dX12_nextPlaces_39 ?_
        refine lv_topi (fun z44 ez44 => ?_)
        have iz44 : z44.toInt = v.toInt - 1 := zi_sub ez44 rfl rfl (by omega) (by omega)
        refine lv_istore_n (lv' := [(3, .int z44), (2, .int w30), (0, .ref h0), (1, .int v)]) hx hb dX12_nextPlaces_40 rfl hl (by decide) rfl (fun ls hl => ?_)
        refine pz_loop (fun n0 H locs ls => ∃ w45 : Int32, n0 = ((w45.toInt)).toNat ∧ (0 ≤ w45.toInt ∧ w45.toInt ≤ 5) ∧ (w30.toInt < (w45.toInt)) ∧ ((w45.toInt) ≤ v.toInt - 1) ∧ va_P (dC, dI) vwCl (va_pl L f) H ∧ va_D A (va_pl L f) ∧ va_S A s.heap H locs ∧ lv_has ls 6 [(3, .int w45), (2, .int w30), (0, .ref h0), (1, .int v)]) ?_ _ _ _ _ ⟨z44, rfl, (by omega), (by omega), (by omega), hP, hD, hS, lv_sub hl [0, 1, 2, 3] rfl⟩
        intro n0 H locs ls hI ih48
        refine Exists.elim hI (fun w45 hE90 => tn_8 hE90 (fun hn49 rw45 k46 k47 hP hD hS hl => ?_))
        clear hE90 hI
        refine lv_aload_n hx hb dX12_nextPlaces_41 rfl (lv_at hl 2 rfl) ?_
        refine va_get (D := (dC, dI)) (ci := 12) (v := .ref (ρ h0 46)) (C := RX12) (T := TX12) (N := 53) hx hb hts hfX12 hown hK hP q37 eq37 rfl 46 (by decide) (hts (.fieldLink RX12 76 "ColdShipsModel" "places" "[I") wa_170) (fun _ h9 => h9) rfl dX12_nextPlaces_42 ?_
        refine lv_iload_n hx hb dX12_nextPlaces_45 rfl (lv_at hl 0 rfl) ?_
        refine va_iald hx hb hK hP q38 0 eq38 rfl (vp_in_iff.mpr ⟨by omega, by omega⟩) dX12_nextPlaces_46 ?_
        refine lv_topi (fun z50 ez50 => ?_)
        have jz50 : z50.toInt = mo_R g27 w45.toInt := mo_rd ez50 (by omega)
        refine lv_aload_n hx hb dX12_nextPlaces_47 rfl (lv_at hl 2 rfl) ?_
        refine va_get (D := (dC, dI)) (ci := 12) (v := .ref (ρ h0 46)) (C := RX12) (T := TX12) (N := 53) hx hb hts hfX12 hown hK hP q37 eq37 rfl 46 (by decide) (hts (.fieldLink RX12 76 "ColdShipsModel" "places" "[I") wa_170) (fun _ h9 => h9) rfl dX12_nextPlaces_48 ?_
        refine lv_iload_n hx hb dX12_nextPlaces_51 rfl (lv_at hl 1 rfl) ?_
        refine va_iald hx hb hK hP q38 0 eq38 rfl (vp_in_iff.mpr ⟨by omega, by omega⟩) dX12_nextPlaces_52 ?_
        refine lv_topi (fun z51 ez51 => ?_)
        have jz51 : z51.toInt = mo_R g27 w30.toInt := mo_rd ez51 (by omega)
        refine lv_icmp_ge (tgt := 62) hx hb dX12_nextPlaces_53 (by decide) (fun c52 => ?_) (fun c52 => ?_)
        · have ic52 : z50.toInt ≥ z51.toInt := zi_ge rfl rfl c52
          refine lv_aload_n hx hb dX12_nextPlaces_62 rfl (lv_at hl 2 rfl) ?_
          refine lv_iload_n hx hb dX12_nextPlaces_63 rfl (lv_at hl 1 rfl) ?_
          refine lv_iload_n hx hb dX12_nextPlaces_64 rfl (lv_at hl 0 rfl) ?_
          have hFc := tp_fr hD hS hA
          refine va_callv (va_runV (As := [.int w30, .int w45]) (rest := []) ⟨hx, hb, hml, hown, hts⟩ (t_X12_swapPlaces l dC dI _ κ τ ν ρ L f hG hT h0 w30 w45 ht_h0 (by first | decide | omega) (by first | decide | omega)) (cwV 2 hts gX12_nextPlaces_X12_swapPlaces rfl rfl rfl ⟨rfl, pd_X12_swapPlaces⟩ ⟨Nat.le_of_ble_eq_true rfl, Nat.le_of_ble_eq_true rfl⟩) ⟨pz_blind, va_recv hK hP (ci := 12) (q0 := q37) rfl eq37, pz_pre hP hK hD hN⟩ rfl rfl hl.1 rfl (lv_room (Nat.le_of_ble_eq_true rfl)) dX12_nextPlaces_65 ⟨Nat.le_of_ble_eq_true rfl, Nat.le_of_ble_eq_true rfl⟩) hS (fun q _ h => hFc q h) hFc (fun f55 t H1 locs ht hvm hw54 hB hz1 hk1 hS => ?_)
          refine tn_3 hw54 (fun hT hF56 hw54p => ?_); clear hw54
          have hR := hR.then hF56 (by decide)
          have hP := hB.1; rw [ht] at hP; have hD := tp_ad f55 hD; clear hB hFc hz1 hk1; subst ht; generalize t.heap = H at hP hS ⊢
          refine tpk_76 hT y21 (fun g58 hf_o57 => ?_)
          have tf59 : mo_hd (mo_i (f55 (ρ h0 46)) = g58) := tfa_i hf_o57
          have tk60 : mo_SW (mo_R g27) (mo_R g58) w30.toInt w45.toInt := by have q9 := hw54p; first | (simp only [(mo_un tf28), (mo_un tf59), mo_i1, mo_l1] at q9; exact q9) | (rw [(mo_un tf28), (mo_un tf59)] at q9; exact q9)
          clear hw54p
          have np61n : (mo_R g27) w30.toInt ≠ (mo_R g27) w45.toInt := hpm.2.1 w30.toInt w45.toInt (by omega) (by omega) (by omega)
          refine lv_iload_n hx hb dX12_nextPlaces_68 rfl (lv_at hl 1 rfl) ?_
          refine lv_iconst (v := 1) hx hb dX12_nextPlaces_69 (by decide) ?_
          refine lv_iadd hx hb dX12_nextPlaces_70 ?_
          refine lv_topi (fun z62 ez62 => ?_)
          have iz62 : z62.toInt = w30.toInt + 1 := zi_add ez62 rfl rfl (by omega) (by omega)
          refine lv_istore (lv' := [(4, .int z62), (3, .int w45), (2, .int w30), (0, .ref h0), (1, .int v)]) hx hb dX12_nextPlaces_71 hl (by decide) rfl (fun ls hl => ?_)
          refine lv_iload_n hx hb dX12_nextPlaces_73 rfl (lv_at hl 4 rfl) ?_
          refine lv_iconst (v := 1) hx hb dX12_nextPlaces_74 (by decide) ?_
          refine lv_isub hx hb dX12_nextPlaces_75 ?_
          refine lv_topi (fun z63 ez63 => ?_)
          have iz63 : z63.toInt = v.toInt - 1 := zi_sub ez63 rfl rfl (by omega) (by omega)
          refine lv_istore (lv' := [(5, .int z63), (4, .int z62), (3, .int w45), (2, .int w30), (0, .ref h0), (1, .int v)]) hx hb dX12_nextPlaces_76 hl (by decide) rfl (fun ls hl => ?_)
          refine pz_loop (fun n0 H locs ls => ∃ f68 : Nat → va_E, ∃ w64 : Int32, ∃ w65 : Int32, n0 = ((w64.toInt) - (w65.toInt)).toNat ∧ tp_T (mo_O κ) κ τ ν ρ f68 ∧ tp_F τ [76] f f68 ∧ ((mo_PM (mo_R (mo_i (f68 (ρ h0 46)))) v.toInt)) ∧ ((∀ i, 0 ≤ i → i < w30.toInt → (mo_R (mo_i (f68 (ρ h0 46)))) i = (mo_R g27) i)) ∧ (((mo_R g27) w30.toInt < (mo_R (mo_i (f68 (ρ h0 46)))) w30.toInt)) ∧ (0 ≤ w64.toInt ∧ w64.toInt ≤ 5) ∧ (1 ≤ w65.toInt ∧ w65.toInt ≤ 6) ∧ (w30.toInt < (w65.toInt)) ∧ ((w64.toInt) ≤ v.toInt - 1) ∧ va_P (dC, dI) vwCl (va_pl L f68) H ∧ va_D A (va_pl L f68) ∧ va_S A s.heap H locs ∧ lv_has ls 6 [(5, .int w64), (4, .int w65), (3, .int w45), (2, .int w30), (0, .ref h0), (1, .int v)]) ?_ _ _ _ _ ⟨f55, z63, z62, rfl, hT, hR, (by first | (simp only [(mo_un tf59), mo_i1, mo_l1]; exact (show mo_PM (mo_R g58) v.toInt from (hpm.sw tk60 (by omega) (by omega) (by omega) (by omega)))) | (rw [(mo_un tf59)]; exact (show mo_PM (mo_R g58) v.toInt from (hpm.sw tk60 (by omega) (by omega) (by omega) (by omega))))), (by first | (simp only [(mo_un tf59), mo_i1, mo_l1]; exact (show ∀ i, 0 ≤ i → i < w30.toInt → (mo_R g58) i = (mo_R g27) i from (fun i i0 i1 => tk60.ne i0 (by omega) (by omega)))) | (rw [(mo_un tf59)]; exact (show ∀ i, 0 ≤ i → i < w30.toInt → (mo_R g58) i = (mo_R g27) i from (fun i i0 i1 => tk60.ne i0 (by omega) (by omega))))), (by first | (simp only [(mo_un tf59), mo_i1, mo_l1]; exact (show (mo_R g27) w30.toInt < (mo_R g58) w30.toInt from (by rw [tk60.fst (by omega)]; omega))) | (rw [(mo_un tf59)]; exact (show (mo_R g27) w30.toInt < (mo_R g58) w30.toInt from (by rw [tk60.fst (by omega)]; omega)))), (by omega), (by omega), (by omega), (by omega), hP, hD, hS, lv_sub hl [0, 1, 2, 3, 4, 5] rfl⟩
          intro n0 H locs ls hI ih70
          refine Exists.elim hI (fun f68 hE90 => Exists.elim hE90 (fun w64 hE91 => Exists.elim hE91 (fun w65 hE92 => tn_14 hE92 (fun hn71 hT hR jf72 jf73 jf74 rw64 rw65 k66 k67 hP hD hS hl => ?_))))
          clear hE92 hE91 hE90 hI
          refine tpk_76 hT y21 (fun g76 hf_o75 => ?_)
          have tf77 : mo_hd (mo_i (f68 (ρ h0 46)) = g76) := tfa_i hf_o75
          replace jf72 : mo_PM (mo_R g76) v.toInt := by have q9 := jf72; first | (simp only [(mo_un tf77), mo_i1, mo_l1] at q9; exact q9) | (rw [(mo_un tf77)] at q9; exact q9)
          replace jf73 : mo_hd (∀ i, 0 ≤ i → i < w30.toInt → (mo_R g76) i = (mo_R g27) i) := by have q9 := jf73; first | (simp only [(mo_un tf77), mo_i1, mo_l1] at q9; exact q9) | (rw [(mo_un tf77)] at q9; exact q9)
          replace jf74 : (mo_R g27) w30.toInt < (mo_R g76) w30.toInt := by have q9 := jf74; first | (simp only [(mo_un tf77), mo_i1, mo_l1] at q9; exact q9) | (rw [(mo_un tf77)] at q9; exact q9)
          refine lv_iload hx hb dX12_nextPlaces_78 (lv_at hl 1 rfl) ?_
          refine lv_iload hx hb dX12_nextPlaces_80 (lv_at hl 0 rfl) ?_
          refine lv_icmp_ge (tgt := 102) hx hb dX12_nextPlaces_82 (by decide) (fun c78 => ?_) (fun c78 => ?_)
          · have ic78 : w65.toInt ≥ w64.toInt := zi_ge rfl rfl c78
            refine lv_iconst (v := 1) hx hb dX12_nextPlaces_102 (by decide) ?_
            exact W.zret (v := 1) hx hb hr rfl (fun t ht hW => ⟨⟨1, f68, rfl, ⟨hT, hR, (by first | decide | (first | omega | (have u0 := mo_un jf73; omega))), (by first | (simp only [(mo_un tf77), (mo_un tf28), mo_i1, mo_l1]; exact (show mo_PM (mo_R g76) v.toInt ∧ mo_VL (mo_R g27) v.toInt.toNat ≤ mo_VL (mo_R g76) v.toInt.toNat ∧ ((1 : Int32).toInt ≠ 0 → mo_VL (mo_R g27) v.toInt.toNat < mo_VL (mo_R g76) v.toInt.toNat) from (have q7 := mo_lex (by (first | omega | (have u0 := mo_un jf73; omega))) (by (first | omega | (have u0 := mo_un jf73; omega))) jf73 jf74 hpm jf72 (by (first | omega | (have u0 := mo_un jf73; omega))); ⟨jf72, Int.le_of_lt q7, fun _ => q7⟩))) | (rw [(mo_un tf77), (mo_un tf28)]; exact (show mo_PM (mo_R g76) v.toInt ∧ mo_VL (mo_R g27) v.toInt.toNat ≤ mo_VL (mo_R g76) v.toInt.toNat ∧ ((1 : Int32).toInt ≠ 0 → mo_VL (mo_R g27) v.toInt.toNat < mo_VL (mo_R g76) v.toInt.toNat) from (have q7 := mo_lex (by (first | omega | (have u0 := mo_un jf73; omega))) (by (first | omega | (have u0 := mo_un jf73; omega))) jf73 jf74 hpm jf72 (by (first | omega | (have u0 := mo_un jf73; omega))); ⟨jf72, Int.le_of_lt q7, fun _ => q7⟩))))⟩, by rw [ht]; exact hP, va_K.moved hW.alike hK, hD⟩, hS.F ht⟩) hS.2.2 dX12_nextPlaces_103
          · have ic78 : w65.toInt < w64.toInt := zi_gef rfl rfl c78
            refine lv_aload_n hx hb dX12_nextPlaces_85 rfl (lv_at hl 4 rfl) ?_
            refine lv_iload hx hb dX12_nextPlaces_86 (lv_at hl 1 rfl) ?_
            refine lv_iload hx hb dX12_nextPlaces_88 (lv_at hl 0 rfl) ?_
            refine tpk_13 hT ht_h0 (fun o79_x0 o79_x1 o79_x7 o79_x9 o79_x10 o79_x11 o79_x12 o79_x13 o79_x14 o79_x15 o79_x16 o79_x17 o79_x18 o79_x19 o79_x20 o79_x22 o79_x25 o79_x28 o79_x29 o79_x32 o79_x33 o79_x34 o79_x35 o79_x36 o79_x37 o79_x38 o79_x47 o79_x48 hf_o79 ro79_0 ro79_1 ro79_2 ro79_3 ro79_4 ro79_5 ro79_6 ro79_7 ro79_8 ro79_9 ro79_10 ro79_11 ro79_12 ro79_13 => ?_)
            refine tpk_pos (tp_in hG ht_h0 (by decide)) hf_o79 (fun q80 eq80 => ?_)
            have hFc := tp_fr hD hS hA
            refine va_callv (va_runV (As := [.int w65, .int w64]) (rest := []) ⟨hx, hb, hml, hown, hts⟩ (t_X12_swapPlaces l dC dI _ κ τ ν ρ L f68 hG hT h0 w65 w64 ht_h0 (by first | decide | (first | omega | (have u0 := mo_un jf73; omega))) (by first | decide | (first | omega | (have u0 := mo_un jf73; omega)))) (cwV 2 hts gX12_nextPlaces_X12_swapPlaces rfl rfl rfl ⟨rfl, pd_X12_swapPlaces⟩ ⟨Nat.le_of_ble_eq_true rfl, Nat.le_of_ble_eq_true rfl⟩) ⟨pz_blind, va_recv hK hP (ci := 12) (q0 := q80) rfl eq80, pz_pre hP hK hD hN⟩ rfl rfl hl.1 rfl (lv_room (Nat.le_of_ble_eq_true rfl)) dX12_nextPlaces_90 ⟨Nat.le_of_ble_eq_true rfl, Nat.le_of_ble_eq_true rfl⟩) hS (fun q _ h => hFc q h) hFc (fun f83 t H1 locs ht hvm hw82 hB hz1 hk1 hS => ?_)
            refine tn_3 hw82 (fun hT hF84 hw82p => ?_); clear hw82
            have hR := hR.then hF84 (by decide)
            have hP := hB.1; rw [ht] at hP; have hD := tp_ad f83 hD; clear hB hFc hz1 hk1; subst ht; generalize t.heap = H at hP hS ⊢
            refine tpk_76 hT y21 (fun g86 hf_o85 => ?_)
            have tf87 : mo_hd (mo_i (f83 (ρ h0 46)) = g86) := tfa_i hf_o85
            have tk88 : mo_SW (mo_R g76) (mo_R g86) w65.toInt w64.toInt := by have q9 := hw82p; first | (simp only [(mo_un tf77), (mo_un tf87), mo_i1, mo_l1] at q9; exact q9) | (rw [(mo_un tf77), (mo_un tf87)] at q9; exact q9)
            clear hw82p
            obtain ⟨z89, ez89⟩ : ∃ y : Int32, y = w65 + 1 := ⟨_, rfl⟩
            refine lv_iinc (v := z89) (lv' := [(4, .int z89), (5, .int w64), (3, .int w45), (2, .int w30), (0, .ref h0), (1, .int v)]) hx hb dX12_nextPlaces_93 hl (k := 1) rfl (by rw [ez89]; rfl) (by decide) rfl (fun ls hl => ?_)
            have iz89 : z89.toInt = w65.toInt + 1 := zi_add ez89 rfl rfl (by (first | omega | (have u0 := mo_un jf73; omega))) (by (first | omega | (have u0 := mo_un jf73; omega)))
            obtain ⟨z90, ez90⟩ : ∃ y : Int32, y = w64 + (-1) := ⟨_, rfl⟩
            refine lv_iinc (v := z90) (lv' := [(5, .int z90), (4, .int z89), (3, .int w45), (2, .int w30), (0, .ref h0), (1, .int v)]) hx hb dX12_nextPlaces_96 hl (k := 1) rfl (by rw [ez90]; rfl) (by decide) rfl (fun ls hl => ?_)
            have iz90 : z90.toInt = w64.toInt + (-1) := zi_add ez90 rfl rfl (by (first | omega | (have u0 := mo_un jf73; omega))) (by (first | omega | (have u0 := mo_un jf73; omega)))
            refine lv_goto (tgt := 78) hx hb dX12_nextPlaces_99 (by decide) ?_
            exact ih70 _ _ _ _ (by rw [hn71]; (first | omega | (have u0 := mo_un jf73; omega))) ⟨f83, z90, z89, rfl, hT, hR, (by first | (simp only [(mo_un tf87), mo_i1, mo_l1]; exact (show mo_PM (mo_R g86) v.toInt from (jf72.sw tk88 (by (first | omega | (have u0 := mo_un jf73; omega))) (by (first | omega | (have u0 := mo_un jf73; omega))) (by (first | omega | (have u0 := mo_un jf73; omega))) (by (first | omega | (have u0 := mo_un jf73; omega)))))) | (rw [(mo_un tf87)]; exact (show mo_PM (mo_R g86) v.toInt from (jf72.sw tk88 (by (first | omega | (have u0 := mo_un jf73; omega))) (by (first | omega | (have u0 := mo_un jf73; omega))) (by (first | omega | (have u0 := mo_un jf73; omega))) (by (first | omega | (have u0 := mo_un jf73; omega))))))), (by first | (simp only [(mo_un tf87), mo_i1, mo_l1]; exact (show ∀ i, 0 ≤ i → i < w30.toInt → (mo_R g86) i = (mo_R g27) i from (fun i i0 i1 => (tk88.ne i0 (by (first | omega | (have u0 := mo_un jf73; omega))) (by (first | omega | (have u0 := mo_un jf73; omega)))).trans (jf73 i i0 i1)))) | (rw [(mo_un tf87)]; exact (show ∀ i, 0 ≤ i → i < w30.toInt → (mo_R g86) i = (mo_R g27) i from (fun i i0 i1 => (tk88.ne i0 (by (first | omega | (have u0 := mo_un jf73; omega))) (by (first | omega | (have u0 := mo_un jf73; omega)))).trans (jf73 i i0 i1))))), (by first | (simp only [(mo_un tf87), mo_i1, mo_l1]; exact (show (mo_R g27) w30.toInt < (mo_R g86) w30.toInt from (by rw [tk88.ne (by (first | omega | (have u0 := mo_un jf73; omega))) (by (first | omega | (have u0 := mo_un jf73; omega))) (by (first | omega | (have u0 := mo_un jf73; omega)))]; exact jf74))) | (rw [(mo_un tf87)]; exact (show (mo_R g27) w30.toInt < (mo_R g86) w30.toInt from (by rw [tk88.ne (by (first | omega | (have u0 := mo_un jf73; omega))) (by (first | omega | (have u0 := mo_un jf73; omega))) (by (first | omega | (have u0 := mo_un jf73; omega)))]; exact jf74)))), (by (first | omega | (have u0 := mo_un jf73; omega))), (by (first | omega | (have u0 := mo_un jf73; omega))), (by (first | omega | (have u0 := mo_un jf73; omega))), (by (first | omega | (have u0 := mo_un jf73; omega))), hP, hD, hS, lv_sub hl [0, 1, 2, 3, 4, 5] rfl⟩
        · have ic52 : z50.toInt < z51.toInt := zi_gef rfl rfl c52
          obtain ⟨z91, ez91⟩ : ∃ y : Int32, y = w45 + (-1) := ⟨_, rfl⟩
          refine lv_iinc (v := z91) (lv' := [(3, .int z91), (2, .int w30), (0, .ref h0), (1, .int v)]) hx hb dX12_nextPlaces_56 hl (k := 0) rfl (by rw [ez91]; rfl) (by decide) rfl (fun ls hl => ?_)
          have iz91 : z91.toInt = w45.toInt + (-1) := zi_add ez91 rfl rfl (by omega) (by omega)
          refine lv_goto (tgt := 41) hx hb dX12_nextPlaces_59 (by decide) ?_
          exact ih48 _ _ _ _ (by rw [hn49]; omega) ⟨z91, rfl, (by omega), (by rcases (show w45.toInt = w30.toInt + 1 ∨ w45.toInt ≠ w30.toInt + 1 by omega) with q9 | q9; (exfalso; have q8 : mo_R g27 w45.toInt = mo_R g27 (w30.toInt + 1) := congrArg (mo_R g27) q9; omega); omega), (by omega), hP, hD, hS, lv_sub hl [0, 1, 2, 3] rfl⟩
      · have ic43 : w30.toInt < 0 := zi_gef rfl rfl c43
        exfalso; omega
    · have ic42 : z39.toInt > z41.toInt := zi_lef rfl rfl c42
      obtain ⟨z92, ez92⟩ : ∃ y : Int32, y = w30 + (-1) := ⟨_, rfl⟩
      refine lv_iinc (v := z92) (lv' := [(2, .int z92), (0, .ref h0), (1, .int v)]) hx hb dX12_nextPlaces_25 hl (k := 0) rfl (by rw [ez92]; rfl) (by decide) rfl (fun ls hl => ?_)
      have iz92 : z92.toInt = w30.toInt + (-1) := zi_add ez92 rfl rfl (by omega) (by omega)
      refine lv_goto (tgt := 4) hx hb dX12_nextPlaces_28 (by decide) ?_
      exact ih32 _ _ _ _ (by rw [hn33]; omega) ⟨z92, rfl, (by omega), (by omega), hP, hD, hS, lv_sub hl [0, 1, 2] rfl⟩
