set_option maxHeartbeats 4000000 in
set_option maxRecDepth 100000 in
theorem t_X12_begin (l : Launch) (dC : Nat → ClassId) (dI : Nat → Nat → Nat) (sz : Nat) (κ : Nat → ClassId) (τ ν : Nat → Nat) (ρ : Nat → Nat → Nat) (L : List Nat) (f : Nat → va_E) (hG : tp_G τ ν ρ L) (hT : tp_T (mo_O κ) κ τ ν ρ f) (h0 : Nat) (ht_h0 : τ h0 = 13) : Met l yX12_begin wqX12_begin ({ frames := 4, cells := 0, slots := 0, locals := 1200 }) (va_Pc [.ref h0] (pz_B dC dI (tp_K κ) (va_pl L f) sz)) (va_Qv (fun (f1 : Nat → va_E) => tp_T (mo_O κ) κ τ ν ρ f1 ∧ tp_F τ [13] f f1 ∧ ((tp_fld (f1 h0) 10) ≤ (tp_fld (f1 h0) 11) ∧ (tp_fld (f1 h0) 11) ≤ (tp_fld (f1 h0) 9) ∧ ((tp_fld (f1 h0) 12) = 0 ∨ (tp_fld (f1 h0) 10) < (tp_fld (f1 h0) 11)) ∧ ((tp_fld (f1 h0) 12) = 1 → (tp_fld (f1 h0) 11) = (tp_fld (f1 h0) 10) + 1 → (mo_fj (f1 h0) 13) ≤ 26)) ∧ (tp_fld (f1 h0) 15) = 0 ∧ 0 ≤ (tp_fld (f1 h0) 10) ∧ (tp_fld (f1 h0) 9) = (tp_fld (f h0) 9)) (fun (f1 : Nat → va_E) (t : State) => pz_E dC dI (tp_K κ) (va_A (va_pl L f) sz) (va_pl L f1) t) (va_A (va_pl L f) sz)) 0 0 (va_A (va_pl L f) sz) := by
  refine Met.ofW (cc := cX12_begin) (maxL := 1) (ret := none) (by decide) rfl ?_
  intro p e s m args below meth c s₁ B hml hv
  obtain ⟨rfl, hsz, hP, hK, hD0, hN⟩ := hv
  have hx := B.exec
  have hb := B.bytes
  have hr := B.returns
  have hts := fun (w : Cond) (h : w ∈ WALL) => atoms_spec (ws := wqX12_begin) B.pre w (List.mem_cons_of_mem _ h)
  have hown : s.vm.findClass RX12 = some m.cls := findClass_of_methodNamed B.named
  have hlocks := B.notSynchronized
  subst hsz
  have hD := hD0.self (sz := s.heap.size)
  generalize hAe : va_A (va_pl L f) s.heap.size = A at hD ⊢
  have hA : ∀ q : Nat, s.heap.size ≤ q → A q := fun q h => by rw [← hAe]; exact Or.inr h
  have hS : va_S A s.heap s.heap [] := va_S.rf
  have hR : tp_F τ [13] f f := tp_F.rf
  have hl := lv_entry ([.ref h0]) (n := 1) (Nat.le_of_ble_eq_true rfl)
  rw [lg_entry_eq]
  generalize (lg_sl ([.ref h0]) ++ List.replicate (1 - (lg_sl ([.ref h0])).length) Slot.unset).toArray = ls at hl ⊢
  have hl : lv_has ls 1 [(0, .ref h0)] := hl
  obtain ⟨y1, y2, y3, y4, y5, y6, y7, y8, y9, y10, y11, y12, y13, y14, y15, y16, y17, y18, y19, y20, y21, y22, y23, y24, y25⟩ := tpg_13 hG ht_h0
  obtain ⟨o26_x0, o26_x1, o26_x7, o26_x9, o26_x10, o26_x11, o26_x12, o26_x13, o26_x14, o26_x15, o26_x16, o26_x17, o26_x18, o26_x19, o26_x20, o26_x22, o26_x25, o26_x28, o26_x29, o26_x32, o26_x33, o26_x34, o26_x35, o26_x36, o26_x37, o26_x38, o26_x47, o26_x48, hf_o26, ro26_0, ro26_1, ro26_2, ro26_3, ro26_4, ro26_5, ro26_6, ro26_7, ro26_8, ro26_9, ro26_10, ro26_11, ro26_12, ro26_13⟩ := tpo_13 hT ht_h0
  refine lv_aload_n hx hb dX12_begin_0 rfl (lv_at hl 0 rfl) ?_
  refine lv_iconst (v := 0) hx hb dX12_begin_1 (by decide) ?_
  obtain ⟨q27, eq27⟩ := tp_pos (tp_in hG ht_h0 (by decide)) hf_o26
  refine va_put (D := (dC, dI)) (ci := 12) (v := .int 0) (ty := .int) (C := RX12) (T := TX12) (N := 53) hx hb hts hfX12 tyX12 tyX12_ok nmX12 hown hK hP hD hS q27 eq27 rfl 11 (by decide) (hts (.fieldLink RX12 258 "ColdShipsModel" "to" "I") wa_1000) (fun _ h9 => h9) rfl (tyX12_ok 11 (by decide)) rfl rfl (Nat.le_of_ble_eq_true rfl) dX12_begin_2 (tp_k (.inr (12, [.int o26_x0, .int o26_x1, .ref (ρ h0 2), .ref (ρ h0 3), .ref (ρ h0 4), .ref (ρ h0 5), .ref (ρ h0 6), .int o26_x7, .ref (ρ h0 8), .int o26_x9, .int o26_x10, .int 0, .int o26_x12, .long o26_x13, .int o26_x14, .int o26_x15, .int o26_x16, .int o26_x17, .int o26_x18, .int o26_x19, .int o26_x20, .ref (ρ h0 21), .int o26_x22, .ref (ρ h0 23), .ref (ρ h0 24), .int o26_x25, .ref (ρ h0 26), .ref (ρ h0 27), .int o26_x28, .int o26_x29, .ref (ρ h0 30), .ref (ρ h0 31), .int o26_x32, .long o26_x33, .long o26_x34, .long o26_x35, .int o26_x36, .int o26_x37, .int o26_x38, .ref (ρ h0 39), .ref (ρ h0 40), .ref (ρ h0 41), .ref (ρ h0 42), .ref (ρ h0 43), .ref (ρ h0 44), .ref (ρ h0 45), .ref (ρ h0 46), .int o26_x47, .int o26_x48, .ref (ρ h0 49), .ref (ρ h0 50), .ref (ρ h0 51), .ref (ρ h0 52)])) hD (tp_in hG ht_h0 (by decide)) eq27 (fun f28 H locs hP hD hS g30 k29 => ?_))
  have hT := hT.up ht_h0 g30 k29 ⟨_, _, _, _, _, _, _, _, _, _, _, _, _, _, _, _, _, _, _, _, _, _, _, _, _, _, _, _, rfl, ro26_0, ro26_1, ro26_2, (by decide), ro26_4, ro26_5, ro26_6, ro26_7, ro26_8, ro26_9, ro26_10, ro26_11, ro26_12, ro26_13⟩
  have hR := hR.up ht_h0 (by decide) k29
  refine lv_aload_n hx hb dX12_begin_5 rfl (lv_at hl 0 rfl) ?_
  refine lv_iconst (v := 0) hx hb dX12_begin_6 (by decide) ?_
  obtain ⟨q31, eq31⟩ := tp_pos (tp_in hG ht_h0 (by decide)) g30
  refine va_put (D := (dC, dI)) (ci := 12) (v := .int 0) (ty := .boolean) (C := RX12) (T := TX12) (N := 53) hx hb hts hfX12 tyX12 tyX12_ok nmX12 hown hK hP hD hS q31 eq31 rfl 15 (by decide) (hts (.fieldLink RX12 261 "ColdShipsModel" "bad" "Z") wa_994) (fun _ h9 => h9) rfl (tyX12_ok 15 (by decide)) rfl rfl (Nat.le_of_ble_eq_true rfl) dX12_begin_7 (tp_k (.inr (12, [.int o26_x0, .int o26_x1, .ref (ρ h0 2), .ref (ρ h0 3), .ref (ρ h0 4), .ref (ρ h0 5), .ref (ρ h0 6), .int o26_x7, .ref (ρ h0 8), .int o26_x9, .int o26_x10, .int 0, .int o26_x12, .long o26_x13, .int o26_x14, .int 0, .int o26_x16, .int o26_x17, .int o26_x18, .int o26_x19, .int o26_x20, .ref (ρ h0 21), .int o26_x22, .ref (ρ h0 23), .ref (ρ h0 24), .int o26_x25, .ref (ρ h0 26), .ref (ρ h0 27), .int o26_x28, .int o26_x29, .ref (ρ h0 30), .ref (ρ h0 31), .int o26_x32, .long o26_x33, .long o26_x34, .long o26_x35, .int o26_x36, .int o26_x37, .int o26_x38, .ref (ρ h0 39), .ref (ρ h0 40), .ref (ρ h0 41), .ref (ρ h0 42), .ref (ρ h0 43), .ref (ρ h0 44), .ref (ρ h0 45), .ref (ρ h0 46), .int o26_x47, .int o26_x48, .ref (ρ h0 49), .ref (ρ h0 50), .ref (ρ h0 51), .ref (ρ h0 52)])) hD (tp_in hG ht_h0 (by decide)) eq31 (fun f32 H locs hP hD hS g34 k33 => ?_))
  have hT := hT.up ht_h0 g34 k33 ⟨_, _, _, _, _, _, _, _, _, _, _, _, _, _, _, _, _, _, _, _, _, _, _, _, _, _, _, _, rfl, ro26_0, ro26_1, ro26_2, (by decide), ro26_4, (by decide), ro26_6, ro26_7, ro26_8, ro26_9, ro26_10, ro26_11, ro26_12, ro26_13⟩
  have hR := hR.up ht_h0 (by decide) k33
  refine lv_aload_n hx hb dX12_begin_10 rfl (lv_at hl 0 rfl) ?_
  refine lv_iconst (v := (-1)) hx hb dX12_begin_11 (by decide) ?_
  obtain ⟨q35, eq35⟩ := tp_pos (tp_in hG ht_h0 (by decide)) g34
  refine va_put (D := (dC, dI)) (ci := 12) (v := .int (-1)) (ty := .int) (C := RX12) (T := TX12) (N := 53) hx hb hts hfX12 tyX12 tyX12_ok nmX12 hown hK hP hD hS q35 eq35 rfl 14 (by decide) (hts (.fieldLink RX12 30 "ColdShipsModel" "fault" "I") wa_155) (fun _ h9 => h9) rfl (tyX12_ok 14 (by decide)) rfl rfl (Nat.le_of_ble_eq_true rfl) dX12_begin_12 (tp_k (.inr (12, [.int o26_x0, .int o26_x1, .ref (ρ h0 2), .ref (ρ h0 3), .ref (ρ h0 4), .ref (ρ h0 5), .ref (ρ h0 6), .int o26_x7, .ref (ρ h0 8), .int o26_x9, .int o26_x10, .int 0, .int o26_x12, .long o26_x13, .int (-1), .int 0, .int o26_x16, .int o26_x17, .int o26_x18, .int o26_x19, .int o26_x20, .ref (ρ h0 21), .int o26_x22, .ref (ρ h0 23), .ref (ρ h0 24), .int o26_x25, .ref (ρ h0 26), .ref (ρ h0 27), .int o26_x28, .int o26_x29, .ref (ρ h0 30), .ref (ρ h0 31), .int o26_x32, .long o26_x33, .long o26_x34, .long o26_x35, .int o26_x36, .int o26_x37, .int o26_x38, .ref (ρ h0 39), .ref (ρ h0 40), .ref (ρ h0 41), .ref (ρ h0 42), .ref (ρ h0 43), .ref (ρ h0 44), .ref (ρ h0 45), .ref (ρ h0 46), .int o26_x47, .int o26_x48, .ref (ρ h0 49), .ref (ρ h0 50), .ref (ρ h0 51), .ref (ρ h0 52)])) hD (tp_in hG ht_h0 (by decide)) eq35 (fun f36 H locs hP hD hS g38 k37 => ?_))
  have hT := hT.up ht_h0 g38 k37 ⟨_, _, _, _, _, _, _, _, _, _, _, _, _, _, _, _, _, _, _, _, _, _, _, _, _, _, _, _, rfl, ro26_0, ro26_1, ro26_2, (by decide), ro26_4, (by decide), ro26_6, ro26_7, ro26_8, ro26_9, ro26_10, ro26_11, ro26_12, ro26_13⟩
  have hR := hR.up ht_h0 (by decide) k37
  refine lv_aload_n hx hb dX12_begin_15 rfl (lv_at hl 0 rfl) ?_
  obtain ⟨q39, eq39⟩ := tp_pos (tp_in hG ht_h0 (by decide)) g38
  have hFc := tp_fr hD hS hA
  refine va_callv (va_runV (As := []) (rest := []) ⟨hx, hb, hml, hown, hts⟩ (t_X12_next l dC dI _ κ τ ν ρ L f36 hG hT h0 ht_h0 (by simp only [g38, mo_i1, mo_l1]; exact (show 0 ≤ o26_x9.toInt from by first | omega | decide))) (cwV 0 hts gX12_begin_X12_next rfl rfl rfl ⟨rfl, pd_X12_next⟩ ⟨Nat.le_of_ble_eq_true rfl, Nat.le_of_ble_eq_true rfl⟩) ⟨pz_blind, va_recv hK hP (ci := 12) (q0 := q39) rfl eq39, pz_pre hP hK hD hN⟩ rfl rfl hl.1 rfl (lv_room (Nat.le_of_ble_eq_true rfl)) dX12_begin_16 ⟨Nat.le_of_ble_eq_true rfl, Nat.le_of_ble_eq_true rfl⟩) hS (fun q _ h => hFc q h) hFc (fun f42 t H1 locs ht hvm hw41 hB hz1 hk1 hS => ?_)
  obtain ⟨hT, hF43, hw41p⟩ := hw41
  have hR := hR.then hF43 (by decide)
  have hP := hB.1; rw [ht] at hP; have hD := tp_ad f42 hD; clear hB hFc hz1 hk1; subst ht; generalize t.heap = H at hP hS ⊢
  obtain ⟨o44_x0, o44_x1, o44_x7, o44_x9, o44_x10, o44_x11, o44_x12, o44_x13, o44_x14, o44_x15, o44_x16, o44_x17, o44_x18, o44_x19, o44_x20, o44_x22, o44_x25, o44_x28, o44_x29, o44_x32, o44_x33, o44_x34, o44_x35, o44_x36, o44_x37, o44_x38, o44_x47, o44_x48, hf_o44, ro44_0, ro44_1, ro44_2, ro44_3, ro44_4, ro44_5, ro44_6, ro44_7, ro44_8, ro44_9, ro44_10, ro44_11, ro44_12, ro44_13⟩ := tpo_13 hT ht_h0
  have tk45 : (o44_x10.toInt ≤ o44_x11.toInt ∧ o44_x11.toInt ≤ o44_x9.toInt ∧ (o44_x12.toInt = 0 ∨ o44_x10.toInt < o44_x11.toInt) ∧ (o44_x12.toInt = 1 → o44_x11.toInt = o44_x10.toInt + 1 → o44_x13.toInt ≤ 26)) ∧ 0 ≤ o44_x10.toInt ∧ o44_x9.toInt = o26_x9.toInt ∧ o44_x15.toInt = 0 ∧ o44_x19.toInt = o26_x19.toInt ∧ o44_x20.toInt = o26_x20.toInt ∧ o44_x22.toInt = o26_x22.toInt ∧ o44_x28.toInt = o26_x28.toInt := by have q9 := hw41p; simp only [hf_o44, g38, mo_i1, mo_l1] at q9; exact q9
  exact W.vret hx hb hr (fun t ht hW => ⟨⟨f42, rfl, ⟨hT, hR, (by simp only [hf_o44, hf_o26, mo_i1, mo_l1]; exact (show (o44_x10.toInt ≤ o44_x11.toInt ∧ o44_x11.toInt ≤ o44_x9.toInt ∧ (o44_x12.toInt = 0 ∨ o44_x10.toInt < o44_x11.toInt) ∧ (o44_x12.toInt = 1 → o44_x11.toInt = o44_x10.toInt + 1 → o44_x13.toInt ≤ 26)) ∧ o44_x15.toInt = 0 ∧ 0 ≤ o44_x10.toInt ∧ o44_x9.toInt = o26_x9.toInt from by first | omega | decide))⟩, by rw [ht]; exact hP, va_K.moved hW.alike hK, hD⟩, hS.F ht⟩) hS.2.2 dX12_begin_19
set_option maxHeartbeats 4000000 in
set_option maxRecDepth 100000 in
theorem t_X12_isWord (l : Launch) (dC : Nat → ClassId) (dI : Nat → Nat → Nat) (sz : Nat) (κ : Nat → ClassId) (τ ν : Nat → Nat) (ρ : Nat → Nat → Nat) (L : List Nat) (f : Nat → va_E) (hG : tp_G τ ν ρ L) (hT : tp_T (mo_O κ) κ τ ν ρ f) (h0 : Nat) (v : Int64) (ht_h0 : τ h0 = 13) : Met l yX12_isWord wqX12_isWord ({ frames := 2, cells := 0, slots := 0, locals := 400 }) (va_Pc [.ref h0, .long v] (pz_B dC dI (tp_K κ) (va_pl L f) sz)) (vp_Si (fun r => (0 ≤ r.toInt ∧ r.toInt ≤ 1) ∧ (r.toInt ≠ 0 → (tp_fld (f h0) 12) = 1 ∧ (mo_fj (f h0) 13) = v.toInt))) 0 0 (fun _ => False) := by
  refine Met.ofW (cc := cX12_isWord) (maxL := 3) (ret := some .boolean) (by decide) rfl ?_
  intro p e s m args below meth c s₁ B hml hv
  obtain ⟨rfl, hsz, hP, hK, hD0, hN⟩ := hv
  have hx := B.exec
  have hb := B.bytes
  have hr := B.returns
  have hts := fun (w : Cond) (h : w ∈ WALL) => atoms_spec (ws := wqX12_isWord) B.pre w (List.mem_cons_of_mem _ h)
  have hown : s.vm.findClass RX12 = some m.cls := findClass_of_methodNamed B.named
  have hlocks := B.notSynchronized
  subst hsz
  have hD := hD0
  have hS : va_S (fun _ => True) s.heap s.heap [] := va_S.rf
  have hl := lv_entry ([.ref h0, .long v]) (n := 3) (Nat.le_of_ble_eq_true rfl)
  rw [lg_entry_eq]
  generalize (lg_sl ([.ref h0, .long v]) ++ List.replicate (3 - (lg_sl ([.ref h0, .long v])).length) Slot.unset).toArray = ls at hl ⊢
  have hl : lv_has ls 3 [(0, .ref h0), (1, .long v)] := hl
  obtain ⟨y1, y2, y3, y4, y5, y6, y7, y8, y9, y10, y11, y12, y13, y14, y15, y16, y17, y18, y19, y20, y21, y22, y23, y24, y25⟩ := tpg_13 hG ht_h0
  obtain ⟨o26_x0, o26_x1, o26_x7, o26_x9, o26_x10, o26_x11, o26_x12, o26_x13, o26_x14, o26_x15, o26_x16, o26_x17, o26_x18, o26_x19, o26_x20, o26_x22, o26_x25, o26_x28, o26_x29, o26_x32, o26_x33, o26_x34, o26_x35, o26_x36, o26_x37, o26_x38, o26_x47, o26_x48, hf_o26, ro26_0, ro26_1, ro26_2, ro26_3, ro26_4, ro26_5, ro26_6, ro26_7, ro26_8, ro26_9, ro26_10, ro26_11, ro26_12, ro26_13⟩ := tpo_13 hT ht_h0
  refine lv_aload_n hx hb dX12_isWord_0 rfl (lv_at hl 0 rfl) ?_
  obtain ⟨q27, eq27⟩ := tp_pos (tp_in hG ht_h0 (by decide)) hf_o26
  refine va_get (D := (dC, dI)) (ci := 12) (v := .int o26_x12) (C := RX12) (T := TX12) (N := 53) hx hb hts hfX12 hown hK hP q27 eq27 rfl 12 (by decide) (hts (.fieldLink RX12 280 "ColdShipsModel" "sort" "I") wa_995) (fun _ h9 => h9) rfl dX12_isWord_1 ?_
  refine lv_iconst (v := 1) hx hb dX12_isWord_4 (by decide) ?_
  refine lv_icmp_ne (tgt := 21) hx hb dX12_isWord_5 (by decide) (fun c28 => ?_) (fun c28 => ?_)
  · have ic28 : o26_x12.toInt ≠ 1 := zi_ne rfl rfl c28
    refine lv_iconst (v := 0) hx hb dX12_isWord_21 (by decide) ?_
    exact W.zret (v := 0) hx hb hr rfl (fun t ht hW => ⟨0, rfl, ⟨(by first | decide | omega), (by simp only [hf_o26, mo_i1, mo_l1]; exact (show ((0 : Int32).toInt ≠ 0 → o26_x12.toInt = 1 ∧ o26_x13.toInt = v.toInt) from by have q8 : (0 : Int32).toInt = 0 := rfl; first | omega | decide))⟩, ht⟩) (fun _ h => by cases h) dX12_isWord_22
  · have ic28 : o26_x12.toInt = 1 := zi_nef rfl rfl c28
    refine lv_aload_n hx hb dX12_isWord_8 rfl (lv_at hl 0 rfl) ?_
    refine va_get (D := (dC, dI)) (ci := 12) (v := .long o26_x13) (C := RX12) (T := TX12) (N := 53) hx hb hts hfX12 hown hK hP q27 eq27 rfl 13 (by decide) (hts (.fieldLink RX12 270 "ColdShipsModel" "worth" "J") wa_1006) (fun _ h9 => h9) rfl dX12_isWord_9 ?_
    refine lv_lload_n hx hb dX12_isWord_12 rfl (lv_at hl 1 rfl) ?_
    refine W.lcmp hx hb dX12_isWord_13 ?_
    refine lv_if_ne (tgt := 21) hx hb dX12_isWord_14 (by decide) (fun c29 => ?_) (fun c29 => ?_)
    · have ic29 : o26_x13.toInt ≠ v.toInt := zl_ne rfl rfl c29
      refine lv_iconst (v := 0) hx hb dX12_isWord_21 (by decide) ?_
      exact W.zret (v := 0) hx hb hr rfl (fun t ht hW => ⟨0, rfl, ⟨(by first | decide | omega), (by simp only [hf_o26, mo_i1, mo_l1]; exact (show ((0 : Int32).toInt ≠ 0 → o26_x12.toInt = 1 ∧ o26_x13.toInt = v.toInt) from by have q8 : (0 : Int32).toInt = 0 := rfl; first | omega | decide))⟩, ht⟩) (fun _ h => by cases h) dX12_isWord_22
    · have ic29 : o26_x13.toInt = v.toInt := zl_nef rfl rfl c29
      refine lv_iconst (v := 1) hx hb dX12_isWord_17 (by decide) ?_
      refine lv_goto (tgt := 22) hx hb dX12_isWord_18 (by decide) ?_
      exact W.zret (v := 1) hx hb hr rfl (fun t ht hW => ⟨1, rfl, ⟨(by first | decide | omega), (by simp only [hf_o26, mo_i1, mo_l1]; exact (show ((1 : Int32).toInt ≠ 0 → o26_x12.toInt = 1 ∧ o26_x13.toInt = v.toInt) from by have q8 : (1 : Int32).toInt = 1 := rfl; first | omega | decide))⟩, ht⟩) (fun _ h => by cases h) dX12_isWord_22
set_option maxHeartbeats 4000000 in
set_option maxRecDepth 100000 in
theorem t_X12_isSign (l : Launch) (dC : Nat → ClassId) (dI : Nat → Nat → Nat) (sz : Nat) (κ : Nat → ClassId) (τ ν : Nat → Nat) (ρ : Nat → Nat → Nat) (L : List Nat) (f : Nat → va_E) (hG : tp_G τ ν ρ L) (hT : tp_T (mo_O κ) κ τ ν ρ f) (h0 : Nat) (v : Int32) (ht_h0 : τ h0 = 13) : Met l yX12_isSign wqX12_isSign ({ frames := 2, cells := 0, slots := 0, locals := 400 }) (va_Pc [.ref h0, .int v] (pz_B dC dI (tp_K κ) (va_pl L f) sz)) (vp_Si (fun r => (0 ≤ r.toInt ∧ r.toInt ≤ 1) ∧ (r.toInt ≠ 0 → (tp_fld (f h0) 12) = 3 ∧ (mo_fj (f h0) 13) = v.toInt))) 0 0 (fun _ => False) := by
  refine Met.ofW (cc := cX12_isSign) (maxL := 2) (ret := some .boolean) (by decide) rfl ?_
  intro p e s m args below meth c s₁ B hml hv
  obtain ⟨rfl, hsz, hP, hK, hD0, hN⟩ := hv
  have hx := B.exec
  have hb := B.bytes
  have hr := B.returns
  have hts := fun (w : Cond) (h : w ∈ WALL) => atoms_spec (ws := wqX12_isSign) B.pre w (List.mem_cons_of_mem _ h)
  have hown : s.vm.findClass RX12 = some m.cls := findClass_of_methodNamed B.named
  have hlocks := B.notSynchronized
  subst hsz
  have hD := hD0
  have hS : va_S (fun _ => True) s.heap s.heap [] := va_S.rf
  have hl := lv_entry ([.ref h0, .int v]) (n := 2) (Nat.le_of_ble_eq_true rfl)
  rw [lg_entry_eq]
  generalize (lg_sl ([.ref h0, .int v]) ++ List.replicate (2 - (lg_sl ([.ref h0, .int v])).length) Slot.unset).toArray = ls at hl ⊢
  have hl : lv_has ls 2 [(0, .ref h0), (1, .int v)] := hl
  obtain ⟨y1, y2, y3, y4, y5, y6, y7, y8, y9, y10, y11, y12, y13, y14, y15, y16, y17, y18, y19, y20, y21, y22, y23, y24, y25⟩ := tpg_13 hG ht_h0
  obtain ⟨o26_x0, o26_x1, o26_x7, o26_x9, o26_x10, o26_x11, o26_x12, o26_x13, o26_x14, o26_x15, o26_x16, o26_x17, o26_x18, o26_x19, o26_x20, o26_x22, o26_x25, o26_x28, o26_x29, o26_x32, o26_x33, o26_x34, o26_x35, o26_x36, o26_x37, o26_x38, o26_x47, o26_x48, hf_o26, ro26_0, ro26_1, ro26_2, ro26_3, ro26_4, ro26_5, ro26_6, ro26_7, ro26_8, ro26_9, ro26_10, ro26_11, ro26_12, ro26_13⟩ := tpo_13 hT ht_h0
  refine lv_aload_n hx hb dX12_isSign_0 rfl (lv_at hl 0 rfl) ?_
  obtain ⟨q27, eq27⟩ := tp_pos (tp_in hG ht_h0 (by decide)) hf_o26
  refine va_get (D := (dC, dI)) (ci := 12) (v := .int o26_x12) (C := RX12) (T := TX12) (N := 53) hx hb hts hfX12 hown hK hP q27 eq27 rfl 12 (by decide) (hts (.fieldLink RX12 280 "ColdShipsModel" "sort" "I") wa_995) (fun _ h9 => h9) rfl dX12_isSign_1 ?_
  refine lv_iconst (v := 3) hx hb dX12_isSign_4 (by decide) ?_
  refine lv_icmp_ne (tgt := 22) hx hb dX12_isSign_5 (by decide) (fun c28 => ?_) (fun c28 => ?_)
  · have ic28 : o26_x12.toInt ≠ 3 := zi_ne rfl rfl c28
    refine lv_iconst (v := 0) hx hb dX12_isSign_22 (by decide) ?_
    exact W.zret (v := 0) hx hb hr rfl (fun t ht hW => ⟨0, rfl, ⟨(by first | decide | omega), (by simp only [hf_o26, mo_i1, mo_l1]; exact (show ((0 : Int32).toInt ≠ 0 → o26_x12.toInt = 3 ∧ o26_x13.toInt = v.toInt) from by have q8 : (0 : Int32).toInt = 0 := rfl; first | omega | decide))⟩, ht⟩) (fun _ h => by cases h) dX12_isSign_23
  · have ic28 : o26_x12.toInt = 3 := zi_nef rfl rfl c28
    refine lv_aload_n hx hb dX12_isSign_8 rfl (lv_at hl 0 rfl) ?_
    refine va_get (D := (dC, dI)) (ci := 12) (v := .long o26_x13) (C := RX12) (T := TX12) (N := 53) hx hb hts hfX12 hown hK hP q27 eq27 rfl 13 (by decide) (hts (.fieldLink RX12 270 "ColdShipsModel" "worth" "J") wa_1006) (fun _ h9 => h9) rfl dX12_isSign_9 ?_
    refine lv_iload_n hx hb dX12_isSign_12 rfl (lv_at hl 1 rfl) ?_
    refine lv_i2l hx hb dX12_isSign_13 rfl ?_
    refine W.lcmp hx hb dX12_isSign_14 ?_
    refine lv_if_ne (tgt := 22) hx hb dX12_isSign_15 (by decide) (fun c29 => ?_) (fun c29 => ?_)
    · have ic29 : o26_x13.toInt ≠ v.toInt := zl_ne rfl (Int32.toInt_toInt64 v) c29
      refine lv_iconst (v := 0) hx hb dX12_isSign_22 (by decide) ?_
      exact W.zret (v := 0) hx hb hr rfl (fun t ht hW => ⟨0, rfl, ⟨(by first | decide | omega), (by simp only [hf_o26, mo_i1, mo_l1]; exact (show ((0 : Int32).toInt ≠ 0 → o26_x12.toInt = 3 ∧ o26_x13.toInt = v.toInt) from by have q8 : (0 : Int32).toInt = 0 := rfl; first | omega | decide))⟩, ht⟩) (fun _ h => by cases h) dX12_isSign_23
    · have ic29 : o26_x13.toInt = v.toInt := zl_nef rfl (Int32.toInt_toInt64 v) c29
      refine lv_iconst (v := 1) hx hb dX12_isSign_18 (by decide) ?_
      refine lv_goto (tgt := 23) hx hb dX12_isSign_19 (by decide) ?_
      exact W.zret (v := 1) hx hb hr rfl (fun t ht hW => ⟨1, rfl, ⟨(by first | decide | omega), (by simp only [hf_o26, mo_i1, mo_l1]; exact (show ((1 : Int32).toInt ≠ 0 → o26_x12.toInt = 3 ∧ o26_x13.toInt = v.toInt) from by have q8 : (1 : Int32).toInt = 1 := rfl; first | omega | decide))⟩, ht⟩) (fun _ h => by cases h) dX12_isSign_23
set_option maxHeartbeats 4000000 in
set_option maxRecDepth 100000 in
theorem t_X12_must (l : Launch) (dC : Nat → ClassId) (dI : Nat → Nat → Nat) (sz : Nat) (κ : Nat → ClassId) (τ ν : Nat → Nat) (ρ : Nat → Nat → Nat) (L : List Nat) (f : Nat → va_E) (hG : tp_G τ ν ρ L) (hT : tp_T (mo_O κ) κ τ ν ρ f) (h0 : Nat) (v : Int32) (ht_h0 : τ h0 = 13) (hr_v : 0 ≤ v.toInt ∧ v.toInt ≤ 1) (h1 : ((tp_fld (f h0) 10) ≤ (tp_fld (f h0) 11) ∧ (tp_fld (f h0) 11) ≤ (tp_fld (f h0) 9) ∧ ((tp_fld (f h0) 12) = 0 ∨ (tp_fld (f h0) 10) < (tp_fld (f h0) 11)) ∧ ((tp_fld (f h0) 12) = 1 → (tp_fld (f h0) 11) = (tp_fld (f h0) 10) + 1 → (mo_fj (f h0) 13) ≤ 26))) : Met l yX12_must wqX12_must ({ frames := 4, cells := 0, slots := 0, locals := 1200 }) (va_Pc [.ref h0, .int v] (pz_B dC dI (tp_K κ) (va_pl L f) sz)) (va_Qv (fun (f1 : Nat → va_E) => tp_T (mo_O κ) κ τ ν ρ f1 ∧ tp_F τ [13] f f1 ∧ ((tp_fld (f1 h0) 10) ≤ (tp_fld (f1 h0) 11) ∧ (tp_fld (f1 h0) 11) ≤ (tp_fld (f1 h0) 9) ∧ ((tp_fld (f1 h0) 12) = 0 ∨ (tp_fld (f1 h0) 10) < (tp_fld (f1 h0) 11)) ∧ ((tp_fld (f1 h0) 12) = 1 → (tp_fld (f1 h0) 11) = (tp_fld (f1 h0) 10) + 1 → (mo_fj (f1 h0) 13) ≤ 26)) ∧ ((tp_fld (f1 h0) 15) = 0 → (tp_fld (f h0) 15) = 0 ∧ (tp_fld (f h0) 11) ≤ (tp_fld (f1 h0) 10) ∧ v.toInt ≠ 0) ∧ ((tp_fld (f1 h0) 15) ≠ 0 → (tp_fld (f1 h0) 10) = (tp_fld (f h0) 10)) ∧ (tp_fld (f1 h0) 9) = (tp_fld (f h0) 9) ∧ (tp_fld (f1 h0) 19) = (tp_fld (f h0) 19) ∧ (tp_fld (f1 h0) 20) = (tp_fld (f h0) 20) ∧ (tp_fld (f1 h0) 22) = (tp_fld (f h0) 22) ∧ (tp_fld (f1 h0) 28) = (tp_fld (f h0) 28)) (fun (f1 : Nat → va_E) (t : State) => pz_E dC dI (tp_K κ) (va_A (va_pl L f) sz) (va_pl L f1) t) (va_A (va_pl L f) sz)) 0 0 (va_A (va_pl L f) sz) := by
  refine Met.ofW (cc := cX12_must) (maxL := 2) (ret := none) (by decide) rfl ?_
  intro p e s m args below meth c s₁ B hml hv
  obtain ⟨rfl, hsz, hP, hK, hD0, hN⟩ := hv
  have hx := B.exec
  have hb := B.bytes
  have hr := B.returns
  have hts := fun (w : Cond) (h : w ∈ WALL) => atoms_spec (ws := wqX12_must) B.pre w (List.mem_cons_of_mem _ h)
  have hown : s.vm.findClass RX12 = some m.cls := findClass_of_methodNamed B.named
  have hlocks := B.notSynchronized
  subst hsz
  have hD := hD0.self (sz := s.heap.size)
  generalize hAe : va_A (va_pl L f) s.heap.size = A at hD ⊢
  have hA : ∀ q : Nat, s.heap.size ≤ q → A q := fun q h => by rw [← hAe]; exact Or.inr h
  have hS : va_S A s.heap s.heap [] := va_S.rf
  have hR : tp_F τ [13] f f := tp_F.rf
  have hl := lv_entry ([.ref h0, .int v]) (n := 2) (Nat.le_of_ble_eq_true rfl)
  rw [lg_entry_eq]
  generalize (lg_sl ([.ref h0, .int v]) ++ List.replicate (2 - (lg_sl ([.ref h0, .int v])).length) Slot.unset).toArray = ls at hl ⊢
  have hl : lv_has ls 2 [(0, .ref h0), (1, .int v)] := hl
  obtain ⟨y1, y2, y3, y4, y5, y6, y7, y8, y9, y10, y11, y12, y13, y14, y15, y16, y17, y18, y19, y20, y21, y22, y23, y24, y25⟩ := tpg_13 hG ht_h0
  obtain ⟨o26_x0, o26_x1, o26_x7, o26_x9, o26_x10, o26_x11, o26_x12, o26_x13, o26_x14, o26_x15, o26_x16, o26_x17, o26_x18, o26_x19, o26_x20, o26_x22, o26_x25, o26_x28, o26_x29, o26_x32, o26_x33, o26_x34, o26_x35, o26_x36, o26_x37, o26_x38, o26_x47, o26_x48, hf_o26, ro26_0, ro26_1, ro26_2, ro26_3, ro26_4, ro26_5, ro26_6, ro26_7, ro26_8, ro26_9, ro26_10, ro26_11, ro26_12, ro26_13⟩ := tpo_13 hT ht_h0
  have h1 : (o26_x10.toInt ≤ o26_x11.toInt ∧ o26_x11.toInt ≤ o26_x9.toInt ∧ (o26_x12.toInt = 0 ∨ o26_x10.toInt < o26_x11.toInt) ∧ (o26_x12.toInt = 1 → o26_x11.toInt = o26_x10.toInt + 1 → o26_x13.toInt ≤ 26)) := by have q9 := h1; simp only [hf_o26, mo_i1, mo_l1] at q9; exact q9
  refine lv_aload_n hx hb dX12_must_0 rfl (lv_at hl 0 rfl) ?_
  obtain ⟨q27, eq27⟩ := tp_pos (tp_in hG ht_h0 (by decide)) hf_o26
  refine va_get (D := (dC, dI)) (ci := 12) (v := .int o26_x15) (C := RX12) (T := TX12) (N := 53) hx hb hts hfX12 hown hK hP q27 eq27 rfl 15 (by decide) (hts (.fieldLink RX12 261 "ColdShipsModel" "bad" "Z") wa_994) (fun _ h9 => h9) rfl dX12_must_1 ?_
  refine lv_if_ne (tgt := 24) hx hb dX12_must_4 (by decide) (fun c28 => ?_) (fun c28 => ?_)
  · have ic28 : o26_x15.toInt ≠ 0 := zi_ne rfl rfl c28
    refine lv_aload_n hx hb dX12_must_24 rfl (lv_at hl 0 rfl) ?_
    refine va_get (D := (dC, dI)) (ci := 12) (v := .int o26_x15) (C := RX12) (T := TX12) (N := 53) hx hb hts hfX12 hown hK hP q27 eq27 rfl 15 (by decide) (hts (.fieldLink RX12 261 "ColdShipsModel" "bad" "Z") wa_994) (fun _ h9 => h9) rfl dX12_must_25 ?_
    refine lv_if_ne (tgt := 35) hx hb dX12_must_28 (by decide) (fun c29 => ?_) (fun c29 => ?_)
    · have ic29 : o26_x15.toInt ≠ 0 := zi_ne rfl rfl c29
      exact W.vret hx hb hr (fun t ht hW => ⟨⟨f, rfl, ⟨hT, hR, (by simp only [hf_o26, mo_i1, mo_l1]; exact (show (o26_x10.toInt ≤ o26_x11.toInt ∧ o26_x11.toInt ≤ o26_x9.toInt ∧ (o26_x12.toInt = 0 ∨ o26_x10.toInt < o26_x11.toInt) ∧ (o26_x12.toInt = 1 → o26_x11.toInt = o26_x10.toInt + 1 → o26_x13.toInt ≤ 26)) ∧ (o26_x15.toInt = 0 → o26_x15.toInt = 0 ∧ o26_x11.toInt ≤ o26_x10.toInt ∧ v.toInt ≠ 0) ∧ (o26_x15.toInt ≠ 0 → o26_x10.toInt = o26_x10.toInt) ∧ o26_x9.toInt = o26_x9.toInt ∧ o26_x19.toInt = o26_x19.toInt ∧ o26_x20.toInt = o26_x20.toInt ∧ o26_x22.toInt = o26_x22.toInt ∧ o26_x28.toInt = o26_x28.toInt from by first | omega | decide))⟩, by rw [ht]; exact hP, va_K.moved hW.alike hK, hD⟩, hS.F ht⟩) hS.2.2 dX12_must_35
    · have ic29 : o26_x15.toInt = 0 := zi_nef rfl rfl c29
      exfalso; omega
  · have ic28 : o26_x15.toInt = 0 := zi_nef rfl rfl c28
    refine lv_iload_n hx hb dX12_must_7 rfl (lv_at hl 1 rfl) ?_
    refine lv_if_ne (tgt := 24) hx hb dX12_must_8 (by decide) (fun c30 => ?_) (fun c30 => ?_)
    · have ic30 : v.toInt ≠ 0 := zi_ne rfl rfl c30
      refine lv_aload_n hx hb dX12_must_24 rfl (lv_at hl 0 rfl) ?_
      refine va_get (D := (dC, dI)) (ci := 12) (v := .int o26_x15) (C := RX12) (T := TX12) (N := 53) hx hb hts hfX12 hown hK hP q27 eq27 rfl 15 (by decide) (hts (.fieldLink RX12 261 "ColdShipsModel" "bad" "Z") wa_994) (fun _ h9 => h9) rfl dX12_must_25 ?_
      refine lv_if_ne (tgt := 35) hx hb dX12_must_28 (by decide) (fun c31 => ?_) (fun c31 => ?_)
      · have ic31 : o26_x15.toInt ≠ 0 := zi_ne rfl rfl c31
        exfalso; omega
      · have ic31 : o26_x15.toInt = 0 := zi_nef rfl rfl c31
        refine lv_aload_n hx hb dX12_must_31 rfl (lv_at hl 0 rfl) ?_
        have hFc := tp_fr hD hS hA
        refine va_callv (va_runV (As := []) (rest := []) ⟨hx, hb, hml, hown, hts⟩ (t_X12_next l dC dI _ κ τ ν ρ L f hG hT h0 ht_h0 (by simp only [hf_o26, mo_i1, mo_l1]; exact (show o26_x11.toInt ≤ o26_x9.toInt from by first | omega | decide))) (cwV 0 hts gX12_must_X12_next rfl rfl rfl ⟨rfl, pd_X12_next⟩ ⟨Nat.le_of_ble_eq_true rfl, Nat.le_of_ble_eq_true rfl⟩) ⟨pz_blind, va_recv hK hP (ci := 12) (q0 := q27) rfl eq27, pz_pre hP hK hD hN⟩ rfl rfl hl.1 rfl (lv_room (Nat.le_of_ble_eq_true rfl)) dX12_must_32 ⟨Nat.le_of_ble_eq_true rfl, Nat.le_of_ble_eq_true rfl⟩) hS (fun q _ h => hFc q h) hFc (fun f34 t H1 locs ht hvm hw33 hB hz1 hk1 hS => ?_)
        obtain ⟨hT, hF35, hw33p⟩ := hw33
        have hR := hR.then hF35 (by decide)
        have hP := hB.1; rw [ht] at hP; have hD := tp_ad f34 hD; clear hB hFc hz1 hk1; subst ht; generalize t.heap = H at hP hS ⊢
        obtain ⟨o36_x0, o36_x1, o36_x7, o36_x9, o36_x10, o36_x11, o36_x12, o36_x13, o36_x14, o36_x15, o36_x16, o36_x17, o36_x18, o36_x19, o36_x20, o36_x22, o36_x25, o36_x28, o36_x29, o36_x32, o36_x33, o36_x34, o36_x35, o36_x36, o36_x37, o36_x38, o36_x47, o36_x48, hf_o36, ro36_0, ro36_1, ro36_2, ro36_3, ro36_4, ro36_5, ro36_6, ro36_7, ro36_8, ro36_9, ro36_10, ro36_11, ro36_12, ro36_13⟩ := tpo_13 hT ht_h0
        have tk37 : (o36_x10.toInt ≤ o36_x11.toInt ∧ o36_x11.toInt ≤ o36_x9.toInt ∧ (o36_x12.toInt = 0 ∨ o36_x10.toInt < o36_x11.toInt) ∧ (o36_x12.toInt = 1 → o36_x11.toInt = o36_x10.toInt + 1 → o36_x13.toInt ≤ 26)) ∧ o26_x11.toInt ≤ o36_x10.toInt ∧ o36_x9.toInt = o26_x9.toInt ∧ o36_x15.toInt = o26_x15.toInt ∧ o36_x19.toInt = o26_x19.toInt ∧ o36_x20.toInt = o26_x20.toInt ∧ o36_x22.toInt = o26_x22.toInt ∧ o36_x28.toInt = o26_x28.toInt := by have q9 := hw33p; simp only [hf_o36, hf_o26, mo_i1, mo_l1] at q9; exact q9
        exact W.vret hx hb hr (fun t ht hW => ⟨⟨f34, rfl, ⟨hT, hR, (by simp only [hf_o36, hf_o26, mo_i1, mo_l1]; exact (show (o36_x10.toInt ≤ o36_x11.toInt ∧ o36_x11.toInt ≤ o36_x9.toInt ∧ (o36_x12.toInt = 0 ∨ o36_x10.toInt < o36_x11.toInt) ∧ (o36_x12.toInt = 1 → o36_x11.toInt = o36_x10.toInt + 1 → o36_x13.toInt ≤ 26)) ∧ (o36_x15.toInt = 0 → o26_x15.toInt = 0 ∧ o26_x11.toInt ≤ o36_x10.toInt ∧ v.toInt ≠ 0) ∧ (o36_x15.toInt ≠ 0 → o36_x10.toInt = o26_x10.toInt) ∧ o36_x9.toInt = o26_x9.toInt ∧ o36_x19.toInt = o26_x19.toInt ∧ o36_x20.toInt = o26_x20.toInt ∧ o36_x22.toInt = o26_x22.toInt ∧ o36_x28.toInt = o26_x28.toInt from by first | omega | decide))⟩, by rw [ht]; exact hP, va_K.moved hW.alike hK, hD⟩, hS.F ht⟩) hS.2.2 dX12_must_35
    · have ic30 : v.toInt = 0 := zi_nef rfl rfl c30
      refine lv_aload_n hx hb dX12_must_11 rfl (lv_at hl 0 rfl) ?_
      refine lv_iconst (v := 1) hx hb dX12_must_12 (by decide) ?_
      refine va_put (D := (dC, dI)) (ci := 12) (v := .int 1) (ty := .boolean) (C := RX12) (T := TX12) (N := 53) hx hb hts hfX12 tyX12 tyX12_ok nmX12 hown hK hP hD hS q27 eq27 rfl 15 (by decide) (hts (.fieldLink RX12 261 "ColdShipsModel" "bad" "Z") wa_994) (fun _ h9 => h9) rfl (tyX12_ok 15 (by decide)) rfl rfl (Nat.le_of_ble_eq_true rfl) dX12_must_13 (tp_k (.inr (12, [.int o26_x0, .int o26_x1, .ref (ρ h0 2), .ref (ρ h0 3), .ref (ρ h0 4), .ref (ρ h0 5), .ref (ρ h0 6), .int o26_x7, .ref (ρ h0 8), .int o26_x9, .int o26_x10, .int o26_x11, .int o26_x12, .long o26_x13, .int o26_x14, .int 1, .int o26_x16, .int o26_x17, .int o26_x18, .int o26_x19, .int o26_x20, .ref (ρ h0 21), .int o26_x22, .ref (ρ h0 23), .ref (ρ h0 24), .int o26_x25, .ref (ρ h0 26), .ref (ρ h0 27), .int o26_x28, .int o26_x29, .ref (ρ h0 30), .ref (ρ h0 31), .int o26_x32, .long o26_x33, .long o26_x34, .long o26_x35, .int o26_x36, .int o26_x37, .int o26_x38, .ref (ρ h0 39), .ref (ρ h0 40), .ref (ρ h0 41), .ref (ρ h0 42), .ref (ρ h0 43), .ref (ρ h0 44), .ref (ρ h0 45), .ref (ρ h0 46), .int o26_x47, .int o26_x48, .ref (ρ h0 49), .ref (ρ h0 50), .ref (ρ h0 51), .ref (ρ h0 52)])) hD (tp_in hG ht_h0 (by decide)) eq27 (fun f38 H locs hP hD hS g40 k39 => ?_))
      have hT := hT.up ht_h0 g40 k39 ⟨_, _, _, _, _, _, _, _, _, _, _, _, _, _, _, _, _, _, _, _, _, _, _, _, _, _, _, _, rfl, ro26_0, ro26_1, ro26_2, ro26_3, ro26_4, (by decide), ro26_6, ro26_7, ro26_8, ro26_9, ro26_10, ro26_11, ro26_12, ro26_13⟩
      have hR := hR.up ht_h0 (by decide) k39
      refine lv_aload_n hx hb dX12_must_16 rfl (lv_at hl 0 rfl) ?_
      refine lv_aload_n hx hb dX12_must_17 rfl (lv_at hl 0 rfl) ?_
      obtain ⟨q41, eq41⟩ := tp_pos (tp_in hG ht_h0 (by decide)) g40
      refine va_get (D := (dC, dI)) (ci := 12) (v := .int o26_x10) (C := RX12) (T := TX12) (N := 53) hx hb hts hfX12 hown hK hP q41 eq41 rfl 10 (by decide) (hts (.fieldLink RX12 267 "ColdShipsModel" "from" "I") wa_1005) (fun _ h9 => h9) rfl dX12_must_18 ?_
      refine va_put (D := (dC, dI)) (ci := 12) (v := .int o26_x10) (ty := .int) (C := RX12) (T := TX12) (N := 53) hx hb hts hfX12 tyX12 tyX12_ok nmX12 hown hK hP hD hS q41 eq41 rfl 14 (by decide) (hts (.fieldLink RX12 30 "ColdShipsModel" "fault" "I") wa_155) (fun _ h9 => h9) rfl (tyX12_ok 14 (by decide)) rfl rfl (Nat.le_of_ble_eq_true rfl) dX12_must_21 (tp_k (.inr (12, [.int o26_x0, .int o26_x1, .ref (ρ h0 2), .ref (ρ h0 3), .ref (ρ h0 4), .ref (ρ h0 5), .ref (ρ h0 6), .int o26_x7, .ref (ρ h0 8), .int o26_x9, .int o26_x10, .int o26_x11, .int o26_x12, .long o26_x13, .int o26_x10, .int 1, .int o26_x16, .int o26_x17, .int o26_x18, .int o26_x19, .int o26_x20, .ref (ρ h0 21), .int o26_x22, .ref (ρ h0 23), .ref (ρ h0 24), .int o26_x25, .ref (ρ h0 26), .ref (ρ h0 27), .int o26_x28, .int o26_x29, .ref (ρ h0 30), .ref (ρ h0 31), .int o26_x32, .long o26_x33, .long o26_x34, .long o26_x35, .int o26_x36, .int o26_x37, .int o26_x38, .ref (ρ h0 39), .ref (ρ h0 40), .ref (ρ h0 41), .ref (ρ h0 42), .ref (ρ h0 43), .ref (ρ h0 44), .ref (ρ h0 45), .ref (ρ h0 46), .int o26_x47, .int o26_x48, .ref (ρ h0 49), .ref (ρ h0 50), .ref (ρ h0 51), .ref (ρ h0 52)])) hD (tp_in hG ht_h0 (by decide)) eq41 (fun f42 H locs hP hD hS g44 k43 => ?_))
      have hT := hT.up ht_h0 g44 k43 ⟨_, _, _, _, _, _, _, _, _, _, _, _, _, _, _, _, _, _, _, _, _, _, _, _, _, _, _, _, rfl, ro26_0, ro26_1, ro26_2, ro26_3, ro26_4, (by decide), ro26_6, ro26_7, ro26_8, ro26_9, ro26_10, ro26_11, ro26_12, ro26_13⟩
      have hR := hR.up ht_h0 (by decide) k43
      refine lv_aload_n hx hb dX12_must_24 rfl (lv_at hl 0 rfl) ?_
      obtain ⟨q45, eq45⟩ := tp_pos (tp_in hG ht_h0 (by decide)) g44
      refine va_get (D := (dC, dI)) (ci := 12) (v := .int 1) (C := RX12) (T := TX12) (N := 53) hx hb hts hfX12 hown hK hP q45 eq45 rfl 15 (by decide) (hts (.fieldLink RX12 261 "ColdShipsModel" "bad" "Z") wa_994) (fun _ h9 => h9) rfl dX12_must_25 ?_
      refine lv_if_ne (tgt := 35) hx hb dX12_must_28 (by decide) (fun _ => ?_) (fun c9 => absurd c9 (by decide))
      exact W.vret hx hb hr (fun t ht hW => ⟨⟨f42, rfl, ⟨hT, hR, (by simp only [g44, hf_o26, mo_i1, mo_l1]; exact (show (o26_x10.toInt ≤ o26_x11.toInt ∧ o26_x11.toInt ≤ o26_x9.toInt ∧ (o26_x12.toInt = 0 ∨ o26_x10.toInt < o26_x11.toInt) ∧ (o26_x12.toInt = 1 → o26_x11.toInt = o26_x10.toInt + 1 → o26_x13.toInt ≤ 26)) ∧ (1 = 0 → o26_x15.toInt = 0 ∧ o26_x11.toInt ≤ o26_x10.toInt ∧ v.toInt ≠ 0) ∧ (1 ≠ 0 → o26_x10.toInt = o26_x10.toInt) ∧ o26_x9.toInt = o26_x9.toInt ∧ o26_x19.toInt = o26_x19.toInt ∧ o26_x20.toInt = o26_x20.toInt ∧ o26_x22.toInt = o26_x22.toInt ∧ o26_x28.toInt = o26_x28.toInt from by first | omega | decide))⟩, by rw [ht]; exact hP, va_K.moved hW.alike hK, hD⟩, hS.F ht⟩) hS.2.2 dX12_must_35
set_option maxHeartbeats 4000000 in
set_option maxRecDepth 100000 in
theorem t_X12_number (l : Launch) (dC : Nat → ClassId) (dI : Nat → Nat → Nat) (sz : Nat) (κ : Nat → ClassId) (τ ν : Nat → Nat) (ρ : Nat → Nat → Nat) (L : List Nat) (f : Nat → va_E) (hG : tp_G τ ν ρ L) (hT : tp_T (mo_O κ) κ τ ν ρ f) (h0 : Nat) (v : Int64) (u : Int64) (ht_h0 : τ h0 = 13) (h1 : ((tp_fld (f h0) 10) ≤ (tp_fld (f h0) 11) ∧ (tp_fld (f h0) 11) ≤ (tp_fld (f h0) 9) ∧ ((tp_fld (f h0) 12) = 0 ∨ (tp_fld (f h0) 10) < (tp_fld (f h0) 11)) ∧ ((tp_fld (f h0) 12) = 1 → (tp_fld (f h0) 11) = (tp_fld (f h0) 10) + 1 → (mo_fj (f h0) 13) ≤ 26))) : Met l yX12_number wqX12_number ({ frames := 5, cells := 0, slots := 0, locals := 1600 }) (va_Pc [.ref h0, .long v, .long u] (pz_B dC dI (tp_K κ) (va_pl L f) sz)) (va_Qi (fun (r : Int32) (f1 : Nat → va_E) => tp_T (mo_O κ) κ τ ν ρ f1 ∧ tp_F τ [13] f f1 ∧ True ∧ ((tp_fld (f1 h0) 10) ≤ (tp_fld (f1 h0) 11) ∧ (tp_fld (f1 h0) 11) ≤ (tp_fld (f1 h0) 9) ∧ ((tp_fld (f1 h0) 12) = 0 ∨ (tp_fld (f1 h0) 10) < (tp_fld (f1 h0) 11)) ∧ ((tp_fld (f1 h0) 12) = 1 → (tp_fld (f1 h0) 11) = (tp_fld (f1 h0) 10) + 1 → (mo_fj (f1 h0) 13) ≤ 26)) ∧ ((tp_fld (f1 h0) 15) = 0 → (tp_fld (f h0) 15) = 0 ∧ (tp_fld (f h0) 11) ≤ (tp_fld (f1 h0) 10)) ∧ ((tp_fld (f1 h0) 15) ≠ 0 → (tp_fld (f1 h0) 10) = (tp_fld (f h0) 10)) ∧ (tp_fld (f1 h0) 9) = (tp_fld (f h0) 9) ∧ (tp_fld (f1 h0) 19) = (tp_fld (f h0) 19) ∧ (tp_fld (f1 h0) 20) = (tp_fld (f h0) 20) ∧ (tp_fld (f1 h0) 22) = (tp_fld (f h0) 22) ∧ (tp_fld (f1 h0) 28) = (tp_fld (f h0) 28)) (fun (f1 : Nat → va_E) (t : State) => pz_E dC dI (tp_K κ) (va_A (va_pl L f) sz) (va_pl L f1) t) (va_A (va_pl L f) sz)) 0 0 (va_A (va_pl L f) sz) := by
  refine Met.ofW (cc := cX12_number) (maxL := 6) (ret := some .int) (by decide) rfl ?_
  intro p e s m args below meth c s₁ B hml hv
  obtain ⟨rfl, hsz, hP, hK, hD0, hN⟩ := hv
  have hx := B.exec
  have hb := B.bytes
  have hr := B.returns
  have hts := fun (w : Cond) (h : w ∈ WALL) => atoms_spec (ws := wqX12_number) B.pre w (List.mem_cons_of_mem _ h)
  have hown : s.vm.findClass RX12 = some m.cls := findClass_of_methodNamed B.named
  have hlocks := B.notSynchronized
  subst hsz
  have hD := hD0.self (sz := s.heap.size)
  generalize hAe : va_A (va_pl L f) s.heap.size = A at hD ⊢
  have hA : ∀ q : Nat, s.heap.size ≤ q → A q := fun q h => by rw [← hAe]; exact Or.inr h
  have hS : va_S A s.heap s.heap [] := va_S.rf
  have hR : tp_F τ [13] f f := tp_F.rf
  have hl := lv_entry ([.ref h0, .long v, .long u]) (n := 6) (Nat.le_of_ble_eq_true rfl)
  rw [lg_entry_eq]
  generalize (lg_sl ([.ref h0, .long v, .long u]) ++ List.replicate (6 - (lg_sl ([.ref h0, .long v, .long u])).length) Slot.unset).toArray = ls at hl ⊢
  have hl : lv_has ls 6 [(0, .ref h0), (1, .long v), (3, .long u)] := hl
  obtain ⟨y1, y2, y3, y4, y5, y6, y7, y8, y9, y10, y11, y12, y13, y14, y15, y16, y17, y18, y19, y20, y21, y22, y23, y24, y25⟩ := tpg_13 hG ht_h0
  obtain ⟨o26_x0, o26_x1, o26_x7, o26_x9, o26_x10, o26_x11, o26_x12, o26_x13, o26_x14, o26_x15, o26_x16, o26_x17, o26_x18, o26_x19, o26_x20, o26_x22, o26_x25, o26_x28, o26_x29, o26_x32, o26_x33, o26_x34, o26_x35, o26_x36, o26_x37, o26_x38, o26_x47, o26_x48, hf_o26, ro26_0, ro26_1, ro26_2, ro26_3, ro26_4, ro26_5, ro26_6, ro26_7, ro26_8, ro26_9, ro26_10, ro26_11, ro26_12, ro26_13⟩ := tpo_13 hT ht_h0
  have h1 : (o26_x10.toInt ≤ o26_x11.toInt ∧ o26_x11.toInt ≤ o26_x9.toInt ∧ (o26_x12.toInt = 0 ∨ o26_x10.toInt < o26_x11.toInt) ∧ (o26_x12.toInt = 1 → o26_x11.toInt = o26_x10.toInt + 1 → o26_x13.toInt ≤ 26)) := by have q9 := h1; simp only [hf_o26, mo_i1, mo_l1] at q9; exact q9
  refine lv_aload_n hx hb dX12_number_0 rfl (lv_at hl 0 rfl) ?_
  obtain ⟨q27, eq27⟩ := tp_pos (tp_in hG ht_h0 (by decide)) hf_o26
  refine va_get (D := (dC, dI)) (ci := 12) (v := .long o26_x13) (C := RX12) (T := TX12) (N := 53) hx hb hts hfX12 hown hK hP q27 eq27 rfl 13 (by decide) (hts (.fieldLink RX12 270 "ColdShipsModel" "worth" "J") wa_1006) (fun _ h9 => h9) rfl dX12_number_1 ?_
  refine lv_l2i hx hb dX12_number_4 rfl ?_
  refine lv_topi (fun z28 ez28 => ?_)
  refine lv_istore (lv' := [(5, .int z28), (0, .ref h0), (1, .long v), (3, .long u)]) hx hb dX12_number_5 hl (by decide) rfl (fun ls hl => ?_)
  refine lv_aload_n hx hb dX12_number_7 rfl (lv_at hl 1 rfl) ?_
  refine lv_aload_n hx hb dX12_number_8 rfl (lv_at hl 1 rfl) ?_
  refine va_get (D := (dC, dI)) (ci := 12) (v := .int o26_x12) (C := RX12) (T := TX12) (N := 53) hx hb hts hfX12 hown hK hP q27 eq27 rfl 12 (by decide) (hts (.fieldLink RX12 280 "ColdShipsModel" "sort" "I") wa_995) (fun _ h9 => h9) rfl dX12_number_9 ?_
  refine lv_iconst (v := 2) hx hb dX12_number_12 (by decide) ?_
  refine lv_icmp_ne (tgt := 32) hx hb dX12_number_13 (by decide) (fun c29 => ?_) (fun c29 => ?_)
  · have ic29 : o26_x12.toInt ≠ 2 := zi_ne rfl rfl c29
    refine lv_iconst (v := 0) hx hb dX12_number_32 (by decide) ?_
    have hFc := tp_fr hD hS hA
    refine va_callv (va_runV (As := [.int 0]) (rest := []) ⟨hx, hb, hml, hown, hts⟩ (t_X12_must l dC dI _ κ τ ν ρ L f hG hT h0 (0) ht_h0 (by first | decide | omega) (by simp only [hf_o26, mo_i1, mo_l1]; exact (show (o26_x10.toInt ≤ o26_x11.toInt ∧ o26_x11.toInt ≤ o26_x9.toInt ∧ (o26_x12.toInt = 0 ∨ o26_x10.toInt < o26_x11.toInt) ∧ (o26_x12.toInt = 1 → o26_x11.toInt = o26_x10.toInt + 1 → o26_x13.toInt ≤ 26)) from by have : (0 : Int32).toInt = 0 := rfl; first | omega | decide))) (cwV 1 hts gX12_number_X12_must rfl rfl rfl ⟨rfl, pd_X12_must⟩ ⟨Nat.le_of_ble_eq_true rfl, Nat.le_of_ble_eq_true rfl⟩) ⟨pz_blind, va_recv hK hP (ci := 12) (q0 := q27) rfl eq27, pz_pre hP hK hD hN⟩ rfl rfl hl.1 rfl (lv_room (Nat.le_of_ble_eq_true rfl)) dX12_number_33 ⟨Nat.le_of_ble_eq_true rfl, Nat.le_of_ble_eq_true rfl⟩) hS (fun q _ h => hFc q h) hFc (fun f32 t H1 locs ht hvm hw31 hB hz1 hk1 hS => ?_)
    obtain ⟨hT, hF33, hw31p⟩ := hw31
    have hR := hR.then hF33 (by decide)
    have hP := hB.1; rw [ht] at hP; have hD := tp_ad f32 hD; clear hB hFc hz1 hk1; subst ht; generalize t.heap = H at hP hS ⊢
    obtain ⟨o34_x0, o34_x1, o34_x7, o34_x9, o34_x10, o34_x11, o34_x12, o34_x13, o34_x14, o34_x15, o34_x16, o34_x17, o34_x18, o34_x19, o34_x20, o34_x22, o34_x25, o34_x28, o34_x29, o34_x32, o34_x33, o34_x34, o34_x35, o34_x36, o34_x37, o34_x38, o34_x47, o34_x48, hf_o34, ro34_0, ro34_1, ro34_2, ro34_3, ro34_4, ro34_5, ro34_6, ro34_7, ro34_8, ro34_9, ro34_10, ro34_11, ro34_12, ro34_13⟩ := tpo_13 hT ht_h0
    have tk35 : (o34_x10.toInt ≤ o34_x11.toInt ∧ o34_x11.toInt ≤ o34_x9.toInt ∧ (o34_x12.toInt = 0 ∨ o34_x10.toInt < o34_x11.toInt) ∧ (o34_x12.toInt = 1 → o34_x11.toInt = o34_x10.toInt + 1 → o34_x13.toInt ≤ 26)) ∧ (o34_x15.toInt = 0 → o26_x15.toInt = 0 ∧ o26_x11.toInt ≤ o34_x10.toInt ∧ (0) ≠ 0) ∧ (o34_x15.toInt ≠ 0 → o34_x10.toInt = o26_x10.toInt) ∧ o34_x9.toInt = o26_x9.toInt ∧ o34_x19.toInt = o26_x19.toInt ∧ o34_x20.toInt = o26_x20.toInt ∧ o34_x22.toInt = o26_x22.toInt ∧ o34_x28.toInt = o26_x28.toInt := by have q9 := hw31p; simp only [hf_o34, hf_o26, mo_i1, mo_l1] at q9; exact q9
    refine lv_iload hx hb dX12_number_36 (lv_at hl 0 rfl) ?_
    exact W.iret (v := z28) hx hb hr (fun t ht hW => ⟨⟨z28, f32, rfl, ⟨hT, hR, trivial, (by simp only [hf_o34, hf_o26, mo_i1, mo_l1]; exact (show (o34_x10.toInt ≤ o34_x11.toInt ∧ o34_x11.toInt ≤ o34_x9.toInt ∧ (o34_x12.toInt = 0 ∨ o34_x10.toInt < o34_x11.toInt) ∧ (o34_x12.toInt = 1 → o34_x11.toInt = o34_x10.toInt + 1 → o34_x13.toInt ≤ 26)) ∧ (o34_x15.toInt = 0 → o26_x15.toInt = 0 ∧ o26_x11.toInt ≤ o34_x10.toInt) ∧ (o34_x15.toInt ≠ 0 → o34_x10.toInt = o26_x10.toInt) ∧ o34_x9.toInt = o26_x9.toInt ∧ o34_x19.toInt = o26_x19.toInt ∧ o34_x20.toInt = o26_x20.toInt ∧ o34_x22.toInt = o26_x22.toInt ∧ o34_x28.toInt = o26_x28.toInt from by first | omega | decide))⟩, by rw [ht]; exact hP, va_K.moved hW.alike hK, hD⟩, hS.F ht⟩) hS.2.2 dX12_number_38
  · have ic29 : o26_x12.toInt = 2 := zi_nef rfl rfl c29
    refine lv_aload_n hx hb dX12_number_16 rfl (lv_at hl 1 rfl) ?_
    refine va_get (D := (dC, dI)) (ci := 12) (v := .long o26_x13) (C := RX12) (T := TX12) (N := 53) hx hb hts hfX12 hown hK hP q27 eq27 rfl 13 (by decide) (hts (.fieldLink RX12 270 "ColdShipsModel" "worth" "J") wa_1006) (fun _ h9 => h9) rfl dX12_number_17 ?_
    refine lv_lload_n hx hb dX12_number_20 rfl (lv_at hl 2 rfl) ?_
    refine lv_lload_n hx hb dX12_number_21 rfl (lv_at hl 3 rfl) ?_
    refine pz_calli (va_runS (As := [.long o26_x13, .long v, .long u]) (rest := [.ref h0]) ⟨hx, hb, hml, hown, hts⟩ (t_X12_in l dC dI _ o26_x13 v u (o26_x13.toInt) (v.toInt) (u.toInt) rfl rfl rfl) (va_cwS 3 hts gX12_number_X12_in rfl rfl rfl pd_X12_in ⟨Nat.le_of_ble_eq_true rfl, Nat.le_of_ble_eq_true rfl⟩) ⟨pz_blind, pz_pre pz_P0 (hK.sub (tys' := []) [] rfl) (pz_D0 (A := fun _ => True)) hN⟩ rfl rfl hl.1 rfl (lv_room (Nat.le_of_ble_eq_true rfl)) dX12_number_22 ⟨Nat.le_of_ble_eq_true rfl, Nat.le_of_ble_eq_true rfl⟩) (fun r36 hw37 => ?_)
    obtain ⟨hw37r, hw37p⟩ := hw37
    refine lv_if_eq (tgt := 32) hx hb dX12_number_25 (by decide) (fun c38 => ?_) (fun c38 => ?_)
    · have ic38 : r36.toInt = 0 := zi_eq rfl rfl c38
      refine lv_iconst (v := 0) hx hb dX12_number_32 (by decide) ?_
      have hFc := tp_fr hD hS hA
      refine va_callv (va_runV (As := [.int 0]) (rest := []) ⟨hx, hb, hml, hown, hts⟩ (t_X12_must l dC dI _ κ τ ν ρ L f hG hT h0 (0) ht_h0 (by first | decide | omega) (by simp only [hf_o26, mo_i1, mo_l1]; exact (show (o26_x10.toInt ≤ o26_x11.toInt ∧ o26_x11.toInt ≤ o26_x9.toInt ∧ (o26_x12.toInt = 0 ∨ o26_x10.toInt < o26_x11.toInt) ∧ (o26_x12.toInt = 1 → o26_x11.toInt = o26_x10.toInt + 1 → o26_x13.toInt ≤ 26)) from by have : (0 : Int32).toInt = 0 := rfl; first | omega | decide))) (cwV 1 hts gX12_number_X12_must rfl rfl rfl ⟨rfl, pd_X12_must⟩ ⟨Nat.le_of_ble_eq_true rfl, Nat.le_of_ble_eq_true rfl⟩) ⟨pz_blind, va_recv hK hP (ci := 12) (q0 := q27) rfl eq27, pz_pre hP hK hD hN⟩ rfl rfl hl.1 rfl (lv_room (Nat.le_of_ble_eq_true rfl)) dX12_number_33 ⟨Nat.le_of_ble_eq_true rfl, Nat.le_of_ble_eq_true rfl⟩) hS (fun q _ h => hFc q h) hFc (fun f41 t H1 locs ht hvm hw40 hB hz1 hk1 hS => ?_)
      obtain ⟨hT, hF42, hw40p⟩ := hw40
      have hR := hR.then hF42 (by decide)
      have hP := hB.1; rw [ht] at hP; have hD := tp_ad f41 hD; clear hB hFc hz1 hk1; subst ht; generalize t.heap = H at hP hS ⊢
      obtain ⟨o43_x0, o43_x1, o43_x7, o43_x9, o43_x10, o43_x11, o43_x12, o43_x13, o43_x14, o43_x15, o43_x16, o43_x17, o43_x18, o43_x19, o43_x20, o43_x22, o43_x25, o43_x28, o43_x29, o43_x32, o43_x33, o43_x34, o43_x35, o43_x36, o43_x37, o43_x38, o43_x47, o43_x48, hf_o43, ro43_0, ro43_1, ro43_2, ro43_3, ro43_4, ro43_5, ro43_6, ro43_7, ro43_8, ro43_9, ro43_10, ro43_11, ro43_12, ro43_13⟩ := tpo_13 hT ht_h0
      have tk44 : (o43_x10.toInt ≤ o43_x11.toInt ∧ o43_x11.toInt ≤ o43_x9.toInt ∧ (o43_x12.toInt = 0 ∨ o43_x10.toInt < o43_x11.toInt) ∧ (o43_x12.toInt = 1 → o43_x11.toInt = o43_x10.toInt + 1 → o43_x13.toInt ≤ 26)) ∧ (o43_x15.toInt = 0 → o26_x15.toInt = 0 ∧ o26_x11.toInt ≤ o43_x10.toInt ∧ (0) ≠ 0) ∧ (o43_x15.toInt ≠ 0 → o43_x10.toInt = o26_x10.toInt) ∧ o43_x9.toInt = o26_x9.toInt ∧ o43_x19.toInt = o26_x19.toInt ∧ o43_x20.toInt = o26_x20.toInt ∧ o43_x22.toInt = o26_x22.toInt ∧ o43_x28.toInt = o26_x28.toInt := by have q9 := hw40p; simp only [hf_o43, hf_o26, mo_i1, mo_l1] at q9; exact q9
      refine lv_iload hx hb dX12_number_36 (lv_at hl 0 rfl) ?_
      exact W.iret (v := z28) hx hb hr (fun t ht hW => ⟨⟨z28, f41, rfl, ⟨hT, hR, trivial, (by simp only [hf_o43, hf_o26, mo_i1, mo_l1]; exact (show (o43_x10.toInt ≤ o43_x11.toInt ∧ o43_x11.toInt ≤ o43_x9.toInt ∧ (o43_x12.toInt = 0 ∨ o43_x10.toInt < o43_x11.toInt) ∧ (o43_x12.toInt = 1 → o43_x11.toInt = o43_x10.toInt + 1 → o43_x13.toInt ≤ 26)) ∧ (o43_x15.toInt = 0 → o26_x15.toInt = 0 ∧ o26_x11.toInt ≤ o43_x10.toInt) ∧ (o43_x15.toInt ≠ 0 → o43_x10.toInt = o26_x10.toInt) ∧ o43_x9.toInt = o26_x9.toInt ∧ o43_x19.toInt = o26_x19.toInt ∧ o43_x20.toInt = o26_x20.toInt ∧ o43_x22.toInt = o26_x22.toInt ∧ o43_x28.toInt = o26_x28.toInt from by first | omega | decide))⟩, by rw [ht]; exact hP, va_K.moved hW.alike hK, hD⟩, hS.F ht⟩) hS.2.2 dX12_number_38
    · have ic38 : r36.toInt ≠ 0 := zi_eqf rfl rfl c38
      have p45 : (v.toInt) ≤ (o26_x13.toInt) ∧ (o26_x13.toInt) ≤ (u.toInt) := (tp_cond.yes hw37p) (by omega)
      refine lv_iconst (v := 1) hx hb dX12_number_28 (by decide) ?_
      refine lv_goto (tgt := 33) hx hb dX12_number_29 (by decide) ?_
      have hFc := tp_fr hD hS hA
      refine va_callv (va_runV (As := [.int 1]) (rest := []) ⟨hx, hb, hml, hown, hts⟩ (t_X12_must l dC dI _ κ τ ν ρ L f hG hT h0 (1) ht_h0 (by first | decide | omega) (by simp only [hf_o26, mo_i1, mo_l1]; exact (show (o26_x10.toInt ≤ o26_x11.toInt ∧ o26_x11.toInt ≤ o26_x9.toInt ∧ (o26_x12.toInt = 0 ∨ o26_x10.toInt < o26_x11.toInt) ∧ (o26_x12.toInt = 1 → o26_x11.toInt = o26_x10.toInt + 1 → o26_x13.toInt ≤ 26)) from by have : (1 : Int32).toInt = 1 := rfl; first | omega | decide))) (cwV 1 hts gX12_number_X12_must rfl rfl rfl ⟨rfl, pd_X12_must⟩ ⟨Nat.le_of_ble_eq_true rfl, Nat.le_of_ble_eq_true rfl⟩) ⟨pz_blind, va_recv hK hP (ci := 12) (q0 := q27) rfl eq27, pz_pre hP hK hD hN⟩ rfl rfl hl.1 rfl (lv_room (Nat.le_of_ble_eq_true rfl)) dX12_number_33 ⟨Nat.le_of_ble_eq_true rfl, Nat.le_of_ble_eq_true rfl⟩) hS (fun q _ h => hFc q h) hFc (fun f48 t H1 locs ht hvm hw47 hB hz1 hk1 hS => ?_)
      obtain ⟨hT, hF49, hw47p⟩ := hw47
      have hR := hR.then hF49 (by decide)
      have hP := hB.1; rw [ht] at hP; have hD := tp_ad f48 hD; clear hB hFc hz1 hk1; subst ht; generalize t.heap = H at hP hS ⊢
      obtain ⟨o50_x0, o50_x1, o50_x7, o50_x9, o50_x10, o50_x11, o50_x12, o50_x13, o50_x14, o50_x15, o50_x16, o50_x17, o50_x18, o50_x19, o50_x20, o50_x22, o50_x25, o50_x28, o50_x29, o50_x32, o50_x33, o50_x34, o50_x35, o50_x36, o50_x37, o50_x38, o50_x47, o50_x48, hf_o50, ro50_0, ro50_1, ro50_2, ro50_3, ro50_4, ro50_5, ro50_6, ro50_7, ro50_8, ro50_9, ro50_10, ro50_11, ro50_12, ro50_13⟩ := tpo_13 hT ht_h0
      have tk51 : (o50_x10.toInt ≤ o50_x11.toInt ∧ o50_x11.toInt ≤ o50_x9.toInt ∧ (o50_x12.toInt = 0 ∨ o50_x10.toInt < o50_x11.toInt) ∧ (o50_x12.toInt = 1 → o50_x11.toInt = o50_x10.toInt + 1 → o50_x13.toInt ≤ 26)) ∧ (o50_x15.toInt = 0 → o26_x15.toInt = 0 ∧ o26_x11.toInt ≤ o50_x10.toInt ∧ (1) ≠ 0) ∧ (o50_x15.toInt ≠ 0 → o50_x10.toInt = o26_x10.toInt) ∧ o50_x9.toInt = o26_x9.toInt ∧ o50_x19.toInt = o26_x19.toInt ∧ o50_x20.toInt = o26_x20.toInt ∧ o50_x22.toInt = o26_x22.toInt ∧ o50_x28.toInt = o26_x28.toInt := by have q9 := hw47p; simp only [hf_o50, hf_o26, mo_i1, mo_l1] at q9; exact q9
      refine lv_iload hx hb dX12_number_36 (lv_at hl 0 rfl) ?_
      exact W.iret (v := z28) hx hb hr (fun t ht hW => ⟨⟨z28, f48, rfl, ⟨hT, hR, trivial, (by simp only [hf_o50, hf_o26, mo_i1, mo_l1]; exact (show (o50_x10.toInt ≤ o50_x11.toInt ∧ o50_x11.toInt ≤ o50_x9.toInt ∧ (o50_x12.toInt = 0 ∨ o50_x10.toInt < o50_x11.toInt) ∧ (o50_x12.toInt = 1 → o50_x11.toInt = o50_x10.toInt + 1 → o50_x13.toInt ≤ 26)) ∧ (o50_x15.toInt = 0 → o26_x15.toInt = 0 ∧ o26_x11.toInt ≤ o50_x10.toInt) ∧ (o50_x15.toInt ≠ 0 → o50_x10.toInt = o26_x10.toInt) ∧ o50_x9.toInt = o26_x9.toInt ∧ o50_x19.toInt = o26_x19.toInt ∧ o50_x20.toInt = o26_x20.toInt ∧ o50_x22.toInt = o26_x22.toInt ∧ o50_x28.toInt = o26_x28.toInt from by first | omega | decide))⟩, by rw [ht]; exact hP, va_K.moved hW.alike hK, hD⟩, hS.F ht⟩) hS.2.2 dX12_number_38
set_option maxHeartbeats 4000000 in
set_option maxRecDepth 100000 in
theorem t_X12_emit (l : Launch) (dC : Nat → ClassId) (dI : Nat → Nat → Nat) (sz : Nat) (κ : Nat → ClassId) (τ ν : Nat → Nat) (ρ : Nat → Nat → Nat) (L : List Nat) (f : Nat → va_E) (hG : tp_G τ ν ρ L) (hT : tp_T (mo_O κ) κ τ ν ρ f) (h0 : Nat) (v : Int32) (u : Int32) (ht_h0 : τ h0 = 13) (h22 : (tp_fld (f h0) 22) < 400) : Met l yX12_emit wqX12_emit ({ frames := 2, cells := 0, slots := 0, locals := 400 }) (va_Pc [.ref h0, .int v, .int u] (pz_B dC dI (tp_K κ) (va_pl L f) sz)) (va_Qv (fun (f1 : Nat → va_E) => tp_T (mo_O κ) κ τ ν ρ f1 ∧ tp_F τ [13, 53, 54] f f1 ∧ mo_U (mo_R (mo_i (f (ρ h0 23)))) (mo_R (mo_i (f1 (ρ h0 23)))) (tp_fld (f h0) 22) v.toInt ∧ mo_U (mo_R (mo_i (f (ρ h0 24)))) (mo_R (mo_i (f1 (ρ h0 24)))) (tp_fld (f h0) 22) u.toInt ∧ (tp_fld (f1 h0) 22) = (tp_fld (f h0) 22) + 1 ∧ (tp_fld (f1 h0) 9) = (tp_fld (f h0) 9) ∧ (tp_fld (f1 h0) 10) = (tp_fld (f h0) 10) ∧ (tp_fld (f1 h0) 11) = (tp_fld (f h0) 11) ∧ (tp_fld (f1 h0) 12) = (tp_fld (f h0) 12) ∧ (mo_fj (f1 h0) 13) = (mo_fj (f h0) 13) ∧ (tp_fld (f1 h0) 15) = (tp_fld (f h0) 15) ∧ (tp_fld (f1 h0) 19) = (tp_fld (f h0) 19) ∧ (tp_fld (f1 h0) 20) = (tp_fld (f h0) 20) ∧ (tp_fld (f1 h0) 28) = (tp_fld (f h0) 28)) (fun (f1 : Nat → va_E) (t : State) => pz_E dC dI (tp_K κ) (va_A (va_pl L f) sz) (va_pl L f1) t) (va_A (va_pl L f) sz)) 0 0 (va_A (va_pl L f) sz) := by
  refine Met.ofW (cc := cX12_emit) (maxL := 3) (ret := none) (by decide) rfl ?_
  intro p e s m args below meth c s₁ B hml hv
  obtain ⟨rfl, hsz, hP, hK, hD0, hN⟩ := hv
  have hx := B.exec
  have hb := B.bytes
  have hr := B.returns
  have hts := fun (w : Cond) (h : w ∈ WALL) => atoms_spec (ws := wqX12_emit) B.pre w (List.mem_cons_of_mem _ h)
  have hown : s.vm.findClass RX12 = some m.cls := findClass_of_methodNamed B.named
  have hlocks := B.notSynchronized
  subst hsz
  have hD := hD0.self (sz := s.heap.size)
  generalize hAe : va_A (va_pl L f) s.heap.size = A at hD ⊢
  have hA : ∀ q : Nat, s.heap.size ≤ q → A q := fun q h => by rw [← hAe]; exact Or.inr h
  have hS : va_S A s.heap s.heap [] := va_S.rf
  have hR : tp_F τ [13, 53, 54] f f := tp_F.rf
  have hl := lv_entry ([.ref h0, .int v, .int u]) (n := 3) (Nat.le_of_ble_eq_true rfl)
  rw [lg_entry_eq]
  generalize (lg_sl ([.ref h0, .int v, .int u]) ++ List.replicate (3 - (lg_sl ([.ref h0, .int v, .int u])).length) Slot.unset).toArray = ls at hl ⊢
  have hl : lv_has ls 3 [(0, .ref h0), (1, .int v), (2, .int u)] := hl
  obtain ⟨y1, y2, y3, y4, y5, y6, y7, y8, y9, y10, y11, y12, y13, y14, y15, y16, y17, y18, y19, y20, y21, y22, y23, y24, y25⟩ := tpg_13 hG ht_h0
  obtain ⟨g27, hf_o26⟩ := tpo_53 hT y8
  obtain ⟨g29, hf_o28⟩ := tpo_54 hT y9
  obtain ⟨o30_x0, o30_x1, o30_x7, o30_x9, o30_x10, o30_x11, o30_x12, o30_x13, o30_x14, o30_x15, o30_x16, o30_x17, o30_x18, o30_x19, o30_x20, o30_x22, o30_x25, o30_x28, o30_x29, o30_x32, o30_x33, o30_x34, o30_x35, o30_x36, o30_x37, o30_x38, o30_x47, o30_x48, hf_o30, ro30_0, ro30_1, ro30_2, ro30_3, ro30_4, ro30_5, ro30_6, ro30_7, ro30_8, ro30_9, ro30_10, ro30_11, ro30_12, ro30_13⟩ := tpo_13 hT ht_h0
  have h22 : o30_x22.toInt < 400 := by have q9 := h22; simp only [hf_o30, mo_i1, mo_l1] at q9; exact q9
  refine lv_aload_n hx hb dX12_emit_0 rfl (lv_at hl 0 rfl) ?_
  obtain ⟨q31, eq31⟩ := tp_pos (tp_in hG ht_h0 (by decide)) hf_o30
  refine va_get (D := (dC, dI)) (ci := 12) (v := .ref (ρ h0 23)) (C := RX12) (T := TX12) (N := 53) hx hb hts hfX12 hown hK hP q31 eq31 rfl 23 (by decide) (hts (.fieldLink RX12 37 "ColdShipsModel" "nOp" "[I") wa_157) (fun _ h9 => h9) rfl dX12_emit_1 ?_
  refine lv_aload_n hx hb dX12_emit_4 rfl (lv_at hl 0 rfl) ?_
  refine va_get (D := (dC, dI)) (ci := 12) (v := .int o30_x22) (C := RX12) (T := TX12) (N := 53) hx hb hts hfX12 hown hK hP q31 eq31 rfl 22 (by decide) (hts (.fieldLink RX12 297 "ColdShipsModel" "nCode" "I") wa_989) (fun _ h9 => h9) rfl dX12_emit_5 ?_
  refine lv_iload_n hx hb dX12_emit_8 rfl (lv_at hl 1 rfl) ?_
  obtain ⟨q32, eq32⟩ := tp_pos (tp_in hG y8 (by decide)) hf_o26
  refine va_iast hx hb hK hP hD hS q32 0 eq32 rfl (vp_in_iff.mpr ⟨by omega, by omega⟩) dX12_emit_9 (tp_k (.inl (κ 0, 400, .inl (upd g27 o30_x22.toNatClampNeg v))) hD (tp_in hG y8 (by decide)) eq32 (fun f33 H locs hP hD hS g35 k34 => ?_))
  have hT := hT.up y8 g35 k34 tp_o53
  have hR := hR.up y8 (by decide) k34
  have hU37 : mo_U (mo_R g27) (mo_R (upd g27 o30_x22.toNatClampNeg v)) (o30_x22.toInt) (v.toInt) := mo_up (by omega) (rfl : v.toInt = _) (by omega)
  generalize (upd g27 o30_x22.toNatClampNeg v) = g36 at g35 hU37
  refine lv_aload_n hx hb dX12_emit_10 rfl (lv_at hl 0 rfl) ?_
  have hf_38 : f33 h0 = .inr (12, [.int o30_x0, .int o30_x1, .ref (ρ h0 2), .ref (ρ h0 3), .ref (ρ h0 4), .ref (ρ h0 5), .ref (ρ h0 6), .int o30_x7, .ref (ρ h0 8), .int o30_x9, .int o30_x10, .int o30_x11, .int o30_x12, .long o30_x13, .int o30_x14, .int o30_x15, .int o30_x16, .int o30_x17, .int o30_x18, .int o30_x19, .int o30_x20, .ref (ρ h0 21), .int o30_x22, .ref (ρ h0 23), .ref (ρ h0 24), .int o30_x25, .ref (ρ h0 26), .ref (ρ h0 27), .int o30_x28, .int o30_x29, .ref (ρ h0 30), .ref (ρ h0 31), .int o30_x32, .long o30_x33, .long o30_x34, .long o30_x35, .int o30_x36, .int o30_x37, .int o30_x38, .ref (ρ h0 39), .ref (ρ h0 40), .ref (ρ h0 41), .ref (ρ h0 42), .ref (ρ h0 43), .ref (ρ h0 44), .ref (ρ h0 45), .ref (ρ h0 46), .int o30_x47, .int o30_x48, .ref (ρ h0 49), .ref (ρ h0 50), .ref (ρ h0 51), .ref (ρ h0 52)]) := (k34 _ (tp_ne ht_h0 y8 (by decide))).trans hf_o30
  obtain ⟨q39, eq39⟩ := tp_pos (tp_in hG ht_h0 (by decide)) hf_38
  refine va_get (D := (dC, dI)) (ci := 12) (v := .ref (ρ h0 24)) (C := RX12) (T := TX12) (N := 53) hx hb hts hfX12 hown hK hP q39 eq39 rfl 24 (by decide) (hts (.fieldLink RX12 40 "ColdShipsModel" "nArg" "[I") wa_158) (fun _ h9 => h9) rfl dX12_emit_11 ?_
  refine lv_aload_n hx hb dX12_emit_14 rfl (lv_at hl 0 rfl) ?_
  refine va_get (D := (dC, dI)) (ci := 12) (v := .int o30_x22) (C := RX12) (T := TX12) (N := 53) hx hb hts hfX12 hown hK hP q39 eq39 rfl 22 (by decide) (hts (.fieldLink RX12 297 "ColdShipsModel" "nCode" "I") wa_989) (fun _ h9 => h9) rfl dX12_emit_15 ?_
  refine lv_iload_n hx hb dX12_emit_18 rfl (lv_at hl 2 rfl) ?_
  have hf_40 : f33 (ρ h0 24) = .inl (κ 0, 400, .inl g29) := (k34 _ (tp_ne y9 y8 (by decide))).trans hf_o28
  obtain ⟨q41, eq41⟩ := tp_pos (tp_in hG y9 (by decide)) hf_40
  refine va_iast hx hb hK hP hD hS q41 0 eq41 rfl (vp_in_iff.mpr ⟨by omega, by omega⟩) dX12_emit_19 (tp_k (.inl (κ 0, 400, .inl (upd g29 o30_x22.toNatClampNeg u))) hD (tp_in hG y9 (by decide)) eq41 (fun f42 H locs hP hD hS g44 k43 => ?_))
  have hT := hT.up y9 g44 k43 tp_o54
  have hR := hR.up y9 (by decide) k43
  have hU46 : mo_U (mo_R g29) (mo_R (upd g29 o30_x22.toNatClampNeg u)) (o30_x22.toInt) (u.toInt) := mo_up (by omega) (rfl : u.toInt = _) (by omega)
  generalize (upd g29 o30_x22.toNatClampNeg u) = g45 at g44 hU46
  refine lv_aload_n hx hb dX12_emit_20 rfl (lv_at hl 0 rfl) ?_
  refine lv_dup hx hb dX12_emit_21 rfl ?_
  have hf_47 : f42 h0 = .inr (12, [.int o30_x0, .int o30_x1, .ref (ρ h0 2), .ref (ρ h0 3), .ref (ρ h0 4), .ref (ρ h0 5), .ref (ρ h0 6), .int o30_x7, .ref (ρ h0 8), .int o30_x9, .int o30_x10, .int o30_x11, .int o30_x12, .long o30_x13, .int o30_x14, .int o30_x15, .int o30_x16, .int o30_x17, .int o30_x18, .int o30_x19, .int o30_x20, .ref (ρ h0 21), .int o30_x22, .ref (ρ h0 23), .ref (ρ h0 24), .int o30_x25, .ref (ρ h0 26), .ref (ρ h0 27), .int o30_x28, .int o30_x29, .ref (ρ h0 30), .ref (ρ h0 31), .int o30_x32, .long o30_x33, .long o30_x34, .long o30_x35, .int o30_x36, .int o30_x37, .int o30_x38, .ref (ρ h0 39), .ref (ρ h0 40), .ref (ρ h0 41), .ref (ρ h0 42), .ref (ρ h0 43), .ref (ρ h0 44), .ref (ρ h0 45), .ref (ρ h0 46), .int o30_x47, .int o30_x48, .ref (ρ h0 49), .ref (ρ h0 50), .ref (ρ h0 51), .ref (ρ h0 52)]) := (k43 _ (tp_ne ht_h0 y9 (by decide))).trans hf_38
  obtain ⟨q48, eq48⟩ := tp_pos (tp_in hG ht_h0 (by decide)) hf_47
  refine va_get (D := (dC, dI)) (ci := 12) (v := .int o30_x22) (C := RX12) (T := TX12) (N := 53) hx hb hts hfX12 hown hK hP q48 eq48 rfl 22 (by decide) (hts (.fieldLink RX12 297 "ColdShipsModel" "nCode" "I") wa_989) (fun _ h9 => h9) rfl dX12_emit_22 ?_
  refine lv_iconst (v := 1) hx hb dX12_emit_25 (by decide) ?_
  refine lv_iadd hx hb dX12_emit_26 ?_
  refine lv_topi (fun z49 ez49 => ?_)
  have iz49 : z49.toInt = o30_x22.toInt + 1 := zi_add ez49 rfl rfl (by omega) (by omega)
  refine va_put (D := (dC, dI)) (ci := 12) (v := .int z49) (ty := .int) (C := RX12) (T := TX12) (N := 53) hx hb hts hfX12 tyX12 tyX12_ok nmX12 hown hK hP hD hS q48 eq48 rfl 22 (by decide) (hts (.fieldLink RX12 297 "ColdShipsModel" "nCode" "I") wa_989) (fun _ h9 => h9) rfl (tyX12_ok 22 (by decide)) rfl rfl (Nat.le_of_ble_eq_true rfl) dX12_emit_27 (tp_k (.inr (12, [.int o30_x0, .int o30_x1, .ref (ρ h0 2), .ref (ρ h0 3), .ref (ρ h0 4), .ref (ρ h0 5), .ref (ρ h0 6), .int o30_x7, .ref (ρ h0 8), .int o30_x9, .int o30_x10, .int o30_x11, .int o30_x12, .long o30_x13, .int o30_x14, .int o30_x15, .int o30_x16, .int o30_x17, .int o30_x18, .int o30_x19, .int o30_x20, .ref (ρ h0 21), .int z49, .ref (ρ h0 23), .ref (ρ h0 24), .int o30_x25, .ref (ρ h0 26), .ref (ρ h0 27), .int o30_x28, .int o30_x29, .ref (ρ h0 30), .ref (ρ h0 31), .int o30_x32, .long o30_x33, .long o30_x34, .long o30_x35, .int o30_x36, .int o30_x37, .int o30_x38, .ref (ρ h0 39), .ref (ρ h0 40), .ref (ρ h0 41), .ref (ρ h0 42), .ref (ρ h0 43), .ref (ρ h0 44), .ref (ρ h0 45), .ref (ρ h0 46), .int o30_x47, .int o30_x48, .ref (ρ h0 49), .ref (ρ h0 50), .ref (ρ h0 51), .ref (ρ h0 52)])) hD (tp_in hG ht_h0 (by decide)) eq48 (fun f50 H locs hP hD hS g52 k51 => ?_))
  have hT := hT.up ht_h0 g52 k51 ⟨_, _, _, _, _, _, _, _, _, _, _, _, _, _, _, _, _, _, _, _, _, _, _, _, _, _, _, _, rfl, ro30_0, ro30_1, ro30_2, ro30_3, ro30_4, ro30_5, ro30_6, ro30_7, (by omega), ro30_9, ro30_10, ro30_11, ro30_12, ro30_13⟩
  have hR := hR.up ht_h0 (by decide) k51
  have hf_53 : f42 (ρ h0 23) = .inl (κ 0, 400, .inl g36) := (k43 _ (tp_ne y8 y9 (by decide))).trans g35
  have hf_54 : f50 (ρ h0 23) = .inl (κ 0, 400, .inl g36) := (k51 _ (tp_ne y8 ht_h0 (by decide))).trans hf_53
  have hf_55 : f50 (ρ h0 24) = .inl (κ 0, 400, .inl g45) := (k51 _ (tp_ne y9 ht_h0 (by decide))).trans g44
  exact W.vret hx hb hr (fun t ht hW => ⟨⟨f50, rfl, ⟨hT, hR, (by simp only [hf_o26, hf_54, hf_o30, hf_o28, hf_55, g52, mo_i1, mo_l1]; exact (show mo_U (mo_R g27) (mo_R g36) o30_x22.toInt v.toInt ∧ mo_U (mo_R g29) (mo_R g45) o30_x22.toInt u.toInt ∧ z49.toInt = o30_x22.toInt + 1 ∧ o30_x9.toInt = o30_x9.toInt ∧ o30_x10.toInt = o30_x10.toInt ∧ o30_x11.toInt = o30_x11.toInt ∧ o30_x12.toInt = o30_x12.toInt ∧ o30_x13.toInt = o30_x13.toInt ∧ o30_x15.toInt = o30_x15.toInt ∧ o30_x19.toInt = o30_x19.toInt ∧ o30_x20.toInt = o30_x20.toInt ∧ o30_x28.toInt = o30_x28.toInt from ⟨hU37, hU46, by omega, rfl, rfl, rfl, rfl, rfl, rfl, rfl, rfl, rfl⟩))⟩, by rw [ht]; exact hP, va_K.moved hW.alike hK, hD⟩, hS.F ht⟩) hS.2.2 dX12_emit_30
set_option maxHeartbeats 4000000 in
set_option maxRecDepth 100000 in
theorem t_X12_push (l : Launch) (dC : Nat → ClassId) (dI : Nat → Nat → Nat) (sz : Nat) (κ : Nat → ClassId) (τ ν : Nat → Nat) (ρ : Nat → Nat → Nat) (L : List Nat) (f : Nat → va_E) (hG : tp_G τ ν ρ L) (hT : tp_T (mo_O κ) κ τ ν ρ f) (h0 : Nat) (v : Int32) (u : Int32) (ht_h0 : τ h0 = 13) (h28 : (tp_fld (f h0) 28) < 400) : Met l yX12_push wqX12_push ({ frames := 2, cells := 0, slots := 0, locals := 400 }) (va_Pc [.ref h0, .int v, .int u] (pz_B dC dI (tp_K κ) (va_pl L f) sz)) (va_Qv (fun (f1 : Nat → va_E) => tp_T (mo_O κ) κ τ ν ρ f1 ∧ tp_F τ [13, 56, 57] f f1 ∧ mo_U (mo_R (mo_i (f (ρ h0 26)))) (mo_R (mo_i (f1 (ρ h0 26)))) (tp_fld (f h0) 28) v.toInt ∧ mo_U (mo_R (mo_i (f (ρ h0 27)))) (mo_R (mo_i (f1 (ρ h0 27)))) (tp_fld (f h0) 28) u.toInt ∧ (tp_fld (f1 h0) 28) = (tp_fld (f h0) 28) + 1 ∧ (tp_fld (f1 h0) 9) = (tp_fld (f h0) 9) ∧ (tp_fld (f1 h0) 10) = (tp_fld (f h0) 10) ∧ (tp_fld (f1 h0) 11) = (tp_fld (f h0) 11) ∧ (tp_fld (f1 h0) 12) = (tp_fld (f h0) 12) ∧ (mo_fj (f1 h0) 13) = (mo_fj (f h0) 13) ∧ (tp_fld (f1 h0) 15) = (tp_fld (f h0) 15) ∧ (tp_fld (f1 h0) 19) = (tp_fld (f h0) 19) ∧ (tp_fld (f1 h0) 20) = (tp_fld (f h0) 20) ∧ (tp_fld (f1 h0) 22) = (tp_fld (f h0) 22)) (fun (f1 : Nat → va_E) (t : State) => pz_E dC dI (tp_K κ) (va_A (va_pl L f) sz) (va_pl L f1) t) (va_A (va_pl L f) sz)) 0 0 (va_A (va_pl L f) sz) := by
  refine Met.ofW (cc := cX12_push) (maxL := 3) (ret := none) (by decide) rfl ?_
  intro p e s m args below meth c s₁ B hml hv
  obtain ⟨rfl, hsz, hP, hK, hD0, hN⟩ := hv
  have hx := B.exec
  have hb := B.bytes
  have hr := B.returns
  have hts := fun (w : Cond) (h : w ∈ WALL) => atoms_spec (ws := wqX12_push) B.pre w (List.mem_cons_of_mem _ h)
  have hown : s.vm.findClass RX12 = some m.cls := findClass_of_methodNamed B.named
  have hlocks := B.notSynchronized
  subst hsz
  have hD := hD0.self (sz := s.heap.size)
  generalize hAe : va_A (va_pl L f) s.heap.size = A at hD ⊢
  have hA : ∀ q : Nat, s.heap.size ≤ q → A q := fun q h => by rw [← hAe]; exact Or.inr h
  have hS : va_S A s.heap s.heap [] := va_S.rf
  have hR : tp_F τ [13, 56, 57] f f := tp_F.rf
  have hl := lv_entry ([.ref h0, .int v, .int u]) (n := 3) (Nat.le_of_ble_eq_true rfl)
  rw [lg_entry_eq]
  generalize (lg_sl ([.ref h0, .int v, .int u]) ++ List.replicate (3 - (lg_sl ([.ref h0, .int v, .int u])).length) Slot.unset).toArray = ls at hl ⊢
  have hl : lv_has ls 3 [(0, .ref h0), (1, .int v), (2, .int u)] := hl
  obtain ⟨y1, y2, y3, y4, y5, y6, y7, y8, y9, y10, y11, y12, y13, y14, y15, y16, y17, y18, y19, y20, y21, y22, y23, y24, y25⟩ := tpg_13 hG ht_h0
  obtain ⟨g27, hf_o26⟩ := tpo_56 hT y10
  obtain ⟨g29, hf_o28⟩ := tpo_57 hT y11
  obtain ⟨o30_x0, o30_x1, o30_x7, o30_x9, o30_x10, o30_x11, o30_x12, o30_x13, o30_x14, o30_x15, o30_x16, o30_x17, o30_x18, o30_x19, o30_x20, o30_x22, o30_x25, o30_x28, o30_x29, o30_x32, o30_x33, o30_x34, o30_x35, o30_x36, o30_x37, o30_x38, o30_x47, o30_x48, hf_o30, ro30_0, ro30_1, ro30_2, ro30_3, ro30_4, ro30_5, ro30_6, ro30_7, ro30_8, ro30_9, ro30_10, ro30_11, ro30_12, ro30_13⟩ := tpo_13 hT ht_h0
  have h28 : o30_x28.toInt < 400 := by have q9 := h28; simp only [hf_o30, mo_i1, mo_l1] at q9; exact q9
  refine lv_aload_n hx hb dX12_push_0 rfl (lv_at hl 0 rfl) ?_
  obtain ⟨q31, eq31⟩ := tp_pos (tp_in hG ht_h0 (by decide)) hf_o30
  refine va_get (D := (dC, dI)) (ci := 12) (v := .ref (ρ h0 26)) (C := RX12) (T := TX12) (N := 53) hx hb hts hfX12 hown hK hP q31 eq31 rfl 26 (by decide) (hts (.fieldLink RX12 43 "ColdShipsModel" "pile" "[I") wa_159) (fun _ h9 => h9) rfl dX12_push_1 ?_
  refine lv_aload_n hx hb dX12_push_4 rfl (lv_at hl 0 rfl) ?_
  refine va_get (D := (dC, dI)) (ci := 12) (v := .int o30_x28) (C := RX12) (T := TX12) (N := 53) hx hb hts hfX12 hown hK hP q31 eq31 rfl 28 (by decide) (hts (.fieldLink RX12 300 "ColdShipsModel" "piled" "I") wa_1045) (fun _ h9 => h9) rfl dX12_push_5 ?_
  refine lv_iload_n hx hb dX12_push_8 rfl (lv_at hl 1 rfl) ?_
  obtain ⟨q32, eq32⟩ := tp_pos (tp_in hG y10 (by decide)) hf_o26
  refine va_iast hx hb hK hP hD hS q32 0 eq32 rfl (vp_in_iff.mpr ⟨by omega, by omega⟩) dX12_push_9 (tp_k (.inl (κ 0, 400, .inl (upd g27 o30_x28.toNatClampNeg v))) hD (tp_in hG y10 (by decide)) eq32 (fun f33 H locs hP hD hS g35 k34 => ?_))
  have hT := hT.up y10 g35 k34 tp_o56
  have hR := hR.up y10 (by decide) k34
  have hU37 : mo_U (mo_R g27) (mo_R (upd g27 o30_x28.toNatClampNeg v)) (o30_x28.toInt) (v.toInt) := mo_up (by omega) (rfl : v.toInt = _) (by omega)
  generalize (upd g27 o30_x28.toNatClampNeg v) = g36 at g35 hU37
  refine lv_aload_n hx hb dX12_push_10 rfl (lv_at hl 0 rfl) ?_
  have hf_38 : f33 h0 = .inr (12, [.int o30_x0, .int o30_x1, .ref (ρ h0 2), .ref (ρ h0 3), .ref (ρ h0 4), .ref (ρ h0 5), .ref (ρ h0 6), .int o30_x7, .ref (ρ h0 8), .int o30_x9, .int o30_x10, .int o30_x11, .int o30_x12, .long o30_x13, .int o30_x14, .int o30_x15, .int o30_x16, .int o30_x17, .int o30_x18, .int o30_x19, .int o30_x20, .ref (ρ h0 21), .int o30_x22, .ref (ρ h0 23), .ref (ρ h0 24), .int o30_x25, .ref (ρ h0 26), .ref (ρ h0 27), .int o30_x28, .int o30_x29, .ref (ρ h0 30), .ref (ρ h0 31), .int o30_x32, .long o30_x33, .long o30_x34, .long o30_x35, .int o30_x36, .int o30_x37, .int o30_x38, .ref (ρ h0 39), .ref (ρ h0 40), .ref (ρ h0 41), .ref (ρ h0 42), .ref (ρ h0 43), .ref (ρ h0 44), .ref (ρ h0 45), .ref (ρ h0 46), .int o30_x47, .int o30_x48, .ref (ρ h0 49), .ref (ρ h0 50), .ref (ρ h0 51), .ref (ρ h0 52)]) := (k34 _ (tp_ne ht_h0 y10 (by decide))).trans hf_o30
  obtain ⟨q39, eq39⟩ := tp_pos (tp_in hG ht_h0 (by decide)) hf_38
  refine va_get (D := (dC, dI)) (ci := 12) (v := .ref (ρ h0 27)) (C := RX12) (T := TX12) (N := 53) hx hb hts hfX12 hown hK hP q39 eq39 rfl 27 (by decide) (hts (.fieldLink RX12 46 "ColdShipsModel" "pileAt" "[I") wa_160) (fun _ h9 => h9) rfl dX12_push_11 ?_
  refine lv_aload_n hx hb dX12_push_14 rfl (lv_at hl 0 rfl) ?_
  refine va_get (D := (dC, dI)) (ci := 12) (v := .int o30_x28) (C := RX12) (T := TX12) (N := 53) hx hb hts hfX12 hown hK hP q39 eq39 rfl 28 (by decide) (hts (.fieldLink RX12 300 "ColdShipsModel" "piled" "I") wa_1045) (fun _ h9 => h9) rfl dX12_push_15 ?_
  refine lv_iload_n hx hb dX12_push_18 rfl (lv_at hl 2 rfl) ?_
  have hf_40 : f33 (ρ h0 27) = .inl (κ 0, 400, .inl g29) := (k34 _ (tp_ne y11 y10 (by decide))).trans hf_o28
  obtain ⟨q41, eq41⟩ := tp_pos (tp_in hG y11 (by decide)) hf_40
  refine va_iast hx hb hK hP hD hS q41 0 eq41 rfl (vp_in_iff.mpr ⟨by omega, by omega⟩) dX12_push_19 (tp_k (.inl (κ 0, 400, .inl (upd g29 o30_x28.toNatClampNeg u))) hD (tp_in hG y11 (by decide)) eq41 (fun f42 H locs hP hD hS g44 k43 => ?_))
  have hT := hT.up y11 g44 k43 tp_o57
  have hR := hR.up y11 (by decide) k43
  have hU46 : mo_U (mo_R g29) (mo_R (upd g29 o30_x28.toNatClampNeg u)) (o30_x28.toInt) (u.toInt) := mo_up (by omega) (rfl : u.toInt = _) (by omega)
  generalize (upd g29 o30_x28.toNatClampNeg u) = g45 at g44 hU46
  refine lv_aload_n hx hb dX12_push_20 rfl (lv_at hl 0 rfl) ?_
  refine lv_dup hx hb dX12_push_21 rfl ?_
  have hf_47 : f42 h0 = .inr (12, [.int o30_x0, .int o30_x1, .ref (ρ h0 2), .ref (ρ h0 3), .ref (ρ h0 4), .ref (ρ h0 5), .ref (ρ h0 6), .int o30_x7, .ref (ρ h0 8), .int o30_x9, .int o30_x10, .int o30_x11, .int o30_x12, .long o30_x13, .int o30_x14, .int o30_x15, .int o30_x16, .int o30_x17, .int o30_x18, .int o30_x19, .int o30_x20, .ref (ρ h0 21), .int o30_x22, .ref (ρ h0 23), .ref (ρ h0 24), .int o30_x25, .ref (ρ h0 26), .ref (ρ h0 27), .int o30_x28, .int o30_x29, .ref (ρ h0 30), .ref (ρ h0 31), .int o30_x32, .long o30_x33, .long o30_x34, .long o30_x35, .int o30_x36, .int o30_x37, .int o30_x38, .ref (ρ h0 39), .ref (ρ h0 40), .ref (ρ h0 41), .ref (ρ h0 42), .ref (ρ h0 43), .ref (ρ h0 44), .ref (ρ h0 45), .ref (ρ h0 46), .int o30_x47, .int o30_x48, .ref (ρ h0 49), .ref (ρ h0 50), .ref (ρ h0 51), .ref (ρ h0 52)]) := (k43 _ (tp_ne ht_h0 y11 (by decide))).trans hf_38
  obtain ⟨q48, eq48⟩ := tp_pos (tp_in hG ht_h0 (by decide)) hf_47
  refine va_get (D := (dC, dI)) (ci := 12) (v := .int o30_x28) (C := RX12) (T := TX12) (N := 53) hx hb hts hfX12 hown hK hP q48 eq48 rfl 28 (by decide) (hts (.fieldLink RX12 300 "ColdShipsModel" "piled" "I") wa_1045) (fun _ h9 => h9) rfl dX12_push_22 ?_
  refine lv_iconst (v := 1) hx hb dX12_push_25 (by decide) ?_
  refine lv_iadd hx hb dX12_push_26 ?_
  refine lv_topi (fun z49 ez49 => ?_)
  have iz49 : z49.toInt = o30_x28.toInt + 1 := zi_add ez49 rfl rfl (by omega) (by omega)
  refine va_put (D := (dC, dI)) (ci := 12) (v := .int z49) (ty := .int) (C := RX12) (T := TX12) (N := 53) hx hb hts hfX12 tyX12 tyX12_ok nmX12 hown hK hP hD hS q48 eq48 rfl 28 (by decide) (hts (.fieldLink RX12 300 "ColdShipsModel" "piled" "I") wa_1045) (fun _ h9 => h9) rfl (tyX12_ok 28 (by decide)) rfl rfl (Nat.le_of_ble_eq_true rfl) dX12_push_27 (tp_k (.inr (12, [.int o30_x0, .int o30_x1, .ref (ρ h0 2), .ref (ρ h0 3), .ref (ρ h0 4), .ref (ρ h0 5), .ref (ρ h0 6), .int o30_x7, .ref (ρ h0 8), .int o30_x9, .int o30_x10, .int o30_x11, .int o30_x12, .long o30_x13, .int o30_x14, .int o30_x15, .int o30_x16, .int o30_x17, .int o30_x18, .int o30_x19, .int o30_x20, .ref (ρ h0 21), .int o30_x22, .ref (ρ h0 23), .ref (ρ h0 24), .int o30_x25, .ref (ρ h0 26), .ref (ρ h0 27), .int z49, .int o30_x29, .ref (ρ h0 30), .ref (ρ h0 31), .int o30_x32, .long o30_x33, .long o30_x34, .long o30_x35, .int o30_x36, .int o30_x37, .int o30_x38, .ref (ρ h0 39), .ref (ρ h0 40), .ref (ρ h0 41), .ref (ρ h0 42), .ref (ρ h0 43), .ref (ρ h0 44), .ref (ρ h0 45), .ref (ρ h0 46), .int o30_x47, .int o30_x48, .ref (ρ h0 49), .ref (ρ h0 50), .ref (ρ h0 51), .ref (ρ h0 52)])) hD (tp_in hG ht_h0 (by decide)) eq48 (fun f50 H locs hP hD hS g52 k51 => ?_))
  have hT := hT.up ht_h0 g52 k51 ⟨_, _, _, _, _, _, _, _, _, _, _, _, _, _, _, _, _, _, _, _, _, _, _, _, _, _, _, _, rfl, ro30_0, ro30_1, ro30_2, ro30_3, ro30_4, ro30_5, ro30_6, ro30_7, ro30_8, (by omega), ro30_10, ro30_11, ro30_12, ro30_13⟩
  have hR := hR.up ht_h0 (by decide) k51
  have hf_53 : f42 (ρ h0 26) = .inl (κ 0, 400, .inl g36) := (k43 _ (tp_ne y10 y11 (by decide))).trans g35
  have hf_54 : f50 (ρ h0 26) = .inl (κ 0, 400, .inl g36) := (k51 _ (tp_ne y10 ht_h0 (by decide))).trans hf_53
  have hf_55 : f50 (ρ h0 27) = .inl (κ 0, 400, .inl g45) := (k51 _ (tp_ne y11 ht_h0 (by decide))).trans g44
  exact W.vret hx hb hr (fun t ht hW => ⟨⟨f50, rfl, ⟨hT, hR, (by simp only [hf_o26, hf_54, hf_o30, hf_o28, hf_55, g52, mo_i1, mo_l1]; exact (show mo_U (mo_R g27) (mo_R g36) o30_x28.toInt v.toInt ∧ mo_U (mo_R g29) (mo_R g45) o30_x28.toInt u.toInt ∧ z49.toInt = o30_x28.toInt + 1 ∧ o30_x9.toInt = o30_x9.toInt ∧ o30_x10.toInt = o30_x10.toInt ∧ o30_x11.toInt = o30_x11.toInt ∧ o30_x12.toInt = o30_x12.toInt ∧ o30_x13.toInt = o30_x13.toInt ∧ o30_x15.toInt = o30_x15.toInt ∧ o30_x19.toInt = o30_x19.toInt ∧ o30_x20.toInt = o30_x20.toInt ∧ o30_x22.toInt = o30_x22.toInt from ⟨hU37, hU46, by omega, rfl, rfl, rfl, rfl, rfl, rfl, rfl, rfl, rfl⟩))⟩, by rw [ht]; exact hP, va_K.moved hW.alike hK, hD⟩, hS.F ht⟩) hS.2.2 dX12_push_30
set_option maxHeartbeats 4000000 in
set_option maxRecDepth 100000 in
theorem t_X12_binds (l : Launch) (dC : Nat → ClassId) (dI : Nat → Nat → Nat) (sz : Nat) (v : Int32) (Z_v : Int) (hZ_v : v.toInt = Z_v) : Met l yX12_binds wqX12_binds ({ frames := 2, cells := 0, slots := 0, locals := 400 }) (va_Pc [.int v] (pz_B dC dI [] [] sz)) (vp_Si (fun r => (0 ≤ r.toInt ∧ r.toInt ≤ 6) ∧ ((30 ≤ Z_v → r.toInt = 0) ∧ (Z_v = 19 → r.toInt = 1) ∧ (Z_v = 18 → r.toInt = 2) ∧ (Z_v = 17 → r.toInt = 3) ∧ (14 ≤ Z_v → Z_v ≤ 16 → r.toInt = 4) ∧ (12 ≤ Z_v → Z_v ≤ 13 → r.toInt = 6) ∧ (Z_v < 12 → r.toInt = 5)))) 0 0 (fun _ => False) := by
  refine Met.ofW (cc := cX12_binds) (maxL := 1) (ret := some .int) (by decide) rfl ?_
  intro p e s m args below meth c s₁ B hml hv
  obtain ⟨rfl, hsz, hP, hK, hD0, hN⟩ := hv
  have hx := B.exec
  have hb := B.bytes
  have hr := B.returns
  have hts := fun (w : Cond) (h : w ∈ WALL) => atoms_spec (ws := wqX12_binds) B.pre w (List.mem_cons_of_mem _ h)
  have hown : s.vm.findClass RX12 = some m.cls := findClass_of_methodNamed B.named
  have hlocks := B.notSynchronized
  subst hsz
  have hD := hD0
  have hS : va_S (fun _ => True) s.heap s.heap [] := va_S.rf
  have hl := lv_entry ([.int v]) (n := 1) (Nat.le_of_ble_eq_true rfl)
  rw [lg_entry_eq]
  generalize (lg_sl ([.int v]) ++ List.replicate (1 - (lg_sl ([.int v])).length) Slot.unset).toArray = ls at hl ⊢
  have hl : lv_has ls 1 [(0, .int v)] := hl
  refine lv_iload_n hx hb dX12_binds_0 rfl (lv_at hl 0 rfl) ?_
  refine lv_bipush (v := 30) hx hb dX12_binds_1 (by decide) ?_
  refine lv_icmp_lt (tgt := 10) hx hb dX12_binds_3 (by decide) (fun c1 => ?_) (fun c1 => ?_)
  · have ic1 : Z_v < 30 := zi_lt hZ_v rfl c1
    refine lv_iload_n hx hb dX12_binds_10 rfl (lv_at hl 0 rfl) ?_
    refine lv_bipush (v := 19) hx hb dX12_binds_11 (by decide) ?_
    refine lv_icmp_ne (tgt := 20) hx hb dX12_binds_13 (by decide) (fun c2 => ?_) (fun c2 => ?_)
    · have ic2 : Z_v ≠ 19 := zi_ne hZ_v rfl c2
      refine lv_iload_n hx hb dX12_binds_20 rfl (lv_at hl 0 rfl) ?_
      refine lv_bipush (v := 18) hx hb dX12_binds_21 (by decide) ?_
      refine lv_icmp_ne (tgt := 30) hx hb dX12_binds_23 (by decide) (fun c3 => ?_) (fun c3 => ?_)
      · have ic3 : Z_v ≠ 18 := zi_ne hZ_v rfl c3
        refine lv_iload_n hx hb dX12_binds_30 rfl (lv_at hl 0 rfl) ?_
        refine lv_bipush (v := 17) hx hb dX12_binds_31 (by decide) ?_
        refine lv_icmp_ne (tgt := 40) hx hb dX12_binds_33 (by decide) (fun c4 => ?_) (fun c4 => ?_)
        · have ic4 : Z_v ≠ 17 := zi_ne hZ_v rfl c4
          refine lv_iload_n hx hb dX12_binds_40 rfl (lv_at hl 0 rfl) ?_
          refine lv_bipush (v := 14) hx hb dX12_binds_41 (by decide) ?_
          refine lv_icmp_lt (tgt := 50) hx hb dX12_binds_43 (by decide) (fun c5 => ?_) (fun c5 => ?_)
          · have ic5 : Z_v < 14 := zi_lt hZ_v rfl c5
            refine lv_iload_n hx hb dX12_binds_50 rfl (lv_at hl 0 rfl) ?_
            refine lv_bipush (v := 12) hx hb dX12_binds_51 (by decide) ?_
            refine lv_icmp_lt (tgt := 61) hx hb dX12_binds_53 (by decide) (fun c6 => ?_) (fun c6 => ?_)
            · have ic6 : Z_v < 12 := zi_lt hZ_v rfl c6
              refine lv_iconst (v := 5) hx hb dX12_binds_61 (by decide) ?_
              exact W.iret (v := 5) hx hb hr (fun t ht hW => ⟨5, rfl, ⟨(by first | decide | omega), (by have : (5 : Int32).toInt = 5 := rfl; omega)⟩, ht⟩) (fun _ h => by cases h) dX12_binds_62
            · have ic6 : Z_v ≥ 12 := zi_ltf hZ_v rfl c6
              refine lv_bipush (v := 6) hx hb dX12_binds_56 (by decide) ?_
              refine lv_goto (tgt := 62) hx hb dX12_binds_58 (by decide) ?_
              exact W.iret (v := 6) hx hb hr (fun t ht hW => ⟨6, rfl, ⟨(by first | decide | omega), (by have : (6 : Int32).toInt = 6 := rfl; omega)⟩, ht⟩) (fun _ h => by cases h) dX12_binds_62
          · have ic5 : Z_v ≥ 14 := zi_ltf hZ_v rfl c5
            refine lv_iconst (v := 4) hx hb dX12_binds_46 (by decide) ?_
            refine lv_goto (tgt := 62) hx hb dX12_binds_47 (by decide) ?_
            exact W.iret (v := 4) hx hb hr (fun t ht hW => ⟨4, rfl, ⟨(by first | decide | omega), (by have : (4 : Int32).toInt = 4 := rfl; omega)⟩, ht⟩) (fun _ h => by cases h) dX12_binds_62
        · have ic4 : Z_v = 17 := zi_nef hZ_v rfl c4
          refine lv_iconst (v := 3) hx hb dX12_binds_36 (by decide) ?_
          refine lv_goto (tgt := 62) hx hb dX12_binds_37 (by decide) ?_
          exact W.iret (v := 3) hx hb hr (fun t ht hW => ⟨3, rfl, ⟨(by first | decide | omega), (by have : (3 : Int32).toInt = 3 := rfl; omega)⟩, ht⟩) (fun _ h => by cases h) dX12_binds_62
      · have ic3 : Z_v = 18 := zi_nef hZ_v rfl c3
        refine lv_iconst (v := 2) hx hb dX12_binds_26 (by decide) ?_
        refine lv_goto (tgt := 62) hx hb dX12_binds_27 (by decide) ?_
        exact W.iret (v := 2) hx hb hr (fun t ht hW => ⟨2, rfl, ⟨(by first | decide | omega), (by have : (2 : Int32).toInt = 2 := rfl; omega)⟩, ht⟩) (fun _ h => by cases h) dX12_binds_62
    · have ic2 : Z_v = 19 := zi_nef hZ_v rfl c2
      refine lv_iconst (v := 1) hx hb dX12_binds_16 (by decide) ?_
      refine lv_goto (tgt := 62) hx hb dX12_binds_17 (by decide) ?_
      exact W.iret (v := 1) hx hb hr (fun t ht hW => ⟨1, rfl, ⟨(by first | decide | omega), (by have : (1 : Int32).toInt = 1 := rfl; omega)⟩, ht⟩) (fun _ h => by cases h) dX12_binds_62
  · have ic1 : Z_v ≥ 30 := zi_ltf hZ_v rfl c1
    refine lv_iconst (v := 0) hx hb dX12_binds_6 (by decide) ?_
    refine lv_goto (tgt := 62) hx hb dX12_binds_7 (by decide) ?_
    exact W.iret (v := 0) hx hb hr (fun t ht hW => ⟨0, rfl, ⟨(by first | decide | omega), (by have : (0 : Int32).toInt = 0 := rfl; omega)⟩, ht⟩) (fun _ h => by cases h) dX12_binds_62
