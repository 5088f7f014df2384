set_option maxHeartbeats 4000000 in
set_option maxRecDepth 100000 in
theorem t_X12_isCompared (l : Launch) (dC : Nat → ClassId) (dI : Nat → Nat → Nat) (sz : Nat) (κ : Nat → ClassId) (τ ν : Nat → Nat) (ρ : Nat → Nat → Nat) (L : List Nat) (f : Nat → va_E) (hG : tp_G τ ν ρ L) (hT : tp_T (mo_O κ) κ τ ν ρ f) (h0 : Nat) (ht_h0 : τ h0 = 13) : Met l yX12_isCompared wqX12_isCompared ({ frames := 3, cells := 0, slots := 0, locals := 800 }) (va_Pc [.ref h0] (pz_B dC dI (tp_K κ) (va_pl L f) sz)) (vp_Si (fun r => (0 ≤ r.toInt ∧ r.toInt ≤ 1) ∧ True)) 0 0 (fun _ => False) := by
  refine Met.ofW (cc := cX12_isCompared) (maxL := 2) (ret := some .boolean) (by decide) rfl ?_
  intro p e s m args below meth c s₁ B hml hv
  obtain ⟨rfl, hsz, hP, hK, hD0, hN⟩ := hv
  have hx := B.exec
  have hb := B.bytes
  have hr := B.returns
  have hts := fun (w : Cond) (h : w ∈ WALL) => atoms_spec (ws := wqX12_isCompared) B.pre w (List.mem_cons_of_mem _ h)
  have hown : s.vm.findClass RX12 = some m.cls := findClass_of_methodNamed B.named
  have hlocks := B.notSynchronized
  subst hsz
  have hD := hD0
  have hS : va_S (fun _ => True) s.heap s.heap [] := va_S.rf
  have hl := lv_entry ([.ref h0]) (n := 2) (Nat.le_of_ble_eq_true rfl)
  rw [lg_entry_eq]
  generalize (lg_sl ([.ref h0]) ++ List.replicate (2 - (lg_sl ([.ref h0])).length) Slot.unset).toArray = ls at hl ⊢
  have hl : lv_has ls 2 [(0, .ref h0)] := hl
  refine lv_aload_n hx hb dX12_isCompared_0 rfl (lv_at hl 0 rfl) ?_
  refine tgk_13 hG ht_h0 (fun y1 y2 y3 y4 y5 y6 y7 y8 y9 y10 y11 y12 y13 y14 y15 y16 y17 y18 y19 y20 y21 y22 y23 y24 y25 => ?_)
  refine tpk_13 hT ht_h0 (fun o26_x0 o26_x1 o26_x7 o26_x9 o26_x10 o26_x11 o26_x12 o26_x13 o26_x14 o26_x15 o26_x16 o26_x17 o26_x18 o26_x19 o26_x20 o26_x22 o26_x25 o26_x28 o26_x29 o26_x32 o26_x33 o26_x34 o26_x35 o26_x36 o26_x37 o26_x38 o26_x47 o26_x48 hf_o26 ro26_0 ro26_1 ro26_2 ro26_3 ro26_4 ro26_5 ro26_6 ro26_7 ro26_8 ro26_9 ro26_10 ro26_11 ro26_12 ro26_13 => ?_)
  refine tpk_pos (tp_in hG ht_h0 (by decide)) hf_o26 (fun q27 eq27 => ?_)
  refine va_get (D := (dC, dI)) (ci := 12) (v := .int o26_x28) (C := RX12) (T := TX12) (N := 53) hx hb hts hfX12 hown hK hP q27 eq27 rfl 28 (by decide) (hts (.fieldLink RX12 300 "ColdShipsModel" "piled" "I") wa_1045) (fun _ h9 => h9) rfl dX12_isCompared_1 ?_
  refine lv_iconst (v := 1) hx hb dX12_isCompared_4 (by decide) ?_
  refine lv_isub hx hb dX12_isCompared_5 ?_
  refine lv_topi (fun z28 ez28 => ?_)
  have iz28 : z28.toInt = o26_x28.toInt - 1 := zi_sub ez28 rfl rfl (by omega) (by omega)
  refine lv_istore_n (lv' := [(1, .int z28), (0, .ref h0)]) hx hb dX12_isCompared_6 rfl hl (by decide) rfl (fun ls hl => ?_)
  refine pz_loop (fun n0 H locs ls => ∃ w29 : Int32, n0 = ((w29.toInt) + 1).toNat ∧ ((-1) ≤ w29.toInt ∧ w29.toInt ≤ 399) ∧ H = s.heap ∧ locs = [] ∧ lv_has ls 2 [(1, .int w29), (0, .ref h0)]) ?_ _ _ _ _ ⟨z28, rfl, (by omega), rfl, rfl, lv_sub hl [0, 1] rfl⟩
  intro n0 H locs ls hI ih30
  refine Exists.elim hI (fun w29 hE90 => tn_5 hE90 (fun hn31 rw29 e92 e93 hl => ?_))
  clear hE90 hI; subst e92; subst e93
  refine lv_iload_n hx hb dX12_isCompared_7 rfl (lv_at hl 0 rfl) ?_
  refine tp_join 36 (fun H locs ls stk => stk = [] ∧ H = s.heap ∧ locs = [] ∧ lv_has ls 2 [(1, .int w29), (0, .ref h0)]) ?_ (fun hj32 => ?_)
  · intro H locs ls stk hI
    refine tn_4 hI (fun e90 e91 e92 hl => ?_)
    clear hI; subst e90; subst e91; subst e92
    refine lv_iload_n hx hb dX12_isCompared_36 rfl (lv_at hl 0 rfl) ?_
    refine lv_if_lt (tgt := 63) hx hb dX12_isCompared_37 (by decide) (fun c33 => ?_) (fun c33 => ?_)
    · have ic33 : w29.toInt < 0 := zi_lt rfl rfl c33
      refine lv_iconst (v := 0) hx hb dX12_isCompared_63 (by decide) ?_
      exact W.zret (v := 0) hx hb hr rfl (fun t ht hW => ⟨0, rfl, ⟨(by first | decide | omega), trivial⟩, ht⟩) (fun _ h => by cases h) dX12_isCompared_64
    · have ic33 : w29.toInt ≥ 0 := zi_ltf rfl rfl c33
      refine lv_aload_n hx hb dX12_isCompared_40 rfl (lv_at hl 1 rfl) ?_
      refine va_get (D := (dC, dI)) (ci := 12) (v := .ref (ρ h0 26)) (C := RX12) (T := TX12) (N := 53) hx hb hts hfX12 hown hK hP q27 eq27 rfl 26 (by decide) (hts (.fieldLink RX12 43 "ColdShipsModel" "pile" "[I") wa_159) (fun _ h9 => h9) rfl dX12_isCompared_41 ?_
      refine lv_iload_n hx hb dX12_isCompared_44 rfl (lv_at hl 0 rfl) ?_
      refine tpk_56 hT y10 (fun g35 hf_o34 => ?_)
      refine tpk_pos (tp_in hG y10 (by decide)) hf_o34 (fun q36 eq36 => ?_)
      refine va_iald hx hb hK hP q36 0 eq36 rfl (vp_in_iff.mpr ⟨by omega, by omega⟩) dX12_isCompared_45 ?_
      refine lv_topi (fun z37 ez37 => ?_)
      refine lv_i2l hx hb dX12_isCompared_46 rfl ?_
      refine lv_ldc2 (own := RX12) (v := 14) hx hb hown (hts (.constantLong RX12 311 (14)) wa_1104) dX12_isCompared_47 ?_
      refine lv_ldc2 (own := RX12) (v := 16) hx hb hown (hts (.constantLong RX12 313 (16)) wa_1105) dX12_isCompared_50 ?_
      refine pz_calli (va_runS (As := [.long z37.toInt64, .long 14, .long 16]) (rest := []) ⟨hx, hb, hml, hown, hts⟩ (t_X12_in l dC dI _ z37.toInt64 (14) (16) (z37.toInt) (14) (16) (Int32.toInt_toInt64 z37) rfl rfl) (va_cwS 3 hts gX12_isCompared_X12_in rfl rfl rfl pd_X12_in ⟨Nat.le_of_ble_eq_true rfl, Nat.le_of_ble_eq_true rfl⟩) ⟨pz_blind, pz_pre pz_P0 (hK.sub (tys' := []) [] rfl) (pz_D0 (A := fun _ => True)) hN⟩ rfl rfl hl.1 rfl (lv_room (Nat.le_of_ble_eq_true rfl)) dX12_isCompared_53 ⟨Nat.le_of_ble_eq_true rfl, Nat.le_of_ble_eq_true rfl⟩) (fun r38 hw39 => ?_)
      obtain ⟨hw39r, hw39p⟩ := hw39
      refine lv_if_eq (tgt := 63) hx hb dX12_isCompared_56 (by decide) (fun c40 => ?_) (fun c40 => ?_)
      · have ic40 : r38.toInt = 0 := zi_eq rfl rfl c40
        refine lv_iconst (v := 0) hx hb dX12_isCompared_63 (by decide) ?_
        exact W.zret (v := 0) hx hb hr rfl (fun t ht hW => ⟨0, rfl, ⟨(by first | decide | omega), trivial⟩, ht⟩) (fun _ h => by cases h) dX12_isCompared_64
      · have ic40 : r38.toInt ≠ 0 := zi_eqf rfl rfl c40
        replace ic40 : 1 ≤ r38.toInt := by omega
        have p41 : (14) ≤ (z37.toInt) ∧ (z37.toInt) ≤ (16) := (tp_cond.yes hw39p) (by omega)
        refine lv_iconst (v := 1) hx hb dX12_isCompared_59 (by decide) ?_
        refine lv_goto (tgt := 64) hx hb dX12_isCompared_60 (by decide) ?_
        exact W.zret (v := 1) hx hb hr rfl (fun t ht hW => ⟨1, rfl, ⟨(by first | decide | omega), trivial⟩, ht⟩) (fun _ h => by cases h) dX12_isCompared_64
  · refine lv_if_lt (tgt := 36) hx hb dX12_isCompared_8 (by decide) (fun c42 => ?_) (fun c42 => ?_)
    · have ic42 : w29.toInt < 0 := zi_lt rfl rfl c42
      exact hj32 _ _ _ _ ⟨rfl, rfl, rfl, lv_sub hl [0, 1] rfl⟩
    · have ic42 : w29.toInt ≥ 0 := zi_ltf rfl rfl c42
      refine lv_aload_n hx hb dX12_isCompared_11 rfl (lv_at hl 1 rfl) ?_
      refine va_get (D := (dC, dI)) (ci := 12) (v := .ref (ρ h0 26)) (C := RX12) (T := TX12) (N := 53) hx hb hts hfX12 hown hK hP q27 eq27 rfl 26 (by decide) (hts (.fieldLink RX12 43 "ColdShipsModel" "pile" "[I") wa_159) (fun _ h9 => h9) rfl dX12_isCompared_12 ?_
      refine lv_iload_n hx hb dX12_isCompared_15 rfl (lv_at hl 0 rfl) ?_
      refine tpk_56 hT y10 (fun g44 hf_o43 => ?_)
      refine tpk_pos (tp_in hG y10 (by decide)) hf_o43 (fun q45 eq45 => ?_)
      refine va_iald hx hb hK hP q45 0 eq45 rfl (vp_in_iff.mpr ⟨by omega, by omega⟩) dX12_isCompared_16 ?_
      refine lv_topi (fun z46 ez46 => ?_)
      refine lv_i2l hx hb dX12_isCompared_17 rfl ?_
      refine lv_ldc2 (own := RX12) (v := 10) hx hb hown (hts (.constantLong RX12 289 (10)) wa_1010) dX12_isCompared_18 ?_
      refine lv_ldc2 (own := RX12) (v := 13) hx hb hown (hts (.constantLong RX12 309 (13)) wa_1103) dX12_isCompared_21 ?_
      refine pz_calli (va_runS (As := [.long z46.toInt64, .long 10, .long 13]) (rest := []) ⟨hx, hb, hml, hown, hts⟩ (t_X12_in l dC dI _ z46.toInt64 (10) (13) (z46.toInt) (10) (13) (Int32.toInt_toInt64 z46) rfl rfl) (va_cwS 3 hts gX12_isCompared_X12_in rfl rfl rfl pd_X12_in ⟨Nat.le_of_ble_eq_true rfl, Nat.le_of_ble_eq_true rfl⟩) ⟨pz_blind, pz_pre pz_P0 (hK.sub (tys' := []) [] rfl) (pz_D0 (A := fun _ => True)) hN⟩ rfl rfl hl.1 rfl (lv_room (Nat.le_of_ble_eq_true rfl)) dX12_isCompared_24 ⟨Nat.le_of_ble_eq_true rfl, Nat.le_of_ble_eq_true rfl⟩) (fun r47 hw48 => ?_)
      obtain ⟨hw48r, hw48p⟩ := hw48
      refine lv_if_eq (tgt := 36) hx hb dX12_isCompared_27 (by decide) (fun c49 => ?_) (fun c49 => ?_)
      · have ic49 : r47.toInt = 0 := zi_eq rfl rfl c49
        exact hj32 _ _ _ _ ⟨rfl, rfl, rfl, lv_sub hl [0, 1] rfl⟩
      · have ic49 : r47.toInt ≠ 0 := zi_eqf rfl rfl c49
        replace ic49 : 1 ≤ r47.toInt := by omega
        have p50 : (10) ≤ (z46.toInt) ∧ (z46.toInt) ≤ (13) := (tp_cond.yes hw48p) (by omega)
        obtain ⟨z51, ez51⟩ : ∃ y : Int32, y = w29 + (-1) := ⟨_, rfl⟩
        refine lv_iinc (v := z51) (lv' := [(1, .int z51), (0, .ref h0)]) hx hb dX12_isCompared_30 hl (k := 0) rfl (by rw [ez51]; rfl) (by decide) rfl (fun ls hl => ?_)
        have iz51 : z51.toInt = w29.toInt + (-1) := zi_add ez51 rfl rfl (by omega) (by omega)
        refine lv_goto (tgt := 7) hx hb dX12_isCompared_33 (by decide) ?_
        exact ih30 _ _ _ _ (by rw [hn31]; omega) ⟨z51, rfl, (by omega), rfl, rfl, lv_sub hl [0, 1] rfl⟩
set_option maxHeartbeats 4000000 in
set_option maxRecDepth 100000 in
theorem t_X12_partAt (l : Launch) (dC : Nat → ClassId) (dI : Nat → Nat → Nat) (sz : Nat) (κ : Nat → ClassId) (τ ν : Nat → Nat) (ρ : Nat → Nat → Nat) (L : List Nat) (f : Nat → va_E) (hG : tp_G τ ν ρ L) (hT : tp_T (mo_O κ) κ τ ν ρ f) (h0 : Nat) (ht_h0 : τ h0 = 13) : Met l yX12_partAt wqX12_partAt ({ frames := 3, cells := 0, slots := 0, locals := 800 }) (va_Pc [.ref h0] (pz_B dC dI (tp_K κ) (va_pl L f) sz)) (vp_Si (fun r => ((-1) ≤ r.toInt ∧ r.toInt ≤ 8) ∧ (r.toInt ≠ -1 → (tp_fld (f h0) 12) = 1 ∧ 1 ≤ r.toInt))) 0 0 (fun _ => False) := by
  refine Met.ofW (cc := cX12_partAt) (maxL := 1) (ret := some .int) (by decide) rfl ?_
  intro p e s m args below meth c s₁ B hml hv
  obtain ⟨rfl, hsz, hP, hK, hD0, hN⟩ := hv
  have hx := B.exec
  have hb := B.bytes
  have hr := B.returns
  have hts := fun (w : Cond) (h : w ∈ WALL) => atoms_spec (ws := wqX12_partAt) B.pre w (List.mem_cons_of_mem _ h)
  have hown : s.vm.findClass RX12 = some m.cls := findClass_of_methodNamed B.named
  have hlocks := B.notSynchronized
  subst hsz
  have hD := hD0
  have hS : va_S (fun _ => True) s.heap s.heap [] := va_S.rf
  have hl := lv_entry ([.ref h0]) (n := 1) (Nat.le_of_ble_eq_true rfl)
  rw [lg_entry_eq]
  generalize (lg_sl ([.ref h0]) ++ List.replicate (1 - (lg_sl ([.ref h0])).length) Slot.unset).toArray = ls at hl ⊢
  have hl : lv_has ls 1 [(0, .ref h0)] := hl
  refine tgk_13 hG ht_h0 (fun y1 y2 y3 y4 y5 y6 y7 y8 y9 y10 y11 y12 y13 y14 y15 y16 y17 y18 y19 y20 y21 y22 y23 y24 y25 => ?_)
  refine tpk_13 hT ht_h0 (fun o26_x0 o26_x1 o26_x7 o26_x9 o26_x10 o26_x11 o26_x12 o26_x13 o26_x14 o26_x15 o26_x16 o26_x17 o26_x18 o26_x19 o26_x20 o26_x22 o26_x25 o26_x28 o26_x29 o26_x32 o26_x33 o26_x34 o26_x35 o26_x36 o26_x37 o26_x38 o26_x47 o26_x48 hf_o26 ro26_0 ro26_1 ro26_2 ro26_3 ro26_4 ro26_5 ro26_6 ro26_7 ro26_8 ro26_9 ro26_10 ro26_11 ro26_12 ro26_13 => ?_)
  have tf27 : mo_hd (tp_fld (f h0) 12 = o26_x12.toInt) := tff_12 hf_o26
  refine lv_aload_n hx hb dX12_partAt_0 rfl (lv_at hl 0 rfl) ?_
  refine lv_ldc2 (own := RX12) (v := 671187) hx hb hown (hts (.constantLong RX12 315 (671187)) wa_1072) dX12_partAt_1 ?_
  have tf28 : mo_hd (mo_fj (f h0) 13 = o26_x13.toInt) := tff_13 hf_o26
  refine tpk_pos (tp_in hG ht_h0 (by decide)) hf_o26 (fun q29 eq29 => ?_)
  refine pz_calli (va_runV (As := [.long 671187]) (rest := []) ⟨hx, hb, hml, hown, hts⟩ (t_X12_isWord l dC dI _ κ τ ν ρ L f hG hT h0 (671187) ht_h0) (cwV 1 hts gX12_partAt_X12_isWord rfl rfl rfl ⟨rfl, pd_X12_isWord⟩ ⟨Nat.le_of_ble_eq_true rfl, Nat.le_of_ble_eq_true rfl⟩) ⟨pz_blind, va_recv hK hP (ci := 12) (q0 := q29) rfl eq29, pz_pre hP hK hD hN⟩ rfl rfl hl.1 rfl (lv_room (Nat.le_of_ble_eq_true rfl)) dX12_partAt_4 ⟨Nat.le_of_ble_eq_true rfl, Nat.le_of_ble_eq_true rfl⟩) (fun r30 hw31 => ?_)
  obtain ⟨hw31r, hw31p⟩ := hw31
  have tk32 : mo_hd ((r30.toInt ≠ 0 → o26_x12.toInt = 1 ∧ o26_x13.toInt = (671187 : Int))) := by have q9 := hw31p; first | (simp only [(mo_un tf27), (mo_un tf28), mo_i1, mo_l1] at q9; exact q9) | (rw [(mo_un tf27), (mo_un tf28)] at q9; exact q9)
  clear hw31p
  refine lv_if_ne (tgt := 40) hx hb dX12_partAt_7 (by decide) (fun c33 => ?_) (fun c33 => ?_)
  · have ic33 : r30.toInt ≠ 0 := zi_ne rfl rfl c33
    replace ic33 : 1 ≤ r30.toInt := by (first | omega | (have u0 := mo_un tk32; omega))
    refine lv_aload_n hx hb dX12_partAt_40 rfl (lv_at hl 0 rfl) ?_
    refine lv_ldc2 (own := RX12) (v := 671187) hx hb hown (hts (.constantLong RX12 315 (671187)) wa_1072) dX12_partAt_41 ?_
    refine pz_calli (va_runV (As := [.long 671187]) (rest := []) ⟨hx, hb, hml, hown, hts⟩ (t_X12_isWord l dC dI _ κ τ ν ρ L f hG hT h0 (671187) ht_h0) (cwV 1 hts gX12_partAt_X12_isWord rfl rfl rfl ⟨rfl, pd_X12_isWord⟩ ⟨Nat.le_of_ble_eq_true rfl, Nat.le_of_ble_eq_true rfl⟩) ⟨pz_blind, va_recv hK hP (ci := 12) (q0 := q29) rfl eq29, pz_pre hP hK hD hN⟩ rfl rfl hl.1 rfl (lv_room (Nat.le_of_ble_eq_true rfl)) dX12_partAt_44 ⟨Nat.le_of_ble_eq_true rfl, Nat.le_of_ble_eq_true rfl⟩) (fun r34 hw35 => ?_)
    obtain ⟨hw35r, hw35p⟩ := hw35
    have tk36 : mo_hd ((r34.toInt ≠ 0 → o26_x12.toInt = 1 ∧ o26_x13.toInt = (671187 : Int))) := by have q9 := hw35p; first | (simp only [(mo_un tf27), (mo_un tf28), mo_i1, mo_l1] at q9; exact q9) | (rw [(mo_un tf27), (mo_un tf28)] at q9; exact q9)
    clear hw35p
    refine lv_if_eq (tgt := 54) hx hb dX12_partAt_47 (by decide) (fun c37 => ?_) (fun c37 => ?_)
    · have ic37 : r34.toInt = 0 := zi_eq rfl rfl c37
      refine lv_aload_n hx hb dX12_partAt_54 rfl (lv_at hl 0 rfl) ?_
      refine lv_ldc2 (own := RX12) (v := 76951716) hx hb hown (hts (.constantLong RX12 321 (76951716)) wa_1073) dX12_partAt_55 ?_
      refine pz_calli (va_runV (As := [.long 76951716]) (rest := []) ⟨hx, hb, hml, hown, hts⟩ (t_X12_isWord l dC dI _ κ τ ν ρ L f hG hT h0 (76951716) ht_h0) (cwV 1 hts gX12_partAt_X12_isWord rfl rfl rfl ⟨rfl, pd_X12_isWord⟩ ⟨Nat.le_of_ble_eq_true rfl, Nat.le_of_ble_eq_true rfl⟩) ⟨pz_blind, va_recv hK hP (ci := 12) (q0 := q29) rfl eq29, pz_pre hP hK hD hN⟩ rfl rfl hl.1 rfl (lv_room (Nat.le_of_ble_eq_true rfl)) dX12_partAt_58 ⟨Nat.le_of_ble_eq_true rfl, Nat.le_of_ble_eq_true rfl⟩) (fun r38 hw39 => ?_)
      obtain ⟨hw39r, hw39p⟩ := hw39
      have tk40 : mo_hd ((r38.toInt ≠ 0 → o26_x12.toInt = 1 ∧ o26_x13.toInt = (76951716 : Int))) := by have q9 := hw39p; first | (simp only [(mo_un tf27), (mo_un tf28), mo_i1, mo_l1] at q9; exact q9) | (rw [(mo_un tf27), (mo_un tf28)] at q9; exact q9)
      clear hw39p
      refine lv_if_eq (tgt := 68) hx hb dX12_partAt_61 (by decide) (fun c41 => ?_) (fun c41 => ?_)
      · have ic41 : r38.toInt = 0 := zi_eq rfl rfl c41
        refine lv_aload_n hx hb dX12_partAt_68 rfl (lv_at hl 0 rfl) ?_
        refine lv_ldc2 (own := RX12) (v := 267316) hx hb hown (hts (.constantLong RX12 323 (267316)) wa_1074) dX12_partAt_69 ?_
        refine pz_calli (va_runV (As := [.long 267316]) (rest := []) ⟨hx, hb, hml, hown, hts⟩ (t_X12_isWord l dC dI _ κ τ ν ρ L f hG hT h0 (267316) ht_h0) (cwV 1 hts gX12_partAt_X12_isWord rfl rfl rfl ⟨rfl, pd_X12_isWord⟩ ⟨Nat.le_of_ble_eq_true rfl, Nat.le_of_ble_eq_true rfl⟩) ⟨pz_blind, va_recv hK hP (ci := 12) (q0 := q29) rfl eq29, pz_pre hP hK hD hN⟩ rfl rfl hl.1 rfl (lv_room (Nat.le_of_ble_eq_true rfl)) dX12_partAt_72 ⟨Nat.le_of_ble_eq_true rfl, Nat.le_of_ble_eq_true rfl⟩) (fun r42 hw43 => ?_)
        obtain ⟨hw43r, hw43p⟩ := hw43
        have tk44 : mo_hd ((r42.toInt ≠ 0 → o26_x12.toInt = 1 ∧ o26_x13.toInt = (267316 : Int))) := by have q9 := hw43p; first | (simp only [(mo_un tf27), (mo_un tf28), mo_i1, mo_l1] at q9; exact q9) | (rw [(mo_un tf27), (mo_un tf28)] at q9; exact q9)
        clear hw43p
        refine lv_if_eq (tgt := 82) hx hb dX12_partAt_75 (by decide) (fun c45 => ?_) (fun c45 => ?_)
        · have ic45 : r42.toInt = 0 := zi_eq rfl rfl c45
          refine lv_iconst (v := 4) hx hb dX12_partAt_82 (by decide) ?_
          exact W.iret (v := 4) hx hb hr (fun t ht hW => ⟨4, rfl, ⟨(by first | decide | (first | omega | (have u3 := mo_un tk44; first | omega | (have u2 := mo_un tk40; first | omega | (have u1 := mo_un tk36; first | omega | (have u0 := mo_un tk32; omega)))))), (by first | (simp only [(mo_un tf27), mo_i1, mo_l1]; exact (show ((4 : Int32).toInt ≠ -1 → o26_x12.toInt = 1 ∧ 1 ≤ (4 : Int32).toInt) from by have q8 : (4 : Int32).toInt = 4 := rfl; first | (first | omega | (have u3 := mo_un tk44; first | omega | (have u2 := mo_un tk40; first | omega | (have u1 := mo_un tk36; first | omega | (have u0 := mo_un tk32; omega))))) | decide)) | (rw [(mo_un tf27)]; exact (show ((4 : Int32).toInt ≠ -1 → o26_x12.toInt = 1 ∧ 1 ≤ (4 : Int32).toInt) from by have q8 : (4 : Int32).toInt = 4 := rfl; first | (first | omega | (have u3 := mo_un tk44; first | omega | (have u2 := mo_un tk40; first | omega | (have u1 := mo_un tk36; first | omega | (have u0 := mo_un tk32; omega))))) | decide)))⟩, ht⟩) (fun _ h => by cases h) dX12_partAt_83
        · have ic45 : r42.toInt ≠ 0 := zi_eqf rfl rfl c45
          replace ic45 : 1 ≤ r42.toInt := by (first | omega | (have u3 := mo_un tk44; first | omega | (have u2 := mo_un tk40; first | omega | (have u1 := mo_un tk36; first | omega | (have u0 := mo_un tk32; omega)))))
          refine lv_iconst (v := 3) hx hb dX12_partAt_78 (by decide) ?_
          refine lv_goto (tgt := 83) hx hb dX12_partAt_79 (by decide) ?_
          exact W.iret (v := 3) hx hb hr (fun t ht hW => ⟨3, rfl, ⟨(by first | decide | (first | omega | (have u3 := mo_un tk44; first | omega | (have u2 := mo_un tk40; first | omega | (have u1 := mo_un tk36; first | omega | (have u0 := mo_un tk32; omega)))))), (by first | (simp only [(mo_un tf27), mo_i1, mo_l1]; exact (show ((3 : Int32).toInt ≠ -1 → o26_x12.toInt = 1 ∧ 1 ≤ (3 : Int32).toInt) from by have q8 : (3 : Int32).toInt = 3 := rfl; first | (first | omega | (have u3 := mo_un tk44; first | omega | (have u2 := mo_un tk40; first | omega | (have u1 := mo_un tk36; first | omega | (have u0 := mo_un tk32; omega))))) | decide)) | (rw [(mo_un tf27)]; exact (show ((3 : Int32).toInt ≠ -1 → o26_x12.toInt = 1 ∧ 1 ≤ (3 : Int32).toInt) from by have q8 : (3 : Int32).toInt = 3 := rfl; first | (first | omega | (have u3 := mo_un tk44; first | omega | (have u2 := mo_un tk40; first | omega | (have u1 := mo_un tk36; first | omega | (have u0 := mo_un tk32; omega))))) | decide)))⟩, ht⟩) (fun _ h => by cases h) dX12_partAt_83
      · have ic41 : r38.toInt ≠ 0 := zi_eqf rfl rfl c41
        replace ic41 : 1 ≤ r38.toInt := by (first | omega | (have u2 := mo_un tk40; first | omega | (have u1 := mo_un tk36; first | omega | (have u0 := mo_un tk32; omega))))
        refine lv_iconst (v := 2) hx hb dX12_partAt_64 (by decide) ?_
        refine lv_goto (tgt := 83) hx hb dX12_partAt_65 (by decide) ?_
        exact W.iret (v := 2) hx hb hr (fun t ht hW => ⟨2, rfl, ⟨(by first | decide | (first | omega | (have u2 := mo_un tk40; first | omega | (have u1 := mo_un tk36; first | omega | (have u0 := mo_un tk32; omega))))), (by first | (simp only [(mo_un tf27), mo_i1, mo_l1]; exact (show ((2 : Int32).toInt ≠ -1 → o26_x12.toInt = 1 ∧ 1 ≤ (2 : Int32).toInt) from by have q8 : (2 : Int32).toInt = 2 := rfl; first | (first | omega | (have u2 := mo_un tk40; first | omega | (have u1 := mo_un tk36; first | omega | (have u0 := mo_un tk32; omega)))) | decide)) | (rw [(mo_un tf27)]; exact (show ((2 : Int32).toInt ≠ -1 → o26_x12.toInt = 1 ∧ 1 ≤ (2 : Int32).toInt) from by have q8 : (2 : Int32).toInt = 2 := rfl; first | (first | omega | (have u2 := mo_un tk40; first | omega | (have u1 := mo_un tk36; first | omega | (have u0 := mo_un tk32; omega)))) | decide)))⟩, ht⟩) (fun _ h => by cases h) dX12_partAt_83
    · have ic37 : r34.toInt ≠ 0 := zi_eqf rfl rfl c37
      replace ic37 : 1 ≤ r34.toInt := by (first | omega | (have u1 := mo_un tk36; first | omega | (have u0 := mo_un tk32; omega)))
      refine lv_iconst (v := 1) hx hb dX12_partAt_50 (by decide) ?_
      refine lv_goto (tgt := 83) hx hb dX12_partAt_51 (by decide) ?_
      exact W.iret (v := 1) hx hb hr (fun t ht hW => ⟨1, rfl, ⟨(by first | decide | (first | omega | (have u1 := mo_un tk36; first | omega | (have u0 := mo_un tk32; omega)))), (by first | (simp only [(mo_un tf27), mo_i1, mo_l1]; exact (show ((1 : Int32).toInt ≠ -1 → o26_x12.toInt = 1 ∧ 1 ≤ (1 : Int32).toInt) from by have q8 : (1 : Int32).toInt = 1 := rfl; first | (first | omega | (have u1 := mo_un tk36; first | omega | (have u0 := mo_un tk32; omega))) | decide)) | (rw [(mo_un tf27)]; exact (show ((1 : Int32).toInt ≠ -1 → o26_x12.toInt = 1 ∧ 1 ≤ (1 : Int32).toInt) from by have q8 : (1 : Int32).toInt = 1 := rfl; first | (first | omega | (have u1 := mo_un tk36; first | omega | (have u0 := mo_un tk32; omega))) | decide)))⟩, ht⟩) (fun _ h => by cases h) dX12_partAt_83
  · have ic33 : r30.toInt = 0 := zi_nef rfl rfl c33
    refine lv_aload_n hx hb dX12_partAt_10 rfl (lv_at hl 0 rfl) ?_
    refine lv_ldc2 (own := RX12) (v := 76951716) hx hb hown (hts (.constantLong RX12 321 (76951716)) wa_1073) dX12_partAt_11 ?_
    refine pz_calli (va_runV (As := [.long 76951716]) (rest := []) ⟨hx, hb, hml, hown, hts⟩ (t_X12_isWord l dC dI _ κ τ ν ρ L f hG hT h0 (76951716) ht_h0) (cwV 1 hts gX12_partAt_X12_isWord rfl rfl rfl ⟨rfl, pd_X12_isWord⟩ ⟨Nat.le_of_ble_eq_true rfl, Nat.le_of_ble_eq_true rfl⟩) ⟨pz_blind, va_recv hK hP (ci := 12) (q0 := q29) rfl eq29, pz_pre hP hK hD hN⟩ rfl rfl hl.1 rfl (lv_room (Nat.le_of_ble_eq_true rfl)) dX12_partAt_14 ⟨Nat.le_of_ble_eq_true rfl, Nat.le_of_ble_eq_true rfl⟩) (fun r46 hw47 => ?_)
    obtain ⟨hw47r, hw47p⟩ := hw47
    have tk48 : mo_hd ((r46.toInt ≠ 0 → o26_x12.toInt = 1 ∧ o26_x13.toInt = (76951716 : Int))) := by have q9 := hw47p; first | (simp only [(mo_un tf27), (mo_un tf28), mo_i1, mo_l1] at q9; exact q9) | (rw [(mo_un tf27), (mo_un tf28)] at q9; exact q9)
    clear hw47p
    refine lv_if_ne (tgt := 40) hx hb dX12_partAt_17 (by decide) (fun c49 => ?_) (fun c49 => ?_)
    · have ic49 : r46.toInt ≠ 0 := zi_ne rfl rfl c49
      replace ic49 : 1 ≤ r46.toInt := by (first | omega | (have u1 := mo_un tk48; first | omega | (have u0 := mo_un tk32; omega)))
      refine lv_aload_n hx hb dX12_partAt_40 rfl (lv_at hl 0 rfl) ?_
      refine lv_ldc2 (own := RX12) (v := 671187) hx hb hown (hts (.constantLong RX12 315 (671187)) wa_1072) dX12_partAt_41 ?_
      refine pz_calli (va_runV (As := [.long 671187]) (rest := []) ⟨hx, hb, hml, hown, hts⟩ (t_X12_isWord l dC dI _ κ τ ν ρ L f hG hT h0 (671187) ht_h0) (cwV 1 hts gX12_partAt_X12_isWord rfl rfl rfl ⟨rfl, pd_X12_isWord⟩ ⟨Nat.le_of_ble_eq_true rfl, Nat.le_of_ble_eq_true rfl⟩) ⟨pz_blind, va_recv hK hP (ci := 12) (q0 := q29) rfl eq29, pz_pre hP hK hD hN⟩ rfl rfl hl.1 rfl (lv_room (Nat.le_of_ble_eq_true rfl)) dX12_partAt_44 ⟨Nat.le_of_ble_eq_true rfl, Nat.le_of_ble_eq_true rfl⟩) (fun r50 hw51 => ?_)
      obtain ⟨hw51r, hw51p⟩ := hw51
      have tk52 : mo_hd ((r50.toInt ≠ 0 → o26_x12.toInt = 1 ∧ o26_x13.toInt = (671187 : Int))) := by have q9 := hw51p; first | (simp only [(mo_un tf27), (mo_un tf28), mo_i1, mo_l1] at q9; exact q9) | (rw [(mo_un tf27), (mo_un tf28)] at q9; exact q9)
      clear hw51p
      refine lv_if_eq (tgt := 54) hx hb dX12_partAt_47 (by decide) (fun c53 => ?_) (fun c53 => ?_)
      · have ic53 : r50.toInt = 0 := zi_eq rfl rfl c53
        refine lv_aload_n hx hb dX12_partAt_54 rfl (lv_at hl 0 rfl) ?_
        refine lv_ldc2 (own := RX12) (v := 76951716) hx hb hown (hts (.constantLong RX12 321 (76951716)) wa_1073) dX12_partAt_55 ?_
        refine pz_calli (va_runV (As := [.long 76951716]) (rest := []) ⟨hx, hb, hml, hown, hts⟩ (t_X12_isWord l dC dI _ κ τ ν ρ L f hG hT h0 (76951716) ht_h0) (cwV 1 hts gX12_partAt_X12_isWord rfl rfl rfl ⟨rfl, pd_X12_isWord⟩ ⟨Nat.le_of_ble_eq_true rfl, Nat.le_of_ble_eq_true rfl⟩) ⟨pz_blind, va_recv hK hP (ci := 12) (q0 := q29) rfl eq29, pz_pre hP hK hD hN⟩ rfl rfl hl.1 rfl (lv_room (Nat.le_of_ble_eq_true rfl)) dX12_partAt_58 ⟨Nat.le_of_ble_eq_true rfl, Nat.le_of_ble_eq_true rfl⟩) (fun r54 hw55 => ?_)
        obtain ⟨hw55r, hw55p⟩ := hw55
        have tk56 : mo_hd ((r54.toInt ≠ 0 → o26_x12.toInt = 1 ∧ o26_x13.toInt = (76951716 : Int))) := by have q9 := hw55p; first | (simp only [(mo_un tf27), (mo_un tf28), mo_i1, mo_l1] at q9; exact q9) | (rw [(mo_un tf27), (mo_un tf28)] at q9; exact q9)
        clear hw55p
        refine lv_if_eq (tgt := 68) hx hb dX12_partAt_61 (by decide) (fun c57 => ?_) (fun c57 => ?_)
        · have ic57 : r54.toInt = 0 := zi_eq rfl rfl c57
          refine lv_aload_n hx hb dX12_partAt_68 rfl (lv_at hl 0 rfl) ?_
          refine lv_ldc2 (own := RX12) (v := 267316) hx hb hown (hts (.constantLong RX12 323 (267316)) wa_1074) dX12_partAt_69 ?_
          refine pz_calli (va_runV (As := [.long 267316]) (rest := []) ⟨hx, hb, hml, hown, hts⟩ (t_X12_isWord l dC dI _ κ τ ν ρ L f hG hT h0 (267316) ht_h0) (cwV 1 hts gX12_partAt_X12_isWord rfl rfl rfl ⟨rfl, pd_X12_isWord⟩ ⟨Nat.le_of_ble_eq_true rfl, Nat.le_of_ble_eq_true rfl⟩) ⟨pz_blind, va_recv hK hP (ci := 12) (q0 := q29) rfl eq29, pz_pre hP hK hD hN⟩ rfl rfl hl.1 rfl (lv_room (Nat.le_of_ble_eq_true rfl)) dX12_partAt_72 ⟨Nat.le_of_ble_eq_true rfl, Nat.le_of_ble_eq_true rfl⟩) (fun r58 hw59 => ?_)
          obtain ⟨hw59r, hw59p⟩ := hw59
          have tk60 : mo_hd ((r58.toInt ≠ 0 → o26_x12.toInt = 1 ∧ o26_x13.toInt = (267316 : Int))) := by have q9 := hw59p; first | (simp only [(mo_un tf27), (mo_un tf28), mo_i1, mo_l1] at q9; exact q9) | (rw [(mo_un tf27), (mo_un tf28)] at q9; exact q9)
          clear hw59p
          refine lv_if_eq (tgt := 82) hx hb dX12_partAt_75 (by decide) (fun c61 => ?_) (fun c61 => ?_)
          · have ic61 : r58.toInt = 0 := zi_eq rfl rfl c61
            refine lv_iconst (v := 4) hx hb dX12_partAt_82 (by decide) ?_
            exact W.iret (v := 4) hx hb hr (fun t ht hW => ⟨4, rfl, ⟨(by first | decide | (first | omega | (have u4 := mo_un tk60; first | omega | (have u3 := mo_un tk56; first | omega | (have u2 := mo_un tk52; first | omega | (have u1 := mo_un tk48; first | omega | (have u0 := mo_un tk32; omega))))))), (by first | (simp only [(mo_un tf27), mo_i1, mo_l1]; exact (show ((4 : Int32).toInt ≠ -1 → o26_x12.toInt = 1 ∧ 1 ≤ (4 : Int32).toInt) from by have q8 : (4 : Int32).toInt = 4 := rfl; first | (first | omega | (have u4 := mo_un tk60; first | omega | (have u3 := mo_un tk56; first | omega | (have u2 := mo_un tk52; first | omega | (have u1 := mo_un tk48; first | omega | (have u0 := mo_un tk32; omega)))))) | decide)) | (rw [(mo_un tf27)]; exact (show ((4 : Int32).toInt ≠ -1 → o26_x12.toInt = 1 ∧ 1 ≤ (4 : Int32).toInt) from by have q8 : (4 : Int32).toInt = 4 := rfl; first | (first | omega | (have u4 := mo_un tk60; first | omega | (have u3 := mo_un tk56; first | omega | (have u2 := mo_un tk52; first | omega | (have u1 := mo_un tk48; first | omega | (have u0 := mo_un tk32; omega)))))) | decide)))⟩, ht⟩) (fun _ h => by cases h) dX12_partAt_83
          · have ic61 : r58.toInt ≠ 0 := zi_eqf rfl rfl c61
            replace ic61 : 1 ≤ r58.toInt := by (first | omega | (have u4 := mo_un tk60; first | omega | (have u3 := mo_un tk56; first | omega | (have u2 := mo_un tk52; first | omega | (have u1 := mo_un tk48; first | omega | (have u0 := mo_un tk32; omega))))))
            refine lv_iconst (v := 3) hx hb dX12_partAt_78 (by decide) ?_
            refine lv_goto (tgt := 83) hx hb dX12_partAt_79 (by decide) ?_
            exact W.iret (v := 3) hx hb hr (fun t ht hW => ⟨3, rfl, ⟨(by first | decide | (first | omega | (have u4 := mo_un tk60; first | omega | (have u3 := mo_un tk56; first | omega | (have u2 := mo_un tk52; first | omega | (have u1 := mo_un tk48; first | omega | (have u0 := mo_un tk32; omega))))))), (by first | (simp only [(mo_un tf27), mo_i1, mo_l1]; exact (show ((3 : Int32).toInt ≠ -1 → o26_x12.toInt = 1 ∧ 1 ≤ (3 : Int32).toInt) from by have q8 : (3 : Int32).toInt = 3 := rfl; first | (first | omega | (have u4 := mo_un tk60; first | omega | (have u3 := mo_un tk56; first | omega | (have u2 := mo_un tk52; first | omega | (have u1 := mo_un tk48; first | omega | (have u0 := mo_un tk32; omega)))))) | decide)) | (rw [(mo_un tf27)]; exact (show ((3 : Int32).toInt ≠ -1 → o26_x12.toInt = 1 ∧ 1 ≤ (3 : Int32).toInt) from by have q8 : (3 : Int32).toInt = 3 := rfl; first | (first | omega | (have u4 := mo_un tk60; first | omega | (have u3 := mo_un tk56; first | omega | (have u2 := mo_un tk52; first | omega | (have u1 := mo_un tk48; first | omega | (have u0 := mo_un tk32; omega)))))) | decide)))⟩, ht⟩) (fun _ h => by cases h) dX12_partAt_83
        · have ic57 : r54.toInt ≠ 0 := zi_eqf rfl rfl c57
          replace ic57 : 1 ≤ r54.toInt := by (first | omega | (have u3 := mo_un tk56; first | omega | (have u2 := mo_un tk52; first | omega | (have u1 := mo_un tk48; first | omega | (have u0 := mo_un tk32; omega)))))
          refine lv_iconst (v := 2) hx hb dX12_partAt_64 (by decide) ?_
          refine lv_goto (tgt := 83) hx hb dX12_partAt_65 (by decide) ?_
          exact W.iret (v := 2) hx hb hr (fun t ht hW => ⟨2, rfl, ⟨(by first | decide | (first | omega | (have u3 := mo_un tk56; first | omega | (have u2 := mo_un tk52; first | omega | (have u1 := mo_un tk48; first | omega | (have u0 := mo_un tk32; omega)))))), (by first | (simp only [(mo_un tf27), mo_i1, mo_l1]; exact (show ((2 : Int32).toInt ≠ -1 → o26_x12.toInt = 1 ∧ 1 ≤ (2 : Int32).toInt) from by have q8 : (2 : Int32).toInt = 2 := rfl; first | (first | omega | (have u3 := mo_un tk56; first | omega | (have u2 := mo_un tk52; first | omega | (have u1 := mo_un tk48; first | omega | (have u0 := mo_un tk32; omega))))) | decide)) | (rw [(mo_un tf27)]; exact (show ((2 : Int32).toInt ≠ -1 → o26_x12.toInt = 1 ∧ 1 ≤ (2 : Int32).toInt) from by have q8 : (2 : Int32).toInt = 2 := rfl; first | (first | omega | (have u3 := mo_un tk56; first | omega | (have u2 := mo_un tk52; first | omega | (have u1 := mo_un tk48; first | omega | (have u0 := mo_un tk32; omega))))) | decide)))⟩, ht⟩) (fun _ h => by cases h) dX12_partAt_83
      · have ic53 : r50.toInt ≠ 0 := zi_eqf rfl rfl c53
        replace ic53 : 1 ≤ r50.toInt := by (first | omega | (have u2 := mo_un tk52; first | omega | (have u1 := mo_un tk48; first | omega | (have u0 := mo_un tk32; omega))))
        refine lv_iconst (v := 1) hx hb dX12_partAt_50 (by decide) ?_
        refine lv_goto (tgt := 83) hx hb dX12_partAt_51 (by decide) ?_
        exact W.iret (v := 1) hx hb hr (fun t ht hW => ⟨1, rfl, ⟨(by first | decide | (first | omega | (have u2 := mo_un tk52; first | omega | (have u1 := mo_un tk48; first | omega | (have u0 := mo_un tk32; omega))))), (by first | (simp only [(mo_un tf27), mo_i1, mo_l1]; exact (show ((1 : Int32).toInt ≠ -1 → o26_x12.toInt = 1 ∧ 1 ≤ (1 : Int32).toInt) from by have q8 : (1 : Int32).toInt = 1 := rfl; first | (first | omega | (have u2 := mo_un tk52; first | omega | (have u1 := mo_un tk48; first | omega | (have u0 := mo_un tk32; omega)))) | decide)) | (rw [(mo_un tf27)]; exact (show ((1 : Int32).toInt ≠ -1 → o26_x12.toInt = 1 ∧ 1 ≤ (1 : Int32).toInt) from by have q8 : (1 : Int32).toInt = 1 := rfl; first | (first | omega | (have u2 := mo_un tk52; first | omega | (have u1 := mo_un tk48; first | omega | (have u0 := mo_un tk32; omega)))) | decide)))⟩, ht⟩) (fun _ h => by cases h) dX12_partAt_83
    · have ic49 : r46.toInt = 0 := zi_nef rfl rfl c49
      refine lv_aload_n hx hb dX12_partAt_20 rfl (lv_at hl 0 rfl) ?_
      refine lv_ldc2 (own := RX12) (v := 267316) hx hb hown (hts (.constantLong RX12 323 (267316)) wa_1074) dX12_partAt_21 ?_
      refine pz_calli (va_runV (As := [.long 267316]) (rest := []) ⟨hx, hb, hml, hown, hts⟩ (t_X12_isWord l dC dI _ κ τ ν ρ L f hG hT h0 (267316) ht_h0) (cwV 1 hts gX12_partAt_X12_isWord rfl rfl rfl ⟨rfl, pd_X12_isWord⟩ ⟨Nat.le_of_ble_eq_true rfl, Nat.le_of_ble_eq_true rfl⟩) ⟨pz_blind, va_recv hK hP (ci := 12) (q0 := q29) rfl eq29, pz_pre hP hK hD hN⟩ rfl rfl hl.1 rfl (lv_room (Nat.le_of_ble_eq_true rfl)) dX12_partAt_24 ⟨Nat.le_of_ble_eq_true rfl, Nat.le_of_ble_eq_true rfl⟩) (fun r62 hw63 => ?_)
      obtain ⟨hw63r, hw63p⟩ := hw63
      have tk64 : mo_hd ((r62.toInt ≠ 0 → o26_x12.toInt = 1 ∧ o26_x13.toInt = (267316 : Int))) := by have q9 := hw63p; first | (simp only [(mo_un tf27), (mo_un tf28), mo_i1, mo_l1] at q9; exact q9) | (rw [(mo_un tf27), (mo_un tf28)] at q9; exact q9)
      clear hw63p
      refine lv_if_ne (tgt := 40) hx hb dX12_partAt_27 (by decide) (fun c65 => ?_) (fun c65 => ?_)
      · have ic65 : r62.toInt ≠ 0 := zi_ne rfl rfl c65
        replace ic65 : 1 ≤ r62.toInt := by (first | omega | (have u2 := mo_un tk64; first | omega | (have u1 := mo_un tk48; first | omega | (have u0 := mo_un tk32; omega))))
        refine lv_aload_n hx hb dX12_partAt_40 rfl (lv_at hl 0 rfl) ?_
        refine lv_ldc2 (own := RX12) (v := 671187) hx hb hown (hts (.constantLong RX12 315 (671187)) wa_1072) dX12_partAt_41 ?_
        refine pz_calli (va_runV (As := [.long 671187]) (rest := []) ⟨hx, hb, hml, hown, hts⟩ (t_X12_isWord l dC dI _ κ τ ν ρ L f hG hT h0 (671187) ht_h0) (cwV 1 hts gX12_partAt_X12_isWord rfl rfl rfl ⟨rfl, pd_X12_isWord⟩ ⟨Nat.le_of_ble_eq_true rfl, Nat.le_of_ble_eq_true rfl⟩) ⟨pz_blind, va_recv hK hP (ci := 12) (q0 := q29) rfl eq29, pz_pre hP hK hD hN⟩ rfl rfl hl.1 rfl (lv_room (Nat.le_of_ble_eq_true rfl)) dX12_partAt_44 ⟨Nat.le_of_ble_eq_true rfl, Nat.le_of_ble_eq_true rfl⟩) (fun r66 hw67 => ?_)
        obtain ⟨hw67r, hw67p⟩ := hw67
        have tk68 : mo_hd ((r66.toInt ≠ 0 → o26_x12.toInt = 1 ∧ o26_x13.toInt = (671187 : Int))) := by have q9 := hw67p; first | (simp only [(mo_un tf27), (mo_un tf28), mo_i1, mo_l1] at q9; exact q9) | (rw [(mo_un tf27), (mo_un tf28)] at q9; exact q9)
        clear hw67p
        refine lv_if_eq (tgt := 54) hx hb dX12_partAt_47 (by decide) (fun c69 => ?_) (fun c69 => ?_)
        · have ic69 : r66.toInt = 0 := zi_eq rfl rfl c69
          refine lv_aload_n hx hb dX12_partAt_54 rfl (lv_at hl 0 rfl) ?_
          refine lv_ldc2 (own := RX12) (v := 76951716) hx hb hown (hts (.constantLong RX12 321 (76951716)) wa_1073) dX12_partAt_55 ?_
          refine pz_calli (va_runV (As := [.long 76951716]) (rest := []) ⟨hx, hb, hml, hown, hts⟩ (t_X12_isWord l dC dI _ κ τ ν ρ L f hG hT h0 (76951716) ht_h0) (cwV 1 hts gX12_partAt_X12_isWord rfl rfl rfl ⟨rfl, pd_X12_isWord⟩ ⟨Nat.le_of_ble_eq_true rfl, Nat.le_of_ble_eq_true rfl⟩) ⟨pz_blind, va_recv hK hP (ci := 12) (q0 := q29) rfl eq29, pz_pre hP hK hD hN⟩ rfl rfl hl.1 rfl (lv_room (Nat.le_of_ble_eq_true rfl)) dX12_partAt_58 ⟨Nat.le_of_ble_eq_true rfl, Nat.le_of_ble_eq_true rfl⟩) (fun r70 hw71 => ?_)
          obtain ⟨hw71r, hw71p⟩ := hw71
          have tk72 : mo_hd ((r70.toInt ≠ 0 → o26_x12.toInt = 1 ∧ o26_x13.toInt = (76951716 : Int))) := by have q9 := hw71p; first | (simp only [(mo_un tf27), (mo_un tf28), mo_i1, mo_l1] at q9; exact q9) | (rw [(mo_un tf27), (mo_un tf28)] at q9; exact q9)
          clear hw71p
          refine lv_if_eq (tgt := 68) hx hb dX12_partAt_61 (by decide) (fun c73 => ?_) (fun c73 => ?_)
          · have ic73 : r70.toInt = 0 := zi_eq rfl rfl c73
            refine lv_aload_n hx hb dX12_partAt_68 rfl (lv_at hl 0 rfl) ?_
            refine lv_ldc2 (own := RX12) (v := 267316) hx hb hown (hts (.constantLong RX12 323 (267316)) wa_1074) dX12_partAt_69 ?_
            refine pz_calli (va_runV (As := [.long 267316]) (rest := []) ⟨hx, hb, hml, hown, hts⟩ (t_X12_isWord l dC dI _ κ τ ν ρ L f hG hT h0 (267316) ht_h0) (cwV 1 hts gX12_partAt_X12_isWord rfl rfl rfl ⟨rfl, pd_X12_isWord⟩ ⟨Nat.le_of_ble_eq_true rfl, Nat.le_of_ble_eq_true rfl⟩) ⟨pz_blind, va_recv hK hP (ci := 12) (q0 := q29) rfl eq29, pz_pre hP hK hD hN⟩ rfl rfl hl.1 rfl (lv_room (Nat.le_of_ble_eq_true rfl)) dX12_partAt_72 ⟨Nat.le_of_ble_eq_true rfl, Nat.le_of_ble_eq_true rfl⟩) (fun r74 hw75 => ?_)
            obtain ⟨hw75r, hw75p⟩ := hw75
            have tk76 : mo_hd ((r74.toInt ≠ 0 → o26_x12.toInt = 1 ∧ o26_x13.toInt = (267316 : Int))) := by have q9 := hw75p; first | (simp only [(mo_un tf27), (mo_un tf28), mo_i1, mo_l1] at q9; exact q9) | (rw [(mo_un tf27), (mo_un tf28)] at q9; exact q9)
            clear hw75p
            refine lv_if_eq (tgt := 82) hx hb dX12_partAt_75 (by decide) (fun c77 => ?_) (fun c77 => ?_)
            · have ic77 : r74.toInt = 0 := zi_eq rfl rfl c77
              refine lv_iconst (v := 4) hx hb dX12_partAt_82 (by decide) ?_
              exact W.iret (v := 4) hx hb hr (fun t ht hW => ⟨4, rfl, ⟨(by first | decide | (first | omega | (have u5 := mo_un tk76; first | omega | (have u4 := mo_un tk72; first | omega | (have u3 := mo_un tk68; first | omega | (have u2 := mo_un tk64; first | omega | (have u1 := mo_un tk48; first | omega | (have u0 := mo_un tk32; omega)))))))), (by first | (simp only [(mo_un tf27), mo_i1, mo_l1]; exact (show ((4 : Int32).toInt ≠ -1 → o26_x12.toInt = 1 ∧ 1 ≤ (4 : Int32).toInt) from by have q8 : (4 : Int32).toInt = 4 := rfl; first | (first | omega | (have u5 := mo_un tk76; first | omega | (have u4 := mo_un tk72; first | omega | (have u3 := mo_un tk68; first | omega | (have u2 := mo_un tk64; first | omega | (have u1 := mo_un tk48; first | omega | (have u0 := mo_un tk32; omega))))))) | decide)) | (rw [(mo_un tf27)]; exact (show ((4 : Int32).toInt ≠ -1 → o26_x12.toInt = 1 ∧ 1 ≤ (4 : Int32).toInt) from by have q8 : (4 : Int32).toInt = 4 := rfl; first | (first | omega | (have u5 := mo_un tk76; first | omega | (have u4 := mo_un tk72; first | omega | (have u3 := mo_un tk68; first | omega | (have u2 := mo_un tk64; first | omega | (have u1 := mo_un tk48; first | omega | (have u0 := mo_un tk32; omega))))))) | decide)))⟩, ht⟩) (fun _ h => by cases h) dX12_partAt_83
            · have ic77 : r74.toInt ≠ 0 := zi_eqf rfl rfl c77
              replace ic77 : 1 ≤ r74.toInt := by (first | omega | (have u5 := mo_un tk76; first | omega | (have u4 := mo_un tk72; first | omega | (have u3 := mo_un tk68; first | omega | (have u2 := mo_un tk64; first | omega | (have u1 := mo_un tk48; first | omega | (have u0 := mo_un tk32; omega)))))))
              refine lv_iconst (v := 3) hx hb dX12_partAt_78 (by decide) ?_
              refine lv_goto (tgt := 83) hx hb dX12_partAt_79 (by decide) ?_
              exact W.iret (v := 3) hx hb hr (fun t ht hW => ⟨3, rfl, ⟨(by first | decide | (first | omega | (have u5 := mo_un tk76; first | omega | (have u4 := mo_un tk72; first | omega | (have u3 := mo_un tk68; first | omega | (have u2 := mo_un tk64; first | omega | (have u1 := mo_un tk48; first | omega | (have u0 := mo_un tk32; omega)))))))), (by first | (simp only [(mo_un tf27), mo_i1, mo_l1]; exact (show ((3 : Int32).toInt ≠ -1 → o26_x12.toInt = 1 ∧ 1 ≤ (3 : Int32).toInt) from by have q8 : (3 : Int32).toInt = 3 := rfl; first | (first | omega | (have u5 := mo_un tk76; first | omega | (have u4 := mo_un tk72; first | omega | (have u3 := mo_un tk68; first | omega | (have u2 := mo_un tk64; first | omega | (have u1 := mo_un tk48; first | omega | (have u0 := mo_un tk32; omega))))))) | decide)) | (rw [(mo_un tf27)]; exact (show ((3 : Int32).toInt ≠ -1 → o26_x12.toInt = 1 ∧ 1 ≤ (3 : Int32).toInt) from by have q8 : (3 : Int32).toInt = 3 := rfl; first | (first | omega | (have u5 := mo_un tk76; first | omega | (have u4 := mo_un tk72; first | omega | (have u3 := mo_un tk68; first | omega | (have u2 := mo_un tk64; first | omega | (have u1 := mo_un tk48; first | omega | (have u0 := mo_un tk32; omega))))))) | decide)))⟩, ht⟩) (fun _ h => by cases h) dX12_partAt_83
          · have ic73 : r70.toInt ≠ 0 := zi_eqf rfl rfl c73
            replace ic73 : 1 ≤ r70.toInt := by (first | omega | (have u4 := mo_un tk72; first | omega | (have u3 := mo_un tk68; first | omega | (have u2 := mo_un tk64; first | omega | (have u1 := mo_un tk48; first | omega | (have u0 := mo_un tk32; omega))))))
            refine lv_iconst (v := 2) hx hb dX12_partAt_64 (by decide) ?_
            refine lv_goto (tgt := 83) hx hb dX12_partAt_65 (by decide) ?_
            exact W.iret (v := 2) hx hb hr (fun t ht hW => ⟨2, rfl, ⟨(by first | decide | (first | omega | (have u4 := mo_un tk72; first | omega | (have u3 := mo_un tk68; first | omega | (have u2 := mo_un tk64; first | omega | (have u1 := mo_un tk48; first | omega | (have u0 := mo_un tk32; omega))))))), (by first | (simp only [(mo_un tf27), mo_i1, mo_l1]; exact (show ((2 : Int32).toInt ≠ -1 → o26_x12.toInt = 1 ∧ 1 ≤ (2 : Int32).toInt) from by have q8 : (2 : Int32).toInt = 2 := rfl; first | (first | omega | (have u4 := mo_un tk72; first | omega | (have u3 := mo_un tk68; first | omega | (have u2 := mo_un tk64; first | omega | (have u1 := mo_un tk48; first | omega | (have u0 := mo_un tk32; omega)))))) | decide)) | (rw [(mo_un tf27)]; exact (show ((2 : Int32).toInt ≠ -1 → o26_x12.toInt = 1 ∧ 1 ≤ (2 : Int32).toInt) from by have q8 : (2 : Int32).toInt = 2 := rfl; first | (first | omega | (have u4 := mo_un tk72; first | omega | (have u3 := mo_un tk68; first | omega | (have u2 := mo_un tk64; first | omega | (have u1 := mo_un tk48; first | omega | (have u0 := mo_un tk32; omega)))))) | decide)))⟩, ht⟩) (fun _ h => by cases h) dX12_partAt_83
        · have ic69 : r66.toInt ≠ 0 := zi_eqf rfl rfl c69
          replace ic69 : 1 ≤ r66.toInt := by (first | omega | (have u3 := mo_un tk68; first | omega | (have u2 := mo_un tk64; first | omega | (have u1 := mo_un tk48; first | omega | (have u0 := mo_un tk32; omega)))))
          refine lv_iconst (v := 1) hx hb dX12_partAt_50 (by decide) ?_
          refine lv_goto (tgt := 83) hx hb dX12_partAt_51 (by decide) ?_
          exact W.iret (v := 1) hx hb hr (fun t ht hW => ⟨1, rfl, ⟨(by first | decide | (first | omega | (have u3 := mo_un tk68; first | omega | (have u2 := mo_un tk64; first | omega | (have u1 := mo_un tk48; first | omega | (have u0 := mo_un tk32; omega)))))), (by first | (simp only [(mo_un tf27), mo_i1, mo_l1]; exact (show ((1 : Int32).toInt ≠ -1 → o26_x12.toInt = 1 ∧ 1 ≤ (1 : Int32).toInt) from by have q8 : (1 : Int32).toInt = 1 := rfl; first | (first | omega | (have u3 := mo_un tk68; first | omega | (have u2 := mo_un tk64; first | omega | (have u1 := mo_un tk48; first | omega | (have u0 := mo_un tk32; omega))))) | decide)) | (rw [(mo_un tf27)]; exact (show ((1 : Int32).toInt ≠ -1 → o26_x12.toInt = 1 ∧ 1 ≤ (1 : Int32).toInt) from by have q8 : (1 : Int32).toInt = 1 := rfl; first | (first | omega | (have u3 := mo_un tk68; first | omega | (have u2 := mo_un tk64; first | omega | (have u1 := mo_un tk48; first | omega | (have u0 := mo_un tk32; omega))))) | decide)))⟩, ht⟩) (fun _ h => by cases h) dX12_partAt_83
      · have ic65 : r62.toInt = 0 := zi_nef rfl rfl c65
        refine lv_aload_n hx hb dX12_partAt_30 rfl (lv_at hl 0 rfl) ?_
        refine lv_ldc2 (own := RX12) (v := 394885) hx hb hown (hts (.constantLong RX12 325 (394885)) wa_1075) dX12_partAt_31 ?_
        refine pz_calli (va_runV (As := [.long 394885]) (rest := []) ⟨hx, hb, hml, hown, hts⟩ (t_X12_isWord l dC dI _ κ τ ν ρ L f hG hT h0 (394885) ht_h0) (cwV 1 hts gX12_partAt_X12_isWord rfl rfl rfl ⟨rfl, pd_X12_isWord⟩ ⟨Nat.le_of_ble_eq_true rfl, Nat.le_of_ble_eq_true rfl⟩) ⟨pz_blind, va_recv hK hP (ci := 12) (q0 := q29) rfl eq29, pz_pre hP hK hD hN⟩ rfl rfl hl.1 rfl (lv_room (Nat.le_of_ble_eq_true rfl)) dX12_partAt_34 ⟨Nat.le_of_ble_eq_true rfl, Nat.le_of_ble_eq_true rfl⟩) (fun r78 hw79 => ?_)
        obtain ⟨hw79r, hw79p⟩ := hw79
        have tk80 : mo_hd ((r78.toInt ≠ 0 → o26_x12.toInt = 1 ∧ o26_x13.toInt = (394885 : Int))) := by have q9 := hw79p; first | (simp only [(mo_un tf27), (mo_un tf28), mo_i1, mo_l1] at q9; exact q9) | (rw [(mo_un tf27), (mo_un tf28)] at q9; exact q9)
        clear hw79p
        refine lv_if_eq (tgt := 84) hx hb dX12_partAt_37 (by decide) (fun c81 => ?_) (fun c81 => ?_)
        · have ic81 : r78.toInt = 0 := zi_eq rfl rfl c81
          refine lv_aload_n hx hb dX12_partAt_84 rfl (lv_at hl 0 rfl) ?_
          refine lv_ldc2 (own := RX12) (v := 5294489) hx hb hown (hts (.constantLong RX12 327 (5294489)) wa_1076) dX12_partAt_85 ?_
          refine pz_calli (va_runV (As := [.long 5294489]) (rest := []) ⟨hx, hb, hml, hown, hts⟩ (t_X12_isWord l dC dI _ κ τ ν ρ L f hG hT h0 (5294489) ht_h0) (cwV 1 hts gX12_partAt_X12_isWord rfl rfl rfl ⟨rfl, pd_X12_isWord⟩ ⟨Nat.le_of_ble_eq_true rfl, Nat.le_of_ble_eq_true rfl⟩) ⟨pz_blind, va_recv hK hP (ci := 12) (q0 := q29) rfl eq29, pz_pre hP hK hD hN⟩ rfl rfl hl.1 rfl (lv_room (Nat.le_of_ble_eq_true rfl)) dX12_partAt_88 ⟨Nat.le_of_ble_eq_true rfl, Nat.le_of_ble_eq_true rfl⟩) (fun r82 hw83 => ?_)
          obtain ⟨hw83r, hw83p⟩ := hw83
          have tk84 : mo_hd ((r82.toInt ≠ 0 → o26_x12.toInt = 1 ∧ o26_x13.toInt = (5294489 : Int))) := by have q9 := hw83p; first | (simp only [(mo_un tf27), (mo_un tf28), mo_i1, mo_l1] at q9; exact q9) | (rw [(mo_un tf27), (mo_un tf28)] at q9; exact q9)
          clear hw83p
          refine lv_if_eq (tgt := 98) hx hb dX12_partAt_91 (by decide) (fun c85 => ?_) (fun c85 => ?_)
          · have ic85 : r82.toInt = 0 := zi_eq rfl rfl c85
            refine lv_aload_n hx hb dX12_partAt_98 rfl (lv_at hl 0 rfl) ?_
            refine lv_ldc2 (own := RX12) (v := 17376357) hx hb hown (hts (.constantLong RX12 329 (17376357)) wa_1077) dX12_partAt_99 ?_
            refine pz_calli (va_runV (As := [.long 17376357]) (rest := []) ⟨hx, hb, hml, hown, hts⟩ (t_X12_isWord l dC dI _ κ τ ν ρ L f hG hT h0 (17376357) ht_h0) (cwV 1 hts gX12_partAt_X12_isWord rfl rfl rfl ⟨rfl, pd_X12_isWord⟩ ⟨Nat.le_of_ble_eq_true rfl, Nat.le_of_ble_eq_true rfl⟩) ⟨pz_blind, va_recv hK hP (ci := 12) (q0 := q29) rfl eq29, pz_pre hP hK hD hN⟩ rfl rfl hl.1 rfl (lv_room (Nat.le_of_ble_eq_true rfl)) dX12_partAt_102 ⟨Nat.le_of_ble_eq_true rfl, Nat.le_of_ble_eq_true rfl⟩) (fun r86 hw87 => ?_)
            obtain ⟨hw87r, hw87p⟩ := hw87
            have tk88 : mo_hd ((r86.toInt ≠ 0 → o26_x12.toInt = 1 ∧ o26_x13.toInt = (17376357 : Int))) := by have q9 := hw87p; first | (simp only [(mo_un tf27), (mo_un tf28), mo_i1, mo_l1] at q9; exact q9) | (rw [(mo_un tf27), (mo_un tf28)] at q9; exact q9)
            clear hw87p
            refine lv_if_eq (tgt := 113) hx hb dX12_partAt_105 (by decide) (fun c89 => ?_) (fun c89 => ?_)
            · have ic89 : r86.toInt = 0 := zi_eq rfl rfl c89
              refine lv_aload_n hx hb dX12_partAt_113 rfl (lv_at hl 0 rfl) ?_
              refine lv_ldc2 (own := RX12) (v := 8902227) hx hb hown (hts (.constantLong RX12 331 (8902227)) wa_1078) dX12_partAt_114 ?_
              refine pz_calli (va_runV (As := [.long 8902227]) (rest := []) ⟨hx, hb, hml, hown, hts⟩ (t_X12_isWord l dC dI _ κ τ ν ρ L f hG hT h0 (8902227) ht_h0) (cwV 1 hts gX12_partAt_X12_isWord rfl rfl rfl ⟨rfl, pd_X12_isWord⟩ ⟨Nat.le_of_ble_eq_true rfl, Nat.le_of_ble_eq_true rfl⟩) ⟨pz_blind, va_recv hK hP (ci := 12) (q0 := q29) rfl eq29, pz_pre hP hK hD hN⟩ rfl rfl hl.1 rfl (lv_room (Nat.le_of_ble_eq_true rfl)) dX12_partAt_117 ⟨Nat.le_of_ble_eq_true rfl, Nat.le_of_ble_eq_true rfl⟩) (fun r90 hw91 => ?_)
              obtain ⟨hw91r, hw91p⟩ := hw91
              have tk92 : mo_hd ((r90.toInt ≠ 0 → o26_x12.toInt = 1 ∧ o26_x13.toInt = (8902227 : Int))) := by have q9 := hw91p; first | (simp only [(mo_un tf27), (mo_un tf28), mo_i1, mo_l1] at q9; exact q9) | (rw [(mo_un tf27), (mo_un tf28)] at q9; exact q9)
              clear hw91p
              refine lv_if_eq (tgt := 128) hx hb dX12_partAt_120 (by decide) (fun c93 => ?_) (fun c93 => ?_)
              · have ic93 : r90.toInt = 0 := zi_eq rfl rfl c93
                refine lv_aload_n hx hb dX12_partAt_128 rfl (lv_at hl 0 rfl) ?_
                refine lv_ldc2 (own := RX12) (v := 5930468251205) hx hb hown (hts (.constantLong RX12 333 (5930468251205)) wa_1079) dX12_partAt_129 ?_
                refine pz_calli (va_runV (As := [.long 5930468251205]) (rest := []) ⟨hx, hb, hml, hown, hts⟩ (t_X12_isWord l dC dI _ κ τ ν ρ L f hG hT h0 (5930468251205) ht_h0) (cwV 1 hts gX12_partAt_X12_isWord rfl rfl rfl ⟨rfl, pd_X12_isWord⟩ ⟨Nat.le_of_ble_eq_true rfl, Nat.le_of_ble_eq_true rfl⟩) ⟨pz_blind, va_recv hK hP (ci := 12) (q0 := q29) rfl eq29, pz_pre hP hK hD hN⟩ rfl rfl hl.1 rfl (lv_room (Nat.le_of_ble_eq_true rfl)) dX12_partAt_132 ⟨Nat.le_of_ble_eq_true rfl, Nat.le_of_ble_eq_true rfl⟩) (fun r94 hw95 => ?_)
                obtain ⟨hw95r, hw95p⟩ := hw95
                have tk96 : mo_hd ((r94.toInt ≠ 0 → o26_x12.toInt = 1 ∧ o26_x13.toInt = (5930468251205 : Int))) := by have q9 := hw95p; first | (simp only [(mo_un tf27), (mo_un tf28), mo_i1, mo_l1] at q9; exact q9) | (rw [(mo_un tf27), (mo_un tf28)] at q9; exact q9)
                clear hw95p
                refine lv_if_eq (tgt := 143) hx hb dX12_partAt_135 (by decide) (fun c97 => ?_) (fun c97 => ?_)
                · have ic97 : r94.toInt = 0 := zi_eq rfl rfl c97
                  refine lv_iconst (v := (-1)) hx hb dX12_partAt_143 (by decide) ?_
                  exact W.iret (v := (-1)) hx hb hr (fun t ht hW => ⟨(-1), rfl, ⟨(by first | decide | (first | omega | (have u7 := mo_un tk96; first | omega | (have u6 := mo_un tk92; first | omega | (have u5 := mo_un tk88; first | omega | (have u4 := mo_un tk84; first | omega | (have u3 := mo_un tk80; first | omega | (have u2 := mo_un tk64; first | omega | (have u1 := mo_un tk48; first | omega | (have u0 := mo_un tk32; omega)))))))))), (by first | (simp only [(mo_un tf27), mo_i1, mo_l1]; exact (show (((-1) : Int32).toInt ≠ -1 → o26_x12.toInt = 1 ∧ 1 ≤ ((-1) : Int32).toInt) from by have q8 : ((-1) : Int32).toInt = (-1) := rfl; first | (first | omega | (have u7 := mo_un tk96; first | omega | (have u6 := mo_un tk92; first | omega | (have u5 := mo_un tk88; first | omega | (have u4 := mo_un tk84; first | omega | (have u3 := mo_un tk80; first | omega | (have u2 := mo_un tk64; first | omega | (have u1 := mo_un tk48; first | omega | (have u0 := mo_un tk32; omega))))))))) | decide)) | (rw [(mo_un tf27)]; exact (show (((-1) : Int32).toInt ≠ -1 → o26_x12.toInt = 1 ∧ 1 ≤ ((-1) : Int32).toInt) from by have q8 : ((-1) : Int32).toInt = (-1) := rfl; first | (first | omega | (have u7 := mo_un tk96; first | omega | (have u6 := mo_un tk92; first | omega | (have u5 := mo_un tk88; first | omega | (have u4 := mo_un tk84; first | omega | (have u3 := mo_un tk80; first | omega | (have u2 := mo_un tk64; first | omega | (have u1 := mo_un tk48; first | omega | (have u0 := mo_un tk32; omega))))))))) | decide)))⟩, ht⟩) (fun _ h => by cases h) dX12_partAt_144
                · have ic97 : r94.toInt ≠ 0 := zi_eqf rfl rfl c97
                  replace ic97 : 1 ≤ r94.toInt := by (first | omega | (have u7 := mo_un tk96; first | omega | (have u6 := mo_un tk92; first | omega | (have u5 := mo_un tk88; first | omega | (have u4 := mo_un tk84; first | omega | (have u3 := mo_un tk80; first | omega | (have u2 := mo_un tk64; first | omega | (have u1 := mo_un tk48; first | omega | (have u0 := mo_un tk32; omega)))))))))
                  refine lv_bipush (v := 8) hx hb dX12_partAt_138 (by decide) ?_
                  refine lv_goto (tgt := 144) hx hb dX12_partAt_140 (by decide) ?_
                  exact W.iret (v := 8) hx hb hr (fun t ht hW => ⟨8, rfl, ⟨(by first | decide | (first | omega | (have u7 := mo_un tk96; first | omega | (have u6 := mo_un tk92; first | omega | (have u5 := mo_un tk88; first | omega | (have u4 := mo_un tk84; first | omega | (have u3 := mo_un tk80; first | omega | (have u2 := mo_un tk64; first | omega | (have u1 := mo_un tk48; first | omega | (have u0 := mo_un tk32; omega)))))))))), (by first | (simp only [(mo_un tf27), mo_i1, mo_l1]; exact (show ((8 : Int32).toInt ≠ -1 → o26_x12.toInt = 1 ∧ 1 ≤ (8 : Int32).toInt) from by have q8 : (8 : Int32).toInt = 8 := rfl; first | (first | omega | (have u7 := mo_un tk96; first | omega | (have u6 := mo_un tk92; first | omega | (have u5 := mo_un tk88; first | omega | (have u4 := mo_un tk84; first | omega | (have u3 := mo_un tk80; first | omega | (have u2 := mo_un tk64; first | omega | (have u1 := mo_un tk48; first | omega | (have u0 := mo_un tk32; omega))))))))) | decide)) | (rw [(mo_un tf27)]; exact (show ((8 : Int32).toInt ≠ -1 → o26_x12.toInt = 1 ∧ 1 ≤ (8 : Int32).toInt) from by have q8 : (8 : Int32).toInt = 8 := rfl; first | (first | omega | (have u7 := mo_un tk96; first | omega | (have u6 := mo_un tk92; first | omega | (have u5 := mo_un tk88; first | omega | (have u4 := mo_un tk84; first | omega | (have u3 := mo_un tk80; first | omega | (have u2 := mo_un tk64; first | omega | (have u1 := mo_un tk48; first | omega | (have u0 := mo_un tk32; omega))))))))) | decide)))⟩, ht⟩) (fun _ h => by cases h) dX12_partAt_144
              · have ic93 : r90.toInt ≠ 0 := zi_eqf rfl rfl c93
                replace ic93 : 1 ≤ r90.toInt := by (first | omega | (have u6 := mo_un tk92; first | omega | (have u5 := mo_un tk88; first | omega | (have u4 := mo_un tk84; first | omega | (have u3 := mo_un tk80; first | omega | (have u2 := mo_un tk64; first | omega | (have u1 := mo_un tk48; first | omega | (have u0 := mo_un tk32; omega))))))))
                refine lv_bipush (v := 7) hx hb dX12_partAt_123 (by decide) ?_
                refine lv_goto (tgt := 144) hx hb dX12_partAt_125 (by decide) ?_
                exact W.iret (v := 7) hx hb hr (fun t ht hW => ⟨7, rfl, ⟨(by first | decide | (first | omega | (have u6 := mo_un tk92; first | omega | (have u5 := mo_un tk88; first | omega | (have u4 := mo_un tk84; first | omega | (have u3 := mo_un tk80; first | omega | (have u2 := mo_un tk64; first | omega | (have u1 := mo_un tk48; first | omega | (have u0 := mo_un tk32; omega))))))))), (by first | (simp only [(mo_un tf27), mo_i1, mo_l1]; exact (show ((7 : Int32).toInt ≠ -1 → o26_x12.toInt = 1 ∧ 1 ≤ (7 : Int32).toInt) from by have q8 : (7 : Int32).toInt = 7 := rfl; first | (first | omega | (have u6 := mo_un tk92; first | omega | (have u5 := mo_un tk88; first | omega | (have u4 := mo_un tk84; first | omega | (have u3 := mo_un tk80; first | omega | (have u2 := mo_un tk64; first | omega | (have u1 := mo_un tk48; first | omega | (have u0 := mo_un tk32; omega)))))))) | decide)) | (rw [(mo_un tf27)]; exact (show ((7 : Int32).toInt ≠ -1 → o26_x12.toInt = 1 ∧ 1 ≤ (7 : Int32).toInt) from by have q8 : (7 : Int32).toInt = 7 := rfl; first | (first | omega | (have u6 := mo_un tk92; first | omega | (have u5 := mo_un tk88; first | omega | (have u4 := mo_un tk84; first | omega | (have u3 := mo_un tk80; first | omega | (have u2 := mo_un tk64; first | omega | (have u1 := mo_un tk48; first | omega | (have u0 := mo_un tk32; omega)))))))) | decide)))⟩, ht⟩) (fun _ h => by cases h) dX12_partAt_144
            · have ic89 : r86.toInt ≠ 0 := zi_eqf rfl rfl c89
              replace ic89 : 1 ≤ r86.toInt := by (first | omega | (have u5 := mo_un tk88; first | omega | (have u4 := mo_un tk84; first | omega | (have u3 := mo_un tk80; first | omega | (have u2 := mo_un tk64; first | omega | (have u1 := mo_un tk48; first | omega | (have u0 := mo_un tk32; omega)))))))
              refine lv_bipush (v := 6) hx hb dX12_partAt_108 (by decide) ?_
              refine lv_goto (tgt := 144) hx hb dX12_partAt_110 (by decide) ?_
              exact W.iret (v := 6) hx hb hr (fun t ht hW => ⟨6, rfl, ⟨(by first | decide | (first | omega | (have u5 := mo_un tk88; first | omega | (have u4 := mo_un tk84; first | omega | (have u3 := mo_un tk80; first | omega | (have u2 := mo_un tk64; first | omega | (have u1 := mo_un tk48; first | omega | (have u0 := mo_un tk32; omega)))))))), (by first | (simp only [(mo_un tf27), mo_i1, mo_l1]; exact (show ((6 : Int32).toInt ≠ -1 → o26_x12.toInt = 1 ∧ 1 ≤ (6 : Int32).toInt) from by have q8 : (6 : Int32).toInt = 6 := rfl; first | (first | omega | (have u5 := mo_un tk88; first | omega | (have u4 := mo_un tk84; first | omega | (have u3 := mo_un tk80; first | omega | (have u2 := mo_un tk64; first | omega | (have u1 := mo_un tk48; first | omega | (have u0 := mo_un tk32; omega))))))) | decide)) | (rw [(mo_un tf27)]; exact (show ((6 : Int32).toInt ≠ -1 → o26_x12.toInt = 1 ∧ 1 ≤ (6 : Int32).toInt) from by have q8 : (6 : Int32).toInt = 6 := rfl; first | (first | omega | (have u5 := mo_un tk88; first | omega | (have u4 := mo_un tk84; first | omega | (have u3 := mo_un tk80; first | omega | (have u2 := mo_un tk64; first | omega | (have u1 := mo_un tk48; first | omega | (have u0 := mo_un tk32; omega))))))) | decide)))⟩, ht⟩) (fun _ h => by cases h) dX12_partAt_144
          · have ic85 : r82.toInt ≠ 0 := zi_eqf rfl rfl c85
            replace ic85 : 1 ≤ r82.toInt := by (first | omega | (have u4 := mo_un tk84; first | omega | (have u3 := mo_un tk80; first | omega | (have u2 := mo_un tk64; first | omega | (have u1 := mo_un tk48; first | omega | (have u0 := mo_un tk32; omega))))))
            refine lv_iconst (v := 5) hx hb dX12_partAt_94 (by decide) ?_
            refine lv_goto (tgt := 144) hx hb dX12_partAt_95 (by decide) ?_
            exact W.iret (v := 5) hx hb hr (fun t ht hW => ⟨5, rfl, ⟨(by first | decide | (first | omega | (have u4 := mo_un tk84; first | omega | (have u3 := mo_un tk80; first | omega | (have u2 := mo_un tk64; first | omega | (have u1 := mo_un tk48; first | omega | (have u0 := mo_un tk32; omega))))))), (by first | (simp only [(mo_un tf27), mo_i1, mo_l1]; exact (show ((5 : Int32).toInt ≠ -1 → o26_x12.toInt = 1 ∧ 1 ≤ (5 : Int32).toInt) from by have q8 : (5 : Int32).toInt = 5 := rfl; first | (first | omega | (have u4 := mo_un tk84; first | omega | (have u3 := mo_un tk80; first | omega | (have u2 := mo_un tk64; first | omega | (have u1 := mo_un tk48; first | omega | (have u0 := mo_un tk32; omega)))))) | decide)) | (rw [(mo_un tf27)]; exact (show ((5 : Int32).toInt ≠ -1 → o26_x12.toInt = 1 ∧ 1 ≤ (5 : Int32).toInt) from by have q8 : (5 : Int32).toInt = 5 := rfl; first | (first | omega | (have u4 := mo_un tk84; first | omega | (have u3 := mo_un tk80; first | omega | (have u2 := mo_un tk64; first | omega | (have u1 := mo_un tk48; first | omega | (have u0 := mo_un tk32; omega)))))) | decide)))⟩, ht⟩) (fun _ h => by cases h) dX12_partAt_144
        · have ic81 : r78.toInt ≠ 0 := zi_eqf rfl rfl c81
          replace ic81 : 1 ≤ r78.toInt := by (first | omega | (have u3 := mo_un tk80; first | omega | (have u2 := mo_un tk64; first | omega | (have u1 := mo_un tk48; first | omega | (have u0 := mo_un tk32; omega)))))
          refine lv_aload_n hx hb dX12_partAt_40 rfl (lv_at hl 0 rfl) ?_
          refine lv_ldc2 (own := RX12) (v := 671187) hx hb hown (hts (.constantLong RX12 315 (671187)) wa_1072) dX12_partAt_41 ?_
          refine pz_calli (va_runV (As := [.long 671187]) (rest := []) ⟨hx, hb, hml, hown, hts⟩ (t_X12_isWord l dC dI _ κ τ ν ρ L f hG hT h0 (671187) ht_h0) (cwV 1 hts gX12_partAt_X12_isWord rfl rfl rfl ⟨rfl, pd_X12_isWord⟩ ⟨Nat.le_of_ble_eq_true rfl, Nat.le_of_ble_eq_true rfl⟩) ⟨pz_blind, va_recv hK hP (ci := 12) (q0 := q29) rfl eq29, pz_pre hP hK hD hN⟩ rfl rfl hl.1 rfl (lv_room (Nat.le_of_ble_eq_true rfl)) dX12_partAt_44 ⟨Nat.le_of_ble_eq_true rfl, Nat.le_of_ble_eq_true rfl⟩) (fun r98 hw99 => ?_)
          obtain ⟨hw99r, hw99p⟩ := hw99
          have tk100 : mo_hd ((r98.toInt ≠ 0 → o26_x12.toInt = 1 ∧ o26_x13.toInt = (671187 : Int))) := by have q9 := hw99p; first | (simp only [(mo_un tf27), (mo_un tf28), mo_i1, mo_l1] at q9; exact q9) | (rw [(mo_un tf27), (mo_un tf28)] at q9; exact q9)
          clear hw99p
          refine lv_if_eq (tgt := 54) hx hb dX12_partAt_47 (by decide) (fun c101 => ?_) (fun c101 => ?_)
          · have ic101 : r98.toInt = 0 := zi_eq rfl rfl c101
            refine lv_aload_n hx hb dX12_partAt_54 rfl (lv_at hl 0 rfl) ?_
            refine lv_ldc2 (own := RX12) (v := 76951716) hx hb hown (hts (.constantLong RX12 321 (76951716)) wa_1073) dX12_partAt_55 ?_
            refine pz_calli (va_runV (As := [.long 76951716]) (rest := []) ⟨hx, hb, hml, hown, hts⟩ (t_X12_isWord l dC dI _ κ τ ν ρ L f hG hT h0 (76951716) ht_h0) (cwV 1 hts gX12_partAt_X12_isWord rfl rfl rfl ⟨rfl, pd_X12_isWord⟩ ⟨Nat.le_of_ble_eq_true rfl, Nat.le_of_ble_eq_true rfl⟩) ⟨pz_blind, va_recv hK hP (ci := 12) (q0 := q29) rfl eq29, pz_pre hP hK hD hN⟩ rfl rfl hl.1 rfl (lv_room (Nat.le_of_ble_eq_true rfl)) dX12_partAt_58 ⟨Nat.le_of_ble_eq_true rfl, Nat.le_of_ble_eq_true rfl⟩) (fun r102 hw103 => ?_)
            obtain ⟨hw103r, hw103p⟩ := hw103
            have tk104 : mo_hd ((r102.toInt ≠ 0 → o26_x12.toInt = 1 ∧ o26_x13.toInt = (76951716 : Int))) := by have q9 := hw103p; first | (simp only [(mo_un tf27), (mo_un tf28), mo_i1, mo_l1] at q9; exact q9) | (rw [(mo_un tf27), (mo_un tf28)] at q9; exact q9)
            clear hw103p
            refine lv_if_eq (tgt := 68) hx hb dX12_partAt_61 (by decide) (fun c105 => ?_) (fun c105 => ?_)
            · have ic105 : r102.toInt = 0 := zi_eq rfl rfl c105
              refine lv_aload_n hx hb dX12_partAt_68 rfl (lv_at hl 0 rfl) ?_
              refine lv_ldc2 (own := RX12) (v := 267316) hx hb hown (hts (.constantLong RX12 323 (267316)) wa_1074) dX12_partAt_69 ?_
              refine pz_calli (va_runV (As := [.long 267316]) (rest := []) ⟨hx, hb, hml, hown, hts⟩ (t_X12_isWord l dC dI _ κ τ ν ρ L f hG hT h0 (267316) ht_h0) (cwV 1 hts gX12_partAt_X12_isWord rfl rfl rfl ⟨rfl, pd_X12_isWord⟩ ⟨Nat.le_of_ble_eq_true rfl, Nat.le_of_ble_eq_true rfl⟩) ⟨pz_blind, va_recv hK hP (ci := 12) (q0 := q29) rfl eq29, pz_pre hP hK hD hN⟩ rfl rfl hl.1 rfl (lv_room (Nat.le_of_ble_eq_true rfl)) dX12_partAt_72 ⟨Nat.le_of_ble_eq_true rfl, Nat.le_of_ble_eq_true rfl⟩) (fun r106 hw107 => ?_)
              obtain ⟨hw107r, hw107p⟩ := hw107
              have tk108 : mo_hd ((r106.toInt ≠ 0 → o26_x12.toInt = 1 ∧ o26_x13.toInt = (267316 : Int))) := by have q9 := hw107p; first | (simp only [(mo_un tf27), (mo_un tf28), mo_i1, mo_l1] at q9; exact q9) | (rw [(mo_un tf27), (mo_un tf28)] at q9; exact q9)
              clear hw107p
              refine lv_if_eq (tgt := 82) hx hb dX12_partAt_75 (by decide) (fun c109 => ?_) (fun c109 => ?_)
              · have ic109 : r106.toInt = 0 := zi_eq rfl rfl c109
                refine lv_iconst (v := 4) hx hb dX12_partAt_82 (by decide) ?_
                exact W.iret (v := 4) hx hb hr (fun t ht hW => ⟨4, rfl, ⟨(by first | decide | (first | omega | (have u6 := mo_un tk108; first | omega | (have u5 := mo_un tk104; first | omega | (have u4 := mo_un tk100; first | omega | (have u3 := mo_un tk80; first | omega | (have u2 := mo_un tk64; first | omega | (have u1 := mo_un tk48; first | omega | (have u0 := mo_un tk32; omega))))))))), (by first | (simp only [(mo_un tf27), mo_i1, mo_l1]; exact (show ((4 : Int32).toInt ≠ -1 → o26_x12.toInt = 1 ∧ 1 ≤ (4 : Int32).toInt) from by have q8 : (4 : Int32).toInt = 4 := rfl; first | (first | omega | (have u6 := mo_un tk108; first | omega | (have u5 := mo_un tk104; first | omega | (have u4 := mo_un tk100; first | omega | (have u3 := mo_un tk80; first | omega | (have u2 := mo_un tk64; first | omega | (have u1 := mo_un tk48; first | omega | (have u0 := mo_un tk32; omega)))))))) | decide)) | (rw [(mo_un tf27)]; exact (show ((4 : Int32).toInt ≠ -1 → o26_x12.toInt = 1 ∧ 1 ≤ (4 : Int32).toInt) from by have q8 : (4 : Int32).toInt = 4 := rfl; first | (first | omega | (have u6 := mo_un tk108; first | omega | (have u5 := mo_un tk104; first | omega | (have u4 := mo_un tk100; first | omega | (have u3 := mo_un tk80; first | omega | (have u2 := mo_un tk64; first | omega | (have u1 := mo_un tk48; first | omega | (have u0 := mo_un tk32; omega)))))))) | decide)))⟩, ht⟩) (fun _ h => by cases h) dX12_partAt_83
              · have ic109 : r106.toInt ≠ 0 := zi_eqf rfl rfl c109
                replace ic109 : 1 ≤ r106.toInt := by (first | omega | (have u6 := mo_un tk108; first | omega | (have u5 := mo_un tk104; first | omega | (have u4 := mo_un tk100; first | omega | (have u3 := mo_un tk80; first | omega | (have u2 := mo_un tk64; first | omega | (have u1 := mo_un tk48; first | omega | (have u0 := mo_un tk32; omega))))))))
                refine lv_iconst (v := 3) hx hb dX12_partAt_78 (by decide) ?_
                refine lv_goto (tgt := 83) hx hb dX12_partAt_79 (by decide) ?_
                exact W.iret (v := 3) hx hb hr (fun t ht hW => ⟨3, rfl, ⟨(by first | decide | (first | omega | (have u6 := mo_un tk108; first | omega | (have u5 := mo_un tk104; first | omega | (have u4 := mo_un tk100; first | omega | (have u3 := mo_un tk80; first | omega | (have u2 := mo_un tk64; first | omega | (have u1 := mo_un tk48; first | omega | (have u0 := mo_un tk32; omega))))))))), (by first | (simp only [(mo_un tf27), mo_i1, mo_l1]; exact (show ((3 : Int32).toInt ≠ -1 → o26_x12.toInt = 1 ∧ 1 ≤ (3 : Int32).toInt) from by have q8 : (3 : Int32).toInt = 3 := rfl; first | (first | omega | (have u6 := mo_un tk108; first | omega | (have u5 := mo_un tk104; first | omega | (have u4 := mo_un tk100; first | omega | (have u3 := mo_un tk80; first | omega | (have u2 := mo_un tk64; first | omega | (have u1 := mo_un tk48; first | omega | (have u0 := mo_un tk32; omega)))))))) | decide)) | (rw [(mo_un tf27)]; exact (show ((3 : Int32).toInt ≠ -1 → o26_x12.toInt = 1 ∧ 1 ≤ (3 : Int32).toInt) from by have q8 : (3 : Int32).toInt = 3 := rfl; first | (first | omega | (have u6 := mo_un tk108; first | omega | (have u5 := mo_un tk104; first | omega | (have u4 := mo_un tk100; first | omega | (have u3 := mo_un tk80; first | omega | (have u2 := mo_un tk64; first | omega | (have u1 := mo_un tk48; first | omega | (have u0 := mo_un tk32; omega)))))))) | decide)))⟩, ht⟩) (fun _ h => by cases h) dX12_partAt_83
            · have ic105 : r102.toInt ≠ 0 := zi_eqf rfl rfl c105
              replace ic105 : 1 ≤ r102.toInt := by (first | omega | (have u5 := mo_un tk104; first | omega | (have u4 := mo_un tk100; first | omega | (have u3 := mo_un tk80; first | omega | (have u2 := mo_un tk64; first | omega | (have u1 := mo_un tk48; first | omega | (have u0 := mo_un tk32; omega)))))))
              refine lv_iconst (v := 2) hx hb dX12_partAt_64 (by decide) ?_
              refine lv_goto (tgt := 83) hx hb dX12_partAt_65 (by decide) ?_
              exact W.iret (v := 2) hx hb hr (fun t ht hW => ⟨2, rfl, ⟨(by first | decide | (first | omega | (have u5 := mo_un tk104; first | omega | (have u4 := mo_un tk100; first | omega | (have u3 := mo_un tk80; first | omega | (have u2 := mo_un tk64; first | omega | (have u1 := mo_un tk48; first | omega | (have u0 := mo_un tk32; omega)))))))), (by first | (simp only [(mo_un tf27), mo_i1, mo_l1]; exact (show ((2 : Int32).toInt ≠ -1 → o26_x12.toInt = 1 ∧ 1 ≤ (2 : Int32).toInt) from by have q8 : (2 : Int32).toInt = 2 := rfl; first | (first | omega | (have u5 := mo_un tk104; first | omega | (have u4 := mo_un tk100; first | omega | (have u3 := mo_un tk80; first | omega | (have u2 := mo_un tk64; first | omega | (have u1 := mo_un tk48; first | omega | (have u0 := mo_un tk32; omega))))))) | decide)) | (rw [(mo_un tf27)]; exact (show ((2 : Int32).toInt ≠ -1 → o26_x12.toInt = 1 ∧ 1 ≤ (2 : Int32).toInt) from by have q8 : (2 : Int32).toInt = 2 := rfl; first | (first | omega | (have u5 := mo_un tk104; first | omega | (have u4 := mo_un tk100; first | omega | (have u3 := mo_un tk80; first | omega | (have u2 := mo_un tk64; first | omega | (have u1 := mo_un tk48; first | omega | (have u0 := mo_un tk32; omega))))))) | decide)))⟩, ht⟩) (fun _ h => by cases h) dX12_partAt_83
          · have ic101 : r98.toInt ≠ 0 := zi_eqf rfl rfl c101
            replace ic101 : 1 ≤ r98.toInt := by (first | omega | (have u4 := mo_un tk100; first | omega | (have u3 := mo_un tk80; first | omega | (have u2 := mo_un tk64; first | omega | (have u1 := mo_un tk48; first | omega | (have u0 := mo_un tk32; omega))))))
            refine lv_iconst (v := 1) hx hb dX12_partAt_50 (by decide) ?_
            refine lv_goto (tgt := 83) hx hb dX12_partAt_51 (by decide) ?_
            exact W.iret (v := 1) hx hb hr (fun t ht hW => ⟨1, rfl, ⟨(by first | decide | (first | omega | (have u4 := mo_un tk100; first | omega | (have u3 := mo_un tk80; first | omega | (have u2 := mo_un tk64; first | omega | (have u1 := mo_un tk48; first | omega | (have u0 := mo_un tk32; omega))))))), (by first | (simp only [(mo_un tf27), mo_i1, mo_l1]; exact (show ((1 : Int32).toInt ≠ -1 → o26_x12.toInt = 1 ∧ 1 ≤ (1 : Int32).toInt) from by have q8 : (1 : Int32).toInt = 1 := rfl; first | (first | omega | (have u4 := mo_un tk100; first | omega | (have u3 := mo_un tk80; first | omega | (have u2 := mo_un tk64; first | omega | (have u1 := mo_un tk48; first | omega | (have u0 := mo_un tk32; omega)))))) | decide)) | (rw [(mo_un tf27)]; exact (show ((1 : Int32).toInt ≠ -1 → o26_x12.toInt = 1 ∧ 1 ≤ (1 : Int32).toInt) from by have q8 : (1 : Int32).toInt = 1 := rfl; first | (first | omega | (have u4 := mo_un tk100; first | omega | (have u3 := mo_un tk80; first | omega | (have u2 := mo_un tk64; first | omega | (have u1 := mo_un tk48; first | omega | (have u0 := mo_un tk32; omega)))))) | decide)))⟩, ht⟩) (fun _ h => by cases h) dX12_partAt_83
