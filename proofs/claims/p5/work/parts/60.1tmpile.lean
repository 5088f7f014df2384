set_option maxHeartbeats 4000000 in
set_option maxRecDepth 100000 in
theorem t_X12_settleDown (l : Launch) (dC : Nat → ClassId) (dI : Nat → Nat → Nat) (sz : Nat) (κ : Nat → ClassId) (τ ν : Nat → Nat) (ρ : Nat → Nat → Nat) (L : List Nat) (f : Nat → va_E) (hG : tp_G τ ν ρ L) (hT : tp_T (mo_O κ) κ τ ν ρ f) (h0 : Nat) (v : Int32) (aa : Int) (ht_h0 : τ h0 = 13) (hr_v : 1 ≤ v.toInt ∧ v.toInt ≤ 6) (h2 : (tp_fld (f h0) 22) + (tp_fld (f h0) 28) ≤ 400) (h3 : mo_PV (mo_R (mo_i (f (ρ h0 26)))) (mo_R (mo_i (f (ρ h0 27)))) (tp_fld (f h0) 28)) (h4 : ((tp_fld (f h0) 15) = 0 → 0 ≤ aa ∧ mo_PJ aa (mo_R (mo_i (f (ρ h0 23)))) (mo_R (mo_i (f (ρ h0 24)))) (mo_R (mo_i (f (ρ h0 26)))) (mo_R (mo_i (f (ρ h0 27)))) (tp_fld (f h0) 22) (tp_fld (f h0) 28) 1)) : Met l yX12_settleDown wqX12_settleDown ({ frames := 3, cells := 0, slots := 0, locals := 800 }) (va_Pc [.ref h0, .int v] (pz_B dC dI (tp_K κ) (va_pl L f) sz)) (va_Qv (fun (f1 : Nat → va_E) => tp_T (mo_O κ) κ τ ν ρ f1 ∧ tp_F τ [13, 53, 54] f f1 ∧ (tp_fld (f1 h0) 28) ≤ (tp_fld (f h0) 28) ∧ (tp_fld (f h0) 22) ≤ (tp_fld (f1 h0) 22) ∧ (tp_fld (f1 h0) 22) + (tp_fld (f1 h0) 28) ≤ (tp_fld (f h0) 22) + (tp_fld (f h0) 28) ∧ ((tp_fld (f h0) 15) = 0 → mo_PJ aa (mo_R (mo_i (f1 (ρ h0 23)))) (mo_R (mo_i (f1 (ρ h0 24)))) (mo_R (mo_i (f (ρ h0 26)))) (mo_R (mo_i (f (ρ h0 27)))) (tp_fld (f1 h0) 22) (tp_fld (f1 h0) 28) 1) ∧ (∀ i, (tp_fld (f1 h0) 28) ≤ i → i < (tp_fld (f h0) 28) → (mo_R (mo_i (f (ρ h0 26)))) i < 30 ∧ (5 ≤ v.toInt → (mo_R (mo_i (f (ρ h0 26)))) i < 14)) ∧ ((tp_fld (f1 h0) 28) = 0 ∨ ((v.toInt = 1 → 30 ≤ (mo_R (mo_i (f (ρ h0 26)))) ((tp_fld (f1 h0) 28) + -1)) ∧ (v.toInt = 5 → 14 ≤ (mo_R (mo_i (f (ρ h0 26)))) ((tp_fld (f1 h0) 28) + -1)))) ∧ ((tp_fld (f h0) 15) = 0 → mo_FR aa (mo_R (mo_i (f (ρ h0 23)))) (mo_R (mo_i (f (ρ h0 24)))) (mo_R (mo_i (f1 (ρ h0 23)))) (mo_R (mo_i (f1 (ρ h0 24))))) ∧ (tp_fld (f1 h0) 9) = (tp_fld (f h0) 9) ∧ (tp_fld (f1 h0) 10) = (tp_fld (f h0) 10) ∧ (tp_fld (f1 h0) 11) = (tp_fld (f h0) 11) ∧ (tp_fld (f1 h0) 12) = (tp_fld (f h0) 12) ∧ (mo_fj (f1 h0) 13) = (mo_fj (f h0) 13) ∧ (tp_fld (f1 h0) 15) = (tp_fld (f h0) 15) ∧ (tp_fld (f1 h0) 19) = (tp_fld (f h0) 19) ∧ (tp_fld (f1 h0) 20) = (tp_fld (f h0) 20)) (fun (f1 : Nat → va_E) (t : State) => pz_E dC dI (tp_K κ) (va_A (va_pl L f) sz) (va_pl L f1) t) (va_A (va_pl L f) sz)) 0 0 (va_A (va_pl L f) sz) := by
  refine Met.ofW (cc := cX12_settleDown) (maxL := 2) (ret := none) (by decide) rfl ?_
  intro p e s m args below meth c s₁ B hml hv
  obtain ⟨rfl, hsz, hP, hK, hD0, hN⟩ := hv
  have hx := B.exec
  have hb := B.bytes
  have hr := B.returns
  have hts := fun (w : Cond) (h : w ∈ WALL) => atoms_spec (ws := wqX12_settleDown) B.pre w (List.mem_cons_of_mem _ h)
  have hown : s.vm.findClass RX12 = some m.cls := findClass_of_methodNamed B.named
  have hlocks := B.notSynchronized
  subst hsz
  have hD := hD0.self (sz := s.heap.size)
  generalize hAe : va_A (va_pl L f) s.heap.size = A at hD ⊢
  have hA : ∀ q : Nat, s.heap.size ≤ q → A q := fun q h => by rw [← hAe]; exact Or.inr h
  have hS : va_S A s.heap s.heap [] := va_S.rf
  have hR : tp_F τ [13, 53, 54] f f := tp_F.rf
  have hl := lv_entry ([.ref h0, .int v]) (n := 2) (Nat.le_of_ble_eq_true rfl)
  rw [lg_entry_eq]
  generalize (lg_sl ([.ref h0, .int v]) ++ List.replicate (2 - (lg_sl ([.ref h0, .int v])).length) Slot.unset).toArray = ls at hl ⊢
  have hl : lv_has ls 2 [(0, .ref h0), (1, .int v)] := hl
  obtain ⟨y1, y2, y3, y4, y5, y6, y7, y8, y9, y10, y11, y12, y13, y14, y15, y16, y17, y18, y19, y20, y21, y22, y23, y24, y25⟩ := tpg_13 hG ht_h0
  obtain ⟨g27, hf_o26⟩ := tpo_53 hT y8
  obtain ⟨g29, hf_o28⟩ := tpo_54 hT y9
  obtain ⟨g31, hf_o30⟩ := tpo_56 hT y10
  obtain ⟨g33, hf_o32⟩ := tpo_57 hT y11
  obtain ⟨o34_x0, o34_x1, o34_x7, o34_x9, o34_x10, o34_x11, o34_x12, o34_x13, o34_x14, o34_x15, o34_x16, o34_x17, o34_x18, o34_x19, o34_x20, o34_x22, o34_x25, o34_x28, o34_x29, o34_x32, o34_x33, o34_x34, o34_x35, o34_x36, o34_x37, o34_x38, o34_x47, o34_x48, hf_o34, ro34_0, ro34_1, ro34_2, ro34_3, ro34_4, ro34_5, ro34_6, ro34_7, ro34_8, ro34_9, ro34_10, ro34_11, ro34_12, ro34_13⟩ := tpo_13 hT ht_h0
  have h2 : o34_x22.toInt + o34_x28.toInt ≤ 400 := by have q9 := h2; simp only [hf_o34, mo_i1, mo_l1] at q9; exact q9
  have h3 : mo_PV (mo_R g31) (mo_R g33) o34_x28.toInt := by have q9 := h3; simp only [hf_o30, hf_o32, hf_o34, mo_i1, mo_l1] at q9; exact q9
  have h4 : (o34_x15.toInt = 0 → 0 ≤ aa ∧ mo_PJ aa (mo_R g27) (mo_R g29) (mo_R g31) (mo_R g33) o34_x22.toInt o34_x28.toInt 1) := by have q9 := h4; simp only [hf_o34, hf_o26, hf_o28, hf_o30, hf_o32, mo_i1, mo_l1] at q9; exact q9
  refine pz_loop (fun n0 H locs ls => ∃ f43 : Nat → va_E, ∃ w35 : Int32, ∃ w36 : Int32, n0 = ((w36.toInt)).toNat ∧ tp_T (mo_O κ) κ τ ν ρ f43 ∧ tp_F τ [13, 53, 54] f f43 ∧ f43 (ρ h0 26) = .inl (κ 0, 400, .inl g31) ∧ f43 (ρ h0 27) = .inl (κ 0, 400, .inl g33) ∧ f43 h0 = .inr (12, [.int o34_x0, .int o34_x1, .ref (ρ h0 2), .ref (ρ h0 3), .ref (ρ h0 4), .ref (ρ h0 5), .ref (ρ h0 6), .int o34_x7, .ref (ρ h0 8), .int o34_x9, .int o34_x10, .int o34_x11, .int o34_x12, .long o34_x13, .int o34_x14, .int o34_x15, .int o34_x16, .int o34_x17, .int o34_x18, .int o34_x19, .int o34_x20, .ref (ρ h0 21), .int w35, .ref (ρ h0 23), .ref (ρ h0 24), .int o34_x25, .ref (ρ h0 26), .ref (ρ h0 27), .int w36, .int o34_x29, .ref (ρ h0 30), .ref (ρ h0 31), .int o34_x32, .long o34_x33, .long o34_x34, .long o34_x35, .int o34_x36, .int o34_x37, .int o34_x38, .ref (ρ h0 39), .ref (ρ h0 40), .ref (ρ h0 41), .ref (ρ h0 42), .ref (ρ h0 43), .ref (ρ h0 44), .ref (ρ h0 45), .ref (ρ h0 46), .int o34_x47, .int o34_x48, .ref (ρ h0 49), .ref (ρ h0 50), .ref (ρ h0 51), .ref (ρ h0 52)]) ∧ (((o34_x15.toInt = 0 → mo_PJ aa (mo_R (mo_i (f43 (ρ h0 23)))) (mo_R (mo_i (f43 (ρ h0 24)))) (mo_R g31) (mo_R g33) (tp_fld (f43 h0) 22) (tp_fld (f43 h0) 28) 1))) ∧ (((o34_x15.toInt = 0 → mo_FR aa (mo_R g27) (mo_R g29) (mo_R (mo_i (f43 (ρ h0 23)))) (mo_R (mo_i (f43 (ρ h0 24))))))) ∧ ((∀ i, (tp_fld (f43 h0) 28) ≤ i → i < o34_x28.toInt → (mo_R g31) i < 30 ∧ (5 ≤ v.toInt → (mo_R g31) i < 14))) ∧ (0 ≤ w35.toInt ∧ w35.toInt ≤ 400) ∧ (0 ≤ w36.toInt ∧ w36.toInt ≤ 400) ∧ ((w36.toInt) ≤ o34_x28.toInt) ∧ (o34_x22.toInt ≤ (w35.toInt)) ∧ ((w35.toInt) + (w36.toInt) ≤ o34_x22.toInt + o34_x28.toInt) ∧ va_P (dC, dI) vwCl (va_pl L f43) H ∧ va_D A (va_pl L f43) ∧ va_S A s.heap H locs ∧ lv_has ls 2 [(0, .ref h0), (1, .int v)]) ?_ _ _ _ _ ⟨f, o34_x22, o34_x28, rfl, hT, hR, hf_o30, hf_o32, hf_o34, (by simp only [hf_o26, hf_o28, hf_o34, mo_i1, mo_l1]; exact (show (o34_x15.toInt = 0 → mo_PJ aa (mo_R g27) (mo_R g29) (mo_R g31) (mo_R g33) o34_x22.toInt o34_x28.toInt 1) from (fun q9 => (h4 q9).2))), (by simp only [hf_o26, hf_o28, mo_i1, mo_l1]; exact (show (o34_x15.toInt = 0 → mo_FR aa (mo_R g27) (mo_R g29) (mo_R g27) (mo_R g29)) from (fun q9 => mo_FR.rf _ _ _))), (by simp only [hf_o34, mo_i1, mo_l1]; exact (show ∀ i, o34_x28.toInt ≤ i → i < o34_x28.toInt → (mo_R g31) i < 30 ∧ (5 ≤ v.toInt → (mo_R g31) i < 14) from (fun i i0 i1 => absurd i1 (by omega)))), (by omega), (by omega), (by omega), (by omega), (by omega), hP, hD, hS, lv_sub hl [0, 1] rfl⟩
  intro n0 H locs ls hI ih45
  obtain ⟨f43, w35, w36, hn46, hT, hR, hk40k, hk41k, hk42k, jf47, jf48, jf49, rw35, rw36, k37, k38, k39, hP, hD, hS, hl⟩ := hI
  obtain ⟨g51, hf_o50⟩ := tpo_53 hT y8
  obtain ⟨g53, hf_o52⟩ := tpo_54 hT y9
  have jf47 : (o34_x15.toInt = 0 → mo_PJ aa (mo_R g51) (mo_R g53) (mo_R g31) (mo_R g33) w35.toInt w36.toInt 1) := by have q9 := jf47; simp only [hf_o50, hf_o52, hk42k, mo_i1, mo_l1] at q9; exact q9
  have jf48 : (o34_x15.toInt = 0 → mo_FR aa (mo_R g27) (mo_R g29) (mo_R g51) (mo_R g53)) := by have q9 := jf48; simp only [hf_o50, hf_o52, mo_i1, mo_l1] at q9; exact q9
  have jf49 : ∀ i, w36.toInt ≤ i → i < o34_x28.toInt → (mo_R g31) i < 30 ∧ (5 ≤ v.toInt → (mo_R g31) i < 14) := by have q9 := jf49; simp only [hk42k, mo_i1, mo_l1] at q9; exact q9
  refine lv_aload_n hx hb dX12_settleDown_0 rfl (lv_at hl 0 rfl) ?_
  obtain ⟨q54, eq54⟩ := tp_pos (tp_in hG ht_h0 (by decide)) hk42k
  refine va_get (D := (dC, dI)) (ci := 12) (v := .int w36) (C := RX12) (T := TX12) (N := 53) hx hb hts hfX12 hown hK hP q54 eq54 rfl 28 (by decide) (hts (.fieldLink RX12 300 "ColdShipsModel" "piled" "I") wa_1045) (fun _ h9 => h9) rfl dX12_settleDown_1 ?_
  refine lv_if_le (tgt := 101) hx hb dX12_settleDown_4 (by decide) (fun c55 => ?_) (fun c55 => ?_)
  · have ic55 : w36.toInt ≤ 0 := zi_le rfl rfl c55
    exact W.vret hx hb hr (fun t ht hW => ⟨⟨f43, rfl, ⟨hT, hR, (by simp only [hk42k, hf_o34, hf_o50, hf_o52, hf_o30, hf_o32, hf_o26, hf_o28, mo_i1, mo_l1]; exact (show w36.toInt ≤ o34_x28.toInt ∧ o34_x22.toInt ≤ w35.toInt ∧ w35.toInt + w36.toInt ≤ o34_x22.toInt + o34_x28.toInt ∧ (o34_x15.toInt = 0 → mo_PJ aa (mo_R g51) (mo_R g53) (mo_R g31) (mo_R g33) w35.toInt w36.toInt 1) ∧ (∀ i, w36.toInt ≤ i → i < o34_x28.toInt → (mo_R g31) i < 30 ∧ (5 ≤ v.toInt → (mo_R g31) i < 14)) ∧ (w36.toInt = 0 ∨ ((v.toInt = 1 → 30 ≤ (mo_R g31) (w36.toInt + -1)) ∧ (v.toInt = 5 → 14 ≤ (mo_R g31) (w36.toInt + -1)))) ∧ (o34_x15.toInt = 0 → mo_FR aa (mo_R g27) (mo_R g29) (mo_R g51) (mo_R g53)) ∧ o34_x9.toInt = o34_x9.toInt ∧ o34_x10.toInt = o34_x10.toInt ∧ o34_x11.toInt = o34_x11.toInt ∧ o34_x12.toInt = o34_x12.toInt ∧ o34_x13.toInt = o34_x13.toInt ∧ o34_x15.toInt = o34_x15.toInt ∧ o34_x19.toInt = o34_x19.toInt ∧ o34_x20.toInt = o34_x20.toInt from ⟨by omega, by omega, by omega, jf47, jf49, by omega, jf48, rfl, rfl, rfl, rfl, rfl, rfl, rfl, rfl⟩))⟩, by rw [ht]; exact hP, va_K.moved hW.alike hK, hD⟩, hS.F ht⟩) hS.2.2 dX12_settleDown_101
  · have ic55 : w36.toInt > 0 := zi_lef rfl rfl c55
    have hpv := h3 (w36.toInt + -1) (by omega) (by omega)
    refine lv_aload_n hx hb dX12_settleDown_7 rfl (lv_at hl 0 rfl) ?_
    refine va_get (D := (dC, dI)) (ci := 12) (v := .ref (ρ h0 26)) (C := RX12) (T := TX12) (N := 53) hx hb hts hfX12 hown hK hP q54 eq54 rfl 26 (by decide) (hts (.fieldLink RX12 43 "ColdShipsModel" "pile" "[I") wa_159) (fun _ h9 => h9) rfl dX12_settleDown_8 ?_
    refine lv_aload_n hx hb dX12_settleDown_11 rfl (lv_at hl 0 rfl) ?_
    refine va_get (D := (dC, dI)) (ci := 12) (v := .int w36) (C := RX12) (T := TX12) (N := 53) hx hb hts hfX12 hown hK hP q54 eq54 rfl 28 (by decide) (hts (.fieldLink RX12 300 "ColdShipsModel" "piled" "I") wa_1045) (fun _ h9 => h9) rfl dX12_settleDown_12 ?_
    refine lv_iconst (v := 1) hx hb dX12_settleDown_15 (by decide) ?_
    refine lv_isub hx hb dX12_settleDown_16 ?_
    refine lv_topi (fun z56 ez56 => ?_)
    have iz56 : z56.toInt = w36.toInt - 1 := zi_sub ez56 rfl rfl (by omega) (by omega)
    obtain ⟨q57, eq57⟩ := tp_pos (tp_in hG y10 (by decide)) hk40k
    refine va_iald hx hb hK hP q57 0 eq57 rfl (vp_in_iff.mpr ⟨by omega, by omega⟩) dX12_settleDown_17 ?_
    refine lv_topi (fun z58 ez58 => ?_)
    have jz58 : z58.toInt = mo_R g31 (w36.toInt + -1) := mo_rd ez58 (by omega)
    refine pz_calli (va_runS (As := [.int z58]) (rest := []) ⟨hx, hb, hml, hown, hts⟩ (t_X12_binds l dC dI _ z58 (z58.toInt) rfl) (va_cwS 1 hts gX12_settleDown_X12_binds rfl rfl rfl pd_X12_binds ⟨Nat.le_of_ble_eq_true rfl, Nat.le_of_ble_eq_true rfl⟩) ⟨pz_blind, pz_pre pz_P0 (hK.sub (tys' := []) [] rfl) (pz_D0 (A := fun _ => True)) hN⟩ rfl rfl hl.1 rfl (lv_room (Nat.le_of_ble_eq_true rfl)) dX12_settleDown_18 ⟨Nat.le_of_ble_eq_true rfl, Nat.le_of_ble_eq_true rfl⟩) (fun r59 hw60 => ?_)
    obtain ⟨hw60r, hw60p⟩ := hw60
    refine lv_iload_n hx hb dX12_settleDown_21 rfl (lv_at hl 1 rfl) ?_
    refine lv_icmp_lt (tgt := 101) hx hb dX12_settleDown_22 (by decide) (fun c61 => ?_) (fun c61 => ?_)
    · have ic61 : r59.toInt < v.toInt := zi_lt rfl rfl c61
      exact W.vret hx hb hr (fun t ht hW => ⟨⟨f43, rfl, ⟨hT, hR, (by simp only [hk42k, hf_o34, hf_o50, hf_o52, hf_o30, hf_o32, hf_o26, hf_o28, mo_i1, mo_l1]; exact (show w36.toInt ≤ o34_x28.toInt ∧ o34_x22.toInt ≤ w35.toInt ∧ w35.toInt + w36.toInt ≤ o34_x22.toInt + o34_x28.toInt ∧ (o34_x15.toInt = 0 → mo_PJ aa (mo_R g51) (mo_R g53) (mo_R g31) (mo_R g33) w35.toInt w36.toInt 1) ∧ (∀ i, w36.toInt ≤ i → i < o34_x28.toInt → (mo_R g31) i < 30 ∧ (5 ≤ v.toInt → (mo_R g31) i < 14)) ∧ (w36.toInt = 0 ∨ ((v.toInt = 1 → 30 ≤ (mo_R g31) (w36.toInt + -1)) ∧ (v.toInt = 5 → 14 ≤ (mo_R g31) (w36.toInt + -1)))) ∧ (o34_x15.toInt = 0 → mo_FR aa (mo_R g27) (mo_R g29) (mo_R g51) (mo_R g53)) ∧ o34_x9.toInt = o34_x9.toInt ∧ o34_x10.toInt = o34_x10.toInt ∧ o34_x11.toInt = o34_x11.toInt ∧ o34_x12.toInt = o34_x12.toInt ∧ o34_x13.toInt = o34_x13.toInt ∧ o34_x15.toInt = o34_x15.toInt ∧ o34_x19.toInt = o34_x19.toInt ∧ o34_x20.toInt = o34_x20.toInt from ⟨by omega, by omega, by omega, jf47, jf49, by omega, jf48, rfl, rfl, rfl, rfl, rfl, rfl, rfl, rfl⟩))⟩, by rw [ht]; exact hP, va_K.moved hW.alike hK, hD⟩, hS.F ht⟩) hS.2.2 dX12_settleDown_101
    · have ic61 : r59.toInt ≥ v.toInt := zi_ltf rfl rfl c61
      refine lv_aload_n hx hb dX12_settleDown_25 rfl (lv_at hl 0 rfl) ?_
      refine lv_dup hx hb dX12_settleDown_26 rfl ?_
      refine va_get (D := (dC, dI)) (ci := 12) (v := .int w36) (C := RX12) (T := TX12) (N := 53) hx hb hts hfX12 hown hK hP q54 eq54 rfl 28 (by decide) (hts (.fieldLink RX12 300 "ColdShipsModel" "piled" "I") wa_1045) (fun _ h9 => h9) rfl dX12_settleDown_27 ?_
      refine lv_iconst (v := 1) hx hb dX12_settleDown_30 (by decide) ?_
      refine lv_isub hx hb dX12_settleDown_31 ?_
      refine lv_topi (fun z62 ez62 => ?_)
      have iz62 : z62.toInt = w36.toInt - 1 := zi_sub ez62 rfl rfl (by omega) (by omega)
      refine va_put (D := (dC, dI)) (ci := 12) (v := .int z62) (ty := .int) (C := RX12) (T := TX12) (N := 53) hx hb hts hfX12 tyX12 tyX12_ok nmX12 hown hK hP hD hS q54 eq54 rfl 28 (by decide) (hts (.fieldLink RX12 300 "ColdShipsModel" "piled" "I") wa_1045) (fun _ h9 => h9) rfl (tyX12_ok 28 (by decide)) rfl rfl (Nat.le_of_ble_eq_true rfl) dX12_settleDown_32 (tp_k (.inr (12, [.int o34_x0, .int o34_x1, .ref (ρ h0 2), .ref (ρ h0 3), .ref (ρ h0 4), .ref (ρ h0 5), .ref (ρ h0 6), .int o34_x7, .ref (ρ h0 8), .int o34_x9, .int o34_x10, .int o34_x11, .int o34_x12, .long o34_x13, .int o34_x14, .int o34_x15, .int o34_x16, .int o34_x17, .int o34_x18, .int o34_x19, .int o34_x20, .ref (ρ h0 21), .int w35, .ref (ρ h0 23), .ref (ρ h0 24), .int o34_x25, .ref (ρ h0 26), .ref (ρ h0 27), .int z62, .int o34_x29, .ref (ρ h0 30), .ref (ρ h0 31), .int o34_x32, .long o34_x33, .long o34_x34, .long o34_x35, .int o34_x36, .int o34_x37, .int o34_x38, .ref (ρ h0 39), .ref (ρ h0 40), .ref (ρ h0 41), .ref (ρ h0 42), .ref (ρ h0 43), .ref (ρ h0 44), .ref (ρ h0 45), .ref (ρ h0 46), .int o34_x47, .int o34_x48, .ref (ρ h0 49), .ref (ρ h0 50), .ref (ρ h0 51), .ref (ρ h0 52)])) hD (tp_in hG ht_h0 (by decide)) eq54 (fun f63 H locs hP hD hS g65 k64 => ?_))
      have hT := hT.up ht_h0 g65 k64 ⟨_, _, _, _, _, _, _, _, _, _, _, _, _, _, _, _, _, _, _, _, _, _, _, _, _, _, _, _, rfl, ro34_0, ro34_1, ro34_2, ro34_3, ro34_4, ro34_5, ro34_6, ro34_7, (by omega), (by omega), ro34_10, ro34_11, ro34_12, ro34_13⟩
      have hR := hR.up ht_h0 (by decide) k64
      refine lv_aload_n hx hb dX12_settleDown_35 rfl (lv_at hl 0 rfl) ?_
      obtain ⟨q66, eq66⟩ := tp_pos (tp_in hG ht_h0 (by decide)) g65
      refine va_get (D := (dC, dI)) (ci := 12) (v := .ref (ρ h0 26)) (C := RX12) (T := TX12) (N := 53) hx hb hts hfX12 hown hK hP q66 eq66 rfl 26 (by decide) (hts (.fieldLink RX12 43 "ColdShipsModel" "pile" "[I") wa_159) (fun _ h9 => h9) rfl dX12_settleDown_36 ?_
      refine lv_aload_n hx hb dX12_settleDown_39 rfl (lv_at hl 0 rfl) ?_
      refine va_get (D := (dC, dI)) (ci := 12) (v := .int z62) (C := RX12) (T := TX12) (N := 53) hx hb hts hfX12 hown hK hP q66 eq66 rfl 28 (by decide) (hts (.fieldLink RX12 300 "ColdShipsModel" "piled" "I") wa_1045) (fun _ h9 => h9) rfl dX12_settleDown_40 ?_
      have hf_67 : f63 (ρ h0 26) = .inl (κ 0, 400, .inl g31) := (k64 _ (tp_ne y10 ht_h0 (by decide))).trans hk40k
      obtain ⟨q68, eq68⟩ := tp_pos (tp_in hG y10 (by decide)) hf_67
      refine va_iald hx hb hK hP q68 0 eq68 rfl (vp_in_iff.mpr ⟨by omega, by omega⟩) dX12_settleDown_43 ?_
      refine lv_topi (fun z69 ez69 => ?_)
      have jz69 : z69.toInt = mo_R g31 (w36.toInt + -1) := mo_rd ez69 (by omega)
      refine lv_bipush (v := 18) hx hb dX12_settleDown_44 (by decide) ?_
      refine lv_icmp_eq (tgt := 63) hx hb dX12_settleDown_46 (by decide) (fun c70 => ?_) (fun c70 => ?_)
      · have ic70 : z69.toInt = 18 := zi_eq rfl rfl c70
        refine lv_aload_n hx hb dX12_settleDown_63 rfl (lv_at hl 0 rfl) ?_
        refine va_get (D := (dC, dI)) (ci := 12) (v := .ref (ρ h0 24)) (C := RX12) (T := TX12) (N := 53) hx hb hts hfX12 hown hK hP q66 eq66 rfl 24 (by decide) (hts (.fieldLink RX12 40 "ColdShipsModel" "nArg" "[I") wa_158) (fun _ h9 => h9) rfl dX12_settleDown_64 ?_
        refine lv_aload_n hx hb dX12_settleDown_67 rfl (lv_at hl 0 rfl) ?_
        refine va_get (D := (dC, dI)) (ci := 12) (v := .ref (ρ h0 27)) (C := RX12) (T := TX12) (N := 53) hx hb hts hfX12 hown hK hP q66 eq66 rfl 27 (by decide) (hts (.fieldLink RX12 46 "ColdShipsModel" "pileAt" "[I") wa_160) (fun _ h9 => h9) rfl dX12_settleDown_68 ?_
        refine lv_aload_n hx hb dX12_settleDown_71 rfl (lv_at hl 0 rfl) ?_
        refine va_get (D := (dC, dI)) (ci := 12) (v := .int z62) (C := RX12) (T := TX12) (N := 53) hx hb hts hfX12 hown hK hP q66 eq66 rfl 28 (by decide) (hts (.fieldLink RX12 300 "ColdShipsModel" "piled" "I") wa_1045) (fun _ h9 => h9) rfl dX12_settleDown_72 ?_
        have hf_71 : f63 (ρ h0 27) = .inl (κ 0, 400, .inl g33) := (k64 _ (tp_ne y11 ht_h0 (by decide))).trans hk41k
        obtain ⟨q72, eq72⟩ := tp_pos (tp_in hG y11 (by decide)) hf_71
        refine va_iald hx hb hK hP q72 0 eq72 rfl (vp_in_iff.mpr ⟨by omega, by omega⟩) dX12_settleDown_75 ?_
        refine lv_topi (fun z73 ez73 => ?_)
        have jz73 : z73.toInt = mo_R g33 (w36.toInt + -1) := mo_rd ez73 (by omega)
        have hQb := fun (q9 : o34_x15.toInt = 0) => ((jf47 q9).choose_spec.2.2.2.2.2.1 (w36.toInt + -1) (by omega) (by omega) (by omega) (by omega)).1
        refine lv_aload_n hx hb dX12_settleDown_76 rfl (lv_at hl 0 rfl) ?_
        refine va_get (D := (dC, dI)) (ci := 12) (v := .int w35) (C := RX12) (T := TX12) (N := 53) hx hb hts hfX12 hown hK hP q66 eq66 rfl 22 (by decide) (hts (.fieldLink RX12 297 "ColdShipsModel" "nCode" "I") wa_989) (fun _ h9 => h9) rfl dX12_settleDown_77 ?_
        have hf_74 : f63 (ρ h0 24) = .inl (κ 0, 400, .inl g53) := (k64 _ (tp_ne y9 ht_h0 (by decide))).trans hf_o52
        obtain ⟨q75, eq75⟩ := tp_pos (tp_in hG y9 (by decide)) hf_74
        refine va_iast hx hb hK hP hD hS q75 0 eq75 rfl (vp_in_iff.mpr ⟨by omega, by omega⟩) dX12_settleDown_80 (tp_k (.inl (κ 0, 400, .inl (upd g53 z73.toNatClampNeg w35))) hD (tp_in hG y9 (by decide)) eq75 (fun f76 H locs hP hD hS g78 k77 => ?_))
        have hT := hT.up y9 g78 k77 tp_o54
        have hR := hR.up y9 (by decide) k77
        have hU80 : mo_U (mo_R g53) (mo_R (upd g53 z73.toNatClampNeg w35)) (z73.toInt) (w35.toInt) := mo_up (by omega) (rfl : w35.toInt = _) (by omega)
        generalize (upd g53 z73.toNatClampNeg w35) = g79 at g78 hU80
        refine lv_goto (tgt := 0) hx hb dX12_settleDown_81 (by decide) ?_
        have hf_81 : f76 h0 = .inr (12, [.int o34_x0, .int o34_x1, .ref (ρ h0 2), .ref (ρ h0 3), .ref (ρ h0 4), .ref (ρ h0 5), .ref (ρ h0 6), .int o34_x7, .ref (ρ h0 8), .int o34_x9, .int o34_x10, .int o34_x11, .int o34_x12, .long o34_x13, .int o34_x14, .int o34_x15, .int o34_x16, .int o34_x17, .int o34_x18, .int o34_x19, .int o34_x20, .ref (ρ h0 21), .int w35, .ref (ρ h0 23), .ref (ρ h0 24), .int o34_x25, .ref (ρ h0 26), .ref (ρ h0 27), .int z62, .int o34_x29, .ref (ρ h0 30), .ref (ρ h0 31), .int o34_x32, .long o34_x33, .long o34_x34, .long o34_x35, .int o34_x36, .int o34_x37, .int o34_x38, .ref (ρ h0 39), .ref (ρ h0 40), .ref (ρ h0 41), .ref (ρ h0 42), .ref (ρ h0 43), .ref (ρ h0 44), .ref (ρ h0 45), .ref (ρ h0 46), .int o34_x47, .int o34_x48, .ref (ρ h0 49), .ref (ρ h0 50), .ref (ρ h0 51), .ref (ρ h0 52)]) := (k77 _ (tp_ne ht_h0 y9 (by decide))).trans g65
        have hf_82 : f63 (ρ h0 23) = .inl (κ 0, 400, .inl g51) := (k64 _ (tp_ne y8 ht_h0 (by decide))).trans hf_o50
        have hf_83 : f76 (ρ h0 23) = .inl (κ 0, 400, .inl g51) := (k77 _ (tp_ne y8 y9 (by decide))).trans hf_82
        have hf_84 : f76 (ρ h0 26) = .inl (κ 0, 400, .inl g31) := (k77 _ (tp_ne y10 y9 (by decide))).trans hf_67
        have hf_85 : f76 (ρ h0 27) = .inl (κ 0, 400, .inl g33) := (k77 _ (tp_ne y11 y9 (by decide))).trans hf_71
        exact ih45 _ _ _ _ (by rw [hn46]; omega) ⟨f76, w35, z62, rfl, hT, hR, hf_84, hf_85, hf_81, (by simp only [hf_83, g78, hf_81, mo_i1, mo_l1]; exact (show (o34_x15.toInt = 0 → mo_PJ aa (mo_R g51) (mo_R g79) (mo_R g31) (mo_R g33) w35.toInt z62.toInt 1) from (fun q9 => (jf47 q9).and (h4 q9).1 (by omega) (by omega) (by omega) (by rw [← jz73]; exact hU80)))), (by simp only [hf_83, g78, mo_i1, mo_l1]; exact (show (o34_x15.toInt = 0 → mo_FR aa (mo_R g27) (mo_R g29) (mo_R g51) (mo_R g79)) from (fun q9 => by have q8 := (jf47 q9).base; have q7 := hQb q9; exact (jf48 q9).then (fun k k0 k1 => ⟨rfl, hU80.ne k0 (by omega)⟩)))), (by simp only [hf_81, mo_i1, mo_l1]; exact (show ∀ i, z62.toInt ≤ i → i < o34_x28.toInt → (mo_R g31) i < 30 ∧ (5 ≤ v.toInt → (mo_R g31) i < 14) from (fun i i0 i1 => by rcases (show i = (w36.toInt + -1) ∨ (w36.toInt + -1) < i by omega) with rfl | q9; (exact ⟨by omega, fun q8 => by omega⟩); (exact jf49 i (by omega) i1)))), (by omega), (by omega), (by omega), (by omega), (by omega), hP, hD, hS, lv_sub hl [0, 1] rfl⟩
      · have ic70 : z69.toInt ≠ 18 := zi_eqf rfl rfl c70
        refine lv_aload_n hx hb dX12_settleDown_49 rfl (lv_at hl 0 rfl) ?_
        refine va_get (D := (dC, dI)) (ci := 12) (v := .ref (ρ h0 26)) (C := RX12) (T := TX12) (N := 53) hx hb hts hfX12 hown hK hP q66 eq66 rfl 26 (by decide) (hts (.fieldLink RX12 43 "ColdShipsModel" "pile" "[I") wa_159) (fun _ h9 => h9) rfl dX12_settleDown_50 ?_
        refine lv_aload_n hx hb dX12_settleDown_53 rfl (lv_at hl 0 rfl) ?_
        refine va_get (D := (dC, dI)) (ci := 12) (v := .int z62) (C := RX12) (T := TX12) (N := 53) hx hb hts hfX12 hown hK hP q66 eq66 rfl 28 (by decide) (hts (.fieldLink RX12 300 "ColdShipsModel" "piled" "I") wa_1045) (fun _ h9 => h9) rfl dX12_settleDown_54 ?_
        refine va_iald hx hb hK hP q68 0 eq68 rfl (vp_in_iff.mpr ⟨by omega, by omega⟩) dX12_settleDown_57 ?_
        refine lv_topi (fun z86 ez86 => ?_)
        have jz86 : z86.toInt = mo_R g31 (w36.toInt + -1) := mo_rd ez86 (by omega)
        refine lv_bipush (v := 19) hx hb dX12_settleDown_58 (by decide) ?_
        refine lv_icmp_ne (tgt := 84) hx hb dX12_settleDown_60 (by decide) (fun c87 => ?_) (fun c87 => ?_)
        · have ic87 : z86.toInt ≠ 19 := zi_ne rfl rfl c87
          refine lv_aload_n hx hb dX12_settleDown_84 rfl (lv_at hl 0 rfl) ?_
          refine lv_aload_n hx hb dX12_settleDown_85 rfl (lv_at hl 0 rfl) ?_
          refine va_get (D := (dC, dI)) (ci := 12) (v := .ref (ρ h0 26)) (C := RX12) (T := TX12) (N := 53) hx hb hts hfX12 hown hK hP q66 eq66 rfl 26 (by decide) (hts (.fieldLink RX12 43 "ColdShipsModel" "pile" "[I") wa_159) (fun _ h9 => h9) rfl dX12_settleDown_86 ?_
          refine lv_aload_n hx hb dX12_settleDown_89 rfl (lv_at hl 0 rfl) ?_
          refine va_get (D := (dC, dI)) (ci := 12) (v := .int z62) (C := RX12) (T := TX12) (N := 53) hx hb hts hfX12 hown hK hP q66 eq66 rfl 28 (by decide) (hts (.fieldLink RX12 300 "ColdShipsModel" "piled" "I") wa_1045) (fun _ h9 => h9) rfl dX12_settleDown_90 ?_
          refine va_iald hx hb hK hP q68 0 eq68 rfl (vp_in_iff.mpr ⟨by omega, by omega⟩) dX12_settleDown_93 ?_
          refine lv_topi (fun z88 ez88 => ?_)
          have jz88 : z88.toInt = mo_R g31 (w36.toInt + -1) := mo_rd ez88 (by omega)
          refine lv_iconst (v := 0) hx hb dX12_settleDown_94 (by decide) ?_
          have hf_89 : f63 (ρ h0 23) = .inl (κ 0, 400, .inl g51) := (k64 _ (tp_ne y8 ht_h0 (by decide))).trans hf_o50
          have hf_90 : f63 (ρ h0 24) = .inl (κ 0, 400, .inl g53) := (k64 _ (tp_ne y9 ht_h0 (by decide))).trans hf_o52
          have hFc := tp_fr hD hS hA
          refine va_callv (va_runV (As := [.int z88, .int 0]) (rest := []) ⟨hx, hb, hml, hown, hts⟩ (t_X12_emit l dC dI _ κ τ ν ρ L f63 hG hT h0 z88 (0) ht_h0 (by simp only [g65, mo_i1, mo_l1]; exact (show w35.toInt < 400 from by have : (0 : Int32).toInt = 0 := rfl; first | omega | decide))) (cwV 2 hts gX12_settleDown_X12_emit rfl rfl rfl ⟨rfl, pd_X12_emit⟩ ⟨Nat.le_of_ble_eq_true rfl, Nat.le_of_ble_eq_true rfl⟩) ⟨pz_blind, va_recv hK hP (ci := 12) (q0 := q66) rfl eq66, pz_pre hP hK hD hN⟩ rfl rfl hl.1 rfl (lv_room (Nat.le_of_ble_eq_true rfl)) dX12_settleDown_95 ⟨Nat.le_of_ble_eq_true rfl, Nat.le_of_ble_eq_true rfl⟩) hS (fun q _ h => hFc q h) hFc (fun f93 t H1 locs ht hvm hw92 hB hz1 hk1 hS => ?_)
          obtain ⟨hT, hF94, hw92p⟩ := hw92
          have hR := hR.then hF94 (by decide)
          have hP := hB.1; rw [ht] at hP; have hD := tp_ad f93 hD; clear hB hFc hz1 hk1; subst ht; generalize t.heap = H at hP hS ⊢
          obtain ⟨g96, hf_o95⟩ := tpo_53 hT y8
          obtain ⟨g98, hf_o97⟩ := tpo_54 hT y9
          obtain ⟨o99_x0, o99_x1, o99_x7, o99_x9, o99_x10, o99_x11, o99_x12, o99_x13, o99_x14, o99_x15, o99_x16, o99_x17, o99_x18, o99_x19, o99_x20, o99_x22, o99_x25, o99_x28, o99_x29, o99_x32, o99_x33, o99_x34, o99_x35, o99_x36, o99_x37, o99_x38, o99_x47, o99_x48, hf_o99, ro99_0, ro99_1, ro99_2, ro99_3, ro99_4, ro99_5, ro99_6, ro99_7, ro99_8, ro99_9, ro99_10, ro99_11, ro99_12, ro99_13⟩ := tpo_13 hT ht_h0
          have tk100 : mo_U (mo_R g51) (mo_R g96) w35.toInt z88.toInt ∧ mo_U (mo_R g53) (mo_R g98) w35.toInt (0) ∧ o99_x22.toInt = w35.toInt + 1 ∧ o99_x9.toInt = o34_x9.toInt ∧ o99_x10.toInt = o34_x10.toInt ∧ o99_x11.toInt = o34_x11.toInt ∧ o99_x12.toInt = o34_x12.toInt ∧ o99_x13.toInt = o34_x13.toInt ∧ o99_x15.toInt = o34_x15.toInt ∧ o99_x19.toInt = o34_x19.toInt ∧ o99_x20.toInt = o34_x20.toInt ∧ o99_x28.toInt = z62.toInt := by have q9 := hw92p; simp only [hf_89, hf_o95, g65, hf_90, hf_o97, hf_o99, mo_i1, mo_l1] at q9; exact q9
          refine lv_goto (tgt := 0) hx hb dX12_settleDown_98 (by decide) ?_
          have hf_101 : f93 (ρ h0 26) = .inl (κ 0, 400, .inl g31) := (hF94 _ (by rw [y10]; decide)).trans hf_67
          have hf_102 : f63 (ρ h0 27) = .inl (κ 0, 400, .inl g33) := (k64 _ (tp_ne y11 ht_h0 (by decide))).trans hk41k
          have hf_103 : f93 (ρ h0 27) = .inl (κ 0, 400, .inl g33) := (hF94 _ (by rw [y11]; decide)).trans hf_102
          exact ih45 _ _ _ _ (by rw [hn46]; omega) ⟨f93, o99_x22, o99_x28, rfl, hT, hR, hf_101, hf_103, hf_o99, (by simp only [hf_o95, hf_o97, hf_o99, mo_i1, mo_l1]; exact (show (o34_x15.toInt = 0 → mo_PJ aa (mo_R g96) (mo_R g98) (mo_R g31) (mo_R g33) o99_x22.toInt o99_x28.toInt 1) from (fun q9 => (jf47 q9).pop (h4 q9).1 tk100.1 tk100.2.1 (by omega) (by omega) (by omega) (by omega) (by omega)))), (by simp only [hf_o95, hf_o97, mo_i1, mo_l1]; exact (show (o34_x15.toInt = 0 → mo_FR aa (mo_R g27) (mo_R g29) (mo_R g96) (mo_R g98)) from (fun q9 => (jf48 q9).then (mo_FR.emit tk100.1 tk100.2.1 (jf47 q9).base)))), (by simp only [hf_o99, mo_i1, mo_l1]; exact (show ∀ i, o99_x28.toInt ≤ i → i < o34_x28.toInt → (mo_R g31) i < 30 ∧ (5 ≤ v.toInt → (mo_R g31) i < 14) from (fun i i0 i1 => by rcases (show i = (w36.toInt + -1) ∨ (w36.toInt + -1) < i by omega) with rfl | q9; (exact ⟨by omega, fun q8 => by omega⟩); (exact jf49 i (by omega) i1)))), (by omega), (by omega), (by omega), (by omega), (by omega), hP, hD, hS, lv_sub hl [0, 1] rfl⟩
        · have ic87 : z86.toInt = 19 := zi_nef rfl rfl c87
          refine lv_aload_n hx hb dX12_settleDown_63 rfl (lv_at hl 0 rfl) ?_
          refine va_get (D := (dC, dI)) (ci := 12) (v := .ref (ρ h0 24)) (C := RX12) (T := TX12) (N := 53) hx hb hts hfX12 hown hK hP q66 eq66 rfl 24 (by decide) (hts (.fieldLink RX12 40 "ColdShipsModel" "nArg" "[I") wa_158) (fun _ h9 => h9) rfl dX12_settleDown_64 ?_
          refine lv_aload_n hx hb dX12_settleDown_67 rfl (lv_at hl 0 rfl) ?_
          refine va_get (D := (dC, dI)) (ci := 12) (v := .ref (ρ h0 27)) (C := RX12) (T := TX12) (N := 53) hx hb hts hfX12 hown hK hP q66 eq66 rfl 27 (by decide) (hts (.fieldLink RX12 46 "ColdShipsModel" "pileAt" "[I") wa_160) (fun _ h9 => h9) rfl dX12_settleDown_68 ?_
          refine lv_aload_n hx hb dX12_settleDown_71 rfl (lv_at hl 0 rfl) ?_
          refine va_get (D := (dC, dI)) (ci := 12) (v := .int z62) (C := RX12) (T := TX12) (N := 53) hx hb hts hfX12 hown hK hP q66 eq66 rfl 28 (by decide) (hts (.fieldLink RX12 300 "ColdShipsModel" "piled" "I") wa_1045) (fun _ h9 => h9) rfl dX12_settleDown_72 ?_
          have hf_104 : f63 (ρ h0 27) = .inl (κ 0, 400, .inl g33) := (k64 _ (tp_ne y11 ht_h0 (by decide))).trans hk41k
          obtain ⟨q105, eq105⟩ := tp_pos (tp_in hG y11 (by decide)) hf_104
          refine va_iald hx hb hK hP q105 0 eq105 rfl (vp_in_iff.mpr ⟨by omega, by omega⟩) dX12_settleDown_75 ?_
          refine lv_topi (fun z106 ez106 => ?_)
          have jz106 : z106.toInt = mo_R g33 (w36.toInt + -1) := mo_rd ez106 (by omega)
          have hQb := fun (q9 : o34_x15.toInt = 0) => ((jf47 q9).choose_spec.2.2.2.2.2.1 (w36.toInt + -1) (by omega) (by omega) (by omega) (by omega)).1
          refine lv_aload_n hx hb dX12_settleDown_76 rfl (lv_at hl 0 rfl) ?_
          refine va_get (D := (dC, dI)) (ci := 12) (v := .int w35) (C := RX12) (T := TX12) (N := 53) hx hb hts hfX12 hown hK hP q66 eq66 rfl 22 (by decide) (hts (.fieldLink RX12 297 "ColdShipsModel" "nCode" "I") wa_989) (fun _ h9 => h9) rfl dX12_settleDown_77 ?_
          have hf_107 : f63 (ρ h0 24) = .inl (κ 0, 400, .inl g53) := (k64 _ (tp_ne y9 ht_h0 (by decide))).trans hf_o52
          obtain ⟨q108, eq108⟩ := tp_pos (tp_in hG y9 (by decide)) hf_107
          refine va_iast hx hb hK hP hD hS q108 0 eq108 rfl (vp_in_iff.mpr ⟨by omega, by omega⟩) dX12_settleDown_80 (tp_k (.inl (κ 0, 400, .inl (upd g53 z106.toNatClampNeg w35))) hD (tp_in hG y9 (by decide)) eq108 (fun f109 H locs hP hD hS g111 k110 => ?_))
          have hT := hT.up y9 g111 k110 tp_o54
          have hR := hR.up y9 (by decide) k110
          have hU113 : mo_U (mo_R g53) (mo_R (upd g53 z106.toNatClampNeg w35)) (z106.toInt) (w35.toInt) := mo_up (by omega) (rfl : w35.toInt = _) (by omega)
          generalize (upd g53 z106.toNatClampNeg w35) = g112 at g111 hU113
          refine lv_goto (tgt := 0) hx hb dX12_settleDown_81 (by decide) ?_
          have hf_114 : f109 h0 = .inr (12, [.int o34_x0, .int o34_x1, .ref (ρ h0 2), .ref (ρ h0 3), .ref (ρ h0 4), .ref (ρ h0 5), .ref (ρ h0 6), .int o34_x7, .ref (ρ h0 8), .int o34_x9, .int o34_x10, .int o34_x11, .int o34_x12, .long o34_x13, .int o34_x14, .int o34_x15, .int o34_x16, .int o34_x17, .int o34_x18, .int o34_x19, .int o34_x20, .ref (ρ h0 21), .int w35, .ref (ρ h0 23), .ref (ρ h0 24), .int o34_x25, .ref (ρ h0 26), .ref (ρ h0 27), .int z62, .int o34_x29, .ref (ρ h0 30), .ref (ρ h0 31), .int o34_x32, .long o34_x33, .long o34_x34, .long o34_x35, .int o34_x36, .int o34_x37, .int o34_x38, .ref (ρ h0 39), .ref (ρ h0 40), .ref (ρ h0 41), .ref (ρ h0 42), .ref (ρ h0 43), .ref (ρ h0 44), .ref (ρ h0 45), .ref (ρ h0 46), .int o34_x47, .int o34_x48, .ref (ρ h0 49), .ref (ρ h0 50), .ref (ρ h0 51), .ref (ρ h0 52)]) := (k110 _ (tp_ne ht_h0 y9 (by decide))).trans g65
          have hf_115 : f63 (ρ h0 23) = .inl (κ 0, 400, .inl g51) := (k64 _ (tp_ne y8 ht_h0 (by decide))).trans hf_o50
          have hf_116 : f109 (ρ h0 23) = .inl (κ 0, 400, .inl g51) := (k110 _ (tp_ne y8 y9 (by decide))).trans hf_115
          have hf_117 : f109 (ρ h0 26) = .inl (κ 0, 400, .inl g31) := (k110 _ (tp_ne y10 y9 (by decide))).trans hf_67
          have hf_118 : f109 (ρ h0 27) = .inl (κ 0, 400, .inl g33) := (k110 _ (tp_ne y11 y9 (by decide))).trans hf_104
          exact ih45 _ _ _ _ (by rw [hn46]; omega) ⟨f109, w35, z62, rfl, hT, hR, hf_117, hf_118, hf_114, (by simp only [hf_116, g111, hf_114, mo_i1, mo_l1]; exact (show (o34_x15.toInt = 0 → mo_PJ aa (mo_R g51) (mo_R g112) (mo_R g31) (mo_R g33) w35.toInt z62.toInt 1) from (fun q9 => (jf47 q9).and (h4 q9).1 (by omega) (by omega) (by omega) (by rw [← jz106]; exact hU113)))), (by simp only [hf_116, g111, mo_i1, mo_l1]; exact (show (o34_x15.toInt = 0 → mo_FR aa (mo_R g27) (mo_R g29) (mo_R g51) (mo_R g112)) from (fun q9 => by have q8 := (jf47 q9).base; have q7 := hQb q9; exact (jf48 q9).then (fun k k0 k1 => ⟨rfl, hU113.ne k0 (by omega)⟩)))), (by simp only [hf_114, mo_i1, mo_l1]; exact (show ∀ i, z62.toInt ≤ i → i < o34_x28.toInt → (mo_R g31) i < 30 ∧ (5 ≤ v.toInt → (mo_R g31) i < 14) from (fun i i0 i1 => by rcases (show i = (w36.toInt + -1) ∨ (w36.toInt + -1) < i by omega) with rfl | q9; (exact ⟨by omega, fun q8 => by omega⟩); (exact jf49 i (by omega) i1)))), (by omega), (by omega), (by omega), (by omega), (by omega), hP, hD, hS, lv_sub hl [0, 1] rfl⟩
set_option maxHeartbeats 4000000 in
set_option maxRecDepth 100000 in
theorem t_X12_inner (l : Launch) (dC : Nat → ClassId) (dI : Nat → Nat → Nat) (sz : Nat) (κ : Nat → ClassId) (τ ν : Nat → Nat) (ρ : Nat → Nat → Nat) (L : List Nat) (f : Nat → va_E) (hG : tp_G τ ν ρ L) (hT : tp_T (mo_O κ) κ τ ν ρ f) (h0 : Nat) (ht_h0 : τ h0 = 13) : Met l yX12_inner wqX12_inner ({ frames := 2, cells := 0, slots := 0, locals := 400 }) (va_Pc [.ref h0] (pz_B dC dI (tp_K κ) (va_pl L f) sz)) (vp_Si (fun r => True ∧ r.toInt = mo_in (mo_R (mo_i (f (ρ h0 26)))) ((tp_fld (f h0) 28)).toNat)) 0 0 (fun _ => False) := by
  refine Met.ofW (cc := cX12_inner) (maxL := 3) (ret := some .int) (by decide) rfl ?_
  intro p e s m args below meth c s₁ B hml hv
  obtain ⟨rfl, hsz, hP, hK, hD0, hN⟩ := hv
  have hx := B.exec
  have hb := B.bytes
  have hr := B.returns
  have hts := fun (w : Cond) (h : w ∈ WALL) => atoms_spec (ws := wqX12_inner) B.pre w (List.mem_cons_of_mem _ h)
  have hown : s.vm.findClass RX12 = some m.cls := findClass_of_methodNamed B.named
  have hlocks := B.notSynchronized
  subst hsz
  have hD := hD0
  have hS : va_S (fun _ => True) s.heap s.heap [] := va_S.rf
  have hl := lv_entry ([.ref h0]) (n := 3) (Nat.le_of_ble_eq_true rfl)
  rw [lg_entry_eq]
  generalize (lg_sl ([.ref h0]) ++ List.replicate (3 - (lg_sl ([.ref h0])).length) Slot.unset).toArray = ls at hl ⊢
  have hl : lv_has ls 3 [(0, .ref h0)] := hl
  obtain ⟨y1, y2, y3, y4, y5, y6, y7, y8, y9, y10, y11, y12, y13, y14, y15, y16, y17, y18, y19, y20, y21, y22, y23, y24, y25⟩ := tpg_13 hG ht_h0
  obtain ⟨g27, hf_o26⟩ := tpo_56 hT y10
  obtain ⟨o28_x0, o28_x1, o28_x7, o28_x9, o28_x10, o28_x11, o28_x12, o28_x13, o28_x14, o28_x15, o28_x16, o28_x17, o28_x18, o28_x19, o28_x20, o28_x22, o28_x25, o28_x28, o28_x29, o28_x32, o28_x33, o28_x34, o28_x35, o28_x36, o28_x37, o28_x38, o28_x47, o28_x48, hf_o28, ro28_0, ro28_1, ro28_2, ro28_3, ro28_4, ro28_5, ro28_6, ro28_7, ro28_8, ro28_9, ro28_10, ro28_11, ro28_12, ro28_13⟩ := tpo_13 hT ht_h0
  refine lv_iconst (v := (-1)) hx hb dX12_inner_0 (by decide) ?_
  refine lv_istore_n (lv' := [(1, .int (-1)), (0, .ref h0)]) hx hb dX12_inner_1 rfl hl (by decide) rfl (fun ls hl => ?_)
  refine lv_iconst (v := 0) hx hb dX12_inner_2 (by decide) ?_
  refine lv_istore_n (lv' := [(2, .int 0), (1, .int (-1)), (0, .ref h0)]) hx hb dX12_inner_3 rfl hl (by decide) rfl (fun ls hl => ?_)
  refine pz_loop (fun n0 H locs ls => ∃ w29 : Int32, ∃ w30 : Int32, n0 = (400 - (w29.toInt)).toNat ∧ (0 ≤ w29.toInt ∧ w29.toInt ≤ 400) ∧ ((w29.toInt) ≤ o28_x28.toInt) ∧ ((w30.toInt) = mo_in (mo_R g27) ((w29.toInt)).toNat) ∧ H = s.heap ∧ locs = [] ∧ lv_has ls 3 [(2, .int w29), (1, .int w30), (0, .ref h0)]) ?_ _ _ _ _ ⟨0, (-1), rfl, (by have : (0 : Int32).toInt = 0 := rfl; have : ((-1) : Int32).toInt = (-1) := rfl; omega), (by have : (0 : Int32).toInt = 0 := rfl; have : ((-1) : Int32).toInt = (-1) := rfl; omega), (by show _ = mo_in _ 0; rfl), rfl, rfl, lv_sub hl [0, 1, 2] rfl⟩
  intro n0 H locs ls hI ih33
  obtain ⟨w29, w30, hn34, rw29, k31, k32, rfl, rfl, hl⟩ := hI
  refine lv_iload_n hx hb dX12_inner_4 rfl (lv_at hl 0 rfl) ?_
  refine lv_aload_n hx hb dX12_inner_5 rfl (lv_at hl 2 rfl) ?_
  obtain ⟨q35, eq35⟩ := tp_pos (tp_in hG ht_h0 (by decide)) hf_o28
  refine va_get (D := (dC, dI)) (ci := 12) (v := .int o28_x28) (C := RX12) (T := TX12) (N := 53) hx hb hts hfX12 hown hK hP q35 eq35 rfl 28 (by decide) (hts (.fieldLink RX12 300 "ColdShipsModel" "piled" "I") wa_1045) (fun _ h9 => h9) rfl dX12_inner_6 ?_
  refine lv_icmp_ge (tgt := 40) hx hb dX12_inner_9 (by decide) (fun c36 => ?_) (fun c36 => ?_)
  · have ic36 : w29.toInt ≥ o28_x28.toInt := zi_ge rfl rfl c36
    refine lv_iload_n hx hb dX12_inner_40 rfl (lv_at hl 1 rfl) ?_
    exact W.iret (v := w30) hx hb hr (fun t ht hW => ⟨w30, rfl, ⟨trivial, (by simp only [hf_o26, hf_o28, mo_i1, mo_l1]; exact (show w30.toInt = mo_in (mo_R g27) (o28_x28.toInt).toNat from (by have q9 := k32; rw [show w29.toInt = o28_x28.toInt by omega] at q9; exact q9)))⟩, ht⟩) (fun _ h => by cases h) dX12_inner_41
  · have ic36 : w29.toInt < o28_x28.toInt := zi_gef rfl rfl c36
    refine lv_aload_n hx hb dX12_inner_12 rfl (lv_at hl 2 rfl) ?_
    refine va_get (D := (dC, dI)) (ci := 12) (v := .ref (ρ h0 26)) (C := RX12) (T := TX12) (N := 53) hx hb hts hfX12 hown hK hP q35 eq35 rfl 26 (by decide) (hts (.fieldLink RX12 43 "ColdShipsModel" "pile" "[I") wa_159) (fun _ h9 => h9) rfl dX12_inner_13 ?_
    refine lv_iload_n hx hb dX12_inner_16 rfl (lv_at hl 0 rfl) ?_
    obtain ⟨q37, eq37⟩ := tp_pos (tp_in hG y10 (by decide)) hf_o26
    refine va_iald hx hb hK hP q37 0 eq37 rfl (vp_in_iff.mpr ⟨by omega, by omega⟩) dX12_inner_17 ?_
    refine lv_topi (fun z38 ez38 => ?_)
    have jz38 : z38.toInt = mo_R g27 w29.toInt := mo_rd ez38 (by omega)
    refine lv_bipush (v := 30) hx hb dX12_inner_18 (by decide) ?_
    refine lv_icmp_lt (tgt := 32) hx hb dX12_inner_20 (by decide) (fun c39 => ?_) (fun c39 => ?_)
    · have ic39 : z38.toInt < 30 := zi_lt rfl rfl c39
      refine lv_iload_n hx hb dX12_inner_32 rfl (lv_at hl 1 rfl) ?_
      refine lv_istore_n (lv' := [(1, .int w30), (2, .int w29), (0, .ref h0)]) hx hb dX12_inner_33 rfl hl (by decide) rfl (fun ls hl => ?_)
      obtain ⟨z40, ez40⟩ : ∃ y : Int32, y = w29 + 1 := ⟨_, rfl⟩
      refine lv_iinc (v := z40) (lv' := [(2, .int z40), (1, .int w30), (0, .ref h0)]) hx hb dX12_inner_34 hl (k := 1) rfl (by rw [ez40]; rfl) (by decide) rfl (fun ls hl => ?_)
      have iz40 : z40.toInt = w29.toInt + 1 := zi_add ez40 rfl rfl (by omega) (by omega)
      refine lv_goto (tgt := 4) hx hb dX12_inner_37 (by decide) ?_
      exact ih33 _ _ _ _ (by rw [hn34]; omega) ⟨z40, w30, rfl, (by omega), (by omega), (by rw [mo_in_no (P := (mo_R g27)) (m := w29.toInt) (by omega) (by omega) (by omega)]; exact k32), rfl, rfl, lv_sub hl [0, 1, 2] rfl⟩
    · have ic39 : z38.toInt ≥ 30 := zi_ltf rfl rfl c39
      refine lv_aload_n hx hb dX12_inner_23 rfl (lv_at hl 2 rfl) ?_
      refine va_get (D := (dC, dI)) (ci := 12) (v := .ref (ρ h0 26)) (C := RX12) (T := TX12) (N := 53) hx hb hts hfX12 hown hK hP q35 eq35 rfl 26 (by decide) (hts (.fieldLink RX12 43 "ColdShipsModel" "pile" "[I") wa_159) (fun _ h9 => h9) rfl dX12_inner_24 ?_
      refine lv_iload_n hx hb dX12_inner_27 rfl (lv_at hl 0 rfl) ?_
      refine va_iald hx hb hK hP q37 0 eq37 rfl (vp_in_iff.mpr ⟨by omega, by omega⟩) dX12_inner_28 ?_
      refine lv_topi (fun z41 ez41 => ?_)
      have jz41 : z41.toInt = mo_R g27 w29.toInt := mo_rd ez41 (by omega)
      refine lv_goto (tgt := 33) hx hb dX12_inner_29 (by decide) ?_
      refine lv_istore_n (lv' := [(1, .int z41), (2, .int w29), (0, .ref h0)]) hx hb dX12_inner_33 rfl hl (by decide) rfl (fun ls hl => ?_)
      obtain ⟨z42, ez42⟩ : ∃ y : Int32, y = w29 + 1 := ⟨_, rfl⟩
      refine lv_iinc (v := z42) (lv' := [(2, .int z42), (1, .int z41), (0, .ref h0)]) hx hb dX12_inner_34 hl (k := 1) rfl (by rw [ez42]; rfl) (by decide) rfl (fun ls hl => ?_)
      have iz42 : z42.toInt = w29.toInt + 1 := zi_add ez42 rfl rfl (by omega) (by omega)
      refine lv_goto (tgt := 4) hx hb dX12_inner_37 (by decide) ?_
      exact ih33 _ _ _ _ (by rw [hn34]; omega) ⟨z42, z41, rfl, (by omega), (by omega), (by rw [mo_in_yes (P := (mo_R g27)) (m := w29.toInt) (by omega) (by omega) (by omega)]; omega), rfl, rfl, lv_sub hl [0, 1, 2] rfl⟩
set_option maxHeartbeats 4000000 in
set_option maxRecDepth 100000 in
theorem t_X12_isCompared (l : Launch) (dC : Nat → ClassId) (dI : Nat → Nat → Nat) (sz : Nat) (κ : Nat → ClassId) (τ ν : Nat → Nat) (ρ : Nat → Nat → Nat) (L : List Nat) (f : Nat → va_E) (hG : tp_G τ ν ρ L) (hT : tp_T (mo_O κ) κ τ ν ρ f) (h0 : Nat) (ht_h0 : τ h0 = 13) : Met l yX12_isCompared wqX12_isCompared ({ frames := 3, cells := 0, slots := 0, locals := 800 }) (va_Pc [.ref h0] (pz_B dC dI (tp_K κ) (va_pl L f) sz)) (vp_Si (fun r => (0 ≤ r.toInt ∧ r.toInt ≤ 1) ∧ True)) 0 0 (fun _ => False) := by
  refine Met.ofW (cc := cX12_isCompared) (maxL := 2) (ret := some .boolean) (by decide) rfl ?_
  intro p e s m args below meth c s₁ B hml hv
  obtain ⟨rfl, hsz, hP, hK, hD0, hN⟩ := hv
  have hx := B.exec
  have hb := B.bytes
  have hr := B.returns
  have hts := fun (w : Cond) (h : w ∈ WALL) => atoms_spec (ws := wqX12_isCompared) B.pre w (List.mem_cons_of_mem _ h)
  have hown : s.vm.findClass RX12 = some m.cls := findClass_of_methodNamed B.named
  have hlocks := B.notSynchronized
  subst hsz
  have hD := hD0
  have hS : va_S (fun _ => True) s.heap s.heap [] := va_S.rf
  have hl := lv_entry ([.ref h0]) (n := 2) (Nat.le_of_ble_eq_true rfl)
  rw [lg_entry_eq]
  generalize (lg_sl ([.ref h0]) ++ List.replicate (2 - (lg_sl ([.ref h0])).length) Slot.unset).toArray = ls at hl ⊢
  have hl : lv_has ls 2 [(0, .ref h0)] := hl
  refine lv_aload_n hx hb dX12_isCompared_0 rfl (lv_at hl 0 rfl) ?_
  obtain ⟨y1, y2, y3, y4, y5, y6, y7, y8, y9, y10, y11, y12, y13, y14, y15, y16, y17, y18, y19, y20, y21, y22, y23, y24, y25⟩ := tpg_13 hG ht_h0
  obtain ⟨o26_x0, o26_x1, o26_x7, o26_x9, o26_x10, o26_x11, o26_x12, o26_x13, o26_x14, o26_x15, o26_x16, o26_x17, o26_x18, o26_x19, o26_x20, o26_x22, o26_x25, o26_x28, o26_x29, o26_x32, o26_x33, o26_x34, o26_x35, o26_x36, o26_x37, o26_x38, o26_x47, o26_x48, hf_o26, ro26_0, ro26_1, ro26_2, ro26_3, ro26_4, ro26_5, ro26_6, ro26_7, ro26_8, ro26_9, ro26_10, ro26_11, ro26_12, ro26_13⟩ := tpo_13 hT ht_h0
  obtain ⟨q27, eq27⟩ := tp_pos (tp_in hG ht_h0 (by decide)) hf_o26
  refine va_get (D := (dC, dI)) (ci := 12) (v := .int o26_x28) (C := RX12) (T := TX12) (N := 53) hx hb hts hfX12 hown hK hP q27 eq27 rfl 28 (by decide) (hts (.fieldLink RX12 300 "ColdShipsModel" "piled" "I") wa_1045) (fun _ h9 => h9) rfl dX12_isCompared_1 ?_
  refine lv_iconst (v := 1) hx hb dX12_isCompared_4 (by decide) ?_
  refine lv_isub hx hb dX12_isCompared_5 ?_
  refine lv_topi (fun z28 ez28 => ?_)
  have iz28 : z28.toInt = o26_x28.toInt - 1 := zi_sub ez28 rfl rfl (by omega) (by omega)
  refine lv_istore_n (lv' := [(1, .int z28), (0, .ref h0)]) hx hb dX12_isCompared_6 rfl hl (by decide) rfl (fun ls hl => ?_)
  refine pz_loop (fun n0 H locs ls => ∃ w29 : Int32, n0 = ((w29.toInt) + 1).toNat ∧ ((-1) ≤ w29.toInt ∧ w29.toInt ≤ 399) ∧ H = s.heap ∧ locs = [] ∧ lv_has ls 2 [(1, .int w29), (0, .ref h0)]) ?_ _ _ _ _ ⟨z28, rfl, (by omega), rfl, rfl, lv_sub hl [0, 1] rfl⟩
  intro n0 H locs ls hI ih30
  obtain ⟨w29, hn31, rw29, rfl, rfl, hl⟩ := hI
  refine lv_iload_n hx hb dX12_isCompared_7 rfl (lv_at hl 0 rfl) ?_
  refine tp_join 36 (fun H locs ls stk => stk = [] ∧ H = s.heap ∧ locs = [] ∧ lv_has ls 2 [(1, .int w29), (0, .ref h0)]) ?_ (fun hj32 => ?_)
  · intro H locs ls stk hI
    obtain ⟨rfl, rfl, rfl, hl⟩ := hI
    refine lv_iload_n hx hb dX12_isCompared_36 rfl (lv_at hl 0 rfl) ?_
    refine lv_if_lt (tgt := 63) hx hb dX12_isCompared_37 (by decide) (fun c33 => ?_) (fun c33 => ?_)
    · have ic33 : w29.toInt < 0 := zi_lt rfl rfl c33
      refine lv_iconst (v := 0) hx hb dX12_isCompared_63 (by decide) ?_
      exact W.zret (v := 0) hx hb hr rfl (fun t ht hW => ⟨0, rfl, ⟨(by first | decide | omega), trivial⟩, ht⟩) (fun _ h => by cases h) dX12_isCompared_64
    · have ic33 : w29.toInt ≥ 0 := zi_ltf rfl rfl c33
      refine lv_aload_n hx hb dX12_isCompared_40 rfl (lv_at hl 1 rfl) ?_
      refine va_get (D := (dC, dI)) (ci := 12) (v := .ref (ρ h0 26)) (C := RX12) (T := TX12) (N := 53) hx hb hts hfX12 hown hK hP q27 eq27 rfl 26 (by decide) (hts (.fieldLink RX12 43 "ColdShipsModel" "pile" "[I") wa_159) (fun _ h9 => h9) rfl dX12_isCompared_41 ?_
      refine lv_iload_n hx hb dX12_isCompared_44 rfl (lv_at hl 0 rfl) ?_
      obtain ⟨g35, hf_o34⟩ := tpo_56 hT y10
      obtain ⟨q36, eq36⟩ := tp_pos (tp_in hG y10 (by decide)) hf_o34
      refine va_iald hx hb hK hP q36 0 eq36 rfl (vp_in_iff.mpr ⟨by omega, by omega⟩) dX12_isCompared_45 ?_
      refine lv_topi (fun z37 ez37 => ?_)
      refine lv_i2l hx hb dX12_isCompared_46 rfl ?_
      refine lv_ldc2 (own := RX12) (v := 14) hx hb hown (hts (.constantLong RX12 311 (14)) wa_1104) dX12_isCompared_47 ?_
      refine lv_ldc2 (own := RX12) (v := 16) hx hb hown (hts (.constantLong RX12 313 (16)) wa_1105) dX12_isCompared_50 ?_
      refine pz_calli (va_runS (As := [.long z37.toInt64, .long 14, .long 16]) (rest := []) ⟨hx, hb, hml, hown, hts⟩ (t_X12_in l dC dI _ z37.toInt64 (14) (16) (z37.toInt) (14) (16) (Int32.toInt_toInt64 z37) rfl rfl) (va_cwS 3 hts gX12_isCompared_X12_in rfl rfl rfl pd_X12_in ⟨Nat.le_of_ble_eq_true rfl, Nat.le_of_ble_eq_true rfl⟩) ⟨pz_blind, pz_pre pz_P0 (hK.sub (tys' := []) [] rfl) (pz_D0 (A := fun _ => True)) hN⟩ rfl rfl hl.1 rfl (lv_room (Nat.le_of_ble_eq_true rfl)) dX12_isCompared_53 ⟨Nat.le_of_ble_eq_true rfl, Nat.le_of_ble_eq_true rfl⟩) (fun r38 hw39 => ?_)
      obtain ⟨hw39r, hw39p⟩ := hw39
      refine lv_if_eq (tgt := 63) hx hb dX12_isCompared_56 (by decide) (fun c40 => ?_) (fun c40 => ?_)
      · have ic40 : r38.toInt = 0 := zi_eq rfl rfl c40
        refine lv_iconst (v := 0) hx hb dX12_isCompared_63 (by decide) ?_
        exact W.zret (v := 0) hx hb hr rfl (fun t ht hW => ⟨0, rfl, ⟨(by first | decide | omega), trivial⟩, ht⟩) (fun _ h => by cases h) dX12_isCompared_64
      · have ic40 : r38.toInt ≠ 0 := zi_eqf rfl rfl c40
        have p41 : (14) ≤ (z37.toInt) ∧ (z37.toInt) ≤ (16) := (tp_cond.yes hw39p) (by omega)
        refine lv_iconst (v := 1) hx hb dX12_isCompared_59 (by decide) ?_
        refine lv_goto (tgt := 64) hx hb dX12_isCompared_60 (by decide) ?_
        exact W.zret (v := 1) hx hb hr rfl (fun t ht hW => ⟨1, rfl, ⟨(by first | decide | omega), trivial⟩, ht⟩) (fun _ h => by cases h) dX12_isCompared_64
  · refine lv_if_lt (tgt := 36) hx hb dX12_isCompared_8 (by decide) (fun c42 => ?_) (fun c42 => ?_)
    · have ic42 : w29.toInt < 0 := zi_lt rfl rfl c42
      exact hj32 _ _ _ _ ⟨rfl, rfl, rfl, lv_sub hl [0, 1] rfl⟩
    · have ic42 : w29.toInt ≥ 0 := zi_ltf rfl rfl c42
      refine lv_aload_n hx hb dX12_isCompared_11 rfl (lv_at hl 1 rfl) ?_
      refine va_get (D := (dC, dI)) (ci := 12) (v := .ref (ρ h0 26)) (C := RX12) (T := TX12) (N := 53) hx hb hts hfX12 hown hK hP q27 eq27 rfl 26 (by decide) (hts (.fieldLink RX12 43 "ColdShipsModel" "pile" "[I") wa_159) (fun _ h9 => h9) rfl dX12_isCompared_12 ?_
      refine lv_iload_n hx hb dX12_isCompared_15 rfl (lv_at hl 0 rfl) ?_
      obtain ⟨g44, hf_o43⟩ := tpo_56 hT y10
      obtain ⟨q45, eq45⟩ := tp_pos (tp_in hG y10 (by decide)) hf_o43
      refine va_iald hx hb hK hP q45 0 eq45 rfl (vp_in_iff.mpr ⟨by omega, by omega⟩) dX12_isCompared_16 ?_
      refine lv_topi (fun z46 ez46 => ?_)
      refine lv_i2l hx hb dX12_isCompared_17 rfl ?_
      refine lv_ldc2 (own := RX12) (v := 10) hx hb hown (hts (.constantLong RX12 289 (10)) wa_1010) dX12_isCompared_18 ?_
      refine lv_ldc2 (own := RX12) (v := 13) hx hb hown (hts (.constantLong RX12 309 (13)) wa_1103) dX12_isCompared_21 ?_
      refine pz_calli (va_runS (As := [.long z46.toInt64, .long 10, .long 13]) (rest := []) ⟨hx, hb, hml, hown, hts⟩ (t_X12_in l dC dI _ z46.toInt64 (10) (13) (z46.toInt) (10) (13) (Int32.toInt_toInt64 z46) rfl rfl) (va_cwS 3 hts gX12_isCompared_X12_in rfl rfl rfl pd_X12_in ⟨Nat.le_of_ble_eq_true rfl, Nat.le_of_ble_eq_true rfl⟩) ⟨pz_blind, pz_pre pz_P0 (hK.sub (tys' := []) [] rfl) (pz_D0 (A := fun _ => True)) hN⟩ rfl rfl hl.1 rfl (lv_room (Nat.le_of_ble_eq_true rfl)) dX12_isCompared_24 ⟨Nat.le_of_ble_eq_true rfl, Nat.le_of_ble_eq_true rfl⟩) (fun r47 hw48 => ?_)
      obtain ⟨hw48r, hw48p⟩ := hw48
      refine lv_if_eq (tgt := 36) hx hb dX12_isCompared_27 (by decide) (fun c49 => ?_) (fun c49 => ?_)
      · have ic49 : r47.toInt = 0 := zi_eq rfl rfl c49
        exact hj32 _ _ _ _ ⟨rfl, rfl, rfl, lv_sub hl [0, 1] rfl⟩
      · have ic49 : r47.toInt ≠ 0 := zi_eqf rfl rfl c49
        have p50 : (10) ≤ (z46.toInt) ∧ (z46.toInt) ≤ (13) := (tp_cond.yes hw48p) (by omega)
        obtain ⟨z51, ez51⟩ : ∃ y : Int32, y = w29 + (-1) := ⟨_, rfl⟩
        refine lv_iinc (v := z51) (lv' := [(1, .int z51), (0, .ref h0)]) hx hb dX12_isCompared_30 hl (k := 0) rfl (by rw [ez51]; rfl) (by decide) rfl (fun ls hl => ?_)
        have iz51 : z51.toInt = w29.toInt + (-1) := zi_add ez51 rfl rfl (by omega) (by omega)
        refine lv_goto (tgt := 7) hx hb dX12_isCompared_33 (by decide) ?_
        exact ih30 _ _ _ _ (by rw [hn31]; omega) ⟨z51, rfl, (by omega), rfl, rfl, lv_sub hl [0, 1] rfl⟩
set_option maxHeartbeats 4000000 in
set_option maxRecDepth 100000 in
theorem t_X12_partAt (l : Launch) (dC : Nat → ClassId) (dI : Nat → Nat → Nat) (sz : Nat) (κ : Nat → ClassId) (τ ν : Nat → Nat) (ρ : Nat → Nat → Nat) (L : List Nat) (f : Nat → va_E) (hG : tp_G τ ν ρ L) (hT : tp_T (mo_O κ) κ τ ν ρ f) (h0 : Nat) (ht_h0 : τ h0 = 13) : Met l yX12_partAt wqX12_partAt ({ frames := 3, cells := 0, slots := 0, locals := 800 }) (va_Pc [.ref h0] (pz_B dC dI (tp_K κ) (va_pl L f) sz)) (vp_Si (fun r => ((-1) ≤ r.toInt ∧ r.toInt ≤ 8) ∧ (r.toInt ≠ -1 → (tp_fld (f h0) 12) = 1 ∧ 1 ≤ r.toInt))) 0 0 (fun _ => False) := by
  refine Met.ofW (cc := cX12_partAt) (maxL := 1) (ret := some .int) (by decide) rfl ?_
  intro p e s m args below meth c s₁ B hml hv
  obtain ⟨rfl, hsz, hP, hK, hD0, hN⟩ := hv
  have hx := B.exec
  have hb := B.bytes
  have hr := B.returns
  have hts := fun (w : Cond) (h : w ∈ WALL) => atoms_spec (ws := wqX12_partAt) B.pre w (List.mem_cons_of_mem _ h)
  have hown : s.vm.findClass RX12 = some m.cls := findClass_of_methodNamed B.named
  have hlocks := B.notSynchronized
  subst hsz
  have hD := hD0
  have hS : va_S (fun _ => True) s.heap s.heap [] := va_S.rf
  have hl := lv_entry ([.ref h0]) (n := 1) (Nat.le_of_ble_eq_true rfl)
  rw [lg_entry_eq]
  generalize (lg_sl ([.ref h0]) ++ List.replicate (1 - (lg_sl ([.ref h0])).length) Slot.unset).toArray = ls at hl ⊢
  have hl : lv_has ls 1 [(0, .ref h0)] := hl
  obtain ⟨y1, y2, y3, y4, y5, y6, y7, y8, y9, y10, y11, y12, y13, y14, y15, y16, y17, y18, y19, y20, y21, y22, y23, y24, y25⟩ := tpg_13 hG ht_h0
  obtain ⟨o26_x0, o26_x1, o26_x7, o26_x9, o26_x10, o26_x11, o26_x12, o26_x13, o26_x14, o26_x15, o26_x16, o26_x17, o26_x18, o26_x19, o26_x20, o26_x22, o26_x25, o26_x28, o26_x29, o26_x32, o26_x33, o26_x34, o26_x35, o26_x36, o26_x37, o26_x38, o26_x47, o26_x48, hf_o26, ro26_0, ro26_1, ro26_2, ro26_3, ro26_4, ro26_5, ro26_6, ro26_7, ro26_8, ro26_9, ro26_10, ro26_11, ro26_12, ro26_13⟩ := tpo_13 hT ht_h0
  refine lv_aload_n hx hb dX12_partAt_0 rfl (lv_at hl 0 rfl) ?_
  refine lv_ldc2 (own := RX12) (v := 671187) hx hb hown (hts (.constantLong RX12 315 (671187)) wa_1072) dX12_partAt_1 ?_
  obtain ⟨q27, eq27⟩ := tp_pos (tp_in hG ht_h0 (by decide)) hf_o26
  refine pz_calli (va_runV (As := [.long 671187]) (rest := []) ⟨hx, hb, hml, hown, hts⟩ (t_X12_isWord l dC dI _ κ τ ν ρ L f hG hT h0 (671187) ht_h0) (cwV 1 hts gX12_partAt_X12_isWord rfl rfl rfl ⟨rfl, pd_X12_isWord⟩ ⟨Nat.le_of_ble_eq_true rfl, Nat.le_of_ble_eq_true rfl⟩) ⟨pz_blind, va_recv hK hP (ci := 12) (q0 := q27) rfl eq27, pz_pre hP hK hD hN⟩ rfl rfl hl.1 rfl (lv_room (Nat.le_of_ble_eq_true rfl)) dX12_partAt_4 ⟨Nat.le_of_ble_eq_true rfl, Nat.le_of_ble_eq_true rfl⟩) (fun r28 hw29 => ?_)
  obtain ⟨hw29r, hw29p⟩ := hw29
  have tk30 : (r28.toInt ≠ 0 → o26_x12.toInt = 1 ∧ o26_x13.toInt = (671187)) := by have q9 := hw29p; simp only [hf_o26, mo_i1, mo_l1] at q9; exact q9
  refine lv_if_ne (tgt := 40) hx hb dX12_partAt_7 (by decide) (fun c31 => ?_) (fun c31 => ?_)
  · have ic31 : r28.toInt ≠ 0 := zi_ne rfl rfl c31
    refine lv_aload_n hx hb dX12_partAt_40 rfl (lv_at hl 0 rfl) ?_
    refine lv_ldc2 (own := RX12) (v := 671187) hx hb hown (hts (.constantLong RX12 315 (671187)) wa_1072) dX12_partAt_41 ?_
    refine pz_calli (va_runV (As := [.long 671187]) (rest := []) ⟨hx, hb, hml, hown, hts⟩ (t_X12_isWord l dC dI _ κ τ ν ρ L f hG hT h0 (671187) ht_h0) (cwV 1 hts gX12_partAt_X12_isWord rfl rfl rfl ⟨rfl, pd_X12_isWord⟩ ⟨Nat.le_of_ble_eq_true rfl, Nat.le_of_ble_eq_true rfl⟩) ⟨pz_blind, va_recv hK hP (ci := 12) (q0 := q27) rfl eq27, pz_pre hP hK hD hN⟩ rfl rfl hl.1 rfl (lv_room (Nat.le_of_ble_eq_true rfl)) dX12_partAt_44 ⟨Nat.le_of_ble_eq_true rfl, Nat.le_of_ble_eq_true rfl⟩) (fun r32 hw33 => ?_)
    obtain ⟨hw33r, hw33p⟩ := hw33
    have tk34 : (r32.toInt ≠ 0 → o26_x12.toInt = 1 ∧ o26_x13.toInt = (671187)) := by have q9 := hw33p; simp only [hf_o26, mo_i1, mo_l1] at q9; exact q9
    refine lv_if_eq (tgt := 54) hx hb dX12_partAt_47 (by decide) (fun c35 => ?_) (fun c35 => ?_)
    · have ic35 : r32.toInt = 0 := zi_eq rfl rfl c35
      refine lv_aload_n hx hb dX12_partAt_54 rfl (lv_at hl 0 rfl) ?_
      refine lv_ldc2 (own := RX12) (v := 76951716) hx hb hown (hts (.constantLong RX12 321 (76951716)) wa_1073) dX12_partAt_55 ?_
      refine pz_calli (va_runV (As := [.long 76951716]) (rest := []) ⟨hx, hb, hml, hown, hts⟩ (t_X12_isWord l dC dI _ κ τ ν ρ L f hG hT h0 (76951716) ht_h0) (cwV 1 hts gX12_partAt_X12_isWord rfl rfl rfl ⟨rfl, pd_X12_isWord⟩ ⟨Nat.le_of_ble_eq_true rfl, Nat.le_of_ble_eq_true rfl⟩) ⟨pz_blind, va_recv hK hP (ci := 12) (q0 := q27) rfl eq27, pz_pre hP hK hD hN⟩ rfl rfl hl.1 rfl (lv_room (Nat.le_of_ble_eq_true rfl)) dX12_partAt_58 ⟨Nat.le_of_ble_eq_true rfl, Nat.le_of_ble_eq_true rfl⟩) (fun r36 hw37 => ?_)
      obtain ⟨hw37r, hw37p⟩ := hw37
      have tk38 : (r36.toInt ≠ 0 → o26_x12.toInt = 1 ∧ o26_x13.toInt = (76951716)) := by have q9 := hw37p; simp only [hf_o26, mo_i1, mo_l1] at q9; exact q9
      refine lv_if_eq (tgt := 68) hx hb dX12_partAt_61 (by decide) (fun c39 => ?_) (fun c39 => ?_)
      · have ic39 : r36.toInt = 0 := zi_eq rfl rfl c39
        refine lv_aload_n hx hb dX12_partAt_68 rfl (lv_at hl 0 rfl) ?_
        refine lv_ldc2 (own := RX12) (v := 267316) hx hb hown (hts (.constantLong RX12 323 (267316)) wa_1074) dX12_partAt_69 ?_
        refine pz_calli (va_runV (As := [.long 267316]) (rest := []) ⟨hx, hb, hml, hown, hts⟩ (t_X12_isWord l dC dI _ κ τ ν ρ L f hG hT h0 (267316) ht_h0) (cwV 1 hts gX12_partAt_X12_isWord rfl rfl rfl ⟨rfl, pd_X12_isWord⟩ ⟨Nat.le_of_ble_eq_true rfl, Nat.le_of_ble_eq_true rfl⟩) ⟨pz_blind, va_recv hK hP (ci := 12) (q0 := q27) rfl eq27, pz_pre hP hK hD hN⟩ rfl rfl hl.1 rfl (lv_room (Nat.le_of_ble_eq_true rfl)) dX12_partAt_72 ⟨Nat.le_of_ble_eq_true rfl, Nat.le_of_ble_eq_true rfl⟩) (fun r40 hw41 => ?_)
        obtain ⟨hw41r, hw41p⟩ := hw41
        have tk42 : (r40.toInt ≠ 0 → o26_x12.toInt = 1 ∧ o26_x13.toInt = (267316)) := by have q9 := hw41p; simp only [hf_o26, mo_i1, mo_l1] at q9; exact q9
        refine lv_if_eq (tgt := 82) hx hb dX12_partAt_75 (by decide) (fun c43 => ?_) (fun c43 => ?_)
        · have ic43 : r40.toInt = 0 := zi_eq rfl rfl c43
          refine lv_iconst (v := 4) hx hb dX12_partAt_82 (by decide) ?_
          exact W.iret (v := 4) hx hb hr (fun t ht hW => ⟨4, rfl, ⟨(by first | decide | omega), (by simp only [hf_o26, mo_i1, mo_l1]; exact (show ((4 : Int32).toInt ≠ -1 → o26_x12.toInt = 1 ∧ 1 ≤ (4 : Int32).toInt) from by have q8 : (4 : Int32).toInt = 4 := rfl; first | omega | decide))⟩, ht⟩) (fun _ h => by cases h) dX12_partAt_83
        · have ic43 : r40.toInt ≠ 0 := zi_eqf rfl rfl c43
          refine lv_iconst (v := 3) hx hb dX12_partAt_78 (by decide) ?_
          refine lv_goto (tgt := 83) hx hb dX12_partAt_79 (by decide) ?_
          exact W.iret (v := 3) hx hb hr (fun t ht hW => ⟨3, rfl, ⟨(by first | decide | omega), (by simp only [hf_o26, mo_i1, mo_l1]; exact (show ((3 : Int32).toInt ≠ -1 → o26_x12.toInt = 1 ∧ 1 ≤ (3 : Int32).toInt) from by have q8 : (3 : Int32).toInt = 3 := rfl; first | omega | decide))⟩, ht⟩) (fun _ h => by cases h) dX12_partAt_83
      · have ic39 : r36.toInt ≠ 0 := zi_eqf rfl rfl c39
        refine lv_iconst (v := 2) hx hb dX12_partAt_64 (by decide) ?_
        refine lv_goto (tgt := 83) hx hb dX12_partAt_65 (by decide) ?_
        exact W.iret (v := 2) hx hb hr (fun t ht hW => ⟨2, rfl, ⟨(by first | decide | omega), (by simp only [hf_o26, mo_i1, mo_l1]; exact (show ((2 : Int32).toInt ≠ -1 → o26_x12.toInt = 1 ∧ 1 ≤ (2 : Int32).toInt) from by have q8 : (2 : Int32).toInt = 2 := rfl; first | omega | decide))⟩, ht⟩) (fun _ h => by cases h) dX12_partAt_83
    · have ic35 : r32.toInt ≠ 0 := zi_eqf rfl rfl c35
      refine lv_iconst (v := 1) hx hb dX12_partAt_50 (by decide) ?_
      refine lv_goto (tgt := 83) hx hb dX12_partAt_51 (by decide) ?_
      exact W.iret (v := 1) hx hb hr (fun t ht hW => ⟨1, rfl, ⟨(by first | decide | omega), (by simp only [hf_o26, mo_i1, mo_l1]; exact (show ((1 : Int32).toInt ≠ -1 → o26_x12.toInt = 1 ∧ 1 ≤ (1 : Int32).toInt) from by have q8 : (1 : Int32).toInt = 1 := rfl; first | omega | decide))⟩, ht⟩) (fun _ h => by cases h) dX12_partAt_83
  · have ic31 : r28.toInt = 0 := zi_nef rfl rfl c31
    refine lv_aload_n hx hb dX12_partAt_10 rfl (lv_at hl 0 rfl) ?_
    refine lv_ldc2 (own := RX12) (v := 76951716) hx hb hown (hts (.constantLong RX12 321 (76951716)) wa_1073) dX12_partAt_11 ?_
    refine pz_calli (va_runV (As := [.long 76951716]) (rest := []) ⟨hx, hb, hml, hown, hts⟩ (t_X12_isWord l dC dI _ κ τ ν ρ L f hG hT h0 (76951716) ht_h0) (cwV 1 hts gX12_partAt_X12_isWord rfl rfl rfl ⟨rfl, pd_X12_isWord⟩ ⟨Nat.le_of_ble_eq_true rfl, Nat.le_of_ble_eq_true rfl⟩) ⟨pz_blind, va_recv hK hP (ci := 12) (q0 := q27) rfl eq27, pz_pre hP hK hD hN⟩ rfl rfl hl.1 rfl (lv_room (Nat.le_of_ble_eq_true rfl)) dX12_partAt_14 ⟨Nat.le_of_ble_eq_true rfl, Nat.le_of_ble_eq_true rfl⟩) (fun r44 hw45 => ?_)
    obtain ⟨hw45r, hw45p⟩ := hw45
    have tk46 : (r44.toInt ≠ 0 → o26_x12.toInt = 1 ∧ o26_x13.toInt = (76951716)) := by have q9 := hw45p; simp only [hf_o26, mo_i1, mo_l1] at q9; exact q9
    refine lv_if_ne (tgt := 40) hx hb dX12_partAt_17 (by decide) (fun c47 => ?_) (fun c47 => ?_)
    · have ic47 : r44.toInt ≠ 0 := zi_ne rfl rfl c47
      refine lv_aload_n hx hb dX12_partAt_40 rfl (lv_at hl 0 rfl) ?_
      refine lv_ldc2 (own := RX12) (v := 671187) hx hb hown (hts (.constantLong RX12 315 (671187)) wa_1072) dX12_partAt_41 ?_
      refine pz_calli (va_runV (As := [.long 671187]) (rest := []) ⟨hx, hb, hml, hown, hts⟩ (t_X12_isWord l dC dI _ κ τ ν ρ L f hG hT h0 (671187) ht_h0) (cwV 1 hts gX12_partAt_X12_isWord rfl rfl rfl ⟨rfl, pd_X12_isWord⟩ ⟨Nat.le_of_ble_eq_true rfl, Nat.le_of_ble_eq_true rfl⟩) ⟨pz_blind, va_recv hK hP (ci := 12) (q0 := q27) rfl eq27, pz_pre hP hK hD hN⟩ rfl rfl hl.1 rfl (lv_room (Nat.le_of_ble_eq_true rfl)) dX12_partAt_44 ⟨Nat.le_of_ble_eq_true rfl, Nat.le_of_ble_eq_true rfl⟩) (fun r48 hw49 => ?_)
      obtain ⟨hw49r, hw49p⟩ := hw49
      have tk50 : (r48.toInt ≠ 0 → o26_x12.toInt = 1 ∧ o26_x13.toInt = (671187)) := by have q9 := hw49p; simp only [hf_o26, mo_i1, mo_l1] at q9; exact q9
      refine lv_if_eq (tgt := 54) hx hb dX12_partAt_47 (by decide) (fun c51 => ?_) (fun c51 => ?_)
      · have ic51 : r48.toInt = 0 := zi_eq rfl rfl c51
        refine lv_aload_n hx hb dX12_partAt_54 rfl (lv_at hl 0 rfl) ?_
        refine lv_ldc2 (own := RX12) (v := 76951716) hx hb hown (hts (.constantLong RX12 321 (76951716)) wa_1073) dX12_partAt_55 ?_
        refine pz_calli (va_runV (As := [.long 76951716]) (rest := []) ⟨hx, hb, hml, hown, hts⟩ (t_X12_isWord l dC dI _ κ τ ν ρ L f hG hT h0 (76951716) ht_h0) (cwV 1 hts gX12_partAt_X12_isWord rfl rfl rfl ⟨rfl, pd_X12_isWord⟩ ⟨Nat.le_of_ble_eq_true rfl, Nat.le_of_ble_eq_true rfl⟩) ⟨pz_blind, va_recv hK hP (ci := 12) (q0 := q27) rfl eq27, pz_pre hP hK hD hN⟩ rfl rfl hl.1 rfl (lv_room (Nat.le_of_ble_eq_true rfl)) dX12_partAt_58 ⟨Nat.le_of_ble_eq_true rfl, Nat.le_of_ble_eq_true rfl⟩) (fun r52 hw53 => ?_)
        obtain ⟨hw53r, hw53p⟩ := hw53
        have tk54 : (r52.toInt ≠ 0 → o26_x12.toInt = 1 ∧ o26_x13.toInt = (76951716)) := by have q9 := hw53p; simp only [hf_o26, mo_i1, mo_l1] at q9; exact q9
        refine lv_if_eq (tgt := 68) hx hb dX12_partAt_61 (by decide) (fun c55 => ?_) (fun c55 => ?_)
        · have ic55 : r52.toInt = 0 := zi_eq rfl rfl c55
          refine lv_aload_n hx hb dX12_partAt_68 rfl (lv_at hl 0 rfl) ?_
          refine lv_ldc2 (own := RX12) (v := 267316) hx hb hown (hts (.constantLong RX12 323 (267316)) wa_1074) dX12_partAt_69 ?_
          refine pz_calli (va_runV (As := [.long 267316]) (rest := []) ⟨hx, hb, hml, hown, hts⟩ (t_X12_isWord l dC dI _ κ τ ν ρ L f hG hT h0 (267316) ht_h0) (cwV 1 hts gX12_partAt_X12_isWord rfl rfl rfl ⟨rfl, pd_X12_isWord⟩ ⟨Nat.le_of_ble_eq_true rfl, Nat.le_of_ble_eq_true rfl⟩) ⟨pz_blind, va_recv hK hP (ci := 12) (q0 := q27) rfl eq27, pz_pre hP hK hD hN⟩ rfl rfl hl.1 rfl (lv_room (Nat.le_of_ble_eq_true rfl)) dX12_partAt_72 ⟨Nat.le_of_ble_eq_true rfl, Nat.le_of_ble_eq_true rfl⟩) (fun r56 hw57 => ?_)
          obtain ⟨hw57r, hw57p⟩ := hw57
          have tk58 : (r56.toInt ≠ 0 → o26_x12.toInt = 1 ∧ o26_x13.toInt = (267316)) := by have q9 := hw57p; simp only [hf_o26, mo_i1, mo_l1] at q9; exact q9
          refine lv_if_eq (tgt := 82) hx hb dX12_partAt_75 (by decide) (fun c59 => ?_) (fun c59 => ?_)
          · have ic59 : r56.toInt = 0 := zi_eq rfl rfl c59
            refine lv_iconst (v := 4) hx hb dX12_partAt_82 (by decide) ?_
            exact W.iret (v := 4) hx hb hr (fun t ht hW => ⟨4, rfl, ⟨(by first | decide | omega), (by simp only [hf_o26, mo_i1, mo_l1]; exact (show ((4 : Int32).toInt ≠ -1 → o26_x12.toInt = 1 ∧ 1 ≤ (4 : Int32).toInt) from by have q8 : (4 : Int32).toInt = 4 := rfl; first | omega | decide))⟩, ht⟩) (fun _ h => by cases h) dX12_partAt_83
          · have ic59 : r56.toInt ≠ 0 := zi_eqf rfl rfl c59
            refine lv_iconst (v := 3) hx hb dX12_partAt_78 (by decide) ?_
            refine lv_goto (tgt := 83) hx hb dX12_partAt_79 (by decide) ?_
            exact W.iret (v := 3) hx hb hr (fun t ht hW => ⟨3, rfl, ⟨(by first | decide | omega), (by simp only [hf_o26, mo_i1, mo_l1]; exact (show ((3 : Int32).toInt ≠ -1 → o26_x12.toInt = 1 ∧ 1 ≤ (3 : Int32).toInt) from by have q8 : (3 : Int32).toInt = 3 := rfl; first | omega | decide))⟩, ht⟩) (fun _ h => by cases h) dX12_partAt_83
        · have ic55 : r52.toInt ≠ 0 := zi_eqf rfl rfl c55
          refine lv_iconst (v := 2) hx hb dX12_partAt_64 (by decide) ?_
          refine lv_goto (tgt := 83) hx hb dX12_partAt_65 (by decide) ?_
          exact W.iret (v := 2) hx hb hr (fun t ht hW => ⟨2, rfl, ⟨(by first | decide | omega), (by simp only [hf_o26, mo_i1, mo_l1]; exact (show ((2 : Int32).toInt ≠ -1 → o26_x12.toInt = 1 ∧ 1 ≤ (2 : Int32).toInt) from by have q8 : (2 : Int32).toInt = 2 := rfl; first | omega | decide))⟩, ht⟩) (fun _ h => by cases h) dX12_partAt_83
      · have ic51 : r48.toInt ≠ 0 := zi_eqf rfl rfl c51
        refine lv_iconst (v := 1) hx hb dX12_partAt_50 (by decide) ?_
        refine lv_goto (tgt := 83) hx hb dX12_partAt_51 (by decide) ?_
        exact W.iret (v := 1) hx hb hr (fun t ht hW => ⟨1, rfl, ⟨(by first | decide | omega), (by simp only [hf_o26, mo_i1, mo_l1]; exact (show ((1 : Int32).toInt ≠ -1 → o26_x12.toInt = 1 ∧ 1 ≤ (1 : Int32).toInt) from by have q8 : (1 : Int32).toInt = 1 := rfl; first | omega | decide))⟩, ht⟩) (fun _ h => by cases h) dX12_partAt_83
    · have ic47 : r44.toInt = 0 := zi_nef rfl rfl c47
      refine lv_aload_n hx hb dX12_partAt_20 rfl (lv_at hl 0 rfl) ?_
      refine lv_ldc2 (own := RX12) (v := 267316) hx hb hown (hts (.constantLong RX12 323 (267316)) wa_1074) dX12_partAt_21 ?_
      refine pz_calli (va_runV (As := [.long 267316]) (rest := []) ⟨hx, hb, hml, hown, hts⟩ (t_X12_isWord l dC dI _ κ τ ν ρ L f hG hT h0 (267316) ht_h0) (cwV 1 hts gX12_partAt_X12_isWord rfl rfl rfl ⟨rfl, pd_X12_isWord⟩ ⟨Nat.le_of_ble_eq_true rfl, Nat.le_of_ble_eq_true rfl⟩) ⟨pz_blind, va_recv hK hP (ci := 12) (q0 := q27) rfl eq27, pz_pre hP hK hD hN⟩ rfl rfl hl.1 rfl (lv_room (Nat.le_of_ble_eq_true rfl)) dX12_partAt_24 ⟨Nat.le_of_ble_eq_true rfl, Nat.le_of_ble_eq_true rfl⟩) (fun r60 hw61 => ?_)
      obtain ⟨hw61r, hw61p⟩ := hw61
      have tk62 : (r60.toInt ≠ 0 → o26_x12.toInt = 1 ∧ o26_x13.toInt = (267316)) := by have q9 := hw61p; simp only [hf_o26, mo_i1, mo_l1] at q9; exact q9
      refine lv_if_ne (tgt := 40) hx hb dX12_partAt_27 (by decide) (fun c63 => ?_) (fun c63 => ?_)
      · have ic63 : r60.toInt ≠ 0 := zi_ne rfl rfl c63
        refine lv_aload_n hx hb dX12_partAt_40 rfl (lv_at hl 0 rfl) ?_
        refine lv_ldc2 (own := RX12) (v := 671187) hx hb hown (hts (.constantLong RX12 315 (671187)) wa_1072) dX12_partAt_41 ?_
        refine pz_calli (va_runV (As := [.long 671187]) (rest := []) ⟨hx, hb, hml, hown, hts⟩ (t_X12_isWord l dC dI _ κ τ ν ρ L f hG hT h0 (671187) ht_h0) (cwV 1 hts gX12_partAt_X12_isWord rfl rfl rfl ⟨rfl, pd_X12_isWord⟩ ⟨Nat.le_of_ble_eq_true rfl, Nat.le_of_ble_eq_true rfl⟩) ⟨pz_blind, va_recv hK hP (ci := 12) (q0 := q27) rfl eq27, pz_pre hP hK hD hN⟩ rfl rfl hl.1 rfl (lv_room (Nat.le_of_ble_eq_true rfl)) dX12_partAt_44 ⟨Nat.le_of_ble_eq_true rfl, Nat.le_of_ble_eq_true rfl⟩) (fun r64 hw65 => ?_)
        obtain ⟨hw65r, hw65p⟩ := hw65
        have tk66 : (r64.toInt ≠ 0 → o26_x12.toInt = 1 ∧ o26_x13.toInt = (671187)) := by have q9 := hw65p; simp only [hf_o26, mo_i1, mo_l1] at q9; exact q9
        refine lv_if_eq (tgt := 54) hx hb dX12_partAt_47 (by decide) (fun c67 => ?_) (fun c67 => ?_)
        · have ic67 : r64.toInt = 0 := zi_eq rfl rfl c67
          refine lv_aload_n hx hb dX12_partAt_54 rfl (lv_at hl 0 rfl) ?_
          refine lv_ldc2 (own := RX12) (v := 76951716) hx hb hown (hts (.constantLong RX12 321 (76951716)) wa_1073) dX12_partAt_55 ?_
          refine pz_calli (va_runV (As := [.long 76951716]) (rest := []) ⟨hx, hb, hml, hown, hts⟩ (t_X12_isWord l dC dI _ κ τ ν ρ L f hG hT h0 (76951716) ht_h0) (cwV 1 hts gX12_partAt_X12_isWord rfl rfl rfl ⟨rfl, pd_X12_isWord⟩ ⟨Nat.le_of_ble_eq_true rfl, Nat.le_of_ble_eq_true rfl⟩) ⟨pz_blind, va_recv hK hP (ci := 12) (q0 := q27) rfl eq27, pz_pre hP hK hD hN⟩ rfl rfl hl.1 rfl (lv_room (Nat.le_of_ble_eq_true rfl)) dX12_partAt_58 ⟨Nat.le_of_ble_eq_true rfl, Nat.le_of_ble_eq_true rfl⟩) (fun r68 hw69 => ?_)
          obtain ⟨hw69r, hw69p⟩ := hw69
          have tk70 : (r68.toInt ≠ 0 → o26_x12.toInt = 1 ∧ o26_x13.toInt = (76951716)) := by have q9 := hw69p; simp only [hf_o26, mo_i1, mo_l1] at q9; exact q9
          refine lv_if_eq (tgt := 68) hx hb dX12_partAt_61 (by decide) (fun c71 => ?_) (fun c71 => ?_)
          · have ic71 : r68.toInt = 0 := zi_eq rfl rfl c71
            refine lv_aload_n hx hb dX12_partAt_68 rfl (lv_at hl 0 rfl) ?_
            refine lv_ldc2 (own := RX12) (v := 267316) hx hb hown (hts (.constantLong RX12 323 (267316)) wa_1074) dX12_partAt_69 ?_
            refine pz_calli (va_runV (As := [.long 267316]) (rest := []) ⟨hx, hb, hml, hown, hts⟩ (t_X12_isWord l dC dI _ κ τ ν ρ L f hG hT h0 (267316) ht_h0) (cwV 1 hts gX12_partAt_X12_isWord rfl rfl rfl ⟨rfl, pd_X12_isWord⟩ ⟨Nat.le_of_ble_eq_true rfl, Nat.le_of_ble_eq_true rfl⟩) ⟨pz_blind, va_recv hK hP (ci := 12) (q0 := q27) rfl eq27, pz_pre hP hK hD hN⟩ rfl rfl hl.1 rfl (lv_room (Nat.le_of_ble_eq_true rfl)) dX12_partAt_72 ⟨Nat.le_of_ble_eq_true rfl, Nat.le_of_ble_eq_true rfl⟩) (fun r72 hw73 => ?_)
            obtain ⟨hw73r, hw73p⟩ := hw73
            have tk74 : (r72.toInt ≠ 0 → o26_x12.toInt = 1 ∧ o26_x13.toInt = (267316)) := by have q9 := hw73p; simp only [hf_o26, mo_i1, mo_l1] at q9; exact q9
            refine lv_if_eq (tgt := 82) hx hb dX12_partAt_75 (by decide) (fun c75 => ?_) (fun c75 => ?_)
            · have ic75 : r72.toInt = 0 := zi_eq rfl rfl c75
              refine lv_iconst (v := 4) hx hb dX12_partAt_82 (by decide) ?_
              exact W.iret (v := 4) hx hb hr (fun t ht hW => ⟨4, rfl, ⟨(by first | decide | omega), (by simp only [hf_o26, mo_i1, mo_l1]; exact (show ((4 : Int32).toInt ≠ -1 → o26_x12.toInt = 1 ∧ 1 ≤ (4 : Int32).toInt) from by have q8 : (4 : Int32).toInt = 4 := rfl; first | omega | decide))⟩, ht⟩) (fun _ h => by cases h) dX12_partAt_83
            · have ic75 : r72.toInt ≠ 0 := zi_eqf rfl rfl c75
              refine lv_iconst (v := 3) hx hb dX12_partAt_78 (by decide) ?_
              refine lv_goto (tgt := 83) hx hb dX12_partAt_79 (by decide) ?_
              exact W.iret (v := 3) hx hb hr (fun t ht hW => ⟨3, rfl, ⟨(by first | decide | omega), (by simp only [hf_o26, mo_i1, mo_l1]; exact (show ((3 : Int32).toInt ≠ -1 → o26_x12.toInt = 1 ∧ 1 ≤ (3 : Int32).toInt) from by have q8 : (3 : Int32).toInt = 3 := rfl; first | omega | decide))⟩, ht⟩) (fun _ h => by cases h) dX12_partAt_83
          · have ic71 : r68.toInt ≠ 0 := zi_eqf rfl rfl c71
            refine lv_iconst (v := 2) hx hb dX12_partAt_64 (by decide) ?_
            refine lv_goto (tgt := 83) hx hb dX12_partAt_65 (by decide) ?_
            exact W.iret (v := 2) hx hb hr (fun t ht hW => ⟨2, rfl, ⟨(by first | decide | omega), (by simp only [hf_o26, mo_i1, mo_l1]; exact (show ((2 : Int32).toInt ≠ -1 → o26_x12.toInt = 1 ∧ 1 ≤ (2 : Int32).toInt) from by have q8 : (2 : Int32).toInt = 2 := rfl; first | omega | decide))⟩, ht⟩) (fun _ h => by cases h) dX12_partAt_83
        · have ic67 : r64.toInt ≠ 0 := zi_eqf rfl rfl c67
          refine lv_iconst (v := 1) hx hb dX12_partAt_50 (by decide) ?_
          refine lv_goto (tgt := 83) hx hb dX12_partAt_51 (by decide) ?_
          exact W.iret (v := 1) hx hb hr (fun t ht hW => ⟨1, rfl, ⟨(by first | decide | omega), (by simp only [hf_o26, mo_i1, mo_l1]; exact (show ((1 : Int32).toInt ≠ -1 → o26_x12.toInt = 1 ∧ 1 ≤ (1 : Int32).toInt) from by have q8 : (1 : Int32).toInt = 1 := rfl; first | omega | decide))⟩, ht⟩) (fun _ h => by cases h) dX12_partAt_83
      · have ic63 : r60.toInt = 0 := zi_nef rfl rfl c63
        refine lv_aload_n hx hb dX12_partAt_30 rfl (lv_at hl 0 rfl) ?_
        refine lv_ldc2 (own := RX12) (v := 394885) hx hb hown (hts (.constantLong RX12 325 (394885)) wa_1075) dX12_partAt_31 ?_
        refine pz_calli (va_runV (As := [.long 394885]) (rest := []) ⟨hx, hb, hml, hown, hts⟩ (t_X12_isWord l dC dI _ κ τ ν ρ L f hG hT h0 (394885) ht_h0) (cwV 1 hts gX12_partAt_X12_isWord rfl rfl rfl ⟨rfl, pd_X12_isWord⟩ ⟨Nat.le_of_ble_eq_true rfl, Nat.le_of_ble_eq_true rfl⟩) ⟨pz_blind, va_recv hK hP (ci := 12) (q0 := q27) rfl eq27, pz_pre hP hK hD hN⟩ rfl rfl hl.1 rfl (lv_room (Nat.le_of_ble_eq_true rfl)) dX12_partAt_34 ⟨Nat.le_of_ble_eq_true rfl, Nat.le_of_ble_eq_true rfl⟩) (fun r76 hw77 => ?_)
        obtain ⟨hw77r, hw77p⟩ := hw77
        have tk78 : (r76.toInt ≠ 0 → o26_x12.toInt = 1 ∧ o26_x13.toInt = (394885)) := by have q9 := hw77p; simp only [hf_o26, mo_i1, mo_l1] at q9; exact q9
        refine lv_if_eq (tgt := 84) hx hb dX12_partAt_37 (by decide) (fun c79 => ?_) (fun c79 => ?_)
        · have ic79 : r76.toInt = 0 := zi_eq rfl rfl c79
          refine lv_aload_n hx hb dX12_partAt_84 rfl (lv_at hl 0 rfl) ?_
          refine lv_ldc2 (own := RX12) (v := 5294489) hx hb hown (hts (.constantLong RX12 327 (5294489)) wa_1076) dX12_partAt_85 ?_
          refine pz_calli (va_runV (As := [.long 5294489]) (rest := []) ⟨hx, hb, hml, hown, hts⟩ (t_X12_isWord l dC dI _ κ τ ν ρ L f hG hT h0 (5294489) ht_h0) (cwV 1 hts gX12_partAt_X12_isWord rfl rfl rfl ⟨rfl, pd_X12_isWord⟩ ⟨Nat.le_of_ble_eq_true rfl, Nat.le_of_ble_eq_true rfl⟩) ⟨pz_blind, va_recv hK hP (ci := 12) (q0 := q27) rfl eq27, pz_pre hP hK hD hN⟩ rfl rfl hl.1 rfl (lv_room (Nat.le_of_ble_eq_true rfl)) dX12_partAt_88 ⟨Nat.le_of_ble_eq_true rfl, Nat.le_of_ble_eq_true rfl⟩) (fun r80 hw81 => ?_)
          obtain ⟨hw81r, hw81p⟩ := hw81
          have tk82 : (r80.toInt ≠ 0 → o26_x12.toInt = 1 ∧ o26_x13.toInt = (5294489)) := by have q9 := hw81p; simp only [hf_o26, mo_i1, mo_l1] at q9; exact q9
          refine lv_if_eq (tgt := 98) hx hb dX12_partAt_91 (by decide) (fun c83 => ?_) (fun c83 => ?_)
          · have ic83 : r80.toInt = 0 := zi_eq rfl rfl c83
            refine lv_aload_n hx hb dX12_partAt_98 rfl (lv_at hl 0 rfl) ?_
            refine lv_ldc2 (own := RX12) (v := 17376357) hx hb hown (hts (.constantLong RX12 329 (17376357)) wa_1077) dX12_partAt_99 ?_
            refine pz_calli (va_runV (As := [.long 17376357]) (rest := []) ⟨hx, hb, hml, hown, hts⟩ (t_X12_isWord l dC dI _ κ τ ν ρ L f hG hT h0 (17376357) ht_h0) (cwV 1 hts gX12_partAt_X12_isWord rfl rfl rfl ⟨rfl, pd_X12_isWord⟩ ⟨Nat.le_of_ble_eq_true rfl, Nat.le_of_ble_eq_true rfl⟩) ⟨pz_blind, va_recv hK hP (ci := 12) (q0 := q27) rfl eq27, pz_pre hP hK hD hN⟩ rfl rfl hl.1 rfl (lv_room (Nat.le_of_ble_eq_true rfl)) dX12_partAt_102 ⟨Nat.le_of_ble_eq_true rfl, Nat.le_of_ble_eq_true rfl⟩) (fun r84 hw85 => ?_)
            obtain ⟨hw85r, hw85p⟩ := hw85
            have tk86 : (r84.toInt ≠ 0 → o26_x12.toInt = 1 ∧ o26_x13.toInt = (17376357)) := by have q9 := hw85p; simp only [hf_o26, mo_i1, mo_l1] at q9; exact q9
            refine lv_if_eq (tgt := 113) hx hb dX12_partAt_105 (by decide) (fun c87 => ?_) (fun c87 => ?_)
            · have ic87 : r84.toInt = 0 := zi_eq rfl rfl c87
              refine lv_aload_n hx hb dX12_partAt_113 rfl (lv_at hl 0 rfl) ?_
              refine lv_ldc2 (own := RX12) (v := 8902227) hx hb hown (hts (.constantLong RX12 331 (8902227)) wa_1078) dX12_partAt_114 ?_
              refine pz_calli (va_runV (As := [.long 8902227]) (rest := []) ⟨hx, hb, hml, hown, hts⟩ (t_X12_isWord l dC dI _ κ τ ν ρ L f hG hT h0 (8902227) ht_h0) (cwV 1 hts gX12_partAt_X12_isWord rfl rfl rfl ⟨rfl, pd_X12_isWord⟩ ⟨Nat.le_of_ble_eq_true rfl, Nat.le_of_ble_eq_true rfl⟩) ⟨pz_blind, va_recv hK hP (ci := 12) (q0 := q27) rfl eq27, pz_pre hP hK hD hN⟩ rfl rfl hl.1 rfl (lv_room (Nat.le_of_ble_eq_true rfl)) dX12_partAt_117 ⟨Nat.le_of_ble_eq_true rfl, Nat.le_of_ble_eq_true rfl⟩) (fun r88 hw89 => ?_)
              obtain ⟨hw89r, hw89p⟩ := hw89
              have tk90 : (r88.toInt ≠ 0 → o26_x12.toInt = 1 ∧ o26_x13.toInt = (8902227)) := by have q9 := hw89p; simp only [hf_o26, mo_i1, mo_l1] at q9; exact q9
              refine lv_if_eq (tgt := 128) hx hb dX12_partAt_120 (by decide) (fun c91 => ?_) (fun c91 => ?_)
              · have ic91 : r88.toInt = 0 := zi_eq rfl rfl c91
                refine lv_aload_n hx hb dX12_partAt_128 rfl (lv_at hl 0 rfl) ?_
                refine lv_ldc2 (own := RX12) (v := 5930468251205) hx hb hown (hts (.constantLong RX12 333 (5930468251205)) wa_1079) dX12_partAt_129 ?_
                refine pz_calli (va_runV (As := [.long 5930468251205]) (rest := []) ⟨hx, hb, hml, hown, hts⟩ (t_X12_isWord l dC dI _ κ τ ν ρ L f hG hT h0 (5930468251205) ht_h0) (cwV 1 hts gX12_partAt_X12_isWord rfl rfl rfl ⟨rfl, pd_X12_isWord⟩ ⟨Nat.le_of_ble_eq_true rfl, Nat.le_of_ble_eq_true rfl⟩) ⟨pz_blind, va_recv hK hP (ci := 12) (q0 := q27) rfl eq27, pz_pre hP hK hD hN⟩ rfl rfl hl.1 rfl (lv_room (Nat.le_of_ble_eq_true rfl)) dX12_partAt_132 ⟨Nat.le_of_ble_eq_true rfl, Nat.le_of_ble_eq_true rfl⟩) (fun r92 hw93 => ?_)
                obtain ⟨hw93r, hw93p⟩ := hw93
                have tk94 : (r92.toInt ≠ 0 → o26_x12.toInt = 1 ∧ o26_x13.toInt = (5930468251205)) := by have q9 := hw93p; simp only [hf_o26, mo_i1, mo_l1] at q9; exact q9
                refine lv_if_eq (tgt := 143) hx hb dX12_partAt_135 (by decide) (fun c95 => ?_) (fun c95 => ?_)
                · have ic95 : r92.toInt = 0 := zi_eq rfl rfl c95
                  refine lv_iconst (v := (-1)) hx hb dX12_partAt_143 (by decide) ?_
                  exact W.iret (v := (-1)) hx hb hr (fun t ht hW => ⟨(-1), rfl, ⟨(by first | decide | omega), (by simp only [hf_o26, mo_i1, mo_l1]; exact (show (((-1) : Int32).toInt ≠ -1 → o26_x12.toInt = 1 ∧ 1 ≤ ((-1) : Int32).toInt) from by have q8 : ((-1) : Int32).toInt = (-1) := rfl; first | omega | decide))⟩, ht⟩) (fun _ h => by cases h) dX12_partAt_144
                · have ic95 : r92.toInt ≠ 0 := zi_eqf rfl rfl c95
                  refine lv_bipush (v := 8) hx hb dX12_partAt_138 (by decide) ?_
                  refine lv_goto (tgt := 144) hx hb dX12_partAt_140 (by decide) ?_
                  exact W.iret (v := 8) hx hb hr (fun t ht hW => ⟨8, rfl, ⟨(by first | decide | omega), (by simp only [hf_o26, mo_i1, mo_l1]; exact (show ((8 : Int32).toInt ≠ -1 → o26_x12.toInt = 1 ∧ 1 ≤ (8 : Int32).toInt) from by have q8 : (8 : Int32).toInt = 8 := rfl; first | omega | decide))⟩, ht⟩) (fun _ h => by cases h) dX12_partAt_144
              · have ic91 : r88.toInt ≠ 0 := zi_eqf rfl rfl c91
                refine lv_bipush (v := 7) hx hb dX12_partAt_123 (by decide) ?_
                refine lv_goto (tgt := 144) hx hb dX12_partAt_125 (by decide) ?_
                exact W.iret (v := 7) hx hb hr (fun t ht hW => ⟨7, rfl, ⟨(by first | decide | omega), (by simp only [hf_o26, mo_i1, mo_l1]; exact (show ((7 : Int32).toInt ≠ -1 → o26_x12.toInt = 1 ∧ 1 ≤ (7 : Int32).toInt) from by have q8 : (7 : Int32).toInt = 7 := rfl; first | omega | decide))⟩, ht⟩) (fun _ h => by cases h) dX12_partAt_144
            · have ic87 : r84.toInt ≠ 0 := zi_eqf rfl rfl c87
              refine lv_bipush (v := 6) hx hb dX12_partAt_108 (by decide) ?_
              refine lv_goto (tgt := 144) hx hb dX12_partAt_110 (by decide) ?_
              exact W.iret (v := 6) hx hb hr (fun t ht hW => ⟨6, rfl, ⟨(by first | decide | omega), (by simp only [hf_o26, mo_i1, mo_l1]; exact (show ((6 : Int32).toInt ≠ -1 → o26_x12.toInt = 1 ∧ 1 ≤ (6 : Int32).toInt) from by have q8 : (6 : Int32).toInt = 6 := rfl; first | omega | decide))⟩, ht⟩) (fun _ h => by cases h) dX12_partAt_144
          · have ic83 : r80.toInt ≠ 0 := zi_eqf rfl rfl c83
            refine lv_iconst (v := 5) hx hb dX12_partAt_94 (by decide) ?_
            refine lv_goto (tgt := 144) hx hb dX12_partAt_95 (by decide) ?_
            exact W.iret (v := 5) hx hb hr (fun t ht hW => ⟨5, rfl, ⟨(by first | decide | omega), (by simp only [hf_o26, mo_i1, mo_l1]; exact (show ((5 : Int32).toInt ≠ -1 → o26_x12.toInt = 1 ∧ 1 ≤ (5 : Int32).toInt) from by have q8 : (5 : Int32).toInt = 5 := rfl; first | omega | decide))⟩, ht⟩) (fun _ h => by cases h) dX12_partAt_144
        · have ic79 : r76.toInt ≠ 0 := zi_eqf rfl rfl c79
          refine lv_aload_n hx hb dX12_partAt_40 rfl (lv_at hl 0 rfl) ?_
          refine lv_ldc2 (own := RX12) (v := 671187) hx hb hown (hts (.constantLong RX12 315 (671187)) wa_1072) dX12_partAt_41 ?_
          refine pz_calli (va_runV (As := [.long 671187]) (rest := []) ⟨hx, hb, hml, hown, hts⟩ (t_X12_isWord l dC dI _ κ τ ν ρ L f hG hT h0 (671187) ht_h0) (cwV 1 hts gX12_partAt_X12_isWord rfl rfl rfl ⟨rfl, pd_X12_isWord⟩ ⟨Nat.le_of_ble_eq_true rfl, Nat.le_of_ble_eq_true rfl⟩) ⟨pz_blind, va_recv hK hP (ci := 12) (q0 := q27) rfl eq27, pz_pre hP hK hD hN⟩ rfl rfl hl.1 rfl (lv_room (Nat.le_of_ble_eq_true rfl)) dX12_partAt_44 ⟨Nat.le_of_ble_eq_true rfl, Nat.le_of_ble_eq_true rfl⟩) (fun r96 hw97 => ?_)
          obtain ⟨hw97r, hw97p⟩ := hw97
          have tk98 : (r96.toInt ≠ 0 → o26_x12.toInt = 1 ∧ o26_x13.toInt = (671187)) := by have q9 := hw97p; simp only [hf_o26, mo_i1, mo_l1] at q9; exact q9
          refine lv_if_eq (tgt := 54) hx hb dX12_partAt_47 (by decide) (fun c99 => ?_) (fun c99 => ?_)
          · have ic99 : r96.toInt = 0 := zi_eq rfl rfl c99
            refine lv_aload_n hx hb dX12_partAt_54 rfl (lv_at hl 0 rfl) ?_
            refine lv_ldc2 (own := RX12) (v := 76951716) hx hb hown (hts (.constantLong RX12 321 (76951716)) wa_1073) dX12_partAt_55 ?_
            refine pz_calli (va_runV (As := [.long 76951716]) (rest := []) ⟨hx, hb, hml, hown, hts⟩ (t_X12_isWord l dC dI _ κ τ ν ρ L f hG hT h0 (76951716) ht_h0) (cwV 1 hts gX12_partAt_X12_isWord rfl rfl rfl ⟨rfl, pd_X12_isWord⟩ ⟨Nat.le_of_ble_eq_true rfl, Nat.le_of_ble_eq_true rfl⟩) ⟨pz_blind, va_recv hK hP (ci := 12) (q0 := q27) rfl eq27, pz_pre hP hK hD hN⟩ rfl rfl hl.1 rfl (lv_room (Nat.le_of_ble_eq_true rfl)) dX12_partAt_58 ⟨Nat.le_of_ble_eq_true rfl, Nat.le_of_ble_eq_true rfl⟩) (fun r100 hw101 => ?_)
            obtain ⟨hw101r, hw101p⟩ := hw101
            have tk102 : (r100.toInt ≠ 0 → o26_x12.toInt = 1 ∧ o26_x13.toInt = (76951716)) := by have q9 := hw101p; simp only [hf_o26, mo_i1, mo_l1] at q9; exact q9
            refine lv_if_eq (tgt := 68) hx hb dX12_partAt_61 (by decide) (fun c103 => ?_) (fun c103 => ?_)
            · have ic103 : r100.toInt = 0 := zi_eq rfl rfl c103
              refine lv_aload_n hx hb dX12_partAt_68 rfl (lv_at hl 0 rfl) ?_
              refine lv_ldc2 (own := RX12) (v := 267316) hx hb hown (hts (.constantLong RX12 323 (267316)) wa_1074) dX12_partAt_69 ?_
              refine pz_calli (va_runV (As := [.long 267316]) (rest := []) ⟨hx, hb, hml, hown, hts⟩ (t_X12_isWord l dC dI _ κ τ ν ρ L f hG hT h0 (267316) ht_h0) (cwV 1 hts gX12_partAt_X12_isWord rfl rfl rfl ⟨rfl, pd_X12_isWord⟩ ⟨Nat.le_of_ble_eq_true rfl, Nat.le_of_ble_eq_true rfl⟩) ⟨pz_blind, va_recv hK hP (ci := 12) (q0 := q27) rfl eq27, pz_pre hP hK hD hN⟩ rfl rfl hl.1 rfl (lv_room (Nat.le_of_ble_eq_true rfl)) dX12_partAt_72 ⟨Nat.le_of_ble_eq_true rfl, Nat.le_of_ble_eq_true rfl⟩) (fun r104 hw105 => ?_)
              obtain ⟨hw105r, hw105p⟩ := hw105
              have tk106 : (r104.toInt ≠ 0 → o26_x12.toInt = 1 ∧ o26_x13.toInt = (267316)) := by have q9 := hw105p; simp only [hf_o26, mo_i1, mo_l1] at q9; exact q9
              refine lv_if_eq (tgt := 82) hx hb dX12_partAt_75 (by decide) (fun c107 => ?_) (fun c107 => ?_)
              · have ic107 : r104.toInt = 0 := zi_eq rfl rfl c107
                refine lv_iconst (v := 4) hx hb dX12_partAt_82 (by decide) ?_
                exact W.iret (v := 4) hx hb hr (fun t ht hW => ⟨4, rfl, ⟨(by first | decide | omega), (by simp only [hf_o26, mo_i1, mo_l1]; exact (show ((4 : Int32).toInt ≠ -1 → o26_x12.toInt = 1 ∧ 1 ≤ (4 : Int32).toInt) from by have q8 : (4 : Int32).toInt = 4 := rfl; first | omega | decide))⟩, ht⟩) (fun _ h => by cases h) dX12_partAt_83
              · have ic107 : r104.toInt ≠ 0 := zi_eqf rfl rfl c107
                refine lv_iconst (v := 3) hx hb dX12_partAt_78 (by decide) ?_
                refine lv_goto (tgt := 83) hx hb dX12_partAt_79 (by decide) ?_
                exact W.iret (v := 3) hx hb hr (fun t ht hW => ⟨3, rfl, ⟨(by first | decide | omega), (by simp only [hf_o26, mo_i1, mo_l1]; exact (show ((3 : Int32).toInt ≠ -1 → o26_x12.toInt = 1 ∧ 1 ≤ (3 : Int32).toInt) from by have q8 : (3 : Int32).toInt = 3 := rfl; first | omega | decide))⟩, ht⟩) (fun _ h => by cases h) dX12_partAt_83
            · have ic103 : r100.toInt ≠ 0 := zi_eqf rfl rfl c103
              refine lv_iconst (v := 2) hx hb dX12_partAt_64 (by decide) ?_
              refine lv_goto (tgt := 83) hx hb dX12_partAt_65 (by decide) ?_
              exact W.iret (v := 2) hx hb hr (fun t ht hW => ⟨2, rfl, ⟨(by first | decide | omega), (by simp only [hf_o26, mo_i1, mo_l1]; exact (show ((2 : Int32).toInt ≠ -1 → o26_x12.toInt = 1 ∧ 1 ≤ (2 : Int32).toInt) from by have q8 : (2 : Int32).toInt = 2 := rfl; first | omega | decide))⟩, ht⟩) (fun _ h => by cases h) dX12_partAt_83
          · have ic99 : r96.toInt ≠ 0 := zi_eqf rfl rfl c99
            refine lv_iconst (v := 1) hx hb dX12_partAt_50 (by decide) ?_
            refine lv_goto (tgt := 83) hx hb dX12_partAt_51 (by decide) ?_
            exact W.iret (v := 1) hx hb hr (fun t ht hW => ⟨1, rfl, ⟨(by first | decide | omega), (by simp only [hf_o26, mo_i1, mo_l1]; exact (show ((1 : Int32).toInt ≠ -1 → o26_x12.toInt = 1 ∧ 1 ≤ (1 : Int32).toInt) from by have q8 : (1 : Int32).toInt = 1 := rfl; first | omega | decide))⟩, ht⟩) (fun _ h => by cases h) dX12_partAt_83
