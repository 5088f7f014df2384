section
set_option maxHeartbeats 4000000 in
set_option maxRecDepth 100000 in
theorem t_X12_cargo (l : Launch) (dC : Nat → ClassId) (dI : Nat → Nat → Nat) (sz : Nat) (κ : Nat → ClassId) (Θ : Nat → Option Int) (τ ν : Nat → Nat) (ρ : Nat → Nat → Nat) (L : List Nat) (f : Nat → va_E) (hG : tp_G τ ν ρ L) (hT : tp_T (mo_O κ Θ) κ τ ν ρ f) (h0 : Nat) (v : Int32) (u : Int32) (a : Int32) (a4 : Int32) (a5 : Int32) (a6 : Int32) (a7 : Int32) (a8 : Int32) (ht_h0 : τ h0 = 13) (hJ : mo_RI (-1) 0 (mo_R (mo_i (f (ρ h0 2))))) : Met l yX12_cargo wqX12_cargo ({ frames := 4, cells := 0, slots := 0, locals := 1200 }) (va_Pc [.ref h0, .int v, .int u, .int a, .int a4, .int a5, .int a6, .int a7, .int a8] (pz_B dC dI (tp_K κ) (va_pl L f) sz)) (va_Qi (fun (r : Int32) (f1 : Nat → va_E) => tp_T (mo_O κ Θ) κ τ ν ρ f1 ∧ tp_F τ [13, 32] f f1 ∧ True ∧ mo_RI (-1) 0 (mo_R (mo_i (f1 (ρ h0 2)))) ∧ mo_KN (fun k => k = 10) (mo_R (mo_i (f (ρ h0 2)))) (mo_R (mo_i (f1 (ρ h0 2)))) ∧ ((((¬ (((0 ≤ a.toInt ∧ a.toInt ≤ 2399) ∧ (0 ≤ a4.toInt ∧ a4.toInt ≤ 2399) ∧ a.toInt ≤ a4.toInt) ∧ ((0 ≤ a5.toInt ∧ a5.toInt ≤ 2399) ∧ (0 ≤ a6.toInt ∧ a6.toInt ≤ 2399) ∧ a5.toInt ≤ a6.toInt) ∧ (1 ≤ a7.toInt ∧ a7.toInt ≤ 200000) ∧ (0 ≤ a8.toInt ∧ a8.toInt ≤ 1000))) → r.toInt = -1) ∧ (¬ (¬ (((0 ≤ a.toInt ∧ a.toInt ≤ 2399) ∧ (0 ≤ a4.toInt ∧ a4.toInt ≤ 2399) ∧ a.toInt ≤ a4.toInt) ∧ ((0 ≤ a5.toInt ∧ a5.toInt ≤ 2399) ∧ (0 ≤ a6.toInt ∧ a6.toInt ≤ 2399) ∧ a5.toInt ≤ a6.toInt) ∧ (1 ≤ a7.toInt ∧ a7.toInt ≤ 200000) ∧ (0 ≤ a8.toInt ∧ a8.toInt ≤ 1000))) → (((¬ ((0 ≤ v.toInt ∧ v.toInt < (mo_R (mo_i (f (ρ h0 2)))) (0)) ∧ (0 ≤ u.toInt ∧ u.toInt < (mo_R (mo_i (f (ρ h0 2)))) (0)))) → r.toInt = -2) ∧ (¬ (¬ ((0 ≤ v.toInt ∧ v.toInt < (mo_R (mo_i (f (ρ h0 2)))) (0)) ∧ (0 ≤ u.toInt ∧ u.toInt < (mo_R (mo_i (f (ρ h0 2)))) (0)))) → (((v.toInt = u.toInt) → r.toInt = -3) ∧ (¬ (v.toInt = u.toInt) → ((((mo_R (mo_i (f (ρ h0 2)))) (10) = 6) → r.toInt = -5) ∧ (¬ ((mo_R (mo_i (f (ρ h0 2)))) (10) = 6) → r.toInt = (mo_R (mo_i (f (ρ h0 2)))) (10) + 1))))))))) ∧ ((((¬ (((0 ≤ a.toInt ∧ a.toInt ≤ 2399) ∧ (0 ≤ a4.toInt ∧ a4.toInt ≤ 2399) ∧ a.toInt ≤ a4.toInt) ∧ ((0 ≤ a5.toInt ∧ a5.toInt ≤ 2399) ∧ (0 ≤ a6.toInt ∧ a6.toInt ≤ 2399) ∧ a5.toInt ≤ a6.toInt) ∧ (1 ≤ a7.toInt ∧ a7.toInt ≤ 200000) ∧ (0 ≤ a8.toInt ∧ a8.toInt ≤ 1000))) → (mo_R (mo_i (f1 (ρ h0 2)))) (10) = (mo_R (mo_i (f (ρ h0 2)))) (10)) ∧ (¬ (¬ (((0 ≤ a.toInt ∧ a.toInt ≤ 2399) ∧ (0 ≤ a4.toInt ∧ a4.toInt ≤ 2399) ∧ a.toInt ≤ a4.toInt) ∧ ((0 ≤ a5.toInt ∧ a5.toInt ≤ 2399) ∧ (0 ≤ a6.toInt ∧ a6.toInt ≤ 2399) ∧ a5.toInt ≤ a6.toInt) ∧ (1 ≤ a7.toInt ∧ a7.toInt ≤ 200000) ∧ (0 ≤ a8.toInt ∧ a8.toInt ≤ 1000))) → (((¬ ((0 ≤ v.toInt ∧ v.toInt < (mo_R (mo_i (f (ρ h0 2)))) (0)) ∧ (0 ≤ u.toInt ∧ u.toInt < (mo_R (mo_i (f (ρ h0 2)))) (0)))) → (mo_R (mo_i (f1 (ρ h0 2)))) (10) = (mo_R (mo_i (f (ρ h0 2)))) (10)) ∧ (¬ (¬ ((0 ≤ v.toInt ∧ v.toInt < (mo_R (mo_i (f (ρ h0 2)))) (0)) ∧ (0 ≤ u.toInt ∧ u.toInt < (mo_R (mo_i (f (ρ h0 2)))) (0)))) → (((v.toInt = u.toInt) → (mo_R (mo_i (f1 (ρ h0 2)))) (10) = (mo_R (mo_i (f (ρ h0 2)))) (10)) ∧ (¬ (v.toInt = u.toInt) → ((((mo_R (mo_i (f (ρ h0 2)))) (10) = 6) → (mo_R (mo_i (f1 (ρ h0 2)))) (10) = (mo_R (mo_i (f (ρ h0 2)))) (10)) ∧ (¬ ((mo_R (mo_i (f (ρ h0 2)))) (10) = 6) → (mo_R (mo_i (f1 (ρ h0 2)))) (10) = (mo_R (mo_i (f (ρ h0 2)))) (10) + 1)))))))))) (fun (f1 : Nat → va_E) (t : State) => pz_E dC dI (tp_K κ) (va_A (va_pl L f) sz) (va_pl L f1) t) (va_A (va_pl L f) sz)) 0 0 (va_A (va_pl L f) sz) := by
  refine Met.ofW (cc := cX12_cargo) (maxL := 10) (ret := some .int) (by decide) rfl ?_
  intro p e s m args below meth c s₁ B hml hv
  obtain ⟨rfl, hsz, hP, hK, hD0, hN⟩ := hv
  have hx := B.exec
  have hb := B.bytes
  have hr := B.returns
  have hts := fun (w : Cond) (h : w ∈ WALL) => atoms_spec (ws := wqX12_cargo) B.pre w (List.mem_cons_of_mem _ h)
  have hown : s.vm.findClass RX12 = some m.cls := findClass_of_methodNamed B.named
  have hlocks := B.notSynchronized
  subst hsz
  have hD := hD0.self (sz := s.heap.size)
  generalize hAe : va_A (va_pl L f) s.heap.size = A at hD ⊢
  have hA : ∀ q : Nat, s.heap.size ≤ q → A q := fun q h => by rw [← hAe]; exact Or.inr h
  have hS : va_S A s.heap s.heap [] := va_S.rf
  have hR : tp_F τ [13, 32] f f := tp_F.rf
  have hl := lv_entry ([.ref h0, .int v, .int u, .int a, .int a4, .int a5, .int a6, .int a7, .int a8]) (n := 10) (Nat.le_of_ble_eq_true rfl)
  rw [lg_entry_eq]
  generalize (lg_sl ([.ref h0, .int v, .int u, .int a, .int a4, .int a5, .int a6, .int a7, .int a8]) ++ List.replicate (10 - (lg_sl ([.ref h0, .int v, .int u, .int a, .int a4, .int a5, .int a6, .int a7, .int a8])).length) Slot.unset).toArray = ls at hl ⊢
  have hl : lv_has ls 10 [(0, .ref h0), (1, .int v), (2, .int u), (3, .int a), (4, .int a4), (5, .int a5), (6, .int a6), (7, .int a7), (8, .int a8)] := hl
  refine tgk_13 hG ht_h0 (fun y1 y2 y3 y4 y5 y6 y7 y8 y9 y10 y11 y12 y13 y14 y15 y16 y17 y18 y19 y20 y21 y22 y23 y24 y25 => ?_)
  refine tpk_32 hT y1 (fun g27 hf_o26 => ?_)
  have hI : mo_RI (-1) 0 (mo_R g27) := by have q9 := hJ; rw [hf_o26, mo_i1] at q9; exact q9
  obtain ⟨n0x, en0x⟩ : ∃ n : Int, n = mo_R g27 (0) := ⟨_, rfl⟩
  have kn0x := hI.k0
  have hKN : mo_KN (fun k => k = 10) (mo_R g27) (mo_R g27) := mo_KN.rf
  refine lv_aload_n hx hb dX12_cargo_0 rfl (lv_at hl 0 rfl) ?_
  refine lv_iconst (v := 0) hx hb dX12_cargo_1 (by decide) ?_
  refine tpk_13 hT ht_h0 (fun o28_x0 o28_x1 o28_x7 o28_x9 o28_x10 o28_x11 o28_x12 o28_x13 o28_x14 o28_x15 o28_x16 o28_x17 o28_x18 o28_x19 o28_x20 o28_x22 o28_x25 o28_x28 o28_x29 o28_x32 o28_x33 o28_x34 o28_x35 o28_x36 o28_x37 o28_x38 o28_x47 o28_x48 hf_o28 ro28_0 ro28_1 ro28_2 ro28_3 ro28_4 ro28_5 ro28_6 ro28_7 ro28_8 ro28_9 ro28_10 ro28_11 ro28_12 ro28_13 ro28_14 => ?_)
  refine tpk_pos (tp_in hG ht_h0 (by decide)) hf_o28 (fun q29 eq29 => ?_)
  refine va_put (D := (dC, dI)) (ci := 12) (v := .int 0) (ty := .int) (C := RX12) (T := TX12) (N := 53) hx hb hts hfX12 tyX12 tyX12_ok nmX12 hown hK hP hD hS q29 eq29 rfl 0 (by decide) (hts (.fieldLink RX12 91 "ColdShipsModel" "thrown" "I") wa_209) (fun _ h9 => h9) rfl (tyX12_ok 0 (by decide)) rfl rfl (Nat.le_of_ble_eq_true rfl) dX12_cargo_2 (tp_k (.inr (12, [.int 0, .int o28_x1, .ref (ρ h0 2), .ref (ρ h0 3), .ref (ρ h0 4), .ref (ρ h0 5), .ref (ρ h0 6), .int o28_x7, .ref (ρ h0 8), .int o28_x9, .int o28_x10, .int o28_x11, .int o28_x12, .long o28_x13, .int o28_x14, .int o28_x15, .int o28_x16, .int o28_x17, .int o28_x18, .int o28_x19, .int o28_x20, .ref (ρ h0 21), .int o28_x22, .ref (ρ h0 23), .ref (ρ h0 24), .int o28_x25, .ref (ρ h0 26), .ref (ρ h0 27), .int o28_x28, .int o28_x29, .ref (ρ h0 30), .ref (ρ h0 31), .int o28_x32, .long o28_x33, .long o28_x34, .long o28_x35, .int o28_x36, .int o28_x37, .int o28_x38, .ref (ρ h0 39), .ref (ρ h0 40), .ref (ρ h0 41), .ref (ρ h0 42), .ref (ρ h0 43), .ref (ρ h0 44), .ref (ρ h0 45), .ref (ρ h0 46), .int o28_x47, .int o28_x48, .ref (ρ h0 49), .ref (ρ h0 50), .ref (ρ h0 51), .ref (ρ h0 52)])) hD (tp_in hG ht_h0 (by decide)) eq29 (fun f30 H locs hP hD hS g32 k31 => ?_))
  have hT := hT.up ht_h0 g32 k31 ⟨_, _, _, _, _, _, _, _, _, _, _, _, _, _, _, _, _, _, _, _, _, _, _, _, _, _, _, _, rfl, ro28_0, ro28_1, ro28_2, ro28_3, ro28_4, ro28_5, ro28_6, ro28_7, ro28_8, ro28_9, ro28_10, ro28_11, ro28_12, ro28_13, ro28_14⟩
  have hR := hR.up ht_h0 (by decide) k31
  refine lv_iload hx hb dX12_cargo_5 (lv_at hl 4 rfl) ?_
  have hf_33 : f30 (ρ h0 2) = .inl (κ 0, 12967, .inl g27) := (k31 _ (tp_ne y1 ht_h0 (by decide))).trans hf_o26
  refine pz_calli (va_runS (As := [.int a4]) (rest := []) ⟨hx, hb, hml, hown, hts⟩ (t_X12_isHour l dC dI _ a4 (a4.toInt) rfl) (va_cwS 1 hts gX12_cargo_X12_isHour rfl rfl rfl pd_X12_isHour ⟨Nat.le_of_ble_eq_true rfl, Nat.le_of_ble_eq_true rfl⟩) ⟨pz_blind, pz_pre pz_P0 (hK.sub (tys' := []) [] rfl) (pz_D0 (A := fun _ => True)) hN⟩ rfl rfl hl.1 rfl (lv_room (Nat.le_of_ble_eq_true rfl)) dX12_cargo_7 ⟨Nat.le_of_ble_eq_true rfl, Nat.le_of_ble_eq_true rfl⟩) (fun r34 hw35 => ?_)
  obtain ⟨hw35r, hw35p⟩ := hw35
  refine lv_if_eq (tgt := 72) hx hb dX12_cargo_10 (by decide) (fun c36 => ?_) (fun c36 => ?_)
  · have ic36 : r34.toInt = 0 := zi_eq rfl rfl c36
    have p37 : ¬ (0 ≤ (a4.toInt) ∧ (a4.toInt) ≤ 2399) := (tp_cond.no hw35p) (by omega)
    clear hw35r ic36
    refine lv_aload_n hx hb dX12_cargo_72 rfl (lv_at hl 0 rfl) ?_
    refine lv_iconst (v := (-1)) hx hb dX12_cargo_73 (by decide) ?_
    refine tpk_pos (tp_in hG ht_h0 (by decide)) g32 (fun q38 eq38 => ?_)
    have hFc := tp_fr hD hS hA
    refine va_calli (va_runV (As := [.int (-1)]) (rest := []) ⟨hx, hb, hml, hown, hts⟩ (t_X12_told l dC dI _ κ Θ τ ν ρ L f30 hG hT h0 ((-1)) ht_h0) (cwV 1 hts gX12_cargo_X12_told rfl rfl rfl ⟨rfl, pd_X12_told⟩ ⟨Nat.le_of_ble_eq_true rfl, Nat.le_of_ble_eq_true rfl⟩) ⟨pz_blind, va_recv hK hP (ci := 12) (q0 := q38) rfl eq38, pz_pre hP hK hD hN⟩ rfl rfl hl.1 rfl (lv_room (Nat.le_of_ble_eq_true rfl)) dX12_cargo_74 ⟨Nat.le_of_ble_eq_true rfl, Nat.le_of_ble_eq_true rfl⟩) hS (fun q _ h => hFc q h) hFc (fun r39 f41 t H1 locs ht hvm hw40 hB hz1 hk1 hS => ?_)
    refine tn_4 hw40 (fun hT hF42 hw40r hw40p => ?_); clear hw40
    have hR := hR.then hF42 (by decide)
    have hP := hB.1; rw [ht] at hP; have hD := tp_ad f41 hD; clear hB hFc hz1 hk1; subst ht; generalize t.heap = H at hP hS ⊢
    have hw40pq : r39.toInt = (-1) := by rw [hw40p]; rfl
    have hf_43 : f41 (ρ h0 2) = .inl (κ 0, 12967, .inl g27) := (hF42 _ (by rw [tp_iu y1]; decide)).trans hf_33
    exact W.iret (v := r39) hx hb hr (fun t ht hW => ⟨⟨r39, f41, rfl, ⟨hT, hR, trivial, ⟨(by rw [hf_43, mo_i1]; exact hI), (by rw [hf_43, mo_i1, hf_o26, mo_i1]; exact hKN), (by simp only [hf_43, hf_o26, mo_i1]; exact ⟨⟨fun q0 => by omega, fun q0 => ⟨fun q1 => by omega, fun q1 => ⟨fun q2 => by omega, fun q2 => ⟨fun q3 => by omega, fun q3 => (by omega)⟩⟩⟩⟩, ⟨fun q0 => by omega, fun q0 => ⟨fun q1 => by omega, fun q1 => ⟨fun q2 => by omega, fun q2 => ⟨fun q3 => by omega, fun q3 => (by omega)⟩⟩⟩⟩⟩)⟩⟩, by rw [ht]; exact hP, va_K.moved hW.alike hK, hD⟩, hS.F ht⟩) hS.2.2 dX12_cargo_77
  · have ic36 : r34.toInt ≠ 0 := zi_eqf rfl rfl c36
    replace ic36 : 1 ≤ r34.toInt := by omega
    have p44 : 0 ≤ (a4.toInt) ∧ (a4.toInt) ≤ 2399 := (tp_cond.yes hw35p) (by omega)
    clear hw35r ic36
    refine lv_iload_n hx hb dX12_cargo_13 rfl (lv_at hl 3 rfl) ?_
    refine lv_i2l hx hb dX12_cargo_14 rfl ?_
    refine lv_lconst (v := 0) hx hb dX12_cargo_15 (by decide) ?_
    refine lv_iload hx hb dX12_cargo_16 (lv_at hl 4 rfl) ?_
    refine lv_i2l hx hb dX12_cargo_18 rfl ?_
    refine pz_calli (va_runS (As := [.long a.toInt64, .long 0, .long a4.toInt64]) (rest := []) ⟨hx, hb, hml, hown, hts⟩ (t_X12_in l dC dI _ a.toInt64 (0) a4.toInt64 (a.toInt) (0) (a4.toInt) (Int32.toInt_toInt64 a) rfl (Int32.toInt_toInt64 a4)) (va_cwS 3 hts gX12_cargo_X12_in rfl rfl rfl pd_X12_in ⟨Nat.le_of_ble_eq_true rfl, Nat.le_of_ble_eq_true rfl⟩) ⟨pz_blind, pz_pre pz_P0 (hK.sub (tys' := []) [] rfl) (pz_D0 (A := fun _ => True)) hN⟩ rfl rfl hl.1 rfl (lv_room (Nat.le_of_ble_eq_true rfl)) dX12_cargo_19 ⟨Nat.le_of_ble_eq_true rfl, Nat.le_of_ble_eq_true rfl⟩) (fun r45 hw46 => ?_)
    obtain ⟨hw46r, hw46p⟩ := hw46
    refine lv_if_eq (tgt := 72) hx hb dX12_cargo_22 (by decide) (fun c47 => ?_) (fun c47 => ?_)
    · have ic47 : r45.toInt = 0 := zi_eq rfl rfl c47
      have p48 : ¬ ((0) ≤ (a.toInt) ∧ (a.toInt) ≤ (a4.toInt)) := (tp_cond.no hw46p) (by omega)
      clear hw46r ic47
      refine lv_aload_n hx hb dX12_cargo_72 rfl (lv_at hl 0 rfl) ?_
      refine lv_iconst (v := (-1)) hx hb dX12_cargo_73 (by decide) ?_
      refine tpk_pos (tp_in hG ht_h0 (by decide)) g32 (fun q49 eq49 => ?_)
      have hFc := tp_fr hD hS hA
      refine va_calli (va_runV (As := [.int (-1)]) (rest := []) ⟨hx, hb, hml, hown, hts⟩ (t_X12_told l dC dI _ κ Θ τ ν ρ L f30 hG hT h0 ((-1)) ht_h0) (cwV 1 hts gX12_cargo_X12_told rfl rfl rfl ⟨rfl, pd_X12_told⟩ ⟨Nat.le_of_ble_eq_true rfl, Nat.le_of_ble_eq_true rfl⟩) ⟨pz_blind, va_recv hK hP (ci := 12) (q0 := q49) rfl eq49, pz_pre hP hK hD hN⟩ rfl rfl hl.1 rfl (lv_room (Nat.le_of_ble_eq_true rfl)) dX12_cargo_74 ⟨Nat.le_of_ble_eq_true rfl, Nat.le_of_ble_eq_true rfl⟩) hS (fun q _ h => hFc q h) hFc (fun r50 f52 t H1 locs ht hvm hw51 hB hz1 hk1 hS => ?_)
      refine tn_4 hw51 (fun hT hF53 hw51r hw51p => ?_); clear hw51
      have hR := hR.then hF53 (by decide)
      have hP := hB.1; rw [ht] at hP; have hD := tp_ad f52 hD; clear hB hFc hz1 hk1; subst ht; generalize t.heap = H at hP hS ⊢
      have hw51pq : r50.toInt = (-1) := by rw [hw51p]; rfl
      have hf_54 : f52 (ρ h0 2) = .inl (κ 0, 12967, .inl g27) := (hF53 _ (by rw [tp_iu y1]; decide)).trans hf_33
      exact W.iret (v := r50) hx hb hr (fun t ht hW => ⟨⟨r50, f52, rfl, ⟨hT, hR, trivial, ⟨(by rw [hf_54, mo_i1]; exact hI), (by rw [hf_54, mo_i1, hf_o26, mo_i1]; exact hKN), (by simp only [hf_54, hf_o26, mo_i1]; exact ⟨⟨fun q0 => by omega, fun q0 => ⟨fun q1 => by omega, fun q1 => ⟨fun q2 => by omega, fun q2 => ⟨fun q3 => by omega, fun q3 => (by omega)⟩⟩⟩⟩, ⟨fun q0 => by omega, fun q0 => ⟨fun q1 => by omega, fun q1 => ⟨fun q2 => by omega, fun q2 => ⟨fun q3 => by omega, fun q3 => (by omega)⟩⟩⟩⟩⟩)⟩⟩, by rw [ht]; exact hP, va_K.moved hW.alike hK, hD⟩, hS.F ht⟩) hS.2.2 dX12_cargo_77
    · have ic47 : r45.toInt ≠ 0 := zi_eqf rfl rfl c47
      replace ic47 : 1 ≤ r45.toInt := by omega
      have p55 : (0) ≤ (a.toInt) ∧ (a.toInt) ≤ (a4.toInt) := (tp_cond.yes hw46p) (by omega)
      clear hw46r ic47
      refine lv_iload hx hb dX12_cargo_25 (lv_at hl 6 rfl) ?_
      refine pz_calli (va_runS (As := [.int a6]) (rest := []) ⟨hx, hb, hml, hown, hts⟩ (t_X12_isHour l dC dI _ a6 (a6.toInt) rfl) (va_cwS 1 hts gX12_cargo_X12_isHour rfl rfl rfl pd_X12_isHour ⟨Nat.le_of_ble_eq_true rfl, Nat.le_of_ble_eq_true rfl⟩) ⟨pz_blind, pz_pre pz_P0 (hK.sub (tys' := []) [] rfl) (pz_D0 (A := fun _ => True)) hN⟩ rfl rfl hl.1 rfl (lv_room (Nat.le_of_ble_eq_true rfl)) dX12_cargo_27 ⟨Nat.le_of_ble_eq_true rfl, Nat.le_of_ble_eq_true rfl⟩) (fun r56 hw57 => ?_)
      obtain ⟨hw57r, hw57p⟩ := hw57
      refine lv_if_eq (tgt := 72) hx hb dX12_cargo_30 (by decide) (fun c58 => ?_) (fun c58 => ?_)
      · have ic58 : r56.toInt = 0 := zi_eq rfl rfl c58
        have p59 : ¬ (0 ≤ (a6.toInt) ∧ (a6.toInt) ≤ 2399) := (tp_cond.no hw57p) (by omega)
        clear hw57r ic58
        refine lv_aload_n hx hb dX12_cargo_72 rfl (lv_at hl 0 rfl) ?_
        refine lv_iconst (v := (-1)) hx hb dX12_cargo_73 (by decide) ?_
        refine tpk_pos (tp_in hG ht_h0 (by decide)) g32 (fun q60 eq60 => ?_)
        have hFc := tp_fr hD hS hA
        refine va_calli (va_runV (As := [.int (-1)]) (rest := []) ⟨hx, hb, hml, hown, hts⟩ (t_X12_told l dC dI _ κ Θ τ ν ρ L f30 hG hT h0 ((-1)) ht_h0) (cwV 1 hts gX12_cargo_X12_told rfl rfl rfl ⟨rfl, pd_X12_told⟩ ⟨Nat.le_of_ble_eq_true rfl, Nat.le_of_ble_eq_true rfl⟩) ⟨pz_blind, va_recv hK hP (ci := 12) (q0 := q60) rfl eq60, pz_pre hP hK hD hN⟩ rfl rfl hl.1 rfl (lv_room (Nat.le_of_ble_eq_true rfl)) dX12_cargo_74 ⟨Nat.le_of_ble_eq_true rfl, Nat.le_of_ble_eq_true rfl⟩) hS (fun q _ h => hFc q h) hFc (fun r61 f63 t H1 locs ht hvm hw62 hB hz1 hk1 hS => ?_)
        refine tn_4 hw62 (fun hT hF64 hw62r hw62p => ?_); clear hw62
        have hR := hR.then hF64 (by decide)
        have hP := hB.1; rw [ht] at hP; have hD := tp_ad f63 hD; clear hB hFc hz1 hk1; subst ht; generalize t.heap = H at hP hS ⊢
        have hw62pq : r61.toInt = (-1) := by rw [hw62p]; rfl
        have hf_65 : f63 (ρ h0 2) = .inl (κ 0, 12967, .inl g27) := (hF64 _ (by rw [tp_iu y1]; decide)).trans hf_33
        exact W.iret (v := r61) hx hb hr (fun t ht hW => ⟨⟨r61, f63, rfl, ⟨hT, hR, trivial, ⟨(by rw [hf_65, mo_i1]; exact hI), (by rw [hf_65, mo_i1, hf_o26, mo_i1]; exact hKN), (by simp only [hf_65, hf_o26, mo_i1]; exact ⟨⟨fun q0 => by omega, fun q0 => ⟨fun q1 => by omega, fun q1 => ⟨fun q2 => by omega, fun q2 => ⟨fun q3 => by omega, fun q3 => (by omega)⟩⟩⟩⟩, ⟨fun q0 => by omega, fun q0 => ⟨fun q1 => by omega, fun q1 => ⟨fun q2 => by omega, fun q2 => ⟨fun q3 => by omega, fun q3 => (by omega)⟩⟩⟩⟩⟩)⟩⟩, by rw [ht]; exact hP, va_K.moved hW.alike hK, hD⟩, hS.F ht⟩) hS.2.2 dX12_cargo_77
      · have ic58 : r56.toInt ≠ 0 := zi_eqf rfl rfl c58
        replace ic58 : 1 ≤ r56.toInt := by omega
        have p66 : 0 ≤ (a6.toInt) ∧ (a6.toInt) ≤ 2399 := (tp_cond.yes hw57p) (by omega)
        clear hw57r ic58
        refine lv_iload hx hb dX12_cargo_33 (lv_at hl 5 rfl) ?_
        refine lv_i2l hx hb dX12_cargo_35 rfl ?_
        refine lv_lconst (v := 0) hx hb dX12_cargo_36 (by decide) ?_
        refine lv_iload hx hb dX12_cargo_37 (lv_at hl 6 rfl) ?_
        refine lv_i2l hx hb dX12_cargo_39 rfl ?_
        refine pz_calli (va_runS (As := [.long a5.toInt64, .long 0, .long a6.toInt64]) (rest := []) ⟨hx, hb, hml, hown, hts⟩ (t_X12_in l dC dI _ a5.toInt64 (0) a6.toInt64 (a5.toInt) (0) (a6.toInt) (Int32.toInt_toInt64 a5) rfl (Int32.toInt_toInt64 a6)) (va_cwS 3 hts gX12_cargo_X12_in rfl rfl rfl pd_X12_in ⟨Nat.le_of_ble_eq_true rfl, Nat.le_of_ble_eq_true rfl⟩) ⟨pz_blind, pz_pre pz_P0 (hK.sub (tys' := []) [] rfl) (pz_D0 (A := fun _ => True)) hN⟩ rfl rfl hl.1 rfl (lv_room (Nat.le_of_ble_eq_true rfl)) dX12_cargo_40 ⟨Nat.le_of_ble_eq_true rfl, Nat.le_of_ble_eq_true rfl⟩) (fun r67 hw68 => ?_)
        obtain ⟨hw68r, hw68p⟩ := hw68
        refine lv_if_eq (tgt := 72) hx hb dX12_cargo_43 (by decide) (fun c69 => ?_) (fun c69 => ?_)
        · have ic69 : r67.toInt = 0 := zi_eq rfl rfl c69
          have p70 : ¬ ((0) ≤ (a5.toInt) ∧ (a5.toInt) ≤ (a6.toInt)) := (tp_cond.no hw68p) (by omega)
          clear hw68r ic69
          refine lv_aload_n hx hb dX12_cargo_72 rfl (lv_at hl 0 rfl) ?_
          refine lv_iconst (v := (-1)) hx hb dX12_cargo_73 (by decide) ?_
          refine tpk_pos (tp_in hG ht_h0 (by decide)) g32 (fun q71 eq71 => ?_)
          have hFc := tp_fr hD hS hA
          refine va_calli (va_runV (As := [.int (-1)]) (rest := []) ⟨hx, hb, hml, hown, hts⟩ (t_X12_told l dC dI _ κ Θ τ ν ρ L f30 hG hT h0 ((-1)) ht_h0) (cwV 1 hts gX12_cargo_X12_told rfl rfl rfl ⟨rfl, pd_X12_told⟩ ⟨Nat.le_of_ble_eq_true rfl, Nat.le_of_ble_eq_true rfl⟩) ⟨pz_blind, va_recv hK hP (ci := 12) (q0 := q71) rfl eq71, pz_pre hP hK hD hN⟩ rfl rfl hl.1 rfl (lv_room (Nat.le_of_ble_eq_true rfl)) dX12_cargo_74 ⟨Nat.le_of_ble_eq_true rfl, Nat.le_of_ble_eq_true rfl⟩) hS (fun q _ h => hFc q h) hFc (fun r72 f74 t H1 locs ht hvm hw73 hB hz1 hk1 hS => ?_)
          refine tn_4 hw73 (fun hT hF75 hw73r hw73p => ?_); clear hw73
          have hR := hR.then hF75 (by decide)
          have hP := hB.1; rw [ht] at hP; have hD := tp_ad f74 hD; clear hB hFc hz1 hk1; subst ht; generalize t.heap = H at hP hS ⊢
          have hw73pq : r72.toInt = (-1) := by rw [hw73p]; rfl
          have hf_76 : f74 (ρ h0 2) = .inl (κ 0, 12967, .inl g27) := (hF75 _ (by rw [tp_iu y1]; decide)).trans hf_33
          exact W.iret (v := r72) hx hb hr (fun t ht hW => ⟨⟨r72, f74, rfl, ⟨hT, hR, trivial, ⟨(by rw [hf_76, mo_i1]; exact hI), (by rw [hf_76, mo_i1, hf_o26, mo_i1]; exact hKN), (by simp only [hf_76, hf_o26, mo_i1]; exact ⟨⟨fun q0 => by omega, fun q0 => ⟨fun q1 => by omega, fun q1 => ⟨fun q2 => by omega, fun q2 => ⟨fun q3 => by omega, fun q3 => (by omega)⟩⟩⟩⟩, ⟨fun q0 => by omega, fun q0 => ⟨fun q1 => by omega, fun q1 => ⟨fun q2 => by omega, fun q2 => ⟨fun q3 => by omega, fun q3 => (by omega)⟩⟩⟩⟩⟩)⟩⟩, by rw [ht]; exact hP, va_K.moved hW.alike hK, hD⟩, hS.F ht⟩) hS.2.2 dX12_cargo_77
        · have ic69 : r67.toInt ≠ 0 := zi_eqf rfl rfl c69
          replace ic69 : 1 ≤ r67.toInt := by omega
          have p77 : (0) ≤ (a5.toInt) ∧ (a5.toInt) ≤ (a6.toInt) := (tp_cond.yes hw68p) (by omega)
          clear hw68r ic69
          refine lv_iload hx hb dX12_cargo_46 (lv_at hl 7 rfl) ?_
          refine lv_i2l hx hb dX12_cargo_48 rfl ?_
          refine lv_lconst (v := 1) hx hb dX12_cargo_49 (by decide) ?_
          refine lv_ldc2 (own := RX12) (v := 200000) hx hb hown (hts (.constantLong RX12 124 (200000)) wa_272) dX12_cargo_50 ?_
          refine pz_calli (va_runS (As := [.long a7.toInt64, .long 1, .long 200000]) (rest := []) ⟨hx, hb, hml, hown, hts⟩ (t_X12_in l dC dI _ a7.toInt64 (1) (200000) (a7.toInt) (1) (200000) (Int32.toInt_toInt64 a7) rfl rfl) (va_cwS 3 hts gX12_cargo_X12_in rfl rfl rfl pd_X12_in ⟨Nat.le_of_ble_eq_true rfl, Nat.le_of_ble_eq_true rfl⟩) ⟨pz_blind, pz_pre pz_P0 (hK.sub (tys' := []) [] rfl) (pz_D0 (A := fun _ => True)) hN⟩ rfl rfl hl.1 rfl (lv_room (Nat.le_of_ble_eq_true rfl)) dX12_cargo_53 ⟨Nat.le_of_ble_eq_true rfl, Nat.le_of_ble_eq_true rfl⟩) (fun r78 hw79 => ?_)
          obtain ⟨hw79r, hw79p⟩ := hw79
          refine lv_if_eq (tgt := 72) hx hb dX12_cargo_56 (by decide) (fun c80 => ?_) (fun c80 => ?_)
          · have ic80 : r78.toInt = 0 := zi_eq rfl rfl c80
            have p81 : ¬ ((1) ≤ (a7.toInt) ∧ (a7.toInt) ≤ (200000)) := (tp_cond.no hw79p) (by omega)
            clear hw79r ic80
            refine lv_aload_n hx hb dX12_cargo_72 rfl (lv_at hl 0 rfl) ?_
            refine lv_iconst (v := (-1)) hx hb dX12_cargo_73 (by decide) ?_
            refine tpk_pos (tp_in hG ht_h0 (by decide)) g32 (fun q82 eq82 => ?_)
            have hFc := tp_fr hD hS hA
            refine va_calli (va_runV (As := [.int (-1)]) (rest := []) ⟨hx, hb, hml, hown, hts⟩ (t_X12_told l dC dI _ κ Θ τ ν ρ L f30 hG hT h0 ((-1)) ht_h0) (cwV 1 hts gX12_cargo_X12_told rfl rfl rfl ⟨rfl, pd_X12_told⟩ ⟨Nat.le_of_ble_eq_true rfl, Nat.le_of_ble_eq_true rfl⟩) ⟨pz_blind, va_recv hK hP (ci := 12) (q0 := q82) rfl eq82, pz_pre hP hK hD hN⟩ rfl rfl hl.1 rfl (lv_room (Nat.le_of_ble_eq_true rfl)) dX12_cargo_74 ⟨Nat.le_of_ble_eq_true rfl, Nat.le_of_ble_eq_true rfl⟩) hS (fun q _ h => hFc q h) hFc (fun r83 f85 t H1 locs ht hvm hw84 hB hz1 hk1 hS => ?_)
            refine tn_4 hw84 (fun hT hF86 hw84r hw84p => ?_); clear hw84
            have hR := hR.then hF86 (by decide)
            have hP := hB.1; rw [ht] at hP; have hD := tp_ad f85 hD; clear hB hFc hz1 hk1; subst ht; generalize t.heap = H at hP hS ⊢
            have hw84pq : r83.toInt = (-1) := by rw [hw84p]; rfl
            have hf_87 : f85 (ρ h0 2) = .inl (κ 0, 12967, .inl g27) := (hF86 _ (by rw [tp_iu y1]; decide)).trans hf_33
            exact W.iret (v := r83) hx hb hr (fun t ht hW => ⟨⟨r83, f85, rfl, ⟨hT, hR, trivial, ⟨(by rw [hf_87, mo_i1]; exact hI), (by rw [hf_87, mo_i1, hf_o26, mo_i1]; exact hKN), (by simp only [hf_87, hf_o26, mo_i1]; exact ⟨⟨fun q0 => by omega, fun q0 => ⟨fun q1 => by omega, fun q1 => ⟨fun q2 => by omega, fun q2 => ⟨fun q3 => by omega, fun q3 => (by omega)⟩⟩⟩⟩, ⟨fun q0 => by omega, fun q0 => ⟨fun q1 => by omega, fun q1 => ⟨fun q2 => by omega, fun q2 => ⟨fun q3 => by omega, fun q3 => (by omega)⟩⟩⟩⟩⟩)⟩⟩, by rw [ht]; exact hP, va_K.moved hW.alike hK, hD⟩, hS.F ht⟩) hS.2.2 dX12_cargo_77
          · have ic80 : r78.toInt ≠ 0 := zi_eqf rfl rfl c80
            replace ic80 : 1 ≤ r78.toInt := by omega
            have p88 : (1) ≤ (a7.toInt) ∧ (a7.toInt) ≤ (200000) := (tp_cond.yes hw79p) (by omega)
            clear hw79r ic80
            refine lv_iload hx hb dX12_cargo_59 (lv_at hl 8 rfl) ?_
            refine lv_i2l hx hb dX12_cargo_61 rfl ?_
            refine lv_lconst (v := 0) hx hb dX12_cargo_62 (by decide) ?_
            refine lv_ldc2 (own := RX12) (v := 1000) hx hb hown (hts (.constantLong RX12 122 (1000)) wa_271) dX12_cargo_63 ?_
            refine pz_calli (va_runS (As := [.long a8.toInt64, .long 0, .long 1000]) (rest := []) ⟨hx, hb, hml, hown, hts⟩ (t_X12_in l dC dI _ a8.toInt64 (0) (1000) (a8.toInt) (0) (1000) (Int32.toInt_toInt64 a8) rfl rfl) (va_cwS 3 hts gX12_cargo_X12_in rfl rfl rfl pd_X12_in ⟨Nat.le_of_ble_eq_true rfl, Nat.le_of_ble_eq_true rfl⟩) ⟨pz_blind, pz_pre pz_P0 (hK.sub (tys' := []) [] rfl) (pz_D0 (A := fun _ => True)) hN⟩ rfl rfl hl.1 rfl (lv_room (Nat.le_of_ble_eq_true rfl)) dX12_cargo_66 ⟨Nat.le_of_ble_eq_true rfl, Nat.le_of_ble_eq_true rfl⟩) (fun r89 hw90 => ?_)
            obtain ⟨hw90r, hw90p⟩ := hw90
            refine lv_if_ne (tgt := 78) hx hb dX12_cargo_69 (by decide) (fun c91 => ?_) (fun c91 => ?_)
            · have ic91 : r89.toInt ≠ 0 := zi_ne rfl rfl c91
              replace ic91 : 1 ≤ r89.toInt := by omega
              have p92 : (0) ≤ (a8.toInt) ∧ (a8.toInt) ≤ (1000) := (tp_cond.yes hw90p) (by omega)
              clear hw90r ic91
              refine lv_aload_n hx hb dX12_cargo_78 rfl (lv_at hl 0 rfl) ?_
              refine lv_iload_n hx hb dX12_cargo_79 rfl (lv_at hl 1 rfl) ?_
              refine tpk_pos (tp_in hG ht_h0 (by decide)) g32 (fun q93 eq93 => ?_)
              refine pz_calli (va_runV (As := [.int v]) (rest := []) ⟨hx, hb, hml, hown, hts⟩ (t_X12_isTerminal l dC dI _ κ Θ τ ν ρ L f30 hG hT h0 v (-1) 0 ht_h0 (by omega) (by rw [hf_33, mo_i1]; exact hI)) (cwV 1 hts gX12_cargo_X12_isTerminal rfl rfl rfl ⟨rfl, pd_X12_isTerminal⟩ ⟨Nat.le_of_ble_eq_true rfl, Nat.le_of_ble_eq_true rfl⟩) ⟨pz_blind, va_recv hK hP (ci := 12) (q0 := q93) rfl eq93, pz_pre hP hK hD hN⟩ rfl rfl hl.1 rfl (lv_room (Nat.le_of_ble_eq_true rfl)) dX12_cargo_80 ⟨Nat.le_of_ble_eq_true rfl, Nat.le_of_ble_eq_true rfl⟩) (fun r94 hw95 => ?_)
              obtain ⟨hw95r, hw95p⟩ := hw95
              have := hI.k0
              rw [hf_33, mo_i1] at hw95p
              refine lv_if_eq (tgt := 94) hx hb dX12_cargo_83 (by decide) (fun c96 => ?_) (fun c96 => ?_)
              · have ic96 : r94.toInt = 0 := zi_eq rfl rfl c96
                have p97 : ¬ (0 ≤ v.toInt ∧ v.toInt < mo_R g27 0) := (tp_cond.no hw95p) (by omega)
                clear hw95r ic96
                refine lv_aload_n hx hb dX12_cargo_94 rfl (lv_at hl 0 rfl) ?_
                refine lv_bipush (v := (-2)) hx hb dX12_cargo_95 (by decide) ?_
                have hFc := tp_fr hD hS hA
                refine va_calli (va_runV (As := [.int (-2)]) (rest := []) ⟨hx, hb, hml, hown, hts⟩ (t_X12_told l dC dI _ κ Θ τ ν ρ L f30 hG hT h0 ((-2)) ht_h0) (cwV 1 hts gX12_cargo_X12_told rfl rfl rfl ⟨rfl, pd_X12_told⟩ ⟨Nat.le_of_ble_eq_true rfl, Nat.le_of_ble_eq_true rfl⟩) ⟨pz_blind, va_recv hK hP (ci := 12) (q0 := q93) rfl eq93, pz_pre hP hK hD hN⟩ rfl rfl hl.1 rfl (lv_room (Nat.le_of_ble_eq_true rfl)) dX12_cargo_97 ⟨Nat.le_of_ble_eq_true rfl, Nat.le_of_ble_eq_true rfl⟩) hS (fun q _ h => hFc q h) hFc (fun r98 f100 t H1 locs ht hvm hw99 hB hz1 hk1 hS => ?_)
                refine tn_4 hw99 (fun hT hF101 hw99r hw99p => ?_); clear hw99
                have hR := hR.then hF101 (by decide)
                have hP := hB.1; rw [ht] at hP; have hD := tp_ad f100 hD; clear hB hFc hz1 hk1; subst ht; generalize t.heap = H at hP hS ⊢
                have hw99pq : r98.toInt = (-2) := by rw [hw99p]; rfl
                have hf_102 : f100 (ρ h0 2) = .inl (κ 0, 12967, .inl g27) := (hF101 _ (by rw [tp_iu y1]; decide)).trans hf_33
                exact W.iret (v := r98) hx hb hr (fun t ht hW => ⟨⟨r98, f100, rfl, ⟨hT, hR, trivial, ⟨(by rw [hf_102, mo_i1]; exact hI), (by rw [hf_102, mo_i1, hf_o26, mo_i1]; exact hKN), (by simp only [hf_102, hf_o26, mo_i1]; exact ⟨⟨fun q0 => by omega, fun q0 => ⟨fun q1 => by omega, fun q1 => ⟨fun q2 => by omega, fun q2 => ⟨fun q3 => by omega, fun q3 => (by omega)⟩⟩⟩⟩, ⟨fun q0 => by omega, fun q0 => ⟨fun q1 => by omega, fun q1 => ⟨fun q2 => by omega, fun q2 => ⟨fun q3 => by omega, fun q3 => (by omega)⟩⟩⟩⟩⟩)⟩⟩, by rw [ht]; exact hP, va_K.moved hW.alike hK, hD⟩, hS.F ht⟩) hS.2.2 dX12_cargo_100
              · have ic96 : r94.toInt ≠ 0 := zi_eqf rfl rfl c96
                replace ic96 : 1 ≤ r94.toInt := by omega
                have p103 : 0 ≤ v.toInt ∧ v.toInt < mo_R g27 0 := (tp_cond.yes hw95p) (by omega)
                clear hw95r ic96
                refine lv_aload_n hx hb dX12_cargo_86 rfl (lv_at hl 0 rfl) ?_
                refine lv_iload_n hx hb dX12_cargo_87 rfl (lv_at hl 2 rfl) ?_
                refine pz_calli (va_runV (As := [.int u]) (rest := []) ⟨hx, hb, hml, hown, hts⟩ (t_X12_isTerminal l dC dI _ κ Θ τ ν ρ L f30 hG hT h0 u (-1) 0 ht_h0 (by omega) (by rw [hf_33, mo_i1]; exact hI)) (cwV 1 hts gX12_cargo_X12_isTerminal rfl rfl rfl ⟨rfl, pd_X12_isTerminal⟩ ⟨Nat.le_of_ble_eq_true rfl, Nat.le_of_ble_eq_true rfl⟩) ⟨pz_blind, va_recv hK hP (ci := 12) (q0 := q93) rfl eq93, pz_pre hP hK hD hN⟩ rfl rfl hl.1 rfl (lv_room (Nat.le_of_ble_eq_true rfl)) dX12_cargo_88 ⟨Nat.le_of_ble_eq_true rfl, Nat.le_of_ble_eq_true rfl⟩) (fun r104 hw105 => ?_)
                obtain ⟨hw105r, hw105p⟩ := hw105
                have := hI.k0
                rw [hf_33, mo_i1] at hw105p
                refine lv_if_ne (tgt := 101) hx hb dX12_cargo_91 (by decide) (fun c106 => ?_) (fun c106 => ?_)
                · have ic106 : r104.toInt ≠ 0 := zi_ne rfl rfl c106
                  replace ic106 : 1 ≤ r104.toInt := by omega
                  have p107 : 0 ≤ u.toInt ∧ u.toInt < mo_R g27 0 := (tp_cond.yes hw105p) (by omega)
                  clear hw105r ic106
                  refine lv_iload_n hx hb dX12_cargo_101 rfl (lv_at hl 1 rfl) ?_
                  refine lv_iload_n hx hb dX12_cargo_102 rfl (lv_at hl 2 rfl) ?_
                  refine lv_icmp_ne (tgt := 113) hx hb dX12_cargo_103 (by decide) (fun c108 => ?_) (fun c108 => ?_)
                  · have ic108 : v.toInt ≠ u.toInt := zi_ne rfl rfl c108
                    refine lv_aload_n hx hb dX12_cargo_113 rfl (lv_at hl 0 rfl) ?_
                    refine va_get (D := (dC, dI)) (ci := 12) (v := .ref (ρ h0 2)) (C := RX12) (T := TX12) (N := 53) hx hb hts hfX12 hown hK hP q93 eq93 rfl 2 (by decide) (hts (.fieldLink RX12 7 "ColdShipsModel" "row" "[I") wa_148) (fun _ h9 => h9) rfl dX12_cargo_114 ?_
                    refine lv_bipush (v := 10) hx hb dX12_cargo_117 (by decide) ?_
                    refine tpk_pos (tp_in hG y1 (by decide)) hf_33 (fun q109 eq109 => ?_)
                    refine va_iald hx hb hK hP q109 0 eq109 rfl (vp_in_iff.mpr ⟨by decide, by decide⟩) dX12_cargo_119 ?_
                    refine lv_topi (fun z110 ez110 => ?_)
                    have jz110 : z110.toInt = mo_R g27 (10) := mo_rd ez110 (show (10 : Int32).toInt = (10) from by decide)
                    have kz110 := hI.k10
                    refine lv_bipush (v := 6) hx hb dX12_cargo_120 (by decide) ?_
                    refine lv_icmp_ne (tgt := 132) hx hb dX12_cargo_122 (by decide) (fun c111 => ?_) (fun c111 => ?_)
                    · have ic111 : z110.toInt ≠ 6 := zi_ne rfl rfl c111
                      replace ic111 : z110.toInt ≤ 5 := by omega
                      refine lv_sipush (v := 12919) hx hb dX12_cargo_132 (by decide) ?_
                      refine lv_bipush (v := 8) hx hb dX12_cargo_135 (by decide) ?_
                      refine lv_aload_n hx hb dX12_cargo_137 rfl (lv_at hl 0 rfl) ?_
                      refine va_get (D := (dC, dI)) (ci := 12) (v := .ref (ρ h0 2)) (C := RX12) (T := TX12) (N := 53) hx hb hts hfX12 hown hK hP q93 eq93 rfl 2 (by decide) (hts (.fieldLink RX12 7 "ColdShipsModel" "row" "[I") wa_148) (fun _ h9 => h9) rfl dX12_cargo_138 ?_
                      refine lv_bipush (v := 10) hx hb dX12_cargo_141 (by decide) ?_
                      refine va_iald hx hb hK hP q109 0 eq109 rfl (vp_in_iff.mpr ⟨by decide, by decide⟩) dX12_cargo_143 ?_
                      refine lv_topi (fun z112 ez112 => ?_)
                      have jz112 : z112.toInt = mo_R g27 (10) := mo_rd ez112 (show (10 : Int32).toInt = (10) from by decide)
                      have kz112 := hI.k10
                      have vz112 : z112.toInt = z110.toInt := jz112.trans (jz110).symm
                      refine lv_imul hx hb dX12_cargo_144 ?_
                      refine lv_topi (fun z113 ez113 => ?_)
                      have iz113 : z113.toInt = 8 * z112.toInt := zi_mul ez113 rfl rfl (by omega) (by omega)
                      refine lv_iadd hx hb dX12_cargo_145 ?_
                      refine lv_topi (fun z114 ez114 => ?_)
                      have iz114 : z114.toInt = 12919 + z113.toInt := zi_add ez114 rfl rfl (by omega) (by omega)
                      refine lv_istore (lv' := [(9, .int z114), (0, .ref h0), (1, .int v), (2, .int u), (3, .int a), (4, .int a4), (5, .int a5), (6, .int a6), (7, .int a7), (8, .int a8)]) hx hb dX12_cargo_146 hl (by decide) rfl (fun ls hl => ?_)
                      refine lv_aload_n hx hb dX12_cargo_148 rfl (lv_at hl 1 rfl) ?_
                      refine lv_iload hx hb dX12_cargo_149 (lv_at hl 0 rfl) ?_
                      refine lv_iload_n hx hb dX12_cargo_151 rfl (lv_at hl 2 rfl) ?_
                      refine lv_iload_n hx hb dX12_cargo_152 rfl (lv_at hl 3 rfl) ?_
                      refine lv_iload_n hx hb dX12_cargo_153 rfl (lv_at hl 4 rfl) ?_
                      refine lv_iload hx hb dX12_cargo_154 (lv_at hl 5 rfl) ?_
                      have hFc := tp_fr hD hS hA
                      refine va_callv (va_runV (As := [.int z114, .int v, .int u, .int a, .int a4]) (rest := []) ⟨hx, hb, hml, hown, hts⟩ (t_X12_addFour l dC dI _ κ Θ τ ν ρ L f30 hG hT h0 z114 v u a a4 ht_h0 (by first | decide | omega)) (cwV 5 hts gX12_cargo_X12_addFour rfl rfl rfl ⟨rfl, pd_X12_addFour⟩ ⟨Nat.le_of_ble_eq_true rfl, Nat.le_of_ble_eq_true rfl⟩) ⟨pz_blind, va_recv hK hP (ci := 12) (q0 := q93) rfl eq93, pz_pre hP hK hD hN⟩ rfl rfl hl.1 rfl (lv_room (Nat.le_of_ble_eq_true rfl)) dX12_cargo_156 ⟨Nat.le_of_ble_eq_true rfl, Nat.le_of_ble_eq_true rfl⟩) hS (fun q _ h => hFc q h) hFc (fun f117 t H1 locs ht hvm hw116 hB hz1 hk1 hS => ?_)
                      refine tn_3 hw116 (fun hT hF118 hw116p => ?_); clear hw116
                      have hR := hR.then hF118 (by decide)
                      have hP := hB.1; rw [ht] at hP; have hD := tp_ad f117 hD; clear hB hFc hz1 hk1; subst ht; generalize t.heap = H at hP hS ⊢
                      rw [hf_33, mo_i1] at hw116p
                      obtain ⟨Q1_118, Q2_118, Q3_118, u1_118, u2_118, u3_118, u4_118⟩ := hw116p
                      refine tpk_32 hT y1 (fun g120 hf_o119 => ?_)
                      rw [hf_o119, mo_i1] at u4_118
                      have hU : mo_U (mo_R g27) (Q1_118) (12919 + 8 * z110.toInt + 0) (v.toInt) := by have q9 := u1_118; rw [show z114.toInt = (12919 + 8 * z110.toInt + 0) by omega] at q9; exact q9
                      have hI := mo_w_cargo hI hU z110.toInt (0) (by omega) (by omega) (by omega)
                      have hKN := hKN.up hU (Or.inl (by omega))
                      have pn121 : Q1_118 (0) = n0x := (hU.ne (by omega) (by omega)).trans en0x.symm
                      have pn122 : Q1_118 (10) = z110.toInt := (hU.ne (by omega) (by omega)).trans (jz110).symm
                      have pn123 : Q1_118 (12919 + 8 * z110.toInt + 0) = v.toInt := hU.eq (by omega)
                      have hU : mo_U (Q1_118) (Q2_118) (12919 + 8 * z110.toInt + 1) (u.toInt) := by have q9 := u2_118; rw [show z114.toInt + 1 = (12919 + 8 * z110.toInt + 1) by omega] at q9; exact q9
                      have hI := mo_w_cargo hI hU z110.toInt (1) (by omega) (by omega) (by omega)
                      have hKN := hKN.up hU (Or.inl (by omega))
                      have pn124 : Q2_118 (0) = n0x := (hU.ne (by omega) (by omega)).trans pn121
                      have pn125 : Q2_118 (10) = z110.toInt := (hU.ne (by omega) (by omega)).trans pn122
                      have pn126 : Q2_118 (12919 + 8 * z110.toInt + 0) = v.toInt := (hU.ne (by omega) (by omega)).trans pn123
                      have pn127 : Q2_118 (12919 + 8 * z110.toInt + 1) = u.toInt := hU.eq (by omega)
                      have hU : mo_U (Q2_118) (Q3_118) (12919 + 8 * z110.toInt + 2) (a.toInt) := by have q9 := u3_118; rw [show z114.toInt + 2 = (12919 + 8 * z110.toInt + 2) by omega] at q9; exact q9
                      have hI := mo_w_cargo hI hU z110.toInt (2) (by omega) (by omega) (by omega)
                      have hKN := hKN.up hU (Or.inl (by omega))
                      have pn128 : Q3_118 (0) = n0x := (hU.ne (by omega) (by omega)).trans pn124
                      have pn129 : Q3_118 (10) = z110.toInt := (hU.ne (by omega) (by omega)).trans pn125
                      have pn130 : Q3_118 (12919 + 8 * z110.toInt + 0) = v.toInt := (hU.ne (by omega) (by omega)).trans pn126
                      have pn131 : Q3_118 (12919 + 8 * z110.toInt + 1) = u.toInt := (hU.ne (by omega) (by omega)).trans pn127
                      have hU : mo_U (Q3_118) (mo_R g120) (12919 + 8 * z110.toInt + 3) (a4.toInt) := by have q9 := u4_118; rw [show z114.toInt + 3 = (12919 + 8 * z110.toInt + 3) by omega] at q9; exact q9
                      have hI := mo_w_cargo hI hU z110.toInt (3) (by omega) (by omega) (by omega)
                      have hKN := hKN.up hU (Or.inl (by omega))
                      have pn132 : mo_R g120 (0) = n0x := (hU.ne (by omega) (by omega)).trans pn128
                      have pn133 : mo_R g120 (10) = z110.toInt := (hU.ne (by omega) (by omega)).trans pn129
                      have pn134 : mo_R g120 (12919 + 8 * z110.toInt + 0) = v.toInt := (hU.ne (by omega) (by omega)).trans pn130
                      have pn135 : mo_R g120 (12919 + 8 * z110.toInt + 1) = u.toInt := (hU.ne (by omega) (by omega)).trans pn131
                      refine lv_aload_n hx hb dX12_cargo_159 rfl (lv_at hl 1 rfl) ?_
                      refine lv_iload hx hb dX12_cargo_160 (lv_at hl 0 rfl) ?_
                      refine lv_iconst (v := 4) hx hb dX12_cargo_162 (by decide) ?_
                      refine lv_iadd hx hb dX12_cargo_163 ?_
                      refine lv_topi (fun z136 ez136 => ?_)
                      have iz136 : z136.toInt = z114.toInt + 4 := zi_add ez136 rfl rfl (by omega) (by omega)
                      refine lv_iload hx hb dX12_cargo_164 (lv_at hl 6 rfl) ?_
                      refine lv_iload hx hb dX12_cargo_166 (lv_at hl 7 rfl) ?_
                      refine lv_iload hx hb dX12_cargo_168 (lv_at hl 8 rfl) ?_
                      refine lv_iload hx hb dX12_cargo_170 (lv_at hl 9 rfl) ?_
                      have hf_137 : f117 h0 = .inr (12, [.int 0, .int o28_x1, .ref (ρ h0 2), .ref (ρ h0 3), .ref (ρ h0 4), .ref (ρ h0 5), .ref (ρ h0 6), .int o28_x7, .ref (ρ h0 8), .int o28_x9, .int o28_x10, .int o28_x11, .int o28_x12, .long o28_x13, .int o28_x14, .int o28_x15, .int o28_x16, .int o28_x17, .int o28_x18, .int o28_x19, .int o28_x20, .ref (ρ h0 21), .int o28_x22, .ref (ρ h0 23), .ref (ρ h0 24), .int o28_x25, .ref (ρ h0 26), .ref (ρ h0 27), .int o28_x28, .int o28_x29, .ref (ρ h0 30), .ref (ρ h0 31), .int o28_x32, .long o28_x33, .long o28_x34, .long o28_x35, .int o28_x36, .int o28_x37, .int o28_x38, .ref (ρ h0 39), .ref (ρ h0 40), .ref (ρ h0 41), .ref (ρ h0 42), .ref (ρ h0 43), .ref (ρ h0 44), .ref (ρ h0 45), .ref (ρ h0 46), .int o28_x47, .int o28_x48, .ref (ρ h0 49), .ref (ρ h0 50), .ref (ρ h0 51), .ref (ρ h0 52)]) := (hF118 _ (by rw [ht_h0]; decide)).trans g32
                      refine tpk_pos (tp_in hG ht_h0 (by decide)) hf_137 (fun q138 eq138 => ?_)
                      have hFc := tp_fr hD hS hA
                      refine va_callv (va_runV (As := [.int z136, .int a5, .int a6, .int a7, .int a8]) (rest := []) ⟨hx, hb, hml, hown, hts⟩ (t_X12_addFour l dC dI _ κ Θ τ ν ρ L f117 hG hT h0 z136 a5 a6 a7 a8 ht_h0 (by first | decide | omega)) (cwV 5 hts gX12_cargo_X12_addFour rfl rfl rfl ⟨rfl, pd_X12_addFour⟩ ⟨Nat.le_of_ble_eq_true rfl, Nat.le_of_ble_eq_true rfl⟩) ⟨pz_blind, va_recv hK hP (ci := 12) (q0 := q138) rfl eq138, pz_pre hP hK hD hN⟩ rfl rfl hl.1 rfl (lv_room (Nat.le_of_ble_eq_true rfl)) dX12_cargo_172 ⟨Nat.le_of_ble_eq_true rfl, Nat.le_of_ble_eq_true rfl⟩) hS (fun q _ h => hFc q h) hFc (fun f141 t H1 locs ht hvm hw140 hB hz1 hk1 hS => ?_)
                      refine tn_3 hw140 (fun hT hF142 hw140p => ?_); clear hw140
                      have hR := hR.then hF142 (by decide)
                      have hP := hB.1; rw [ht] at hP; have hD := tp_ad f141 hD; clear hB hFc hz1 hk1; subst ht; generalize t.heap = H at hP hS ⊢
                      rw [hf_o119, mo_i1] at hw140p
                      obtain ⟨Q1_142, Q2_142, Q3_142, u1_142, u2_142, u3_142, u4_142⟩ := hw140p
                      refine tpk_32 hT y1 (fun g144 hf_o143 => ?_)
                      rw [hf_o143, mo_i1] at u4_142
                      have hU : mo_U (mo_R g120) (Q1_142) (12919 + 8 * z110.toInt + 4) (a5.toInt) := by have q9 := u1_142; rw [show z136.toInt = (12919 + 8 * z110.toInt + 4) by omega] at q9; exact q9
                      have hI := mo_w_cargo hI hU z110.toInt (4) (by omega) (by omega) (by omega)
                      have hKN := hKN.up hU (Or.inl (by omega))
                      have pn145 : Q1_142 (0) = n0x := (hU.ne (by omega) (by omega)).trans pn132
                      have pn146 : Q1_142 (10) = z110.toInt := (hU.ne (by omega) (by omega)).trans pn133
                      have pn147 : Q1_142 (12919 + 8 * z110.toInt + 0) = v.toInt := (hU.ne (by omega) (by omega)).trans pn134
                      have pn148 : Q1_142 (12919 + 8 * z110.toInt + 1) = u.toInt := (hU.ne (by omega) (by omega)).trans pn135
                      have hU : mo_U (Q1_142) (Q2_142) (12919 + 8 * z110.toInt + 5) (a6.toInt) := by have q9 := u2_142; rw [show z136.toInt + 1 = (12919 + 8 * z110.toInt + 5) by omega] at q9; exact q9
                      have hI := mo_w_cargo hI hU z110.toInt (5) (by omega) (by omega) (by omega)
                      have hKN := hKN.up hU (Or.inl (by omega))
                      have pn149 : Q2_142 (0) = n0x := (hU.ne (by omega) (by omega)).trans pn145
                      have pn150 : Q2_142 (10) = z110.toInt := (hU.ne (by omega) (by omega)).trans pn146
                      have pn151 : Q2_142 (12919 + 8 * z110.toInt + 0) = v.toInt := (hU.ne (by omega) (by omega)).trans pn147
                      have pn152 : Q2_142 (12919 + 8 * z110.toInt + 1) = u.toInt := (hU.ne (by omega) (by omega)).trans pn148
                      have hU : mo_U (Q2_142) (Q3_142) (12919 + 8 * z110.toInt + 6) (a7.toInt) := by have q9 := u3_142; rw [show z136.toInt + 2 = (12919 + 8 * z110.toInt + 6) by omega] at q9; exact q9
                      have hI := mo_w_cargo hI hU z110.toInt (6) (by omega) (by omega) (by omega)
                      have hKN := hKN.up hU (Or.inl (by omega))
                      have pn153 : Q3_142 (0) = n0x := (hU.ne (by omega) (by omega)).trans pn149
                      have pn154 : Q3_142 (10) = z110.toInt := (hU.ne (by omega) (by omega)).trans pn150
                      have pn155 : Q3_142 (12919 + 8 * z110.toInt + 0) = v.toInt := (hU.ne (by omega) (by omega)).trans pn151
                      have pn156 : Q3_142 (12919 + 8 * z110.toInt + 1) = u.toInt := (hU.ne (by omega) (by omega)).trans pn152
                      have hU : mo_U (Q3_142) (mo_R g144) (12919 + 8 * z110.toInt + 7) (a8.toInt) := by have q9 := u4_142; rw [show z136.toInt + 3 = (12919 + 8 * z110.toInt + 7) by omega] at q9; exact q9
                      have hI := mo_w_cargo hI hU z110.toInt (7) (by omega) (by omega) (by omega)
                      have hKN := hKN.up hU (Or.inl (by omega))
                      have pn157 : mo_R g144 (0) = n0x := (hU.ne (by omega) (by omega)).trans pn153
                      have pn158 : mo_R g144 (10) = z110.toInt := (hU.ne (by omega) (by omega)).trans pn154
                      have pn159 : mo_R g144 (12919 + 8 * z110.toInt + 0) = v.toInt := (hU.ne (by omega) (by omega)).trans pn155
                      have pn160 : mo_R g144 (12919 + 8 * z110.toInt + 1) = u.toInt := (hU.ne (by omega) (by omega)).trans pn156
                      refine lv_aload_n hx hb dX12_cargo_175 rfl (lv_at hl 1 rfl) ?_
                      have hf_161 : f141 h0 = .inr (12, [.int 0, .int o28_x1, .ref (ρ h0 2), .ref (ρ h0 3), .ref (ρ h0 4), .ref (ρ h0 5), .ref (ρ h0 6), .int o28_x7, .ref (ρ h0 8), .int o28_x9, .int o28_x10, .int o28_x11, .int o28_x12, .long o28_x13, .int o28_x14, .int o28_x15, .int o28_x16, .int o28_x17, .int o28_x18, .int o28_x19, .int o28_x20, .ref (ρ h0 21), .int o28_x22, .ref (ρ h0 23), .ref (ρ h0 24), .int o28_x25, .ref (ρ h0 26), .ref (ρ h0 27), .int o28_x28, .int o28_x29, .ref (ρ h0 30), .ref (ρ h0 31), .int o28_x32, .long o28_x33, .long o28_x34, .long o28_x35, .int o28_x36, .int o28_x37, .int o28_x38, .ref (ρ h0 39), .ref (ρ h0 40), .ref (ρ h0 41), .ref (ρ h0 42), .ref (ρ h0 43), .ref (ρ h0 44), .ref (ρ h0 45), .ref (ρ h0 46), .int o28_x47, .int o28_x48, .ref (ρ h0 49), .ref (ρ h0 50), .ref (ρ h0 51), .ref (ρ h0 52)]) := (hF142 _ (by rw [ht_h0]; decide)).trans hf_137
                      refine tpk_pos (tp_in hG ht_h0 (by decide)) hf_161 (fun q162 eq162 => ?_)
                      refine va_get (D := (dC, dI)) (ci := 12) (v := .ref (ρ h0 2)) (C := RX12) (T := TX12) (N := 53) hx hb hts hfX12 hown hK hP q162 eq162 rfl 2 (by decide) (hts (.fieldLink RX12 7 "ColdShipsModel" "row" "[I") wa_148) (fun _ h9 => h9) rfl dX12_cargo_176 ?_
                      refine lv_bipush (v := 10) hx hb dX12_cargo_179 (by decide) ?_
                      refine lv_dup2_11 hx hb dX12_cargo_181 rfl rfl ?_
                      refine tpk_pos (tp_in hG y1 (by decide)) hf_o143 (fun q163 eq163 => ?_)
                      refine va_iald hx hb hK hP q163 0 eq163 rfl (vp_in_iff.mpr ⟨by decide, by decide⟩) dX12_cargo_182 ?_
                      refine lv_topi (fun z164 ez164 => ?_)
                      have jz164 : z164.toInt = mo_R g144 (10) := mo_rd ez164 (show (10 : Int32).toInt = (10) from by decide)
                      have kz164 := hI.k10
                      have vz164 : z164.toInt = z110.toInt := jz164.trans pn158
                      refine lv_iconst (v := 1) hx hb dX12_cargo_183 (by decide) ?_
                      refine lv_iadd hx hb dX12_cargo_184 ?_
                      refine lv_topi (fun z165 ez165 => ?_)
                      have iz165 : z165.toInt = z164.toInt + 1 := zi_add ez165 rfl rfl (by omega) (by omega)
                      refine va_iast hx hb hK hP hD hS q163 0 eq163 rfl (vp_in_iff.mpr ⟨by decide, by decide⟩) dX12_cargo_185 (tp_k (.inl (κ 0, 12967, .inl (upd g144 (10 : Int32).toNatClampNeg z165))) hD (tp_in hG y1 (by decide)) eq163 (fun f166 H locs hP hD hS g168 k167 => ?_))
                      have hT := hT.up y1 g168 k167 tp_o32
                      have hR := hR.up y1 (by decide) k167
                      have hU : mo_U (mo_R g144) (mo_R (upd g144 (10 : Int32).toNatClampNeg z165)) (10) (z165.toInt) := mo_up (show (10 : Int32).toInt = (10) from by decide) (rfl : z165.toInt = _) (by omega)
                      generalize (upd g144 (10 : Int32).toNatClampNeg z165) = g169 at g168 hU
                      have hI := mo_w_nA hI hU (z110.toInt) rfl pn158 (by omega) (by omega) (by omega)
                      have hKN := hKN.up hU (Or.inr (by show (10) = 10; omega))
                      have pn170 : mo_R g169 (0) = n0x := (hU.ne (by omega) (by omega)).trans pn157
                      have pn171 : mo_R g169 (12919 + 8 * z110.toInt + 0) = v.toInt := (hU.ne (by omega) (by omega)).trans pn159
                      have pn172 : mo_R g169 (12919 + 8 * z110.toInt + 1) = u.toInt := (hU.ne (by omega) (by omega)).trans pn160
                      have pn173 : mo_R g169 (10) = z165.toInt := hU.eq (by omega)
                      refine lv_aload_n hx hb dX12_cargo_186 rfl (lv_at hl 1 rfl) ?_
                      refine lv_aload_n hx hb dX12_cargo_187 rfl (lv_at hl 1 rfl) ?_
                      have hf_174 : f166 h0 = .inr (12, [.int 0, .int o28_x1, .ref (ρ h0 2), .ref (ρ h0 3), .ref (ρ h0 4), .ref (ρ h0 5), .ref (ρ h0 6), .int o28_x7, .ref (ρ h0 8), .int o28_x9, .int o28_x10, .int o28_x11, .int o28_x12, .long o28_x13, .int o28_x14, .int o28_x15, .int o28_x16, .int o28_x17, .int o28_x18, .int o28_x19, .int o28_x20, .ref (ρ h0 21), .int o28_x22, .ref (ρ h0 23), .ref (ρ h0 24), .int o28_x25, .ref (ρ h0 26), .ref (ρ h0 27), .int o28_x28, .int o28_x29, .ref (ρ h0 30), .ref (ρ h0 31), .int o28_x32, .long o28_x33, .long o28_x34, .long o28_x35, .int o28_x36, .int o28_x37, .int o28_x38, .ref (ρ h0 39), .ref (ρ h0 40), .ref (ρ h0 41), .ref (ρ h0 42), .ref (ρ h0 43), .ref (ρ h0 44), .ref (ρ h0 45), .ref (ρ h0 46), .int o28_x47, .int o28_x48, .ref (ρ h0 49), .ref (ρ h0 50), .ref (ρ h0 51), .ref (ρ h0 52)]) := (k167 _ (tp_ne ht_h0 y1 (by decide))).trans hf_161
                      refine tpk_pos (tp_in hG ht_h0 (by decide)) hf_174 (fun q175 eq175 => ?_)
                      refine va_get (D := (dC, dI)) (ci := 12) (v := .ref (ρ h0 2)) (C := RX12) (T := TX12) (N := 53) hx hb hts hfX12 hown hK hP q175 eq175 rfl 2 (by decide) (hts (.fieldLink RX12 7 "ColdShipsModel" "row" "[I") wa_148) (fun _ h9 => h9) rfl dX12_cargo_188 ?_
                      refine lv_bipush (v := 10) hx hb dX12_cargo_191 (by decide) ?_
                      refine tpk_pos (tp_in hG y1 (by decide)) g168 (fun q176 eq176 => ?_)
                      refine va_iald hx hb hK hP q176 0 eq176 rfl (vp_in_iff.mpr ⟨by decide, by decide⟩) dX12_cargo_193 ?_
                      refine lv_topi (fun z177 ez177 => ?_)
                      have jz177 : z177.toInt = mo_R g169 (10) := mo_rd ez177 (show (10 : Int32).toInt = (10) from by decide)
                      have kz177 := hI.k10
                      have vz177 : z177.toInt = z165.toInt := jz177.trans pn173
                      have hFc := tp_fr hD hS hA
                      refine va_calli (va_runV (As := [.int z177]) (rest := []) ⟨hx, hb, hml, hown, hts⟩ (t_X12_told l dC dI _ κ Θ τ ν ρ L f166 hG hT h0 z177 ht_h0) (cwV 1 hts gX12_cargo_X12_told rfl rfl rfl ⟨rfl, pd_X12_told⟩ ⟨Nat.le_of_ble_eq_true rfl, Nat.le_of_ble_eq_true rfl⟩) ⟨pz_blind, va_recv hK hP (ci := 12) (q0 := q175) rfl eq175, pz_pre hP hK hD hN⟩ rfl rfl hl.1 rfl (lv_room (Nat.le_of_ble_eq_true rfl)) dX12_cargo_194 ⟨Nat.le_of_ble_eq_true rfl, Nat.le_of_ble_eq_true rfl⟩) hS (fun q _ h => hFc q h) hFc (fun r178 f180 t H1 locs ht hvm hw179 hB hz1 hk1 hS => ?_)
                      refine tn_4 hw179 (fun hT hF181 hw179r hw179p => ?_); clear hw179
                      have hR := hR.then hF181 (by decide)
                      have hP := hB.1; rw [ht] at hP; have hD := tp_ad f180 hD; clear hB hFc hz1 hk1; subst ht; generalize t.heap = H at hP hS ⊢
                      have hw179pq : r178.toInt = z177.toInt := by rw [hw179p]
                      have hf_182 : f180 (ρ h0 2) = .inl (κ 0, 12967, .inl g169) := (hF181 _ (by rw [tp_iu y1]; decide)).trans g168
                      exact W.iret (v := r178) hx hb hr (fun t ht hW => ⟨⟨r178, f180, rfl, ⟨hT, hR, trivial, ⟨(by rw [hf_182, mo_i1]; exact hI), (by rw [hf_182, mo_i1, hf_o26, mo_i1]; exact hKN), (by simp only [hf_182, hf_o26, mo_i1]; exact ⟨⟨fun q0 => by omega, fun q0 => ⟨fun q1 => by omega, fun q1 => ⟨fun q2 => by omega, fun q2 => ⟨fun q3 => by omega, fun q3 => (by omega)⟩⟩⟩⟩, ⟨fun q0 => by omega, fun q0 => ⟨fun q1 => by omega, fun q1 => ⟨fun q2 => by omega, fun q2 => ⟨fun q3 => by omega, fun q3 => (by omega)⟩⟩⟩⟩⟩)⟩⟩, by rw [ht]; exact hP, va_K.moved hW.alike hK, hD⟩, hS.F ht⟩) hS.2.2 dX12_cargo_197
                    · have ic111 : z110.toInt = 6 := zi_nef rfl rfl c111
                      refine lv_aload_n hx hb dX12_cargo_125 rfl (lv_at hl 0 rfl) ?_
                      refine lv_bipush (v := (-5)) hx hb dX12_cargo_126 (by decide) ?_
                      have hFc := tp_fr hD hS hA
                      refine va_calli (va_runV (As := [.int (-5)]) (rest := []) ⟨hx, hb, hml, hown, hts⟩ (t_X12_told l dC dI _ κ Θ τ ν ρ L f30 hG hT h0 ((-5)) ht_h0) (cwV 1 hts gX12_cargo_X12_told rfl rfl rfl ⟨rfl, pd_X12_told⟩ ⟨Nat.le_of_ble_eq_true rfl, Nat.le_of_ble_eq_true rfl⟩) ⟨pz_blind, va_recv hK hP (ci := 12) (q0 := q93) rfl eq93, pz_pre hP hK hD hN⟩ rfl rfl hl.1 rfl (lv_room (Nat.le_of_ble_eq_true rfl)) dX12_cargo_128 ⟨Nat.le_of_ble_eq_true rfl, Nat.le_of_ble_eq_true rfl⟩) hS (fun q _ h => hFc q h) hFc (fun r183 f185 t H1 locs ht hvm hw184 hB hz1 hk1 hS => ?_)
                      refine tn_4 hw184 (fun hT hF186 hw184r hw184p => ?_); clear hw184
                      have hR := hR.then hF186 (by decide)
                      have hP := hB.1; rw [ht] at hP; have hD := tp_ad f185 hD; clear hB hFc hz1 hk1; subst ht; generalize t.heap = H at hP hS ⊢
                      have hw184pq : r183.toInt = (-5) := by rw [hw184p]; rfl
                      have hf_187 : f185 (ρ h0 2) = .inl (κ 0, 12967, .inl g27) := (hF186 _ (by rw [tp_iu y1]; decide)).trans hf_33
                      exact W.iret (v := r183) hx hb hr (fun t ht hW => ⟨⟨r183, f185, rfl, ⟨hT, hR, trivial, ⟨(by rw [hf_187, mo_i1]; exact hI), (by rw [hf_187, mo_i1, hf_o26, mo_i1]; exact hKN), (by simp only [hf_187, hf_o26, mo_i1]; exact ⟨⟨fun q0 => by omega, fun q0 => ⟨fun q1 => by omega, fun q1 => ⟨fun q2 => by omega, fun q2 => ⟨fun q3 => by omega, fun q3 => (by omega)⟩⟩⟩⟩, ⟨fun q0 => by omega, fun q0 => ⟨fun q1 => by omega, fun q1 => ⟨fun q2 => by omega, fun q2 => ⟨fun q3 => by omega, fun q3 => (by omega)⟩⟩⟩⟩⟩)⟩⟩, by rw [ht]; exact hP, va_K.moved hW.alike hK, hD⟩, hS.F ht⟩) hS.2.2 dX12_cargo_131
                  · have ic108 : v.toInt = u.toInt := zi_nef rfl rfl c108
                    refine lv_aload_n hx hb dX12_cargo_106 rfl (lv_at hl 0 rfl) ?_
                    refine lv_bipush (v := (-3)) hx hb dX12_cargo_107 (by decide) ?_
                    have hFc := tp_fr hD hS hA
                    refine va_calli (va_runV (As := [.int (-3)]) (rest := []) ⟨hx, hb, hml, hown, hts⟩ (t_X12_told l dC dI _ κ Θ τ ν ρ L f30 hG hT h0 ((-3)) ht_h0) (cwV 1 hts gX12_cargo_X12_told rfl rfl rfl ⟨rfl, pd_X12_told⟩ ⟨Nat.le_of_ble_eq_true rfl, Nat.le_of_ble_eq_true rfl⟩) ⟨pz_blind, va_recv hK hP (ci := 12) (q0 := q93) rfl eq93, pz_pre hP hK hD hN⟩ rfl rfl hl.1 rfl (lv_room (Nat.le_of_ble_eq_true rfl)) dX12_cargo_109 ⟨Nat.le_of_ble_eq_true rfl, Nat.le_of_ble_eq_true rfl⟩) hS (fun q _ h => hFc q h) hFc (fun r188 f190 t H1 locs ht hvm hw189 hB hz1 hk1 hS => ?_)
                    refine tn_4 hw189 (fun hT hF191 hw189r hw189p => ?_); clear hw189
                    have hR := hR.then hF191 (by decide)
                    have hP := hB.1; rw [ht] at hP; have hD := tp_ad f190 hD; clear hB hFc hz1 hk1; subst ht; generalize t.heap = H at hP hS ⊢
                    have hw189pq : r188.toInt = (-3) := by rw [hw189p]; rfl
                    have hf_192 : f190 (ρ h0 2) = .inl (κ 0, 12967, .inl g27) := (hF191 _ (by rw [tp_iu y1]; decide)).trans hf_33
                    exact W.iret (v := r188) hx hb hr (fun t ht hW => ⟨⟨r188, f190, rfl, ⟨hT, hR, trivial, ⟨(by rw [hf_192, mo_i1]; exact hI), (by rw [hf_192, mo_i1, hf_o26, mo_i1]; exact hKN), (by simp only [hf_192, hf_o26, mo_i1]; exact ⟨⟨fun q0 => by omega, fun q0 => ⟨fun q1 => by omega, fun q1 => ⟨fun q2 => by omega, fun q2 => ⟨fun q3 => by omega, fun q3 => (by omega)⟩⟩⟩⟩, ⟨fun q0 => by omega, fun q0 => ⟨fun q1 => by omega, fun q1 => ⟨fun q2 => by omega, fun q2 => ⟨fun q3 => by omega, fun q3 => (by omega)⟩⟩⟩⟩⟩)⟩⟩, by rw [ht]; exact hP, va_K.moved hW.alike hK, hD⟩, hS.F ht⟩) hS.2.2 dX12_cargo_112
                · have ic106 : r104.toInt = 0 := zi_nef rfl rfl c106
                  have p193 : ¬ (0 ≤ u.toInt ∧ u.toInt < mo_R g27 0) := (tp_cond.no hw105p) (by omega)
                  clear hw105r ic106
                  refine lv_aload_n hx hb dX12_cargo_94 rfl (lv_at hl 0 rfl) ?_
                  refine lv_bipush (v := (-2)) hx hb dX12_cargo_95 (by decide) ?_
                  have hFc := tp_fr hD hS hA
                  refine va_calli (va_runV (As := [.int (-2)]) (rest := []) ⟨hx, hb, hml, hown, hts⟩ (t_X12_told l dC dI _ κ Θ τ ν ρ L f30 hG hT h0 ((-2)) ht_h0) (cwV 1 hts gX12_cargo_X12_told rfl rfl rfl ⟨rfl, pd_X12_told⟩ ⟨Nat.le_of_ble_eq_true rfl, Nat.le_of_ble_eq_true rfl⟩) ⟨pz_blind, va_recv hK hP (ci := 12) (q0 := q93) rfl eq93, pz_pre hP hK hD hN⟩ rfl rfl hl.1 rfl (lv_room (Nat.le_of_ble_eq_true rfl)) dX12_cargo_97 ⟨Nat.le_of_ble_eq_true rfl, Nat.le_of_ble_eq_true rfl⟩) hS (fun q _ h => hFc q h) hFc (fun r194 f196 t H1 locs ht hvm hw195 hB hz1 hk1 hS => ?_)
                  refine tn_4 hw195 (fun hT hF197 hw195r hw195p => ?_); clear hw195
                  have hR := hR.then hF197 (by decide)
                  have hP := hB.1; rw [ht] at hP; have hD := tp_ad f196 hD; clear hB hFc hz1 hk1; subst ht; generalize t.heap = H at hP hS ⊢
                  have hw195pq : r194.toInt = (-2) := by rw [hw195p]; rfl
                  have hf_198 : f196 (ρ h0 2) = .inl (κ 0, 12967, .inl g27) := (hF197 _ (by rw [tp_iu y1]; decide)).trans hf_33
                  exact W.iret (v := r194) hx hb hr (fun t ht hW => ⟨⟨r194, f196, rfl, ⟨hT, hR, trivial, ⟨(by rw [hf_198, mo_i1]; exact hI), (by rw [hf_198, mo_i1, hf_o26, mo_i1]; exact hKN), (by simp only [hf_198, hf_o26, mo_i1]; exact ⟨⟨fun q0 => by omega, fun q0 => ⟨fun q1 => by omega, fun q1 => ⟨fun q2 => by omega, fun q2 => ⟨fun q3 => by omega, fun q3 => (by omega)⟩⟩⟩⟩, ⟨fun q0 => by omega, fun q0 => ⟨fun q1 => by omega, fun q1 => ⟨fun q2 => by omega, fun q2 => ⟨fun q3 => by omega, fun q3 => (by omega)⟩⟩⟩⟩⟩)⟩⟩, by rw [ht]; exact hP, va_K.moved hW.alike hK, hD⟩, hS.F ht⟩) hS.2.2 dX12_cargo_100
            · have ic91 : r89.toInt = 0 := zi_nef rfl rfl c91
              have p199 : ¬ ((0) ≤ (a8.toInt) ∧ (a8.toInt) ≤ (1000)) := (tp_cond.no hw90p) (by omega)
              clear hw90r ic91
              refine lv_aload_n hx hb dX12_cargo_72 rfl (lv_at hl 0 rfl) ?_
              refine lv_iconst (v := (-1)) hx hb dX12_cargo_73 (by decide) ?_
              refine tpk_pos (tp_in hG ht_h0 (by decide)) g32 (fun q200 eq200 => ?_)
              have hFc := tp_fr hD hS hA
              refine va_calli (va_runV (As := [.int (-1)]) (rest := []) ⟨hx, hb, hml, hown, hts⟩ (t_X12_told l dC dI _ κ Θ τ ν ρ L f30 hG hT h0 ((-1)) ht_h0) (cwV 1 hts gX12_cargo_X12_told rfl rfl rfl ⟨rfl, pd_X12_told⟩ ⟨Nat.le_of_ble_eq_true rfl, Nat.le_of_ble_eq_true rfl⟩) ⟨pz_blind, va_recv hK hP (ci := 12) (q0 := q200) rfl eq200, pz_pre hP hK hD hN⟩ rfl rfl hl.1 rfl (lv_room (Nat.le_of_ble_eq_true rfl)) dX12_cargo_74 ⟨Nat.le_of_ble_eq_true rfl, Nat.le_of_ble_eq_true rfl⟩) hS (fun q _ h => hFc q h) hFc (fun r201 f203 t H1 locs ht hvm hw202 hB hz1 hk1 hS => ?_)
              refine tn_4 hw202 (fun hT hF204 hw202r hw202p => ?_); clear hw202
              have hR := hR.then hF204 (by decide)
              have hP := hB.1; rw [ht] at hP; have hD := tp_ad f203 hD; clear hB hFc hz1 hk1; subst ht; generalize t.heap = H at hP hS ⊢
              have hw202pq : r201.toInt = (-1) := by rw [hw202p]; rfl
              have hf_205 : f203 (ρ h0 2) = .inl (κ 0, 12967, .inl g27) := (hF204 _ (by rw [tp_iu y1]; decide)).trans hf_33
              exact W.iret (v := r201) hx hb hr (fun t ht hW => ⟨⟨r201, f203, rfl, ⟨hT, hR, trivial, ⟨(by rw [hf_205, mo_i1]; exact hI), (by rw [hf_205, mo_i1, hf_o26, mo_i1]; exact hKN), (by simp only [hf_205, hf_o26, mo_i1]; exact ⟨⟨fun q0 => by omega, fun q0 => ⟨fun q1 => by omega, fun q1 => ⟨fun q2 => by omega, fun q2 => ⟨fun q3 => by omega, fun q3 => (by omega)⟩⟩⟩⟩, ⟨fun q0 => by omega, fun q0 => ⟨fun q1 => by omega, fun q1 => ⟨fun q2 => by omega, fun q2 => ⟨fun q3 => by omega, fun q3 => (by omega)⟩⟩⟩⟩⟩)⟩⟩, by rw [ht]; exact hP, va_K.moved hW.alike hK, hD⟩, hS.F ht⟩) hS.2.2 dX12_cargo_77
set_option maxHeartbeats 4000000 in
set_option maxRecDepth 100000 in
theorem t_X12_settled (l : Launch) (dC : Nat → ClassId) (dI : Nat → Nat → Nat) (sz : Nat) (κ : Nat → ClassId) (Θ : Nat → Option Int) (τ ν : Nat → Nat) (ρ : Nat → Nat → Nat) (L : List Nat) (f : Nat → va_E) (hG : tp_G τ ν ρ L) (hT : tp_T (mo_O κ Θ) κ τ ν ρ f) (h0 : Nat) (v : Int32) (u : Int32) (ht_h0 : τ h0 = 13) (hJ : mo_RI (-1) 0 (mo_R (mo_i (f (ρ h0 2))))) : Met l yX12_settled wqX12_settled ({ frames := 4, cells := 0, slots := 0, locals := 1200 }) (va_Pc [.ref h0, .int v, .int u] (pz_B dC dI (tp_K κ) (va_pl L f) sz)) (va_Ql (fun (r : Int64) (f1 : Nat → va_E) => tp_T (mo_O κ Θ) κ τ ν ρ f1 ∧ tp_F τ [13] f f1 ∧ True ∧ True) (fun (f1 : Nat → va_E) (t : State) => pz_E dC dI (tp_K κ) (va_A (va_pl L f) sz) (va_pl L f1) t) (va_A (va_pl L f) sz)) 0 0 (va_A (va_pl L f) sz) := by
  refine Met.ofW (cc := cX12_settled) (maxL := 4) (ret := some .long) (by decide) rfl ?_
  intro p e s m args below meth c s₁ B hml hv
  obtain ⟨rfl, hsz, hP, hK, hD0, hN⟩ := hv
  have hx := B.exec
  have hb := B.bytes
  have hr := B.returns
  have hts := fun (w : Cond) (h : w ∈ WALL) => atoms_spec (ws := wqX12_settled) B.pre w (List.mem_cons_of_mem _ h)
  have hown : s.vm.findClass RX12 = some m.cls := findClass_of_methodNamed B.named
  have hlocks := B.notSynchronized
  subst hsz
  have hD := hD0.self (sz := s.heap.size)
  generalize hAe : va_A (va_pl L f) s.heap.size = A at hD ⊢
  have hA : ∀ q : Nat, s.heap.size ≤ q → A q := fun q h => by rw [← hAe]; exact Or.inr h
  have hS : va_S A s.heap s.heap [] := va_S.rf
  have hR : tp_F τ [13] f f := tp_F.rf
  have hl := lv_entry ([.ref h0, .int v, .int u]) (n := 4) (Nat.le_of_ble_eq_true rfl)
  rw [lg_entry_eq]
  generalize (lg_sl ([.ref h0, .int v, .int u]) ++ List.replicate (4 - (lg_sl ([.ref h0, .int v, .int u])).length) Slot.unset).toArray = ls at hl ⊢
  have hl : lv_has ls 4 [(0, .ref h0), (1, .int v), (2, .int u)] := hl
  refine tgk_13 hG ht_h0 (fun y1 y2 y3 y4 y5 y6 y7 y8 y9 y10 y11 y12 y13 y14 y15 y16 y17 y18 y19 y20 y21 y22 y23 y24 y25 => ?_)
  refine tpk_32 hT y1 (fun g27 hf_o26 => ?_)
  have hI : mo_RI (-1) 0 (mo_R g27) := by have q9 := hJ; rw [hf_o26, mo_i1] at q9; exact q9
  refine lv_aload_n hx hb dX12_settled_0 rfl (lv_at hl 0 rfl) ?_
  refine lv_iconst (v := 0) hx hb dX12_settled_1 (by decide) ?_
  refine tpk_13 hT ht_h0 (fun o28_x0 o28_x1 o28_x7 o28_x9 o28_x10 o28_x11 o28_x12 o28_x13 o28_x14 o28_x15 o28_x16 o28_x17 o28_x18 o28_x19 o28_x20 o28_x22 o28_x25 o28_x28 o28_x29 o28_x32 o28_x33 o28_x34 o28_x35 o28_x36 o28_x37 o28_x38 o28_x47 o28_x48 hf_o28 ro28_0 ro28_1 ro28_2 ro28_3 ro28_4 ro28_5 ro28_6 ro28_7 ro28_8 ro28_9 ro28_10 ro28_11 ro28_12 ro28_13 ro28_14 => ?_)
  refine tpk_pos (tp_in hG ht_h0 (by decide)) hf_o28 (fun q29 eq29 => ?_)
  refine va_put (D := (dC, dI)) (ci := 12) (v := .int 0) (ty := .int) (C := RX12) (T := TX12) (N := 53) hx hb hts hfX12 tyX12 tyX12_ok nmX12 hown hK hP hD hS q29 eq29 rfl 0 (by decide) (hts (.fieldLink RX12 91 "ColdShipsModel" "thrown" "I") wa_209) (fun _ h9 => h9) rfl (tyX12_ok 0 (by decide)) rfl rfl (Nat.le_of_ble_eq_true rfl) dX12_settled_2 (tp_k (.inr (12, [.int 0, .int o28_x1, .ref (ρ h0 2), .ref (ρ h0 3), .ref (ρ h0 4), .ref (ρ h0 5), .ref (ρ h0 6), .int o28_x7, .ref (ρ h0 8), .int o28_x9, .int o28_x10, .int o28_x11, .int o28_x12, .long o28_x13, .int o28_x14, .int o28_x15, .int o28_x16, .int o28_x17, .int o28_x18, .int o28_x19, .int o28_x20, .ref (ρ h0 21), .int o28_x22, .ref (ρ h0 23), .ref (ρ h0 24), .int o28_x25, .ref (ρ h0 26), .ref (ρ h0 27), .int o28_x28, .int o28_x29, .ref (ρ h0 30), .ref (ρ h0 31), .int o28_x32, .long o28_x33, .long o28_x34, .long o28_x35, .int o28_x36, .int o28_x37, .int o28_x38, .ref (ρ h0 39), .ref (ρ h0 40), .ref (ρ h0 41), .ref (ρ h0 42), .ref (ρ h0 43), .ref (ρ h0 44), .ref (ρ h0 45), .ref (ρ h0 46), .int o28_x47, .int o28_x48, .ref (ρ h0 49), .ref (ρ h0 50), .ref (ρ h0 51), .ref (ρ h0 52)])) hD (tp_in hG ht_h0 (by decide)) eq29 (fun f30 H locs hP hD hS g32 k31 => ?_))
  have hT := hT.up ht_h0 g32 k31 ⟨_, _, _, _, _, _, _, _, _, _, _, _, _, _, _, _, _, _, _, _, _, _, _, _, _, _, _, _, rfl, ro28_0, ro28_1, ro28_2, ro28_3, ro28_4, ro28_5, ro28_6, ro28_7, ro28_8, ro28_9, ro28_10, ro28_11, ro28_12, ro28_13, ro28_14⟩
  have hR := hR.up ht_h0 (by decide) k31
  refine lv_aload_n hx hb dX12_settled_5 rfl (lv_at hl 0 rfl) ?_
  refine lv_iload_n hx hb dX12_settled_6 rfl (lv_at hl 1 rfl) ?_
  have hf_33 : f30 (ρ h0 2) = .inl (κ 0, 12967, .inl g27) := (k31 _ (tp_ne y1 ht_h0 (by decide))).trans hf_o26
  refine tpk_pos (tp_in hG ht_h0 (by decide)) g32 (fun q34 eq34 => ?_)
  refine pz_calli (va_runV (As := [.int v]) (rest := []) ⟨hx, hb, hml, hown, hts⟩ (t_X12_isLanding l dC dI _ κ Θ τ ν ρ L f30 hG hT h0 v (-1) 0 ht_h0 (by omega) (by rw [hf_33, mo_i1]; exact hI)) (cwV 1 hts gX12_settled_X12_isLanding rfl rfl rfl ⟨rfl, pd_X12_isLanding⟩ ⟨Nat.le_of_ble_eq_true rfl, Nat.le_of_ble_eq_true rfl⟩) ⟨pz_blind, va_recv hK hP (ci := 12) (q0 := q34) rfl eq34, pz_pre hP hK hD hN⟩ rfl rfl hl.1 rfl (lv_room (Nat.le_of_ble_eq_true rfl)) dX12_settled_7 ⟨Nat.le_of_ble_eq_true rfl, Nat.le_of_ble_eq_true rfl⟩) (fun r35 hw36 => ?_)
  obtain ⟨hw36r, hw36p⟩ := hw36
  have := hI.k5
  rw [hf_33, mo_i1] at hw36p
  refine lv_if_eq (tgt := 41) hx hb dX12_settled_10 (by decide) (fun c37 => ?_) (fun c37 => ?_)
  · have ic37 : r35.toInt = 0 := zi_eq rfl rfl c37
    clear hw36r ic37
    refine lv_ldc2 (own := RX12) (v := (-2000000000000000)) hx hb hown (hts (.constantLong RX12 466 (-2000000000000000)) wa_1189) dX12_settled_41 ?_
    exact W.lret (v := (-2000000000000000)) hx hb hr (fun t ht hW => ⟨⟨(-2000000000000000), f30, rfl, ⟨hT, hR, trivial, trivial⟩, by rw [ht]; exact hP, va_K.moved hW.alike hK, hD⟩, hS.F ht⟩) hS.2.2 dX12_settled_44
  · have ic37 : r35.toInt ≠ 0 := zi_eqf rfl rfl c37
    replace ic37 : 1 ≤ r35.toInt := by omega
    have p38 : 0 ≤ v.toInt ∧ v.toInt < mo_R g27 5 := (tp_cond.yes hw36p) (by omega)
    clear hw36r ic37
    refine lv_iload_n hx hb dX12_settled_13 rfl (lv_at hl 2 rfl) ?_
    refine lv_i2l hx hb dX12_settled_14 rfl ?_
    refine lv_lconst (v := 0) hx hb dX12_settled_15 (by decide) ?_
    refine lv_ldc2 (own := RX12) (v := 2) hx hb hown (hts (.constantLong RX12 477 (2)) wa_1250) dX12_settled_16 ?_
    refine pz_calli (va_runS (As := [.long u.toInt64, .long 0, .long 2]) (rest := []) ⟨hx, hb, hml, hown, hts⟩ (t_X12_in l dC dI _ u.toInt64 (0) (2) (u.toInt) (0) (2) (Int32.toInt_toInt64 u) rfl rfl) (va_cwS 3 hts gX12_settled_X12_in rfl rfl rfl pd_X12_in ⟨Nat.le_of_ble_eq_true rfl, Nat.le_of_ble_eq_true rfl⟩) ⟨pz_blind, pz_pre pz_P0 (hK.sub (tys' := []) [] rfl) (pz_D0 (A := fun _ => True)) hN⟩ rfl rfl hl.1 rfl (lv_room (Nat.le_of_ble_eq_true rfl)) dX12_settled_19 ⟨Nat.le_of_ble_eq_true rfl, Nat.le_of_ble_eq_true rfl⟩) (fun r39 hw40 => ?_)
    obtain ⟨hw40r, hw40p⟩ := hw40
    refine lv_if_eq (tgt := 41) hx hb dX12_settled_22 (by decide) (fun c41 => ?_) (fun c41 => ?_)
    · have ic41 : r39.toInt = 0 := zi_eq rfl rfl c41
      clear hw40r ic41
      refine lv_ldc2 (own := RX12) (v := (-2000000000000000)) hx hb hown (hts (.constantLong RX12 466 (-2000000000000000)) wa_1189) dX12_settled_41 ?_
      exact W.lret (v := (-2000000000000000)) hx hb hr (fun t ht hW => ⟨⟨(-2000000000000000), f30, rfl, ⟨hT, hR, trivial, trivial⟩, by rw [ht]; exact hP, va_K.moved hW.alike hK, hD⟩, hS.F ht⟩) hS.2.2 dX12_settled_44
    · have ic41 : r39.toInt ≠ 0 := zi_eqf rfl rfl c41
      replace ic41 : 1 ≤ r39.toInt := by omega
      have p42 : (0) ≤ (u.toInt) ∧ (u.toInt) ≤ (2) := (tp_cond.yes hw40p) (by omega)
      clear hw40r ic41
      refine lv_aload_n hx hb dX12_settled_25 rfl (lv_at hl 0 rfl) ?_
      refine va_get (D := (dC, dI)) (ci := 12) (v := .ref (ρ h0 2)) (C := RX12) (T := TX12) (N := 53) hx hb hts hfX12 hown hK hP q34 eq34 rfl 2 (by decide) (hts (.fieldLink RX12 7 "ColdShipsModel" "row" "[I") wa_148) (fun _ h9 => h9) rfl dX12_settled_26 ?_
      refine lv_iload_n hx hb dX12_settled_29 rfl (lv_at hl 1 rfl) ?_
      refine pz_calli (va_runS (As := [.int v]) (rest := [.ref (ρ h0 2)]) ⟨hx, hb, hml, hown, hts⟩ (t_X12_landingAt l dC dI _ v (v.toInt) (by omega) rfl) (va_cwS 1 hts gX12_settled_X12_landingAt rfl rfl rfl pd_X12_landingAt ⟨Nat.le_of_ble_eq_true rfl, Nat.le_of_ble_eq_true rfl⟩) ⟨pz_blind, pz_pre pz_P0 (hK.sub (tys' := []) [] rfl) (pz_D0 (A := fun _ => True)) hN⟩ rfl rfl hl.1 rfl (lv_room (Nat.le_of_ble_eq_true rfl)) dX12_settled_30 ⟨Nat.le_of_ble_eq_true rfl, Nat.le_of_ble_eq_true rfl⟩) (fun r43 hw44 => ?_)
      obtain ⟨hw44r, hw44p⟩ := hw44
      refine lv_bipush (v := 12) hx hb dX12_settled_33 (by decide) ?_
      refine lv_iadd hx hb dX12_settled_35 ?_
      refine lv_topi (fun z45 ez45 => ?_)
      have iz45 : z45.toInt = r43.toInt + 12 := zi_add ez45 rfl rfl (by omega) (by omega)
      refine tpk_pos (tp_in hG y1 (by decide)) hf_33 (fun q46 eq46 => ?_)
      refine va_iald hx hb hK hP q46 0 eq46 rfl (vp_in_iff.mpr ⟨by omega, by omega⟩) dX12_settled_36 ?_
      refine lv_topi (fun z47 ez47 => ?_)
      refine lv_iconst (v := (-1)) hx hb dX12_settled_37 (by decide) ?_
      refine lv_icmp_ne (tgt := 45) hx hb dX12_settled_38 (by decide) (fun c48 => ?_) (fun c48 => ?_)
      · have ic48 : z47.toInt ≠ (-1) := zi_ne rfl rfl c48
        refine lv_iload_n hx hb dX12_settled_45 rfl (lv_at hl 1 rfl) ?_
        refine pz_calli (va_runS (As := [.int v]) (rest := []) ⟨hx, hb, hml, hown, hts⟩ (t_X12_landingAt l dC dI _ v (v.toInt) (by omega) rfl) (va_cwS 1 hts gX12_settled_X12_landingAt rfl rfl rfl pd_X12_landingAt ⟨Nat.le_of_ble_eq_true rfl, Nat.le_of_ble_eq_true rfl⟩) ⟨pz_blind, pz_pre pz_P0 (hK.sub (tys' := []) [] rfl) (pz_D0 (A := fun _ => True)) hN⟩ rfl rfl hl.1 rfl (lv_room (Nat.le_of_ble_eq_true rfl)) dX12_settled_46 ⟨Nat.le_of_ble_eq_true rfl, Nat.le_of_ble_eq_true rfl⟩) (fun r49 hw50 => ?_)
        obtain ⟨hw50r, hw50p⟩ := hw50
        refine lv_istore_n (lv' := [(3, .int r49), (0, .ref h0), (1, .int v), (2, .int u)]) hx hb dX12_settled_49 rfl hl (by decide) rfl (fun ls hl => ?_)
        refine lv_iload_n hx hb dX12_settled_50 rfl (lv_at hl 3 rfl) ?_
        refine lv_if_ne (tgt := 85) hx hb dX12_settled_51 (by decide) (fun c51 => ?_) (fun c51 => ?_)
        · have ic51 : u.toInt ≠ 0 := zi_ne rfl rfl c51
          replace ic51 : 1 ≤ u.toInt := by omega
          refine lv_aload_n hx hb dX12_settled_85 rfl (lv_at hl 1 rfl) ?_
          refine va_get (D := (dC, dI)) (ci := 12) (v := .ref (ρ h0 2)) (C := RX12) (T := TX12) (N := 53) hx hb hts hfX12 hown hK hP q34 eq34 rfl 2 (by decide) (hts (.fieldLink RX12 7 "ColdShipsModel" "row" "[I") wa_148) (fun _ h9 => h9) rfl dX12_settled_86 ?_
          refine lv_iload_n hx hb dX12_settled_89 rfl (lv_at hl 0 rfl) ?_
          refine lv_bipush (v := 11) hx hb dX12_settled_90 (by decide) ?_
          refine lv_iadd hx hb dX12_settled_92 ?_
          refine lv_topi (fun z52 ez52 => ?_)
          have iz52 : z52.toInt = r49.toInt + 11 := zi_add ez52 rfl rfl (by omega) (by omega)
          refine lv_iload_n hx hb dX12_settled_93 rfl (lv_at hl 3 rfl) ?_
          refine lv_iadd hx hb dX12_settled_94 ?_
          refine lv_topi (fun z53 ez53 => ?_)
          have iz53 : z53.toInt = z52.toInt + u.toInt := zi_add ez53 rfl rfl (by omega) (by omega)
          refine va_iald hx hb hK hP q46 0 eq46 rfl (vp_in_iff.mpr ⟨by omega, by omega⟩) dX12_settled_95 ?_
          refine lv_topi (fun z54 ez54 => ?_)
          refine lv_i2l hx hb dX12_settled_96 rfl ?_
          exact W.lret (v := z54.toInt64) hx hb hr (fun t ht hW => ⟨⟨z54.toInt64, f30, rfl, ⟨hT, hR, trivial, trivial⟩, by rw [ht]; exact hP, va_K.moved hW.alike hK, hD⟩, hS.F ht⟩) hS.2.2 dX12_settled_97
        · have ic51 : u.toInt = 0 := zi_nef rfl rfl c51
          refine lv_aload_n hx hb dX12_settled_54 rfl (lv_at hl 1 rfl) ?_
          refine va_get (D := (dC, dI)) (ci := 12) (v := .ref (ρ h0 2)) (C := RX12) (T := TX12) (N := 53) hx hb hts hfX12 hown hK hP q34 eq34 rfl 2 (by decide) (hts (.fieldLink RX12 7 "ColdShipsModel" "row" "[I") wa_148) (fun _ h9 => h9) rfl dX12_settled_55 ?_
          refine lv_iload_n hx hb dX12_settled_58 rfl (lv_at hl 0 rfl) ?_
          refine lv_bipush (v := 14) hx hb dX12_settled_59 (by decide) ?_
          refine lv_iadd hx hb dX12_settled_61 ?_
          refine lv_topi (fun z55 ez55 => ?_)
          have iz55 : z55.toInt = r49.toInt + 14 := zi_add ez55 rfl rfl (by omega) (by omega)
          refine va_iald hx hb hK hP q46 0 eq46 rfl (vp_in_iff.mpr ⟨by omega, by omega⟩) dX12_settled_62 ?_
          refine lv_topi (fun z56 ez56 => ?_)
          refine lv_i2l hx hb dX12_settled_63 rfl ?_
          refine lv_bipush (v := 32) hx hb dX12_settled_64 (by decide) ?_
          refine lv_lshl hx hb dX12_settled_66 rfl ?_
          refine lv_topl (fun z57 ez57 => ?_)
          refine lv_aload_n hx hb dX12_settled_67 rfl (lv_at hl 1 rfl) ?_
          refine va_get (D := (dC, dI)) (ci := 12) (v := .ref (ρ h0 2)) (C := RX12) (T := TX12) (N := 53) hx hb hts hfX12 hown hK hP q34 eq34 rfl 2 (by decide) (hts (.fieldLink RX12 7 "ColdShipsModel" "row" "[I") wa_148) (fun _ h9 => h9) rfl dX12_settled_68 ?_
          refine lv_iload_n hx hb dX12_settled_71 rfl (lv_at hl 0 rfl) ?_
          refine lv_bipush (v := 15) hx hb dX12_settled_72 (by decide) ?_
          refine lv_iadd hx hb dX12_settled_74 ?_
          refine lv_topi (fun z58 ez58 => ?_)
          have iz58 : z58.toInt = r49.toInt + 15 := zi_add ez58 rfl rfl (by omega) (by omega)
          refine va_iald hx hb hK hP q46 0 eq46 rfl (vp_in_iff.mpr ⟨by omega, by omega⟩) dX12_settled_75 ?_
          refine lv_topi (fun z59 ez59 => ?_)
          refine lv_i2l hx hb dX12_settled_76 rfl ?_
          refine lv_ldc2 (own := RX12) (v := 4294967295) hx hb hown (hts (.constantLong RX12 479 (4294967295)) wa_1251) dX12_settled_77 ?_
          refine lv_land hx hb dX12_settled_80 ?_
          refine lv_topl (fun z60 ez60 => ?_)
          refine lv_lor hx hb dX12_settled_81 ?_
          refine lv_topl (fun z61 ez61 => ?_)
          refine lv_goto (tgt := 97) hx hb dX12_settled_82 (by decide) ?_
          exact W.lret (v := z61) hx hb hr (fun t ht hW => ⟨⟨z61, f30, rfl, ⟨hT, hR, trivial, trivial⟩, by rw [ht]; exact hP, va_K.moved hW.alike hK, hD⟩, hS.F ht⟩) hS.2.2 dX12_settled_97
      · have ic48 : z47.toInt = (-1) := zi_nef rfl rfl c48
        refine lv_ldc2 (own := RX12) (v := (-2000000000000000)) hx hb hown (hts (.constantLong RX12 466 (-2000000000000000)) wa_1189) dX12_settled_41 ?_
        exact W.lret (v := (-2000000000000000)) hx hb hr (fun t ht hW => ⟨⟨(-2000000000000000), f30, rfl, ⟨hT, hR, trivial, trivial⟩, by rw [ht]; exact hP, va_K.moved hW.alike hK, hD⟩, hS.F ht⟩) hS.2.2 dX12_settled_44
set_option maxHeartbeats 4000000 in
set_option maxRecDepth 100000 in
theorem t_X12_voyage (l : Launch) (dC : Nat → ClassId) (dI : Nat → Nat → Nat) (sz : Nat) (κ : Nat → ClassId) (Θ : Nat → Option Int) (τ ν : Nat → Nat) (ρ : Nat → Nat → Nat) (L : List Nat) (f : Nat → va_E) (hG : tp_G τ ν ρ L) (hT : tp_T (mo_O κ Θ) κ τ ν ρ f) (h0 : Nat) (v : Int32) (u : Int32) (ht_h0 : τ h0 = 13) (hJ : mo_RI (-1) 0 (mo_R (mo_i (f (ρ h0 2))))) : Met l yX12_voyage wqX12_voyage ({ frames := 3, cells := 0, slots := 0, locals := 800 }) (va_Pc [.ref h0, .int v, .int u] (pz_B dC dI (tp_K κ) (va_pl L f) sz)) (va_Ql (fun (r : Int64) (f1 : Nat → va_E) => tp_T (mo_O κ Θ) κ τ ν ρ f1 ∧ tp_F τ [13] f f1 ∧ True ∧ True) (fun (f1 : Nat → va_E) (t : State) => pz_E dC dI (tp_K κ) (va_A (va_pl L f) sz) (va_pl L f1) t) (va_A (va_pl L f) sz)) 0 0 (va_A (va_pl L f) sz) := by
  refine Met.ofW (cc := cX12_voyage) (maxL := 3) (ret := some .long) (by decide) rfl ?_
  intro p e s m args below meth c s₁ B hml hv
  obtain ⟨rfl, hsz, hP, hK, hD0, hN⟩ := hv
  have hx := B.exec
  have hb := B.bytes
  have hr := B.returns
  have hts := fun (w : Cond) (h : w ∈ WALL) => atoms_spec (ws := wqX12_voyage) B.pre w (List.mem_cons_of_mem _ h)
  have hown : s.vm.findClass RX12 = some m.cls := findClass_of_methodNamed B.named
  have hlocks := B.notSynchronized
  subst hsz
  have hD := hD0.self (sz := s.heap.size)
  generalize hAe : va_A (va_pl L f) s.heap.size = A at hD ⊢
  have hA : ∀ q : Nat, s.heap.size ≤ q → A q := fun q h => by rw [← hAe]; exact Or.inr h
  have hS : va_S A s.heap s.heap [] := va_S.rf
  have hR : tp_F τ [13] f f := tp_F.rf
  have hl := lv_entry ([.ref h0, .int v, .int u]) (n := 3) (Nat.le_of_ble_eq_true rfl)
  rw [lg_entry_eq]
  generalize (lg_sl ([.ref h0, .int v, .int u]) ++ List.replicate (3 - (lg_sl ([.ref h0, .int v, .int u])).length) Slot.unset).toArray = ls at hl ⊢
  have hl : lv_has ls 3 [(0, .ref h0), (1, .int v), (2, .int u)] := hl
  refine tgk_13 hG ht_h0 (fun y1 y2 y3 y4 y5 y6 y7 y8 y9 y10 y11 y12 y13 y14 y15 y16 y17 y18 y19 y20 y21 y22 y23 y24 y25 => ?_)
  refine tpk_32 hT y1 (fun g27 hf_o26 => ?_)
  have hI : mo_RI (-1) 0 (mo_R g27) := by have q9 := hJ; rw [hf_o26, mo_i1] at q9; exact q9
  refine lv_aload_n hx hb dX12_voyage_0 rfl (lv_at hl 0 rfl) ?_
  refine lv_iconst (v := 0) hx hb dX12_voyage_1 (by decide) ?_
  refine tpk_13 hT ht_h0 (fun o28_x0 o28_x1 o28_x7 o28_x9 o28_x10 o28_x11 o28_x12 o28_x13 o28_x14 o28_x15 o28_x16 o28_x17 o28_x18 o28_x19 o28_x20 o28_x22 o28_x25 o28_x28 o28_x29 o28_x32 o28_x33 o28_x34 o28_x35 o28_x36 o28_x37 o28_x38 o28_x47 o28_x48 hf_o28 ro28_0 ro28_1 ro28_2 ro28_3 ro28_4 ro28_5 ro28_6 ro28_7 ro28_8 ro28_9 ro28_10 ro28_11 ro28_12 ro28_13 ro28_14 => ?_)
  refine tpk_pos (tp_in hG ht_h0 (by decide)) hf_o28 (fun q29 eq29 => ?_)
  refine va_put (D := (dC, dI)) (ci := 12) (v := .int 0) (ty := .int) (C := RX12) (T := TX12) (N := 53) hx hb hts hfX12 tyX12 tyX12_ok nmX12 hown hK hP hD hS q29 eq29 rfl 0 (by decide) (hts (.fieldLink RX12 91 "ColdShipsModel" "thrown" "I") wa_209) (fun _ h9 => h9) rfl (tyX12_ok 0 (by decide)) rfl rfl (Nat.le_of_ble_eq_true rfl) dX12_voyage_2 (tp_k (.inr (12, [.int 0, .int o28_x1, .ref (ρ h0 2), .ref (ρ h0 3), .ref (ρ h0 4), .ref (ρ h0 5), .ref (ρ h0 6), .int o28_x7, .ref (ρ h0 8), .int o28_x9, .int o28_x10, .int o28_x11, .int o28_x12, .long o28_x13, .int o28_x14, .int o28_x15, .int o28_x16, .int o28_x17, .int o28_x18, .int o28_x19, .int o28_x20, .ref (ρ h0 21), .int o28_x22, .ref (ρ h0 23), .ref (ρ h0 24), .int o28_x25, .ref (ρ h0 26), .ref (ρ h0 27), .int o28_x28, .int o28_x29, .ref (ρ h0 30), .ref (ρ h0 31), .int o28_x32, .long o28_x33, .long o28_x34, .long o28_x35, .int o28_x36, .int o28_x37, .int o28_x38, .ref (ρ h0 39), .ref (ρ h0 40), .ref (ρ h0 41), .ref (ρ h0 42), .ref (ρ h0 43), .ref (ρ h0 44), .ref (ρ h0 45), .ref (ρ h0 46), .int o28_x47, .int o28_x48, .ref (ρ h0 49), .ref (ρ h0 50), .ref (ρ h0 51), .ref (ρ h0 52)])) hD (tp_in hG ht_h0 (by decide)) eq29 (fun f30 H locs hP hD hS g32 k31 => ?_))
  have hT := hT.up ht_h0 g32 k31 ⟨_, _, _, _, _, _, _, _, _, _, _, _, _, _, _, _, _, _, _, _, _, _, _, _, _, _, _, _, rfl, ro28_0, ro28_1, ro28_2, ro28_3, ro28_4, ro28_5, ro28_6, ro28_7, ro28_8, ro28_9, ro28_10, ro28_11, ro28_12, ro28_13, ro28_14⟩
  have hR := hR.up ht_h0 (by decide) k31
  refine lv_aload_n hx hb dX12_voyage_5 rfl (lv_at hl 0 rfl) ?_
  refine tpk_pos (tp_in hG ht_h0 (by decide)) g32 (fun q33 eq33 => ?_)
  have ro28_12 := tp_hu ro28_12
  refine va_get (D := (dC, dI)) (ci := 12) (v := .int o28_x47) (C := RX12) (T := TX12) (N := 53) hx hb hts hfX12 hown hK hP q33 eq33 rfl 47 (by decide) (hts (.fieldLink RX12 538 "ColdShipsModel" "hasBest" "Z") wa_1459) (fun _ h9 => h9) rfl dX12_voyage_6 ?_
  refine lv_if_eq (tgt := 53) hx hb dX12_voyage_9 (by decide) (fun c34 => ?_) (fun c34 => ?_)
  · have ic34 : o28_x47.toInt = 0 := zi_eq rfl rfl c34
    refine lv_ldc2 (own := RX12) (v := (-2000000000000000)) hx hb hown (hts (.constantLong RX12 466 (-2000000000000000)) wa_1189) dX12_voyage_53 ?_
    exact W.lret (v := (-2000000000000000)) hx hb hr (fun t ht hW => ⟨⟨(-2000000000000000), f30, rfl, ⟨hT, hR, trivial, trivial⟩, by rw [ht]; exact hP, va_K.moved hW.alike hK, hD⟩, hS.F ht⟩) hS.2.2 dX12_voyage_56
  · have ic34 : o28_x47.toInt ≠ 0 := zi_eqf rfl rfl c34
    replace ic34 : 1 ≤ o28_x47.toInt := by omega
    refine lv_iload_n hx hb dX12_voyage_12 rfl (lv_at hl 1 rfl) ?_
    refine lv_i2l hx hb dX12_voyage_13 rfl ?_
    refine lv_lconst (v := 0) hx hb dX12_voyage_14 (by decide) ?_
    refine lv_aload_n hx hb dX12_voyage_15 rfl (lv_at hl 0 rfl) ?_
    have ro28_13 := tp_hu ro28_13
    refine va_get (D := (dC, dI)) (ci := 12) (v := .int o28_x48) (C := RX12) (T := TX12) (N := 53) hx hb hts hfX12 hown hK hP q33 eq33 rfl 48 (by decide) (hts (.fieldLink RX12 541 "ColdShipsModel" "bestCargoes" "I") wa_1460) (fun _ h9 => h9) rfl dX12_voyage_16 ?_
    refine lv_i2l hx hb dX12_voyage_19 rfl ?_
    refine lv_lconst (v := 1) hx hb dX12_voyage_20 (by decide) ?_
    refine lv_lsub hx hb dX12_voyage_21 ?_
    refine lv_topl (fun z35 ez35 => ?_)
    have iz35 : z35.toInt = o28_x48.toInt - 1 := zl_sub ez35 (Int32.toInt_toInt64 o28_x48) rfl (by omega) (by omega)
    have hf_36 : f30 (ρ h0 2) = .inl (κ 0, 12967, .inl g27) := (k31 _ (tp_ne y1 ht_h0 (by decide))).trans hf_o26
    refine pz_calli (va_runS (As := [.long v.toInt64, .long 0, .long z35]) (rest := []) ⟨hx, hb, hml, hown, hts⟩ (t_X12_in l dC dI _ v.toInt64 (0) z35 (v.toInt) (0) (z35.toInt) (Int32.toInt_toInt64 v) rfl rfl) (va_cwS 3 hts gX12_voyage_X12_in rfl rfl rfl pd_X12_in ⟨Nat.le_of_ble_eq_true rfl, Nat.le_of_ble_eq_true rfl⟩) ⟨pz_blind, pz_pre pz_P0 (hK.sub (tys' := []) [] rfl) (pz_D0 (A := fun _ => True)) hN⟩ rfl rfl hl.1 rfl (lv_room (Nat.le_of_ble_eq_true rfl)) dX12_voyage_22 ⟨Nat.le_of_ble_eq_true rfl, Nat.le_of_ble_eq_true rfl⟩) (fun r37 hw38 => ?_)
    obtain ⟨hw38r, hw38p⟩ := hw38
    refine lv_if_eq (tgt := 53) hx hb dX12_voyage_25 (by decide) (fun c39 => ?_) (fun c39 => ?_)
    · have ic39 : r37.toInt = 0 := zi_eq rfl rfl c39
      clear hw38r ic39
      refine lv_ldc2 (own := RX12) (v := (-2000000000000000)) hx hb hown (hts (.constantLong RX12 466 (-2000000000000000)) wa_1189) dX12_voyage_53 ?_
      exact W.lret (v := (-2000000000000000)) hx hb hr (fun t ht hW => ⟨⟨(-2000000000000000), f30, rfl, ⟨hT, hR, trivial, trivial⟩, by rw [ht]; exact hP, va_K.moved hW.alike hK, hD⟩, hS.F ht⟩) hS.2.2 dX12_voyage_56
    · have ic39 : r37.toInt ≠ 0 := zi_eqf rfl rfl c39
      replace ic39 : 1 ≤ r37.toInt := by omega
      have p40 : (0) ≤ (v.toInt) ∧ (v.toInt) ≤ (z35.toInt) := (tp_cond.yes hw38p) (by omega)
      clear hw38r ic39
      refine lv_iload_n hx hb dX12_voyage_28 rfl (lv_at hl 2 rfl) ?_
      refine lv_i2l hx hb dX12_voyage_29 rfl ?_
      refine lv_lconst (v := 0) hx hb dX12_voyage_30 (by decide) ?_
      refine lv_ldc2 (own := RX12) (v := 4) hx hb hown (hts (.constantLong RX12 464 (4)) wa_1188) dX12_voyage_31 ?_
      refine pz_calli (va_runS (As := [.long u.toInt64, .long 0, .long 4]) (rest := []) ⟨hx, hb, hml, hown, hts⟩ (t_X12_in l dC dI _ u.toInt64 (0) (4) (u.toInt) (0) (4) (Int32.toInt_toInt64 u) rfl rfl) (va_cwS 3 hts gX12_voyage_X12_in rfl rfl rfl pd_X12_in ⟨Nat.le_of_ble_eq_true rfl, Nat.le_of_ble_eq_true rfl⟩) ⟨pz_blind, pz_pre pz_P0 (hK.sub (tys' := []) [] rfl) (pz_D0 (A := fun _ => True)) hN⟩ rfl rfl hl.1 rfl (lv_room (Nat.le_of_ble_eq_true rfl)) dX12_voyage_34 ⟨Nat.le_of_ble_eq_true rfl, Nat.le_of_ble_eq_true rfl⟩) (fun r41 hw42 => ?_)
      obtain ⟨hw42r, hw42p⟩ := hw42
      refine lv_if_eq (tgt := 53) hx hb dX12_voyage_37 (by decide) (fun c43 => ?_) (fun c43 => ?_)
      · have ic43 : r41.toInt = 0 := zi_eq rfl rfl c43
        clear hw42r ic43
        refine lv_ldc2 (own := RX12) (v := (-2000000000000000)) hx hb hown (hts (.constantLong RX12 466 (-2000000000000000)) wa_1189) dX12_voyage_53 ?_
        exact W.lret (v := (-2000000000000000)) hx hb hr (fun t ht hW => ⟨⟨(-2000000000000000), f30, rfl, ⟨hT, hR, trivial, trivial⟩, by rw [ht]; exact hP, va_K.moved hW.alike hK, hD⟩, hS.F ht⟩) hS.2.2 dX12_voyage_56
      · have ic43 : r41.toInt ≠ 0 := zi_eqf rfl rfl c43
        replace ic43 : 1 ≤ r41.toInt := by omega
        have p44 : (0) ≤ (u.toInt) ∧ (u.toInt) ≤ (4) := (tp_cond.yes hw42p) (by omega)
        clear hw42r ic43
        refine lv_aload_n hx hb dX12_voyage_40 rfl (lv_at hl 0 rfl) ?_
        refine va_get (D := (dC, dI)) (ci := 12) (v := .ref (ρ h0 50)) (C := RX12) (T := TX12) (N := 53) hx hb hts hfX12 hown hK hP q33 eq33 rfl 50 (by decide) (hts (.fieldLink RX12 82 "ColdShipsModel" "bestTold" "[J") wa_172) (fun _ h9 => h9) rfl dX12_voyage_41 ?_
        refine lv_iconst (v := 5) hx hb dX12_voyage_44 (by decide) ?_
        refine lv_iload_n hx hb dX12_voyage_45 rfl (lv_at hl 1 rfl) ?_
        refine lv_imul hx hb dX12_voyage_46 ?_
        refine lv_topi (fun z45 ez45 => ?_)
        have iz45 : z45.toInt = 5 * v.toInt := zi_mul ez45 rfl rfl (by omega) (by omega)
        refine lv_iload_n hx hb dX12_voyage_47 rfl (lv_at hl 2 rfl) ?_
        refine lv_iadd hx hb dX12_voyage_48 ?_
        refine lv_topi (fun z46 ez46 => ?_)
        have iz46 : z46.toInt = z45.toInt + u.toInt := zi_add ez46 rfl rfl (by omega) (by omega)
        refine tpk_80 hT y23 (fun g48 hf_o47 => ?_)
        refine tpk_pos (tp_in hG y23 (by decide)) hf_o47 (fun q49 eq49 => ?_)
        refine va_lald hx hb hK hP q49 1 eq49 rfl (vp_in_iff.mpr ⟨by omega, by omega⟩) dX12_voyage_49 ?_
        refine lv_topl (fun z50 ez50 => ?_)
        refine lv_goto (tgt := 56) hx hb dX12_voyage_50 (by decide) ?_
        exact W.lret (v := z50) hx hb hr (fun t ht hW => ⟨⟨z50, f30, rfl, ⟨hT, hR, trivial, trivial⟩, by rw [ht]; exact hP, va_K.moved hW.alike hK, hD⟩, hS.F ht⟩) hS.2.2 dX12_voyage_56
set_option maxHeartbeats 4000000 in
set_option maxRecDepth 100000 in
theorem t_X12_end (l : Launch) (dC : Nat → ClassId) (dI : Nat → Nat → Nat) (sz : Nat) (κ : Nat → ClassId) (Θ : Nat → Option Int) (τ ν : Nat → Nat) (ρ : Nat → Nat → Nat) (L : List Nat) (f : Nat → va_E) (hG : tp_G τ ν ρ L) (hT : tp_T (mo_O κ Θ) κ τ ν ρ f) (h0 : Nat) (v : Int32) (ht_h0 : τ h0 = 13) (hJ : mo_RI (-1) 0 (mo_R (mo_i (f (ρ h0 2))))) (hTn : Θ h0 = none) : Met l yX12_end wqX12_end ({ frames := 2, cells := 0, slots := 0, locals := 400 }) (va_Pc [.ref h0, .int v] (pz_B dC dI (tp_K κ) (va_pl L f) sz)) (va_Qi (fun (r : Int32) (f1 : Nat → va_E) => tp_T (mo_O κ Θ) κ τ ν ρ f1 ∧ tp_F τ [13] f f1 ∧ True ∧ ((0 ≤ v.toInt ∧ v.toInt ≤ (tp_fld (f h0) 9)) → r.toInt = v.toInt ∧ (tp_fld (f1 h0) 9) = v.toInt) ∧ (¬ (0 ≤ v.toInt ∧ v.toInt ≤ (tp_fld (f h0) 9)) → r.toInt = -1 ∧ (tp_fld (f1 h0) 9) = (tp_fld (f h0) 9))) (fun (f1 : Nat → va_E) (t : State) => pz_E dC dI (tp_K κ) (va_A (va_pl L f) sz) (va_pl L f1) t) (va_A (va_pl L f) sz)) 0 0 (va_A (va_pl L f) sz) := by
  refine Met.ofW (cc := cX12_end) (maxL := 2) (ret := some .int) (by decide) rfl ?_
  intro p e s m args below meth c s₁ B hml hv
  obtain ⟨rfl, hsz, hP, hK, hD0, hN⟩ := hv
  have hx := B.exec
  have hb := B.bytes
  have hr := B.returns
  have hts := fun (w : Cond) (h : w ∈ WALL) => atoms_spec (ws := wqX12_end) B.pre w (List.mem_cons_of_mem _ h)
  have hown : s.vm.findClass RX12 = some m.cls := findClass_of_methodNamed B.named
  have hlocks := B.notSynchronized
  subst hsz
  have hD := hD0.self (sz := s.heap.size)
  generalize hAe : va_A (va_pl L f) s.heap.size = A at hD ⊢
  have hA : ∀ q : Nat, s.heap.size ≤ q → A q := fun q h => by rw [← hAe]; exact Or.inr h
  have hS : va_S A s.heap s.heap [] := va_S.rf
  have hR : tp_F τ [13] f f := tp_F.rf
  have hl := lv_entry ([.ref h0, .int v]) (n := 2) (Nat.le_of_ble_eq_true rfl)
  rw [lg_entry_eq]
  generalize (lg_sl ([.ref h0, .int v]) ++ List.replicate (2 - (lg_sl ([.ref h0, .int v])).length) Slot.unset).toArray = ls at hl ⊢
  have hl : lv_has ls 2 [(0, .ref h0), (1, .int v)] := hl
  refine tgk_13 hG ht_h0 (fun y1 y2 y3 y4 y5 y6 y7 y8 y9 y10 y11 y12 y13 y14 y15 y16 y17 y18 y19 y20 y21 y22 y23 y24 y25 => ?_)
  refine tpk_32 hT y1 (fun g27 hf_o26 => ?_)
  have hI : mo_RI (-1) 0 (mo_R g27) := by have q9 := hJ; rw [hf_o26, mo_i1] at q9; exact q9
  refine tpk_13 hT ht_h0 (fun o28_x0 o28_x1 o28_x7 o28_x9 o28_x10 o28_x11 o28_x12 o28_x13 o28_x14 o28_x15 o28_x16 o28_x17 o28_x18 o28_x19 o28_x20 o28_x22 o28_x25 o28_x28 o28_x29 o28_x32 o28_x33 o28_x34 o28_x35 o28_x36 o28_x37 o28_x38 o28_x47 o28_x48 hf_o28 ro28_0 ro28_1 ro28_2 ro28_3 ro28_4 ro28_5 ro28_6 ro28_7 ro28_8 ro28_9 ro28_10 ro28_11 ro28_12 ro28_13 ro28_14 => ?_)
  have tf29 : mo_hd (tp_fld (f h0) 9 = o28_x9.toInt) := tff_9 hf_o28
  refine lv_aload_n hx hb dX12_end_0 rfl (lv_at hl 0 rfl) ?_
  refine lv_iconst (v := 0) hx hb dX12_end_1 (by decide) ?_
  refine tpk_pos (tp_in hG ht_h0 (by decide)) hf_o28 (fun q30 eq30 => ?_)
  refine va_put (D := (dC, dI)) (ci := 12) (v := .int 0) (ty := .int) (C := RX12) (T := TX12) (N := 53) hx hb hts hfX12 tyX12 tyX12_ok nmX12 hown hK hP hD hS q30 eq30 rfl 0 (by decide) (hts (.fieldLink RX12 91 "ColdShipsModel" "thrown" "I") wa_209) (fun _ h9 => h9) rfl (tyX12_ok 0 (by decide)) rfl rfl (Nat.le_of_ble_eq_true rfl) dX12_end_2 (tp_k (.inr (12, [.int 0, .int o28_x1, .ref (ρ h0 2), .ref (ρ h0 3), .ref (ρ h0 4), .ref (ρ h0 5), .ref (ρ h0 6), .int o28_x7, .ref (ρ h0 8), .int o28_x9, .int o28_x10, .int o28_x11, .int o28_x12, .long o28_x13, .int o28_x14, .int o28_x15, .int o28_x16, .int o28_x17, .int o28_x18, .int o28_x19, .int o28_x20, .ref (ρ h0 21), .int o28_x22, .ref (ρ h0 23), .ref (ρ h0 24), .int o28_x25, .ref (ρ h0 26), .ref (ρ h0 27), .int o28_x28, .int o28_x29, .ref (ρ h0 30), .ref (ρ h0 31), .int o28_x32, .long o28_x33, .long o28_x34, .long o28_x35, .int o28_x36, .int o28_x37, .int o28_x38, .ref (ρ h0 39), .ref (ρ h0 40), .ref (ρ h0 41), .ref (ρ h0 42), .ref (ρ h0 43), .ref (ρ h0 44), .ref (ρ h0 45), .ref (ρ h0 46), .int o28_x47, .int o28_x48, .ref (ρ h0 49), .ref (ρ h0 50), .ref (ρ h0 51), .ref (ρ h0 52)])) hD (tp_in hG ht_h0 (by decide)) eq30 (fun f31 H locs hP hD hS g33 k32 => ?_))
  have hT := hT.up ht_h0 g33 k32 ⟨_, _, _, _, _, _, _, _, _, _, _, _, _, _, _, _, _, _, _, _, _, _, _, _, _, _, _, _, rfl, ro28_0, ro28_1, ro28_2, ro28_3, ro28_4, ro28_5, ro28_6, ro28_7, ro28_8, ro28_9, ro28_10, ro28_11, ro28_12, ro28_13, ro28_14⟩
  have hR := hR.up ht_h0 (by decide) k32
  refine lv_iload_n hx hb dX12_end_5 rfl (lv_at hl 1 rfl) ?_
  refine lv_if_lt (tgt := 17) hx hb dX12_end_6 (by decide) (fun c34 => ?_) (fun c34 => ?_)
  · have ic34 : v.toInt < 0 := zi_lt rfl rfl c34
    refine lv_iconst (v := (-1)) hx hb dX12_end_17 (by decide) ?_
    have tf35 : mo_hd (tp_fld (f31 h0) 9 = o28_x9.toInt) := tff_9 g33
    have ro28_1 := tp_hu ro28_1; have ro28_14 := tp_hu ro28_14
    exact W.iret (v := (-1)) hx hb hr (fun t ht hW => ⟨⟨(-1), f31, rfl, ⟨hT, hR, trivial, (by first | (simp only [(mo_un tf29), (mo_un tf35), mo_i1, mo_l1]; exact (show ((0 ≤ v.toInt ∧ v.toInt ≤ o28_x9.toInt) → ((-1) : Int32).toInt = v.toInt ∧ o28_x9.toInt = v.toInt) ∧ (¬ (0 ≤ v.toInt ∧ v.toInt ≤ o28_x9.toInt) → ((-1) : Int32).toInt = -1 ∧ o28_x9.toInt = o28_x9.toInt) from by have q8 : ((-1) : Int32).toInt = (-1) := rfl; first | omega | decide)) | (rw [(mo_un tf29), (mo_un tf35)]; exact (show ((0 ≤ v.toInt ∧ v.toInt ≤ o28_x9.toInt) → ((-1) : Int32).toInt = v.toInt ∧ o28_x9.toInt = v.toInt) ∧ (¬ (0 ≤ v.toInt ∧ v.toInt ≤ o28_x9.toInt) → ((-1) : Int32).toInt = -1 ∧ o28_x9.toInt = o28_x9.toInt) from by have q8 : ((-1) : Int32).toInt = (-1) := rfl; first | omega | decide)))⟩, by rw [ht]; exact hP, va_K.moved hW.alike hK, hD⟩, hS.F ht⟩) hS.2.2 dX12_end_18
  · have ic34 : v.toInt ≥ 0 := zi_ltf rfl rfl c34
    refine lv_iload_n hx hb dX12_end_9 rfl (lv_at hl 1 rfl) ?_
    refine lv_aload_n hx hb dX12_end_10 rfl (lv_at hl 0 rfl) ?_
    refine tpk_pos (tp_in hG ht_h0 (by decide)) g33 (fun q36 eq36 => ?_)
    have ro28_1 := tp_hu ro28_1; have ro28_14 := tp_hu ro28_14
    refine va_get (D := (dC, dI)) (ci := 12) (v := .int o28_x9) (C := RX12) (T := TX12) (N := 53) hx hb hts hfX12 hown hK hP q36 eq36 rfl 9 (by decide) (hts (.fieldLink RX12 252 "ColdShipsModel" "taped" "I") wa_774) (fun _ h9 => h9) rfl dX12_end_11 ?_
    refine lv_icmp_le (tgt := 19) hx hb dX12_end_14 (by decide) (fun c37 => ?_) (fun c37 => ?_)
    · have ic37 : v.toInt ≤ o28_x9.toInt := zi_le rfl rfl c37
      refine lv_aload_n hx hb dX12_end_19 rfl (lv_at hl 0 rfl) ?_
      refine lv_iload_n hx hb dX12_end_20 rfl (lv_at hl 1 rfl) ?_
      refine va_put (D := (dC, dI)) (ci := 12) (v := .int v) (ty := .int) (C := RX12) (T := TX12) (N := 53) hx hb hts hfX12 tyX12 tyX12_ok nmX12 hown hK hP hD hS q36 eq36 rfl 9 (by decide) (hts (.fieldLink RX12 252 "ColdShipsModel" "taped" "I") wa_774) (fun _ h9 => h9) rfl (tyX12_ok 9 (by decide)) rfl rfl (Nat.le_of_ble_eq_true rfl) dX12_end_21 (tp_k (.inr (12, [.int 0, .int o28_x1, .ref (ρ h0 2), .ref (ρ h0 3), .ref (ρ h0 4), .ref (ρ h0 5), .ref (ρ h0 6), .int o28_x7, .ref (ρ h0 8), .int v, .int o28_x10, .int o28_x11, .int o28_x12, .long o28_x13, .int o28_x14, .int o28_x15, .int o28_x16, .int o28_x17, .int o28_x18, .int o28_x19, .int o28_x20, .ref (ρ h0 21), .int o28_x22, .ref (ρ h0 23), .ref (ρ h0 24), .int o28_x25, .ref (ρ h0 26), .ref (ρ h0 27), .int o28_x28, .int o28_x29, .ref (ρ h0 30), .ref (ρ h0 31), .int o28_x32, .long o28_x33, .long o28_x34, .long o28_x35, .int o28_x36, .int o28_x37, .int o28_x38, .ref (ρ h0 39), .ref (ρ h0 40), .ref (ρ h0 41), .ref (ρ h0 42), .ref (ρ h0 43), .ref (ρ h0 44), .ref (ρ h0 45), .ref (ρ h0 46), .int o28_x47, .int o28_x48, .ref (ρ h0 49), .ref (ρ h0 50), .ref (ρ h0 51), .ref (ρ h0 52)])) hD (tp_in hG ht_h0 (by decide)) eq36 (fun f38 H locs hP hD hS g40 k39 => ?_))
      have hT := hT.up ht_h0 g40 k39 ⟨_, _, _, _, _, _, _, _, _, _, _, _, _, _, _, _, _, _, _, _, _, _, _, _, _, _, _, _, rfl, ro28_0, (by omega), ro28_2, ro28_3, ro28_4, ro28_5, ro28_6, ro28_7, ro28_8, ro28_9, ro28_10, ro28_11, ro28_12, ro28_13, (by rw [hTn]; exact mo_tx.nn)⟩
      have hR := hR.up ht_h0 (by decide) k39
      refine lv_iload_n hx hb dX12_end_24 rfl (lv_at hl 1 rfl) ?_
      have tf41 : mo_hd (tp_fld (f38 h0) 9 = v.toInt) := tff_9 g40
      exact W.iret (v := v) hx hb hr (fun t ht hW => ⟨⟨v, f38, rfl, ⟨hT, hR, trivial, (by first | (simp only [(mo_un tf29), (mo_un tf41), mo_i1, mo_l1]; exact (show ((0 ≤ v.toInt ∧ v.toInt ≤ o28_x9.toInt) → v.toInt = v.toInt ∧ v.toInt = v.toInt) ∧ (¬ (0 ≤ v.toInt ∧ v.toInt ≤ o28_x9.toInt) → v.toInt = -1 ∧ v.toInt = o28_x9.toInt) from by first | omega | decide)) | (rw [(mo_un tf29), (mo_un tf41)]; exact (show ((0 ≤ v.toInt ∧ v.toInt ≤ o28_x9.toInt) → v.toInt = v.toInt ∧ v.toInt = v.toInt) ∧ (¬ (0 ≤ v.toInt ∧ v.toInt ≤ o28_x9.toInt) → v.toInt = -1 ∧ v.toInt = o28_x9.toInt) from by first | omega | decide)))⟩, by rw [ht]; exact hP, va_K.moved hW.alike hK, hD⟩, hS.F ht⟩) hS.2.2 dX12_end_25
    · have ic37 : v.toInt > o28_x9.toInt := zi_lef rfl rfl c37
      refine lv_iconst (v := (-1)) hx hb dX12_end_17 (by decide) ?_
      have tf42 : mo_hd (tp_fld (f31 h0) 9 = o28_x9.toInt) := tff_9 g33
      exact W.iret (v := (-1)) hx hb hr (fun t ht hW => ⟨⟨(-1), f31, rfl, ⟨hT, hR, trivial, (by first | (simp only [(mo_un tf29), (mo_un tf42), mo_i1, mo_l1]; exact (show ((0 ≤ v.toInt ∧ v.toInt ≤ o28_x9.toInt) → ((-1) : Int32).toInt = v.toInt ∧ o28_x9.toInt = v.toInt) ∧ (¬ (0 ≤ v.toInt ∧ v.toInt ≤ o28_x9.toInt) → ((-1) : Int32).toInt = -1 ∧ o28_x9.toInt = o28_x9.toInt) from by have q8 : ((-1) : Int32).toInt = (-1) := rfl; first | omega | decide)) | (rw [(mo_un tf29), (mo_un tf42)]; exact (show ((0 ≤ v.toInt ∧ v.toInt ≤ o28_x9.toInt) → ((-1) : Int32).toInt = v.toInt ∧ o28_x9.toInt = v.toInt) ∧ (¬ (0 ≤ v.toInt ∧ v.toInt ≤ o28_x9.toInt) → ((-1) : Int32).toInt = -1 ∧ o28_x9.toInt = o28_x9.toInt) from by have q8 : ((-1) : Int32).toInt = (-1) := rfl; first | omega | decide)))⟩, by rw [ht]; exact hP, va_K.moved hW.alike hK, hD⟩, hS.F ht⟩) hS.2.2 dX12_end_18
end
section
set_option maxHeartbeats 4000000 in
set_option maxRecDepth 100000 in
theorem t_X12_four (l : Launch) (dC : Nat → ClassId) (dI : Nat → Nat → Nat) (sz : Nat) (κ : Nat → ClassId) (Θ : Nat → Option Int) (τ ν : Nat → Nat) (ρ : Nat → Nat → Nat) (L : List Nat) (f : Nat → va_E) (hG : tp_G τ ν ρ L) (hT : tp_T (mo_O κ Θ) κ τ ν ρ f) (h0 : Nat) (v : Int32) (ht_h0 : τ h0 = 13) (hTn : Θ h0 = none) (h9 : (tp_fld (f h0) 9) ≤ 396) : Met l yX12_four wqX12_four ({ frames := 2, cells := 0, slots := 0, locals := 400 }) (va_Pc [.ref h0, .int v] (pz_B dC dI (tp_K κ) (va_pl L f) sz)) (va_Qv (fun (f1 : Nat → va_E) => tp_T (mo_O κ Θ) κ τ ν ρ f1 ∧ tp_F τ [13, 38] f f1 ∧ (tp_fld (f1 h0) 9) = (tp_fld (f h0) 9) + 4) (fun (f1 : Nat → va_E) (t : State) => pz_E dC dI (tp_K κ) (va_A (va_pl L f) sz) (va_pl L f1) t) (va_A (va_pl L f) sz)) 0 0 (va_A (va_pl L f) sz) := by
  refine Met.ofW (cc := cX12_four) (maxL := 3) (ret := none) (by decide) rfl ?_
  intro p e s m args below meth c s₁ B hml hv
  obtain ⟨rfl, hsz, hP, hK, hD0, hN⟩ := hv
  have hx := B.exec
  have hb := B.bytes
  have hr := B.returns
  have hts := fun (w : Cond) (h : w ∈ WALL) => atoms_spec (ws := wqX12_four) B.pre w (List.mem_cons_of_mem _ h)
  have hown : s.vm.findClass RX12 = some m.cls := findClass_of_methodNamed B.named
  have hlocks := B.notSynchronized
  subst hsz
  have hD := hD0.self (sz := s.heap.size)
  generalize hAe : va_A (va_pl L f) s.heap.size = A at hD ⊢
  have hA : ∀ q : Nat, s.heap.size ≤ q → A q := fun q h => by rw [← hAe]; exact Or.inr h
  have hS : va_S A s.heap s.heap [] := va_S.rf
  have hR : tp_F τ [13, 38] f f := tp_F.rf
  have hl := lv_entry ([.ref h0, .int v]) (n := 3) (Nat.le_of_ble_eq_true rfl)
  rw [lg_entry_eq]
  generalize (lg_sl ([.ref h0, .int v]) ++ List.replicate (3 - (lg_sl ([.ref h0, .int v])).length) Slot.unset).toArray = ls at hl ⊢
  have hl : lv_has ls 3 [(0, .ref h0), (1, .int v)] := hl
  refine tgk_13 hG ht_h0 (fun y1 y2 y3 y4 y5 y6 y7 y8 y9 y10 y11 y12 y13 y14 y15 y16 y17 y18 y19 y20 y21 y22 y23 y24 y25 => ?_)
  refine tpk_13 hT ht_h0 (fun o26_x0 o26_x1 o26_x7 o26_x9 o26_x10 o26_x11 o26_x12 o26_x13 o26_x14 o26_x15 o26_x16 o26_x17 o26_x18 o26_x19 o26_x20 o26_x22 o26_x25 o26_x28 o26_x29 o26_x32 o26_x33 o26_x34 o26_x35 o26_x36 o26_x37 o26_x38 o26_x47 o26_x48 hf_o26 ro26_0 ro26_1 ro26_2 ro26_3 ro26_4 ro26_5 ro26_6 ro26_7 ro26_8 ro26_9 ro26_10 ro26_11 ro26_12 ro26_13 ro26_14 => ?_)
  have tf27 : mo_hd (tp_fld (f h0) 9 = o26_x9.toInt) := tff_9 hf_o26
  have ro26_1 := tp_hu ro26_1; have ro26_14 := tp_hu ro26_14
  replace h9 : o26_x9.toInt ≤ 396 := by have q9 := h9; first | (simp only [(mo_un tf27), mo_i1, mo_l1] at q9; exact q9) | (rw [(mo_un tf27)] at q9; exact q9)
  refine lv_bipush (v := 24) hx hb dX12_four_0 (by decide) ?_
  refine lv_istore_n (lv' := [(2, .int 24), (0, .ref h0), (1, .int v)]) hx hb dX12_four_2 rfl hl (by decide) rfl (fun ls hl => ?_)
  refine pz_loop (fun n0 H locs ls => ∃ f29 : Nat → va_E, ∃ w28 : Int32, n0 = ((w28.toInt) + 8).toNat ∧ tp_T (mo_O κ Θ) κ τ ν ρ f29 ∧ tp_F τ [13, 38] f f29 ∧ ((4 * 2 * (tp_fld (f29 h0) 9) = 8 * o26_x9.toInt + 24 - (w28.toInt))) ∧ (((tp_fld (f29 h0) 9) ≤ 400)) ∧ ((-8) ≤ w28.toInt ∧ w28.toInt ≤ 24) ∧ va_P (dC, dI) vwCl (va_pl L f29) H ∧ va_D A (va_pl L f29) ∧ va_S A s.heap H locs ∧ lv_has ls 3 [(2, .int w28), (0, .ref h0), (1, .int v)]) ?_ _ _ _ _ ⟨f, 24, rfl, hT, hR, (by first | (simp only [(mo_un tf27), mo_i1, mo_l1]; exact (show 4 * 2 * o26_x9.toInt = 8 * o26_x9.toInt + 24 - (24 : Int32).toInt from by have : (24 : Int32).toInt = 24 := rfl; first | omega | decide)) | (rw [(mo_un tf27)]; exact (show 4 * 2 * o26_x9.toInt = 8 * o26_x9.toInt + 24 - (24 : Int32).toInt from by have : (24 : Int32).toInt = 24 := rfl; first | omega | decide))), (by first | (simp only [(mo_un tf27), mo_i1, mo_l1]; exact (show o26_x9.toInt ≤ 400 from by have : (24 : Int32).toInt = 24 := rfl; first | omega | decide)) | (rw [(mo_un tf27)]; exact (show o26_x9.toInt ≤ 400 from by have : (24 : Int32).toInt = 24 := rfl; first | omega | decide))), (by have : (24 : Int32).toInt = 24 := rfl; omega), hP, hD, hS, lv_sub hl [0, 1, 2] rfl⟩
  intro n0 H locs ls hI ih31
  refine Exists.elim hI (fun f29 hE90 => Exists.elim hE90 (fun w28 hE91 => tn_10 hE91 (fun hn32 hT hR jf33 jf34 rw28 hP hD hS hl => ?_)))
  clear hE91 hE90 hI
  refine tpk_13 hT ht_h0 (fun o35_x0 o35_x1 o35_x7 o35_x9 o35_x10 o35_x11 o35_x12 o35_x13 o35_x14 o35_x15 o35_x16 o35_x17 o35_x18 o35_x19 o35_x20 o35_x22 o35_x25 o35_x28 o35_x29 o35_x32 o35_x33 o35_x34 o35_x35 o35_x36 o35_x37 o35_x38 o35_x47 o35_x48 hf_o35 ro35_0 ro35_1 ro35_2 ro35_3 ro35_4 ro35_5 ro35_6 ro35_7 ro35_8 ro35_9 ro35_10 ro35_11 ro35_12 ro35_13 ro35_14 => ?_)
  have tf36 : mo_hd (tp_fld (f29 h0) 9 = o35_x9.toInt) := tff_9 hf_o35
  have ro35_1 := tp_hu ro35_1; have ro35_14 := tp_hu ro35_14
  replace jf33 : 4 * 2 * o35_x9.toInt = 8 * o26_x9.toInt + 24 - (w28.toInt) := by have q9 := jf33; first | (simp only [(mo_un tf36), mo_i1, mo_l1] at q9; exact q9) | (rw [(mo_un tf36)] at q9; exact q9)
  replace jf34 : o35_x9.toInt ≤ 400 := by have q9 := jf34; first | (simp only [(mo_un tf36), mo_i1, mo_l1] at q9; exact q9) | (rw [(mo_un tf36)] at q9; exact q9)
  refine lv_iload_n hx hb dX12_four_3 rfl (lv_at hl 0 rfl) ?_
  refine lv_if_lt (tgt := 39) hx hb dX12_four_4 (by decide) (fun c37 => ?_) (fun c37 => ?_)
  · have ic37 : w28.toInt < 0 := zi_lt rfl rfl c37
    exact W.vret hx hb hr (fun t ht hW => ⟨⟨f29, rfl, ⟨hT, hR, (by first | (simp only [(mo_un tf36), (mo_un tf27), mo_i1, mo_l1]; exact (show o35_x9.toInt = o26_x9.toInt + 4 from by first | omega | decide)) | (rw [(mo_un tf36), (mo_un tf27)]; exact (show o35_x9.toInt = o26_x9.toInt + 4 from by first | omega | decide)))⟩, by rw [ht]; exact hP, va_K.moved hW.alike hK, hD⟩, hS.F ht⟩) hS.2.2 dX12_four_39
  · have ic37 : w28.toInt ≥ 0 := zi_ltf rfl rfl c37
    refine lv_aload_n hx hb dX12_four_7 rfl (lv_at hl 1 rfl) ?_
    refine tpk_pos (tp_in hG ht_h0 (by decide)) hf_o35 (fun q38 eq38 => ?_)
    refine va_get (D := (dC, dI)) (ci := 12) (v := .ref (ρ h0 8)) (C := RX12) (T := TX12) (N := 53) hx hb hts hfX12 hown hK hP q38 eq38 rfl 8 (by decide) (hts (.fieldLink RX12 27 "ColdShipsModel" "tape" "[I") wa_154) (fun _ h9 => h9) rfl dX12_four_8 ?_
    refine lv_aload_n hx hb dX12_four_11 rfl (lv_at hl 1 rfl) ?_
    refine va_get (D := (dC, dI)) (ci := 12) (v := .int o35_x9) (C := RX12) (T := TX12) (N := 53) hx hb hts hfX12 hown hK hP q38 eq38 rfl 9 (by decide) (hts (.fieldLink RX12 252 "ColdShipsModel" "taped" "I") wa_774) (fun _ h9 => h9) rfl dX12_four_12 ?_
    refine lv_iload_n hx hb dX12_four_15 rfl (lv_at hl 2 rfl) ?_
    refine lv_iload_n hx hb dX12_four_16 rfl (lv_at hl 0 rfl) ?_
    refine lv_ishr hx hb dX12_four_17 ?_
    refine lv_topi (fun z39 ez39 => ?_)
    refine lv_sipush (v := 255) hx hb dX12_four_18 (by decide) ?_
    refine lv_iand hx hb dX12_four_21 ?_
    refine lv_topi (fun z40 ez40 => ?_)
    have iz40 : 0 ≤ z40.toInt ∧ z40.toInt ≤ 255 := zb_mask ez40 (by decide)
    refine tpk_38 hT y6 (fun g42 hf_o41 => ?_)
    refine tpk_pos (tp_in hG y6 (by decide)) hf_o41 (fun q43 eq43 => ?_)
    refine va_iast hx hb hK hP hD hS q43 0 eq43 rfl (vp_in_iff.mpr ⟨by omega, by omega⟩) dX12_four_22 (tp_k (.inl (κ 0, 400, .inl (upd g42 o35_x9.toNatClampNeg z40))) hD (tp_in hG y6 (by decide)) eq43 (fun f44 H locs hP hD hS g46 k45 => ?_))
    have hT := hT.up y6 g46 k45 tp_o38
    have hR := hR.up y6 (by decide) k45
    generalize (upd g42 o35_x9.toNatClampNeg z40) = g47 at g46
    refine lv_aload_n hx hb dX12_four_23 rfl (lv_at hl 1 rfl) ?_
    refine lv_dup hx hb dX12_four_24 rfl ?_
    have hf_48 : f44 h0 = .inr (12, [.int o35_x0, .int o35_x1, .ref (ρ h0 2), .ref (ρ h0 3), .ref (ρ h0 4), .ref (ρ h0 5), .ref (ρ h0 6), .int o35_x7, .ref (ρ h0 8), .int o35_x9, .int o35_x10, .int o35_x11, .int o35_x12, .long o35_x13, .int o35_x14, .int o35_x15, .int o35_x16, .int o35_x17, .int o35_x18, .int o35_x19, .int o35_x20, .ref (ρ h0 21), .int o35_x22, .ref (ρ h0 23), .ref (ρ h0 24), .int o35_x25, .ref (ρ h0 26), .ref (ρ h0 27), .int o35_x28, .int o35_x29, .ref (ρ h0 30), .ref (ρ h0 31), .int o35_x32, .long o35_x33, .long o35_x34, .long o35_x35, .int o35_x36, .int o35_x37, .int o35_x38, .ref (ρ h0 39), .ref (ρ h0 40), .ref (ρ h0 41), .ref (ρ h0 42), .ref (ρ h0 43), .ref (ρ h0 44), .ref (ρ h0 45), .ref (ρ h0 46), .int o35_x47, .int o35_x48, .ref (ρ h0 49), .ref (ρ h0 50), .ref (ρ h0 51), .ref (ρ h0 52)]) := (k45 _ (tp_ne ht_h0 y6 (by decide))).trans hf_o35
    refine tpk_pos (tp_in hG ht_h0 (by decide)) hf_48 (fun q49 eq49 => ?_)
    refine va_get (D := (dC, dI)) (ci := 12) (v := .int o35_x9) (C := RX12) (T := TX12) (N := 53) hx hb hts hfX12 hown hK hP q49 eq49 rfl 9 (by decide) (hts (.fieldLink RX12 252 "ColdShipsModel" "taped" "I") wa_774) (fun _ h9 => h9) rfl dX12_four_25 ?_
    refine lv_iconst (v := 1) hx hb dX12_four_28 (by decide) ?_
    refine lv_iadd hx hb dX12_four_29 ?_
    refine lv_topi (fun z50 ez50 => ?_)
    have iz50 : z50.toInt = o35_x9.toInt + 1 := zi_add ez50 rfl rfl (by omega) (by omega)
    refine va_put (D := (dC, dI)) (ci := 12) (v := .int z50) (ty := .int) (C := RX12) (T := TX12) (N := 53) hx hb hts hfX12 tyX12 tyX12_ok nmX12 hown hK hP hD hS q49 eq49 rfl 9 (by decide) (hts (.fieldLink RX12 252 "ColdShipsModel" "taped" "I") wa_774) (fun _ h9 => h9) rfl (tyX12_ok 9 (by decide)) rfl rfl (Nat.le_of_ble_eq_true rfl) dX12_four_30 (tp_k (.inr (12, [.int o35_x0, .int o35_x1, .ref (ρ h0 2), .ref (ρ h0 3), .ref (ρ h0 4), .ref (ρ h0 5), .ref (ρ h0 6), .int o35_x7, .ref (ρ h0 8), .int z50, .int o35_x10, .int o35_x11, .int o35_x12, .long o35_x13, .int o35_x14, .int o35_x15, .int o35_x16, .int o35_x17, .int o35_x18, .int o35_x19, .int o35_x20, .ref (ρ h0 21), .int o35_x22, .ref (ρ h0 23), .ref (ρ h0 24), .int o35_x25, .ref (ρ h0 26), .ref (ρ h0 27), .int o35_x28, .int o35_x29, .ref (ρ h0 30), .ref (ρ h0 31), .int o35_x32, .long o35_x33, .long o35_x34, .long o35_x35, .int o35_x36, .int o35_x37, .int o35_x38, .ref (ρ h0 39), .ref (ρ h0 40), .ref (ρ h0 41), .ref (ρ h0 42), .ref (ρ h0 43), .ref (ρ h0 44), .ref (ρ h0 45), .ref (ρ h0 46), .int o35_x47, .int o35_x48, .ref (ρ h0 49), .ref (ρ h0 50), .ref (ρ h0 51), .ref (ρ h0 52)])) hD (tp_in hG ht_h0 (by decide)) eq49 (fun f51 H locs hP hD hS g53 k52 => ?_))
    have hT := hT.up ht_h0 g53 k52 ⟨_, _, _, _, _, _, _, _, _, _, _, _, _, _, _, _, _, _, _, _, _, _, _, _, _, _, _, _, rfl, ro35_0, (by omega), ro35_2, ro35_3, ro35_4, ro35_5, ro35_6, ro35_7, ro35_8, ro35_9, ro35_10, ro35_11, ro35_12, ro35_13, (by rw [hTn]; exact mo_tx.nn)⟩
    have hR := hR.up ht_h0 (by decide) k52
    obtain ⟨z54, ez54⟩ : ∃ y : Int32, y = w28 + (-8) := ⟨_, rfl⟩
    refine lv_iinc (v := z54) (lv' := [(2, .int z54), (0, .ref h0), (1, .int v)]) hx hb dX12_four_33 hl (k := 0) rfl (by rw [ez54]; rfl) (by decide) rfl (fun ls hl => ?_)
    have iz54 : z54.toInt = w28.toInt + (-8) := zi_add ez54 rfl rfl (by omega) (by omega)
    refine lv_goto (tgt := 3) hx hb dX12_four_36 (by decide) ?_
    have tf55 : mo_hd (tp_fld (f51 h0) 9 = z50.toInt) := tff_9 g53
    exact ih31 _ _ _ _ (by rw [hn32]; omega) ⟨f51, z54, rfl, hT, hR, (by first | (simp only [(mo_un tf55), mo_i1, mo_l1]; exact (show 4 * 2 * z50.toInt = 8 * o26_x9.toInt + 24 - (z54.toInt) from by first | omega | decide)) | (rw [(mo_un tf55)]; exact (show 4 * 2 * z50.toInt = 8 * o26_x9.toInt + 24 - (z54.toInt) from by first | omega | decide))), (by first | (simp only [(mo_un tf55), mo_i1, mo_l1]; exact (show z50.toInt ≤ 400 from by first | omega | decide)) | (rw [(mo_un tf55)]; exact (show z50.toInt ≤ 400 from by first | omega | decide))), (by omega), hP, hD, hS, lv_sub hl [0, 1, 2] rfl⟩
set_option maxHeartbeats 4000000 in
set_option maxRecDepth 100000 in
theorem t_X12_feed (l : Launch) (dC : Nat → ClassId) (dI : Nat → Nat → Nat) (sz : Nat) (κ : Nat → ClassId) (Θ : Nat → Option Int) (τ ν : Nat → Nat) (ρ : Nat → Nat → Nat) (L : List Nat) (f : Nat → va_E) (hG : tp_G τ ν ρ L) (hT : tp_T (mo_O κ Θ) κ τ ν ρ f) (h0 : Nat) (v : Int32) (u : Int32) (a : Int32) (a4 : Int32) (a5 : Int32) (ht_h0 : τ h0 = 13) (hJ : mo_RI (-1) 0 (mo_R (mo_i (f (ρ h0 2))))) (hTn : Θ h0 = none) : Met l yX12_feed wqX12_feed ({ frames := 3, cells := 0, slots := 0, locals := 800 }) (va_Pc [.ref h0, .int v, .int u, .int a, .int a4, .int a5] (pz_B dC dI (tp_K κ) (va_pl L f) sz)) (va_Qi (fun (r : Int32) (f1 : Nat → va_E) => tp_T (mo_O κ Θ) κ τ ν ρ f1 ∧ tp_F τ [13, 38] f f1 ∧ True ∧ (380 < (tp_fld (f h0) 9) → r.toInt = -1 ∧ (tp_fld (f1 h0) 9) = (tp_fld (f h0) 9)) ∧ ((tp_fld (f h0) 9) ≤ 380 → r.toInt = (tp_fld (f h0) 9) + 20 ∧ (tp_fld (f1 h0) 9) = (tp_fld (f h0) 9) + 20)) (fun (f1 : Nat → va_E) (t : State) => pz_E dC dI (tp_K κ) (va_A (va_pl L f) sz) (va_pl L f1) t) (va_A (va_pl L f) sz)) 0 0 (va_A (va_pl L f) sz) := by
  refine Met.ofW (cc := cX12_feed) (maxL := 6) (ret := some .int) (by decide) rfl ?_
  intro p e s m args below meth c s₁ B hml hv
  obtain ⟨rfl, hsz, hP, hK, hD0, hN⟩ := hv
  have hx := B.exec
  have hb := B.bytes
  have hr := B.returns
  have hts := fun (w : Cond) (h : w ∈ WALL) => atoms_spec (ws := wqX12_feed) B.pre w (List.mem_cons_of_mem _ h)
  have hown : s.vm.findClass RX12 = some m.cls := findClass_of_methodNamed B.named
  have hlocks := B.notSynchronized
  subst hsz
  have hD := hD0.self (sz := s.heap.size)
  generalize hAe : va_A (va_pl L f) s.heap.size = A at hD ⊢
  have hA : ∀ q : Nat, s.heap.size ≤ q → A q := fun q h => by rw [← hAe]; exact Or.inr h
  have hS : va_S A s.heap s.heap [] := va_S.rf
  have hR : tp_F τ [13, 38] f f := tp_F.rf
  have hl := lv_entry ([.ref h0, .int v, .int u, .int a, .int a4, .int a5]) (n := 6) (Nat.le_of_ble_eq_true rfl)
  rw [lg_entry_eq]
  generalize (lg_sl ([.ref h0, .int v, .int u, .int a, .int a4, .int a5]) ++ List.replicate (6 - (lg_sl ([.ref h0, .int v, .int u, .int a, .int a4, .int a5])).length) Slot.unset).toArray = ls at hl ⊢
  have hl : lv_has ls 6 [(0, .ref h0), (1, .int v), (2, .int u), (3, .int a), (4, .int a4), (5, .int a5)] := hl
  refine tgk_13 hG ht_h0 (fun y1 y2 y3 y4 y5 y6 y7 y8 y9 y10 y11 y12 y13 y14 y15 y16 y17 y18 y19 y20 y21 y22 y23 y24 y25 => ?_)
  refine tpk_32 hT y1 (fun g27 hf_o26 => ?_)
  have hI : mo_RI (-1) 0 (mo_R g27) := by have q9 := hJ; rw [hf_o26, mo_i1] at q9; exact q9
  refine tpk_13 hT ht_h0 (fun o28_x0 o28_x1 o28_x7 o28_x9 o28_x10 o28_x11 o28_x12 o28_x13 o28_x14 o28_x15 o28_x16 o28_x17 o28_x18 o28_x19 o28_x20 o28_x22 o28_x25 o28_x28 o28_x29 o28_x32 o28_x33 o28_x34 o28_x35 o28_x36 o28_x37 o28_x38 o28_x47 o28_x48 hf_o28 ro28_0 ro28_1 ro28_2 ro28_3 ro28_4 ro28_5 ro28_6 ro28_7 ro28_8 ro28_9 ro28_10 ro28_11 ro28_12 ro28_13 ro28_14 => ?_)
  have tf29 : mo_hd (tp_fld (f h0) 9 = o28_x9.toInt) := tff_9 hf_o28
  refine lv_aload_n hx hb dX12_feed_0 rfl (lv_at hl 0 rfl) ?_
  refine lv_iconst (v := 0) hx hb dX12_feed_1 (by decide) ?_
  refine tpk_pos (tp_in hG ht_h0 (by decide)) hf_o28 (fun q30 eq30 => ?_)
  refine va_put (D := (dC, dI)) (ci := 12) (v := .int 0) (ty := .int) (C := RX12) (T := TX12) (N := 53) hx hb hts hfX12 tyX12 tyX12_ok nmX12 hown hK hP hD hS q30 eq30 rfl 0 (by decide) (hts (.fieldLink RX12 91 "ColdShipsModel" "thrown" "I") wa_209) (fun _ h9 => h9) rfl (tyX12_ok 0 (by decide)) rfl rfl (Nat.le_of_ble_eq_true rfl) dX12_feed_2 (tp_k (.inr (12, [.int 0, .int o28_x1, .ref (ρ h0 2), .ref (ρ h0 3), .ref (ρ h0 4), .ref (ρ h0 5), .ref (ρ h0 6), .int o28_x7, .ref (ρ h0 8), .int o28_x9, .int o28_x10, .int o28_x11, .int o28_x12, .long o28_x13, .int o28_x14, .int o28_x15, .int o28_x16, .int o28_x17, .int o28_x18, .int o28_x19, .int o28_x20, .ref (ρ h0 21), .int o28_x22, .ref (ρ h0 23), .ref (ρ h0 24), .int o28_x25, .ref (ρ h0 26), .ref (ρ h0 27), .int o28_x28, .int o28_x29, .ref (ρ h0 30), .ref (ρ h0 31), .int o28_x32, .long o28_x33, .long o28_x34, .long o28_x35, .int o28_x36, .int o28_x37, .int o28_x38, .ref (ρ h0 39), .ref (ρ h0 40), .ref (ρ h0 41), .ref (ρ h0 42), .ref (ρ h0 43), .ref (ρ h0 44), .ref (ρ h0 45), .ref (ρ h0 46), .int o28_x47, .int o28_x48, .ref (ρ h0 49), .ref (ρ h0 50), .ref (ρ h0 51), .ref (ρ h0 52)])) hD (tp_in hG ht_h0 (by decide)) eq30 (fun f31 H locs hP hD hS g33 k32 => ?_))
  have hT := hT.up ht_h0 g33 k32 ⟨_, _, _, _, _, _, _, _, _, _, _, _, _, _, _, _, _, _, _, _, _, _, _, _, _, _, _, _, rfl, ro28_0, ro28_1, ro28_2, ro28_3, ro28_4, ro28_5, ro28_6, ro28_7, ro28_8, ro28_9, ro28_10, ro28_11, ro28_12, ro28_13, ro28_14⟩
  have hR := hR.up ht_h0 (by decide) k32
  refine lv_aload_n hx hb dX12_feed_5 rfl (lv_at hl 0 rfl) ?_
  refine tpk_pos (tp_in hG ht_h0 (by decide)) g33 (fun q34 eq34 => ?_)
  have ro28_1 := tp_hu ro28_1; have ro28_14 := tp_hu ro28_14
  refine va_get (D := (dC, dI)) (ci := 12) (v := .int o28_x9) (C := RX12) (T := TX12) (N := 53) hx hb hts hfX12 hown hK hP q34 eq34 rfl 9 (by decide) (hts (.fieldLink RX12 252 "ColdShipsModel" "taped" "I") wa_774) (fun _ h9 => h9) rfl dX12_feed_6 ?_
  refine lv_bipush (v := 20) hx hb dX12_feed_9 (by decide) ?_
  refine lv_iadd hx hb dX12_feed_11 ?_
  refine lv_topi (fun z35 ez35 => ?_)
  have iz35 : z35.toInt = o28_x9.toInt + 20 := zi_add ez35 rfl rfl (by omega) (by omega)
  refine lv_sipush (v := 400) hx hb dX12_feed_12 (by decide) ?_
  refine lv_icmp_le (tgt := 20) hx hb dX12_feed_15 (by decide) (fun c36 => ?_) (fun c36 => ?_)
  · have ic36 : z35.toInt ≤ 400 := zi_le rfl rfl c36
    refine lv_aload_n hx hb dX12_feed_20 rfl (lv_at hl 0 rfl) ?_
    refine lv_iload_n hx hb dX12_feed_21 rfl (lv_at hl 1 rfl) ?_
    have hf_37 : f31 (ρ h0 2) = .inl (κ 0, 12967, .inl g27) := (k32 _ (tp_ne y1 ht_h0 (by decide))).trans hf_o26
    have tf38 : mo_hd (tp_fld (f31 h0) 9 = o28_x9.toInt) := tff_9 g33
    have hFc := tp_fr hD hS hA
    refine va_callv (va_runV (As := [.int v]) (rest := []) ⟨hx, hb, hml, hown, hts⟩ (t_X12_four l dC dI _ κ Θ τ ν ρ L f31 hG hT h0 v ht_h0 hTn (by first | (simp only [(mo_un tf38), mo_i1, mo_l1]; exact (show o28_x9.toInt ≤ 396 from by first | omega | decide)) | (rw [(mo_un tf38)]; exact (show o28_x9.toInt ≤ 396 from by first | omega | decide)))) (cwV 1 hts gX12_feed_X12_four rfl rfl rfl ⟨rfl, pd_X12_four⟩ ⟨Nat.le_of_ble_eq_true rfl, Nat.le_of_ble_eq_true rfl⟩) ⟨pz_blind, va_recv hK hP (ci := 12) (q0 := q34) rfl eq34, pz_pre hP hK hD hN⟩ rfl rfl hl.1 rfl (lv_room (Nat.le_of_ble_eq_true rfl)) dX12_feed_22 ⟨Nat.le_of_ble_eq_true rfl, Nat.le_of_ble_eq_true rfl⟩) hS (fun q _ h => hFc q h) hFc (fun f41 t H1 locs ht hvm hw40 hB hz1 hk1 hS => ?_)
    refine tn_3 hw40 (fun hT hF42 hw40p => ?_); clear hw40
    have hR := hR.then hF42 (by decide)
    have hP := hB.1; rw [ht] at hP; have hD := tp_ad f41 hD; clear hB hFc hz1 hk1; subst ht; generalize t.heap = H at hP hS ⊢
    refine tpk_13 hT ht_h0 (fun o43_x0 o43_x1 o43_x7 o43_x9 o43_x10 o43_x11 o43_x12 o43_x13 o43_x14 o43_x15 o43_x16 o43_x17 o43_x18 o43_x19 o43_x20 o43_x22 o43_x25 o43_x28 o43_x29 o43_x32 o43_x33 o43_x34 o43_x35 o43_x36 o43_x37 o43_x38 o43_x47 o43_x48 hf_o43 ro43_0 ro43_1 ro43_2 ro43_3 ro43_4 ro43_5 ro43_6 ro43_7 ro43_8 ro43_9 ro43_10 ro43_11 ro43_12 ro43_13 ro43_14 => ?_)
    have tf44 : mo_hd (tp_fld (f41 h0) 9 = o43_x9.toInt) := tff_9 hf_o43
    have ro43_1 := tp_hu ro43_1; have ro43_14 := tp_hu ro43_14
    have tk45 : o43_x9.toInt = o28_x9.toInt + 4 := by have q9 := hw40p; first | (simp only [(mo_un tf44), (mo_un tf38), mo_i1, mo_l1] at q9; exact q9) | (rw [(mo_un tf44), (mo_un tf38)] at q9; exact q9)
    clear hw40p
    refine lv_aload_n hx hb dX12_feed_25 rfl (lv_at hl 0 rfl) ?_
    refine lv_iload_n hx hb dX12_feed_26 rfl (lv_at hl 2 rfl) ?_
    have hf_46 : f41 (ρ h0 2) = .inl (κ 0, 12967, .inl g27) := (hF42 _ (by rw [tp_iu y1]; decide)).trans hf_37
    refine tpk_pos (tp_in hG ht_h0 (by decide)) hf_o43 (fun q47 eq47 => ?_)
    have hFc := tp_fr hD hS hA
    refine va_callv (va_runV (As := [.int u]) (rest := []) ⟨hx, hb, hml, hown, hts⟩ (t_X12_four l dC dI _ κ Θ τ ν ρ L f41 hG hT h0 u ht_h0 hTn (by first | (simp only [(mo_un tf44), mo_i1, mo_l1]; exact (show o43_x9.toInt ≤ 396 from by first | omega | decide)) | (rw [(mo_un tf44)]; exact (show o43_x9.toInt ≤ 396 from by first | omega | decide)))) (cwV 1 hts gX12_feed_X12_four rfl rfl rfl ⟨rfl, pd_X12_four⟩ ⟨Nat.le_of_ble_eq_true rfl, Nat.le_of_ble_eq_true rfl⟩) ⟨pz_blind, va_recv hK hP (ci := 12) (q0 := q47) rfl eq47, pz_pre hP hK hD hN⟩ rfl rfl hl.1 rfl (lv_room (Nat.le_of_ble_eq_true rfl)) dX12_feed_27 ⟨Nat.le_of_ble_eq_true rfl, Nat.le_of_ble_eq_true rfl⟩) hS (fun q _ h => hFc q h) hFc (fun f50 t H1 locs ht hvm hw49 hB hz1 hk1 hS => ?_)
    refine tn_3 hw49 (fun hT hF51 hw49p => ?_); clear hw49
    have hR := hR.then hF51 (by decide)
    have hP := hB.1; rw [ht] at hP; have hD := tp_ad f50 hD; clear hB hFc hz1 hk1; subst ht; generalize t.heap = H at hP hS ⊢
    refine tpk_13 hT ht_h0 (fun o52_x0 o52_x1 o52_x7 o52_x9 o52_x10 o52_x11 o52_x12 o52_x13 o52_x14 o52_x15 o52_x16 o52_x17 o52_x18 o52_x19 o52_x20 o52_x22 o52_x25 o52_x28 o52_x29 o52_x32 o52_x33 o52_x34 o52_x35 o52_x36 o52_x37 o52_x38 o52_x47 o52_x48 hf_o52 ro52_0 ro52_1 ro52_2 ro52_3 ro52_4 ro52_5 ro52_6 ro52_7 ro52_8 ro52_9 ro52_10 ro52_11 ro52_12 ro52_13 ro52_14 => ?_)
    have tf53 : mo_hd (tp_fld (f50 h0) 9 = o52_x9.toInt) := tff_9 hf_o52
    have ro52_1 := tp_hu ro52_1; have ro52_14 := tp_hu ro52_14
    have tk54 : o52_x9.toInt = o43_x9.toInt + 4 := by have q9 := hw49p; first | (simp only [(mo_un tf53), (mo_un tf44), mo_i1, mo_l1] at q9; exact q9) | (rw [(mo_un tf53), (mo_un tf44)] at q9; exact q9)
    clear hw49p
    refine lv_aload_n hx hb dX12_feed_30 rfl (lv_at hl 0 rfl) ?_
    refine lv_iload_n hx hb dX12_feed_31 rfl (lv_at hl 3 rfl) ?_
    have hf_55 : f50 (ρ h0 2) = .inl (κ 0, 12967, .inl g27) := (hF51 _ (by rw [tp_iu y1]; decide)).trans hf_46
    refine tpk_pos (tp_in hG ht_h0 (by decide)) hf_o52 (fun q56 eq56 => ?_)
    have hFc := tp_fr hD hS hA
    refine va_callv (va_runV (As := [.int a]) (rest := []) ⟨hx, hb, hml, hown, hts⟩ (t_X12_four l dC dI _ κ Θ τ ν ρ L f50 hG hT h0 a ht_h0 hTn (by first | (simp only [(mo_un tf53), mo_i1, mo_l1]; exact (show o52_x9.toInt ≤ 396 from by first | omega | decide)) | (rw [(mo_un tf53)]; exact (show o52_x9.toInt ≤ 396 from by first | omega | decide)))) (cwV 1 hts gX12_feed_X12_four rfl rfl rfl ⟨rfl, pd_X12_four⟩ ⟨Nat.le_of_ble_eq_true rfl, Nat.le_of_ble_eq_true rfl⟩) ⟨pz_blind, va_recv hK hP (ci := 12) (q0 := q56) rfl eq56, pz_pre hP hK hD hN⟩ rfl rfl hl.1 rfl (lv_room (Nat.le_of_ble_eq_true rfl)) dX12_feed_32 ⟨Nat.le_of_ble_eq_true rfl, Nat.le_of_ble_eq_true rfl⟩) hS (fun q _ h => hFc q h) hFc (fun f59 t H1 locs ht hvm hw58 hB hz1 hk1 hS => ?_)
    refine tn_3 hw58 (fun hT hF60 hw58p => ?_); clear hw58
    have hR := hR.then hF60 (by decide)
    have hP := hB.1; rw [ht] at hP; have hD := tp_ad f59 hD; clear hB hFc hz1 hk1; subst ht; generalize t.heap = H at hP hS ⊢
    refine tpk_13 hT ht_h0 (fun o61_x0 o61_x1 o61_x7 o61_x9 o61_x10 o61_x11 o61_x12 o61_x13 o61_x14 o61_x15 o61_x16 o61_x17 o61_x18 o61_x19 o61_x20 o61_x22 o61_x25 o61_x28 o61_x29 o61_x32 o61_x33 o61_x34 o61_x35 o61_x36 o61_x37 o61_x38 o61_x47 o61_x48 hf_o61 ro61_0 ro61_1 ro61_2 ro61_3 ro61_4 ro61_5 ro61_6 ro61_7 ro61_8 ro61_9 ro61_10 ro61_11 ro61_12 ro61_13 ro61_14 => ?_)
    have tf62 : mo_hd (tp_fld (f59 h0) 9 = o61_x9.toInt) := tff_9 hf_o61
    have ro61_1 := tp_hu ro61_1; have ro61_14 := tp_hu ro61_14
    have tk63 : o61_x9.toInt = o52_x9.toInt + 4 := by have q9 := hw58p; first | (simp only [(mo_un tf62), (mo_un tf53), mo_i1, mo_l1] at q9; exact q9) | (rw [(mo_un tf62), (mo_un tf53)] at q9; exact q9)
    clear hw58p
    refine lv_aload_n hx hb dX12_feed_35 rfl (lv_at hl 0 rfl) ?_
    refine lv_iload hx hb dX12_feed_36 (lv_at hl 4 rfl) ?_
    have hf_64 : f59 (ρ h0 2) = .inl (κ 0, 12967, .inl g27) := (hF60 _ (by rw [tp_iu y1]; decide)).trans hf_55
    refine tpk_pos (tp_in hG ht_h0 (by decide)) hf_o61 (fun q65 eq65 => ?_)
    have hFc := tp_fr hD hS hA
    refine va_callv (va_runV (As := [.int a4]) (rest := []) ⟨hx, hb, hml, hown, hts⟩ (t_X12_four l dC dI _ κ Θ τ ν ρ L f59 hG hT h0 a4 ht_h0 hTn (by first | (simp only [(mo_un tf62), mo_i1, mo_l1]; exact (show o61_x9.toInt ≤ 396 from by first | omega | decide)) | (rw [(mo_un tf62)]; exact (show o61_x9.toInt ≤ 396 from by first | omega | decide)))) (cwV 1 hts gX12_feed_X12_four rfl rfl rfl ⟨rfl, pd_X12_four⟩ ⟨Nat.le_of_ble_eq_true rfl, Nat.le_of_ble_eq_true rfl⟩) ⟨pz_blind, va_recv hK hP (ci := 12) (q0 := q65) rfl eq65, pz_pre hP hK hD hN⟩ rfl rfl hl.1 rfl (lv_room (Nat.le_of_ble_eq_true rfl)) dX12_feed_38 ⟨Nat.le_of_ble_eq_true rfl, Nat.le_of_ble_eq_true rfl⟩) hS (fun q _ h => hFc q h) hFc (fun f68 t H1 locs ht hvm hw67 hB hz1 hk1 hS => ?_)
    refine tn_3 hw67 (fun hT hF69 hw67p => ?_); clear hw67
    have hR := hR.then hF69 (by decide)
    have hP := hB.1; rw [ht] at hP; have hD := tp_ad f68 hD; clear hB hFc hz1 hk1; subst ht; generalize t.heap = H at hP hS ⊢
    refine tpk_13 hT ht_h0 (fun o70_x0 o70_x1 o70_x7 o70_x9 o70_x10 o70_x11 o70_x12 o70_x13 o70_x14 o70_x15 o70_x16 o70_x17 o70_x18 o70_x19 o70_x20 o70_x22 o70_x25 o70_x28 o70_x29 o70_x32 o70_x33 o70_x34 o70_x35 o70_x36 o70_x37 o70_x38 o70_x47 o70_x48 hf_o70 ro70_0 ro70_1 ro70_2 ro70_3 ro70_4 ro70_5 ro70_6 ro70_7 ro70_8 ro70_9 ro70_10 ro70_11 ro70_12 ro70_13 ro70_14 => ?_)
    have tf71 : mo_hd (tp_fld (f68 h0) 9 = o70_x9.toInt) := tff_9 hf_o70
    have ro70_1 := tp_hu ro70_1; have ro70_14 := tp_hu ro70_14
    have tk72 : o70_x9.toInt = o61_x9.toInt + 4 := by have q9 := hw67p; first | (simp only [(mo_un tf71), (mo_un tf62), mo_i1, mo_l1] at q9; exact q9) | (rw [(mo_un tf71), (mo_un tf62)] at q9; exact q9)
    clear hw67p
    refine lv_aload_n hx hb dX12_feed_41 rfl (lv_at hl 0 rfl) ?_
    refine lv_iload hx hb dX12_feed_42 (lv_at hl 5 rfl) ?_
    have hf_73 : f68 (ρ h0 2) = .inl (κ 0, 12967, .inl g27) := (hF69 _ (by rw [tp_iu y1]; decide)).trans hf_64
    refine tpk_pos (tp_in hG ht_h0 (by decide)) hf_o70 (fun q74 eq74 => ?_)
    have hFc := tp_fr hD hS hA
    refine va_callv (va_runV (As := [.int a5]) (rest := []) ⟨hx, hb, hml, hown, hts⟩ (t_X12_four l dC dI _ κ Θ τ ν ρ L f68 hG hT h0 a5 ht_h0 hTn (by first | (simp only [(mo_un tf71), mo_i1, mo_l1]; exact (show o70_x9.toInt ≤ 396 from by first | omega | decide)) | (rw [(mo_un tf71)]; exact (show o70_x9.toInt ≤ 396 from by first | omega | decide)))) (cwV 1 hts gX12_feed_X12_four rfl rfl rfl ⟨rfl, pd_X12_four⟩ ⟨Nat.le_of_ble_eq_true rfl, Nat.le_of_ble_eq_true rfl⟩) ⟨pz_blind, va_recv hK hP (ci := 12) (q0 := q74) rfl eq74, pz_pre hP hK hD hN⟩ rfl rfl hl.1 rfl (lv_room (Nat.le_of_ble_eq_true rfl)) dX12_feed_44 ⟨Nat.le_of_ble_eq_true rfl, Nat.le_of_ble_eq_true rfl⟩) hS (fun q _ h => hFc q h) hFc (fun f77 t H1 locs ht hvm hw76 hB hz1 hk1 hS => ?_)
    refine tn_3 hw76 (fun hT hF78 hw76p => ?_); clear hw76
    have hR := hR.then hF78 (by decide)
    have hP := hB.1; rw [ht] at hP; have hD := tp_ad f77 hD; clear hB hFc hz1 hk1; subst ht; generalize t.heap = H at hP hS ⊢
    refine tpk_13 hT ht_h0 (fun o79_x0 o79_x1 o79_x7 o79_x9 o79_x10 o79_x11 o79_x12 o79_x13 o79_x14 o79_x15 o79_x16 o79_x17 o79_x18 o79_x19 o79_x20 o79_x22 o79_x25 o79_x28 o79_x29 o79_x32 o79_x33 o79_x34 o79_x35 o79_x36 o79_x37 o79_x38 o79_x47 o79_x48 hf_o79 ro79_0 ro79_1 ro79_2 ro79_3 ro79_4 ro79_5 ro79_6 ro79_7 ro79_8 ro79_9 ro79_10 ro79_11 ro79_12 ro79_13 ro79_14 => ?_)
    have tf80 : mo_hd (tp_fld (f77 h0) 9 = o79_x9.toInt) := tff_9 hf_o79
    have ro79_1 := tp_hu ro79_1; have ro79_14 := tp_hu ro79_14
    have tk81 : o79_x9.toInt = o70_x9.toInt + 4 := by have q9 := hw76p; first | (simp only [(mo_un tf80), (mo_un tf71), mo_i1, mo_l1] at q9; exact q9) | (rw [(mo_un tf80), (mo_un tf71)] at q9; exact q9)
    clear hw76p
    refine lv_aload_n hx hb dX12_feed_47 rfl (lv_at hl 0 rfl) ?_
    refine tpk_pos (tp_in hG ht_h0 (by decide)) hf_o79 (fun q82 eq82 => ?_)
    refine va_get (D := (dC, dI)) (ci := 12) (v := .int o79_x9) (C := RX12) (T := TX12) (N := 53) hx hb hts hfX12 hown hK hP q82 eq82 rfl 9 (by decide) (hts (.fieldLink RX12 252 "ColdShipsModel" "taped" "I") wa_774) (fun _ h9 => h9) rfl dX12_feed_48 ?_
    exact W.iret (v := o79_x9) hx hb hr (fun t ht hW => ⟨⟨o79_x9, f77, rfl, ⟨hT, hR, trivial, (by first | (simp only [(mo_un tf29), (mo_un tf80), mo_i1, mo_l1]; exact (show (380 < o28_x9.toInt → o79_x9.toInt = -1 ∧ o79_x9.toInt = o28_x9.toInt) ∧ (o28_x9.toInt ≤ 380 → o79_x9.toInt = o28_x9.toInt + 20 ∧ o79_x9.toInt = o28_x9.toInt + 20) from by first | omega | decide)) | (rw [(mo_un tf29), (mo_un tf80)]; exact (show (380 < o28_x9.toInt → o79_x9.toInt = -1 ∧ o79_x9.toInt = o28_x9.toInt) ∧ (o28_x9.toInt ≤ 380 → o79_x9.toInt = o28_x9.toInt + 20 ∧ o79_x9.toInt = o28_x9.toInt + 20) from by first | omega | decide)))⟩, by rw [ht]; exact hP, va_K.moved hW.alike hK, hD⟩, hS.F ht⟩) hS.2.2 dX12_feed_51
  · have ic36 : z35.toInt > 400 := zi_lef rfl rfl c36
    refine lv_iconst (v := (-1)) hx hb dX12_feed_18 (by decide) ?_
    have tf83 : mo_hd (tp_fld (f31 h0) 9 = o28_x9.toInt) := tff_9 g33
    exact W.iret (v := (-1)) hx hb hr (fun t ht hW => ⟨⟨(-1), f31, rfl, ⟨hT, hR, trivial, (by first | (simp only [(mo_un tf29), (mo_un tf83), mo_i1, mo_l1]; exact (show (380 < o28_x9.toInt → ((-1) : Int32).toInt = -1 ∧ o28_x9.toInt = o28_x9.toInt) ∧ (o28_x9.toInt ≤ 380 → ((-1) : Int32).toInt = o28_x9.toInt + 20 ∧ o28_x9.toInt = o28_x9.toInt + 20) from by have q8 : ((-1) : Int32).toInt = (-1) := rfl; first | omega | decide)) | (rw [(mo_un tf29), (mo_un tf83)]; exact (show (380 < o28_x9.toInt → ((-1) : Int32).toInt = -1 ∧ o28_x9.toInt = o28_x9.toInt) ∧ (o28_x9.toInt ≤ 380 → ((-1) : Int32).toInt = o28_x9.toInt + 20 ∧ o28_x9.toInt = o28_x9.toInt + 20) from by have q8 : ((-1) : Int32).toInt = (-1) := rfl; first | omega | decide)))⟩, by rw [ht]; exact hP, va_K.moved hW.alike hK, hD⟩, hS.F ht⟩) hS.2.2 dX12_feed_19
end
section
def mo_CP (P Q R : Int → Int) (a m : Int) : Prop := ∀ j, 0 ≤ j → R j = if a ≤ j ∧ j < a + m then Q (j - a) else P j
theorem mo_CP.rf {P Q : Int → Int} {a m : Int} (h : m ≤ 0) : mo_CP P Q P a m := fun j _ => by rw [if_neg (by omega)]
theorem mo_CP.out {P Q R : Int → Int} {a m j : Int} (h : mo_CP P Q R a m) (h0 : 0 ≤ j) (hn : j < a ∨ a + m ≤ j) : R j = P j := by rw [h j h0, if_neg (by omega)]
theorem mo_CP.inn {P Q R : Int → Int} {a m j : Int} (h : mo_CP P Q R a m) (h0 : 0 ≤ j) (h1 : a ≤ j) (h2 : j < a + m) : R j = Q (j - a) := by rw [h j h0, if_pos ⟨h1, h2⟩]
theorem mo_CP.up {P Q R R' : Int → Int} {a m i v : Int} (h : mo_CP P Q R a m) (hU : mo_U R R' i v) (hi : i = a + m) (hv : v = Q m) (hm : 0 ≤ m) (n : Int) (hn : n = m + 1) : mo_CP P Q R' a n := by
  intro j hj
  rcases hU.at j hj with ⟨z, e⟩ | ⟨z, e⟩
  · rw [e, if_pos (by omega), hv, z, hi, show a + m - a = m by omega]
  · rw [e, h j hj]
    by_cases q : a ≤ j ∧ j < a + m
    · rw [if_pos q, if_pos (by omega)]
    · rw [if_neg q, if_neg (by omega)]
/-- both images of the row -/
def mo_IM (I : Int → Int) : Prop := ∀ k, 0 ≤ k → k < 2 → mo_RI (-1) 0 (fun j => I (12967 * k + j))
theorem mo_IM.put {I I' R : Int → Int} {v m : Int} (h : mo_IM I) (hR : mo_RI (-1) 0 R) (hC : mo_CP I R I' (12967 * v) m) (hm : m = 12967) : mo_IM I' := by
  intro k h0 h1
  rcases (show k = v ∨ k ≠ v by omega) with rfl | hk
  · exact hR.same (fun j j0 j1 => (hC.inn (j := 12967 * k + j) (by omega) (by omega) (by omega)).trans (by rw [show 12967 * k + j - 12967 * k = j by omega]))
  · exact (h k h0 h1).same (fun j j0 j1 => hC.out (j := 12967 * k + j) (by omega) (by omega))
theorem mo_IM.get {I R R' : Int → Int} {v m : Int} (h : mo_IM I) (h0 : 0 ≤ v) (h1 : v < 2) (hC : mo_CP R (fun j => I (12967 * v + j)) R' 0 m) (hm : m = 12967) : mo_RI (-1) 0 R' :=
  (h v h0 h1).same (fun j j0 j1 => (hC.inn (j := j) j0 (by omega) (by omega)).trans (by rw [show j - 0 = j by omega]))
end
section
theorem gX12_image_X12_in : GoodIn WALL (va_wsS RX12 99 yX12_in wqX12_in) := wg_S wa_213 wa_214 wa_5 wa_215
theorem gX12_image_X12_told : GoodIn WALL (wsV RX12 105 RX12 yX12_told wqX12_told) := wg_V wa_216 wa_217 wa_218 wa_5 wa_219
theorem dX12_image_0 : decode cX12_image 0 = .ok (.aload_n 0, 1) := od_42  (by decide +kernel)
theorem dX12_image_1 : decode cX12_image 1 = .ok (.iconst 0, 1) := od_3  (by decide +kernel)
theorem dX12_image_2 : decode cX12_image 2 = .ok (.putfield 91, 3) := od_181 (a := 0) (b := 91) (by decide +kernel) (by decide)
theorem dX12_image_5 : decode cX12_image 5 = .ok (.iload_n 1, 1) := od_27  (by decide +kernel)
theorem dX12_image_6 : decode cX12_image 6 = .ok (.i2l, 1) := od_133  (by decide +kernel)
theorem dX12_image_7 : decode cX12_image 7 = .ok (.lconst 0, 1) := od_9  (by decide +kernel)
theorem dX12_image_8 : decode cX12_image 8 = .ok (.lconst 1, 1) := od_10  (by decide +kernel)
theorem dX12_image_9 : decode cX12_image 9 = .ok (.invokestatic 99, 3) := od_184 (a := 0) (b := 99) (by decide +kernel) (by decide)
theorem dX12_image_12 : decode cX12_image 12 = .ok (.ifCond .ne 9, 3) := od_154 (a := 0) (b := 9) (by decide +kernel) (by decide +kernel)
theorem dX12_image_15 : decode cX12_image 15 = .ok (.aload_n 0, 1) := od_42  (by decide +kernel)
theorem dX12_image_16 : decode cX12_image 16 = .ok (.iconst (-1), 1) := od_2  (by decide +kernel)
theorem dX12_image_17 : decode cX12_image 17 = .ok (.invokevirtual 105, 3) := od_182 (a := 0) (b := 105) (by decide +kernel) (by decide)
theorem dX12_image_20 : decode cX12_image 20 = .ok (.ireturn, 1) := od_172  (by decide +kernel)
theorem dX12_image_21 : decode cX12_image 21 = .ok (.iconst 0, 1) := od_3  (by decide +kernel)
theorem dX12_image_22 : decode cX12_image 22 = .ok (.istore_n 2, 1) := od_61  (by decide +kernel)
theorem dX12_image_23 : decode cX12_image 23 = .ok (.iload_n 2, 1) := od_28  (by decide +kernel)
theorem dX12_image_24 : decode cX12_image 24 = .ok (.sipush 12967, 3) := od_17 (a := 50) (b := 167) (by decide +kernel) (by decide +kernel)
theorem dX12_image_27 : decode cX12_image 27 = .ok (.if_icmp .ge 27, 3) := od_162 (a := 0) (b := 27) (by decide +kernel) (by decide +kernel)
theorem dX12_image_30 : decode cX12_image 30 = .ok (.aload_n 0, 1) := od_42  (by decide +kernel)
theorem dX12_image_31 : decode cX12_image 31 = .ok (.getfield 13, 3) := od_180 (a := 0) (b := 13) (by decide +kernel) (by decide)
theorem dX12_image_34 : decode cX12_image 34 = .ok (.sipush 12967, 3) := od_17 (a := 50) (b := 167) (by decide +kernel) (by decide +kernel)
theorem dX12_image_37 : decode cX12_image 37 = .ok (.iload_n 1, 1) := od_27  (by decide +kernel)
theorem dX12_image_38 : decode cX12_image 38 = .ok (.imul, 1) := od_104  (by decide +kernel)
theorem dX12_image_39 : decode cX12_image 39 = .ok (.iload_n 2, 1) := od_28  (by decide +kernel)
theorem dX12_image_40 : decode cX12_image 40 = .ok (.iadd, 1) := od_96  (by decide +kernel)
theorem dX12_image_41 : decode cX12_image 41 = .ok (.aload_n 0, 1) := od_42  (by decide +kernel)
theorem dX12_image_42 : decode cX12_image 42 = .ok (.getfield 7, 3) := od_180 (a := 0) (b := 7) (by decide +kernel) (by decide)
theorem dX12_image_45 : decode cX12_image 45 = .ok (.iload_n 2, 1) := od_28  (by decide +kernel)
theorem dX12_image_46 : decode cX12_image 46 = .ok (.iaload, 1) := od_46  (by decide +kernel)
theorem dX12_image_47 : decode cX12_image 47 = .ok (.iastore, 1) := od_79  (by decide +kernel)
theorem dX12_image_48 : decode cX12_image 48 = .ok (.iinc 2 1, 3) := od_132 (a := 2) (b := 1) (by decide +kernel) (by decide +kernel)
theorem dX12_image_51 : decode cX12_image 51 = .ok (.goto (-28), 3) := od_167 (a := 255) (b := 228) (by decide +kernel) (by decide +kernel)
theorem dX12_image_54 : decode cX12_image 54 = .ok (.aload_n 0, 1) := od_42  (by decide +kernel)
theorem dX12_image_55 : decode cX12_image 55 = .ok (.getfield 16, 3) := od_180 (a := 0) (b := 16) (by decide +kernel) (by decide)
theorem dX12_image_58 : decode cX12_image 58 = .ok (.iload_n 1, 1) := od_27  (by decide +kernel)
theorem dX12_image_59 : decode cX12_image 59 = .ok (.iconst 1, 1) := od_4  (by decide +kernel)
theorem dX12_image_60 : decode cX12_image 60 = .ok (.bastore, 1) := od_84  (by decide +kernel)
theorem dX12_image_61 : decode cX12_image 61 = .ok (.aload_n 0, 1) := od_42  (by decide +kernel)
theorem dX12_image_62 : decode cX12_image 62 = .ok (.iconst 0, 1) := od_3  (by decide +kernel)
theorem dX12_image_63 : decode cX12_image 63 = .ok (.invokevirtual 105, 3) := od_182 (a := 0) (b := 105) (by decide +kernel) (by decide)
theorem dX12_image_66 : decode cX12_image 66 = .ok (.ireturn, 1) := od_172  (by decide +kernel)
theorem gX12_back_X12_in : GoodIn WALL (va_wsS RX12 99 yX12_in wqX12_in) := wg_S wa_213 wa_214 wa_5 wa_215
theorem gX12_back_X12_told : GoodIn WALL (wsV RX12 105 RX12 yX12_told wqX12_told) := wg_V wa_216 wa_217 wa_218 wa_5 wa_219
theorem dX12_back_0 : decode cX12_back 0 = .ok (.aload_n 0, 1) := od_42  (by decide +kernel)
theorem dX12_back_1 : decode cX12_back 1 = .ok (.iconst 0, 1) := od_3  (by decide +kernel)
theorem dX12_back_2 : decode cX12_back 2 = .ok (.putfield 91, 3) := od_181 (a := 0) (b := 91) (by decide +kernel) (by decide)
theorem dX12_back_5 : decode cX12_back 5 = .ok (.iload_n 1, 1) := od_27  (by decide +kernel)
theorem dX12_back_6 : decode cX12_back 6 = .ok (.i2l, 1) := od_133  (by decide +kernel)
theorem dX12_back_7 : decode cX12_back 7 = .ok (.lconst 0, 1) := od_9  (by decide +kernel)
theorem dX12_back_8 : decode cX12_back 8 = .ok (.lconst 1, 1) := od_10  (by decide +kernel)
theorem dX12_back_9 : decode cX12_back 9 = .ok (.invokestatic 99, 3) := od_184 (a := 0) (b := 99) (by decide +kernel) (by decide)
theorem dX12_back_12 : decode cX12_back 12 = .ok (.ifCond .ne 9, 3) := od_154 (a := 0) (b := 9) (by decide +kernel) (by decide +kernel)
theorem dX12_back_15 : decode cX12_back 15 = .ok (.aload_n 0, 1) := od_42  (by decide +kernel)
theorem dX12_back_16 : decode cX12_back 16 = .ok (.iconst (-1), 1) := od_2  (by decide +kernel)
theorem dX12_back_17 : decode cX12_back 17 = .ok (.invokevirtual 105, 3) := od_182 (a := 0) (b := 105) (by decide +kernel) (by decide)
theorem dX12_back_20 : decode cX12_back 20 = .ok (.ireturn, 1) := od_172  (by decide +kernel)
theorem dX12_back_21 : decode cX12_back 21 = .ok (.aload_n 0, 1) := od_42  (by decide +kernel)
theorem dX12_back_22 : decode cX12_back 22 = .ok (.getfield 16, 3) := od_180 (a := 0) (b := 16) (by decide +kernel) (by decide)
theorem dX12_back_25 : decode cX12_back 25 = .ok (.iload_n 1, 1) := od_27  (by decide +kernel)
theorem dX12_back_26 : decode cX12_back 26 = .ok (.baload, 1) := od_51  (by decide +kernel)
theorem dX12_back_27 : decode cX12_back 27 = .ok (.ifCond .ne 10, 3) := od_154 (a := 0) (b := 10) (by decide +kernel) (by decide +kernel)
theorem dX12_back_30 : decode cX12_back 30 = .ok (.aload_n 0, 1) := od_42  (by decide +kernel)
theorem dX12_back_31 : decode cX12_back 31 = .ok (.bipush (-2), 2) := od_16 (a := 254) (by decide +kernel) (by decide +kernel)
theorem dX12_back_33 : decode cX12_back 33 = .ok (.invokevirtual 105, 3) := od_182 (a := 0) (b := 105) (by decide +kernel) (by decide)
theorem dX12_back_36 : decode cX12_back 36 = .ok (.ireturn, 1) := od_172  (by decide +kernel)
theorem dX12_back_37 : decode cX12_back 37 = .ok (.iconst 0, 1) := od_3  (by decide +kernel)
theorem dX12_back_38 : decode cX12_back 38 = .ok (.istore_n 2, 1) := od_61  (by decide +kernel)
theorem dX12_back_39 : decode cX12_back 39 = .ok (.iload_n 2, 1) := od_28  (by decide +kernel)
theorem dX12_back_40 : decode cX12_back 40 = .ok (.sipush 12967, 3) := od_17 (a := 50) (b := 167) (by decide +kernel) (by decide +kernel)
theorem dX12_back_43 : decode cX12_back 43 = .ok (.if_icmp .ge 27, 3) := od_162 (a := 0) (b := 27) (by decide +kernel) (by decide +kernel)
theorem dX12_back_46 : decode cX12_back 46 = .ok (.aload_n 0, 1) := od_42  (by decide +kernel)
theorem dX12_back_47 : decode cX12_back 47 = .ok (.getfield 7, 3) := od_180 (a := 0) (b := 7) (by decide +kernel) (by decide)
theorem dX12_back_50 : decode cX12_back 50 = .ok (.iload_n 2, 1) := od_28  (by decide +kernel)
theorem dX12_back_51 : decode cX12_back 51 = .ok (.aload_n 0, 1) := od_42  (by decide +kernel)
theorem dX12_back_52 : decode cX12_back 52 = .ok (.getfield 13, 3) := od_180 (a := 0) (b := 13) (by decide +kernel) (by decide)
theorem dX12_back_55 : decode cX12_back 55 = .ok (.sipush 12967, 3) := od_17 (a := 50) (b := 167) (by decide +kernel) (by decide +kernel)
theorem dX12_back_58 : decode cX12_back 58 = .ok (.iload_n 1, 1) := od_27  (by decide +kernel)
theorem dX12_back_59 : decode cX12_back 59 = .ok (.imul, 1) := od_104  (by decide +kernel)
theorem dX12_back_60 : decode cX12_back 60 = .ok (.iload_n 2, 1) := od_28  (by decide +kernel)
theorem dX12_back_61 : decode cX12_back 61 = .ok (.iadd, 1) := od_96  (by decide +kernel)
theorem dX12_back_62 : decode cX12_back 62 = .ok (.iaload, 1) := od_46  (by decide +kernel)
theorem dX12_back_63 : decode cX12_back 63 = .ok (.iastore, 1) := od_79  (by decide +kernel)
theorem dX12_back_64 : decode cX12_back 64 = .ok (.iinc 2 1, 3) := od_132 (a := 2) (b := 1) (by decide +kernel) (by decide +kernel)
theorem dX12_back_67 : decode cX12_back 67 = .ok (.goto (-28), 3) := od_167 (a := 255) (b := 228) (by decide +kernel) (by decide +kernel)
theorem dX12_back_70 : decode cX12_back 70 = .ok (.aload_n 0, 1) := od_42  (by decide +kernel)
theorem dX12_back_71 : decode cX12_back 71 = .ok (.iconst 0, 1) := od_3  (by decide +kernel)
theorem dX12_back_72 : decode cX12_back 72 = .ok (.invokevirtual 105, 3) := od_182 (a := 0) (b := 105) (by decide +kernel) (by decide)
theorem dX12_back_75 : decode cX12_back 75 = .ok (.ireturn, 1) := od_172  (by decide +kernel)
theorem gX12_setFor_X12_billed : GoodIn WALL (wsV RX12 425 RX12 yX12_billed wqX12_billed) := wg_V wa_1203 wa_1204 wa_1205 wa_5 wa_1206
theorem gX12_setFor_X12_heatOf : GoodIn WALL (wsV RX12 245 RX12 yX12_heatOf wqX12_heatOf) := wg_V wa_708 wa_709 wa_710 wa_5 wa_711
theorem gX12_setFor_X12_isForce : GoodIn WALL (wsV RX12 428 RX12 yX12_isForce wqX12_isForce) := wg_V wa_1207 wa_1208 wa_1209 wa_5 wa_1210
theorem gX12_setFor_X12_priceOf : GoodIn WALL (wsV RX12 431 RX12 yX12_priceOf wqX12_priceOf) := wg_V wa_1211 wa_1212 wa_1213 wa_5 wa_1214
theorem dX12_setFor_0 : decode cX12_setFor 0 = .ok (.aload_n 0, 1) := od_42  (by decide +kernel)
theorem dX12_setFor_1 : decode cX12_setFor 1 = .ok (.getfield 7, 3) := od_180 (a := 0) (b := 7) (by decide +kernel) (by decide)
theorem dX12_setFor_4 : decode cX12_setFor 4 = .ok (.iload_n 1, 1) := od_27  (by decide +kernel)
theorem dX12_setFor_5 : decode cX12_setFor 5 = .ok (.iconst 2, 1) := od_5  (by decide +kernel)
theorem dX12_setFor_6 : decode cX12_setFor 6 = .ok (.iadd, 1) := od_96  (by decide +kernel)
theorem dX12_setFor_7 : decode cX12_setFor 7 = .ok (.iaload, 1) := od_46  (by decide +kernel)
theorem dX12_setFor_8 : decode cX12_setFor 8 = .ok (.istore 4, 2) := od_54 (n := 4) (by decide +kernel)
theorem dX12_setFor_10 : decode cX12_setFor 10 = .ok (.aload_n 0, 1) := od_42  (by decide +kernel)
theorem dX12_setFor_11 : decode cX12_setFor 11 = .ok (.getfield 7, 3) := od_180 (a := 0) (b := 7) (by decide +kernel) (by decide)
theorem dX12_setFor_14 : decode cX12_setFor 14 = .ok (.iload_n 1, 1) := od_27  (by decide +kernel)
theorem dX12_setFor_15 : decode cX12_setFor 15 = .ok (.iconst 3, 1) := od_6  (by decide +kernel)
theorem dX12_setFor_16 : decode cX12_setFor 16 = .ok (.iadd, 1) := od_96  (by decide +kernel)
theorem dX12_setFor_17 : decode cX12_setFor 17 = .ok (.iaload, 1) := od_46  (by decide +kernel)
theorem dX12_setFor_18 : decode cX12_setFor 18 = .ok (.istore 5, 2) := od_54 (n := 5) (by decide +kernel)
theorem dX12_setFor_20 : decode cX12_setFor 20 = .ok (.aload_n 0, 1) := od_42  (by decide +kernel)
theorem dX12_setFor_21 : decode cX12_setFor 21 = .ok (.getfield 49, 3) := od_180 (a := 0) (b := 49) (by decide +kernel) (by decide)
theorem dX12_setFor_24 : decode cX12_setFor 24 = .ok (.iconst 1, 1) := od_4  (by decide +kernel)
theorem dX12_setFor_25 : decode cX12_setFor 25 = .ok (.aload_n 0, 1) := od_42  (by decide +kernel)
theorem dX12_setFor_26 : decode cX12_setFor 26 = .ok (.getfield 7, 3) := od_180 (a := 0) (b := 7) (by decide +kernel) (by decide)
theorem dX12_setFor_29 : decode cX12_setFor 29 = .ok (.iload_n 1, 1) := od_27  (by decide +kernel)
theorem dX12_setFor_30 : decode cX12_setFor 30 = .ok (.iconst 4, 1) := od_7  (by decide +kernel)
theorem dX12_setFor_31 : decode cX12_setFor 31 = .ok (.iadd, 1) := od_96  (by decide +kernel)
theorem dX12_setFor_32 : decode cX12_setFor 32 = .ok (.iaload, 1) := od_46  (by decide +kernel)
theorem dX12_setFor_33 : decode cX12_setFor 33 = .ok (.i2l, 1) := od_133  (by decide +kernel)
theorem dX12_setFor_34 : decode cX12_setFor 34 = .ok (.lastore, 1) := od_80  (by decide +kernel)
theorem dX12_setFor_35 : decode cX12_setFor 35 = .ok (.aload_n 0, 1) := od_42  (by decide +kernel)
theorem dX12_setFor_36 : decode cX12_setFor 36 = .ok (.getfield 49, 3) := od_180 (a := 0) (b := 49) (by decide +kernel) (by decide)
theorem dX12_setFor_39 : decode cX12_setFor 39 = .ok (.iconst 2, 1) := od_5  (by decide +kernel)
theorem dX12_setFor_40 : decode cX12_setFor 40 = .ok (.aload_n 0, 1) := od_42  (by decide +kernel)
theorem dX12_setFor_41 : decode cX12_setFor 41 = .ok (.iload_n 1, 1) := od_27  (by decide +kernel)
theorem dX12_setFor_42 : decode cX12_setFor 42 = .ok (.invokevirtual 425, 3) := od_182 (a := 1) (b := 169) (by decide +kernel) (by decide)
theorem dX12_setFor_45 : decode cX12_setFor 45 = .ok (.i2l, 1) := od_133  (by decide +kernel)
theorem dX12_setFor_46 : decode cX12_setFor 46 = .ok (.lastore, 1) := od_80  (by decide +kernel)
theorem dX12_setFor_47 : decode cX12_setFor 47 = .ok (.aload_n 0, 1) := od_42  (by decide +kernel)
theorem dX12_setFor_48 : decode cX12_setFor 48 = .ok (.getfield 49, 3) := od_180 (a := 0) (b := 49) (by decide +kernel) (by decide)
theorem dX12_setFor_51 : decode cX12_setFor 51 = .ok (.iconst 3, 1) := od_6  (by decide +kernel)
theorem dX12_setFor_52 : decode cX12_setFor 52 = .ok (.aload_n 0, 1) := od_42  (by decide +kernel)
theorem dX12_setFor_53 : decode cX12_setFor 53 = .ok (.iload_n 1, 1) := od_27  (by decide +kernel)
theorem dX12_setFor_54 : decode cX12_setFor 54 = .ok (.invokevirtual 245, 3) := od_182 (a := 0) (b := 245) (by decide +kernel) (by decide)
theorem dX12_setFor_57 : decode cX12_setFor 57 = .ok (.i2l, 1) := od_133  (by decide +kernel)
theorem dX12_setFor_58 : decode cX12_setFor 58 = .ok (.lastore, 1) := od_80  (by decide +kernel)
theorem dX12_setFor_59 : decode cX12_setFor 59 = .ok (.aload_n 0, 1) := od_42  (by decide +kernel)
theorem dX12_setFor_60 : decode cX12_setFor 60 = .ok (.getfield 49, 3) := od_180 (a := 0) (b := 49) (by decide +kernel) (by decide)
theorem dX12_setFor_63 : decode cX12_setFor 63 = .ok (.iconst 4, 1) := od_7  (by decide +kernel)
theorem dX12_setFor_64 : decode cX12_setFor 64 = .ok (.lconst 0, 1) := od_9  (by decide +kernel)
theorem dX12_setFor_65 : decode cX12_setFor 65 = .ok (.lastore, 1) := od_80  (by decide +kernel)
theorem dX12_setFor_66 : decode cX12_setFor 66 = .ok (.aload_n 0, 1) := od_42  (by decide +kernel)
theorem dX12_setFor_67 : decode cX12_setFor 67 = .ok (.getfield 7, 3) := od_180 (a := 0) (b := 7) (by decide +kernel) (by decide)
theorem dX12_setFor_70 : decode cX12_setFor 70 = .ok (.iload_n 2, 1) := od_28  (by decide +kernel)
theorem dX12_setFor_71 : decode cX12_setFor 71 = .ok (.iconst 1, 1) := od_4  (by decide +kernel)
theorem dX12_setFor_72 : decode cX12_setFor 72 = .ok (.iadd, 1) := od_96  (by decide +kernel)
theorem dX12_setFor_73 : decode cX12_setFor 73 = .ok (.iaload, 1) := od_46  (by decide +kernel)
theorem dX12_setFor_74 : decode cX12_setFor 74 = .ok (.iconst 1, 1) := od_4  (by decide +kernel)
theorem dX12_setFor_75 : decode cX12_setFor 75 = .ok (.iadd, 1) := od_96  (by decide +kernel)
theorem dX12_setFor_76 : decode cX12_setFor 76 = .ok (.istore 6, 2) := od_54 (n := 6) (by decide +kernel)
theorem dX12_setFor_78 : decode cX12_setFor 78 = .ok (.iload 6, 2) := od_21 (n := 6) (by decide +kernel)
theorem dX12_setFor_80 : decode cX12_setFor 80 = .ok (.iload 5, 2) := od_21 (n := 5) (by decide +kernel)
theorem dX12_setFor_82 : decode cX12_setFor 82 = .ok (.if_icmp .gt 33, 3) := od_163 (a := 0) (b := 33) (by decide +kernel) (by decide +kernel)
theorem dX12_setFor_85 : decode cX12_setFor 85 = .ok (.aload_n 0, 1) := od_42  (by decide +kernel)
theorem dX12_setFor_86 : decode cX12_setFor 86 = .ok (.getfield 49, 3) := od_180 (a := 0) (b := 49) (by decide +kernel) (by decide)
theorem dX12_setFor_89 : decode cX12_setFor 89 = .ok (.iconst 4, 1) := od_7  (by decide +kernel)
theorem dX12_setFor_90 : decode cX12_setFor 90 = .ok (.dup2, 1) := od_92  (by decide +kernel)
theorem dX12_setFor_91 : decode cX12_setFor 91 = .ok (.laload, 1) := od_47  (by decide +kernel)
theorem dX12_setFor_92 : decode cX12_setFor 92 = .ok (.aload_n 0, 1) := od_42  (by decide +kernel)
theorem dX12_setFor_93 : decode cX12_setFor 93 = .ok (.iload 6, 2) := od_21 (n := 6) (by decide +kernel)
theorem dX12_setFor_95 : decode cX12_setFor 95 = .ok (.iload_n 3, 1) := od_29  (by decide +kernel)
theorem dX12_setFor_96 : decode cX12_setFor 96 = .ok (.invokevirtual 428, 3) := od_182 (a := 1) (b := 172) (by decide +kernel) (by decide)
theorem dX12_setFor_99 : decode cX12_setFor 99 = .ok (.ifCond .eq 7, 3) := od_153 (a := 0) (b := 7) (by decide +kernel) (by decide +kernel)
theorem dX12_setFor_102 : decode cX12_setFor 102 = .ok (.lconst 0, 1) := od_9  (by decide +kernel)
theorem dX12_setFor_103 : decode cX12_setFor 103 = .ok (.goto 4, 3) := od_167 (a := 0) (b := 4) (by decide +kernel) (by decide +kernel)
theorem dX12_setFor_106 : decode cX12_setFor 106 = .ok (.lconst 1, 1) := od_10  (by decide +kernel)
theorem dX12_setFor_107 : decode cX12_setFor 107 = .ok (.ladd, 1) := od_97  (by decide +kernel)
theorem dX12_setFor_108 : decode cX12_setFor 108 = .ok (.lastore, 1) := od_80  (by decide +kernel)
theorem dX12_setFor_109 : decode cX12_setFor 109 = .ok (.iinc 6 1, 3) := od_132 (a := 6) (b := 1) (by decide +kernel) (by decide +kernel)
theorem dX12_setFor_112 : decode cX12_setFor 112 = .ok (.goto (-34), 3) := od_167 (a := 255) (b := 222) (by decide +kernel) (by decide +kernel)
theorem dX12_setFor_115 : decode cX12_setFor 115 = .ok (.aload_n 0, 1) := od_42  (by decide +kernel)
theorem dX12_setFor_116 : decode cX12_setFor 116 = .ok (.getfield 49, 3) := od_180 (a := 0) (b := 49) (by decide +kernel) (by decide)
theorem dX12_setFor_119 : decode cX12_setFor 119 = .ok (.iconst 5, 1) := od_8  (by decide +kernel)
theorem dX12_setFor_120 : decode cX12_setFor 120 = .ok (.iload 4, 2) := od_21 (n := 4) (by decide +kernel)
theorem dX12_setFor_122 : decode cX12_setFor 122 = .ok (.aload_n 0, 1) := od_42  (by decide +kernel)
theorem dX12_setFor_123 : decode cX12_setFor 123 = .ok (.getfield 7, 3) := od_180 (a := 0) (b := 7) (by decide +kernel) (by decide)
theorem dX12_setFor_126 : decode cX12_setFor 126 = .ok (.iload_n 2, 1) := od_28  (by decide +kernel)
theorem dX12_setFor_127 : decode cX12_setFor 127 = .ok (.iaload, 1) := od_46  (by decide +kernel)
theorem dX12_setFor_128 : decode cX12_setFor 128 = .ok (.if_icmp .ge 16, 3) := od_162 (a := 0) (b := 16) (by decide +kernel) (by decide +kernel)
theorem dX12_setFor_131 : decode cX12_setFor 131 = .ok (.aload_n 0, 1) := od_42  (by decide +kernel)
theorem dX12_setFor_132 : decode cX12_setFor 132 = .ok (.getfield 7, 3) := od_180 (a := 0) (b := 7) (by decide +kernel) (by decide)
theorem dX12_setFor_135 : decode cX12_setFor 135 = .ok (.iload_n 2, 1) := od_28  (by decide +kernel)
theorem dX12_setFor_136 : decode cX12_setFor 136 = .ok (.iaload, 1) := od_46  (by decide +kernel)
theorem dX12_setFor_137 : decode cX12_setFor 137 = .ok (.iload 4, 2) := od_21 (n := 4) (by decide +kernel)
theorem dX12_setFor_139 : decode cX12_setFor 139 = .ok (.isub, 1) := od_100  (by decide +kernel)
theorem dX12_setFor_140 : decode cX12_setFor 140 = .ok (.i2l, 1) := od_133  (by decide +kernel)
theorem dX12_setFor_141 : decode cX12_setFor 141 = .ok (.goto 4, 3) := od_167 (a := 0) (b := 4) (by decide +kernel) (by decide +kernel)
theorem dX12_setFor_144 : decode cX12_setFor 144 = .ok (.lconst 0, 1) := od_9  (by decide +kernel)
theorem dX12_setFor_145 : decode cX12_setFor 145 = .ok (.lastore, 1) := od_80  (by decide +kernel)
theorem dX12_setFor_146 : decode cX12_setFor 146 = .ok (.aload_n 0, 1) := od_42  (by decide +kernel)
theorem dX12_setFor_147 : decode cX12_setFor 147 = .ok (.getfield 49, 3) := od_180 (a := 0) (b := 49) (by decide +kernel) (by decide)
theorem dX12_setFor_150 : decode cX12_setFor 150 = .ok (.bipush 6, 2) := od_16 (a := 6) (by decide +kernel) (by decide +kernel)
theorem dX12_setFor_152 : decode cX12_setFor 152 = .ok (.aload_n 0, 1) := od_42  (by decide +kernel)
theorem dX12_setFor_153 : decode cX12_setFor 153 = .ok (.iload 5, 2) := od_21 (n := 5) (by decide +kernel)
theorem dX12_setFor_155 : decode cX12_setFor 155 = .ok (.bipush 24, 2) := od_16 (a := 24) (by decide +kernel) (by decide +kernel)
theorem dX12_setFor_157 : decode cX12_setFor 157 = .ok (.idiv, 1) := od_108  (by decide +kernel)
theorem dX12_setFor_158 : decode cX12_setFor 158 = .ok (.iload_n 3, 1) := od_29  (by decide +kernel)
theorem dX12_setFor_159 : decode cX12_setFor 159 = .ok (.invokevirtual 431, 3) := od_182 (a := 1) (b := 175) (by decide +kernel) (by decide)
theorem dX12_setFor_162 : decode cX12_setFor 162 = .ok (.i2l, 1) := od_133  (by decide +kernel)
theorem dX12_setFor_163 : decode cX12_setFor 163 = .ok (.lastore, 1) := od_80  (by decide +kernel)
theorem dX12_setFor_164 : decode cX12_setFor 164 = .ok (.aload_n 0, 1) := od_42  (by decide +kernel)
theorem dX12_setFor_165 : decode cX12_setFor 165 = .ok (.getfield 49, 3) := od_180 (a := 0) (b := 49) (by decide +kernel) (by decide)
theorem dX12_setFor_168 : decode cX12_setFor 168 = .ok (.bipush 7, 2) := od_16 (a := 7) (by decide +kernel) (by decide +kernel)
theorem dX12_setFor_170 : decode cX12_setFor 170 = .ok (.iload 5, 2) := od_21 (n := 5) (by decide +kernel)
theorem dX12_setFor_172 : decode cX12_setFor 172 = .ok (.iload 4, 2) := od_21 (n := 4) (by decide +kernel)
theorem dX12_setFor_174 : decode cX12_setFor 174 = .ok (.isub, 1) := od_100  (by decide +kernel)
theorem dX12_setFor_175 : decode cX12_setFor 175 = .ok (.i2l, 1) := od_133  (by decide +kernel)
theorem dX12_setFor_176 : decode cX12_setFor 176 = .ok (.lconst 1, 1) := od_10  (by decide +kernel)
theorem dX12_setFor_177 : decode cX12_setFor 177 = .ok (.ladd, 1) := od_97  (by decide +kernel)
theorem dX12_setFor_178 : decode cX12_setFor 178 = .ok (.lastore, 1) := od_80  (by decide +kernel)
theorem dX12_setFor_179 : decode cX12_setFor 179 = .ok (.aload_n 0, 1) := od_42  (by decide +kernel)
theorem dX12_setFor_180 : decode cX12_setFor 180 = .ok (.getfield 49, 3) := od_180 (a := 0) (b := 49) (by decide +kernel) (by decide)
theorem dX12_setFor_183 : decode cX12_setFor 183 = .ok (.bipush 8, 2) := od_16 (a := 8) (by decide +kernel) (by decide +kernel)
theorem dX12_setFor_185 : decode cX12_setFor 185 = .ok (.aload_n 0, 1) := od_42  (by decide +kernel)
theorem dX12_setFor_186 : decode cX12_setFor 186 = .ok (.getfield 7, 3) := od_180 (a := 0) (b := 7) (by decide +kernel) (by decide)
theorem dX12_setFor_189 : decode cX12_setFor 189 = .ok (.iload_n 1, 1) := od_27  (by decide +kernel)
theorem dX12_setFor_190 : decode cX12_setFor 190 = .ok (.iconst 1, 1) := od_4  (by decide +kernel)
theorem dX12_setFor_191 : decode cX12_setFor 191 = .ok (.iadd, 1) := od_96  (by decide +kernel)
theorem dX12_setFor_192 : decode cX12_setFor 192 = .ok (.iaload, 1) := od_46  (by decide +kernel)
theorem dX12_setFor_193 : decode cX12_setFor 193 = .ok (.aload_n 0, 1) := od_42  (by decide +kernel)
theorem dX12_setFor_194 : decode cX12_setFor 194 = .ok (.getfield 7, 3) := od_180 (a := 0) (b := 7) (by decide +kernel) (by decide)
theorem dX12_setFor_197 : decode cX12_setFor 197 = .ok (.iload_n 2, 1) := od_28  (by decide +kernel)
theorem dX12_setFor_198 : decode cX12_setFor 198 = .ok (.iconst 2, 1) := od_5  (by decide +kernel)
theorem dX12_setFor_199 : decode cX12_setFor 199 = .ok (.iadd, 1) := od_96  (by decide +kernel)
theorem dX12_setFor_200 : decode cX12_setFor 200 = .ok (.iaload, 1) := od_46  (by decide +kernel)
theorem dX12_setFor_201 : decode cX12_setFor 201 = .ok (.if_icmp .ne 7, 3) := od_160 (a := 0) (b := 7) (by decide +kernel) (by decide +kernel)
theorem dX12_setFor_204 : decode cX12_setFor 204 = .ok (.lconst 0, 1) := od_9  (by decide +kernel)
theorem dX12_setFor_205 : decode cX12_setFor 205 = .ok (.goto 4, 3) := od_167 (a := 0) (b := 4) (by decide +kernel) (by decide +kernel)
theorem dX12_setFor_208 : decode cX12_setFor 208 = .ok (.lconst 1, 1) := od_10  (by decide +kernel)
theorem dX12_setFor_209 : decode cX12_setFor 209 = .ok (.lastore, 1) := od_80  (by decide +kernel)
theorem dX12_setFor_210 : decode cX12_setFor 210 = .ok (.return_, 1) := od_177  (by decide +kernel)
theorem dX12_size_0 : decode cX12_size 0 = .ok (.lload_n 0, 1) := od_30  (by decide +kernel)
theorem dX12_size_1 : decode cX12_size 1 = .ok (.lconst 0, 1) := od_9  (by decide +kernel)
theorem dX12_size_2 : decode cX12_size 2 = .ok (.lcmp, 1) := od_148  (by decide +kernel)
theorem dX12_size_3 : decode cX12_size 3 = .ok (.ifCond .ge 8, 3) := od_156 (a := 0) (b := 8) (by decide +kernel) (by decide +kernel)
theorem dX12_size_6 : decode cX12_size 6 = .ok (.lload_n 0, 1) := od_30  (by decide +kernel)
theorem dX12_size_7 : decode cX12_size 7 = .ok (.lneg, 1) := od_117  (by decide +kernel)
theorem dX12_size_8 : decode cX12_size 8 = .ok (.goto 4, 3) := od_167 (a := 0) (b := 4) (by decide +kernel) (by decide +kernel)
theorem dX12_size_11 : decode cX12_size 11 = .ok (.lload_n 0, 1) := od_30  (by decide +kernel)
theorem dX12_size_12 : decode cX12_size 12 = .ok (.lreturn, 1) := od_173  (by decide +kernel)
theorem gX12_reckon_X12_size : GoodIn WALL (va_wsS RX12 434 yX12_size wqX12_size) := wg_S wa_1231 wa_1232 wa_5 wa_1233
theorem dX12_reckon_0 : decode cX12_reckon 0 = .ok (.iload_n 1, 1) := od_27  (by decide +kernel)
theorem dX12_reckon_1 : decode cX12_reckon 1 = .ok (.tableswitch 155 10 15 #[39, 44, 49, 97, 129, 142], 39) := by decide +kernel
theorem dX12_reckon_40 : decode cX12_reckon 40 = .ok (.lload_n 2, 1) := od_32  (by decide +kernel)
theorem dX12_reckon_41 : decode cX12_reckon 41 = .ok (.lload 4, 2) := od_22 (n := 4) (by decide +kernel)
theorem dX12_reckon_43 : decode cX12_reckon 43 = .ok (.ladd, 1) := od_97  (by decide +kernel)
theorem dX12_reckon_44 : decode cX12_reckon 44 = .ok (.lreturn, 1) := od_173  (by decide +kernel)
theorem dX12_reckon_45 : decode cX12_reckon 45 = .ok (.lload_n 2, 1) := od_32  (by decide +kernel)
theorem dX12_reckon_46 : decode cX12_reckon 46 = .ok (.lload 4, 2) := od_22 (n := 4) (by decide +kernel)
theorem dX12_reckon_48 : decode cX12_reckon 48 = .ok (.lsub, 1) := od_101  (by decide +kernel)
theorem dX12_reckon_49 : decode cX12_reckon 49 = .ok (.lreturn, 1) := od_173  (by decide +kernel)
theorem dX12_reckon_50 : decode cX12_reckon 50 = .ok (.aload_n 0, 1) := od_42  (by decide +kernel)
theorem dX12_reckon_51 : decode cX12_reckon 51 = .ok (.lload_n 2, 1) := od_32  (by decide +kernel)
theorem dX12_reckon_52 : decode cX12_reckon 52 = .ok (.lconst 0, 1) := od_9  (by decide +kernel)
theorem dX12_reckon_53 : decode cX12_reckon 53 = .ok (.lcmp, 1) := od_148  (by decide +kernel)
theorem dX12_reckon_54 : decode cX12_reckon 54 = .ok (.ifCond .eq 24, 3) := od_153 (a := 0) (b := 24) (by decide +kernel) (by decide +kernel)
theorem dX12_reckon_57 : decode cX12_reckon 57 = .ok (.lload 4, 2) := od_22 (n := 4) (by decide +kernel)
theorem dX12_reckon_59 : decode cX12_reckon 59 = .ok (.invokestatic 434, 3) := od_184 (a := 1) (b := 178) (by decide +kernel) (by decide)
theorem dX12_reckon_62 : decode cX12_reckon 62 = .ok (.ldc2_w 438, 3) := od_20 (a := 1) (b := 182) (by decide +kernel) (by decide)
theorem dX12_reckon_65 : decode cX12_reckon 65 = .ok (.lload_n 2, 1) := od_32  (by decide +kernel)
theorem dX12_reckon_66 : decode cX12_reckon 66 = .ok (.invokestatic 434, 3) := od_184 (a := 1) (b := 178) (by decide +kernel) (by decide)
theorem dX12_reckon_69 : decode cX12_reckon 69 = .ok (.ldiv, 1) := od_109  (by decide +kernel)
theorem dX12_reckon_70 : decode cX12_reckon 70 = .ok (.lcmp, 1) := od_148  (by decide +kernel)
theorem dX12_reckon_71 : decode cX12_reckon 71 = .ok (.ifCond .le 7, 3) := od_158 (a := 0) (b := 7) (by decide +kernel) (by decide +kernel)
theorem dX12_reckon_74 : decode cX12_reckon 74 = .ok (.iconst 1, 1) := od_4  (by decide +kernel)
theorem dX12_reckon_75 : decode cX12_reckon 75 = .ok (.goto 4, 3) := od_167 (a := 0) (b := 4) (by decide +kernel) (by decide +kernel)
theorem dX12_reckon_78 : decode cX12_reckon 78 = .ok (.iconst 0, 1) := od_3  (by decide +kernel)
theorem dX12_reckon_79 : decode cX12_reckon 79 = .ok (.putfield 440, 3) := od_181 (a := 1) (b := 184) (by decide +kernel) (by decide)
theorem dX12_reckon_82 : decode cX12_reckon 82 = .ok (.aload_n 0, 1) := od_42  (by decide +kernel)
theorem dX12_reckon_83 : decode cX12_reckon 83 = .ok (.getfield 440, 3) := od_180 (a := 1) (b := 184) (by decide +kernel) (by decide)
theorem dX12_reckon_86 : decode cX12_reckon 86 = .ok (.ifCond .eq 7, 3) := od_153 (a := 0) (b := 7) (by decide +kernel) (by decide +kernel)
theorem dX12_reckon_89 : decode cX12_reckon 89 = .ok (.lconst 0, 1) := od_9  (by decide +kernel)
theorem dX12_reckon_90 : decode cX12_reckon 90 = .ok (.goto 7, 3) := od_167 (a := 0) (b := 7) (by decide +kernel) (by decide +kernel)
theorem dX12_reckon_93 : decode cX12_reckon 93 = .ok (.lload_n 2, 1) := od_32  (by decide +kernel)
theorem dX12_reckon_94 : decode cX12_reckon 94 = .ok (.lload 4, 2) := od_22 (n := 4) (by decide +kernel)
theorem dX12_reckon_96 : decode cX12_reckon 96 = .ok (.lmul, 1) := od_105  (by decide +kernel)
theorem dX12_reckon_97 : decode cX12_reckon 97 = .ok (.lreturn, 1) := od_173  (by decide +kernel)
theorem dX12_reckon_98 : decode cX12_reckon 98 = .ok (.aload_n 0, 1) := od_42  (by decide +kernel)
theorem dX12_reckon_99 : decode cX12_reckon 99 = .ok (.lload 4, 2) := od_22 (n := 4) (by decide +kernel)
theorem dX12_reckon_101 : decode cX12_reckon 101 = .ok (.lconst 0, 1) := od_9  (by decide +kernel)
theorem dX12_reckon_102 : decode cX12_reckon 102 = .ok (.lcmp, 1) := od_148  (by decide +kernel)
theorem dX12_reckon_103 : decode cX12_reckon 103 = .ok (.ifCond .ne 7, 3) := od_154 (a := 0) (b := 7) (by decide +kernel) (by decide +kernel)
theorem dX12_reckon_106 : decode cX12_reckon 106 = .ok (.iconst 1, 1) := od_4  (by decide +kernel)
theorem dX12_reckon_107 : decode cX12_reckon 107 = .ok (.goto 4, 3) := od_167 (a := 0) (b := 4) (by decide +kernel) (by decide +kernel)
theorem dX12_reckon_110 : decode cX12_reckon 110 = .ok (.iconst 0, 1) := od_3  (by decide +kernel)
theorem dX12_reckon_111 : decode cX12_reckon 111 = .ok (.putfield 440, 3) := od_181 (a := 1) (b := 184) (by decide +kernel) (by decide)
theorem dX12_reckon_114 : decode cX12_reckon 114 = .ok (.aload_n 0, 1) := od_42  (by decide +kernel)
theorem dX12_reckon_115 : decode cX12_reckon 115 = .ok (.getfield 440, 3) := od_180 (a := 1) (b := 184) (by decide +kernel) (by decide)
theorem dX12_reckon_118 : decode cX12_reckon 118 = .ok (.ifCond .eq 7, 3) := od_153 (a := 0) (b := 7) (by decide +kernel) (by decide +kernel)
theorem dX12_reckon_121 : decode cX12_reckon 121 = .ok (.lconst 0, 1) := od_9  (by decide +kernel)
theorem dX12_reckon_122 : decode cX12_reckon 122 = .ok (.goto 7, 3) := od_167 (a := 0) (b := 7) (by decide +kernel) (by decide +kernel)
theorem dX12_reckon_125 : decode cX12_reckon 125 = .ok (.lload_n 2, 1) := od_32  (by decide +kernel)
theorem dX12_reckon_126 : decode cX12_reckon 126 = .ok (.lload 4, 2) := od_22 (n := 4) (by decide +kernel)
theorem dX12_reckon_128 : decode cX12_reckon 128 = .ok (.ldiv, 1) := od_109  (by decide +kernel)
theorem dX12_reckon_129 : decode cX12_reckon 129 = .ok (.lreturn, 1) := od_173  (by decide +kernel)
theorem dX12_reckon_130 : decode cX12_reckon 130 = .ok (.lload_n 2, 1) := od_32  (by decide +kernel)
theorem dX12_reckon_131 : decode cX12_reckon 131 = .ok (.lload 4, 2) := od_22 (n := 4) (by decide +kernel)
theorem dX12_reckon_133 : decode cX12_reckon 133 = .ok (.lcmp, 1) := od_148  (by decide +kernel)
theorem dX12_reckon_134 : decode cX12_reckon 134 = .ok (.ifCond .ge 7, 3) := od_156 (a := 0) (b := 7) (by decide +kernel) (by decide +kernel)
theorem dX12_reckon_137 : decode cX12_reckon 137 = .ok (.lconst 1, 1) := od_10  (by decide +kernel)
theorem dX12_reckon_138 : decode cX12_reckon 138 = .ok (.goto 4, 3) := od_167 (a := 0) (b := 4) (by decide +kernel) (by decide +kernel)
theorem dX12_reckon_141 : decode cX12_reckon 141 = .ok (.lconst 0, 1) := od_9  (by decide +kernel)
theorem dX12_reckon_142 : decode cX12_reckon 142 = .ok (.lreturn, 1) := od_173  (by decide +kernel)
theorem dX12_reckon_143 : decode cX12_reckon 143 = .ok (.lload_n 2, 1) := od_32  (by decide +kernel)
theorem dX12_reckon_144 : decode cX12_reckon 144 = .ok (.lload 4, 2) := od_22 (n := 4) (by decide +kernel)
theorem dX12_reckon_146 : decode cX12_reckon 146 = .ok (.lcmp, 1) := od_148  (by decide +kernel)
theorem dX12_reckon_147 : decode cX12_reckon 147 = .ok (.ifCond .le 7, 3) := od_158 (a := 0) (b := 7) (by decide +kernel) (by decide +kernel)
theorem dX12_reckon_150 : decode cX12_reckon 150 = .ok (.lconst 1, 1) := od_10  (by decide +kernel)
theorem dX12_reckon_151 : decode cX12_reckon 151 = .ok (.goto 4, 3) := od_167 (a := 0) (b := 4) (by decide +kernel) (by decide +kernel)
theorem dX12_reckon_154 : decode cX12_reckon 154 = .ok (.lconst 0, 1) := od_9  (by decide +kernel)
theorem dX12_reckon_155 : decode cX12_reckon 155 = .ok (.lreturn, 1) := od_173  (by decide +kernel)
theorem dX12_reckon_156 : decode cX12_reckon 156 = .ok (.lload_n 2, 1) := od_32  (by decide +kernel)
theorem dX12_reckon_157 : decode cX12_reckon 157 = .ok (.lload 4, 2) := od_22 (n := 4) (by decide +kernel)
theorem dX12_reckon_159 : decode cX12_reckon 159 = .ok (.lcmp, 1) := od_148  (by decide +kernel)
theorem dX12_reckon_160 : decode cX12_reckon 160 = .ok (.ifCond .ne 7, 3) := od_154 (a := 0) (b := 7) (by decide +kernel) (by decide +kernel)
theorem dX12_reckon_163 : decode cX12_reckon 163 = .ok (.lconst 1, 1) := od_10  (by decide +kernel)
theorem dX12_reckon_164 : decode cX12_reckon 164 = .ok (.goto 4, 3) := od_167 (a := 0) (b := 4) (by decide +kernel) (by decide +kernel)
theorem dX12_reckon_167 : decode cX12_reckon 167 = .ok (.lconst 0, 1) := od_9  (by decide +kernel)
theorem dX12_reckon_168 : decode cX12_reckon 168 = .ok (.lreturn, 1) := od_173  (by decide +kernel)
theorem gX12_run_X12_reckon : GoodIn WALL (wsV RX12 443 RX12 yX12_reckon wqX12_reckon) := wg_V wa_1227 wa_1228 wa_1229 wa_5 wa_1230
theorem gX12_run_X12_in : GoodIn WALL (va_wsS RX12 99 yX12_in wqX12_in) := wg_S wa_213 wa_214 wa_5 wa_215
theorem dX12_run_0 : decode cX12_run 0 = .ok (.aload_n 0, 1) := od_42  (by decide +kernel)
theorem dX12_run_1 : decode cX12_run 1 = .ok (.iconst 0, 1) := od_3  (by decide +kernel)
theorem dX12_run_2 : decode cX12_run 2 = .ok (.putfield 440, 3) := od_181 (a := 1) (b := 184) (by decide +kernel) (by decide)
theorem dX12_run_5 : decode cX12_run 5 = .ok (.iconst 0, 1) := od_3  (by decide +kernel)
theorem dX12_run_6 : decode cX12_run 6 = .ok (.istore 4, 2) := od_54 (n := 4) (by decide +kernel)
theorem dX12_run_8 : decode cX12_run 8 = .ok (.iload_n 2, 1) := od_28  (by decide +kernel)
theorem dX12_run_9 : decode cX12_run 9 = .ok (.istore 5, 2) := od_54 (n := 5) (by decide +kernel)
theorem dX12_run_11 : decode cX12_run 11 = .ok (.iload 5, 2) := od_21 (n := 5) (by decide +kernel)
theorem dX12_run_13 : decode cX12_run 13 = .ok (.iload_n 3, 1) := od_29  (by decide +kernel)
theorem dX12_run_14 : decode cX12_run 14 = .ok (.if_icmp .ge 234, 3) := od_162 (a := 0) (b := 234) (by decide +kernel) (by decide +kernel)
theorem dX12_run_17 : decode cX12_run 17 = .ok (.aload_n 0, 1) := od_42  (by decide +kernel)
theorem dX12_run_18 : decode cX12_run 18 = .ok (.getfield 440, 3) := od_180 (a := 1) (b := 184) (by decide +kernel) (by decide)
theorem dX12_run_21 : decode cX12_run 21 = .ok (.ifCond .ne 227, 3) := od_154 (a := 0) (b := 227) (by decide +kernel) (by decide +kernel)
theorem dX12_run_24 : decode cX12_run 24 = .ok (.aload_n 0, 1) := od_42  (by decide +kernel)
theorem dX12_run_25 : decode cX12_run 25 = .ok (.getfield 7, 3) := od_180 (a := 0) (b := 7) (by decide +kernel) (by decide)
theorem dX12_run_28 : decode cX12_run 28 = .ok (.iload_n 1, 1) := od_27  (by decide +kernel)
theorem dX12_run_29 : decode cX12_run 29 = .ok (.bipush 64, 2) := od_16 (a := 64) (by decide +kernel) (by decide +kernel)
theorem dX12_run_31 : decode cX12_run 31 = .ok (.iadd, 1) := od_96  (by decide +kernel)
theorem dX12_run_32 : decode cX12_run 32 = .ok (.iconst 2, 1) := od_5  (by decide +kernel)
theorem dX12_run_33 : decode cX12_run 33 = .ok (.iload 5, 2) := od_21 (n := 5) (by decide +kernel)
theorem dX12_run_35 : decode cX12_run 35 = .ok (.imul, 1) := od_104  (by decide +kernel)
theorem dX12_run_36 : decode cX12_run 36 = .ok (.iadd, 1) := od_96  (by decide +kernel)
theorem dX12_run_37 : decode cX12_run 37 = .ok (.iaload, 1) := od_46  (by decide +kernel)
theorem dX12_run_38 : decode cX12_run 38 = .ok (.istore 6, 2) := od_54 (n := 6) (by decide +kernel)
theorem dX12_run_40 : decode cX12_run 40 = .ok (.aload_n 0, 1) := od_42  (by decide +kernel)
theorem dX12_run_41 : decode cX12_run 41 = .ok (.getfield 7, 3) := od_180 (a := 0) (b := 7) (by decide +kernel) (by decide)
theorem dX12_run_44 : decode cX12_run 44 = .ok (.iload_n 1, 1) := od_27  (by decide +kernel)
theorem dX12_run_45 : decode cX12_run 45 = .ok (.bipush 64, 2) := od_16 (a := 64) (by decide +kernel) (by decide +kernel)
theorem dX12_run_47 : decode cX12_run 47 = .ok (.iadd, 1) := od_96  (by decide +kernel)
theorem dX12_run_48 : decode cX12_run 48 = .ok (.iconst 2, 1) := od_5  (by decide +kernel)
theorem dX12_run_49 : decode cX12_run 49 = .ok (.iload 5, 2) := od_21 (n := 5) (by decide +kernel)
theorem dX12_run_51 : decode cX12_run 51 = .ok (.imul, 1) := od_104  (by decide +kernel)
theorem dX12_run_52 : decode cX12_run 52 = .ok (.iadd, 1) := od_96  (by decide +kernel)
theorem dX12_run_53 : decode cX12_run 53 = .ok (.iconst 1, 1) := od_4  (by decide +kernel)
theorem dX12_run_54 : decode cX12_run 54 = .ok (.iadd, 1) := od_96  (by decide +kernel)
theorem dX12_run_55 : decode cX12_run 55 = .ok (.iaload, 1) := od_46  (by decide +kernel)
theorem dX12_run_56 : decode cX12_run 56 = .ok (.istore 7, 2) := od_54 (n := 7) (by decide +kernel)
theorem dX12_run_58 : decode cX12_run 58 = .ok (.iinc 5 1, 3) := od_132 (a := 5) (b := 1) (by decide +kernel) (by decide +kernel)
theorem dX12_run_61 : decode cX12_run 61 = .ok (.iload 6, 2) := od_21 (n := 6) (by decide +kernel)
theorem dX12_run_63 : decode cX12_run 63 = .ok (.bipush 10, 2) := od_16 (a := 10) (by decide +kernel) (by decide +kernel)
theorem dX12_run_65 : decode cX12_run 65 = .ok (.if_icmp .ge 34, 3) := od_162 (a := 0) (b := 34) (by decide +kernel) (by decide +kernel)
theorem dX12_run_68 : decode cX12_run 68 = .ok (.aload_n 0, 1) := od_42  (by decide +kernel)
theorem dX12_run_69 : decode cX12_run 69 = .ok (.getfield 52, 3) := od_180 (a := 0) (b := 52) (by decide +kernel) (by decide)
theorem dX12_run_72 : decode cX12_run 72 = .ok (.iload 4, 2) := od_21 (n := 4) (by decide +kernel)
theorem dX12_run_74 : decode cX12_run 74 = .ok (.iload 6, 2) := od_21 (n := 6) (by decide +kernel)
theorem dX12_run_76 : decode cX12_run 76 = .ok (.ifCond .ne 9, 3) := od_154 (a := 0) (b := 9) (by decide +kernel) (by decide +kernel)
theorem dX12_run_79 : decode cX12_run 79 = .ok (.iload 7, 2) := od_21 (n := 7) (by decide +kernel)
theorem dX12_run_81 : decode cX12_run 81 = .ok (.i2l, 1) := od_133  (by decide +kernel)
theorem dX12_run_82 : decode cX12_run 82 = .ok (.goto 10, 3) := od_167 (a := 0) (b := 10) (by decide +kernel) (by decide +kernel)
theorem dX12_run_85 : decode cX12_run 85 = .ok (.aload_n 0, 1) := od_42  (by decide +kernel)
theorem dX12_run_86 : decode cX12_run 86 = .ok (.getfield 49, 3) := od_180 (a := 0) (b := 49) (by decide +kernel) (by decide)
theorem dX12_run_89 : decode cX12_run 89 = .ok (.iload 6, 2) := od_21 (n := 6) (by decide +kernel)
theorem dX12_run_91 : decode cX12_run 91 = .ok (.laload, 1) := od_47  (by decide +kernel)
theorem dX12_run_92 : decode cX12_run 92 = .ok (.lastore, 1) := od_80  (by decide +kernel)
theorem dX12_run_93 : decode cX12_run 93 = .ok (.iinc 4 1, 3) := od_132 (a := 4) (b := 1) (by decide +kernel) (by decide +kernel)
theorem dX12_run_96 : decode cX12_run 96 = .ok (.goto 149, 3) := od_167 (a := 0) (b := 149) (by decide +kernel) (by decide +kernel)
theorem dX12_run_99 : decode cX12_run 99 = .ok (.iload 6, 2) := od_21 (n := 6) (by decide +kernel)
theorem dX12_run_101 : decode cX12_run 101 = .ok (.bipush 17, 2) := od_16 (a := 17) (by decide +kernel) (by decide +kernel)
theorem dX12_run_103 : decode cX12_run 103 = .ok (.if_icmp .ge 77, 3) := od_162 (a := 0) (b := 77) (by decide +kernel) (by decide +kernel)
theorem dX12_run_106 : decode cX12_run 106 = .ok (.iinc 4 (-1), 3) := od_132 (a := 4) (b := 255) (by decide +kernel) (by decide +kernel)
theorem dX12_run_109 : decode cX12_run 109 = .ok (.aload_n 0, 1) := od_42  (by decide +kernel)
theorem dX12_run_110 : decode cX12_run 110 = .ok (.getfield 52, 3) := od_180 (a := 0) (b := 52) (by decide +kernel) (by decide)
theorem dX12_run_113 : decode cX12_run 113 = .ok (.iload 4, 2) := od_21 (n := 4) (by decide +kernel)
theorem dX12_run_115 : decode cX12_run 115 = .ok (.iconst 1, 1) := od_4  (by decide +kernel)
theorem dX12_run_116 : decode cX12_run 116 = .ok (.isub, 1) := od_100  (by decide +kernel)
theorem dX12_run_117 : decode cX12_run 117 = .ok (.aload_n 0, 1) := od_42  (by decide +kernel)
theorem dX12_run_118 : decode cX12_run 118 = .ok (.iload 6, 2) := od_21 (n := 6) (by decide +kernel)
theorem dX12_run_120 : decode cX12_run 120 = .ok (.aload_n 0, 1) := od_42  (by decide +kernel)
theorem dX12_run_121 : decode cX12_run 121 = .ok (.getfield 52, 3) := od_180 (a := 0) (b := 52) (by decide +kernel) (by decide)
theorem dX12_run_124 : decode cX12_run 124 = .ok (.iload 4, 2) := od_21 (n := 4) (by decide +kernel)
theorem dX12_run_126 : decode cX12_run 126 = .ok (.iconst 1, 1) := od_4  (by decide +kernel)
theorem dX12_run_127 : decode cX12_run 127 = .ok (.isub, 1) := od_100  (by decide +kernel)
theorem dX12_run_128 : decode cX12_run 128 = .ok (.laload, 1) := od_47  (by decide +kernel)
theorem dX12_run_129 : decode cX12_run 129 = .ok (.aload_n 0, 1) := od_42  (by decide +kernel)
theorem dX12_run_130 : decode cX12_run 130 = .ok (.getfield 52, 3) := od_180 (a := 0) (b := 52) (by decide +kernel) (by decide)
theorem dX12_run_133 : decode cX12_run 133 = .ok (.iload 4, 2) := od_21 (n := 4) (by decide +kernel)
theorem dX12_run_135 : decode cX12_run 135 = .ok (.laload, 1) := od_47  (by decide +kernel)
theorem dX12_run_136 : decode cX12_run 136 = .ok (.invokevirtual 443, 3) := od_182 (a := 1) (b := 187) (by decide +kernel) (by decide)
theorem dX12_run_139 : decode cX12_run 139 = .ok (.lastore, 1) := od_80  (by decide +kernel)
theorem dX12_run_140 : decode cX12_run 140 = .ok (.aload_n 0, 1) := od_42  (by decide +kernel)
theorem dX12_run_141 : decode cX12_run 141 = .ok (.aload_n 0, 1) := od_42  (by decide +kernel)
theorem dX12_run_142 : decode cX12_run 142 = .ok (.getfield 440, 3) := od_180 (a := 1) (b := 184) (by decide +kernel) (by decide)
theorem dX12_run_145 : decode cX12_run 145 = .ok (.ifCond .ne 24, 3) := od_154 (a := 0) (b := 24) (by decide +kernel) (by decide +kernel)
theorem dX12_run_148 : decode cX12_run 148 = .ok (.aload_n 0, 1) := od_42  (by decide +kernel)
theorem dX12_run_149 : decode cX12_run 149 = .ok (.getfield 52, 3) := od_180 (a := 0) (b := 52) (by decide +kernel) (by decide)
theorem dX12_run_152 : decode cX12_run 152 = .ok (.iload 4, 2) := od_21 (n := 4) (by decide +kernel)
theorem dX12_run_154 : decode cX12_run 154 = .ok (.iconst 1, 1) := od_4  (by decide +kernel)
theorem dX12_run_155 : decode cX12_run 155 = .ok (.isub, 1) := od_100  (by decide +kernel)
theorem dX12_run_156 : decode cX12_run 156 = .ok (.laload, 1) := od_47  (by decide +kernel)
theorem dX12_run_157 : decode cX12_run 157 = .ok (.ldc2_w 447, 3) := od_20 (a := 1) (b := 191) (by decide +kernel) (by decide)
theorem dX12_run_160 : decode cX12_run 160 = .ok (.ldc2_w 438, 3) := od_20 (a := 1) (b := 182) (by decide +kernel) (by decide)
theorem dX12_run_163 : decode cX12_run 163 = .ok (.invokestatic 99, 3) := od_184 (a := 0) (b := 99) (by decide +kernel) (by decide)
theorem dX12_run_166 : decode cX12_run 166 = .ok (.ifCond .ne 7, 3) := od_154 (a := 0) (b := 7) (by decide +kernel) (by decide +kernel)
theorem dX12_run_169 : decode cX12_run 169 = .ok (.iconst 1, 1) := od_4  (by decide +kernel)
theorem dX12_run_170 : decode cX12_run 170 = .ok (.goto 4, 3) := od_167 (a := 0) (b := 4) (by decide +kernel) (by decide +kernel)
theorem dX12_run_173 : decode cX12_run 173 = .ok (.iconst 0, 1) := od_3  (by decide +kernel)
theorem dX12_run_174 : decode cX12_run 174 = .ok (.putfield 440, 3) := od_181 (a := 1) (b := 184) (by decide +kernel) (by decide)
theorem dX12_run_177 : decode cX12_run 177 = .ok (.goto 68, 3) := od_167 (a := 0) (b := 68) (by decide +kernel) (by decide +kernel)
theorem dX12_run_180 : decode cX12_run 180 = .ok (.iload 6, 2) := od_21 (n := 6) (by decide +kernel)
theorem dX12_run_182 : decode cX12_run 182 = .ok (.bipush 17, 2) := od_16 (a := 17) (by decide +kernel) (by decide +kernel)
theorem dX12_run_184 : decode cX12_run 184 = .ok (.if_icmp .ne 26, 3) := od_160 (a := 0) (b := 26) (by decide +kernel) (by decide +kernel)
theorem dX12_run_187 : decode cX12_run 187 = .ok (.aload_n 0, 1) := od_42  (by decide +kernel)
theorem dX12_run_188 : decode cX12_run 188 = .ok (.getfield 52, 3) := od_180 (a := 0) (b := 52) (by decide +kernel) (by decide)
theorem dX12_run_191 : decode cX12_run 191 = .ok (.iload 4, 2) := od_21 (n := 4) (by decide +kernel)
theorem dX12_run_193 : decode cX12_run 193 = .ok (.iconst 1, 1) := od_4  (by decide +kernel)
theorem dX12_run_194 : decode cX12_run 194 = .ok (.isub, 1) := od_100  (by decide +kernel)
theorem dX12_run_195 : decode cX12_run 195 = .ok (.lconst 1, 1) := od_10  (by decide +kernel)
theorem dX12_run_196 : decode cX12_run 196 = .ok (.aload_n 0, 1) := od_42  (by decide +kernel)
theorem dX12_run_197 : decode cX12_run 197 = .ok (.getfield 52, 3) := od_180 (a := 0) (b := 52) (by decide +kernel) (by decide)
theorem dX12_run_200 : decode cX12_run 200 = .ok (.iload 4, 2) := od_21 (n := 4) (by decide +kernel)
theorem dX12_run_202 : decode cX12_run 202 = .ok (.iconst 1, 1) := od_4  (by decide +kernel)
theorem dX12_run_203 : decode cX12_run 203 = .ok (.isub, 1) := od_100  (by decide +kernel)
theorem dX12_run_204 : decode cX12_run 204 = .ok (.laload, 1) := od_47  (by decide +kernel)
theorem dX12_run_205 : decode cX12_run 205 = .ok (.lsub, 1) := od_101  (by decide +kernel)
theorem dX12_run_206 : decode cX12_run 206 = .ok (.lastore, 1) := od_80  (by decide +kernel)
theorem dX12_run_207 : decode cX12_run 207 = .ok (.goto 38, 3) := od_167 (a := 0) (b := 38) (by decide +kernel) (by decide +kernel)
theorem dX12_run_210 : decode cX12_run 210 = .ok (.aload_n 0, 1) := od_42  (by decide +kernel)
theorem dX12_run_211 : decode cX12_run 211 = .ok (.getfield 52, 3) := od_180 (a := 0) (b := 52) (by decide +kernel) (by decide)
theorem dX12_run_214 : decode cX12_run 214 = .ok (.iload 4, 2) := od_21 (n := 4) (by decide +kernel)
theorem dX12_run_216 : decode cX12_run 216 = .ok (.iconst 1, 1) := od_4  (by decide +kernel)
theorem dX12_run_217 : decode cX12_run 217 = .ok (.isub, 1) := od_100  (by decide +kernel)
theorem dX12_run_218 : decode cX12_run 218 = .ok (.laload, 1) := od_47  (by decide +kernel)
theorem dX12_run_219 : decode cX12_run 219 = .ok (.iload 6, 2) := od_21 (n := 6) (by decide +kernel)
theorem dX12_run_221 : decode cX12_run 221 = .ok (.bipush 18, 2) := od_16 (a := 18) (by decide +kernel) (by decide +kernel)
theorem dX12_run_223 : decode cX12_run 223 = .ok (.if_icmp .ne 7, 3) := od_160 (a := 0) (b := 7) (by decide +kernel) (by decide +kernel)
theorem dX12_run_226 : decode cX12_run 226 = .ok (.lconst 0, 1) := od_9  (by decide +kernel)
theorem dX12_run_227 : decode cX12_run 227 = .ok (.goto 4, 3) := od_167 (a := 0) (b := 4) (by decide +kernel) (by decide +kernel)
theorem dX12_run_230 : decode cX12_run 230 = .ok (.lconst 1, 1) := od_10  (by decide +kernel)
theorem dX12_run_231 : decode cX12_run 231 = .ok (.lcmp, 1) := od_148  (by decide +kernel)
theorem dX12_run_232 : decode cX12_run 232 = .ok (.ifCond .ne 10, 3) := od_154 (a := 0) (b := 10) (by decide +kernel) (by decide +kernel)
theorem dX12_run_235 : decode cX12_run 235 = .ok (.iload 7, 2) := od_21 (n := 7) (by decide +kernel)
theorem dX12_run_237 : decode cX12_run 237 = .ok (.istore 5, 2) := od_54 (n := 5) (by decide +kernel)
theorem dX12_run_239 : decode cX12_run 239 = .ok (.goto 6, 3) := od_167 (a := 0) (b := 6) (by decide +kernel) (by decide +kernel)
theorem dX12_run_242 : decode cX12_run 242 = .ok (.iinc 4 (-1), 3) := od_132 (a := 4) (b := 255) (by decide +kernel) (by decide +kernel)
theorem dX12_run_245 : decode cX12_run 245 = .ok (.goto (-234), 3) := od_167 (a := 255) (b := 22) (by decide +kernel) (by decide +kernel)
theorem dX12_run_248 : decode cX12_run 248 = .ok (.aload_n 0, 1) := od_42  (by decide +kernel)
theorem dX12_run_249 : decode cX12_run 249 = .ok (.iload 4, 2) := od_21 (n := 4) (by decide +kernel)
theorem dX12_run_251 : decode cX12_run 251 = .ok (.ifCond .le 12, 3) := od_158 (a := 0) (b := 12) (by decide +kernel) (by decide +kernel)
theorem dX12_run_254 : decode cX12_run 254 = .ok (.aload_n 0, 1) := od_42  (by decide +kernel)
theorem dX12_run_255 : decode cX12_run 255 = .ok (.getfield 52, 3) := od_180 (a := 0) (b := 52) (by decide +kernel) (by decide)
theorem dX12_run_258 : decode cX12_run 258 = .ok (.iconst 0, 1) := od_3  (by decide +kernel)
theorem dX12_run_259 : decode cX12_run 259 = .ok (.laload, 1) := od_47  (by decide +kernel)
theorem dX12_run_260 : decode cX12_run 260 = .ok (.goto 4, 3) := od_167 (a := 0) (b := 4) (by decide +kernel) (by decide +kernel)
theorem dX12_run_263 : decode cX12_run 263 = .ok (.lconst 0, 1) := od_9  (by decide +kernel)
theorem dX12_run_264 : decode cX12_run 264 = .ok (.putfield 449, 3) := od_181 (a := 1) (b := 193) (by decide +kernel) (by decide)
theorem dX12_run_267 : decode cX12_run 267 = .ok (.return_, 1) := od_177  (by decide +kernel)
theorem gX12_judgeLanding_X12_run : GoodIn WALL (wsV RX12 458 RX12 yX12_run wqX12_run) := wg_V wa_1221 wa_1222 wa_1223 wa_5 wa_1224
theorem dX12_judgeLanding_0 : decode cX12_judgeLanding 0 = .ok (.aload_n 0, 1) := od_42  (by decide +kernel)
theorem dX12_judgeLanding_1 : decode cX12_judgeLanding 1 = .ok (.lconst 0, 1) := od_9  (by decide +kernel)
theorem dX12_judgeLanding_2 : decode cX12_judgeLanding 2 = .ok (.putfield 452, 3) := od_181 (a := 1) (b := 196) (by decide +kernel) (by decide)
theorem dX12_judgeLanding_5 : decode cX12_judgeLanding 5 = .ok (.aload_n 0, 1) := od_42  (by decide +kernel)
theorem dX12_judgeLanding_6 : decode cX12_judgeLanding 6 = .ok (.lconst 0, 1) := od_9  (by decide +kernel)
theorem dX12_judgeLanding_7 : decode cX12_judgeLanding 7 = .ok (.putfield 455, 3) := od_181 (a := 1) (b := 199) (by decide +kernel) (by decide)
theorem dX12_judgeLanding_10 : decode cX12_judgeLanding 10 = .ok (.iconst 0, 1) := od_3  (by decide +kernel)
theorem dX12_judgeLanding_11 : decode cX12_judgeLanding 11 = .ok (.istore_n 3, 1) := od_62  (by decide +kernel)
theorem dX12_judgeLanding_12 : decode cX12_judgeLanding 12 = .ok (.iload_n 3, 1) := od_29  (by decide +kernel)
theorem dX12_judgeLanding_13 : decode cX12_judgeLanding 13 = .ok (.aload_n 0, 1) := od_42  (by decide +kernel)
theorem dX12_judgeLanding_14 : decode cX12_judgeLanding 14 = .ok (.getfield 7, 3) := od_180 (a := 0) (b := 7) (by decide +kernel) (by decide)
theorem dX12_judgeLanding_17 : decode cX12_judgeLanding 17 = .ok (.iload_n 2, 1) := od_28  (by decide +kernel)
theorem dX12_judgeLanding_18 : decode cX12_judgeLanding 18 = .ok (.iconst 3, 1) := od_6  (by decide +kernel)
theorem dX12_judgeLanding_19 : decode cX12_judgeLanding 19 = .ok (.iadd, 1) := od_96  (by decide +kernel)
theorem dX12_judgeLanding_20 : decode cX12_judgeLanding 20 = .ok (.iaload, 1) := od_46  (by decide +kernel)
theorem dX12_judgeLanding_21 : decode cX12_judgeLanding 21 = .ok (.if_icmp .ge 185, 3) := od_162 (a := 0) (b := 185) (by decide +kernel) (by decide +kernel)
theorem dX12_judgeLanding_24 : decode cX12_judgeLanding 24 = .ok (.iload_n 2, 1) := od_28  (by decide +kernel)
theorem dX12_judgeLanding_25 : decode cX12_judgeLanding 25 = .ok (.iconst 4, 1) := od_7  (by decide +kernel)
theorem dX12_judgeLanding_26 : decode cX12_judgeLanding 26 = .ok (.iadd, 1) := od_96  (by decide +kernel)
theorem dX12_judgeLanding_27 : decode cX12_judgeLanding 27 = .ok (.iconst 5, 1) := od_8  (by decide +kernel)
theorem dX12_judgeLanding_28 : decode cX12_judgeLanding 28 = .ok (.iload_n 3, 1) := od_29  (by decide +kernel)
theorem dX12_judgeLanding_29 : decode cX12_judgeLanding 29 = .ok (.imul, 1) := od_104  (by decide +kernel)
theorem dX12_judgeLanding_30 : decode cX12_judgeLanding 30 = .ok (.iadd, 1) := od_96  (by decide +kernel)
theorem dX12_judgeLanding_31 : decode cX12_judgeLanding 31 = .ok (.istore 4, 2) := od_54 (n := 4) (by decide +kernel)
theorem dX12_judgeLanding_33 : decode cX12_judgeLanding 33 = .ok (.iconst 1, 1) := od_4  (by decide +kernel)
theorem dX12_judgeLanding_34 : decode cX12_judgeLanding 34 = .ok (.istore 5, 2) := od_54 (n := 5) (by decide +kernel)
theorem dX12_judgeLanding_36 : decode cX12_judgeLanding 36 = .ok (.aload_n 0, 1) := od_42  (by decide +kernel)
theorem dX12_judgeLanding_37 : decode cX12_judgeLanding 37 = .ok (.getfield 7, 3) := od_180 (a := 0) (b := 7) (by decide +kernel) (by decide)
theorem dX12_judgeLanding_40 : decode cX12_judgeLanding 40 = .ok (.iload 4, 2) := od_21 (n := 4) (by decide +kernel)
theorem dX12_judgeLanding_42 : decode cX12_judgeLanding 42 = .ok (.iconst 3, 1) := od_6  (by decide +kernel)
theorem dX12_judgeLanding_43 : decode cX12_judgeLanding 43 = .ok (.iadd, 1) := od_96  (by decide +kernel)
theorem dX12_judgeLanding_44 : decode cX12_judgeLanding 44 = .ok (.iaload, 1) := od_46  (by decide +kernel)
theorem dX12_judgeLanding_45 : decode cX12_judgeLanding 45 = .ok (.aload_n 0, 1) := od_42  (by decide +kernel)
theorem dX12_judgeLanding_46 : decode cX12_judgeLanding 46 = .ok (.getfield 7, 3) := od_180 (a := 0) (b := 7) (by decide +kernel) (by decide)
theorem dX12_judgeLanding_49 : decode cX12_judgeLanding 49 = .ok (.iload 4, 2) := od_21 (n := 4) (by decide +kernel)
theorem dX12_judgeLanding_51 : decode cX12_judgeLanding 51 = .ok (.iconst 4, 1) := od_7  (by decide +kernel)
theorem dX12_judgeLanding_52 : decode cX12_judgeLanding 52 = .ok (.iadd, 1) := od_96  (by decide +kernel)
theorem dX12_judgeLanding_53 : decode cX12_judgeLanding 53 = .ok (.iaload, 1) := od_46  (by decide +kernel)
theorem dX12_judgeLanding_54 : decode cX12_judgeLanding 54 = .ok (.if_icmp .ge 49, 3) := od_162 (a := 0) (b := 49) (by decide +kernel) (by decide +kernel)
theorem dX12_judgeLanding_57 : decode cX12_judgeLanding 57 = .ok (.aload_n 0, 1) := od_42  (by decide +kernel)
theorem dX12_judgeLanding_58 : decode cX12_judgeLanding 58 = .ok (.iload_n 2, 1) := od_28  (by decide +kernel)
theorem dX12_judgeLanding_59 : decode cX12_judgeLanding 59 = .ok (.aload_n 0, 1) := od_42  (by decide +kernel)
theorem dX12_judgeLanding_60 : decode cX12_judgeLanding 60 = .ok (.getfield 7, 3) := od_180 (a := 0) (b := 7) (by decide +kernel) (by decide)
theorem dX12_judgeLanding_63 : decode cX12_judgeLanding 63 = .ok (.iload 4, 2) := od_21 (n := 4) (by decide +kernel)
theorem dX12_judgeLanding_65 : decode cX12_judgeLanding 65 = .ok (.iconst 3, 1) := od_6  (by decide +kernel)
theorem dX12_judgeLanding_66 : decode cX12_judgeLanding 66 = .ok (.iadd, 1) := od_96  (by decide +kernel)
theorem dX12_judgeLanding_67 : decode cX12_judgeLanding 67 = .ok (.iaload, 1) := od_46  (by decide +kernel)
theorem dX12_judgeLanding_68 : decode cX12_judgeLanding 68 = .ok (.aload_n 0, 1) := od_42  (by decide +kernel)
theorem dX12_judgeLanding_69 : decode cX12_judgeLanding 69 = .ok (.getfield 7, 3) := od_180 (a := 0) (b := 7) (by decide +kernel) (by decide)
theorem dX12_judgeLanding_72 : decode cX12_judgeLanding 72 = .ok (.iload 4, 2) := od_21 (n := 4) (by decide +kernel)
theorem dX12_judgeLanding_74 : decode cX12_judgeLanding 74 = .ok (.iconst 4, 1) := od_7  (by decide +kernel)
theorem dX12_judgeLanding_75 : decode cX12_judgeLanding 75 = .ok (.iadd, 1) := od_96  (by decide +kernel)
theorem dX12_judgeLanding_76 : decode cX12_judgeLanding 76 = .ok (.iaload, 1) := od_46  (by decide +kernel)
theorem dX12_judgeLanding_77 : decode cX12_judgeLanding 77 = .ok (.invokevirtual 458, 3) := od_182 (a := 1) (b := 202) (by decide +kernel) (by decide)
theorem dX12_judgeLanding_80 : decode cX12_judgeLanding 80 = .ok (.aload_n 0, 1) := od_42  (by decide +kernel)
theorem dX12_judgeLanding_81 : decode cX12_judgeLanding 81 = .ok (.getfield 440, 3) := od_180 (a := 1) (b := 184) (by decide +kernel) (by decide)
theorem dX12_judgeLanding_84 : decode cX12_judgeLanding 84 = .ok (.ifCond .ne 16, 3) := od_154 (a := 0) (b := 16) (by decide +kernel) (by decide +kernel)
theorem dX12_judgeLanding_87 : decode cX12_judgeLanding 87 = .ok (.aload_n 0, 1) := od_42  (by decide +kernel)
theorem dX12_judgeLanding_88 : decode cX12_judgeLanding 88 = .ok (.getfield 449, 3) := od_180 (a := 1) (b := 193) (by decide +kernel) (by decide)
theorem dX12_judgeLanding_91 : decode cX12_judgeLanding 91 = .ok (.lconst 1, 1) := od_10  (by decide +kernel)
theorem dX12_judgeLanding_92 : decode cX12_judgeLanding 92 = .ok (.lcmp, 1) := od_148  (by decide +kernel)
theorem dX12_judgeLanding_93 : decode cX12_judgeLanding 93 = .ok (.ifCond .ne 7, 3) := od_154 (a := 0) (b := 7) (by decide +kernel) (by decide +kernel)
theorem dX12_judgeLanding_96 : decode cX12_judgeLanding 96 = .ok (.iconst 1, 1) := od_4  (by decide +kernel)
theorem dX12_judgeLanding_97 : decode cX12_judgeLanding 97 = .ok (.goto 4, 3) := od_167 (a := 0) (b := 4) (by decide +kernel) (by decide +kernel)
theorem dX12_judgeLanding_100 : decode cX12_judgeLanding 100 = .ok (.iconst 0, 1) := od_3  (by decide +kernel)
theorem dX12_judgeLanding_101 : decode cX12_judgeLanding 101 = .ok (.istore 5, 2) := od_54 (n := 5) (by decide +kernel)
theorem dX12_judgeLanding_103 : decode cX12_judgeLanding 103 = .ok (.iload 5, 2) := od_21 (n := 5) (by decide +kernel)
theorem dX12_judgeLanding_105 : decode cX12_judgeLanding 105 = .ok (.ifCond .eq 95, 3) := od_153 (a := 0) (b := 95) (by decide +kernel) (by decide +kernel)
theorem dX12_judgeLanding_108 : decode cX12_judgeLanding 108 = .ok (.aload_n 0, 1) := od_42  (by decide +kernel)
theorem dX12_judgeLanding_109 : decode cX12_judgeLanding 109 = .ok (.iload_n 2, 1) := od_28  (by decide +kernel)
theorem dX12_judgeLanding_110 : decode cX12_judgeLanding 110 = .ok (.aload_n 0, 1) := od_42  (by decide +kernel)
theorem dX12_judgeLanding_111 : decode cX12_judgeLanding 111 = .ok (.getfield 7, 3) := od_180 (a := 0) (b := 7) (by decide +kernel) (by decide)
theorem dX12_judgeLanding_114 : decode cX12_judgeLanding 114 = .ok (.iload 4, 2) := od_21 (n := 4) (by decide +kernel)
theorem dX12_judgeLanding_116 : decode cX12_judgeLanding 116 = .ok (.iconst 1, 1) := od_4  (by decide +kernel)
theorem dX12_judgeLanding_117 : decode cX12_judgeLanding 117 = .ok (.iadd, 1) := od_96  (by decide +kernel)
theorem dX12_judgeLanding_118 : decode cX12_judgeLanding 118 = .ok (.iaload, 1) := od_46  (by decide +kernel)
theorem dX12_judgeLanding_119 : decode cX12_judgeLanding 119 = .ok (.aload_n 0, 1) := od_42  (by decide +kernel)
theorem dX12_judgeLanding_120 : decode cX12_judgeLanding 120 = .ok (.getfield 7, 3) := od_180 (a := 0) (b := 7) (by decide +kernel) (by decide)
theorem dX12_judgeLanding_123 : decode cX12_judgeLanding 123 = .ok (.iload 4, 2) := od_21 (n := 4) (by decide +kernel)
theorem dX12_judgeLanding_125 : decode cX12_judgeLanding 125 = .ok (.iconst 2, 1) := od_5  (by decide +kernel)
theorem dX12_judgeLanding_126 : decode cX12_judgeLanding 126 = .ok (.iadd, 1) := od_96  (by decide +kernel)
theorem dX12_judgeLanding_127 : decode cX12_judgeLanding 127 = .ok (.iaload, 1) := od_46  (by decide +kernel)
theorem dX12_judgeLanding_128 : decode cX12_judgeLanding 128 = .ok (.invokevirtual 458, 3) := od_182 (a := 1) (b := 202) (by decide +kernel) (by decide)
theorem dX12_judgeLanding_131 : decode cX12_judgeLanding 131 = .ok (.aload_n 0, 1) := od_42  (by decide +kernel)
theorem dX12_judgeLanding_132 : decode cX12_judgeLanding 132 = .ok (.dup, 1) := od_89  (by decide +kernel)
theorem dX12_judgeLanding_133 : decode cX12_judgeLanding 133 = .ok (.getfield 452, 3) := od_180 (a := 1) (b := 196) (by decide +kernel) (by decide)
theorem dX12_judgeLanding_136 : decode cX12_judgeLanding 136 = .ok (.aload_n 0, 1) := od_42  (by decide +kernel)
theorem dX12_judgeLanding_137 : decode cX12_judgeLanding 137 = .ok (.getfield 440, 3) := od_180 (a := 1) (b := 184) (by decide +kernel) (by decide)
theorem dX12_judgeLanding_140 : decode cX12_judgeLanding 140 = .ok (.ifCond .ne 20, 3) := od_154 (a := 0) (b := 20) (by decide +kernel) (by decide +kernel)
theorem dX12_judgeLanding_143 : decode cX12_judgeLanding 143 = .ok (.aload_n 0, 1) := od_42  (by decide +kernel)
theorem dX12_judgeLanding_144 : decode cX12_judgeLanding 144 = .ok (.getfield 7, 3) := od_180 (a := 0) (b := 7) (by decide +kernel) (by decide)
theorem dX12_judgeLanding_147 : decode cX12_judgeLanding 147 = .ok (.iload 4, 2) := od_21 (n := 4) (by decide +kernel)
theorem dX12_judgeLanding_149 : decode cX12_judgeLanding 149 = .ok (.iaload, 1) := od_46  (by decide +kernel)
theorem dX12_judgeLanding_150 : decode cX12_judgeLanding 150 = .ok (.ifCond .ne 10, 3) := od_154 (a := 0) (b := 10) (by decide +kernel) (by decide +kernel)
theorem dX12_judgeLanding_153 : decode cX12_judgeLanding 153 = .ok (.aload_n 0, 1) := od_42  (by decide +kernel)
theorem dX12_judgeLanding_154 : decode cX12_judgeLanding 154 = .ok (.getfield 449, 3) := od_180 (a := 1) (b := 193) (by decide +kernel) (by decide)
theorem dX12_judgeLanding_157 : decode cX12_judgeLanding 157 = .ok (.goto 4, 3) := od_167 (a := 0) (b := 4) (by decide +kernel) (by decide +kernel)
theorem dX12_judgeLanding_160 : decode cX12_judgeLanding 160 = .ok (.lconst 0, 1) := od_9  (by decide +kernel)
theorem dX12_judgeLanding_161 : decode cX12_judgeLanding 161 = .ok (.ladd, 1) := od_97  (by decide +kernel)
theorem dX12_judgeLanding_162 : decode cX12_judgeLanding 162 = .ok (.putfield 452, 3) := od_181 (a := 1) (b := 196) (by decide +kernel) (by decide)
theorem dX12_judgeLanding_165 : decode cX12_judgeLanding 165 = .ok (.aload_n 0, 1) := od_42  (by decide +kernel)
theorem dX12_judgeLanding_166 : decode cX12_judgeLanding 166 = .ok (.dup, 1) := od_89  (by decide +kernel)
theorem dX12_judgeLanding_167 : decode cX12_judgeLanding 167 = .ok (.getfield 455, 3) := od_180 (a := 1) (b := 199) (by decide +kernel) (by decide)
theorem dX12_judgeLanding_170 : decode cX12_judgeLanding 170 = .ok (.aload_n 0, 1) := od_42  (by decide +kernel)
theorem dX12_judgeLanding_171 : decode cX12_judgeLanding 171 = .ok (.getfield 440, 3) := od_180 (a := 1) (b := 184) (by decide +kernel) (by decide)
theorem dX12_judgeLanding_174 : decode cX12_judgeLanding 174 = .ok (.ifCond .ne 21, 3) := od_154 (a := 0) (b := 21) (by decide +kernel) (by decide +kernel)
theorem dX12_judgeLanding_177 : decode cX12_judgeLanding 177 = .ok (.aload_n 0, 1) := od_42  (by decide +kernel)
theorem dX12_judgeLanding_178 : decode cX12_judgeLanding 178 = .ok (.getfield 7, 3) := od_180 (a := 0) (b := 7) (by decide +kernel) (by decide)
theorem dX12_judgeLanding_181 : decode cX12_judgeLanding 181 = .ok (.iload 4, 2) := od_21 (n := 4) (by decide +kernel)
theorem dX12_judgeLanding_183 : decode cX12_judgeLanding 183 = .ok (.iaload, 1) := od_46  (by decide +kernel)
theorem dX12_judgeLanding_184 : decode cX12_judgeLanding 184 = .ok (.iconst 1, 1) := od_4  (by decide +kernel)
theorem dX12_judgeLanding_185 : decode cX12_judgeLanding 185 = .ok (.if_icmp .ne 10, 3) := od_160 (a := 0) (b := 10) (by decide +kernel) (by decide +kernel)
theorem dX12_judgeLanding_188 : decode cX12_judgeLanding 188 = .ok (.aload_n 0, 1) := od_42  (by decide +kernel)
theorem dX12_judgeLanding_189 : decode cX12_judgeLanding 189 = .ok (.getfield 449, 3) := od_180 (a := 1) (b := 193) (by decide +kernel) (by decide)
theorem dX12_judgeLanding_192 : decode cX12_judgeLanding 192 = .ok (.goto 4, 3) := od_167 (a := 0) (b := 4) (by decide +kernel) (by decide +kernel)
theorem dX12_judgeLanding_195 : decode cX12_judgeLanding 195 = .ok (.lconst 0, 1) := od_9  (by decide +kernel)
theorem dX12_judgeLanding_196 : decode cX12_judgeLanding 196 = .ok (.ladd, 1) := od_97  (by decide +kernel)
theorem dX12_judgeLanding_197 : decode cX12_judgeLanding 197 = .ok (.putfield 455, 3) := od_181 (a := 1) (b := 199) (by decide +kernel) (by decide)
theorem dX12_judgeLanding_200 : decode cX12_judgeLanding 200 = .ok (.iinc 3 1, 3) := od_132 (a := 3) (b := 1) (by decide +kernel) (by decide +kernel)
theorem dX12_judgeLanding_203 : decode cX12_judgeLanding 203 = .ok (.goto (-191), 3) := od_167 (a := 255) (b := 65) (by decide +kernel) (by decide +kernel)
theorem dX12_judgeLanding_206 : decode cX12_judgeLanding 206 = .ok (.return_, 1) := od_177  (by decide +kernel)
theorem gX12_due_X12_isLanding : GoodIn WALL (wsV RX12 237 RX12 yX12_isLanding wqX12_isLanding) := wg_V wa_701 wa_702 wa_703 wa_5 wa_704
theorem gX12_due_X12_isContract : GoodIn WALL (wsV RX12 461 RX12 yX12_isContract wqX12_isContract) := wg_V wa_1192 wa_1193 wa_1194 wa_5 wa_1195
theorem gX12_due_X12_isHour : GoodIn WALL (va_wsS RX12 144 yX12_isHour wqX12_isHour) := wg_S wa_351 wa_352 wa_5 wa_353
theorem gX12_due_X12_in : GoodIn WALL (va_wsS RX12 99 yX12_in wqX12_in) := wg_S wa_213 wa_214 wa_5 wa_215
theorem gX12_due_X12_landingAt : GoodIn WALL (va_wsS RX12 242 yX12_landingAt wqX12_landingAt) := wg_S wa_705 wa_706 wa_5 wa_707
theorem gX12_due_X12_contractAt : GoodIn WALL (va_wsS RX12 468 yX12_contractAt wqX12_contractAt) := wg_S wa_1196 wa_1197 wa_5 wa_1198
theorem gX12_due_X12_setFor : GoodIn WALL (wsV RX12 471 RX12 yX12_setFor wqX12_setFor) := wg_V wa_1199 wa_1200 wa_1201 wa_5 wa_1202
theorem gX12_due_X12_judgeLanding : GoodIn WALL (wsV RX12 474 RX12 yX12_judgeLanding wqX12_judgeLanding) := wg_V wa_1215 wa_1216 wa_1217 wa_5 wa_1218
theorem dX12_due_0 : decode cX12_due 0 = .ok (.aload_n 0, 1) := od_42  (by decide +kernel)
theorem dX12_due_1 : decode cX12_due 1 = .ok (.iconst 0, 1) := od_3  (by decide +kernel)
theorem dX12_due_2 : decode cX12_due 2 = .ok (.putfield 91, 3) := od_181 (a := 0) (b := 91) (by decide +kernel) (by decide)
theorem dX12_due_5 : decode cX12_due 5 = .ok (.aload_n 0, 1) := od_42  (by decide +kernel)
theorem dX12_due_6 : decode cX12_due 6 = .ok (.iload_n 1, 1) := od_27  (by decide +kernel)
theorem dX12_due_7 : decode cX12_due 7 = .ok (.invokevirtual 237, 3) := od_182 (a := 0) (b := 237) (by decide +kernel) (by decide)
theorem dX12_due_10 : decode cX12_due 10 = .ok (.ifCond .eq 31, 3) := od_153 (a := 0) (b := 31) (by decide +kernel) (by decide +kernel)
theorem dX12_due_13 : decode cX12_due 13 = .ok (.aload_n 0, 1) := od_42  (by decide +kernel)
theorem dX12_due_14 : decode cX12_due 14 = .ok (.iload_n 2, 1) := od_28  (by decide +kernel)
theorem dX12_due_15 : decode cX12_due 15 = .ok (.invokevirtual 461, 3) := od_182 (a := 1) (b := 205) (by decide +kernel) (by decide)
theorem dX12_due_18 : decode cX12_due 18 = .ok (.ifCond .eq 23, 3) := od_153 (a := 0) (b := 23) (by decide +kernel) (by decide +kernel)
theorem dX12_due_21 : decode cX12_due 21 = .ok (.iload_n 3, 1) := od_29  (by decide +kernel)
theorem dX12_due_22 : decode cX12_due 22 = .ok (.invokestatic 144, 3) := od_184 (a := 0) (b := 144) (by decide +kernel) (by decide)
theorem dX12_due_25 : decode cX12_due 25 = .ok (.ifCond .eq 16, 3) := od_153 (a := 0) (b := 16) (by decide +kernel) (by decide +kernel)
theorem dX12_due_28 : decode cX12_due 28 = .ok (.iload 4, 2) := od_21 (n := 4) (by decide +kernel)
theorem dX12_due_30 : decode cX12_due 30 = .ok (.i2l, 1) := od_133  (by decide +kernel)
theorem dX12_due_31 : decode cX12_due 31 = .ok (.lconst 0, 1) := od_9  (by decide +kernel)
theorem dX12_due_32 : decode cX12_due 32 = .ok (.ldc2_w 464, 3) := od_20 (a := 1) (b := 208) (by decide +kernel) (by decide)
theorem dX12_due_35 : decode cX12_due 35 = .ok (.invokestatic 99, 3) := od_184 (a := 0) (b := 99) (by decide +kernel) (by decide)
theorem dX12_due_38 : decode cX12_due 38 = .ok (.ifCond .ne 7, 3) := od_154 (a := 0) (b := 7) (by decide +kernel) (by decide +kernel)
theorem dX12_due_41 : decode cX12_due 41 = .ok (.ldc2_w 466, 3) := od_20 (a := 1) (b := 210) (by decide +kernel) (by decide)
theorem dX12_due_44 : decode cX12_due 44 = .ok (.lreturn, 1) := od_173  (by decide +kernel)
theorem dX12_due_45 : decode cX12_due 45 = .ok (.iload_n 1, 1) := od_27  (by decide +kernel)
theorem dX12_due_46 : decode cX12_due 46 = .ok (.invokestatic 242, 3) := od_184 (a := 0) (b := 242) (by decide +kernel) (by decide)
theorem dX12_due_49 : decode cX12_due 49 = .ok (.istore 5, 2) := od_54 (n := 5) (by decide +kernel)
theorem dX12_due_51 : decode cX12_due 51 = .ok (.iload_n 2, 1) := od_28  (by decide +kernel)
theorem dX12_due_52 : decode cX12_due 52 = .ok (.invokestatic 468, 3) := od_184 (a := 1) (b := 212) (by decide +kernel) (by decide)
theorem dX12_due_55 : decode cX12_due 55 = .ok (.istore 6, 2) := od_54 (n := 6) (by decide +kernel)
theorem dX12_due_57 : decode cX12_due 57 = .ok (.aload_n 0, 1) := od_42  (by decide +kernel)
theorem dX12_due_58 : decode cX12_due 58 = .ok (.iload 5, 2) := od_21 (n := 5) (by decide +kernel)
theorem dX12_due_60 : decode cX12_due 60 = .ok (.iload 6, 2) := od_21 (n := 6) (by decide +kernel)
theorem dX12_due_62 : decode cX12_due 62 = .ok (.iload_n 3, 1) := od_29  (by decide +kernel)
theorem dX12_due_63 : decode cX12_due 63 = .ok (.invokevirtual 471, 3) := od_182 (a := 1) (b := 215) (by decide +kernel) (by decide)
theorem dX12_due_66 : decode cX12_due 66 = .ok (.aload_n 0, 1) := od_42  (by decide +kernel)
theorem dX12_due_67 : decode cX12_due 67 = .ok (.iload 5, 2) := od_21 (n := 5) (by decide +kernel)
theorem dX12_due_69 : decode cX12_due 69 = .ok (.iload 6, 2) := od_21 (n := 6) (by decide +kernel)
theorem dX12_due_71 : decode cX12_due 71 = .ok (.invokevirtual 474, 3) := od_182 (a := 1) (b := 218) (by decide +kernel) (by decide)
theorem dX12_due_74 : decode cX12_due 74 = .ok (.iload 4, 2) := od_21 (n := 4) (by decide +kernel)
theorem dX12_due_76 : decode cX12_due 76 = .ok (.ifCond .ne 15, 3) := od_154 (a := 0) (b := 15) (by decide +kernel) (by decide +kernel)
theorem dX12_due_79 : decode cX12_due 79 = .ok (.aload_n 0, 1) := od_42  (by decide +kernel)
theorem dX12_due_80 : decode cX12_due 80 = .ok (.getfield 452, 3) := od_180 (a := 1) (b := 196) (by decide +kernel) (by decide)
theorem dX12_due_83 : decode cX12_due 83 = .ok (.aload_n 0, 1) := od_42  (by decide +kernel)
theorem dX12_due_84 : decode cX12_due 84 = .ok (.getfield 455, 3) := od_180 (a := 1) (b := 199) (by decide +kernel) (by decide)
theorem dX12_due_87 : decode cX12_due 87 = .ok (.lsub, 1) := od_101  (by decide +kernel)
theorem dX12_due_88 : decode cX12_due 88 = .ok (.goto 51, 3) := od_167 (a := 0) (b := 51) (by decide +kernel) (by decide +kernel)
theorem dX12_due_91 : decode cX12_due 91 = .ok (.iload 4, 2) := od_21 (n := 4) (by decide +kernel)
theorem dX12_due_93 : decode cX12_due 93 = .ok (.iconst 1, 1) := od_4  (by decide +kernel)
theorem dX12_due_94 : decode cX12_due 94 = .ok (.if_icmp .ne 10, 3) := od_160 (a := 0) (b := 10) (by decide +kernel) (by decide +kernel)
theorem dX12_due_97 : decode cX12_due 97 = .ok (.aload_n 0, 1) := od_42  (by decide +kernel)
theorem dX12_due_98 : decode cX12_due 98 = .ok (.getfield 452, 3) := od_180 (a := 1) (b := 196) (by decide +kernel) (by decide)
theorem dX12_due_101 : decode cX12_due 101 = .ok (.goto 38, 3) := od_167 (a := 0) (b := 38) (by decide +kernel) (by decide +kernel)
theorem dX12_due_104 : decode cX12_due 104 = .ok (.iload 4, 2) := od_21 (n := 4) (by decide +kernel)
theorem dX12_due_106 : decode cX12_due 106 = .ok (.iconst 2, 1) := od_5  (by decide +kernel)
theorem dX12_due_107 : decode cX12_due 107 = .ok (.if_icmp .ne 10, 3) := od_160 (a := 0) (b := 10) (by decide +kernel) (by decide +kernel)
theorem dX12_due_110 : decode cX12_due 110 = .ok (.aload_n 0, 1) := od_42  (by decide +kernel)
theorem dX12_due_111 : decode cX12_due 111 = .ok (.getfield 455, 3) := od_180 (a := 1) (b := 199) (by decide +kernel) (by decide)
theorem dX12_due_114 : decode cX12_due 114 = .ok (.goto 25, 3) := od_167 (a := 0) (b := 25) (by decide +kernel) (by decide +kernel)
theorem dX12_due_117 : decode cX12_due 117 = .ok (.iload 4, 2) := od_21 (n := 4) (by decide +kernel)
theorem dX12_due_119 : decode cX12_due 119 = .ok (.iconst 3, 1) := od_6  (by decide +kernel)
theorem dX12_due_120 : decode cX12_due 120 = .ok (.if_icmp .ne 12, 3) := od_160 (a := 0) (b := 12) (by decide +kernel) (by decide +kernel)
theorem dX12_due_123 : decode cX12_due 123 = .ok (.aload_n 0, 1) := od_42  (by decide +kernel)
theorem dX12_due_124 : decode cX12_due 124 = .ok (.getfield 49, 3) := od_180 (a := 0) (b := 49) (by decide +kernel) (by decide)
theorem dX12_due_127 : decode cX12_due 127 = .ok (.iconst 4, 1) := od_7  (by decide +kernel)
theorem dX12_due_128 : decode cX12_due 128 = .ok (.laload, 1) := od_47  (by decide +kernel)
theorem dX12_due_129 : decode cX12_due 129 = .ok (.goto 10, 3) := od_167 (a := 0) (b := 10) (by decide +kernel) (by decide +kernel)
theorem dX12_due_132 : decode cX12_due 132 = .ok (.aload_n 0, 1) := od_42  (by decide +kernel)
theorem dX12_due_133 : decode cX12_due 133 = .ok (.getfield 49, 3) := od_180 (a := 0) (b := 49) (by decide +kernel) (by decide)
theorem dX12_due_136 : decode cX12_due 136 = .ok (.bipush 6, 2) := od_16 (a := 6) (by decide +kernel) (by decide +kernel)
theorem dX12_due_138 : decode cX12_due 138 = .ok (.laload, 1) := od_47  (by decide +kernel)
theorem dX12_due_139 : decode cX12_due 139 = .ok (.lreturn, 1) := od_173  (by decide +kernel)
theorem gX12_settle_X12_isLanding : GoodIn WALL (wsV RX12 237 RX12 yX12_isLanding wqX12_isLanding) := wg_V wa_701 wa_702 wa_703 wa_5 wa_704
theorem gX12_settle_X12_isContract : GoodIn WALL (wsV RX12 461 RX12 yX12_isContract wqX12_isContract) := wg_V wa_1192 wa_1193 wa_1194 wa_5 wa_1195
theorem gX12_settle_X12_told : GoodIn WALL (wsV RX12 105 RX12 yX12_told wqX12_told) := wg_V wa_216 wa_217 wa_218 wa_5 wa_219
theorem gX12_settle_X12_landingAt : GoodIn WALL (va_wsS RX12 242 yX12_landingAt wqX12_landingAt) := wg_S wa_705 wa_706 wa_5 wa_707
theorem gX12_settle_X12_contractAt : GoodIn WALL (va_wsS RX12 468 yX12_contractAt wqX12_contractAt) := wg_S wa_1196 wa_1197 wa_5 wa_1198
theorem gX12_settle_X12_setFor : GoodIn WALL (wsV RX12 471 RX12 yX12_setFor wqX12_setFor) := wg_V wa_1199 wa_1200 wa_1201 wa_5 wa_1202
theorem gX12_settle_X12_judgeLanding : GoodIn WALL (wsV RX12 474 RX12 yX12_judgeLanding wqX12_judgeLanding) := wg_V wa_1215 wa_1216 wa_1217 wa_5 wa_1218
theorem dX12_settle_0 : decode cX12_settle 0 = .ok (.aload_n 0, 1) := od_42  (by decide +kernel)
theorem dX12_settle_1 : decode cX12_settle 1 = .ok (.iconst 0, 1) := od_3  (by decide +kernel)
theorem dX12_settle_2 : decode cX12_settle 2 = .ok (.putfield 91, 3) := od_181 (a := 0) (b := 91) (by decide +kernel) (by decide)
theorem dX12_settle_5 : decode cX12_settle 5 = .ok (.aload_n 0, 1) := od_42  (by decide +kernel)
theorem dX12_settle_6 : decode cX12_settle 6 = .ok (.iload_n 1, 1) := od_27  (by decide +kernel)
theorem dX12_settle_7 : decode cX12_settle 7 = .ok (.invokevirtual 237, 3) := od_182 (a := 0) (b := 237) (by decide +kernel) (by decide)
theorem dX12_settle_10 : decode cX12_settle 10 = .ok (.ifCond .eq 11, 3) := od_153 (a := 0) (b := 11) (by decide +kernel) (by decide +kernel)
theorem dX12_settle_13 : decode cX12_settle 13 = .ok (.aload_n 0, 1) := od_42  (by decide +kernel)
theorem dX12_settle_14 : decode cX12_settle 14 = .ok (.iload_n 2, 1) := od_28  (by decide +kernel)
theorem dX12_settle_15 : decode cX12_settle 15 = .ok (.invokevirtual 461, 3) := od_182 (a := 1) (b := 205) (by decide +kernel) (by decide)
theorem dX12_settle_18 : decode cX12_settle 18 = .ok (.ifCond .ne 10, 3) := od_154 (a := 0) (b := 10) (by decide +kernel) (by decide +kernel)
theorem dX12_settle_21 : decode cX12_settle 21 = .ok (.aload_n 0, 1) := od_42  (by decide +kernel)
theorem dX12_settle_22 : decode cX12_settle 22 = .ok (.bipush (-2), 2) := od_16 (a := 254) (by decide +kernel) (by decide +kernel)
theorem dX12_settle_24 : decode cX12_settle 24 = .ok (.invokevirtual 105, 3) := od_182 (a := 0) (b := 105) (by decide +kernel) (by decide)
theorem dX12_settle_27 : decode cX12_settle 27 = .ok (.ireturn, 1) := od_172  (by decide +kernel)
theorem dX12_settle_28 : decode cX12_settle 28 = .ok (.iload_n 1, 1) := od_27  (by decide +kernel)
theorem dX12_settle_29 : decode cX12_settle 29 = .ok (.invokestatic 242, 3) := od_184 (a := 0) (b := 242) (by decide +kernel) (by decide)
theorem dX12_settle_32 : decode cX12_settle 32 = .ok (.istore_n 3, 1) := od_62  (by decide +kernel)
theorem dX12_settle_33 : decode cX12_settle 33 = .ok (.aload_n 0, 1) := od_42  (by decide +kernel)
theorem dX12_settle_34 : decode cX12_settle 34 = .ok (.getfield 7, 3) := od_180 (a := 0) (b := 7) (by decide +kernel) (by decide)
theorem dX12_settle_37 : decode cX12_settle 37 = .ok (.iload_n 3, 1) := od_29  (by decide +kernel)
theorem dX12_settle_38 : decode cX12_settle 38 = .ok (.bipush 12, 2) := od_16 (a := 12) (by decide +kernel) (by decide +kernel)
theorem dX12_settle_40 : decode cX12_settle 40 = .ok (.iadd, 1) := od_96  (by decide +kernel)
theorem dX12_settle_41 : decode cX12_settle 41 = .ok (.iaload, 1) := od_46  (by decide +kernel)
theorem dX12_settle_42 : decode cX12_settle 42 = .ok (.iconst (-1), 1) := od_2  (by decide +kernel)
theorem dX12_settle_43 : decode cX12_settle 43 = .ok (.if_icmp .eq 10, 3) := od_159 (a := 0) (b := 10) (by decide +kernel) (by decide +kernel)
theorem dX12_settle_46 : decode cX12_settle 46 = .ok (.aload_n 0, 1) := od_42  (by decide +kernel)
theorem dX12_settle_47 : decode cX12_settle 47 = .ok (.bipush (-4), 2) := od_16 (a := 252) (by decide +kernel) (by decide +kernel)
theorem dX12_settle_49 : decode cX12_settle 49 = .ok (.invokevirtual 105, 3) := od_182 (a := 0) (b := 105) (by decide +kernel) (by decide)
theorem dX12_settle_52 : decode cX12_settle 52 = .ok (.ireturn, 1) := od_172  (by decide +kernel)
theorem dX12_settle_53 : decode cX12_settle 53 = .ok (.aload_n 0, 1) := od_42  (by decide +kernel)
theorem dX12_settle_54 : decode cX12_settle 54 = .ok (.iload_n 3, 1) := od_29  (by decide +kernel)
theorem dX12_settle_55 : decode cX12_settle 55 = .ok (.iload_n 2, 1) := od_28  (by decide +kernel)
theorem dX12_settle_56 : decode cX12_settle 56 = .ok (.invokestatic 468, 3) := od_184 (a := 1) (b := 212) (by decide +kernel) (by decide)
theorem dX12_settle_59 : decode cX12_settle 59 = .ok (.aload_n 0, 1) := od_42  (by decide +kernel)
theorem dX12_settle_60 : decode cX12_settle 60 = .ok (.getfield 7, 3) := od_180 (a := 0) (b := 7) (by decide +kernel) (by decide)
theorem dX12_settle_63 : decode cX12_settle 63 = .ok (.bipush 11, 2) := od_16 (a := 11) (by decide +kernel) (by decide +kernel)
theorem dX12_settle_65 : decode cX12_settle 65 = .ok (.iaload, 1) := od_46  (by decide +kernel)
theorem dX12_settle_66 : decode cX12_settle 66 = .ok (.invokevirtual 471, 3) := od_182 (a := 1) (b := 215) (by decide +kernel) (by decide)
theorem dX12_settle_69 : decode cX12_settle 69 = .ok (.aload_n 0, 1) := od_42  (by decide +kernel)
theorem dX12_settle_70 : decode cX12_settle 70 = .ok (.iload_n 3, 1) := od_29  (by decide +kernel)
theorem dX12_settle_71 : decode cX12_settle 71 = .ok (.iload_n 2, 1) := od_28  (by decide +kernel)
theorem dX12_settle_72 : decode cX12_settle 72 = .ok (.invokestatic 468, 3) := od_184 (a := 1) (b := 212) (by decide +kernel) (by decide)
theorem dX12_settle_75 : decode cX12_settle 75 = .ok (.invokevirtual 474, 3) := od_182 (a := 1) (b := 218) (by decide +kernel) (by decide)
theorem dX12_settle_78 : decode cX12_settle 78 = .ok (.aload_n 0, 1) := od_42  (by decide +kernel)
theorem dX12_settle_79 : decode cX12_settle 79 = .ok (.getfield 452, 3) := od_180 (a := 1) (b := 196) (by decide +kernel) (by decide)
theorem dX12_settle_82 : decode cX12_settle 82 = .ok (.aload_n 0, 1) := od_42  (by decide +kernel)
theorem dX12_settle_83 : decode cX12_settle 83 = .ok (.getfield 455, 3) := od_180 (a := 1) (b := 199) (by decide +kernel) (by decide)
theorem dX12_settle_86 : decode cX12_settle 86 = .ok (.lsub, 1) := od_101  (by decide +kernel)
theorem dX12_settle_87 : decode cX12_settle 87 = .ok (.lstore 4, 2) := od_55 (n := 4) (by decide +kernel)
theorem dX12_settle_89 : decode cX12_settle 89 = .ok (.aload_n 0, 1) := od_42  (by decide +kernel)
theorem dX12_settle_90 : decode cX12_settle 90 = .ok (.getfield 7, 3) := od_180 (a := 0) (b := 7) (by decide +kernel) (by decide)
theorem dX12_settle_93 : decode cX12_settle 93 = .ok (.iload_n 3, 1) := od_29  (by decide +kernel)
theorem dX12_settle_94 : decode cX12_settle 94 = .ok (.bipush 12, 2) := od_16 (a := 12) (by decide +kernel) (by decide +kernel)
theorem dX12_settle_96 : decode cX12_settle 96 = .ok (.iadd, 1) := od_96  (by decide +kernel)
theorem dX12_settle_97 : decode cX12_settle 97 = .ok (.iload_n 2, 1) := od_28  (by decide +kernel)
theorem dX12_settle_98 : decode cX12_settle 98 = .ok (.iastore, 1) := od_79  (by decide +kernel)
theorem dX12_settle_99 : decode cX12_settle 99 = .ok (.aload_n 0, 1) := od_42  (by decide +kernel)
theorem dX12_settle_100 : decode cX12_settle 100 = .ok (.getfield 7, 3) := od_180 (a := 0) (b := 7) (by decide +kernel) (by decide)
theorem dX12_settle_103 : decode cX12_settle 103 = .ok (.iload_n 3, 1) := od_29  (by decide +kernel)
theorem dX12_settle_104 : decode cX12_settle 104 = .ok (.bipush 13, 2) := od_16 (a := 13) (by decide +kernel) (by decide +kernel)
theorem dX12_settle_106 : decode cX12_settle 106 = .ok (.iadd, 1) := od_96  (by decide +kernel)
theorem dX12_settle_107 : decode cX12_settle 107 = .ok (.aload_n 0, 1) := od_42  (by decide +kernel)
theorem dX12_settle_108 : decode cX12_settle 108 = .ok (.getfield 7, 3) := od_180 (a := 0) (b := 7) (by decide +kernel) (by decide)
theorem dX12_settle_111 : decode cX12_settle 111 = .ok (.bipush 11, 2) := od_16 (a := 11) (by decide +kernel) (by decide +kernel)
theorem dX12_settle_113 : decode cX12_settle 113 = .ok (.iaload, 1) := od_46  (by decide +kernel)
theorem dX12_settle_114 : decode cX12_settle 114 = .ok (.iastore, 1) := od_79  (by decide +kernel)
theorem dX12_settle_115 : decode cX12_settle 115 = .ok (.aload_n 0, 1) := od_42  (by decide +kernel)
theorem dX12_settle_116 : decode cX12_settle 116 = .ok (.getfield 7, 3) := od_180 (a := 0) (b := 7) (by decide +kernel) (by decide)
theorem dX12_settle_119 : decode cX12_settle 119 = .ok (.iload_n 3, 1) := od_29  (by decide +kernel)
theorem dX12_settle_120 : decode cX12_settle 120 = .ok (.bipush 14, 2) := od_16 (a := 14) (by decide +kernel) (by decide +kernel)
theorem dX12_settle_122 : decode cX12_settle 122 = .ok (.iadd, 1) := od_96  (by decide +kernel)
theorem dX12_settle_123 : decode cX12_settle 123 = .ok (.lload 4, 2) := od_22 (n := 4) (by decide +kernel)
theorem dX12_settle_125 : decode cX12_settle 125 = .ok (.bipush 32, 2) := od_16 (a := 32) (by decide +kernel) (by decide +kernel)
theorem dX12_settle_127 : decode cX12_settle 127 = .ok (.lshr, 1) := od_123  (by decide +kernel)
theorem dX12_settle_128 : decode cX12_settle 128 = .ok (.l2i, 1) := od_136  (by decide +kernel)
theorem dX12_settle_129 : decode cX12_settle 129 = .ok (.iastore, 1) := od_79  (by decide +kernel)
theorem dX12_settle_130 : decode cX12_settle 130 = .ok (.aload_n 0, 1) := od_42  (by decide +kernel)
theorem dX12_settle_131 : decode cX12_settle 131 = .ok (.getfield 7, 3) := od_180 (a := 0) (b := 7) (by decide +kernel) (by decide)
theorem dX12_settle_134 : decode cX12_settle 134 = .ok (.iload_n 3, 1) := od_29  (by decide +kernel)
theorem dX12_settle_135 : decode cX12_settle 135 = .ok (.bipush 15, 2) := od_16 (a := 15) (by decide +kernel) (by decide +kernel)
theorem dX12_settle_137 : decode cX12_settle 137 = .ok (.iadd, 1) := od_96  (by decide +kernel)
theorem dX12_settle_138 : decode cX12_settle 138 = .ok (.lload 4, 2) := od_22 (n := 4) (by decide +kernel)
theorem dX12_settle_140 : decode cX12_settle 140 = .ok (.l2i, 1) := od_136  (by decide +kernel)
theorem dX12_settle_141 : decode cX12_settle 141 = .ok (.iastore, 1) := od_79  (by decide +kernel)
theorem dX12_settle_142 : decode cX12_settle 142 = .ok (.aload_n 0, 1) := od_42  (by decide +kernel)
theorem dX12_settle_143 : decode cX12_settle 143 = .ok (.iconst 0, 1) := od_3  (by decide +kernel)
theorem dX12_settle_144 : decode cX12_settle 144 = .ok (.invokevirtual 105, 3) := od_182 (a := 0) (b := 105) (by decide +kernel) (by decide)
theorem dX12_settle_147 : decode cX12_settle 147 = .ok (.ireturn, 1) := od_172  (by decide +kernel)
theorem dX12_hasTable_0 : decode cX12_hasTable 0 = .ok (.aload_n 0, 1) := od_42  (by decide +kernel)
theorem dX12_hasTable_1 : decode cX12_hasTable 1 = .ok (.getfield 7, 3) := od_180 (a := 0) (b := 7) (by decide +kernel) (by decide)
theorem dX12_hasTable_4 : decode cX12_hasTable 4 = .ok (.iload_n 1, 1) := od_27  (by decide +kernel)
theorem dX12_hasTable_5 : decode cX12_hasTable 5 = .ok (.bipush 32, 2) := od_16 (a := 32) (by decide +kernel) (by decide +kernel)
theorem dX12_hasTable_7 : decode cX12_hasTable 7 = .ok (.iadd, 1) := od_96  (by decide +kernel)
theorem dX12_hasTable_8 : decode cX12_hasTable 8 = .ok (.iaload, 1) := od_46  (by decide +kernel)
theorem dX12_hasTable_9 : decode cX12_hasTable 9 = .ok (.iconst 1, 1) := od_4  (by decide +kernel)
theorem dX12_hasTable_10 : decode cX12_hasTable 10 = .ok (.if_icmp .ne 7, 3) := od_160 (a := 0) (b := 7) (by decide +kernel) (by decide +kernel)
theorem dX12_hasTable_13 : decode cX12_hasTable 13 = .ok (.iconst 1, 1) := od_4  (by decide +kernel)
theorem dX12_hasTable_14 : decode cX12_hasTable 14 = .ok (.goto 4, 3) := od_167 (a := 0) (b := 4) (by decide +kernel) (by decide +kernel)
theorem dX12_hasTable_17 : decode cX12_hasTable 17 = .ok (.iconst 0, 1) := od_3  (by decide +kernel)
theorem dX12_hasTable_18 : decode cX12_hasTable 18 = .ok (.istore_n 2, 1) := od_61  (by decide +kernel)
theorem dX12_hasTable_19 : decode cX12_hasTable 19 = .ok (.iconst 1, 1) := od_4  (by decide +kernel)
theorem dX12_hasTable_20 : decode cX12_hasTable 20 = .ok (.istore_n 3, 1) := od_62  (by decide +kernel)
theorem dX12_hasTable_21 : decode cX12_hasTable 21 = .ok (.iload_n 3, 1) := od_29  (by decide +kernel)
theorem dX12_hasTable_22 : decode cX12_hasTable 22 = .ok (.iconst 4, 1) := od_7  (by decide +kernel)
theorem dX12_hasTable_23 : decode cX12_hasTable 23 = .ok (.if_icmp .ge 82, 3) := od_162 (a := 0) (b := 82) (by decide +kernel) (by decide +kernel)
theorem dX12_hasTable_26 : decode cX12_hasTable 26 = .ok (.iload_n 1, 1) := od_27  (by decide +kernel)
theorem dX12_hasTable_27 : decode cX12_hasTable 27 = .ok (.bipush 32, 2) := od_16 (a := 32) (by decide +kernel) (by decide +kernel)
theorem dX12_hasTable_29 : decode cX12_hasTable 29 = .ok (.iadd, 1) := od_96  (by decide +kernel)
theorem dX12_hasTable_30 : decode cX12_hasTable 30 = .ok (.iconst 3, 1) := od_6  (by decide +kernel)
theorem dX12_hasTable_31 : decode cX12_hasTable 31 = .ok (.iload_n 3, 1) := od_29  (by decide +kernel)
theorem dX12_hasTable_32 : decode cX12_hasTable 32 = .ok (.imul, 1) := od_104  (by decide +kernel)
theorem dX12_hasTable_33 : decode cX12_hasTable 33 = .ok (.iadd, 1) := od_96  (by decide +kernel)
theorem dX12_hasTable_34 : decode cX12_hasTable 34 = .ok (.istore 4, 2) := od_54 (n := 4) (by decide +kernel)
theorem dX12_hasTable_36 : decode cX12_hasTable 36 = .ok (.iload_n 2, 1) := od_28  (by decide +kernel)
theorem dX12_hasTable_37 : decode cX12_hasTable 37 = .ok (.ifCond .eq 60, 3) := od_153 (a := 0) (b := 60) (by decide +kernel) (by decide +kernel)
theorem dX12_hasTable_40 : decode cX12_hasTable 40 = .ok (.aload_n 0, 1) := od_42  (by decide +kernel)
theorem dX12_hasTable_41 : decode cX12_hasTable 41 = .ok (.getfield 7, 3) := od_180 (a := 0) (b := 7) (by decide +kernel) (by decide)
theorem dX12_hasTable_44 : decode cX12_hasTable 44 = .ok (.iload 4, 2) := od_21 (n := 4) (by decide +kernel)
theorem dX12_hasTable_46 : decode cX12_hasTable 46 = .ok (.iaload, 1) := od_46  (by decide +kernel)
theorem dX12_hasTable_47 : decode cX12_hasTable 47 = .ok (.iconst 1, 1) := od_4  (by decide +kernel)
theorem dX12_hasTable_48 : decode cX12_hasTable 48 = .ok (.if_icmp .ne 49, 3) := od_160 (a := 0) (b := 49) (by decide +kernel) (by decide +kernel)
theorem dX12_hasTable_51 : decode cX12_hasTable 51 = .ok (.aload_n 0, 1) := od_42  (by decide +kernel)
theorem dX12_hasTable_52 : decode cX12_hasTable 52 = .ok (.getfield 7, 3) := od_180 (a := 0) (b := 7) (by decide +kernel) (by decide)
theorem dX12_hasTable_55 : decode cX12_hasTable 55 = .ok (.iload 4, 2) := od_21 (n := 4) (by decide +kernel)
theorem dX12_hasTable_57 : decode cX12_hasTable 57 = .ok (.iconst 1, 1) := od_4  (by decide +kernel)
theorem dX12_hasTable_58 : decode cX12_hasTable 58 = .ok (.iadd, 1) := od_96  (by decide +kernel)
theorem dX12_hasTable_59 : decode cX12_hasTable 59 = .ok (.iaload, 1) := od_46  (by decide +kernel)
theorem dX12_hasTable_60 : decode cX12_hasTable 60 = .ok (.aload_n 0, 1) := od_42  (by decide +kernel)
theorem dX12_hasTable_61 : decode cX12_hasTable 61 = .ok (.getfield 7, 3) := od_180 (a := 0) (b := 7) (by decide +kernel) (by decide)
theorem dX12_hasTable_64 : decode cX12_hasTable 64 = .ok (.iload 4, 2) := od_21 (n := 4) (by decide +kernel)
theorem dX12_hasTable_66 : decode cX12_hasTable 66 = .ok (.iconst 2, 1) := od_5  (by decide +kernel)
theorem dX12_hasTable_67 : decode cX12_hasTable 67 = .ok (.isub, 1) := od_100  (by decide +kernel)
theorem dX12_hasTable_68 : decode cX12_hasTable 68 = .ok (.iaload, 1) := od_46  (by decide +kernel)
theorem dX12_hasTable_69 : decode cX12_hasTable 69 = .ok (.if_icmp .le 28, 3) := od_164 (a := 0) (b := 28) (by decide +kernel) (by decide +kernel)
theorem dX12_hasTable_72 : decode cX12_hasTable 72 = .ok (.aload_n 0, 1) := od_42  (by decide +kernel)
theorem dX12_hasTable_73 : decode cX12_hasTable 73 = .ok (.getfield 7, 3) := od_180 (a := 0) (b := 7) (by decide +kernel) (by decide)
theorem dX12_hasTable_76 : decode cX12_hasTable 76 = .ok (.iload 4, 2) := od_21 (n := 4) (by decide +kernel)
theorem dX12_hasTable_78 : decode cX12_hasTable 78 = .ok (.iconst 2, 1) := od_5  (by decide +kernel)
theorem dX12_hasTable_79 : decode cX12_hasTable 79 = .ok (.iadd, 1) := od_96  (by decide +kernel)
theorem dX12_hasTable_80 : decode cX12_hasTable 80 = .ok (.iaload, 1) := od_46  (by decide +kernel)
theorem dX12_hasTable_81 : decode cX12_hasTable 81 = .ok (.aload_n 0, 1) := od_42  (by decide +kernel)
theorem dX12_hasTable_82 : decode cX12_hasTable 82 = .ok (.getfield 7, 3) := od_180 (a := 0) (b := 7) (by decide +kernel) (by decide)
theorem dX12_hasTable_85 : decode cX12_hasTable 85 = .ok (.iload 4, 2) := od_21 (n := 4) (by decide +kernel)
theorem dX12_hasTable_87 : decode cX12_hasTable 87 = .ok (.iconst 1, 1) := od_4  (by decide +kernel)
theorem dX12_hasTable_88 : decode cX12_hasTable 88 = .ok (.isub, 1) := od_100  (by decide +kernel)
theorem dX12_hasTable_89 : decode cX12_hasTable 89 = .ok (.iaload, 1) := od_46  (by decide +kernel)
theorem dX12_hasTable_90 : decode cX12_hasTable 90 = .ok (.if_icmp .lt 7, 3) := od_161 (a := 0) (b := 7) (by decide +kernel) (by decide +kernel)
theorem dX12_hasTable_93 : decode cX12_hasTable 93 = .ok (.iconst 1, 1) := od_4  (by decide +kernel)
theorem dX12_hasTable_94 : decode cX12_hasTable 94 = .ok (.goto 4, 3) := od_167 (a := 0) (b := 4) (by decide +kernel) (by decide +kernel)
theorem dX12_hasTable_97 : decode cX12_hasTable 97 = .ok (.iconst 0, 1) := od_3  (by decide +kernel)
theorem dX12_hasTable_98 : decode cX12_hasTable 98 = .ok (.istore_n 2, 1) := od_61  (by decide +kernel)
theorem dX12_hasTable_99 : decode cX12_hasTable 99 = .ok (.iinc 3 1, 3) := od_132 (a := 3) (b := 1) (by decide +kernel) (by decide +kernel)
theorem dX12_hasTable_102 : decode cX12_hasTable 102 = .ok (.goto (-81), 3) := od_167 (a := 255) (b := 175) (by decide +kernel) (by decide +kernel)
theorem dX12_hasTable_105 : decode cX12_hasTable 105 = .ok (.iload_n 2, 1) := od_28  (by decide +kernel)
theorem dX12_hasTable_106 : decode cX12_hasTable 106 = .ok (.ireturn, 1) := od_172  (by decide +kernel)
theorem dX12_tonsBy_0 : decode cX12_tonsBy 0 = .ok (.iload_n 1, 1) := od_27  (by decide +kernel)
theorem dX12_tonsBy_1 : decode cX12_tonsBy 1 = .ok (.bipush 32, 2) := od_16 (a := 32) (by decide +kernel) (by decide +kernel)
theorem dX12_tonsBy_3 : decode cX12_tonsBy 3 = .ok (.iadd, 1) := od_96  (by decide +kernel)
theorem dX12_tonsBy_4 : decode cX12_tonsBy 4 = .ok (.istore_n 3, 1) := od_62  (by decide +kernel)
theorem dX12_tonsBy_5 : decode cX12_tonsBy 5 = .ok (.iload_n 2, 1) := od_28  (by decide +kernel)
theorem dX12_tonsBy_6 : decode cX12_tonsBy 6 = .ok (.aload_n 0, 1) := od_42  (by decide +kernel)
theorem dX12_tonsBy_7 : decode cX12_tonsBy 7 = .ok (.getfield 7, 3) := od_180 (a := 0) (b := 7) (by decide +kernel) (by decide)
theorem dX12_tonsBy_10 : decode cX12_tonsBy 10 = .ok (.iload_n 3, 1) := od_29  (by decide +kernel)
theorem dX12_tonsBy_11 : decode cX12_tonsBy 11 = .ok (.iconst 1, 1) := od_4  (by decide +kernel)
theorem dX12_tonsBy_12 : decode cX12_tonsBy 12 = .ok (.iadd, 1) := od_96  (by decide +kernel)
theorem dX12_tonsBy_13 : decode cX12_tonsBy 13 = .ok (.iaload, 1) := od_46  (by decide +kernel)
theorem dX12_tonsBy_14 : decode cX12_tonsBy 14 = .ok (.if_icmp .gt 13, 3) := od_163 (a := 0) (b := 13) (by decide +kernel) (by decide +kernel)
theorem dX12_tonsBy_17 : decode cX12_tonsBy 17 = .ok (.aload_n 0, 1) := od_42  (by decide +kernel)
theorem dX12_tonsBy_18 : decode cX12_tonsBy 18 = .ok (.getfield 7, 3) := od_180 (a := 0) (b := 7) (by decide +kernel) (by decide)
theorem dX12_tonsBy_21 : decode cX12_tonsBy 21 = .ok (.iload_n 3, 1) := od_29  (by decide +kernel)
theorem dX12_tonsBy_22 : decode cX12_tonsBy 22 = .ok (.iconst 2, 1) := od_5  (by decide +kernel)
theorem dX12_tonsBy_23 : decode cX12_tonsBy 23 = .ok (.iadd, 1) := od_96  (by decide +kernel)
theorem dX12_tonsBy_24 : decode cX12_tonsBy 24 = .ok (.iaload, 1) := od_46  (by decide +kernel)
theorem dX12_tonsBy_25 : decode cX12_tonsBy 25 = .ok (.i2l, 1) := od_133  (by decide +kernel)
theorem dX12_tonsBy_26 : decode cX12_tonsBy 26 = .ok (.lreturn, 1) := od_173  (by decide +kernel)
theorem dX12_tonsBy_27 : decode cX12_tonsBy 27 = .ok (.iconst 0, 1) := od_3  (by decide +kernel)
theorem dX12_tonsBy_28 : decode cX12_tonsBy 28 = .ok (.istore 4, 2) := od_54 (n := 4) (by decide +kernel)
theorem dX12_tonsBy_30 : decode cX12_tonsBy 30 = .ok (.iload 4, 2) := od_21 (n := 4) (by decide +kernel)
theorem dX12_tonsBy_32 : decode cX12_tonsBy 32 = .ok (.iconst 3, 1) := od_6  (by decide +kernel)
theorem dX12_tonsBy_33 : decode cX12_tonsBy 33 = .ok (.if_icmp .ge 102, 3) := od_162 (a := 0) (b := 102) (by decide +kernel) (by decide +kernel)
theorem dX12_tonsBy_36 : decode cX12_tonsBy 36 = .ok (.iload_n 3, 1) := od_29  (by decide +kernel)
theorem dX12_tonsBy_37 : decode cX12_tonsBy 37 = .ok (.iconst 3, 1) := od_6  (by decide +kernel)
theorem dX12_tonsBy_38 : decode cX12_tonsBy 38 = .ok (.iload 4, 2) := od_21 (n := 4) (by decide +kernel)
theorem dX12_tonsBy_40 : decode cX12_tonsBy 40 = .ok (.imul, 1) := od_104  (by decide +kernel)
theorem dX12_tonsBy_41 : decode cX12_tonsBy 41 = .ok (.iadd, 1) := od_96  (by decide +kernel)
theorem dX12_tonsBy_42 : decode cX12_tonsBy 42 = .ok (.istore 5, 2) := od_54 (n := 5) (by decide +kernel)
theorem dX12_tonsBy_44 : decode cX12_tonsBy 44 = .ok (.iload 5, 2) := od_21 (n := 5) (by decide +kernel)
theorem dX12_tonsBy_46 : decode cX12_tonsBy 46 = .ok (.iconst 3, 1) := od_6  (by decide +kernel)
theorem dX12_tonsBy_47 : decode cX12_tonsBy 47 = .ok (.iadd, 1) := od_96  (by decide +kernel)
theorem dX12_tonsBy_48 : decode cX12_tonsBy 48 = .ok (.istore 6, 2) := od_54 (n := 6) (by decide +kernel)
theorem dX12_tonsBy_50 : decode cX12_tonsBy 50 = .ok (.iload_n 2, 1) := od_28  (by decide +kernel)
theorem dX12_tonsBy_51 : decode cX12_tonsBy 51 = .ok (.aload_n 0, 1) := od_42  (by decide +kernel)
theorem dX12_tonsBy_52 : decode cX12_tonsBy 52 = .ok (.getfield 7, 3) := od_180 (a := 0) (b := 7) (by decide +kernel) (by decide)
theorem dX12_tonsBy_55 : decode cX12_tonsBy 55 = .ok (.iload 6, 2) := od_21 (n := 6) (by decide +kernel)
theorem dX12_tonsBy_57 : decode cX12_tonsBy 57 = .ok (.iconst 1, 1) := od_4  (by decide +kernel)
theorem dX12_tonsBy_58 : decode cX12_tonsBy 58 = .ok (.iadd, 1) := od_96  (by decide +kernel)
theorem dX12_tonsBy_59 : decode cX12_tonsBy 59 = .ok (.iaload, 1) := od_46  (by decide +kernel)
theorem dX12_tonsBy_60 : decode cX12_tonsBy 60 = .ok (.if_icmp .gt 69, 3) := od_163 (a := 0) (b := 69) (by decide +kernel) (by decide +kernel)
theorem dX12_tonsBy_63 : decode cX12_tonsBy 63 = .ok (.aload_n 0, 1) := od_42  (by decide +kernel)
theorem dX12_tonsBy_64 : decode cX12_tonsBy 64 = .ok (.getfield 7, 3) := od_180 (a := 0) (b := 7) (by decide +kernel) (by decide)
theorem dX12_tonsBy_67 : decode cX12_tonsBy 67 = .ok (.iload 5, 2) := od_21 (n := 5) (by decide +kernel)
theorem dX12_tonsBy_69 : decode cX12_tonsBy 69 = .ok (.iconst 2, 1) := od_5  (by decide +kernel)
theorem dX12_tonsBy_70 : decode cX12_tonsBy 70 = .ok (.iadd, 1) := od_96  (by decide +kernel)
theorem dX12_tonsBy_71 : decode cX12_tonsBy 71 = .ok (.iaload, 1) := od_46  (by decide +kernel)
theorem dX12_tonsBy_72 : decode cX12_tonsBy 72 = .ok (.i2l, 1) := od_133  (by decide +kernel)
theorem dX12_tonsBy_73 : decode cX12_tonsBy 73 = .ok (.aload_n 0, 1) := od_42  (by decide +kernel)
theorem dX12_tonsBy_74 : decode cX12_tonsBy 74 = .ok (.getfield 7, 3) := od_180 (a := 0) (b := 7) (by decide +kernel) (by decide)
theorem dX12_tonsBy_77 : decode cX12_tonsBy 77 = .ok (.iload 6, 2) := od_21 (n := 6) (by decide +kernel)
theorem dX12_tonsBy_79 : decode cX12_tonsBy 79 = .ok (.iconst 2, 1) := od_5  (by decide +kernel)
theorem dX12_tonsBy_80 : decode cX12_tonsBy 80 = .ok (.iadd, 1) := od_96  (by decide +kernel)
theorem dX12_tonsBy_81 : decode cX12_tonsBy 81 = .ok (.iaload, 1) := od_46  (by decide +kernel)
theorem dX12_tonsBy_82 : decode cX12_tonsBy 82 = .ok (.aload_n 0, 1) := od_42  (by decide +kernel)
theorem dX12_tonsBy_83 : decode cX12_tonsBy 83 = .ok (.getfield 7, 3) := od_180 (a := 0) (b := 7) (by decide +kernel) (by decide)
theorem dX12_tonsBy_86 : decode cX12_tonsBy 86 = .ok (.iload 5, 2) := od_21 (n := 5) (by decide +kernel)
theorem dX12_tonsBy_88 : decode cX12_tonsBy 88 = .ok (.iconst 2, 1) := od_5  (by decide +kernel)
theorem dX12_tonsBy_89 : decode cX12_tonsBy 89 = .ok (.iadd, 1) := od_96  (by decide +kernel)
theorem dX12_tonsBy_90 : decode cX12_tonsBy 90 = .ok (.iaload, 1) := od_46  (by decide +kernel)
theorem dX12_tonsBy_91 : decode cX12_tonsBy 91 = .ok (.isub, 1) := od_100  (by decide +kernel)
theorem dX12_tonsBy_92 : decode cX12_tonsBy 92 = .ok (.i2l, 1) := od_133  (by decide +kernel)
theorem dX12_tonsBy_93 : decode cX12_tonsBy 93 = .ok (.iload_n 2, 1) := od_28  (by decide +kernel)
theorem dX12_tonsBy_94 : decode cX12_tonsBy 94 = .ok (.aload_n 0, 1) := od_42  (by decide +kernel)
theorem dX12_tonsBy_95 : decode cX12_tonsBy 95 = .ok (.getfield 7, 3) := od_180 (a := 0) (b := 7) (by decide +kernel) (by decide)
theorem dX12_tonsBy_98 : decode cX12_tonsBy 98 = .ok (.iload 5, 2) := od_21 (n := 5) (by decide +kernel)
theorem dX12_tonsBy_100 : decode cX12_tonsBy 100 = .ok (.iconst 1, 1) := od_4  (by decide +kernel)
theorem dX12_tonsBy_101 : decode cX12_tonsBy 101 = .ok (.iadd, 1) := od_96  (by decide +kernel)
theorem dX12_tonsBy_102 : decode cX12_tonsBy 102 = .ok (.iaload, 1) := od_46  (by decide +kernel)
theorem dX12_tonsBy_103 : decode cX12_tonsBy 103 = .ok (.isub, 1) := od_100  (by decide +kernel)
theorem dX12_tonsBy_104 : decode cX12_tonsBy 104 = .ok (.i2l, 1) := od_133  (by decide +kernel)
theorem dX12_tonsBy_105 : decode cX12_tonsBy 105 = .ok (.lmul, 1) := od_105  (by decide +kernel)
theorem dX12_tonsBy_106 : decode cX12_tonsBy 106 = .ok (.aload_n 0, 1) := od_42  (by decide +kernel)
theorem dX12_tonsBy_107 : decode cX12_tonsBy 107 = .ok (.getfield 7, 3) := od_180 (a := 0) (b := 7) (by decide +kernel) (by decide)
theorem dX12_tonsBy_110 : decode cX12_tonsBy 110 = .ok (.iload 6, 2) := od_21 (n := 6) (by decide +kernel)
theorem dX12_tonsBy_112 : decode cX12_tonsBy 112 = .ok (.iconst 1, 1) := od_4  (by decide +kernel)
theorem dX12_tonsBy_113 : decode cX12_tonsBy 113 = .ok (.iadd, 1) := od_96  (by decide +kernel)
theorem dX12_tonsBy_114 : decode cX12_tonsBy 114 = .ok (.iaload, 1) := od_46  (by decide +kernel)
theorem dX12_tonsBy_115 : decode cX12_tonsBy 115 = .ok (.aload_n 0, 1) := od_42  (by decide +kernel)
theorem dX12_tonsBy_116 : decode cX12_tonsBy 116 = .ok (.getfield 7, 3) := od_180 (a := 0) (b := 7) (by decide +kernel) (by decide)
theorem dX12_tonsBy_119 : decode cX12_tonsBy 119 = .ok (.iload 5, 2) := od_21 (n := 5) (by decide +kernel)
theorem dX12_tonsBy_121 : decode cX12_tonsBy 121 = .ok (.iconst 1, 1) := od_4  (by decide +kernel)
theorem dX12_tonsBy_122 : decode cX12_tonsBy 122 = .ok (.iadd, 1) := od_96  (by decide +kernel)
theorem dX12_tonsBy_123 : decode cX12_tonsBy 123 = .ok (.iaload, 1) := od_46  (by decide +kernel)
theorem dX12_tonsBy_124 : decode cX12_tonsBy 124 = .ok (.isub, 1) := od_100  (by decide +kernel)
theorem dX12_tonsBy_125 : decode cX12_tonsBy 125 = .ok (.i2l, 1) := od_133  (by decide +kernel)
theorem dX12_tonsBy_126 : decode cX12_tonsBy 126 = .ok (.ldiv, 1) := od_109  (by decide +kernel)
theorem dX12_tonsBy_127 : decode cX12_tonsBy 127 = .ok (.ladd, 1) := od_97  (by decide +kernel)
theorem dX12_tonsBy_128 : decode cX12_tonsBy 128 = .ok (.lreturn, 1) := od_173  (by decide +kernel)
theorem dX12_tonsBy_129 : decode cX12_tonsBy 129 = .ok (.iinc 4 1, 3) := od_132 (a := 4) (b := 1) (by decide +kernel) (by decide +kernel)
theorem dX12_tonsBy_132 : decode cX12_tonsBy 132 = .ok (.goto (-102), 3) := od_167 (a := 255) (b := 154) (by decide +kernel) (by decide +kernel)
theorem dX12_tonsBy_135 : decode cX12_tonsBy 135 = .ok (.aload_n 0, 1) := od_42  (by decide +kernel)
theorem dX12_tonsBy_136 : decode cX12_tonsBy 136 = .ok (.getfield 7, 3) := od_180 (a := 0) (b := 7) (by decide +kernel) (by decide)
theorem dX12_tonsBy_139 : decode cX12_tonsBy 139 = .ok (.iload_n 3, 1) := od_29  (by decide +kernel)
theorem dX12_tonsBy_140 : decode cX12_tonsBy 140 = .ok (.bipush 11, 2) := od_16 (a := 11) (by decide +kernel) (by decide +kernel)
theorem dX12_tonsBy_142 : decode cX12_tonsBy 142 = .ok (.iadd, 1) := od_96  (by decide +kernel)
theorem dX12_tonsBy_143 : decode cX12_tonsBy 143 = .ok (.iaload, 1) := od_46  (by decide +kernel)
theorem dX12_tonsBy_144 : decode cX12_tonsBy 144 = .ok (.i2l, 1) := od_133  (by decide +kernel)
theorem dX12_tonsBy_145 : decode cX12_tonsBy 145 = .ok (.lreturn, 1) := od_173  (by decide +kernel)
theorem gX12_gaugedBy_X12_landingAt : GoodIn WALL (va_wsS RX12 242 yX12_landingAt wqX12_landingAt) := wg_S wa_705 wa_706 wa_5 wa_707
theorem gX12_gaugedBy_X12_shipAt : GoodIn WALL (va_wsS RX12 132 yX12_shipAt wqX12_shipAt) := wg_S wa_278 wa_279 wa_5 wa_280
theorem gX12_gaugedBy_X12_tonsBy : GoodIn WALL (wsV RX12 489 RX12 yX12_tonsBy wqX12_tonsBy) := wg_V wa_1316 wa_1317 wa_1318 wa_5 wa_1319
theorem gX12_gaugedBy_X12_hasTable : GoodIn WALL (wsV RX12 493 RX12 yX12_hasTable wqX12_hasTable) := wg_V wa_1320 wa_1321 wa_1322 wa_5 wa_1323
theorem dX12_gaugedBy_0 : decode cX12_gaugedBy 0 = .ok (.aload_n 0, 1) := od_42  (by decide +kernel)
theorem dX12_gaugedBy_1 : decode cX12_gaugedBy 1 = .ok (.getfield 7, 3) := od_180 (a := 0) (b := 7) (by decide +kernel) (by decide)
theorem dX12_gaugedBy_4 : decode cX12_gaugedBy 4 = .ok (.iload_n 1, 1) := od_27  (by decide +kernel)
theorem dX12_gaugedBy_5 : decode cX12_gaugedBy 5 = .ok (.invokestatic 242, 3) := od_184 (a := 0) (b := 242) (by decide +kernel) (by decide)
theorem dX12_gaugedBy_8 : decode cX12_gaugedBy 8 = .ok (.iaload, 1) := od_46  (by decide +kernel)
theorem dX12_gaugedBy_9 : decode cX12_gaugedBy 9 = .ok (.invokestatic 132, 3) := od_184 (a := 0) (b := 132) (by decide +kernel) (by decide)
theorem dX12_gaugedBy_12 : decode cX12_gaugedBy 12 = .ok (.istore 4, 2) := od_54 (n := 4) (by decide +kernel)
theorem dX12_gaugedBy_14 : decode cX12_gaugedBy 14 = .ok (.ldc2_w 466, 3) := od_20 (a := 1) (b := 210) (by decide +kernel) (by decide)
theorem dX12_gaugedBy_17 : decode cX12_gaugedBy 17 = .ok (.lstore 5, 2) := od_55 (n := 5) (by decide +kernel)
theorem dX12_gaugedBy_19 : decode cX12_gaugedBy 19 = .ok (.iconst 0, 1) := od_3  (by decide +kernel)
theorem dX12_gaugedBy_20 : decode cX12_gaugedBy 20 = .ok (.istore 7, 2) := od_54 (n := 7) (by decide +kernel)
theorem dX12_gaugedBy_22 : decode cX12_gaugedBy 22 = .ok (.iload 7, 2) := od_21 (n := 7) (by decide +kernel)
theorem dX12_gaugedBy_24 : decode cX12_gaugedBy 24 = .ok (.aload_n 0, 1) := od_42  (by decide +kernel)
theorem dX12_gaugedBy_25 : decode cX12_gaugedBy 25 = .ok (.getfield 7, 3) := od_180 (a := 0) (b := 7) (by decide +kernel) (by decide)
theorem dX12_gaugedBy_28 : decode cX12_gaugedBy 28 = .ok (.bipush 9, 2) := od_16 (a := 9) (by decide +kernel) (by decide +kernel)
theorem dX12_gaugedBy_30 : decode cX12_gaugedBy 30 = .ok (.iaload, 1) := od_46  (by decide +kernel)
theorem dX12_gaugedBy_31 : decode cX12_gaugedBy 31 = .ok (.if_icmp .ge 94, 3) := od_162 (a := 0) (b := 94) (by decide +kernel) (by decide +kernel)
theorem dX12_gaugedBy_34 : decode cX12_gaugedBy 34 = .ok (.sipush 12619, 3) := od_17 (a := 49) (b := 75) (by decide +kernel) (by decide +kernel)
theorem dX12_gaugedBy_37 : decode cX12_gaugedBy 37 = .ok (.iconst 5, 1) := od_8  (by decide +kernel)
theorem dX12_gaugedBy_38 : decode cX12_gaugedBy 38 = .ok (.iload 7, 2) := od_21 (n := 7) (by decide +kernel)
theorem dX12_gaugedBy_40 : decode cX12_gaugedBy 40 = .ok (.imul, 1) := od_104  (by decide +kernel)
theorem dX12_gaugedBy_41 : decode cX12_gaugedBy 41 = .ok (.iadd, 1) := od_96  (by decide +kernel)
theorem dX12_gaugedBy_42 : decode cX12_gaugedBy 42 = .ok (.istore 8, 2) := od_54 (n := 8) (by decide +kernel)
theorem dX12_gaugedBy_44 : decode cX12_gaugedBy 44 = .ok (.aload_n 0, 1) := od_42  (by decide +kernel)
theorem dX12_gaugedBy_45 : decode cX12_gaugedBy 45 = .ok (.getfield 7, 3) := od_180 (a := 0) (b := 7) (by decide +kernel) (by decide)
theorem dX12_gaugedBy_48 : decode cX12_gaugedBy 48 = .ok (.iload 8, 2) := od_21 (n := 8) (by decide +kernel)
theorem dX12_gaugedBy_50 : decode cX12_gaugedBy 50 = .ok (.iaload, 1) := od_46  (by decide +kernel)
theorem dX12_gaugedBy_51 : decode cX12_gaugedBy 51 = .ok (.iload_n 1, 1) := od_27  (by decide +kernel)
theorem dX12_gaugedBy_52 : decode cX12_gaugedBy 52 = .ok (.if_icmp .ne 67, 3) := od_160 (a := 0) (b := 67) (by decide +kernel) (by decide +kernel)
theorem dX12_gaugedBy_55 : decode cX12_gaugedBy 55 = .ok (.aload_n 0, 1) := od_42  (by decide +kernel)
theorem dX12_gaugedBy_56 : decode cX12_gaugedBy 56 = .ok (.getfield 7, 3) := od_180 (a := 0) (b := 7) (by decide +kernel) (by decide)
theorem dX12_gaugedBy_59 : decode cX12_gaugedBy 59 = .ok (.iload 8, 2) := od_21 (n := 8) (by decide +kernel)
theorem dX12_gaugedBy_61 : decode cX12_gaugedBy 61 = .ok (.iconst 1, 1) := od_4  (by decide +kernel)
theorem dX12_gaugedBy_62 : decode cX12_gaugedBy 62 = .ok (.iadd, 1) := od_96  (by decide +kernel)
theorem dX12_gaugedBy_63 : decode cX12_gaugedBy 63 = .ok (.iaload, 1) := od_46  (by decide +kernel)
theorem dX12_gaugedBy_64 : decode cX12_gaugedBy 64 = .ok (.iload_n 2, 1) := od_28  (by decide +kernel)
theorem dX12_gaugedBy_65 : decode cX12_gaugedBy 65 = .ok (.if_icmp .ne 54, 3) := od_160 (a := 0) (b := 54) (by decide +kernel) (by decide +kernel)
theorem dX12_gaugedBy_68 : decode cX12_gaugedBy 68 = .ok (.aload_n 0, 1) := od_42  (by decide +kernel)
theorem dX12_gaugedBy_69 : decode cX12_gaugedBy 69 = .ok (.getfield 7, 3) := od_180 (a := 0) (b := 7) (by decide +kernel) (by decide)
theorem dX12_gaugedBy_72 : decode cX12_gaugedBy 72 = .ok (.iload 8, 2) := od_21 (n := 8) (by decide +kernel)
theorem dX12_gaugedBy_74 : decode cX12_gaugedBy 74 = .ok (.iconst 4, 1) := od_7  (by decide +kernel)
theorem dX12_gaugedBy_75 : decode cX12_gaugedBy 75 = .ok (.iadd, 1) := od_96  (by decide +kernel)
theorem dX12_gaugedBy_76 : decode cX12_gaugedBy 76 = .ok (.iaload, 1) := od_46  (by decide +kernel)
theorem dX12_gaugedBy_77 : decode cX12_gaugedBy 77 = .ok (.iload_n 3, 1) := od_29  (by decide +kernel)
theorem dX12_gaugedBy_78 : decode cX12_gaugedBy 78 = .ok (.if_icmp .gt 41, 3) := od_163 (a := 0) (b := 41) (by decide +kernel) (by decide +kernel)
theorem dX12_gaugedBy_81 : decode cX12_gaugedBy 81 = .ok (.aload_n 0, 1) := od_42  (by decide +kernel)
theorem dX12_gaugedBy_82 : decode cX12_gaugedBy 82 = .ok (.iload 4, 2) := od_21 (n := 4) (by decide +kernel)
theorem dX12_gaugedBy_84 : decode cX12_gaugedBy 84 = .ok (.aload_n 0, 1) := od_42  (by decide +kernel)
theorem dX12_gaugedBy_85 : decode cX12_gaugedBy 85 = .ok (.getfield 7, 3) := od_180 (a := 0) (b := 7) (by decide +kernel) (by decide)
theorem dX12_gaugedBy_88 : decode cX12_gaugedBy 88 = .ok (.iload 8, 2) := od_21 (n := 8) (by decide +kernel)
theorem dX12_gaugedBy_90 : decode cX12_gaugedBy 90 = .ok (.iconst 2, 1) := od_5  (by decide +kernel)
theorem dX12_gaugedBy_91 : decode cX12_gaugedBy 91 = .ok (.iadd, 1) := od_96  (by decide +kernel)
theorem dX12_gaugedBy_92 : decode cX12_gaugedBy 92 = .ok (.iaload, 1) := od_46  (by decide +kernel)
theorem dX12_gaugedBy_93 : decode cX12_gaugedBy 93 = .ok (.aload_n 0, 1) := od_42  (by decide +kernel)
theorem dX12_gaugedBy_94 : decode cX12_gaugedBy 94 = .ok (.getfield 7, 3) := od_180 (a := 0) (b := 7) (by decide +kernel) (by decide)
theorem dX12_gaugedBy_97 : decode cX12_gaugedBy 97 = .ok (.iload 8, 2) := od_21 (n := 8) (by decide +kernel)
theorem dX12_gaugedBy_99 : decode cX12_gaugedBy 99 = .ok (.iconst 3, 1) := od_6  (by decide +kernel)
theorem dX12_gaugedBy_100 : decode cX12_gaugedBy 100 = .ok (.iadd, 1) := od_96  (by decide +kernel)
theorem dX12_gaugedBy_101 : decode cX12_gaugedBy 101 = .ok (.iaload, 1) := od_46  (by decide +kernel)
theorem dX12_gaugedBy_102 : decode cX12_gaugedBy 102 = .ok (.aload_n 0, 1) := od_42  (by decide +kernel)
theorem dX12_gaugedBy_103 : decode cX12_gaugedBy 103 = .ok (.getfield 7, 3) := od_180 (a := 0) (b := 7) (by decide +kernel) (by decide)
theorem dX12_gaugedBy_106 : decode cX12_gaugedBy 106 = .ok (.iload 4, 2) := od_21 (n := 4) (by decide +kernel)
theorem dX12_gaugedBy_108 : decode cX12_gaugedBy 108 = .ok (.bipush 31, 2) := od_16 (a := 31) (by decide +kernel) (by decide +kernel)
theorem dX12_gaugedBy_110 : decode cX12_gaugedBy 110 = .ok (.iadd, 1) := od_96  (by decide +kernel)
theorem dX12_gaugedBy_111 : decode cX12_gaugedBy 111 = .ok (.iaload, 1) := od_46  (by decide +kernel)
theorem dX12_gaugedBy_112 : decode cX12_gaugedBy 112 = .ok (.imul, 1) := od_104  (by decide +kernel)
theorem dX12_gaugedBy_113 : decode cX12_gaugedBy 113 = .ok (.isub, 1) := od_100  (by decide +kernel)
theorem dX12_gaugedBy_114 : decode cX12_gaugedBy 114 = .ok (.invokevirtual 489, 3) := od_182 (a := 1) (b := 233) (by decide +kernel) (by decide)
theorem dX12_gaugedBy_117 : decode cX12_gaugedBy 117 = .ok (.lstore 5, 2) := od_55 (n := 5) (by decide +kernel)
theorem dX12_gaugedBy_119 : decode cX12_gaugedBy 119 = .ok (.iinc 7 1, 3) := od_132 (a := 7) (b := 1) (by decide +kernel) (by decide +kernel)
theorem dX12_gaugedBy_122 : decode cX12_gaugedBy 122 = .ok (.goto (-100), 3) := od_167 (a := 255) (b := 156) (by decide +kernel) (by decide +kernel)
theorem dX12_gaugedBy_125 : decode cX12_gaugedBy 125 = .ok (.aload_n 0, 1) := od_42  (by decide +kernel)
theorem dX12_gaugedBy_126 : decode cX12_gaugedBy 126 = .ok (.iload 4, 2) := od_21 (n := 4) (by decide +kernel)
theorem dX12_gaugedBy_128 : decode cX12_gaugedBy 128 = .ok (.invokevirtual 493, 3) := od_182 (a := 1) (b := 237) (by decide +kernel) (by decide)
theorem dX12_gaugedBy_131 : decode cX12_gaugedBy 131 = .ok (.ifCond .eq 8, 3) := od_153 (a := 0) (b := 8) (by decide +kernel) (by decide +kernel)
theorem dX12_gaugedBy_134 : decode cX12_gaugedBy 134 = .ok (.lload 5, 2) := od_22 (n := 5) (by decide +kernel)
theorem dX12_gaugedBy_136 : decode cX12_gaugedBy 136 = .ok (.goto 6, 3) := od_167 (a := 0) (b := 6) (by decide +kernel) (by decide +kernel)
theorem dX12_gaugedBy_139 : decode cX12_gaugedBy 139 = .ok (.ldc2_w 466, 3) := od_20 (a := 1) (b := 210) (by decide +kernel) (by decide)
theorem dX12_gaugedBy_142 : decode cX12_gaugedBy 142 = .ok (.lreturn, 1) := od_173  (by decide +kernel)
theorem gX12_gauged_X12_isLanding : GoodIn WALL (wsV RX12 237 RX12 yX12_isLanding wqX12_isLanding) := wg_V wa_701 wa_702 wa_703 wa_5 wa_704
theorem gX12_gauged_X12_isHour : GoodIn WALL (va_wsS RX12 144 yX12_isHour wqX12_isHour) := wg_S wa_351 wa_352 wa_5 wa_353
theorem gX12_gauged_X12_in : GoodIn WALL (va_wsS RX12 99 yX12_in wqX12_in) := wg_S wa_213 wa_214 wa_5 wa_215
theorem gX12_gauged_X12_gaugedBy : GoodIn WALL (wsV RX12 496 RX12 yX12_gaugedBy wqX12_gaugedBy) := wg_V wa_1312 wa_1313 wa_1314 wa_5 wa_1315
theorem gX12_gauged_X12_landingAt : GoodIn WALL (va_wsS RX12 242 yX12_landingAt wqX12_landingAt) := wg_S wa_705 wa_706 wa_5 wa_707
theorem gX12_gauged_X12_billed : GoodIn WALL (wsV RX12 425 RX12 yX12_billed wqX12_billed) := wg_V wa_1203 wa_1204 wa_1205 wa_5 wa_1206
theorem gX12_gauged_X12_priceOf : GoodIn WALL (wsV RX12 431 RX12 yX12_priceOf wqX12_priceOf) := wg_V wa_1211 wa_1212 wa_1213 wa_5 wa_1214
theorem dX12_gauged_0 : decode cX12_gauged 0 = .ok (.aload_n 0, 1) := od_42  (by decide +kernel)
theorem dX12_gauged_1 : decode cX12_gauged 1 = .ok (.iconst 0, 1) := od_3  (by decide +kernel)
theorem dX12_gauged_2 : decode cX12_gauged 2 = .ok (.putfield 91, 3) := od_181 (a := 0) (b := 91) (by decide +kernel) (by decide)
theorem dX12_gauged_5 : decode cX12_gauged 5 = .ok (.aload_n 0, 1) := od_42  (by decide +kernel)
theorem dX12_gauged_6 : decode cX12_gauged 6 = .ok (.iload_n 1, 1) := od_27  (by decide +kernel)
theorem dX12_gauged_7 : decode cX12_gauged 7 = .ok (.invokevirtual 237, 3) := od_182 (a := 0) (b := 237) (by decide +kernel) (by decide)
theorem dX12_gauged_10 : decode cX12_gauged 10 = .ok (.ifCond .eq 22, 3) := od_153 (a := 0) (b := 22) (by decide +kernel) (by decide +kernel)
theorem dX12_gauged_13 : decode cX12_gauged 13 = .ok (.iload_n 2, 1) := od_28  (by decide +kernel)
theorem dX12_gauged_14 : decode cX12_gauged 14 = .ok (.invokestatic 144, 3) := od_184 (a := 0) (b := 144) (by decide +kernel) (by decide)
theorem dX12_gauged_17 : decode cX12_gauged 17 = .ok (.ifCond .eq 15, 3) := od_153 (a := 0) (b := 15) (by decide +kernel) (by decide +kernel)
theorem dX12_gauged_20 : decode cX12_gauged 20 = .ok (.iload_n 3, 1) := od_29  (by decide +kernel)
theorem dX12_gauged_21 : decode cX12_gauged 21 = .ok (.i2l, 1) := od_133  (by decide +kernel)
theorem dX12_gauged_22 : decode cX12_gauged 22 = .ok (.lconst 0, 1) := od_9  (by decide +kernel)
theorem dX12_gauged_23 : decode cX12_gauged 23 = .ok (.ldc2_w 152, 3) := od_20 (a := 0) (b := 152) (by decide +kernel) (by decide)
theorem dX12_gauged_26 : decode cX12_gauged 26 = .ok (.invokestatic 99, 3) := od_184 (a := 0) (b := 99) (by decide +kernel) (by decide)
theorem dX12_gauged_29 : decode cX12_gauged 29 = .ok (.ifCond .ne 7, 3) := od_154 (a := 0) (b := 7) (by decide +kernel) (by decide +kernel)
theorem dX12_gauged_32 : decode cX12_gauged 32 = .ok (.ldc2_w 466, 3) := od_20 (a := 1) (b := 210) (by decide +kernel) (by decide)
theorem dX12_gauged_35 : decode cX12_gauged 35 = .ok (.lreturn, 1) := od_173  (by decide +kernel)
theorem dX12_gauged_36 : decode cX12_gauged 36 = .ok (.aload_n 0, 1) := od_42  (by decide +kernel)
theorem dX12_gauged_37 : decode cX12_gauged 37 = .ok (.iload_n 1, 1) := od_27  (by decide +kernel)
theorem dX12_gauged_38 : decode cX12_gauged 38 = .ok (.iconst 0, 1) := od_3  (by decide +kernel)
theorem dX12_gauged_39 : decode cX12_gauged 39 = .ok (.iload_n 2, 1) := od_28  (by decide +kernel)
theorem dX12_gauged_40 : decode cX12_gauged 40 = .ok (.invokevirtual 496, 3) := od_182 (a := 1) (b := 240) (by decide +kernel) (by decide)
theorem dX12_gauged_43 : decode cX12_gauged 43 = .ok (.lstore 4, 2) := od_55 (n := 4) (by decide +kernel)
theorem dX12_gauged_45 : decode cX12_gauged 45 = .ok (.aload_n 0, 1) := od_42  (by decide +kernel)
theorem dX12_gauged_46 : decode cX12_gauged 46 = .ok (.iload_n 1, 1) := od_27  (by decide +kernel)
theorem dX12_gauged_47 : decode cX12_gauged 47 = .ok (.iconst 1, 1) := od_4  (by decide +kernel)
theorem dX12_gauged_48 : decode cX12_gauged 48 = .ok (.iload_n 2, 1) := od_28  (by decide +kernel)
theorem dX12_gauged_49 : decode cX12_gauged 49 = .ok (.invokevirtual 496, 3) := od_182 (a := 1) (b := 240) (by decide +kernel) (by decide)
theorem dX12_gauged_52 : decode cX12_gauged 52 = .ok (.lstore 6, 2) := od_55 (n := 6) (by decide +kernel)
theorem dX12_gauged_54 : decode cX12_gauged 54 = .ok (.iload_n 3, 1) := od_29  (by decide +kernel)
theorem dX12_gauged_55 : decode cX12_gauged 55 = .ok (.iconst 2, 1) := od_5  (by decide +kernel)
theorem dX12_gauged_56 : decode cX12_gauged 56 = .ok (.if_icmp .ge 15, 3) := od_162 (a := 0) (b := 15) (by decide +kernel) (by decide +kernel)
theorem dX12_gauged_59 : decode cX12_gauged 59 = .ok (.iload_n 3, 1) := od_29  (by decide +kernel)
theorem dX12_gauged_60 : decode cX12_gauged 60 = .ok (.ifCond .ne 8, 3) := od_154 (a := 0) (b := 8) (by decide +kernel) (by decide +kernel)
theorem dX12_gauged_63 : decode cX12_gauged 63 = .ok (.lload 4, 2) := od_22 (n := 4) (by decide +kernel)
theorem dX12_gauged_65 : decode cX12_gauged 65 = .ok (.goto 5, 3) := od_167 (a := 0) (b := 5) (by decide +kernel) (by decide +kernel)
theorem dX12_gauged_68 : decode cX12_gauged 68 = .ok (.lload 6, 2) := od_22 (n := 6) (by decide +kernel)
theorem dX12_gauged_70 : decode cX12_gauged 70 = .ok (.lreturn, 1) := od_173  (by decide +kernel)
theorem dX12_gauged_71 : decode cX12_gauged 71 = .ok (.lload 4, 2) := od_22 (n := 4) (by decide +kernel)
theorem dX12_gauged_73 : decode cX12_gauged 73 = .ok (.ldc2_w 466, 3) := od_20 (a := 1) (b := 210) (by decide +kernel) (by decide)
theorem dX12_gauged_76 : decode cX12_gauged 76 = .ok (.lcmp, 1) := od_148  (by decide +kernel)
theorem dX12_gauged_77 : decode cX12_gauged 77 = .ok (.ifCond .eq 12, 3) := od_153 (a := 0) (b := 12) (by decide +kernel) (by decide +kernel)
theorem dX12_gauged_80 : decode cX12_gauged 80 = .ok (.lload 6, 2) := od_22 (n := 6) (by decide +kernel)
theorem dX12_gauged_82 : decode cX12_gauged 82 = .ok (.ldc2_w 466, 3) := od_20 (a := 1) (b := 210) (by decide +kernel) (by decide)
theorem dX12_gauged_85 : decode cX12_gauged 85 = .ok (.lcmp, 1) := od_148  (by decide +kernel)
theorem dX12_gauged_86 : decode cX12_gauged 86 = .ok (.ifCond .ne 7, 3) := od_154 (a := 0) (b := 7) (by decide +kernel) (by decide +kernel)
theorem dX12_gauged_89 : decode cX12_gauged 89 = .ok (.ldc2_w 466, 3) := od_20 (a := 1) (b := 210) (by decide +kernel) (by decide)
theorem dX12_gauged_92 : decode cX12_gauged 92 = .ok (.lreturn, 1) := od_173  (by decide +kernel)
theorem dX12_gauged_93 : decode cX12_gauged 93 = .ok (.iload_n 1, 1) := od_27  (by decide +kernel)
theorem dX12_gauged_94 : decode cX12_gauged 94 = .ok (.invokestatic 242, 3) := od_184 (a := 0) (b := 242) (by decide +kernel) (by decide)
theorem dX12_gauged_97 : decode cX12_gauged 97 = .ok (.istore 8, 2) := od_54 (n := 8) (by decide +kernel)
theorem dX12_gauged_99 : decode cX12_gauged 99 = .ok (.lload 4, 2) := od_22 (n := 4) (by decide +kernel)
theorem dX12_gauged_101 : decode cX12_gauged 101 = .ok (.lload 6, 2) := od_22 (n := 6) (by decide +kernel)
theorem dX12_gauged_103 : decode cX12_gauged 103 = .ok (.lsub, 1) := od_101  (by decide +kernel)
theorem dX12_gauged_104 : decode cX12_gauged 104 = .ok (.lstore 9, 2) := od_55 (n := 9) (by decide +kernel)
theorem dX12_gauged_106 : decode cX12_gauged 106 = .ok (.iload_n 3, 1) := od_29  (by decide +kernel)
theorem dX12_gauged_107 : decode cX12_gauged 107 = .ok (.iconst 2, 1) := od_5  (by decide +kernel)
theorem dX12_gauged_108 : decode cX12_gauged 108 = .ok (.if_icmp .ne 8, 3) := od_160 (a := 0) (b := 8) (by decide +kernel) (by decide +kernel)
theorem dX12_gauged_111 : decode cX12_gauged 111 = .ok (.lload 9, 2) := od_22 (n := 9) (by decide +kernel)
theorem dX12_gauged_113 : decode cX12_gauged 113 = .ok (.goto 32, 3) := od_167 (a := 0) (b := 32) (by decide +kernel) (by decide +kernel)
theorem dX12_gauged_116 : decode cX12_gauged 116 = .ok (.aload_n 0, 1) := od_42  (by decide +kernel)
theorem dX12_gauged_117 : decode cX12_gauged 117 = .ok (.iload 8, 2) := od_21 (n := 8) (by decide +kernel)
theorem dX12_gauged_119 : decode cX12_gauged 119 = .ok (.invokevirtual 425, 3) := od_182 (a := 1) (b := 169) (by decide +kernel) (by decide)
theorem dX12_gauged_122 : decode cX12_gauged 122 = .ok (.i2l, 1) := od_133  (by decide +kernel)
theorem dX12_gauged_123 : decode cX12_gauged 123 = .ok (.lload 9, 2) := od_22 (n := 9) (by decide +kernel)
theorem dX12_gauged_125 : decode cX12_gauged 125 = .ok (.lsub, 1) := od_101  (by decide +kernel)
theorem dX12_gauged_126 : decode cX12_gauged 126 = .ok (.aload_n 0, 1) := od_42  (by decide +kernel)
theorem dX12_gauged_127 : decode cX12_gauged 127 = .ok (.aload_n 0, 1) := od_42  (by decide +kernel)
theorem dX12_gauged_128 : decode cX12_gauged 128 = .ok (.getfield 7, 3) := od_180 (a := 0) (b := 7) (by decide +kernel) (by decide)
theorem dX12_gauged_131 : decode cX12_gauged 131 = .ok (.iload 8, 2) := od_21 (n := 8) (by decide +kernel)
theorem dX12_gauged_133 : decode cX12_gauged 133 = .ok (.iconst 3, 1) := od_6  (by decide +kernel)
theorem dX12_gauged_134 : decode cX12_gauged 134 = .ok (.iadd, 1) := od_96  (by decide +kernel)
theorem dX12_gauged_135 : decode cX12_gauged 135 = .ok (.iaload, 1) := od_46  (by decide +kernel)
theorem dX12_gauged_136 : decode cX12_gauged 136 = .ok (.bipush 24, 2) := od_16 (a := 24) (by decide +kernel) (by decide +kernel)
theorem dX12_gauged_138 : decode cX12_gauged 138 = .ok (.idiv, 1) := od_108  (by decide +kernel)
theorem dX12_gauged_139 : decode cX12_gauged 139 = .ok (.iload_n 2, 1) := od_28  (by decide +kernel)
theorem dX12_gauged_140 : decode cX12_gauged 140 = .ok (.invokevirtual 431, 3) := od_182 (a := 1) (b := 175) (by decide +kernel) (by decide)
theorem dX12_gauged_143 : decode cX12_gauged 143 = .ok (.i2l, 1) := od_133  (by decide +kernel)
theorem dX12_gauged_144 : decode cX12_gauged 144 = .ok (.lmul, 1) := od_105  (by decide +kernel)
theorem dX12_gauged_145 : decode cX12_gauged 145 = .ok (.lreturn, 1) := od_173  (by decide +kernel)
end
