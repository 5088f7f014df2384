set_option maxHeartbeats 4000000 in
set_option maxRecDepth 100000 in
theorem t_X12_behindTest (l : Launch) (dC : Nat → ClassId) (dI : Nat → Nat → Nat) (sz : Nat) (κ : Nat → ClassId) (τ ν : Nat → Nat) (ρ : Nat → Nat → Nat) (L : List Nat) (f : Nat → va_E) (hG : tp_G τ ν ρ L) (hT : tp_T (mo_O κ) κ τ ν ρ f) (h0 : Nat) (aa : Int) (ht_h0 : τ h0 = 13) (h1 : ((tp_fld (f h0) 10) ≤ (tp_fld (f h0) 11) ∧ (tp_fld (f h0) 11) ≤ (tp_fld (f h0) 9) ∧ ((tp_fld (f h0) 12) = 0 ∨ (tp_fld (f h0) 10) < (tp_fld (f h0) 11)) ∧ ((tp_fld (f h0) 12) = 1 → (tp_fld (f h0) 11) = (tp_fld (f h0) 10) + 1 → (mo_fj (f h0) 13) ≤ 26))) (hb0 : (tp_fld (f h0) 15) = 0) (h2 : (tp_fld (f h0) 22) + (tp_fld (f h0) 28) ≤ (tp_fld (f h0) 10)) (h3 : mo_PV (mo_R (mo_i (f (ρ h0 26)))) (mo_R (mo_i (f (ρ h0 27)))) (tp_fld (f h0) 28)) (h4 : mo_EX aa 2 (mo_R (mo_i (f (ρ h0 23)))) (mo_R (mo_i (f (ρ h0 24)))) (mo_R (mo_i (f (ρ h0 26)))) (mo_R (mo_i (f (ρ h0 27)))) (tp_fld (f h0) 22) (tp_fld (f h0) 28)) : Met l yX12_behindTest wqX12_behindTest ({ frames := 5, cells := 0, slots := 0, locals := 1600 }) (va_Pc [.ref h0] (pz_B dC dI (tp_K κ) (va_pl L f) sz)) (va_Qi (fun (r : Int32) (f1 : Nat → va_E) => tp_T (mo_O κ) κ τ ν ρ f1 ∧ tp_F τ [13, 53, 54, 56, 57] f f1 ∧ (0 ≤ r.toInt ∧ r.toInt ≤ 4) ∧ ((tp_fld (f1 h0) 10) ≤ (tp_fld (f1 h0) 11) ∧ (tp_fld (f1 h0) 11) ≤ (tp_fld (f1 h0) 9) ∧ ((tp_fld (f1 h0) 12) = 0 ∨ (tp_fld (f1 h0) 10) < (tp_fld (f1 h0) 11)) ∧ ((tp_fld (f1 h0) 12) = 1 → (tp_fld (f1 h0) 11) = (tp_fld (f1 h0) 10) + 1 → (mo_fj (f1 h0) 13) ≤ 26)) ∧ (tp_fld (f1 h0) 22) + (tp_fld (f1 h0) 28) ≤ (tp_fld (f1 h0) 10) ∧ mo_PV (mo_R (mo_i (f1 (ρ h0 26)))) (mo_R (mo_i (f1 (ρ h0 27)))) (tp_fld (f1 h0) 28) ∧ ((tp_fld (f1 h0) 15) = 0 → mo_EX aa r.toInt (mo_R (mo_i (f1 (ρ h0 23)))) (mo_R (mo_i (f1 (ρ h0 24)))) (mo_R (mo_i (f1 (ρ h0 26)))) (mo_R (mo_i (f1 (ρ h0 27)))) (tp_fld (f1 h0) 22) (tp_fld (f1 h0) 28) ∧ mo_FR aa (mo_R (mo_i (f (ρ h0 23)))) (mo_R (mo_i (f (ρ h0 24)))) (mo_R (mo_i (f1 (ρ h0 23)))) (mo_R (mo_i (f1 (ρ h0 24)))) ∧ (r.toInt = 4 ∨ (tp_fld (f h0) 10) < (tp_fld (f1 h0) 10) ∨ ((tp_fld (f1 h0) 10) = (tp_fld (f h0) 10) ∧ r.toInt = 2))) ∧ (tp_fld (f h0) 22) ≤ (tp_fld (f1 h0) 22) ∧ (tp_fld (f1 h0) 9) = (tp_fld (f h0) 9) ∧ (tp_fld (f1 h0) 19) = (tp_fld (f h0) 19) ∧ (tp_fld (f1 h0) 20) = (tp_fld (f h0) 20)) (fun (f1 : Nat → va_E) (t : State) => pz_E dC dI (tp_K κ) (va_A (va_pl L f) sz) (va_pl L f1) t) (va_A (va_pl L f) sz)) 0 0 (va_A (va_pl L f) sz) := by
  refine Met.ofW (cc := cX12_behindTest) (maxL := 2) (ret := some .int) (by decide) rfl ?_
  intro p e s m args below meth c s₁ B hml hv
  obtain ⟨rfl, hsz, hP, hK, hD0, hN⟩ := hv
  have hx := B.exec
  have hb := B.bytes
  have hr := B.returns
  have hts := fun (w : Cond) (h : w ∈ WALL) => atoms_spec (ws := wqX12_behindTest) B.pre w (List.mem_cons_of_mem _ h)
  have hown : s.vm.findClass RX12 = some m.cls := findClass_of_methodNamed B.named
  have hlocks := B.notSynchronized
  subst hsz
  have hD := hD0.self (sz := s.heap.size)
  generalize hAe : va_A (va_pl L f) s.heap.size = A at hD ⊢
  have hA : ∀ q : Nat, s.heap.size ≤ q → A q := fun q h => by rw [← hAe]; exact Or.inr h
  have hS : va_S A s.heap s.heap [] := va_S.rf
  have hR : tp_F τ [13, 53, 54, 56, 57] f f := tp_F.rf
  have hl := lv_entry ([.ref h0]) (n := 2) (Nat.le_of_ble_eq_true rfl)
  rw [lg_entry_eq]
  generalize (lg_sl ([.ref h0]) ++ List.replicate (2 - (lg_sl ([.ref h0])).length) Slot.unset).toArray = ls at hl ⊢
  have hl : lv_has ls 2 [(0, .ref h0)] := hl
  obtain ⟨y1, y2, y3, y4, y5, y6, y7, y8, y9, y10, y11, y12, y13, y14, y15, y16, y17, y18, y19, y20, y21, y22, y23, y24, y25⟩ := tpg_13 hG ht_h0
  obtain ⟨g27, hf_o26⟩ := tpo_53 hT y8
  obtain ⟨g29, hf_o28⟩ := tpo_54 hT y9
  obtain ⟨g31, hf_o30⟩ := tpo_56 hT y10
  obtain ⟨g33, hf_o32⟩ := tpo_57 hT y11
  obtain ⟨o34_x0, o34_x1, o34_x7, o34_x9, o34_x10, o34_x11, o34_x12, o34_x13, o34_x14, o34_x15, o34_x16, o34_x17, o34_x18, o34_x19, o34_x20, o34_x22, o34_x25, o34_x28, o34_x29, o34_x32, o34_x33, o34_x34, o34_x35, o34_x36, o34_x37, o34_x38, o34_x47, o34_x48, hf_o34, ro34_0, ro34_1, ro34_2, ro34_3, ro34_4, ro34_5, ro34_6, ro34_7, ro34_8, ro34_9, ro34_10, ro34_11, ro34_12, ro34_13⟩ := tpo_13 hT ht_h0
  have h1 : (o34_x10.toInt ≤ o34_x11.toInt ∧ o34_x11.toInt ≤ o34_x9.toInt ∧ (o34_x12.toInt = 0 ∨ o34_x10.toInt < o34_x11.toInt) ∧ (o34_x12.toInt = 1 → o34_x11.toInt = o34_x10.toInt + 1 → o34_x13.toInt ≤ 26)) := by have q9 := h1; simp only [hf_o34, mo_i1, mo_l1] at q9; exact q9
  have hb0 : o34_x15.toInt = 0 := by have q9 := hb0; simp only [hf_o34, mo_i1, mo_l1] at q9; exact q9
  have h2 : o34_x22.toInt + o34_x28.toInt ≤ o34_x10.toInt := by have q9 := h2; simp only [hf_o34, mo_i1, mo_l1] at q9; exact q9
  have h3 : mo_PV (mo_R g31) (mo_R g33) o34_x28.toInt := by have q9 := h3; simp only [hf_o30, hf_o32, hf_o34, mo_i1, mo_l1] at q9; exact q9
  have h4 : mo_EX aa 2 (mo_R g27) (mo_R g29) (mo_R g31) (mo_R g33) o34_x22.toInt o34_x28.toInt := by have q9 := h4; simp only [hf_o26, hf_o28, hf_o30, hf_o32, hf_o34, mo_i1, mo_l1] at q9; exact q9
  refine lv_aload_n hx hb dX12_behindTest_0 rfl (lv_at hl 0 rfl) ?_
  refine lv_ldc2 (own := RX12) (v := 1476) hx hb hown (hts (.constantLong RX12 369 (1476)) wa_1110) dX12_behindTest_1 ?_
  obtain ⟨q35, eq35⟩ := tp_pos (tp_in hG ht_h0 (by decide)) hf_o34
  refine pz_calli (va_runV (As := [.long 1476]) (rest := []) ⟨hx, hb, hml, hown, hts⟩ (t_X12_isWord l dC dI _ κ τ ν ρ L f hG hT h0 (1476) ht_h0) (cwV 1 hts gX12_behindTest_X12_isWord rfl rfl rfl ⟨rfl, pd_X12_isWord⟩ ⟨Nat.le_of_ble_eq_true rfl, Nat.le_of_ble_eq_true rfl⟩) ⟨pz_blind, va_recv hK hP (ci := 12) (q0 := q35) rfl eq35, pz_pre hP hK hD hN⟩ rfl rfl hl.1 rfl (lv_room (Nat.le_of_ble_eq_true rfl)) dX12_behindTest_4 ⟨Nat.le_of_ble_eq_true rfl, Nat.le_of_ble_eq_true rfl⟩) (fun r36 hw37 => ?_)
  obtain ⟨hw37r, hw37p⟩ := hw37
  have tk38 : (r36.toInt ≠ 0 → o34_x12.toInt = 1 ∧ o34_x13.toInt = (1476)) := by have q9 := hw37p; simp only [hf_o34, mo_i1, mo_l1] at q9; exact q9
  refine lv_istore_n (lv' := [(1, .int r36), (0, .ref h0)]) hx hb dX12_behindTest_7 rfl hl (by decide) rfl (fun ls hl => ?_)
  refine lv_iload_n hx hb dX12_behindTest_8 rfl (lv_at hl 0 rfl) ?_
  refine lv_if_ne (tgt := 22) hx hb dX12_behindTest_9 (by decide) (fun c39 => ?_) (fun c39 => ?_)
  · have ic39 : r36.toInt ≠ 0 := zi_ne rfl rfl c39
    refine lv_aload_n hx hb dX12_behindTest_22 rfl (lv_at hl 1 rfl) ?_
    refine lv_iload_n hx hb dX12_behindTest_23 rfl (lv_at hl 0 rfl) ?_
    refine lv_if_eq (tgt := 31) hx hb dX12_behindTest_24 (by decide) (fun c40 => ?_) (fun c40 => ?_)
    · have ic40 : r36.toInt = 0 := zi_eq rfl rfl c40
      exfalso; omega
    · have ic40 : r36.toInt ≠ 0 := zi_eqf rfl rfl c40
      refine lv_iconst (v := 2) hx hb dX12_behindTest_27 (by decide) ?_
      refine lv_goto (tgt := 32) hx hb dX12_behindTest_28 (by decide) ?_
      have hFc := tp_fr hD hS hA
      refine va_callv (va_runV (As := [.int 2]) (rest := []) ⟨hx, hb, hml, hown, hts⟩ (t_X12_settleDown l dC dI _ κ τ ν ρ L f hG hT h0 (2) aa ht_h0 (by first | decide | omega) (by simp only [hf_o34, mo_i1, mo_l1]; exact (show o34_x22.toInt + o34_x28.toInt ≤ 400 from by omega)) (by simp only [hf_o30, hf_o32, hf_o34, mo_i1, mo_l1]; exact (show mo_PV (mo_R g31) (mo_R g33) o34_x28.toInt from h3)) (by simp only [hf_o34, hf_o26, hf_o28, hf_o30, hf_o32, mo_i1, mo_l1]; exact (show (o34_x15.toInt = 0 → 0 ≤ aa ∧ mo_PJ aa (mo_R g27) (mo_R g29) (mo_R g31) (mo_R g33) o34_x22.toInt o34_x28.toInt 1) from fun _ => ⟨h4.1, h4.pj1 (by decide)⟩))) (cwV 1 hts gX12_behindTest_X12_settleDown rfl rfl rfl ⟨rfl, pd_X12_settleDown⟩ ⟨Nat.le_of_ble_eq_true rfl, Nat.le_of_ble_eq_true rfl⟩) ⟨pz_blind, va_recv hK hP (ci := 12) (q0 := q35) rfl eq35, pz_pre hP hK hD hN⟩ rfl rfl hl.1 rfl (lv_room (Nat.le_of_ble_eq_true rfl)) dX12_behindTest_32 ⟨Nat.le_of_ble_eq_true rfl, Nat.le_of_ble_eq_true rfl⟩) hS (fun q _ h => hFc q h) hFc (fun f43 t H1 locs ht hvm hw42 hB hz1 hk1 hS => ?_)
      obtain ⟨hT, hF44, hw42p⟩ := hw42
      have hR := hR.then hF44 (by decide)
      have hP := hB.1; rw [ht] at hP; have hD := tp_ad f43 hD; clear hB hFc hz1 hk1; subst ht; generalize t.heap = H at hP hS ⊢
      obtain ⟨o45_x0, o45_x1, o45_x7, o45_x9, o45_x10, o45_x11, o45_x12, o45_x13, o45_x14, o45_x15, o45_x16, o45_x17, o45_x18, o45_x19, o45_x20, o45_x22, o45_x25, o45_x28, o45_x29, o45_x32, o45_x33, o45_x34, o45_x35, o45_x36, o45_x37, o45_x38, o45_x47, o45_x48, hf_o45, ro45_0, ro45_1, ro45_2, ro45_3, ro45_4, ro45_5, ro45_6, ro45_7, ro45_8, ro45_9, ro45_10, ro45_11, ro45_12, ro45_13⟩ := tpo_13 hT ht_h0
      obtain ⟨g47, hf_o46⟩ := tpo_53 hT y8
      obtain ⟨g49, hf_o48⟩ := tpo_54 hT y9
      have tk50 : o45_x28.toInt ≤ o34_x28.toInt ∧ o34_x22.toInt ≤ o45_x22.toInt ∧ o45_x22.toInt + o45_x28.toInt ≤ o34_x22.toInt + o34_x28.toInt ∧ (o34_x15.toInt = 0 → mo_PJ aa (mo_R g47) (mo_R g49) (mo_R g31) (mo_R g33) o45_x22.toInt o45_x28.toInt 1) ∧ (∀ i, o45_x28.toInt ≤ i → i < o34_x28.toInt → (mo_R g31) i < 30 ∧ (5 ≤ (2) → (mo_R g31) i < 14)) ∧ (o45_x28.toInt = 0 ∨ (((2) = 1 → 30 ≤ (mo_R g31) (o45_x28.toInt + -1)) ∧ ((2) = 5 → 14 ≤ (mo_R g31) (o45_x28.toInt + -1)))) ∧ (o34_x15.toInt = 0 → mo_FR aa (mo_R g27) (mo_R g29) (mo_R g47) (mo_R g49)) ∧ o45_x9.toInt = o34_x9.toInt ∧ o45_x10.toInt = o34_x10.toInt ∧ o45_x11.toInt = o34_x11.toInt ∧ o45_x12.toInt = o34_x12.toInt ∧ o45_x13.toInt = o34_x13.toInt ∧ o45_x15.toInt = o34_x15.toInt ∧ o45_x19.toInt = o34_x19.toInt ∧ o45_x20.toInt = o34_x20.toInt := by have q9 := hw42p; simp only [hf_o45, hf_o34, hf_o46, hf_o48, hf_o30, hf_o32, hf_o26, hf_o28, mo_i1, mo_l1] at q9; exact q9
      have hin8 : mo_in (mo_R g31) (o34_x28.toInt).toNat = mo_in (mo_R g31) (o45_x28.toInt).toNat := mo_in_drop' (by omega) (by omega) (fun i i0 i1 => (tk50.2.2.2.2.1 i i0 i1).1)
      have hin9 : mo_in (mo_R g31) (o45_x28.toInt).toNat ≠ 31 := by have q9 := h4.2.2.2.1 (Or.inr rfl); omega
      refine lv_aload_n hx hb dX12_behindTest_35 rfl (lv_at hl 1 rfl) ?_
      refine lv_iload_n hx hb dX12_behindTest_36 rfl (lv_at hl 0 rfl) ?_
      refine lv_if_eq (tgt := 45) hx hb dX12_behindTest_37 (by decide) (fun c51 => ?_) (fun c51 => ?_)
      · have ic51 : r36.toInt = 0 := zi_eq rfl rfl c51
        exfalso; omega
      · have ic51 : r36.toInt ≠ 0 := zi_eqf rfl rfl c51
        refine lv_bipush (v := 18) hx hb dX12_behindTest_40 (by decide) ?_
        refine lv_goto (tgt := 47) hx hb dX12_behindTest_42 (by decide) ?_
        refine lv_aload_n hx hb dX12_behindTest_47 rfl (lv_at hl 1 rfl) ?_
        obtain ⟨q52, eq52⟩ := tp_pos (tp_in hG ht_h0 (by decide)) hf_o45
        refine va_get (D := (dC, dI)) (ci := 12) (v := .int o45_x22) (C := RX12) (T := TX12) (N := 53) hx hb hts hfX12 hown hK hP q52 eq52 rfl 22 (by decide) (hts (.fieldLink RX12 297 "ColdShipsModel" "nCode" "I") wa_989) (fun _ h9 => h9) rfl dX12_behindTest_48 ?_
        have hf_53 : f43 (ρ h0 26) = .inl (κ 0, 400, .inl g31) := (hF44 _ (by rw [y10]; decide)).trans hf_o30
        have hf_54 : f43 (ρ h0 27) = .inl (κ 0, 400, .inl g33) := (hF44 _ (by rw [y11]; decide)).trans hf_o32
        have hFc := tp_fr hD hS hA
        refine va_callv (va_runV (As := [.int 18, .int o45_x22]) (rest := []) ⟨hx, hb, hml, hown, hts⟩ (t_X12_push l dC dI _ κ τ ν ρ L f43 hG hT h0 (18) o45_x22 ht_h0 (by simp only [hf_o45, mo_i1, mo_l1]; exact (show o45_x28.toInt < 400 from by have : (18 : Int32).toInt = 18 := rfl; first | omega | decide))) (cwV 2 hts gX12_behindTest_X12_push rfl rfl rfl ⟨rfl, pd_X12_push⟩ ⟨Nat.le_of_ble_eq_true rfl, Nat.le_of_ble_eq_true rfl⟩) ⟨pz_blind, va_recv hK hP (ci := 12) (q0 := q52) rfl eq52, pz_pre hP hK hD hN⟩ rfl rfl hl.1 rfl (lv_room (Nat.le_of_ble_eq_true rfl)) dX12_behindTest_51 ⟨Nat.le_of_ble_eq_true rfl, Nat.le_of_ble_eq_true rfl⟩) hS (fun q _ h => hFc q h) hFc (fun f57 t H1 locs ht hvm hw56 hB hz1 hk1 hS => ?_)
        obtain ⟨hT, hF58, hw56p⟩ := hw56
        have hR := hR.then hF58 (by decide)
        have hP := hB.1; rw [ht] at hP; have hD := tp_ad f57 hD; clear hB hFc hz1 hk1; subst ht; generalize t.heap = H at hP hS ⊢
        obtain ⟨g60, hf_o59⟩ := tpo_56 hT y10
        obtain ⟨g62, hf_o61⟩ := tpo_57 hT y11
        obtain ⟨o63_x0, o63_x1, o63_x7, o63_x9, o63_x10, o63_x11, o63_x12, o63_x13, o63_x14, o63_x15, o63_x16, o63_x17, o63_x18, o63_x19, o63_x20, o63_x22, o63_x25, o63_x28, o63_x29, o63_x32, o63_x33, o63_x34, o63_x35, o63_x36, o63_x37, o63_x38, o63_x47, o63_x48, hf_o63, ro63_0, ro63_1, ro63_2, ro63_3, ro63_4, ro63_5, ro63_6, ro63_7, ro63_8, ro63_9, ro63_10, ro63_11, ro63_12, ro63_13⟩ := tpo_13 hT ht_h0
        have tk64 : mo_U (mo_R g31) (mo_R g60) o45_x28.toInt (18) ∧ mo_U (mo_R g33) (mo_R g62) o45_x28.toInt o45_x22.toInt ∧ o63_x28.toInt = o45_x28.toInt + 1 ∧ o63_x9.toInt = o45_x9.toInt ∧ o63_x10.toInt = o45_x10.toInt ∧ o63_x11.toInt = o45_x11.toInt ∧ o63_x12.toInt = o45_x12.toInt ∧ o63_x13.toInt = o45_x13.toInt ∧ o63_x15.toInt = o45_x15.toInt ∧ o63_x19.toInt = o45_x19.toInt ∧ o63_x20.toInt = o45_x20.toInt ∧ o63_x22.toInt = o45_x22.toInt := by have q9 := hw56p; simp only [hf_53, hf_o59, hf_o45, hf_54, hf_o61, hf_o63, mo_i1, mo_l1] at q9; exact q9
        refine lv_aload_n hx hb dX12_behindTest_54 rfl (lv_at hl 1 rfl) ?_
        refine lv_iload_n hx hb dX12_behindTest_55 rfl (lv_at hl 0 rfl) ?_
        refine lv_if_eq (tgt := 64) hx hb dX12_behindTest_56 (by decide) (fun c65 => ?_) (fun c65 => ?_)
        · have ic65 : r36.toInt = 0 := zi_eq rfl rfl c65
          exfalso; omega
        · have ic65 : r36.toInt ≠ 0 := zi_eqf rfl rfl c65
          refine lv_bipush (v := 18) hx hb dX12_behindTest_59 (by decide) ?_
          refine lv_goto (tgt := 66) hx hb dX12_behindTest_61 (by decide) ?_
          refine lv_iconst (v := 0) hx hb dX12_behindTest_66 (by decide) ?_
          have hf_66 : f57 (ρ h0 23) = .inl (κ 0, 400, .inl g47) := (hF58 _ (by rw [y8]; decide)).trans hf_o46
          have hf_67 : f57 (ρ h0 24) = .inl (κ 0, 400, .inl g49) := (hF58 _ (by rw [y9]; decide)).trans hf_o48
          obtain ⟨q68, eq68⟩ := tp_pos (tp_in hG ht_h0 (by decide)) hf_o63
          have hFc := tp_fr hD hS hA
          refine va_callv (va_runV (As := [.int 18, .int 0]) (rest := []) ⟨hx, hb, hml, hown, hts⟩ (t_X12_emit l dC dI _ κ τ ν ρ L f57 hG hT h0 (18) (0) ht_h0 (by simp only [hf_o63, mo_i1, mo_l1]; exact (show o63_x22.toInt < 400 from by have : (18 : Int32).toInt = 18 := rfl; have : (0 : Int32).toInt = 0 := rfl; first | omega | decide))) (cwV 2 hts gX12_behindTest_X12_emit rfl rfl rfl ⟨rfl, pd_X12_emit⟩ ⟨Nat.le_of_ble_eq_true rfl, Nat.le_of_ble_eq_true rfl⟩) ⟨pz_blind, va_recv hK hP (ci := 12) (q0 := q68) rfl eq68, pz_pre hP hK hD hN⟩ rfl rfl hl.1 rfl (lv_room (Nat.le_of_ble_eq_true rfl)) dX12_behindTest_67 ⟨Nat.le_of_ble_eq_true rfl, Nat.le_of_ble_eq_true rfl⟩) hS (fun q _ h => hFc q h) hFc (fun f71 t H1 locs ht hvm hw70 hB hz1 hk1 hS => ?_)
          obtain ⟨hT, hF72, hw70p⟩ := hw70
          have hR := hR.then hF72 (by decide)
          have hP := hB.1; rw [ht] at hP; have hD := tp_ad f71 hD; clear hB hFc hz1 hk1; subst ht; generalize t.heap = H at hP hS ⊢
          obtain ⟨g74, hf_o73⟩ := tpo_53 hT y8
          obtain ⟨g76, hf_o75⟩ := tpo_54 hT y9
          obtain ⟨o77_x0, o77_x1, o77_x7, o77_x9, o77_x10, o77_x11, o77_x12, o77_x13, o77_x14, o77_x15, o77_x16, o77_x17, o77_x18, o77_x19, o77_x20, o77_x22, o77_x25, o77_x28, o77_x29, o77_x32, o77_x33, o77_x34, o77_x35, o77_x36, o77_x37, o77_x38, o77_x47, o77_x48, hf_o77, ro77_0, ro77_1, ro77_2, ro77_3, ro77_4, ro77_5, ro77_6, ro77_7, ro77_8, ro77_9, ro77_10, ro77_11, ro77_12, ro77_13⟩ := tpo_13 hT ht_h0
          have tk78 : mo_U (mo_R g47) (mo_R g74) o63_x22.toInt (18) ∧ mo_U (mo_R g49) (mo_R g76) o63_x22.toInt (0) ∧ o77_x22.toInt = o63_x22.toInt + 1 ∧ o77_x9.toInt = o63_x9.toInt ∧ o77_x10.toInt = o63_x10.toInt ∧ o77_x11.toInt = o63_x11.toInt ∧ o77_x12.toInt = o63_x12.toInt ∧ o77_x13.toInt = o63_x13.toInt ∧ o77_x15.toInt = o63_x15.toInt ∧ o77_x19.toInt = o63_x19.toInt ∧ o77_x20.toInt = o63_x20.toInt ∧ o77_x28.toInt = o63_x28.toInt := by have q9 := hw70p; simp only [hf_66, hf_o73, hf_o63, hf_67, hf_o75, hf_o77, mo_i1, mo_l1] at q9; exact q9
          refine lv_aload_n hx hb dX12_behindTest_70 rfl (lv_at hl 1 rfl) ?_
          obtain ⟨q79, eq79⟩ := tp_pos (tp_in hG ht_h0 (by decide)) hf_o77
          have hFc := tp_fr hD hS hA
          refine va_callv (va_runV (As := []) (rest := []) ⟨hx, hb, hml, hown, hts⟩ (t_X12_next l dC dI _ κ τ ν ρ L f71 hG hT h0 ht_h0 (by simp only [hf_o77, mo_i1, mo_l1]; exact (show o77_x11.toInt ≤ o77_x9.toInt from by first | omega | decide))) (cwV 0 hts gX12_behindTest_X12_next rfl rfl rfl ⟨rfl, pd_X12_next⟩ ⟨Nat.le_of_ble_eq_true rfl, Nat.le_of_ble_eq_true rfl⟩) ⟨pz_blind, va_recv hK hP (ci := 12) (q0 := q79) rfl eq79, pz_pre hP hK hD hN⟩ rfl rfl hl.1 rfl (lv_room (Nat.le_of_ble_eq_true rfl)) dX12_behindTest_71 ⟨Nat.le_of_ble_eq_true rfl, Nat.le_of_ble_eq_true rfl⟩) hS (fun q _ h => hFc q h) hFc (fun f82 t H1 locs ht hvm hw81 hB hz1 hk1 hS => ?_)
          obtain ⟨hT, hF83, hw81p⟩ := hw81
          have hR := hR.then hF83 (by decide)
          have hP := hB.1; rw [ht] at hP; have hD := tp_ad f82 hD; clear hB hFc hz1 hk1; subst ht; generalize t.heap = H at hP hS ⊢
          obtain ⟨o84_x0, o84_x1, o84_x7, o84_x9, o84_x10, o84_x11, o84_x12, o84_x13, o84_x14, o84_x15, o84_x16, o84_x17, o84_x18, o84_x19, o84_x20, o84_x22, o84_x25, o84_x28, o84_x29, o84_x32, o84_x33, o84_x34, o84_x35, o84_x36, o84_x37, o84_x38, o84_x47, o84_x48, hf_o84, ro84_0, ro84_1, ro84_2, ro84_3, ro84_4, ro84_5, ro84_6, ro84_7, ro84_8, ro84_9, ro84_10, ro84_11, ro84_12, ro84_13⟩ := tpo_13 hT ht_h0
          have tk85 : (o84_x10.toInt ≤ o84_x11.toInt ∧ o84_x11.toInt ≤ o84_x9.toInt ∧ (o84_x12.toInt = 0 ∨ o84_x10.toInt < o84_x11.toInt) ∧ (o84_x12.toInt = 1 → o84_x11.toInt = o84_x10.toInt + 1 → o84_x13.toInt ≤ 26)) ∧ o77_x11.toInt ≤ o84_x10.toInt ∧ o84_x9.toInt = o77_x9.toInt ∧ o84_x15.toInt = o77_x15.toInt ∧ o84_x19.toInt = o77_x19.toInt ∧ o84_x20.toInt = o77_x20.toInt ∧ o84_x22.toInt = o77_x22.toInt ∧ o84_x28.toInt = o77_x28.toInt := by have q9 := hw81p; simp only [hf_o84, hf_o77, mo_i1, mo_l1] at q9; exact q9
          refine lv_iconst (v := 0) hx hb dX12_behindTest_74 (by decide) ?_
          have hf_86 : f71 (ρ h0 26) = .inl (κ 0, 400, .inl g60) := (hF72 _ (by rw [y10]; decide)).trans hf_o59
          have hf_87 : f82 (ρ h0 26) = .inl (κ 0, 400, .inl g60) := (hF83 _ (by rw [y10]; decide)).trans hf_86
          have hf_88 : f71 (ρ h0 27) = .inl (κ 0, 400, .inl g62) := (hF72 _ (by rw [y11]; decide)).trans hf_o61
          have hf_89 : f82 (ρ h0 27) = .inl (κ 0, 400, .inl g62) := (hF83 _ (by rw [y11]; decide)).trans hf_88
          have hf_90 : f82 (ρ h0 23) = .inl (κ 0, 400, .inl g74) := (hF83 _ (by rw [y8]; decide)).trans hf_o73
          have hf_91 : f82 (ρ h0 24) = .inl (κ 0, 400, .inl g76) := (hF83 _ (by rw [y9]; decide)).trans hf_o75
          exact W.iret (v := 0) hx hb hr (fun t ht hW => ⟨⟨0, f82, rfl, ⟨hT, hR, (by first | decide | omega), (by simp only [hf_o84, hf_87, hf_89, hf_90, hf_91, hf_o26, hf_o28, hf_o34, mo_i1, mo_l1]; exact (show (o84_x10.toInt ≤ o84_x11.toInt ∧ o84_x11.toInt ≤ o84_x9.toInt ∧ (o84_x12.toInt = 0 ∨ o84_x10.toInt < o84_x11.toInt) ∧ (o84_x12.toInt = 1 → o84_x11.toInt = o84_x10.toInt + 1 → o84_x13.toInt ≤ 26)) ∧ o84_x22.toInt + o84_x28.toInt ≤ o84_x10.toInt ∧ mo_PV (mo_R g60) (mo_R g62) o84_x28.toInt ∧ (o84_x15.toInt = 0 → mo_EX aa (0 : Int32).toInt (mo_R g74) (mo_R g76) (mo_R g60) (mo_R g62) o84_x22.toInt o84_x28.toInt ∧ mo_FR aa (mo_R g27) (mo_R g29) (mo_R g74) (mo_R g76) ∧ ((0 : Int32).toInt = 4 ∨ o34_x10.toInt < o84_x10.toInt ∨ (o84_x10.toInt = o34_x10.toInt ∧ (0 : Int32).toInt = 2))) ∧ o34_x22.toInt ≤ o84_x22.toInt ∧ o84_x9.toInt = o34_x9.toInt ∧ o84_x19.toInt = o34_x19.toInt ∧ o84_x20.toInt = o34_x20.toInt from ⟨by omega, by omega, ((h3.lt (n' := _) tk50.1).push (by omega) tk64.1 tk64.2.1 (by omega) (by omega) (by omega)), fun q9 => ⟨(mo_EX.ando h4.1 (tk50.2.2.2.1 (by omega)) (h4.2.2.1.lt tk50.1) (by omega) tk64.1 tk64.2.1 tk78.1 tk78.2.1 (by omega) (by omega) (by omega) hin9), ((tk50.2.2.2.2.2.2.1 (by omega)).then (mo_FR.emit tk78.1 tk78.2.1 (tk50.2.2.2.1 (by omega)).base)), by have q8 : (0 : Int32).toInt = 0 := rfl; omega⟩, by omega, by omega, by omega, by omega⟩))⟩, by rw [ht]; exact hP, va_K.moved hW.alike hK, hD⟩, hS.F ht⟩) hS.2.2 dX12_behindTest_75
  · have ic39 : r36.toInt = 0 := zi_nef rfl rfl c39
    refine lv_aload_n hx hb dX12_behindTest_12 rfl (lv_at hl 1 rfl) ?_
    refine lv_ldc2 (own := RX12) (v := 498) hx hb hown (hts (.constantLong RX12 371 (498)) wa_1111) dX12_behindTest_13 ?_
    refine pz_calli (va_runV (As := [.long 498]) (rest := []) ⟨hx, hb, hml, hown, hts⟩ (t_X12_isWord l dC dI _ κ τ ν ρ L f hG hT h0 (498) ht_h0) (cwV 1 hts gX12_behindTest_X12_isWord rfl rfl rfl ⟨rfl, pd_X12_isWord⟩ ⟨Nat.le_of_ble_eq_true rfl, Nat.le_of_ble_eq_true rfl⟩) ⟨pz_blind, va_recv hK hP (ci := 12) (q0 := q35) rfl eq35, pz_pre hP hK hD hN⟩ rfl rfl hl.1 rfl (lv_room (Nat.le_of_ble_eq_true rfl)) dX12_behindTest_16 ⟨Nat.le_of_ble_eq_true rfl, Nat.le_of_ble_eq_true rfl⟩) (fun r92 hw93 => ?_)
    obtain ⟨hw93r, hw93p⟩ := hw93
    have tk94 : (r92.toInt ≠ 0 → o34_x12.toInt = 1 ∧ o34_x13.toInt = (498)) := by have q9 := hw93p; simp only [hf_o34, mo_i1, mo_l1] at q9; exact q9
    refine lv_if_eq (tgt := 76) hx hb dX12_behindTest_19 (by decide) (fun c95 => ?_) (fun c95 => ?_)
    · have ic95 : r92.toInt = 0 := zi_eq rfl rfl c95
      refine lv_aload_n hx hb dX12_behindTest_76 rfl (lv_at hl 1 rfl) ?_
      refine pz_calli (va_runV (As := []) (rest := []) ⟨hx, hb, hml, hown, hts⟩ (t_X12_inner l dC dI _ κ τ ν ρ L f hG hT h0 ht_h0) (cwV 0 hts gX12_behindTest_X12_inner rfl rfl rfl ⟨rfl, pd_X12_inner⟩ ⟨Nat.le_of_ble_eq_true rfl, Nat.le_of_ble_eq_true rfl⟩) ⟨pz_blind, va_recv hK hP (ci := 12) (q0 := q35) rfl eq35, pz_pre hP hK hD hN⟩ rfl rfl hl.1 rfl (lv_room (Nat.le_of_ble_eq_true rfl)) dX12_behindTest_77 ⟨Nat.le_of_ble_eq_true rfl, Nat.le_of_ble_eq_true rfl⟩) (fun r96 hw97 => ?_)
      obtain ⟨hw97r, hw97p⟩ := hw97
      have tk98 : r96.toInt = mo_in (mo_R g31) (o34_x28.toInt).toNat := by have q9 := hw97p; simp only [hf_o30, hf_o34, mo_i1, mo_l1] at q9; exact q9
      refine lv_iconst (v := (-1)) hx hb dX12_behindTest_80 (by decide) ?_
      refine lv_icmp_ne (tgt := 86) hx hb dX12_behindTest_81 (by decide) (fun c99 => ?_) (fun c99 => ?_)
      · have ic99 : r96.toInt ≠ (-1) := zi_ne rfl rfl c99
        refine lv_aload_n hx hb dX12_behindTest_86 rfl (lv_at hl 1 rfl) ?_
        refine lv_aload_n hx hb dX12_behindTest_87 rfl (lv_at hl 1 rfl) ?_
        refine lv_bipush (v := 41) hx hb dX12_behindTest_88 (by decide) ?_
        refine pz_calli (va_runV (As := [.int 41]) (rest := [.ref h0]) ⟨hx, hb, hml, hown, hts⟩ (t_X12_isSign l dC dI _ κ τ ν ρ L f hG hT h0 (41) ht_h0) (cwV 1 hts gX12_behindTest_X12_isSign rfl rfl rfl ⟨rfl, pd_X12_isSign⟩ ⟨Nat.le_of_ble_eq_true rfl, Nat.le_of_ble_eq_true rfl⟩) ⟨pz_blind, va_recv hK hP (ci := 12) (q0 := q35) rfl eq35, pz_pre hP hK hD hN⟩ rfl rfl hl.1 rfl (lv_room (Nat.le_of_ble_eq_true rfl)) dX12_behindTest_90 ⟨Nat.le_of_ble_eq_true rfl, Nat.le_of_ble_eq_true rfl⟩) (fun r100 hw101 => ?_)
        obtain ⟨hw101r, hw101p⟩ := hw101
        have tk102 : (r100.toInt ≠ 0 → o34_x12.toInt = 3 ∧ o34_x13.toInt = (41)) := by have q9 := hw101p; simp only [hf_o34, mo_i1, mo_l1] at q9; exact q9
        have hFc := tp_fr hD hS hA
        refine va_callv (va_runV (As := [.int r100]) (rest := []) ⟨hx, hb, hml, hown, hts⟩ (t_X12_must l dC dI _ κ τ ν ρ L f hG hT h0 r100 ht_h0 (by first | decide | omega) (by simp only [hf_o34, mo_i1, mo_l1]; exact (show (o34_x10.toInt ≤ o34_x11.toInt ∧ o34_x11.toInt ≤ o34_x9.toInt ∧ (o34_x12.toInt = 0 ∨ o34_x10.toInt < o34_x11.toInt) ∧ (o34_x12.toInt = 1 → o34_x11.toInt = o34_x10.toInt + 1 → o34_x13.toInt ≤ 26)) from by first | omega | decide))) (cwV 1 hts gX12_behindTest_X12_must rfl rfl rfl ⟨rfl, pd_X12_must⟩ ⟨Nat.le_of_ble_eq_true rfl, Nat.le_of_ble_eq_true rfl⟩) ⟨pz_blind, va_recv hK hP (ci := 12) (q0 := q35) rfl eq35, pz_pre hP hK hD hN⟩ rfl rfl hl.1 rfl (lv_room (Nat.le_of_ble_eq_true rfl)) dX12_behindTest_93 ⟨Nat.le_of_ble_eq_true rfl, Nat.le_of_ble_eq_true rfl⟩) hS (fun q _ h => hFc q h) hFc (fun f105 t H1 locs ht hvm hw104 hB hz1 hk1 hS => ?_)
        obtain ⟨hT, hF106, hw104p⟩ := hw104
        have hR := hR.then hF106 (by decide)
        have hP := hB.1; rw [ht] at hP; have hD := tp_ad f105 hD; clear hB hFc hz1 hk1; subst ht; generalize t.heap = H at hP hS ⊢
        obtain ⟨o107_x0, o107_x1, o107_x7, o107_x9, o107_x10, o107_x11, o107_x12, o107_x13, o107_x14, o107_x15, o107_x16, o107_x17, o107_x18, o107_x19, o107_x20, o107_x22, o107_x25, o107_x28, o107_x29, o107_x32, o107_x33, o107_x34, o107_x35, o107_x36, o107_x37, o107_x38, o107_x47, o107_x48, hf_o107, ro107_0, ro107_1, ro107_2, ro107_3, ro107_4, ro107_5, ro107_6, ro107_7, ro107_8, ro107_9, ro107_10, ro107_11, ro107_12, ro107_13⟩ := tpo_13 hT ht_h0
        have tk108 : (o107_x10.toInt ≤ o107_x11.toInt ∧ o107_x11.toInt ≤ o107_x9.toInt ∧ (o107_x12.toInt = 0 ∨ o107_x10.toInt < o107_x11.toInt) ∧ (o107_x12.toInt = 1 → o107_x11.toInt = o107_x10.toInt + 1 → o107_x13.toInt ≤ 26)) ∧ (o107_x15.toInt = 0 → o34_x15.toInt = 0 ∧ o34_x11.toInt ≤ o107_x10.toInt ∧ r100.toInt ≠ 0) ∧ (o107_x15.toInt ≠ 0 → o107_x10.toInt = o34_x10.toInt) ∧ o107_x9.toInt = o34_x9.toInt ∧ o107_x19.toInt = o34_x19.toInt ∧ o107_x20.toInt = o34_x20.toInt ∧ o107_x22.toInt = o34_x22.toInt ∧ o107_x28.toInt = o34_x28.toInt := by have q9 := hw104p; simp only [hf_o107, hf_o34, mo_i1, mo_l1] at q9; exact q9
        refine lv_aload_n hx hb dX12_behindTest_96 rfl (lv_at hl 1 rfl) ?_
        obtain ⟨q109, eq109⟩ := tp_pos (tp_in hG ht_h0 (by decide)) hf_o107
        refine va_get (D := (dC, dI)) (ci := 12) (v := .int o107_x15) (C := RX12) (T := TX12) (N := 53) hx hb hts hfX12 hown hK hP q109 eq109 rfl 15 (by decide) (hts (.fieldLink RX12 261 "ColdShipsModel" "bad" "Z") wa_994) (fun _ h9 => h9) rfl dX12_behindTest_97 ?_
        refine lv_if_ne (tgt := 128) hx hb dX12_behindTest_100 (by decide) (fun c110 => ?_) (fun c110 => ?_)
        · have ic110 : o107_x15.toInt ≠ 0 := zi_ne rfl rfl c110
          refine lv_iconst (v := 2) hx hb dX12_behindTest_128 (by decide) ?_
          have hf_111 : f105 (ρ h0 26) = .inl (κ 0, 400, .inl g31) := (hF106 _ (by rw [y10]; decide)).trans hf_o30
          have hf_112 : f105 (ρ h0 27) = .inl (κ 0, 400, .inl g33) := (hF106 _ (by rw [y11]; decide)).trans hf_o32
          have hf_113 : f105 (ρ h0 23) = .inl (κ 0, 400, .inl g27) := (hF106 _ (by rw [y8]; decide)).trans hf_o26
          have hf_114 : f105 (ρ h0 24) = .inl (κ 0, 400, .inl g29) := (hF106 _ (by rw [y9]; decide)).trans hf_o28
          exact W.iret (v := 2) hx hb hr (fun t ht hW => ⟨⟨2, f105, rfl, ⟨hT, hR, (by first | decide | omega), (by simp only [hf_o107, hf_111, hf_112, hf_113, hf_114, hf_o26, hf_o28, hf_o34, mo_i1, mo_l1]; exact (show (o107_x10.toInt ≤ o107_x11.toInt ∧ o107_x11.toInt ≤ o107_x9.toInt ∧ (o107_x12.toInt = 0 ∨ o107_x10.toInt < o107_x11.toInt) ∧ (o107_x12.toInt = 1 → o107_x11.toInt = o107_x10.toInt + 1 → o107_x13.toInt ≤ 26)) ∧ o107_x22.toInt + o107_x28.toInt ≤ o107_x10.toInt ∧ mo_PV (mo_R g31) (mo_R g33) o107_x28.toInt ∧ (o107_x15.toInt = 0 → mo_EX aa (2 : Int32).toInt (mo_R g27) (mo_R g29) (mo_R g31) (mo_R g33) o107_x22.toInt o107_x28.toInt ∧ mo_FR aa (mo_R g27) (mo_R g29) (mo_R g27) (mo_R g29) ∧ ((2 : Int32).toInt = 4 ∨ o34_x10.toInt < o107_x10.toInt ∨ (o107_x10.toInt = o34_x10.toInt ∧ (2 : Int32).toInt = 2))) ∧ o34_x22.toInt ≤ o107_x22.toInt ∧ o107_x9.toInt = o34_x9.toInt ∧ o107_x19.toInt = o34_x19.toInt ∧ o107_x20.toInt = o34_x20.toInt from ⟨by omega, by omega, h3, fun q9 => by exfalso; omega, by omega, by omega, by omega, by omega⟩))⟩, by rw [ht]; exact hP, va_K.moved hW.alike hK, hD⟩, hS.F ht⟩) hS.2.2 dX12_behindTest_129
        · have ic110 : o107_x15.toInt = 0 := zi_nef rfl rfl c110
          refine lv_aload_n hx hb dX12_behindTest_103 rfl (lv_at hl 1 rfl) ?_
          refine lv_iconst (v := 1) hx hb dX12_behindTest_104 (by decide) ?_
          have hf_115 : f105 (ρ h0 26) = .inl (κ 0, 400, .inl g31) := (hF106 _ (by rw [y10]; decide)).trans hf_o30
          have hf_116 : f105 (ρ h0 27) = .inl (κ 0, 400, .inl g33) := (hF106 _ (by rw [y11]; decide)).trans hf_o32
          have hf_117 : f105 (ρ h0 23) = .inl (κ 0, 400, .inl g27) := (hF106 _ (by rw [y8]; decide)).trans hf_o26
          have hf_118 : f105 (ρ h0 24) = .inl (κ 0, 400, .inl g29) := (hF106 _ (by rw [y9]; decide)).trans hf_o28
          have hFc := tp_fr hD hS hA
          refine va_callv (va_runV (As := [.int 1]) (rest := []) ⟨hx, hb, hml, hown, hts⟩ (t_X12_settleDown l dC dI _ κ τ ν ρ L f105 hG hT h0 (1) aa ht_h0 (by first | decide | omega) (by simp only [hf_o107, mo_i1, mo_l1]; exact (show o107_x22.toInt + o107_x28.toInt ≤ 400 from by omega)) (by simp only [hf_115, hf_116, hf_o107, mo_i1, mo_l1]; exact (show mo_PV (mo_R g31) (mo_R g33) o107_x28.toInt from h3)) (by simp only [hf_o107, hf_117, hf_118, hf_115, hf_116, mo_i1, mo_l1]; exact (show (o107_x15.toInt = 0 → 0 ≤ aa ∧ mo_PJ aa (mo_R g27) (mo_R g29) (mo_R g31) (mo_R g33) o107_x22.toInt o107_x28.toInt 1) from fun _ => ⟨h4.1, h4.pj1 (by decide)⟩))) (cwV 1 hts gX12_behindTest_X12_settleDown rfl rfl rfl ⟨rfl, pd_X12_settleDown⟩ ⟨Nat.le_of_ble_eq_true rfl, Nat.le_of_ble_eq_true rfl⟩) ⟨pz_blind, va_recv hK hP (ci := 12) (q0 := q109) rfl eq109, pz_pre hP hK hD hN⟩ rfl rfl hl.1 rfl (lv_room (Nat.le_of_ble_eq_true rfl)) dX12_behindTest_105 ⟨Nat.le_of_ble_eq_true rfl, Nat.le_of_ble_eq_true rfl⟩) hS (fun q _ h => hFc q h) hFc (fun f121 t H1 locs ht hvm hw120 hB hz1 hk1 hS => ?_)
          obtain ⟨hT, hF122, hw120p⟩ := hw120
          have hR := hR.then hF122 (by decide)
          have hP := hB.1; rw [ht] at hP; have hD := tp_ad f121 hD; clear hB hFc hz1 hk1; subst ht; generalize t.heap = H at hP hS ⊢
          obtain ⟨o123_x0, o123_x1, o123_x7, o123_x9, o123_x10, o123_x11, o123_x12, o123_x13, o123_x14, o123_x15, o123_x16, o123_x17, o123_x18, o123_x19, o123_x20, o123_x22, o123_x25, o123_x28, o123_x29, o123_x32, o123_x33, o123_x34, o123_x35, o123_x36, o123_x37, o123_x38, o123_x47, o123_x48, hf_o123, ro123_0, ro123_1, ro123_2, ro123_3, ro123_4, ro123_5, ro123_6, ro123_7, ro123_8, ro123_9, ro123_10, ro123_11, ro123_12, ro123_13⟩ := tpo_13 hT ht_h0
          obtain ⟨g125, hf_o124⟩ := tpo_53 hT y8
          obtain ⟨g127, hf_o126⟩ := tpo_54 hT y9
          have tk128 : o123_x28.toInt ≤ o107_x28.toInt ∧ o107_x22.toInt ≤ o123_x22.toInt ∧ o123_x22.toInt + o123_x28.toInt ≤ o107_x22.toInt + o107_x28.toInt ∧ (o107_x15.toInt = 0 → mo_PJ aa (mo_R g125) (mo_R g127) (mo_R g31) (mo_R g33) o123_x22.toInt o123_x28.toInt 1) ∧ (∀ i, o123_x28.toInt ≤ i → i < o107_x28.toInt → (mo_R g31) i < 30 ∧ (5 ≤ (1) → (mo_R g31) i < 14)) ∧ (o123_x28.toInt = 0 ∨ (((1) = 1 → 30 ≤ (mo_R g31) (o123_x28.toInt + -1)) ∧ ((1) = 5 → 14 ≤ (mo_R g31) (o123_x28.toInt + -1)))) ∧ (o107_x15.toInt = 0 → mo_FR aa (mo_R g27) (mo_R g29) (mo_R g125) (mo_R g127)) ∧ o123_x9.toInt = o107_x9.toInt ∧ o123_x10.toInt = o107_x10.toInt ∧ o123_x11.toInt = o107_x11.toInt ∧ o123_x12.toInt = o107_x12.toInt ∧ o123_x13.toInt = o107_x13.toInt ∧ o123_x15.toInt = o107_x15.toInt ∧ o123_x19.toInt = o107_x19.toInt ∧ o123_x20.toInt = o107_x20.toInt := by have q9 := hw120p; simp only [hf_o123, hf_o107, hf_o124, hf_o126, hf_115, hf_116, hf_117, hf_118, mo_i1, mo_l1] at q9; exact q9
          have htop := mo_top1 h3 h4.2.2.1 (by omega) (h4.2.2.2.1 (Or.inr rfl)) (by omega) (by omega) (fun i i0 i1 => (tk128.2.2.2.2.1 i i0 i1).1) (by have q9 := tk128.2.2.2.2.2.1; omega)
          refine lv_aload_n hx hb dX12_behindTest_108 rfl (lv_at hl 1 rfl) ?_
          refine lv_dup hx hb dX12_behindTest_109 rfl ?_
          obtain ⟨q129, eq129⟩ := tp_pos (tp_in hG ht_h0 (by decide)) hf_o123
          refine va_get (D := (dC, dI)) (ci := 12) (v := .int o123_x28) (C := RX12) (T := TX12) (N := 53) hx hb hts hfX12 hown hK hP q129 eq129 rfl 28 (by decide) (hts (.fieldLink RX12 300 "ColdShipsModel" "piled" "I") wa_1045) (fun _ h9 => h9) rfl dX12_behindTest_110 ?_
          refine lv_iconst (v := 1) hx hb dX12_behindTest_113 (by decide) ?_
          refine lv_isub hx hb dX12_behindTest_114 ?_
          refine lv_topi (fun z130 ez130 => ?_)
          have iz130 : z130.toInt = o123_x28.toInt - 1 := zi_sub ez130 rfl rfl (by omega) (by omega)
          refine va_put (D := (dC, dI)) (ci := 12) (v := .int z130) (ty := .int) (C := RX12) (T := TX12) (N := 53) hx hb hts hfX12 tyX12 tyX12_ok nmX12 hown hK hP hD hS q129 eq129 rfl 28 (by decide) (hts (.fieldLink RX12 300 "ColdShipsModel" "piled" "I") wa_1045) (fun _ h9 => h9) rfl (tyX12_ok 28 (by decide)) rfl rfl (Nat.le_of_ble_eq_true rfl) dX12_behindTest_115 (tp_k (.inr (12, [.int o123_x0, .int o123_x1, .ref (ρ h0 2), .ref (ρ h0 3), .ref (ρ h0 4), .ref (ρ h0 5), .ref (ρ h0 6), .int o123_x7, .ref (ρ h0 8), .int o123_x9, .int o123_x10, .int o123_x11, .int o123_x12, .long o123_x13, .int o123_x14, .int o123_x15, .int o123_x16, .int o123_x17, .int o123_x18, .int o123_x19, .int o123_x20, .ref (ρ h0 21), .int o123_x22, .ref (ρ h0 23), .ref (ρ h0 24), .int o123_x25, .ref (ρ h0 26), .ref (ρ h0 27), .int z130, .int o123_x29, .ref (ρ h0 30), .ref (ρ h0 31), .int o123_x32, .long o123_x33, .long o123_x34, .long o123_x35, .int o123_x36, .int o123_x37, .int o123_x38, .ref (ρ h0 39), .ref (ρ h0 40), .ref (ρ h0 41), .ref (ρ h0 42), .ref (ρ h0 43), .ref (ρ h0 44), .ref (ρ h0 45), .ref (ρ h0 46), .int o123_x47, .int o123_x48, .ref (ρ h0 49), .ref (ρ h0 50), .ref (ρ h0 51), .ref (ρ h0 52)])) hD (tp_in hG ht_h0 (by decide)) eq129 (fun f131 H locs hP hD hS g133 k132 => ?_))
          have hT := hT.up ht_h0 g133 k132 ⟨_, _, _, _, _, _, _, _, _, _, _, _, _, _, _, _, _, _, _, _, _, _, _, _, _, _, _, _, rfl, ro123_0, ro123_1, ro123_2, ro123_3, ro123_4, ro123_5, ro123_6, ro123_7, ro123_8, (by omega), ro123_10, ro123_11, ro123_12, ro123_13⟩
          have hR := hR.up ht_h0 (by decide) k132
          refine lv_aload_n hx hb dX12_behindTest_118 rfl (lv_at hl 1 rfl) ?_
          refine lv_dup hx hb dX12_behindTest_119 rfl ?_
          obtain ⟨q134, eq134⟩ := tp_pos (tp_in hG ht_h0 (by decide)) g133
          refine va_get (D := (dC, dI)) (ci := 12) (v := .int o123_x29) (C := RX12) (T := TX12) (N := 53) hx hb hts hfX12 hown hK hP q134 eq134 rfl 29 (by decide) (hts (.fieldLink RX12 335 "ColdShipsModel" "opened" "I") wa_1046) (fun _ h9 => h9) rfl dX12_behindTest_120 ?_
          refine lv_iconst (v := 1) hx hb dX12_behindTest_123 (by decide) ?_
          refine lv_isub hx hb dX12_behindTest_124 ?_
          refine lv_topi (fun z135 ez135 => ?_)
          refine va_put (D := (dC, dI)) (ci := 12) (v := .int z135) (ty := .int) (C := RX12) (T := TX12) (N := 53) hx hb hts hfX12 tyX12 tyX12_ok nmX12 hown hK hP hD hS q134 eq134 rfl 29 (by decide) (hts (.fieldLink RX12 335 "ColdShipsModel" "opened" "I") wa_1046) (fun _ h9 => h9) rfl (tyX12_ok 29 (by decide)) rfl rfl (Nat.le_of_ble_eq_true rfl) dX12_behindTest_125 (tp_k (.inr (12, [.int o123_x0, .int o123_x1, .ref (ρ h0 2), .ref (ρ h0 3), .ref (ρ h0 4), .ref (ρ h0 5), .ref (ρ h0 6), .int o123_x7, .ref (ρ h0 8), .int o123_x9, .int o123_x10, .int o123_x11, .int o123_x12, .long o123_x13, .int o123_x14, .int o123_x15, .int o123_x16, .int o123_x17, .int o123_x18, .int o123_x19, .int o123_x20, .ref (ρ h0 21), .int o123_x22, .ref (ρ h0 23), .ref (ρ h0 24), .int o123_x25, .ref (ρ h0 26), .ref (ρ h0 27), .int z130, .int z135, .ref (ρ h0 30), .ref (ρ h0 31), .int o123_x32, .long o123_x33, .long o123_x34, .long o123_x35, .int o123_x36, .int o123_x37, .int o123_x38, .ref (ρ h0 39), .ref (ρ h0 40), .ref (ρ h0 41), .ref (ρ h0 42), .ref (ρ h0 43), .ref (ρ h0 44), .ref (ρ h0 45), .ref (ρ h0 46), .int o123_x47, .int o123_x48, .ref (ρ h0 49), .ref (ρ h0 50), .ref (ρ h0 51), .ref (ρ h0 52)])) hD (tp_in hG ht_h0 (by decide)) eq134 (fun f136 H locs hP hD hS g138 k137 => ?_))
          have hT := hT.up ht_h0 g138 k137 ⟨_, _, _, _, _, _, _, _, _, _, _, _, _, _, _, _, _, _, _, _, _, _, _, _, _, _, _, _, rfl, ro123_0, ro123_1, ro123_2, ro123_3, ro123_4, ro123_5, ro123_6, ro123_7, ro123_8, (by omega), ro123_10, ro123_11, ro123_12, ro123_13⟩
          have hR := hR.up ht_h0 (by decide) k137
          refine lv_iconst (v := 2) hx hb dX12_behindTest_128 (by decide) ?_
          have hf_139 : f121 (ρ h0 26) = .inl (κ 0, 400, .inl g31) := (hF122 _ (by rw [y10]; decide)).trans hf_115
          have hf_140 : f131 (ρ h0 26) = .inl (κ 0, 400, .inl g31) := (k132 _ (tp_ne y10 ht_h0 (by decide))).trans hf_139
          have hf_141 : f136 (ρ h0 26) = .inl (κ 0, 400, .inl g31) := (k137 _ (tp_ne y10 ht_h0 (by decide))).trans hf_140
          have hf_142 : f121 (ρ h0 27) = .inl (κ 0, 400, .inl g33) := (hF122 _ (by rw [y11]; decide)).trans hf_116
          have hf_143 : f131 (ρ h0 27) = .inl (κ 0, 400, .inl g33) := (k132 _ (tp_ne y11 ht_h0 (by decide))).trans hf_142
          have hf_144 : f136 (ρ h0 27) = .inl (κ 0, 400, .inl g33) := (k137 _ (tp_ne y11 ht_h0 (by decide))).trans hf_143
          have hf_145 : f131 (ρ h0 23) = .inl (κ 0, 400, .inl g125) := (k132 _ (tp_ne y8 ht_h0 (by decide))).trans hf_o124
          have hf_146 : f136 (ρ h0 23) = .inl (κ 0, 400, .inl g125) := (k137 _ (tp_ne y8 ht_h0 (by decide))).trans hf_145
          have hf_147 : f131 (ρ h0 24) = .inl (κ 0, 400, .inl g127) := (k132 _ (tp_ne y9 ht_h0 (by decide))).trans hf_o126
          have hf_148 : f136 (ρ h0 24) = .inl (κ 0, 400, .inl g127) := (k137 _ (tp_ne y9 ht_h0 (by decide))).trans hf_147
          exact W.iret (v := 2) hx hb hr (fun t ht hW => ⟨⟨2, f136, rfl, ⟨hT, hR, (by first | decide | omega), (by simp only [g138, hf_141, hf_144, hf_146, hf_148, hf_o26, hf_o28, hf_o34, mo_i1, mo_l1]; exact (show (o123_x10.toInt ≤ o123_x11.toInt ∧ o123_x11.toInt ≤ o123_x9.toInt ∧ (o123_x12.toInt = 0 ∨ o123_x10.toInt < o123_x11.toInt) ∧ (o123_x12.toInt = 1 → o123_x11.toInt = o123_x10.toInt + 1 → o123_x13.toInt ≤ 26)) ∧ o123_x22.toInt + z130.toInt ≤ o123_x10.toInt ∧ mo_PV (mo_R g31) (mo_R g33) z130.toInt ∧ (o123_x15.toInt = 0 → mo_EX aa (2 : Int32).toInt (mo_R g125) (mo_R g127) (mo_R g31) (mo_R g33) o123_x22.toInt z130.toInt ∧ mo_FR aa (mo_R g27) (mo_R g29) (mo_R g125) (mo_R g127) ∧ ((2 : Int32).toInt = 4 ∨ o34_x10.toInt < o123_x10.toInt ∨ (o123_x10.toInt = o34_x10.toInt ∧ (2 : Int32).toInt = 2))) ∧ o34_x22.toInt ≤ o123_x22.toInt ∧ o123_x9.toInt = o34_x9.toInt ∧ o123_x19.toInt = o34_x19.toInt ∧ o123_x20.toInt = o34_x20.toInt from ⟨by omega, by omega, (h3.lt (by omega)), fun q9 => ⟨(mo_EX.of1 h4.1 ((tk128.2.2.2.1 (by omega)).popb (n' := _) (by omega) (by omega) htop.2.1) (h4.2.2.1.lt (by omega)) (by decide) (fun _ => htop.2.2) (fun q7 => absurd q7 (by decide))), (tk128.2.2.2.2.2.2.1 (by omega)), by have q8 : (2 : Int32).toInt = 2 := rfl; omega⟩, by omega, by omega, by omega, by omega⟩))⟩, by rw [ht]; exact hP, va_K.moved hW.alike hK, hD⟩, hS.F ht⟩) hS.2.2 dX12_behindTest_129
      · have ic99 : r96.toInt = (-1) := zi_nef rfl rfl c99
        refine lv_iconst (v := 4) hx hb dX12_behindTest_84 (by decide) ?_
        exact W.iret (v := 4) hx hb hr (fun t ht hW => ⟨⟨4, f, rfl, ⟨hT, hR, (by first | decide | omega), (by simp only [hf_o34, hf_o30, hf_o32, hf_o26, hf_o28, mo_i1, mo_l1]; exact (show (o34_x10.toInt ≤ o34_x11.toInt ∧ o34_x11.toInt ≤ o34_x9.toInt ∧ (o34_x12.toInt = 0 ∨ o34_x10.toInt < o34_x11.toInt) ∧ (o34_x12.toInt = 1 → o34_x11.toInt = o34_x10.toInt + 1 → o34_x13.toInt ≤ 26)) ∧ o34_x22.toInt + o34_x28.toInt ≤ o34_x10.toInt ∧ mo_PV (mo_R g31) (mo_R g33) o34_x28.toInt ∧ (o34_x15.toInt = 0 → mo_EX aa (4 : Int32).toInt (mo_R g27) (mo_R g29) (mo_R g31) (mo_R g33) o34_x22.toInt o34_x28.toInt ∧ mo_FR aa (mo_R g27) (mo_R g29) (mo_R g27) (mo_R g29) ∧ ((4 : Int32).toInt = 4 ∨ o34_x10.toInt < o34_x10.toInt ∨ (o34_x10.toInt = o34_x10.toInt ∧ (4 : Int32).toInt = 2))) ∧ o34_x22.toInt ≤ o34_x22.toInt ∧ o34_x9.toInt = o34_x9.toInt ∧ o34_x19.toInt = o34_x19.toInt ∧ o34_x20.toInt = o34_x20.toInt from ⟨by omega, by omega, h3, fun q9 => ⟨(mo_EX.of1 h4.1 (h4.pj1 (by decide)) h4.2.2.1 (by decide) (fun q7 => absurd q7 (by decide)) (fun _ => by omega)), mo_FR.rf _ _ _, by have q8 : (4 : Int32).toInt = 4 := rfl; omega⟩, by omega, by omega, by omega, by omega⟩))⟩, by rw [ht]; exact hP, va_K.moved hW.alike hK, hD⟩, hS.F ht⟩) hS.2.2 dX12_behindTest_85
    · have ic95 : r92.toInt ≠ 0 := zi_eqf rfl rfl c95
      refine lv_aload_n hx hb dX12_behindTest_22 rfl (lv_at hl 1 rfl) ?_
      refine lv_iload_n hx hb dX12_behindTest_23 rfl (lv_at hl 0 rfl) ?_
      refine lv_if_eq (tgt := 31) hx hb dX12_behindTest_24 (by decide) (fun c149 => ?_) (fun c149 => ?_)
      · have ic149 : r36.toInt = 0 := zi_eq rfl rfl c149
        refine lv_iconst (v := 1) hx hb dX12_behindTest_31 (by decide) ?_
        have hFc := tp_fr hD hS hA
        refine va_callv (va_runV (As := [.int 1]) (rest := []) ⟨hx, hb, hml, hown, hts⟩ (t_X12_settleDown l dC dI _ κ τ ν ρ L f hG hT h0 (1) aa ht_h0 (by first | decide | omega) (by simp only [hf_o34, mo_i1, mo_l1]; exact (show o34_x22.toInt + o34_x28.toInt ≤ 400 from by omega)) (by simp only [hf_o30, hf_o32, hf_o34, mo_i1, mo_l1]; exact (show mo_PV (mo_R g31) (mo_R g33) o34_x28.toInt from h3)) (by simp only [hf_o34, hf_o26, hf_o28, hf_o30, hf_o32, mo_i1, mo_l1]; exact (show (o34_x15.toInt = 0 → 0 ≤ aa ∧ mo_PJ aa (mo_R g27) (mo_R g29) (mo_R g31) (mo_R g33) o34_x22.toInt o34_x28.toInt 1) from fun _ => ⟨h4.1, h4.pj1 (by decide)⟩))) (cwV 1 hts gX12_behindTest_X12_settleDown rfl rfl rfl ⟨rfl, pd_X12_settleDown⟩ ⟨Nat.le_of_ble_eq_true rfl, Nat.le_of_ble_eq_true rfl⟩) ⟨pz_blind, va_recv hK hP (ci := 12) (q0 := q35) rfl eq35, pz_pre hP hK hD hN⟩ rfl rfl hl.1 rfl (lv_room (Nat.le_of_ble_eq_true rfl)) dX12_behindTest_32 ⟨Nat.le_of_ble_eq_true rfl, Nat.le_of_ble_eq_true rfl⟩) hS (fun q _ h => hFc q h) hFc (fun f152 t H1 locs ht hvm hw151 hB hz1 hk1 hS => ?_)
        obtain ⟨hT, hF153, hw151p⟩ := hw151
        have hR := hR.then hF153 (by decide)
        have hP := hB.1; rw [ht] at hP; have hD := tp_ad f152 hD; clear hB hFc hz1 hk1; subst ht; generalize t.heap = H at hP hS ⊢
        obtain ⟨o154_x0, o154_x1, o154_x7, o154_x9, o154_x10, o154_x11, o154_x12, o154_x13, o154_x14, o154_x15, o154_x16, o154_x17, o154_x18, o154_x19, o154_x20, o154_x22, o154_x25, o154_x28, o154_x29, o154_x32, o154_x33, o154_x34, o154_x35, o154_x36, o154_x37, o154_x38, o154_x47, o154_x48, hf_o154, ro154_0, ro154_1, ro154_2, ro154_3, ro154_4, ro154_5, ro154_6, ro154_7, ro154_8, ro154_9, ro154_10, ro154_11, ro154_12, ro154_13⟩ := tpo_13 hT ht_h0
        obtain ⟨g156, hf_o155⟩ := tpo_53 hT y8
        obtain ⟨g158, hf_o157⟩ := tpo_54 hT y9
        have tk159 : o154_x28.toInt ≤ o34_x28.toInt ∧ o34_x22.toInt ≤ o154_x22.toInt ∧ o154_x22.toInt + o154_x28.toInt ≤ o34_x22.toInt + o34_x28.toInt ∧ (o34_x15.toInt = 0 → mo_PJ aa (mo_R g156) (mo_R g158) (mo_R g31) (mo_R g33) o154_x22.toInt o154_x28.toInt 1) ∧ (∀ i, o154_x28.toInt ≤ i → i < o34_x28.toInt → (mo_R g31) i < 30 ∧ (5 ≤ (1) → (mo_R g31) i < 14)) ∧ (o154_x28.toInt = 0 ∨ (((1) = 1 → 30 ≤ (mo_R g31) (o154_x28.toInt + -1)) ∧ ((1) = 5 → 14 ≤ (mo_R g31) (o154_x28.toInt + -1)))) ∧ (o34_x15.toInt = 0 → mo_FR aa (mo_R g27) (mo_R g29) (mo_R g156) (mo_R g158)) ∧ o154_x9.toInt = o34_x9.toInt ∧ o154_x10.toInt = o34_x10.toInt ∧ o154_x11.toInt = o34_x11.toInt ∧ o154_x12.toInt = o34_x12.toInt ∧ o154_x13.toInt = o34_x13.toInt ∧ o154_x15.toInt = o34_x15.toInt ∧ o154_x19.toInt = o34_x19.toInt ∧ o154_x20.toInt = o34_x20.toInt := by have q9 := hw151p; simp only [hf_o154, hf_o34, hf_o155, hf_o157, hf_o30, hf_o32, hf_o26, hf_o28, mo_i1, mo_l1] at q9; exact q9
        have hin8 : mo_in (mo_R g31) (o34_x28.toInt).toNat = mo_in (mo_R g31) (o154_x28.toInt).toNat := mo_in_drop' (by omega) (by omega) (fun i i0 i1 => (tk159.2.2.2.2.1 i i0 i1).1)
        have hin9 : mo_in (mo_R g31) (o154_x28.toInt).toNat ≠ 31 := by have q9 := h4.2.2.2.1 (Or.inr rfl); omega
        refine lv_aload_n hx hb dX12_behindTest_35 rfl (lv_at hl 1 rfl) ?_
        refine lv_iload_n hx hb dX12_behindTest_36 rfl (lv_at hl 0 rfl) ?_
        refine lv_if_eq (tgt := 45) hx hb dX12_behindTest_37 (by decide) (fun c160 => ?_) (fun c160 => ?_)
        · have ic160 : r36.toInt = 0 := zi_eq rfl rfl c160
          refine lv_bipush (v := 19) hx hb dX12_behindTest_45 (by decide) ?_
          refine lv_aload_n hx hb dX12_behindTest_47 rfl (lv_at hl 1 rfl) ?_
          obtain ⟨q161, eq161⟩ := tp_pos (tp_in hG ht_h0 (by decide)) hf_o154
          refine va_get (D := (dC, dI)) (ci := 12) (v := .int o154_x22) (C := RX12) (T := TX12) (N := 53) hx hb hts hfX12 hown hK hP q161 eq161 rfl 22 (by decide) (hts (.fieldLink RX12 297 "ColdShipsModel" "nCode" "I") wa_989) (fun _ h9 => h9) rfl dX12_behindTest_48 ?_
          have hf_162 : f152 (ρ h0 26) = .inl (κ 0, 400, .inl g31) := (hF153 _ (by rw [y10]; decide)).trans hf_o30
          have hf_163 : f152 (ρ h0 27) = .inl (κ 0, 400, .inl g33) := (hF153 _ (by rw [y11]; decide)).trans hf_o32
          have hFc := tp_fr hD hS hA
          refine va_callv (va_runV (As := [.int 19, .int o154_x22]) (rest := []) ⟨hx, hb, hml, hown, hts⟩ (t_X12_push l dC dI _ κ τ ν ρ L f152 hG hT h0 (19) o154_x22 ht_h0 (by simp only [hf_o154, mo_i1, mo_l1]; exact (show o154_x28.toInt < 400 from by have : (19 : Int32).toInt = 19 := rfl; first | omega | decide))) (cwV 2 hts gX12_behindTest_X12_push rfl rfl rfl ⟨rfl, pd_X12_push⟩ ⟨Nat.le_of_ble_eq_true rfl, Nat.le_of_ble_eq_true rfl⟩) ⟨pz_blind, va_recv hK hP (ci := 12) (q0 := q161) rfl eq161, pz_pre hP hK hD hN⟩ rfl rfl hl.1 rfl (lv_room (Nat.le_of_ble_eq_true rfl)) dX12_behindTest_51 ⟨Nat.le_of_ble_eq_true rfl, Nat.le_of_ble_eq_true rfl⟩) hS (fun q _ h => hFc q h) hFc (fun f166 t H1 locs ht hvm hw165 hB hz1 hk1 hS => ?_)
          obtain ⟨hT, hF167, hw165p⟩ := hw165
          have hR := hR.then hF167 (by decide)
          have hP := hB.1; rw [ht] at hP; have hD := tp_ad f166 hD; clear hB hFc hz1 hk1; subst ht; generalize t.heap = H at hP hS ⊢
          obtain ⟨g169, hf_o168⟩ := tpo_56 hT y10
          obtain ⟨g171, hf_o170⟩ := tpo_57 hT y11
          obtain ⟨o172_x0, o172_x1, o172_x7, o172_x9, o172_x10, o172_x11, o172_x12, o172_x13, o172_x14, o172_x15, o172_x16, o172_x17, o172_x18, o172_x19, o172_x20, o172_x22, o172_x25, o172_x28, o172_x29, o172_x32, o172_x33, o172_x34, o172_x35, o172_x36, o172_x37, o172_x38, o172_x47, o172_x48, hf_o172, ro172_0, ro172_1, ro172_2, ro172_3, ro172_4, ro172_5, ro172_6, ro172_7, ro172_8, ro172_9, ro172_10, ro172_11, ro172_12, ro172_13⟩ := tpo_13 hT ht_h0
          have tk173 : mo_U (mo_R g31) (mo_R g169) o154_x28.toInt (19) ∧ mo_U (mo_R g33) (mo_R g171) o154_x28.toInt o154_x22.toInt ∧ o172_x28.toInt = o154_x28.toInt + 1 ∧ o172_x9.toInt = o154_x9.toInt ∧ o172_x10.toInt = o154_x10.toInt ∧ o172_x11.toInt = o154_x11.toInt ∧ o172_x12.toInt = o154_x12.toInt ∧ o172_x13.toInt = o154_x13.toInt ∧ o172_x15.toInt = o154_x15.toInt ∧ o172_x19.toInt = o154_x19.toInt ∧ o172_x20.toInt = o154_x20.toInt ∧ o172_x22.toInt = o154_x22.toInt := by have q9 := hw165p; simp only [hf_162, hf_o168, hf_o154, hf_163, hf_o170, hf_o172, mo_i1, mo_l1] at q9; exact q9
          refine lv_aload_n hx hb dX12_behindTest_54 rfl (lv_at hl 1 rfl) ?_
          refine lv_iload_n hx hb dX12_behindTest_55 rfl (lv_at hl 0 rfl) ?_
          refine lv_if_eq (tgt := 64) hx hb dX12_behindTest_56 (by decide) (fun c174 => ?_) (fun c174 => ?_)
          · have ic174 : r36.toInt = 0 := zi_eq rfl rfl c174
            refine lv_bipush (v := 19) hx hb dX12_behindTest_64 (by decide) ?_
            refine lv_iconst (v := 0) hx hb dX12_behindTest_66 (by decide) ?_
            have hf_175 : f166 (ρ h0 23) = .inl (κ 0, 400, .inl g156) := (hF167 _ (by rw [y8]; decide)).trans hf_o155
            have hf_176 : f166 (ρ h0 24) = .inl (κ 0, 400, .inl g158) := (hF167 _ (by rw [y9]; decide)).trans hf_o157
            obtain ⟨q177, eq177⟩ := tp_pos (tp_in hG ht_h0 (by decide)) hf_o172
            have hFc := tp_fr hD hS hA
            refine va_callv (va_runV (As := [.int 19, .int 0]) (rest := []) ⟨hx, hb, hml, hown, hts⟩ (t_X12_emit l dC dI _ κ τ ν ρ L f166 hG hT h0 (19) (0) ht_h0 (by simp only [hf_o172, mo_i1, mo_l1]; exact (show o172_x22.toInt < 400 from by have : (19 : Int32).toInt = 19 := rfl; have : (0 : Int32).toInt = 0 := rfl; first | omega | decide))) (cwV 2 hts gX12_behindTest_X12_emit rfl rfl rfl ⟨rfl, pd_X12_emit⟩ ⟨Nat.le_of_ble_eq_true rfl, Nat.le_of_ble_eq_true rfl⟩) ⟨pz_blind, va_recv hK hP (ci := 12) (q0 := q177) rfl eq177, pz_pre hP hK hD hN⟩ rfl rfl hl.1 rfl (lv_room (Nat.le_of_ble_eq_true rfl)) dX12_behindTest_67 ⟨Nat.le_of_ble_eq_true rfl, Nat.le_of_ble_eq_true rfl⟩) hS (fun q _ h => hFc q h) hFc (fun f180 t H1 locs ht hvm hw179 hB hz1 hk1 hS => ?_)
            obtain ⟨hT, hF181, hw179p⟩ := hw179
            have hR := hR.then hF181 (by decide)
            have hP := hB.1; rw [ht] at hP; have hD := tp_ad f180 hD; clear hB hFc hz1 hk1; subst ht; generalize t.heap = H at hP hS ⊢
            obtain ⟨g183, hf_o182⟩ := tpo_53 hT y8
            obtain ⟨g185, hf_o184⟩ := tpo_54 hT y9
            obtain ⟨o186_x0, o186_x1, o186_x7, o186_x9, o186_x10, o186_x11, o186_x12, o186_x13, o186_x14, o186_x15, o186_x16, o186_x17, o186_x18, o186_x19, o186_x20, o186_x22, o186_x25, o186_x28, o186_x29, o186_x32, o186_x33, o186_x34, o186_x35, o186_x36, o186_x37, o186_x38, o186_x47, o186_x48, hf_o186, ro186_0, ro186_1, ro186_2, ro186_3, ro186_4, ro186_5, ro186_6, ro186_7, ro186_8, ro186_9, ro186_10, ro186_11, ro186_12, ro186_13⟩ := tpo_13 hT ht_h0
            have tk187 : mo_U (mo_R g156) (mo_R g183) o172_x22.toInt (19) ∧ mo_U (mo_R g158) (mo_R g185) o172_x22.toInt (0) ∧ o186_x22.toInt = o172_x22.toInt + 1 ∧ o186_x9.toInt = o172_x9.toInt ∧ o186_x10.toInt = o172_x10.toInt ∧ o186_x11.toInt = o172_x11.toInt ∧ o186_x12.toInt = o172_x12.toInt ∧ o186_x13.toInt = o172_x13.toInt ∧ o186_x15.toInt = o172_x15.toInt ∧ o186_x19.toInt = o172_x19.toInt ∧ o186_x20.toInt = o172_x20.toInt ∧ o186_x28.toInt = o172_x28.toInt := by have q9 := hw179p; simp only [hf_175, hf_o182, hf_o172, hf_176, hf_o184, hf_o186, mo_i1, mo_l1] at q9; exact q9
            refine lv_aload_n hx hb dX12_behindTest_70 rfl (lv_at hl 1 rfl) ?_
            obtain ⟨q188, eq188⟩ := tp_pos (tp_in hG ht_h0 (by decide)) hf_o186
            have hFc := tp_fr hD hS hA
            refine va_callv (va_runV (As := []) (rest := []) ⟨hx, hb, hml, hown, hts⟩ (t_X12_next l dC dI _ κ τ ν ρ L f180 hG hT h0 ht_h0 (by simp only [hf_o186, mo_i1, mo_l1]; exact (show o186_x11.toInt ≤ o186_x9.toInt from by first | omega | decide))) (cwV 0 hts gX12_behindTest_X12_next rfl rfl rfl ⟨rfl, pd_X12_next⟩ ⟨Nat.le_of_ble_eq_true rfl, Nat.le_of_ble_eq_true rfl⟩) ⟨pz_blind, va_recv hK hP (ci := 12) (q0 := q188) rfl eq188, pz_pre hP hK hD hN⟩ rfl rfl hl.1 rfl (lv_room (Nat.le_of_ble_eq_true rfl)) dX12_behindTest_71 ⟨Nat.le_of_ble_eq_true rfl, Nat.le_of_ble_eq_true rfl⟩) hS (fun q _ h => hFc q h) hFc (fun f191 t H1 locs ht hvm hw190 hB hz1 hk1 hS => ?_)
            obtain ⟨hT, hF192, hw190p⟩ := hw190
            have hR := hR.then hF192 (by decide)
            have hP := hB.1; rw [ht] at hP; have hD := tp_ad f191 hD; clear hB hFc hz1 hk1; subst ht; generalize t.heap = H at hP hS ⊢
            obtain ⟨o193_x0, o193_x1, o193_x7, o193_x9, o193_x10, o193_x11, o193_x12, o193_x13, o193_x14, o193_x15, o193_x16, o193_x17, o193_x18, o193_x19, o193_x20, o193_x22, o193_x25, o193_x28, o193_x29, o193_x32, o193_x33, o193_x34, o193_x35, o193_x36, o193_x37, o193_x38, o193_x47, o193_x48, hf_o193, ro193_0, ro193_1, ro193_2, ro193_3, ro193_4, ro193_5, ro193_6, ro193_7, ro193_8, ro193_9, ro193_10, ro193_11, ro193_12, ro193_13⟩ := tpo_13 hT ht_h0
            have tk194 : (o193_x10.toInt ≤ o193_x11.toInt ∧ o193_x11.toInt ≤ o193_x9.toInt ∧ (o193_x12.toInt = 0 ∨ o193_x10.toInt < o193_x11.toInt) ∧ (o193_x12.toInt = 1 → o193_x11.toInt = o193_x10.toInt + 1 → o193_x13.toInt ≤ 26)) ∧ o186_x11.toInt ≤ o193_x10.toInt ∧ o193_x9.toInt = o186_x9.toInt ∧ o193_x15.toInt = o186_x15.toInt ∧ o193_x19.toInt = o186_x19.toInt ∧ o193_x20.toInt = o186_x20.toInt ∧ o193_x22.toInt = o186_x22.toInt ∧ o193_x28.toInt = o186_x28.toInt := by have q9 := hw190p; simp only [hf_o193, hf_o186, mo_i1, mo_l1] at q9; exact q9
            refine lv_iconst (v := 0) hx hb dX12_behindTest_74 (by decide) ?_
            have hf_195 : f180 (ρ h0 26) = .inl (κ 0, 400, .inl g169) := (hF181 _ (by rw [y10]; decide)).trans hf_o168
            have hf_196 : f191 (ρ h0 26) = .inl (κ 0, 400, .inl g169) := (hF192 _ (by rw [y10]; decide)).trans hf_195
            have hf_197 : f180 (ρ h0 27) = .inl (κ 0, 400, .inl g171) := (hF181 _ (by rw [y11]; decide)).trans hf_o170
            have hf_198 : f191 (ρ h0 27) = .inl (κ 0, 400, .inl g171) := (hF192 _ (by rw [y11]; decide)).trans hf_197
            have hf_199 : f191 (ρ h0 23) = .inl (κ 0, 400, .inl g183) := (hF192 _ (by rw [y8]; decide)).trans hf_o182
            have hf_200 : f191 (ρ h0 24) = .inl (κ 0, 400, .inl g185) := (hF192 _ (by rw [y9]; decide)).trans hf_o184
            exact W.iret (v := 0) hx hb hr (fun t ht hW => ⟨⟨0, f191, rfl, ⟨hT, hR, (by first | decide | omega), (by simp only [hf_o193, hf_196, hf_198, hf_199, hf_200, hf_o26, hf_o28, hf_o34, mo_i1, mo_l1]; exact (show (o193_x10.toInt ≤ o193_x11.toInt ∧ o193_x11.toInt ≤ o193_x9.toInt ∧ (o193_x12.toInt = 0 ∨ o193_x10.toInt < o193_x11.toInt) ∧ (o193_x12.toInt = 1 → o193_x11.toInt = o193_x10.toInt + 1 → o193_x13.toInt ≤ 26)) ∧ o193_x22.toInt + o193_x28.toInt ≤ o193_x10.toInt ∧ mo_PV (mo_R g169) (mo_R g171) o193_x28.toInt ∧ (o193_x15.toInt = 0 → mo_EX aa (0 : Int32).toInt (mo_R g183) (mo_R g185) (mo_R g169) (mo_R g171) o193_x22.toInt o193_x28.toInt ∧ mo_FR aa (mo_R g27) (mo_R g29) (mo_R g183) (mo_R g185) ∧ ((0 : Int32).toInt = 4 ∨ o34_x10.toInt < o193_x10.toInt ∨ (o193_x10.toInt = o34_x10.toInt ∧ (0 : Int32).toInt = 2))) ∧ o34_x22.toInt ≤ o193_x22.toInt ∧ o193_x9.toInt = o34_x9.toInt ∧ o193_x19.toInt = o34_x19.toInt ∧ o193_x20.toInt = o34_x20.toInt from ⟨by omega, by omega, ((h3.lt (n' := _) tk159.1).push (by omega) tk173.1 tk173.2.1 (by omega) (by omega) (by omega)), fun q9 => ⟨(mo_EX.ando h4.1 (tk159.2.2.2.1 (by omega)) (h4.2.2.1.lt tk159.1) (by omega) tk173.1 tk173.2.1 tk187.1 tk187.2.1 (by omega) (by omega) (by omega) hin9), ((tk159.2.2.2.2.2.2.1 (by omega)).then (mo_FR.emit tk187.1 tk187.2.1 (tk159.2.2.2.1 (by omega)).base)), by have q8 : (0 : Int32).toInt = 0 := rfl; omega⟩, by omega, by omega, by omega, by omega⟩))⟩, by rw [ht]; exact hP, va_K.moved hW.alike hK, hD⟩, hS.F ht⟩) hS.2.2 dX12_behindTest_75
          · have ic174 : r36.toInt ≠ 0 := zi_eqf rfl rfl c174
            exfalso; omega
        · have ic160 : r36.toInt ≠ 0 := zi_eqf rfl rfl c160
          exfalso; omega
      · have ic149 : r36.toInt ≠ 0 := zi_eqf rfl rfl c149
        exfalso; omega
