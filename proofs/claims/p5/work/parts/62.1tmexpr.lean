set_option maxHeartbeats 4000000 in
set_option maxRecDepth 100000 in
theorem t_X12_open (l : Launch) (dC : Nat → ClassId) (dI : Nat → Nat → Nat) (sz : Nat) (κ : Nat → ClassId) (τ ν : Nat → Nat) (ρ : Nat → Nat → Nat) (L : List Nat) (f : Nat → va_E) (hG : tp_G τ ν ρ L) (hT : tp_T (mo_O κ) κ τ ν ρ f) (h0 : Nat) (v : Int32) (ht_h0 : τ h0 = 13) (hr_v : 30 ≤ v.toInt ∧ v.toInt ≤ 31) (h1 : ((tp_fld (f h0) 10) ≤ (tp_fld (f h0) 11) ∧ (tp_fld (f h0) 11) ≤ (tp_fld (f h0) 9) ∧ ((tp_fld (f h0) 12) = 0 ∨ (tp_fld (f h0) 10) < (tp_fld (f h0) 11)) ∧ ((tp_fld (f h0) 12) = 1 → (tp_fld (f h0) 11) = (tp_fld (f h0) 10) + 1 → (mo_fj (f h0) 13) ≤ 26))) (hb0 : (tp_fld (f h0) 15) = 0) (hs : (tp_fld (f h0) 10) < (tp_fld (f h0) 11)) (h2 : (tp_fld (f h0) 22) + (tp_fld (f h0) 28) ≤ (tp_fld (f h0) 10)) : Met l yX12_open wqX12_open ({ frames := 5, cells := 0, slots := 0, locals := 1600 }) (va_Pc [.ref h0, .int v] (pz_B dC dI (tp_K κ) (va_pl L f) sz)) (va_Qv (fun (f1 : Nat → va_E) => tp_T (mo_O κ) κ τ ν ρ f1 ∧ tp_F τ [13, 56, 57] f f1 ∧ ((tp_fld (f1 h0) 10) ≤ (tp_fld (f1 h0) 11) ∧ (tp_fld (f1 h0) 11) ≤ (tp_fld (f1 h0) 9) ∧ ((tp_fld (f1 h0) 12) = 0 ∨ (tp_fld (f1 h0) 10) < (tp_fld (f1 h0) 11)) ∧ ((tp_fld (f1 h0) 12) = 1 → (tp_fld (f1 h0) 11) = (tp_fld (f1 h0) 10) + 1 → (mo_fj (f1 h0) 13) ≤ 26)) ∧ ((tp_fld (f1 h0) 15) = 0 → mo_U (mo_R (mo_i (f (ρ h0 26)))) (mo_R (mo_i (f1 (ρ h0 26)))) (tp_fld (f h0) 28) v.toInt ∧ mo_U (mo_R (mo_i (f (ρ h0 27)))) (mo_R (mo_i (f1 (ρ h0 27)))) (tp_fld (f h0) 28) 0 ∧ (tp_fld (f1 h0) 28) = (tp_fld (f h0) 28) + 1 ∧ (tp_fld (f h0) 11) ≤ (tp_fld (f1 h0) 10)) ∧ ((tp_fld (f1 h0) 15) ≠ 0 → (mo_R (mo_i (f1 (ρ h0 26)))) = (mo_R (mo_i (f (ρ h0 26)))) ∧ (mo_R (mo_i (f1 (ρ h0 27)))) = (mo_R (mo_i (f (ρ h0 27)))) ∧ (tp_fld (f1 h0) 28) = (tp_fld (f h0) 28) ∧ (tp_fld (f1 h0) 10) = (tp_fld (f h0) 10)) ∧ (tp_fld (f1 h0) 9) = (tp_fld (f h0) 9) ∧ (tp_fld (f1 h0) 19) = (tp_fld (f h0) 19) ∧ (tp_fld (f1 h0) 20) = (tp_fld (f h0) 20) ∧ (tp_fld (f1 h0) 22) = (tp_fld (f h0) 22)) (fun (f1 : Nat → va_E) (t : State) => pz_E dC dI (tp_K κ) (va_A (va_pl L f) sz) (va_pl L f1) t) (va_A (va_pl L f) sz)) 0 0 (va_A (va_pl L f) sz) := by
  refine Met.ofW (cc := cX12_open) (maxL := 2) (ret := none) (by decide) rfl ?_
  intro p e s m args below meth c s₁ B hml hv
  obtain ⟨rfl, hsz, hP, hK, hD0, hN⟩ := hv
  have hx := B.exec
  have hb := B.bytes
  have hr := B.returns
  have hts := fun (w : Cond) (h : w ∈ WALL) => atoms_spec (ws := wqX12_open) B.pre w (List.mem_cons_of_mem _ h)
  have hown : s.vm.findClass RX12 = some m.cls := findClass_of_methodNamed B.named
  have hlocks := B.notSynchronized
  subst hsz
  have hD := hD0.self (sz := s.heap.size)
  generalize hAe : va_A (va_pl L f) s.heap.size = A at hD ⊢
  have hA : ∀ q : Nat, s.heap.size ≤ q → A q := fun q h => by rw [← hAe]; exact Or.inr h
  have hS : va_S A s.heap s.heap [] := va_S.rf
  have hR : tp_F τ [13, 56, 57] f f := tp_F.rf
  have hl := lv_entry ([.ref h0, .int v]) (n := 2) (Nat.le_of_ble_eq_true rfl)
  rw [lg_entry_eq]
  generalize (lg_sl ([.ref h0, .int v]) ++ List.replicate (2 - (lg_sl ([.ref h0, .int v])).length) Slot.unset).toArray = ls at hl ⊢
  have hl : lv_has ls 2 [(0, .ref h0), (1, .int v)] := hl
  obtain ⟨y1, y2, y3, y4, y5, y6, y7, y8, y9, y10, y11, y12, y13, y14, y15, y16, y17, y18, y19, y20, y21, y22, y23, y24, y25⟩ := tpg_13 hG ht_h0
  obtain ⟨g27, hf_o26⟩ := tpo_56 hT y10
  have tf28 : mo_i (f (ρ h0 26)) = g27 := tfa_i hf_o26
  obtain ⟨g30, hf_o29⟩ := tpo_57 hT y11
  have tf31 : mo_i (f (ρ h0 27)) = g30 := tfa_i hf_o29
  obtain ⟨o32_x0, o32_x1, o32_x7, o32_x9, o32_x10, o32_x11, o32_x12, o32_x13, o32_x14, o32_x15, o32_x16, o32_x17, o32_x18, o32_x19, o32_x20, o32_x22, o32_x25, o32_x28, o32_x29, o32_x32, o32_x33, o32_x34, o32_x35, o32_x36, o32_x37, o32_x38, o32_x47, o32_x48, hf_o32, ro32_0, ro32_1, ro32_2, ro32_3, ro32_4, ro32_5, ro32_6, ro32_7, ro32_8, ro32_9, ro32_10, ro32_11, ro32_12, ro32_13⟩ := tpo_13 hT ht_h0
  have tf33 : tp_fld (f h0) 9 = o32_x9.toInt := tff_9 hf_o32
  have tf34 : tp_fld (f h0) 10 = o32_x10.toInt := tff_10 hf_o32
  have tf35 : tp_fld (f h0) 11 = o32_x11.toInt := tff_11 hf_o32
  have tf36 : tp_fld (f h0) 12 = o32_x12.toInt := tff_12 hf_o32
  have tf37 : tp_fld (f h0) 15 = o32_x15.toInt := tff_15 hf_o32
  have tf38 : tp_fld (f h0) 19 = o32_x19.toInt := tff_19 hf_o32
  have tf39 : tp_fld (f h0) 20 = o32_x20.toInt := tff_20 hf_o32
  have tf40 : tp_fld (f h0) 22 = o32_x22.toInt := tff_22 hf_o32
  have tf41 : tp_fld (f h0) 28 = o32_x28.toInt := tff_28 hf_o32
  have tf42 : mo_fj (f h0) 13 = o32_x13.toInt := tff_13 hf_o32
  have h1 : (o32_x10.toInt ≤ o32_x11.toInt ∧ o32_x11.toInt ≤ o32_x9.toInt ∧ (o32_x12.toInt = 0 ∨ o32_x10.toInt < o32_x11.toInt) ∧ (o32_x12.toInt = 1 → o32_x11.toInt = o32_x10.toInt + 1 → o32_x13.toInt ≤ 26)) := by have q9 := h1; first | (simp only [tf34, tf35, tf33, tf36, tf42, mo_i1, mo_l1] at q9; exact q9) | (rw [tf34, tf35, tf33, tf36, tf42] at q9; exact q9)
  have hb0 : o32_x15.toInt = 0 := by have q9 := hb0; first | (simp only [tf37, mo_i1, mo_l1] at q9; exact q9) | (rw [tf37] at q9; exact q9)
  have hs : o32_x10.toInt < o32_x11.toInt := by have q9 := hs; first | (simp only [tf34, tf35, mo_i1, mo_l1] at q9; exact q9) | (rw [tf34, tf35] at q9; exact q9)
  have h2 : o32_x22.toInt + o32_x28.toInt ≤ o32_x10.toInt := by have q9 := h2; first | (simp only [tf40, tf41, tf34, mo_i1, mo_l1] at q9; exact q9) | (rw [tf40, tf41, tf34] at q9; exact q9)
  refine lv_aload_n hx hb dX12_open_0 rfl (lv_at hl 0 rfl) ?_
  refine lv_aload_n hx hb dX12_open_1 rfl (lv_at hl 0 rfl) ?_
  obtain ⟨q43, eq43⟩ := tp_pos (tp_in hG ht_h0 (by decide)) hf_o32
  refine va_get (D := (dC, dI)) (ci := 12) (v := .int o32_x29) (C := RX12) (T := TX12) (N := 53) hx hb hts hfX12 hown hK hP q43 eq43 rfl 29 (by decide) (hts (.fieldLink RX12 335 "ColdShipsModel" "opened" "I") wa_1046) (fun _ h9 => h9) rfl dX12_open_2 ?_
  refine lv_bipush (v := 8) hx hb dX12_open_5 (by decide) ?_
  refine lv_icmp_ge (tgt := 14) hx hb dX12_open_7 (by decide) (fun c44 => ?_) (fun c44 => ?_)
  · have ic44 : o32_x29.toInt ≥ 8 := zi_ge rfl rfl c44
    refine lv_iconst (v := 0) hx hb dX12_open_14 (by decide) ?_
    have hFc := tp_fr hD hS hA
    refine va_callv (va_runV (As := [.int 0]) (rest := []) ⟨hx, hb, hml, hown, hts⟩ (t_X12_must l dC dI _ κ τ ν ρ L f hG hT h0 (0) ht_h0 (by first | decide | omega) (by first | (simp only [tf34, tf35, tf33, tf36, tf42, mo_i1, mo_l1]; exact (show (o32_x10.toInt ≤ o32_x11.toInt ∧ o32_x11.toInt ≤ o32_x9.toInt ∧ (o32_x12.toInt = 0 ∨ o32_x10.toInt < o32_x11.toInt) ∧ (o32_x12.toInt = 1 → o32_x11.toInt = o32_x10.toInt + 1 → o32_x13.toInt ≤ 26)) from by have : (0 : Int32).toInt = 0 := rfl; first | omega | decide)) | (rw [tf34, tf35, tf33, tf36, tf42]; exact (show (o32_x10.toInt ≤ o32_x11.toInt ∧ o32_x11.toInt ≤ o32_x9.toInt ∧ (o32_x12.toInt = 0 ∨ o32_x10.toInt < o32_x11.toInt) ∧ (o32_x12.toInt = 1 → o32_x11.toInt = o32_x10.toInt + 1 → o32_x13.toInt ≤ 26)) from by have : (0 : Int32).toInt = 0 := rfl; first | omega | decide)))) (cwV 1 hts gX12_open_X12_must rfl rfl rfl ⟨rfl, pd_X12_must⟩ ⟨Nat.le_of_ble_eq_true rfl, Nat.le_of_ble_eq_true rfl⟩) ⟨pz_blind, va_recv hK hP (ci := 12) (q0 := q43) rfl eq43, pz_pre hP hK hD hN⟩ rfl rfl hl.1 rfl (lv_room (Nat.le_of_ble_eq_true rfl)) dX12_open_15 ⟨Nat.le_of_ble_eq_true rfl, Nat.le_of_ble_eq_true rfl⟩) hS (fun q _ h => hFc q h) hFc (fun f47 t H1 locs ht hvm hw46 hB hz1 hk1 hS => ?_)
    obtain ⟨hT, hF48, hw46p⟩ := hw46
    have hR := hR.then hF48 (by decide)
    have hP := hB.1; rw [ht] at hP; have hD := tp_ad f47 hD; clear hB hFc hz1 hk1; subst ht; generalize t.heap = H at hP hS ⊢
    obtain ⟨o49_x0, o49_x1, o49_x7, o49_x9, o49_x10, o49_x11, o49_x12, o49_x13, o49_x14, o49_x15, o49_x16, o49_x17, o49_x18, o49_x19, o49_x20, o49_x22, o49_x25, o49_x28, o49_x29, o49_x32, o49_x33, o49_x34, o49_x35, o49_x36, o49_x37, o49_x38, o49_x47, o49_x48, hf_o49, ro49_0, ro49_1, ro49_2, ro49_3, ro49_4, ro49_5, ro49_6, ro49_7, ro49_8, ro49_9, ro49_10, ro49_11, ro49_12, ro49_13⟩ := tpo_13 hT ht_h0
    have tf50 : tp_fld (f47 h0) 10 = o49_x10.toInt := tff_10 hf_o49
    have tf51 : tp_fld (f47 h0) 11 = o49_x11.toInt := tff_11 hf_o49
    have tf52 : tp_fld (f47 h0) 9 = o49_x9.toInt := tff_9 hf_o49
    have tf53 : tp_fld (f47 h0) 12 = o49_x12.toInt := tff_12 hf_o49
    have tf54 : mo_fj (f47 h0) 13 = o49_x13.toInt := tff_13 hf_o49
    have tf55 : tp_fld (f47 h0) 15 = o49_x15.toInt := tff_15 hf_o49
    have tf56 : tp_fld (f47 h0) 19 = o49_x19.toInt := tff_19 hf_o49
    have tf57 : tp_fld (f47 h0) 20 = o49_x20.toInt := tff_20 hf_o49
    have tf58 : tp_fld (f47 h0) 22 = o49_x22.toInt := tff_22 hf_o49
    have tf59 : tp_fld (f47 h0) 28 = o49_x28.toInt := tff_28 hf_o49
    have tk60 : (o49_x10.toInt ≤ o49_x11.toInt ∧ o49_x11.toInt ≤ o49_x9.toInt ∧ (o49_x12.toInt = 0 ∨ o49_x10.toInt < o49_x11.toInt) ∧ (o49_x12.toInt = 1 → o49_x11.toInt = o49_x10.toInt + 1 → o49_x13.toInt ≤ 26)) ∧ (o49_x15.toInt = 0 → o32_x15.toInt = 0 ∧ o32_x11.toInt ≤ o49_x10.toInt ∧ (0 : Int) ≠ 0) ∧ (o49_x15.toInt ≠ 0 → o49_x10.toInt = o32_x10.toInt) ∧ o49_x9.toInt = o32_x9.toInt ∧ o49_x19.toInt = o32_x19.toInt ∧ o49_x20.toInt = o32_x20.toInt ∧ o49_x22.toInt = o32_x22.toInt ∧ o49_x28.toInt = o32_x28.toInt := by have q9 := hw46p; first | (simp only [tf50, tf51, tf52, tf53, tf54, tf55, tf37, tf35, tf34, tf33, tf56, tf38, tf57, tf39, tf58, tf40, tf59, tf41, mo_i1, mo_l1] at q9; exact q9) | (rw [tf50, tf51, tf52, tf53, tf54, tf55, tf37, tf35, tf34, tf33, tf56, tf38, tf57, tf39, tf58, tf40, tf59, tf41] at q9; exact q9)
    refine lv_aload_n hx hb dX12_open_18 rfl (lv_at hl 0 rfl) ?_
    obtain ⟨q61, eq61⟩ := tp_pos (tp_in hG ht_h0 (by decide)) hf_o49
    refine va_get (D := (dC, dI)) (ci := 12) (v := .int o49_x15) (C := RX12) (T := TX12) (N := 53) hx hb hts hfX12 hown hK hP q61 eq61 rfl 15 (by decide) (hts (.fieldLink RX12 261 "ColdShipsModel" "bad" "Z") wa_994) (fun _ h9 => h9) rfl dX12_open_19 ?_
    refine lv_if_ne (tgt := 41) hx hb dX12_open_22 (by decide) (fun c62 => ?_) (fun c62 => ?_)
    · have ic62 : o49_x15.toInt ≠ 0 := zi_ne rfl rfl c62
      have hf_63 : f47 (ρ h0 26) = .inl (κ 0, 400, .inl g27) := (hF48 _ (by rw [y10]; decide)).trans hf_o26
      have tf64 : mo_i (f47 (ρ h0 26)) = g27 := tfa_i hf_63
      have hf_65 : f47 (ρ h0 27) = .inl (κ 0, 400, .inl g30) := (hF48 _ (by rw [y11]; decide)).trans hf_o29
      have tf66 : mo_i (f47 (ρ h0 27)) = g30 := tfa_i hf_65
      exact W.vret hx hb hr (fun t ht hW => ⟨⟨f47, rfl, ⟨hT, hR, (by first | (simp only [tf50, tf51, tf52, tf53, tf54, tf55, tf28, tf64, tf41, tf31, tf66, tf59, tf35, tf34, tf33, tf56, tf38, tf57, tf39, tf58, tf40, mo_i1, mo_l1]; exact (show (o49_x10.toInt ≤ o49_x11.toInt ∧ o49_x11.toInt ≤ o49_x9.toInt ∧ (o49_x12.toInt = 0 ∨ o49_x10.toInt < o49_x11.toInt) ∧ (o49_x12.toInt = 1 → o49_x11.toInt = o49_x10.toInt + 1 → o49_x13.toInt ≤ 26)) ∧ (o49_x15.toInt = 0 → mo_U (mo_R g27) (mo_R g27) o32_x28.toInt v.toInt ∧ mo_U (mo_R g30) (mo_R g30) o32_x28.toInt 0 ∧ o49_x28.toInt = o32_x28.toInt + 1 ∧ o32_x11.toInt ≤ o49_x10.toInt) ∧ (o49_x15.toInt ≠ 0 → (mo_R g27) = (mo_R g27) ∧ (mo_R g30) = (mo_R g30) ∧ o49_x28.toInt = o32_x28.toInt ∧ o49_x10.toInt = o32_x10.toInt) ∧ o49_x9.toInt = o32_x9.toInt ∧ o49_x19.toInt = o32_x19.toInt ∧ o49_x20.toInt = o32_x20.toInt ∧ o49_x22.toInt = o32_x22.toInt from ⟨by omega, fun q9 => by exfalso; omega, fun _ => ⟨rfl, rfl, by omega, by omega⟩, by omega, by omega, by omega, by omega⟩)) | (rw [tf50, tf51, tf52, tf53, tf54, tf55, tf28, tf64, tf41, tf31, tf66, tf59, tf35, tf34, tf33, tf56, tf38, tf57, tf39, tf58, tf40]; exact (show (o49_x10.toInt ≤ o49_x11.toInt ∧ o49_x11.toInt ≤ o49_x9.toInt ∧ (o49_x12.toInt = 0 ∨ o49_x10.toInt < o49_x11.toInt) ∧ (o49_x12.toInt = 1 → o49_x11.toInt = o49_x10.toInt + 1 → o49_x13.toInt ≤ 26)) ∧ (o49_x15.toInt = 0 → mo_U (mo_R g27) (mo_R g27) o32_x28.toInt v.toInt ∧ mo_U (mo_R g30) (mo_R g30) o32_x28.toInt 0 ∧ o49_x28.toInt = o32_x28.toInt + 1 ∧ o32_x11.toInt ≤ o49_x10.toInt) ∧ (o49_x15.toInt ≠ 0 → (mo_R g27) = (mo_R g27) ∧ (mo_R g30) = (mo_R g30) ∧ o49_x28.toInt = o32_x28.toInt ∧ o49_x10.toInt = o32_x10.toInt) ∧ o49_x9.toInt = o32_x9.toInt ∧ o49_x19.toInt = o32_x19.toInt ∧ o49_x20.toInt = o32_x20.toInt ∧ o49_x22.toInt = o32_x22.toInt from ⟨by omega, fun q9 => by exfalso; omega, fun _ => ⟨rfl, rfl, by omega, by omega⟩, by omega, by omega, by omega, by omega⟩)))⟩, by rw [ht]; exact hP, va_K.moved hW.alike hK, hD⟩, hS.F ht⟩) hS.2.2 dX12_open_41
    · have ic62 : o49_x15.toInt = 0 := zi_nef rfl rfl c62
      refine lv_aload_n hx hb dX12_open_25 rfl (lv_at hl 0 rfl) ?_
      refine lv_dup hx hb dX12_open_26 rfl ?_
      refine va_get (D := (dC, dI)) (ci := 12) (v := .int o49_x29) (C := RX12) (T := TX12) (N := 53) hx hb hts hfX12 hown hK hP q61 eq61 rfl 29 (by decide) (hts (.fieldLink RX12 335 "ColdShipsModel" "opened" "I") wa_1046) (fun _ h9 => h9) rfl dX12_open_27 ?_
      refine lv_iconst (v := 1) hx hb dX12_open_30 (by decide) ?_
      refine lv_iadd hx hb dX12_open_31 ?_
      refine lv_topi (fun z67 ez67 => ?_)
      refine va_put (D := (dC, dI)) (ci := 12) (v := .int z67) (ty := .int) (C := RX12) (T := TX12) (N := 53) hx hb hts hfX12 tyX12 tyX12_ok nmX12 hown hK hP hD hS q61 eq61 rfl 29 (by decide) (hts (.fieldLink RX12 335 "ColdShipsModel" "opened" "I") wa_1046) (fun _ h9 => h9) rfl (tyX12_ok 29 (by decide)) rfl rfl (Nat.le_of_ble_eq_true rfl) dX12_open_32 (tp_k (.inr (12, [.int o49_x0, .int o49_x1, .ref (ρ h0 2), .ref (ρ h0 3), .ref (ρ h0 4), .ref (ρ h0 5), .ref (ρ h0 6), .int o49_x7, .ref (ρ h0 8), .int o49_x9, .int o49_x10, .int o49_x11, .int o49_x12, .long o49_x13, .int o49_x14, .int o49_x15, .int o49_x16, .int o49_x17, .int o49_x18, .int o49_x19, .int o49_x20, .ref (ρ h0 21), .int o49_x22, .ref (ρ h0 23), .ref (ρ h0 24), .int o49_x25, .ref (ρ h0 26), .ref (ρ h0 27), .int o49_x28, .int z67, .ref (ρ h0 30), .ref (ρ h0 31), .int o49_x32, .long o49_x33, .long o49_x34, .long o49_x35, .int o49_x36, .int o49_x37, .int o49_x38, .ref (ρ h0 39), .ref (ρ h0 40), .ref (ρ h0 41), .ref (ρ h0 42), .ref (ρ h0 43), .ref (ρ h0 44), .ref (ρ h0 45), .ref (ρ h0 46), .int o49_x47, .int o49_x48, .ref (ρ h0 49), .ref (ρ h0 50), .ref (ρ h0 51), .ref (ρ h0 52)])) hD (tp_in hG ht_h0 (by decide)) eq61 (fun f68 H locs hP hD hS g70 k69 => ?_))
      have hT := hT.up ht_h0 g70 k69 ⟨_, _, _, _, _, _, _, _, _, _, _, _, _, _, _, _, _, _, _, _, _, _, _, _, _, _, _, _, rfl, ro49_0, ro49_1, ro49_2, ro49_3, ro49_4, ro49_5, ro49_6, ro49_7, ro49_8, ro49_9, ro49_10, ro49_11, ro49_12, ro49_13⟩
      have hR := hR.up ht_h0 (by decide) k69
      refine lv_aload_n hx hb dX12_open_35 rfl (lv_at hl 0 rfl) ?_
      refine lv_iload_n hx hb dX12_open_36 rfl (lv_at hl 1 rfl) ?_
      refine lv_iconst (v := 0) hx hb dX12_open_37 (by decide) ?_
      have hf_71 : f47 (ρ h0 26) = .inl (κ 0, 400, .inl g27) := (hF48 _ (by rw [y10]; decide)).trans hf_o26
      have hf_72 : f68 (ρ h0 26) = .inl (κ 0, 400, .inl g27) := (k69 _ (tp_ne y10 ht_h0 (by decide))).trans hf_71
      have tf73 : mo_i (f68 (ρ h0 26)) = g27 := tfa_i hf_72
      have tf74 : tp_fld (f68 h0) 28 = o49_x28.toInt := tff_28 g70
      have hf_75 : f47 (ρ h0 27) = .inl (κ 0, 400, .inl g30) := (hF48 _ (by rw [y11]; decide)).trans hf_o29
      have hf_76 : f68 (ρ h0 27) = .inl (κ 0, 400, .inl g30) := (k69 _ (tp_ne y11 ht_h0 (by decide))).trans hf_75
      have tf77 : mo_i (f68 (ρ h0 27)) = g30 := tfa_i hf_76
      have tf78 : tp_fld (f68 h0) 9 = o49_x9.toInt := tff_9 g70
      have tf79 : tp_fld (f68 h0) 10 = o49_x10.toInt := tff_10 g70
      have tf80 : tp_fld (f68 h0) 11 = o49_x11.toInt := tff_11 g70
      have tf81 : tp_fld (f68 h0) 12 = o49_x12.toInt := tff_12 g70
      have tf82 : mo_fj (f68 h0) 13 = o49_x13.toInt := tff_13 g70
      have tf83 : tp_fld (f68 h0) 15 = o49_x15.toInt := tff_15 g70
      have tf84 : tp_fld (f68 h0) 19 = o49_x19.toInt := tff_19 g70
      have tf85 : tp_fld (f68 h0) 20 = o49_x20.toInt := tff_20 g70
      have tf86 : tp_fld (f68 h0) 22 = o49_x22.toInt := tff_22 g70
      obtain ⟨q87, eq87⟩ := tp_pos (tp_in hG ht_h0 (by decide)) g70
      have hFc := tp_fr hD hS hA
      refine va_callv (va_runV (As := [.int v, .int 0]) (rest := []) ⟨hx, hb, hml, hown, hts⟩ (t_X12_push l dC dI _ κ τ ν ρ L f68 hG hT h0 v (0) ht_h0 (by first | (simp only [tf74, mo_i1, mo_l1]; exact (show o49_x28.toInt < 400 from by have : (0 : Int32).toInt = 0 := rfl; first | omega | decide)) | (rw [tf74]; exact (show o49_x28.toInt < 400 from by have : (0 : Int32).toInt = 0 := rfl; first | omega | decide)))) (cwV 2 hts gX12_open_X12_push rfl rfl rfl ⟨rfl, pd_X12_push⟩ ⟨Nat.le_of_ble_eq_true rfl, Nat.le_of_ble_eq_true rfl⟩) ⟨pz_blind, va_recv hK hP (ci := 12) (q0 := q87) rfl eq87, pz_pre hP hK hD hN⟩ rfl rfl hl.1 rfl (lv_room (Nat.le_of_ble_eq_true rfl)) dX12_open_38 ⟨Nat.le_of_ble_eq_true rfl, Nat.le_of_ble_eq_true rfl⟩) hS (fun q _ h => hFc q h) hFc (fun f90 t H1 locs ht hvm hw89 hB hz1 hk1 hS => ?_)
      obtain ⟨hT, hF91, hw89p⟩ := hw89
      have hR := hR.then hF91 (by decide)
      have hP := hB.1; rw [ht] at hP; have hD := tp_ad f90 hD; clear hB hFc hz1 hk1; subst ht; generalize t.heap = H at hP hS ⊢
      obtain ⟨g93, hf_o92⟩ := tpo_56 hT y10
      have tf94 : mo_i (f90 (ρ h0 26)) = g93 := tfa_i hf_o92
      obtain ⟨g96, hf_o95⟩ := tpo_57 hT y11
      have tf97 : mo_i (f90 (ρ h0 27)) = g96 := tfa_i hf_o95
      obtain ⟨o98_x0, o98_x1, o98_x7, o98_x9, o98_x10, o98_x11, o98_x12, o98_x13, o98_x14, o98_x15, o98_x16, o98_x17, o98_x18, o98_x19, o98_x20, o98_x22, o98_x25, o98_x28, o98_x29, o98_x32, o98_x33, o98_x34, o98_x35, o98_x36, o98_x37, o98_x38, o98_x47, o98_x48, hf_o98, ro98_0, ro98_1, ro98_2, ro98_3, ro98_4, ro98_5, ro98_6, ro98_7, ro98_8, ro98_9, ro98_10, ro98_11, ro98_12, ro98_13⟩ := tpo_13 hT ht_h0
      have tf99 : tp_fld (f90 h0) 28 = o98_x28.toInt := tff_28 hf_o98
      have tf100 : tp_fld (f90 h0) 9 = o98_x9.toInt := tff_9 hf_o98
      have tf101 : tp_fld (f90 h0) 10 = o98_x10.toInt := tff_10 hf_o98
      have tf102 : tp_fld (f90 h0) 11 = o98_x11.toInt := tff_11 hf_o98
      have tf103 : tp_fld (f90 h0) 12 = o98_x12.toInt := tff_12 hf_o98
      have tf104 : mo_fj (f90 h0) 13 = o98_x13.toInt := tff_13 hf_o98
      have tf105 : tp_fld (f90 h0) 15 = o98_x15.toInt := tff_15 hf_o98
      have tf106 : tp_fld (f90 h0) 19 = o98_x19.toInt := tff_19 hf_o98
      have tf107 : tp_fld (f90 h0) 20 = o98_x20.toInt := tff_20 hf_o98
      have tf108 : tp_fld (f90 h0) 22 = o98_x22.toInt := tff_22 hf_o98
      have tk109 : mo_U (mo_R g27) (mo_R g93) o49_x28.toInt v.toInt ∧ mo_U (mo_R g30) (mo_R g96) o49_x28.toInt (0 : Int) ∧ o98_x28.toInt = o49_x28.toInt + 1 ∧ o98_x9.toInt = o49_x9.toInt ∧ o98_x10.toInt = o49_x10.toInt ∧ o98_x11.toInt = o49_x11.toInt ∧ o98_x12.toInt = o49_x12.toInt ∧ o98_x13.toInt = o49_x13.toInt ∧ o98_x15.toInt = o49_x15.toInt ∧ o98_x19.toInt = o49_x19.toInt ∧ o98_x20.toInt = o49_x20.toInt ∧ o98_x22.toInt = o49_x22.toInt := by have q9 := hw89p; first | (simp only [tf73, tf94, tf74, tf77, tf97, tf99, tf100, tf78, tf101, tf79, tf102, tf80, tf103, tf81, tf104, tf82, tf105, tf83, tf106, tf84, tf107, tf85, tf108, tf86, mo_i1, mo_l1] at q9; exact q9) | (rw [tf73, tf94, tf74, tf77, tf97, tf99, tf100, tf78, tf101, tf79, tf102, tf80, tf103, tf81, tf104, tf82, tf105, tf83, tf106, tf84, tf107, tf85, tf108, tf86] at q9; exact q9)
      exact W.vret hx hb hr (fun t ht hW => ⟨⟨f90, rfl, ⟨hT, hR, (by first | (simp only [tf101, tf102, tf100, tf103, tf104, tf105, tf28, tf94, tf41, tf31, tf97, tf99, tf35, tf34, tf33, tf106, tf38, tf107, tf39, tf108, tf40, mo_i1, mo_l1]; exact (show (o98_x10.toInt ≤ o98_x11.toInt ∧ o98_x11.toInt ≤ o98_x9.toInt ∧ (o98_x12.toInt = 0 ∨ o98_x10.toInt < o98_x11.toInt) ∧ (o98_x12.toInt = 1 → o98_x11.toInt = o98_x10.toInt + 1 → o98_x13.toInt ≤ 26)) ∧ (o98_x15.toInt = 0 → mo_U (mo_R g27) (mo_R g93) o32_x28.toInt v.toInt ∧ mo_U (mo_R g30) (mo_R g96) o32_x28.toInt 0 ∧ o98_x28.toInt = o32_x28.toInt + 1 ∧ o32_x11.toInt ≤ o98_x10.toInt) ∧ (o98_x15.toInt ≠ 0 → (mo_R g93) = (mo_R g27) ∧ (mo_R g96) = (mo_R g30) ∧ o98_x28.toInt = o32_x28.toInt ∧ o98_x10.toInt = o32_x10.toInt) ∧ o98_x9.toInt = o32_x9.toInt ∧ o98_x19.toInt = o32_x19.toInt ∧ o98_x20.toInt = o32_x20.toInt ∧ o98_x22.toInt = o32_x22.toInt from ⟨by omega, fun _ => ⟨tk109.1, tk109.2.1, by omega, by omega⟩, fun q9 => by exfalso; omega, by omega, by omega, by omega, by omega⟩)) | (rw [tf101, tf102, tf100, tf103, tf104, tf105, tf28, tf94, tf41, tf31, tf97, tf99, tf35, tf34, tf33, tf106, tf38, tf107, tf39, tf108, tf40]; exact (show (o98_x10.toInt ≤ o98_x11.toInt ∧ o98_x11.toInt ≤ o98_x9.toInt ∧ (o98_x12.toInt = 0 ∨ o98_x10.toInt < o98_x11.toInt) ∧ (o98_x12.toInt = 1 → o98_x11.toInt = o98_x10.toInt + 1 → o98_x13.toInt ≤ 26)) ∧ (o98_x15.toInt = 0 → mo_U (mo_R g27) (mo_R g93) o32_x28.toInt v.toInt ∧ mo_U (mo_R g30) (mo_R g96) o32_x28.toInt 0 ∧ o98_x28.toInt = o32_x28.toInt + 1 ∧ o32_x11.toInt ≤ o98_x10.toInt) ∧ (o98_x15.toInt ≠ 0 → (mo_R g93) = (mo_R g27) ∧ (mo_R g96) = (mo_R g30) ∧ o98_x28.toInt = o32_x28.toInt ∧ o98_x10.toInt = o32_x10.toInt) ∧ o98_x9.toInt = o32_x9.toInt ∧ o98_x19.toInt = o32_x19.toInt ∧ o98_x20.toInt = o32_x20.toInt ∧ o98_x22.toInt = o32_x22.toInt from ⟨by omega, fun _ => ⟨tk109.1, tk109.2.1, by omega, by omega⟩, fun q9 => by exfalso; omega, by omega, by omega, by omega, by omega⟩)))⟩, by rw [ht]; exact hP, va_K.moved hW.alike hK, hD⟩, hS.F ht⟩) hS.2.2 dX12_open_41
  · have ic44 : o32_x29.toInt < 8 := zi_gef rfl rfl c44
    refine lv_iconst (v := 1) hx hb dX12_open_10 (by decide) ?_
    refine lv_goto (tgt := 15) hx hb dX12_open_11 (by decide) ?_
    have hFc := tp_fr hD hS hA
    refine va_callv (va_runV (As := [.int 1]) (rest := []) ⟨hx, hb, hml, hown, hts⟩ (t_X12_must l dC dI _ κ τ ν ρ L f hG hT h0 (1) ht_h0 (by first | decide | omega) (by first | (simp only [tf34, tf35, tf33, tf36, tf42, mo_i1, mo_l1]; exact (show (o32_x10.toInt ≤ o32_x11.toInt ∧ o32_x11.toInt ≤ o32_x9.toInt ∧ (o32_x12.toInt = 0 ∨ o32_x10.toInt < o32_x11.toInt) ∧ (o32_x12.toInt = 1 → o32_x11.toInt = o32_x10.toInt + 1 → o32_x13.toInt ≤ 26)) from by have : (1 : Int32).toInt = 1 := rfl; first | omega | decide)) | (rw [tf34, tf35, tf33, tf36, tf42]; exact (show (o32_x10.toInt ≤ o32_x11.toInt ∧ o32_x11.toInt ≤ o32_x9.toInt ∧ (o32_x12.toInt = 0 ∨ o32_x10.toInt < o32_x11.toInt) ∧ (o32_x12.toInt = 1 → o32_x11.toInt = o32_x10.toInt + 1 → o32_x13.toInt ≤ 26)) from by have : (1 : Int32).toInt = 1 := rfl; first | omega | decide)))) (cwV 1 hts gX12_open_X12_must rfl rfl rfl ⟨rfl, pd_X12_must⟩ ⟨Nat.le_of_ble_eq_true rfl, Nat.le_of_ble_eq_true rfl⟩) ⟨pz_blind, va_recv hK hP (ci := 12) (q0 := q43) rfl eq43, pz_pre hP hK hD hN⟩ rfl rfl hl.1 rfl (lv_room (Nat.le_of_ble_eq_true rfl)) dX12_open_15 ⟨Nat.le_of_ble_eq_true rfl, Nat.le_of_ble_eq_true rfl⟩) hS (fun q _ h => hFc q h) hFc (fun f112 t H1 locs ht hvm hw111 hB hz1 hk1 hS => ?_)
    obtain ⟨hT, hF113, hw111p⟩ := hw111
    have hR := hR.then hF113 (by decide)
    have hP := hB.1; rw [ht] at hP; have hD := tp_ad f112 hD; clear hB hFc hz1 hk1; subst ht; generalize t.heap = H at hP hS ⊢
    obtain ⟨o114_x0, o114_x1, o114_x7, o114_x9, o114_x10, o114_x11, o114_x12, o114_x13, o114_x14, o114_x15, o114_x16, o114_x17, o114_x18, o114_x19, o114_x20, o114_x22, o114_x25, o114_x28, o114_x29, o114_x32, o114_x33, o114_x34, o114_x35, o114_x36, o114_x37, o114_x38, o114_x47, o114_x48, hf_o114, ro114_0, ro114_1, ro114_2, ro114_3, ro114_4, ro114_5, ro114_6, ro114_7, ro114_8, ro114_9, ro114_10, ro114_11, ro114_12, ro114_13⟩ := tpo_13 hT ht_h0
    have tf115 : tp_fld (f112 h0) 10 = o114_x10.toInt := tff_10 hf_o114
    have tf116 : tp_fld (f112 h0) 11 = o114_x11.toInt := tff_11 hf_o114
    have tf117 : tp_fld (f112 h0) 9 = o114_x9.toInt := tff_9 hf_o114
    have tf118 : tp_fld (f112 h0) 12 = o114_x12.toInt := tff_12 hf_o114
    have tf119 : mo_fj (f112 h0) 13 = o114_x13.toInt := tff_13 hf_o114
    have tf120 : tp_fld (f112 h0) 15 = o114_x15.toInt := tff_15 hf_o114
    have tf121 : tp_fld (f112 h0) 19 = o114_x19.toInt := tff_19 hf_o114
    have tf122 : tp_fld (f112 h0) 20 = o114_x20.toInt := tff_20 hf_o114
    have tf123 : tp_fld (f112 h0) 22 = o114_x22.toInt := tff_22 hf_o114
    have tf124 : tp_fld (f112 h0) 28 = o114_x28.toInt := tff_28 hf_o114
    have tk125 : (o114_x10.toInt ≤ o114_x11.toInt ∧ o114_x11.toInt ≤ o114_x9.toInt ∧ (o114_x12.toInt = 0 ∨ o114_x10.toInt < o114_x11.toInt) ∧ (o114_x12.toInt = 1 → o114_x11.toInt = o114_x10.toInt + 1 → o114_x13.toInt ≤ 26)) ∧ (o114_x15.toInt = 0 → o32_x15.toInt = 0 ∧ o32_x11.toInt ≤ o114_x10.toInt ∧ (1 : Int) ≠ 0) ∧ (o114_x15.toInt ≠ 0 → o114_x10.toInt = o32_x10.toInt) ∧ o114_x9.toInt = o32_x9.toInt ∧ o114_x19.toInt = o32_x19.toInt ∧ o114_x20.toInt = o32_x20.toInt ∧ o114_x22.toInt = o32_x22.toInt ∧ o114_x28.toInt = o32_x28.toInt := by have q9 := hw111p; first | (simp only [tf115, tf116, tf117, tf118, tf119, tf120, tf37, tf35, tf34, tf33, tf121, tf38, tf122, tf39, tf123, tf40, tf124, tf41, mo_i1, mo_l1] at q9; exact q9) | (rw [tf115, tf116, tf117, tf118, tf119, tf120, tf37, tf35, tf34, tf33, tf121, tf38, tf122, tf39, tf123, tf40, tf124, tf41] at q9; exact q9)
    refine lv_aload_n hx hb dX12_open_18 rfl (lv_at hl 0 rfl) ?_
    obtain ⟨q126, eq126⟩ := tp_pos (tp_in hG ht_h0 (by decide)) hf_o114
    refine va_get (D := (dC, dI)) (ci := 12) (v := .int o114_x15) (C := RX12) (T := TX12) (N := 53) hx hb hts hfX12 hown hK hP q126 eq126 rfl 15 (by decide) (hts (.fieldLink RX12 261 "ColdShipsModel" "bad" "Z") wa_994) (fun _ h9 => h9) rfl dX12_open_19 ?_
    refine lv_if_ne (tgt := 41) hx hb dX12_open_22 (by decide) (fun c127 => ?_) (fun c127 => ?_)
    · have ic127 : o114_x15.toInt ≠ 0 := zi_ne rfl rfl c127
      have hf_128 : f112 (ρ h0 26) = .inl (κ 0, 400, .inl g27) := (hF113 _ (by rw [y10]; decide)).trans hf_o26
      have tf129 : mo_i (f112 (ρ h0 26)) = g27 := tfa_i hf_128
      have hf_130 : f112 (ρ h0 27) = .inl (κ 0, 400, .inl g30) := (hF113 _ (by rw [y11]; decide)).trans hf_o29
      have tf131 : mo_i (f112 (ρ h0 27)) = g30 := tfa_i hf_130
      exact W.vret hx hb hr (fun t ht hW => ⟨⟨f112, rfl, ⟨hT, hR, (by first | (simp only [tf115, tf116, tf117, tf118, tf119, tf120, tf28, tf129, tf41, tf31, tf131, tf124, tf35, tf34, tf33, tf121, tf38, tf122, tf39, tf123, tf40, mo_i1, mo_l1]; exact (show (o114_x10.toInt ≤ o114_x11.toInt ∧ o114_x11.toInt ≤ o114_x9.toInt ∧ (o114_x12.toInt = 0 ∨ o114_x10.toInt < o114_x11.toInt) ∧ (o114_x12.toInt = 1 → o114_x11.toInt = o114_x10.toInt + 1 → o114_x13.toInt ≤ 26)) ∧ (o114_x15.toInt = 0 → mo_U (mo_R g27) (mo_R g27) o32_x28.toInt v.toInt ∧ mo_U (mo_R g30) (mo_R g30) o32_x28.toInt 0 ∧ o114_x28.toInt = o32_x28.toInt + 1 ∧ o32_x11.toInt ≤ o114_x10.toInt) ∧ (o114_x15.toInt ≠ 0 → (mo_R g27) = (mo_R g27) ∧ (mo_R g30) = (mo_R g30) ∧ o114_x28.toInt = o32_x28.toInt ∧ o114_x10.toInt = o32_x10.toInt) ∧ o114_x9.toInt = o32_x9.toInt ∧ o114_x19.toInt = o32_x19.toInt ∧ o114_x20.toInt = o32_x20.toInt ∧ o114_x22.toInt = o32_x22.toInt from ⟨by omega, fun q9 => by exfalso; omega, fun _ => ⟨rfl, rfl, by omega, by omega⟩, by omega, by omega, by omega, by omega⟩)) | (rw [tf115, tf116, tf117, tf118, tf119, tf120, tf28, tf129, tf41, tf31, tf131, tf124, tf35, tf34, tf33, tf121, tf38, tf122, tf39, tf123, tf40]; exact (show (o114_x10.toInt ≤ o114_x11.toInt ∧ o114_x11.toInt ≤ o114_x9.toInt ∧ (o114_x12.toInt = 0 ∨ o114_x10.toInt < o114_x11.toInt) ∧ (o114_x12.toInt = 1 → o114_x11.toInt = o114_x10.toInt + 1 → o114_x13.toInt ≤ 26)) ∧ (o114_x15.toInt = 0 → mo_U (mo_R g27) (mo_R g27) o32_x28.toInt v.toInt ∧ mo_U (mo_R g30) (mo_R g30) o32_x28.toInt 0 ∧ o114_x28.toInt = o32_x28.toInt + 1 ∧ o32_x11.toInt ≤ o114_x10.toInt) ∧ (o114_x15.toInt ≠ 0 → (mo_R g27) = (mo_R g27) ∧ (mo_R g30) = (mo_R g30) ∧ o114_x28.toInt = o32_x28.toInt ∧ o114_x10.toInt = o32_x10.toInt) ∧ o114_x9.toInt = o32_x9.toInt ∧ o114_x19.toInt = o32_x19.toInt ∧ o114_x20.toInt = o32_x20.toInt ∧ o114_x22.toInt = o32_x22.toInt from ⟨by omega, fun q9 => by exfalso; omega, fun _ => ⟨rfl, rfl, by omega, by omega⟩, by omega, by omega, by omega, by omega⟩)))⟩, by rw [ht]; exact hP, va_K.moved hW.alike hK, hD⟩, hS.F ht⟩) hS.2.2 dX12_open_41
    · have ic127 : o114_x15.toInt = 0 := zi_nef rfl rfl c127
      refine lv_aload_n hx hb dX12_open_25 rfl (lv_at hl 0 rfl) ?_
      refine lv_dup hx hb dX12_open_26 rfl ?_
      refine va_get (D := (dC, dI)) (ci := 12) (v := .int o114_x29) (C := RX12) (T := TX12) (N := 53) hx hb hts hfX12 hown hK hP q126 eq126 rfl 29 (by decide) (hts (.fieldLink RX12 335 "ColdShipsModel" "opened" "I") wa_1046) (fun _ h9 => h9) rfl dX12_open_27 ?_
      refine lv_iconst (v := 1) hx hb dX12_open_30 (by decide) ?_
      refine lv_iadd hx hb dX12_open_31 ?_
      refine lv_topi (fun z132 ez132 => ?_)
      refine va_put (D := (dC, dI)) (ci := 12) (v := .int z132) (ty := .int) (C := RX12) (T := TX12) (N := 53) hx hb hts hfX12 tyX12 tyX12_ok nmX12 hown hK hP hD hS q126 eq126 rfl 29 (by decide) (hts (.fieldLink RX12 335 "ColdShipsModel" "opened" "I") wa_1046) (fun _ h9 => h9) rfl (tyX12_ok 29 (by decide)) rfl rfl (Nat.le_of_ble_eq_true rfl) dX12_open_32 (tp_k (.inr (12, [.int o114_x0, .int o114_x1, .ref (ρ h0 2), .ref (ρ h0 3), .ref (ρ h0 4), .ref (ρ h0 5), .ref (ρ h0 6), .int o114_x7, .ref (ρ h0 8), .int o114_x9, .int o114_x10, .int o114_x11, .int o114_x12, .long o114_x13, .int o114_x14, .int o114_x15, .int o114_x16, .int o114_x17, .int o114_x18, .int o114_x19, .int o114_x20, .ref (ρ h0 21), .int o114_x22, .ref (ρ h0 23), .ref (ρ h0 24), .int o114_x25, .ref (ρ h0 26), .ref (ρ h0 27), .int o114_x28, .int z132, .ref (ρ h0 30), .ref (ρ h0 31), .int o114_x32, .long o114_x33, .long o114_x34, .long o114_x35, .int o114_x36, .int o114_x37, .int o114_x38, .ref (ρ h0 39), .ref (ρ h0 40), .ref (ρ h0 41), .ref (ρ h0 42), .ref (ρ h0 43), .ref (ρ h0 44), .ref (ρ h0 45), .ref (ρ h0 46), .int o114_x47, .int o114_x48, .ref (ρ h0 49), .ref (ρ h0 50), .ref (ρ h0 51), .ref (ρ h0 52)])) hD (tp_in hG ht_h0 (by decide)) eq126 (fun f133 H locs hP hD hS g135 k134 => ?_))
      have hT := hT.up ht_h0 g135 k134 ⟨_, _, _, _, _, _, _, _, _, _, _, _, _, _, _, _, _, _, _, _, _, _, _, _, _, _, _, _, rfl, ro114_0, ro114_1, ro114_2, ro114_3, ro114_4, ro114_5, ro114_6, ro114_7, ro114_8, ro114_9, ro114_10, ro114_11, ro114_12, ro114_13⟩
      have hR := hR.up ht_h0 (by decide) k134
      refine lv_aload_n hx hb dX12_open_35 rfl (lv_at hl 0 rfl) ?_
      refine lv_iload_n hx hb dX12_open_36 rfl (lv_at hl 1 rfl) ?_
      refine lv_iconst (v := 0) hx hb dX12_open_37 (by decide) ?_
      have hf_136 : f112 (ρ h0 26) = .inl (κ 0, 400, .inl g27) := (hF113 _ (by rw [y10]; decide)).trans hf_o26
      have hf_137 : f133 (ρ h0 26) = .inl (κ 0, 400, .inl g27) := (k134 _ (tp_ne y10 ht_h0 (by decide))).trans hf_136
      have tf138 : mo_i (f133 (ρ h0 26)) = g27 := tfa_i hf_137
      have tf139 : tp_fld (f133 h0) 28 = o114_x28.toInt := tff_28 g135
      have hf_140 : f112 (ρ h0 27) = .inl (κ 0, 400, .inl g30) := (hF113 _ (by rw [y11]; decide)).trans hf_o29
      have hf_141 : f133 (ρ h0 27) = .inl (κ 0, 400, .inl g30) := (k134 _ (tp_ne y11 ht_h0 (by decide))).trans hf_140
      have tf142 : mo_i (f133 (ρ h0 27)) = g30 := tfa_i hf_141
      have tf143 : tp_fld (f133 h0) 9 = o114_x9.toInt := tff_9 g135
      have tf144 : tp_fld (f133 h0) 10 = o114_x10.toInt := tff_10 g135
      have tf145 : tp_fld (f133 h0) 11 = o114_x11.toInt := tff_11 g135
      have tf146 : tp_fld (f133 h0) 12 = o114_x12.toInt := tff_12 g135
      have tf147 : mo_fj (f133 h0) 13 = o114_x13.toInt := tff_13 g135
      have tf148 : tp_fld (f133 h0) 15 = o114_x15.toInt := tff_15 g135
      have tf149 : tp_fld (f133 h0) 19 = o114_x19.toInt := tff_19 g135
      have tf150 : tp_fld (f133 h0) 20 = o114_x20.toInt := tff_20 g135
      have tf151 : tp_fld (f133 h0) 22 = o114_x22.toInt := tff_22 g135
      obtain ⟨q152, eq152⟩ := tp_pos (tp_in hG ht_h0 (by decide)) g135
      have hFc := tp_fr hD hS hA
      refine va_callv (va_runV (As := [.int v, .int 0]) (rest := []) ⟨hx, hb, hml, hown, hts⟩ (t_X12_push l dC dI _ κ τ ν ρ L f133 hG hT h0 v (0) ht_h0 (by first | (simp only [tf139, mo_i1, mo_l1]; exact (show o114_x28.toInt < 400 from by have : (0 : Int32).toInt = 0 := rfl; first | omega | decide)) | (rw [tf139]; exact (show o114_x28.toInt < 400 from by have : (0 : Int32).toInt = 0 := rfl; first | omega | decide)))) (cwV 2 hts gX12_open_X12_push rfl rfl rfl ⟨rfl, pd_X12_push⟩ ⟨Nat.le_of_ble_eq_true rfl, Nat.le_of_ble_eq_true rfl⟩) ⟨pz_blind, va_recv hK hP (ci := 12) (q0 := q152) rfl eq152, pz_pre hP hK hD hN⟩ rfl rfl hl.1 rfl (lv_room (Nat.le_of_ble_eq_true rfl)) dX12_open_38 ⟨Nat.le_of_ble_eq_true rfl, Nat.le_of_ble_eq_true rfl⟩) hS (fun q _ h => hFc q h) hFc (fun f155 t H1 locs ht hvm hw154 hB hz1 hk1 hS => ?_)
      obtain ⟨hT, hF156, hw154p⟩ := hw154
      have hR := hR.then hF156 (by decide)
      have hP := hB.1; rw [ht] at hP; have hD := tp_ad f155 hD; clear hB hFc hz1 hk1; subst ht; generalize t.heap = H at hP hS ⊢
      obtain ⟨g158, hf_o157⟩ := tpo_56 hT y10
      have tf159 : mo_i (f155 (ρ h0 26)) = g158 := tfa_i hf_o157
      obtain ⟨g161, hf_o160⟩ := tpo_57 hT y11
      have tf162 : mo_i (f155 (ρ h0 27)) = g161 := tfa_i hf_o160
      obtain ⟨o163_x0, o163_x1, o163_x7, o163_x9, o163_x10, o163_x11, o163_x12, o163_x13, o163_x14, o163_x15, o163_x16, o163_x17, o163_x18, o163_x19, o163_x20, o163_x22, o163_x25, o163_x28, o163_x29, o163_x32, o163_x33, o163_x34, o163_x35, o163_x36, o163_x37, o163_x38, o163_x47, o163_x48, hf_o163, ro163_0, ro163_1, ro163_2, ro163_3, ro163_4, ro163_5, ro163_6, ro163_7, ro163_8, ro163_9, ro163_10, ro163_11, ro163_12, ro163_13⟩ := tpo_13 hT ht_h0
      have tf164 : tp_fld (f155 h0) 28 = o163_x28.toInt := tff_28 hf_o163
      have tf165 : tp_fld (f155 h0) 9 = o163_x9.toInt := tff_9 hf_o163
      have tf166 : tp_fld (f155 h0) 10 = o163_x10.toInt := tff_10 hf_o163
      have tf167 : tp_fld (f155 h0) 11 = o163_x11.toInt := tff_11 hf_o163
      have tf168 : tp_fld (f155 h0) 12 = o163_x12.toInt := tff_12 hf_o163
      have tf169 : mo_fj (f155 h0) 13 = o163_x13.toInt := tff_13 hf_o163
      have tf170 : tp_fld (f155 h0) 15 = o163_x15.toInt := tff_15 hf_o163
      have tf171 : tp_fld (f155 h0) 19 = o163_x19.toInt := tff_19 hf_o163
      have tf172 : tp_fld (f155 h0) 20 = o163_x20.toInt := tff_20 hf_o163
      have tf173 : tp_fld (f155 h0) 22 = o163_x22.toInt := tff_22 hf_o163
      have tk174 : mo_U (mo_R g27) (mo_R g158) o114_x28.toInt v.toInt ∧ mo_U (mo_R g30) (mo_R g161) o114_x28.toInt (0 : Int) ∧ o163_x28.toInt = o114_x28.toInt + 1 ∧ o163_x9.toInt = o114_x9.toInt ∧ o163_x10.toInt = o114_x10.toInt ∧ o163_x11.toInt = o114_x11.toInt ∧ o163_x12.toInt = o114_x12.toInt ∧ o163_x13.toInt = o114_x13.toInt ∧ o163_x15.toInt = o114_x15.toInt ∧ o163_x19.toInt = o114_x19.toInt ∧ o163_x20.toInt = o114_x20.toInt ∧ o163_x22.toInt = o114_x22.toInt := by have q9 := hw154p; first | (simp only [tf138, tf159, tf139, tf142, tf162, tf164, tf165, tf143, tf166, tf144, tf167, tf145, tf168, tf146, tf169, tf147, tf170, tf148, tf171, tf149, tf172, tf150, tf173, tf151, mo_i1, mo_l1] at q9; exact q9) | (rw [tf138, tf159, tf139, tf142, tf162, tf164, tf165, tf143, tf166, tf144, tf167, tf145, tf168, tf146, tf169, tf147, tf170, tf148, tf171, tf149, tf172, tf150, tf173, tf151] at q9; exact q9)
      exact W.vret hx hb hr (fun t ht hW => ⟨⟨f155, rfl, ⟨hT, hR, (by first | (simp only [tf166, tf167, tf165, tf168, tf169, tf170, tf28, tf159, tf41, tf31, tf162, tf164, tf35, tf34, tf33, tf171, tf38, tf172, tf39, tf173, tf40, mo_i1, mo_l1]; exact (show (o163_x10.toInt ≤ o163_x11.toInt ∧ o163_x11.toInt ≤ o163_x9.toInt ∧ (o163_x12.toInt = 0 ∨ o163_x10.toInt < o163_x11.toInt) ∧ (o163_x12.toInt = 1 → o163_x11.toInt = o163_x10.toInt + 1 → o163_x13.toInt ≤ 26)) ∧ (o163_x15.toInt = 0 → mo_U (mo_R g27) (mo_R g158) o32_x28.toInt v.toInt ∧ mo_U (mo_R g30) (mo_R g161) o32_x28.toInt 0 ∧ o163_x28.toInt = o32_x28.toInt + 1 ∧ o32_x11.toInt ≤ o163_x10.toInt) ∧ (o163_x15.toInt ≠ 0 → (mo_R g158) = (mo_R g27) ∧ (mo_R g161) = (mo_R g30) ∧ o163_x28.toInt = o32_x28.toInt ∧ o163_x10.toInt = o32_x10.toInt) ∧ o163_x9.toInt = o32_x9.toInt ∧ o163_x19.toInt = o32_x19.toInt ∧ o163_x20.toInt = o32_x20.toInt ∧ o163_x22.toInt = o32_x22.toInt from ⟨by omega, fun _ => ⟨tk174.1, tk174.2.1, by omega, by omega⟩, fun q9 => by exfalso; omega, by omega, by omega, by omega, by omega⟩)) | (rw [tf166, tf167, tf165, tf168, tf169, tf170, tf28, tf159, tf41, tf31, tf162, tf164, tf35, tf34, tf33, tf171, tf38, tf172, tf39, tf173, tf40]; exact (show (o163_x10.toInt ≤ o163_x11.toInt ∧ o163_x11.toInt ≤ o163_x9.toInt ∧ (o163_x12.toInt = 0 ∨ o163_x10.toInt < o163_x11.toInt) ∧ (o163_x12.toInt = 1 → o163_x11.toInt = o163_x10.toInt + 1 → o163_x13.toInt ≤ 26)) ∧ (o163_x15.toInt = 0 → mo_U (mo_R g27) (mo_R g158) o32_x28.toInt v.toInt ∧ mo_U (mo_R g30) (mo_R g161) o32_x28.toInt 0 ∧ o163_x28.toInt = o32_x28.toInt + 1 ∧ o32_x11.toInt ≤ o163_x10.toInt) ∧ (o163_x15.toInt ≠ 0 → (mo_R g158) = (mo_R g27) ∧ (mo_R g161) = (mo_R g30) ∧ o163_x28.toInt = o32_x28.toInt ∧ o163_x10.toInt = o32_x10.toInt) ∧ o163_x9.toInt = o32_x9.toInt ∧ o163_x19.toInt = o32_x19.toInt ∧ o163_x20.toInt = o32_x20.toInt ∧ o163_x22.toInt = o32_x22.toInt from ⟨by omega, fun _ => ⟨tk174.1, tk174.2.1, by omega, by omega⟩, fun q9 => by exfalso; omega, by omega, by omega, by omega, by omega⟩)))⟩, by rw [ht]; exact hP, va_K.moved hW.alike hK, hD⟩, hS.F ht⟩) hS.2.2 dX12_open_41
set_option maxHeartbeats 4000000 in
set_option maxRecDepth 100000 in
theorem t_X12_readPart (l : Launch) (dC : Nat → ClassId) (dI : Nat → Nat → Nat) (sz : Nat) (κ : Nat → ClassId) (τ ν : Nat → Nat) (ρ : Nat → Nat → Nat) (L : List Nat) (f : Nat → va_E) (hG : tp_G τ ν ρ L) (hT : tp_T (mo_O κ) κ τ ν ρ f) (h0 : Nat) (aa : Int) (ht_h0 : τ h0 = 13) (h1 : ((tp_fld (f h0) 10) ≤ (tp_fld (f h0) 11) ∧ (tp_fld (f h0) 11) ≤ (tp_fld (f h0) 9) ∧ ((tp_fld (f h0) 12) = 0 ∨ (tp_fld (f h0) 10) < (tp_fld (f h0) 11)) ∧ ((tp_fld (f h0) 12) = 1 → (tp_fld (f h0) 11) = (tp_fld (f h0) 10) + 1 → (mo_fj (f h0) 13) ≤ 26))) (hb0 : (tp_fld (f h0) 15) = 0) (h2 : (tp_fld (f h0) 22) + (tp_fld (f h0) 28) ≤ (tp_fld (f h0) 10)) (h3 : mo_PV (mo_R (mo_i (f (ρ h0 26)))) (mo_R (mo_i (f (ρ h0 27)))) (tp_fld (f h0) 28)) (h4 : mo_EX aa 1 (mo_R (mo_i (f (ρ h0 23)))) (mo_R (mo_i (f (ρ h0 24)))) (mo_R (mo_i (f (ρ h0 26)))) (mo_R (mo_i (f (ρ h0 27)))) (tp_fld (f h0) 22) (tp_fld (f h0) 28)) : Met l yX12_readPart wqX12_readPart ({ frames := 6, cells := 0, slots := 0, locals := 2000 }) (va_Pc [.ref h0] (pz_B dC dI (tp_K κ) (va_pl L f) sz)) (va_Qi (fun (r : Int32) (f1 : Nat → va_E) => tp_T (mo_O κ) κ τ ν ρ f1 ∧ tp_F τ [13, 53, 54, 56, 57] f f1 ∧ (0 ≤ r.toInt ∧ r.toInt ≤ 4) ∧ ((tp_fld (f1 h0) 10) ≤ (tp_fld (f1 h0) 11) ∧ (tp_fld (f1 h0) 11) ≤ (tp_fld (f1 h0) 9) ∧ ((tp_fld (f1 h0) 12) = 0 ∨ (tp_fld (f1 h0) 10) < (tp_fld (f1 h0) 11)) ∧ ((tp_fld (f1 h0) 12) = 1 → (tp_fld (f1 h0) 11) = (tp_fld (f1 h0) 10) + 1 → (mo_fj (f1 h0) 13) ≤ 26)) ∧ (tp_fld (f1 h0) 22) + (tp_fld (f1 h0) 28) ≤ (tp_fld (f1 h0) 10) ∧ mo_PV (mo_R (mo_i (f1 (ρ h0 26)))) (mo_R (mo_i (f1 (ρ h0 27)))) (tp_fld (f1 h0) 28) ∧ ((tp_fld (f1 h0) 15) = 0 → mo_EX aa r.toInt (mo_R (mo_i (f1 (ρ h0 23)))) (mo_R (mo_i (f1 (ρ h0 24)))) (mo_R (mo_i (f1 (ρ h0 26)))) (mo_R (mo_i (f1 (ρ h0 27)))) (tp_fld (f1 h0) 22) (tp_fld (f1 h0) 28) ∧ mo_FR aa (mo_R (mo_i (f (ρ h0 23)))) (mo_R (mo_i (f (ρ h0 24)))) (mo_R (mo_i (f1 (ρ h0 23)))) (mo_R (mo_i (f1 (ρ h0 24)))) ∧ (r.toInt = 4 ∨ (tp_fld (f h0) 10) < (tp_fld (f1 h0) 10) ∨ ((tp_fld (f1 h0) 10) = (tp_fld (f h0) 10) ∧ r.toInt = 2))) ∧ (tp_fld (f h0) 22) ≤ (tp_fld (f1 h0) 22) ∧ (tp_fld (f1 h0) 9) = (tp_fld (f h0) 9) ∧ (tp_fld (f1 h0) 19) = (tp_fld (f h0) 19) ∧ (tp_fld (f1 h0) 20) = (tp_fld (f h0) 20)) (fun (f1 : Nat → va_E) (t : State) => pz_E dC dI (tp_K κ) (va_A (va_pl L f) sz) (va_pl L f1) t) (va_A (va_pl L f) sz)) 0 0 (va_A (va_pl L f) sz) := by
  refine Met.ofW (cc := cX12_readPart) (maxL := 4) (ret := some .int) (by decide) rfl ?_
  intro p e s m args below meth c s₁ B hml hv
  obtain ⟨rfl, hsz, hP, hK, hD0, hN⟩ := hv
  have hx := B.exec
  have hb := B.bytes
  have hr := B.returns
  have hts := fun (w : Cond) (h : w ∈ WALL) => atoms_spec (ws := wqX12_readPart) B.pre w (List.mem_cons_of_mem _ h)
  have hown : s.vm.findClass RX12 = some m.cls := findClass_of_methodNamed B.named
  have hlocks := B.notSynchronized
  subst hsz
  have hD := hD0.self (sz := s.heap.size)
  generalize hAe : va_A (va_pl L f) s.heap.size = A at hD ⊢
  have hA : ∀ q : Nat, s.heap.size ≤ q → A q := fun q h => by rw [← hAe]; exact Or.inr h
  have hS : va_S A s.heap s.heap [] := va_S.rf
  have hR : tp_F τ [13, 53, 54, 56, 57] f f := tp_F.rf
  have hl := lv_entry ([.ref h0]) (n := 4) (Nat.le_of_ble_eq_true rfl)
  rw [lg_entry_eq]
  generalize (lg_sl ([.ref h0]) ++ List.replicate (4 - (lg_sl ([.ref h0])).length) Slot.unset).toArray = ls at hl ⊢
  have hl : lv_has ls 4 [(0, .ref h0)] := hl
  obtain ⟨y1, y2, y3, y4, y5, y6, y7, y8, y9, y10, y11, y12, y13, y14, y15, y16, y17, y18, y19, y20, y21, y22, y23, y24, y25⟩ := tpg_13 hG ht_h0
  obtain ⟨g27, hf_o26⟩ := tpo_53 hT y8
  have tf28 : mo_i (f (ρ h0 23)) = g27 := tfa_i hf_o26
  obtain ⟨g30, hf_o29⟩ := tpo_54 hT y9
  have tf31 : mo_i (f (ρ h0 24)) = g30 := tfa_i hf_o29
  obtain ⟨g33, hf_o32⟩ := tpo_56 hT y10
  have tf34 : mo_i (f (ρ h0 26)) = g33 := tfa_i hf_o32
  obtain ⟨g36, hf_o35⟩ := tpo_57 hT y11
  have tf37 : mo_i (f (ρ h0 27)) = g36 := tfa_i hf_o35
  obtain ⟨o38_x0, o38_x1, o38_x7, o38_x9, o38_x10, o38_x11, o38_x12, o38_x13, o38_x14, o38_x15, o38_x16, o38_x17, o38_x18, o38_x19, o38_x20, o38_x22, o38_x25, o38_x28, o38_x29, o38_x32, o38_x33, o38_x34, o38_x35, o38_x36, o38_x37, o38_x38, o38_x47, o38_x48, hf_o38, ro38_0, ro38_1, ro38_2, ro38_3, ro38_4, ro38_5, ro38_6, ro38_7, ro38_8, ro38_9, ro38_10, ro38_11, ro38_12, ro38_13⟩ := tpo_13 hT ht_h0
  have tf39 : tp_fld (f h0) 9 = o38_x9.toInt := tff_9 hf_o38
  have tf40 : tp_fld (f h0) 10 = o38_x10.toInt := tff_10 hf_o38
  have tf41 : tp_fld (f h0) 11 = o38_x11.toInt := tff_11 hf_o38
  have tf42 : tp_fld (f h0) 12 = o38_x12.toInt := tff_12 hf_o38
  have tf43 : tp_fld (f h0) 15 = o38_x15.toInt := tff_15 hf_o38
  have tf44 : tp_fld (f h0) 19 = o38_x19.toInt := tff_19 hf_o38
  have tf45 : tp_fld (f h0) 20 = o38_x20.toInt := tff_20 hf_o38
  have tf46 : tp_fld (f h0) 22 = o38_x22.toInt := tff_22 hf_o38
  have tf47 : tp_fld (f h0) 28 = o38_x28.toInt := tff_28 hf_o38
  have tf48 : mo_fj (f h0) 13 = o38_x13.toInt := tff_13 hf_o38
  have h1 : (o38_x10.toInt ≤ o38_x11.toInt ∧ o38_x11.toInt ≤ o38_x9.toInt ∧ (o38_x12.toInt = 0 ∨ o38_x10.toInt < o38_x11.toInt) ∧ (o38_x12.toInt = 1 → o38_x11.toInt = o38_x10.toInt + 1 → o38_x13.toInt ≤ 26)) := by have q9 := h1; first | (simp only [tf40, tf41, tf39, tf42, tf48, mo_i1, mo_l1] at q9; exact q9) | (rw [tf40, tf41, tf39, tf42, tf48] at q9; exact q9)
  have hb0 : o38_x15.toInt = 0 := by have q9 := hb0; first | (simp only [tf43, mo_i1, mo_l1] at q9; exact q9) | (rw [tf43] at q9; exact q9)
  have h2 : o38_x22.toInt + o38_x28.toInt ≤ o38_x10.toInt := by have q9 := h2; first | (simp only [tf46, tf47, tf40, mo_i1, mo_l1] at q9; exact q9) | (rw [tf46, tf47, tf40] at q9; exact q9)
  have h3 : mo_PV (mo_R g33) (mo_R g36) o38_x28.toInt := by have q9 := h3; first | (simp only [tf34, tf37, tf47, mo_i1, mo_l1] at q9; exact q9) | (rw [tf34, tf37, tf47] at q9; exact q9)
  have h4 : mo_EX aa 1 (mo_R g27) (mo_R g30) (mo_R g33) (mo_R g36) o38_x22.toInt o38_x28.toInt := by have q9 := h4; first | (simp only [tf28, tf31, tf34, tf37, tf46, tf47, mo_i1, mo_l1] at q9; exact q9) | (rw [tf28, tf31, tf34, tf37, tf46, tf47] at q9; exact q9)
  refine lv_aload_n hx hb dX12_readPart_0 rfl (lv_at hl 0 rfl) ?_
  refine lv_bipush (v := 91) hx hb dX12_readPart_1 (by decide) ?_
  obtain ⟨q49, eq49⟩ := tp_pos (tp_in hG ht_h0 (by decide)) hf_o38
  refine pz_calli (va_runV (As := [.int 91]) (rest := []) ⟨hx, hb, hml, hown, hts⟩ (t_X12_isSign l dC dI _ κ τ ν ρ L f hG hT h0 (91) ht_h0) (cwV 1 hts gX12_readPart_X12_isSign rfl rfl rfl ⟨rfl, pd_X12_isSign⟩ ⟨Nat.le_of_ble_eq_true rfl, Nat.le_of_ble_eq_true rfl⟩) ⟨pz_blind, va_recv hK hP (ci := 12) (q0 := q49) rfl eq49, pz_pre hP hK hD hN⟩ rfl rfl hl.1 rfl (lv_room (Nat.le_of_ble_eq_true rfl)) dX12_readPart_3 ⟨Nat.le_of_ble_eq_true rfl, Nat.le_of_ble_eq_true rfl⟩) (fun r50 hw51 => ?_)
  obtain ⟨hw51r, hw51p⟩ := hw51
  have tk52 : (r50.toInt ≠ 0 → o38_x12.toInt = 3 ∧ o38_x13.toInt = (91 : Int)) := by have q9 := hw51p; first | (simp only [tf42, tf48, mo_i1, mo_l1] at q9; exact q9) | (rw [tf42, tf48] at q9; exact q9)
  refine lv_if_eq (tgt := 17) hx hb dX12_readPart_6 (by decide) (fun c53 => ?_) (fun c53 => ?_)
  · have ic53 : r50.toInt = 0 := zi_eq rfl rfl c53
    refine lv_aload_n hx hb dX12_readPart_17 rfl (lv_at hl 0 rfl) ?_
    refine pz_calli (va_runV (As := []) (rest := []) ⟨hx, hb, hml, hown, hts⟩ (t_X12_partAt l dC dI _ κ τ ν ρ L f hG hT h0 ht_h0) (cwV 0 hts gX12_readPart_X12_partAt rfl rfl rfl ⟨rfl, pd_X12_partAt⟩ ⟨Nat.le_of_ble_eq_true rfl, Nat.le_of_ble_eq_true rfl⟩) ⟨pz_blind, va_recv hK hP (ci := 12) (q0 := q49) rfl eq49, pz_pre hP hK hD hN⟩ rfl rfl hl.1 rfl (lv_room (Nat.le_of_ble_eq_true rfl)) dX12_readPart_18 ⟨Nat.le_of_ble_eq_true rfl, Nat.le_of_ble_eq_true rfl⟩) (fun r54 hw55 => ?_)
    obtain ⟨hw55r, hw55p⟩ := hw55
    have tk56 : (r54.toInt ≠ -1 → o38_x12.toInt = 1 ∧ 1 ≤ r54.toInt) := by have q9 := hw55p; first | (simp only [tf42, mo_i1, mo_l1] at q9; exact q9) | (rw [tf42] at q9; exact q9)
    refine lv_istore_n (lv' := [(1, .int r54), (0, .ref h0)]) hx hb dX12_readPart_21 rfl hl (by decide) rfl (fun ls hl => ?_)
    refine lv_aload_n hx hb dX12_readPart_22 rfl (lv_at hl 1 rfl) ?_
    refine va_get (D := (dC, dI)) (ci := 12) (v := .int o38_x12) (C := RX12) (T := TX12) (N := 53) hx hb hts hfX12 hown hK hP q49 eq49 rfl 12 (by decide) (hts (.fieldLink RX12 280 "ColdShipsModel" "sort" "I") wa_995) (fun _ h9 => h9) rfl dX12_readPart_23 ?_
    refine lv_iconst (v := 2) hx hb dX12_readPart_26 (by decide) ?_
    refine lv_icmp_ne (tgt := 45) hx hb dX12_readPart_27 (by decide) (fun c57 => ?_) (fun c57 => ?_)
    · have ic57 : o38_x12.toInt ≠ 2 := zi_ne rfl rfl c57
      refine lv_iconst (v := 0) hx hb dX12_readPart_45 (by decide) ?_
      refine lv_istore_n (lv' := [(2, .int 0), (1, .int r54), (0, .ref h0)]) hx hb dX12_readPart_46 rfl hl (by decide) rfl (fun ls hl => ?_)
      refine lv_iload_n hx hb dX12_readPart_47 rfl (lv_at hl 0 rfl) ?_
      refine lv_if_eq (tgt := 59) hx hb dX12_readPart_48 (by decide) (fun _ => ?_) (fun c9 => absurd c9 (by decide))
      refine lv_iconst (v := 0) hx hb dX12_readPart_59 (by decide) ?_
      refine lv_istore_n (lv' := [(3, .int 0), (2, .int 0), (1, .int r54), (0, .ref h0)]) hx hb dX12_readPart_60 rfl hl (by decide) rfl (fun ls hl => ?_)
      refine lv_aload_n hx hb dX12_readPart_61 rfl (lv_at hl 3 rfl) ?_
      refine lv_iload_n hx hb dX12_readPart_62 rfl (lv_at hl 2 rfl) ?_
      refine lv_iconst (v := (-1)) hx hb dX12_readPart_63 (by decide) ?_
      refine lv_icmp_ne (tgt := 71) hx hb dX12_readPart_64 (by decide) (fun c58 => ?_) (fun c58 => ?_)
      · have ic58 : r54.toInt ≠ (-1) := zi_ne rfl rfl c58
        refine lv_aload_n hx hb dX12_readPart_71 rfl (lv_at hl 3 rfl) ?_
        refine va_get (D := (dC, dI)) (ci := 12) (v := .int o38_x25) (C := RX12) (T := TX12) (N := 53) hx hb hts hfX12 hown hK hP q49 eq49 rfl 25 (by decide) (hts (.fieldLink RX12 351 "ColdShipsModel" "nLeaves" "I") wa_990) (fun _ h9 => h9) rfl dX12_readPart_72 ?_
        refine lv_bipush (v := 50) hx hb dX12_readPart_75 (by decide) ?_
        refine lv_icmp_ge (tgt := 84) hx hb dX12_readPart_77 (by decide) (fun c59 => ?_) (fun c59 => ?_)
        · have ic59 : o38_x25.toInt ≥ 50 := zi_ge rfl rfl c59
          refine lv_iconst (v := 0) hx hb dX12_readPart_84 (by decide) ?_
          have hFc := tp_fr hD hS hA
          refine va_callv (va_runV (As := [.int 0]) (rest := []) ⟨hx, hb, hml, hown, hts⟩ (t_X12_must l dC dI _ κ τ ν ρ L f hG hT h0 (0) ht_h0 (by first | decide | omega) (by first | (simp only [tf40, tf41, tf39, tf42, tf48, mo_i1, mo_l1]; exact (show (o38_x10.toInt ≤ o38_x11.toInt ∧ o38_x11.toInt ≤ o38_x9.toInt ∧ (o38_x12.toInt = 0 ∨ o38_x10.toInt < o38_x11.toInt) ∧ (o38_x12.toInt = 1 → o38_x11.toInt = o38_x10.toInt + 1 → o38_x13.toInt ≤ 26)) from by have : (0 : Int32).toInt = 0 := rfl; first | omega | decide)) | (rw [tf40, tf41, tf39, tf42, tf48]; exact (show (o38_x10.toInt ≤ o38_x11.toInt ∧ o38_x11.toInt ≤ o38_x9.toInt ∧ (o38_x12.toInt = 0 ∨ o38_x10.toInt < o38_x11.toInt) ∧ (o38_x12.toInt = 1 → o38_x11.toInt = o38_x10.toInt + 1 → o38_x13.toInt ≤ 26)) from by have : (0 : Int32).toInt = 0 := rfl; first | omega | decide)))) (cwV 1 hts gX12_readPart_X12_must rfl rfl rfl ⟨rfl, pd_X12_must⟩ ⟨Nat.le_of_ble_eq_true rfl, Nat.le_of_ble_eq_true rfl⟩) ⟨pz_blind, va_recv hK hP (ci := 12) (q0 := q49) rfl eq49, pz_pre hP hK hD hN⟩ rfl rfl hl.1 rfl (lv_room (Nat.le_of_ble_eq_true rfl)) dX12_readPart_85 ⟨Nat.le_of_ble_eq_true rfl, Nat.le_of_ble_eq_true rfl⟩) hS (fun q _ h => hFc q h) hFc (fun f62 t H1 locs ht hvm hw61 hB hz1 hk1 hS => ?_)
          obtain ⟨hT, hF63, hw61p⟩ := hw61
          have hR := hR.then hF63 (by decide)
          have hP := hB.1; rw [ht] at hP; have hD := tp_ad f62 hD; clear hB hFc hz1 hk1; subst ht; generalize t.heap = H at hP hS ⊢
          obtain ⟨o64_x0, o64_x1, o64_x7, o64_x9, o64_x10, o64_x11, o64_x12, o64_x13, o64_x14, o64_x15, o64_x16, o64_x17, o64_x18, o64_x19, o64_x20, o64_x22, o64_x25, o64_x28, o64_x29, o64_x32, o64_x33, o64_x34, o64_x35, o64_x36, o64_x37, o64_x38, o64_x47, o64_x48, hf_o64, ro64_0, ro64_1, ro64_2, ro64_3, ro64_4, ro64_5, ro64_6, ro64_7, ro64_8, ro64_9, ro64_10, ro64_11, ro64_12, ro64_13⟩ := tpo_13 hT ht_h0
          have tf65 : tp_fld (f62 h0) 10 = o64_x10.toInt := tff_10 hf_o64
          have tf66 : tp_fld (f62 h0) 11 = o64_x11.toInt := tff_11 hf_o64
          have tf67 : tp_fld (f62 h0) 9 = o64_x9.toInt := tff_9 hf_o64
          have tf68 : tp_fld (f62 h0) 12 = o64_x12.toInt := tff_12 hf_o64
          have tf69 : mo_fj (f62 h0) 13 = o64_x13.toInt := tff_13 hf_o64
          have tf70 : tp_fld (f62 h0) 15 = o64_x15.toInt := tff_15 hf_o64
          have tf71 : tp_fld (f62 h0) 19 = o64_x19.toInt := tff_19 hf_o64
          have tf72 : tp_fld (f62 h0) 20 = o64_x20.toInt := tff_20 hf_o64
          have tf73 : tp_fld (f62 h0) 22 = o64_x22.toInt := tff_22 hf_o64
          have tf74 : tp_fld (f62 h0) 28 = o64_x28.toInt := tff_28 hf_o64
          have tk75 : (o64_x10.toInt ≤ o64_x11.toInt ∧ o64_x11.toInt ≤ o64_x9.toInt ∧ (o64_x12.toInt = 0 ∨ o64_x10.toInt < o64_x11.toInt) ∧ (o64_x12.toInt = 1 → o64_x11.toInt = o64_x10.toInt + 1 → o64_x13.toInt ≤ 26)) ∧ (o64_x15.toInt = 0 → o38_x15.toInt = 0 ∧ o38_x11.toInt ≤ o64_x10.toInt ∧ (0 : Int) ≠ 0) ∧ (o64_x15.toInt ≠ 0 → o64_x10.toInt = o38_x10.toInt) ∧ o64_x9.toInt = o38_x9.toInt ∧ o64_x19.toInt = o38_x19.toInt ∧ o64_x20.toInt = o38_x20.toInt ∧ o64_x22.toInt = o38_x22.toInt ∧ o64_x28.toInt = o38_x28.toInt := by have q9 := hw61p; first | (simp only [tf65, tf66, tf67, tf68, tf69, tf70, tf43, tf41, tf40, tf39, tf71, tf44, tf72, tf45, tf73, tf46, tf74, tf47, mo_i1, mo_l1] at q9; exact q9) | (rw [tf65, tf66, tf67, tf68, tf69, tf70, tf43, tf41, tf40, tf39, tf71, tf44, tf72, tf45, tf73, tf46, tf74, tf47] at q9; exact q9)
          refine lv_aload_n hx hb dX12_readPart_88 rfl (lv_at hl 3 rfl) ?_
          obtain ⟨q76, eq76⟩ := tp_pos (tp_in hG ht_h0 (by decide)) hf_o64
          refine va_get (D := (dC, dI)) (ci := 12) (v := .int o64_x15) (C := RX12) (T := TX12) (N := 53) hx hb hts hfX12 hown hK hP q76 eq76 rfl 15 (by decide) (hts (.fieldLink RX12 261 "ColdShipsModel" "bad" "Z") wa_994) (fun _ h9 => h9) rfl dX12_readPart_89 ?_
          refine lv_if_ne (tgt := 120) hx hb dX12_readPart_92 (by decide) (fun c77 => ?_) (fun c77 => ?_)
          · have ic77 : o64_x15.toInt ≠ 0 := zi_ne rfl rfl c77
            refine lv_iconst (v := 3) hx hb dX12_readPart_120 (by decide) ?_
            have hf_78 : f62 (ρ h0 26) = .inl (κ 0, 400, .inl g33) := (hF63 _ (by rw [y10]; decide)).trans hf_o32
            have tf79 : mo_i (f62 (ρ h0 26)) = g33 := tfa_i hf_78
            have hf_80 : f62 (ρ h0 27) = .inl (κ 0, 400, .inl g36) := (hF63 _ (by rw [y11]; decide)).trans hf_o35
            have tf81 : mo_i (f62 (ρ h0 27)) = g36 := tfa_i hf_80
            have hf_82 : f62 (ρ h0 23) = .inl (κ 0, 400, .inl g27) := (hF63 _ (by rw [y8]; decide)).trans hf_o26
            have tf83 : mo_i (f62 (ρ h0 23)) = g27 := tfa_i hf_82
            have hf_84 : f62 (ρ h0 24) = .inl (κ 0, 400, .inl g30) := (hF63 _ (by rw [y9]; decide)).trans hf_o29
            have tf85 : mo_i (f62 (ρ h0 24)) = g30 := tfa_i hf_84
            exact W.iret (v := 3) hx hb hr (fun t ht hW => ⟨⟨3, f62, rfl, ⟨hT, hR, (by first | decide | omega), (by first | (simp only [tf65, tf66, tf67, tf68, tf69, tf73, tf74, tf79, tf81, tf70, tf83, tf85, tf28, tf31, tf40, tf46, tf39, tf71, tf44, tf72, tf45, mo_i1, mo_l1]; exact (show (o64_x10.toInt ≤ o64_x11.toInt ∧ o64_x11.toInt ≤ o64_x9.toInt ∧ (o64_x12.toInt = 0 ∨ o64_x10.toInt < o64_x11.toInt) ∧ (o64_x12.toInt = 1 → o64_x11.toInt = o64_x10.toInt + 1 → o64_x13.toInt ≤ 26)) ∧ o64_x22.toInt + o64_x28.toInt ≤ o64_x10.toInt ∧ mo_PV (mo_R g33) (mo_R g36) o64_x28.toInt ∧ (o64_x15.toInt = 0 → mo_EX aa (3 : Int32).toInt (mo_R g27) (mo_R g30) (mo_R g33) (mo_R g36) o64_x22.toInt o64_x28.toInt ∧ mo_FR aa (mo_R g27) (mo_R g30) (mo_R g27) (mo_R g30) ∧ ((3 : Int32).toInt = 4 ∨ o38_x10.toInt < o64_x10.toInt ∨ (o64_x10.toInt = o38_x10.toInt ∧ (3 : Int32).toInt = 2))) ∧ o38_x22.toInt ≤ o64_x22.toInt ∧ o64_x9.toInt = o38_x9.toInt ∧ o64_x19.toInt = o38_x19.toInt ∧ o64_x20.toInt = o38_x20.toInt from ⟨by omega, by omega, h3, fun q9 => by exfalso; omega, by omega, by omega, by omega, by omega⟩)) | (rw [tf65, tf66, tf67, tf68, tf69, tf73, tf74, tf79, tf81, tf70, tf83, tf85, tf28, tf31, tf40, tf46, tf39, tf71, tf44, tf72, tf45]; exact (show (o64_x10.toInt ≤ o64_x11.toInt ∧ o64_x11.toInt ≤ o64_x9.toInt ∧ (o64_x12.toInt = 0 ∨ o64_x10.toInt < o64_x11.toInt) ∧ (o64_x12.toInt = 1 → o64_x11.toInt = o64_x10.toInt + 1 → o64_x13.toInt ≤ 26)) ∧ o64_x22.toInt + o64_x28.toInt ≤ o64_x10.toInt ∧ mo_PV (mo_R g33) (mo_R g36) o64_x28.toInt ∧ (o64_x15.toInt = 0 → mo_EX aa (3 : Int32).toInt (mo_R g27) (mo_R g30) (mo_R g33) (mo_R g36) o64_x22.toInt o64_x28.toInt ∧ mo_FR aa (mo_R g27) (mo_R g30) (mo_R g27) (mo_R g30) ∧ ((3 : Int32).toInt = 4 ∨ o38_x10.toInt < o64_x10.toInt ∨ (o64_x10.toInt = o38_x10.toInt ∧ (3 : Int32).toInt = 2))) ∧ o38_x22.toInt ≤ o64_x22.toInt ∧ o64_x9.toInt = o38_x9.toInt ∧ o64_x19.toInt = o38_x19.toInt ∧ o64_x20.toInt = o38_x20.toInt from ⟨by omega, by omega, h3, fun q9 => by exfalso; omega, by omega, by omega, by omega, by omega⟩)))⟩, by rw [ht]; exact hP, va_K.moved hW.alike hK, hD⟩, hS.F ht⟩) hS.2.2 dX12_readPart_121
          · have ic77 : o64_x15.toInt = 0 := zi_nef rfl rfl c77
            refine lv_aload_n hx hb dX12_readPart_95 rfl (lv_at hl 3 rfl) ?_
            refine lv_iload_n hx hb dX12_readPart_96 rfl (lv_at hl 2 rfl) ?_
            refine lv_iconst (v := (-1)) hx hb dX12_readPart_97 (by decide) ?_
            refine lv_icmp_ne (tgt := 105) hx hb dX12_readPart_98 (by decide) (fun c86 => ?_) (fun c86 => ?_)
            · have ic86 : r54.toInt ≠ (-1) := zi_ne rfl rfl c86
              refine lv_iload_n hx hb dX12_readPart_105 rfl (lv_at hl 2 rfl) ?_
              refine lv_iload_n hx hb dX12_readPart_106 rfl (lv_at hl 0 rfl) ?_
              have hf_87 : f62 (ρ h0 23) = .inl (κ 0, 400, .inl g27) := (hF63 _ (by rw [y8]; decide)).trans hf_o26
              have tf88 : mo_i (f62 (ρ h0 23)) = g27 := tfa_i hf_87
              have hf_89 : f62 (ρ h0 24) = .inl (κ 0, 400, .inl g30) := (hF63 _ (by rw [y9]; decide)).trans hf_o29
              have tf90 : mo_i (f62 (ρ h0 24)) = g30 := tfa_i hf_89
              have hFc := tp_fr hD hS hA
              refine va_callv (va_runV (As := [.int r54, .int 0]) (rest := []) ⟨hx, hb, hml, hown, hts⟩ (t_X12_emit l dC dI _ κ τ ν ρ L f62 hG hT h0 r54 (0) ht_h0 (by first | (simp only [tf73, mo_i1, mo_l1]; exact (show o64_x22.toInt < 400 from by have : (0 : Int32).toInt = 0 := rfl; first | omega | decide)) | (rw [tf73]; exact (show o64_x22.toInt < 400 from by have : (0 : Int32).toInt = 0 := rfl; first | omega | decide)))) (cwV 2 hts gX12_readPart_X12_emit rfl rfl rfl ⟨rfl, pd_X12_emit⟩ ⟨Nat.le_of_ble_eq_true rfl, Nat.le_of_ble_eq_true rfl⟩) ⟨pz_blind, va_recv hK hP (ci := 12) (q0 := q76) rfl eq76, pz_pre hP hK hD hN⟩ rfl rfl hl.1 rfl (lv_room (Nat.le_of_ble_eq_true rfl)) dX12_readPart_107 ⟨Nat.le_of_ble_eq_true rfl, Nat.le_of_ble_eq_true rfl⟩) hS (fun q _ h => hFc q h) hFc (fun f93 t H1 locs ht hvm hw92 hB hz1 hk1 hS => ?_)
              obtain ⟨hT, hF94, hw92p⟩ := hw92
              have hR := hR.then hF94 (by decide)
              have hP := hB.1; rw [ht] at hP; have hD := tp_ad f93 hD; clear hB hFc hz1 hk1; subst ht; generalize t.heap = H at hP hS ⊢
              obtain ⟨g96, hf_o95⟩ := tpo_53 hT y8
              have tf97 : mo_i (f93 (ρ h0 23)) = g96 := tfa_i hf_o95
              obtain ⟨g99, hf_o98⟩ := tpo_54 hT y9
              have tf100 : mo_i (f93 (ρ h0 24)) = g99 := tfa_i hf_o98
              obtain ⟨o101_x0, o101_x1, o101_x7, o101_x9, o101_x10, o101_x11, o101_x12, o101_x13, o101_x14, o101_x15, o101_x16, o101_x17, o101_x18, o101_x19, o101_x20, o101_x22, o101_x25, o101_x28, o101_x29, o101_x32, o101_x33, o101_x34, o101_x35, o101_x36, o101_x37, o101_x38, o101_x47, o101_x48, hf_o101, ro101_0, ro101_1, ro101_2, ro101_3, ro101_4, ro101_5, ro101_6, ro101_7, ro101_8, ro101_9, ro101_10, ro101_11, ro101_12, ro101_13⟩ := tpo_13 hT ht_h0
              have tf102 : tp_fld (f93 h0) 22 = o101_x22.toInt := tff_22 hf_o101
              have tf103 : tp_fld (f93 h0) 9 = o101_x9.toInt := tff_9 hf_o101
              have tf104 : tp_fld (f93 h0) 10 = o101_x10.toInt := tff_10 hf_o101
              have tf105 : tp_fld (f93 h0) 11 = o101_x11.toInt := tff_11 hf_o101
              have tf106 : tp_fld (f93 h0) 12 = o101_x12.toInt := tff_12 hf_o101
              have tf107 : mo_fj (f93 h0) 13 = o101_x13.toInt := tff_13 hf_o101
              have tf108 : tp_fld (f93 h0) 15 = o101_x15.toInt := tff_15 hf_o101
              have tf109 : tp_fld (f93 h0) 19 = o101_x19.toInt := tff_19 hf_o101
              have tf110 : tp_fld (f93 h0) 20 = o101_x20.toInt := tff_20 hf_o101
              have tf111 : tp_fld (f93 h0) 28 = o101_x28.toInt := tff_28 hf_o101
              have tk112 : mo_U (mo_R g27) (mo_R g96) o64_x22.toInt r54.toInt ∧ mo_U (mo_R g30) (mo_R g99) o64_x22.toInt (0 : Int) ∧ o101_x22.toInt = o64_x22.toInt + 1 ∧ o101_x9.toInt = o64_x9.toInt ∧ o101_x10.toInt = o64_x10.toInt ∧ o101_x11.toInt = o64_x11.toInt ∧ o101_x12.toInt = o64_x12.toInt ∧ o101_x13.toInt = o64_x13.toInt ∧ o101_x15.toInt = o64_x15.toInt ∧ o101_x19.toInt = o64_x19.toInt ∧ o101_x20.toInt = o64_x20.toInt ∧ o101_x28.toInt = o64_x28.toInt := by have q9 := hw92p; first | (simp only [tf88, tf97, tf73, tf90, tf100, tf102, tf103, tf67, tf104, tf65, tf105, tf66, tf106, tf68, tf107, tf69, tf108, tf70, tf109, tf71, tf110, tf72, tf111, tf74, mo_i1, mo_l1] at q9; exact q9) | (rw [tf88, tf97, tf73, tf90, tf100, tf102, tf103, tf67, tf104, tf65, tf105, tf66, tf106, tf68, tf107, tf69, tf108, tf70, tf109, tf71, tf110, tf72, tf111, tf74] at q9; exact q9)
              refine lv_aload_n hx hb dX12_readPart_110 rfl (lv_at hl 3 rfl) ?_
              refine lv_dup hx hb dX12_readPart_111 rfl ?_
              obtain ⟨q113, eq113⟩ := tp_pos (tp_in hG ht_h0 (by decide)) hf_o101
              refine va_get (D := (dC, dI)) (ci := 12) (v := .int o101_x25) (C := RX12) (T := TX12) (N := 53) hx hb hts hfX12 hown hK hP q113 eq113 rfl 25 (by decide) (hts (.fieldLink RX12 351 "ColdShipsModel" "nLeaves" "I") wa_990) (fun _ h9 => h9) rfl dX12_readPart_112 ?_
              refine lv_iconst (v := 1) hx hb dX12_readPart_115 (by decide) ?_
              refine lv_iadd hx hb dX12_readPart_116 ?_
              refine lv_topi (fun z114 ez114 => ?_)
              refine va_put (D := (dC, dI)) (ci := 12) (v := .int z114) (ty := .int) (C := RX12) (T := TX12) (N := 53) hx hb hts hfX12 tyX12 tyX12_ok nmX12 hown hK hP hD hS q113 eq113 rfl 25 (by decide) (hts (.fieldLink RX12 351 "ColdShipsModel" "nLeaves" "I") wa_990) (fun _ h9 => h9) rfl (tyX12_ok 25 (by decide)) rfl rfl (Nat.le_of_ble_eq_true rfl) dX12_readPart_117 (tp_k (.inr (12, [.int o101_x0, .int o101_x1, .ref (ρ h0 2), .ref (ρ h0 3), .ref (ρ h0 4), .ref (ρ h0 5), .ref (ρ h0 6), .int o101_x7, .ref (ρ h0 8), .int o101_x9, .int o101_x10, .int o101_x11, .int o101_x12, .long o101_x13, .int o101_x14, .int o101_x15, .int o101_x16, .int o101_x17, .int o101_x18, .int o101_x19, .int o101_x20, .ref (ρ h0 21), .int o101_x22, .ref (ρ h0 23), .ref (ρ h0 24), .int z114, .ref (ρ h0 26), .ref (ρ h0 27), .int o101_x28, .int o101_x29, .ref (ρ h0 30), .ref (ρ h0 31), .int o101_x32, .long o101_x33, .long o101_x34, .long o101_x35, .int o101_x36, .int o101_x37, .int o101_x38, .ref (ρ h0 39), .ref (ρ h0 40), .ref (ρ h0 41), .ref (ρ h0 42), .ref (ρ h0 43), .ref (ρ h0 44), .ref (ρ h0 45), .ref (ρ h0 46), .int o101_x47, .int o101_x48, .ref (ρ h0 49), .ref (ρ h0 50), .ref (ρ h0 51), .ref (ρ h0 52)])) hD (tp_in hG ht_h0 (by decide)) eq113 (fun f115 H locs hP hD hS g117 k116 => ?_))
              have hT := hT.up ht_h0 g117 k116 ⟨_, _, _, _, _, _, _, _, _, _, _, _, _, _, _, _, _, _, _, _, _, _, _, _, _, _, _, _, rfl, ro101_0, ro101_1, ro101_2, ro101_3, ro101_4, ro101_5, ro101_6, ro101_7, ro101_8, ro101_9, ro101_10, ro101_11, ro101_12, ro101_13⟩
              have hR := hR.up ht_h0 (by decide) k116
              refine lv_iconst (v := 3) hx hb dX12_readPart_120 (by decide) ?_
              have tf118 : tp_fld (f115 h0) 10 = o101_x10.toInt := tff_10 g117
              have tf119 : tp_fld (f115 h0) 11 = o101_x11.toInt := tff_11 g117
              have tf120 : tp_fld (f115 h0) 9 = o101_x9.toInt := tff_9 g117
              have tf121 : tp_fld (f115 h0) 12 = o101_x12.toInt := tff_12 g117
              have tf122 : mo_fj (f115 h0) 13 = o101_x13.toInt := tff_13 g117
              have tf123 : tp_fld (f115 h0) 22 = o101_x22.toInt := tff_22 g117
              have tf124 : tp_fld (f115 h0) 28 = o101_x28.toInt := tff_28 g117
              have hf_125 : f62 (ρ h0 26) = .inl (κ 0, 400, .inl g33) := (hF63 _ (by rw [y10]; decide)).trans hf_o32
              have hf_126 : f93 (ρ h0 26) = .inl (κ 0, 400, .inl g33) := (hF94 _ (by rw [y10]; decide)).trans hf_125
              have hf_127 : f115 (ρ h0 26) = .inl (κ 0, 400, .inl g33) := (k116 _ (tp_ne y10 ht_h0 (by decide))).trans hf_126
              have tf128 : mo_i (f115 (ρ h0 26)) = g33 := tfa_i hf_127
              have hf_129 : f62 (ρ h0 27) = .inl (κ 0, 400, .inl g36) := (hF63 _ (by rw [y11]; decide)).trans hf_o35
              have hf_130 : f93 (ρ h0 27) = .inl (κ 0, 400, .inl g36) := (hF94 _ (by rw [y11]; decide)).trans hf_129
              have hf_131 : f115 (ρ h0 27) = .inl (κ 0, 400, .inl g36) := (k116 _ (tp_ne y11 ht_h0 (by decide))).trans hf_130
              have tf132 : mo_i (f115 (ρ h0 27)) = g36 := tfa_i hf_131
              have tf133 : tp_fld (f115 h0) 15 = o101_x15.toInt := tff_15 g117
              have hf_134 : f115 (ρ h0 23) = .inl (κ 0, 400, .inl g96) := (k116 _ (tp_ne y8 ht_h0 (by decide))).trans hf_o95
              have tf135 : mo_i (f115 (ρ h0 23)) = g96 := tfa_i hf_134
              have hf_136 : f115 (ρ h0 24) = .inl (κ 0, 400, .inl g99) := (k116 _ (tp_ne y9 ht_h0 (by decide))).trans hf_o98
              have tf137 : mo_i (f115 (ρ h0 24)) = g99 := tfa_i hf_136
              have tf138 : tp_fld (f115 h0) 19 = o101_x19.toInt := tff_19 g117
              have tf139 : tp_fld (f115 h0) 20 = o101_x20.toInt := tff_20 g117
              exact W.iret (v := 3) hx hb hr (fun t ht hW => ⟨⟨3, f115, rfl, ⟨hT, hR, (by first | decide | omega), (by first | (simp only [tf118, tf119, tf120, tf121, tf122, tf123, tf124, tf128, tf132, tf133, tf135, tf137, tf28, tf31, tf40, tf46, tf39, tf138, tf44, tf139, tf45, mo_i1, mo_l1]; exact (show (o101_x10.toInt ≤ o101_x11.toInt ∧ o101_x11.toInt ≤ o101_x9.toInt ∧ (o101_x12.toInt = 0 ∨ o101_x10.toInt < o101_x11.toInt) ∧ (o101_x12.toInt = 1 → o101_x11.toInt = o101_x10.toInt + 1 → o101_x13.toInt ≤ 26)) ∧ o101_x22.toInt + o101_x28.toInt ≤ o101_x10.toInt ∧ mo_PV (mo_R g33) (mo_R g36) o101_x28.toInt ∧ (o101_x15.toInt = 0 → mo_EX aa (3 : Int32).toInt (mo_R g96) (mo_R g99) (mo_R g33) (mo_R g36) o101_x22.toInt o101_x28.toInt ∧ mo_FR aa (mo_R g27) (mo_R g30) (mo_R g96) (mo_R g99) ∧ ((3 : Int32).toInt = 4 ∨ o38_x10.toInt < o101_x10.toInt ∨ (o101_x10.toInt = o38_x10.toInt ∧ (3 : Int32).toInt = 2))) ∧ o38_x22.toInt ≤ o101_x22.toInt ∧ o101_x9.toInt = o38_x9.toInt ∧ o101_x19.toInt = o38_x19.toInt ∧ o101_x20.toInt = o38_x20.toInt from ⟨by omega, by omega, h3, fun q9 => ⟨(h4.leaf (by decide) (by omega) tk112.1 tk112.2.1 (by omega) (by omega)), (mo_FR.emit tk112.1 tk112.2.1 (h4.pj0 (by decide)).base), by have q8 : (3 : Int32).toInt = 3 := rfl; omega⟩, by omega, by omega, by omega, by omega⟩)) | (rw [tf118, tf119, tf120, tf121, tf122, tf123, tf124, tf128, tf132, tf133, tf135, tf137, tf28, tf31, tf40, tf46, tf39, tf138, tf44, tf139, tf45]; exact (show (o101_x10.toInt ≤ o101_x11.toInt ∧ o101_x11.toInt ≤ o101_x9.toInt ∧ (o101_x12.toInt = 0 ∨ o101_x10.toInt < o101_x11.toInt) ∧ (o101_x12.toInt = 1 → o101_x11.toInt = o101_x10.toInt + 1 → o101_x13.toInt ≤ 26)) ∧ o101_x22.toInt + o101_x28.toInt ≤ o101_x10.toInt ∧ mo_PV (mo_R g33) (mo_R g36) o101_x28.toInt ∧ (o101_x15.toInt = 0 → mo_EX aa (3 : Int32).toInt (mo_R g96) (mo_R g99) (mo_R g33) (mo_R g36) o101_x22.toInt o101_x28.toInt ∧ mo_FR aa (mo_R g27) (mo_R g30) (mo_R g96) (mo_R g99) ∧ ((3 : Int32).toInt = 4 ∨ o38_x10.toInt < o101_x10.toInt ∨ (o101_x10.toInt = o38_x10.toInt ∧ (3 : Int32).toInt = 2))) ∧ o38_x22.toInt ≤ o101_x22.toInt ∧ o101_x9.toInt = o38_x9.toInt ∧ o101_x19.toInt = o38_x19.toInt ∧ o101_x20.toInt = o38_x20.toInt from ⟨by omega, by omega, h3, fun q9 => ⟨(h4.leaf (by decide) (by omega) tk112.1 tk112.2.1 (by omega) (by omega)), (mo_FR.emit tk112.1 tk112.2.1 (h4.pj0 (by decide)).base), by have q8 : (3 : Int32).toInt = 3 := rfl; omega⟩, by omega, by omega, by omega, by omega⟩)))⟩, by rw [ht]; exact hP, va_K.moved hW.alike hK, hD⟩, hS.F ht⟩) hS.2.2 dX12_readPart_121
            · have ic86 : r54.toInt = (-1) := zi_nef rfl rfl c86
              exfalso; omega
        · have ic59 : o38_x25.toInt < 50 := zi_gef rfl rfl c59
          refine lv_iconst (v := 1) hx hb dX12_readPart_80 (by decide) ?_
          refine lv_goto (tgt := 85) hx hb dX12_readPart_81 (by decide) ?_
          have hFc := tp_fr hD hS hA
          refine va_callv (va_runV (As := [.int 1]) (rest := []) ⟨hx, hb, hml, hown, hts⟩ (t_X12_must l dC dI _ κ τ ν ρ L f hG hT h0 (1) ht_h0 (by first | decide | omega) (by first | (simp only [tf40, tf41, tf39, tf42, tf48, mo_i1, mo_l1]; exact (show (o38_x10.toInt ≤ o38_x11.toInt ∧ o38_x11.toInt ≤ o38_x9.toInt ∧ (o38_x12.toInt = 0 ∨ o38_x10.toInt < o38_x11.toInt) ∧ (o38_x12.toInt = 1 → o38_x11.toInt = o38_x10.toInt + 1 → o38_x13.toInt ≤ 26)) from by have : (1 : Int32).toInt = 1 := rfl; first | omega | decide)) | (rw [tf40, tf41, tf39, tf42, tf48]; exact (show (o38_x10.toInt ≤ o38_x11.toInt ∧ o38_x11.toInt ≤ o38_x9.toInt ∧ (o38_x12.toInt = 0 ∨ o38_x10.toInt < o38_x11.toInt) ∧ (o38_x12.toInt = 1 → o38_x11.toInt = o38_x10.toInt + 1 → o38_x13.toInt ≤ 26)) from by have : (1 : Int32).toInt = 1 := rfl; first | omega | decide)))) (cwV 1 hts gX12_readPart_X12_must rfl rfl rfl ⟨rfl, pd_X12_must⟩ ⟨Nat.le_of_ble_eq_true rfl, Nat.le_of_ble_eq_true rfl⟩) ⟨pz_blind, va_recv hK hP (ci := 12) (q0 := q49) rfl eq49, pz_pre hP hK hD hN⟩ rfl rfl hl.1 rfl (lv_room (Nat.le_of_ble_eq_true rfl)) dX12_readPart_85 ⟨Nat.le_of_ble_eq_true rfl, Nat.le_of_ble_eq_true rfl⟩) hS (fun q _ h => hFc q h) hFc (fun f142 t H1 locs ht hvm hw141 hB hz1 hk1 hS => ?_)
          obtain ⟨hT, hF143, hw141p⟩ := hw141
          have hR := hR.then hF143 (by decide)
          have hP := hB.1; rw [ht] at hP; have hD := tp_ad f142 hD; clear hB hFc hz1 hk1; subst ht; generalize t.heap = H at hP hS ⊢
          obtain ⟨o144_x0, o144_x1, o144_x7, o144_x9, o144_x10, o144_x11, o144_x12, o144_x13, o144_x14, o144_x15, o144_x16, o144_x17, o144_x18, o144_x19, o144_x20, o144_x22, o144_x25, o144_x28, o144_x29, o144_x32, o144_x33, o144_x34, o144_x35, o144_x36, o144_x37, o144_x38, o144_x47, o144_x48, hf_o144, ro144_0, ro144_1, ro144_2, ro144_3, ro144_4, ro144_5, ro144_6, ro144_7, ro144_8, ro144_9, ro144_10, ro144_11, ro144_12, ro144_13⟩ := tpo_13 hT ht_h0
          have tf145 : tp_fld (f142 h0) 10 = o144_x10.toInt := tff_10 hf_o144
          have tf146 : tp_fld (f142 h0) 11 = o144_x11.toInt := tff_11 hf_o144
          have tf147 : tp_fld (f142 h0) 9 = o144_x9.toInt := tff_9 hf_o144
          have tf148 : tp_fld (f142 h0) 12 = o144_x12.toInt := tff_12 hf_o144
          have tf149 : mo_fj (f142 h0) 13 = o144_x13.toInt := tff_13 hf_o144
          have tf150 : tp_fld (f142 h0) 15 = o144_x15.toInt := tff_15 hf_o144
          have tf151 : tp_fld (f142 h0) 19 = o144_x19.toInt := tff_19 hf_o144
          have tf152 : tp_fld (f142 h0) 20 = o144_x20.toInt := tff_20 hf_o144
          have tf153 : tp_fld (f142 h0) 22 = o144_x22.toInt := tff_22 hf_o144
          have tf154 : tp_fld (f142 h0) 28 = o144_x28.toInt := tff_28 hf_o144
          have tk155 : (o144_x10.toInt ≤ o144_x11.toInt ∧ o144_x11.toInt ≤ o144_x9.toInt ∧ (o144_x12.toInt = 0 ∨ o144_x10.toInt < o144_x11.toInt) ∧ (o144_x12.toInt = 1 → o144_x11.toInt = o144_x10.toInt + 1 → o144_x13.toInt ≤ 26)) ∧ (o144_x15.toInt = 0 → o38_x15.toInt = 0 ∧ o38_x11.toInt ≤ o144_x10.toInt ∧ (1 : Int) ≠ 0) ∧ (o144_x15.toInt ≠ 0 → o144_x10.toInt = o38_x10.toInt) ∧ o144_x9.toInt = o38_x9.toInt ∧ o144_x19.toInt = o38_x19.toInt ∧ o144_x20.toInt = o38_x20.toInt ∧ o144_x22.toInt = o38_x22.toInt ∧ o144_x28.toInt = o38_x28.toInt := by have q9 := hw141p; first | (simp only [tf145, tf146, tf147, tf148, tf149, tf150, tf43, tf41, tf40, tf39, tf151, tf44, tf152, tf45, tf153, tf46, tf154, tf47, mo_i1, mo_l1] at q9; exact q9) | (rw [tf145, tf146, tf147, tf148, tf149, tf150, tf43, tf41, tf40, tf39, tf151, tf44, tf152, tf45, tf153, tf46, tf154, tf47] at q9; exact q9)
          refine lv_aload_n hx hb dX12_readPart_88 rfl (lv_at hl 3 rfl) ?_
          obtain ⟨q156, eq156⟩ := tp_pos (tp_in hG ht_h0 (by decide)) hf_o144
          refine va_get (D := (dC, dI)) (ci := 12) (v := .int o144_x15) (C := RX12) (T := TX12) (N := 53) hx hb hts hfX12 hown hK hP q156 eq156 rfl 15 (by decide) (hts (.fieldLink RX12 261 "ColdShipsModel" "bad" "Z") wa_994) (fun _ h9 => h9) rfl dX12_readPart_89 ?_
          refine lv_if_ne (tgt := 120) hx hb dX12_readPart_92 (by decide) (fun c157 => ?_) (fun c157 => ?_)
          · have ic157 : o144_x15.toInt ≠ 0 := zi_ne rfl rfl c157
            refine lv_iconst (v := 3) hx hb dX12_readPart_120 (by decide) ?_
            have hf_158 : f142 (ρ h0 26) = .inl (κ 0, 400, .inl g33) := (hF143 _ (by rw [y10]; decide)).trans hf_o32
            have tf159 : mo_i (f142 (ρ h0 26)) = g33 := tfa_i hf_158
            have hf_160 : f142 (ρ h0 27) = .inl (κ 0, 400, .inl g36) := (hF143 _ (by rw [y11]; decide)).trans hf_o35
            have tf161 : mo_i (f142 (ρ h0 27)) = g36 := tfa_i hf_160
            have hf_162 : f142 (ρ h0 23) = .inl (κ 0, 400, .inl g27) := (hF143 _ (by rw [y8]; decide)).trans hf_o26
            have tf163 : mo_i (f142 (ρ h0 23)) = g27 := tfa_i hf_162
            have hf_164 : f142 (ρ h0 24) = .inl (κ 0, 400, .inl g30) := (hF143 _ (by rw [y9]; decide)).trans hf_o29
            have tf165 : mo_i (f142 (ρ h0 24)) = g30 := tfa_i hf_164
            exact W.iret (v := 3) hx hb hr (fun t ht hW => ⟨⟨3, f142, rfl, ⟨hT, hR, (by first | decide | omega), (by first | (simp only [tf145, tf146, tf147, tf148, tf149, tf153, tf154, tf159, tf161, tf150, tf163, tf165, tf28, tf31, tf40, tf46, tf39, tf151, tf44, tf152, tf45, mo_i1, mo_l1]; exact (show (o144_x10.toInt ≤ o144_x11.toInt ∧ o144_x11.toInt ≤ o144_x9.toInt ∧ (o144_x12.toInt = 0 ∨ o144_x10.toInt < o144_x11.toInt) ∧ (o144_x12.toInt = 1 → o144_x11.toInt = o144_x10.toInt + 1 → o144_x13.toInt ≤ 26)) ∧ o144_x22.toInt + o144_x28.toInt ≤ o144_x10.toInt ∧ mo_PV (mo_R g33) (mo_R g36) o144_x28.toInt ∧ (o144_x15.toInt = 0 → mo_EX aa (3 : Int32).toInt (mo_R g27) (mo_R g30) (mo_R g33) (mo_R g36) o144_x22.toInt o144_x28.toInt ∧ mo_FR aa (mo_R g27) (mo_R g30) (mo_R g27) (mo_R g30) ∧ ((3 : Int32).toInt = 4 ∨ o38_x10.toInt < o144_x10.toInt ∨ (o144_x10.toInt = o38_x10.toInt ∧ (3 : Int32).toInt = 2))) ∧ o38_x22.toInt ≤ o144_x22.toInt ∧ o144_x9.toInt = o38_x9.toInt ∧ o144_x19.toInt = o38_x19.toInt ∧ o144_x20.toInt = o38_x20.toInt from ⟨by omega, by omega, h3, fun q9 => by exfalso; omega, by omega, by omega, by omega, by omega⟩)) | (rw [tf145, tf146, tf147, tf148, tf149, tf153, tf154, tf159, tf161, tf150, tf163, tf165, tf28, tf31, tf40, tf46, tf39, tf151, tf44, tf152, tf45]; exact (show (o144_x10.toInt ≤ o144_x11.toInt ∧ o144_x11.toInt ≤ o144_x9.toInt ∧ (o144_x12.toInt = 0 ∨ o144_x10.toInt < o144_x11.toInt) ∧ (o144_x12.toInt = 1 → o144_x11.toInt = o144_x10.toInt + 1 → o144_x13.toInt ≤ 26)) ∧ o144_x22.toInt + o144_x28.toInt ≤ o144_x10.toInt ∧ mo_PV (mo_R g33) (mo_R g36) o144_x28.toInt ∧ (o144_x15.toInt = 0 → mo_EX aa (3 : Int32).toInt (mo_R g27) (mo_R g30) (mo_R g33) (mo_R g36) o144_x22.toInt o144_x28.toInt ∧ mo_FR aa (mo_R g27) (mo_R g30) (mo_R g27) (mo_R g30) ∧ ((3 : Int32).toInt = 4 ∨ o38_x10.toInt < o144_x10.toInt ∨ (o144_x10.toInt = o38_x10.toInt ∧ (3 : Int32).toInt = 2))) ∧ o38_x22.toInt ≤ o144_x22.toInt ∧ o144_x9.toInt = o38_x9.toInt ∧ o144_x19.toInt = o38_x19.toInt ∧ o144_x20.toInt = o38_x20.toInt from ⟨by omega, by omega, h3, fun q9 => by exfalso; omega, by omega, by omega, by omega, by omega⟩)))⟩, by rw [ht]; exact hP, va_K.moved hW.alike hK, hD⟩, hS.F ht⟩) hS.2.2 dX12_readPart_121
          · have ic157 : o144_x15.toInt = 0 := zi_nef rfl rfl c157
            refine lv_aload_n hx hb dX12_readPart_95 rfl (lv_at hl 3 rfl) ?_
            refine lv_iload_n hx hb dX12_readPart_96 rfl (lv_at hl 2 rfl) ?_
            refine lv_iconst (v := (-1)) hx hb dX12_readPart_97 (by decide) ?_
            refine lv_icmp_ne (tgt := 105) hx hb dX12_readPart_98 (by decide) (fun c166 => ?_) (fun c166 => ?_)
            · have ic166 : r54.toInt ≠ (-1) := zi_ne rfl rfl c166
              refine lv_iload_n hx hb dX12_readPart_105 rfl (lv_at hl 2 rfl) ?_
              refine lv_iload_n hx hb dX12_readPart_106 rfl (lv_at hl 0 rfl) ?_
              have hf_167 : f142 (ρ h0 23) = .inl (κ 0, 400, .inl g27) := (hF143 _ (by rw [y8]; decide)).trans hf_o26
              have tf168 : mo_i (f142 (ρ h0 23)) = g27 := tfa_i hf_167
              have hf_169 : f142 (ρ h0 24) = .inl (κ 0, 400, .inl g30) := (hF143 _ (by rw [y9]; decide)).trans hf_o29
              have tf170 : mo_i (f142 (ρ h0 24)) = g30 := tfa_i hf_169
              have hFc := tp_fr hD hS hA
              refine va_callv (va_runV (As := [.int r54, .int 0]) (rest := []) ⟨hx, hb, hml, hown, hts⟩ (t_X12_emit l dC dI _ κ τ ν ρ L f142 hG hT h0 r54 (0) ht_h0 (by first | (simp only [tf153, mo_i1, mo_l1]; exact (show o144_x22.toInt < 400 from by have : (0 : Int32).toInt = 0 := rfl; first | omega | decide)) | (rw [tf153]; exact (show o144_x22.toInt < 400 from by have : (0 : Int32).toInt = 0 := rfl; first | omega | decide)))) (cwV 2 hts gX12_readPart_X12_emit rfl rfl rfl ⟨rfl, pd_X12_emit⟩ ⟨Nat.le_of_ble_eq_true rfl, Nat.le_of_ble_eq_true rfl⟩) ⟨pz_blind, va_recv hK hP (ci := 12) (q0 := q156) rfl eq156, pz_pre hP hK hD hN⟩ rfl rfl hl.1 rfl (lv_room (Nat.le_of_ble_eq_true rfl)) dX12_readPart_107 ⟨Nat.le_of_ble_eq_true rfl, Nat.le_of_ble_eq_true rfl⟩) hS (fun q _ h => hFc q h) hFc (fun f173 t H1 locs ht hvm hw172 hB hz1 hk1 hS => ?_)
              obtain ⟨hT, hF174, hw172p⟩ := hw172
              have hR := hR.then hF174 (by decide)
              have hP := hB.1; rw [ht] at hP; have hD := tp_ad f173 hD; clear hB hFc hz1 hk1; subst ht; generalize t.heap = H at hP hS ⊢
              obtain ⟨g176, hf_o175⟩ := tpo_53 hT y8
              have tf177 : mo_i (f173 (ρ h0 23)) = g176 := tfa_i hf_o175
              obtain ⟨g179, hf_o178⟩ := tpo_54 hT y9
              have tf180 : mo_i (f173 (ρ h0 24)) = g179 := tfa_i hf_o178
              obtain ⟨o181_x0, o181_x1, o181_x7, o181_x9, o181_x10, o181_x11, o181_x12, o181_x13, o181_x14, o181_x15, o181_x16, o181_x17, o181_x18, o181_x19, o181_x20, o181_x22, o181_x25, o181_x28, o181_x29, o181_x32, o181_x33, o181_x34, o181_x35, o181_x36, o181_x37, o181_x38, o181_x47, o181_x48, hf_o181, ro181_0, ro181_1, ro181_2, ro181_3, ro181_4, ro181_5, ro181_6, ro181_7, ro181_8, ro181_9, ro181_10, ro181_11, ro181_12, ro181_13⟩ := tpo_13 hT ht_h0
              have tf182 : tp_fld (f173 h0) 22 = o181_x22.toInt := tff_22 hf_o181
              have tf183 : tp_fld (f173 h0) 9 = o181_x9.toInt := tff_9 hf_o181
              have tf184 : tp_fld (f173 h0) 10 = o181_x10.toInt := tff_10 hf_o181
              have tf185 : tp_fld (f173 h0) 11 = o181_x11.toInt := tff_11 hf_o181
              have tf186 : tp_fld (f173 h0) 12 = o181_x12.toInt := tff_12 hf_o181
              have tf187 : mo_fj (f173 h0) 13 = o181_x13.toInt := tff_13 hf_o181
              have tf188 : tp_fld (f173 h0) 15 = o181_x15.toInt := tff_15 hf_o181
              have tf189 : tp_fld (f173 h0) 19 = o181_x19.toInt := tff_19 hf_o181
              have tf190 : tp_fld (f173 h0) 20 = o181_x20.toInt := tff_20 hf_o181
              have tf191 : tp_fld (f173 h0) 28 = o181_x28.toInt := tff_28 hf_o181
              have tk192 : mo_U (mo_R g27) (mo_R g176) o144_x22.toInt r54.toInt ∧ mo_U (mo_R g30) (mo_R g179) o144_x22.toInt (0 : Int) ∧ o181_x22.toInt = o144_x22.toInt + 1 ∧ o181_x9.toInt = o144_x9.toInt ∧ o181_x10.toInt = o144_x10.toInt ∧ o181_x11.toInt = o144_x11.toInt ∧ o181_x12.toInt = o144_x12.toInt ∧ o181_x13.toInt = o144_x13.toInt ∧ o181_x15.toInt = o144_x15.toInt ∧ o181_x19.toInt = o144_x19.toInt ∧ o181_x20.toInt = o144_x20.toInt ∧ o181_x28.toInt = o144_x28.toInt := by have q9 := hw172p; first | (simp only [tf168, tf177, tf153, tf170, tf180, tf182, tf183, tf147, tf184, tf145, tf185, tf146, tf186, tf148, tf187, tf149, tf188, tf150, tf189, tf151, tf190, tf152, tf191, tf154, mo_i1, mo_l1] at q9; exact q9) | (rw [tf168, tf177, tf153, tf170, tf180, tf182, tf183, tf147, tf184, tf145, tf185, tf146, tf186, tf148, tf187, tf149, tf188, tf150, tf189, tf151, tf190, tf152, tf191, tf154] at q9; exact q9)
              refine lv_aload_n hx hb dX12_readPart_110 rfl (lv_at hl 3 rfl) ?_
              refine lv_dup hx hb dX12_readPart_111 rfl ?_
              obtain ⟨q193, eq193⟩ := tp_pos (tp_in hG ht_h0 (by decide)) hf_o181
              refine va_get (D := (dC, dI)) (ci := 12) (v := .int o181_x25) (C := RX12) (T := TX12) (N := 53) hx hb hts hfX12 hown hK hP q193 eq193 rfl 25 (by decide) (hts (.fieldLink RX12 351 "ColdShipsModel" "nLeaves" "I") wa_990) (fun _ h9 => h9) rfl dX12_readPart_112 ?_
              refine lv_iconst (v := 1) hx hb dX12_readPart_115 (by decide) ?_
              refine lv_iadd hx hb dX12_readPart_116 ?_
              refine lv_topi (fun z194 ez194 => ?_)
              refine va_put (D := (dC, dI)) (ci := 12) (v := .int z194) (ty := .int) (C := RX12) (T := TX12) (N := 53) hx hb hts hfX12 tyX12 tyX12_ok nmX12 hown hK hP hD hS q193 eq193 rfl 25 (by decide) (hts (.fieldLink RX12 351 "ColdShipsModel" "nLeaves" "I") wa_990) (fun _ h9 => h9) rfl (tyX12_ok 25 (by decide)) rfl rfl (Nat.le_of_ble_eq_true rfl) dX12_readPart_117 (tp_k (.inr (12, [.int o181_x0, .int o181_x1, .ref (ρ h0 2), .ref (ρ h0 3), .ref (ρ h0 4), .ref (ρ h0 5), .ref (ρ h0 6), .int o181_x7, .ref (ρ h0 8), .int o181_x9, .int o181_x10, .int o181_x11, .int o181_x12, .long o181_x13, .int o181_x14, .int o181_x15, .int o181_x16, .int o181_x17, .int o181_x18, .int o181_x19, .int o181_x20, .ref (ρ h0 21), .int o181_x22, .ref (ρ h0 23), .ref (ρ h0 24), .int z194, .ref (ρ h0 26), .ref (ρ h0 27), .int o181_x28, .int o181_x29, .ref (ρ h0 30), .ref (ρ h0 31), .int o181_x32, .long o181_x33, .long o181_x34, .long o181_x35, .int o181_x36, .int o181_x37, .int o181_x38, .ref (ρ h0 39), .ref (ρ h0 40), .ref (ρ h0 41), .ref (ρ h0 42), .ref (ρ h0 43), .ref (ρ h0 44), .ref (ρ h0 45), .ref (ρ h0 46), .int o181_x47, .int o181_x48, .ref (ρ h0 49), .ref (ρ h0 50), .ref (ρ h0 51), .ref (ρ h0 52)])) hD (tp_in hG ht_h0 (by decide)) eq193 (fun f195 H locs hP hD hS g197 k196 => ?_))
              have hT := hT.up ht_h0 g197 k196 ⟨_, _, _, _, _, _, _, _, _, _, _, _, _, _, _, _, _, _, _, _, _, _, _, _, _, _, _, _, rfl, ro181_0, ro181_1, ro181_2, ro181_3, ro181_4, ro181_5, ro181_6, ro181_7, ro181_8, ro181_9, ro181_10, ro181_11, ro181_12, ro181_13⟩
              have hR := hR.up ht_h0 (by decide) k196
              refine lv_iconst (v := 3) hx hb dX12_readPart_120 (by decide) ?_
              have tf198 : tp_fld (f195 h0) 10 = o181_x10.toInt := tff_10 g197
              have tf199 : tp_fld (f195 h0) 11 = o181_x11.toInt := tff_11 g197
              have tf200 : tp_fld (f195 h0) 9 = o181_x9.toInt := tff_9 g197
              have tf201 : tp_fld (f195 h0) 12 = o181_x12.toInt := tff_12 g197
              have tf202 : mo_fj (f195 h0) 13 = o181_x13.toInt := tff_13 g197
              have tf203 : tp_fld (f195 h0) 22 = o181_x22.toInt := tff_22 g197
              have tf204 : tp_fld (f195 h0) 28 = o181_x28.toInt := tff_28 g197
              have hf_205 : f142 (ρ h0 26) = .inl (κ 0, 400, .inl g33) := (hF143 _ (by rw [y10]; decide)).trans hf_o32
              have hf_206 : f173 (ρ h0 26) = .inl (κ 0, 400, .inl g33) := (hF174 _ (by rw [y10]; decide)).trans hf_205
              have hf_207 : f195 (ρ h0 26) = .inl (κ 0, 400, .inl g33) := (k196 _ (tp_ne y10 ht_h0 (by decide))).trans hf_206
              have tf208 : mo_i (f195 (ρ h0 26)) = g33 := tfa_i hf_207
              have hf_209 : f142 (ρ h0 27) = .inl (κ 0, 400, .inl g36) := (hF143 _ (by rw [y11]; decide)).trans hf_o35
              have hf_210 : f173 (ρ h0 27) = .inl (κ 0, 400, .inl g36) := (hF174 _ (by rw [y11]; decide)).trans hf_209
              have hf_211 : f195 (ρ h0 27) = .inl (κ 0, 400, .inl g36) := (k196 _ (tp_ne y11 ht_h0 (by decide))).trans hf_210
              have tf212 : mo_i (f195 (ρ h0 27)) = g36 := tfa_i hf_211
              have tf213 : tp_fld (f195 h0) 15 = o181_x15.toInt := tff_15 g197
              have hf_214 : f195 (ρ h0 23) = .inl (κ 0, 400, .inl g176) := (k196 _ (tp_ne y8 ht_h0 (by decide))).trans hf_o175
              have tf215 : mo_i (f195 (ρ h0 23)) = g176 := tfa_i hf_214
              have hf_216 : f195 (ρ h0 24) = .inl (κ 0, 400, .inl g179) := (k196 _ (tp_ne y9 ht_h0 (by decide))).trans hf_o178
              have tf217 : mo_i (f195 (ρ h0 24)) = g179 := tfa_i hf_216
              have tf218 : tp_fld (f195 h0) 19 = o181_x19.toInt := tff_19 g197
              have tf219 : tp_fld (f195 h0) 20 = o181_x20.toInt := tff_20 g197
              exact W.iret (v := 3) hx hb hr (fun t ht hW => ⟨⟨3, f195, rfl, ⟨hT, hR, (by first | decide | omega), (by first | (simp only [tf198, tf199, tf200, tf201, tf202, tf203, tf204, tf208, tf212, tf213, tf215, tf217, tf28, tf31, tf40, tf46, tf39, tf218, tf44, tf219, tf45, mo_i1, mo_l1]; exact (show (o181_x10.toInt ≤ o181_x11.toInt ∧ o181_x11.toInt ≤ o181_x9.toInt ∧ (o181_x12.toInt = 0 ∨ o181_x10.toInt < o181_x11.toInt) ∧ (o181_x12.toInt = 1 → o181_x11.toInt = o181_x10.toInt + 1 → o181_x13.toInt ≤ 26)) ∧ o181_x22.toInt + o181_x28.toInt ≤ o181_x10.toInt ∧ mo_PV (mo_R g33) (mo_R g36) o181_x28.toInt ∧ (o181_x15.toInt = 0 → mo_EX aa (3 : Int32).toInt (mo_R g176) (mo_R g179) (mo_R g33) (mo_R g36) o181_x22.toInt o181_x28.toInt ∧ mo_FR aa (mo_R g27) (mo_R g30) (mo_R g176) (mo_R g179) ∧ ((3 : Int32).toInt = 4 ∨ o38_x10.toInt < o181_x10.toInt ∨ (o181_x10.toInt = o38_x10.toInt ∧ (3 : Int32).toInt = 2))) ∧ o38_x22.toInt ≤ o181_x22.toInt ∧ o181_x9.toInt = o38_x9.toInt ∧ o181_x19.toInt = o38_x19.toInt ∧ o181_x20.toInt = o38_x20.toInt from ⟨by omega, by omega, h3, fun q9 => ⟨(h4.leaf (by decide) (by omega) tk192.1 tk192.2.1 (by omega) (by omega)), (mo_FR.emit tk192.1 tk192.2.1 (h4.pj0 (by decide)).base), by have q8 : (3 : Int32).toInt = 3 := rfl; omega⟩, by omega, by omega, by omega, by omega⟩)) | (rw [tf198, tf199, tf200, tf201, tf202, tf203, tf204, tf208, tf212, tf213, tf215, tf217, tf28, tf31, tf40, tf46, tf39, tf218, tf44, tf219, tf45]; exact (show (o181_x10.toInt ≤ o181_x11.toInt ∧ o181_x11.toInt ≤ o181_x9.toInt ∧ (o181_x12.toInt = 0 ∨ o181_x10.toInt < o181_x11.toInt) ∧ (o181_x12.toInt = 1 → o181_x11.toInt = o181_x10.toInt + 1 → o181_x13.toInt ≤ 26)) ∧ o181_x22.toInt + o181_x28.toInt ≤ o181_x10.toInt ∧ mo_PV (mo_R g33) (mo_R g36) o181_x28.toInt ∧ (o181_x15.toInt = 0 → mo_EX aa (3 : Int32).toInt (mo_R g176) (mo_R g179) (mo_R g33) (mo_R g36) o181_x22.toInt o181_x28.toInt ∧ mo_FR aa (mo_R g27) (mo_R g30) (mo_R g176) (mo_R g179) ∧ ((3 : Int32).toInt = 4 ∨ o38_x10.toInt < o181_x10.toInt ∨ (o181_x10.toInt = o38_x10.toInt ∧ (3 : Int32).toInt = 2))) ∧ o38_x22.toInt ≤ o181_x22.toInt ∧ o181_x9.toInt = o38_x9.toInt ∧ o181_x19.toInt = o38_x19.toInt ∧ o181_x20.toInt = o38_x20.toInt from ⟨by omega, by omega, h3, fun q9 => ⟨(h4.leaf (by decide) (by omega) tk192.1 tk192.2.1 (by omega) (by omega)), (mo_FR.emit tk192.1 tk192.2.1 (h4.pj0 (by decide)).base), by have q8 : (3 : Int32).toInt = 3 := rfl; omega⟩, by omega, by omega, by omega, by omega⟩)))⟩, by rw [ht]; exact hP, va_K.moved hW.alike hK, hD⟩, hS.F ht⟩) hS.2.2 dX12_readPart_121
            · have ic166 : r54.toInt = (-1) := zi_nef rfl rfl c166
              exfalso; omega
      · have ic58 : r54.toInt = (-1) := zi_nef rfl rfl c58
        refine lv_iload_n hx hb dX12_readPart_67 rfl (lv_at hl 1 rfl) ?_
        refine lv_if_eq (tgt := 84) hx hb dX12_readPart_68 (by decide) (fun _ => ?_) (fun c9 => absurd c9 (by decide))
        refine lv_iconst (v := 0) hx hb dX12_readPart_84 (by decide) ?_
        have hFc := tp_fr hD hS hA
        refine va_callv (va_runV (As := [.int 0]) (rest := []) ⟨hx, hb, hml, hown, hts⟩ (t_X12_must l dC dI _ κ τ ν ρ L f hG hT h0 (0) ht_h0 (by first | decide | omega) (by first | (simp only [tf40, tf41, tf39, tf42, tf48, mo_i1, mo_l1]; exact (show (o38_x10.toInt ≤ o38_x11.toInt ∧ o38_x11.toInt ≤ o38_x9.toInt ∧ (o38_x12.toInt = 0 ∨ o38_x10.toInt < o38_x11.toInt) ∧ (o38_x12.toInt = 1 → o38_x11.toInt = o38_x10.toInt + 1 → o38_x13.toInt ≤ 26)) from by have : (0 : Int32).toInt = 0 := rfl; first | omega | decide)) | (rw [tf40, tf41, tf39, tf42, tf48]; exact (show (o38_x10.toInt ≤ o38_x11.toInt ∧ o38_x11.toInt ≤ o38_x9.toInt ∧ (o38_x12.toInt = 0 ∨ o38_x10.toInt < o38_x11.toInt) ∧ (o38_x12.toInt = 1 → o38_x11.toInt = o38_x10.toInt + 1 → o38_x13.toInt ≤ 26)) from by have : (0 : Int32).toInt = 0 := rfl; first | omega | decide)))) (cwV 1 hts gX12_readPart_X12_must rfl rfl rfl ⟨rfl, pd_X12_must⟩ ⟨Nat.le_of_ble_eq_true rfl, Nat.le_of_ble_eq_true rfl⟩) ⟨pz_blind, va_recv hK hP (ci := 12) (q0 := q49) rfl eq49, pz_pre hP hK hD hN⟩ rfl rfl hl.1 rfl (lv_room (Nat.le_of_ble_eq_true rfl)) dX12_readPart_85 ⟨Nat.le_of_ble_eq_true rfl, Nat.le_of_ble_eq_true rfl⟩) hS (fun q _ h => hFc q h) hFc (fun f222 t H1 locs ht hvm hw221 hB hz1 hk1 hS => ?_)
        obtain ⟨hT, hF223, hw221p⟩ := hw221
        have hR := hR.then hF223 (by decide)
        have hP := hB.1; rw [ht] at hP; have hD := tp_ad f222 hD; clear hB hFc hz1 hk1; subst ht; generalize t.heap = H at hP hS ⊢
        obtain ⟨o224_x0, o224_x1, o224_x7, o224_x9, o224_x10, o224_x11, o224_x12, o224_x13, o224_x14, o224_x15, o224_x16, o224_x17, o224_x18, o224_x19, o224_x20, o224_x22, o224_x25, o224_x28, o224_x29, o224_x32, o224_x33, o224_x34, o224_x35, o224_x36, o224_x37, o224_x38, o224_x47, o224_x48, hf_o224, ro224_0, ro224_1, ro224_2, ro224_3, ro224_4, ro224_5, ro224_6, ro224_7, ro224_8, ro224_9, ro224_10, ro224_11, ro224_12, ro224_13⟩ := tpo_13 hT ht_h0
        have tf225 : tp_fld (f222 h0) 10 = o224_x10.toInt := tff_10 hf_o224
        have tf226 : tp_fld (f222 h0) 11 = o224_x11.toInt := tff_11 hf_o224
        have tf227 : tp_fld (f222 h0) 9 = o224_x9.toInt := tff_9 hf_o224
        have tf228 : tp_fld (f222 h0) 12 = o224_x12.toInt := tff_12 hf_o224
        have tf229 : mo_fj (f222 h0) 13 = o224_x13.toInt := tff_13 hf_o224
        have tf230 : tp_fld (f222 h0) 15 = o224_x15.toInt := tff_15 hf_o224
        have tf231 : tp_fld (f222 h0) 19 = o224_x19.toInt := tff_19 hf_o224
        have tf232 : tp_fld (f222 h0) 20 = o224_x20.toInt := tff_20 hf_o224
        have tf233 : tp_fld (f222 h0) 22 = o224_x22.toInt := tff_22 hf_o224
        have tf234 : tp_fld (f222 h0) 28 = o224_x28.toInt := tff_28 hf_o224
        have tk235 : (o224_x10.toInt ≤ o224_x11.toInt ∧ o224_x11.toInt ≤ o224_x9.toInt ∧ (o224_x12.toInt = 0 ∨ o224_x10.toInt < o224_x11.toInt) ∧ (o224_x12.toInt = 1 → o224_x11.toInt = o224_x10.toInt + 1 → o224_x13.toInt ≤ 26)) ∧ (o224_x15.toInt = 0 → o38_x15.toInt = 0 ∧ o38_x11.toInt ≤ o224_x10.toInt ∧ (0 : Int) ≠ 0) ∧ (o224_x15.toInt ≠ 0 → o224_x10.toInt = o38_x10.toInt) ∧ o224_x9.toInt = o38_x9.toInt ∧ o224_x19.toInt = o38_x19.toInt ∧ o224_x20.toInt = o38_x20.toInt ∧ o224_x22.toInt = o38_x22.toInt ∧ o224_x28.toInt = o38_x28.toInt := by have q9 := hw221p; first | (simp only [tf225, tf226, tf227, tf228, tf229, tf230, tf43, tf41, tf40, tf39, tf231, tf44, tf232, tf45, tf233, tf46, tf234, tf47, mo_i1, mo_l1] at q9; exact q9) | (rw [tf225, tf226, tf227, tf228, tf229, tf230, tf43, tf41, tf40, tf39, tf231, tf44, tf232, tf45, tf233, tf46, tf234, tf47] at q9; exact q9)
        refine lv_aload_n hx hb dX12_readPart_88 rfl (lv_at hl 3 rfl) ?_
        obtain ⟨q236, eq236⟩ := tp_pos (tp_in hG ht_h0 (by decide)) hf_o224
        refine va_get (D := (dC, dI)) (ci := 12) (v := .int o224_x15) (C := RX12) (T := TX12) (N := 53) hx hb hts hfX12 hown hK hP q236 eq236 rfl 15 (by decide) (hts (.fieldLink RX12 261 "ColdShipsModel" "bad" "Z") wa_994) (fun _ h9 => h9) rfl dX12_readPart_89 ?_
        refine lv_if_ne (tgt := 120) hx hb dX12_readPart_92 (by decide) (fun c237 => ?_) (fun c237 => ?_)
        · have ic237 : o224_x15.toInt ≠ 0 := zi_ne rfl rfl c237
          refine lv_iconst (v := 3) hx hb dX12_readPart_120 (by decide) ?_
          have hf_238 : f222 (ρ h0 26) = .inl (κ 0, 400, .inl g33) := (hF223 _ (by rw [y10]; decide)).trans hf_o32
          have tf239 : mo_i (f222 (ρ h0 26)) = g33 := tfa_i hf_238
          have hf_240 : f222 (ρ h0 27) = .inl (κ 0, 400, .inl g36) := (hF223 _ (by rw [y11]; decide)).trans hf_o35
          have tf241 : mo_i (f222 (ρ h0 27)) = g36 := tfa_i hf_240
          have hf_242 : f222 (ρ h0 23) = .inl (κ 0, 400, .inl g27) := (hF223 _ (by rw [y8]; decide)).trans hf_o26
          have tf243 : mo_i (f222 (ρ h0 23)) = g27 := tfa_i hf_242
          have hf_244 : f222 (ρ h0 24) = .inl (κ 0, 400, .inl g30) := (hF223 _ (by rw [y9]; decide)).trans hf_o29
          have tf245 : mo_i (f222 (ρ h0 24)) = g30 := tfa_i hf_244
          exact W.iret (v := 3) hx hb hr (fun t ht hW => ⟨⟨3, f222, rfl, ⟨hT, hR, (by first | decide | omega), (by first | (simp only [tf225, tf226, tf227, tf228, tf229, tf233, tf234, tf239, tf241, tf230, tf243, tf245, tf28, tf31, tf40, tf46, tf39, tf231, tf44, tf232, tf45, mo_i1, mo_l1]; exact (show (o224_x10.toInt ≤ o224_x11.toInt ∧ o224_x11.toInt ≤ o224_x9.toInt ∧ (o224_x12.toInt = 0 ∨ o224_x10.toInt < o224_x11.toInt) ∧ (o224_x12.toInt = 1 → o224_x11.toInt = o224_x10.toInt + 1 → o224_x13.toInt ≤ 26)) ∧ o224_x22.toInt + o224_x28.toInt ≤ o224_x10.toInt ∧ mo_PV (mo_R g33) (mo_R g36) o224_x28.toInt ∧ (o224_x15.toInt = 0 → mo_EX aa (3 : Int32).toInt (mo_R g27) (mo_R g30) (mo_R g33) (mo_R g36) o224_x22.toInt o224_x28.toInt ∧ mo_FR aa (mo_R g27) (mo_R g30) (mo_R g27) (mo_R g30) ∧ ((3 : Int32).toInt = 4 ∨ o38_x10.toInt < o224_x10.toInt ∨ (o224_x10.toInt = o38_x10.toInt ∧ (3 : Int32).toInt = 2))) ∧ o38_x22.toInt ≤ o224_x22.toInt ∧ o224_x9.toInt = o38_x9.toInt ∧ o224_x19.toInt = o38_x19.toInt ∧ o224_x20.toInt = o38_x20.toInt from ⟨by omega, by omega, h3, fun q9 => by exfalso; omega, by omega, by omega, by omega, by omega⟩)) | (rw [tf225, tf226, tf227, tf228, tf229, tf233, tf234, tf239, tf241, tf230, tf243, tf245, tf28, tf31, tf40, tf46, tf39, tf231, tf44, tf232, tf45]; exact (show (o224_x10.toInt ≤ o224_x11.toInt ∧ o224_x11.toInt ≤ o224_x9.toInt ∧ (o224_x12.toInt = 0 ∨ o224_x10.toInt < o224_x11.toInt) ∧ (o224_x12.toInt = 1 → o224_x11.toInt = o224_x10.toInt + 1 → o224_x13.toInt ≤ 26)) ∧ o224_x22.toInt + o224_x28.toInt ≤ o224_x10.toInt ∧ mo_PV (mo_R g33) (mo_R g36) o224_x28.toInt ∧ (o224_x15.toInt = 0 → mo_EX aa (3 : Int32).toInt (mo_R g27) (mo_R g30) (mo_R g33) (mo_R g36) o224_x22.toInt o224_x28.toInt ∧ mo_FR aa (mo_R g27) (mo_R g30) (mo_R g27) (mo_R g30) ∧ ((3 : Int32).toInt = 4 ∨ o38_x10.toInt < o224_x10.toInt ∨ (o224_x10.toInt = o38_x10.toInt ∧ (3 : Int32).toInt = 2))) ∧ o38_x22.toInt ≤ o224_x22.toInt ∧ o224_x9.toInt = o38_x9.toInt ∧ o224_x19.toInt = o38_x19.toInt ∧ o224_x20.toInt = o38_x20.toInt from ⟨by omega, by omega, h3, fun q9 => by exfalso; omega, by omega, by omega, by omega, by omega⟩)))⟩, by rw [ht]; exact hP, va_K.moved hW.alike hK, hD⟩, hS.F ht⟩) hS.2.2 dX12_readPart_121
        · have ic237 : o224_x15.toInt = 0 := zi_nef rfl rfl c237
          refine lv_aload_n hx hb dX12_readPart_95 rfl (lv_at hl 3 rfl) ?_
          refine lv_iload_n hx hb dX12_readPart_96 rfl (lv_at hl 2 rfl) ?_
          refine lv_iconst (v := (-1)) hx hb dX12_readPart_97 (by decide) ?_
          refine lv_icmp_ne (tgt := 105) hx hb dX12_readPart_98 (by decide) (fun c246 => ?_) (fun c246 => ?_)
          · have ic246 : r54.toInt ≠ (-1) := zi_ne rfl rfl c246
            exfalso; omega
          · have ic246 : r54.toInt = (-1) := zi_nef rfl rfl c246
            refine lv_iconst (v := 0) hx hb dX12_readPart_101 (by decide) ?_
            refine lv_goto (tgt := 106) hx hb dX12_readPart_102 (by decide) ?_
            refine lv_iload_n hx hb dX12_readPart_106 rfl (lv_at hl 0 rfl) ?_
            have hf_247 : f222 (ρ h0 23) = .inl (κ 0, 400, .inl g27) := (hF223 _ (by rw [y8]; decide)).trans hf_o26
            have tf248 : mo_i (f222 (ρ h0 23)) = g27 := tfa_i hf_247
            have hf_249 : f222 (ρ h0 24) = .inl (κ 0, 400, .inl g30) := (hF223 _ (by rw [y9]; decide)).trans hf_o29
            have tf250 : mo_i (f222 (ρ h0 24)) = g30 := tfa_i hf_249
            have hFc := tp_fr hD hS hA
            refine va_callv (va_runV (As := [.int 0, .int 0]) (rest := []) ⟨hx, hb, hml, hown, hts⟩ (t_X12_emit l dC dI _ κ τ ν ρ L f222 hG hT h0 (0) (0) ht_h0 (by first | (simp only [tf233, mo_i1, mo_l1]; exact (show o224_x22.toInt < 400 from by have : (0 : Int32).toInt = 0 := rfl; have : (0 : Int32).toInt = 0 := rfl; first | omega | decide)) | (rw [tf233]; exact (show o224_x22.toInt < 400 from by have : (0 : Int32).toInt = 0 := rfl; have : (0 : Int32).toInt = 0 := rfl; first | omega | decide)))) (cwV 2 hts gX12_readPart_X12_emit rfl rfl rfl ⟨rfl, pd_X12_emit⟩ ⟨Nat.le_of_ble_eq_true rfl, Nat.le_of_ble_eq_true rfl⟩) ⟨pz_blind, va_recv hK hP (ci := 12) (q0 := q236) rfl eq236, pz_pre hP hK hD hN⟩ rfl rfl hl.1 rfl (lv_room (Nat.le_of_ble_eq_true rfl)) dX12_readPart_107 ⟨Nat.le_of_ble_eq_true rfl, Nat.le_of_ble_eq_true rfl⟩) hS (fun q _ h => hFc q h) hFc (fun f253 t H1 locs ht hvm hw252 hB hz1 hk1 hS => ?_)
            obtain ⟨hT, hF254, hw252p⟩ := hw252
            have hR := hR.then hF254 (by decide)
            have hP := hB.1; rw [ht] at hP; have hD := tp_ad f253 hD; clear hB hFc hz1 hk1; subst ht; generalize t.heap = H at hP hS ⊢
            obtain ⟨g256, hf_o255⟩ := tpo_53 hT y8
            have tf257 : mo_i (f253 (ρ h0 23)) = g256 := tfa_i hf_o255
            obtain ⟨g259, hf_o258⟩ := tpo_54 hT y9
            have tf260 : mo_i (f253 (ρ h0 24)) = g259 := tfa_i hf_o258
            obtain ⟨o261_x0, o261_x1, o261_x7, o261_x9, o261_x10, o261_x11, o261_x12, o261_x13, o261_x14, o261_x15, o261_x16, o261_x17, o261_x18, o261_x19, o261_x20, o261_x22, o261_x25, o261_x28, o261_x29, o261_x32, o261_x33, o261_x34, o261_x35, o261_x36, o261_x37, o261_x38, o261_x47, o261_x48, hf_o261, ro261_0, ro261_1, ro261_2, ro261_3, ro261_4, ro261_5, ro261_6, ro261_7, ro261_8, ro261_9, ro261_10, ro261_11, ro261_12, ro261_13⟩ := tpo_13 hT ht_h0
            have tf262 : tp_fld (f253 h0) 22 = o261_x22.toInt := tff_22 hf_o261
            have tf263 : tp_fld (f253 h0) 9 = o261_x9.toInt := tff_9 hf_o261
            have tf264 : tp_fld (f253 h0) 10 = o261_x10.toInt := tff_10 hf_o261
            have tf265 : tp_fld (f253 h0) 11 = o261_x11.toInt := tff_11 hf_o261
            have tf266 : tp_fld (f253 h0) 12 = o261_x12.toInt := tff_12 hf_o261
            have tf267 : mo_fj (f253 h0) 13 = o261_x13.toInt := tff_13 hf_o261
            have tf268 : tp_fld (f253 h0) 15 = o261_x15.toInt := tff_15 hf_o261
            have tf269 : tp_fld (f253 h0) 19 = o261_x19.toInt := tff_19 hf_o261
            have tf270 : tp_fld (f253 h0) 20 = o261_x20.toInt := tff_20 hf_o261
            have tf271 : tp_fld (f253 h0) 28 = o261_x28.toInt := tff_28 hf_o261
            have tk272 : mo_U (mo_R g27) (mo_R g256) o224_x22.toInt (0 : Int) ∧ mo_U (mo_R g30) (mo_R g259) o224_x22.toInt (0 : Int) ∧ o261_x22.toInt = o224_x22.toInt + 1 ∧ o261_x9.toInt = o224_x9.toInt ∧ o261_x10.toInt = o224_x10.toInt ∧ o261_x11.toInt = o224_x11.toInt ∧ o261_x12.toInt = o224_x12.toInt ∧ o261_x13.toInt = o224_x13.toInt ∧ o261_x15.toInt = o224_x15.toInt ∧ o261_x19.toInt = o224_x19.toInt ∧ o261_x20.toInt = o224_x20.toInt ∧ o261_x28.toInt = o224_x28.toInt := by have q9 := hw252p; first | (simp only [tf248, tf257, tf233, tf250, tf260, tf262, tf263, tf227, tf264, tf225, tf265, tf226, tf266, tf228, tf267, tf229, tf268, tf230, tf269, tf231, tf270, tf232, tf271, tf234, mo_i1, mo_l1] at q9; exact q9) | (rw [tf248, tf257, tf233, tf250, tf260, tf262, tf263, tf227, tf264, tf225, tf265, tf226, tf266, tf228, tf267, tf229, tf268, tf230, tf269, tf231, tf270, tf232, tf271, tf234] at q9; exact q9)
            refine lv_aload_n hx hb dX12_readPart_110 rfl (lv_at hl 3 rfl) ?_
            refine lv_dup hx hb dX12_readPart_111 rfl ?_
            obtain ⟨q273, eq273⟩ := tp_pos (tp_in hG ht_h0 (by decide)) hf_o261
            refine va_get (D := (dC, dI)) (ci := 12) (v := .int o261_x25) (C := RX12) (T := TX12) (N := 53) hx hb hts hfX12 hown hK hP q273 eq273 rfl 25 (by decide) (hts (.fieldLink RX12 351 "ColdShipsModel" "nLeaves" "I") wa_990) (fun _ h9 => h9) rfl dX12_readPart_112 ?_
            refine lv_iconst (v := 1) hx hb dX12_readPart_115 (by decide) ?_
            refine lv_iadd hx hb dX12_readPart_116 ?_
            refine lv_topi (fun z274 ez274 => ?_)
            refine va_put (D := (dC, dI)) (ci := 12) (v := .int z274) (ty := .int) (C := RX12) (T := TX12) (N := 53) hx hb hts hfX12 tyX12 tyX12_ok nmX12 hown hK hP hD hS q273 eq273 rfl 25 (by decide) (hts (.fieldLink RX12 351 "ColdShipsModel" "nLeaves" "I") wa_990) (fun _ h9 => h9) rfl (tyX12_ok 25 (by decide)) rfl rfl (Nat.le_of_ble_eq_true rfl) dX12_readPart_117 (tp_k (.inr (12, [.int o261_x0, .int o261_x1, .ref (ρ h0 2), .ref (ρ h0 3), .ref (ρ h0 4), .ref (ρ h0 5), .ref (ρ h0 6), .int o261_x7, .ref (ρ h0 8), .int o261_x9, .int o261_x10, .int o261_x11, .int o261_x12, .long o261_x13, .int o261_x14, .int o261_x15, .int o261_x16, .int o261_x17, .int o261_x18, .int o261_x19, .int o261_x20, .ref (ρ h0 21), .int o261_x22, .ref (ρ h0 23), .ref (ρ h0 24), .int z274, .ref (ρ h0 26), .ref (ρ h0 27), .int o261_x28, .int o261_x29, .ref (ρ h0 30), .ref (ρ h0 31), .int o261_x32, .long o261_x33, .long o261_x34, .long o261_x35, .int o261_x36, .int o261_x37, .int o261_x38, .ref (ρ h0 39), .ref (ρ h0 40), .ref (ρ h0 41), .ref (ρ h0 42), .ref (ρ h0 43), .ref (ρ h0 44), .ref (ρ h0 45), .ref (ρ h0 46), .int o261_x47, .int o261_x48, .ref (ρ h0 49), .ref (ρ h0 50), .ref (ρ h0 51), .ref (ρ h0 52)])) hD (tp_in hG ht_h0 (by decide)) eq273 (fun f275 H locs hP hD hS g277 k276 => ?_))
            have hT := hT.up ht_h0 g277 k276 ⟨_, _, _, _, _, _, _, _, _, _, _, _, _, _, _, _, _, _, _, _, _, _, _, _, _, _, _, _, rfl, ro261_0, ro261_1, ro261_2, ro261_3, ro261_4, ro261_5, ro261_6, ro261_7, ro261_8, ro261_9, ro261_10, ro261_11, ro261_12, ro261_13⟩
            have hR := hR.up ht_h0 (by decide) k276
            refine lv_iconst (v := 3) hx hb dX12_readPart_120 (by decide) ?_
            have tf278 : tp_fld (f275 h0) 10 = o261_x10.toInt := tff_10 g277
            have tf279 : tp_fld (f275 h0) 11 = o261_x11.toInt := tff_11 g277
            have tf280 : tp_fld (f275 h0) 9 = o261_x9.toInt := tff_9 g277
            have tf281 : tp_fld (f275 h0) 12 = o261_x12.toInt := tff_12 g277
            have tf282 : mo_fj (f275 h0) 13 = o261_x13.toInt := tff_13 g277
            have tf283 : tp_fld (f275 h0) 22 = o261_x22.toInt := tff_22 g277
            have tf284 : tp_fld (f275 h0) 28 = o261_x28.toInt := tff_28 g277
            have hf_285 : f222 (ρ h0 26) = .inl (κ 0, 400, .inl g33) := (hF223 _ (by rw [y10]; decide)).trans hf_o32
            have hf_286 : f253 (ρ h0 26) = .inl (κ 0, 400, .inl g33) := (hF254 _ (by rw [y10]; decide)).trans hf_285
            have hf_287 : f275 (ρ h0 26) = .inl (κ 0, 400, .inl g33) := (k276 _ (tp_ne y10 ht_h0 (by decide))).trans hf_286
            have tf288 : mo_i (f275 (ρ h0 26)) = g33 := tfa_i hf_287
            have hf_289 : f222 (ρ h0 27) = .inl (κ 0, 400, .inl g36) := (hF223 _ (by rw [y11]; decide)).trans hf_o35
            have hf_290 : f253 (ρ h0 27) = .inl (κ 0, 400, .inl g36) := (hF254 _ (by rw [y11]; decide)).trans hf_289
            have hf_291 : f275 (ρ h0 27) = .inl (κ 0, 400, .inl g36) := (k276 _ (tp_ne y11 ht_h0 (by decide))).trans hf_290
            have tf292 : mo_i (f275 (ρ h0 27)) = g36 := tfa_i hf_291
            have tf293 : tp_fld (f275 h0) 15 = o261_x15.toInt := tff_15 g277
            have hf_294 : f275 (ρ h0 23) = .inl (κ 0, 400, .inl g256) := (k276 _ (tp_ne y8 ht_h0 (by decide))).trans hf_o255
            have tf295 : mo_i (f275 (ρ h0 23)) = g256 := tfa_i hf_294
            have hf_296 : f275 (ρ h0 24) = .inl (κ 0, 400, .inl g259) := (k276 _ (tp_ne y9 ht_h0 (by decide))).trans hf_o258
            have tf297 : mo_i (f275 (ρ h0 24)) = g259 := tfa_i hf_296
            have tf298 : tp_fld (f275 h0) 19 = o261_x19.toInt := tff_19 g277
            have tf299 : tp_fld (f275 h0) 20 = o261_x20.toInt := tff_20 g277
            exact W.iret (v := 3) hx hb hr (fun t ht hW => ⟨⟨3, f275, rfl, ⟨hT, hR, (by first | decide | omega), (by first | (simp only [tf278, tf279, tf280, tf281, tf282, tf283, tf284, tf288, tf292, tf293, tf295, tf297, tf28, tf31, tf40, tf46, tf39, tf298, tf44, tf299, tf45, mo_i1, mo_l1]; exact (show (o261_x10.toInt ≤ o261_x11.toInt ∧ o261_x11.toInt ≤ o261_x9.toInt ∧ (o261_x12.toInt = 0 ∨ o261_x10.toInt < o261_x11.toInt) ∧ (o261_x12.toInt = 1 → o261_x11.toInt = o261_x10.toInt + 1 → o261_x13.toInt ≤ 26)) ∧ o261_x22.toInt + o261_x28.toInt ≤ o261_x10.toInt ∧ mo_PV (mo_R g33) (mo_R g36) o261_x28.toInt ∧ (o261_x15.toInt = 0 → mo_EX aa (3 : Int32).toInt (mo_R g256) (mo_R g259) (mo_R g33) (mo_R g36) o261_x22.toInt o261_x28.toInt ∧ mo_FR aa (mo_R g27) (mo_R g30) (mo_R g256) (mo_R g259) ∧ ((3 : Int32).toInt = 4 ∨ o38_x10.toInt < o261_x10.toInt ∨ (o261_x10.toInt = o38_x10.toInt ∧ (3 : Int32).toInt = 2))) ∧ o38_x22.toInt ≤ o261_x22.toInt ∧ o261_x9.toInt = o38_x9.toInt ∧ o261_x19.toInt = o38_x19.toInt ∧ o261_x20.toInt = o38_x20.toInt from ⟨by omega, by omega, h3, fun q9 => ⟨(h4.leaf (by decide) (by omega) tk272.1 tk272.2.1 (by omega) (by omega)), (mo_FR.emit tk272.1 tk272.2.1 (h4.pj0 (by decide)).base), by have q8 : (3 : Int32).toInt = 3 := rfl; omega⟩, by omega, by omega, by omega, by omega⟩)) | (rw [tf278, tf279, tf280, tf281, tf282, tf283, tf284, tf288, tf292, tf293, tf295, tf297, tf28, tf31, tf40, tf46, tf39, tf298, tf44, tf299, tf45]; exact (show (o261_x10.toInt ≤ o261_x11.toInt ∧ o261_x11.toInt ≤ o261_x9.toInt ∧ (o261_x12.toInt = 0 ∨ o261_x10.toInt < o261_x11.toInt) ∧ (o261_x12.toInt = 1 → o261_x11.toInt = o261_x10.toInt + 1 → o261_x13.toInt ≤ 26)) ∧ o261_x22.toInt + o261_x28.toInt ≤ o261_x10.toInt ∧ mo_PV (mo_R g33) (mo_R g36) o261_x28.toInt ∧ (o261_x15.toInt = 0 → mo_EX aa (3 : Int32).toInt (mo_R g256) (mo_R g259) (mo_R g33) (mo_R g36) o261_x22.toInt o261_x28.toInt ∧ mo_FR aa (mo_R g27) (mo_R g30) (mo_R g256) (mo_R g259) ∧ ((3 : Int32).toInt = 4 ∨ o38_x10.toInt < o261_x10.toInt ∨ (o261_x10.toInt = o38_x10.toInt ∧ (3 : Int32).toInt = 2))) ∧ o38_x22.toInt ≤ o261_x22.toInt ∧ o261_x9.toInt = o38_x9.toInt ∧ o261_x19.toInt = o38_x19.toInt ∧ o261_x20.toInt = o38_x20.toInt from ⟨by omega, by omega, h3, fun q9 => ⟨(h4.leaf (by decide) (by omega) tk272.1 tk272.2.1 (by omega) (by omega)), (mo_FR.emit tk272.1 tk272.2.1 (h4.pj0 (by decide)).base), by have q8 : (3 : Int32).toInt = 3 := rfl; omega⟩, by omega, by omega, by omega, by omega⟩)))⟩, by rw [ht]; exact hP, va_K.moved hW.alike hK, hD⟩, hS.F ht⟩) hS.2.2 dX12_readPart_121
    · have ic57 : o38_x12.toInt = 2 := zi_nef rfl rfl c57
      refine lv_aload_n hx hb dX12_readPart_30 rfl (lv_at hl 1 rfl) ?_
      refine va_get (D := (dC, dI)) (ci := 12) (v := .long o38_x13) (C := RX12) (T := TX12) (N := 53) hx hb hts hfX12 hown hK hP q49 eq49 rfl 13 (by decide) (hts (.fieldLink RX12 270 "ColdShipsModel" "worth" "J") wa_1006) (fun _ h9 => h9) rfl dX12_readPart_31 ?_
      refine lv_ldc2 (own := RX12) (v := 100000) hx hb hown (hts (.constantLong RX12 177 (100000)) wa_552) dX12_readPart_34 ?_
      refine W.lcmp hx hb dX12_readPart_37 ?_
      refine lv_if_gt (tgt := 45) hx hb dX12_readPart_38 (by decide) (fun c300 => ?_) (fun c300 => ?_)
      · have ic300 : o38_x13.toInt > 100000 := zl_gt rfl rfl c300
        refine lv_iconst (v := 0) hx hb dX12_readPart_45 (by decide) ?_
        refine lv_istore_n (lv' := [(2, .int 0), (1, .int r54), (0, .ref h0)]) hx hb dX12_readPart_46 rfl hl (by decide) rfl (fun ls hl => ?_)
        refine lv_iload_n hx hb dX12_readPart_47 rfl (lv_at hl 0 rfl) ?_
        refine lv_if_eq (tgt := 59) hx hb dX12_readPart_48 (by decide) (fun _ => ?_) (fun c9 => absurd c9 (by decide))
        refine lv_iconst (v := 0) hx hb dX12_readPart_59 (by decide) ?_
        refine lv_istore_n (lv' := [(3, .int 0), (2, .int 0), (1, .int r54), (0, .ref h0)]) hx hb dX12_readPart_60 rfl hl (by decide) rfl (fun ls hl => ?_)
        refine lv_aload_n hx hb dX12_readPart_61 rfl (lv_at hl 3 rfl) ?_
        refine lv_iload_n hx hb dX12_readPart_62 rfl (lv_at hl 2 rfl) ?_
        refine lv_iconst (v := (-1)) hx hb dX12_readPart_63 (by decide) ?_
        refine lv_icmp_ne (tgt := 71) hx hb dX12_readPart_64 (by decide) (fun c301 => ?_) (fun c301 => ?_)
        · have ic301 : r54.toInt ≠ (-1) := zi_ne rfl rfl c301
          refine lv_aload_n hx hb dX12_readPart_71 rfl (lv_at hl 3 rfl) ?_
          refine va_get (D := (dC, dI)) (ci := 12) (v := .int o38_x25) (C := RX12) (T := TX12) (N := 53) hx hb hts hfX12 hown hK hP q49 eq49 rfl 25 (by decide) (hts (.fieldLink RX12 351 "ColdShipsModel" "nLeaves" "I") wa_990) (fun _ h9 => h9) rfl dX12_readPart_72 ?_
          refine lv_bipush (v := 50) hx hb dX12_readPart_75 (by decide) ?_
          refine lv_icmp_ge (tgt := 84) hx hb dX12_readPart_77 (by decide) (fun c302 => ?_) (fun c302 => ?_)
          · have ic302 : o38_x25.toInt ≥ 50 := zi_ge rfl rfl c302
            refine lv_iconst (v := 0) hx hb dX12_readPart_84 (by decide) ?_
            have hFc := tp_fr hD hS hA
            refine va_callv (va_runV (As := [.int 0]) (rest := []) ⟨hx, hb, hml, hown, hts⟩ (t_X12_must l dC dI _ κ τ ν ρ L f hG hT h0 (0) ht_h0 (by first | decide | omega) (by first | (simp only [tf40, tf41, tf39, tf42, tf48, mo_i1, mo_l1]; exact (show (o38_x10.toInt ≤ o38_x11.toInt ∧ o38_x11.toInt ≤ o38_x9.toInt ∧ (o38_x12.toInt = 0 ∨ o38_x10.toInt < o38_x11.toInt) ∧ (o38_x12.toInt = 1 → o38_x11.toInt = o38_x10.toInt + 1 → o38_x13.toInt ≤ 26)) from by have : (0 : Int32).toInt = 0 := rfl; first | omega | decide)) | (rw [tf40, tf41, tf39, tf42, tf48]; exact (show (o38_x10.toInt ≤ o38_x11.toInt ∧ o38_x11.toInt ≤ o38_x9.toInt ∧ (o38_x12.toInt = 0 ∨ o38_x10.toInt < o38_x11.toInt) ∧ (o38_x12.toInt = 1 → o38_x11.toInt = o38_x10.toInt + 1 → o38_x13.toInt ≤ 26)) from by have : (0 : Int32).toInt = 0 := rfl; first | omega | decide)))) (cwV 1 hts gX12_readPart_X12_must rfl rfl rfl ⟨rfl, pd_X12_must⟩ ⟨Nat.le_of_ble_eq_true rfl, Nat.le_of_ble_eq_true rfl⟩) ⟨pz_blind, va_recv hK hP (ci := 12) (q0 := q49) rfl eq49, pz_pre hP hK hD hN⟩ rfl rfl hl.1 rfl (lv_room (Nat.le_of_ble_eq_true rfl)) dX12_readPart_85 ⟨Nat.le_of_ble_eq_true rfl, Nat.le_of_ble_eq_true rfl⟩) hS (fun q _ h => hFc q h) hFc (fun f305 t H1 locs ht hvm hw304 hB hz1 hk1 hS => ?_)
            obtain ⟨hT, hF306, hw304p⟩ := hw304
            have hR := hR.then hF306 (by decide)
            have hP := hB.1; rw [ht] at hP; have hD := tp_ad f305 hD; clear hB hFc hz1 hk1; subst ht; generalize t.heap = H at hP hS ⊢
            obtain ⟨o307_x0, o307_x1, o307_x7, o307_x9, o307_x10, o307_x11, o307_x12, o307_x13, o307_x14, o307_x15, o307_x16, o307_x17, o307_x18, o307_x19, o307_x20, o307_x22, o307_x25, o307_x28, o307_x29, o307_x32, o307_x33, o307_x34, o307_x35, o307_x36, o307_x37, o307_x38, o307_x47, o307_x48, hf_o307, ro307_0, ro307_1, ro307_2, ro307_3, ro307_4, ro307_5, ro307_6, ro307_7, ro307_8, ro307_9, ro307_10, ro307_11, ro307_12, ro307_13⟩ := tpo_13 hT ht_h0
            have tf308 : tp_fld (f305 h0) 10 = o307_x10.toInt := tff_10 hf_o307
            have tf309 : tp_fld (f305 h0) 11 = o307_x11.toInt := tff_11 hf_o307
            have tf310 : tp_fld (f305 h0) 9 = o307_x9.toInt := tff_9 hf_o307
            have tf311 : tp_fld (f305 h0) 12 = o307_x12.toInt := tff_12 hf_o307
            have tf312 : mo_fj (f305 h0) 13 = o307_x13.toInt := tff_13 hf_o307
            have tf313 : tp_fld (f305 h0) 15 = o307_x15.toInt := tff_15 hf_o307
            have tf314 : tp_fld (f305 h0) 19 = o307_x19.toInt := tff_19 hf_o307
            have tf315 : tp_fld (f305 h0) 20 = o307_x20.toInt := tff_20 hf_o307
            have tf316 : tp_fld (f305 h0) 22 = o307_x22.toInt := tff_22 hf_o307
            have tf317 : tp_fld (f305 h0) 28 = o307_x28.toInt := tff_28 hf_o307
            have tk318 : (o307_x10.toInt ≤ o307_x11.toInt ∧ o307_x11.toInt ≤ o307_x9.toInt ∧ (o307_x12.toInt = 0 ∨ o307_x10.toInt < o307_x11.toInt) ∧ (o307_x12.toInt = 1 → o307_x11.toInt = o307_x10.toInt + 1 → o307_x13.toInt ≤ 26)) ∧ (o307_x15.toInt = 0 → o38_x15.toInt = 0 ∧ o38_x11.toInt ≤ o307_x10.toInt ∧ (0 : Int) ≠ 0) ∧ (o307_x15.toInt ≠ 0 → o307_x10.toInt = o38_x10.toInt) ∧ o307_x9.toInt = o38_x9.toInt ∧ o307_x19.toInt = o38_x19.toInt ∧ o307_x20.toInt = o38_x20.toInt ∧ o307_x22.toInt = o38_x22.toInt ∧ o307_x28.toInt = o38_x28.toInt := by have q9 := hw304p; first | (simp only [tf308, tf309, tf310, tf311, tf312, tf313, tf43, tf41, tf40, tf39, tf314, tf44, tf315, tf45, tf316, tf46, tf317, tf47, mo_i1, mo_l1] at q9; exact q9) | (rw [tf308, tf309, tf310, tf311, tf312, tf313, tf43, tf41, tf40, tf39, tf314, tf44, tf315, tf45, tf316, tf46, tf317, tf47] at q9; exact q9)
            refine lv_aload_n hx hb dX12_readPart_88 rfl (lv_at hl 3 rfl) ?_
            obtain ⟨q319, eq319⟩ := tp_pos (tp_in hG ht_h0 (by decide)) hf_o307
            refine va_get (D := (dC, dI)) (ci := 12) (v := .int o307_x15) (C := RX12) (T := TX12) (N := 53) hx hb hts hfX12 hown hK hP q319 eq319 rfl 15 (by decide) (hts (.fieldLink RX12 261 "ColdShipsModel" "bad" "Z") wa_994) (fun _ h9 => h9) rfl dX12_readPart_89 ?_
            refine lv_if_ne (tgt := 120) hx hb dX12_readPart_92 (by decide) (fun c320 => ?_) (fun c320 => ?_)
            · have ic320 : o307_x15.toInt ≠ 0 := zi_ne rfl rfl c320
              refine lv_iconst (v := 3) hx hb dX12_readPart_120 (by decide) ?_
              have hf_321 : f305 (ρ h0 26) = .inl (κ 0, 400, .inl g33) := (hF306 _ (by rw [y10]; decide)).trans hf_o32
              have tf322 : mo_i (f305 (ρ h0 26)) = g33 := tfa_i hf_321
              have hf_323 : f305 (ρ h0 27) = .inl (κ 0, 400, .inl g36) := (hF306 _ (by rw [y11]; decide)).trans hf_o35
              have tf324 : mo_i (f305 (ρ h0 27)) = g36 := tfa_i hf_323
              have hf_325 : f305 (ρ h0 23) = .inl (κ 0, 400, .inl g27) := (hF306 _ (by rw [y8]; decide)).trans hf_o26
              have tf326 : mo_i (f305 (ρ h0 23)) = g27 := tfa_i hf_325
              have hf_327 : f305 (ρ h0 24) = .inl (κ 0, 400, .inl g30) := (hF306 _ (by rw [y9]; decide)).trans hf_o29
              have tf328 : mo_i (f305 (ρ h0 24)) = g30 := tfa_i hf_327
              exact W.iret (v := 3) hx hb hr (fun t ht hW => ⟨⟨3, f305, rfl, ⟨hT, hR, (by first | decide | omega), (by first | (simp only [tf308, tf309, tf310, tf311, tf312, tf316, tf317, tf322, tf324, tf313, tf326, tf328, tf28, tf31, tf40, tf46, tf39, tf314, tf44, tf315, tf45, mo_i1, mo_l1]; exact (show (o307_x10.toInt ≤ o307_x11.toInt ∧ o307_x11.toInt ≤ o307_x9.toInt ∧ (o307_x12.toInt = 0 ∨ o307_x10.toInt < o307_x11.toInt) ∧ (o307_x12.toInt = 1 → o307_x11.toInt = o307_x10.toInt + 1 → o307_x13.toInt ≤ 26)) ∧ o307_x22.toInt + o307_x28.toInt ≤ o307_x10.toInt ∧ mo_PV (mo_R g33) (mo_R g36) o307_x28.toInt ∧ (o307_x15.toInt = 0 → mo_EX aa (3 : Int32).toInt (mo_R g27) (mo_R g30) (mo_R g33) (mo_R g36) o307_x22.toInt o307_x28.toInt ∧ mo_FR aa (mo_R g27) (mo_R g30) (mo_R g27) (mo_R g30) ∧ ((3 : Int32).toInt = 4 ∨ o38_x10.toInt < o307_x10.toInt ∨ (o307_x10.toInt = o38_x10.toInt ∧ (3 : Int32).toInt = 2))) ∧ o38_x22.toInt ≤ o307_x22.toInt ∧ o307_x9.toInt = o38_x9.toInt ∧ o307_x19.toInt = o38_x19.toInt ∧ o307_x20.toInt = o38_x20.toInt from ⟨by omega, by omega, h3, fun q9 => by exfalso; omega, by omega, by omega, by omega, by omega⟩)) | (rw [tf308, tf309, tf310, tf311, tf312, tf316, tf317, tf322, tf324, tf313, tf326, tf328, tf28, tf31, tf40, tf46, tf39, tf314, tf44, tf315, tf45]; exact (show (o307_x10.toInt ≤ o307_x11.toInt ∧ o307_x11.toInt ≤ o307_x9.toInt ∧ (o307_x12.toInt = 0 ∨ o307_x10.toInt < o307_x11.toInt) ∧ (o307_x12.toInt = 1 → o307_x11.toInt = o307_x10.toInt + 1 → o307_x13.toInt ≤ 26)) ∧ o307_x22.toInt + o307_x28.toInt ≤ o307_x10.toInt ∧ mo_PV (mo_R g33) (mo_R g36) o307_x28.toInt ∧ (o307_x15.toInt = 0 → mo_EX aa (3 : Int32).toInt (mo_R g27) (mo_R g30) (mo_R g33) (mo_R g36) o307_x22.toInt o307_x28.toInt ∧ mo_FR aa (mo_R g27) (mo_R g30) (mo_R g27) (mo_R g30) ∧ ((3 : Int32).toInt = 4 ∨ o38_x10.toInt < o307_x10.toInt ∨ (o307_x10.toInt = o38_x10.toInt ∧ (3 : Int32).toInt = 2))) ∧ o38_x22.toInt ≤ o307_x22.toInt ∧ o307_x9.toInt = o38_x9.toInt ∧ o307_x19.toInt = o38_x19.toInt ∧ o307_x20.toInt = o38_x20.toInt from ⟨by omega, by omega, h3, fun q9 => by exfalso; omega, by omega, by omega, by omega, by omega⟩)))⟩, by rw [ht]; exact hP, va_K.moved hW.alike hK, hD⟩, hS.F ht⟩) hS.2.2 dX12_readPart_121
            · have ic320 : o307_x15.toInt = 0 := zi_nef rfl rfl c320
              refine lv_aload_n hx hb dX12_readPart_95 rfl (lv_at hl 3 rfl) ?_
              refine lv_iload_n hx hb dX12_readPart_96 rfl (lv_at hl 2 rfl) ?_
              refine lv_iconst (v := (-1)) hx hb dX12_readPart_97 (by decide) ?_
              refine lv_icmp_ne (tgt := 105) hx hb dX12_readPart_98 (by decide) (fun c329 => ?_) (fun c329 => ?_)
              · have ic329 : r54.toInt ≠ (-1) := zi_ne rfl rfl c329
                refine lv_iload_n hx hb dX12_readPart_105 rfl (lv_at hl 2 rfl) ?_
                refine lv_iload_n hx hb dX12_readPart_106 rfl (lv_at hl 0 rfl) ?_
                have hf_330 : f305 (ρ h0 23) = .inl (κ 0, 400, .inl g27) := (hF306 _ (by rw [y8]; decide)).trans hf_o26
                have tf331 : mo_i (f305 (ρ h0 23)) = g27 := tfa_i hf_330
                have hf_332 : f305 (ρ h0 24) = .inl (κ 0, 400, .inl g30) := (hF306 _ (by rw [y9]; decide)).trans hf_o29
                have tf333 : mo_i (f305 (ρ h0 24)) = g30 := tfa_i hf_332
                have hFc := tp_fr hD hS hA
                refine va_callv (va_runV (As := [.int r54, .int 0]) (rest := []) ⟨hx, hb, hml, hown, hts⟩ (t_X12_emit l dC dI _ κ τ ν ρ L f305 hG hT h0 r54 (0) ht_h0 (by first | (simp only [tf316, mo_i1, mo_l1]; exact (show o307_x22.toInt < 400 from by have : (0 : Int32).toInt = 0 := rfl; first | omega | decide)) | (rw [tf316]; exact (show o307_x22.toInt < 400 from by have : (0 : Int32).toInt = 0 := rfl; first | omega | decide)))) (cwV 2 hts gX12_readPart_X12_emit rfl rfl rfl ⟨rfl, pd_X12_emit⟩ ⟨Nat.le_of_ble_eq_true rfl, Nat.le_of_ble_eq_true rfl⟩) ⟨pz_blind, va_recv hK hP (ci := 12) (q0 := q319) rfl eq319, pz_pre hP hK hD hN⟩ rfl rfl hl.1 rfl (lv_room (Nat.le_of_ble_eq_true rfl)) dX12_readPart_107 ⟨Nat.le_of_ble_eq_true rfl, Nat.le_of_ble_eq_true rfl⟩) hS (fun q _ h => hFc q h) hFc (fun f336 t H1 locs ht hvm hw335 hB hz1 hk1 hS => ?_)
                obtain ⟨hT, hF337, hw335p⟩ := hw335
                have hR := hR.then hF337 (by decide)
                have hP := hB.1; rw [ht] at hP; have hD := tp_ad f336 hD; clear hB hFc hz1 hk1; subst ht; generalize t.heap = H at hP hS ⊢
                obtain ⟨g339, hf_o338⟩ := tpo_53 hT y8
                have tf340 : mo_i (f336 (ρ h0 23)) = g339 := tfa_i hf_o338
                obtain ⟨g342, hf_o341⟩ := tpo_54 hT y9
                have tf343 : mo_i (f336 (ρ h0 24)) = g342 := tfa_i hf_o341
                obtain ⟨o344_x0, o344_x1, o344_x7, o344_x9, o344_x10, o344_x11, o344_x12, o344_x13, o344_x14, o344_x15, o344_x16, o344_x17, o344_x18, o344_x19, o344_x20, o344_x22, o344_x25, o344_x28, o344_x29, o344_x32, o344_x33, o344_x34, o344_x35, o344_x36, o344_x37, o344_x38, o344_x47, o344_x48, hf_o344, ro344_0, ro344_1, ro344_2, ro344_3, ro344_4, ro344_5, ro344_6, ro344_7, ro344_8, ro344_9, ro344_10, ro344_11, ro344_12, ro344_13⟩ := tpo_13 hT ht_h0
                have tf345 : tp_fld (f336 h0) 22 = o344_x22.toInt := tff_22 hf_o344
                have tf346 : tp_fld (f336 h0) 9 = o344_x9.toInt := tff_9 hf_o344
                have tf347 : tp_fld (f336 h0) 10 = o344_x10.toInt := tff_10 hf_o344
                have tf348 : tp_fld (f336 h0) 11 = o344_x11.toInt := tff_11 hf_o344
                have tf349 : tp_fld (f336 h0) 12 = o344_x12.toInt := tff_12 hf_o344
                have tf350 : mo_fj (f336 h0) 13 = o344_x13.toInt := tff_13 hf_o344
                have tf351 : tp_fld (f336 h0) 15 = o344_x15.toInt := tff_15 hf_o344
                have tf352 : tp_fld (f336 h0) 19 = o344_x19.toInt := tff_19 hf_o344
                have tf353 : tp_fld (f336 h0) 20 = o344_x20.toInt := tff_20 hf_o344
                have tf354 : tp_fld (f336 h0) 28 = o344_x28.toInt := tff_28 hf_o344
                have tk355 : mo_U (mo_R g27) (mo_R g339) o307_x22.toInt r54.toInt ∧ mo_U (mo_R g30) (mo_R g342) o307_x22.toInt (0 : Int) ∧ o344_x22.toInt = o307_x22.toInt + 1 ∧ o344_x9.toInt = o307_x9.toInt ∧ o344_x10.toInt = o307_x10.toInt ∧ o344_x11.toInt = o307_x11.toInt ∧ o344_x12.toInt = o307_x12.toInt ∧ o344_x13.toInt = o307_x13.toInt ∧ o344_x15.toInt = o307_x15.toInt ∧ o344_x19.toInt = o307_x19.toInt ∧ o344_x20.toInt = o307_x20.toInt ∧ o344_x28.toInt = o307_x28.toInt := by have q9 := hw335p; first | (simp only [tf331, tf340, tf316, tf333, tf343, tf345, tf346, tf310, tf347, tf308, tf348, tf309, tf349, tf311, tf350, tf312, tf351, tf313, tf352, tf314, tf353, tf315, tf354, tf317, mo_i1, mo_l1] at q9; exact q9) | (rw [tf331, tf340, tf316, tf333, tf343, tf345, tf346, tf310, tf347, tf308, tf348, tf309, tf349, tf311, tf350, tf312, tf351, tf313, tf352, tf314, tf353, tf315, tf354, tf317] at q9; exact q9)
                refine lv_aload_n hx hb dX12_readPart_110 rfl (lv_at hl 3 rfl) ?_
                refine lv_dup hx hb dX12_readPart_111 rfl ?_
                obtain ⟨q356, eq356⟩ := tp_pos (tp_in hG ht_h0 (by decide)) hf_o344
                refine va_get (D := (dC, dI)) (ci := 12) (v := .int o344_x25) (C := RX12) (T := TX12) (N := 53) hx hb hts hfX12 hown hK hP q356 eq356 rfl 25 (by decide) (hts (.fieldLink RX12 351 "ColdShipsModel" "nLeaves" "I") wa_990) (fun _ h9 => h9) rfl dX12_readPart_112 ?_
                refine lv_iconst (v := 1) hx hb dX12_readPart_115 (by decide) ?_
                refine lv_iadd hx hb dX12_readPart_116 ?_
                refine lv_topi (fun z357 ez357 => ?_)
                refine va_put (D := (dC, dI)) (ci := 12) (v := .int z357) (ty := .int) (C := RX12) (T := TX12) (N := 53) hx hb hts hfX12 tyX12 tyX12_ok nmX12 hown hK hP hD hS q356 eq356 rfl 25 (by decide) (hts (.fieldLink RX12 351 "ColdShipsModel" "nLeaves" "I") wa_990) (fun _ h9 => h9) rfl (tyX12_ok 25 (by decide)) rfl rfl (Nat.le_of_ble_eq_true rfl) dX12_readPart_117 (tp_k (.inr (12, [.int o344_x0, .int o344_x1, .ref (ρ h0 2), .ref (ρ h0 3), .ref (ρ h0 4), .ref (ρ h0 5), .ref (ρ h0 6), .int o344_x7, .ref (ρ h0 8), .int o344_x9, .int o344_x10, .int o344_x11, .int o344_x12, .long o344_x13, .int o344_x14, .int o344_x15, .int o344_x16, .int o344_x17, .int o344_x18, .int o344_x19, .int o344_x20, .ref (ρ h0 21), .int o344_x22, .ref (ρ h0 23), .ref (ρ h0 24), .int z357, .ref (ρ h0 26), .ref (ρ h0 27), .int o344_x28, .int o344_x29, .ref (ρ h0 30), .ref (ρ h0 31), .int o344_x32, .long o344_x33, .long o344_x34, .long o344_x35, .int o344_x36, .int o344_x37, .int o344_x38, .ref (ρ h0 39), .ref (ρ h0 40), .ref (ρ h0 41), .ref (ρ h0 42), .ref (ρ h0 43), .ref (ρ h0 44), .ref (ρ h0 45), .ref (ρ h0 46), .int o344_x47, .int o344_x48, .ref (ρ h0 49), .ref (ρ h0 50), .ref (ρ h0 51), .ref (ρ h0 52)])) hD (tp_in hG ht_h0 (by decide)) eq356 (fun f358 H locs hP hD hS g360 k359 => ?_))
                have hT := hT.up ht_h0 g360 k359 ⟨_, _, _, _, _, _, _, _, _, _, _, _, _, _, _, _, _, _, _, _, _, _, _, _, _, _, _, _, rfl, ro344_0, ro344_1, ro344_2, ro344_3, ro344_4, ro344_5, ro344_6, ro344_7, ro344_8, ro344_9, ro344_10, ro344_11, ro344_12, ro344_13⟩
                have hR := hR.up ht_h0 (by decide) k359
                refine lv_iconst (v := 3) hx hb dX12_readPart_120 (by decide) ?_
                have tf361 : tp_fld (f358 h0) 10 = o344_x10.toInt := tff_10 g360
                have tf362 : tp_fld (f358 h0) 11 = o344_x11.toInt := tff_11 g360
                have tf363 : tp_fld (f358 h0) 9 = o344_x9.toInt := tff_9 g360
                have tf364 : tp_fld (f358 h0) 12 = o344_x12.toInt := tff_12 g360
                have tf365 : mo_fj (f358 h0) 13 = o344_x13.toInt := tff_13 g360
                have tf366 : tp_fld (f358 h0) 22 = o344_x22.toInt := tff_22 g360
                have tf367 : tp_fld (f358 h0) 28 = o344_x28.toInt := tff_28 g360
                have hf_368 : f305 (ρ h0 26) = .inl (κ 0, 400, .inl g33) := (hF306 _ (by rw [y10]; decide)).trans hf_o32
                have hf_369 : f336 (ρ h0 26) = .inl (κ 0, 400, .inl g33) := (hF337 _ (by rw [y10]; decide)).trans hf_368
                have hf_370 : f358 (ρ h0 26) = .inl (κ 0, 400, .inl g33) := (k359 _ (tp_ne y10 ht_h0 (by decide))).trans hf_369
                have tf371 : mo_i (f358 (ρ h0 26)) = g33 := tfa_i hf_370
                have hf_372 : f305 (ρ h0 27) = .inl (κ 0, 400, .inl g36) := (hF306 _ (by rw [y11]; decide)).trans hf_o35
                have hf_373 : f336 (ρ h0 27) = .inl (κ 0, 400, .inl g36) := (hF337 _ (by rw [y11]; decide)).trans hf_372
                have hf_374 : f358 (ρ h0 27) = .inl (κ 0, 400, .inl g36) := (k359 _ (tp_ne y11 ht_h0 (by decide))).trans hf_373
                have tf375 : mo_i (f358 (ρ h0 27)) = g36 := tfa_i hf_374
                have tf376 : tp_fld (f358 h0) 15 = o344_x15.toInt := tff_15 g360
                have hf_377 : f358 (ρ h0 23) = .inl (κ 0, 400, .inl g339) := (k359 _ (tp_ne y8 ht_h0 (by decide))).trans hf_o338
                have tf378 : mo_i (f358 (ρ h0 23)) = g339 := tfa_i hf_377
                have hf_379 : f358 (ρ h0 24) = .inl (κ 0, 400, .inl g342) := (k359 _ (tp_ne y9 ht_h0 (by decide))).trans hf_o341
                have tf380 : mo_i (f358 (ρ h0 24)) = g342 := tfa_i hf_379
                have tf381 : tp_fld (f358 h0) 19 = o344_x19.toInt := tff_19 g360
                have tf382 : tp_fld (f358 h0) 20 = o344_x20.toInt := tff_20 g360
                exact W.iret (v := 3) hx hb hr (fun t ht hW => ⟨⟨3, f358, rfl, ⟨hT, hR, (by first | decide | omega), (by first | (simp only [tf361, tf362, tf363, tf364, tf365, tf366, tf367, tf371, tf375, tf376, tf378, tf380, tf28, tf31, tf40, tf46, tf39, tf381, tf44, tf382, tf45, mo_i1, mo_l1]; exact (show (o344_x10.toInt ≤ o344_x11.toInt ∧ o344_x11.toInt ≤ o344_x9.toInt ∧ (o344_x12.toInt = 0 ∨ o344_x10.toInt < o344_x11.toInt) ∧ (o344_x12.toInt = 1 → o344_x11.toInt = o344_x10.toInt + 1 → o344_x13.toInt ≤ 26)) ∧ o344_x22.toInt + o344_x28.toInt ≤ o344_x10.toInt ∧ mo_PV (mo_R g33) (mo_R g36) o344_x28.toInt ∧ (o344_x15.toInt = 0 → mo_EX aa (3 : Int32).toInt (mo_R g339) (mo_R g342) (mo_R g33) (mo_R g36) o344_x22.toInt o344_x28.toInt ∧ mo_FR aa (mo_R g27) (mo_R g30) (mo_R g339) (mo_R g342) ∧ ((3 : Int32).toInt = 4 ∨ o38_x10.toInt < o344_x10.toInt ∨ (o344_x10.toInt = o38_x10.toInt ∧ (3 : Int32).toInt = 2))) ∧ o38_x22.toInt ≤ o344_x22.toInt ∧ o344_x9.toInt = o38_x9.toInt ∧ o344_x19.toInt = o38_x19.toInt ∧ o344_x20.toInt = o38_x20.toInt from ⟨by omega, by omega, h3, fun q9 => ⟨(h4.leaf (by decide) (by omega) tk355.1 tk355.2.1 (by omega) (by omega)), (mo_FR.emit tk355.1 tk355.2.1 (h4.pj0 (by decide)).base), by have q8 : (3 : Int32).toInt = 3 := rfl; omega⟩, by omega, by omega, by omega, by omega⟩)) | (rw [tf361, tf362, tf363, tf364, tf365, tf366, tf367, tf371, tf375, tf376, tf378, tf380, tf28, tf31, tf40, tf46, tf39, tf381, tf44, tf382, tf45]; exact (show (o344_x10.toInt ≤ o344_x11.toInt ∧ o344_x11.toInt ≤ o344_x9.toInt ∧ (o344_x12.toInt = 0 ∨ o344_x10.toInt < o344_x11.toInt) ∧ (o344_x12.toInt = 1 → o344_x11.toInt = o344_x10.toInt + 1 → o344_x13.toInt ≤ 26)) ∧ o344_x22.toInt + o344_x28.toInt ≤ o344_x10.toInt ∧ mo_PV (mo_R g33) (mo_R g36) o344_x28.toInt ∧ (o344_x15.toInt = 0 → mo_EX aa (3 : Int32).toInt (mo_R g339) (mo_R g342) (mo_R g33) (mo_R g36) o344_x22.toInt o344_x28.toInt ∧ mo_FR aa (mo_R g27) (mo_R g30) (mo_R g339) (mo_R g342) ∧ ((3 : Int32).toInt = 4 ∨ o38_x10.toInt < o344_x10.toInt ∨ (o344_x10.toInt = o38_x10.toInt ∧ (3 : Int32).toInt = 2))) ∧ o38_x22.toInt ≤ o344_x22.toInt ∧ o344_x9.toInt = o38_x9.toInt ∧ o344_x19.toInt = o38_x19.toInt ∧ o344_x20.toInt = o38_x20.toInt from ⟨by omega, by omega, h3, fun q9 => ⟨(h4.leaf (by decide) (by omega) tk355.1 tk355.2.1 (by omega) (by omega)), (mo_FR.emit tk355.1 tk355.2.1 (h4.pj0 (by decide)).base), by have q8 : (3 : Int32).toInt = 3 := rfl; omega⟩, by omega, by omega, by omega, by omega⟩)))⟩, by rw [ht]; exact hP, va_K.moved hW.alike hK, hD⟩, hS.F ht⟩) hS.2.2 dX12_readPart_121
              · have ic329 : r54.toInt = (-1) := zi_nef rfl rfl c329
                exfalso; omega
          · have ic302 : o38_x25.toInt < 50 := zi_gef rfl rfl c302
            refine lv_iconst (v := 1) hx hb dX12_readPart_80 (by decide) ?_
            refine lv_goto (tgt := 85) hx hb dX12_readPart_81 (by decide) ?_
            have hFc := tp_fr hD hS hA
            refine va_callv (va_runV (As := [.int 1]) (rest := []) ⟨hx, hb, hml, hown, hts⟩ (t_X12_must l dC dI _ κ τ ν ρ L f hG hT h0 (1) ht_h0 (by first | decide | omega) (by first | (simp only [tf40, tf41, tf39, tf42, tf48, mo_i1, mo_l1]; exact (show (o38_x10.toInt ≤ o38_x11.toInt ∧ o38_x11.toInt ≤ o38_x9.toInt ∧ (o38_x12.toInt = 0 ∨ o38_x10.toInt < o38_x11.toInt) ∧ (o38_x12.toInt = 1 → o38_x11.toInt = o38_x10.toInt + 1 → o38_x13.toInt ≤ 26)) from by have : (1 : Int32).toInt = 1 := rfl; first | omega | decide)) | (rw [tf40, tf41, tf39, tf42, tf48]; exact (show (o38_x10.toInt ≤ o38_x11.toInt ∧ o38_x11.toInt ≤ o38_x9.toInt ∧ (o38_x12.toInt = 0 ∨ o38_x10.toInt < o38_x11.toInt) ∧ (o38_x12.toInt = 1 → o38_x11.toInt = o38_x10.toInt + 1 → o38_x13.toInt ≤ 26)) from by have : (1 : Int32).toInt = 1 := rfl; first | omega | decide)))) (cwV 1 hts gX12_readPart_X12_must rfl rfl rfl ⟨rfl, pd_X12_must⟩ ⟨Nat.le_of_ble_eq_true rfl, Nat.le_of_ble_eq_true rfl⟩) ⟨pz_blind, va_recv hK hP (ci := 12) (q0 := q49) rfl eq49, pz_pre hP hK hD hN⟩ rfl rfl hl.1 rfl (lv_room (Nat.le_of_ble_eq_true rfl)) dX12_readPart_85 ⟨Nat.le_of_ble_eq_true rfl, Nat.le_of_ble_eq_true rfl⟩) hS (fun q _ h => hFc q h) hFc (fun f385 t H1 locs ht hvm hw384 hB hz1 hk1 hS => ?_)
            obtain ⟨hT, hF386, hw384p⟩ := hw384
            have hR := hR.then hF386 (by decide)
            have hP := hB.1; rw [ht] at hP; have hD := tp_ad f385 hD; clear hB hFc hz1 hk1; subst ht; generalize t.heap = H at hP hS ⊢
            obtain ⟨o387_x0, o387_x1, o387_x7, o387_x9, o387_x10, o387_x11, o387_x12, o387_x13, o387_x14, o387_x15, o387_x16, o387_x17, o387_x18, o387_x19, o387_x20, o387_x22, o387_x25, o387_x28, o387_x29, o387_x32, o387_x33, o387_x34, o387_x35, o387_x36, o387_x37, o387_x38, o387_x47, o387_x48, hf_o387, ro387_0, ro387_1, ro387_2, ro387_3, ro387_4, ro387_5, ro387_6, ro387_7, ro387_8, ro387_9, ro387_10, ro387_11, ro387_12, ro387_13⟩ := tpo_13 hT ht_h0
            have tf388 : tp_fld (f385 h0) 10 = o387_x10.toInt := tff_10 hf_o387
            have tf389 : tp_fld (f385 h0) 11 = o387_x11.toInt := tff_11 hf_o387
            have tf390 : tp_fld (f385 h0) 9 = o387_x9.toInt := tff_9 hf_o387
            have tf391 : tp_fld (f385 h0) 12 = o387_x12.toInt := tff_12 hf_o387
            have tf392 : mo_fj (f385 h0) 13 = o387_x13.toInt := tff_13 hf_o387
            have tf393 : tp_fld (f385 h0) 15 = o387_x15.toInt := tff_15 hf_o387
            have tf394 : tp_fld (f385 h0) 19 = o387_x19.toInt := tff_19 hf_o387
            have tf395 : tp_fld (f385 h0) 20 = o387_x20.toInt := tff_20 hf_o387
            have tf396 : tp_fld (f385 h0) 22 = o387_x22.toInt := tff_22 hf_o387
            have tf397 : tp_fld (f385 h0) 28 = o387_x28.toInt := tff_28 hf_o387
            have tk398 : (o387_x10.toInt ≤ o387_x11.toInt ∧ o387_x11.toInt ≤ o387_x9.toInt ∧ (o387_x12.toInt = 0 ∨ o387_x10.toInt < o387_x11.toInt) ∧ (o387_x12.toInt = 1 → o387_x11.toInt = o387_x10.toInt + 1 → o387_x13.toInt ≤ 26)) ∧ (o387_x15.toInt = 0 → o38_x15.toInt = 0 ∧ o38_x11.toInt ≤ o387_x10.toInt ∧ (1 : Int) ≠ 0) ∧ (o387_x15.toInt ≠ 0 → o387_x10.toInt = o38_x10.toInt) ∧ o387_x9.toInt = o38_x9.toInt ∧ o387_x19.toInt = o38_x19.toInt ∧ o387_x20.toInt = o38_x20.toInt ∧ o387_x22.toInt = o38_x22.toInt ∧ o387_x28.toInt = o38_x28.toInt := by have q9 := hw384p; first | (simp only [tf388, tf389, tf390, tf391, tf392, tf393, tf43, tf41, tf40, tf39, tf394, tf44, tf395, tf45, tf396, tf46, tf397, tf47, mo_i1, mo_l1] at q9; exact q9) | (rw [tf388, tf389, tf390, tf391, tf392, tf393, tf43, tf41, tf40, tf39, tf394, tf44, tf395, tf45, tf396, tf46, tf397, tf47] at q9; exact q9)
            refine lv_aload_n hx hb dX12_readPart_88 rfl (lv_at hl 3 rfl) ?_
            obtain ⟨q399, eq399⟩ := tp_pos (tp_in hG ht_h0 (by decide)) hf_o387
            refine va_get (D := (dC, dI)) (ci := 12) (v := .int o387_x15) (C := RX12) (T := TX12) (N := 53) hx hb hts hfX12 hown hK hP q399 eq399 rfl 15 (by decide) (hts (.fieldLink RX12 261 "ColdShipsModel" "bad" "Z") wa_994) (fun _ h9 => h9) rfl dX12_readPart_89 ?_
            refine lv_if_ne (tgt := 120) hx hb dX12_readPart_92 (by decide) (fun c400 => ?_) (fun c400 => ?_)
            · have ic400 : o387_x15.toInt ≠ 0 := zi_ne rfl rfl c400
              refine lv_iconst (v := 3) hx hb dX12_readPart_120 (by decide) ?_
              have hf_401 : f385 (ρ h0 26) = .inl (κ 0, 400, .inl g33) := (hF386 _ (by rw [y10]; decide)).trans hf_o32
              have tf402 : mo_i (f385 (ρ h0 26)) = g33 := tfa_i hf_401
              have hf_403 : f385 (ρ h0 27) = .inl (κ 0, 400, .inl g36) := (hF386 _ (by rw [y11]; decide)).trans hf_o35
              have tf404 : mo_i (f385 (ρ h0 27)) = g36 := tfa_i hf_403
              have hf_405 : f385 (ρ h0 23) = .inl (κ 0, 400, .inl g27) := (hF386 _ (by rw [y8]; decide)).trans hf_o26
              have tf406 : mo_i (f385 (ρ h0 23)) = g27 := tfa_i hf_405
              have hf_407 : f385 (ρ h0 24) = .inl (κ 0, 400, .inl g30) := (hF386 _ (by rw [y9]; decide)).trans hf_o29
              have tf408 : mo_i (f385 (ρ h0 24)) = g30 := tfa_i hf_407
              exact W.iret (v := 3) hx hb hr (fun t ht hW => ⟨⟨3, f385, rfl, ⟨hT, hR, (by first | decide | omega), (by first | (simp only [tf388, tf389, tf390, tf391, tf392, tf396, tf397, tf402, tf404, tf393, tf406, tf408, tf28, tf31, tf40, tf46, tf39, tf394, tf44, tf395, tf45, mo_i1, mo_l1]; exact (show (o387_x10.toInt ≤ o387_x11.toInt ∧ o387_x11.toInt ≤ o387_x9.toInt ∧ (o387_x12.toInt = 0 ∨ o387_x10.toInt < o387_x11.toInt) ∧ (o387_x12.toInt = 1 → o387_x11.toInt = o387_x10.toInt + 1 → o387_x13.toInt ≤ 26)) ∧ o387_x22.toInt + o387_x28.toInt ≤ o387_x10.toInt ∧ mo_PV (mo_R g33) (mo_R g36) o387_x28.toInt ∧ (o387_x15.toInt = 0 → mo_EX aa (3 : Int32).toInt (mo_R g27) (mo_R g30) (mo_R g33) (mo_R g36) o387_x22.toInt o387_x28.toInt ∧ mo_FR aa (mo_R g27) (mo_R g30) (mo_R g27) (mo_R g30) ∧ ((3 : Int32).toInt = 4 ∨ o38_x10.toInt < o387_x10.toInt ∨ (o387_x10.toInt = o38_x10.toInt ∧ (3 : Int32).toInt = 2))) ∧ o38_x22.toInt ≤ o387_x22.toInt ∧ o387_x9.toInt = o38_x9.toInt ∧ o387_x19.toInt = o38_x19.toInt ∧ o387_x20.toInt = o38_x20.toInt from ⟨by omega, by omega, h3, fun q9 => by exfalso; omega, by omega, by omega, by omega, by omega⟩)) | (rw [tf388, tf389, tf390, tf391, tf392, tf396, tf397, tf402, tf404, tf393, tf406, tf408, tf28, tf31, tf40, tf46, tf39, tf394, tf44, tf395, tf45]; exact (show (o387_x10.toInt ≤ o387_x11.toInt ∧ o387_x11.toInt ≤ o387_x9.toInt ∧ (o387_x12.toInt = 0 ∨ o387_x10.toInt < o387_x11.toInt) ∧ (o387_x12.toInt = 1 → o387_x11.toInt = o387_x10.toInt + 1 → o387_x13.toInt ≤ 26)) ∧ o387_x22.toInt + o387_x28.toInt ≤ o387_x10.toInt ∧ mo_PV (mo_R g33) (mo_R g36) o387_x28.toInt ∧ (o387_x15.toInt = 0 → mo_EX aa (3 : Int32).toInt (mo_R g27) (mo_R g30) (mo_R g33) (mo_R g36) o387_x22.toInt o387_x28.toInt ∧ mo_FR aa (mo_R g27) (mo_R g30) (mo_R g27) (mo_R g30) ∧ ((3 : Int32).toInt = 4 ∨ o38_x10.toInt < o387_x10.toInt ∨ (o387_x10.toInt = o38_x10.toInt ∧ (3 : Int32).toInt = 2))) ∧ o38_x22.toInt ≤ o387_x22.toInt ∧ o387_x9.toInt = o38_x9.toInt ∧ o387_x19.toInt = o38_x19.toInt ∧ o387_x20.toInt = o38_x20.toInt from ⟨by omega, by omega, h3, fun q9 => by exfalso; omega, by omega, by omega, by omega, by omega⟩)))⟩, by rw [ht]; exact hP, va_K.moved hW.alike hK, hD⟩, hS.F ht⟩) hS.2.2 dX12_readPart_121
            · have ic400 : o387_x15.toInt = 0 := zi_nef rfl rfl c400
              refine lv_aload_n hx hb dX12_readPart_95 rfl (lv_at hl 3 rfl) ?_
              refine lv_iload_n hx hb dX12_readPart_96 rfl (lv_at hl 2 rfl) ?_
              refine lv_iconst (v := (-1)) hx hb dX12_readPart_97 (by decide) ?_
              refine lv_icmp_ne (tgt := 105) hx hb dX12_readPart_98 (by decide) (fun c409 => ?_) (fun c409 => ?_)
              · have ic409 : r54.toInt ≠ (-1) := zi_ne rfl rfl c409
                refine lv_iload_n hx hb dX12_readPart_105 rfl (lv_at hl 2 rfl) ?_
                refine lv_iload_n hx hb dX12_readPart_106 rfl (lv_at hl 0 rfl) ?_
                have hf_410 : f385 (ρ h0 23) = .inl (κ 0, 400, .inl g27) := (hF386 _ (by rw [y8]; decide)).trans hf_o26
                have tf411 : mo_i (f385 (ρ h0 23)) = g27 := tfa_i hf_410
                have hf_412 : f385 (ρ h0 24) = .inl (κ 0, 400, .inl g30) := (hF386 _ (by rw [y9]; decide)).trans hf_o29
                have tf413 : mo_i (f385 (ρ h0 24)) = g30 := tfa_i hf_412
                have hFc := tp_fr hD hS hA
                refine va_callv (va_runV (As := [.int r54, .int 0]) (rest := []) ⟨hx, hb, hml, hown, hts⟩ (t_X12_emit l dC dI _ κ τ ν ρ L f385 hG hT h0 r54 (0) ht_h0 (by first | (simp only [tf396, mo_i1, mo_l1]; exact (show o387_x22.toInt < 400 from by have : (0 : Int32).toInt = 0 := rfl; first | omega | decide)) | (rw [tf396]; exact (show o387_x22.toInt < 400 from by have : (0 : Int32).toInt = 0 := rfl; first | omega | decide)))) (cwV 2 hts gX12_readPart_X12_emit rfl rfl rfl ⟨rfl, pd_X12_emit⟩ ⟨Nat.le_of_ble_eq_true rfl, Nat.le_of_ble_eq_true rfl⟩) ⟨pz_blind, va_recv hK hP (ci := 12) (q0 := q399) rfl eq399, pz_pre hP hK hD hN⟩ rfl rfl hl.1 rfl (lv_room (Nat.le_of_ble_eq_true rfl)) dX12_readPart_107 ⟨Nat.le_of_ble_eq_true rfl, Nat.le_of_ble_eq_true rfl⟩) hS (fun q _ h => hFc q h) hFc (fun f416 t H1 locs ht hvm hw415 hB hz1 hk1 hS => ?_)
                obtain ⟨hT, hF417, hw415p⟩ := hw415
                have hR := hR.then hF417 (by decide)
                have hP := hB.1; rw [ht] at hP; have hD := tp_ad f416 hD; clear hB hFc hz1 hk1; subst ht; generalize t.heap = H at hP hS ⊢
                obtain ⟨g419, hf_o418⟩ := tpo_53 hT y8
                have tf420 : mo_i (f416 (ρ h0 23)) = g419 := tfa_i hf_o418
                obtain ⟨g422, hf_o421⟩ := tpo_54 hT y9
                have tf423 : mo_i (f416 (ρ h0 24)) = g422 := tfa_i hf_o421
                obtain ⟨o424_x0, o424_x1, o424_x7, o424_x9, o424_x10, o424_x11, o424_x12, o424_x13, o424_x14, o424_x15, o424_x16, o424_x17, o424_x18, o424_x19, o424_x20, o424_x22, o424_x25, o424_x28, o424_x29, o424_x32, o424_x33, o424_x34, o424_x35, o424_x36, o424_x37, o424_x38, o424_x47, o424_x48, hf_o424, ro424_0, ro424_1, ro424_2, ro424_3, ro424_4, ro424_5, ro424_6, ro424_7, ro424_8, ro424_9, ro424_10, ro424_11, ro424_12, ro424_13⟩ := tpo_13 hT ht_h0
                have tf425 : tp_fld (f416 h0) 22 = o424_x22.toInt := tff_22 hf_o424
                have tf426 : tp_fld (f416 h0) 9 = o424_x9.toInt := tff_9 hf_o424
                have tf427 : tp_fld (f416 h0) 10 = o424_x10.toInt := tff_10 hf_o424
                have tf428 : tp_fld (f416 h0) 11 = o424_x11.toInt := tff_11 hf_o424
                have tf429 : tp_fld (f416 h0) 12 = o424_x12.toInt := tff_12 hf_o424
                have tf430 : mo_fj (f416 h0) 13 = o424_x13.toInt := tff_13 hf_o424
                have tf431 : tp_fld (f416 h0) 15 = o424_x15.toInt := tff_15 hf_o424
                have tf432 : tp_fld (f416 h0) 19 = o424_x19.toInt := tff_19 hf_o424
                have tf433 : tp_fld (f416 h0) 20 = o424_x20.toInt := tff_20 hf_o424
                have tf434 : tp_fld (f416 h0) 28 = o424_x28.toInt := tff_28 hf_o424
                have tk435 : mo_U (mo_R g27) (mo_R g419) o387_x22.toInt r54.toInt ∧ mo_U (mo_R g30) (mo_R g422) o387_x22.toInt (0 : Int) ∧ o424_x22.toInt = o387_x22.toInt + 1 ∧ o424_x9.toInt = o387_x9.toInt ∧ o424_x10.toInt = o387_x10.toInt ∧ o424_x11.toInt = o387_x11.toInt ∧ o424_x12.toInt = o387_x12.toInt ∧ o424_x13.toInt = o387_x13.toInt ∧ o424_x15.toInt = o387_x15.toInt ∧ o424_x19.toInt = o387_x19.toInt ∧ o424_x20.toInt = o387_x20.toInt ∧ o424_x28.toInt = o387_x28.toInt := by have q9 := hw415p; first | (simp only [tf411, tf420, tf396, tf413, tf423, tf425, tf426, tf390, tf427, tf388, tf428, tf389, tf429, tf391, tf430, tf392, tf431, tf393, tf432, tf394, tf433, tf395, tf434, tf397, mo_i1, mo_l1] at q9; exact q9) | (rw [tf411, tf420, tf396, tf413, tf423, tf425, tf426, tf390, tf427, tf388, tf428, tf389, tf429, tf391, tf430, tf392, tf431, tf393, tf432, tf394, tf433, tf395, tf434, tf397] at q9; exact q9)
                refine lv_aload_n hx hb dX12_readPart_110 rfl (lv_at hl 3 rfl) ?_
                refine lv_dup hx hb dX12_readPart_111 rfl ?_
                obtain ⟨q436, eq436⟩ := tp_pos (tp_in hG ht_h0 (by decide)) hf_o424
                refine va_get (D := (dC, dI)) (ci := 12) (v := .int o424_x25) (C := RX12) (T := TX12) (N := 53) hx hb hts hfX12 hown hK hP q436 eq436 rfl 25 (by decide) (hts (.fieldLink RX12 351 "ColdShipsModel" "nLeaves" "I") wa_990) (fun _ h9 => h9) rfl dX12_readPart_112 ?_
                refine lv_iconst (v := 1) hx hb dX12_readPart_115 (by decide) ?_
                refine lv_iadd hx hb dX12_readPart_116 ?_
                refine lv_topi (fun z437 ez437 => ?_)
                refine va_put (D := (dC, dI)) (ci := 12) (v := .int z437) (ty := .int) (C := RX12) (T := TX12) (N := 53) hx hb hts hfX12 tyX12 tyX12_ok nmX12 hown hK hP hD hS q436 eq436 rfl 25 (by decide) (hts (.fieldLink RX12 351 "ColdShipsModel" "nLeaves" "I") wa_990) (fun _ h9 => h9) rfl (tyX12_ok 25 (by decide)) rfl rfl (Nat.le_of_ble_eq_true rfl) dX12_readPart_117 (tp_k (.inr (12, [.int o424_x0, .int o424_x1, .ref (ρ h0 2), .ref (ρ h0 3), .ref (ρ h0 4), .ref (ρ h0 5), .ref (ρ h0 6), .int o424_x7, .ref (ρ h0 8), .int o424_x9, .int o424_x10, .int o424_x11, .int o424_x12, .long o424_x13, .int o424_x14, .int o424_x15, .int o424_x16, .int o424_x17, .int o424_x18, .int o424_x19, .int o424_x20, .ref (ρ h0 21), .int o424_x22, .ref (ρ h0 23), .ref (ρ h0 24), .int z437, .ref (ρ h0 26), .ref (ρ h0 27), .int o424_x28, .int o424_x29, .ref (ρ h0 30), .ref (ρ h0 31), .int o424_x32, .long o424_x33, .long o424_x34, .long o424_x35, .int o424_x36, .int o424_x37, .int o424_x38, .ref (ρ h0 39), .ref (ρ h0 40), .ref (ρ h0 41), .ref (ρ h0 42), .ref (ρ h0 43), .ref (ρ h0 44), .ref (ρ h0 45), .ref (ρ h0 46), .int o424_x47, .int o424_x48, .ref (ρ h0 49), .ref (ρ h0 50), .ref (ρ h0 51), .ref (ρ h0 52)])) hD (tp_in hG ht_h0 (by decide)) eq436 (fun f438 H locs hP hD hS g440 k439 => ?_))
                have hT := hT.up ht_h0 g440 k439 ⟨_, _, _, _, _, _, _, _, _, _, _, _, _, _, _, _, _, _, _, _, _, _, _, _, _, _, _, _, rfl, ro424_0, ro424_1, ro424_2, ro424_3, ro424_4, ro424_5, ro424_6, ro424_7, ro424_8, ro424_9, ro424_10, ro424_11, ro424_12, ro424_13⟩
                have hR := hR.up ht_h0 (by decide) k439
                refine lv_iconst (v := 3) hx hb dX12_readPart_120 (by decide) ?_
                have tf441 : tp_fld (f438 h0) 10 = o424_x10.toInt := tff_10 g440
                have tf442 : tp_fld (f438 h0) 11 = o424_x11.toInt := tff_11 g440
                have tf443 : tp_fld (f438 h0) 9 = o424_x9.toInt := tff_9 g440
                have tf444 : tp_fld (f438 h0) 12 = o424_x12.toInt := tff_12 g440
                have tf445 : mo_fj (f438 h0) 13 = o424_x13.toInt := tff_13 g440
                have tf446 : tp_fld (f438 h0) 22 = o424_x22.toInt := tff_22 g440
                have tf447 : tp_fld (f438 h0) 28 = o424_x28.toInt := tff_28 g440
                have hf_448 : f385 (ρ h0 26) = .inl (κ 0, 400, .inl g33) := (hF386 _ (by rw [y10]; decide)).trans hf_o32
                have hf_449 : f416 (ρ h0 26) = .inl (κ 0, 400, .inl g33) := (hF417 _ (by rw [y10]; decide)).trans hf_448
                have hf_450 : f438 (ρ h0 26) = .inl (κ 0, 400, .inl g33) := (k439 _ (tp_ne y10 ht_h0 (by decide))).trans hf_449
                have tf451 : mo_i (f438 (ρ h0 26)) = g33 := tfa_i hf_450
                have hf_452 : f385 (ρ h0 27) = .inl (κ 0, 400, .inl g36) := (hF386 _ (by rw [y11]; decide)).trans hf_o35
                have hf_453 : f416 (ρ h0 27) = .inl (κ 0, 400, .inl g36) := (hF417 _ (by rw [y11]; decide)).trans hf_452
                have hf_454 : f438 (ρ h0 27) = .inl (κ 0, 400, .inl g36) := (k439 _ (tp_ne y11 ht_h0 (by decide))).trans hf_453
                have tf455 : mo_i (f438 (ρ h0 27)) = g36 := tfa_i hf_454
                have tf456 : tp_fld (f438 h0) 15 = o424_x15.toInt := tff_15 g440
                have hf_457 : f438 (ρ h0 23) = .inl (κ 0, 400, .inl g419) := (k439 _ (tp_ne y8 ht_h0 (by decide))).trans hf_o418
                have tf458 : mo_i (f438 (ρ h0 23)) = g419 := tfa_i hf_457
                have hf_459 : f438 (ρ h0 24) = .inl (κ 0, 400, .inl g422) := (k439 _ (tp_ne y9 ht_h0 (by decide))).trans hf_o421
                have tf460 : mo_i (f438 (ρ h0 24)) = g422 := tfa_i hf_459
                have tf461 : tp_fld (f438 h0) 19 = o424_x19.toInt := tff_19 g440
                have tf462 : tp_fld (f438 h0) 20 = o424_x20.toInt := tff_20 g440
                exact W.iret (v := 3) hx hb hr (fun t ht hW => ⟨⟨3, f438, rfl, ⟨hT, hR, (by first | decide | omega), (by first | (simp only [tf441, tf442, tf443, tf444, tf445, tf446, tf447, tf451, tf455, tf456, tf458, tf460, tf28, tf31, tf40, tf46, tf39, tf461, tf44, tf462, tf45, mo_i1, mo_l1]; exact (show (o424_x10.toInt ≤ o424_x11.toInt ∧ o424_x11.toInt ≤ o424_x9.toInt ∧ (o424_x12.toInt = 0 ∨ o424_x10.toInt < o424_x11.toInt) ∧ (o424_x12.toInt = 1 → o424_x11.toInt = o424_x10.toInt + 1 → o424_x13.toInt ≤ 26)) ∧ o424_x22.toInt + o424_x28.toInt ≤ o424_x10.toInt ∧ mo_PV (mo_R g33) (mo_R g36) o424_x28.toInt ∧ (o424_x15.toInt = 0 → mo_EX aa (3 : Int32).toInt (mo_R g419) (mo_R g422) (mo_R g33) (mo_R g36) o424_x22.toInt o424_x28.toInt ∧ mo_FR aa (mo_R g27) (mo_R g30) (mo_R g419) (mo_R g422) ∧ ((3 : Int32).toInt = 4 ∨ o38_x10.toInt < o424_x10.toInt ∨ (o424_x10.toInt = o38_x10.toInt ∧ (3 : Int32).toInt = 2))) ∧ o38_x22.toInt ≤ o424_x22.toInt ∧ o424_x9.toInt = o38_x9.toInt ∧ o424_x19.toInt = o38_x19.toInt ∧ o424_x20.toInt = o38_x20.toInt from ⟨by omega, by omega, h3, fun q9 => ⟨(h4.leaf (by decide) (by omega) tk435.1 tk435.2.1 (by omega) (by omega)), (mo_FR.emit tk435.1 tk435.2.1 (h4.pj0 (by decide)).base), by have q8 : (3 : Int32).toInt = 3 := rfl; omega⟩, by omega, by omega, by omega, by omega⟩)) | (rw [tf441, tf442, tf443, tf444, tf445, tf446, tf447, tf451, tf455, tf456, tf458, tf460, tf28, tf31, tf40, tf46, tf39, tf461, tf44, tf462, tf45]; exact (show (o424_x10.toInt ≤ o424_x11.toInt ∧ o424_x11.toInt ≤ o424_x9.toInt ∧ (o424_x12.toInt = 0 ∨ o424_x10.toInt < o424_x11.toInt) ∧ (o424_x12.toInt = 1 → o424_x11.toInt = o424_x10.toInt + 1 → o424_x13.toInt ≤ 26)) ∧ o424_x22.toInt + o424_x28.toInt ≤ o424_x10.toInt ∧ mo_PV (mo_R g33) (mo_R g36) o424_x28.toInt ∧ (o424_x15.toInt = 0 → mo_EX aa (3 : Int32).toInt (mo_R g419) (mo_R g422) (mo_R g33) (mo_R g36) o424_x22.toInt o424_x28.toInt ∧ mo_FR aa (mo_R g27) (mo_R g30) (mo_R g419) (mo_R g422) ∧ ((3 : Int32).toInt = 4 ∨ o38_x10.toInt < o424_x10.toInt ∨ (o424_x10.toInt = o38_x10.toInt ∧ (3 : Int32).toInt = 2))) ∧ o38_x22.toInt ≤ o424_x22.toInt ∧ o424_x9.toInt = o38_x9.toInt ∧ o424_x19.toInt = o38_x19.toInt ∧ o424_x20.toInt = o38_x20.toInt from ⟨by omega, by omega, h3, fun q9 => ⟨(h4.leaf (by decide) (by omega) tk435.1 tk435.2.1 (by omega) (by omega)), (mo_FR.emit tk435.1 tk435.2.1 (h4.pj0 (by decide)).base), by have q8 : (3 : Int32).toInt = 3 := rfl; omega⟩, by omega, by omega, by omega, by omega⟩)))⟩, by rw [ht]; exact hP, va_K.moved hW.alike hK, hD⟩, hS.F ht⟩) hS.2.2 dX12_readPart_121
              · have ic409 : r54.toInt = (-1) := zi_nef rfl rfl c409
                exfalso; omega
        · have ic301 : r54.toInt = (-1) := zi_nef rfl rfl c301
          refine lv_iload_n hx hb dX12_readPart_67 rfl (lv_at hl 1 rfl) ?_
          refine lv_if_eq (tgt := 84) hx hb dX12_readPart_68 (by decide) (fun _ => ?_) (fun c9 => absurd c9 (by decide))
          refine lv_iconst (v := 0) hx hb dX12_readPart_84 (by decide) ?_
          have hFc := tp_fr hD hS hA
          refine va_callv (va_runV (As := [.int 0]) (rest := []) ⟨hx, hb, hml, hown, hts⟩ (t_X12_must l dC dI _ κ τ ν ρ L f hG hT h0 (0) ht_h0 (by first | decide | omega) (by first | (simp only [tf40, tf41, tf39, tf42, tf48, mo_i1, mo_l1]; exact (show (o38_x10.toInt ≤ o38_x11.toInt ∧ o38_x11.toInt ≤ o38_x9.toInt ∧ (o38_x12.toInt = 0 ∨ o38_x10.toInt < o38_x11.toInt) ∧ (o38_x12.toInt = 1 → o38_x11.toInt = o38_x10.toInt + 1 → o38_x13.toInt ≤ 26)) from by have : (0 : Int32).toInt = 0 := rfl; first | omega | decide)) | (rw [tf40, tf41, tf39, tf42, tf48]; exact (show (o38_x10.toInt ≤ o38_x11.toInt ∧ o38_x11.toInt ≤ o38_x9.toInt ∧ (o38_x12.toInt = 0 ∨ o38_x10.toInt < o38_x11.toInt) ∧ (o38_x12.toInt = 1 → o38_x11.toInt = o38_x10.toInt + 1 → o38_x13.toInt ≤ 26)) from by have : (0 : Int32).toInt = 0 := rfl; first | omega | decide)))) (cwV 1 hts gX12_readPart_X12_must rfl rfl rfl ⟨rfl, pd_X12_must⟩ ⟨Nat.le_of_ble_eq_true rfl, Nat.le_of_ble_eq_true rfl⟩) ⟨pz_blind, va_recv hK hP (ci := 12) (q0 := q49) rfl eq49, pz_pre hP hK hD hN⟩ rfl rfl hl.1 rfl (lv_room (Nat.le_of_ble_eq_true rfl)) dX12_readPart_85 ⟨Nat.le_of_ble_eq_true rfl, Nat.le_of_ble_eq_true rfl⟩) hS (fun q _ h => hFc q h) hFc (fun f465 t H1 locs ht hvm hw464 hB hz1 hk1 hS => ?_)
          obtain ⟨hT, hF466, hw464p⟩ := hw464
          have hR := hR.then hF466 (by decide)
          have hP := hB.1; rw [ht] at hP; have hD := tp_ad f465 hD; clear hB hFc hz1 hk1; subst ht; generalize t.heap = H at hP hS ⊢
          obtain ⟨o467_x0, o467_x1, o467_x7, o467_x9, o467_x10, o467_x11, o467_x12, o467_x13, o467_x14, o467_x15, o467_x16, o467_x17, o467_x18, o467_x19, o467_x20, o467_x22, o467_x25, o467_x28, o467_x29, o467_x32, o467_x33, o467_x34, o467_x35, o467_x36, o467_x37, o467_x38, o467_x47, o467_x48, hf_o467, ro467_0, ro467_1, ro467_2, ro467_3, ro467_4, ro467_5, ro467_6, ro467_7, ro467_8, ro467_9, ro467_10, ro467_11, ro467_12, ro467_13⟩ := tpo_13 hT ht_h0
          have tf468 : tp_fld (f465 h0) 10 = o467_x10.toInt := tff_10 hf_o467
          have tf469 : tp_fld (f465 h0) 11 = o467_x11.toInt := tff_11 hf_o467
          have tf470 : tp_fld (f465 h0) 9 = o467_x9.toInt := tff_9 hf_o467
          have tf471 : tp_fld (f465 h0) 12 = o467_x12.toInt := tff_12 hf_o467
          have tf472 : mo_fj (f465 h0) 13 = o467_x13.toInt := tff_13 hf_o467
          have tf473 : tp_fld (f465 h0) 15 = o467_x15.toInt := tff_15 hf_o467
          have tf474 : tp_fld (f465 h0) 19 = o467_x19.toInt := tff_19 hf_o467
          have tf475 : tp_fld (f465 h0) 20 = o467_x20.toInt := tff_20 hf_o467
          have tf476 : tp_fld (f465 h0) 22 = o467_x22.toInt := tff_22 hf_o467
          have tf477 : tp_fld (f465 h0) 28 = o467_x28.toInt := tff_28 hf_o467
          have tk478 : (o467_x10.toInt ≤ o467_x11.toInt ∧ o467_x11.toInt ≤ o467_x9.toInt ∧ (o467_x12.toInt = 0 ∨ o467_x10.toInt < o467_x11.toInt) ∧ (o467_x12.toInt = 1 → o467_x11.toInt = o467_x10.toInt + 1 → o467_x13.toInt ≤ 26)) ∧ (o467_x15.toInt = 0 → o38_x15.toInt = 0 ∧ o38_x11.toInt ≤ o467_x10.toInt ∧ (0 : Int) ≠ 0) ∧ (o467_x15.toInt ≠ 0 → o467_x10.toInt = o38_x10.toInt) ∧ o467_x9.toInt = o38_x9.toInt ∧ o467_x19.toInt = o38_x19.toInt ∧ o467_x20.toInt = o38_x20.toInt ∧ o467_x22.toInt = o38_x22.toInt ∧ o467_x28.toInt = o38_x28.toInt := by have q9 := hw464p; first | (simp only [tf468, tf469, tf470, tf471, tf472, tf473, tf43, tf41, tf40, tf39, tf474, tf44, tf475, tf45, tf476, tf46, tf477, tf47, mo_i1, mo_l1] at q9; exact q9) | (rw [tf468, tf469, tf470, tf471, tf472, tf473, tf43, tf41, tf40, tf39, tf474, tf44, tf475, tf45, tf476, tf46, tf477, tf47] at q9; exact q9)
          refine lv_aload_n hx hb dX12_readPart_88 rfl (lv_at hl 3 rfl) ?_
          obtain ⟨q479, eq479⟩ := tp_pos (tp_in hG ht_h0 (by decide)) hf_o467
          refine va_get (D := (dC, dI)) (ci := 12) (v := .int o467_x15) (C := RX12) (T := TX12) (N := 53) hx hb hts hfX12 hown hK hP q479 eq479 rfl 15 (by decide) (hts (.fieldLink RX12 261 "ColdShipsModel" "bad" "Z") wa_994) (fun _ h9 => h9) rfl dX12_readPart_89 ?_
          refine lv_if_ne (tgt := 120) hx hb dX12_readPart_92 (by decide) (fun c480 => ?_) (fun c480 => ?_)
          · have ic480 : o467_x15.toInt ≠ 0 := zi_ne rfl rfl c480
            refine lv_iconst (v := 3) hx hb dX12_readPart_120 (by decide) ?_
            have hf_481 : f465 (ρ h0 26) = .inl (κ 0, 400, .inl g33) := (hF466 _ (by rw [y10]; decide)).trans hf_o32
            have tf482 : mo_i (f465 (ρ h0 26)) = g33 := tfa_i hf_481
            have hf_483 : f465 (ρ h0 27) = .inl (κ 0, 400, .inl g36) := (hF466 _ (by rw [y11]; decide)).trans hf_o35
            have tf484 : mo_i (f465 (ρ h0 27)) = g36 := tfa_i hf_483
            have hf_485 : f465 (ρ h0 23) = .inl (κ 0, 400, .inl g27) := (hF466 _ (by rw [y8]; decide)).trans hf_o26
            have tf486 : mo_i (f465 (ρ h0 23)) = g27 := tfa_i hf_485
            have hf_487 : f465 (ρ h0 24) = .inl (κ 0, 400, .inl g30) := (hF466 _ (by rw [y9]; decide)).trans hf_o29
            have tf488 : mo_i (f465 (ρ h0 24)) = g30 := tfa_i hf_487
            exact W.iret (v := 3) hx hb hr (fun t ht hW => ⟨⟨3, f465, rfl, ⟨hT, hR, (by first | decide | omega), (by first | (simp only [tf468, tf469, tf470, tf471, tf472, tf476, tf477, tf482, tf484, tf473, tf486, tf488, tf28, tf31, tf40, tf46, tf39, tf474, tf44, tf475, tf45, mo_i1, mo_l1]; exact (show (o467_x10.toInt ≤ o467_x11.toInt ∧ o467_x11.toInt ≤ o467_x9.toInt ∧ (o467_x12.toInt = 0 ∨ o467_x10.toInt < o467_x11.toInt) ∧ (o467_x12.toInt = 1 → o467_x11.toInt = o467_x10.toInt + 1 → o467_x13.toInt ≤ 26)) ∧ o467_x22.toInt + o467_x28.toInt ≤ o467_x10.toInt ∧ mo_PV (mo_R g33) (mo_R g36) o467_x28.toInt ∧ (o467_x15.toInt = 0 → mo_EX aa (3 : Int32).toInt (mo_R g27) (mo_R g30) (mo_R g33) (mo_R g36) o467_x22.toInt o467_x28.toInt ∧ mo_FR aa (mo_R g27) (mo_R g30) (mo_R g27) (mo_R g30) ∧ ((3 : Int32).toInt = 4 ∨ o38_x10.toInt < o467_x10.toInt ∨ (o467_x10.toInt = o38_x10.toInt ∧ (3 : Int32).toInt = 2))) ∧ o38_x22.toInt ≤ o467_x22.toInt ∧ o467_x9.toInt = o38_x9.toInt ∧ o467_x19.toInt = o38_x19.toInt ∧ o467_x20.toInt = o38_x20.toInt from ⟨by omega, by omega, h3, fun q9 => by exfalso; omega, by omega, by omega, by omega, by omega⟩)) | (rw [tf468, tf469, tf470, tf471, tf472, tf476, tf477, tf482, tf484, tf473, tf486, tf488, tf28, tf31, tf40, tf46, tf39, tf474, tf44, tf475, tf45]; exact (show (o467_x10.toInt ≤ o467_x11.toInt ∧ o467_x11.toInt ≤ o467_x9.toInt ∧ (o467_x12.toInt = 0 ∨ o467_x10.toInt < o467_x11.toInt) ∧ (o467_x12.toInt = 1 → o467_x11.toInt = o467_x10.toInt + 1 → o467_x13.toInt ≤ 26)) ∧ o467_x22.toInt + o467_x28.toInt ≤ o467_x10.toInt ∧ mo_PV (mo_R g33) (mo_R g36) o467_x28.toInt ∧ (o467_x15.toInt = 0 → mo_EX aa (3 : Int32).toInt (mo_R g27) (mo_R g30) (mo_R g33) (mo_R g36) o467_x22.toInt o467_x28.toInt ∧ mo_FR aa (mo_R g27) (mo_R g30) (mo_R g27) (mo_R g30) ∧ ((3 : Int32).toInt = 4 ∨ o38_x10.toInt < o467_x10.toInt ∨ (o467_x10.toInt = o38_x10.toInt ∧ (3 : Int32).toInt = 2))) ∧ o38_x22.toInt ≤ o467_x22.toInt ∧ o467_x9.toInt = o38_x9.toInt ∧ o467_x19.toInt = o38_x19.toInt ∧ o467_x20.toInt = o38_x20.toInt from ⟨by omega, by omega, h3, fun q9 => by exfalso; omega, by omega, by omega, by omega, by omega⟩)))⟩, by rw [ht]; exact hP, va_K.moved hW.alike hK, hD⟩, hS.F ht⟩) hS.2.2 dX12_readPart_121
          · have ic480 : o467_x15.toInt = 0 := zi_nef rfl rfl c480
            refine lv_aload_n hx hb dX12_readPart_95 rfl (lv_at hl 3 rfl) ?_
            refine lv_iload_n hx hb dX12_readPart_96 rfl (lv_at hl 2 rfl) ?_
            refine lv_iconst (v := (-1)) hx hb dX12_readPart_97 (by decide) ?_
            refine lv_icmp_ne (tgt := 105) hx hb dX12_readPart_98 (by decide) (fun c489 => ?_) (fun c489 => ?_)
            · have ic489 : r54.toInt ≠ (-1) := zi_ne rfl rfl c489
              exfalso; omega
            · have ic489 : r54.toInt = (-1) := zi_nef rfl rfl c489
              refine lv_iconst (v := 0) hx hb dX12_readPart_101 (by decide) ?_
              refine lv_goto (tgt := 106) hx hb dX12_readPart_102 (by decide) ?_
              refine lv_iload_n hx hb dX12_readPart_106 rfl (lv_at hl 0 rfl) ?_
              have hf_490 : f465 (ρ h0 23) = .inl (κ 0, 400, .inl g27) := (hF466 _ (by rw [y8]; decide)).trans hf_o26
              have tf491 : mo_i (f465 (ρ h0 23)) = g27 := tfa_i hf_490
              have hf_492 : f465 (ρ h0 24) = .inl (κ 0, 400, .inl g30) := (hF466 _ (by rw [y9]; decide)).trans hf_o29
              have tf493 : mo_i (f465 (ρ h0 24)) = g30 := tfa_i hf_492
              have hFc := tp_fr hD hS hA
              refine va_callv (va_runV (As := [.int 0, .int 0]) (rest := []) ⟨hx, hb, hml, hown, hts⟩ (t_X12_emit l dC dI _ κ τ ν ρ L f465 hG hT h0 (0) (0) ht_h0 (by first | (simp only [tf476, mo_i1, mo_l1]; exact (show o467_x22.toInt < 400 from by have : (0 : Int32).toInt = 0 := rfl; have : (0 : Int32).toInt = 0 := rfl; first | omega | decide)) | (rw [tf476]; exact (show o467_x22.toInt < 400 from by have : (0 : Int32).toInt = 0 := rfl; have : (0 : Int32).toInt = 0 := rfl; first | omega | decide)))) (cwV 2 hts gX12_readPart_X12_emit rfl rfl rfl ⟨rfl, pd_X12_emit⟩ ⟨Nat.le_of_ble_eq_true rfl, Nat.le_of_ble_eq_true rfl⟩) ⟨pz_blind, va_recv hK hP (ci := 12) (q0 := q479) rfl eq479, pz_pre hP hK hD hN⟩ rfl rfl hl.1 rfl (lv_room (Nat.le_of_ble_eq_true rfl)) dX12_readPart_107 ⟨Nat.le_of_ble_eq_true rfl, Nat.le_of_ble_eq_true rfl⟩) hS (fun q _ h => hFc q h) hFc (fun f496 t H1 locs ht hvm hw495 hB hz1 hk1 hS => ?_)
              obtain ⟨hT, hF497, hw495p⟩ := hw495
              have hR := hR.then hF497 (by decide)
              have hP := hB.1; rw [ht] at hP; have hD := tp_ad f496 hD; clear hB hFc hz1 hk1; subst ht; generalize t.heap = H at hP hS ⊢
              obtain ⟨g499, hf_o498⟩ := tpo_53 hT y8
              have tf500 : mo_i (f496 (ρ h0 23)) = g499 := tfa_i hf_o498
              obtain ⟨g502, hf_o501⟩ := tpo_54 hT y9
              have tf503 : mo_i (f496 (ρ h0 24)) = g502 := tfa_i hf_o501
              obtain ⟨o504_x0, o504_x1, o504_x7, o504_x9, o504_x10, o504_x11, o504_x12, o504_x13, o504_x14, o504_x15, o504_x16, o504_x17, o504_x18, o504_x19, o504_x20, o504_x22, o504_x25, o504_x28, o504_x29, o504_x32, o504_x33, o504_x34, o504_x35, o504_x36, o504_x37, o504_x38, o504_x47, o504_x48, hf_o504, ro504_0, ro504_1, ro504_2, ro504_3, ro504_4, ro504_5, ro504_6, ro504_7, ro504_8, ro504_9, ro504_10, ro504_11, ro504_12, ro504_13⟩ := tpo_13 hT ht_h0
              have tf505 : tp_fld (f496 h0) 22 = o504_x22.toInt := tff_22 hf_o504
              have tf506 : tp_fld (f496 h0) 9 = o504_x9.toInt := tff_9 hf_o504
              have tf507 : tp_fld (f496 h0) 10 = o504_x10.toInt := tff_10 hf_o504
              have tf508 : tp_fld (f496 h0) 11 = o504_x11.toInt := tff_11 hf_o504
              have tf509 : tp_fld (f496 h0) 12 = o504_x12.toInt := tff_12 hf_o504
              have tf510 : mo_fj (f496 h0) 13 = o504_x13.toInt := tff_13 hf_o504
              have tf511 : tp_fld (f496 h0) 15 = o504_x15.toInt := tff_15 hf_o504
              have tf512 : tp_fld (f496 h0) 19 = o504_x19.toInt := tff_19 hf_o504
              have tf513 : tp_fld (f496 h0) 20 = o504_x20.toInt := tff_20 hf_o504
              have tf514 : tp_fld (f496 h0) 28 = o504_x28.toInt := tff_28 hf_o504
              have tk515 : mo_U (mo_R g27) (mo_R g499) o467_x22.toInt (0 : Int) ∧ mo_U (mo_R g30) (mo_R g502) o467_x22.toInt (0 : Int) ∧ o504_x22.toInt = o467_x22.toInt + 1 ∧ o504_x9.toInt = o467_x9.toInt ∧ o504_x10.toInt = o467_x10.toInt ∧ o504_x11.toInt = o467_x11.toInt ∧ o504_x12.toInt = o467_x12.toInt ∧ o504_x13.toInt = o467_x13.toInt ∧ o504_x15.toInt = o467_x15.toInt ∧ o504_x19.toInt = o467_x19.toInt ∧ o504_x20.toInt = o467_x20.toInt ∧ o504_x28.toInt = o467_x28.toInt := by have q9 := hw495p; first | (simp only [tf491, tf500, tf476, tf493, tf503, tf505, tf506, tf470, tf507, tf468, tf508, tf469, tf509, tf471, tf510, tf472, tf511, tf473, tf512, tf474, tf513, tf475, tf514, tf477, mo_i1, mo_l1] at q9; exact q9) | (rw [tf491, tf500, tf476, tf493, tf503, tf505, tf506, tf470, tf507, tf468, tf508, tf469, tf509, tf471, tf510, tf472, tf511, tf473, tf512, tf474, tf513, tf475, tf514, tf477] at q9; exact q9)
              refine lv_aload_n hx hb dX12_readPart_110 rfl (lv_at hl 3 rfl) ?_
              refine lv_dup hx hb dX12_readPart_111 rfl ?_
              obtain ⟨q516, eq516⟩ := tp_pos (tp_in hG ht_h0 (by decide)) hf_o504
              refine va_get (D := (dC, dI)) (ci := 12) (v := .int o504_x25) (C := RX12) (T := TX12) (N := 53) hx hb hts hfX12 hown hK hP q516 eq516 rfl 25 (by decide) (hts (.fieldLink RX12 351 "ColdShipsModel" "nLeaves" "I") wa_990) (fun _ h9 => h9) rfl dX12_readPart_112 ?_
              refine lv_iconst (v := 1) hx hb dX12_readPart_115 (by decide) ?_
              refine lv_iadd hx hb dX12_readPart_116 ?_
              refine lv_topi (fun z517 ez517 => ?_)
              refine va_put (D := (dC, dI)) (ci := 12) (v := .int z517) (ty := .int) (C := RX12) (T := TX12) (N := 53) hx hb hts hfX12 tyX12 tyX12_ok nmX12 hown hK hP hD hS q516 eq516 rfl 25 (by decide) (hts (.fieldLink RX12 351 "ColdShipsModel" "nLeaves" "I") wa_990) (fun _ h9 => h9) rfl (tyX12_ok 25 (by decide)) rfl rfl (Nat.le_of_ble_eq_true rfl) dX12_readPart_117 (tp_k (.inr (12, [.int o504_x0, .int o504_x1, .ref (ρ h0 2), .ref (ρ h0 3), .ref (ρ h0 4), .ref (ρ h0 5), .ref (ρ h0 6), .int o504_x7, .ref (ρ h0 8), .int o504_x9, .int o504_x10, .int o504_x11, .int o504_x12, .long o504_x13, .int o504_x14, .int o504_x15, .int o504_x16, .int o504_x17, .int o504_x18, .int o504_x19, .int o504_x20, .ref (ρ h0 21), .int o504_x22, .ref (ρ h0 23), .ref (ρ h0 24), .int z517, .ref (ρ h0 26), .ref (ρ h0 27), .int o504_x28, .int o504_x29, .ref (ρ h0 30), .ref (ρ h0 31), .int o504_x32, .long o504_x33, .long o504_x34, .long o504_x35, .int o504_x36, .int o504_x37, .int o504_x38, .ref (ρ h0 39), .ref (ρ h0 40), .ref (ρ h0 41), .ref (ρ h0 42), .ref (ρ h0 43), .ref (ρ h0 44), .ref (ρ h0 45), .ref (ρ h0 46), .int o504_x47, .int o504_x48, .ref (ρ h0 49), .ref (ρ h0 50), .ref (ρ h0 51), .ref (ρ h0 52)])) hD (tp_in hG ht_h0 (by decide)) eq516 (fun f518 H locs hP hD hS g520 k519 => ?_))
              have hT := hT.up ht_h0 g520 k519 ⟨_, _, _, _, _, _, _, _, _, _, _, _, _, _, _, _, _, _, _, _, _, _, _, _, _, _, _, _, rfl, ro504_0, ro504_1, ro504_2, ro504_3, ro504_4, ro504_5, ro504_6, ro504_7, ro504_8, ro504_9, ro504_10, ro504_11, ro504_12, ro504_13⟩
              have hR := hR.up ht_h0 (by decide) k519
              refine lv_iconst (v := 3) hx hb dX12_readPart_120 (by decide) ?_
              have tf521 : tp_fld (f518 h0) 10 = o504_x10.toInt := tff_10 g520
              have tf522 : tp_fld (f518 h0) 11 = o504_x11.toInt := tff_11 g520
              have tf523 : tp_fld (f518 h0) 9 = o504_x9.toInt := tff_9 g520
              have tf524 : tp_fld (f518 h0) 12 = o504_x12.toInt := tff_12 g520
              have tf525 : mo_fj (f518 h0) 13 = o504_x13.toInt := tff_13 g520
              have tf526 : tp_fld (f518 h0) 22 = o504_x22.toInt := tff_22 g520
              have tf527 : tp_fld (f518 h0) 28 = o504_x28.toInt := tff_28 g520
              have hf_528 : f465 (ρ h0 26) = .inl (κ 0, 400, .inl g33) := (hF466 _ (by rw [y10]; decide)).trans hf_o32
              have hf_529 : f496 (ρ h0 26) = .inl (κ 0, 400, .inl g33) := (hF497 _ (by rw [y10]; decide)).trans hf_528
              have hf_530 : f518 (ρ h0 26) = .inl (κ 0, 400, .inl g33) := (k519 _ (tp_ne y10 ht_h0 (by decide))).trans hf_529
              have tf531 : mo_i (f518 (ρ h0 26)) = g33 := tfa_i hf_530
              have hf_532 : f465 (ρ h0 27) = .inl (κ 0, 400, .inl g36) := (hF466 _ (by rw [y11]; decide)).trans hf_o35
              have hf_533 : f496 (ρ h0 27) = .inl (κ 0, 400, .inl g36) := (hF497 _ (by rw [y11]; decide)).trans hf_532
              have hf_534 : f518 (ρ h0 27) = .inl (κ 0, 400, .inl g36) := (k519 _ (tp_ne y11 ht_h0 (by decide))).trans hf_533
              have tf535 : mo_i (f518 (ρ h0 27)) = g36 := tfa_i hf_534
              have tf536 : tp_fld (f518 h0) 15 = o504_x15.toInt := tff_15 g520
              have hf_537 : f518 (ρ h0 23) = .inl (κ 0, 400, .inl g499) := (k519 _ (tp_ne y8 ht_h0 (by decide))).trans hf_o498
              have tf538 : mo_i (f518 (ρ h0 23)) = g499 := tfa_i hf_537
              have hf_539 : f518 (ρ h0 24) = .inl (κ 0, 400, .inl g502) := (k519 _ (tp_ne y9 ht_h0 (by decide))).trans hf_o501
              have tf540 : mo_i (f518 (ρ h0 24)) = g502 := tfa_i hf_539
              have tf541 : tp_fld (f518 h0) 19 = o504_x19.toInt := tff_19 g520
              have tf542 : tp_fld (f518 h0) 20 = o504_x20.toInt := tff_20 g520
              exact W.iret (v := 3) hx hb hr (fun t ht hW => ⟨⟨3, f518, rfl, ⟨hT, hR, (by first | decide | omega), (by first | (simp only [tf521, tf522, tf523, tf524, tf525, tf526, tf527, tf531, tf535, tf536, tf538, tf540, tf28, tf31, tf40, tf46, tf39, tf541, tf44, tf542, tf45, mo_i1, mo_l1]; exact (show (o504_x10.toInt ≤ o504_x11.toInt ∧ o504_x11.toInt ≤ o504_x9.toInt ∧ (o504_x12.toInt = 0 ∨ o504_x10.toInt < o504_x11.toInt) ∧ (o504_x12.toInt = 1 → o504_x11.toInt = o504_x10.toInt + 1 → o504_x13.toInt ≤ 26)) ∧ o504_x22.toInt + o504_x28.toInt ≤ o504_x10.toInt ∧ mo_PV (mo_R g33) (mo_R g36) o504_x28.toInt ∧ (o504_x15.toInt = 0 → mo_EX aa (3 : Int32).toInt (mo_R g499) (mo_R g502) (mo_R g33) (mo_R g36) o504_x22.toInt o504_x28.toInt ∧ mo_FR aa (mo_R g27) (mo_R g30) (mo_R g499) (mo_R g502) ∧ ((3 : Int32).toInt = 4 ∨ o38_x10.toInt < o504_x10.toInt ∨ (o504_x10.toInt = o38_x10.toInt ∧ (3 : Int32).toInt = 2))) ∧ o38_x22.toInt ≤ o504_x22.toInt ∧ o504_x9.toInt = o38_x9.toInt ∧ o504_x19.toInt = o38_x19.toInt ∧ o504_x20.toInt = o38_x20.toInt from ⟨by omega, by omega, h3, fun q9 => ⟨(h4.leaf (by decide) (by omega) tk515.1 tk515.2.1 (by omega) (by omega)), (mo_FR.emit tk515.1 tk515.2.1 (h4.pj0 (by decide)).base), by have q8 : (3 : Int32).toInt = 3 := rfl; omega⟩, by omega, by omega, by omega, by omega⟩)) | (rw [tf521, tf522, tf523, tf524, tf525, tf526, tf527, tf531, tf535, tf536, tf538, tf540, tf28, tf31, tf40, tf46, tf39, tf541, tf44, tf542, tf45]; exact (show (o504_x10.toInt ≤ o504_x11.toInt ∧ o504_x11.toInt ≤ o504_x9.toInt ∧ (o504_x12.toInt = 0 ∨ o504_x10.toInt < o504_x11.toInt) ∧ (o504_x12.toInt = 1 → o504_x11.toInt = o504_x10.toInt + 1 → o504_x13.toInt ≤ 26)) ∧ o504_x22.toInt + o504_x28.toInt ≤ o504_x10.toInt ∧ mo_PV (mo_R g33) (mo_R g36) o504_x28.toInt ∧ (o504_x15.toInt = 0 → mo_EX aa (3 : Int32).toInt (mo_R g499) (mo_R g502) (mo_R g33) (mo_R g36) o504_x22.toInt o504_x28.toInt ∧ mo_FR aa (mo_R g27) (mo_R g30) (mo_R g499) (mo_R g502) ∧ ((3 : Int32).toInt = 4 ∨ o38_x10.toInt < o504_x10.toInt ∨ (o504_x10.toInt = o38_x10.toInt ∧ (3 : Int32).toInt = 2))) ∧ o38_x22.toInt ≤ o504_x22.toInt ∧ o504_x9.toInt = o38_x9.toInt ∧ o504_x19.toInt = o38_x19.toInt ∧ o504_x20.toInt = o38_x20.toInt from ⟨by omega, by omega, h3, fun q9 => ⟨(h4.leaf (by decide) (by omega) tk515.1 tk515.2.1 (by omega) (by omega)), (mo_FR.emit tk515.1 tk515.2.1 (h4.pj0 (by decide)).base), by have q8 : (3 : Int32).toInt = 3 := rfl; omega⟩, by omega, by omega, by omega, by omega⟩)))⟩, by rw [ht]; exact hP, va_K.moved hW.alike hK, hD⟩, hS.F ht⟩) hS.2.2 dX12_readPart_121
      · have ic300 : o38_x13.toInt ≤ 100000 := zl_gtf rfl rfl c300
        refine lv_iconst (v := 1) hx hb dX12_readPart_41 (by decide) ?_
        refine lv_goto (tgt := 46) hx hb dX12_readPart_42 (by decide) ?_
        refine lv_istore_n (lv' := [(2, .int 1), (1, .int r54), (0, .ref h0)]) hx hb dX12_readPart_46 rfl hl (by decide) rfl (fun ls hl => ?_)
        refine lv_iload_n hx hb dX12_readPart_47 rfl (lv_at hl 0 rfl) ?_
        refine lv_if_eq (tgt := 59) hx hb dX12_readPart_48 (by decide) (fun c9 => absurd c9 (by decide)) (fun _ => ?_)
        refine lv_aload_n hx hb dX12_readPart_51 rfl (lv_at hl 2 rfl) ?_
        refine va_get (D := (dC, dI)) (ci := 12) (v := .long o38_x13) (C := RX12) (T := TX12) (N := 53) hx hb hts hfX12 hown hK hP q49 eq49 rfl 13 (by decide) (hts (.fieldLink RX12 270 "ColdShipsModel" "worth" "J") wa_1006) (fun _ h9 => h9) rfl dX12_readPart_52 ?_
        refine lv_l2i hx hb dX12_readPart_55 rfl ?_
        refine lv_topi (fun z543 ez543 => ?_)
        refine lv_goto (tgt := 60) hx hb dX12_readPart_56 (by decide) ?_
        refine lv_istore_n (lv' := [(3, .int z543), (2, .int 1), (1, .int r54), (0, .ref h0)]) hx hb dX12_readPart_60 rfl hl (by decide) rfl (fun ls hl => ?_)
        refine lv_aload_n hx hb dX12_readPart_61 rfl (lv_at hl 3 rfl) ?_
        refine lv_iload_n hx hb dX12_readPart_62 rfl (lv_at hl 2 rfl) ?_
        refine lv_iconst (v := (-1)) hx hb dX12_readPart_63 (by decide) ?_
        refine lv_icmp_ne (tgt := 71) hx hb dX12_readPart_64 (by decide) (fun c544 => ?_) (fun c544 => ?_)
        · have ic544 : r54.toInt ≠ (-1) := zi_ne rfl rfl c544
          refine lv_aload_n hx hb dX12_readPart_71 rfl (lv_at hl 3 rfl) ?_
          refine va_get (D := (dC, dI)) (ci := 12) (v := .int o38_x25) (C := RX12) (T := TX12) (N := 53) hx hb hts hfX12 hown hK hP q49 eq49 rfl 25 (by decide) (hts (.fieldLink RX12 351 "ColdShipsModel" "nLeaves" "I") wa_990) (fun _ h9 => h9) rfl dX12_readPart_72 ?_
          refine lv_bipush (v := 50) hx hb dX12_readPart_75 (by decide) ?_
          refine lv_icmp_ge (tgt := 84) hx hb dX12_readPart_77 (by decide) (fun c545 => ?_) (fun c545 => ?_)
          · have ic545 : o38_x25.toInt ≥ 50 := zi_ge rfl rfl c545
            refine lv_iconst (v := 0) hx hb dX12_readPart_84 (by decide) ?_
            have hFc := tp_fr hD hS hA
            refine va_callv (va_runV (As := [.int 0]) (rest := []) ⟨hx, hb, hml, hown, hts⟩ (t_X12_must l dC dI _ κ τ ν ρ L f hG hT h0 (0) ht_h0 (by first | decide | omega) (by first | (simp only [tf40, tf41, tf39, tf42, tf48, mo_i1, mo_l1]; exact (show (o38_x10.toInt ≤ o38_x11.toInt ∧ o38_x11.toInt ≤ o38_x9.toInt ∧ (o38_x12.toInt = 0 ∨ o38_x10.toInt < o38_x11.toInt) ∧ (o38_x12.toInt = 1 → o38_x11.toInt = o38_x10.toInt + 1 → o38_x13.toInt ≤ 26)) from by have : (0 : Int32).toInt = 0 := rfl; first | omega | decide)) | (rw [tf40, tf41, tf39, tf42, tf48]; exact (show (o38_x10.toInt ≤ o38_x11.toInt ∧ o38_x11.toInt ≤ o38_x9.toInt ∧ (o38_x12.toInt = 0 ∨ o38_x10.toInt < o38_x11.toInt) ∧ (o38_x12.toInt = 1 → o38_x11.toInt = o38_x10.toInt + 1 → o38_x13.toInt ≤ 26)) from by have : (0 : Int32).toInt = 0 := rfl; first | omega | decide)))) (cwV 1 hts gX12_readPart_X12_must rfl rfl rfl ⟨rfl, pd_X12_must⟩ ⟨Nat.le_of_ble_eq_true rfl, Nat.le_of_ble_eq_true rfl⟩) ⟨pz_blind, va_recv hK hP (ci := 12) (q0 := q49) rfl eq49, pz_pre hP hK hD hN⟩ rfl rfl hl.1 rfl (lv_room (Nat.le_of_ble_eq_true rfl)) dX12_readPart_85 ⟨Nat.le_of_ble_eq_true rfl, Nat.le_of_ble_eq_true rfl⟩) hS (fun q _ h => hFc q h) hFc (fun f548 t H1 locs ht hvm hw547 hB hz1 hk1 hS => ?_)
            obtain ⟨hT, hF549, hw547p⟩ := hw547
            have hR := hR.then hF549 (by decide)
            have hP := hB.1; rw [ht] at hP; have hD := tp_ad f548 hD; clear hB hFc hz1 hk1; subst ht; generalize t.heap = H at hP hS ⊢
            obtain ⟨o550_x0, o550_x1, o550_x7, o550_x9, o550_x10, o550_x11, o550_x12, o550_x13, o550_x14, o550_x15, o550_x16, o550_x17, o550_x18, o550_x19, o550_x20, o550_x22, o550_x25, o550_x28, o550_x29, o550_x32, o550_x33, o550_x34, o550_x35, o550_x36, o550_x37, o550_x38, o550_x47, o550_x48, hf_o550, ro550_0, ro550_1, ro550_2, ro550_3, ro550_4, ro550_5, ro550_6, ro550_7, ro550_8, ro550_9, ro550_10, ro550_11, ro550_12, ro550_13⟩ := tpo_13 hT ht_h0
            have tf551 : tp_fld (f548 h0) 10 = o550_x10.toInt := tff_10 hf_o550
            have tf552 : tp_fld (f548 h0) 11 = o550_x11.toInt := tff_11 hf_o550
            have tf553 : tp_fld (f548 h0) 9 = o550_x9.toInt := tff_9 hf_o550
            have tf554 : tp_fld (f548 h0) 12 = o550_x12.toInt := tff_12 hf_o550
            have tf555 : mo_fj (f548 h0) 13 = o550_x13.toInt := tff_13 hf_o550
            have tf556 : tp_fld (f548 h0) 15 = o550_x15.toInt := tff_15 hf_o550
            have tf557 : tp_fld (f548 h0) 19 = o550_x19.toInt := tff_19 hf_o550
            have tf558 : tp_fld (f548 h0) 20 = o550_x20.toInt := tff_20 hf_o550
            have tf559 : tp_fld (f548 h0) 22 = o550_x22.toInt := tff_22 hf_o550
            have tf560 : tp_fld (f548 h0) 28 = o550_x28.toInt := tff_28 hf_o550
            have tk561 : (o550_x10.toInt ≤ o550_x11.toInt ∧ o550_x11.toInt ≤ o550_x9.toInt ∧ (o550_x12.toInt = 0 ∨ o550_x10.toInt < o550_x11.toInt) ∧ (o550_x12.toInt = 1 → o550_x11.toInt = o550_x10.toInt + 1 → o550_x13.toInt ≤ 26)) ∧ (o550_x15.toInt = 0 → o38_x15.toInt = 0 ∧ o38_x11.toInt ≤ o550_x10.toInt ∧ (0 : Int) ≠ 0) ∧ (o550_x15.toInt ≠ 0 → o550_x10.toInt = o38_x10.toInt) ∧ o550_x9.toInt = o38_x9.toInt ∧ o550_x19.toInt = o38_x19.toInt ∧ o550_x20.toInt = o38_x20.toInt ∧ o550_x22.toInt = o38_x22.toInt ∧ o550_x28.toInt = o38_x28.toInt := by have q9 := hw547p; first | (simp only [tf551, tf552, tf553, tf554, tf555, tf556, tf43, tf41, tf40, tf39, tf557, tf44, tf558, tf45, tf559, tf46, tf560, tf47, mo_i1, mo_l1] at q9; exact q9) | (rw [tf551, tf552, tf553, tf554, tf555, tf556, tf43, tf41, tf40, tf39, tf557, tf44, tf558, tf45, tf559, tf46, tf560, tf47] at q9; exact q9)
            refine lv_aload_n hx hb dX12_readPart_88 rfl (lv_at hl 3 rfl) ?_
            obtain ⟨q562, eq562⟩ := tp_pos (tp_in hG ht_h0 (by decide)) hf_o550
            refine va_get (D := (dC, dI)) (ci := 12) (v := .int o550_x15) (C := RX12) (T := TX12) (N := 53) hx hb hts hfX12 hown hK hP q562 eq562 rfl 15 (by decide) (hts (.fieldLink RX12 261 "ColdShipsModel" "bad" "Z") wa_994) (fun _ h9 => h9) rfl dX12_readPart_89 ?_
            refine lv_if_ne (tgt := 120) hx hb dX12_readPart_92 (by decide) (fun c563 => ?_) (fun c563 => ?_)
            · have ic563 : o550_x15.toInt ≠ 0 := zi_ne rfl rfl c563
              refine lv_iconst (v := 3) hx hb dX12_readPart_120 (by decide) ?_
              have hf_564 : f548 (ρ h0 26) = .inl (κ 0, 400, .inl g33) := (hF549 _ (by rw [y10]; decide)).trans hf_o32
              have tf565 : mo_i (f548 (ρ h0 26)) = g33 := tfa_i hf_564
              have hf_566 : f548 (ρ h0 27) = .inl (κ 0, 400, .inl g36) := (hF549 _ (by rw [y11]; decide)).trans hf_o35
              have tf567 : mo_i (f548 (ρ h0 27)) = g36 := tfa_i hf_566
              have hf_568 : f548 (ρ h0 23) = .inl (κ 0, 400, .inl g27) := (hF549 _ (by rw [y8]; decide)).trans hf_o26
              have tf569 : mo_i (f548 (ρ h0 23)) = g27 := tfa_i hf_568
              have hf_570 : f548 (ρ h0 24) = .inl (κ 0, 400, .inl g30) := (hF549 _ (by rw [y9]; decide)).trans hf_o29
              have tf571 : mo_i (f548 (ρ h0 24)) = g30 := tfa_i hf_570
              exact W.iret (v := 3) hx hb hr (fun t ht hW => ⟨⟨3, f548, rfl, ⟨hT, hR, (by first | decide | omega), (by first | (simp only [tf551, tf552, tf553, tf554, tf555, tf559, tf560, tf565, tf567, tf556, tf569, tf571, tf28, tf31, tf40, tf46, tf39, tf557, tf44, tf558, tf45, mo_i1, mo_l1]; exact (show (o550_x10.toInt ≤ o550_x11.toInt ∧ o550_x11.toInt ≤ o550_x9.toInt ∧ (o550_x12.toInt = 0 ∨ o550_x10.toInt < o550_x11.toInt) ∧ (o550_x12.toInt = 1 → o550_x11.toInt = o550_x10.toInt + 1 → o550_x13.toInt ≤ 26)) ∧ o550_x22.toInt + o550_x28.toInt ≤ o550_x10.toInt ∧ mo_PV (mo_R g33) (mo_R g36) o550_x28.toInt ∧ (o550_x15.toInt = 0 → mo_EX aa (3 : Int32).toInt (mo_R g27) (mo_R g30) (mo_R g33) (mo_R g36) o550_x22.toInt o550_x28.toInt ∧ mo_FR aa (mo_R g27) (mo_R g30) (mo_R g27) (mo_R g30) ∧ ((3 : Int32).toInt = 4 ∨ o38_x10.toInt < o550_x10.toInt ∨ (o550_x10.toInt = o38_x10.toInt ∧ (3 : Int32).toInt = 2))) ∧ o38_x22.toInt ≤ o550_x22.toInt ∧ o550_x9.toInt = o38_x9.toInt ∧ o550_x19.toInt = o38_x19.toInt ∧ o550_x20.toInt = o38_x20.toInt from ⟨by omega, by omega, h3, fun q9 => by exfalso; omega, by omega, by omega, by omega, by omega⟩)) | (rw [tf551, tf552, tf553, tf554, tf555, tf559, tf560, tf565, tf567, tf556, tf569, tf571, tf28, tf31, tf40, tf46, tf39, tf557, tf44, tf558, tf45]; exact (show (o550_x10.toInt ≤ o550_x11.toInt ∧ o550_x11.toInt ≤ o550_x9.toInt ∧ (o550_x12.toInt = 0 ∨ o550_x10.toInt < o550_x11.toInt) ∧ (o550_x12.toInt = 1 → o550_x11.toInt = o550_x10.toInt + 1 → o550_x13.toInt ≤ 26)) ∧ o550_x22.toInt + o550_x28.toInt ≤ o550_x10.toInt ∧ mo_PV (mo_R g33) (mo_R g36) o550_x28.toInt ∧ (o550_x15.toInt = 0 → mo_EX aa (3 : Int32).toInt (mo_R g27) (mo_R g30) (mo_R g33) (mo_R g36) o550_x22.toInt o550_x28.toInt ∧ mo_FR aa (mo_R g27) (mo_R g30) (mo_R g27) (mo_R g30) ∧ ((3 : Int32).toInt = 4 ∨ o38_x10.toInt < o550_x10.toInt ∨ (o550_x10.toInt = o38_x10.toInt ∧ (3 : Int32).toInt = 2))) ∧ o38_x22.toInt ≤ o550_x22.toInt ∧ o550_x9.toInt = o38_x9.toInt ∧ o550_x19.toInt = o38_x19.toInt ∧ o550_x20.toInt = o38_x20.toInt from ⟨by omega, by omega, h3, fun q9 => by exfalso; omega, by omega, by omega, by omega, by omega⟩)))⟩, by rw [ht]; exact hP, va_K.moved hW.alike hK, hD⟩, hS.F ht⟩) hS.2.2 dX12_readPart_121
            · have ic563 : o550_x15.toInt = 0 := zi_nef rfl rfl c563
              refine lv_aload_n hx hb dX12_readPart_95 rfl (lv_at hl 3 rfl) ?_
              refine lv_iload_n hx hb dX12_readPart_96 rfl (lv_at hl 2 rfl) ?_
              refine lv_iconst (v := (-1)) hx hb dX12_readPart_97 (by decide) ?_
              refine lv_icmp_ne (tgt := 105) hx hb dX12_readPart_98 (by decide) (fun c572 => ?_) (fun c572 => ?_)
              · have ic572 : r54.toInt ≠ (-1) := zi_ne rfl rfl c572
                refine lv_iload_n hx hb dX12_readPart_105 rfl (lv_at hl 2 rfl) ?_
                refine lv_iload_n hx hb dX12_readPart_106 rfl (lv_at hl 0 rfl) ?_
                have hf_573 : f548 (ρ h0 23) = .inl (κ 0, 400, .inl g27) := (hF549 _ (by rw [y8]; decide)).trans hf_o26
                have tf574 : mo_i (f548 (ρ h0 23)) = g27 := tfa_i hf_573
                have hf_575 : f548 (ρ h0 24) = .inl (κ 0, 400, .inl g30) := (hF549 _ (by rw [y9]; decide)).trans hf_o29
                have tf576 : mo_i (f548 (ρ h0 24)) = g30 := tfa_i hf_575
                have hFc := tp_fr hD hS hA
                refine va_callv (va_runV (As := [.int r54, .int z543]) (rest := []) ⟨hx, hb, hml, hown, hts⟩ (t_X12_emit l dC dI _ κ τ ν ρ L f548 hG hT h0 r54 z543 ht_h0 (by first | (simp only [tf559, mo_i1, mo_l1]; exact (show o550_x22.toInt < 400 from by first | omega | decide)) | (rw [tf559]; exact (show o550_x22.toInt < 400 from by first | omega | decide)))) (cwV 2 hts gX12_readPart_X12_emit rfl rfl rfl ⟨rfl, pd_X12_emit⟩ ⟨Nat.le_of_ble_eq_true rfl, Nat.le_of_ble_eq_true rfl⟩) ⟨pz_blind, va_recv hK hP (ci := 12) (q0 := q562) rfl eq562, pz_pre hP hK hD hN⟩ rfl rfl hl.1 rfl (lv_room (Nat.le_of_ble_eq_true rfl)) dX12_readPart_107 ⟨Nat.le_of_ble_eq_true rfl, Nat.le_of_ble_eq_true rfl⟩) hS (fun q _ h => hFc q h) hFc (fun f579 t H1 locs ht hvm hw578 hB hz1 hk1 hS => ?_)
                obtain ⟨hT, hF580, hw578p⟩ := hw578
                have hR := hR.then hF580 (by decide)
                have hP := hB.1; rw [ht] at hP; have hD := tp_ad f579 hD; clear hB hFc hz1 hk1; subst ht; generalize t.heap = H at hP hS ⊢
                obtain ⟨g582, hf_o581⟩ := tpo_53 hT y8
                have tf583 : mo_i (f579 (ρ h0 23)) = g582 := tfa_i hf_o581
                obtain ⟨g585, hf_o584⟩ := tpo_54 hT y9
                have tf586 : mo_i (f579 (ρ h0 24)) = g585 := tfa_i hf_o584
                obtain ⟨o587_x0, o587_x1, o587_x7, o587_x9, o587_x10, o587_x11, o587_x12, o587_x13, o587_x14, o587_x15, o587_x16, o587_x17, o587_x18, o587_x19, o587_x20, o587_x22, o587_x25, o587_x28, o587_x29, o587_x32, o587_x33, o587_x34, o587_x35, o587_x36, o587_x37, o587_x38, o587_x47, o587_x48, hf_o587, ro587_0, ro587_1, ro587_2, ro587_3, ro587_4, ro587_5, ro587_6, ro587_7, ro587_8, ro587_9, ro587_10, ro587_11, ro587_12, ro587_13⟩ := tpo_13 hT ht_h0
                have tf588 : tp_fld (f579 h0) 22 = o587_x22.toInt := tff_22 hf_o587
                have tf589 : tp_fld (f579 h0) 9 = o587_x9.toInt := tff_9 hf_o587
                have tf590 : tp_fld (f579 h0) 10 = o587_x10.toInt := tff_10 hf_o587
                have tf591 : tp_fld (f579 h0) 11 = o587_x11.toInt := tff_11 hf_o587
                have tf592 : tp_fld (f579 h0) 12 = o587_x12.toInt := tff_12 hf_o587
                have tf593 : mo_fj (f579 h0) 13 = o587_x13.toInt := tff_13 hf_o587
                have tf594 : tp_fld (f579 h0) 15 = o587_x15.toInt := tff_15 hf_o587
                have tf595 : tp_fld (f579 h0) 19 = o587_x19.toInt := tff_19 hf_o587
                have tf596 : tp_fld (f579 h0) 20 = o587_x20.toInt := tff_20 hf_o587
                have tf597 : tp_fld (f579 h0) 28 = o587_x28.toInt := tff_28 hf_o587
                have tk598 : mo_U (mo_R g27) (mo_R g582) o550_x22.toInt r54.toInt ∧ mo_U (mo_R g30) (mo_R g585) o550_x22.toInt z543.toInt ∧ o587_x22.toInt = o550_x22.toInt + 1 ∧ o587_x9.toInt = o550_x9.toInt ∧ o587_x10.toInt = o550_x10.toInt ∧ o587_x11.toInt = o550_x11.toInt ∧ o587_x12.toInt = o550_x12.toInt ∧ o587_x13.toInt = o550_x13.toInt ∧ o587_x15.toInt = o550_x15.toInt ∧ o587_x19.toInt = o550_x19.toInt ∧ o587_x20.toInt = o550_x20.toInt ∧ o587_x28.toInt = o550_x28.toInt := by have q9 := hw578p; first | (simp only [tf574, tf583, tf559, tf576, tf586, tf588, tf589, tf553, tf590, tf551, tf591, tf552, tf592, tf554, tf593, tf555, tf594, tf556, tf595, tf557, tf596, tf558, tf597, tf560, mo_i1, mo_l1] at q9; exact q9) | (rw [tf574, tf583, tf559, tf576, tf586, tf588, tf589, tf553, tf590, tf551, tf591, tf552, tf592, tf554, tf593, tf555, tf594, tf556, tf595, tf557, tf596, tf558, tf597, tf560] at q9; exact q9)
                refine lv_aload_n hx hb dX12_readPart_110 rfl (lv_at hl 3 rfl) ?_
                refine lv_dup hx hb dX12_readPart_111 rfl ?_
                obtain ⟨q599, eq599⟩ := tp_pos (tp_in hG ht_h0 (by decide)) hf_o587
                refine va_get (D := (dC, dI)) (ci := 12) (v := .int o587_x25) (C := RX12) (T := TX12) (N := 53) hx hb hts hfX12 hown hK hP q599 eq599 rfl 25 (by decide) (hts (.fieldLink RX12 351 "ColdShipsModel" "nLeaves" "I") wa_990) (fun _ h9 => h9) rfl dX12_readPart_112 ?_
                refine lv_iconst (v := 1) hx hb dX12_readPart_115 (by decide) ?_
                refine lv_iadd hx hb dX12_readPart_116 ?_
                refine lv_topi (fun z600 ez600 => ?_)
                refine va_put (D := (dC, dI)) (ci := 12) (v := .int z600) (ty := .int) (C := RX12) (T := TX12) (N := 53) hx hb hts hfX12 tyX12 tyX12_ok nmX12 hown hK hP hD hS q599 eq599 rfl 25 (by decide) (hts (.fieldLink RX12 351 "ColdShipsModel" "nLeaves" "I") wa_990) (fun _ h9 => h9) rfl (tyX12_ok 25 (by decide)) rfl rfl (Nat.le_of_ble_eq_true rfl) dX12_readPart_117 (tp_k (.inr (12, [.int o587_x0, .int o587_x1, .ref (ρ h0 2), .ref (ρ h0 3), .ref (ρ h0 4), .ref (ρ h0 5), .ref (ρ h0 6), .int o587_x7, .ref (ρ h0 8), .int o587_x9, .int o587_x10, .int o587_x11, .int o587_x12, .long o587_x13, .int o587_x14, .int o587_x15, .int o587_x16, .int o587_x17, .int o587_x18, .int o587_x19, .int o587_x20, .ref (ρ h0 21), .int o587_x22, .ref (ρ h0 23), .ref (ρ h0 24), .int z600, .ref (ρ h0 26), .ref (ρ h0 27), .int o587_x28, .int o587_x29, .ref (ρ h0 30), .ref (ρ h0 31), .int o587_x32, .long o587_x33, .long o587_x34, .long o587_x35, .int o587_x36, .int o587_x37, .int o587_x38, .ref (ρ h0 39), .ref (ρ h0 40), .ref (ρ h0 41), .ref (ρ h0 42), .ref (ρ h0 43), .ref (ρ h0 44), .ref (ρ h0 45), .ref (ρ h0 46), .int o587_x47, .int o587_x48, .ref (ρ h0 49), .ref (ρ h0 50), .ref (ρ h0 51), .ref (ρ h0 52)])) hD (tp_in hG ht_h0 (by decide)) eq599 (fun f601 H locs hP hD hS g603 k602 => ?_))
                have hT := hT.up ht_h0 g603 k602 ⟨_, _, _, _, _, _, _, _, _, _, _, _, _, _, _, _, _, _, _, _, _, _, _, _, _, _, _, _, rfl, ro587_0, ro587_1, ro587_2, ro587_3, ro587_4, ro587_5, ro587_6, ro587_7, ro587_8, ro587_9, ro587_10, ro587_11, ro587_12, ro587_13⟩
                have hR := hR.up ht_h0 (by decide) k602
                refine lv_iconst (v := 3) hx hb dX12_readPart_120 (by decide) ?_
                have tf604 : tp_fld (f601 h0) 10 = o587_x10.toInt := tff_10 g603
                have tf605 : tp_fld (f601 h0) 11 = o587_x11.toInt := tff_11 g603
                have tf606 : tp_fld (f601 h0) 9 = o587_x9.toInt := tff_9 g603
                have tf607 : tp_fld (f601 h0) 12 = o587_x12.toInt := tff_12 g603
                have tf608 : mo_fj (f601 h0) 13 = o587_x13.toInt := tff_13 g603
                have tf609 : tp_fld (f601 h0) 22 = o587_x22.toInt := tff_22 g603
                have tf610 : tp_fld (f601 h0) 28 = o587_x28.toInt := tff_28 g603
                have hf_611 : f548 (ρ h0 26) = .inl (κ 0, 400, .inl g33) := (hF549 _ (by rw [y10]; decide)).trans hf_o32
                have hf_612 : f579 (ρ h0 26) = .inl (κ 0, 400, .inl g33) := (hF580 _ (by rw [y10]; decide)).trans hf_611
                have hf_613 : f601 (ρ h0 26) = .inl (κ 0, 400, .inl g33) := (k602 _ (tp_ne y10 ht_h0 (by decide))).trans hf_612
                have tf614 : mo_i (f601 (ρ h0 26)) = g33 := tfa_i hf_613
                have hf_615 : f548 (ρ h0 27) = .inl (κ 0, 400, .inl g36) := (hF549 _ (by rw [y11]; decide)).trans hf_o35
                have hf_616 : f579 (ρ h0 27) = .inl (κ 0, 400, .inl g36) := (hF580 _ (by rw [y11]; decide)).trans hf_615
                have hf_617 : f601 (ρ h0 27) = .inl (κ 0, 400, .inl g36) := (k602 _ (tp_ne y11 ht_h0 (by decide))).trans hf_616
                have tf618 : mo_i (f601 (ρ h0 27)) = g36 := tfa_i hf_617
                have tf619 : tp_fld (f601 h0) 15 = o587_x15.toInt := tff_15 g603
                have hf_620 : f601 (ρ h0 23) = .inl (κ 0, 400, .inl g582) := (k602 _ (tp_ne y8 ht_h0 (by decide))).trans hf_o581
                have tf621 : mo_i (f601 (ρ h0 23)) = g582 := tfa_i hf_620
                have hf_622 : f601 (ρ h0 24) = .inl (κ 0, 400, .inl g585) := (k602 _ (tp_ne y9 ht_h0 (by decide))).trans hf_o584
                have tf623 : mo_i (f601 (ρ h0 24)) = g585 := tfa_i hf_622
                have tf624 : tp_fld (f601 h0) 19 = o587_x19.toInt := tff_19 g603
                have tf625 : tp_fld (f601 h0) 20 = o587_x20.toInt := tff_20 g603
                exact W.iret (v := 3) hx hb hr (fun t ht hW => ⟨⟨3, f601, rfl, ⟨hT, hR, (by first | decide | omega), (by first | (simp only [tf604, tf605, tf606, tf607, tf608, tf609, tf610, tf614, tf618, tf619, tf621, tf623, tf28, tf31, tf40, tf46, tf39, tf624, tf44, tf625, tf45, mo_i1, mo_l1]; exact (show (o587_x10.toInt ≤ o587_x11.toInt ∧ o587_x11.toInt ≤ o587_x9.toInt ∧ (o587_x12.toInt = 0 ∨ o587_x10.toInt < o587_x11.toInt) ∧ (o587_x12.toInt = 1 → o587_x11.toInt = o587_x10.toInt + 1 → o587_x13.toInt ≤ 26)) ∧ o587_x22.toInt + o587_x28.toInt ≤ o587_x10.toInt ∧ mo_PV (mo_R g33) (mo_R g36) o587_x28.toInt ∧ (o587_x15.toInt = 0 → mo_EX aa (3 : Int32).toInt (mo_R g582) (mo_R g585) (mo_R g33) (mo_R g36) o587_x22.toInt o587_x28.toInt ∧ mo_FR aa (mo_R g27) (mo_R g30) (mo_R g582) (mo_R g585) ∧ ((3 : Int32).toInt = 4 ∨ o38_x10.toInt < o587_x10.toInt ∨ (o587_x10.toInt = o38_x10.toInt ∧ (3 : Int32).toInt = 2))) ∧ o38_x22.toInt ≤ o587_x22.toInt ∧ o587_x9.toInt = o38_x9.toInt ∧ o587_x19.toInt = o38_x19.toInt ∧ o587_x20.toInt = o38_x20.toInt from ⟨by omega, by omega, h3, fun q9 => ⟨(h4.leaf (by decide) (by omega) tk598.1 tk598.2.1 (by omega) (by omega)), (mo_FR.emit tk598.1 tk598.2.1 (h4.pj0 (by decide)).base), by have q8 : (3 : Int32).toInt = 3 := rfl; omega⟩, by omega, by omega, by omega, by omega⟩)) | (rw [tf604, tf605, tf606, tf607, tf608, tf609, tf610, tf614, tf618, tf619, tf621, tf623, tf28, tf31, tf40, tf46, tf39, tf624, tf44, tf625, tf45]; exact (show (o587_x10.toInt ≤ o587_x11.toInt ∧ o587_x11.toInt ≤ o587_x9.toInt ∧ (o587_x12.toInt = 0 ∨ o587_x10.toInt < o587_x11.toInt) ∧ (o587_x12.toInt = 1 → o587_x11.toInt = o587_x10.toInt + 1 → o587_x13.toInt ≤ 26)) ∧ o587_x22.toInt + o587_x28.toInt ≤ o587_x10.toInt ∧ mo_PV (mo_R g33) (mo_R g36) o587_x28.toInt ∧ (o587_x15.toInt = 0 → mo_EX aa (3 : Int32).toInt (mo_R g582) (mo_R g585) (mo_R g33) (mo_R g36) o587_x22.toInt o587_x28.toInt ∧ mo_FR aa (mo_R g27) (mo_R g30) (mo_R g582) (mo_R g585) ∧ ((3 : Int32).toInt = 4 ∨ o38_x10.toInt < o587_x10.toInt ∨ (o587_x10.toInt = o38_x10.toInt ∧ (3 : Int32).toInt = 2))) ∧ o38_x22.toInt ≤ o587_x22.toInt ∧ o587_x9.toInt = o38_x9.toInt ∧ o587_x19.toInt = o38_x19.toInt ∧ o587_x20.toInt = o38_x20.toInt from ⟨by omega, by omega, h3, fun q9 => ⟨(h4.leaf (by decide) (by omega) tk598.1 tk598.2.1 (by omega) (by omega)), (mo_FR.emit tk598.1 tk598.2.1 (h4.pj0 (by decide)).base), by have q8 : (3 : Int32).toInt = 3 := rfl; omega⟩, by omega, by omega, by omega, by omega⟩)))⟩, by rw [ht]; exact hP, va_K.moved hW.alike hK, hD⟩, hS.F ht⟩) hS.2.2 dX12_readPart_121
              · have ic572 : r54.toInt = (-1) := zi_nef rfl rfl c572
                exfalso; omega
          · have ic545 : o38_x25.toInt < 50 := zi_gef rfl rfl c545
            refine lv_iconst (v := 1) hx hb dX12_readPart_80 (by decide) ?_
            refine lv_goto (tgt := 85) hx hb dX12_readPart_81 (by decide) ?_
            have hFc := tp_fr hD hS hA
            refine va_callv (va_runV (As := [.int 1]) (rest := []) ⟨hx, hb, hml, hown, hts⟩ (t_X12_must l dC dI _ κ τ ν ρ L f hG hT h0 (1) ht_h0 (by first | decide | omega) (by first | (simp only [tf40, tf41, tf39, tf42, tf48, mo_i1, mo_l1]; exact (show (o38_x10.toInt ≤ o38_x11.toInt ∧ o38_x11.toInt ≤ o38_x9.toInt ∧ (o38_x12.toInt = 0 ∨ o38_x10.toInt < o38_x11.toInt) ∧ (o38_x12.toInt = 1 → o38_x11.toInt = o38_x10.toInt + 1 → o38_x13.toInt ≤ 26)) from by have : (1 : Int32).toInt = 1 := rfl; first | omega | decide)) | (rw [tf40, tf41, tf39, tf42, tf48]; exact (show (o38_x10.toInt ≤ o38_x11.toInt ∧ o38_x11.toInt ≤ o38_x9.toInt ∧ (o38_x12.toInt = 0 ∨ o38_x10.toInt < o38_x11.toInt) ∧ (o38_x12.toInt = 1 → o38_x11.toInt = o38_x10.toInt + 1 → o38_x13.toInt ≤ 26)) from by have : (1 : Int32).toInt = 1 := rfl; first | omega | decide)))) (cwV 1 hts gX12_readPart_X12_must rfl rfl rfl ⟨rfl, pd_X12_must⟩ ⟨Nat.le_of_ble_eq_true rfl, Nat.le_of_ble_eq_true rfl⟩) ⟨pz_blind, va_recv hK hP (ci := 12) (q0 := q49) rfl eq49, pz_pre hP hK hD hN⟩ rfl rfl hl.1 rfl (lv_room (Nat.le_of_ble_eq_true rfl)) dX12_readPart_85 ⟨Nat.le_of_ble_eq_true rfl, Nat.le_of_ble_eq_true rfl⟩) hS (fun q _ h => hFc q h) hFc (fun f628 t H1 locs ht hvm hw627 hB hz1 hk1 hS => ?_)
            obtain ⟨hT, hF629, hw627p⟩ := hw627
            have hR := hR.then hF629 (by decide)
            have hP := hB.1; rw [ht] at hP; have hD := tp_ad f628 hD; clear hB hFc hz1 hk1; subst ht; generalize t.heap = H at hP hS ⊢
            obtain ⟨o630_x0, o630_x1, o630_x7, o630_x9, o630_x10, o630_x11, o630_x12, o630_x13, o630_x14, o630_x15, o630_x16, o630_x17, o630_x18, o630_x19, o630_x20, o630_x22, o630_x25, o630_x28, o630_x29, o630_x32, o630_x33, o630_x34, o630_x35, o630_x36, o630_x37, o630_x38, o630_x47, o630_x48, hf_o630, ro630_0, ro630_1, ro630_2, ro630_3, ro630_4, ro630_5, ro630_6, ro630_7, ro630_8, ro630_9, ro630_10, ro630_11, ro630_12, ro630_13⟩ := tpo_13 hT ht_h0
            have tf631 : tp_fld (f628 h0) 10 = o630_x10.toInt := tff_10 hf_o630
            have tf632 : tp_fld (f628 h0) 11 = o630_x11.toInt := tff_11 hf_o630
            have tf633 : tp_fld (f628 h0) 9 = o630_x9.toInt := tff_9 hf_o630
            have tf634 : tp_fld (f628 h0) 12 = o630_x12.toInt := tff_12 hf_o630
            have tf635 : mo_fj (f628 h0) 13 = o630_x13.toInt := tff_13 hf_o630
            have tf636 : tp_fld (f628 h0) 15 = o630_x15.toInt := tff_15 hf_o630
            have tf637 : tp_fld (f628 h0) 19 = o630_x19.toInt := tff_19 hf_o630
            have tf638 : tp_fld (f628 h0) 20 = o630_x20.toInt := tff_20 hf_o630
            have tf639 : tp_fld (f628 h0) 22 = o630_x22.toInt := tff_22 hf_o630
            have tf640 : tp_fld (f628 h0) 28 = o630_x28.toInt := tff_28 hf_o630
            have tk641 : (o630_x10.toInt ≤ o630_x11.toInt ∧ o630_x11.toInt ≤ o630_x9.toInt ∧ (o630_x12.toInt = 0 ∨ o630_x10.toInt < o630_x11.toInt) ∧ (o630_x12.toInt = 1 → o630_x11.toInt = o630_x10.toInt + 1 → o630_x13.toInt ≤ 26)) ∧ (o630_x15.toInt = 0 → o38_x15.toInt = 0 ∧ o38_x11.toInt ≤ o630_x10.toInt ∧ (1 : Int) ≠ 0) ∧ (o630_x15.toInt ≠ 0 → o630_x10.toInt = o38_x10.toInt) ∧ o630_x9.toInt = o38_x9.toInt ∧ o630_x19.toInt = o38_x19.toInt ∧ o630_x20.toInt = o38_x20.toInt ∧ o630_x22.toInt = o38_x22.toInt ∧ o630_x28.toInt = o38_x28.toInt := by have q9 := hw627p; first | (simp only [tf631, tf632, tf633, tf634, tf635, tf636, tf43, tf41, tf40, tf39, tf637, tf44, tf638, tf45, tf639, tf46, tf640, tf47, mo_i1, mo_l1] at q9; exact q9) | (rw [tf631, tf632, tf633, tf634, tf635, tf636, tf43, tf41, tf40, tf39, tf637, tf44, tf638, tf45, tf639, tf46, tf640, tf47] at q9; exact q9)
            refine lv_aload_n hx hb dX12_readPart_88 rfl (lv_at hl 3 rfl) ?_
            obtain ⟨q642, eq642⟩ := tp_pos (tp_in hG ht_h0 (by decide)) hf_o630
            refine va_get (D := (dC, dI)) (ci := 12) (v := .int o630_x15) (C := RX12) (T := TX12) (N := 53) hx hb hts hfX12 hown hK hP q642 eq642 rfl 15 (by decide) (hts (.fieldLink RX12 261 "ColdShipsModel" "bad" "Z") wa_994) (fun _ h9 => h9) rfl dX12_readPart_89 ?_
            refine lv_if_ne (tgt := 120) hx hb dX12_readPart_92 (by decide) (fun c643 => ?_) (fun c643 => ?_)
            · have ic643 : o630_x15.toInt ≠ 0 := zi_ne rfl rfl c643
              refine lv_iconst (v := 3) hx hb dX12_readPart_120 (by decide) ?_
              have hf_644 : f628 (ρ h0 26) = .inl (κ 0, 400, .inl g33) := (hF629 _ (by rw [y10]; decide)).trans hf_o32
              have tf645 : mo_i (f628 (ρ h0 26)) = g33 := tfa_i hf_644
              have hf_646 : f628 (ρ h0 27) = .inl (κ 0, 400, .inl g36) := (hF629 _ (by rw [y11]; decide)).trans hf_o35
              have tf647 : mo_i (f628 (ρ h0 27)) = g36 := tfa_i hf_646
              have hf_648 : f628 (ρ h0 23) = .inl (κ 0, 400, .inl g27) := (hF629 _ (by rw [y8]; decide)).trans hf_o26
              have tf649 : mo_i (f628 (ρ h0 23)) = g27 := tfa_i hf_648
              have hf_650 : f628 (ρ h0 24) = .inl (κ 0, 400, .inl g30) := (hF629 _ (by rw [y9]; decide)).trans hf_o29
              have tf651 : mo_i (f628 (ρ h0 24)) = g30 := tfa_i hf_650
              exact W.iret (v := 3) hx hb hr (fun t ht hW => ⟨⟨3, f628, rfl, ⟨hT, hR, (by first | decide | omega), (by first | (simp only [tf631, tf632, tf633, tf634, tf635, tf639, tf640, tf645, tf647, tf636, tf649, tf651, tf28, tf31, tf40, tf46, tf39, tf637, tf44, tf638, tf45, mo_i1, mo_l1]; exact (show (o630_x10.toInt ≤ o630_x11.toInt ∧ o630_x11.toInt ≤ o630_x9.toInt ∧ (o630_x12.toInt = 0 ∨ o630_x10.toInt < o630_x11.toInt) ∧ (o630_x12.toInt = 1 → o630_x11.toInt = o630_x10.toInt + 1 → o630_x13.toInt ≤ 26)) ∧ o630_x22.toInt + o630_x28.toInt ≤ o630_x10.toInt ∧ mo_PV (mo_R g33) (mo_R g36) o630_x28.toInt ∧ (o630_x15.toInt = 0 → mo_EX aa (3 : Int32).toInt (mo_R g27) (mo_R g30) (mo_R g33) (mo_R g36) o630_x22.toInt o630_x28.toInt ∧ mo_FR aa (mo_R g27) (mo_R g30) (mo_R g27) (mo_R g30) ∧ ((3 : Int32).toInt = 4 ∨ o38_x10.toInt < o630_x10.toInt ∨ (o630_x10.toInt = o38_x10.toInt ∧ (3 : Int32).toInt = 2))) ∧ o38_x22.toInt ≤ o630_x22.toInt ∧ o630_x9.toInt = o38_x9.toInt ∧ o630_x19.toInt = o38_x19.toInt ∧ o630_x20.toInt = o38_x20.toInt from ⟨by omega, by omega, h3, fun q9 => by exfalso; omega, by omega, by omega, by omega, by omega⟩)) | (rw [tf631, tf632, tf633, tf634, tf635, tf639, tf640, tf645, tf647, tf636, tf649, tf651, tf28, tf31, tf40, tf46, tf39, tf637, tf44, tf638, tf45]; exact (show (o630_x10.toInt ≤ o630_x11.toInt ∧ o630_x11.toInt ≤ o630_x9.toInt ∧ (o630_x12.toInt = 0 ∨ o630_x10.toInt < o630_x11.toInt) ∧ (o630_x12.toInt = 1 → o630_x11.toInt = o630_x10.toInt + 1 → o630_x13.toInt ≤ 26)) ∧ o630_x22.toInt + o630_x28.toInt ≤ o630_x10.toInt ∧ mo_PV (mo_R g33) (mo_R g36) o630_x28.toInt ∧ (o630_x15.toInt = 0 → mo_EX aa (3 : Int32).toInt (mo_R g27) (mo_R g30) (mo_R g33) (mo_R g36) o630_x22.toInt o630_x28.toInt ∧ mo_FR aa (mo_R g27) (mo_R g30) (mo_R g27) (mo_R g30) ∧ ((3 : Int32).toInt = 4 ∨ o38_x10.toInt < o630_x10.toInt ∨ (o630_x10.toInt = o38_x10.toInt ∧ (3 : Int32).toInt = 2))) ∧ o38_x22.toInt ≤ o630_x22.toInt ∧ o630_x9.toInt = o38_x9.toInt ∧ o630_x19.toInt = o38_x19.toInt ∧ o630_x20.toInt = o38_x20.toInt from ⟨by omega, by omega, h3, fun q9 => by exfalso; omega, by omega, by omega, by omega, by omega⟩)))⟩, by rw [ht]; exact hP, va_K.moved hW.alike hK, hD⟩, hS.F ht⟩) hS.2.2 dX12_readPart_121
            · have ic643 : o630_x15.toInt = 0 := zi_nef rfl rfl c643
              refine lv_aload_n hx hb dX12_readPart_95 rfl (lv_at hl 3 rfl) ?_
              refine lv_iload_n hx hb dX12_readPart_96 rfl (lv_at hl 2 rfl) ?_
              refine lv_iconst (v := (-1)) hx hb dX12_readPart_97 (by decide) ?_
              refine lv_icmp_ne (tgt := 105) hx hb dX12_readPart_98 (by decide) (fun c652 => ?_) (fun c652 => ?_)
              · have ic652 : r54.toInt ≠ (-1) := zi_ne rfl rfl c652
                refine lv_iload_n hx hb dX12_readPart_105 rfl (lv_at hl 2 rfl) ?_
                refine lv_iload_n hx hb dX12_readPart_106 rfl (lv_at hl 0 rfl) ?_
                have hf_653 : f628 (ρ h0 23) = .inl (κ 0, 400, .inl g27) := (hF629 _ (by rw [y8]; decide)).trans hf_o26
                have tf654 : mo_i (f628 (ρ h0 23)) = g27 := tfa_i hf_653
                have hf_655 : f628 (ρ h0 24) = .inl (κ 0, 400, .inl g30) := (hF629 _ (by rw [y9]; decide)).trans hf_o29
                have tf656 : mo_i (f628 (ρ h0 24)) = g30 := tfa_i hf_655
                have hFc := tp_fr hD hS hA
                refine va_callv (va_runV (As := [.int r54, .int z543]) (rest := []) ⟨hx, hb, hml, hown, hts⟩ (t_X12_emit l dC dI _ κ τ ν ρ L f628 hG hT h0 r54 z543 ht_h0 (by first | (simp only [tf639, mo_i1, mo_l1]; exact (show o630_x22.toInt < 400 from by first | omega | decide)) | (rw [tf639]; exact (show o630_x22.toInt < 400 from by first | omega | decide)))) (cwV 2 hts gX12_readPart_X12_emit rfl rfl rfl ⟨rfl, pd_X12_emit⟩ ⟨Nat.le_of_ble_eq_true rfl, Nat.le_of_ble_eq_true rfl⟩) ⟨pz_blind, va_recv hK hP (ci := 12) (q0 := q642) rfl eq642, pz_pre hP hK hD hN⟩ rfl rfl hl.1 rfl (lv_room (Nat.le_of_ble_eq_true rfl)) dX12_readPart_107 ⟨Nat.le_of_ble_eq_true rfl, Nat.le_of_ble_eq_true rfl⟩) hS (fun q _ h => hFc q h) hFc (fun f659 t H1 locs ht hvm hw658 hB hz1 hk1 hS => ?_)
                obtain ⟨hT, hF660, hw658p⟩ := hw658
                have hR := hR.then hF660 (by decide)
                have hP := hB.1; rw [ht] at hP; have hD := tp_ad f659 hD; clear hB hFc hz1 hk1; subst ht; generalize t.heap = H at hP hS ⊢
                obtain ⟨g662, hf_o661⟩ := tpo_53 hT y8
                have tf663 : mo_i (f659 (ρ h0 23)) = g662 := tfa_i hf_o661
                obtain ⟨g665, hf_o664⟩ := tpo_54 hT y9
                have tf666 : mo_i (f659 (ρ h0 24)) = g665 := tfa_i hf_o664
                obtain ⟨o667_x0, o667_x1, o667_x7, o667_x9, o667_x10, o667_x11, o667_x12, o667_x13, o667_x14, o667_x15, o667_x16, o667_x17, o667_x18, o667_x19, o667_x20, o667_x22, o667_x25, o667_x28, o667_x29, o667_x32, o667_x33, o667_x34, o667_x35, o667_x36, o667_x37, o667_x38, o667_x47, o667_x48, hf_o667, ro667_0, ro667_1, ro667_2, ro667_3, ro667_4, ro667_5, ro667_6, ro667_7, ro667_8, ro667_9, ro667_10, ro667_11, ro667_12, ro667_13⟩ := tpo_13 hT ht_h0
                have tf668 : tp_fld (f659 h0) 22 = o667_x22.toInt := tff_22 hf_o667
                have tf669 : tp_fld (f659 h0) 9 = o667_x9.toInt := tff_9 hf_o667
                have tf670 : tp_fld (f659 h0) 10 = o667_x10.toInt := tff_10 hf_o667
                have tf671 : tp_fld (f659 h0) 11 = o667_x11.toInt := tff_11 hf_o667
                have tf672 : tp_fld (f659 h0) 12 = o667_x12.toInt := tff_12 hf_o667
                have tf673 : mo_fj (f659 h0) 13 = o667_x13.toInt := tff_13 hf_o667
                have tf674 : tp_fld (f659 h0) 15 = o667_x15.toInt := tff_15 hf_o667
                have tf675 : tp_fld (f659 h0) 19 = o667_x19.toInt := tff_19 hf_o667
                have tf676 : tp_fld (f659 h0) 20 = o667_x20.toInt := tff_20 hf_o667
                have tf677 : tp_fld (f659 h0) 28 = o667_x28.toInt := tff_28 hf_o667
                have tk678 : mo_U (mo_R g27) (mo_R g662) o630_x22.toInt r54.toInt ∧ mo_U (mo_R g30) (mo_R g665) o630_x22.toInt z543.toInt ∧ o667_x22.toInt = o630_x22.toInt + 1 ∧ o667_x9.toInt = o630_x9.toInt ∧ o667_x10.toInt = o630_x10.toInt ∧ o667_x11.toInt = o630_x11.toInt ∧ o667_x12.toInt = o630_x12.toInt ∧ o667_x13.toInt = o630_x13.toInt ∧ o667_x15.toInt = o630_x15.toInt ∧ o667_x19.toInt = o630_x19.toInt ∧ o667_x20.toInt = o630_x20.toInt ∧ o667_x28.toInt = o630_x28.toInt := by have q9 := hw658p; first | (simp only [tf654, tf663, tf639, tf656, tf666, tf668, tf669, tf633, tf670, tf631, tf671, tf632, tf672, tf634, tf673, tf635, tf674, tf636, tf675, tf637, tf676, tf638, tf677, tf640, mo_i1, mo_l1] at q9; exact q9) | (rw [tf654, tf663, tf639, tf656, tf666, tf668, tf669, tf633, tf670, tf631, tf671, tf632, tf672, tf634, tf673, tf635, tf674, tf636, tf675, tf637, tf676, tf638, tf677, tf640] at q9; exact q9)
                refine lv_aload_n hx hb dX12_readPart_110 rfl (lv_at hl 3 rfl) ?_
                refine lv_dup hx hb dX12_readPart_111 rfl ?_
                obtain ⟨q679, eq679⟩ := tp_pos (tp_in hG ht_h0 (by decide)) hf_o667
                refine va_get (D := (dC, dI)) (ci := 12) (v := .int o667_x25) (C := RX12) (T := TX12) (N := 53) hx hb hts hfX12 hown hK hP q679 eq679 rfl 25 (by decide) (hts (.fieldLink RX12 351 "ColdShipsModel" "nLeaves" "I") wa_990) (fun _ h9 => h9) rfl dX12_readPart_112 ?_
                refine lv_iconst (v := 1) hx hb dX12_readPart_115 (by decide) ?_
                refine lv_iadd hx hb dX12_readPart_116 ?_
                refine lv_topi (fun z680 ez680 => ?_)
                refine va_put (D := (dC, dI)) (ci := 12) (v := .int z680) (ty := .int) (C := RX12) (T := TX12) (N := 53) hx hb hts hfX12 tyX12 tyX12_ok nmX12 hown hK hP hD hS q679 eq679 rfl 25 (by decide) (hts (.fieldLink RX12 351 "ColdShipsModel" "nLeaves" "I") wa_990) (fun _ h9 => h9) rfl (tyX12_ok 25 (by decide)) rfl rfl (Nat.le_of_ble_eq_true rfl) dX12_readPart_117 (tp_k (.inr (12, [.int o667_x0, .int o667_x1, .ref (ρ h0 2), .ref (ρ h0 3), .ref (ρ h0 4), .ref (ρ h0 5), .ref (ρ h0 6), .int o667_x7, .ref (ρ h0 8), .int o667_x9, .int o667_x10, .int o667_x11, .int o667_x12, .long o667_x13, .int o667_x14, .int o667_x15, .int o667_x16, .int o667_x17, .int o667_x18, .int o667_x19, .int o667_x20, .ref (ρ h0 21), .int o667_x22, .ref (ρ h0 23), .ref (ρ h0 24), .int z680, .ref (ρ h0 26), .ref (ρ h0 27), .int o667_x28, .int o667_x29, .ref (ρ h0 30), .ref (ρ h0 31), .int o667_x32, .long o667_x33, .long o667_x34, .long o667_x35, .int o667_x36, .int o667_x37, .int o667_x38, .ref (ρ h0 39), .ref (ρ h0 40), .ref (ρ h0 41), .ref (ρ h0 42), .ref (ρ h0 43), .ref (ρ h0 44), .ref (ρ h0 45), .ref (ρ h0 46), .int o667_x47, .int o667_x48, .ref (ρ h0 49), .ref (ρ h0 50), .ref (ρ h0 51), .ref (ρ h0 52)])) hD (tp_in hG ht_h0 (by decide)) eq679 (fun f681 H locs hP hD hS g683 k682 => ?_))
                have hT := hT.up ht_h0 g683 k682 ⟨_, _, _, _, _, _, _, _, _, _, _, _, _, _, _, _, _, _, _, _, _, _, _, _, _, _, _, _, rfl, ro667_0, ro667_1, ro667_2, ro667_3, ro667_4, ro667_5, ro667_6, ro667_7, ro667_8, ro667_9, ro667_10, ro667_11, ro667_12, ro667_13⟩
                have hR := hR.up ht_h0 (by decide) k682
                refine lv_iconst (v := 3) hx hb dX12_readPart_120 (by decide) ?_
                have tf684 : tp_fld (f681 h0) 10 = o667_x10.toInt := tff_10 g683
                have tf685 : tp_fld (f681 h0) 11 = o667_x11.toInt := tff_11 g683
                have tf686 : tp_fld (f681 h0) 9 = o667_x9.toInt := tff_9 g683
                have tf687 : tp_fld (f681 h0) 12 = o667_x12.toInt := tff_12 g683
                have tf688 : mo_fj (f681 h0) 13 = o667_x13.toInt := tff_13 g683
                have tf689 : tp_fld (f681 h0) 22 = o667_x22.toInt := tff_22 g683
                have tf690 : tp_fld (f681 h0) 28 = o667_x28.toInt := tff_28 g683
                have hf_691 : f628 (ρ h0 26) = .inl (κ 0, 400, .inl g33) := (hF629 _ (by rw [y10]; decide)).trans hf_o32
                have hf_692 : f659 (ρ h0 26) = .inl (κ 0, 400, .inl g33) := (hF660 _ (by rw [y10]; decide)).trans hf_691
                have hf_693 : f681 (ρ h0 26) = .inl (κ 0, 400, .inl g33) := (k682 _ (tp_ne y10 ht_h0 (by decide))).trans hf_692
                have tf694 : mo_i (f681 (ρ h0 26)) = g33 := tfa_i hf_693
                have hf_695 : f628 (ρ h0 27) = .inl (κ 0, 400, .inl g36) := (hF629 _ (by rw [y11]; decide)).trans hf_o35
                have hf_696 : f659 (ρ h0 27) = .inl (κ 0, 400, .inl g36) := (hF660 _ (by rw [y11]; decide)).trans hf_695
                have hf_697 : f681 (ρ h0 27) = .inl (κ 0, 400, .inl g36) := (k682 _ (tp_ne y11 ht_h0 (by decide))).trans hf_696
                have tf698 : mo_i (f681 (ρ h0 27)) = g36 := tfa_i hf_697
                have tf699 : tp_fld (f681 h0) 15 = o667_x15.toInt := tff_15 g683
                have hf_700 : f681 (ρ h0 23) = .inl (κ 0, 400, .inl g662) := (k682 _ (tp_ne y8 ht_h0 (by decide))).trans hf_o661
                have tf701 : mo_i (f681 (ρ h0 23)) = g662 := tfa_i hf_700
                have hf_702 : f681 (ρ h0 24) = .inl (κ 0, 400, .inl g665) := (k682 _ (tp_ne y9 ht_h0 (by decide))).trans hf_o664
                have tf703 : mo_i (f681 (ρ h0 24)) = g665 := tfa_i hf_702
                have tf704 : tp_fld (f681 h0) 19 = o667_x19.toInt := tff_19 g683
                have tf705 : tp_fld (f681 h0) 20 = o667_x20.toInt := tff_20 g683
                exact W.iret (v := 3) hx hb hr (fun t ht hW => ⟨⟨3, f681, rfl, ⟨hT, hR, (by first | decide | omega), (by first | (simp only [tf684, tf685, tf686, tf687, tf688, tf689, tf690, tf694, tf698, tf699, tf701, tf703, tf28, tf31, tf40, tf46, tf39, tf704, tf44, tf705, tf45, mo_i1, mo_l1]; exact (show (o667_x10.toInt ≤ o667_x11.toInt ∧ o667_x11.toInt ≤ o667_x9.toInt ∧ (o667_x12.toInt = 0 ∨ o667_x10.toInt < o667_x11.toInt) ∧ (o667_x12.toInt = 1 → o667_x11.toInt = o667_x10.toInt + 1 → o667_x13.toInt ≤ 26)) ∧ o667_x22.toInt + o667_x28.toInt ≤ o667_x10.toInt ∧ mo_PV (mo_R g33) (mo_R g36) o667_x28.toInt ∧ (o667_x15.toInt = 0 → mo_EX aa (3 : Int32).toInt (mo_R g662) (mo_R g665) (mo_R g33) (mo_R g36) o667_x22.toInt o667_x28.toInt ∧ mo_FR aa (mo_R g27) (mo_R g30) (mo_R g662) (mo_R g665) ∧ ((3 : Int32).toInt = 4 ∨ o38_x10.toInt < o667_x10.toInt ∨ (o667_x10.toInt = o38_x10.toInt ∧ (3 : Int32).toInt = 2))) ∧ o38_x22.toInt ≤ o667_x22.toInt ∧ o667_x9.toInt = o38_x9.toInt ∧ o667_x19.toInt = o38_x19.toInt ∧ o667_x20.toInt = o38_x20.toInt from ⟨by omega, by omega, h3, fun q9 => ⟨(h4.leaf (by decide) (by omega) tk678.1 tk678.2.1 (by omega) (by omega)), (mo_FR.emit tk678.1 tk678.2.1 (h4.pj0 (by decide)).base), by have q8 : (3 : Int32).toInt = 3 := rfl; omega⟩, by omega, by omega, by omega, by omega⟩)) | (rw [tf684, tf685, tf686, tf687, tf688, tf689, tf690, tf694, tf698, tf699, tf701, tf703, tf28, tf31, tf40, tf46, tf39, tf704, tf44, tf705, tf45]; exact (show (o667_x10.toInt ≤ o667_x11.toInt ∧ o667_x11.toInt ≤ o667_x9.toInt ∧ (o667_x12.toInt = 0 ∨ o667_x10.toInt < o667_x11.toInt) ∧ (o667_x12.toInt = 1 → o667_x11.toInt = o667_x10.toInt + 1 → o667_x13.toInt ≤ 26)) ∧ o667_x22.toInt + o667_x28.toInt ≤ o667_x10.toInt ∧ mo_PV (mo_R g33) (mo_R g36) o667_x28.toInt ∧ (o667_x15.toInt = 0 → mo_EX aa (3 : Int32).toInt (mo_R g662) (mo_R g665) (mo_R g33) (mo_R g36) o667_x22.toInt o667_x28.toInt ∧ mo_FR aa (mo_R g27) (mo_R g30) (mo_R g662) (mo_R g665) ∧ ((3 : Int32).toInt = 4 ∨ o38_x10.toInt < o667_x10.toInt ∨ (o667_x10.toInt = o38_x10.toInt ∧ (3 : Int32).toInt = 2))) ∧ o38_x22.toInt ≤ o667_x22.toInt ∧ o667_x9.toInt = o38_x9.toInt ∧ o667_x19.toInt = o38_x19.toInt ∧ o667_x20.toInt = o38_x20.toInt from ⟨by omega, by omega, h3, fun q9 => ⟨(h4.leaf (by decide) (by omega) tk678.1 tk678.2.1 (by omega) (by omega)), (mo_FR.emit tk678.1 tk678.2.1 (h4.pj0 (by decide)).base), by have q8 : (3 : Int32).toInt = 3 := rfl; omega⟩, by omega, by omega, by omega, by omega⟩)))⟩, by rw [ht]; exact hP, va_K.moved hW.alike hK, hD⟩, hS.F ht⟩) hS.2.2 dX12_readPart_121
              · have ic652 : r54.toInt = (-1) := zi_nef rfl rfl c652
                exfalso; omega
        · have ic544 : r54.toInt = (-1) := zi_nef rfl rfl c544
          refine lv_iload_n hx hb dX12_readPart_67 rfl (lv_at hl 1 rfl) ?_
          refine lv_if_eq (tgt := 84) hx hb dX12_readPart_68 (by decide) (fun c9 => absurd c9 (by decide)) (fun _ => ?_)
          refine lv_aload_n hx hb dX12_readPart_71 rfl (lv_at hl 3 rfl) ?_
          refine va_get (D := (dC, dI)) (ci := 12) (v := .int o38_x25) (C := RX12) (T := TX12) (N := 53) hx hb hts hfX12 hown hK hP q49 eq49 rfl 25 (by decide) (hts (.fieldLink RX12 351 "ColdShipsModel" "nLeaves" "I") wa_990) (fun _ h9 => h9) rfl dX12_readPart_72 ?_
          refine lv_bipush (v := 50) hx hb dX12_readPart_75 (by decide) ?_
          refine lv_icmp_ge (tgt := 84) hx hb dX12_readPart_77 (by decide) (fun c706 => ?_) (fun c706 => ?_)
          · have ic706 : o38_x25.toInt ≥ 50 := zi_ge rfl rfl c706
            refine lv_iconst (v := 0) hx hb dX12_readPart_84 (by decide) ?_
            have hFc := tp_fr hD hS hA
            refine va_callv (va_runV (As := [.int 0]) (rest := []) ⟨hx, hb, hml, hown, hts⟩ (t_X12_must l dC dI _ κ τ ν ρ L f hG hT h0 (0) ht_h0 (by first | decide | omega) (by first | (simp only [tf40, tf41, tf39, tf42, tf48, mo_i1, mo_l1]; exact (show (o38_x10.toInt ≤ o38_x11.toInt ∧ o38_x11.toInt ≤ o38_x9.toInt ∧ (o38_x12.toInt = 0 ∨ o38_x10.toInt < o38_x11.toInt) ∧ (o38_x12.toInt = 1 → o38_x11.toInt = o38_x10.toInt + 1 → o38_x13.toInt ≤ 26)) from by have : (0 : Int32).toInt = 0 := rfl; first | omega | decide)) | (rw [tf40, tf41, tf39, tf42, tf48]; exact (show (o38_x10.toInt ≤ o38_x11.toInt ∧ o38_x11.toInt ≤ o38_x9.toInt ∧ (o38_x12.toInt = 0 ∨ o38_x10.toInt < o38_x11.toInt) ∧ (o38_x12.toInt = 1 → o38_x11.toInt = o38_x10.toInt + 1 → o38_x13.toInt ≤ 26)) from by have : (0 : Int32).toInt = 0 := rfl; first | omega | decide)))) (cwV 1 hts gX12_readPart_X12_must rfl rfl rfl ⟨rfl, pd_X12_must⟩ ⟨Nat.le_of_ble_eq_true rfl, Nat.le_of_ble_eq_true rfl⟩) ⟨pz_blind, va_recv hK hP (ci := 12) (q0 := q49) rfl eq49, pz_pre hP hK hD hN⟩ rfl rfl hl.1 rfl (lv_room (Nat.le_of_ble_eq_true rfl)) dX12_readPart_85 ⟨Nat.le_of_ble_eq_true rfl, Nat.le_of_ble_eq_true rfl⟩) hS (fun q _ h => hFc q h) hFc (fun f709 t H1 locs ht hvm hw708 hB hz1 hk1 hS => ?_)
            obtain ⟨hT, hF710, hw708p⟩ := hw708
            have hR := hR.then hF710 (by decide)
            have hP := hB.1; rw [ht] at hP; have hD := tp_ad f709 hD; clear hB hFc hz1 hk1; subst ht; generalize t.heap = H at hP hS ⊢
            obtain ⟨o711_x0, o711_x1, o711_x7, o711_x9, o711_x10, o711_x11, o711_x12, o711_x13, o711_x14, o711_x15, o711_x16, o711_x17, o711_x18, o711_x19, o711_x20, o711_x22, o711_x25, o711_x28, o711_x29, o711_x32, o711_x33, o711_x34, o711_x35, o711_x36, o711_x37, o711_x38, o711_x47, o711_x48, hf_o711, ro711_0, ro711_1, ro711_2, ro711_3, ro711_4, ro711_5, ro711_6, ro711_7, ro711_8, ro711_9, ro711_10, ro711_11, ro711_12, ro711_13⟩ := tpo_13 hT ht_h0
            have tf712 : tp_fld (f709 h0) 10 = o711_x10.toInt := tff_10 hf_o711
            have tf713 : tp_fld (f709 h0) 11 = o711_x11.toInt := tff_11 hf_o711
            have tf714 : tp_fld (f709 h0) 9 = o711_x9.toInt := tff_9 hf_o711
            have tf715 : tp_fld (f709 h0) 12 = o711_x12.toInt := tff_12 hf_o711
            have tf716 : mo_fj (f709 h0) 13 = o711_x13.toInt := tff_13 hf_o711
            have tf717 : tp_fld (f709 h0) 15 = o711_x15.toInt := tff_15 hf_o711
            have tf718 : tp_fld (f709 h0) 19 = o711_x19.toInt := tff_19 hf_o711
            have tf719 : tp_fld (f709 h0) 20 = o711_x20.toInt := tff_20 hf_o711
            have tf720 : tp_fld (f709 h0) 22 = o711_x22.toInt := tff_22 hf_o711
            have tf721 : tp_fld (f709 h0) 28 = o711_x28.toInt := tff_28 hf_o711
            have tk722 : (o711_x10.toInt ≤ o711_x11.toInt ∧ o711_x11.toInt ≤ o711_x9.toInt ∧ (o711_x12.toInt = 0 ∨ o711_x10.toInt < o711_x11.toInt) ∧ (o711_x12.toInt = 1 → o711_x11.toInt = o711_x10.toInt + 1 → o711_x13.toInt ≤ 26)) ∧ (o711_x15.toInt = 0 → o38_x15.toInt = 0 ∧ o38_x11.toInt ≤ o711_x10.toInt ∧ (0 : Int) ≠ 0) ∧ (o711_x15.toInt ≠ 0 → o711_x10.toInt = o38_x10.toInt) ∧ o711_x9.toInt = o38_x9.toInt ∧ o711_x19.toInt = o38_x19.toInt ∧ o711_x20.toInt = o38_x20.toInt ∧ o711_x22.toInt = o38_x22.toInt ∧ o711_x28.toInt = o38_x28.toInt := by have q9 := hw708p; first | (simp only [tf712, tf713, tf714, tf715, tf716, tf717, tf43, tf41, tf40, tf39, tf718, tf44, tf719, tf45, tf720, tf46, tf721, tf47, mo_i1, mo_l1] at q9; exact q9) | (rw [tf712, tf713, tf714, tf715, tf716, tf717, tf43, tf41, tf40, tf39, tf718, tf44, tf719, tf45, tf720, tf46, tf721, tf47] at q9; exact q9)
            refine lv_aload_n hx hb dX12_readPart_88 rfl (lv_at hl 3 rfl) ?_
            obtain ⟨q723, eq723⟩ := tp_pos (tp_in hG ht_h0 (by decide)) hf_o711
            refine va_get (D := (dC, dI)) (ci := 12) (v := .int o711_x15) (C := RX12) (T := TX12) (N := 53) hx hb hts hfX12 hown hK hP q723 eq723 rfl 15 (by decide) (hts (.fieldLink RX12 261 "ColdShipsModel" "bad" "Z") wa_994) (fun _ h9 => h9) rfl dX12_readPart_89 ?_
            refine lv_if_ne (tgt := 120) hx hb dX12_readPart_92 (by decide) (fun c724 => ?_) (fun c724 => ?_)
            · have ic724 : o711_x15.toInt ≠ 0 := zi_ne rfl rfl c724
              refine lv_iconst (v := 3) hx hb dX12_readPart_120 (by decide) ?_
              have hf_725 : f709 (ρ h0 26) = .inl (κ 0, 400, .inl g33) := (hF710 _ (by rw [y10]; decide)).trans hf_o32
              have tf726 : mo_i (f709 (ρ h0 26)) = g33 := tfa_i hf_725
              have hf_727 : f709 (ρ h0 27) = .inl (κ 0, 400, .inl g36) := (hF710 _ (by rw [y11]; decide)).trans hf_o35
              have tf728 : mo_i (f709 (ρ h0 27)) = g36 := tfa_i hf_727
              have hf_729 : f709 (ρ h0 23) = .inl (κ 0, 400, .inl g27) := (hF710 _ (by rw [y8]; decide)).trans hf_o26
              have tf730 : mo_i (f709 (ρ h0 23)) = g27 := tfa_i hf_729
              have hf_731 : f709 (ρ h0 24) = .inl (κ 0, 400, .inl g30) := (hF710 _ (by rw [y9]; decide)).trans hf_o29
              have tf732 : mo_i (f709 (ρ h0 24)) = g30 := tfa_i hf_731
              exact W.iret (v := 3) hx hb hr (fun t ht hW => ⟨⟨3, f709, rfl, ⟨hT, hR, (by first | decide | omega), (by first | (simp only [tf712, tf713, tf714, tf715, tf716, tf720, tf721, tf726, tf728, tf717, tf730, tf732, tf28, tf31, tf40, tf46, tf39, tf718, tf44, tf719, tf45, mo_i1, mo_l1]; exact (show (o711_x10.toInt ≤ o711_x11.toInt ∧ o711_x11.toInt ≤ o711_x9.toInt ∧ (o711_x12.toInt = 0 ∨ o711_x10.toInt < o711_x11.toInt) ∧ (o711_x12.toInt = 1 → o711_x11.toInt = o711_x10.toInt + 1 → o711_x13.toInt ≤ 26)) ∧ o711_x22.toInt + o711_x28.toInt ≤ o711_x10.toInt ∧ mo_PV (mo_R g33) (mo_R g36) o711_x28.toInt ∧ (o711_x15.toInt = 0 → mo_EX aa (3 : Int32).toInt (mo_R g27) (mo_R g30) (mo_R g33) (mo_R g36) o711_x22.toInt o711_x28.toInt ∧ mo_FR aa (mo_R g27) (mo_R g30) (mo_R g27) (mo_R g30) ∧ ((3 : Int32).toInt = 4 ∨ o38_x10.toInt < o711_x10.toInt ∨ (o711_x10.toInt = o38_x10.toInt ∧ (3 : Int32).toInt = 2))) ∧ o38_x22.toInt ≤ o711_x22.toInt ∧ o711_x9.toInt = o38_x9.toInt ∧ o711_x19.toInt = o38_x19.toInt ∧ o711_x20.toInt = o38_x20.toInt from ⟨by omega, by omega, h3, fun q9 => by exfalso; omega, by omega, by omega, by omega, by omega⟩)) | (rw [tf712, tf713, tf714, tf715, tf716, tf720, tf721, tf726, tf728, tf717, tf730, tf732, tf28, tf31, tf40, tf46, tf39, tf718, tf44, tf719, tf45]; exact (show (o711_x10.toInt ≤ o711_x11.toInt ∧ o711_x11.toInt ≤ o711_x9.toInt ∧ (o711_x12.toInt = 0 ∨ o711_x10.toInt < o711_x11.toInt) ∧ (o711_x12.toInt = 1 → o711_x11.toInt = o711_x10.toInt + 1 → o711_x13.toInt ≤ 26)) ∧ o711_x22.toInt + o711_x28.toInt ≤ o711_x10.toInt ∧ mo_PV (mo_R g33) (mo_R g36) o711_x28.toInt ∧ (o711_x15.toInt = 0 → mo_EX aa (3 : Int32).toInt (mo_R g27) (mo_R g30) (mo_R g33) (mo_R g36) o711_x22.toInt o711_x28.toInt ∧ mo_FR aa (mo_R g27) (mo_R g30) (mo_R g27) (mo_R g30) ∧ ((3 : Int32).toInt = 4 ∨ o38_x10.toInt < o711_x10.toInt ∨ (o711_x10.toInt = o38_x10.toInt ∧ (3 : Int32).toInt = 2))) ∧ o38_x22.toInt ≤ o711_x22.toInt ∧ o711_x9.toInt = o38_x9.toInt ∧ o711_x19.toInt = o38_x19.toInt ∧ o711_x20.toInt = o38_x20.toInt from ⟨by omega, by omega, h3, fun q9 => by exfalso; omega, by omega, by omega, by omega, by omega⟩)))⟩, by rw [ht]; exact hP, va_K.moved hW.alike hK, hD⟩, hS.F ht⟩) hS.2.2 dX12_readPart_121
            · have ic724 : o711_x15.toInt = 0 := zi_nef rfl rfl c724
              refine lv_aload_n hx hb dX12_readPart_95 rfl (lv_at hl 3 rfl) ?_
              refine lv_iload_n hx hb dX12_readPart_96 rfl (lv_at hl 2 rfl) ?_
              refine lv_iconst (v := (-1)) hx hb dX12_readPart_97 (by decide) ?_
              refine lv_icmp_ne (tgt := 105) hx hb dX12_readPart_98 (by decide) (fun c733 => ?_) (fun c733 => ?_)
              · have ic733 : r54.toInt ≠ (-1) := zi_ne rfl rfl c733
                exfalso; omega
              · have ic733 : r54.toInt = (-1) := zi_nef rfl rfl c733
                refine lv_iconst (v := 0) hx hb dX12_readPart_101 (by decide) ?_
                refine lv_goto (tgt := 106) hx hb dX12_readPart_102 (by decide) ?_
                refine lv_iload_n hx hb dX12_readPart_106 rfl (lv_at hl 0 rfl) ?_
                have hf_734 : f709 (ρ h0 23) = .inl (κ 0, 400, .inl g27) := (hF710 _ (by rw [y8]; decide)).trans hf_o26
                have tf735 : mo_i (f709 (ρ h0 23)) = g27 := tfa_i hf_734
                have hf_736 : f709 (ρ h0 24) = .inl (κ 0, 400, .inl g30) := (hF710 _ (by rw [y9]; decide)).trans hf_o29
                have tf737 : mo_i (f709 (ρ h0 24)) = g30 := tfa_i hf_736
                have hFc := tp_fr hD hS hA
                refine va_callv (va_runV (As := [.int 0, .int z543]) (rest := []) ⟨hx, hb, hml, hown, hts⟩ (t_X12_emit l dC dI _ κ τ ν ρ L f709 hG hT h0 (0) z543 ht_h0 (by first | (simp only [tf720, mo_i1, mo_l1]; exact (show o711_x22.toInt < 400 from by have : (0 : Int32).toInt = 0 := rfl; first | omega | decide)) | (rw [tf720]; exact (show o711_x22.toInt < 400 from by have : (0 : Int32).toInt = 0 := rfl; first | omega | decide)))) (cwV 2 hts gX12_readPart_X12_emit rfl rfl rfl ⟨rfl, pd_X12_emit⟩ ⟨Nat.le_of_ble_eq_true rfl, Nat.le_of_ble_eq_true rfl⟩) ⟨pz_blind, va_recv hK hP (ci := 12) (q0 := q723) rfl eq723, pz_pre hP hK hD hN⟩ rfl rfl hl.1 rfl (lv_room (Nat.le_of_ble_eq_true rfl)) dX12_readPart_107 ⟨Nat.le_of_ble_eq_true rfl, Nat.le_of_ble_eq_true rfl⟩) hS (fun q _ h => hFc q h) hFc (fun f740 t H1 locs ht hvm hw739 hB hz1 hk1 hS => ?_)
                obtain ⟨hT, hF741, hw739p⟩ := hw739
                have hR := hR.then hF741 (by decide)
                have hP := hB.1; rw [ht] at hP; have hD := tp_ad f740 hD; clear hB hFc hz1 hk1; subst ht; generalize t.heap = H at hP hS ⊢
                obtain ⟨g743, hf_o742⟩ := tpo_53 hT y8
                have tf744 : mo_i (f740 (ρ h0 23)) = g743 := tfa_i hf_o742
                obtain ⟨g746, hf_o745⟩ := tpo_54 hT y9
                have tf747 : mo_i (f740 (ρ h0 24)) = g746 := tfa_i hf_o745
                obtain ⟨o748_x0, o748_x1, o748_x7, o748_x9, o748_x10, o748_x11, o748_x12, o748_x13, o748_x14, o748_x15, o748_x16, o748_x17, o748_x18, o748_x19, o748_x20, o748_x22, o748_x25, o748_x28, o748_x29, o748_x32, o748_x33, o748_x34, o748_x35, o748_x36, o748_x37, o748_x38, o748_x47, o748_x48, hf_o748, ro748_0, ro748_1, ro748_2, ro748_3, ro748_4, ro748_5, ro748_6, ro748_7, ro748_8, ro748_9, ro748_10, ro748_11, ro748_12, ro748_13⟩ := tpo_13 hT ht_h0
                have tf749 : tp_fld (f740 h0) 22 = o748_x22.toInt := tff_22 hf_o748
                have tf750 : tp_fld (f740 h0) 9 = o748_x9.toInt := tff_9 hf_o748
                have tf751 : tp_fld (f740 h0) 10 = o748_x10.toInt := tff_10 hf_o748
                have tf752 : tp_fld (f740 h0) 11 = o748_x11.toInt := tff_11 hf_o748
                have tf753 : tp_fld (f740 h0) 12 = o748_x12.toInt := tff_12 hf_o748
                have tf754 : mo_fj (f740 h0) 13 = o748_x13.toInt := tff_13 hf_o748
                have tf755 : tp_fld (f740 h0) 15 = o748_x15.toInt := tff_15 hf_o748
                have tf756 : tp_fld (f740 h0) 19 = o748_x19.toInt := tff_19 hf_o748
                have tf757 : tp_fld (f740 h0) 20 = o748_x20.toInt := tff_20 hf_o748
                have tf758 : tp_fld (f740 h0) 28 = o748_x28.toInt := tff_28 hf_o748
                have tk759 : mo_U (mo_R g27) (mo_R g743) o711_x22.toInt (0 : Int) ∧ mo_U (mo_R g30) (mo_R g746) o711_x22.toInt z543.toInt ∧ o748_x22.toInt = o711_x22.toInt + 1 ∧ o748_x9.toInt = o711_x9.toInt ∧ o748_x10.toInt = o711_x10.toInt ∧ o748_x11.toInt = o711_x11.toInt ∧ o748_x12.toInt = o711_x12.toInt ∧ o748_x13.toInt = o711_x13.toInt ∧ o748_x15.toInt = o711_x15.toInt ∧ o748_x19.toInt = o711_x19.toInt ∧ o748_x20.toInt = o711_x20.toInt ∧ o748_x28.toInt = o711_x28.toInt := by have q9 := hw739p; first | (simp only [tf735, tf744, tf720, tf737, tf747, tf749, tf750, tf714, tf751, tf712, tf752, tf713, tf753, tf715, tf754, tf716, tf755, tf717, tf756, tf718, tf757, tf719, tf758, tf721, mo_i1, mo_l1] at q9; exact q9) | (rw [tf735, tf744, tf720, tf737, tf747, tf749, tf750, tf714, tf751, tf712, tf752, tf713, tf753, tf715, tf754, tf716, tf755, tf717, tf756, tf718, tf757, tf719, tf758, tf721] at q9; exact q9)
                refine lv_aload_n hx hb dX12_readPart_110 rfl (lv_at hl 3 rfl) ?_
                refine lv_dup hx hb dX12_readPart_111 rfl ?_
                obtain ⟨q760, eq760⟩ := tp_pos (tp_in hG ht_h0 (by decide)) hf_o748
                refine va_get (D := (dC, dI)) (ci := 12) (v := .int o748_x25) (C := RX12) (T := TX12) (N := 53) hx hb hts hfX12 hown hK hP q760 eq760 rfl 25 (by decide) (hts (.fieldLink RX12 351 "ColdShipsModel" "nLeaves" "I") wa_990) (fun _ h9 => h9) rfl dX12_readPart_112 ?_
                refine lv_iconst (v := 1) hx hb dX12_readPart_115 (by decide) ?_
                refine lv_iadd hx hb dX12_readPart_116 ?_
                refine lv_topi (fun z761 ez761 => ?_)
                refine va_put (D := (dC, dI)) (ci := 12) (v := .int z761) (ty := .int) (C := RX12) (T := TX12) (N := 53) hx hb hts hfX12 tyX12 tyX12_ok nmX12 hown hK hP hD hS q760 eq760 rfl 25 (by decide) (hts (.fieldLink RX12 351 "ColdShipsModel" "nLeaves" "I") wa_990) (fun _ h9 => h9) rfl (tyX12_ok 25 (by decide)) rfl rfl (Nat.le_of_ble_eq_true rfl) dX12_readPart_117 (tp_k (.inr (12, [.int o748_x0, .int o748_x1, .ref (ρ h0 2), .ref (ρ h0 3), .ref (ρ h0 4), .ref (ρ h0 5), .ref (ρ h0 6), .int o748_x7, .ref (ρ h0 8), .int o748_x9, .int o748_x10, .int o748_x11, .int o748_x12, .long o748_x13, .int o748_x14, .int o748_x15, .int o748_x16, .int o748_x17, .int o748_x18, .int o748_x19, .int o748_x20, .ref (ρ h0 21), .int o748_x22, .ref (ρ h0 23), .ref (ρ h0 24), .int z761, .ref (ρ h0 26), .ref (ρ h0 27), .int o748_x28, .int o748_x29, .ref (ρ h0 30), .ref (ρ h0 31), .int o748_x32, .long o748_x33, .long o748_x34, .long o748_x35, .int o748_x36, .int o748_x37, .int o748_x38, .ref (ρ h0 39), .ref (ρ h0 40), .ref (ρ h0 41), .ref (ρ h0 42), .ref (ρ h0 43), .ref (ρ h0 44), .ref (ρ h0 45), .ref (ρ h0 46), .int o748_x47, .int o748_x48, .ref (ρ h0 49), .ref (ρ h0 50), .ref (ρ h0 51), .ref (ρ h0 52)])) hD (tp_in hG ht_h0 (by decide)) eq760 (fun f762 H locs hP hD hS g764 k763 => ?_))
                have hT := hT.up ht_h0 g764 k763 ⟨_, _, _, _, _, _, _, _, _, _, _, _, _, _, _, _, _, _, _, _, _, _, _, _, _, _, _, _, rfl, ro748_0, ro748_1, ro748_2, ro748_3, ro748_4, ro748_5, ro748_6, ro748_7, ro748_8, ro748_9, ro748_10, ro748_11, ro748_12, ro748_13⟩
                have hR := hR.up ht_h0 (by decide) k763
                refine lv_iconst (v := 3) hx hb dX12_readPart_120 (by decide) ?_
                have tf765 : tp_fld (f762 h0) 10 = o748_x10.toInt := tff_10 g764
                have tf766 : tp_fld (f762 h0) 11 = o748_x11.toInt := tff_11 g764
                have tf767 : tp_fld (f762 h0) 9 = o748_x9.toInt := tff_9 g764
                have tf768 : tp_fld (f762 h0) 12 = o748_x12.toInt := tff_12 g764
                have tf769 : mo_fj (f762 h0) 13 = o748_x13.toInt := tff_13 g764
                have tf770 : tp_fld (f762 h0) 22 = o748_x22.toInt := tff_22 g764
                have tf771 : tp_fld (f762 h0) 28 = o748_x28.toInt := tff_28 g764
                have hf_772 : f709 (ρ h0 26) = .inl (κ 0, 400, .inl g33) := (hF710 _ (by rw [y10]; decide)).trans hf_o32
                have hf_773 : f740 (ρ h0 26) = .inl (κ 0, 400, .inl g33) := (hF741 _ (by rw [y10]; decide)).trans hf_772
                have hf_774 : f762 (ρ h0 26) = .inl (κ 0, 400, .inl g33) := (k763 _ (tp_ne y10 ht_h0 (by decide))).trans hf_773
                have tf775 : mo_i (f762 (ρ h0 26)) = g33 := tfa_i hf_774
                have hf_776 : f709 (ρ h0 27) = .inl (κ 0, 400, .inl g36) := (hF710 _ (by rw [y11]; decide)).trans hf_o35
                have hf_777 : f740 (ρ h0 27) = .inl (κ 0, 400, .inl g36) := (hF741 _ (by rw [y11]; decide)).trans hf_776
                have hf_778 : f762 (ρ h0 27) = .inl (κ 0, 400, .inl g36) := (k763 _ (tp_ne y11 ht_h0 (by decide))).trans hf_777
                have tf779 : mo_i (f762 (ρ h0 27)) = g36 := tfa_i hf_778
                have tf780 : tp_fld (f762 h0) 15 = o748_x15.toInt := tff_15 g764
                have hf_781 : f762 (ρ h0 23) = .inl (κ 0, 400, .inl g743) := (k763 _ (tp_ne y8 ht_h0 (by decide))).trans hf_o742
                have tf782 : mo_i (f762 (ρ h0 23)) = g743 := tfa_i hf_781
                have hf_783 : f762 (ρ h0 24) = .inl (κ 0, 400, .inl g746) := (k763 _ (tp_ne y9 ht_h0 (by decide))).trans hf_o745
                have tf784 : mo_i (f762 (ρ h0 24)) = g746 := tfa_i hf_783
                have tf785 : tp_fld (f762 h0) 19 = o748_x19.toInt := tff_19 g764
                have tf786 : tp_fld (f762 h0) 20 = o748_x20.toInt := tff_20 g764
                exact W.iret (v := 3) hx hb hr (fun t ht hW => ⟨⟨3, f762, rfl, ⟨hT, hR, (by first | decide | omega), (by first | (simp only [tf765, tf766, tf767, tf768, tf769, tf770, tf771, tf775, tf779, tf780, tf782, tf784, tf28, tf31, tf40, tf46, tf39, tf785, tf44, tf786, tf45, mo_i1, mo_l1]; exact (show (o748_x10.toInt ≤ o748_x11.toInt ∧ o748_x11.toInt ≤ o748_x9.toInt ∧ (o748_x12.toInt = 0 ∨ o748_x10.toInt < o748_x11.toInt) ∧ (o748_x12.toInt = 1 → o748_x11.toInt = o748_x10.toInt + 1 → o748_x13.toInt ≤ 26)) ∧ o748_x22.toInt + o748_x28.toInt ≤ o748_x10.toInt ∧ mo_PV (mo_R g33) (mo_R g36) o748_x28.toInt ∧ (o748_x15.toInt = 0 → mo_EX aa (3 : Int32).toInt (mo_R g743) (mo_R g746) (mo_R g33) (mo_R g36) o748_x22.toInt o748_x28.toInt ∧ mo_FR aa (mo_R g27) (mo_R g30) (mo_R g743) (mo_R g746) ∧ ((3 : Int32).toInt = 4 ∨ o38_x10.toInt < o748_x10.toInt ∨ (o748_x10.toInt = o38_x10.toInt ∧ (3 : Int32).toInt = 2))) ∧ o38_x22.toInt ≤ o748_x22.toInt ∧ o748_x9.toInt = o38_x9.toInt ∧ o748_x19.toInt = o38_x19.toInt ∧ o748_x20.toInt = o38_x20.toInt from ⟨by omega, by omega, h3, fun q9 => ⟨(h4.leaf (by decide) (by omega) tk759.1 tk759.2.1 (by omega) (by omega)), (mo_FR.emit tk759.1 tk759.2.1 (h4.pj0 (by decide)).base), by have q8 : (3 : Int32).toInt = 3 := rfl; omega⟩, by omega, by omega, by omega, by omega⟩)) | (rw [tf765, tf766, tf767, tf768, tf769, tf770, tf771, tf775, tf779, tf780, tf782, tf784, tf28, tf31, tf40, tf46, tf39, tf785, tf44, tf786, tf45]; exact (show (o748_x10.toInt ≤ o748_x11.toInt ∧ o748_x11.toInt ≤ o748_x9.toInt ∧ (o748_x12.toInt = 0 ∨ o748_x10.toInt < o748_x11.toInt) ∧ (o748_x12.toInt = 1 → o748_x11.toInt = o748_x10.toInt + 1 → o748_x13.toInt ≤ 26)) ∧ o748_x22.toInt + o748_x28.toInt ≤ o748_x10.toInt ∧ mo_PV (mo_R g33) (mo_R g36) o748_x28.toInt ∧ (o748_x15.toInt = 0 → mo_EX aa (3 : Int32).toInt (mo_R g743) (mo_R g746) (mo_R g33) (mo_R g36) o748_x22.toInt o748_x28.toInt ∧ mo_FR aa (mo_R g27) (mo_R g30) (mo_R g743) (mo_R g746) ∧ ((3 : Int32).toInt = 4 ∨ o38_x10.toInt < o748_x10.toInt ∨ (o748_x10.toInt = o38_x10.toInt ∧ (3 : Int32).toInt = 2))) ∧ o38_x22.toInt ≤ o748_x22.toInt ∧ o748_x9.toInt = o38_x9.toInt ∧ o748_x19.toInt = o38_x19.toInt ∧ o748_x20.toInt = o38_x20.toInt from ⟨by omega, by omega, h3, fun q9 => ⟨(h4.leaf (by decide) (by omega) tk759.1 tk759.2.1 (by omega) (by omega)), (mo_FR.emit tk759.1 tk759.2.1 (h4.pj0 (by decide)).base), by have q8 : (3 : Int32).toInt = 3 := rfl; omega⟩, by omega, by omega, by omega, by omega⟩)))⟩, by rw [ht]; exact hP, va_K.moved hW.alike hK, hD⟩, hS.F ht⟩) hS.2.2 dX12_readPart_121
          · have ic706 : o38_x25.toInt < 50 := zi_gef rfl rfl c706
            refine lv_iconst (v := 1) hx hb dX12_readPart_80 (by decide) ?_
            refine lv_goto (tgt := 85) hx hb dX12_readPart_81 (by decide) ?_
            have hFc := tp_fr hD hS hA
            refine va_callv (va_runV (As := [.int 1]) (rest := []) ⟨hx, hb, hml, hown, hts⟩ (t_X12_must l dC dI _ κ τ ν ρ L f hG hT h0 (1) ht_h0 (by first | decide | omega) (by first | (simp only [tf40, tf41, tf39, tf42, tf48, mo_i1, mo_l1]; exact (show (o38_x10.toInt ≤ o38_x11.toInt ∧ o38_x11.toInt ≤ o38_x9.toInt ∧ (o38_x12.toInt = 0 ∨ o38_x10.toInt < o38_x11.toInt) ∧ (o38_x12.toInt = 1 → o38_x11.toInt = o38_x10.toInt + 1 → o38_x13.toInt ≤ 26)) from by have : (1 : Int32).toInt = 1 := rfl; first | omega | decide)) | (rw [tf40, tf41, tf39, tf42, tf48]; exact (show (o38_x10.toInt ≤ o38_x11.toInt ∧ o38_x11.toInt ≤ o38_x9.toInt ∧ (o38_x12.toInt = 0 ∨ o38_x10.toInt < o38_x11.toInt) ∧ (o38_x12.toInt = 1 → o38_x11.toInt = o38_x10.toInt + 1 → o38_x13.toInt ≤ 26)) from by have : (1 : Int32).toInt = 1 := rfl; first | omega | decide)))) (cwV 1 hts gX12_readPart_X12_must rfl rfl rfl ⟨rfl, pd_X12_must⟩ ⟨Nat.le_of_ble_eq_true rfl, Nat.le_of_ble_eq_true rfl⟩) ⟨pz_blind, va_recv hK hP (ci := 12) (q0 := q49) rfl eq49, pz_pre hP hK hD hN⟩ rfl rfl hl.1 rfl (lv_room (Nat.le_of_ble_eq_true rfl)) dX12_readPart_85 ⟨Nat.le_of_ble_eq_true rfl, Nat.le_of_ble_eq_true rfl⟩) hS (fun q _ h => hFc q h) hFc (fun f789 t H1 locs ht hvm hw788 hB hz1 hk1 hS => ?_)
            obtain ⟨hT, hF790, hw788p⟩ := hw788
            have hR := hR.then hF790 (by decide)
            have hP := hB.1; rw [ht] at hP; have hD := tp_ad f789 hD; clear hB hFc hz1 hk1; subst ht; generalize t.heap = H at hP hS ⊢
            obtain ⟨o791_x0, o791_x1, o791_x7, o791_x9, o791_x10, o791_x11, o791_x12, o791_x13, o791_x14, o791_x15, o791_x16, o791_x17, o791_x18, o791_x19, o791_x20, o791_x22, o791_x25, o791_x28, o791_x29, o791_x32, o791_x33, o791_x34, o791_x35, o791_x36, o791_x37, o791_x38, o791_x47, o791_x48, hf_o791, ro791_0, ro791_1, ro791_2, ro791_3, ro791_4, ro791_5, ro791_6, ro791_7, ro791_8, ro791_9, ro791_10, ro791_11, ro791_12, ro791_13⟩ := tpo_13 hT ht_h0
            have tf792 : tp_fld (f789 h0) 10 = o791_x10.toInt := tff_10 hf_o791
            have tf793 : tp_fld (f789 h0) 11 = o791_x11.toInt := tff_11 hf_o791
            have tf794 : tp_fld (f789 h0) 9 = o791_x9.toInt := tff_9 hf_o791
            have tf795 : tp_fld (f789 h0) 12 = o791_x12.toInt := tff_12 hf_o791
            have tf796 : mo_fj (f789 h0) 13 = o791_x13.toInt := tff_13 hf_o791
            have tf797 : tp_fld (f789 h0) 15 = o791_x15.toInt := tff_15 hf_o791
            have tf798 : tp_fld (f789 h0) 19 = o791_x19.toInt := tff_19 hf_o791
            have tf799 : tp_fld (f789 h0) 20 = o791_x20.toInt := tff_20 hf_o791
            have tf800 : tp_fld (f789 h0) 22 = o791_x22.toInt := tff_22 hf_o791
            have tf801 : tp_fld (f789 h0) 28 = o791_x28.toInt := tff_28 hf_o791
            have tk802 : (o791_x10.toInt ≤ o791_x11.toInt ∧ o791_x11.toInt ≤ o791_x9.toInt ∧ (o791_x12.toInt = 0 ∨ o791_x10.toInt < o791_x11.toInt) ∧ (o791_x12.toInt = 1 → o791_x11.toInt = o791_x10.toInt + 1 → o791_x13.toInt ≤ 26)) ∧ (o791_x15.toInt = 0 → o38_x15.toInt = 0 ∧ o38_x11.toInt ≤ o791_x10.toInt ∧ (1 : Int) ≠ 0) ∧ (o791_x15.toInt ≠ 0 → o791_x10.toInt = o38_x10.toInt) ∧ o791_x9.toInt = o38_x9.toInt ∧ o791_x19.toInt = o38_x19.toInt ∧ o791_x20.toInt = o38_x20.toInt ∧ o791_x22.toInt = o38_x22.toInt ∧ o791_x28.toInt = o38_x28.toInt := by have q9 := hw788p; first | (simp only [tf792, tf793, tf794, tf795, tf796, tf797, tf43, tf41, tf40, tf39, tf798, tf44, tf799, tf45, tf800, tf46, tf801, tf47, mo_i1, mo_l1] at q9; exact q9) | (rw [tf792, tf793, tf794, tf795, tf796, tf797, tf43, tf41, tf40, tf39, tf798, tf44, tf799, tf45, tf800, tf46, tf801, tf47] at q9; exact q9)
            refine lv_aload_n hx hb dX12_readPart_88 rfl (lv_at hl 3 rfl) ?_
            obtain ⟨q803, eq803⟩ := tp_pos (tp_in hG ht_h0 (by decide)) hf_o791
            refine va_get (D := (dC, dI)) (ci := 12) (v := .int o791_x15) (C := RX12) (T := TX12) (N := 53) hx hb hts hfX12 hown hK hP q803 eq803 rfl 15 (by decide) (hts (.fieldLink RX12 261 "ColdShipsModel" "bad" "Z") wa_994) (fun _ h9 => h9) rfl dX12_readPart_89 ?_
            refine lv_if_ne (tgt := 120) hx hb dX12_readPart_92 (by decide) (fun c804 => ?_) (fun c804 => ?_)
            · have ic804 : o791_x15.toInt ≠ 0 := zi_ne rfl rfl c804
              refine lv_iconst (v := 3) hx hb dX12_readPart_120 (by decide) ?_
              have hf_805 : f789 (ρ h0 26) = .inl (κ 0, 400, .inl g33) := (hF790 _ (by rw [y10]; decide)).trans hf_o32
              have tf806 : mo_i (f789 (ρ h0 26)) = g33 := tfa_i hf_805
              have hf_807 : f789 (ρ h0 27) = .inl (κ 0, 400, .inl g36) := (hF790 _ (by rw [y11]; decide)).trans hf_o35
              have tf808 : mo_i (f789 (ρ h0 27)) = g36 := tfa_i hf_807
              have hf_809 : f789 (ρ h0 23) = .inl (κ 0, 400, .inl g27) := (hF790 _ (by rw [y8]; decide)).trans hf_o26
              have tf810 : mo_i (f789 (ρ h0 23)) = g27 := tfa_i hf_809
              have hf_811 : f789 (ρ h0 24) = .inl (κ 0, 400, .inl g30) := (hF790 _ (by rw [y9]; decide)).trans hf_o29
              have tf812 : mo_i (f789 (ρ h0 24)) = g30 := tfa_i hf_811
              exact W.iret (v := 3) hx hb hr (fun t ht hW => ⟨⟨3, f789, rfl, ⟨hT, hR, (by first | decide | omega), (by first | (simp only [tf792, tf793, tf794, tf795, tf796, tf800, tf801, tf806, tf808, tf797, tf810, tf812, tf28, tf31, tf40, tf46, tf39, tf798, tf44, tf799, tf45, mo_i1, mo_l1]; exact (show (o791_x10.toInt ≤ o791_x11.toInt ∧ o791_x11.toInt ≤ o791_x9.toInt ∧ (o791_x12.toInt = 0 ∨ o791_x10.toInt < o791_x11.toInt) ∧ (o791_x12.toInt = 1 → o791_x11.toInt = o791_x10.toInt + 1 → o791_x13.toInt ≤ 26)) ∧ o791_x22.toInt + o791_x28.toInt ≤ o791_x10.toInt ∧ mo_PV (mo_R g33) (mo_R g36) o791_x28.toInt ∧ (o791_x15.toInt = 0 → mo_EX aa (3 : Int32).toInt (mo_R g27) (mo_R g30) (mo_R g33) (mo_R g36) o791_x22.toInt o791_x28.toInt ∧ mo_FR aa (mo_R g27) (mo_R g30) (mo_R g27) (mo_R g30) ∧ ((3 : Int32).toInt = 4 ∨ o38_x10.toInt < o791_x10.toInt ∨ (o791_x10.toInt = o38_x10.toInt ∧ (3 : Int32).toInt = 2))) ∧ o38_x22.toInt ≤ o791_x22.toInt ∧ o791_x9.toInt = o38_x9.toInt ∧ o791_x19.toInt = o38_x19.toInt ∧ o791_x20.toInt = o38_x20.toInt from ⟨by omega, by omega, h3, fun q9 => by exfalso; omega, by omega, by omega, by omega, by omega⟩)) | (rw [tf792, tf793, tf794, tf795, tf796, tf800, tf801, tf806, tf808, tf797, tf810, tf812, tf28, tf31, tf40, tf46, tf39, tf798, tf44, tf799, tf45]; exact (show (o791_x10.toInt ≤ o791_x11.toInt ∧ o791_x11.toInt ≤ o791_x9.toInt ∧ (o791_x12.toInt = 0 ∨ o791_x10.toInt < o791_x11.toInt) ∧ (o791_x12.toInt = 1 → o791_x11.toInt = o791_x10.toInt + 1 → o791_x13.toInt ≤ 26)) ∧ o791_x22.toInt + o791_x28.toInt ≤ o791_x10.toInt ∧ mo_PV (mo_R g33) (mo_R g36) o791_x28.toInt ∧ (o791_x15.toInt = 0 → mo_EX aa (3 : Int32).toInt (mo_R g27) (mo_R g30) (mo_R g33) (mo_R g36) o791_x22.toInt o791_x28.toInt ∧ mo_FR aa (mo_R g27) (mo_R g30) (mo_R g27) (mo_R g30) ∧ ((3 : Int32).toInt = 4 ∨ o38_x10.toInt < o791_x10.toInt ∨ (o791_x10.toInt = o38_x10.toInt ∧ (3 : Int32).toInt = 2))) ∧ o38_x22.toInt ≤ o791_x22.toInt ∧ o791_x9.toInt = o38_x9.toInt ∧ o791_x19.toInt = o38_x19.toInt ∧ o791_x20.toInt = o38_x20.toInt from ⟨by omega, by omega, h3, fun q9 => by exfalso; omega, by omega, by omega, by omega, by omega⟩)))⟩, by rw [ht]; exact hP, va_K.moved hW.alike hK, hD⟩, hS.F ht⟩) hS.2.2 dX12_readPart_121
            · have ic804 : o791_x15.toInt = 0 := zi_nef rfl rfl c804
              refine lv_aload_n hx hb dX12_readPart_95 rfl (lv_at hl 3 rfl) ?_
              refine lv_iload_n hx hb dX12_readPart_96 rfl (lv_at hl 2 rfl) ?_
              refine lv_iconst (v := (-1)) hx hb dX12_readPart_97 (by decide) ?_
              refine lv_icmp_ne (tgt := 105) hx hb dX12_readPart_98 (by decide) (fun c813 => ?_) (fun c813 => ?_)
              · have ic813 : r54.toInt ≠ (-1) := zi_ne rfl rfl c813
                exfalso; omega
              · have ic813 : r54.toInt = (-1) := zi_nef rfl rfl c813
                refine lv_iconst (v := 0) hx hb dX12_readPart_101 (by decide) ?_
                refine lv_goto (tgt := 106) hx hb dX12_readPart_102 (by decide) ?_
                refine lv_iload_n hx hb dX12_readPart_106 rfl (lv_at hl 0 rfl) ?_
                have hf_814 : f789 (ρ h0 23) = .inl (κ 0, 400, .inl g27) := (hF790 _ (by rw [y8]; decide)).trans hf_o26
                have tf815 : mo_i (f789 (ρ h0 23)) = g27 := tfa_i hf_814
                have hf_816 : f789 (ρ h0 24) = .inl (κ 0, 400, .inl g30) := (hF790 _ (by rw [y9]; decide)).trans hf_o29
                have tf817 : mo_i (f789 (ρ h0 24)) = g30 := tfa_i hf_816
                have hFc := tp_fr hD hS hA
                refine va_callv (va_runV (As := [.int 0, .int z543]) (rest := []) ⟨hx, hb, hml, hown, hts⟩ (t_X12_emit l dC dI _ κ τ ν ρ L f789 hG hT h0 (0) z543 ht_h0 (by first | (simp only [tf800, mo_i1, mo_l1]; exact (show o791_x22.toInt < 400 from by have : (0 : Int32).toInt = 0 := rfl; first | omega | decide)) | (rw [tf800]; exact (show o791_x22.toInt < 400 from by have : (0 : Int32).toInt = 0 := rfl; first | omega | decide)))) (cwV 2 hts gX12_readPart_X12_emit rfl rfl rfl ⟨rfl, pd_X12_emit⟩ ⟨Nat.le_of_ble_eq_true rfl, Nat.le_of_ble_eq_true rfl⟩) ⟨pz_blind, va_recv hK hP (ci := 12) (q0 := q803) rfl eq803, pz_pre hP hK hD hN⟩ rfl rfl hl.1 rfl (lv_room (Nat.le_of_ble_eq_true rfl)) dX12_readPart_107 ⟨Nat.le_of_ble_eq_true rfl, Nat.le_of_ble_eq_true rfl⟩) hS (fun q _ h => hFc q h) hFc (fun f820 t H1 locs ht hvm hw819 hB hz1 hk1 hS => ?_)
                obtain ⟨hT, hF821, hw819p⟩ := hw819
                have hR := hR.then hF821 (by decide)
                have hP := hB.1; rw [ht] at hP; have hD := tp_ad f820 hD; clear hB hFc hz1 hk1; subst ht; generalize t.heap = H at hP hS ⊢
                obtain ⟨g823, hf_o822⟩ := tpo_53 hT y8
                have tf824 : mo_i (f820 (ρ h0 23)) = g823 := tfa_i hf_o822
                obtain ⟨g826, hf_o825⟩ := tpo_54 hT y9
                have tf827 : mo_i (f820 (ρ h0 24)) = g826 := tfa_i hf_o825
                obtain ⟨o828_x0, o828_x1, o828_x7, o828_x9, o828_x10, o828_x11, o828_x12, o828_x13, o828_x14, o828_x15, o828_x16, o828_x17, o828_x18, o828_x19, o828_x20, o828_x22, o828_x25, o828_x28, o828_x29, o828_x32, o828_x33, o828_x34, o828_x35, o828_x36, o828_x37, o828_x38, o828_x47, o828_x48, hf_o828, ro828_0, ro828_1, ro828_2, ro828_3, ro828_4, ro828_5, ro828_6, ro828_7, ro828_8, ro828_9, ro828_10, ro828_11, ro828_12, ro828_13⟩ := tpo_13 hT ht_h0
                have tf829 : tp_fld (f820 h0) 22 = o828_x22.toInt := tff_22 hf_o828
                have tf830 : tp_fld (f820 h0) 9 = o828_x9.toInt := tff_9 hf_o828
                have tf831 : tp_fld (f820 h0) 10 = o828_x10.toInt := tff_10 hf_o828
                have tf832 : tp_fld (f820 h0) 11 = o828_x11.toInt := tff_11 hf_o828
                have tf833 : tp_fld (f820 h0) 12 = o828_x12.toInt := tff_12 hf_o828
                have tf834 : mo_fj (f820 h0) 13 = o828_x13.toInt := tff_13 hf_o828
                have tf835 : tp_fld (f820 h0) 15 = o828_x15.toInt := tff_15 hf_o828
                have tf836 : tp_fld (f820 h0) 19 = o828_x19.toInt := tff_19 hf_o828
                have tf837 : tp_fld (f820 h0) 20 = o828_x20.toInt := tff_20 hf_o828
                have tf838 : tp_fld (f820 h0) 28 = o828_x28.toInt := tff_28 hf_o828
                have tk839 : mo_U (mo_R g27) (mo_R g823) o791_x22.toInt (0 : Int) ∧ mo_U (mo_R g30) (mo_R g826) o791_x22.toInt z543.toInt ∧ o828_x22.toInt = o791_x22.toInt + 1 ∧ o828_x9.toInt = o791_x9.toInt ∧ o828_x10.toInt = o791_x10.toInt ∧ o828_x11.toInt = o791_x11.toInt ∧ o828_x12.toInt = o791_x12.toInt ∧ o828_x13.toInt = o791_x13.toInt ∧ o828_x15.toInt = o791_x15.toInt ∧ o828_x19.toInt = o791_x19.toInt ∧ o828_x20.toInt = o791_x20.toInt ∧ o828_x28.toInt = o791_x28.toInt := by have q9 := hw819p; first | (simp only [tf815, tf824, tf800, tf817, tf827, tf829, tf830, tf794, tf831, tf792, tf832, tf793, tf833, tf795, tf834, tf796, tf835, tf797, tf836, tf798, tf837, tf799, tf838, tf801, mo_i1, mo_l1] at q9; exact q9) | (rw [tf815, tf824, tf800, tf817, tf827, tf829, tf830, tf794, tf831, tf792, tf832, tf793, tf833, tf795, tf834, tf796, tf835, tf797, tf836, tf798, tf837, tf799, tf838, tf801] at q9; exact q9)
                refine lv_aload_n hx hb dX12_readPart_110 rfl (lv_at hl 3 rfl) ?_
                refine lv_dup hx hb dX12_readPart_111 rfl ?_
                obtain ⟨q840, eq840⟩ := tp_pos (tp_in hG ht_h0 (by decide)) hf_o828
                refine va_get (D := (dC, dI)) (ci := 12) (v := .int o828_x25) (C := RX12) (T := TX12) (N := 53) hx hb hts hfX12 hown hK hP q840 eq840 rfl 25 (by decide) (hts (.fieldLink RX12 351 "ColdShipsModel" "nLeaves" "I") wa_990) (fun _ h9 => h9) rfl dX12_readPart_112 ?_
                refine lv_iconst (v := 1) hx hb dX12_readPart_115 (by decide) ?_
                refine lv_iadd hx hb dX12_readPart_116 ?_
                refine lv_topi (fun z841 ez841 => ?_)
                refine va_put (D := (dC, dI)) (ci := 12) (v := .int z841) (ty := .int) (C := RX12) (T := TX12) (N := 53) hx hb hts hfX12 tyX12 tyX12_ok nmX12 hown hK hP hD hS q840 eq840 rfl 25 (by decide) (hts (.fieldLink RX12 351 "ColdShipsModel" "nLeaves" "I") wa_990) (fun _ h9 => h9) rfl (tyX12_ok 25 (by decide)) rfl rfl (Nat.le_of_ble_eq_true rfl) dX12_readPart_117 (tp_k (.inr (12, [.int o828_x0, .int o828_x1, .ref (ρ h0 2), .ref (ρ h0 3), .ref (ρ h0 4), .ref (ρ h0 5), .ref (ρ h0 6), .int o828_x7, .ref (ρ h0 8), .int o828_x9, .int o828_x10, .int o828_x11, .int o828_x12, .long o828_x13, .int o828_x14, .int o828_x15, .int o828_x16, .int o828_x17, .int o828_x18, .int o828_x19, .int o828_x20, .ref (ρ h0 21), .int o828_x22, .ref (ρ h0 23), .ref (ρ h0 24), .int z841, .ref (ρ h0 26), .ref (ρ h0 27), .int o828_x28, .int o828_x29, .ref (ρ h0 30), .ref (ρ h0 31), .int o828_x32, .long o828_x33, .long o828_x34, .long o828_x35, .int o828_x36, .int o828_x37, .int o828_x38, .ref (ρ h0 39), .ref (ρ h0 40), .ref (ρ h0 41), .ref (ρ h0 42), .ref (ρ h0 43), .ref (ρ h0 44), .ref (ρ h0 45), .ref (ρ h0 46), .int o828_x47, .int o828_x48, .ref (ρ h0 49), .ref (ρ h0 50), .ref (ρ h0 51), .ref (ρ h0 52)])) hD (tp_in hG ht_h0 (by decide)) eq840 (fun f842 H locs hP hD hS g844 k843 => ?_))
                have hT := hT.up ht_h0 g844 k843 ⟨_, _, _, _, _, _, _, _, _, _, _, _, _, _, _, _, _, _, _, _, _, _, _, _, _, _, _, _, rfl, ro828_0, ro828_1, ro828_2, ro828_3, ro828_4, ro828_5, ro828_6, ro828_7, ro828_8, ro828_9, ro828_10, ro828_11, ro828_12, ro828_13⟩
                have hR := hR.up ht_h0 (by decide) k843
                refine lv_iconst (v := 3) hx hb dX12_readPart_120 (by decide) ?_
                have tf845 : tp_fld (f842 h0) 10 = o828_x10.toInt := tff_10 g844
                have tf846 : tp_fld (f842 h0) 11 = o828_x11.toInt := tff_11 g844
                have tf847 : tp_fld (f842 h0) 9 = o828_x9.toInt := tff_9 g844
                have tf848 : tp_fld (f842 h0) 12 = o828_x12.toInt := tff_12 g844
                have tf849 : mo_fj (f842 h0) 13 = o828_x13.toInt := tff_13 g844
                have tf850 : tp_fld (f842 h0) 22 = o828_x22.toInt := tff_22 g844
                have tf851 : tp_fld (f842 h0) 28 = o828_x28.toInt := tff_28 g844
                have hf_852 : f789 (ρ h0 26) = .inl (κ 0, 400, .inl g33) := (hF790 _ (by rw [y10]; decide)).trans hf_o32
                have hf_853 : f820 (ρ h0 26) = .inl (κ 0, 400, .inl g33) := (hF821 _ (by rw [y10]; decide)).trans hf_852
                have hf_854 : f842 (ρ h0 26) = .inl (κ 0, 400, .inl g33) := (k843 _ (tp_ne y10 ht_h0 (by decide))).trans hf_853
                have tf855 : mo_i (f842 (ρ h0 26)) = g33 := tfa_i hf_854
                have hf_856 : f789 (ρ h0 27) = .inl (κ 0, 400, .inl g36) := (hF790 _ (by rw [y11]; decide)).trans hf_o35
                have hf_857 : f820 (ρ h0 27) = .inl (κ 0, 400, .inl g36) := (hF821 _ (by rw [y11]; decide)).trans hf_856
                have hf_858 : f842 (ρ h0 27) = .inl (κ 0, 400, .inl g36) := (k843 _ (tp_ne y11 ht_h0 (by decide))).trans hf_857
                have tf859 : mo_i (f842 (ρ h0 27)) = g36 := tfa_i hf_858
                have tf860 : tp_fld (f842 h0) 15 = o828_x15.toInt := tff_15 g844
                have hf_861 : f842 (ρ h0 23) = .inl (κ 0, 400, .inl g823) := (k843 _ (tp_ne y8 ht_h0 (by decide))).trans hf_o822
                have tf862 : mo_i (f842 (ρ h0 23)) = g823 := tfa_i hf_861
                have hf_863 : f842 (ρ h0 24) = .inl (κ 0, 400, .inl g826) := (k843 _ (tp_ne y9 ht_h0 (by decide))).trans hf_o825
                have tf864 : mo_i (f842 (ρ h0 24)) = g826 := tfa_i hf_863
                have tf865 : tp_fld (f842 h0) 19 = o828_x19.toInt := tff_19 g844
                have tf866 : tp_fld (f842 h0) 20 = o828_x20.toInt := tff_20 g844
                exact W.iret (v := 3) hx hb hr (fun t ht hW => ⟨⟨3, f842, rfl, ⟨hT, hR, (by first | decide | omega), (by first | (simp only [tf845, tf846, tf847, tf848, tf849, tf850, tf851, tf855, tf859, tf860, tf862, tf864, tf28, tf31, tf40, tf46, tf39, tf865, tf44, tf866, tf45, mo_i1, mo_l1]; exact (show (o828_x10.toInt ≤ o828_x11.toInt ∧ o828_x11.toInt ≤ o828_x9.toInt ∧ (o828_x12.toInt = 0 ∨ o828_x10.toInt < o828_x11.toInt) ∧ (o828_x12.toInt = 1 → o828_x11.toInt = o828_x10.toInt + 1 → o828_x13.toInt ≤ 26)) ∧ o828_x22.toInt + o828_x28.toInt ≤ o828_x10.toInt ∧ mo_PV (mo_R g33) (mo_R g36) o828_x28.toInt ∧ (o828_x15.toInt = 0 → mo_EX aa (3 : Int32).toInt (mo_R g823) (mo_R g826) (mo_R g33) (mo_R g36) o828_x22.toInt o828_x28.toInt ∧ mo_FR aa (mo_R g27) (mo_R g30) (mo_R g823) (mo_R g826) ∧ ((3 : Int32).toInt = 4 ∨ o38_x10.toInt < o828_x10.toInt ∨ (o828_x10.toInt = o38_x10.toInt ∧ (3 : Int32).toInt = 2))) ∧ o38_x22.toInt ≤ o828_x22.toInt ∧ o828_x9.toInt = o38_x9.toInt ∧ o828_x19.toInt = o38_x19.toInt ∧ o828_x20.toInt = o38_x20.toInt from ⟨by omega, by omega, h3, fun q9 => ⟨(h4.leaf (by decide) (by omega) tk839.1 tk839.2.1 (by omega) (by omega)), (mo_FR.emit tk839.1 tk839.2.1 (h4.pj0 (by decide)).base), by have q8 : (3 : Int32).toInt = 3 := rfl; omega⟩, by omega, by omega, by omega, by omega⟩)) | (rw [tf845, tf846, tf847, tf848, tf849, tf850, tf851, tf855, tf859, tf860, tf862, tf864, tf28, tf31, tf40, tf46, tf39, tf865, tf44, tf866, tf45]; exact (show (o828_x10.toInt ≤ o828_x11.toInt ∧ o828_x11.toInt ≤ o828_x9.toInt ∧ (o828_x12.toInt = 0 ∨ o828_x10.toInt < o828_x11.toInt) ∧ (o828_x12.toInt = 1 → o828_x11.toInt = o828_x10.toInt + 1 → o828_x13.toInt ≤ 26)) ∧ o828_x22.toInt + o828_x28.toInt ≤ o828_x10.toInt ∧ mo_PV (mo_R g33) (mo_R g36) o828_x28.toInt ∧ (o828_x15.toInt = 0 → mo_EX aa (3 : Int32).toInt (mo_R g823) (mo_R g826) (mo_R g33) (mo_R g36) o828_x22.toInt o828_x28.toInt ∧ mo_FR aa (mo_R g27) (mo_R g30) (mo_R g823) (mo_R g826) ∧ ((3 : Int32).toInt = 4 ∨ o38_x10.toInt < o828_x10.toInt ∨ (o828_x10.toInt = o38_x10.toInt ∧ (3 : Int32).toInt = 2))) ∧ o38_x22.toInt ≤ o828_x22.toInt ∧ o828_x9.toInt = o38_x9.toInt ∧ o828_x19.toInt = o38_x19.toInt ∧ o828_x20.toInt = o38_x20.toInt from ⟨by omega, by omega, h3, fun q9 => ⟨(h4.leaf (by decide) (by omega) tk839.1 tk839.2.1 (by omega) (by omega)), (mo_FR.emit tk839.1 tk839.2.1 (h4.pj0 (by decide)).base), by have q8 : (3 : Int32).toInt = 3 := rfl; omega⟩, by omega, by omega, by omega, by omega⟩)))⟩, by rw [ht]; exact hP, va_K.moved hW.alike hK, hD⟩, hS.F ht⟩) hS.2.2 dX12_readPart_121
  · have ic53 : r50.toInt ≠ 0 := zi_eqf rfl rfl c53
    refine lv_aload_n hx hb dX12_readPart_9 rfl (lv_at hl 0 rfl) ?_
    refine lv_bipush (v := 31) hx hb dX12_readPart_10 (by decide) ?_
    have hFc := tp_fr hD hS hA
    refine va_callv (va_runV (As := [.int 31]) (rest := []) ⟨hx, hb, hml, hown, hts⟩ (t_X12_open l dC dI _ κ τ ν ρ L f hG hT h0 (31) ht_h0 (by first | decide | omega) (by first | (simp only [tf40, tf41, tf39, tf42, tf48, mo_i1, mo_l1]; exact (show (o38_x10.toInt ≤ o38_x11.toInt ∧ o38_x11.toInt ≤ o38_x9.toInt ∧ (o38_x12.toInt = 0 ∨ o38_x10.toInt < o38_x11.toInt) ∧ (o38_x12.toInt = 1 → o38_x11.toInt = o38_x10.toInt + 1 → o38_x13.toInt ≤ 26)) from by have : (31 : Int32).toInt = 31 := rfl; first | omega | decide)) | (rw [tf40, tf41, tf39, tf42, tf48]; exact (show (o38_x10.toInt ≤ o38_x11.toInt ∧ o38_x11.toInt ≤ o38_x9.toInt ∧ (o38_x12.toInt = 0 ∨ o38_x10.toInt < o38_x11.toInt) ∧ (o38_x12.toInt = 1 → o38_x11.toInt = o38_x10.toInt + 1 → o38_x13.toInt ≤ 26)) from by have : (31 : Int32).toInt = 31 := rfl; first | omega | decide))) (by first | (simp only [tf43, mo_i1, mo_l1]; exact (show o38_x15.toInt = 0 from by have : (31 : Int32).toInt = 31 := rfl; first | omega | decide)) | (rw [tf43]; exact (show o38_x15.toInt = 0 from by have : (31 : Int32).toInt = 31 := rfl; first | omega | decide))) (by first | (simp only [tf40, tf41, mo_i1, mo_l1]; exact (show o38_x10.toInt < o38_x11.toInt from by have : (31 : Int32).toInt = 31 := rfl; first | omega | decide)) | (rw [tf40, tf41]; exact (show o38_x10.toInt < o38_x11.toInt from by have : (31 : Int32).toInt = 31 := rfl; first | omega | decide))) (by first | (simp only [tf46, tf47, tf40, mo_i1, mo_l1]; exact (show o38_x22.toInt + o38_x28.toInt ≤ o38_x10.toInt from by have : (31 : Int32).toInt = 31 := rfl; first | omega | decide)) | (rw [tf46, tf47, tf40]; exact (show o38_x22.toInt + o38_x28.toInt ≤ o38_x10.toInt from by have : (31 : Int32).toInt = 31 := rfl; first | omega | decide)))) (cwV 1 hts gX12_readPart_X12_open rfl rfl rfl ⟨rfl, pd_X12_open⟩ ⟨Nat.le_of_ble_eq_true rfl, Nat.le_of_ble_eq_true rfl⟩) ⟨pz_blind, va_recv hK hP (ci := 12) (q0 := q49) rfl eq49, pz_pre hP hK hD hN⟩ rfl rfl hl.1 rfl (lv_room (Nat.le_of_ble_eq_true rfl)) dX12_readPart_12 ⟨Nat.le_of_ble_eq_true rfl, Nat.le_of_ble_eq_true rfl⟩) hS (fun q _ h => hFc q h) hFc (fun f869 t H1 locs ht hvm hw868 hB hz1 hk1 hS => ?_)
    obtain ⟨hT, hF870, hw868p⟩ := hw868
    have hR := hR.then hF870 (by decide)
    have hP := hB.1; rw [ht] at hP; have hD := tp_ad f869 hD; clear hB hFc hz1 hk1; subst ht; generalize t.heap = H at hP hS ⊢
    obtain ⟨o871_x0, o871_x1, o871_x7, o871_x9, o871_x10, o871_x11, o871_x12, o871_x13, o871_x14, o871_x15, o871_x16, o871_x17, o871_x18, o871_x19, o871_x20, o871_x22, o871_x25, o871_x28, o871_x29, o871_x32, o871_x33, o871_x34, o871_x35, o871_x36, o871_x37, o871_x38, o871_x47, o871_x48, hf_o871, ro871_0, ro871_1, ro871_2, ro871_3, ro871_4, ro871_5, ro871_6, ro871_7, ro871_8, ro871_9, ro871_10, ro871_11, ro871_12, ro871_13⟩ := tpo_13 hT ht_h0
    have tf872 : tp_fld (f869 h0) 10 = o871_x10.toInt := tff_10 hf_o871
    have tf873 : tp_fld (f869 h0) 11 = o871_x11.toInt := tff_11 hf_o871
    have tf874 : tp_fld (f869 h0) 9 = o871_x9.toInt := tff_9 hf_o871
    have tf875 : tp_fld (f869 h0) 12 = o871_x12.toInt := tff_12 hf_o871
    have tf876 : mo_fj (f869 h0) 13 = o871_x13.toInt := tff_13 hf_o871
    have tf877 : tp_fld (f869 h0) 15 = o871_x15.toInt := tff_15 hf_o871
    obtain ⟨g879, hf_o878⟩ := tpo_56 hT y10
    have tf880 : mo_i (f869 (ρ h0 26)) = g879 := tfa_i hf_o878
    obtain ⟨g882, hf_o881⟩ := tpo_57 hT y11
    have tf883 : mo_i (f869 (ρ h0 27)) = g882 := tfa_i hf_o881
    have tf884 : tp_fld (f869 h0) 28 = o871_x28.toInt := tff_28 hf_o871
    have tf885 : tp_fld (f869 h0) 19 = o871_x19.toInt := tff_19 hf_o871
    have tf886 : tp_fld (f869 h0) 20 = o871_x20.toInt := tff_20 hf_o871
    have tf887 : tp_fld (f869 h0) 22 = o871_x22.toInt := tff_22 hf_o871
    have tk888 : (o871_x10.toInt ≤ o871_x11.toInt ∧ o871_x11.toInt ≤ o871_x9.toInt ∧ (o871_x12.toInt = 0 ∨ o871_x10.toInt < o871_x11.toInt) ∧ (o871_x12.toInt = 1 → o871_x11.toInt = o871_x10.toInt + 1 → o871_x13.toInt ≤ 26)) ∧ (o871_x15.toInt = 0 → mo_U (mo_R g33) (mo_R g879) o38_x28.toInt (31 : Int) ∧ mo_U (mo_R g36) (mo_R g882) o38_x28.toInt 0 ∧ o871_x28.toInt = o38_x28.toInt + 1 ∧ o38_x11.toInt ≤ o871_x10.toInt) ∧ (o871_x15.toInt ≠ 0 → (mo_R g879) = (mo_R g33) ∧ (mo_R g882) = (mo_R g36) ∧ o871_x28.toInt = o38_x28.toInt ∧ o871_x10.toInt = o38_x10.toInt) ∧ o871_x9.toInt = o38_x9.toInt ∧ o871_x19.toInt = o38_x19.toInt ∧ o871_x20.toInt = o38_x20.toInt ∧ o871_x22.toInt = o38_x22.toInt := by have q9 := hw868p; first | (simp only [tf872, tf873, tf874, tf875, tf876, tf877, tf34, tf880, tf47, tf37, tf883, tf884, tf41, tf40, tf39, tf885, tf44, tf886, tf45, tf887, tf46, mo_i1, mo_l1] at q9; exact q9) | (rw [tf872, tf873, tf874, tf875, tf876, tf877, tf34, tf880, tf47, tf37, tf883, tf884, tf41, tf40, tf39, tf885, tf44, tf886, tf45, tf887, tf46] at q9; exact q9)
    refine lv_iconst (v := 1) hx hb dX12_readPart_15 (by decide) ?_
    have hf_889 : f869 (ρ h0 23) = .inl (κ 0, 400, .inl g27) := (hF870 _ (by rw [y8]; decide)).trans hf_o26
    have tf890 : mo_i (f869 (ρ h0 23)) = g27 := tfa_i hf_889
    have hf_891 : f869 (ρ h0 24) = .inl (κ 0, 400, .inl g30) := (hF870 _ (by rw [y9]; decide)).trans hf_o29
    have tf892 : mo_i (f869 (ρ h0 24)) = g30 := tfa_i hf_891
    exact W.iret (v := 1) hx hb hr (fun t ht hW => ⟨⟨1, f869, rfl, ⟨hT, hR, (by first | decide | omega), (by first | (simp only [tf872, tf873, tf874, tf875, tf876, tf887, tf884, tf880, tf883, tf877, tf890, tf892, tf28, tf31, tf40, tf46, tf39, tf885, tf44, tf886, tf45, mo_i1, mo_l1]; exact (show (o871_x10.toInt ≤ o871_x11.toInt ∧ o871_x11.toInt ≤ o871_x9.toInt ∧ (o871_x12.toInt = 0 ∨ o871_x10.toInt < o871_x11.toInt) ∧ (o871_x12.toInt = 1 → o871_x11.toInt = o871_x10.toInt + 1 → o871_x13.toInt ≤ 26)) ∧ o871_x22.toInt + o871_x28.toInt ≤ o871_x10.toInt ∧ mo_PV (mo_R g879) (mo_R g882) o871_x28.toInt ∧ (o871_x15.toInt = 0 → mo_EX aa (1 : Int32).toInt (mo_R g27) (mo_R g30) (mo_R g879) (mo_R g882) o871_x22.toInt o871_x28.toInt ∧ mo_FR aa (mo_R g27) (mo_R g30) (mo_R g27) (mo_R g30) ∧ ((1 : Int32).toInt = 4 ∨ o38_x10.toInt < o871_x10.toInt ∨ (o871_x10.toInt = o38_x10.toInt ∧ (1 : Int32).toInt = 2))) ∧ o38_x22.toInt ≤ o871_x22.toInt ∧ o871_x9.toInt = o38_x9.toInt ∧ o871_x19.toInt = o38_x19.toInt ∧ o871_x20.toInt = o38_x20.toInt from ⟨by omega, by omega, mo_openPV h3 (by omega) tk888.2.1 tk888.2.2.1 (by omega), fun q9 => ⟨(h4.opn (by decide) (by omega) (tk888.2.1 q9).1 (tk888.2.1 q9).2.1 (by omega) (Or.inr ⟨rfl, rfl⟩) (by decide)), mo_FR.rf _ _ _, by have q8 : (1 : Int32).toInt = 1 := rfl; omega⟩, by omega, by omega, by omega, by omega⟩)) | (rw [tf872, tf873, tf874, tf875, tf876, tf887, tf884, tf880, tf883, tf877, tf890, tf892, tf28, tf31, tf40, tf46, tf39, tf885, tf44, tf886, tf45]; exact (show (o871_x10.toInt ≤ o871_x11.toInt ∧ o871_x11.toInt ≤ o871_x9.toInt ∧ (o871_x12.toInt = 0 ∨ o871_x10.toInt < o871_x11.toInt) ∧ (o871_x12.toInt = 1 → o871_x11.toInt = o871_x10.toInt + 1 → o871_x13.toInt ≤ 26)) ∧ o871_x22.toInt + o871_x28.toInt ≤ o871_x10.toInt ∧ mo_PV (mo_R g879) (mo_R g882) o871_x28.toInt ∧ (o871_x15.toInt = 0 → mo_EX aa (1 : Int32).toInt (mo_R g27) (mo_R g30) (mo_R g879) (mo_R g882) o871_x22.toInt o871_x28.toInt ∧ mo_FR aa (mo_R g27) (mo_R g30) (mo_R g27) (mo_R g30) ∧ ((1 : Int32).toInt = 4 ∨ o38_x10.toInt < o871_x10.toInt ∨ (o871_x10.toInt = o38_x10.toInt ∧ (1 : Int32).toInt = 2))) ∧ o38_x22.toInt ≤ o871_x22.toInt ∧ o871_x9.toInt = o38_x9.toInt ∧ o871_x19.toInt = o38_x19.toInt ∧ o871_x20.toInt = o38_x20.toInt from ⟨by omega, by omega, mo_openPV h3 (by omega) tk888.2.1 tk888.2.2.1 (by omega), fun q9 => ⟨(h4.opn (by decide) (by omega) (tk888.2.1 q9).1 (tk888.2.1 q9).2.1 (by omega) (Or.inr ⟨rfl, rfl⟩) (by decide)), mo_FR.rf _ _ _, by have q8 : (1 : Int32).toInt = 1 := rfl; omega⟩, by omega, by omega, by omega, by omega⟩)))⟩, by rw [ht]; exact hP, va_K.moved hW.alike hK, hD⟩, hS.F ht⟩) hS.2.2 dX12_readPart_16
