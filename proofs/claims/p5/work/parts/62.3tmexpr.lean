set_option maxHeartbeats 4000000 in
set_option maxRecDepth 100000 in
theorem t_X12_behindTest (l : Launch) (dC : Nat → ClassId) (dI : Nat → Nat → Nat) (sz : Nat) (κ : Nat → ClassId) (τ ν : Nat → Nat) (ρ : Nat → Nat → Nat) (L : List Nat) (f : Nat → va_E) (hG : tp_G τ ν ρ L) (hT : tp_T (mo_O κ) κ τ ν ρ f) (h0 : Nat) (aa : Int) (ht_h0 : τ h0 = 13) (h1 : ((tp_fld (f h0) 10) ≤ (tp_fld (f h0) 11) ∧ (tp_fld (f h0) 11) ≤ (tp_fld (f h0) 9) ∧ ((tp_fld (f h0) 12) = 0 ∨ (tp_fld (f h0) 10) < (tp_fld (f h0) 11)) ∧ ((tp_fld (f h0) 12) = 1 → (tp_fld (f h0) 11) = (tp_fld (f h0) 10) + 1 → (mo_fj (f h0) 13) ≤ 26))) (hb0 : (tp_fld (f h0) 15) = 0) (h2 : (tp_fld (f h0) 22) + (tp_fld (f h0) 28) ≤ (tp_fld (f h0) 10)) (h3 : mo_PV (mo_R (mo_i (f (ρ h0 26)))) (mo_R (mo_i (f (ρ h0 27)))) (tp_fld (f h0) 28)) (h4 : mo_EX aa 2 (mo_R (mo_i (f (ρ h0 23)))) (mo_R (mo_i (f (ρ h0 24)))) (mo_R (mo_i (f (ρ h0 26)))) (mo_R (mo_i (f (ρ h0 27)))) (tp_fld (f h0) 22) (tp_fld (f h0) 28)) : Met l yX12_behindTest wqX12_behindTest ({ frames := 5, cells := 0, slots := 0, locals := 1600 }) (va_Pc [.ref h0] (pz_B dC dI (tp_K κ) (va_pl L f) sz)) (va_Qi (fun (r : Int32) (f1 : Nat → va_E) => tp_T (mo_O κ) κ τ ν ρ f1 ∧ tp_F τ [13, 53, 54, 56, 57] f f1 ∧ (0 ≤ r.toInt ∧ r.toInt ≤ 4) ∧ ((tp_fld (f1 h0) 10) ≤ (tp_fld (f1 h0) 11) ∧ (tp_fld (f1 h0) 11) ≤ (tp_fld (f1 h0) 9) ∧ ((tp_fld (f1 h0) 12) = 0 ∨ (tp_fld (f1 h0) 10) < (tp_fld (f1 h0) 11)) ∧ ((tp_fld (f1 h0) 12) = 1 → (tp_fld (f1 h0) 11) = (tp_fld (f1 h0) 10) + 1 → (mo_fj (f1 h0) 13) ≤ 26)) ∧ (tp_fld (f1 h0) 22) + (tp_fld (f1 h0) 28) ≤ (tp_fld (f1 h0) 10) ∧ mo_PV (mo_R (mo_i (f1 (ρ h0 26)))) (mo_R (mo_i (f1 (ρ h0 27)))) (tp_fld (f1 h0) 28) ∧ ((tp_fld (f1 h0) 15) = 0 → mo_EX aa r.toInt (mo_R (mo_i (f1 (ρ h0 23)))) (mo_R (mo_i (f1 (ρ h0 24)))) (mo_R (mo_i (f1 (ρ h0 26)))) (mo_R (mo_i (f1 (ρ h0 27)))) (tp_fld (f1 h0) 22) (tp_fld (f1 h0) 28) ∧ mo_FR aa (mo_R (mo_i (f (ρ h0 23)))) (mo_R (mo_i (f (ρ h0 24)))) (mo_R (mo_i (f1 (ρ h0 23)))) (mo_R (mo_i (f1 (ρ h0 24)))) ∧ (r.toInt = 4 ∨ (tp_fld (f h0) 10) < (tp_fld (f1 h0) 10) ∨ ((tp_fld (f1 h0) 10) = (tp_fld (f h0) 10) ∧ r.toInt = 2))) ∧ (tp_fld (f h0) 22) ≤ (tp_fld (f1 h0) 22) ∧ (tp_fld (f1 h0) 9) = (tp_fld (f h0) 9) ∧ (tp_fld (f1 h0) 19) = (tp_fld (f h0) 19) ∧ (tp_fld (f1 h0) 20) = (tp_fld (f h0) 20)) (fun (f1 : Nat → va_E) (t : State) => pz_E dC dI (tp_K κ) (va_A (va_pl L f) sz) (va_pl L f1) t) (va_A (va_pl L f) sz)) 0 0 (va_A (va_pl L f) sz) := by
  refine Met.ofW (cc := cX12_behindTest) (maxL := 2) (ret := some .int) (by decide) rfl ?_
  intro p e s m args below meth c s₁ B hml hv
  obtain ⟨rfl, hsz, hP, hK, hD0, hN⟩ := hv
  have hx := B.exec
  have hb := B.bytes
  have hr := B.returns
  have hts := fun (w : Cond) (h : w ∈ WALL) => atoms_spec (ws := wqX12_behindTest) B.pre w (List.mem_cons_of_mem _ h)
  have hown : s.vm.findClass RX12 = some m.cls := findClass_of_methodNamed B.named
  have hlocks := B.notSynchronized
  subst hsz
  have hD := hD0.self (sz := s.heap.size)
  generalize hAe : va_A (va_pl L f) s.heap.size = A at hD ⊢
  have hA : ∀ q : Nat, s.heap.size ≤ q → A q := fun q h => by rw [← hAe]; exact Or.inr h
  have hS : va_S A s.heap s.heap [] := va_S.rf
  have hR : tp_F τ [13, 53, 54, 56, 57] f f := tp_F.rf
  have hl := lv_entry ([.ref h0]) (n := 2) (Nat.le_of_ble_eq_true rfl)
  rw [lg_entry_eq]
  generalize (lg_sl ([.ref h0]) ++ List.replicate (2 - (lg_sl ([.ref h0])).length) Slot.unset).toArray = ls at hl ⊢
  have hl : lv_has ls 2 [(0, .ref h0)] := hl
  obtain ⟨y1, y2, y3, y4, y5, y6, y7, y8, y9, y10, y11, y12, y13, y14, y15, y16, y17, y18, y19, y20, y21, y22, y23, y24, y25⟩ := tpg_13 hG ht_h0
  obtain ⟨g27, hf_o26⟩ := tpo_53 hT y8
  have tf28 : mo_i (f (ρ h0 23)) = g27 := tfa_i hf_o26
  obtain ⟨g30, hf_o29⟩ := tpo_54 hT y9
  have tf31 : mo_i (f (ρ h0 24)) = g30 := tfa_i hf_o29
  obtain ⟨g33, hf_o32⟩ := tpo_56 hT y10
  have tf34 : mo_i (f (ρ h0 26)) = g33 := tfa_i hf_o32
  obtain ⟨g36, hf_o35⟩ := tpo_57 hT y11
  have tf37 : mo_i (f (ρ h0 27)) = g36 := tfa_i hf_o35
  obtain ⟨o38_x0, o38_x1, o38_x7, o38_x9, o38_x10, o38_x11, o38_x12, o38_x13, o38_x14, o38_x15, o38_x16, o38_x17, o38_x18, o38_x19, o38_x20, o38_x22, o38_x25, o38_x28, o38_x29, o38_x32, o38_x33, o38_x34, o38_x35, o38_x36, o38_x37, o38_x38, o38_x47, o38_x48, hf_o38, ro38_0, ro38_1, ro38_2, ro38_3, ro38_4, ro38_5, ro38_6, ro38_7, ro38_8, ro38_9, ro38_10, ro38_11, ro38_12, ro38_13⟩ := tpo_13 hT ht_h0
  have tf39 : tp_fld (f h0) 9 = o38_x9.toInt := tff_9 hf_o38
  have tf40 : tp_fld (f h0) 10 = o38_x10.toInt := tff_10 hf_o38
  have tf41 : tp_fld (f h0) 11 = o38_x11.toInt := tff_11 hf_o38
  have tf42 : tp_fld (f h0) 12 = o38_x12.toInt := tff_12 hf_o38
  have tf43 : tp_fld (f h0) 15 = o38_x15.toInt := tff_15 hf_o38
  have tf44 : tp_fld (f h0) 19 = o38_x19.toInt := tff_19 hf_o38
  have tf45 : tp_fld (f h0) 20 = o38_x20.toInt := tff_20 hf_o38
  have tf46 : tp_fld (f h0) 22 = o38_x22.toInt := tff_22 hf_o38
  have tf47 : tp_fld (f h0) 28 = o38_x28.toInt := tff_28 hf_o38
  have tf48 : mo_fj (f h0) 13 = o38_x13.toInt := tff_13 hf_o38
  have h1 : (o38_x10.toInt ≤ o38_x11.toInt ∧ o38_x11.toInt ≤ o38_x9.toInt ∧ (o38_x12.toInt = 0 ∨ o38_x10.toInt < o38_x11.toInt) ∧ (o38_x12.toInt = 1 → o38_x11.toInt = o38_x10.toInt + 1 → o38_x13.toInt ≤ 26)) := by have q9 := h1; first | (simp only [tf40, tf41, tf39, tf42, tf48, mo_i1, mo_l1] at q9; exact q9) | (rw [tf40, tf41, tf39, tf42, tf48] at q9; exact q9)
  have hb0 : o38_x15.toInt = 0 := by have q9 := hb0; first | (simp only [tf43, mo_i1, mo_l1] at q9; exact q9) | (rw [tf43] at q9; exact q9)
  have h2 : o38_x22.toInt + o38_x28.toInt ≤ o38_x10.toInt := by have q9 := h2; first | (simp only [tf46, tf47, tf40, mo_i1, mo_l1] at q9; exact q9) | (rw [tf46, tf47, tf40] at q9; exact q9)
  have h3 : mo_PV (mo_R g33) (mo_R g36) o38_x28.toInt := by have q9 := h3; first | (simp only [tf34, tf37, tf47, mo_i1, mo_l1] at q9; exact q9) | (rw [tf34, tf37, tf47] at q9; exact q9)
  have h4 : mo_EX aa 2 (mo_R g27) (mo_R g30) (mo_R g33) (mo_R g36) o38_x22.toInt o38_x28.toInt := by have q9 := h4; first | (simp only [tf28, tf31, tf34, tf37, tf46, tf47, mo_i1, mo_l1] at q9; exact q9) | (rw [tf28, tf31, tf34, tf37, tf46, tf47] at q9; exact q9)
  refine lv_aload_n hx hb dX12_behindTest_0 rfl (lv_at hl 0 rfl) ?_
  refine lv_ldc2 (own := RX12) (v := 1476) hx hb hown (hts (.constantLong RX12 369 (1476)) wa_1110) dX12_behindTest_1 ?_
  obtain ⟨q49, eq49⟩ := tp_pos (tp_in hG ht_h0 (by decide)) hf_o38
  refine pz_calli (va_runV (As := [.long 1476]) (rest := []) ⟨hx, hb, hml, hown, hts⟩ (t_X12_isWord l dC dI _ κ τ ν ρ L f hG hT h0 (1476) ht_h0) (cwV 1 hts gX12_behindTest_X12_isWord rfl rfl rfl ⟨rfl, pd_X12_isWord⟩ ⟨Nat.le_of_ble_eq_true rfl, Nat.le_of_ble_eq_true rfl⟩) ⟨pz_blind, va_recv hK hP (ci := 12) (q0 := q49) rfl eq49, pz_pre hP hK hD hN⟩ rfl rfl hl.1 rfl (lv_room (Nat.le_of_ble_eq_true rfl)) dX12_behindTest_4 ⟨Nat.le_of_ble_eq_true rfl, Nat.le_of_ble_eq_true rfl⟩) (fun r50 hw51 => ?_)
  obtain ⟨hw51r, hw51p⟩ := hw51
  have tk52 : (r50.toInt ≠ 0 → o38_x12.toInt = 1 ∧ o38_x13.toInt = (1476 : Int)) := by have q9 := hw51p; first | (simp only [tf42, tf48, mo_i1, mo_l1] at q9; exact q9) | (rw [tf42, tf48] at q9; exact q9)
  refine lv_istore_n (lv' := [(1, .int r50), (0, .ref h0)]) hx hb dX12_behindTest_7 rfl hl (by decide) rfl (fun ls hl => ?_)
  refine lv_iload_n hx hb dX12_behindTest_8 rfl (lv_at hl 0 rfl) ?_
  refine lv_if_ne (tgt := 22) hx hb dX12_behindTest_9 (by decide) (fun c53 => ?_) (fun c53 => ?_)
  · have ic53 : r50.toInt ≠ 0 := zi_ne rfl rfl c53
    refine lv_aload_n hx hb dX12_behindTest_22 rfl (lv_at hl 1 rfl) ?_
    refine lv_iload_n hx hb dX12_behindTest_23 rfl (lv_at hl 0 rfl) ?_
    refine lv_if_eq (tgt := 31) hx hb dX12_behindTest_24 (by decide) (fun c54 => ?_) (fun c54 => ?_)
    · have ic54 : r50.toInt = 0 := zi_eq rfl rfl c54
      exfalso; omega
    · have ic54 : r50.toInt ≠ 0 := zi_eqf rfl rfl c54
      refine lv_iconst (v := 2) hx hb dX12_behindTest_27 (by decide) ?_
      refine lv_goto (tgt := 32) hx hb dX12_behindTest_28 (by decide) ?_
      have hFc := tp_fr hD hS hA
      refine va_callv (va_runV (As := [.int 2]) (rest := []) ⟨hx, hb, hml, hown, hts⟩ (t_X12_settleDown l dC dI _ κ τ ν ρ L f hG hT h0 (2) aa ht_h0 (by first | decide | omega) (by first | (simp only [tf46, tf47, mo_i1, mo_l1]; exact (show o38_x22.toInt + o38_x28.toInt ≤ 400 from by omega)) | (rw [tf46, tf47]; exact (show o38_x22.toInt + o38_x28.toInt ≤ 400 from by omega))) (by first | (simp only [tf34, tf37, tf47, mo_i1, mo_l1]; exact (show mo_PV (mo_R g33) (mo_R g36) o38_x28.toInt from h3)) | (rw [tf34, tf37, tf47]; exact (show mo_PV (mo_R g33) (mo_R g36) o38_x28.toInt from h3))) (by first | (simp only [tf43, tf28, tf31, tf34, tf37, tf46, tf47, mo_i1, mo_l1]; exact (show (o38_x15.toInt = 0 → 0 ≤ aa ∧ mo_PJ aa (mo_R g27) (mo_R g30) (mo_R g33) (mo_R g36) o38_x22.toInt o38_x28.toInt 1) from fun _ => ⟨h4.1, h4.pj1 (by decide)⟩)) | (rw [tf43, tf28, tf31, tf34, tf37, tf46, tf47]; exact (show (o38_x15.toInt = 0 → 0 ≤ aa ∧ mo_PJ aa (mo_R g27) (mo_R g30) (mo_R g33) (mo_R g36) o38_x22.toInt o38_x28.toInt 1) from fun _ => ⟨h4.1, h4.pj1 (by decide)⟩)))) (cwV 1 hts gX12_behindTest_X12_settleDown rfl rfl rfl ⟨rfl, pd_X12_settleDown⟩ ⟨Nat.le_of_ble_eq_true rfl, Nat.le_of_ble_eq_true rfl⟩) ⟨pz_blind, va_recv hK hP (ci := 12) (q0 := q49) rfl eq49, pz_pre hP hK hD hN⟩ rfl rfl hl.1 rfl (lv_room (Nat.le_of_ble_eq_true rfl)) dX12_behindTest_32 ⟨Nat.le_of_ble_eq_true rfl, Nat.le_of_ble_eq_true rfl⟩) hS (fun q _ h => hFc q h) hFc (fun f57 t H1 locs ht hvm hw56 hB hz1 hk1 hS => ?_)
      obtain ⟨hT, hF58, hw56p⟩ := hw56
      have hR := hR.then hF58 (by decide)
      have hP := hB.1; rw [ht] at hP; have hD := tp_ad f57 hD; clear hB hFc hz1 hk1; subst ht; generalize t.heap = H at hP hS ⊢
      obtain ⟨o59_x0, o59_x1, o59_x7, o59_x9, o59_x10, o59_x11, o59_x12, o59_x13, o59_x14, o59_x15, o59_x16, o59_x17, o59_x18, o59_x19, o59_x20, o59_x22, o59_x25, o59_x28, o59_x29, o59_x32, o59_x33, o59_x34, o59_x35, o59_x36, o59_x37, o59_x38, o59_x47, o59_x48, hf_o59, ro59_0, ro59_1, ro59_2, ro59_3, ro59_4, ro59_5, ro59_6, ro59_7, ro59_8, ro59_9, ro59_10, ro59_11, ro59_12, ro59_13⟩ := tpo_13 hT ht_h0
      have tf60 : tp_fld (f57 h0) 28 = o59_x28.toInt := tff_28 hf_o59
      have tf61 : tp_fld (f57 h0) 22 = o59_x22.toInt := tff_22 hf_o59
      obtain ⟨g63, hf_o62⟩ := tpo_53 hT y8
      have tf64 : mo_i (f57 (ρ h0 23)) = g63 := tfa_i hf_o62
      obtain ⟨g66, hf_o65⟩ := tpo_54 hT y9
      have tf67 : mo_i (f57 (ρ h0 24)) = g66 := tfa_i hf_o65
      have tf68 : tp_fld (f57 h0) 9 = o59_x9.toInt := tff_9 hf_o59
      have tf69 : tp_fld (f57 h0) 10 = o59_x10.toInt := tff_10 hf_o59
      have tf70 : tp_fld (f57 h0) 11 = o59_x11.toInt := tff_11 hf_o59
      have tf71 : tp_fld (f57 h0) 12 = o59_x12.toInt := tff_12 hf_o59
      have tf72 : mo_fj (f57 h0) 13 = o59_x13.toInt := tff_13 hf_o59
      have tf73 : tp_fld (f57 h0) 15 = o59_x15.toInt := tff_15 hf_o59
      have tf74 : tp_fld (f57 h0) 19 = o59_x19.toInt := tff_19 hf_o59
      have tf75 : tp_fld (f57 h0) 20 = o59_x20.toInt := tff_20 hf_o59
      have tk76 : o59_x28.toInt ≤ o38_x28.toInt ∧ o38_x22.toInt ≤ o59_x22.toInt ∧ o59_x22.toInt + o59_x28.toInt ≤ o38_x22.toInt + o38_x28.toInt ∧ (o38_x15.toInt = 0 → mo_PJ aa (mo_R g63) (mo_R g66) (mo_R g33) (mo_R g36) o59_x22.toInt o59_x28.toInt 1) ∧ (∀ i, o59_x28.toInt ≤ i → i < o38_x28.toInt → (mo_R g33) i < 30 ∧ (5 ≤ (2 : Int) → (mo_R g33) i < 14)) ∧ (o59_x28.toInt = 0 ∨ (((2 : Int) = 1 → 30 ≤ (mo_R g33) (o59_x28.toInt + -1)) ∧ ((2 : Int) = 5 → 14 ≤ (mo_R g33) (o59_x28.toInt + -1)))) ∧ (o38_x15.toInt = 0 → mo_FR aa (mo_R g27) (mo_R g30) (mo_R g63) (mo_R g66)) ∧ o59_x9.toInt = o38_x9.toInt ∧ o59_x10.toInt = o38_x10.toInt ∧ o59_x11.toInt = o38_x11.toInt ∧ o59_x12.toInt = o38_x12.toInt ∧ o59_x13.toInt = o38_x13.toInt ∧ o59_x15.toInt = o38_x15.toInt ∧ o59_x19.toInt = o38_x19.toInt ∧ o59_x20.toInt = o38_x20.toInt := by have q9 := hw56p; first | (simp only [tf60, tf47, tf46, tf61, tf43, tf64, tf67, tf34, tf37, tf28, tf31, tf68, tf39, tf69, tf40, tf70, tf41, tf71, tf42, tf72, tf48, tf73, tf74, tf44, tf75, tf45, mo_i1, mo_l1] at q9; exact q9) | (rw [tf60, tf47, tf46, tf61, tf43, tf64, tf67, tf34, tf37, tf28, tf31, tf68, tf39, tf69, tf40, tf70, tf41, tf71, tf42, tf72, tf48, tf73, tf74, tf44, tf75, tf45] at q9; exact q9)
      have hin8 : mo_in (mo_R g33) (o38_x28.toInt).toNat = mo_in (mo_R g33) (o59_x28.toInt).toNat := mo_in_drop' (by omega) (by omega) (fun i i0 i1 => (tk76.2.2.2.2.1 i i0 i1).1)
      have hin9 : mo_in (mo_R g33) (o59_x28.toInt).toNat ≠ 31 := by have q9 := h4.2.2.2.1 (Or.inr rfl); omega
      refine lv_aload_n hx hb dX12_behindTest_35 rfl (lv_at hl 1 rfl) ?_
      refine lv_iload_n hx hb dX12_behindTest_36 rfl (lv_at hl 0 rfl) ?_
      refine lv_if_eq (tgt := 45) hx hb dX12_behindTest_37 (by decide) (fun c77 => ?_) (fun c77 => ?_)
      · have ic77 : r50.toInt = 0 := zi_eq rfl rfl c77
        exfalso; omega
      · have ic77 : r50.toInt ≠ 0 := zi_eqf rfl rfl c77
        refine lv_bipush (v := 18) hx hb dX12_behindTest_40 (by decide) ?_
        refine lv_goto (tgt := 47) hx hb dX12_behindTest_42 (by decide) ?_
        refine lv_aload_n hx hb dX12_behindTest_47 rfl (lv_at hl 1 rfl) ?_
        obtain ⟨q78, eq78⟩ := tp_pos (tp_in hG ht_h0 (by decide)) hf_o59
        refine va_get (D := (dC, dI)) (ci := 12) (v := .int o59_x22) (C := RX12) (T := TX12) (N := 53) hx hb hts hfX12 hown hK hP q78 eq78 rfl 22 (by decide) (hts (.fieldLink RX12 297 "ColdShipsModel" "nCode" "I") wa_989) (fun _ h9 => h9) rfl dX12_behindTest_48 ?_
        have hf_79 : f57 (ρ h0 26) = .inl (κ 0, 400, .inl g33) := (hF58 _ (by rw [y10]; decide)).trans hf_o32
        have tf80 : mo_i (f57 (ρ h0 26)) = g33 := tfa_i hf_79
        have hf_81 : f57 (ρ h0 27) = .inl (κ 0, 400, .inl g36) := (hF58 _ (by rw [y11]; decide)).trans hf_o35
        have tf82 : mo_i (f57 (ρ h0 27)) = g36 := tfa_i hf_81
        have hFc := tp_fr hD hS hA
        refine va_callv (va_runV (As := [.int 18, .int o59_x22]) (rest := []) ⟨hx, hb, hml, hown, hts⟩ (t_X12_push l dC dI _ κ τ ν ρ L f57 hG hT h0 (18) o59_x22 ht_h0 (by first | (simp only [tf60, mo_i1, mo_l1]; exact (show o59_x28.toInt < 400 from by have : (18 : Int32).toInt = 18 := rfl; first | omega | decide)) | (rw [tf60]; exact (show o59_x28.toInt < 400 from by have : (18 : Int32).toInt = 18 := rfl; first | omega | decide)))) (cwV 2 hts gX12_behindTest_X12_push rfl rfl rfl ⟨rfl, pd_X12_push⟩ ⟨Nat.le_of_ble_eq_true rfl, Nat.le_of_ble_eq_true rfl⟩) ⟨pz_blind, va_recv hK hP (ci := 12) (q0 := q78) rfl eq78, pz_pre hP hK hD hN⟩ rfl rfl hl.1 rfl (lv_room (Nat.le_of_ble_eq_true rfl)) dX12_behindTest_51 ⟨Nat.le_of_ble_eq_true rfl, Nat.le_of_ble_eq_true rfl⟩) hS (fun q _ h => hFc q h) hFc (fun f85 t H1 locs ht hvm hw84 hB hz1 hk1 hS => ?_)
        obtain ⟨hT, hF86, hw84p⟩ := hw84
        have hR := hR.then hF86 (by decide)
        have hP := hB.1; rw [ht] at hP; have hD := tp_ad f85 hD; clear hB hFc hz1 hk1; subst ht; generalize t.heap = H at hP hS ⊢
        obtain ⟨g88, hf_o87⟩ := tpo_56 hT y10
        have tf89 : mo_i (f85 (ρ h0 26)) = g88 := tfa_i hf_o87
        obtain ⟨g91, hf_o90⟩ := tpo_57 hT y11
        have tf92 : mo_i (f85 (ρ h0 27)) = g91 := tfa_i hf_o90
        obtain ⟨o93_x0, o93_x1, o93_x7, o93_x9, o93_x10, o93_x11, o93_x12, o93_x13, o93_x14, o93_x15, o93_x16, o93_x17, o93_x18, o93_x19, o93_x20, o93_x22, o93_x25, o93_x28, o93_x29, o93_x32, o93_x33, o93_x34, o93_x35, o93_x36, o93_x37, o93_x38, o93_x47, o93_x48, hf_o93, ro93_0, ro93_1, ro93_2, ro93_3, ro93_4, ro93_5, ro93_6, ro93_7, ro93_8, ro93_9, ro93_10, ro93_11, ro93_12, ro93_13⟩ := tpo_13 hT ht_h0
        have tf94 : tp_fld (f85 h0) 28 = o93_x28.toInt := tff_28 hf_o93
        have tf95 : tp_fld (f85 h0) 9 = o93_x9.toInt := tff_9 hf_o93
        have tf96 : tp_fld (f85 h0) 10 = o93_x10.toInt := tff_10 hf_o93
        have tf97 : tp_fld (f85 h0) 11 = o93_x11.toInt := tff_11 hf_o93
        have tf98 : tp_fld (f85 h0) 12 = o93_x12.toInt := tff_12 hf_o93
        have tf99 : mo_fj (f85 h0) 13 = o93_x13.toInt := tff_13 hf_o93
        have tf100 : tp_fld (f85 h0) 15 = o93_x15.toInt := tff_15 hf_o93
        have tf101 : tp_fld (f85 h0) 19 = o93_x19.toInt := tff_19 hf_o93
        have tf102 : tp_fld (f85 h0) 20 = o93_x20.toInt := tff_20 hf_o93
        have tf103 : tp_fld (f85 h0) 22 = o93_x22.toInt := tff_22 hf_o93
        have tk104 : mo_U (mo_R g33) (mo_R g88) o59_x28.toInt (18 : Int) ∧ mo_U (mo_R g36) (mo_R g91) o59_x28.toInt o59_x22.toInt ∧ o93_x28.toInt = o59_x28.toInt + 1 ∧ o93_x9.toInt = o59_x9.toInt ∧ o93_x10.toInt = o59_x10.toInt ∧ o93_x11.toInt = o59_x11.toInt ∧ o93_x12.toInt = o59_x12.toInt ∧ o93_x13.toInt = o59_x13.toInt ∧ o93_x15.toInt = o59_x15.toInt ∧ o93_x19.toInt = o59_x19.toInt ∧ o93_x20.toInt = o59_x20.toInt ∧ o93_x22.toInt = o59_x22.toInt := by have q9 := hw84p; first | (simp only [tf80, tf89, tf60, tf82, tf92, tf94, tf95, tf68, tf96, tf69, tf97, tf70, tf98, tf71, tf99, tf72, tf100, tf73, tf101, tf74, tf102, tf75, tf103, tf61, mo_i1, mo_l1] at q9; exact q9) | (rw [tf80, tf89, tf60, tf82, tf92, tf94, tf95, tf68, tf96, tf69, tf97, tf70, tf98, tf71, tf99, tf72, tf100, tf73, tf101, tf74, tf102, tf75, tf103, tf61] at q9; exact q9)
        refine lv_aload_n hx hb dX12_behindTest_54 rfl (lv_at hl 1 rfl) ?_
        refine lv_iload_n hx hb dX12_behindTest_55 rfl (lv_at hl 0 rfl) ?_
        refine lv_if_eq (tgt := 64) hx hb dX12_behindTest_56 (by decide) (fun c105 => ?_) (fun c105 => ?_)
        · have ic105 : r50.toInt = 0 := zi_eq rfl rfl c105
          exfalso; omega
        · have ic105 : r50.toInt ≠ 0 := zi_eqf rfl rfl c105
          refine lv_bipush (v := 18) hx hb dX12_behindTest_59 (by decide) ?_
          refine lv_goto (tgt := 66) hx hb dX12_behindTest_61 (by decide) ?_
          refine lv_iconst (v := 0) hx hb dX12_behindTest_66 (by decide) ?_
          have hf_106 : f85 (ρ h0 23) = .inl (κ 0, 400, .inl g63) := (hF86 _ (by rw [y8]; decide)).trans hf_o62
          have tf107 : mo_i (f85 (ρ h0 23)) = g63 := tfa_i hf_106
          have hf_108 : f85 (ρ h0 24) = .inl (κ 0, 400, .inl g66) := (hF86 _ (by rw [y9]; decide)).trans hf_o65
          have tf109 : mo_i (f85 (ρ h0 24)) = g66 := tfa_i hf_108
          obtain ⟨q110, eq110⟩ := tp_pos (tp_in hG ht_h0 (by decide)) hf_o93
          have hFc := tp_fr hD hS hA
          refine va_callv (va_runV (As := [.int 18, .int 0]) (rest := []) ⟨hx, hb, hml, hown, hts⟩ (t_X12_emit l dC dI _ κ τ ν ρ L f85 hG hT h0 (18) (0) ht_h0 (by first | (simp only [tf103, mo_i1, mo_l1]; exact (show o93_x22.toInt < 400 from by have : (18 : Int32).toInt = 18 := rfl; have : (0 : Int32).toInt = 0 := rfl; first | omega | decide)) | (rw [tf103]; exact (show o93_x22.toInt < 400 from by have : (18 : Int32).toInt = 18 := rfl; have : (0 : Int32).toInt = 0 := rfl; first | omega | decide)))) (cwV 2 hts gX12_behindTest_X12_emit rfl rfl rfl ⟨rfl, pd_X12_emit⟩ ⟨Nat.le_of_ble_eq_true rfl, Nat.le_of_ble_eq_true rfl⟩) ⟨pz_blind, va_recv hK hP (ci := 12) (q0 := q110) rfl eq110, pz_pre hP hK hD hN⟩ rfl rfl hl.1 rfl (lv_room (Nat.le_of_ble_eq_true rfl)) dX12_behindTest_67 ⟨Nat.le_of_ble_eq_true rfl, Nat.le_of_ble_eq_true rfl⟩) hS (fun q _ h => hFc q h) hFc (fun f113 t H1 locs ht hvm hw112 hB hz1 hk1 hS => ?_)
          obtain ⟨hT, hF114, hw112p⟩ := hw112
          have hR := hR.then hF114 (by decide)
          have hP := hB.1; rw [ht] at hP; have hD := tp_ad f113 hD; clear hB hFc hz1 hk1; subst ht; generalize t.heap = H at hP hS ⊢
          obtain ⟨g116, hf_o115⟩ := tpo_53 hT y8
          have tf117 : mo_i (f113 (ρ h0 23)) = g116 := tfa_i hf_o115
          obtain ⟨g119, hf_o118⟩ := tpo_54 hT y9
          have tf120 : mo_i (f113 (ρ h0 24)) = g119 := tfa_i hf_o118
          obtain ⟨o121_x0, o121_x1, o121_x7, o121_x9, o121_x10, o121_x11, o121_x12, o121_x13, o121_x14, o121_x15, o121_x16, o121_x17, o121_x18, o121_x19, o121_x20, o121_x22, o121_x25, o121_x28, o121_x29, o121_x32, o121_x33, o121_x34, o121_x35, o121_x36, o121_x37, o121_x38, o121_x47, o121_x48, hf_o121, ro121_0, ro121_1, ro121_2, ro121_3, ro121_4, ro121_5, ro121_6, ro121_7, ro121_8, ro121_9, ro121_10, ro121_11, ro121_12, ro121_13⟩ := tpo_13 hT ht_h0
          have tf122 : tp_fld (f113 h0) 22 = o121_x22.toInt := tff_22 hf_o121
          have tf123 : tp_fld (f113 h0) 9 = o121_x9.toInt := tff_9 hf_o121
          have tf124 : tp_fld (f113 h0) 10 = o121_x10.toInt := tff_10 hf_o121
          have tf125 : tp_fld (f113 h0) 11 = o121_x11.toInt := tff_11 hf_o121
          have tf126 : tp_fld (f113 h0) 12 = o121_x12.toInt := tff_12 hf_o121
          have tf127 : mo_fj (f113 h0) 13 = o121_x13.toInt := tff_13 hf_o121
          have tf128 : tp_fld (f113 h0) 15 = o121_x15.toInt := tff_15 hf_o121
          have tf129 : tp_fld (f113 h0) 19 = o121_x19.toInt := tff_19 hf_o121
          have tf130 : tp_fld (f113 h0) 20 = o121_x20.toInt := tff_20 hf_o121
          have tf131 : tp_fld (f113 h0) 28 = o121_x28.toInt := tff_28 hf_o121
          have tk132 : mo_U (mo_R g63) (mo_R g116) o93_x22.toInt (18 : Int) ∧ mo_U (mo_R g66) (mo_R g119) o93_x22.toInt (0 : Int) ∧ o121_x22.toInt = o93_x22.toInt + 1 ∧ o121_x9.toInt = o93_x9.toInt ∧ o121_x10.toInt = o93_x10.toInt ∧ o121_x11.toInt = o93_x11.toInt ∧ o121_x12.toInt = o93_x12.toInt ∧ o121_x13.toInt = o93_x13.toInt ∧ o121_x15.toInt = o93_x15.toInt ∧ o121_x19.toInt = o93_x19.toInt ∧ o121_x20.toInt = o93_x20.toInt ∧ o121_x28.toInt = o93_x28.toInt := by have q9 := hw112p; first | (simp only [tf107, tf117, tf103, tf109, tf120, tf122, tf123, tf95, tf124, tf96, tf125, tf97, tf126, tf98, tf127, tf99, tf128, tf100, tf129, tf101, tf130, tf102, tf131, tf94, mo_i1, mo_l1] at q9; exact q9) | (rw [tf107, tf117, tf103, tf109, tf120, tf122, tf123, tf95, tf124, tf96, tf125, tf97, tf126, tf98, tf127, tf99, tf128, tf100, tf129, tf101, tf130, tf102, tf131, tf94] at q9; exact q9)
          refine lv_aload_n hx hb dX12_behindTest_70 rfl (lv_at hl 1 rfl) ?_
          obtain ⟨q133, eq133⟩ := tp_pos (tp_in hG ht_h0 (by decide)) hf_o121
          have hFc := tp_fr hD hS hA
          refine va_callv (va_runV (As := []) (rest := []) ⟨hx, hb, hml, hown, hts⟩ (t_X12_next l dC dI _ κ τ ν ρ L f113 hG hT h0 ht_h0 (by first | (simp only [tf125, tf123, mo_i1, mo_l1]; exact (show o121_x11.toInt ≤ o121_x9.toInt from by first | omega | decide)) | (rw [tf125, tf123]; exact (show o121_x11.toInt ≤ o121_x9.toInt from by first | omega | decide)))) (cwV 0 hts gX12_behindTest_X12_next rfl rfl rfl ⟨rfl, pd_X12_next⟩ ⟨Nat.le_of_ble_eq_true rfl, Nat.le_of_ble_eq_true rfl⟩) ⟨pz_blind, va_recv hK hP (ci := 12) (q0 := q133) rfl eq133, pz_pre hP hK hD hN⟩ rfl rfl hl.1 rfl (lv_room (Nat.le_of_ble_eq_true rfl)) dX12_behindTest_71 ⟨Nat.le_of_ble_eq_true rfl, Nat.le_of_ble_eq_true rfl⟩) hS (fun q _ h => hFc q h) hFc (fun f136 t H1 locs ht hvm hw135 hB hz1 hk1 hS => ?_)
          obtain ⟨hT, hF137, hw135p⟩ := hw135
          have hR := hR.then hF137 (by decide)
          have hP := hB.1; rw [ht] at hP; have hD := tp_ad f136 hD; clear hB hFc hz1 hk1; subst ht; generalize t.heap = H at hP hS ⊢
          obtain ⟨o138_x0, o138_x1, o138_x7, o138_x9, o138_x10, o138_x11, o138_x12, o138_x13, o138_x14, o138_x15, o138_x16, o138_x17, o138_x18, o138_x19, o138_x20, o138_x22, o138_x25, o138_x28, o138_x29, o138_x32, o138_x33, o138_x34, o138_x35, o138_x36, o138_x37, o138_x38, o138_x47, o138_x48, hf_o138, ro138_0, ro138_1, ro138_2, ro138_3, ro138_4, ro138_5, ro138_6, ro138_7, ro138_8, ro138_9, ro138_10, ro138_11, ro138_12, ro138_13⟩ := tpo_13 hT ht_h0
          have tf139 : tp_fld (f136 h0) 10 = o138_x10.toInt := tff_10 hf_o138
          have tf140 : tp_fld (f136 h0) 11 = o138_x11.toInt := tff_11 hf_o138
          have tf141 : tp_fld (f136 h0) 9 = o138_x9.toInt := tff_9 hf_o138
          have tf142 : tp_fld (f136 h0) 12 = o138_x12.toInt := tff_12 hf_o138
          have tf143 : mo_fj (f136 h0) 13 = o138_x13.toInt := tff_13 hf_o138
          have tf144 : tp_fld (f136 h0) 15 = o138_x15.toInt := tff_15 hf_o138
          have tf145 : tp_fld (f136 h0) 19 = o138_x19.toInt := tff_19 hf_o138
          have tf146 : tp_fld (f136 h0) 20 = o138_x20.toInt := tff_20 hf_o138
          have tf147 : tp_fld (f136 h0) 22 = o138_x22.toInt := tff_22 hf_o138
          have tf148 : tp_fld (f136 h0) 28 = o138_x28.toInt := tff_28 hf_o138
          have tk149 : (o138_x10.toInt ≤ o138_x11.toInt ∧ o138_x11.toInt ≤ o138_x9.toInt ∧ (o138_x12.toInt = 0 ∨ o138_x10.toInt < o138_x11.toInt) ∧ (o138_x12.toInt = 1 → o138_x11.toInt = o138_x10.toInt + 1 → o138_x13.toInt ≤ 26)) ∧ o121_x11.toInt ≤ o138_x10.toInt ∧ o138_x9.toInt = o121_x9.toInt ∧ o138_x15.toInt = o121_x15.toInt ∧ o138_x19.toInt = o121_x19.toInt ∧ o138_x20.toInt = o121_x20.toInt ∧ o138_x22.toInt = o121_x22.toInt ∧ o138_x28.toInt = o121_x28.toInt := by have q9 := hw135p; first | (simp only [tf139, tf140, tf141, tf142, tf143, tf125, tf123, tf144, tf128, tf145, tf129, tf146, tf130, tf147, tf122, tf148, tf131, mo_i1, mo_l1] at q9; exact q9) | (rw [tf139, tf140, tf141, tf142, tf143, tf125, tf123, tf144, tf128, tf145, tf129, tf146, tf130, tf147, tf122, tf148, tf131] at q9; exact q9)
          refine lv_iconst (v := 0) hx hb dX12_behindTest_74 (by decide) ?_
          have hf_150 : f113 (ρ h0 26) = .inl (κ 0, 400, .inl g88) := (hF114 _ (by rw [y10]; decide)).trans hf_o87
          have hf_151 : f136 (ρ h0 26) = .inl (κ 0, 400, .inl g88) := (hF137 _ (by rw [y10]; decide)).trans hf_150
          have tf152 : mo_i (f136 (ρ h0 26)) = g88 := tfa_i hf_151
          have hf_153 : f113 (ρ h0 27) = .inl (κ 0, 400, .inl g91) := (hF114 _ (by rw [y11]; decide)).trans hf_o90
          have hf_154 : f136 (ρ h0 27) = .inl (κ 0, 400, .inl g91) := (hF137 _ (by rw [y11]; decide)).trans hf_153
          have tf155 : mo_i (f136 (ρ h0 27)) = g91 := tfa_i hf_154
          have hf_156 : f136 (ρ h0 23) = .inl (κ 0, 400, .inl g116) := (hF137 _ (by rw [y8]; decide)).trans hf_o115
          have tf157 : mo_i (f136 (ρ h0 23)) = g116 := tfa_i hf_156
          have hf_158 : f136 (ρ h0 24) = .inl (κ 0, 400, .inl g119) := (hF137 _ (by rw [y9]; decide)).trans hf_o118
          have tf159 : mo_i (f136 (ρ h0 24)) = g119 := tfa_i hf_158
          exact W.iret (v := 0) hx hb hr (fun t ht hW => ⟨⟨0, f136, rfl, ⟨hT, hR, (by first | decide | omega), (by first | (simp only [tf139, tf140, tf141, tf142, tf143, tf147, tf148, tf152, tf155, tf144, tf157, tf159, tf28, tf31, tf40, tf46, tf39, tf145, tf44, tf146, tf45, mo_i1, mo_l1]; exact (show (o138_x10.toInt ≤ o138_x11.toInt ∧ o138_x11.toInt ≤ o138_x9.toInt ∧ (o138_x12.toInt = 0 ∨ o138_x10.toInt < o138_x11.toInt) ∧ (o138_x12.toInt = 1 → o138_x11.toInt = o138_x10.toInt + 1 → o138_x13.toInt ≤ 26)) ∧ o138_x22.toInt + o138_x28.toInt ≤ o138_x10.toInt ∧ mo_PV (mo_R g88) (mo_R g91) o138_x28.toInt ∧ (o138_x15.toInt = 0 → mo_EX aa (0 : Int32).toInt (mo_R g116) (mo_R g119) (mo_R g88) (mo_R g91) o138_x22.toInt o138_x28.toInt ∧ mo_FR aa (mo_R g27) (mo_R g30) (mo_R g116) (mo_R g119) ∧ ((0 : Int32).toInt = 4 ∨ o38_x10.toInt < o138_x10.toInt ∨ (o138_x10.toInt = o38_x10.toInt ∧ (0 : Int32).toInt = 2))) ∧ o38_x22.toInt ≤ o138_x22.toInt ∧ o138_x9.toInt = o38_x9.toInt ∧ o138_x19.toInt = o38_x19.toInt ∧ o138_x20.toInt = o38_x20.toInt from ⟨by omega, by omega, ((h3.lt (n' := _) tk76.1).push (by omega) tk104.1 tk104.2.1 (by omega) (by omega) (by omega)), fun q9 => ⟨(mo_EX.ando h4.1 (tk76.2.2.2.1 (by omega)) (h4.2.2.1.lt tk76.1) (by omega) tk104.1 tk104.2.1 tk132.1 tk132.2.1 (by omega) (by omega) (by omega) hin9), ((tk76.2.2.2.2.2.2.1 (by omega)).then (mo_FR.emit tk132.1 tk132.2.1 (tk76.2.2.2.1 (by omega)).base)), by have q8 : (0 : Int32).toInt = 0 := rfl; omega⟩, by omega, by omega, by omega, by omega⟩)) | (rw [tf139, tf140, tf141, tf142, tf143, tf147, tf148, tf152, tf155, tf144, tf157, tf159, tf28, tf31, tf40, tf46, tf39, tf145, tf44, tf146, tf45]; exact (show (o138_x10.toInt ≤ o138_x11.toInt ∧ o138_x11.toInt ≤ o138_x9.toInt ∧ (o138_x12.toInt = 0 ∨ o138_x10.toInt < o138_x11.toInt) ∧ (o138_x12.toInt = 1 → o138_x11.toInt = o138_x10.toInt + 1 → o138_x13.toInt ≤ 26)) ∧ o138_x22.toInt + o138_x28.toInt ≤ o138_x10.toInt ∧ mo_PV (mo_R g88) (mo_R g91) o138_x28.toInt ∧ (o138_x15.toInt = 0 → mo_EX aa (0 : Int32).toInt (mo_R g116) (mo_R g119) (mo_R g88) (mo_R g91) o138_x22.toInt o138_x28.toInt ∧ mo_FR aa (mo_R g27) (mo_R g30) (mo_R g116) (mo_R g119) ∧ ((0 : Int32).toInt = 4 ∨ o38_x10.toInt < o138_x10.toInt ∨ (o138_x10.toInt = o38_x10.toInt ∧ (0 : Int32).toInt = 2))) ∧ o38_x22.toInt ≤ o138_x22.toInt ∧ o138_x9.toInt = o38_x9.toInt ∧ o138_x19.toInt = o38_x19.toInt ∧ o138_x20.toInt = o38_x20.toInt from ⟨by omega, by omega, ((h3.lt (n' := _) tk76.1).push (by omega) tk104.1 tk104.2.1 (by omega) (by omega) (by omega)), fun q9 => ⟨(mo_EX.ando h4.1 (tk76.2.2.2.1 (by omega)) (h4.2.2.1.lt tk76.1) (by omega) tk104.1 tk104.2.1 tk132.1 tk132.2.1 (by omega) (by omega) (by omega) hin9), ((tk76.2.2.2.2.2.2.1 (by omega)).then (mo_FR.emit tk132.1 tk132.2.1 (tk76.2.2.2.1 (by omega)).base)), by have q8 : (0 : Int32).toInt = 0 := rfl; omega⟩, by omega, by omega, by omega, by omega⟩)))⟩, by rw [ht]; exact hP, va_K.moved hW.alike hK, hD⟩, hS.F ht⟩) hS.2.2 dX12_behindTest_75
  · have ic53 : r50.toInt = 0 := zi_nef rfl rfl c53
    refine lv_aload_n hx hb dX12_behindTest_12 rfl (lv_at hl 1 rfl) ?_
    refine lv_ldc2 (own := RX12) (v := 498) hx hb hown (hts (.constantLong RX12 371 (498)) wa_1111) dX12_behindTest_13 ?_
    refine pz_calli (va_runV (As := [.long 498]) (rest := []) ⟨hx, hb, hml, hown, hts⟩ (t_X12_isWord l dC dI _ κ τ ν ρ L f hG hT h0 (498) ht_h0) (cwV 1 hts gX12_behindTest_X12_isWord rfl rfl rfl ⟨rfl, pd_X12_isWord⟩ ⟨Nat.le_of_ble_eq_true rfl, Nat.le_of_ble_eq_true rfl⟩) ⟨pz_blind, va_recv hK hP (ci := 12) (q0 := q49) rfl eq49, pz_pre hP hK hD hN⟩ rfl rfl hl.1 rfl (lv_room (Nat.le_of_ble_eq_true rfl)) dX12_behindTest_16 ⟨Nat.le_of_ble_eq_true rfl, Nat.le_of_ble_eq_true rfl⟩) (fun r160 hw161 => ?_)
    obtain ⟨hw161r, hw161p⟩ := hw161
    have tk162 : (r160.toInt ≠ 0 → o38_x12.toInt = 1 ∧ o38_x13.toInt = (498 : Int)) := by have q9 := hw161p; first | (simp only [tf42, tf48, mo_i1, mo_l1] at q9; exact q9) | (rw [tf42, tf48] at q9; exact q9)
    refine lv_if_eq (tgt := 76) hx hb dX12_behindTest_19 (by decide) (fun c163 => ?_) (fun c163 => ?_)
    · have ic163 : r160.toInt = 0 := zi_eq rfl rfl c163
      refine lv_aload_n hx hb dX12_behindTest_76 rfl (lv_at hl 1 rfl) ?_
      refine pz_calli (va_runV (As := []) (rest := []) ⟨hx, hb, hml, hown, hts⟩ (t_X12_inner l dC dI _ κ τ ν ρ L f hG hT h0 ht_h0) (cwV 0 hts gX12_behindTest_X12_inner rfl rfl rfl ⟨rfl, pd_X12_inner⟩ ⟨Nat.le_of_ble_eq_true rfl, Nat.le_of_ble_eq_true rfl⟩) ⟨pz_blind, va_recv hK hP (ci := 12) (q0 := q49) rfl eq49, pz_pre hP hK hD hN⟩ rfl rfl hl.1 rfl (lv_room (Nat.le_of_ble_eq_true rfl)) dX12_behindTest_77 ⟨Nat.le_of_ble_eq_true rfl, Nat.le_of_ble_eq_true rfl⟩) (fun r164 hw165 => ?_)
      obtain ⟨hw165r, hw165p⟩ := hw165
      have tk166 : r164.toInt = mo_in (mo_R g33) (o38_x28.toInt).toNat := by have q9 := hw165p; first | (simp only [tf34, tf47, mo_i1, mo_l1] at q9; exact q9) | (rw [tf34, tf47] at q9; exact q9)
      refine lv_iconst (v := (-1)) hx hb dX12_behindTest_80 (by decide) ?_
      refine lv_icmp_ne (tgt := 86) hx hb dX12_behindTest_81 (by decide) (fun c167 => ?_) (fun c167 => ?_)
      · have ic167 : r164.toInt ≠ (-1) := zi_ne rfl rfl c167
        refine lv_aload_n hx hb dX12_behindTest_86 rfl (lv_at hl 1 rfl) ?_
        refine lv_aload_n hx hb dX12_behindTest_87 rfl (lv_at hl 1 rfl) ?_
        refine lv_bipush (v := 41) hx hb dX12_behindTest_88 (by decide) ?_
        refine pz_calli (va_runV (As := [.int 41]) (rest := [.ref h0]) ⟨hx, hb, hml, hown, hts⟩ (t_X12_isSign l dC dI _ κ τ ν ρ L f hG hT h0 (41) ht_h0) (cwV 1 hts gX12_behindTest_X12_isSign rfl rfl rfl ⟨rfl, pd_X12_isSign⟩ ⟨Nat.le_of_ble_eq_true rfl, Nat.le_of_ble_eq_true rfl⟩) ⟨pz_blind, va_recv hK hP (ci := 12) (q0 := q49) rfl eq49, pz_pre hP hK hD hN⟩ rfl rfl hl.1 rfl (lv_room (Nat.le_of_ble_eq_true rfl)) dX12_behindTest_90 ⟨Nat.le_of_ble_eq_true rfl, Nat.le_of_ble_eq_true rfl⟩) (fun r168 hw169 => ?_)
        obtain ⟨hw169r, hw169p⟩ := hw169
        have tk170 : (r168.toInt ≠ 0 → o38_x12.toInt = 3 ∧ o38_x13.toInt = (41 : Int)) := by have q9 := hw169p; first | (simp only [tf42, tf48, mo_i1, mo_l1] at q9; exact q9) | (rw [tf42, tf48] at q9; exact q9)
        have hFc := tp_fr hD hS hA
        refine va_callv (va_runV (As := [.int r168]) (rest := []) ⟨hx, hb, hml, hown, hts⟩ (t_X12_must l dC dI _ κ τ ν ρ L f hG hT h0 r168 ht_h0 (by first | decide | omega) (by first | (simp only [tf40, tf41, tf39, tf42, tf48, mo_i1, mo_l1]; exact (show (o38_x10.toInt ≤ o38_x11.toInt ∧ o38_x11.toInt ≤ o38_x9.toInt ∧ (o38_x12.toInt = 0 ∨ o38_x10.toInt < o38_x11.toInt) ∧ (o38_x12.toInt = 1 → o38_x11.toInt = o38_x10.toInt + 1 → o38_x13.toInt ≤ 26)) from by first | omega | decide)) | (rw [tf40, tf41, tf39, tf42, tf48]; exact (show (o38_x10.toInt ≤ o38_x11.toInt ∧ o38_x11.toInt ≤ o38_x9.toInt ∧ (o38_x12.toInt = 0 ∨ o38_x10.toInt < o38_x11.toInt) ∧ (o38_x12.toInt = 1 → o38_x11.toInt = o38_x10.toInt + 1 → o38_x13.toInt ≤ 26)) from by first | omega | decide)))) (cwV 1 hts gX12_behindTest_X12_must rfl rfl rfl ⟨rfl, pd_X12_must⟩ ⟨Nat.le_of_ble_eq_true rfl, Nat.le_of_ble_eq_true rfl⟩) ⟨pz_blind, va_recv hK hP (ci := 12) (q0 := q49) rfl eq49, pz_pre hP hK hD hN⟩ rfl rfl hl.1 rfl (lv_room (Nat.le_of_ble_eq_true rfl)) dX12_behindTest_93 ⟨Nat.le_of_ble_eq_true rfl, Nat.le_of_ble_eq_true rfl⟩) hS (fun q _ h => hFc q h) hFc (fun f173 t H1 locs ht hvm hw172 hB hz1 hk1 hS => ?_)
        obtain ⟨hT, hF174, hw172p⟩ := hw172
        have hR := hR.then hF174 (by decide)
        have hP := hB.1; rw [ht] at hP; have hD := tp_ad f173 hD; clear hB hFc hz1 hk1; subst ht; generalize t.heap = H at hP hS ⊢
        obtain ⟨o175_x0, o175_x1, o175_x7, o175_x9, o175_x10, o175_x11, o175_x12, o175_x13, o175_x14, o175_x15, o175_x16, o175_x17, o175_x18, o175_x19, o175_x20, o175_x22, o175_x25, o175_x28, o175_x29, o175_x32, o175_x33, o175_x34, o175_x35, o175_x36, o175_x37, o175_x38, o175_x47, o175_x48, hf_o175, ro175_0, ro175_1, ro175_2, ro175_3, ro175_4, ro175_5, ro175_6, ro175_7, ro175_8, ro175_9, ro175_10, ro175_11, ro175_12, ro175_13⟩ := tpo_13 hT ht_h0
        have tf176 : tp_fld (f173 h0) 10 = o175_x10.toInt := tff_10 hf_o175
        have tf177 : tp_fld (f173 h0) 11 = o175_x11.toInt := tff_11 hf_o175
        have tf178 : tp_fld (f173 h0) 9 = o175_x9.toInt := tff_9 hf_o175
        have tf179 : tp_fld (f173 h0) 12 = o175_x12.toInt := tff_12 hf_o175
        have tf180 : mo_fj (f173 h0) 13 = o175_x13.toInt := tff_13 hf_o175
        have tf181 : tp_fld (f173 h0) 15 = o175_x15.toInt := tff_15 hf_o175
        have tf182 : tp_fld (f173 h0) 19 = o175_x19.toInt := tff_19 hf_o175
        have tf183 : tp_fld (f173 h0) 20 = o175_x20.toInt := tff_20 hf_o175
        have tf184 : tp_fld (f173 h0) 22 = o175_x22.toInt := tff_22 hf_o175
        have tf185 : tp_fld (f173 h0) 28 = o175_x28.toInt := tff_28 hf_o175
        have tk186 : (o175_x10.toInt ≤ o175_x11.toInt ∧ o175_x11.toInt ≤ o175_x9.toInt ∧ (o175_x12.toInt = 0 ∨ o175_x10.toInt < o175_x11.toInt) ∧ (o175_x12.toInt = 1 → o175_x11.toInt = o175_x10.toInt + 1 → o175_x13.toInt ≤ 26)) ∧ (o175_x15.toInt = 0 → o38_x15.toInt = 0 ∧ o38_x11.toInt ≤ o175_x10.toInt ∧ r168.toInt ≠ 0) ∧ (o175_x15.toInt ≠ 0 → o175_x10.toInt = o38_x10.toInt) ∧ o175_x9.toInt = o38_x9.toInt ∧ o175_x19.toInt = o38_x19.toInt ∧ o175_x20.toInt = o38_x20.toInt ∧ o175_x22.toInt = o38_x22.toInt ∧ o175_x28.toInt = o38_x28.toInt := by have q9 := hw172p; first | (simp only [tf176, tf177, tf178, tf179, tf180, tf181, tf43, tf41, tf40, tf39, tf182, tf44, tf183, tf45, tf184, tf46, tf185, tf47, mo_i1, mo_l1] at q9; exact q9) | (rw [tf176, tf177, tf178, tf179, tf180, tf181, tf43, tf41, tf40, tf39, tf182, tf44, tf183, tf45, tf184, tf46, tf185, tf47] at q9; exact q9)
        refine lv_aload_n hx hb dX12_behindTest_96 rfl (lv_at hl 1 rfl) ?_
        obtain ⟨q187, eq187⟩ := tp_pos (tp_in hG ht_h0 (by decide)) hf_o175
        refine va_get (D := (dC, dI)) (ci := 12) (v := .int o175_x15) (C := RX12) (T := TX12) (N := 53) hx hb hts hfX12 hown hK hP q187 eq187 rfl 15 (by decide) (hts (.fieldLink RX12 261 "ColdShipsModel" "bad" "Z") wa_994) (fun _ h9 => h9) rfl dX12_behindTest_97 ?_
        refine lv_if_ne (tgt := 128) hx hb dX12_behindTest_100 (by decide) (fun c188 => ?_) (fun c188 => ?_)
        · have ic188 : o175_x15.toInt ≠ 0 := zi_ne rfl rfl c188
          refine lv_iconst (v := 2) hx hb dX12_behindTest_128 (by decide) ?_
          have hf_189 : f173 (ρ h0 26) = .inl (κ 0, 400, .inl g33) := (hF174 _ (by rw [y10]; decide)).trans hf_o32
          have tf190 : mo_i (f173 (ρ h0 26)) = g33 := tfa_i hf_189
          have hf_191 : f173 (ρ h0 27) = .inl (κ 0, 400, .inl g36) := (hF174 _ (by rw [y11]; decide)).trans hf_o35
          have tf192 : mo_i (f173 (ρ h0 27)) = g36 := tfa_i hf_191
          have hf_193 : f173 (ρ h0 23) = .inl (κ 0, 400, .inl g27) := (hF174 _ (by rw [y8]; decide)).trans hf_o26
          have tf194 : mo_i (f173 (ρ h0 23)) = g27 := tfa_i hf_193
          have hf_195 : f173 (ρ h0 24) = .inl (κ 0, 400, .inl g30) := (hF174 _ (by rw [y9]; decide)).trans hf_o29
          have tf196 : mo_i (f173 (ρ h0 24)) = g30 := tfa_i hf_195
          exact W.iret (v := 2) hx hb hr (fun t ht hW => ⟨⟨2, f173, rfl, ⟨hT, hR, (by first | decide | omega), (by first | (simp only [tf176, tf177, tf178, tf179, tf180, tf184, tf185, tf190, tf192, tf181, tf194, tf196, tf28, tf31, tf40, tf46, tf39, tf182, tf44, tf183, tf45, mo_i1, mo_l1]; exact (show (o175_x10.toInt ≤ o175_x11.toInt ∧ o175_x11.toInt ≤ o175_x9.toInt ∧ (o175_x12.toInt = 0 ∨ o175_x10.toInt < o175_x11.toInt) ∧ (o175_x12.toInt = 1 → o175_x11.toInt = o175_x10.toInt + 1 → o175_x13.toInt ≤ 26)) ∧ o175_x22.toInt + o175_x28.toInt ≤ o175_x10.toInt ∧ mo_PV (mo_R g33) (mo_R g36) o175_x28.toInt ∧ (o175_x15.toInt = 0 → mo_EX aa (2 : Int32).toInt (mo_R g27) (mo_R g30) (mo_R g33) (mo_R g36) o175_x22.toInt o175_x28.toInt ∧ mo_FR aa (mo_R g27) (mo_R g30) (mo_R g27) (mo_R g30) ∧ ((2 : Int32).toInt = 4 ∨ o38_x10.toInt < o175_x10.toInt ∨ (o175_x10.toInt = o38_x10.toInt ∧ (2 : Int32).toInt = 2))) ∧ o38_x22.toInt ≤ o175_x22.toInt ∧ o175_x9.toInt = o38_x9.toInt ∧ o175_x19.toInt = o38_x19.toInt ∧ o175_x20.toInt = o38_x20.toInt from ⟨by omega, by omega, h3, fun q9 => by exfalso; omega, by omega, by omega, by omega, by omega⟩)) | (rw [tf176, tf177, tf178, tf179, tf180, tf184, tf185, tf190, tf192, tf181, tf194, tf196, tf28, tf31, tf40, tf46, tf39, tf182, tf44, tf183, tf45]; exact (show (o175_x10.toInt ≤ o175_x11.toInt ∧ o175_x11.toInt ≤ o175_x9.toInt ∧ (o175_x12.toInt = 0 ∨ o175_x10.toInt < o175_x11.toInt) ∧ (o175_x12.toInt = 1 → o175_x11.toInt = o175_x10.toInt + 1 → o175_x13.toInt ≤ 26)) ∧ o175_x22.toInt + o175_x28.toInt ≤ o175_x10.toInt ∧ mo_PV (mo_R g33) (mo_R g36) o175_x28.toInt ∧ (o175_x15.toInt = 0 → mo_EX aa (2 : Int32).toInt (mo_R g27) (mo_R g30) (mo_R g33) (mo_R g36) o175_x22.toInt o175_x28.toInt ∧ mo_FR aa (mo_R g27) (mo_R g30) (mo_R g27) (mo_R g30) ∧ ((2 : Int32).toInt = 4 ∨ o38_x10.toInt < o175_x10.toInt ∨ (o175_x10.toInt = o38_x10.toInt ∧ (2 : Int32).toInt = 2))) ∧ o38_x22.toInt ≤ o175_x22.toInt ∧ o175_x9.toInt = o38_x9.toInt ∧ o175_x19.toInt = o38_x19.toInt ∧ o175_x20.toInt = o38_x20.toInt from ⟨by omega, by omega, h3, fun q9 => by exfalso; omega, by omega, by omega, by omega, by omega⟩)))⟩, by rw [ht]; exact hP, va_K.moved hW.alike hK, hD⟩, hS.F ht⟩) hS.2.2 dX12_behindTest_129
        · have ic188 : o175_x15.toInt = 0 := zi_nef rfl rfl c188
          refine lv_aload_n hx hb dX12_behindTest_103 rfl (lv_at hl 1 rfl) ?_
          refine lv_iconst (v := 1) hx hb dX12_behindTest_104 (by decide) ?_
          have hf_197 : f173 (ρ h0 26) = .inl (κ 0, 400, .inl g33) := (hF174 _ (by rw [y10]; decide)).trans hf_o32
          have tf198 : mo_i (f173 (ρ h0 26)) = g33 := tfa_i hf_197
          have hf_199 : f173 (ρ h0 27) = .inl (κ 0, 400, .inl g36) := (hF174 _ (by rw [y11]; decide)).trans hf_o35
          have tf200 : mo_i (f173 (ρ h0 27)) = g36 := tfa_i hf_199
          have hf_201 : f173 (ρ h0 23) = .inl (κ 0, 400, .inl g27) := (hF174 _ (by rw [y8]; decide)).trans hf_o26
          have tf202 : mo_i (f173 (ρ h0 23)) = g27 := tfa_i hf_201
          have hf_203 : f173 (ρ h0 24) = .inl (κ 0, 400, .inl g30) := (hF174 _ (by rw [y9]; decide)).trans hf_o29
          have tf204 : mo_i (f173 (ρ h0 24)) = g30 := tfa_i hf_203
          have hFc := tp_fr hD hS hA
          refine va_callv (va_runV (As := [.int 1]) (rest := []) ⟨hx, hb, hml, hown, hts⟩ (t_X12_settleDown l dC dI _ κ τ ν ρ L f173 hG hT h0 (1) aa ht_h0 (by first | decide | omega) (by first | (simp only [tf184, tf185, mo_i1, mo_l1]; exact (show o175_x22.toInt + o175_x28.toInt ≤ 400 from by omega)) | (rw [tf184, tf185]; exact (show o175_x22.toInt + o175_x28.toInt ≤ 400 from by omega))) (by first | (simp only [tf198, tf200, tf185, mo_i1, mo_l1]; exact (show mo_PV (mo_R g33) (mo_R g36) o175_x28.toInt from h3)) | (rw [tf198, tf200, tf185]; exact (show mo_PV (mo_R g33) (mo_R g36) o175_x28.toInt from h3))) (by first | (simp only [tf181, tf202, tf204, tf198, tf200, tf184, tf185, mo_i1, mo_l1]; exact (show (o175_x15.toInt = 0 → 0 ≤ aa ∧ mo_PJ aa (mo_R g27) (mo_R g30) (mo_R g33) (mo_R g36) o175_x22.toInt o175_x28.toInt 1) from fun _ => ⟨h4.1, h4.pj1 (by decide)⟩)) | (rw [tf181, tf202, tf204, tf198, tf200, tf184, tf185]; exact (show (o175_x15.toInt = 0 → 0 ≤ aa ∧ mo_PJ aa (mo_R g27) (mo_R g30) (mo_R g33) (mo_R g36) o175_x22.toInt o175_x28.toInt 1) from fun _ => ⟨h4.1, h4.pj1 (by decide)⟩)))) (cwV 1 hts gX12_behindTest_X12_settleDown rfl rfl rfl ⟨rfl, pd_X12_settleDown⟩ ⟨Nat.le_of_ble_eq_true rfl, Nat.le_of_ble_eq_true rfl⟩) ⟨pz_blind, va_recv hK hP (ci := 12) (q0 := q187) rfl eq187, pz_pre hP hK hD hN⟩ rfl rfl hl.1 rfl (lv_room (Nat.le_of_ble_eq_true rfl)) dX12_behindTest_105 ⟨Nat.le_of_ble_eq_true rfl, Nat.le_of_ble_eq_true rfl⟩) hS (fun q _ h => hFc q h) hFc (fun f207 t H1 locs ht hvm hw206 hB hz1 hk1 hS => ?_)
          obtain ⟨hT, hF208, hw206p⟩ := hw206
          have hR := hR.then hF208 (by decide)
          have hP := hB.1; rw [ht] at hP; have hD := tp_ad f207 hD; clear hB hFc hz1 hk1; subst ht; generalize t.heap = H at hP hS ⊢
          obtain ⟨o209_x0, o209_x1, o209_x7, o209_x9, o209_x10, o209_x11, o209_x12, o209_x13, o209_x14, o209_x15, o209_x16, o209_x17, o209_x18, o209_x19, o209_x20, o209_x22, o209_x25, o209_x28, o209_x29, o209_x32, o209_x33, o209_x34, o209_x35, o209_x36, o209_x37, o209_x38, o209_x47, o209_x48, hf_o209, ro209_0, ro209_1, ro209_2, ro209_3, ro209_4, ro209_5, ro209_6, ro209_7, ro209_8, ro209_9, ro209_10, ro209_11, ro209_12, ro209_13⟩ := tpo_13 hT ht_h0
          have tf210 : tp_fld (f207 h0) 28 = o209_x28.toInt := tff_28 hf_o209
          have tf211 : tp_fld (f207 h0) 22 = o209_x22.toInt := tff_22 hf_o209
          obtain ⟨g213, hf_o212⟩ := tpo_53 hT y8
          have tf214 : mo_i (f207 (ρ h0 23)) = g213 := tfa_i hf_o212
          obtain ⟨g216, hf_o215⟩ := tpo_54 hT y9
          have tf217 : mo_i (f207 (ρ h0 24)) = g216 := tfa_i hf_o215
          have tf218 : tp_fld (f207 h0) 9 = o209_x9.toInt := tff_9 hf_o209
          have tf219 : tp_fld (f207 h0) 10 = o209_x10.toInt := tff_10 hf_o209
          have tf220 : tp_fld (f207 h0) 11 = o209_x11.toInt := tff_11 hf_o209
          have tf221 : tp_fld (f207 h0) 12 = o209_x12.toInt := tff_12 hf_o209
          have tf222 : mo_fj (f207 h0) 13 = o209_x13.toInt := tff_13 hf_o209
          have tf223 : tp_fld (f207 h0) 15 = o209_x15.toInt := tff_15 hf_o209
          have tf224 : tp_fld (f207 h0) 19 = o209_x19.toInt := tff_19 hf_o209
          have tf225 : tp_fld (f207 h0) 20 = o209_x20.toInt := tff_20 hf_o209
          have tk226 : o209_x28.toInt ≤ o175_x28.toInt ∧ o175_x22.toInt ≤ o209_x22.toInt ∧ o209_x22.toInt + o209_x28.toInt ≤ o175_x22.toInt + o175_x28.toInt ∧ (o175_x15.toInt = 0 → mo_PJ aa (mo_R g213) (mo_R g216) (mo_R g33) (mo_R g36) o209_x22.toInt o209_x28.toInt 1) ∧ (∀ i, o209_x28.toInt ≤ i → i < o175_x28.toInt → (mo_R g33) i < 30 ∧ (5 ≤ (1 : Int) → (mo_R g33) i < 14)) ∧ (o209_x28.toInt = 0 ∨ (((1 : Int) = 1 → 30 ≤ (mo_R g33) (o209_x28.toInt + -1)) ∧ ((1 : Int) = 5 → 14 ≤ (mo_R g33) (o209_x28.toInt + -1)))) ∧ (o175_x15.toInt = 0 → mo_FR aa (mo_R g27) (mo_R g30) (mo_R g213) (mo_R g216)) ∧ o209_x9.toInt = o175_x9.toInt ∧ o209_x10.toInt = o175_x10.toInt ∧ o209_x11.toInt = o175_x11.toInt ∧ o209_x12.toInt = o175_x12.toInt ∧ o209_x13.toInt = o175_x13.toInt ∧ o209_x15.toInt = o175_x15.toInt ∧ o209_x19.toInt = o175_x19.toInt ∧ o209_x20.toInt = o175_x20.toInt := by have q9 := hw206p; first | (simp only [tf210, tf185, tf184, tf211, tf181, tf214, tf217, tf198, tf200, tf202, tf204, tf218, tf178, tf219, tf176, tf220, tf177, tf221, tf179, tf222, tf180, tf223, tf224, tf182, tf225, tf183, mo_i1, mo_l1] at q9; exact q9) | (rw [tf210, tf185, tf184, tf211, tf181, tf214, tf217, tf198, tf200, tf202, tf204, tf218, tf178, tf219, tf176, tf220, tf177, tf221, tf179, tf222, tf180, tf223, tf224, tf182, tf225, tf183] at q9; exact q9)
          have htop := mo_top1 h3 h4.2.2.1 (by omega) (h4.2.2.2.1 (Or.inr rfl)) (by omega) (by omega) (fun i i0 i1 => (tk226.2.2.2.2.1 i i0 i1).1) (by have q9 := tk226.2.2.2.2.2.1; omega)
          refine lv_aload_n hx hb dX12_behindTest_108 rfl (lv_at hl 1 rfl) ?_
          refine lv_dup hx hb dX12_behindTest_109 rfl ?_
          obtain ⟨q227, eq227⟩ := tp_pos (tp_in hG ht_h0 (by decide)) hf_o209
          refine va_get (D := (dC, dI)) (ci := 12) (v := .int o209_x28) (C := RX12) (T := TX12) (N := 53) hx hb hts hfX12 hown hK hP q227 eq227 rfl 28 (by decide) (hts (.fieldLink RX12 300 "ColdShipsModel" "piled" "I") wa_1045) (fun _ h9 => h9) rfl dX12_behindTest_110 ?_
          refine lv_iconst (v := 1) hx hb dX12_behindTest_113 (by decide) ?_
          refine lv_isub hx hb dX12_behindTest_114 ?_
          refine lv_topi (fun z228 ez228 => ?_)
          have iz228 : z228.toInt = o209_x28.toInt - 1 := zi_sub ez228 rfl rfl (by omega) (by omega)
          refine va_put (D := (dC, dI)) (ci := 12) (v := .int z228) (ty := .int) (C := RX12) (T := TX12) (N := 53) hx hb hts hfX12 tyX12 tyX12_ok nmX12 hown hK hP hD hS q227 eq227 rfl 28 (by decide) (hts (.fieldLink RX12 300 "ColdShipsModel" "piled" "I") wa_1045) (fun _ h9 => h9) rfl (tyX12_ok 28 (by decide)) rfl rfl (Nat.le_of_ble_eq_true rfl) dX12_behindTest_115 (tp_k (.inr (12, [.int o209_x0, .int o209_x1, .ref (ρ h0 2), .ref (ρ h0 3), .ref (ρ h0 4), .ref (ρ h0 5), .ref (ρ h0 6), .int o209_x7, .ref (ρ h0 8), .int o209_x9, .int o209_x10, .int o209_x11, .int o209_x12, .long o209_x13, .int o209_x14, .int o209_x15, .int o209_x16, .int o209_x17, .int o209_x18, .int o209_x19, .int o209_x20, .ref (ρ h0 21), .int o209_x22, .ref (ρ h0 23), .ref (ρ h0 24), .int o209_x25, .ref (ρ h0 26), .ref (ρ h0 27), .int z228, .int o209_x29, .ref (ρ h0 30), .ref (ρ h0 31), .int o209_x32, .long o209_x33, .long o209_x34, .long o209_x35, .int o209_x36, .int o209_x37, .int o209_x38, .ref (ρ h0 39), .ref (ρ h0 40), .ref (ρ h0 41), .ref (ρ h0 42), .ref (ρ h0 43), .ref (ρ h0 44), .ref (ρ h0 45), .ref (ρ h0 46), .int o209_x47, .int o209_x48, .ref (ρ h0 49), .ref (ρ h0 50), .ref (ρ h0 51), .ref (ρ h0 52)])) hD (tp_in hG ht_h0 (by decide)) eq227 (fun f229 H locs hP hD hS g231 k230 => ?_))
          have hT := hT.up ht_h0 g231 k230 ⟨_, _, _, _, _, _, _, _, _, _, _, _, _, _, _, _, _, _, _, _, _, _, _, _, _, _, _, _, rfl, ro209_0, ro209_1, ro209_2, ro209_3, ro209_4, ro209_5, ro209_6, ro209_7, ro209_8, (by omega), ro209_10, ro209_11, ro209_12, ro209_13⟩
          have hR := hR.up ht_h0 (by decide) k230
          refine lv_aload_n hx hb dX12_behindTest_118 rfl (lv_at hl 1 rfl) ?_
          refine lv_dup hx hb dX12_behindTest_119 rfl ?_
          obtain ⟨q232, eq232⟩ := tp_pos (tp_in hG ht_h0 (by decide)) g231
          refine va_get (D := (dC, dI)) (ci := 12) (v := .int o209_x29) (C := RX12) (T := TX12) (N := 53) hx hb hts hfX12 hown hK hP q232 eq232 rfl 29 (by decide) (hts (.fieldLink RX12 335 "ColdShipsModel" "opened" "I") wa_1046) (fun _ h9 => h9) rfl dX12_behindTest_120 ?_
          refine lv_iconst (v := 1) hx hb dX12_behindTest_123 (by decide) ?_
          refine lv_isub hx hb dX12_behindTest_124 ?_
          refine lv_topi (fun z233 ez233 => ?_)
          refine va_put (D := (dC, dI)) (ci := 12) (v := .int z233) (ty := .int) (C := RX12) (T := TX12) (N := 53) hx hb hts hfX12 tyX12 tyX12_ok nmX12 hown hK hP hD hS q232 eq232 rfl 29 (by decide) (hts (.fieldLink RX12 335 "ColdShipsModel" "opened" "I") wa_1046) (fun _ h9 => h9) rfl (tyX12_ok 29 (by decide)) rfl rfl (Nat.le_of_ble_eq_true rfl) dX12_behindTest_125 (tp_k (.inr (12, [.int o209_x0, .int o209_x1, .ref (ρ h0 2), .ref (ρ h0 3), .ref (ρ h0 4), .ref (ρ h0 5), .ref (ρ h0 6), .int o209_x7, .ref (ρ h0 8), .int o209_x9, .int o209_x10, .int o209_x11, .int o209_x12, .long o209_x13, .int o209_x14, .int o209_x15, .int o209_x16, .int o209_x17, .int o209_x18, .int o209_x19, .int o209_x20, .ref (ρ h0 21), .int o209_x22, .ref (ρ h0 23), .ref (ρ h0 24), .int o209_x25, .ref (ρ h0 26), .ref (ρ h0 27), .int z228, .int z233, .ref (ρ h0 30), .ref (ρ h0 31), .int o209_x32, .long o209_x33, .long o209_x34, .long o209_x35, .int o209_x36, .int o209_x37, .int o209_x38, .ref (ρ h0 39), .ref (ρ h0 40), .ref (ρ h0 41), .ref (ρ h0 42), .ref (ρ h0 43), .ref (ρ h0 44), .ref (ρ h0 45), .ref (ρ h0 46), .int o209_x47, .int o209_x48, .ref (ρ h0 49), .ref (ρ h0 50), .ref (ρ h0 51), .ref (ρ h0 52)])) hD (tp_in hG ht_h0 (by decide)) eq232 (fun f234 H locs hP hD hS g236 k235 => ?_))
          have hT := hT.up ht_h0 g236 k235 ⟨_, _, _, _, _, _, _, _, _, _, _, _, _, _, _, _, _, _, _, _, _, _, _, _, _, _, _, _, rfl, ro209_0, ro209_1, ro209_2, ro209_3, ro209_4, ro209_5, ro209_6, ro209_7, ro209_8, (by omega), ro209_10, ro209_11, ro209_12, ro209_13⟩
          have hR := hR.up ht_h0 (by decide) k235
          refine lv_iconst (v := 2) hx hb dX12_behindTest_128 (by decide) ?_
          have tf237 : tp_fld (f234 h0) 10 = o209_x10.toInt := tff_10 g236
          have tf238 : tp_fld (f234 h0) 11 = o209_x11.toInt := tff_11 g236
          have tf239 : tp_fld (f234 h0) 9 = o209_x9.toInt := tff_9 g236
          have tf240 : tp_fld (f234 h0) 12 = o209_x12.toInt := tff_12 g236
          have tf241 : mo_fj (f234 h0) 13 = o209_x13.toInt := tff_13 g236
          have tf242 : tp_fld (f234 h0) 22 = o209_x22.toInt := tff_22 g236
          have tf243 : tp_fld (f234 h0) 28 = z228.toInt := tff_28 g236
          have hf_244 : f207 (ρ h0 26) = .inl (κ 0, 400, .inl g33) := (hF208 _ (by rw [y10]; decide)).trans hf_197
          have hf_245 : f229 (ρ h0 26) = .inl (κ 0, 400, .inl g33) := (k230 _ (tp_ne y10 ht_h0 (by decide))).trans hf_244
          have hf_246 : f234 (ρ h0 26) = .inl (κ 0, 400, .inl g33) := (k235 _ (tp_ne y10 ht_h0 (by decide))).trans hf_245
          have tf247 : mo_i (f234 (ρ h0 26)) = g33 := tfa_i hf_246
          have hf_248 : f207 (ρ h0 27) = .inl (κ 0, 400, .inl g36) := (hF208 _ (by rw [y11]; decide)).trans hf_199
          have hf_249 : f229 (ρ h0 27) = .inl (κ 0, 400, .inl g36) := (k230 _ (tp_ne y11 ht_h0 (by decide))).trans hf_248
          have hf_250 : f234 (ρ h0 27) = .inl (κ 0, 400, .inl g36) := (k235 _ (tp_ne y11 ht_h0 (by decide))).trans hf_249
          have tf251 : mo_i (f234 (ρ h0 27)) = g36 := tfa_i hf_250
          have tf252 : tp_fld (f234 h0) 15 = o209_x15.toInt := tff_15 g236
          have hf_253 : f229 (ρ h0 23) = .inl (κ 0, 400, .inl g213) := (k230 _ (tp_ne y8 ht_h0 (by decide))).trans hf_o212
          have hf_254 : f234 (ρ h0 23) = .inl (κ 0, 400, .inl g213) := (k235 _ (tp_ne y8 ht_h0 (by decide))).trans hf_253
          have tf255 : mo_i (f234 (ρ h0 23)) = g213 := tfa_i hf_254
          have hf_256 : f229 (ρ h0 24) = .inl (κ 0, 400, .inl g216) := (k230 _ (tp_ne y9 ht_h0 (by decide))).trans hf_o215
          have hf_257 : f234 (ρ h0 24) = .inl (κ 0, 400, .inl g216) := (k235 _ (tp_ne y9 ht_h0 (by decide))).trans hf_256
          have tf258 : mo_i (f234 (ρ h0 24)) = g216 := tfa_i hf_257
          have tf259 : tp_fld (f234 h0) 19 = o209_x19.toInt := tff_19 g236
          have tf260 : tp_fld (f234 h0) 20 = o209_x20.toInt := tff_20 g236
          exact W.iret (v := 2) hx hb hr (fun t ht hW => ⟨⟨2, f234, rfl, ⟨hT, hR, (by first | decide | omega), (by first | (simp only [tf237, tf238, tf239, tf240, tf241, tf242, tf243, tf247, tf251, tf252, tf255, tf258, tf28, tf31, tf40, tf46, tf39, tf259, tf44, tf260, tf45, mo_i1, mo_l1]; exact (show (o209_x10.toInt ≤ o209_x11.toInt ∧ o209_x11.toInt ≤ o209_x9.toInt ∧ (o209_x12.toInt = 0 ∨ o209_x10.toInt < o209_x11.toInt) ∧ (o209_x12.toInt = 1 → o209_x11.toInt = o209_x10.toInt + 1 → o209_x13.toInt ≤ 26)) ∧ o209_x22.toInt + z228.toInt ≤ o209_x10.toInt ∧ mo_PV (mo_R g33) (mo_R g36) z228.toInt ∧ (o209_x15.toInt = 0 → mo_EX aa (2 : Int32).toInt (mo_R g213) (mo_R g216) (mo_R g33) (mo_R g36) o209_x22.toInt z228.toInt ∧ mo_FR aa (mo_R g27) (mo_R g30) (mo_R g213) (mo_R g216) ∧ ((2 : Int32).toInt = 4 ∨ o38_x10.toInt < o209_x10.toInt ∨ (o209_x10.toInt = o38_x10.toInt ∧ (2 : Int32).toInt = 2))) ∧ o38_x22.toInt ≤ o209_x22.toInt ∧ o209_x9.toInt = o38_x9.toInt ∧ o209_x19.toInt = o38_x19.toInt ∧ o209_x20.toInt = o38_x20.toInt from ⟨by omega, by omega, (h3.lt (by omega)), fun q9 => ⟨(mo_EX.of1 h4.1 ((tk226.2.2.2.1 (by omega)).popb (n' := _) (by omega) (by omega) htop.2.1) (h4.2.2.1.lt (by omega)) (by decide) (fun _ => htop.2.2) (fun q7 => absurd q7 (by decide))), (tk226.2.2.2.2.2.2.1 (by omega)), by have q8 : (2 : Int32).toInt = 2 := rfl; omega⟩, by omega, by omega, by omega, by omega⟩)) | (rw [tf237, tf238, tf239, tf240, tf241, tf242, tf243, tf247, tf251, tf252, tf255, tf258, tf28, tf31, tf40, tf46, tf39, tf259, tf44, tf260, tf45]; exact (show (o209_x10.toInt ≤ o209_x11.toInt ∧ o209_x11.toInt ≤ o209_x9.toInt ∧ (o209_x12.toInt = 0 ∨ o209_x10.toInt < o209_x11.toInt) ∧ (o209_x12.toInt = 1 → o209_x11.toInt = o209_x10.toInt + 1 → o209_x13.toInt ≤ 26)) ∧ o209_x22.toInt + z228.toInt ≤ o209_x10.toInt ∧ mo_PV (mo_R g33) (mo_R g36) z228.toInt ∧ (o209_x15.toInt = 0 → mo_EX aa (2 : Int32).toInt (mo_R g213) (mo_R g216) (mo_R g33) (mo_R g36) o209_x22.toInt z228.toInt ∧ mo_FR aa (mo_R g27) (mo_R g30) (mo_R g213) (mo_R g216) ∧ ((2 : Int32).toInt = 4 ∨ o38_x10.toInt < o209_x10.toInt ∨ (o209_x10.toInt = o38_x10.toInt ∧ (2 : Int32).toInt = 2))) ∧ o38_x22.toInt ≤ o209_x22.toInt ∧ o209_x9.toInt = o38_x9.toInt ∧ o209_x19.toInt = o38_x19.toInt ∧ o209_x20.toInt = o38_x20.toInt from ⟨by omega, by omega, (h3.lt (by omega)), fun q9 => ⟨(mo_EX.of1 h4.1 ((tk226.2.2.2.1 (by omega)).popb (n' := _) (by omega) (by omega) htop.2.1) (h4.2.2.1.lt (by omega)) (by decide) (fun _ => htop.2.2) (fun q7 => absurd q7 (by decide))), (tk226.2.2.2.2.2.2.1 (by omega)), by have q8 : (2 : Int32).toInt = 2 := rfl; omega⟩, by omega, by omega, by omega, by omega⟩)))⟩, by rw [ht]; exact hP, va_K.moved hW.alike hK, hD⟩, hS.F ht⟩) hS.2.2 dX12_behindTest_129
      · have ic167 : r164.toInt = (-1) := zi_nef rfl rfl c167
        refine lv_iconst (v := 4) hx hb dX12_behindTest_84 (by decide) ?_
        exact W.iret (v := 4) hx hb hr (fun t ht hW => ⟨⟨4, f, rfl, ⟨hT, hR, (by first | decide | omega), (by first | (simp only [tf40, tf41, tf39, tf42, tf48, tf46, tf47, tf34, tf37, tf43, tf28, tf31, tf44, tf45, mo_i1, mo_l1]; exact (show (o38_x10.toInt ≤ o38_x11.toInt ∧ o38_x11.toInt ≤ o38_x9.toInt ∧ (o38_x12.toInt = 0 ∨ o38_x10.toInt < o38_x11.toInt) ∧ (o38_x12.toInt = 1 → o38_x11.toInt = o38_x10.toInt + 1 → o38_x13.toInt ≤ 26)) ∧ o38_x22.toInt + o38_x28.toInt ≤ o38_x10.toInt ∧ mo_PV (mo_R g33) (mo_R g36) o38_x28.toInt ∧ (o38_x15.toInt = 0 → mo_EX aa (4 : Int32).toInt (mo_R g27) (mo_R g30) (mo_R g33) (mo_R g36) o38_x22.toInt o38_x28.toInt ∧ mo_FR aa (mo_R g27) (mo_R g30) (mo_R g27) (mo_R g30) ∧ ((4 : Int32).toInt = 4 ∨ o38_x10.toInt < o38_x10.toInt ∨ (o38_x10.toInt = o38_x10.toInt ∧ (4 : Int32).toInt = 2))) ∧ o38_x22.toInt ≤ o38_x22.toInt ∧ o38_x9.toInt = o38_x9.toInt ∧ o38_x19.toInt = o38_x19.toInt ∧ o38_x20.toInt = o38_x20.toInt from ⟨by omega, by omega, h3, fun q9 => ⟨(mo_EX.of1 h4.1 (h4.pj1 (by decide)) h4.2.2.1 (by decide) (fun q7 => absurd q7 (by decide)) (fun _ => by omega)), mo_FR.rf _ _ _, by have q8 : (4 : Int32).toInt = 4 := rfl; omega⟩, by omega, by omega, by omega, by omega⟩)) | (rw [tf40, tf41, tf39, tf42, tf48, tf46, tf47, tf34, tf37, tf43, tf28, tf31, tf44, tf45]; exact (show (o38_x10.toInt ≤ o38_x11.toInt ∧ o38_x11.toInt ≤ o38_x9.toInt ∧ (o38_x12.toInt = 0 ∨ o38_x10.toInt < o38_x11.toInt) ∧ (o38_x12.toInt = 1 → o38_x11.toInt = o38_x10.toInt + 1 → o38_x13.toInt ≤ 26)) ∧ o38_x22.toInt + o38_x28.toInt ≤ o38_x10.toInt ∧ mo_PV (mo_R g33) (mo_R g36) o38_x28.toInt ∧ (o38_x15.toInt = 0 → mo_EX aa (4 : Int32).toInt (mo_R g27) (mo_R g30) (mo_R g33) (mo_R g36) o38_x22.toInt o38_x28.toInt ∧ mo_FR aa (mo_R g27) (mo_R g30) (mo_R g27) (mo_R g30) ∧ ((4 : Int32).toInt = 4 ∨ o38_x10.toInt < o38_x10.toInt ∨ (o38_x10.toInt = o38_x10.toInt ∧ (4 : Int32).toInt = 2))) ∧ o38_x22.toInt ≤ o38_x22.toInt ∧ o38_x9.toInt = o38_x9.toInt ∧ o38_x19.toInt = o38_x19.toInt ∧ o38_x20.toInt = o38_x20.toInt from ⟨by omega, by omega, h3, fun q9 => ⟨(mo_EX.of1 h4.1 (h4.pj1 (by decide)) h4.2.2.1 (by decide) (fun q7 => absurd q7 (by decide)) (fun _ => by omega)), mo_FR.rf _ _ _, by have q8 : (4 : Int32).toInt = 4 := rfl; omega⟩, by omega, by omega, by omega, by omega⟩)))⟩, by rw [ht]; exact hP, va_K.moved hW.alike hK, hD⟩, hS.F ht⟩) hS.2.2 dX12_behindTest_85
    · have ic163 : r160.toInt ≠ 0 := zi_eqf rfl rfl c163
      refine lv_aload_n hx hb dX12_behindTest_22 rfl (lv_at hl 1 rfl) ?_
      refine lv_iload_n hx hb dX12_behindTest_23 rfl (lv_at hl 0 rfl) ?_
      refine lv_if_eq (tgt := 31) hx hb dX12_behindTest_24 (by decide) (fun c261 => ?_) (fun c261 => ?_)
      · have ic261 : r50.toInt = 0 := zi_eq rfl rfl c261
        refine lv_iconst (v := 1) hx hb dX12_behindTest_31 (by decide) ?_
        have hFc := tp_fr hD hS hA
        refine va_callv (va_runV (As := [.int 1]) (rest := []) ⟨hx, hb, hml, hown, hts⟩ (t_X12_settleDown l dC dI _ κ τ ν ρ L f hG hT h0 (1) aa ht_h0 (by first | decide | omega) (by first | (simp only [tf46, tf47, mo_i1, mo_l1]; exact (show o38_x22.toInt + o38_x28.toInt ≤ 400 from by omega)) | (rw [tf46, tf47]; exact (show o38_x22.toInt + o38_x28.toInt ≤ 400 from by omega))) (by first | (simp only [tf34, tf37, tf47, mo_i1, mo_l1]; exact (show mo_PV (mo_R g33) (mo_R g36) o38_x28.toInt from h3)) | (rw [tf34, tf37, tf47]; exact (show mo_PV (mo_R g33) (mo_R g36) o38_x28.toInt from h3))) (by first | (simp only [tf43, tf28, tf31, tf34, tf37, tf46, tf47, mo_i1, mo_l1]; exact (show (o38_x15.toInt = 0 → 0 ≤ aa ∧ mo_PJ aa (mo_R g27) (mo_R g30) (mo_R g33) (mo_R g36) o38_x22.toInt o38_x28.toInt 1) from fun _ => ⟨h4.1, h4.pj1 (by decide)⟩)) | (rw [tf43, tf28, tf31, tf34, tf37, tf46, tf47]; exact (show (o38_x15.toInt = 0 → 0 ≤ aa ∧ mo_PJ aa (mo_R g27) (mo_R g30) (mo_R g33) (mo_R g36) o38_x22.toInt o38_x28.toInt 1) from fun _ => ⟨h4.1, h4.pj1 (by decide)⟩)))) (cwV 1 hts gX12_behindTest_X12_settleDown rfl rfl rfl ⟨rfl, pd_X12_settleDown⟩ ⟨Nat.le_of_ble_eq_true rfl, Nat.le_of_ble_eq_true rfl⟩) ⟨pz_blind, va_recv hK hP (ci := 12) (q0 := q49) rfl eq49, pz_pre hP hK hD hN⟩ rfl rfl hl.1 rfl (lv_room (Nat.le_of_ble_eq_true rfl)) dX12_behindTest_32 ⟨Nat.le_of_ble_eq_true rfl, Nat.le_of_ble_eq_true rfl⟩) hS (fun q _ h => hFc q h) hFc (fun f264 t H1 locs ht hvm hw263 hB hz1 hk1 hS => ?_)
        obtain ⟨hT, hF265, hw263p⟩ := hw263
        have hR := hR.then hF265 (by decide)
        have hP := hB.1; rw [ht] at hP; have hD := tp_ad f264 hD; clear hB hFc hz1 hk1; subst ht; generalize t.heap = H at hP hS ⊢
        obtain ⟨o266_x0, o266_x1, o266_x7, o266_x9, o266_x10, o266_x11, o266_x12, o266_x13, o266_x14, o266_x15, o266_x16, o266_x17, o266_x18, o266_x19, o266_x20, o266_x22, o266_x25, o266_x28, o266_x29, o266_x32, o266_x33, o266_x34, o266_x35, o266_x36, o266_x37, o266_x38, o266_x47, o266_x48, hf_o266, ro266_0, ro266_1, ro266_2, ro266_3, ro266_4, ro266_5, ro266_6, ro266_7, ro266_8, ro266_9, ro266_10, ro266_11, ro266_12, ro266_13⟩ := tpo_13 hT ht_h0
        have tf267 : tp_fld (f264 h0) 28 = o266_x28.toInt := tff_28 hf_o266
        have tf268 : tp_fld (f264 h0) 22 = o266_x22.toInt := tff_22 hf_o266
        obtain ⟨g270, hf_o269⟩ := tpo_53 hT y8
        have tf271 : mo_i (f264 (ρ h0 23)) = g270 := tfa_i hf_o269
        obtain ⟨g273, hf_o272⟩ := tpo_54 hT y9
        have tf274 : mo_i (f264 (ρ h0 24)) = g273 := tfa_i hf_o272
        have tf275 : tp_fld (f264 h0) 9 = o266_x9.toInt := tff_9 hf_o266
        have tf276 : tp_fld (f264 h0) 10 = o266_x10.toInt := tff_10 hf_o266
        have tf277 : tp_fld (f264 h0) 11 = o266_x11.toInt := tff_11 hf_o266
        have tf278 : tp_fld (f264 h0) 12 = o266_x12.toInt := tff_12 hf_o266
        have tf279 : mo_fj (f264 h0) 13 = o266_x13.toInt := tff_13 hf_o266
        have tf280 : tp_fld (f264 h0) 15 = o266_x15.toInt := tff_15 hf_o266
        have tf281 : tp_fld (f264 h0) 19 = o266_x19.toInt := tff_19 hf_o266
        have tf282 : tp_fld (f264 h0) 20 = o266_x20.toInt := tff_20 hf_o266
        have tk283 : o266_x28.toInt ≤ o38_x28.toInt ∧ o38_x22.toInt ≤ o266_x22.toInt ∧ o266_x22.toInt + o266_x28.toInt ≤ o38_x22.toInt + o38_x28.toInt ∧ (o38_x15.toInt = 0 → mo_PJ aa (mo_R g270) (mo_R g273) (mo_R g33) (mo_R g36) o266_x22.toInt o266_x28.toInt 1) ∧ (∀ i, o266_x28.toInt ≤ i → i < o38_x28.toInt → (mo_R g33) i < 30 ∧ (5 ≤ (1 : Int) → (mo_R g33) i < 14)) ∧ (o266_x28.toInt = 0 ∨ (((1 : Int) = 1 → 30 ≤ (mo_R g33) (o266_x28.toInt + -1)) ∧ ((1 : Int) = 5 → 14 ≤ (mo_R g33) (o266_x28.toInt + -1)))) ∧ (o38_x15.toInt = 0 → mo_FR aa (mo_R g27) (mo_R g30) (mo_R g270) (mo_R g273)) ∧ o266_x9.toInt = o38_x9.toInt ∧ o266_x10.toInt = o38_x10.toInt ∧ o266_x11.toInt = o38_x11.toInt ∧ o266_x12.toInt = o38_x12.toInt ∧ o266_x13.toInt = o38_x13.toInt ∧ o266_x15.toInt = o38_x15.toInt ∧ o266_x19.toInt = o38_x19.toInt ∧ o266_x20.toInt = o38_x20.toInt := by have q9 := hw263p; first | (simp only [tf267, tf47, tf46, tf268, tf43, tf271, tf274, tf34, tf37, tf28, tf31, tf275, tf39, tf276, tf40, tf277, tf41, tf278, tf42, tf279, tf48, tf280, tf281, tf44, tf282, tf45, mo_i1, mo_l1] at q9; exact q9) | (rw [tf267, tf47, tf46, tf268, tf43, tf271, tf274, tf34, tf37, tf28, tf31, tf275, tf39, tf276, tf40, tf277, tf41, tf278, tf42, tf279, tf48, tf280, tf281, tf44, tf282, tf45] at q9; exact q9)
        have hin8 : mo_in (mo_R g33) (o38_x28.toInt).toNat = mo_in (mo_R g33) (o266_x28.toInt).toNat := mo_in_drop' (by omega) (by omega) (fun i i0 i1 => (tk283.2.2.2.2.1 i i0 i1).1)
        have hin9 : mo_in (mo_R g33) (o266_x28.toInt).toNat ≠ 31 := by have q9 := h4.2.2.2.1 (Or.inr rfl); omega
        refine lv_aload_n hx hb dX12_behindTest_35 rfl (lv_at hl 1 rfl) ?_
        refine lv_iload_n hx hb dX12_behindTest_36 rfl (lv_at hl 0 rfl) ?_
        refine lv_if_eq (tgt := 45) hx hb dX12_behindTest_37 (by decide) (fun c284 => ?_) (fun c284 => ?_)
        · have ic284 : r50.toInt = 0 := zi_eq rfl rfl c284
          refine lv_bipush (v := 19) hx hb dX12_behindTest_45 (by decide) ?_
          refine lv_aload_n hx hb dX12_behindTest_47 rfl (lv_at hl 1 rfl) ?_
          obtain ⟨q285, eq285⟩ := tp_pos (tp_in hG ht_h0 (by decide)) hf_o266
          refine va_get (D := (dC, dI)) (ci := 12) (v := .int o266_x22) (C := RX12) (T := TX12) (N := 53) hx hb hts hfX12 hown hK hP q285 eq285 rfl 22 (by decide) (hts (.fieldLink RX12 297 "ColdShipsModel" "nCode" "I") wa_989) (fun _ h9 => h9) rfl dX12_behindTest_48 ?_
          have hf_286 : f264 (ρ h0 26) = .inl (κ 0, 400, .inl g33) := (hF265 _ (by rw [y10]; decide)).trans hf_o32
          have tf287 : mo_i (f264 (ρ h0 26)) = g33 := tfa_i hf_286
          have hf_288 : f264 (ρ h0 27) = .inl (κ 0, 400, .inl g36) := (hF265 _ (by rw [y11]; decide)).trans hf_o35
          have tf289 : mo_i (f264 (ρ h0 27)) = g36 := tfa_i hf_288
          have hFc := tp_fr hD hS hA
          refine va_callv (va_runV (As := [.int 19, .int o266_x22]) (rest := []) ⟨hx, hb, hml, hown, hts⟩ (t_X12_push l dC dI _ κ τ ν ρ L f264 hG hT h0 (19) o266_x22 ht_h0 (by first | (simp only [tf267, mo_i1, mo_l1]; exact (show o266_x28.toInt < 400 from by have : (19 : Int32).toInt = 19 := rfl; first | omega | decide)) | (rw [tf267]; exact (show o266_x28.toInt < 400 from by have : (19 : Int32).toInt = 19 := rfl; first | omega | decide)))) (cwV 2 hts gX12_behindTest_X12_push rfl rfl rfl ⟨rfl, pd_X12_push⟩ ⟨Nat.le_of_ble_eq_true rfl, Nat.le_of_ble_eq_true rfl⟩) ⟨pz_blind, va_recv hK hP (ci := 12) (q0 := q285) rfl eq285, pz_pre hP hK hD hN⟩ rfl rfl hl.1 rfl (lv_room (Nat.le_of_ble_eq_true rfl)) dX12_behindTest_51 ⟨Nat.le_of_ble_eq_true rfl, Nat.le_of_ble_eq_true rfl⟩) hS (fun q _ h => hFc q h) hFc (fun f292 t H1 locs ht hvm hw291 hB hz1 hk1 hS => ?_)
          obtain ⟨hT, hF293, hw291p⟩ := hw291
          have hR := hR.then hF293 (by decide)
          have hP := hB.1; rw [ht] at hP; have hD := tp_ad f292 hD; clear hB hFc hz1 hk1; subst ht; generalize t.heap = H at hP hS ⊢
          obtain ⟨g295, hf_o294⟩ := tpo_56 hT y10
          have tf296 : mo_i (f292 (ρ h0 26)) = g295 := tfa_i hf_o294
          obtain ⟨g298, hf_o297⟩ := tpo_57 hT y11
          have tf299 : mo_i (f292 (ρ h0 27)) = g298 := tfa_i hf_o297
          obtain ⟨o300_x0, o300_x1, o300_x7, o300_x9, o300_x10, o300_x11, o300_x12, o300_x13, o300_x14, o300_x15, o300_x16, o300_x17, o300_x18, o300_x19, o300_x20, o300_x22, o300_x25, o300_x28, o300_x29, o300_x32, o300_x33, o300_x34, o300_x35, o300_x36, o300_x37, o300_x38, o300_x47, o300_x48, hf_o300, ro300_0, ro300_1, ro300_2, ro300_3, ro300_4, ro300_5, ro300_6, ro300_7, ro300_8, ro300_9, ro300_10, ro300_11, ro300_12, ro300_13⟩ := tpo_13 hT ht_h0
          have tf301 : tp_fld (f292 h0) 28 = o300_x28.toInt := tff_28 hf_o300
          have tf302 : tp_fld (f292 h0) 9 = o300_x9.toInt := tff_9 hf_o300
          have tf303 : tp_fld (f292 h0) 10 = o300_x10.toInt := tff_10 hf_o300
          have tf304 : tp_fld (f292 h0) 11 = o300_x11.toInt := tff_11 hf_o300
          have tf305 : tp_fld (f292 h0) 12 = o300_x12.toInt := tff_12 hf_o300
          have tf306 : mo_fj (f292 h0) 13 = o300_x13.toInt := tff_13 hf_o300
          have tf307 : tp_fld (f292 h0) 15 = o300_x15.toInt := tff_15 hf_o300
          have tf308 : tp_fld (f292 h0) 19 = o300_x19.toInt := tff_19 hf_o300
          have tf309 : tp_fld (f292 h0) 20 = o300_x20.toInt := tff_20 hf_o300
          have tf310 : tp_fld (f292 h0) 22 = o300_x22.toInt := tff_22 hf_o300
          have tk311 : mo_U (mo_R g33) (mo_R g295) o266_x28.toInt (19 : Int) ∧ mo_U (mo_R g36) (mo_R g298) o266_x28.toInt o266_x22.toInt ∧ o300_x28.toInt = o266_x28.toInt + 1 ∧ o300_x9.toInt = o266_x9.toInt ∧ o300_x10.toInt = o266_x10.toInt ∧ o300_x11.toInt = o266_x11.toInt ∧ o300_x12.toInt = o266_x12.toInt ∧ o300_x13.toInt = o266_x13.toInt ∧ o300_x15.toInt = o266_x15.toInt ∧ o300_x19.toInt = o266_x19.toInt ∧ o300_x20.toInt = o266_x20.toInt ∧ o300_x22.toInt = o266_x22.toInt := by have q9 := hw291p; first | (simp only [tf287, tf296, tf267, tf289, tf299, tf301, tf302, tf275, tf303, tf276, tf304, tf277, tf305, tf278, tf306, tf279, tf307, tf280, tf308, tf281, tf309, tf282, tf310, tf268, mo_i1, mo_l1] at q9; exact q9) | (rw [tf287, tf296, tf267, tf289, tf299, tf301, tf302, tf275, tf303, tf276, tf304, tf277, tf305, tf278, tf306, tf279, tf307, tf280, tf308, tf281, tf309, tf282, tf310, tf268] at q9; exact q9)
          refine lv_aload_n hx hb dX12_behindTest_54 rfl (lv_at hl 1 rfl) ?_
          refine lv_iload_n hx hb dX12_behindTest_55 rfl (lv_at hl 0 rfl) ?_
          refine lv_if_eq (tgt := 64) hx hb dX12_behindTest_56 (by decide) (fun c312 => ?_) (fun c312 => ?_)
          · have ic312 : r50.toInt = 0 := zi_eq rfl rfl c312
            refine lv_bipush (v := 19) hx hb dX12_behindTest_64 (by decide) ?_
            refine lv_iconst (v := 0) hx hb dX12_behindTest_66 (by decide) ?_
            have hf_313 : f292 (ρ h0 23) = .inl (κ 0, 400, .inl g270) := (hF293 _ (by rw [y8]; decide)).trans hf_o269
            have tf314 : mo_i (f292 (ρ h0 23)) = g270 := tfa_i hf_313
            have hf_315 : f292 (ρ h0 24) = .inl (κ 0, 400, .inl g273) := (hF293 _ (by rw [y9]; decide)).trans hf_o272
            have tf316 : mo_i (f292 (ρ h0 24)) = g273 := tfa_i hf_315
            obtain ⟨q317, eq317⟩ := tp_pos (tp_in hG ht_h0 (by decide)) hf_o300
            have hFc := tp_fr hD hS hA
            refine va_callv (va_runV (As := [.int 19, .int 0]) (rest := []) ⟨hx, hb, hml, hown, hts⟩ (t_X12_emit l dC dI _ κ τ ν ρ L f292 hG hT h0 (19) (0) ht_h0 (by first | (simp only [tf310, mo_i1, mo_l1]; exact (show o300_x22.toInt < 400 from by have : (19 : Int32).toInt = 19 := rfl; have : (0 : Int32).toInt = 0 := rfl; first | omega | decide)) | (rw [tf310]; exact (show o300_x22.toInt < 400 from by have : (19 : Int32).toInt = 19 := rfl; have : (0 : Int32).toInt = 0 := rfl; first | omega | decide)))) (cwV 2 hts gX12_behindTest_X12_emit rfl rfl rfl ⟨rfl, pd_X12_emit⟩ ⟨Nat.le_of_ble_eq_true rfl, Nat.le_of_ble_eq_true rfl⟩) ⟨pz_blind, va_recv hK hP (ci := 12) (q0 := q317) rfl eq317, pz_pre hP hK hD hN⟩ rfl rfl hl.1 rfl (lv_room (Nat.le_of_ble_eq_true rfl)) dX12_behindTest_67 ⟨Nat.le_of_ble_eq_true rfl, Nat.le_of_ble_eq_true rfl⟩) hS (fun q _ h => hFc q h) hFc (fun f320 t H1 locs ht hvm hw319 hB hz1 hk1 hS => ?_)
            obtain ⟨hT, hF321, hw319p⟩ := hw319
            have hR := hR.then hF321 (by decide)
            have hP := hB.1; rw [ht] at hP; have hD := tp_ad f320 hD; clear hB hFc hz1 hk1; subst ht; generalize t.heap = H at hP hS ⊢
            obtain ⟨g323, hf_o322⟩ := tpo_53 hT y8
            have tf324 : mo_i (f320 (ρ h0 23)) = g323 := tfa_i hf_o322
            obtain ⟨g326, hf_o325⟩ := tpo_54 hT y9
            have tf327 : mo_i (f320 (ρ h0 24)) = g326 := tfa_i hf_o325
            obtain ⟨o328_x0, o328_x1, o328_x7, o328_x9, o328_x10, o328_x11, o328_x12, o328_x13, o328_x14, o328_x15, o328_x16, o328_x17, o328_x18, o328_x19, o328_x20, o328_x22, o328_x25, o328_x28, o328_x29, o328_x32, o328_x33, o328_x34, o328_x35, o328_x36, o328_x37, o328_x38, o328_x47, o328_x48, hf_o328, ro328_0, ro328_1, ro328_2, ro328_3, ro328_4, ro328_5, ro328_6, ro328_7, ro328_8, ro328_9, ro328_10, ro328_11, ro328_12, ro328_13⟩ := tpo_13 hT ht_h0
            have tf329 : tp_fld (f320 h0) 22 = o328_x22.toInt := tff_22 hf_o328
            have tf330 : tp_fld (f320 h0) 9 = o328_x9.toInt := tff_9 hf_o328
            have tf331 : tp_fld (f320 h0) 10 = o328_x10.toInt := tff_10 hf_o328
            have tf332 : tp_fld (f320 h0) 11 = o328_x11.toInt := tff_11 hf_o328
            have tf333 : tp_fld (f320 h0) 12 = o328_x12.toInt := tff_12 hf_o328
            have tf334 : mo_fj (f320 h0) 13 = o328_x13.toInt := tff_13 hf_o328
            have tf335 : tp_fld (f320 h0) 15 = o328_x15.toInt := tff_15 hf_o328
            have tf336 : tp_fld (f320 h0) 19 = o328_x19.toInt := tff_19 hf_o328
            have tf337 : tp_fld (f320 h0) 20 = o328_x20.toInt := tff_20 hf_o328
            have tf338 : tp_fld (f320 h0) 28 = o328_x28.toInt := tff_28 hf_o328
            have tk339 : mo_U (mo_R g270) (mo_R g323) o300_x22.toInt (19 : Int) ∧ mo_U (mo_R g273) (mo_R g326) o300_x22.toInt (0 : Int) ∧ o328_x22.toInt = o300_x22.toInt + 1 ∧ o328_x9.toInt = o300_x9.toInt ∧ o328_x10.toInt = o300_x10.toInt ∧ o328_x11.toInt = o300_x11.toInt ∧ o328_x12.toInt = o300_x12.toInt ∧ o328_x13.toInt = o300_x13.toInt ∧ o328_x15.toInt = o300_x15.toInt ∧ o328_x19.toInt = o300_x19.toInt ∧ o328_x20.toInt = o300_x20.toInt ∧ o328_x28.toInt = o300_x28.toInt := by have q9 := hw319p; first | (simp only [tf314, tf324, tf310, tf316, tf327, tf329, tf330, tf302, tf331, tf303, tf332, tf304, tf333, tf305, tf334, tf306, tf335, tf307, tf336, tf308, tf337, tf309, tf338, tf301, mo_i1, mo_l1] at q9; exact q9) | (rw [tf314, tf324, tf310, tf316, tf327, tf329, tf330, tf302, tf331, tf303, tf332, tf304, tf333, tf305, tf334, tf306, tf335, tf307, tf336, tf308, tf337, tf309, tf338, tf301] at q9; exact q9)
            refine lv_aload_n hx hb dX12_behindTest_70 rfl (lv_at hl 1 rfl) ?_
            obtain ⟨q340, eq340⟩ := tp_pos (tp_in hG ht_h0 (by decide)) hf_o328
            have hFc := tp_fr hD hS hA
            refine va_callv (va_runV (As := []) (rest := []) ⟨hx, hb, hml, hown, hts⟩ (t_X12_next l dC dI _ κ τ ν ρ L f320 hG hT h0 ht_h0 (by first | (simp only [tf332, tf330, mo_i1, mo_l1]; exact (show o328_x11.toInt ≤ o328_x9.toInt from by first | omega | decide)) | (rw [tf332, tf330]; exact (show o328_x11.toInt ≤ o328_x9.toInt from by first | omega | decide)))) (cwV 0 hts gX12_behindTest_X12_next rfl rfl rfl ⟨rfl, pd_X12_next⟩ ⟨Nat.le_of_ble_eq_true rfl, Nat.le_of_ble_eq_true rfl⟩) ⟨pz_blind, va_recv hK hP (ci := 12) (q0 := q340) rfl eq340, pz_pre hP hK hD hN⟩ rfl rfl hl.1 rfl (lv_room (Nat.le_of_ble_eq_true rfl)) dX12_behindTest_71 ⟨Nat.le_of_ble_eq_true rfl, Nat.le_of_ble_eq_true rfl⟩) hS (fun q _ h => hFc q h) hFc (fun f343 t H1 locs ht hvm hw342 hB hz1 hk1 hS => ?_)
            obtain ⟨hT, hF344, hw342p⟩ := hw342
            have hR := hR.then hF344 (by decide)
            have hP := hB.1; rw [ht] at hP; have hD := tp_ad f343 hD; clear hB hFc hz1 hk1; subst ht; generalize t.heap = H at hP hS ⊢
            obtain ⟨o345_x0, o345_x1, o345_x7, o345_x9, o345_x10, o345_x11, o345_x12, o345_x13, o345_x14, o345_x15, o345_x16, o345_x17, o345_x18, o345_x19, o345_x20, o345_x22, o345_x25, o345_x28, o345_x29, o345_x32, o345_x33, o345_x34, o345_x35, o345_x36, o345_x37, o345_x38, o345_x47, o345_x48, hf_o345, ro345_0, ro345_1, ro345_2, ro345_3, ro345_4, ro345_5, ro345_6, ro345_7, ro345_8, ro345_9, ro345_10, ro345_11, ro345_12, ro345_13⟩ := tpo_13 hT ht_h0
            have tf346 : tp_fld (f343 h0) 10 = o345_x10.toInt := tff_10 hf_o345
            have tf347 : tp_fld (f343 h0) 11 = o345_x11.toInt := tff_11 hf_o345
            have tf348 : tp_fld (f343 h0) 9 = o345_x9.toInt := tff_9 hf_o345
            have tf349 : tp_fld (f343 h0) 12 = o345_x12.toInt := tff_12 hf_o345
            have tf350 : mo_fj (f343 h0) 13 = o345_x13.toInt := tff_13 hf_o345
            have tf351 : tp_fld (f343 h0) 15 = o345_x15.toInt := tff_15 hf_o345
            have tf352 : tp_fld (f343 h0) 19 = o345_x19.toInt := tff_19 hf_o345
            have tf353 : tp_fld (f343 h0) 20 = o345_x20.toInt := tff_20 hf_o345
            have tf354 : tp_fld (f343 h0) 22 = o345_x22.toInt := tff_22 hf_o345
            have tf355 : tp_fld (f343 h0) 28 = o345_x28.toInt := tff_28 hf_o345
            have tk356 : (o345_x10.toInt ≤ o345_x11.toInt ∧ o345_x11.toInt ≤ o345_x9.toInt ∧ (o345_x12.toInt = 0 ∨ o345_x10.toInt < o345_x11.toInt) ∧ (o345_x12.toInt = 1 → o345_x11.toInt = o345_x10.toInt + 1 → o345_x13.toInt ≤ 26)) ∧ o328_x11.toInt ≤ o345_x10.toInt ∧ o345_x9.toInt = o328_x9.toInt ∧ o345_x15.toInt = o328_x15.toInt ∧ o345_x19.toInt = o328_x19.toInt ∧ o345_x20.toInt = o328_x20.toInt ∧ o345_x22.toInt = o328_x22.toInt ∧ o345_x28.toInt = o328_x28.toInt := by have q9 := hw342p; first | (simp only [tf346, tf347, tf348, tf349, tf350, tf332, tf330, tf351, tf335, tf352, tf336, tf353, tf337, tf354, tf329, tf355, tf338, mo_i1, mo_l1] at q9; exact q9) | (rw [tf346, tf347, tf348, tf349, tf350, tf332, tf330, tf351, tf335, tf352, tf336, tf353, tf337, tf354, tf329, tf355, tf338] at q9; exact q9)
            refine lv_iconst (v := 0) hx hb dX12_behindTest_74 (by decide) ?_
            have hf_357 : f320 (ρ h0 26) = .inl (κ 0, 400, .inl g295) := (hF321 _ (by rw [y10]; decide)).trans hf_o294
            have hf_358 : f343 (ρ h0 26) = .inl (κ 0, 400, .inl g295) := (hF344 _ (by rw [y10]; decide)).trans hf_357
            have tf359 : mo_i (f343 (ρ h0 26)) = g295 := tfa_i hf_358
            have hf_360 : f320 (ρ h0 27) = .inl (κ 0, 400, .inl g298) := (hF321 _ (by rw [y11]; decide)).trans hf_o297
            have hf_361 : f343 (ρ h0 27) = .inl (κ 0, 400, .inl g298) := (hF344 _ (by rw [y11]; decide)).trans hf_360
            have tf362 : mo_i (f343 (ρ h0 27)) = g298 := tfa_i hf_361
            have hf_363 : f343 (ρ h0 23) = .inl (κ 0, 400, .inl g323) := (hF344 _ (by rw [y8]; decide)).trans hf_o322
            have tf364 : mo_i (f343 (ρ h0 23)) = g323 := tfa_i hf_363
            have hf_365 : f343 (ρ h0 24) = .inl (κ 0, 400, .inl g326) := (hF344 _ (by rw [y9]; decide)).trans hf_o325
            have tf366 : mo_i (f343 (ρ h0 24)) = g326 := tfa_i hf_365
            exact W.iret (v := 0) hx hb hr (fun t ht hW => ⟨⟨0, f343, rfl, ⟨hT, hR, (by first | decide | omega), (by first | (simp only [tf346, tf347, tf348, tf349, tf350, tf354, tf355, tf359, tf362, tf351, tf364, tf366, tf28, tf31, tf40, tf46, tf39, tf352, tf44, tf353, tf45, mo_i1, mo_l1]; exact (show (o345_x10.toInt ≤ o345_x11.toInt ∧ o345_x11.toInt ≤ o345_x9.toInt ∧ (o345_x12.toInt = 0 ∨ o345_x10.toInt < o345_x11.toInt) ∧ (o345_x12.toInt = 1 → o345_x11.toInt = o345_x10.toInt + 1 → o345_x13.toInt ≤ 26)) ∧ o345_x22.toInt + o345_x28.toInt ≤ o345_x10.toInt ∧ mo_PV (mo_R g295) (mo_R g298) o345_x28.toInt ∧ (o345_x15.toInt = 0 → mo_EX aa (0 : Int32).toInt (mo_R g323) (mo_R g326) (mo_R g295) (mo_R g298) o345_x22.toInt o345_x28.toInt ∧ mo_FR aa (mo_R g27) (mo_R g30) (mo_R g323) (mo_R g326) ∧ ((0 : Int32).toInt = 4 ∨ o38_x10.toInt < o345_x10.toInt ∨ (o345_x10.toInt = o38_x10.toInt ∧ (0 : Int32).toInt = 2))) ∧ o38_x22.toInt ≤ o345_x22.toInt ∧ o345_x9.toInt = o38_x9.toInt ∧ o345_x19.toInt = o38_x19.toInt ∧ o345_x20.toInt = o38_x20.toInt from ⟨by omega, by omega, ((h3.lt (n' := _) tk283.1).push (by omega) tk311.1 tk311.2.1 (by omega) (by omega) (by omega)), fun q9 => ⟨(mo_EX.ando h4.1 (tk283.2.2.2.1 (by omega)) (h4.2.2.1.lt tk283.1) (by omega) tk311.1 tk311.2.1 tk339.1 tk339.2.1 (by omega) (by omega) (by omega) hin9), ((tk283.2.2.2.2.2.2.1 (by omega)).then (mo_FR.emit tk339.1 tk339.2.1 (tk283.2.2.2.1 (by omega)).base)), by have q8 : (0 : Int32).toInt = 0 := rfl; omega⟩, by omega, by omega, by omega, by omega⟩)) | (rw [tf346, tf347, tf348, tf349, tf350, tf354, tf355, tf359, tf362, tf351, tf364, tf366, tf28, tf31, tf40, tf46, tf39, tf352, tf44, tf353, tf45]; exact (show (o345_x10.toInt ≤ o345_x11.toInt ∧ o345_x11.toInt ≤ o345_x9.toInt ∧ (o345_x12.toInt = 0 ∨ o345_x10.toInt < o345_x11.toInt) ∧ (o345_x12.toInt = 1 → o345_x11.toInt = o345_x10.toInt + 1 → o345_x13.toInt ≤ 26)) ∧ o345_x22.toInt + o345_x28.toInt ≤ o345_x10.toInt ∧ mo_PV (mo_R g295) (mo_R g298) o345_x28.toInt ∧ (o345_x15.toInt = 0 → mo_EX aa (0 : Int32).toInt (mo_R g323) (mo_R g326) (mo_R g295) (mo_R g298) o345_x22.toInt o345_x28.toInt ∧ mo_FR aa (mo_R g27) (mo_R g30) (mo_R g323) (mo_R g326) ∧ ((0 : Int32).toInt = 4 ∨ o38_x10.toInt < o345_x10.toInt ∨ (o345_x10.toInt = o38_x10.toInt ∧ (0 : Int32).toInt = 2))) ∧ o38_x22.toInt ≤ o345_x22.toInt ∧ o345_x9.toInt = o38_x9.toInt ∧ o345_x19.toInt = o38_x19.toInt ∧ o345_x20.toInt = o38_x20.toInt from ⟨by omega, by omega, ((h3.lt (n' := _) tk283.1).push (by omega) tk311.1 tk311.2.1 (by omega) (by omega) (by omega)), fun q9 => ⟨(mo_EX.ando h4.1 (tk283.2.2.2.1 (by omega)) (h4.2.2.1.lt tk283.1) (by omega) tk311.1 tk311.2.1 tk339.1 tk339.2.1 (by omega) (by omega) (by omega) hin9), ((tk283.2.2.2.2.2.2.1 (by omega)).then (mo_FR.emit tk339.1 tk339.2.1 (tk283.2.2.2.1 (by omega)).base)), by have q8 : (0 : Int32).toInt = 0 := rfl; omega⟩, by omega, by omega, by omega, by omega⟩)))⟩, by rw [ht]; exact hP, va_K.moved hW.alike hK, hD⟩, hS.F ht⟩) hS.2.2 dX12_behindTest_75
          · have ic312 : r50.toInt ≠ 0 := zi_eqf rfl rfl c312
            exfalso; omega
        · have ic284 : r50.toInt ≠ 0 := zi_eqf rfl rfl c284
          exfalso; omega
      · have ic261 : r50.toInt ≠ 0 := zi_eqf rfl rfl c261
        exfalso; omega
