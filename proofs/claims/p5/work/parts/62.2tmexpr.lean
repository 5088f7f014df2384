set_option maxHeartbeats 4000000 in
set_option maxRecDepth 100000 in
theorem t_X12_readPlain (l : Launch) (dC : Nat → ClassId) (dI : Nat → Nat → Nat) (sz : Nat) (κ : Nat → ClassId) (τ ν : Nat → Nat) (ρ : Nat → Nat → Nat) (L : List Nat) (f : Nat → va_E) (hG : tp_G τ ν ρ L) (hT : tp_T (mo_O κ) κ τ ν ρ f) (h0 : Nat) (aa : Int) (ht_h0 : τ h0 = 13) (h1 : ((tp_fld (f h0) 10) ≤ (tp_fld (f h0) 11) ∧ (tp_fld (f h0) 11) ≤ (tp_fld (f h0) 9) ∧ ((tp_fld (f h0) 12) = 0 ∨ (tp_fld (f h0) 10) < (tp_fld (f h0) 11)) ∧ ((tp_fld (f h0) 12) = 1 → (tp_fld (f h0) 11) = (tp_fld (f h0) 10) + 1 → (mo_fj (f h0) 13) ≤ 26))) (hb0 : (tp_fld (f h0) 15) = 0) (h2 : (tp_fld (f h0) 22) + (tp_fld (f h0) 28) ≤ (tp_fld (f h0) 10)) (h3 : mo_PV (mo_R (mo_i (f (ρ h0 26)))) (mo_R (mo_i (f (ρ h0 27)))) (tp_fld (f h0) 28)) (h4 : mo_EX aa 0 (mo_R (mo_i (f (ρ h0 23)))) (mo_R (mo_i (f (ρ h0 24)))) (mo_R (mo_i (f (ρ h0 26)))) (mo_R (mo_i (f (ρ h0 27)))) (tp_fld (f h0) 22) (tp_fld (f h0) 28)) : Met l yX12_readPlain wqX12_readPlain ({ frames := 7, cells := 0, slots := 0, locals := 2400 }) (va_Pc [.ref h0] (pz_B dC dI (tp_K κ) (va_pl L f) sz)) (va_Qi (fun (r : Int32) (f1 : Nat → va_E) => tp_T (mo_O κ) κ τ ν ρ f1 ∧ tp_F τ [13, 53, 54, 56, 57] f f1 ∧ (0 ≤ r.toInt ∧ r.toInt ≤ 4) ∧ ((tp_fld (f1 h0) 10) ≤ (tp_fld (f1 h0) 11) ∧ (tp_fld (f1 h0) 11) ≤ (tp_fld (f1 h0) 9) ∧ ((tp_fld (f1 h0) 12) = 0 ∨ (tp_fld (f1 h0) 10) < (tp_fld (f1 h0) 11)) ∧ ((tp_fld (f1 h0) 12) = 1 → (tp_fld (f1 h0) 11) = (tp_fld (f1 h0) 10) + 1 → (mo_fj (f1 h0) 13) ≤ 26)) ∧ (tp_fld (f1 h0) 22) + (tp_fld (f1 h0) 28) ≤ (tp_fld (f1 h0) 10) ∧ mo_PV (mo_R (mo_i (f1 (ρ h0 26)))) (mo_R (mo_i (f1 (ρ h0 27)))) (tp_fld (f1 h0) 28) ∧ ((tp_fld (f1 h0) 15) = 0 → mo_EX aa r.toInt (mo_R (mo_i (f1 (ρ h0 23)))) (mo_R (mo_i (f1 (ρ h0 24)))) (mo_R (mo_i (f1 (ρ h0 26)))) (mo_R (mo_i (f1 (ρ h0 27)))) (tp_fld (f1 h0) 22) (tp_fld (f1 h0) 28) ∧ mo_FR aa (mo_R (mo_i (f (ρ h0 23)))) (mo_R (mo_i (f (ρ h0 24)))) (mo_R (mo_i (f1 (ρ h0 23)))) (mo_R (mo_i (f1 (ρ h0 24)))) ∧ (r.toInt = 4 ∨ (tp_fld (f h0) 10) < (tp_fld (f1 h0) 10) ∨ ((tp_fld (f1 h0) 10) = (tp_fld (f h0) 10) ∧ r.toInt = 2))) ∧ (tp_fld (f h0) 22) ≤ (tp_fld (f1 h0) 22) ∧ (tp_fld (f1 h0) 9) = (tp_fld (f h0) 9) ∧ (tp_fld (f1 h0) 19) = (tp_fld (f h0) 19) ∧ (tp_fld (f1 h0) 20) = (tp_fld (f h0) 20)) (fun (f1 : Nat → va_E) (t : State) => pz_E dC dI (tp_K κ) (va_A (va_pl L f) sz) (va_pl L f1) t) (va_A (va_pl L f) sz)) 0 0 (va_A (va_pl L f) sz) := by
  refine Met.ofW (cc := cX12_readPlain) (maxL := 1) (ret := some .int) (by decide) rfl ?_
  intro p e s m args below meth c s₁ B hml hv
  obtain ⟨rfl, hsz, hP, hK, hD0, hN⟩ := hv
  have hx := B.exec
  have hb := B.bytes
  have hr := B.returns
  have hts := fun (w : Cond) (h : w ∈ WALL) => atoms_spec (ws := wqX12_readPlain) B.pre w (List.mem_cons_of_mem _ h)
  have hown : s.vm.findClass RX12 = some m.cls := findClass_of_methodNamed B.named
  have hlocks := B.notSynchronized
  subst hsz
  have hD := hD0.self (sz := s.heap.size)
  generalize hAe : va_A (va_pl L f) s.heap.size = A at hD ⊢
  have hA : ∀ q : Nat, s.heap.size ≤ q → A q := fun q h => by rw [← hAe]; exact Or.inr h
  have hS : va_S A s.heap s.heap [] := va_S.rf
  have hR : tp_F τ [13, 53, 54, 56, 57] f f := tp_F.rf
  have hl := lv_entry ([.ref h0]) (n := 1) (Nat.le_of_ble_eq_true rfl)
  rw [lg_entry_eq]
  generalize (lg_sl ([.ref h0]) ++ List.replicate (1 - (lg_sl ([.ref h0])).length) Slot.unset).toArray = ls at hl ⊢
  have hl : lv_has ls 1 [(0, .ref h0)] := hl
  obtain ⟨y1, y2, y3, y4, y5, y6, y7, y8, y9, y10, y11, y12, y13, y14, y15, y16, y17, y18, y19, y20, y21, y22, y23, y24, y25⟩ := tpg_13 hG ht_h0
  obtain ⟨g27, hf_o26⟩ := tpo_53 hT y8
  have tf28 : mo_i (f (ρ h0 23)) = g27 := tfa_i hf_o26
  obtain ⟨g30, hf_o29⟩ := tpo_54 hT y9
  have tf31 : mo_i (f (ρ h0 24)) = g30 := tfa_i hf_o29
  obtain ⟨g33, hf_o32⟩ := tpo_56 hT y10
  have tf34 : mo_i (f (ρ h0 26)) = g33 := tfa_i hf_o32
  obtain ⟨g36, hf_o35⟩ := tpo_57 hT y11
  have tf37 : mo_i (f (ρ h0 27)) = g36 := tfa_i hf_o35
  obtain ⟨o38_x0, o38_x1, o38_x7, o38_x9, o38_x10, o38_x11, o38_x12, o38_x13, o38_x14, o38_x15, o38_x16, o38_x17, o38_x18, o38_x19, o38_x20, o38_x22, o38_x25, o38_x28, o38_x29, o38_x32, o38_x33, o38_x34, o38_x35, o38_x36, o38_x37, o38_x38, o38_x47, o38_x48, hf_o38, ro38_0, ro38_1, ro38_2, ro38_3, ro38_4, ro38_5, ro38_6, ro38_7, ro38_8, ro38_9, ro38_10, ro38_11, ro38_12, ro38_13⟩ := tpo_13 hT ht_h0
  have tf39 : tp_fld (f h0) 9 = o38_x9.toInt := tff_9 hf_o38
  have tf40 : tp_fld (f h0) 10 = o38_x10.toInt := tff_10 hf_o38
  have tf41 : tp_fld (f h0) 11 = o38_x11.toInt := tff_11 hf_o38
  have tf42 : tp_fld (f h0) 12 = o38_x12.toInt := tff_12 hf_o38
  have tf43 : tp_fld (f h0) 15 = o38_x15.toInt := tff_15 hf_o38
  have tf44 : tp_fld (f h0) 19 = o38_x19.toInt := tff_19 hf_o38
  have tf45 : tp_fld (f h0) 20 = o38_x20.toInt := tff_20 hf_o38
  have tf46 : tp_fld (f h0) 22 = o38_x22.toInt := tff_22 hf_o38
  have tf47 : tp_fld (f h0) 28 = o38_x28.toInt := tff_28 hf_o38
  have tf48 : mo_fj (f h0) 13 = o38_x13.toInt := tff_13 hf_o38
  have h1 : (o38_x10.toInt ≤ o38_x11.toInt ∧ o38_x11.toInt ≤ o38_x9.toInt ∧ (o38_x12.toInt = 0 ∨ o38_x10.toInt < o38_x11.toInt) ∧ (o38_x12.toInt = 1 → o38_x11.toInt = o38_x10.toInt + 1 → o38_x13.toInt ≤ 26)) := by have q9 := h1; first | (simp only [tf40, tf41, tf39, tf42, tf48, mo_i1, mo_l1] at q9; exact q9) | (rw [tf40, tf41, tf39, tf42, tf48] at q9; exact q9)
  have hb0 : o38_x15.toInt = 0 := by have q9 := hb0; first | (simp only [tf43, mo_i1, mo_l1] at q9; exact q9) | (rw [tf43] at q9; exact q9)
  have h2 : o38_x22.toInt + o38_x28.toInt ≤ o38_x10.toInt := by have q9 := h2; first | (simp only [tf46, tf47, tf40, mo_i1, mo_l1] at q9; exact q9) | (rw [tf46, tf47, tf40] at q9; exact q9)
  have h3 : mo_PV (mo_R g33) (mo_R g36) o38_x28.toInt := by have q9 := h3; first | (simp only [tf34, tf37, tf47, mo_i1, mo_l1] at q9; exact q9) | (rw [tf34, tf37, tf47] at q9; exact q9)
  have h4 : mo_EX aa 0 (mo_R g27) (mo_R g30) (mo_R g33) (mo_R g36) o38_x22.toInt o38_x28.toInt := by have q9 := h4; first | (simp only [tf28, tf31, tf34, tf37, tf46, tf47, mo_i1, mo_l1] at q9; exact q9) | (rw [tf28, tf31, tf34, tf37, tf46, tf47] at q9; exact q9)
  refine lv_aload_n hx hb dX12_readPlain_0 rfl (lv_at hl 0 rfl) ?_
  refine lv_ldc2 (own := RX12) (v := 14836) hx hb hown (hts (.constantLong RX12 354 (14836)) wa_1051) dX12_readPlain_1 ?_
  obtain ⟨q49, eq49⟩ := tp_pos (tp_in hG ht_h0 (by decide)) hf_o38
  refine pz_calli (va_runV (As := [.long 14836]) (rest := []) ⟨hx, hb, hml, hown, hts⟩ (t_X12_isWord l dC dI _ κ τ ν ρ L f hG hT h0 (14836) ht_h0) (cwV 1 hts gX12_readPlain_X12_isWord rfl rfl rfl ⟨rfl, pd_X12_isWord⟩ ⟨Nat.le_of_ble_eq_true rfl, Nat.le_of_ble_eq_true rfl⟩) ⟨pz_blind, va_recv hK hP (ci := 12) (q0 := q49) rfl eq49, pz_pre hP hK hD hN⟩ rfl rfl hl.1 rfl (lv_room (Nat.le_of_ble_eq_true rfl)) dX12_readPlain_4 ⟨Nat.le_of_ble_eq_true rfl, Nat.le_of_ble_eq_true rfl⟩) (fun r50 hw51 => ?_)
  obtain ⟨hw51r, hw51p⟩ := hw51
  have tk52 : (r50.toInt ≠ 0 → o38_x12.toInt = 1 ∧ o38_x13.toInt = (14836 : Int)) := by have q9 := hw51p; first | (simp only [tf42, tf48, mo_i1, mo_l1] at q9; exact q9) | (rw [tf42, tf48] at q9; exact q9)
  refine lv_if_eq (tgt := 23) hx hb dX12_readPlain_7 (by decide) (fun c53 => ?_) (fun c53 => ?_)
  · have ic53 : r50.toInt = 0 := zi_eq rfl rfl c53
    refine lv_aload_n hx hb dX12_readPlain_23 rfl (lv_at hl 0 rfl) ?_
    refine lv_bipush (v := 40) hx hb dX12_readPlain_24 (by decide) ?_
    refine pz_calli (va_runV (As := [.int 40]) (rest := []) ⟨hx, hb, hml, hown, hts⟩ (t_X12_isSign l dC dI _ κ τ ν ρ L f hG hT h0 (40) ht_h0) (cwV 1 hts gX12_readPlain_X12_isSign rfl rfl rfl ⟨rfl, pd_X12_isSign⟩ ⟨Nat.le_of_ble_eq_true rfl, Nat.le_of_ble_eq_true rfl⟩) ⟨pz_blind, va_recv hK hP (ci := 12) (q0 := q49) rfl eq49, pz_pre hP hK hD hN⟩ rfl rfl hl.1 rfl (lv_room (Nat.le_of_ble_eq_true rfl)) dX12_readPlain_26 ⟨Nat.le_of_ble_eq_true rfl, Nat.le_of_ble_eq_true rfl⟩) (fun r54 hw55 => ?_)
    obtain ⟨hw55r, hw55p⟩ := hw55
    have tk56 : (r54.toInt ≠ 0 → o38_x12.toInt = 3 ∧ o38_x13.toInt = (40 : Int)) := by have q9 := hw55p; first | (simp only [tf42, tf48, mo_i1, mo_l1] at q9; exact q9) | (rw [tf42, tf48] at q9; exact q9)
    refine lv_if_eq (tgt := 40) hx hb dX12_readPlain_29 (by decide) (fun c57 => ?_) (fun c57 => ?_)
    · have ic57 : r54.toInt = 0 := zi_eq rfl rfl c57
      refine lv_aload_n hx hb dX12_readPlain_40 rfl (lv_at hl 0 rfl) ?_
      have hFc := tp_fr hD hS hA
      refine va_calli (va_runV (As := []) (rest := []) ⟨hx, hb, hml, hown, hts⟩ (t_X12_readPart l dC dI _ κ τ ν ρ L f hG hT h0 aa ht_h0 (by first | (simp only [tf40, tf41, tf39, tf42, tf48, mo_i1, mo_l1]; exact (show (o38_x10.toInt ≤ o38_x11.toInt ∧ o38_x11.toInt ≤ o38_x9.toInt ∧ (o38_x12.toInt = 0 ∨ o38_x10.toInt < o38_x11.toInt) ∧ (o38_x12.toInt = 1 → o38_x11.toInt = o38_x10.toInt + 1 → o38_x13.toInt ≤ 26)) from by omega)) | (rw [tf40, tf41, tf39, tf42, tf48]; exact (show (o38_x10.toInt ≤ o38_x11.toInt ∧ o38_x11.toInt ≤ o38_x9.toInt ∧ (o38_x12.toInt = 0 ∨ o38_x10.toInt < o38_x11.toInt) ∧ (o38_x12.toInt = 1 → o38_x11.toInt = o38_x10.toInt + 1 → o38_x13.toInt ≤ 26)) from by omega))) (by first | (simp only [tf43, mo_i1, mo_l1]; exact (show o38_x15.toInt = 0 from by omega)) | (rw [tf43]; exact (show o38_x15.toInt = 0 from by omega))) (by first | (simp only [tf46, tf47, tf40, mo_i1, mo_l1]; exact (show o38_x22.toInt + o38_x28.toInt ≤ o38_x10.toInt from by omega)) | (rw [tf46, tf47, tf40]; exact (show o38_x22.toInt + o38_x28.toInt ≤ o38_x10.toInt from by omega))) (by first | (simp only [tf34, tf37, tf47, mo_i1, mo_l1]; exact (show mo_PV (mo_R g33) (mo_R g36) o38_x28.toInt from h3)) | (rw [tf34, tf37, tf47]; exact (show mo_PV (mo_R g33) (mo_R g36) o38_x28.toInt from h3))) (by first | (simp only [tf28, tf31, tf34, tf37, tf46, tf47, mo_i1, mo_l1]; exact (show mo_EX aa 1 (mo_R g27) (mo_R g30) (mo_R g33) (mo_R g36) o38_x22.toInt o38_x28.toInt from (h4.part (by decide)))) | (rw [tf28, tf31, tf34, tf37, tf46, tf47]; exact (show mo_EX aa 1 (mo_R g27) (mo_R g30) (mo_R g33) (mo_R g36) o38_x22.toInt o38_x28.toInt from (h4.part (by decide)))))) (cwV 0 hts gX12_readPlain_X12_readPart rfl rfl rfl ⟨rfl, pd_X12_readPart⟩ ⟨Nat.le_of_ble_eq_true rfl, Nat.le_of_ble_eq_true rfl⟩) ⟨pz_blind, va_recv hK hP (ci := 12) (q0 := q49) rfl eq49, pz_pre hP hK hD hN⟩ rfl rfl hl.1 rfl (lv_room (Nat.le_of_ble_eq_true rfl)) dX12_readPlain_41 ⟨Nat.le_of_ble_eq_true rfl, Nat.le_of_ble_eq_true rfl⟩) hS (fun q _ h => hFc q h) hFc (fun r58 f60 t H1 locs ht hvm hw59 hB hz1 hk1 hS => ?_)
      obtain ⟨hT, hF61, hw59r, hw59p⟩ := hw59
      have hR := hR.then hF61 (by decide)
      have hP := hB.1; rw [ht] at hP; have hD := tp_ad f60 hD; clear hB hFc hz1 hk1; subst ht; generalize t.heap = H at hP hS ⊢
      obtain ⟨o62_x0, o62_x1, o62_x7, o62_x9, o62_x10, o62_x11, o62_x12, o62_x13, o62_x14, o62_x15, o62_x16, o62_x17, o62_x18, o62_x19, o62_x20, o62_x22, o62_x25, o62_x28, o62_x29, o62_x32, o62_x33, o62_x34, o62_x35, o62_x36, o62_x37, o62_x38, o62_x47, o62_x48, hf_o62, ro62_0, ro62_1, ro62_2, ro62_3, ro62_4, ro62_5, ro62_6, ro62_7, ro62_8, ro62_9, ro62_10, ro62_11, ro62_12, ro62_13⟩ := tpo_13 hT ht_h0
      have tf63 : tp_fld (f60 h0) 10 = o62_x10.toInt := tff_10 hf_o62
      have tf64 : tp_fld (f60 h0) 11 = o62_x11.toInt := tff_11 hf_o62
      have tf65 : tp_fld (f60 h0) 9 = o62_x9.toInt := tff_9 hf_o62
      have tf66 : tp_fld (f60 h0) 12 = o62_x12.toInt := tff_12 hf_o62
      have tf67 : mo_fj (f60 h0) 13 = o62_x13.toInt := tff_13 hf_o62
      have tf68 : tp_fld (f60 h0) 22 = o62_x22.toInt := tff_22 hf_o62
      have tf69 : tp_fld (f60 h0) 28 = o62_x28.toInt := tff_28 hf_o62
      obtain ⟨g71, hf_o70⟩ := tpo_56 hT y10
      have tf72 : mo_i (f60 (ρ h0 26)) = g71 := tfa_i hf_o70
      obtain ⟨g74, hf_o73⟩ := tpo_57 hT y11
      have tf75 : mo_i (f60 (ρ h0 27)) = g74 := tfa_i hf_o73
      have tf76 : tp_fld (f60 h0) 15 = o62_x15.toInt := tff_15 hf_o62
      obtain ⟨g78, hf_o77⟩ := tpo_53 hT y8
      have tf79 : mo_i (f60 (ρ h0 23)) = g78 := tfa_i hf_o77
      obtain ⟨g81, hf_o80⟩ := tpo_54 hT y9
      have tf82 : mo_i (f60 (ρ h0 24)) = g81 := tfa_i hf_o80
      have tf83 : tp_fld (f60 h0) 19 = o62_x19.toInt := tff_19 hf_o62
      have tf84 : tp_fld (f60 h0) 20 = o62_x20.toInt := tff_20 hf_o62
      have tk85 : (o62_x10.toInt ≤ o62_x11.toInt ∧ o62_x11.toInt ≤ o62_x9.toInt ∧ (o62_x12.toInt = 0 ∨ o62_x10.toInt < o62_x11.toInt) ∧ (o62_x12.toInt = 1 → o62_x11.toInt = o62_x10.toInt + 1 → o62_x13.toInt ≤ 26)) ∧ o62_x22.toInt + o62_x28.toInt ≤ o62_x10.toInt ∧ mo_PV (mo_R g71) (mo_R g74) o62_x28.toInt ∧ (o62_x15.toInt = 0 → mo_EX aa r58.toInt (mo_R g78) (mo_R g81) (mo_R g71) (mo_R g74) o62_x22.toInt o62_x28.toInt ∧ mo_FR aa (mo_R g27) (mo_R g30) (mo_R g78) (mo_R g81) ∧ (r58.toInt = 4 ∨ o38_x10.toInt < o62_x10.toInt ∨ (o62_x10.toInt = o38_x10.toInt ∧ r58.toInt = 2))) ∧ o38_x22.toInt ≤ o62_x22.toInt ∧ o62_x9.toInt = o38_x9.toInt ∧ o62_x19.toInt = o38_x19.toInt ∧ o62_x20.toInt = o38_x20.toInt := by have q9 := hw59p; first | (simp only [tf63, tf64, tf65, tf66, tf67, tf68, tf69, tf72, tf75, tf76, tf79, tf82, tf28, tf31, tf40, tf46, tf39, tf83, tf44, tf84, tf45, mo_i1, mo_l1] at q9; exact q9) | (rw [tf63, tf64, tf65, tf66, tf67, tf68, tf69, tf72, tf75, tf76, tf79, tf82, tf28, tf31, tf40, tf46, tf39, tf83, tf44, tf84, tf45] at q9; exact q9)
      exact W.iret (v := r58) hx hb hr (fun t ht hW => ⟨⟨r58, f60, rfl, ⟨hT, hR, (by first | decide | omega), (by first | (simp only [tf63, tf64, tf65, tf66, tf67, tf68, tf69, tf72, tf75, tf76, tf79, tf82, tf28, tf31, tf40, tf46, tf39, tf83, tf44, tf84, tf45, mo_i1, mo_l1]; exact (show (o62_x10.toInt ≤ o62_x11.toInt ∧ o62_x11.toInt ≤ o62_x9.toInt ∧ (o62_x12.toInt = 0 ∨ o62_x10.toInt < o62_x11.toInt) ∧ (o62_x12.toInt = 1 → o62_x11.toInt = o62_x10.toInt + 1 → o62_x13.toInt ≤ 26)) ∧ o62_x22.toInt + o62_x28.toInt ≤ o62_x10.toInt ∧ mo_PV (mo_R g71) (mo_R g74) o62_x28.toInt ∧ (o62_x15.toInt = 0 → mo_EX aa r58.toInt (mo_R g78) (mo_R g81) (mo_R g71) (mo_R g74) o62_x22.toInt o62_x28.toInt ∧ mo_FR aa (mo_R g27) (mo_R g30) (mo_R g78) (mo_R g81) ∧ (r58.toInt = 4 ∨ o38_x10.toInt < o62_x10.toInt ∨ (o62_x10.toInt = o38_x10.toInt ∧ r58.toInt = 2))) ∧ o38_x22.toInt ≤ o62_x22.toInt ∧ o62_x9.toInt = o38_x9.toInt ∧ o62_x19.toInt = o38_x19.toInt ∧ o62_x20.toInt = o38_x20.toInt from tk85)) | (rw [tf63, tf64, tf65, tf66, tf67, tf68, tf69, tf72, tf75, tf76, tf79, tf82, tf28, tf31, tf40, tf46, tf39, tf83, tf44, tf84, tf45]; exact (show (o62_x10.toInt ≤ o62_x11.toInt ∧ o62_x11.toInt ≤ o62_x9.toInt ∧ (o62_x12.toInt = 0 ∨ o62_x10.toInt < o62_x11.toInt) ∧ (o62_x12.toInt = 1 → o62_x11.toInt = o62_x10.toInt + 1 → o62_x13.toInt ≤ 26)) ∧ o62_x22.toInt + o62_x28.toInt ≤ o62_x10.toInt ∧ mo_PV (mo_R g71) (mo_R g74) o62_x28.toInt ∧ (o62_x15.toInt = 0 → mo_EX aa r58.toInt (mo_R g78) (mo_R g81) (mo_R g71) (mo_R g74) o62_x22.toInt o62_x28.toInt ∧ mo_FR aa (mo_R g27) (mo_R g30) (mo_R g78) (mo_R g81) ∧ (r58.toInt = 4 ∨ o38_x10.toInt < o62_x10.toInt ∨ (o62_x10.toInt = o38_x10.toInt ∧ r58.toInt = 2))) ∧ o38_x22.toInt ≤ o62_x22.toInt ∧ o62_x9.toInt = o38_x9.toInt ∧ o62_x19.toInt = o38_x19.toInt ∧ o62_x20.toInt = o38_x20.toInt from tk85)))⟩, by rw [ht]; exact hP, va_K.moved hW.alike hK, hD⟩, hS.F ht⟩) hS.2.2 dX12_readPlain_44
    · have ic57 : r54.toInt ≠ 0 := zi_eqf rfl rfl c57
      refine lv_aload_n hx hb dX12_readPlain_32 rfl (lv_at hl 0 rfl) ?_
      refine lv_bipush (v := 30) hx hb dX12_readPlain_33 (by decide) ?_
      have hFc := tp_fr hD hS hA
      refine va_callv (va_runV (As := [.int 30]) (rest := []) ⟨hx, hb, hml, hown, hts⟩ (t_X12_open l dC dI _ κ τ ν ρ L f hG hT h0 (30) ht_h0 (by first | decide | omega) (by first | (simp only [tf40, tf41, tf39, tf42, tf48, mo_i1, mo_l1]; exact (show (o38_x10.toInt ≤ o38_x11.toInt ∧ o38_x11.toInt ≤ o38_x9.toInt ∧ (o38_x12.toInt = 0 ∨ o38_x10.toInt < o38_x11.toInt) ∧ (o38_x12.toInt = 1 → o38_x11.toInt = o38_x10.toInt + 1 → o38_x13.toInt ≤ 26)) from by have : (30 : Int32).toInt = 30 := rfl; first | omega | decide)) | (rw [tf40, tf41, tf39, tf42, tf48]; exact (show (o38_x10.toInt ≤ o38_x11.toInt ∧ o38_x11.toInt ≤ o38_x9.toInt ∧ (o38_x12.toInt = 0 ∨ o38_x10.toInt < o38_x11.toInt) ∧ (o38_x12.toInt = 1 → o38_x11.toInt = o38_x10.toInt + 1 → o38_x13.toInt ≤ 26)) from by have : (30 : Int32).toInt = 30 := rfl; first | omega | decide))) (by first | (simp only [tf43, mo_i1, mo_l1]; exact (show o38_x15.toInt = 0 from by have : (30 : Int32).toInt = 30 := rfl; first | omega | decide)) | (rw [tf43]; exact (show o38_x15.toInt = 0 from by have : (30 : Int32).toInt = 30 := rfl; first | omega | decide))) (by first | (simp only [tf40, tf41, mo_i1, mo_l1]; exact (show o38_x10.toInt < o38_x11.toInt from by have : (30 : Int32).toInt = 30 := rfl; first | omega | decide)) | (rw [tf40, tf41]; exact (show o38_x10.toInt < o38_x11.toInt from by have : (30 : Int32).toInt = 30 := rfl; first | omega | decide))) (by first | (simp only [tf46, tf47, tf40, mo_i1, mo_l1]; exact (show o38_x22.toInt + o38_x28.toInt ≤ o38_x10.toInt from by have : (30 : Int32).toInt = 30 := rfl; first | omega | decide)) | (rw [tf46, tf47, tf40]; exact (show o38_x22.toInt + o38_x28.toInt ≤ o38_x10.toInt from by have : (30 : Int32).toInt = 30 := rfl; first | omega | decide)))) (cwV 1 hts gX12_readPlain_X12_open rfl rfl rfl ⟨rfl, pd_X12_open⟩ ⟨Nat.le_of_ble_eq_true rfl, Nat.le_of_ble_eq_true rfl⟩) ⟨pz_blind, va_recv hK hP (ci := 12) (q0 := q49) rfl eq49, pz_pre hP hK hD hN⟩ rfl rfl hl.1 rfl (lv_room (Nat.le_of_ble_eq_true rfl)) dX12_readPlain_35 ⟨Nat.le_of_ble_eq_true rfl, Nat.le_of_ble_eq_true rfl⟩) hS (fun q _ h => hFc q h) hFc (fun f88 t H1 locs ht hvm hw87 hB hz1 hk1 hS => ?_)
      obtain ⟨hT, hF89, hw87p⟩ := hw87
      have hR := hR.then hF89 (by decide)
      have hP := hB.1; rw [ht] at hP; have hD := tp_ad f88 hD; clear hB hFc hz1 hk1; subst ht; generalize t.heap = H at hP hS ⊢
      obtain ⟨o90_x0, o90_x1, o90_x7, o90_x9, o90_x10, o90_x11, o90_x12, o90_x13, o90_x14, o90_x15, o90_x16, o90_x17, o90_x18, o90_x19, o90_x20, o90_x22, o90_x25, o90_x28, o90_x29, o90_x32, o90_x33, o90_x34, o90_x35, o90_x36, o90_x37, o90_x38, o90_x47, o90_x48, hf_o90, ro90_0, ro90_1, ro90_2, ro90_3, ro90_4, ro90_5, ro90_6, ro90_7, ro90_8, ro90_9, ro90_10, ro90_11, ro90_12, ro90_13⟩ := tpo_13 hT ht_h0
      have tf91 : tp_fld (f88 h0) 10 = o90_x10.toInt := tff_10 hf_o90
      have tf92 : tp_fld (f88 h0) 11 = o90_x11.toInt := tff_11 hf_o90
      have tf93 : tp_fld (f88 h0) 9 = o90_x9.toInt := tff_9 hf_o90
      have tf94 : tp_fld (f88 h0) 12 = o90_x12.toInt := tff_12 hf_o90
      have tf95 : mo_fj (f88 h0) 13 = o90_x13.toInt := tff_13 hf_o90
      have tf96 : tp_fld (f88 h0) 15 = o90_x15.toInt := tff_15 hf_o90
      obtain ⟨g98, hf_o97⟩ := tpo_56 hT y10
      have tf99 : mo_i (f88 (ρ h0 26)) = g98 := tfa_i hf_o97
      obtain ⟨g101, hf_o100⟩ := tpo_57 hT y11
      have tf102 : mo_i (f88 (ρ h0 27)) = g101 := tfa_i hf_o100
      have tf103 : tp_fld (f88 h0) 28 = o90_x28.toInt := tff_28 hf_o90
      have tf104 : tp_fld (f88 h0) 19 = o90_x19.toInt := tff_19 hf_o90
      have tf105 : tp_fld (f88 h0) 20 = o90_x20.toInt := tff_20 hf_o90
      have tf106 : tp_fld (f88 h0) 22 = o90_x22.toInt := tff_22 hf_o90
      have tk107 : (o90_x10.toInt ≤ o90_x11.toInt ∧ o90_x11.toInt ≤ o90_x9.toInt ∧ (o90_x12.toInt = 0 ∨ o90_x10.toInt < o90_x11.toInt) ∧ (o90_x12.toInt = 1 → o90_x11.toInt = o90_x10.toInt + 1 → o90_x13.toInt ≤ 26)) ∧ (o90_x15.toInt = 0 → mo_U (mo_R g33) (mo_R g98) o38_x28.toInt (30 : Int) ∧ mo_U (mo_R g36) (mo_R g101) o38_x28.toInt 0 ∧ o90_x28.toInt = o38_x28.toInt + 1 ∧ o38_x11.toInt ≤ o90_x10.toInt) ∧ (o90_x15.toInt ≠ 0 → (mo_R g98) = (mo_R g33) ∧ (mo_R g101) = (mo_R g36) ∧ o90_x28.toInt = o38_x28.toInt ∧ o90_x10.toInt = o38_x10.toInt) ∧ o90_x9.toInt = o38_x9.toInt ∧ o90_x19.toInt = o38_x19.toInt ∧ o90_x20.toInt = o38_x20.toInt ∧ o90_x22.toInt = o38_x22.toInt := by have q9 := hw87p; first | (simp only [tf91, tf92, tf93, tf94, tf95, tf96, tf34, tf99, tf47, tf37, tf102, tf103, tf41, tf40, tf39, tf104, tf44, tf105, tf45, tf106, tf46, mo_i1, mo_l1] at q9; exact q9) | (rw [tf91, tf92, tf93, tf94, tf95, tf96, tf34, tf99, tf47, tf37, tf102, tf103, tf41, tf40, tf39, tf104, tf44, tf105, tf45, tf106, tf46] at q9; exact q9)
      refine lv_iconst (v := 0) hx hb dX12_readPlain_38 (by decide) ?_
      have hf_108 : f88 (ρ h0 23) = .inl (κ 0, 400, .inl g27) := (hF89 _ (by rw [y8]; decide)).trans hf_o26
      have tf109 : mo_i (f88 (ρ h0 23)) = g27 := tfa_i hf_108
      have hf_110 : f88 (ρ h0 24) = .inl (κ 0, 400, .inl g30) := (hF89 _ (by rw [y9]; decide)).trans hf_o29
      have tf111 : mo_i (f88 (ρ h0 24)) = g30 := tfa_i hf_110
      exact W.iret (v := 0) hx hb hr (fun t ht hW => ⟨⟨0, f88, rfl, ⟨hT, hR, (by first | decide | omega), (by first | (simp only [tf91, tf92, tf93, tf94, tf95, tf106, tf103, tf99, tf102, tf96, tf109, tf111, tf28, tf31, tf40, tf46, tf39, tf104, tf44, tf105, tf45, mo_i1, mo_l1]; exact (show (o90_x10.toInt ≤ o90_x11.toInt ∧ o90_x11.toInt ≤ o90_x9.toInt ∧ (o90_x12.toInt = 0 ∨ o90_x10.toInt < o90_x11.toInt) ∧ (o90_x12.toInt = 1 → o90_x11.toInt = o90_x10.toInt + 1 → o90_x13.toInt ≤ 26)) ∧ o90_x22.toInt + o90_x28.toInt ≤ o90_x10.toInt ∧ mo_PV (mo_R g98) (mo_R g101) o90_x28.toInt ∧ (o90_x15.toInt = 0 → mo_EX aa (0 : Int32).toInt (mo_R g27) (mo_R g30) (mo_R g98) (mo_R g101) o90_x22.toInt o90_x28.toInt ∧ mo_FR aa (mo_R g27) (mo_R g30) (mo_R g27) (mo_R g30) ∧ ((0 : Int32).toInt = 4 ∨ o38_x10.toInt < o90_x10.toInt ∨ (o90_x10.toInt = o38_x10.toInt ∧ (0 : Int32).toInt = 2))) ∧ o38_x22.toInt ≤ o90_x22.toInt ∧ o90_x9.toInt = o38_x9.toInt ∧ o90_x19.toInt = o38_x19.toInt ∧ o90_x20.toInt = o38_x20.toInt from ⟨by omega, by omega, mo_openPV h3 (by omega) tk107.2.1 tk107.2.2.1 (by omega), fun q9 => ⟨(h4.opn (by decide) (by omega) (tk107.2.1 q9).1 (tk107.2.1 q9).2.1 (by omega) (Or.inl ⟨rfl, rfl⟩) (by decide)), mo_FR.rf _ _ _, by have q8 : (0 : Int32).toInt = 0 := rfl; omega⟩, by omega, by omega, by omega, by omega⟩)) | (rw [tf91, tf92, tf93, tf94, tf95, tf106, tf103, tf99, tf102, tf96, tf109, tf111, tf28, tf31, tf40, tf46, tf39, tf104, tf44, tf105, tf45]; exact (show (o90_x10.toInt ≤ o90_x11.toInt ∧ o90_x11.toInt ≤ o90_x9.toInt ∧ (o90_x12.toInt = 0 ∨ o90_x10.toInt < o90_x11.toInt) ∧ (o90_x12.toInt = 1 → o90_x11.toInt = o90_x10.toInt + 1 → o90_x13.toInt ≤ 26)) ∧ o90_x22.toInt + o90_x28.toInt ≤ o90_x10.toInt ∧ mo_PV (mo_R g98) (mo_R g101) o90_x28.toInt ∧ (o90_x15.toInt = 0 → mo_EX aa (0 : Int32).toInt (mo_R g27) (mo_R g30) (mo_R g98) (mo_R g101) o90_x22.toInt o90_x28.toInt ∧ mo_FR aa (mo_R g27) (mo_R g30) (mo_R g27) (mo_R g30) ∧ ((0 : Int32).toInt = 4 ∨ o38_x10.toInt < o90_x10.toInt ∨ (o90_x10.toInt = o38_x10.toInt ∧ (0 : Int32).toInt = 2))) ∧ o38_x22.toInt ≤ o90_x22.toInt ∧ o90_x9.toInt = o38_x9.toInt ∧ o90_x19.toInt = o38_x19.toInt ∧ o90_x20.toInt = o38_x20.toInt from ⟨by omega, by omega, mo_openPV h3 (by omega) tk107.2.1 tk107.2.2.1 (by omega), fun q9 => ⟨(h4.opn (by decide) (by omega) (tk107.2.1 q9).1 (tk107.2.1 q9).2.1 (by omega) (Or.inl ⟨rfl, rfl⟩) (by decide)), mo_FR.rf _ _ _, by have q8 : (0 : Int32).toInt = 0 := rfl; omega⟩, by omega, by omega, by omega, by omega⟩)))⟩, by rw [ht]; exact hP, va_K.moved hW.alike hK, hD⟩, hS.F ht⟩) hS.2.2 dX12_readPlain_39
  · have ic53 : r50.toInt ≠ 0 := zi_eqf rfl rfl c53
    refine lv_aload_n hx hb dX12_readPlain_10 rfl (lv_at hl 0 rfl) ?_
    refine lv_bipush (v := 17) hx hb dX12_readPlain_11 (by decide) ?_
    refine lv_iconst (v := 0) hx hb dX12_readPlain_13 (by decide) ?_
    have hFc := tp_fr hD hS hA
    refine va_callv (va_runV (As := [.int 17, .int 0]) (rest := []) ⟨hx, hb, hml, hown, hts⟩ (t_X12_push l dC dI _ κ τ ν ρ L f hG hT h0 (17) (0) ht_h0 (by first | (simp only [tf47, mo_i1, mo_l1]; exact (show o38_x28.toInt < 400 from by have : (17 : Int32).toInt = 17 := rfl; have : (0 : Int32).toInt = 0 := rfl; first | omega | decide)) | (rw [tf47]; exact (show o38_x28.toInt < 400 from by have : (17 : Int32).toInt = 17 := rfl; have : (0 : Int32).toInt = 0 := rfl; first | omega | decide)))) (cwV 2 hts gX12_readPlain_X12_push rfl rfl rfl ⟨rfl, pd_X12_push⟩ ⟨Nat.le_of_ble_eq_true rfl, Nat.le_of_ble_eq_true rfl⟩) ⟨pz_blind, va_recv hK hP (ci := 12) (q0 := q49) rfl eq49, pz_pre hP hK hD hN⟩ rfl rfl hl.1 rfl (lv_room (Nat.le_of_ble_eq_true rfl)) dX12_readPlain_14 ⟨Nat.le_of_ble_eq_true rfl, Nat.le_of_ble_eq_true rfl⟩) hS (fun q _ h => hFc q h) hFc (fun f114 t H1 locs ht hvm hw113 hB hz1 hk1 hS => ?_)
    obtain ⟨hT, hF115, hw113p⟩ := hw113
    have hR := hR.then hF115 (by decide)
    have hP := hB.1; rw [ht] at hP; have hD := tp_ad f114 hD; clear hB hFc hz1 hk1; subst ht; generalize t.heap = H at hP hS ⊢
    obtain ⟨g117, hf_o116⟩ := tpo_56 hT y10
    have tf118 : mo_i (f114 (ρ h0 26)) = g117 := tfa_i hf_o116
    obtain ⟨g120, hf_o119⟩ := tpo_57 hT y11
    have tf121 : mo_i (f114 (ρ h0 27)) = g120 := tfa_i hf_o119
    obtain ⟨o122_x0, o122_x1, o122_x7, o122_x9, o122_x10, o122_x11, o122_x12, o122_x13, o122_x14, o122_x15, o122_x16, o122_x17, o122_x18, o122_x19, o122_x20, o122_x22, o122_x25, o122_x28, o122_x29, o122_x32, o122_x33, o122_x34, o122_x35, o122_x36, o122_x37, o122_x38, o122_x47, o122_x48, hf_o122, ro122_0, ro122_1, ro122_2, ro122_3, ro122_4, ro122_5, ro122_6, ro122_7, ro122_8, ro122_9, ro122_10, ro122_11, ro122_12, ro122_13⟩ := tpo_13 hT ht_h0
    have tf123 : tp_fld (f114 h0) 28 = o122_x28.toInt := tff_28 hf_o122
    have tf124 : tp_fld (f114 h0) 9 = o122_x9.toInt := tff_9 hf_o122
    have tf125 : tp_fld (f114 h0) 10 = o122_x10.toInt := tff_10 hf_o122
    have tf126 : tp_fld (f114 h0) 11 = o122_x11.toInt := tff_11 hf_o122
    have tf127 : tp_fld (f114 h0) 12 = o122_x12.toInt := tff_12 hf_o122
    have tf128 : mo_fj (f114 h0) 13 = o122_x13.toInt := tff_13 hf_o122
    have tf129 : tp_fld (f114 h0) 15 = o122_x15.toInt := tff_15 hf_o122
    have tf130 : tp_fld (f114 h0) 19 = o122_x19.toInt := tff_19 hf_o122
    have tf131 : tp_fld (f114 h0) 20 = o122_x20.toInt := tff_20 hf_o122
    have tf132 : tp_fld (f114 h0) 22 = o122_x22.toInt := tff_22 hf_o122
    have tk133 : mo_U (mo_R g33) (mo_R g117) o38_x28.toInt (17 : Int) ∧ mo_U (mo_R g36) (mo_R g120) o38_x28.toInt (0 : Int) ∧ o122_x28.toInt = o38_x28.toInt + 1 ∧ o122_x9.toInt = o38_x9.toInt ∧ o122_x10.toInt = o38_x10.toInt ∧ o122_x11.toInt = o38_x11.toInt ∧ o122_x12.toInt = o38_x12.toInt ∧ o122_x13.toInt = o38_x13.toInt ∧ o122_x15.toInt = o38_x15.toInt ∧ o122_x19.toInt = o38_x19.toInt ∧ o122_x20.toInt = o38_x20.toInt ∧ o122_x22.toInt = o38_x22.toInt := by have q9 := hw113p; first | (simp only [tf34, tf118, tf47, tf37, tf121, tf123, tf124, tf39, tf125, tf40, tf126, tf41, tf127, tf42, tf128, tf48, tf129, tf43, tf130, tf44, tf131, tf45, tf132, tf46, mo_i1, mo_l1] at q9; exact q9) | (rw [tf34, tf118, tf47, tf37, tf121, tf123, tf124, tf39, tf125, tf40, tf126, tf41, tf127, tf42, tf128, tf48, tf129, tf43, tf130, tf44, tf131, tf45, tf132, tf46] at q9; exact q9)
    refine lv_aload_n hx hb dX12_readPlain_17 rfl (lv_at hl 0 rfl) ?_
    obtain ⟨q134, eq134⟩ := tp_pos (tp_in hG ht_h0 (by decide)) hf_o122
    have hFc := tp_fr hD hS hA
    refine va_callv (va_runV (As := []) (rest := []) ⟨hx, hb, hml, hown, hts⟩ (t_X12_next l dC dI _ κ τ ν ρ L f114 hG hT h0 ht_h0 (by first | (simp only [tf126, tf124, mo_i1, mo_l1]; exact (show o122_x11.toInt ≤ o122_x9.toInt from by first | omega | decide)) | (rw [tf126, tf124]; exact (show o122_x11.toInt ≤ o122_x9.toInt from by first | omega | decide)))) (cwV 0 hts gX12_readPlain_X12_next rfl rfl rfl ⟨rfl, pd_X12_next⟩ ⟨Nat.le_of_ble_eq_true rfl, Nat.le_of_ble_eq_true rfl⟩) ⟨pz_blind, va_recv hK hP (ci := 12) (q0 := q134) rfl eq134, pz_pre hP hK hD hN⟩ rfl rfl hl.1 rfl (lv_room (Nat.le_of_ble_eq_true rfl)) dX12_readPlain_18 ⟨Nat.le_of_ble_eq_true rfl, Nat.le_of_ble_eq_true rfl⟩) hS (fun q _ h => hFc q h) hFc (fun f137 t H1 locs ht hvm hw136 hB hz1 hk1 hS => ?_)
    obtain ⟨hT, hF138, hw136p⟩ := hw136
    have hR := hR.then hF138 (by decide)
    have hP := hB.1; rw [ht] at hP; have hD := tp_ad f137 hD; clear hB hFc hz1 hk1; subst ht; generalize t.heap = H at hP hS ⊢
    obtain ⟨o139_x0, o139_x1, o139_x7, o139_x9, o139_x10, o139_x11, o139_x12, o139_x13, o139_x14, o139_x15, o139_x16, o139_x17, o139_x18, o139_x19, o139_x20, o139_x22, o139_x25, o139_x28, o139_x29, o139_x32, o139_x33, o139_x34, o139_x35, o139_x36, o139_x37, o139_x38, o139_x47, o139_x48, hf_o139, ro139_0, ro139_1, ro139_2, ro139_3, ro139_4, ro139_5, ro139_6, ro139_7, ro139_8, ro139_9, ro139_10, ro139_11, ro139_12, ro139_13⟩ := tpo_13 hT ht_h0
    have tf140 : tp_fld (f137 h0) 10 = o139_x10.toInt := tff_10 hf_o139
    have tf141 : tp_fld (f137 h0) 11 = o139_x11.toInt := tff_11 hf_o139
    have tf142 : tp_fld (f137 h0) 9 = o139_x9.toInt := tff_9 hf_o139
    have tf143 : tp_fld (f137 h0) 12 = o139_x12.toInt := tff_12 hf_o139
    have tf144 : mo_fj (f137 h0) 13 = o139_x13.toInt := tff_13 hf_o139
    have tf145 : tp_fld (f137 h0) 15 = o139_x15.toInt := tff_15 hf_o139
    have tf146 : tp_fld (f137 h0) 19 = o139_x19.toInt := tff_19 hf_o139
    have tf147 : tp_fld (f137 h0) 20 = o139_x20.toInt := tff_20 hf_o139
    have tf148 : tp_fld (f137 h0) 22 = o139_x22.toInt := tff_22 hf_o139
    have tf149 : tp_fld (f137 h0) 28 = o139_x28.toInt := tff_28 hf_o139
    have tk150 : (o139_x10.toInt ≤ o139_x11.toInt ∧ o139_x11.toInt ≤ o139_x9.toInt ∧ (o139_x12.toInt = 0 ∨ o139_x10.toInt < o139_x11.toInt) ∧ (o139_x12.toInt = 1 → o139_x11.toInt = o139_x10.toInt + 1 → o139_x13.toInt ≤ 26)) ∧ o122_x11.toInt ≤ o139_x10.toInt ∧ o139_x9.toInt = o122_x9.toInt ∧ o139_x15.toInt = o122_x15.toInt ∧ o139_x19.toInt = o122_x19.toInt ∧ o139_x20.toInt = o122_x20.toInt ∧ o139_x22.toInt = o122_x22.toInt ∧ o139_x28.toInt = o122_x28.toInt := by have q9 := hw136p; first | (simp only [tf140, tf141, tf142, tf143, tf144, tf126, tf124, tf145, tf129, tf146, tf130, tf147, tf131, tf148, tf132, tf149, tf123, mo_i1, mo_l1] at q9; exact q9) | (rw [tf140, tf141, tf142, tf143, tf144, tf126, tf124, tf145, tf129, tf146, tf130, tf147, tf131, tf148, tf132, tf149, tf123] at q9; exact q9)
    refine lv_iconst (v := 0) hx hb dX12_readPlain_21 (by decide) ?_
    have hf_151 : f137 (ρ h0 26) = .inl (κ 0, 400, .inl g117) := (hF138 _ (by rw [y10]; decide)).trans hf_o116
    have tf152 : mo_i (f137 (ρ h0 26)) = g117 := tfa_i hf_151
    have hf_153 : f137 (ρ h0 27) = .inl (κ 0, 400, .inl g120) := (hF138 _ (by rw [y11]; decide)).trans hf_o119
    have tf154 : mo_i (f137 (ρ h0 27)) = g120 := tfa_i hf_153
    have hf_155 : f114 (ρ h0 23) = .inl (κ 0, 400, .inl g27) := (hF115 _ (by rw [y8]; decide)).trans hf_o26
    have hf_156 : f137 (ρ h0 23) = .inl (κ 0, 400, .inl g27) := (hF138 _ (by rw [y8]; decide)).trans hf_155
    have tf157 : mo_i (f137 (ρ h0 23)) = g27 := tfa_i hf_156
    have hf_158 : f114 (ρ h0 24) = .inl (κ 0, 400, .inl g30) := (hF115 _ (by rw [y9]; decide)).trans hf_o29
    have hf_159 : f137 (ρ h0 24) = .inl (κ 0, 400, .inl g30) := (hF138 _ (by rw [y9]; decide)).trans hf_158
    have tf160 : mo_i (f137 (ρ h0 24)) = g30 := tfa_i hf_159
    exact W.iret (v := 0) hx hb hr (fun t ht hW => ⟨⟨0, f137, rfl, ⟨hT, hR, (by first | decide | omega), (by first | (simp only [tf140, tf141, tf142, tf143, tf144, tf148, tf149, tf152, tf154, tf145, tf157, tf160, tf28, tf31, tf40, tf46, tf39, tf146, tf44, tf147, tf45, mo_i1, mo_l1]; exact (show (o139_x10.toInt ≤ o139_x11.toInt ∧ o139_x11.toInt ≤ o139_x9.toInt ∧ (o139_x12.toInt = 0 ∨ o139_x10.toInt < o139_x11.toInt) ∧ (o139_x12.toInt = 1 → o139_x11.toInt = o139_x10.toInt + 1 → o139_x13.toInt ≤ 26)) ∧ o139_x22.toInt + o139_x28.toInt ≤ o139_x10.toInt ∧ mo_PV (mo_R g117) (mo_R g120) o139_x28.toInt ∧ (o139_x15.toInt = 0 → mo_EX aa (0 : Int32).toInt (mo_R g27) (mo_R g30) (mo_R g117) (mo_R g120) o139_x22.toInt o139_x28.toInt ∧ mo_FR aa (mo_R g27) (mo_R g30) (mo_R g27) (mo_R g30) ∧ ((0 : Int32).toInt = 4 ∨ o38_x10.toInt < o139_x10.toInt ∨ (o139_x10.toInt = o38_x10.toInt ∧ (0 : Int32).toInt = 2))) ∧ o38_x22.toInt ≤ o139_x22.toInt ∧ o139_x9.toInt = o38_x9.toInt ∧ o139_x19.toInt = o38_x19.toInt ∧ o139_x20.toInt = o38_x20.toInt from ⟨by omega, by omega, (h3.push (by omega) tk133.1 tk133.2.1 (by omega) (by omega) (by omega)), fun q9 => ⟨(h4.nott (by omega) tk133.1 tk133.2.1 (by omega) rfl), mo_FR.rf _ _ _, by have q8 : (0 : Int32).toInt = 0 := rfl; omega⟩, by omega, by omega, by omega, by omega⟩)) | (rw [tf140, tf141, tf142, tf143, tf144, tf148, tf149, tf152, tf154, tf145, tf157, tf160, tf28, tf31, tf40, tf46, tf39, tf146, tf44, tf147, tf45]; exact (show (o139_x10.toInt ≤ o139_x11.toInt ∧ o139_x11.toInt ≤ o139_x9.toInt ∧ (o139_x12.toInt = 0 ∨ o139_x10.toInt < o139_x11.toInt) ∧ (o139_x12.toInt = 1 → o139_x11.toInt = o139_x10.toInt + 1 → o139_x13.toInt ≤ 26)) ∧ o139_x22.toInt + o139_x28.toInt ≤ o139_x10.toInt ∧ mo_PV (mo_R g117) (mo_R g120) o139_x28.toInt ∧ (o139_x15.toInt = 0 → mo_EX aa (0 : Int32).toInt (mo_R g27) (mo_R g30) (mo_R g117) (mo_R g120) o139_x22.toInt o139_x28.toInt ∧ mo_FR aa (mo_R g27) (mo_R g30) (mo_R g27) (mo_R g30) ∧ ((0 : Int32).toInt = 4 ∨ o38_x10.toInt < o139_x10.toInt ∨ (o139_x10.toInt = o38_x10.toInt ∧ (0 : Int32).toInt = 2))) ∧ o38_x22.toInt ≤ o139_x22.toInt ∧ o139_x9.toInt = o38_x9.toInt ∧ o139_x19.toInt = o38_x19.toInt ∧ o139_x20.toInt = o38_x20.toInt from ⟨by omega, by omega, (h3.push (by omega) tk133.1 tk133.2.1 (by omega) (by omega) (by omega)), fun q9 => ⟨(h4.nott (by omega) tk133.1 tk133.2.1 (by omega) rfl), mo_FR.rf _ _ _, by have q8 : (0 : Int32).toInt = 0 := rfl; omega⟩, by omega, by omega, by omega, by omega⟩)))⟩, by rw [ht]; exact hP, va_K.moved hW.alike hK, hD⟩, hS.F ht⟩) hS.2.2 dX12_readPlain_22
set_option maxHeartbeats 4000000 in
set_option maxRecDepth 100000 in
theorem t_X12_behindSum (l : Launch) (dC : Nat → ClassId) (dI : Nat → Nat → Nat) (sz : Nat) (κ : Nat → ClassId) (τ ν : Nat → Nat) (ρ : Nat → Nat → Nat) (L : List Nat) (f : Nat → va_E) (hG : tp_G τ ν ρ L) (hT : tp_T (mo_O κ) κ τ ν ρ f) (h0 : Nat) (v : Int32) (aa : Int) (ht_h0 : τ h0 = 13) (hr_v : 0 ≤ v.toInt ∧ v.toInt ≤ 1) (h1 : ((tp_fld (f h0) 10) ≤ (tp_fld (f h0) 11) ∧ (tp_fld (f h0) 11) ≤ (tp_fld (f h0) 9) ∧ ((tp_fld (f h0) 12) = 0 ∨ (tp_fld (f h0) 10) < (tp_fld (f h0) 11)) ∧ ((tp_fld (f h0) 12) = 1 → (tp_fld (f h0) 11) = (tp_fld (f h0) 10) + 1 → (mo_fj (f h0) 13) ≤ 26))) (hb0 : (tp_fld (f h0) 15) = 0) (h2 : (tp_fld (f h0) 22) + (tp_fld (f h0) 28) ≤ (tp_fld (f h0) 10)) (h3 : mo_PV (mo_R (mo_i (f (ρ h0 26)))) (mo_R (mo_i (f (ρ h0 27)))) (tp_fld (f h0) 28)) (h4 : mo_EX aa 3 (mo_R (mo_i (f (ρ h0 23)))) (mo_R (mo_i (f (ρ h0 24)))) (mo_R (mo_i (f (ρ h0 26)))) (mo_R (mo_i (f (ρ h0 27)))) (tp_fld (f h0) 22) (tp_fld (f h0) 28)) : Met l yX12_behindSum wqX12_behindSum ({ frames := 5, cells := 0, slots := 0, locals := 1600 }) (va_Pc [.ref h0, .int v] (pz_B dC dI (tp_K κ) (va_pl L f) sz)) (va_Qi (fun (r : Int32) (f1 : Nat → va_E) => tp_T (mo_O κ) κ τ ν ρ f1 ∧ tp_F τ [13, 53, 54, 56, 57] f f1 ∧ (0 ≤ r.toInt ∧ r.toInt ≤ 4) ∧ ((tp_fld (f1 h0) 10) ≤ (tp_fld (f1 h0) 11) ∧ (tp_fld (f1 h0) 11) ≤ (tp_fld (f1 h0) 9) ∧ ((tp_fld (f1 h0) 12) = 0 ∨ (tp_fld (f1 h0) 10) < (tp_fld (f1 h0) 11)) ∧ ((tp_fld (f1 h0) 12) = 1 → (tp_fld (f1 h0) 11) = (tp_fld (f1 h0) 10) + 1 → (mo_fj (f1 h0) 13) ≤ 26)) ∧ (tp_fld (f1 h0) 22) + (tp_fld (f1 h0) 28) ≤ (tp_fld (f1 h0) 10) ∧ mo_PV (mo_R (mo_i (f1 (ρ h0 26)))) (mo_R (mo_i (f1 (ρ h0 27)))) (tp_fld (f1 h0) 28) ∧ ((tp_fld (f1 h0) 15) = 0 → mo_EX aa r.toInt (mo_R (mo_i (f1 (ρ h0 23)))) (mo_R (mo_i (f1 (ρ h0 24)))) (mo_R (mo_i (f1 (ρ h0 26)))) (mo_R (mo_i (f1 (ρ h0 27)))) (tp_fld (f1 h0) 22) (tp_fld (f1 h0) 28) ∧ mo_FR aa (mo_R (mo_i (f (ρ h0 23)))) (mo_R (mo_i (f (ρ h0 24)))) (mo_R (mo_i (f1 (ρ h0 23)))) (mo_R (mo_i (f1 (ρ h0 24)))) ∧ (r.toInt = 4 ∨ (tp_fld (f h0) 10) < (tp_fld (f1 h0) 10) ∨ ((tp_fld (f1 h0) 10) = (tp_fld (f h0) 10) ∧ r.toInt = 2))) ∧ (tp_fld (f h0) 22) ≤ (tp_fld (f1 h0) 22) ∧ (tp_fld (f1 h0) 9) = (tp_fld (f h0) 9) ∧ (tp_fld (f1 h0) 19) = (tp_fld (f h0) 19) ∧ (tp_fld (f1 h0) 20) = (tp_fld (f h0) 20)) (fun (f1 : Nat → va_E) (t : State) => pz_E dC dI (tp_K κ) (va_A (va_pl L f) sz) (va_pl L f1) t) (va_A (va_pl L f) sz)) 0 0 (va_A (va_pl L f) sz) := by
  refine Met.ofW (cc := cX12_behindSum) (maxL := 4) (ret := some .int) (by decide) rfl ?_
  intro p e s m args below meth c s₁ B hml hv
  obtain ⟨rfl, hsz, hP, hK, hD0, hN⟩ := hv
  have hx := B.exec
  have hb := B.bytes
  have hr := B.returns
  have hts := fun (w : Cond) (h : w ∈ WALL) => atoms_spec (ws := wqX12_behindSum) B.pre w (List.mem_cons_of_mem _ h)
  have hown : s.vm.findClass RX12 = some m.cls := findClass_of_methodNamed B.named
  have hlocks := B.notSynchronized
  subst hsz
  have hD := hD0.self (sz := s.heap.size)
  generalize hAe : va_A (va_pl L f) s.heap.size = A at hD ⊢
  have hA : ∀ q : Nat, s.heap.size ≤ q → A q := fun q h => by rw [← hAe]; exact Or.inr h
  have hS : va_S A s.heap s.heap [] := va_S.rf
  have hR : tp_F τ [13, 53, 54, 56, 57] f f := tp_F.rf
  have hl := lv_entry ([.ref h0, .int v]) (n := 4) (Nat.le_of_ble_eq_true rfl)
  rw [lg_entry_eq]
  generalize (lg_sl ([.ref h0, .int v]) ++ List.replicate (4 - (lg_sl ([.ref h0, .int v])).length) Slot.unset).toArray = ls at hl ⊢
  have hl : lv_has ls 4 [(0, .ref h0), (1, .int v)] := hl
  obtain ⟨y1, y2, y3, y4, y5, y6, y7, y8, y9, y10, y11, y12, y13, y14, y15, y16, y17, y18, y19, y20, y21, y22, y23, y24, y25⟩ := tpg_13 hG ht_h0
  obtain ⟨g27, hf_o26⟩ := tpo_53 hT y8
  have tf28 : mo_i (f (ρ h0 23)) = g27 := tfa_i hf_o26
  obtain ⟨g30, hf_o29⟩ := tpo_54 hT y9
  have tf31 : mo_i (f (ρ h0 24)) = g30 := tfa_i hf_o29
  obtain ⟨g33, hf_o32⟩ := tpo_56 hT y10
  have tf34 : mo_i (f (ρ h0 26)) = g33 := tfa_i hf_o32
  obtain ⟨g36, hf_o35⟩ := tpo_57 hT y11
  have tf37 : mo_i (f (ρ h0 27)) = g36 := tfa_i hf_o35
  obtain ⟨o38_x0, o38_x1, o38_x7, o38_x9, o38_x10, o38_x11, o38_x12, o38_x13, o38_x14, o38_x15, o38_x16, o38_x17, o38_x18, o38_x19, o38_x20, o38_x22, o38_x25, o38_x28, o38_x29, o38_x32, o38_x33, o38_x34, o38_x35, o38_x36, o38_x37, o38_x38, o38_x47, o38_x48, hf_o38, ro38_0, ro38_1, ro38_2, ro38_3, ro38_4, ro38_5, ro38_6, ro38_7, ro38_8, ro38_9, ro38_10, ro38_11, ro38_12, ro38_13⟩ := tpo_13 hT ht_h0
  have tf39 : tp_fld (f h0) 9 = o38_x9.toInt := tff_9 hf_o38
  have tf40 : tp_fld (f h0) 10 = o38_x10.toInt := tff_10 hf_o38
  have tf41 : tp_fld (f h0) 11 = o38_x11.toInt := tff_11 hf_o38
  have tf42 : tp_fld (f h0) 12 = o38_x12.toInt := tff_12 hf_o38
  have tf43 : tp_fld (f h0) 15 = o38_x15.toInt := tff_15 hf_o38
  have tf44 : tp_fld (f h0) 19 = o38_x19.toInt := tff_19 hf_o38
  have tf45 : tp_fld (f h0) 20 = o38_x20.toInt := tff_20 hf_o38
  have tf46 : tp_fld (f h0) 22 = o38_x22.toInt := tff_22 hf_o38
  have tf47 : tp_fld (f h0) 28 = o38_x28.toInt := tff_28 hf_o38
  have tf48 : mo_fj (f h0) 13 = o38_x13.toInt := tff_13 hf_o38
  have h1 : (o38_x10.toInt ≤ o38_x11.toInt ∧ o38_x11.toInt ≤ o38_x9.toInt ∧ (o38_x12.toInt = 0 ∨ o38_x10.toInt < o38_x11.toInt) ∧ (o38_x12.toInt = 1 → o38_x11.toInt = o38_x10.toInt + 1 → o38_x13.toInt ≤ 26)) := by have q9 := h1; first | (simp only [tf40, tf41, tf39, tf42, tf48, mo_i1, mo_l1] at q9; exact q9) | (rw [tf40, tf41, tf39, tf42, tf48] at q9; exact q9)
  have hb0 : o38_x15.toInt = 0 := by have q9 := hb0; first | (simp only [tf43, mo_i1, mo_l1] at q9; exact q9) | (rw [tf43] at q9; exact q9)
  have h2 : o38_x22.toInt + o38_x28.toInt ≤ o38_x10.toInt := by have q9 := h2; first | (simp only [tf46, tf47, tf40, mo_i1, mo_l1] at q9; exact q9) | (rw [tf46, tf47, tf40] at q9; exact q9)
  have h3 : mo_PV (mo_R g33) (mo_R g36) o38_x28.toInt := by have q9 := h3; first | (simp only [tf34, tf37, tf47, mo_i1, mo_l1] at q9; exact q9) | (rw [tf34, tf37, tf47] at q9; exact q9)
  have h4 : mo_EX aa 3 (mo_R g27) (mo_R g30) (mo_R g33) (mo_R g36) o38_x22.toInt o38_x28.toInt := by have q9 := h4; first | (simp only [tf28, tf31, tf34, tf37, tf46, tf47, mo_i1, mo_l1] at q9; exact q9) | (rw [tf28, tf31, tf34, tf37, tf46, tf47] at q9; exact q9)
  refine lv_aload_n hx hb dX12_behindSum_0 rfl (lv_at hl 0 rfl) ?_
  refine lv_bipush (v := 43) hx hb dX12_behindSum_1 (by decide) ?_
  obtain ⟨q49, eq49⟩ := tp_pos (tp_in hG ht_h0 (by decide)) hf_o38
  refine pz_calli (va_runV (As := [.int 43]) (rest := []) ⟨hx, hb, hml, hown, hts⟩ (t_X12_isSign l dC dI _ κ τ ν ρ L f hG hT h0 (43) ht_h0) (cwV 1 hts gX12_behindSum_X12_isSign rfl rfl rfl ⟨rfl, pd_X12_isSign⟩ ⟨Nat.le_of_ble_eq_true rfl, Nat.le_of_ble_eq_true rfl⟩) ⟨pz_blind, va_recv hK hP (ci := 12) (q0 := q49) rfl eq49, pz_pre hP hK hD hN⟩ rfl rfl hl.1 rfl (lv_room (Nat.le_of_ble_eq_true rfl)) dX12_behindSum_3 ⟨Nat.le_of_ble_eq_true rfl, Nat.le_of_ble_eq_true rfl⟩) (fun r50 hw51 => ?_)
  obtain ⟨hw51r, hw51p⟩ := hw51
  have tk52 : (r50.toInt ≠ 0 → o38_x12.toInt = 3 ∧ o38_x13.toInt = (43 : Int)) := by have q9 := hw51p; first | (simp only [tf42, tf48, mo_i1, mo_l1] at q9; exact q9) | (rw [tf42, tf48] at q9; exact q9)
  refine lv_if_eq (tgt := 14) hx hb dX12_behindSum_6 (by decide) (fun c53 => ?_) (fun c53 => ?_)
  · have ic53 : r50.toInt = 0 := zi_eq rfl rfl c53
    refine lv_aload_n hx hb dX12_behindSum_14 rfl (lv_at hl 0 rfl) ?_
    refine lv_bipush (v := 45) hx hb dX12_behindSum_15 (by decide) ?_
    refine pz_calli (va_runV (As := [.int 45]) (rest := []) ⟨hx, hb, hml, hown, hts⟩ (t_X12_isSign l dC dI _ κ τ ν ρ L f hG hT h0 (45) ht_h0) (cwV 1 hts gX12_behindSum_X12_isSign rfl rfl rfl ⟨rfl, pd_X12_isSign⟩ ⟨Nat.le_of_ble_eq_true rfl, Nat.le_of_ble_eq_true rfl⟩) ⟨pz_blind, va_recv hK hP (ci := 12) (q0 := q49) rfl eq49, pz_pre hP hK hD hN⟩ rfl rfl hl.1 rfl (lv_room (Nat.le_of_ble_eq_true rfl)) dX12_behindSum_17 ⟨Nat.le_of_ble_eq_true rfl, Nat.le_of_ble_eq_true rfl⟩) (fun r54 hw55 => ?_)
    obtain ⟨hw55r, hw55p⟩ := hw55
    have tk56 : (r54.toInt ≠ 0 → o38_x12.toInt = 3 ∧ o38_x13.toInt = (45 : Int)) := by have q9 := hw55p; first | (simp only [tf42, tf48, mo_i1, mo_l1] at q9; exact q9) | (rw [tf42, tf48] at q9; exact q9)
    refine lv_if_eq (tgt := 28) hx hb dX12_behindSum_20 (by decide) (fun c57 => ?_) (fun c57 => ?_)
    · have ic57 : r54.toInt = 0 := zi_eq rfl rfl c57
      refine lv_aload_n hx hb dX12_behindSum_28 rfl (lv_at hl 0 rfl) ?_
      refine lv_bipush (v := 42) hx hb dX12_behindSum_29 (by decide) ?_
      refine pz_calli (va_runV (As := [.int 42]) (rest := []) ⟨hx, hb, hml, hown, hts⟩ (t_X12_isSign l dC dI _ κ τ ν ρ L f hG hT h0 (42) ht_h0) (cwV 1 hts gX12_behindSum_X12_isSign rfl rfl rfl ⟨rfl, pd_X12_isSign⟩ ⟨Nat.le_of_ble_eq_true rfl, Nat.le_of_ble_eq_true rfl⟩) ⟨pz_blind, va_recv hK hP (ci := 12) (q0 := q49) rfl eq49, pz_pre hP hK hD hN⟩ rfl rfl hl.1 rfl (lv_room (Nat.le_of_ble_eq_true rfl)) dX12_behindSum_31 ⟨Nat.le_of_ble_eq_true rfl, Nat.le_of_ble_eq_true rfl⟩) (fun r58 hw59 => ?_)
      obtain ⟨hw59r, hw59p⟩ := hw59
      have tk60 : (r58.toInt ≠ 0 → o38_x12.toInt = 3 ∧ o38_x13.toInt = (42 : Int)) := by have q9 := hw59p; first | (simp only [tf42, tf48, mo_i1, mo_l1] at q9; exact q9) | (rw [tf42, tf48] at q9; exact q9)
      refine lv_if_eq (tgt := 42) hx hb dX12_behindSum_34 (by decide) (fun c61 => ?_) (fun c61 => ?_)
      · have ic61 : r58.toInt = 0 := zi_eq rfl rfl c61
        refine lv_aload_n hx hb dX12_behindSum_42 rfl (lv_at hl 0 rfl) ?_
        refine lv_bipush (v := 47) hx hb dX12_behindSum_43 (by decide) ?_
        refine pz_calli (va_runV (As := [.int 47]) (rest := []) ⟨hx, hb, hml, hown, hts⟩ (t_X12_isSign l dC dI _ κ τ ν ρ L f hG hT h0 (47) ht_h0) (cwV 1 hts gX12_behindSum_X12_isSign rfl rfl rfl ⟨rfl, pd_X12_isSign⟩ ⟨Nat.le_of_ble_eq_true rfl, Nat.le_of_ble_eq_true rfl⟩) ⟨pz_blind, va_recv hK hP (ci := 12) (q0 := q49) rfl eq49, pz_pre hP hK hD hN⟩ rfl rfl hl.1 rfl (lv_room (Nat.le_of_ble_eq_true rfl)) dX12_behindSum_45 ⟨Nat.le_of_ble_eq_true rfl, Nat.le_of_ble_eq_true rfl⟩) (fun r62 hw63 => ?_)
        obtain ⟨hw63r, hw63p⟩ := hw63
        have tk64 : (r62.toInt ≠ 0 → o38_x12.toInt = 3 ∧ o38_x13.toInt = (47 : Int)) := by have q9 := hw63p; first | (simp only [tf42, tf48, mo_i1, mo_l1] at q9; exact q9) | (rw [tf42, tf48] at q9; exact q9)
        refine lv_if_eq (tgt := 56) hx hb dX12_behindSum_48 (by decide) (fun c65 => ?_) (fun c65 => ?_)
        · have ic65 : r62.toInt = 0 := zi_eq rfl rfl c65
          refine lv_iconst (v := (-1)) hx hb dX12_behindSum_56 (by decide) ?_
          refine lv_istore_n (lv' := [(2, .int (-1)), (0, .ref h0), (1, .int v)]) hx hb dX12_behindSum_57 rfl hl (by decide) rfl (fun ls hl => ?_)
          refine lv_iload_n hx hb dX12_behindSum_58 rfl (lv_at hl 0 rfl) ?_
          refine lv_iconst (v := (-1)) hx hb dX12_behindSum_59 (by decide) ?_
          refine lv_icmp_eq (tgt := 83) hx hb dX12_behindSum_60 (by decide) (fun _ => ?_) (fun c9 => absurd c9 (by decide))
          refine lv_aload_n hx hb dX12_behindSum_83 rfl (lv_at hl 1 rfl) ?_
          refine pz_calli (va_runV (As := []) (rest := []) ⟨hx, hb, hml, hown, hts⟩ (t_X12_inner l dC dI _ κ τ ν ρ L f hG hT h0 ht_h0) (cwV 0 hts gX12_behindSum_X12_inner rfl rfl rfl ⟨rfl, pd_X12_inner⟩ ⟨Nat.le_of_ble_eq_true rfl, Nat.le_of_ble_eq_true rfl⟩) ⟨pz_blind, va_recv hK hP (ci := 12) (q0 := q49) rfl eq49, pz_pre hP hK hD hN⟩ rfl rfl hl.1 rfl (lv_room (Nat.le_of_ble_eq_true rfl)) dX12_behindSum_84 ⟨Nat.le_of_ble_eq_true rfl, Nat.le_of_ble_eq_true rfl⟩) (fun r66 hw67 => ?_)
          obtain ⟨hw67r, hw67p⟩ := hw67
          have tk68 : r66.toInt = mo_in (mo_R g33) (o38_x28.toInt).toNat := by have q9 := hw67p; first | (simp only [tf34, tf47, mo_i1, mo_l1] at q9; exact q9) | (rw [tf34, tf47] at q9; exact q9)
          refine lv_istore_n (lv' := [(3, .int r66), (2, .int (-1)), (0, .ref h0), (1, .int v)]) hx hb dX12_behindSum_87 rfl hl (by decide) rfl (fun ls hl => ?_)
          refine lv_iload_n hx hb dX12_behindSum_88 rfl (lv_at hl 0 rfl) ?_
          refine lv_bipush (v := 31) hx hb dX12_behindSum_89 (by decide) ?_
          refine lv_icmp_ne (tgt := 138) hx hb dX12_behindSum_91 (by decide) (fun c69 => ?_) (fun c69 => ?_)
          · have ic69 : r66.toInt ≠ 31 := zi_ne rfl rfl c69
            refine lv_iload_n hx hb dX12_behindSum_138 rfl (lv_at hl 0 rfl) ?_
            refine lv_iconst (v := (-1)) hx hb dX12_behindSum_139 (by decide) ?_
            refine lv_icmp_ne (tgt := 149) hx hb dX12_behindSum_140 (by decide) (fun c70 => ?_) (fun c70 => ?_)
            · have ic70 : r66.toInt ≠ (-1) := zi_ne rfl rfl c70
              refine lv_aload_n hx hb dX12_behindSum_149 rfl (lv_at hl 2 rfl) ?_
              refine pz_calli (va_runV (As := []) (rest := []) ⟨hx, hb, hml, hown, hts⟩ (t_X12_isCompared l dC dI _ κ τ ν ρ L f hG hT h0 ht_h0) (cwV 0 hts gX12_behindSum_X12_isCompared rfl rfl rfl ⟨rfl, pd_X12_isCompared⟩ ⟨Nat.le_of_ble_eq_true rfl, Nat.le_of_ble_eq_true rfl⟩) ⟨pz_blind, va_recv hK hP (ci := 12) (q0 := q49) rfl eq49, pz_pre hP hK hD hN⟩ rfl rfl hl.1 rfl (lv_room (Nat.le_of_ble_eq_true rfl)) dX12_behindSum_150 ⟨Nat.le_of_ble_eq_true rfl, Nat.le_of_ble_eq_true rfl⟩) (fun r71 hw72 => ?_)
              obtain ⟨hw72r, hw72p⟩ := hw72
              refine lv_if_eq (tgt := 158) hx hb dX12_behindSum_153 (by decide) (fun c73 => ?_) (fun c73 => ?_)
              · have ic73 : r71.toInt = 0 := zi_eq rfl rfl c73
                refine lv_aload_n hx hb dX12_behindSum_158 rfl (lv_at hl 2 rfl) ?_
                refine lv_bipush (v := 60) hx hb dX12_behindSum_159 (by decide) ?_
                refine pz_calli (va_runV (As := [.int 60]) (rest := []) ⟨hx, hb, hml, hown, hts⟩ (t_X12_isSign l dC dI _ κ τ ν ρ L f hG hT h0 (60) ht_h0) (cwV 1 hts gX12_behindSum_X12_isSign rfl rfl rfl ⟨rfl, pd_X12_isSign⟩ ⟨Nat.le_of_ble_eq_true rfl, Nat.le_of_ble_eq_true rfl⟩) ⟨pz_blind, va_recv hK hP (ci := 12) (q0 := q49) rfl eq49, pz_pre hP hK hD hN⟩ rfl rfl hl.1 rfl (lv_room (Nat.le_of_ble_eq_true rfl)) dX12_behindSum_161 ⟨Nat.le_of_ble_eq_true rfl, Nat.le_of_ble_eq_true rfl⟩) (fun r74 hw75 => ?_)
                obtain ⟨hw75r, hw75p⟩ := hw75
                have tk76 : (r74.toInt ≠ 0 → o38_x12.toInt = 3 ∧ o38_x13.toInt = (60 : Int)) := by have q9 := hw75p; first | (simp only [tf42, tf48, mo_i1, mo_l1] at q9; exact q9) | (rw [tf42, tf48] at q9; exact q9)
                refine lv_if_eq (tgt := 172) hx hb dX12_behindSum_164 (by decide) (fun c77 => ?_) (fun c77 => ?_)
                · have ic77 : r74.toInt = 0 := zi_eq rfl rfl c77
                  refine lv_aload_n hx hb dX12_behindSum_172 rfl (lv_at hl 2 rfl) ?_
                  refine lv_bipush (v := 62) hx hb dX12_behindSum_173 (by decide) ?_
                  refine pz_calli (va_runV (As := [.int 62]) (rest := []) ⟨hx, hb, hml, hown, hts⟩ (t_X12_isSign l dC dI _ κ τ ν ρ L f hG hT h0 (62) ht_h0) (cwV 1 hts gX12_behindSum_X12_isSign rfl rfl rfl ⟨rfl, pd_X12_isSign⟩ ⟨Nat.le_of_ble_eq_true rfl, Nat.le_of_ble_eq_true rfl⟩) ⟨pz_blind, va_recv hK hP (ci := 12) (q0 := q49) rfl eq49, pz_pre hP hK hD hN⟩ rfl rfl hl.1 rfl (lv_room (Nat.le_of_ble_eq_true rfl)) dX12_behindSum_175 ⟨Nat.le_of_ble_eq_true rfl, Nat.le_of_ble_eq_true rfl⟩) (fun r78 hw79 => ?_)
                  obtain ⟨hw79r, hw79p⟩ := hw79
                  have tk80 : (r78.toInt ≠ 0 → o38_x12.toInt = 3 ∧ o38_x13.toInt = (62 : Int)) := by have q9 := hw79p; first | (simp only [tf42, tf48, mo_i1, mo_l1] at q9; exact q9) | (rw [tf42, tf48] at q9; exact q9)
                  refine lv_if_eq (tgt := 186) hx hb dX12_behindSum_178 (by decide) (fun c81 => ?_) (fun c81 => ?_)
                  · have ic81 : r78.toInt = 0 := zi_eq rfl rfl c81
                    refine lv_bipush (v := 16) hx hb dX12_behindSum_186 (by decide) ?_
                    refine lv_istore_n (lv' := [(2, .int 16), (3, .int r66), (0, .ref h0), (1, .int v)]) hx hb dX12_behindSum_188 rfl hl (by decide) rfl (fun ls hl => ?_)
                    refine lv_aload_n hx hb dX12_behindSum_189 rfl (lv_at hl 2 rfl) ?_
                    refine lv_iload_n hx hb dX12_behindSum_190 rfl (lv_at hl 0 rfl) ?_
                    refine lv_bipush (v := 16) hx hb dX12_behindSum_191 (by decide) ?_
                    refine lv_icmp_ne (tgt := 205) hx hb dX12_behindSum_193 (by decide) (fun c9 => absurd c9 (by decide)) (fun _ => ?_)
                    refine lv_aload_n hx hb dX12_behindSum_196 rfl (lv_at hl 2 rfl) ?_
                    refine lv_bipush (v := 61) hx hb dX12_behindSum_197 (by decide) ?_
                    refine pz_calli (va_runV (As := [.int 61]) (rest := [.ref h0]) ⟨hx, hb, hml, hown, hts⟩ (t_X12_isSign l dC dI _ κ τ ν ρ L f hG hT h0 (61) ht_h0) (cwV 1 hts gX12_behindSum_X12_isSign rfl rfl rfl ⟨rfl, pd_X12_isSign⟩ ⟨Nat.le_of_ble_eq_true rfl, Nat.le_of_ble_eq_true rfl⟩) ⟨pz_blind, va_recv hK hP (ci := 12) (q0 := q49) rfl eq49, pz_pre hP hK hD hN⟩ rfl rfl hl.1 rfl (lv_room (Nat.le_of_ble_eq_true rfl)) dX12_behindSum_199 ⟨Nat.le_of_ble_eq_true rfl, Nat.le_of_ble_eq_true rfl⟩) (fun r82 hw83 => ?_)
                    obtain ⟨hw83r, hw83p⟩ := hw83
                    have tk84 : (r82.toInt ≠ 0 → o38_x12.toInt = 3 ∧ o38_x13.toInt = (61 : Int)) := by have q9 := hw83p; first | (simp only [tf42, tf48, mo_i1, mo_l1] at q9; exact q9) | (rw [tf42, tf48] at q9; exact q9)
                    refine lv_if_eq (tgt := 209) hx hb dX12_behindSum_202 (by decide) (fun c85 => ?_) (fun c85 => ?_)
                    · have ic85 : r82.toInt = 0 := zi_eq rfl rfl c85
                      refine lv_iconst (v := 0) hx hb dX12_behindSum_209 (by decide) ?_
                      have hFc := tp_fr hD hS hA
                      refine va_callv (va_runV (As := [.int 0]) (rest := []) ⟨hx, hb, hml, hown, hts⟩ (t_X12_must l dC dI _ κ τ ν ρ L f hG hT h0 (0) ht_h0 (by first | decide | omega) (by first | (simp only [tf40, tf41, tf39, tf42, tf48, mo_i1, mo_l1]; exact (show (o38_x10.toInt ≤ o38_x11.toInt ∧ o38_x11.toInt ≤ o38_x9.toInt ∧ (o38_x12.toInt = 0 ∨ o38_x10.toInt < o38_x11.toInt) ∧ (o38_x12.toInt = 1 → o38_x11.toInt = o38_x10.toInt + 1 → o38_x13.toInt ≤ 26)) from by have : (0 : Int32).toInt = 0 := rfl; first | omega | decide)) | (rw [tf40, tf41, tf39, tf42, tf48]; exact (show (o38_x10.toInt ≤ o38_x11.toInt ∧ o38_x11.toInt ≤ o38_x9.toInt ∧ (o38_x12.toInt = 0 ∨ o38_x10.toInt < o38_x11.toInt) ∧ (o38_x12.toInt = 1 → o38_x11.toInt = o38_x10.toInt + 1 → o38_x13.toInt ≤ 26)) from by have : (0 : Int32).toInt = 0 := rfl; first | omega | decide)))) (cwV 1 hts gX12_behindSum_X12_must rfl rfl rfl ⟨rfl, pd_X12_must⟩ ⟨Nat.le_of_ble_eq_true rfl, Nat.le_of_ble_eq_true rfl⟩) ⟨pz_blind, va_recv hK hP (ci := 12) (q0 := q49) rfl eq49, pz_pre hP hK hD hN⟩ rfl rfl hl.1 rfl (lv_room (Nat.le_of_ble_eq_true rfl)) dX12_behindSum_210 ⟨Nat.le_of_ble_eq_true rfl, Nat.le_of_ble_eq_true rfl⟩) hS (fun q _ h => hFc q h) hFc (fun f88 t H1 locs ht hvm hw87 hB hz1 hk1 hS => ?_)
                      obtain ⟨hT, hF89, hw87p⟩ := hw87
                      have hR := hR.then hF89 (by decide)
                      have hP := hB.1; rw [ht] at hP; have hD := tp_ad f88 hD; clear hB hFc hz1 hk1; subst ht; generalize t.heap = H at hP hS ⊢
                      obtain ⟨o90_x0, o90_x1, o90_x7, o90_x9, o90_x10, o90_x11, o90_x12, o90_x13, o90_x14, o90_x15, o90_x16, o90_x17, o90_x18, o90_x19, o90_x20, o90_x22, o90_x25, o90_x28, o90_x29, o90_x32, o90_x33, o90_x34, o90_x35, o90_x36, o90_x37, o90_x38, o90_x47, o90_x48, hf_o90, ro90_0, ro90_1, ro90_2, ro90_3, ro90_4, ro90_5, ro90_6, ro90_7, ro90_8, ro90_9, ro90_10, ro90_11, ro90_12, ro90_13⟩ := tpo_13 hT ht_h0
                      have tf91 : tp_fld (f88 h0) 10 = o90_x10.toInt := tff_10 hf_o90
                      have tf92 : tp_fld (f88 h0) 11 = o90_x11.toInt := tff_11 hf_o90
                      have tf93 : tp_fld (f88 h0) 9 = o90_x9.toInt := tff_9 hf_o90
                      have tf94 : tp_fld (f88 h0) 12 = o90_x12.toInt := tff_12 hf_o90
                      have tf95 : mo_fj (f88 h0) 13 = o90_x13.toInt := tff_13 hf_o90
                      have tf96 : tp_fld (f88 h0) 15 = o90_x15.toInt := tff_15 hf_o90
                      have tf97 : tp_fld (f88 h0) 19 = o90_x19.toInt := tff_19 hf_o90
                      have tf98 : tp_fld (f88 h0) 20 = o90_x20.toInt := tff_20 hf_o90
                      have tf99 : tp_fld (f88 h0) 22 = o90_x22.toInt := tff_22 hf_o90
                      have tf100 : tp_fld (f88 h0) 28 = o90_x28.toInt := tff_28 hf_o90
                      have tk101 : (o90_x10.toInt ≤ o90_x11.toInt ∧ o90_x11.toInt ≤ o90_x9.toInt ∧ (o90_x12.toInt = 0 ∨ o90_x10.toInt < o90_x11.toInt) ∧ (o90_x12.toInt = 1 → o90_x11.toInt = o90_x10.toInt + 1 → o90_x13.toInt ≤ 26)) ∧ (o90_x15.toInt = 0 → o38_x15.toInt = 0 ∧ o38_x11.toInt ≤ o90_x10.toInt ∧ (0 : Int) ≠ 0) ∧ (o90_x15.toInt ≠ 0 → o90_x10.toInt = o38_x10.toInt) ∧ o90_x9.toInt = o38_x9.toInt ∧ o90_x19.toInt = o38_x19.toInt ∧ o90_x20.toInt = o38_x20.toInt ∧ o90_x22.toInt = o38_x22.toInt ∧ o90_x28.toInt = o38_x28.toInt := by have q9 := hw87p; first | (simp only [tf91, tf92, tf93, tf94, tf95, tf96, tf43, tf41, tf40, tf39, tf97, tf44, tf98, tf45, tf99, tf46, tf100, tf47, mo_i1, mo_l1] at q9; exact q9) | (rw [tf91, tf92, tf93, tf94, tf95, tf96, tf43, tf41, tf40, tf39, tf97, tf44, tf98, tf45, tf99, tf46, tf100, tf47] at q9; exact q9)
                      refine lv_aload_n hx hb dX12_behindSum_213 rfl (lv_at hl 2 rfl) ?_
                      obtain ⟨q102, eq102⟩ := tp_pos (tp_in hG ht_h0 (by decide)) hf_o90
                      refine va_get (D := (dC, dI)) (ci := 12) (v := .int o90_x15) (C := RX12) (T := TX12) (N := 53) hx hb hts hfX12 hown hK hP q102 eq102 rfl 15 (by decide) (hts (.fieldLink RX12 261 "ColdShipsModel" "bad" "Z") wa_994) (fun _ h9 => h9) rfl dX12_behindSum_214 ?_
                      refine lv_if_ne (tgt := 231) hx hb dX12_behindSum_217 (by decide) (fun c103 => ?_) (fun c103 => ?_)
                      · have ic103 : o90_x15.toInt ≠ 0 := zi_ne rfl rfl c103
                        refine lv_iconst (v := 1) hx hb dX12_behindSum_231 (by decide) ?_
                        have hf_104 : f88 (ρ h0 26) = .inl (κ 0, 400, .inl g33) := (hF89 _ (by rw [y10]; decide)).trans hf_o32
                        have tf105 : mo_i (f88 (ρ h0 26)) = g33 := tfa_i hf_104
                        have hf_106 : f88 (ρ h0 27) = .inl (κ 0, 400, .inl g36) := (hF89 _ (by rw [y11]; decide)).trans hf_o35
                        have tf107 : mo_i (f88 (ρ h0 27)) = g36 := tfa_i hf_106
                        have hf_108 : f88 (ρ h0 23) = .inl (κ 0, 400, .inl g27) := (hF89 _ (by rw [y8]; decide)).trans hf_o26
                        have tf109 : mo_i (f88 (ρ h0 23)) = g27 := tfa_i hf_108
                        have hf_110 : f88 (ρ h0 24) = .inl (κ 0, 400, .inl g30) := (hF89 _ (by rw [y9]; decide)).trans hf_o29
                        have tf111 : mo_i (f88 (ρ h0 24)) = g30 := tfa_i hf_110
                        exact W.iret (v := 1) hx hb hr (fun t ht hW => ⟨⟨1, f88, rfl, ⟨hT, hR, (by first | decide | omega), (by first | (simp only [tf91, tf92, tf93, tf94, tf95, tf99, tf100, tf105, tf107, tf96, tf109, tf111, tf28, tf31, tf40, tf46, tf39, tf97, tf44, tf98, tf45, mo_i1, mo_l1]; exact (show (o90_x10.toInt ≤ o90_x11.toInt ∧ o90_x11.toInt ≤ o90_x9.toInt ∧ (o90_x12.toInt = 0 ∨ o90_x10.toInt < o90_x11.toInt) ∧ (o90_x12.toInt = 1 → o90_x11.toInt = o90_x10.toInt + 1 → o90_x13.toInt ≤ 26)) ∧ o90_x22.toInt + o90_x28.toInt ≤ o90_x10.toInt ∧ mo_PV (mo_R g33) (mo_R g36) o90_x28.toInt ∧ (o90_x15.toInt = 0 → mo_EX aa (1 : Int32).toInt (mo_R g27) (mo_R g30) (mo_R g33) (mo_R g36) o90_x22.toInt o90_x28.toInt ∧ mo_FR aa (mo_R g27) (mo_R g30) (mo_R g27) (mo_R g30) ∧ ((1 : Int32).toInt = 4 ∨ o38_x10.toInt < o90_x10.toInt ∨ (o90_x10.toInt = o38_x10.toInt ∧ (1 : Int32).toInt = 2))) ∧ o38_x22.toInt ≤ o90_x22.toInt ∧ o90_x9.toInt = o38_x9.toInt ∧ o90_x19.toInt = o38_x19.toInt ∧ o90_x20.toInt = o38_x20.toInt from ⟨by omega, by omega, h3, fun q9 => by exfalso; omega, by omega, by omega, by omega, by omega⟩)) | (rw [tf91, tf92, tf93, tf94, tf95, tf99, tf100, tf105, tf107, tf96, tf109, tf111, tf28, tf31, tf40, tf46, tf39, tf97, tf44, tf98, tf45]; exact (show (o90_x10.toInt ≤ o90_x11.toInt ∧ o90_x11.toInt ≤ o90_x9.toInt ∧ (o90_x12.toInt = 0 ∨ o90_x10.toInt < o90_x11.toInt) ∧ (o90_x12.toInt = 1 → o90_x11.toInt = o90_x10.toInt + 1 → o90_x13.toInt ≤ 26)) ∧ o90_x22.toInt + o90_x28.toInt ≤ o90_x10.toInt ∧ mo_PV (mo_R g33) (mo_R g36) o90_x28.toInt ∧ (o90_x15.toInt = 0 → mo_EX aa (1 : Int32).toInt (mo_R g27) (mo_R g30) (mo_R g33) (mo_R g36) o90_x22.toInt o90_x28.toInt ∧ mo_FR aa (mo_R g27) (mo_R g30) (mo_R g27) (mo_R g30) ∧ ((1 : Int32).toInt = 4 ∨ o38_x10.toInt < o90_x10.toInt ∨ (o90_x10.toInt = o38_x10.toInt ∧ (1 : Int32).toInt = 2))) ∧ o38_x22.toInt ≤ o90_x22.toInt ∧ o90_x9.toInt = o38_x9.toInt ∧ o90_x19.toInt = o38_x19.toInt ∧ o90_x20.toInt = o38_x20.toInt from ⟨by omega, by omega, h3, fun q9 => by exfalso; omega, by omega, by omega, by omega, by omega⟩)))⟩, by rw [ht]; exact hP, va_K.moved hW.alike hK, hD⟩, hS.F ht⟩) hS.2.2 dX12_behindSum_232
                      · have ic103 : o90_x15.toInt = 0 := zi_nef rfl rfl c103
                        refine lv_aload_n hx hb dX12_behindSum_220 rfl (lv_at hl 2 rfl) ?_
                        refine lv_iconst (v := 5) hx hb dX12_behindSum_221 (by decide) ?_
                        have hf_112 : f88 (ρ h0 26) = .inl (κ 0, 400, .inl g33) := (hF89 _ (by rw [y10]; decide)).trans hf_o32
                        have tf113 : mo_i (f88 (ρ h0 26)) = g33 := tfa_i hf_112
                        have hf_114 : f88 (ρ h0 27) = .inl (κ 0, 400, .inl g36) := (hF89 _ (by rw [y11]; decide)).trans hf_o35
                        have tf115 : mo_i (f88 (ρ h0 27)) = g36 := tfa_i hf_114
                        have hf_116 : f88 (ρ h0 23) = .inl (κ 0, 400, .inl g27) := (hF89 _ (by rw [y8]; decide)).trans hf_o26
                        have tf117 : mo_i (f88 (ρ h0 23)) = g27 := tfa_i hf_116
                        have hf_118 : f88 (ρ h0 24) = .inl (κ 0, 400, .inl g30) := (hF89 _ (by rw [y9]; decide)).trans hf_o29
                        have tf119 : mo_i (f88 (ρ h0 24)) = g30 := tfa_i hf_118
                        have hFc := tp_fr hD hS hA
                        refine va_callv (va_runV (As := [.int 5]) (rest := []) ⟨hx, hb, hml, hown, hts⟩ (t_X12_settleDown l dC dI _ κ τ ν ρ L f88 hG hT h0 (5) aa ht_h0 (by first | decide | omega) (by first | (simp only [tf99, tf100, mo_i1, mo_l1]; exact (show o90_x22.toInt + o90_x28.toInt ≤ 400 from by omega)) | (rw [tf99, tf100]; exact (show o90_x22.toInt + o90_x28.toInt ≤ 400 from by omega))) (by first | (simp only [tf113, tf115, tf100, mo_i1, mo_l1]; exact (show mo_PV (mo_R g33) (mo_R g36) o90_x28.toInt from h3)) | (rw [tf113, tf115, tf100]; exact (show mo_PV (mo_R g33) (mo_R g36) o90_x28.toInt from h3))) (by first | (simp only [tf96, tf117, tf119, tf113, tf115, tf99, tf100, mo_i1, mo_l1]; exact (show (o90_x15.toInt = 0 → 0 ≤ aa ∧ mo_PJ aa (mo_R g27) (mo_R g30) (mo_R g33) (mo_R g36) o90_x22.toInt o90_x28.toInt 1) from fun _ => ⟨h4.1, h4.pj1 (by decide)⟩)) | (rw [tf96, tf117, tf119, tf113, tf115, tf99, tf100]; exact (show (o90_x15.toInt = 0 → 0 ≤ aa ∧ mo_PJ aa (mo_R g27) (mo_R g30) (mo_R g33) (mo_R g36) o90_x22.toInt o90_x28.toInt 1) from fun _ => ⟨h4.1, h4.pj1 (by decide)⟩)))) (cwV 1 hts gX12_behindSum_X12_settleDown rfl rfl rfl ⟨rfl, pd_X12_settleDown⟩ ⟨Nat.le_of_ble_eq_true rfl, Nat.le_of_ble_eq_true rfl⟩) ⟨pz_blind, va_recv hK hP (ci := 12) (q0 := q102) rfl eq102, pz_pre hP hK hD hN⟩ rfl rfl hl.1 rfl (lv_room (Nat.le_of_ble_eq_true rfl)) dX12_behindSum_222 ⟨Nat.le_of_ble_eq_true rfl, Nat.le_of_ble_eq_true rfl⟩) hS (fun q _ h => hFc q h) hFc (fun f122 t H1 locs ht hvm hw121 hB hz1 hk1 hS => ?_)
                        obtain ⟨hT, hF123, hw121p⟩ := hw121
                        have hR := hR.then hF123 (by decide)
                        have hP := hB.1; rw [ht] at hP; have hD := tp_ad f122 hD; clear hB hFc hz1 hk1; subst ht; generalize t.heap = H at hP hS ⊢
                        obtain ⟨o124_x0, o124_x1, o124_x7, o124_x9, o124_x10, o124_x11, o124_x12, o124_x13, o124_x14, o124_x15, o124_x16, o124_x17, o124_x18, o124_x19, o124_x20, o124_x22, o124_x25, o124_x28, o124_x29, o124_x32, o124_x33, o124_x34, o124_x35, o124_x36, o124_x37, o124_x38, o124_x47, o124_x48, hf_o124, ro124_0, ro124_1, ro124_2, ro124_3, ro124_4, ro124_5, ro124_6, ro124_7, ro124_8, ro124_9, ro124_10, ro124_11, ro124_12, ro124_13⟩ := tpo_13 hT ht_h0
                        have tf125 : tp_fld (f122 h0) 28 = o124_x28.toInt := tff_28 hf_o124
                        have tf126 : tp_fld (f122 h0) 22 = o124_x22.toInt := tff_22 hf_o124
                        obtain ⟨g128, hf_o127⟩ := tpo_53 hT y8
                        have tf129 : mo_i (f122 (ρ h0 23)) = g128 := tfa_i hf_o127
                        obtain ⟨g131, hf_o130⟩ := tpo_54 hT y9
                        have tf132 : mo_i (f122 (ρ h0 24)) = g131 := tfa_i hf_o130
                        have tf133 : tp_fld (f122 h0) 9 = o124_x9.toInt := tff_9 hf_o124
                        have tf134 : tp_fld (f122 h0) 10 = o124_x10.toInt := tff_10 hf_o124
                        have tf135 : tp_fld (f122 h0) 11 = o124_x11.toInt := tff_11 hf_o124
                        have tf136 : tp_fld (f122 h0) 12 = o124_x12.toInt := tff_12 hf_o124
                        have tf137 : mo_fj (f122 h0) 13 = o124_x13.toInt := tff_13 hf_o124
                        have tf138 : tp_fld (f122 h0) 15 = o124_x15.toInt := tff_15 hf_o124
                        have tf139 : tp_fld (f122 h0) 19 = o124_x19.toInt := tff_19 hf_o124
                        have tf140 : tp_fld (f122 h0) 20 = o124_x20.toInt := tff_20 hf_o124
                        have tk141 : o124_x28.toInt ≤ o90_x28.toInt ∧ o90_x22.toInt ≤ o124_x22.toInt ∧ o124_x22.toInt + o124_x28.toInt ≤ o90_x22.toInt + o90_x28.toInt ∧ (o90_x15.toInt = 0 → mo_PJ aa (mo_R g128) (mo_R g131) (mo_R g33) (mo_R g36) o124_x22.toInt o124_x28.toInt 1) ∧ (∀ i, o124_x28.toInt ≤ i → i < o90_x28.toInt → (mo_R g33) i < 30 ∧ (5 ≤ (5 : Int) → (mo_R g33) i < 14)) ∧ (o124_x28.toInt = 0 ∨ (((5 : Int) = 1 → 30 ≤ (mo_R g33) (o124_x28.toInt + -1)) ∧ ((5 : Int) = 5 → 14 ≤ (mo_R g33) (o124_x28.toInt + -1)))) ∧ (o90_x15.toInt = 0 → mo_FR aa (mo_R g27) (mo_R g30) (mo_R g128) (mo_R g131)) ∧ o124_x9.toInt = o90_x9.toInt ∧ o124_x10.toInt = o90_x10.toInt ∧ o124_x11.toInt = o90_x11.toInt ∧ o124_x12.toInt = o90_x12.toInt ∧ o124_x13.toInt = o90_x13.toInt ∧ o124_x15.toInt = o90_x15.toInt ∧ o124_x19.toInt = o90_x19.toInt ∧ o124_x20.toInt = o90_x20.toInt := by have q9 := hw121p; first | (simp only [tf125, tf100, tf99, tf126, tf96, tf129, tf132, tf113, tf115, tf117, tf119, tf133, tf93, tf134, tf91, tf135, tf92, tf136, tf94, tf137, tf95, tf138, tf139, tf97, tf140, tf98, mo_i1, mo_l1] at q9; exact q9) | (rw [tf125, tf100, tf99, tf126, tf96, tf129, tf132, tf113, tf115, tf117, tf119, tf133, tf93, tf134, tf91, tf135, tf92, tf136, tf94, tf137, tf95, tf138, tf139, tf97, tf140, tf98] at q9; exact q9)
                        have hin8 : mo_in (mo_R g33) (o38_x28.toInt).toNat = mo_in (mo_R g33) (o124_x28.toInt).toNat := mo_in_drop' (by omega) (by omega) (fun i i0 i1 => (tk141.2.2.2.2.1 i i0 i1).1)
                        have hin9 : True → mo_in (mo_R g33) (o124_x28.toInt).toNat ≠ 31 := fun _ => by omega
                        refine lv_aload_n hx hb dX12_behindSum_225 rfl (lv_at hl 2 rfl) ?_
                        refine lv_iload_n hx hb dX12_behindSum_226 rfl (lv_at hl 0 rfl) ?_
                        refine lv_iconst (v := 0) hx hb dX12_behindSum_227 (by decide) ?_
                        have hf_142 : f122 (ρ h0 26) = .inl (κ 0, 400, .inl g33) := (hF123 _ (by rw [y10]; decide)).trans hf_112
                        have tf143 : mo_i (f122 (ρ h0 26)) = g33 := tfa_i hf_142
                        have hf_144 : f122 (ρ h0 27) = .inl (κ 0, 400, .inl g36) := (hF123 _ (by rw [y11]; decide)).trans hf_114
                        have tf145 : mo_i (f122 (ρ h0 27)) = g36 := tfa_i hf_144
                        obtain ⟨q146, eq146⟩ := tp_pos (tp_in hG ht_h0 (by decide)) hf_o124
                        have hFc := tp_fr hD hS hA
                        refine va_callv (va_runV (As := [.int 16, .int 0]) (rest := []) ⟨hx, hb, hml, hown, hts⟩ (t_X12_push l dC dI _ κ τ ν ρ L f122 hG hT h0 (16) (0) ht_h0 (by first | (simp only [tf125, mo_i1, mo_l1]; exact (show o124_x28.toInt < 400 from by have : (16 : Int32).toInt = 16 := rfl; have : (0 : Int32).toInt = 0 := rfl; first | omega | decide)) | (rw [tf125]; exact (show o124_x28.toInt < 400 from by have : (16 : Int32).toInt = 16 := rfl; have : (0 : Int32).toInt = 0 := rfl; first | omega | decide)))) (cwV 2 hts gX12_behindSum_X12_push rfl rfl rfl ⟨rfl, pd_X12_push⟩ ⟨Nat.le_of_ble_eq_true rfl, Nat.le_of_ble_eq_true rfl⟩) ⟨pz_blind, va_recv hK hP (ci := 12) (q0 := q146) rfl eq146, pz_pre hP hK hD hN⟩ rfl rfl hl.1 rfl (lv_room (Nat.le_of_ble_eq_true rfl)) dX12_behindSum_228 ⟨Nat.le_of_ble_eq_true rfl, Nat.le_of_ble_eq_true rfl⟩) hS (fun q _ h => hFc q h) hFc (fun f149 t H1 locs ht hvm hw148 hB hz1 hk1 hS => ?_)
                        obtain ⟨hT, hF150, hw148p⟩ := hw148
                        have hR := hR.then hF150 (by decide)
                        have hP := hB.1; rw [ht] at hP; have hD := tp_ad f149 hD; clear hB hFc hz1 hk1; subst ht; generalize t.heap = H at hP hS ⊢
                        obtain ⟨g152, hf_o151⟩ := tpo_56 hT y10
                        have tf153 : mo_i (f149 (ρ h0 26)) = g152 := tfa_i hf_o151
                        obtain ⟨g155, hf_o154⟩ := tpo_57 hT y11
                        have tf156 : mo_i (f149 (ρ h0 27)) = g155 := tfa_i hf_o154
                        obtain ⟨o157_x0, o157_x1, o157_x7, o157_x9, o157_x10, o157_x11, o157_x12, o157_x13, o157_x14, o157_x15, o157_x16, o157_x17, o157_x18, o157_x19, o157_x20, o157_x22, o157_x25, o157_x28, o157_x29, o157_x32, o157_x33, o157_x34, o157_x35, o157_x36, o157_x37, o157_x38, o157_x47, o157_x48, hf_o157, ro157_0, ro157_1, ro157_2, ro157_3, ro157_4, ro157_5, ro157_6, ro157_7, ro157_8, ro157_9, ro157_10, ro157_11, ro157_12, ro157_13⟩ := tpo_13 hT ht_h0
                        have tf158 : tp_fld (f149 h0) 28 = o157_x28.toInt := tff_28 hf_o157
                        have tf159 : tp_fld (f149 h0) 9 = o157_x9.toInt := tff_9 hf_o157
                        have tf160 : tp_fld (f149 h0) 10 = o157_x10.toInt := tff_10 hf_o157
                        have tf161 : tp_fld (f149 h0) 11 = o157_x11.toInt := tff_11 hf_o157
                        have tf162 : tp_fld (f149 h0) 12 = o157_x12.toInt := tff_12 hf_o157
                        have tf163 : mo_fj (f149 h0) 13 = o157_x13.toInt := tff_13 hf_o157
                        have tf164 : tp_fld (f149 h0) 15 = o157_x15.toInt := tff_15 hf_o157
                        have tf165 : tp_fld (f149 h0) 19 = o157_x19.toInt := tff_19 hf_o157
                        have tf166 : tp_fld (f149 h0) 20 = o157_x20.toInt := tff_20 hf_o157
                        have tf167 : tp_fld (f149 h0) 22 = o157_x22.toInt := tff_22 hf_o157
                        have tk168 : mo_U (mo_R g33) (mo_R g152) o124_x28.toInt (16 : Int) ∧ mo_U (mo_R g36) (mo_R g155) o124_x28.toInt (0 : Int) ∧ o157_x28.toInt = o124_x28.toInt + 1 ∧ o157_x9.toInt = o124_x9.toInt ∧ o157_x10.toInt = o124_x10.toInt ∧ o157_x11.toInt = o124_x11.toInt ∧ o157_x12.toInt = o124_x12.toInt ∧ o157_x13.toInt = o124_x13.toInt ∧ o157_x15.toInt = o124_x15.toInt ∧ o157_x19.toInt = o124_x19.toInt ∧ o157_x20.toInt = o124_x20.toInt ∧ o157_x22.toInt = o124_x22.toInt := by have q9 := hw148p; first | (simp only [tf143, tf153, tf125, tf145, tf156, tf158, tf159, tf133, tf160, tf134, tf161, tf135, tf162, tf136, tf163, tf137, tf164, tf138, tf165, tf139, tf166, tf140, tf167, tf126, mo_i1, mo_l1] at q9; exact q9) | (rw [tf143, tf153, tf125, tf145, tf156, tf158, tf159, tf133, tf160, tf134, tf161, tf135, tf162, tf136, tf163, tf137, tf164, tf138, tf165, tf139, tf166, tf140, tf167, tf126] at q9; exact q9)
                        refine lv_iconst (v := 1) hx hb dX12_behindSum_231 (by decide) ?_
                        have hf_169 : f149 (ρ h0 23) = .inl (κ 0, 400, .inl g128) := (hF150 _ (by rw [y8]; decide)).trans hf_o127
                        have tf170 : mo_i (f149 (ρ h0 23)) = g128 := tfa_i hf_169
                        have hf_171 : f149 (ρ h0 24) = .inl (κ 0, 400, .inl g131) := (hF150 _ (by rw [y9]; decide)).trans hf_o130
                        have tf172 : mo_i (f149 (ρ h0 24)) = g131 := tfa_i hf_171
                        exact W.iret (v := 1) hx hb hr (fun t ht hW => ⟨⟨1, f149, rfl, ⟨hT, hR, (by first | decide | omega), (by first | (simp only [tf160, tf161, tf159, tf162, tf163, tf167, tf158, tf153, tf156, tf164, tf170, tf172, tf28, tf31, tf40, tf46, tf39, tf165, tf44, tf166, tf45, mo_i1, mo_l1]; exact (show (o157_x10.toInt ≤ o157_x11.toInt ∧ o157_x11.toInt ≤ o157_x9.toInt ∧ (o157_x12.toInt = 0 ∨ o157_x10.toInt < o157_x11.toInt) ∧ (o157_x12.toInt = 1 → o157_x11.toInt = o157_x10.toInt + 1 → o157_x13.toInt ≤ 26)) ∧ o157_x22.toInt + o157_x28.toInt ≤ o157_x10.toInt ∧ mo_PV (mo_R g152) (mo_R g155) o157_x28.toInt ∧ (o157_x15.toInt = 0 → mo_EX aa (1 : Int32).toInt (mo_R g128) (mo_R g131) (mo_R g152) (mo_R g155) o157_x22.toInt o157_x28.toInt ∧ mo_FR aa (mo_R g27) (mo_R g30) (mo_R g128) (mo_R g131) ∧ ((1 : Int32).toInt = 4 ∨ o38_x10.toInt < o157_x10.toInt ∨ (o157_x10.toInt = o38_x10.toInt ∧ (1 : Int32).toInt = 2))) ∧ o38_x22.toInt ≤ o157_x22.toInt ∧ o157_x9.toInt = o38_x9.toInt ∧ o157_x19.toInt = o38_x19.toInt ∧ o157_x20.toInt = o38_x20.toInt from ⟨by omega, by omega, ((h3.lt (n' := _) tk141.1).push (by omega) tk168.1 tk168.2.1 (by omega) (by omega) (by omega)), fun q9 => ⟨(mo_EX.bin h4.1 (tk141.2.2.2.1 (by omega)) (h4.2.2.1.lt tk141.1) (by omega) tk168.1 tk168.2.1 (by omega) (by omega) (fun q7 => hin9 (by omega))), (tk141.2.2.2.2.2.2.1 (by omega)), by have q8 : (1 : Int32).toInt = 1 := rfl; omega⟩, by omega, by omega, by omega, by omega⟩)) | (rw [tf160, tf161, tf159, tf162, tf163, tf167, tf158, tf153, tf156, tf164, tf170, tf172, tf28, tf31, tf40, tf46, tf39, tf165, tf44, tf166, tf45]; exact (show (o157_x10.toInt ≤ o157_x11.toInt ∧ o157_x11.toInt ≤ o157_x9.toInt ∧ (o157_x12.toInt = 0 ∨ o157_x10.toInt < o157_x11.toInt) ∧ (o157_x12.toInt = 1 → o157_x11.toInt = o157_x10.toInt + 1 → o157_x13.toInt ≤ 26)) ∧ o157_x22.toInt + o157_x28.toInt ≤ o157_x10.toInt ∧ mo_PV (mo_R g152) (mo_R g155) o157_x28.toInt ∧ (o157_x15.toInt = 0 → mo_EX aa (1 : Int32).toInt (mo_R g128) (mo_R g131) (mo_R g152) (mo_R g155) o157_x22.toInt o157_x28.toInt ∧ mo_FR aa (mo_R g27) (mo_R g30) (mo_R g128) (mo_R g131) ∧ ((1 : Int32).toInt = 4 ∨ o38_x10.toInt < o157_x10.toInt ∨ (o157_x10.toInt = o38_x10.toInt ∧ (1 : Int32).toInt = 2))) ∧ o38_x22.toInt ≤ o157_x22.toInt ∧ o157_x9.toInt = o38_x9.toInt ∧ o157_x19.toInt = o38_x19.toInt ∧ o157_x20.toInt = o38_x20.toInt from ⟨by omega, by omega, ((h3.lt (n' := _) tk141.1).push (by omega) tk168.1 tk168.2.1 (by omega) (by omega) (by omega)), fun q9 => ⟨(mo_EX.bin h4.1 (tk141.2.2.2.1 (by omega)) (h4.2.2.1.lt tk141.1) (by omega) tk168.1 tk168.2.1 (by omega) (by omega) (fun q7 => hin9 (by omega))), (tk141.2.2.2.2.2.2.1 (by omega)), by have q8 : (1 : Int32).toInt = 1 := rfl; omega⟩, by omega, by omega, by omega, by omega⟩)))⟩, by rw [ht]; exact hP, va_K.moved hW.alike hK, hD⟩, hS.F ht⟩) hS.2.2 dX12_behindSum_232
                    · have ic85 : r82.toInt ≠ 0 := zi_eqf rfl rfl c85
                      refine lv_iconst (v := 1) hx hb dX12_behindSum_205 (by decide) ?_
                      refine lv_goto (tgt := 210) hx hb dX12_behindSum_206 (by decide) ?_
                      have hFc := tp_fr hD hS hA
                      refine va_callv (va_runV (As := [.int 1]) (rest := []) ⟨hx, hb, hml, hown, hts⟩ (t_X12_must l dC dI _ κ τ ν ρ L f hG hT h0 (1) ht_h0 (by first | decide | omega) (by first | (simp only [tf40, tf41, tf39, tf42, tf48, mo_i1, mo_l1]; exact (show (o38_x10.toInt ≤ o38_x11.toInt ∧ o38_x11.toInt ≤ o38_x9.toInt ∧ (o38_x12.toInt = 0 ∨ o38_x10.toInt < o38_x11.toInt) ∧ (o38_x12.toInt = 1 → o38_x11.toInt = o38_x10.toInt + 1 → o38_x13.toInt ≤ 26)) from by have : (1 : Int32).toInt = 1 := rfl; first | omega | decide)) | (rw [tf40, tf41, tf39, tf42, tf48]; exact (show (o38_x10.toInt ≤ o38_x11.toInt ∧ o38_x11.toInt ≤ o38_x9.toInt ∧ (o38_x12.toInt = 0 ∨ o38_x10.toInt < o38_x11.toInt) ∧ (o38_x12.toInt = 1 → o38_x11.toInt = o38_x10.toInt + 1 → o38_x13.toInt ≤ 26)) from by have : (1 : Int32).toInt = 1 := rfl; first | omega | decide)))) (cwV 1 hts gX12_behindSum_X12_must rfl rfl rfl ⟨rfl, pd_X12_must⟩ ⟨Nat.le_of_ble_eq_true rfl, Nat.le_of_ble_eq_true rfl⟩) ⟨pz_blind, va_recv hK hP (ci := 12) (q0 := q49) rfl eq49, pz_pre hP hK hD hN⟩ rfl rfl hl.1 rfl (lv_room (Nat.le_of_ble_eq_true rfl)) dX12_behindSum_210 ⟨Nat.le_of_ble_eq_true rfl, Nat.le_of_ble_eq_true rfl⟩) hS (fun q _ h => hFc q h) hFc (fun f175 t H1 locs ht hvm hw174 hB hz1 hk1 hS => ?_)
                      obtain ⟨hT, hF176, hw174p⟩ := hw174
                      have hR := hR.then hF176 (by decide)
                      have hP := hB.1; rw [ht] at hP; have hD := tp_ad f175 hD; clear hB hFc hz1 hk1; subst ht; generalize t.heap = H at hP hS ⊢
                      obtain ⟨o177_x0, o177_x1, o177_x7, o177_x9, o177_x10, o177_x11, o177_x12, o177_x13, o177_x14, o177_x15, o177_x16, o177_x17, o177_x18, o177_x19, o177_x20, o177_x22, o177_x25, o177_x28, o177_x29, o177_x32, o177_x33, o177_x34, o177_x35, o177_x36, o177_x37, o177_x38, o177_x47, o177_x48, hf_o177, ro177_0, ro177_1, ro177_2, ro177_3, ro177_4, ro177_5, ro177_6, ro177_7, ro177_8, ro177_9, ro177_10, ro177_11, ro177_12, ro177_13⟩ := tpo_13 hT ht_h0
                      have tf178 : tp_fld (f175 h0) 10 = o177_x10.toInt := tff_10 hf_o177
                      have tf179 : tp_fld (f175 h0) 11 = o177_x11.toInt := tff_11 hf_o177
                      have tf180 : tp_fld (f175 h0) 9 = o177_x9.toInt := tff_9 hf_o177
                      have tf181 : tp_fld (f175 h0) 12 = o177_x12.toInt := tff_12 hf_o177
                      have tf182 : mo_fj (f175 h0) 13 = o177_x13.toInt := tff_13 hf_o177
                      have tf183 : tp_fld (f175 h0) 15 = o177_x15.toInt := tff_15 hf_o177
                      have tf184 : tp_fld (f175 h0) 19 = o177_x19.toInt := tff_19 hf_o177
                      have tf185 : tp_fld (f175 h0) 20 = o177_x20.toInt := tff_20 hf_o177
                      have tf186 : tp_fld (f175 h0) 22 = o177_x22.toInt := tff_22 hf_o177
                      have tf187 : tp_fld (f175 h0) 28 = o177_x28.toInt := tff_28 hf_o177
                      have tk188 : (o177_x10.toInt ≤ o177_x11.toInt ∧ o177_x11.toInt ≤ o177_x9.toInt ∧ (o177_x12.toInt = 0 ∨ o177_x10.toInt < o177_x11.toInt) ∧ (o177_x12.toInt = 1 → o177_x11.toInt = o177_x10.toInt + 1 → o177_x13.toInt ≤ 26)) ∧ (o177_x15.toInt = 0 → o38_x15.toInt = 0 ∧ o38_x11.toInt ≤ o177_x10.toInt ∧ (1 : Int) ≠ 0) ∧ (o177_x15.toInt ≠ 0 → o177_x10.toInt = o38_x10.toInt) ∧ o177_x9.toInt = o38_x9.toInt ∧ o177_x19.toInt = o38_x19.toInt ∧ o177_x20.toInt = o38_x20.toInt ∧ o177_x22.toInt = o38_x22.toInt ∧ o177_x28.toInt = o38_x28.toInt := by have q9 := hw174p; first | (simp only [tf178, tf179, tf180, tf181, tf182, tf183, tf43, tf41, tf40, tf39, tf184, tf44, tf185, tf45, tf186, tf46, tf187, tf47, mo_i1, mo_l1] at q9; exact q9) | (rw [tf178, tf179, tf180, tf181, tf182, tf183, tf43, tf41, tf40, tf39, tf184, tf44, tf185, tf45, tf186, tf46, tf187, tf47] at q9; exact q9)
                      refine lv_aload_n hx hb dX12_behindSum_213 rfl (lv_at hl 2 rfl) ?_
                      obtain ⟨q189, eq189⟩ := tp_pos (tp_in hG ht_h0 (by decide)) hf_o177
                      refine va_get (D := (dC, dI)) (ci := 12) (v := .int o177_x15) (C := RX12) (T := TX12) (N := 53) hx hb hts hfX12 hown hK hP q189 eq189 rfl 15 (by decide) (hts (.fieldLink RX12 261 "ColdShipsModel" "bad" "Z") wa_994) (fun _ h9 => h9) rfl dX12_behindSum_214 ?_
                      refine lv_if_ne (tgt := 231) hx hb dX12_behindSum_217 (by decide) (fun c190 => ?_) (fun c190 => ?_)
                      · have ic190 : o177_x15.toInt ≠ 0 := zi_ne rfl rfl c190
                        refine lv_iconst (v := 1) hx hb dX12_behindSum_231 (by decide) ?_
                        have hf_191 : f175 (ρ h0 26) = .inl (κ 0, 400, .inl g33) := (hF176 _ (by rw [y10]; decide)).trans hf_o32
                        have tf192 : mo_i (f175 (ρ h0 26)) = g33 := tfa_i hf_191
                        have hf_193 : f175 (ρ h0 27) = .inl (κ 0, 400, .inl g36) := (hF176 _ (by rw [y11]; decide)).trans hf_o35
                        have tf194 : mo_i (f175 (ρ h0 27)) = g36 := tfa_i hf_193
                        have hf_195 : f175 (ρ h0 23) = .inl (κ 0, 400, .inl g27) := (hF176 _ (by rw [y8]; decide)).trans hf_o26
                        have tf196 : mo_i (f175 (ρ h0 23)) = g27 := tfa_i hf_195
                        have hf_197 : f175 (ρ h0 24) = .inl (κ 0, 400, .inl g30) := (hF176 _ (by rw [y9]; decide)).trans hf_o29
                        have tf198 : mo_i (f175 (ρ h0 24)) = g30 := tfa_i hf_197
                        exact W.iret (v := 1) hx hb hr (fun t ht hW => ⟨⟨1, f175, rfl, ⟨hT, hR, (by first | decide | omega), (by first | (simp only [tf178, tf179, tf180, tf181, tf182, tf186, tf187, tf192, tf194, tf183, tf196, tf198, tf28, tf31, tf40, tf46, tf39, tf184, tf44, tf185, tf45, mo_i1, mo_l1]; exact (show (o177_x10.toInt ≤ o177_x11.toInt ∧ o177_x11.toInt ≤ o177_x9.toInt ∧ (o177_x12.toInt = 0 ∨ o177_x10.toInt < o177_x11.toInt) ∧ (o177_x12.toInt = 1 → o177_x11.toInt = o177_x10.toInt + 1 → o177_x13.toInt ≤ 26)) ∧ o177_x22.toInt + o177_x28.toInt ≤ o177_x10.toInt ∧ mo_PV (mo_R g33) (mo_R g36) o177_x28.toInt ∧ (o177_x15.toInt = 0 → mo_EX aa (1 : Int32).toInt (mo_R g27) (mo_R g30) (mo_R g33) (mo_R g36) o177_x22.toInt o177_x28.toInt ∧ mo_FR aa (mo_R g27) (mo_R g30) (mo_R g27) (mo_R g30) ∧ ((1 : Int32).toInt = 4 ∨ o38_x10.toInt < o177_x10.toInt ∨ (o177_x10.toInt = o38_x10.toInt ∧ (1 : Int32).toInt = 2))) ∧ o38_x22.toInt ≤ o177_x22.toInt ∧ o177_x9.toInt = o38_x9.toInt ∧ o177_x19.toInt = o38_x19.toInt ∧ o177_x20.toInt = o38_x20.toInt from ⟨by omega, by omega, h3, fun q9 => by exfalso; omega, by omega, by omega, by omega, by omega⟩)) | (rw [tf178, tf179, tf180, tf181, tf182, tf186, tf187, tf192, tf194, tf183, tf196, tf198, tf28, tf31, tf40, tf46, tf39, tf184, tf44, tf185, tf45]; exact (show (o177_x10.toInt ≤ o177_x11.toInt ∧ o177_x11.toInt ≤ o177_x9.toInt ∧ (o177_x12.toInt = 0 ∨ o177_x10.toInt < o177_x11.toInt) ∧ (o177_x12.toInt = 1 → o177_x11.toInt = o177_x10.toInt + 1 → o177_x13.toInt ≤ 26)) ∧ o177_x22.toInt + o177_x28.toInt ≤ o177_x10.toInt ∧ mo_PV (mo_R g33) (mo_R g36) o177_x28.toInt ∧ (o177_x15.toInt = 0 → mo_EX aa (1 : Int32).toInt (mo_R g27) (mo_R g30) (mo_R g33) (mo_R g36) o177_x22.toInt o177_x28.toInt ∧ mo_FR aa (mo_R g27) (mo_R g30) (mo_R g27) (mo_R g30) ∧ ((1 : Int32).toInt = 4 ∨ o38_x10.toInt < o177_x10.toInt ∨ (o177_x10.toInt = o38_x10.toInt ∧ (1 : Int32).toInt = 2))) ∧ o38_x22.toInt ≤ o177_x22.toInt ∧ o177_x9.toInt = o38_x9.toInt ∧ o177_x19.toInt = o38_x19.toInt ∧ o177_x20.toInt = o38_x20.toInt from ⟨by omega, by omega, h3, fun q9 => by exfalso; omega, by omega, by omega, by omega, by omega⟩)))⟩, by rw [ht]; exact hP, va_K.moved hW.alike hK, hD⟩, hS.F ht⟩) hS.2.2 dX12_behindSum_232
                      · have ic190 : o177_x15.toInt = 0 := zi_nef rfl rfl c190
                        refine lv_aload_n hx hb dX12_behindSum_220 rfl (lv_at hl 2 rfl) ?_
                        refine lv_iconst (v := 5) hx hb dX12_behindSum_221 (by decide) ?_
                        have hf_199 : f175 (ρ h0 26) = .inl (κ 0, 400, .inl g33) := (hF176 _ (by rw [y10]; decide)).trans hf_o32
                        have tf200 : mo_i (f175 (ρ h0 26)) = g33 := tfa_i hf_199
                        have hf_201 : f175 (ρ h0 27) = .inl (κ 0, 400, .inl g36) := (hF176 _ (by rw [y11]; decide)).trans hf_o35
                        have tf202 : mo_i (f175 (ρ h0 27)) = g36 := tfa_i hf_201
                        have hf_203 : f175 (ρ h0 23) = .inl (κ 0, 400, .inl g27) := (hF176 _ (by rw [y8]; decide)).trans hf_o26
                        have tf204 : mo_i (f175 (ρ h0 23)) = g27 := tfa_i hf_203
                        have hf_205 : f175 (ρ h0 24) = .inl (κ 0, 400, .inl g30) := (hF176 _ (by rw [y9]; decide)).trans hf_o29
                        have tf206 : mo_i (f175 (ρ h0 24)) = g30 := tfa_i hf_205
                        have hFc := tp_fr hD hS hA
                        refine va_callv (va_runV (As := [.int 5]) (rest := []) ⟨hx, hb, hml, hown, hts⟩ (t_X12_settleDown l dC dI _ κ τ ν ρ L f175 hG hT h0 (5) aa ht_h0 (by first | decide | omega) (by first | (simp only [tf186, tf187, mo_i1, mo_l1]; exact (show o177_x22.toInt + o177_x28.toInt ≤ 400 from by omega)) | (rw [tf186, tf187]; exact (show o177_x22.toInt + o177_x28.toInt ≤ 400 from by omega))) (by first | (simp only [tf200, tf202, tf187, mo_i1, mo_l1]; exact (show mo_PV (mo_R g33) (mo_R g36) o177_x28.toInt from h3)) | (rw [tf200, tf202, tf187]; exact (show mo_PV (mo_R g33) (mo_R g36) o177_x28.toInt from h3))) (by first | (simp only [tf183, tf204, tf206, tf200, tf202, tf186, tf187, mo_i1, mo_l1]; exact (show (o177_x15.toInt = 0 → 0 ≤ aa ∧ mo_PJ aa (mo_R g27) (mo_R g30) (mo_R g33) (mo_R g36) o177_x22.toInt o177_x28.toInt 1) from fun _ => ⟨h4.1, h4.pj1 (by decide)⟩)) | (rw [tf183, tf204, tf206, tf200, tf202, tf186, tf187]; exact (show (o177_x15.toInt = 0 → 0 ≤ aa ∧ mo_PJ aa (mo_R g27) (mo_R g30) (mo_R g33) (mo_R g36) o177_x22.toInt o177_x28.toInt 1) from fun _ => ⟨h4.1, h4.pj1 (by decide)⟩)))) (cwV 1 hts gX12_behindSum_X12_settleDown rfl rfl rfl ⟨rfl, pd_X12_settleDown⟩ ⟨Nat.le_of_ble_eq_true rfl, Nat.le_of_ble_eq_true rfl⟩) ⟨pz_blind, va_recv hK hP (ci := 12) (q0 := q189) rfl eq189, pz_pre hP hK hD hN⟩ rfl rfl hl.1 rfl (lv_room (Nat.le_of_ble_eq_true rfl)) dX12_behindSum_222 ⟨Nat.le_of_ble_eq_true rfl, Nat.le_of_ble_eq_true rfl⟩) hS (fun q _ h => hFc q h) hFc (fun f209 t H1 locs ht hvm hw208 hB hz1 hk1 hS => ?_)
                        obtain ⟨hT, hF210, hw208p⟩ := hw208
                        have hR := hR.then hF210 (by decide)
                        have hP := hB.1; rw [ht] at hP; have hD := tp_ad f209 hD; clear hB hFc hz1 hk1; subst ht; generalize t.heap = H at hP hS ⊢
                        obtain ⟨o211_x0, o211_x1, o211_x7, o211_x9, o211_x10, o211_x11, o211_x12, o211_x13, o211_x14, o211_x15, o211_x16, o211_x17, o211_x18, o211_x19, o211_x20, o211_x22, o211_x25, o211_x28, o211_x29, o211_x32, o211_x33, o211_x34, o211_x35, o211_x36, o211_x37, o211_x38, o211_x47, o211_x48, hf_o211, ro211_0, ro211_1, ro211_2, ro211_3, ro211_4, ro211_5, ro211_6, ro211_7, ro211_8, ro211_9, ro211_10, ro211_11, ro211_12, ro211_13⟩ := tpo_13 hT ht_h0
                        have tf212 : tp_fld (f209 h0) 28 = o211_x28.toInt := tff_28 hf_o211
                        have tf213 : tp_fld (f209 h0) 22 = o211_x22.toInt := tff_22 hf_o211
                        obtain ⟨g215, hf_o214⟩ := tpo_53 hT y8
                        have tf216 : mo_i (f209 (ρ h0 23)) = g215 := tfa_i hf_o214
                        obtain ⟨g218, hf_o217⟩ := tpo_54 hT y9
                        have tf219 : mo_i (f209 (ρ h0 24)) = g218 := tfa_i hf_o217
                        have tf220 : tp_fld (f209 h0) 9 = o211_x9.toInt := tff_9 hf_o211
                        have tf221 : tp_fld (f209 h0) 10 = o211_x10.toInt := tff_10 hf_o211
                        have tf222 : tp_fld (f209 h0) 11 = o211_x11.toInt := tff_11 hf_o211
                        have tf223 : tp_fld (f209 h0) 12 = o211_x12.toInt := tff_12 hf_o211
                        have tf224 : mo_fj (f209 h0) 13 = o211_x13.toInt := tff_13 hf_o211
                        have tf225 : tp_fld (f209 h0) 15 = o211_x15.toInt := tff_15 hf_o211
                        have tf226 : tp_fld (f209 h0) 19 = o211_x19.toInt := tff_19 hf_o211
                        have tf227 : tp_fld (f209 h0) 20 = o211_x20.toInt := tff_20 hf_o211
                        have tk228 : o211_x28.toInt ≤ o177_x28.toInt ∧ o177_x22.toInt ≤ o211_x22.toInt ∧ o211_x22.toInt + o211_x28.toInt ≤ o177_x22.toInt + o177_x28.toInt ∧ (o177_x15.toInt = 0 → mo_PJ aa (mo_R g215) (mo_R g218) (mo_R g33) (mo_R g36) o211_x22.toInt o211_x28.toInt 1) ∧ (∀ i, o211_x28.toInt ≤ i → i < o177_x28.toInt → (mo_R g33) i < 30 ∧ (5 ≤ (5 : Int) → (mo_R g33) i < 14)) ∧ (o211_x28.toInt = 0 ∨ (((5 : Int) = 1 → 30 ≤ (mo_R g33) (o211_x28.toInt + -1)) ∧ ((5 : Int) = 5 → 14 ≤ (mo_R g33) (o211_x28.toInt + -1)))) ∧ (o177_x15.toInt = 0 → mo_FR aa (mo_R g27) (mo_R g30) (mo_R g215) (mo_R g218)) ∧ o211_x9.toInt = o177_x9.toInt ∧ o211_x10.toInt = o177_x10.toInt ∧ o211_x11.toInt = o177_x11.toInt ∧ o211_x12.toInt = o177_x12.toInt ∧ o211_x13.toInt = o177_x13.toInt ∧ o211_x15.toInt = o177_x15.toInt ∧ o211_x19.toInt = o177_x19.toInt ∧ o211_x20.toInt = o177_x20.toInt := by have q9 := hw208p; first | (simp only [tf212, tf187, tf186, tf213, tf183, tf216, tf219, tf200, tf202, tf204, tf206, tf220, tf180, tf221, tf178, tf222, tf179, tf223, tf181, tf224, tf182, tf225, tf226, tf184, tf227, tf185, mo_i1, mo_l1] at q9; exact q9) | (rw [tf212, tf187, tf186, tf213, tf183, tf216, tf219, tf200, tf202, tf204, tf206, tf220, tf180, tf221, tf178, tf222, tf179, tf223, tf181, tf224, tf182, tf225, tf226, tf184, tf227, tf185] at q9; exact q9)
                        have hin8 : mo_in (mo_R g33) (o38_x28.toInt).toNat = mo_in (mo_R g33) (o211_x28.toInt).toNat := mo_in_drop' (by omega) (by omega) (fun i i0 i1 => (tk228.2.2.2.2.1 i i0 i1).1)
                        have hin9 : True → mo_in (mo_R g33) (o211_x28.toInt).toNat ≠ 31 := fun _ => by omega
                        refine lv_aload_n hx hb dX12_behindSum_225 rfl (lv_at hl 2 rfl) ?_
                        refine lv_iload_n hx hb dX12_behindSum_226 rfl (lv_at hl 0 rfl) ?_
                        refine lv_iconst (v := 0) hx hb dX12_behindSum_227 (by decide) ?_
                        have hf_229 : f209 (ρ h0 26) = .inl (κ 0, 400, .inl g33) := (hF210 _ (by rw [y10]; decide)).trans hf_199
                        have tf230 : mo_i (f209 (ρ h0 26)) = g33 := tfa_i hf_229
                        have hf_231 : f209 (ρ h0 27) = .inl (κ 0, 400, .inl g36) := (hF210 _ (by rw [y11]; decide)).trans hf_201
                        have tf232 : mo_i (f209 (ρ h0 27)) = g36 := tfa_i hf_231
                        obtain ⟨q233, eq233⟩ := tp_pos (tp_in hG ht_h0 (by decide)) hf_o211
                        have hFc := tp_fr hD hS hA
                        refine va_callv (va_runV (As := [.int 16, .int 0]) (rest := []) ⟨hx, hb, hml, hown, hts⟩ (t_X12_push l dC dI _ κ τ ν ρ L f209 hG hT h0 (16) (0) ht_h0 (by first | (simp only [tf212, mo_i1, mo_l1]; exact (show o211_x28.toInt < 400 from by have : (16 : Int32).toInt = 16 := rfl; have : (0 : Int32).toInt = 0 := rfl; first | omega | decide)) | (rw [tf212]; exact (show o211_x28.toInt < 400 from by have : (16 : Int32).toInt = 16 := rfl; have : (0 : Int32).toInt = 0 := rfl; first | omega | decide)))) (cwV 2 hts gX12_behindSum_X12_push rfl rfl rfl ⟨rfl, pd_X12_push⟩ ⟨Nat.le_of_ble_eq_true rfl, Nat.le_of_ble_eq_true rfl⟩) ⟨pz_blind, va_recv hK hP (ci := 12) (q0 := q233) rfl eq233, pz_pre hP hK hD hN⟩ rfl rfl hl.1 rfl (lv_room (Nat.le_of_ble_eq_true rfl)) dX12_behindSum_228 ⟨Nat.le_of_ble_eq_true rfl, Nat.le_of_ble_eq_true rfl⟩) hS (fun q _ h => hFc q h) hFc (fun f236 t H1 locs ht hvm hw235 hB hz1 hk1 hS => ?_)
                        obtain ⟨hT, hF237, hw235p⟩ := hw235
                        have hR := hR.then hF237 (by decide)
                        have hP := hB.1; rw [ht] at hP; have hD := tp_ad f236 hD; clear hB hFc hz1 hk1; subst ht; generalize t.heap = H at hP hS ⊢
                        obtain ⟨g239, hf_o238⟩ := tpo_56 hT y10
                        have tf240 : mo_i (f236 (ρ h0 26)) = g239 := tfa_i hf_o238
                        obtain ⟨g242, hf_o241⟩ := tpo_57 hT y11
                        have tf243 : mo_i (f236 (ρ h0 27)) = g242 := tfa_i hf_o241
                        obtain ⟨o244_x0, o244_x1, o244_x7, o244_x9, o244_x10, o244_x11, o244_x12, o244_x13, o244_x14, o244_x15, o244_x16, o244_x17, o244_x18, o244_x19, o244_x20, o244_x22, o244_x25, o244_x28, o244_x29, o244_x32, o244_x33, o244_x34, o244_x35, o244_x36, o244_x37, o244_x38, o244_x47, o244_x48, hf_o244, ro244_0, ro244_1, ro244_2, ro244_3, ro244_4, ro244_5, ro244_6, ro244_7, ro244_8, ro244_9, ro244_10, ro244_11, ro244_12, ro244_13⟩ := tpo_13 hT ht_h0
                        have tf245 : tp_fld (f236 h0) 28 = o244_x28.toInt := tff_28 hf_o244
                        have tf246 : tp_fld (f236 h0) 9 = o244_x9.toInt := tff_9 hf_o244
                        have tf247 : tp_fld (f236 h0) 10 = o244_x10.toInt := tff_10 hf_o244
                        have tf248 : tp_fld (f236 h0) 11 = o244_x11.toInt := tff_11 hf_o244
                        have tf249 : tp_fld (f236 h0) 12 = o244_x12.toInt := tff_12 hf_o244
                        have tf250 : mo_fj (f236 h0) 13 = o244_x13.toInt := tff_13 hf_o244
                        have tf251 : tp_fld (f236 h0) 15 = o244_x15.toInt := tff_15 hf_o244
                        have tf252 : tp_fld (f236 h0) 19 = o244_x19.toInt := tff_19 hf_o244
                        have tf253 : tp_fld (f236 h0) 20 = o244_x20.toInt := tff_20 hf_o244
                        have tf254 : tp_fld (f236 h0) 22 = o244_x22.toInt := tff_22 hf_o244
                        have tk255 : mo_U (mo_R g33) (mo_R g239) o211_x28.toInt (16 : Int) ∧ mo_U (mo_R g36) (mo_R g242) o211_x28.toInt (0 : Int) ∧ o244_x28.toInt = o211_x28.toInt + 1 ∧ o244_x9.toInt = o211_x9.toInt ∧ o244_x10.toInt = o211_x10.toInt ∧ o244_x11.toInt = o211_x11.toInt ∧ o244_x12.toInt = o211_x12.toInt ∧ o244_x13.toInt = o211_x13.toInt ∧ o244_x15.toInt = o211_x15.toInt ∧ o244_x19.toInt = o211_x19.toInt ∧ o244_x20.toInt = o211_x20.toInt ∧ o244_x22.toInt = o211_x22.toInt := by have q9 := hw235p; first | (simp only [tf230, tf240, tf212, tf232, tf243, tf245, tf246, tf220, tf247, tf221, tf248, tf222, tf249, tf223, tf250, tf224, tf251, tf225, tf252, tf226, tf253, tf227, tf254, tf213, mo_i1, mo_l1] at q9; exact q9) | (rw [tf230, tf240, tf212, tf232, tf243, tf245, tf246, tf220, tf247, tf221, tf248, tf222, tf249, tf223, tf250, tf224, tf251, tf225, tf252, tf226, tf253, tf227, tf254, tf213] at q9; exact q9)
                        refine lv_iconst (v := 1) hx hb dX12_behindSum_231 (by decide) ?_
                        have hf_256 : f236 (ρ h0 23) = .inl (κ 0, 400, .inl g215) := (hF237 _ (by rw [y8]; decide)).trans hf_o214
                        have tf257 : mo_i (f236 (ρ h0 23)) = g215 := tfa_i hf_256
                        have hf_258 : f236 (ρ h0 24) = .inl (κ 0, 400, .inl g218) := (hF237 _ (by rw [y9]; decide)).trans hf_o217
                        have tf259 : mo_i (f236 (ρ h0 24)) = g218 := tfa_i hf_258
                        exact W.iret (v := 1) hx hb hr (fun t ht hW => ⟨⟨1, f236, rfl, ⟨hT, hR, (by first | decide | omega), (by first | (simp only [tf247, tf248, tf246, tf249, tf250, tf254, tf245, tf240, tf243, tf251, tf257, tf259, tf28, tf31, tf40, tf46, tf39, tf252, tf44, tf253, tf45, mo_i1, mo_l1]; exact (show (o244_x10.toInt ≤ o244_x11.toInt ∧ o244_x11.toInt ≤ o244_x9.toInt ∧ (o244_x12.toInt = 0 ∨ o244_x10.toInt < o244_x11.toInt) ∧ (o244_x12.toInt = 1 → o244_x11.toInt = o244_x10.toInt + 1 → o244_x13.toInt ≤ 26)) ∧ o244_x22.toInt + o244_x28.toInt ≤ o244_x10.toInt ∧ mo_PV (mo_R g239) (mo_R g242) o244_x28.toInt ∧ (o244_x15.toInt = 0 → mo_EX aa (1 : Int32).toInt (mo_R g215) (mo_R g218) (mo_R g239) (mo_R g242) o244_x22.toInt o244_x28.toInt ∧ mo_FR aa (mo_R g27) (mo_R g30) (mo_R g215) (mo_R g218) ∧ ((1 : Int32).toInt = 4 ∨ o38_x10.toInt < o244_x10.toInt ∨ (o244_x10.toInt = o38_x10.toInt ∧ (1 : Int32).toInt = 2))) ∧ o38_x22.toInt ≤ o244_x22.toInt ∧ o244_x9.toInt = o38_x9.toInt ∧ o244_x19.toInt = o38_x19.toInt ∧ o244_x20.toInt = o38_x20.toInt from ⟨by omega, by omega, ((h3.lt (n' := _) tk228.1).push (by omega) tk255.1 tk255.2.1 (by omega) (by omega) (by omega)), fun q9 => ⟨(mo_EX.bin h4.1 (tk228.2.2.2.1 (by omega)) (h4.2.2.1.lt tk228.1) (by omega) tk255.1 tk255.2.1 (by omega) (by omega) (fun q7 => hin9 (by omega))), (tk228.2.2.2.2.2.2.1 (by omega)), by have q8 : (1 : Int32).toInt = 1 := rfl; omega⟩, by omega, by omega, by omega, by omega⟩)) | (rw [tf247, tf248, tf246, tf249, tf250, tf254, tf245, tf240, tf243, tf251, tf257, tf259, tf28, tf31, tf40, tf46, tf39, tf252, tf44, tf253, tf45]; exact (show (o244_x10.toInt ≤ o244_x11.toInt ∧ o244_x11.toInt ≤ o244_x9.toInt ∧ (o244_x12.toInt = 0 ∨ o244_x10.toInt < o244_x11.toInt) ∧ (o244_x12.toInt = 1 → o244_x11.toInt = o244_x10.toInt + 1 → o244_x13.toInt ≤ 26)) ∧ o244_x22.toInt + o244_x28.toInt ≤ o244_x10.toInt ∧ mo_PV (mo_R g239) (mo_R g242) o244_x28.toInt ∧ (o244_x15.toInt = 0 → mo_EX aa (1 : Int32).toInt (mo_R g215) (mo_R g218) (mo_R g239) (mo_R g242) o244_x22.toInt o244_x28.toInt ∧ mo_FR aa (mo_R g27) (mo_R g30) (mo_R g215) (mo_R g218) ∧ ((1 : Int32).toInt = 4 ∨ o38_x10.toInt < o244_x10.toInt ∨ (o244_x10.toInt = o38_x10.toInt ∧ (1 : Int32).toInt = 2))) ∧ o38_x22.toInt ≤ o244_x22.toInt ∧ o244_x9.toInt = o38_x9.toInt ∧ o244_x19.toInt = o38_x19.toInt ∧ o244_x20.toInt = o38_x20.toInt from ⟨by omega, by omega, ((h3.lt (n' := _) tk228.1).push (by omega) tk255.1 tk255.2.1 (by omega) (by omega) (by omega)), fun q9 => ⟨(mo_EX.bin h4.1 (tk228.2.2.2.1 (by omega)) (h4.2.2.1.lt tk228.1) (by omega) tk255.1 tk255.2.1 (by omega) (by omega) (fun q7 => hin9 (by omega))), (tk228.2.2.2.2.2.2.1 (by omega)), by have q8 : (1 : Int32).toInt = 1 := rfl; omega⟩, by omega, by omega, by omega, by omega⟩)))⟩, by rw [ht]; exact hP, va_K.moved hW.alike hK, hD⟩, hS.F ht⟩) hS.2.2 dX12_behindSum_232
                  · have ic81 : r78.toInt ≠ 0 := zi_eqf rfl rfl c81
                    refine lv_bipush (v := 15) hx hb dX12_behindSum_181 (by decide) ?_
                    refine lv_goto (tgt := 188) hx hb dX12_behindSum_183 (by decide) ?_
                    refine lv_istore_n (lv' := [(2, .int 15), (3, .int r66), (0, .ref h0), (1, .int v)]) hx hb dX12_behindSum_188 rfl hl (by decide) rfl (fun ls hl => ?_)
                    refine lv_aload_n hx hb dX12_behindSum_189 rfl (lv_at hl 2 rfl) ?_
                    refine lv_iload_n hx hb dX12_behindSum_190 rfl (lv_at hl 0 rfl) ?_
                    refine lv_bipush (v := 16) hx hb dX12_behindSum_191 (by decide) ?_
                    refine lv_icmp_ne (tgt := 205) hx hb dX12_behindSum_193 (by decide) (fun _ => ?_) (fun c9 => absurd c9 (by decide))
                    refine lv_iconst (v := 1) hx hb dX12_behindSum_205 (by decide) ?_
                    refine lv_goto (tgt := 210) hx hb dX12_behindSum_206 (by decide) ?_
                    have hFc := tp_fr hD hS hA
                    refine va_callv (va_runV (As := [.int 1]) (rest := []) ⟨hx, hb, hml, hown, hts⟩ (t_X12_must l dC dI _ κ τ ν ρ L f hG hT h0 (1) ht_h0 (by first | decide | omega) (by first | (simp only [tf40, tf41, tf39, tf42, tf48, mo_i1, mo_l1]; exact (show (o38_x10.toInt ≤ o38_x11.toInt ∧ o38_x11.toInt ≤ o38_x9.toInt ∧ (o38_x12.toInt = 0 ∨ o38_x10.toInt < o38_x11.toInt) ∧ (o38_x12.toInt = 1 → o38_x11.toInt = o38_x10.toInt + 1 → o38_x13.toInt ≤ 26)) from by have : (1 : Int32).toInt = 1 := rfl; first | omega | decide)) | (rw [tf40, tf41, tf39, tf42, tf48]; exact (show (o38_x10.toInt ≤ o38_x11.toInt ∧ o38_x11.toInt ≤ o38_x9.toInt ∧ (o38_x12.toInt = 0 ∨ o38_x10.toInt < o38_x11.toInt) ∧ (o38_x12.toInt = 1 → o38_x11.toInt = o38_x10.toInt + 1 → o38_x13.toInt ≤ 26)) from by have : (1 : Int32).toInt = 1 := rfl; first | omega | decide)))) (cwV 1 hts gX12_behindSum_X12_must rfl rfl rfl ⟨rfl, pd_X12_must⟩ ⟨Nat.le_of_ble_eq_true rfl, Nat.le_of_ble_eq_true rfl⟩) ⟨pz_blind, va_recv hK hP (ci := 12) (q0 := q49) rfl eq49, pz_pre hP hK hD hN⟩ rfl rfl hl.1 rfl (lv_room (Nat.le_of_ble_eq_true rfl)) dX12_behindSum_210 ⟨Nat.le_of_ble_eq_true rfl, Nat.le_of_ble_eq_true rfl⟩) hS (fun q _ h => hFc q h) hFc (fun f262 t H1 locs ht hvm hw261 hB hz1 hk1 hS => ?_)
                    obtain ⟨hT, hF263, hw261p⟩ := hw261
                    have hR := hR.then hF263 (by decide)
                    have hP := hB.1; rw [ht] at hP; have hD := tp_ad f262 hD; clear hB hFc hz1 hk1; subst ht; generalize t.heap = H at hP hS ⊢
                    obtain ⟨o264_x0, o264_x1, o264_x7, o264_x9, o264_x10, o264_x11, o264_x12, o264_x13, o264_x14, o264_x15, o264_x16, o264_x17, o264_x18, o264_x19, o264_x20, o264_x22, o264_x25, o264_x28, o264_x29, o264_x32, o264_x33, o264_x34, o264_x35, o264_x36, o264_x37, o264_x38, o264_x47, o264_x48, hf_o264, ro264_0, ro264_1, ro264_2, ro264_3, ro264_4, ro264_5, ro264_6, ro264_7, ro264_8, ro264_9, ro264_10, ro264_11, ro264_12, ro264_13⟩ := tpo_13 hT ht_h0
                    have tf265 : tp_fld (f262 h0) 10 = o264_x10.toInt := tff_10 hf_o264
                    have tf266 : tp_fld (f262 h0) 11 = o264_x11.toInt := tff_11 hf_o264
                    have tf267 : tp_fld (f262 h0) 9 = o264_x9.toInt := tff_9 hf_o264
                    have tf268 : tp_fld (f262 h0) 12 = o264_x12.toInt := tff_12 hf_o264
                    have tf269 : mo_fj (f262 h0) 13 = o264_x13.toInt := tff_13 hf_o264
                    have tf270 : tp_fld (f262 h0) 15 = o264_x15.toInt := tff_15 hf_o264
                    have tf271 : tp_fld (f262 h0) 19 = o264_x19.toInt := tff_19 hf_o264
                    have tf272 : tp_fld (f262 h0) 20 = o264_x20.toInt := tff_20 hf_o264
                    have tf273 : tp_fld (f262 h0) 22 = o264_x22.toInt := tff_22 hf_o264
                    have tf274 : tp_fld (f262 h0) 28 = o264_x28.toInt := tff_28 hf_o264
                    have tk275 : (o264_x10.toInt ≤ o264_x11.toInt ∧ o264_x11.toInt ≤ o264_x9.toInt ∧ (o264_x12.toInt = 0 ∨ o264_x10.toInt < o264_x11.toInt) ∧ (o264_x12.toInt = 1 → o264_x11.toInt = o264_x10.toInt + 1 → o264_x13.toInt ≤ 26)) ∧ (o264_x15.toInt = 0 → o38_x15.toInt = 0 ∧ o38_x11.toInt ≤ o264_x10.toInt ∧ (1 : Int) ≠ 0) ∧ (o264_x15.toInt ≠ 0 → o264_x10.toInt = o38_x10.toInt) ∧ o264_x9.toInt = o38_x9.toInt ∧ o264_x19.toInt = o38_x19.toInt ∧ o264_x20.toInt = o38_x20.toInt ∧ o264_x22.toInt = o38_x22.toInt ∧ o264_x28.toInt = o38_x28.toInt := by have q9 := hw261p; first | (simp only [tf265, tf266, tf267, tf268, tf269, tf270, tf43, tf41, tf40, tf39, tf271, tf44, tf272, tf45, tf273, tf46, tf274, tf47, mo_i1, mo_l1] at q9; exact q9) | (rw [tf265, tf266, tf267, tf268, tf269, tf270, tf43, tf41, tf40, tf39, tf271, tf44, tf272, tf45, tf273, tf46, tf274, tf47] at q9; exact q9)
                    refine lv_aload_n hx hb dX12_behindSum_213 rfl (lv_at hl 2 rfl) ?_
                    obtain ⟨q276, eq276⟩ := tp_pos (tp_in hG ht_h0 (by decide)) hf_o264
                    refine va_get (D := (dC, dI)) (ci := 12) (v := .int o264_x15) (C := RX12) (T := TX12) (N := 53) hx hb hts hfX12 hown hK hP q276 eq276 rfl 15 (by decide) (hts (.fieldLink RX12 261 "ColdShipsModel" "bad" "Z") wa_994) (fun _ h9 => h9) rfl dX12_behindSum_214 ?_
                    refine lv_if_ne (tgt := 231) hx hb dX12_behindSum_217 (by decide) (fun c277 => ?_) (fun c277 => ?_)
                    · have ic277 : o264_x15.toInt ≠ 0 := zi_ne rfl rfl c277
                      refine lv_iconst (v := 1) hx hb dX12_behindSum_231 (by decide) ?_
                      have hf_278 : f262 (ρ h0 26) = .inl (κ 0, 400, .inl g33) := (hF263 _ (by rw [y10]; decide)).trans hf_o32
                      have tf279 : mo_i (f262 (ρ h0 26)) = g33 := tfa_i hf_278
                      have hf_280 : f262 (ρ h0 27) = .inl (κ 0, 400, .inl g36) := (hF263 _ (by rw [y11]; decide)).trans hf_o35
                      have tf281 : mo_i (f262 (ρ h0 27)) = g36 := tfa_i hf_280
                      have hf_282 : f262 (ρ h0 23) = .inl (κ 0, 400, .inl g27) := (hF263 _ (by rw [y8]; decide)).trans hf_o26
                      have tf283 : mo_i (f262 (ρ h0 23)) = g27 := tfa_i hf_282
                      have hf_284 : f262 (ρ h0 24) = .inl (κ 0, 400, .inl g30) := (hF263 _ (by rw [y9]; decide)).trans hf_o29
                      have tf285 : mo_i (f262 (ρ h0 24)) = g30 := tfa_i hf_284
                      exact W.iret (v := 1) hx hb hr (fun t ht hW => ⟨⟨1, f262, rfl, ⟨hT, hR, (by first | decide | omega), (by first | (simp only [tf265, tf266, tf267, tf268, tf269, tf273, tf274, tf279, tf281, tf270, tf283, tf285, tf28, tf31, tf40, tf46, tf39, tf271, tf44, tf272, tf45, mo_i1, mo_l1]; exact (show (o264_x10.toInt ≤ o264_x11.toInt ∧ o264_x11.toInt ≤ o264_x9.toInt ∧ (o264_x12.toInt = 0 ∨ o264_x10.toInt < o264_x11.toInt) ∧ (o264_x12.toInt = 1 → o264_x11.toInt = o264_x10.toInt + 1 → o264_x13.toInt ≤ 26)) ∧ o264_x22.toInt + o264_x28.toInt ≤ o264_x10.toInt ∧ mo_PV (mo_R g33) (mo_R g36) o264_x28.toInt ∧ (o264_x15.toInt = 0 → mo_EX aa (1 : Int32).toInt (mo_R g27) (mo_R g30) (mo_R g33) (mo_R g36) o264_x22.toInt o264_x28.toInt ∧ mo_FR aa (mo_R g27) (mo_R g30) (mo_R g27) (mo_R g30) ∧ ((1 : Int32).toInt = 4 ∨ o38_x10.toInt < o264_x10.toInt ∨ (o264_x10.toInt = o38_x10.toInt ∧ (1 : Int32).toInt = 2))) ∧ o38_x22.toInt ≤ o264_x22.toInt ∧ o264_x9.toInt = o38_x9.toInt ∧ o264_x19.toInt = o38_x19.toInt ∧ o264_x20.toInt = o38_x20.toInt from ⟨by omega, by omega, h3, fun q9 => by exfalso; omega, by omega, by omega, by omega, by omega⟩)) | (rw [tf265, tf266, tf267, tf268, tf269, tf273, tf274, tf279, tf281, tf270, tf283, tf285, tf28, tf31, tf40, tf46, tf39, tf271, tf44, tf272, tf45]; exact (show (o264_x10.toInt ≤ o264_x11.toInt ∧ o264_x11.toInt ≤ o264_x9.toInt ∧ (o264_x12.toInt = 0 ∨ o264_x10.toInt < o264_x11.toInt) ∧ (o264_x12.toInt = 1 → o264_x11.toInt = o264_x10.toInt + 1 → o264_x13.toInt ≤ 26)) ∧ o264_x22.toInt + o264_x28.toInt ≤ o264_x10.toInt ∧ mo_PV (mo_R g33) (mo_R g36) o264_x28.toInt ∧ (o264_x15.toInt = 0 → mo_EX aa (1 : Int32).toInt (mo_R g27) (mo_R g30) (mo_R g33) (mo_R g36) o264_x22.toInt o264_x28.toInt ∧ mo_FR aa (mo_R g27) (mo_R g30) (mo_R g27) (mo_R g30) ∧ ((1 : Int32).toInt = 4 ∨ o38_x10.toInt < o264_x10.toInt ∨ (o264_x10.toInt = o38_x10.toInt ∧ (1 : Int32).toInt = 2))) ∧ o38_x22.toInt ≤ o264_x22.toInt ∧ o264_x9.toInt = o38_x9.toInt ∧ o264_x19.toInt = o38_x19.toInt ∧ o264_x20.toInt = o38_x20.toInt from ⟨by omega, by omega, h3, fun q9 => by exfalso; omega, by omega, by omega, by omega, by omega⟩)))⟩, by rw [ht]; exact hP, va_K.moved hW.alike hK, hD⟩, hS.F ht⟩) hS.2.2 dX12_behindSum_232
                    · have ic277 : o264_x15.toInt = 0 := zi_nef rfl rfl c277
                      refine lv_aload_n hx hb dX12_behindSum_220 rfl (lv_at hl 2 rfl) ?_
                      refine lv_iconst (v := 5) hx hb dX12_behindSum_221 (by decide) ?_
                      have hf_286 : f262 (ρ h0 26) = .inl (κ 0, 400, .inl g33) := (hF263 _ (by rw [y10]; decide)).trans hf_o32
                      have tf287 : mo_i (f262 (ρ h0 26)) = g33 := tfa_i hf_286
                      have hf_288 : f262 (ρ h0 27) = .inl (κ 0, 400, .inl g36) := (hF263 _ (by rw [y11]; decide)).trans hf_o35
                      have tf289 : mo_i (f262 (ρ h0 27)) = g36 := tfa_i hf_288
                      have hf_290 : f262 (ρ h0 23) = .inl (κ 0, 400, .inl g27) := (hF263 _ (by rw [y8]; decide)).trans hf_o26
                      have tf291 : mo_i (f262 (ρ h0 23)) = g27 := tfa_i hf_290
                      have hf_292 : f262 (ρ h0 24) = .inl (κ 0, 400, .inl g30) := (hF263 _ (by rw [y9]; decide)).trans hf_o29
                      have tf293 : mo_i (f262 (ρ h0 24)) = g30 := tfa_i hf_292
                      have hFc := tp_fr hD hS hA
                      refine va_callv (va_runV (As := [.int 5]) (rest := []) ⟨hx, hb, hml, hown, hts⟩ (t_X12_settleDown l dC dI _ κ τ ν ρ L f262 hG hT h0 (5) aa ht_h0 (by first | decide | omega) (by first | (simp only [tf273, tf274, mo_i1, mo_l1]; exact (show o264_x22.toInt + o264_x28.toInt ≤ 400 from by omega)) | (rw [tf273, tf274]; exact (show o264_x22.toInt + o264_x28.toInt ≤ 400 from by omega))) (by first | (simp only [tf287, tf289, tf274, mo_i1, mo_l1]; exact (show mo_PV (mo_R g33) (mo_R g36) o264_x28.toInt from h3)) | (rw [tf287, tf289, tf274]; exact (show mo_PV (mo_R g33) (mo_R g36) o264_x28.toInt from h3))) (by first | (simp only [tf270, tf291, tf293, tf287, tf289, tf273, tf274, mo_i1, mo_l1]; exact (show (o264_x15.toInt = 0 → 0 ≤ aa ∧ mo_PJ aa (mo_R g27) (mo_R g30) (mo_R g33) (mo_R g36) o264_x22.toInt o264_x28.toInt 1) from fun _ => ⟨h4.1, h4.pj1 (by decide)⟩)) | (rw [tf270, tf291, tf293, tf287, tf289, tf273, tf274]; exact (show (o264_x15.toInt = 0 → 0 ≤ aa ∧ mo_PJ aa (mo_R g27) (mo_R g30) (mo_R g33) (mo_R g36) o264_x22.toInt o264_x28.toInt 1) from fun _ => ⟨h4.1, h4.pj1 (by decide)⟩)))) (cwV 1 hts gX12_behindSum_X12_settleDown rfl rfl rfl ⟨rfl, pd_X12_settleDown⟩ ⟨Nat.le_of_ble_eq_true rfl, Nat.le_of_ble_eq_true rfl⟩) ⟨pz_blind, va_recv hK hP (ci := 12) (q0 := q276) rfl eq276, pz_pre hP hK hD hN⟩ rfl rfl hl.1 rfl (lv_room (Nat.le_of_ble_eq_true rfl)) dX12_behindSum_222 ⟨Nat.le_of_ble_eq_true rfl, Nat.le_of_ble_eq_true rfl⟩) hS (fun q _ h => hFc q h) hFc (fun f296 t H1 locs ht hvm hw295 hB hz1 hk1 hS => ?_)
                      obtain ⟨hT, hF297, hw295p⟩ := hw295
                      have hR := hR.then hF297 (by decide)
                      have hP := hB.1; rw [ht] at hP; have hD := tp_ad f296 hD; clear hB hFc hz1 hk1; subst ht; generalize t.heap = H at hP hS ⊢
                      obtain ⟨o298_x0, o298_x1, o298_x7, o298_x9, o298_x10, o298_x11, o298_x12, o298_x13, o298_x14, o298_x15, o298_x16, o298_x17, o298_x18, o298_x19, o298_x20, o298_x22, o298_x25, o298_x28, o298_x29, o298_x32, o298_x33, o298_x34, o298_x35, o298_x36, o298_x37, o298_x38, o298_x47, o298_x48, hf_o298, ro298_0, ro298_1, ro298_2, ro298_3, ro298_4, ro298_5, ro298_6, ro298_7, ro298_8, ro298_9, ro298_10, ro298_11, ro298_12, ro298_13⟩ := tpo_13 hT ht_h0
                      have tf299 : tp_fld (f296 h0) 28 = o298_x28.toInt := tff_28 hf_o298
                      have tf300 : tp_fld (f296 h0) 22 = o298_x22.toInt := tff_22 hf_o298
                      obtain ⟨g302, hf_o301⟩ := tpo_53 hT y8
                      have tf303 : mo_i (f296 (ρ h0 23)) = g302 := tfa_i hf_o301
                      obtain ⟨g305, hf_o304⟩ := tpo_54 hT y9
                      have tf306 : mo_i (f296 (ρ h0 24)) = g305 := tfa_i hf_o304
                      have tf307 : tp_fld (f296 h0) 9 = o298_x9.toInt := tff_9 hf_o298
                      have tf308 : tp_fld (f296 h0) 10 = o298_x10.toInt := tff_10 hf_o298
                      have tf309 : tp_fld (f296 h0) 11 = o298_x11.toInt := tff_11 hf_o298
                      have tf310 : tp_fld (f296 h0) 12 = o298_x12.toInt := tff_12 hf_o298
                      have tf311 : mo_fj (f296 h0) 13 = o298_x13.toInt := tff_13 hf_o298
                      have tf312 : tp_fld (f296 h0) 15 = o298_x15.toInt := tff_15 hf_o298
                      have tf313 : tp_fld (f296 h0) 19 = o298_x19.toInt := tff_19 hf_o298
                      have tf314 : tp_fld (f296 h0) 20 = o298_x20.toInt := tff_20 hf_o298
                      have tk315 : o298_x28.toInt ≤ o264_x28.toInt ∧ o264_x22.toInt ≤ o298_x22.toInt ∧ o298_x22.toInt + o298_x28.toInt ≤ o264_x22.toInt + o264_x28.toInt ∧ (o264_x15.toInt = 0 → mo_PJ aa (mo_R g302) (mo_R g305) (mo_R g33) (mo_R g36) o298_x22.toInt o298_x28.toInt 1) ∧ (∀ i, o298_x28.toInt ≤ i → i < o264_x28.toInt → (mo_R g33) i < 30 ∧ (5 ≤ (5 : Int) → (mo_R g33) i < 14)) ∧ (o298_x28.toInt = 0 ∨ (((5 : Int) = 1 → 30 ≤ (mo_R g33) (o298_x28.toInt + -1)) ∧ ((5 : Int) = 5 → 14 ≤ (mo_R g33) (o298_x28.toInt + -1)))) ∧ (o264_x15.toInt = 0 → mo_FR aa (mo_R g27) (mo_R g30) (mo_R g302) (mo_R g305)) ∧ o298_x9.toInt = o264_x9.toInt ∧ o298_x10.toInt = o264_x10.toInt ∧ o298_x11.toInt = o264_x11.toInt ∧ o298_x12.toInt = o264_x12.toInt ∧ o298_x13.toInt = o264_x13.toInt ∧ o298_x15.toInt = o264_x15.toInt ∧ o298_x19.toInt = o264_x19.toInt ∧ o298_x20.toInt = o264_x20.toInt := by have q9 := hw295p; first | (simp only [tf299, tf274, tf273, tf300, tf270, tf303, tf306, tf287, tf289, tf291, tf293, tf307, tf267, tf308, tf265, tf309, tf266, tf310, tf268, tf311, tf269, tf312, tf313, tf271, tf314, tf272, mo_i1, mo_l1] at q9; exact q9) | (rw [tf299, tf274, tf273, tf300, tf270, tf303, tf306, tf287, tf289, tf291, tf293, tf307, tf267, tf308, tf265, tf309, tf266, tf310, tf268, tf311, tf269, tf312, tf313, tf271, tf314, tf272] at q9; exact q9)
                      have hin8 : mo_in (mo_R g33) (o38_x28.toInt).toNat = mo_in (mo_R g33) (o298_x28.toInt).toNat := mo_in_drop' (by omega) (by omega) (fun i i0 i1 => (tk315.2.2.2.2.1 i i0 i1).1)
                      have hin9 : True → mo_in (mo_R g33) (o298_x28.toInt).toNat ≠ 31 := fun _ => by omega
                      refine lv_aload_n hx hb dX12_behindSum_225 rfl (lv_at hl 2 rfl) ?_
                      refine lv_iload_n hx hb dX12_behindSum_226 rfl (lv_at hl 0 rfl) ?_
                      refine lv_iconst (v := 0) hx hb dX12_behindSum_227 (by decide) ?_
                      have hf_316 : f296 (ρ h0 26) = .inl (κ 0, 400, .inl g33) := (hF297 _ (by rw [y10]; decide)).trans hf_286
                      have tf317 : mo_i (f296 (ρ h0 26)) = g33 := tfa_i hf_316
                      have hf_318 : f296 (ρ h0 27) = .inl (κ 0, 400, .inl g36) := (hF297 _ (by rw [y11]; decide)).trans hf_288
                      have tf319 : mo_i (f296 (ρ h0 27)) = g36 := tfa_i hf_318
                      obtain ⟨q320, eq320⟩ := tp_pos (tp_in hG ht_h0 (by decide)) hf_o298
                      have hFc := tp_fr hD hS hA
                      refine va_callv (va_runV (As := [.int 15, .int 0]) (rest := []) ⟨hx, hb, hml, hown, hts⟩ (t_X12_push l dC dI _ κ τ ν ρ L f296 hG hT h0 (15) (0) ht_h0 (by first | (simp only [tf299, mo_i1, mo_l1]; exact (show o298_x28.toInt < 400 from by have : (15 : Int32).toInt = 15 := rfl; have : (0 : Int32).toInt = 0 := rfl; first | omega | decide)) | (rw [tf299]; exact (show o298_x28.toInt < 400 from by have : (15 : Int32).toInt = 15 := rfl; have : (0 : Int32).toInt = 0 := rfl; first | omega | decide)))) (cwV 2 hts gX12_behindSum_X12_push rfl rfl rfl ⟨rfl, pd_X12_push⟩ ⟨Nat.le_of_ble_eq_true rfl, Nat.le_of_ble_eq_true rfl⟩) ⟨pz_blind, va_recv hK hP (ci := 12) (q0 := q320) rfl eq320, pz_pre hP hK hD hN⟩ rfl rfl hl.1 rfl (lv_room (Nat.le_of_ble_eq_true rfl)) dX12_behindSum_228 ⟨Nat.le_of_ble_eq_true rfl, Nat.le_of_ble_eq_true rfl⟩) hS (fun q _ h => hFc q h) hFc (fun f323 t H1 locs ht hvm hw322 hB hz1 hk1 hS => ?_)
                      obtain ⟨hT, hF324, hw322p⟩ := hw322
                      have hR := hR.then hF324 (by decide)
                      have hP := hB.1; rw [ht] at hP; have hD := tp_ad f323 hD; clear hB hFc hz1 hk1; subst ht; generalize t.heap = H at hP hS ⊢
                      obtain ⟨g326, hf_o325⟩ := tpo_56 hT y10
                      have tf327 : mo_i (f323 (ρ h0 26)) = g326 := tfa_i hf_o325
                      obtain ⟨g329, hf_o328⟩ := tpo_57 hT y11
                      have tf330 : mo_i (f323 (ρ h0 27)) = g329 := tfa_i hf_o328
                      obtain ⟨o331_x0, o331_x1, o331_x7, o331_x9, o331_x10, o331_x11, o331_x12, o331_x13, o331_x14, o331_x15, o331_x16, o331_x17, o331_x18, o331_x19, o331_x20, o331_x22, o331_x25, o331_x28, o331_x29, o331_x32, o331_x33, o331_x34, o331_x35, o331_x36, o331_x37, o331_x38, o331_x47, o331_x48, hf_o331, ro331_0, ro331_1, ro331_2, ro331_3, ro331_4, ro331_5, ro331_6, ro331_7, ro331_8, ro331_9, ro331_10, ro331_11, ro331_12, ro331_13⟩ := tpo_13 hT ht_h0
                      have tf332 : tp_fld (f323 h0) 28 = o331_x28.toInt := tff_28 hf_o331
                      have tf333 : tp_fld (f323 h0) 9 = o331_x9.toInt := tff_9 hf_o331
                      have tf334 : tp_fld (f323 h0) 10 = o331_x10.toInt := tff_10 hf_o331
                      have tf335 : tp_fld (f323 h0) 11 = o331_x11.toInt := tff_11 hf_o331
                      have tf336 : tp_fld (f323 h0) 12 = o331_x12.toInt := tff_12 hf_o331
                      have tf337 : mo_fj (f323 h0) 13 = o331_x13.toInt := tff_13 hf_o331
                      have tf338 : tp_fld (f323 h0) 15 = o331_x15.toInt := tff_15 hf_o331
                      have tf339 : tp_fld (f323 h0) 19 = o331_x19.toInt := tff_19 hf_o331
                      have tf340 : tp_fld (f323 h0) 20 = o331_x20.toInt := tff_20 hf_o331
                      have tf341 : tp_fld (f323 h0) 22 = o331_x22.toInt := tff_22 hf_o331
                      have tk342 : mo_U (mo_R g33) (mo_R g326) o298_x28.toInt (15 : Int) ∧ mo_U (mo_R g36) (mo_R g329) o298_x28.toInt (0 : Int) ∧ o331_x28.toInt = o298_x28.toInt + 1 ∧ o331_x9.toInt = o298_x9.toInt ∧ o331_x10.toInt = o298_x10.toInt ∧ o331_x11.toInt = o298_x11.toInt ∧ o331_x12.toInt = o298_x12.toInt ∧ o331_x13.toInt = o298_x13.toInt ∧ o331_x15.toInt = o298_x15.toInt ∧ o331_x19.toInt = o298_x19.toInt ∧ o331_x20.toInt = o298_x20.toInt ∧ o331_x22.toInt = o298_x22.toInt := by have q9 := hw322p; first | (simp only [tf317, tf327, tf299, tf319, tf330, tf332, tf333, tf307, tf334, tf308, tf335, tf309, tf336, tf310, tf337, tf311, tf338, tf312, tf339, tf313, tf340, tf314, tf341, tf300, mo_i1, mo_l1] at q9; exact q9) | (rw [tf317, tf327, tf299, tf319, tf330, tf332, tf333, tf307, tf334, tf308, tf335, tf309, tf336, tf310, tf337, tf311, tf338, tf312, tf339, tf313, tf340, tf314, tf341, tf300] at q9; exact q9)
                      refine lv_iconst (v := 1) hx hb dX12_behindSum_231 (by decide) ?_
                      have hf_343 : f323 (ρ h0 23) = .inl (κ 0, 400, .inl g302) := (hF324 _ (by rw [y8]; decide)).trans hf_o301
                      have tf344 : mo_i (f323 (ρ h0 23)) = g302 := tfa_i hf_343
                      have hf_345 : f323 (ρ h0 24) = .inl (κ 0, 400, .inl g305) := (hF324 _ (by rw [y9]; decide)).trans hf_o304
                      have tf346 : mo_i (f323 (ρ h0 24)) = g305 := tfa_i hf_345
                      exact W.iret (v := 1) hx hb hr (fun t ht hW => ⟨⟨1, f323, rfl, ⟨hT, hR, (by first | decide | omega), (by first | (simp only [tf334, tf335, tf333, tf336, tf337, tf341, tf332, tf327, tf330, tf338, tf344, tf346, tf28, tf31, tf40, tf46, tf39, tf339, tf44, tf340, tf45, mo_i1, mo_l1]; exact (show (o331_x10.toInt ≤ o331_x11.toInt ∧ o331_x11.toInt ≤ o331_x9.toInt ∧ (o331_x12.toInt = 0 ∨ o331_x10.toInt < o331_x11.toInt) ∧ (o331_x12.toInt = 1 → o331_x11.toInt = o331_x10.toInt + 1 → o331_x13.toInt ≤ 26)) ∧ o331_x22.toInt + o331_x28.toInt ≤ o331_x10.toInt ∧ mo_PV (mo_R g326) (mo_R g329) o331_x28.toInt ∧ (o331_x15.toInt = 0 → mo_EX aa (1 : Int32).toInt (mo_R g302) (mo_R g305) (mo_R g326) (mo_R g329) o331_x22.toInt o331_x28.toInt ∧ mo_FR aa (mo_R g27) (mo_R g30) (mo_R g302) (mo_R g305) ∧ ((1 : Int32).toInt = 4 ∨ o38_x10.toInt < o331_x10.toInt ∨ (o331_x10.toInt = o38_x10.toInt ∧ (1 : Int32).toInt = 2))) ∧ o38_x22.toInt ≤ o331_x22.toInt ∧ o331_x9.toInt = o38_x9.toInt ∧ o331_x19.toInt = o38_x19.toInt ∧ o331_x20.toInt = o38_x20.toInt from ⟨by omega, by omega, ((h3.lt (n' := _) tk315.1).push (by omega) tk342.1 tk342.2.1 (by omega) (by omega) (by omega)), fun q9 => ⟨(mo_EX.bin h4.1 (tk315.2.2.2.1 (by omega)) (h4.2.2.1.lt tk315.1) (by omega) tk342.1 tk342.2.1 (by omega) (by omega) (fun q7 => hin9 (by omega))), (tk315.2.2.2.2.2.2.1 (by omega)), by have q8 : (1 : Int32).toInt = 1 := rfl; omega⟩, by omega, by omega, by omega, by omega⟩)) | (rw [tf334, tf335, tf333, tf336, tf337, tf341, tf332, tf327, tf330, tf338, tf344, tf346, tf28, tf31, tf40, tf46, tf39, tf339, tf44, tf340, tf45]; exact (show (o331_x10.toInt ≤ o331_x11.toInt ∧ o331_x11.toInt ≤ o331_x9.toInt ∧ (o331_x12.toInt = 0 ∨ o331_x10.toInt < o331_x11.toInt) ∧ (o331_x12.toInt = 1 → o331_x11.toInt = o331_x10.toInt + 1 → o331_x13.toInt ≤ 26)) ∧ o331_x22.toInt + o331_x28.toInt ≤ o331_x10.toInt ∧ mo_PV (mo_R g326) (mo_R g329) o331_x28.toInt ∧ (o331_x15.toInt = 0 → mo_EX aa (1 : Int32).toInt (mo_R g302) (mo_R g305) (mo_R g326) (mo_R g329) o331_x22.toInt o331_x28.toInt ∧ mo_FR aa (mo_R g27) (mo_R g30) (mo_R g302) (mo_R g305) ∧ ((1 : Int32).toInt = 4 ∨ o38_x10.toInt < o331_x10.toInt ∨ (o331_x10.toInt = o38_x10.toInt ∧ (1 : Int32).toInt = 2))) ∧ o38_x22.toInt ≤ o331_x22.toInt ∧ o331_x9.toInt = o38_x9.toInt ∧ o331_x19.toInt = o38_x19.toInt ∧ o331_x20.toInt = o38_x20.toInt from ⟨by omega, by omega, ((h3.lt (n' := _) tk315.1).push (by omega) tk342.1 tk342.2.1 (by omega) (by omega) (by omega)), fun q9 => ⟨(mo_EX.bin h4.1 (tk315.2.2.2.1 (by omega)) (h4.2.2.1.lt tk315.1) (by omega) tk342.1 tk342.2.1 (by omega) (by omega) (fun q7 => hin9 (by omega))), (tk315.2.2.2.2.2.2.1 (by omega)), by have q8 : (1 : Int32).toInt = 1 := rfl; omega⟩, by omega, by omega, by omega, by omega⟩)))⟩, by rw [ht]; exact hP, va_K.moved hW.alike hK, hD⟩, hS.F ht⟩) hS.2.2 dX12_behindSum_232
                · have ic77 : r74.toInt ≠ 0 := zi_eqf rfl rfl c77
                  refine lv_bipush (v := 14) hx hb dX12_behindSum_167 (by decide) ?_
                  refine lv_goto (tgt := 188) hx hb dX12_behindSum_169 (by decide) ?_
                  refine lv_istore_n (lv' := [(2, .int 14), (3, .int r66), (0, .ref h0), (1, .int v)]) hx hb dX12_behindSum_188 rfl hl (by decide) rfl (fun ls hl => ?_)
                  refine lv_aload_n hx hb dX12_behindSum_189 rfl (lv_at hl 2 rfl) ?_
                  refine lv_iload_n hx hb dX12_behindSum_190 rfl (lv_at hl 0 rfl) ?_
                  refine lv_bipush (v := 16) hx hb dX12_behindSum_191 (by decide) ?_
                  refine lv_icmp_ne (tgt := 205) hx hb dX12_behindSum_193 (by decide) (fun _ => ?_) (fun c9 => absurd c9 (by decide))
                  refine lv_iconst (v := 1) hx hb dX12_behindSum_205 (by decide) ?_
                  refine lv_goto (tgt := 210) hx hb dX12_behindSum_206 (by decide) ?_
                  have hFc := tp_fr hD hS hA
                  refine va_callv (va_runV (As := [.int 1]) (rest := []) ⟨hx, hb, hml, hown, hts⟩ (t_X12_must l dC dI _ κ τ ν ρ L f hG hT h0 (1) ht_h0 (by first | decide | omega) (by first | (simp only [tf40, tf41, tf39, tf42, tf48, mo_i1, mo_l1]; exact (show (o38_x10.toInt ≤ o38_x11.toInt ∧ o38_x11.toInt ≤ o38_x9.toInt ∧ (o38_x12.toInt = 0 ∨ o38_x10.toInt < o38_x11.toInt) ∧ (o38_x12.toInt = 1 → o38_x11.toInt = o38_x10.toInt + 1 → o38_x13.toInt ≤ 26)) from by have : (1 : Int32).toInt = 1 := rfl; first | omega | decide)) | (rw [tf40, tf41, tf39, tf42, tf48]; exact (show (o38_x10.toInt ≤ o38_x11.toInt ∧ o38_x11.toInt ≤ o38_x9.toInt ∧ (o38_x12.toInt = 0 ∨ o38_x10.toInt < o38_x11.toInt) ∧ (o38_x12.toInt = 1 → o38_x11.toInt = o38_x10.toInt + 1 → o38_x13.toInt ≤ 26)) from by have : (1 : Int32).toInt = 1 := rfl; first | omega | decide)))) (cwV 1 hts gX12_behindSum_X12_must rfl rfl rfl ⟨rfl, pd_X12_must⟩ ⟨Nat.le_of_ble_eq_true rfl, Nat.le_of_ble_eq_true rfl⟩) ⟨pz_blind, va_recv hK hP (ci := 12) (q0 := q49) rfl eq49, pz_pre hP hK hD hN⟩ rfl rfl hl.1 rfl (lv_room (Nat.le_of_ble_eq_true rfl)) dX12_behindSum_210 ⟨Nat.le_of_ble_eq_true rfl, Nat.le_of_ble_eq_true rfl⟩) hS (fun q _ h => hFc q h) hFc (fun f349 t H1 locs ht hvm hw348 hB hz1 hk1 hS => ?_)
                  obtain ⟨hT, hF350, hw348p⟩ := hw348
                  have hR := hR.then hF350 (by decide)
                  have hP := hB.1; rw [ht] at hP; have hD := tp_ad f349 hD; clear hB hFc hz1 hk1; subst ht; generalize t.heap = H at hP hS ⊢
                  obtain ⟨o351_x0, o351_x1, o351_x7, o351_x9, o351_x10, o351_x11, o351_x12, o351_x13, o351_x14, o351_x15, o351_x16, o351_x17, o351_x18, o351_x19, o351_x20, o351_x22, o351_x25, o351_x28, o351_x29, o351_x32, o351_x33, o351_x34, o351_x35, o351_x36, o351_x37, o351_x38, o351_x47, o351_x48, hf_o351, ro351_0, ro351_1, ro351_2, ro351_3, ro351_4, ro351_5, ro351_6, ro351_7, ro351_8, ro351_9, ro351_10, ro351_11, ro351_12, ro351_13⟩ := tpo_13 hT ht_h0
                  have tf352 : tp_fld (f349 h0) 10 = o351_x10.toInt := tff_10 hf_o351
                  have tf353 : tp_fld (f349 h0) 11 = o351_x11.toInt := tff_11 hf_o351
                  have tf354 : tp_fld (f349 h0) 9 = o351_x9.toInt := tff_9 hf_o351
                  have tf355 : tp_fld (f349 h0) 12 = o351_x12.toInt := tff_12 hf_o351
                  have tf356 : mo_fj (f349 h0) 13 = o351_x13.toInt := tff_13 hf_o351
                  have tf357 : tp_fld (f349 h0) 15 = o351_x15.toInt := tff_15 hf_o351
                  have tf358 : tp_fld (f349 h0) 19 = o351_x19.toInt := tff_19 hf_o351
                  have tf359 : tp_fld (f349 h0) 20 = o351_x20.toInt := tff_20 hf_o351
                  have tf360 : tp_fld (f349 h0) 22 = o351_x22.toInt := tff_22 hf_o351
                  have tf361 : tp_fld (f349 h0) 28 = o351_x28.toInt := tff_28 hf_o351
                  have tk362 : (o351_x10.toInt ≤ o351_x11.toInt ∧ o351_x11.toInt ≤ o351_x9.toInt ∧ (o351_x12.toInt = 0 ∨ o351_x10.toInt < o351_x11.toInt) ∧ (o351_x12.toInt = 1 → o351_x11.toInt = o351_x10.toInt + 1 → o351_x13.toInt ≤ 26)) ∧ (o351_x15.toInt = 0 → o38_x15.toInt = 0 ∧ o38_x11.toInt ≤ o351_x10.toInt ∧ (1 : Int) ≠ 0) ∧ (o351_x15.toInt ≠ 0 → o351_x10.toInt = o38_x10.toInt) ∧ o351_x9.toInt = o38_x9.toInt ∧ o351_x19.toInt = o38_x19.toInt ∧ o351_x20.toInt = o38_x20.toInt ∧ o351_x22.toInt = o38_x22.toInt ∧ o351_x28.toInt = o38_x28.toInt := by have q9 := hw348p; first | (simp only [tf352, tf353, tf354, tf355, tf356, tf357, tf43, tf41, tf40, tf39, tf358, tf44, tf359, tf45, tf360, tf46, tf361, tf47, mo_i1, mo_l1] at q9; exact q9) | (rw [tf352, tf353, tf354, tf355, tf356, tf357, tf43, tf41, tf40, tf39, tf358, tf44, tf359, tf45, tf360, tf46, tf361, tf47] at q9; exact q9)
                  refine lv_aload_n hx hb dX12_behindSum_213 rfl (lv_at hl 2 rfl) ?_
                  obtain ⟨q363, eq363⟩ := tp_pos (tp_in hG ht_h0 (by decide)) hf_o351
                  refine va_get (D := (dC, dI)) (ci := 12) (v := .int o351_x15) (C := RX12) (T := TX12) (N := 53) hx hb hts hfX12 hown hK hP q363 eq363 rfl 15 (by decide) (hts (.fieldLink RX12 261 "ColdShipsModel" "bad" "Z") wa_994) (fun _ h9 => h9) rfl dX12_behindSum_214 ?_
                  refine lv_if_ne (tgt := 231) hx hb dX12_behindSum_217 (by decide) (fun c364 => ?_) (fun c364 => ?_)
                  · have ic364 : o351_x15.toInt ≠ 0 := zi_ne rfl rfl c364
                    refine lv_iconst (v := 1) hx hb dX12_behindSum_231 (by decide) ?_
                    have hf_365 : f349 (ρ h0 26) = .inl (κ 0, 400, .inl g33) := (hF350 _ (by rw [y10]; decide)).trans hf_o32
                    have tf366 : mo_i (f349 (ρ h0 26)) = g33 := tfa_i hf_365
                    have hf_367 : f349 (ρ h0 27) = .inl (κ 0, 400, .inl g36) := (hF350 _ (by rw [y11]; decide)).trans hf_o35
                    have tf368 : mo_i (f349 (ρ h0 27)) = g36 := tfa_i hf_367
                    have hf_369 : f349 (ρ h0 23) = .inl (κ 0, 400, .inl g27) := (hF350 _ (by rw [y8]; decide)).trans hf_o26
                    have tf370 : mo_i (f349 (ρ h0 23)) = g27 := tfa_i hf_369
                    have hf_371 : f349 (ρ h0 24) = .inl (κ 0, 400, .inl g30) := (hF350 _ (by rw [y9]; decide)).trans hf_o29
                    have tf372 : mo_i (f349 (ρ h0 24)) = g30 := tfa_i hf_371
                    exact W.iret (v := 1) hx hb hr (fun t ht hW => ⟨⟨1, f349, rfl, ⟨hT, hR, (by first | decide | omega), (by first | (simp only [tf352, tf353, tf354, tf355, tf356, tf360, tf361, tf366, tf368, tf357, tf370, tf372, tf28, tf31, tf40, tf46, tf39, tf358, tf44, tf359, tf45, mo_i1, mo_l1]; exact (show (o351_x10.toInt ≤ o351_x11.toInt ∧ o351_x11.toInt ≤ o351_x9.toInt ∧ (o351_x12.toInt = 0 ∨ o351_x10.toInt < o351_x11.toInt) ∧ (o351_x12.toInt = 1 → o351_x11.toInt = o351_x10.toInt + 1 → o351_x13.toInt ≤ 26)) ∧ o351_x22.toInt + o351_x28.toInt ≤ o351_x10.toInt ∧ mo_PV (mo_R g33) (mo_R g36) o351_x28.toInt ∧ (o351_x15.toInt = 0 → mo_EX aa (1 : Int32).toInt (mo_R g27) (mo_R g30) (mo_R g33) (mo_R g36) o351_x22.toInt o351_x28.toInt ∧ mo_FR aa (mo_R g27) (mo_R g30) (mo_R g27) (mo_R g30) ∧ ((1 : Int32).toInt = 4 ∨ o38_x10.toInt < o351_x10.toInt ∨ (o351_x10.toInt = o38_x10.toInt ∧ (1 : Int32).toInt = 2))) ∧ o38_x22.toInt ≤ o351_x22.toInt ∧ o351_x9.toInt = o38_x9.toInt ∧ o351_x19.toInt = o38_x19.toInt ∧ o351_x20.toInt = o38_x20.toInt from ⟨by omega, by omega, h3, fun q9 => by exfalso; omega, by omega, by omega, by omega, by omega⟩)) | (rw [tf352, tf353, tf354, tf355, tf356, tf360, tf361, tf366, tf368, tf357, tf370, tf372, tf28, tf31, tf40, tf46, tf39, tf358, tf44, tf359, tf45]; exact (show (o351_x10.toInt ≤ o351_x11.toInt ∧ o351_x11.toInt ≤ o351_x9.toInt ∧ (o351_x12.toInt = 0 ∨ o351_x10.toInt < o351_x11.toInt) ∧ (o351_x12.toInt = 1 → o351_x11.toInt = o351_x10.toInt + 1 → o351_x13.toInt ≤ 26)) ∧ o351_x22.toInt + o351_x28.toInt ≤ o351_x10.toInt ∧ mo_PV (mo_R g33) (mo_R g36) o351_x28.toInt ∧ (o351_x15.toInt = 0 → mo_EX aa (1 : Int32).toInt (mo_R g27) (mo_R g30) (mo_R g33) (mo_R g36) o351_x22.toInt o351_x28.toInt ∧ mo_FR aa (mo_R g27) (mo_R g30) (mo_R g27) (mo_R g30) ∧ ((1 : Int32).toInt = 4 ∨ o38_x10.toInt < o351_x10.toInt ∨ (o351_x10.toInt = o38_x10.toInt ∧ (1 : Int32).toInt = 2))) ∧ o38_x22.toInt ≤ o351_x22.toInt ∧ o351_x9.toInt = o38_x9.toInt ∧ o351_x19.toInt = o38_x19.toInt ∧ o351_x20.toInt = o38_x20.toInt from ⟨by omega, by omega, h3, fun q9 => by exfalso; omega, by omega, by omega, by omega, by omega⟩)))⟩, by rw [ht]; exact hP, va_K.moved hW.alike hK, hD⟩, hS.F ht⟩) hS.2.2 dX12_behindSum_232
                  · have ic364 : o351_x15.toInt = 0 := zi_nef rfl rfl c364
                    refine lv_aload_n hx hb dX12_behindSum_220 rfl (lv_at hl 2 rfl) ?_
                    refine lv_iconst (v := 5) hx hb dX12_behindSum_221 (by decide) ?_
                    have hf_373 : f349 (ρ h0 26) = .inl (κ 0, 400, .inl g33) := (hF350 _ (by rw [y10]; decide)).trans hf_o32
                    have tf374 : mo_i (f349 (ρ h0 26)) = g33 := tfa_i hf_373
                    have hf_375 : f349 (ρ h0 27) = .inl (κ 0, 400, .inl g36) := (hF350 _ (by rw [y11]; decide)).trans hf_o35
                    have tf376 : mo_i (f349 (ρ h0 27)) = g36 := tfa_i hf_375
                    have hf_377 : f349 (ρ h0 23) = .inl (κ 0, 400, .inl g27) := (hF350 _ (by rw [y8]; decide)).trans hf_o26
                    have tf378 : mo_i (f349 (ρ h0 23)) = g27 := tfa_i hf_377
                    have hf_379 : f349 (ρ h0 24) = .inl (κ 0, 400, .inl g30) := (hF350 _ (by rw [y9]; decide)).trans hf_o29
                    have tf380 : mo_i (f349 (ρ h0 24)) = g30 := tfa_i hf_379
                    have hFc := tp_fr hD hS hA
                    refine va_callv (va_runV (As := [.int 5]) (rest := []) ⟨hx, hb, hml, hown, hts⟩ (t_X12_settleDown l dC dI _ κ τ ν ρ L f349 hG hT h0 (5) aa ht_h0 (by first | decide | omega) (by first | (simp only [tf360, tf361, mo_i1, mo_l1]; exact (show o351_x22.toInt + o351_x28.toInt ≤ 400 from by omega)) | (rw [tf360, tf361]; exact (show o351_x22.toInt + o351_x28.toInt ≤ 400 from by omega))) (by first | (simp only [tf374, tf376, tf361, mo_i1, mo_l1]; exact (show mo_PV (mo_R g33) (mo_R g36) o351_x28.toInt from h3)) | (rw [tf374, tf376, tf361]; exact (show mo_PV (mo_R g33) (mo_R g36) o351_x28.toInt from h3))) (by first | (simp only [tf357, tf378, tf380, tf374, tf376, tf360, tf361, mo_i1, mo_l1]; exact (show (o351_x15.toInt = 0 → 0 ≤ aa ∧ mo_PJ aa (mo_R g27) (mo_R g30) (mo_R g33) (mo_R g36) o351_x22.toInt o351_x28.toInt 1) from fun _ => ⟨h4.1, h4.pj1 (by decide)⟩)) | (rw [tf357, tf378, tf380, tf374, tf376, tf360, tf361]; exact (show (o351_x15.toInt = 0 → 0 ≤ aa ∧ mo_PJ aa (mo_R g27) (mo_R g30) (mo_R g33) (mo_R g36) o351_x22.toInt o351_x28.toInt 1) from fun _ => ⟨h4.1, h4.pj1 (by decide)⟩)))) (cwV 1 hts gX12_behindSum_X12_settleDown rfl rfl rfl ⟨rfl, pd_X12_settleDown⟩ ⟨Nat.le_of_ble_eq_true rfl, Nat.le_of_ble_eq_true rfl⟩) ⟨pz_blind, va_recv hK hP (ci := 12) (q0 := q363) rfl eq363, pz_pre hP hK hD hN⟩ rfl rfl hl.1 rfl (lv_room (Nat.le_of_ble_eq_true rfl)) dX12_behindSum_222 ⟨Nat.le_of_ble_eq_true rfl, Nat.le_of_ble_eq_true rfl⟩) hS (fun q _ h => hFc q h) hFc (fun f383 t H1 locs ht hvm hw382 hB hz1 hk1 hS => ?_)
                    obtain ⟨hT, hF384, hw382p⟩ := hw382
                    have hR := hR.then hF384 (by decide)
                    have hP := hB.1; rw [ht] at hP; have hD := tp_ad f383 hD; clear hB hFc hz1 hk1; subst ht; generalize t.heap = H at hP hS ⊢
                    obtain ⟨o385_x0, o385_x1, o385_x7, o385_x9, o385_x10, o385_x11, o385_x12, o385_x13, o385_x14, o385_x15, o385_x16, o385_x17, o385_x18, o385_x19, o385_x20, o385_x22, o385_x25, o385_x28, o385_x29, o385_x32, o385_x33, o385_x34, o385_x35, o385_x36, o385_x37, o385_x38, o385_x47, o385_x48, hf_o385, ro385_0, ro385_1, ro385_2, ro385_3, ro385_4, ro385_5, ro385_6, ro385_7, ro385_8, ro385_9, ro385_10, ro385_11, ro385_12, ro385_13⟩ := tpo_13 hT ht_h0
                    have tf386 : tp_fld (f383 h0) 28 = o385_x28.toInt := tff_28 hf_o385
                    have tf387 : tp_fld (f383 h0) 22 = o385_x22.toInt := tff_22 hf_o385
                    obtain ⟨g389, hf_o388⟩ := tpo_53 hT y8
                    have tf390 : mo_i (f383 (ρ h0 23)) = g389 := tfa_i hf_o388
                    obtain ⟨g392, hf_o391⟩ := tpo_54 hT y9
                    have tf393 : mo_i (f383 (ρ h0 24)) = g392 := tfa_i hf_o391
                    have tf394 : tp_fld (f383 h0) 9 = o385_x9.toInt := tff_9 hf_o385
                    have tf395 : tp_fld (f383 h0) 10 = o385_x10.toInt := tff_10 hf_o385
                    have tf396 : tp_fld (f383 h0) 11 = o385_x11.toInt := tff_11 hf_o385
                    have tf397 : tp_fld (f383 h0) 12 = o385_x12.toInt := tff_12 hf_o385
                    have tf398 : mo_fj (f383 h0) 13 = o385_x13.toInt := tff_13 hf_o385
                    have tf399 : tp_fld (f383 h0) 15 = o385_x15.toInt := tff_15 hf_o385
                    have tf400 : tp_fld (f383 h0) 19 = o385_x19.toInt := tff_19 hf_o385
                    have tf401 : tp_fld (f383 h0) 20 = o385_x20.toInt := tff_20 hf_o385
                    have tk402 : o385_x28.toInt ≤ o351_x28.toInt ∧ o351_x22.toInt ≤ o385_x22.toInt ∧ o385_x22.toInt + o385_x28.toInt ≤ o351_x22.toInt + o351_x28.toInt ∧ (o351_x15.toInt = 0 → mo_PJ aa (mo_R g389) (mo_R g392) (mo_R g33) (mo_R g36) o385_x22.toInt o385_x28.toInt 1) ∧ (∀ i, o385_x28.toInt ≤ i → i < o351_x28.toInt → (mo_R g33) i < 30 ∧ (5 ≤ (5 : Int) → (mo_R g33) i < 14)) ∧ (o385_x28.toInt = 0 ∨ (((5 : Int) = 1 → 30 ≤ (mo_R g33) (o385_x28.toInt + -1)) ∧ ((5 : Int) = 5 → 14 ≤ (mo_R g33) (o385_x28.toInt + -1)))) ∧ (o351_x15.toInt = 0 → mo_FR aa (mo_R g27) (mo_R g30) (mo_R g389) (mo_R g392)) ∧ o385_x9.toInt = o351_x9.toInt ∧ o385_x10.toInt = o351_x10.toInt ∧ o385_x11.toInt = o351_x11.toInt ∧ o385_x12.toInt = o351_x12.toInt ∧ o385_x13.toInt = o351_x13.toInt ∧ o385_x15.toInt = o351_x15.toInt ∧ o385_x19.toInt = o351_x19.toInt ∧ o385_x20.toInt = o351_x20.toInt := by have q9 := hw382p; first | (simp only [tf386, tf361, tf360, tf387, tf357, tf390, tf393, tf374, tf376, tf378, tf380, tf394, tf354, tf395, tf352, tf396, tf353, tf397, tf355, tf398, tf356, tf399, tf400, tf358, tf401, tf359, mo_i1, mo_l1] at q9; exact q9) | (rw [tf386, tf361, tf360, tf387, tf357, tf390, tf393, tf374, tf376, tf378, tf380, tf394, tf354, tf395, tf352, tf396, tf353, tf397, tf355, tf398, tf356, tf399, tf400, tf358, tf401, tf359] at q9; exact q9)
                    have hin8 : mo_in (mo_R g33) (o38_x28.toInt).toNat = mo_in (mo_R g33) (o385_x28.toInt).toNat := mo_in_drop' (by omega) (by omega) (fun i i0 i1 => (tk402.2.2.2.2.1 i i0 i1).1)
                    have hin9 : True → mo_in (mo_R g33) (o385_x28.toInt).toNat ≠ 31 := fun _ => by omega
                    refine lv_aload_n hx hb dX12_behindSum_225 rfl (lv_at hl 2 rfl) ?_
                    refine lv_iload_n hx hb dX12_behindSum_226 rfl (lv_at hl 0 rfl) ?_
                    refine lv_iconst (v := 0) hx hb dX12_behindSum_227 (by decide) ?_
                    have hf_403 : f383 (ρ h0 26) = .inl (κ 0, 400, .inl g33) := (hF384 _ (by rw [y10]; decide)).trans hf_373
                    have tf404 : mo_i (f383 (ρ h0 26)) = g33 := tfa_i hf_403
                    have hf_405 : f383 (ρ h0 27) = .inl (κ 0, 400, .inl g36) := (hF384 _ (by rw [y11]; decide)).trans hf_375
                    have tf406 : mo_i (f383 (ρ h0 27)) = g36 := tfa_i hf_405
                    obtain ⟨q407, eq407⟩ := tp_pos (tp_in hG ht_h0 (by decide)) hf_o385
                    have hFc := tp_fr hD hS hA
                    refine va_callv (va_runV (As := [.int 14, .int 0]) (rest := []) ⟨hx, hb, hml, hown, hts⟩ (t_X12_push l dC dI _ κ τ ν ρ L f383 hG hT h0 (14) (0) ht_h0 (by first | (simp only [tf386, mo_i1, mo_l1]; exact (show o385_x28.toInt < 400 from by have : (14 : Int32).toInt = 14 := rfl; have : (0 : Int32).toInt = 0 := rfl; first | omega | decide)) | (rw [tf386]; exact (show o385_x28.toInt < 400 from by have : (14 : Int32).toInt = 14 := rfl; have : (0 : Int32).toInt = 0 := rfl; first | omega | decide)))) (cwV 2 hts gX12_behindSum_X12_push rfl rfl rfl ⟨rfl, pd_X12_push⟩ ⟨Nat.le_of_ble_eq_true rfl, Nat.le_of_ble_eq_true rfl⟩) ⟨pz_blind, va_recv hK hP (ci := 12) (q0 := q407) rfl eq407, pz_pre hP hK hD hN⟩ rfl rfl hl.1 rfl (lv_room (Nat.le_of_ble_eq_true rfl)) dX12_behindSum_228 ⟨Nat.le_of_ble_eq_true rfl, Nat.le_of_ble_eq_true rfl⟩) hS (fun q _ h => hFc q h) hFc (fun f410 t H1 locs ht hvm hw409 hB hz1 hk1 hS => ?_)
                    obtain ⟨hT, hF411, hw409p⟩ := hw409
                    have hR := hR.then hF411 (by decide)
                    have hP := hB.1; rw [ht] at hP; have hD := tp_ad f410 hD; clear hB hFc hz1 hk1; subst ht; generalize t.heap = H at hP hS ⊢
                    obtain ⟨g413, hf_o412⟩ := tpo_56 hT y10
                    have tf414 : mo_i (f410 (ρ h0 26)) = g413 := tfa_i hf_o412
                    obtain ⟨g416, hf_o415⟩ := tpo_57 hT y11
                    have tf417 : mo_i (f410 (ρ h0 27)) = g416 := tfa_i hf_o415
                    obtain ⟨o418_x0, o418_x1, o418_x7, o418_x9, o418_x10, o418_x11, o418_x12, o418_x13, o418_x14, o418_x15, o418_x16, o418_x17, o418_x18, o418_x19, o418_x20, o418_x22, o418_x25, o418_x28, o418_x29, o418_x32, o418_x33, o418_x34, o418_x35, o418_x36, o418_x37, o418_x38, o418_x47, o418_x48, hf_o418, ro418_0, ro418_1, ro418_2, ro418_3, ro418_4, ro418_5, ro418_6, ro418_7, ro418_8, ro418_9, ro418_10, ro418_11, ro418_12, ro418_13⟩ := tpo_13 hT ht_h0
                    have tf419 : tp_fld (f410 h0) 28 = o418_x28.toInt := tff_28 hf_o418
                    have tf420 : tp_fld (f410 h0) 9 = o418_x9.toInt := tff_9 hf_o418
                    have tf421 : tp_fld (f410 h0) 10 = o418_x10.toInt := tff_10 hf_o418
                    have tf422 : tp_fld (f410 h0) 11 = o418_x11.toInt := tff_11 hf_o418
                    have tf423 : tp_fld (f410 h0) 12 = o418_x12.toInt := tff_12 hf_o418
                    have tf424 : mo_fj (f410 h0) 13 = o418_x13.toInt := tff_13 hf_o418
                    have tf425 : tp_fld (f410 h0) 15 = o418_x15.toInt := tff_15 hf_o418
                    have tf426 : tp_fld (f410 h0) 19 = o418_x19.toInt := tff_19 hf_o418
                    have tf427 : tp_fld (f410 h0) 20 = o418_x20.toInt := tff_20 hf_o418
                    have tf428 : tp_fld (f410 h0) 22 = o418_x22.toInt := tff_22 hf_o418
                    have tk429 : mo_U (mo_R g33) (mo_R g413) o385_x28.toInt (14 : Int) ∧ mo_U (mo_R g36) (mo_R g416) o385_x28.toInt (0 : Int) ∧ o418_x28.toInt = o385_x28.toInt + 1 ∧ o418_x9.toInt = o385_x9.toInt ∧ o418_x10.toInt = o385_x10.toInt ∧ o418_x11.toInt = o385_x11.toInt ∧ o418_x12.toInt = o385_x12.toInt ∧ o418_x13.toInt = o385_x13.toInt ∧ o418_x15.toInt = o385_x15.toInt ∧ o418_x19.toInt = o385_x19.toInt ∧ o418_x20.toInt = o385_x20.toInt ∧ o418_x22.toInt = o385_x22.toInt := by have q9 := hw409p; first | (simp only [tf404, tf414, tf386, tf406, tf417, tf419, tf420, tf394, tf421, tf395, tf422, tf396, tf423, tf397, tf424, tf398, tf425, tf399, tf426, tf400, tf427, tf401, tf428, tf387, mo_i1, mo_l1] at q9; exact q9) | (rw [tf404, tf414, tf386, tf406, tf417, tf419, tf420, tf394, tf421, tf395, tf422, tf396, tf423, tf397, tf424, tf398, tf425, tf399, tf426, tf400, tf427, tf401, tf428, tf387] at q9; exact q9)
                    refine lv_iconst (v := 1) hx hb dX12_behindSum_231 (by decide) ?_
                    have hf_430 : f410 (ρ h0 23) = .inl (κ 0, 400, .inl g389) := (hF411 _ (by rw [y8]; decide)).trans hf_o388
                    have tf431 : mo_i (f410 (ρ h0 23)) = g389 := tfa_i hf_430
                    have hf_432 : f410 (ρ h0 24) = .inl (κ 0, 400, .inl g392) := (hF411 _ (by rw [y9]; decide)).trans hf_o391
                    have tf433 : mo_i (f410 (ρ h0 24)) = g392 := tfa_i hf_432
                    exact W.iret (v := 1) hx hb hr (fun t ht hW => ⟨⟨1, f410, rfl, ⟨hT, hR, (by first | decide | omega), (by first | (simp only [tf421, tf422, tf420, tf423, tf424, tf428, tf419, tf414, tf417, tf425, tf431, tf433, tf28, tf31, tf40, tf46, tf39, tf426, tf44, tf427, tf45, mo_i1, mo_l1]; exact (show (o418_x10.toInt ≤ o418_x11.toInt ∧ o418_x11.toInt ≤ o418_x9.toInt ∧ (o418_x12.toInt = 0 ∨ o418_x10.toInt < o418_x11.toInt) ∧ (o418_x12.toInt = 1 → o418_x11.toInt = o418_x10.toInt + 1 → o418_x13.toInt ≤ 26)) ∧ o418_x22.toInt + o418_x28.toInt ≤ o418_x10.toInt ∧ mo_PV (mo_R g413) (mo_R g416) o418_x28.toInt ∧ (o418_x15.toInt = 0 → mo_EX aa (1 : Int32).toInt (mo_R g389) (mo_R g392) (mo_R g413) (mo_R g416) o418_x22.toInt o418_x28.toInt ∧ mo_FR aa (mo_R g27) (mo_R g30) (mo_R g389) (mo_R g392) ∧ ((1 : Int32).toInt = 4 ∨ o38_x10.toInt < o418_x10.toInt ∨ (o418_x10.toInt = o38_x10.toInt ∧ (1 : Int32).toInt = 2))) ∧ o38_x22.toInt ≤ o418_x22.toInt ∧ o418_x9.toInt = o38_x9.toInt ∧ o418_x19.toInt = o38_x19.toInt ∧ o418_x20.toInt = o38_x20.toInt from ⟨by omega, by omega, ((h3.lt (n' := _) tk402.1).push (by omega) tk429.1 tk429.2.1 (by omega) (by omega) (by omega)), fun q9 => ⟨(mo_EX.bin h4.1 (tk402.2.2.2.1 (by omega)) (h4.2.2.1.lt tk402.1) (by omega) tk429.1 tk429.2.1 (by omega) (by omega) (fun q7 => hin9 (by omega))), (tk402.2.2.2.2.2.2.1 (by omega)), by have q8 : (1 : Int32).toInt = 1 := rfl; omega⟩, by omega, by omega, by omega, by omega⟩)) | (rw [tf421, tf422, tf420, tf423, tf424, tf428, tf419, tf414, tf417, tf425, tf431, tf433, tf28, tf31, tf40, tf46, tf39, tf426, tf44, tf427, tf45]; exact (show (o418_x10.toInt ≤ o418_x11.toInt ∧ o418_x11.toInt ≤ o418_x9.toInt ∧ (o418_x12.toInt = 0 ∨ o418_x10.toInt < o418_x11.toInt) ∧ (o418_x12.toInt = 1 → o418_x11.toInt = o418_x10.toInt + 1 → o418_x13.toInt ≤ 26)) ∧ o418_x22.toInt + o418_x28.toInt ≤ o418_x10.toInt ∧ mo_PV (mo_R g413) (mo_R g416) o418_x28.toInt ∧ (o418_x15.toInt = 0 → mo_EX aa (1 : Int32).toInt (mo_R g389) (mo_R g392) (mo_R g413) (mo_R g416) o418_x22.toInt o418_x28.toInt ∧ mo_FR aa (mo_R g27) (mo_R g30) (mo_R g389) (mo_R g392) ∧ ((1 : Int32).toInt = 4 ∨ o38_x10.toInt < o418_x10.toInt ∨ (o418_x10.toInt = o38_x10.toInt ∧ (1 : Int32).toInt = 2))) ∧ o38_x22.toInt ≤ o418_x22.toInt ∧ o418_x9.toInt = o38_x9.toInt ∧ o418_x19.toInt = o38_x19.toInt ∧ o418_x20.toInt = o38_x20.toInt from ⟨by omega, by omega, ((h3.lt (n' := _) tk402.1).push (by omega) tk429.1 tk429.2.1 (by omega) (by omega) (by omega)), fun q9 => ⟨(mo_EX.bin h4.1 (tk402.2.2.2.1 (by omega)) (h4.2.2.1.lt tk402.1) (by omega) tk429.1 tk429.2.1 (by omega) (by omega) (fun q7 => hin9 (by omega))), (tk402.2.2.2.2.2.2.1 (by omega)), by have q8 : (1 : Int32).toInt = 1 := rfl; omega⟩, by omega, by omega, by omega, by omega⟩)))⟩, by rw [ht]; exact hP, va_K.moved hW.alike hK, hD⟩, hS.F ht⟩) hS.2.2 dX12_behindSum_232
              · have ic73 : r71.toInt ≠ 0 := zi_eqf rfl rfl c73
                refine lv_iconst (v := 2) hx hb dX12_behindSum_156 (by decide) ?_
                exact W.iret (v := 2) hx hb hr (fun t ht hW => ⟨⟨2, f, rfl, ⟨hT, hR, (by first | decide | omega), (by first | (simp only [tf40, tf41, tf39, tf42, tf48, tf46, tf47, tf34, tf37, tf43, tf28, tf31, tf44, tf45, mo_i1, mo_l1]; exact (show (o38_x10.toInt ≤ o38_x11.toInt ∧ o38_x11.toInt ≤ o38_x9.toInt ∧ (o38_x12.toInt = 0 ∨ o38_x10.toInt < o38_x11.toInt) ∧ (o38_x12.toInt = 1 → o38_x11.toInt = o38_x10.toInt + 1 → o38_x13.toInt ≤ 26)) ∧ o38_x22.toInt + o38_x28.toInt ≤ o38_x10.toInt ∧ mo_PV (mo_R g33) (mo_R g36) o38_x28.toInt ∧ (o38_x15.toInt = 0 → mo_EX aa (2 : Int32).toInt (mo_R g27) (mo_R g30) (mo_R g33) (mo_R g36) o38_x22.toInt o38_x28.toInt ∧ mo_FR aa (mo_R g27) (mo_R g30) (mo_R g27) (mo_R g30) ∧ ((2 : Int32).toInt = 4 ∨ o38_x10.toInt < o38_x10.toInt ∨ (o38_x10.toInt = o38_x10.toInt ∧ (2 : Int32).toInt = 2))) ∧ o38_x22.toInt ≤ o38_x22.toInt ∧ o38_x9.toInt = o38_x9.toInt ∧ o38_x19.toInt = o38_x19.toInt ∧ o38_x20.toInt = o38_x20.toInt from ⟨by omega, by omega, h3, fun q9 => ⟨(mo_EX.of1 h4.1 (h4.pj1 (by decide)) h4.2.2.1 (by decide) (fun _ => by omega) (fun q7 => absurd q7 (by decide))), mo_FR.rf _ _ _, by have q8 : (2 : Int32).toInt = 2 := rfl; omega⟩, by omega, by omega, by omega, by omega⟩)) | (rw [tf40, tf41, tf39, tf42, tf48, tf46, tf47, tf34, tf37, tf43, tf28, tf31, tf44, tf45]; exact (show (o38_x10.toInt ≤ o38_x11.toInt ∧ o38_x11.toInt ≤ o38_x9.toInt ∧ (o38_x12.toInt = 0 ∨ o38_x10.toInt < o38_x11.toInt) ∧ (o38_x12.toInt = 1 → o38_x11.toInt = o38_x10.toInt + 1 → o38_x13.toInt ≤ 26)) ∧ o38_x22.toInt + o38_x28.toInt ≤ o38_x10.toInt ∧ mo_PV (mo_R g33) (mo_R g36) o38_x28.toInt ∧ (o38_x15.toInt = 0 → mo_EX aa (2 : Int32).toInt (mo_R g27) (mo_R g30) (mo_R g33) (mo_R g36) o38_x22.toInt o38_x28.toInt ∧ mo_FR aa (mo_R g27) (mo_R g30) (mo_R g27) (mo_R g30) ∧ ((2 : Int32).toInt = 4 ∨ o38_x10.toInt < o38_x10.toInt ∨ (o38_x10.toInt = o38_x10.toInt ∧ (2 : Int32).toInt = 2))) ∧ o38_x22.toInt ≤ o38_x22.toInt ∧ o38_x9.toInt = o38_x9.toInt ∧ o38_x19.toInt = o38_x19.toInt ∧ o38_x20.toInt = o38_x20.toInt from ⟨by omega, by omega, h3, fun q9 => ⟨(mo_EX.of1 h4.1 (h4.pj1 (by decide)) h4.2.2.1 (by decide) (fun _ => by omega) (fun q7 => absurd q7 (by decide))), mo_FR.rf _ _ _, by have q8 : (2 : Int32).toInt = 2 := rfl; omega⟩, by omega, by omega, by omega, by omega⟩)))⟩, by rw [ht]; exact hP, va_K.moved hW.alike hK, hD⟩, hS.F ht⟩) hS.2.2 dX12_behindSum_157
            · have ic70 : r66.toInt = (-1) := zi_nef rfl rfl c70
              refine lv_iload_n hx hb dX12_behindSum_143 rfl (lv_at hl 3 rfl) ?_
              refine lv_if_ne (tgt := 149) hx hb dX12_behindSum_144 (by decide) (fun c434 => ?_) (fun c434 => ?_)
              · have ic434 : v.toInt ≠ 0 := zi_ne rfl rfl c434
                refine lv_aload_n hx hb dX12_behindSum_149 rfl (lv_at hl 2 rfl) ?_
                refine pz_calli (va_runV (As := []) (rest := []) ⟨hx, hb, hml, hown, hts⟩ (t_X12_isCompared l dC dI _ κ τ ν ρ L f hG hT h0 ht_h0) (cwV 0 hts gX12_behindSum_X12_isCompared rfl rfl rfl ⟨rfl, pd_X12_isCompared⟩ ⟨Nat.le_of_ble_eq_true rfl, Nat.le_of_ble_eq_true rfl⟩) ⟨pz_blind, va_recv hK hP (ci := 12) (q0 := q49) rfl eq49, pz_pre hP hK hD hN⟩ rfl rfl hl.1 rfl (lv_room (Nat.le_of_ble_eq_true rfl)) dX12_behindSum_150 ⟨Nat.le_of_ble_eq_true rfl, Nat.le_of_ble_eq_true rfl⟩) (fun r435 hw436 => ?_)
                obtain ⟨hw436r, hw436p⟩ := hw436
                refine lv_if_eq (tgt := 158) hx hb dX12_behindSum_153 (by decide) (fun c437 => ?_) (fun c437 => ?_)
                · have ic437 : r435.toInt = 0 := zi_eq rfl rfl c437
                  refine lv_aload_n hx hb dX12_behindSum_158 rfl (lv_at hl 2 rfl) ?_
                  refine lv_bipush (v := 60) hx hb dX12_behindSum_159 (by decide) ?_
                  refine pz_calli (va_runV (As := [.int 60]) (rest := []) ⟨hx, hb, hml, hown, hts⟩ (t_X12_isSign l dC dI _ κ τ ν ρ L f hG hT h0 (60) ht_h0) (cwV 1 hts gX12_behindSum_X12_isSign rfl rfl rfl ⟨rfl, pd_X12_isSign⟩ ⟨Nat.le_of_ble_eq_true rfl, Nat.le_of_ble_eq_true rfl⟩) ⟨pz_blind, va_recv hK hP (ci := 12) (q0 := q49) rfl eq49, pz_pre hP hK hD hN⟩ rfl rfl hl.1 rfl (lv_room (Nat.le_of_ble_eq_true rfl)) dX12_behindSum_161 ⟨Nat.le_of_ble_eq_true rfl, Nat.le_of_ble_eq_true rfl⟩) (fun r438 hw439 => ?_)
                  obtain ⟨hw439r, hw439p⟩ := hw439
                  have tk440 : (r438.toInt ≠ 0 → o38_x12.toInt = 3 ∧ o38_x13.toInt = (60 : Int)) := by have q9 := hw439p; first | (simp only [tf42, tf48, mo_i1, mo_l1] at q9; exact q9) | (rw [tf42, tf48] at q9; exact q9)
                  refine lv_if_eq (tgt := 172) hx hb dX12_behindSum_164 (by decide) (fun c441 => ?_) (fun c441 => ?_)
                  · have ic441 : r438.toInt = 0 := zi_eq rfl rfl c441
                    refine lv_aload_n hx hb dX12_behindSum_172 rfl (lv_at hl 2 rfl) ?_
                    refine lv_bipush (v := 62) hx hb dX12_behindSum_173 (by decide) ?_
                    refine pz_calli (va_runV (As := [.int 62]) (rest := []) ⟨hx, hb, hml, hown, hts⟩ (t_X12_isSign l dC dI _ κ τ ν ρ L f hG hT h0 (62) ht_h0) (cwV 1 hts gX12_behindSum_X12_isSign rfl rfl rfl ⟨rfl, pd_X12_isSign⟩ ⟨Nat.le_of_ble_eq_true rfl, Nat.le_of_ble_eq_true rfl⟩) ⟨pz_blind, va_recv hK hP (ci := 12) (q0 := q49) rfl eq49, pz_pre hP hK hD hN⟩ rfl rfl hl.1 rfl (lv_room (Nat.le_of_ble_eq_true rfl)) dX12_behindSum_175 ⟨Nat.le_of_ble_eq_true rfl, Nat.le_of_ble_eq_true rfl⟩) (fun r442 hw443 => ?_)
                    obtain ⟨hw443r, hw443p⟩ := hw443
                    have tk444 : (r442.toInt ≠ 0 → o38_x12.toInt = 3 ∧ o38_x13.toInt = (62 : Int)) := by have q9 := hw443p; first | (simp only [tf42, tf48, mo_i1, mo_l1] at q9; exact q9) | (rw [tf42, tf48] at q9; exact q9)
                    refine lv_if_eq (tgt := 186) hx hb dX12_behindSum_178 (by decide) (fun c445 => ?_) (fun c445 => ?_)
                    · have ic445 : r442.toInt = 0 := zi_eq rfl rfl c445
                      refine lv_bipush (v := 16) hx hb dX12_behindSum_186 (by decide) ?_
                      refine lv_istore_n (lv' := [(2, .int 16), (3, .int r66), (0, .ref h0), (1, .int v)]) hx hb dX12_behindSum_188 rfl hl (by decide) rfl (fun ls hl => ?_)
                      refine lv_aload_n hx hb dX12_behindSum_189 rfl (lv_at hl 2 rfl) ?_
                      refine lv_iload_n hx hb dX12_behindSum_190 rfl (lv_at hl 0 rfl) ?_
                      refine lv_bipush (v := 16) hx hb dX12_behindSum_191 (by decide) ?_
                      refine lv_icmp_ne (tgt := 205) hx hb dX12_behindSum_193 (by decide) (fun c9 => absurd c9 (by decide)) (fun _ => ?_)
                      refine lv_aload_n hx hb dX12_behindSum_196 rfl (lv_at hl 2 rfl) ?_
                      refine lv_bipush (v := 61) hx hb dX12_behindSum_197 (by decide) ?_
                      refine pz_calli (va_runV (As := [.int 61]) (rest := [.ref h0]) ⟨hx, hb, hml, hown, hts⟩ (t_X12_isSign l dC dI _ κ τ ν ρ L f hG hT h0 (61) ht_h0) (cwV 1 hts gX12_behindSum_X12_isSign rfl rfl rfl ⟨rfl, pd_X12_isSign⟩ ⟨Nat.le_of_ble_eq_true rfl, Nat.le_of_ble_eq_true rfl⟩) ⟨pz_blind, va_recv hK hP (ci := 12) (q0 := q49) rfl eq49, pz_pre hP hK hD hN⟩ rfl rfl hl.1 rfl (lv_room (Nat.le_of_ble_eq_true rfl)) dX12_behindSum_199 ⟨Nat.le_of_ble_eq_true rfl, Nat.le_of_ble_eq_true rfl⟩) (fun r446 hw447 => ?_)
                      obtain ⟨hw447r, hw447p⟩ := hw447
                      have tk448 : (r446.toInt ≠ 0 → o38_x12.toInt = 3 ∧ o38_x13.toInt = (61 : Int)) := by have q9 := hw447p; first | (simp only [tf42, tf48, mo_i1, mo_l1] at q9; exact q9) | (rw [tf42, tf48] at q9; exact q9)
                      refine lv_if_eq (tgt := 209) hx hb dX12_behindSum_202 (by decide) (fun c449 => ?_) (fun c449 => ?_)
                      · have ic449 : r446.toInt = 0 := zi_eq rfl rfl c449
                        refine lv_iconst (v := 0) hx hb dX12_behindSum_209 (by decide) ?_
                        have hFc := tp_fr hD hS hA
                        refine va_callv (va_runV (As := [.int 0]) (rest := []) ⟨hx, hb, hml, hown, hts⟩ (t_X12_must l dC dI _ κ τ ν ρ L f hG hT h0 (0) ht_h0 (by first | decide | omega) (by first | (simp only [tf40, tf41, tf39, tf42, tf48, mo_i1, mo_l1]; exact (show (o38_x10.toInt ≤ o38_x11.toInt ∧ o38_x11.toInt ≤ o38_x9.toInt ∧ (o38_x12.toInt = 0 ∨ o38_x10.toInt < o38_x11.toInt) ∧ (o38_x12.toInt = 1 → o38_x11.toInt = o38_x10.toInt + 1 → o38_x13.toInt ≤ 26)) from by have : (0 : Int32).toInt = 0 := rfl; first | omega | decide)) | (rw [tf40, tf41, tf39, tf42, tf48]; exact (show (o38_x10.toInt ≤ o38_x11.toInt ∧ o38_x11.toInt ≤ o38_x9.toInt ∧ (o38_x12.toInt = 0 ∨ o38_x10.toInt < o38_x11.toInt) ∧ (o38_x12.toInt = 1 → o38_x11.toInt = o38_x10.toInt + 1 → o38_x13.toInt ≤ 26)) from by have : (0 : Int32).toInt = 0 := rfl; first | omega | decide)))) (cwV 1 hts gX12_behindSum_X12_must rfl rfl rfl ⟨rfl, pd_X12_must⟩ ⟨Nat.le_of_ble_eq_true rfl, Nat.le_of_ble_eq_true rfl⟩) ⟨pz_blind, va_recv hK hP (ci := 12) (q0 := q49) rfl eq49, pz_pre hP hK hD hN⟩ rfl rfl hl.1 rfl (lv_room (Nat.le_of_ble_eq_true rfl)) dX12_behindSum_210 ⟨Nat.le_of_ble_eq_true rfl, Nat.le_of_ble_eq_true rfl⟩) hS (fun q _ h => hFc q h) hFc (fun f452 t H1 locs ht hvm hw451 hB hz1 hk1 hS => ?_)
                        obtain ⟨hT, hF453, hw451p⟩ := hw451
                        have hR := hR.then hF453 (by decide)
                        have hP := hB.1; rw [ht] at hP; have hD := tp_ad f452 hD; clear hB hFc hz1 hk1; subst ht; generalize t.heap = H at hP hS ⊢
                        obtain ⟨o454_x0, o454_x1, o454_x7, o454_x9, o454_x10, o454_x11, o454_x12, o454_x13, o454_x14, o454_x15, o454_x16, o454_x17, o454_x18, o454_x19, o454_x20, o454_x22, o454_x25, o454_x28, o454_x29, o454_x32, o454_x33, o454_x34, o454_x35, o454_x36, o454_x37, o454_x38, o454_x47, o454_x48, hf_o454, ro454_0, ro454_1, ro454_2, ro454_3, ro454_4, ro454_5, ro454_6, ro454_7, ro454_8, ro454_9, ro454_10, ro454_11, ro454_12, ro454_13⟩ := tpo_13 hT ht_h0
                        have tf455 : tp_fld (f452 h0) 10 = o454_x10.toInt := tff_10 hf_o454
                        have tf456 : tp_fld (f452 h0) 11 = o454_x11.toInt := tff_11 hf_o454
                        have tf457 : tp_fld (f452 h0) 9 = o454_x9.toInt := tff_9 hf_o454
                        have tf458 : tp_fld (f452 h0) 12 = o454_x12.toInt := tff_12 hf_o454
                        have tf459 : mo_fj (f452 h0) 13 = o454_x13.toInt := tff_13 hf_o454
                        have tf460 : tp_fld (f452 h0) 15 = o454_x15.toInt := tff_15 hf_o454
                        have tf461 : tp_fld (f452 h0) 19 = o454_x19.toInt := tff_19 hf_o454
                        have tf462 : tp_fld (f452 h0) 20 = o454_x20.toInt := tff_20 hf_o454
                        have tf463 : tp_fld (f452 h0) 22 = o454_x22.toInt := tff_22 hf_o454
                        have tf464 : tp_fld (f452 h0) 28 = o454_x28.toInt := tff_28 hf_o454
                        have tk465 : (o454_x10.toInt ≤ o454_x11.toInt ∧ o454_x11.toInt ≤ o454_x9.toInt ∧ (o454_x12.toInt = 0 ∨ o454_x10.toInt < o454_x11.toInt) ∧ (o454_x12.toInt = 1 → o454_x11.toInt = o454_x10.toInt + 1 → o454_x13.toInt ≤ 26)) ∧ (o454_x15.toInt = 0 → o38_x15.toInt = 0 ∧ o38_x11.toInt ≤ o454_x10.toInt ∧ (0 : Int) ≠ 0) ∧ (o454_x15.toInt ≠ 0 → o454_x10.toInt = o38_x10.toInt) ∧ o454_x9.toInt = o38_x9.toInt ∧ o454_x19.toInt = o38_x19.toInt ∧ o454_x20.toInt = o38_x20.toInt ∧ o454_x22.toInt = o38_x22.toInt ∧ o454_x28.toInt = o38_x28.toInt := by have q9 := hw451p; first | (simp only [tf455, tf456, tf457, tf458, tf459, tf460, tf43, tf41, tf40, tf39, tf461, tf44, tf462, tf45, tf463, tf46, tf464, tf47, mo_i1, mo_l1] at q9; exact q9) | (rw [tf455, tf456, tf457, tf458, tf459, tf460, tf43, tf41, tf40, tf39, tf461, tf44, tf462, tf45, tf463, tf46, tf464, tf47] at q9; exact q9)
                        refine lv_aload_n hx hb dX12_behindSum_213 rfl (lv_at hl 2 rfl) ?_
                        obtain ⟨q466, eq466⟩ := tp_pos (tp_in hG ht_h0 (by decide)) hf_o454
                        refine va_get (D := (dC, dI)) (ci := 12) (v := .int o454_x15) (C := RX12) (T := TX12) (N := 53) hx hb hts hfX12 hown hK hP q466 eq466 rfl 15 (by decide) (hts (.fieldLink RX12 261 "ColdShipsModel" "bad" "Z") wa_994) (fun _ h9 => h9) rfl dX12_behindSum_214 ?_
                        refine lv_if_ne (tgt := 231) hx hb dX12_behindSum_217 (by decide) (fun c467 => ?_) (fun c467 => ?_)
                        · have ic467 : o454_x15.toInt ≠ 0 := zi_ne rfl rfl c467
                          refine lv_iconst (v := 1) hx hb dX12_behindSum_231 (by decide) ?_
                          have hf_468 : f452 (ρ h0 26) = .inl (κ 0, 400, .inl g33) := (hF453 _ (by rw [y10]; decide)).trans hf_o32
                          have tf469 : mo_i (f452 (ρ h0 26)) = g33 := tfa_i hf_468
                          have hf_470 : f452 (ρ h0 27) = .inl (κ 0, 400, .inl g36) := (hF453 _ (by rw [y11]; decide)).trans hf_o35
                          have tf471 : mo_i (f452 (ρ h0 27)) = g36 := tfa_i hf_470
                          have hf_472 : f452 (ρ h0 23) = .inl (κ 0, 400, .inl g27) := (hF453 _ (by rw [y8]; decide)).trans hf_o26
                          have tf473 : mo_i (f452 (ρ h0 23)) = g27 := tfa_i hf_472
                          have hf_474 : f452 (ρ h0 24) = .inl (κ 0, 400, .inl g30) := (hF453 _ (by rw [y9]; decide)).trans hf_o29
                          have tf475 : mo_i (f452 (ρ h0 24)) = g30 := tfa_i hf_474
                          exact W.iret (v := 1) hx hb hr (fun t ht hW => ⟨⟨1, f452, rfl, ⟨hT, hR, (by first | decide | omega), (by first | (simp only [tf455, tf456, tf457, tf458, tf459, tf463, tf464, tf469, tf471, tf460, tf473, tf475, tf28, tf31, tf40, tf46, tf39, tf461, tf44, tf462, tf45, mo_i1, mo_l1]; exact (show (o454_x10.toInt ≤ o454_x11.toInt ∧ o454_x11.toInt ≤ o454_x9.toInt ∧ (o454_x12.toInt = 0 ∨ o454_x10.toInt < o454_x11.toInt) ∧ (o454_x12.toInt = 1 → o454_x11.toInt = o454_x10.toInt + 1 → o454_x13.toInt ≤ 26)) ∧ o454_x22.toInt + o454_x28.toInt ≤ o454_x10.toInt ∧ mo_PV (mo_R g33) (mo_R g36) o454_x28.toInt ∧ (o454_x15.toInt = 0 → mo_EX aa (1 : Int32).toInt (mo_R g27) (mo_R g30) (mo_R g33) (mo_R g36) o454_x22.toInt o454_x28.toInt ∧ mo_FR aa (mo_R g27) (mo_R g30) (mo_R g27) (mo_R g30) ∧ ((1 : Int32).toInt = 4 ∨ o38_x10.toInt < o454_x10.toInt ∨ (o454_x10.toInt = o38_x10.toInt ∧ (1 : Int32).toInt = 2))) ∧ o38_x22.toInt ≤ o454_x22.toInt ∧ o454_x9.toInt = o38_x9.toInt ∧ o454_x19.toInt = o38_x19.toInt ∧ o454_x20.toInt = o38_x20.toInt from ⟨by omega, by omega, h3, fun q9 => by exfalso; omega, by omega, by omega, by omega, by omega⟩)) | (rw [tf455, tf456, tf457, tf458, tf459, tf463, tf464, tf469, tf471, tf460, tf473, tf475, tf28, tf31, tf40, tf46, tf39, tf461, tf44, tf462, tf45]; exact (show (o454_x10.toInt ≤ o454_x11.toInt ∧ o454_x11.toInt ≤ o454_x9.toInt ∧ (o454_x12.toInt = 0 ∨ o454_x10.toInt < o454_x11.toInt) ∧ (o454_x12.toInt = 1 → o454_x11.toInt = o454_x10.toInt + 1 → o454_x13.toInt ≤ 26)) ∧ o454_x22.toInt + o454_x28.toInt ≤ o454_x10.toInt ∧ mo_PV (mo_R g33) (mo_R g36) o454_x28.toInt ∧ (o454_x15.toInt = 0 → mo_EX aa (1 : Int32).toInt (mo_R g27) (mo_R g30) (mo_R g33) (mo_R g36) o454_x22.toInt o454_x28.toInt ∧ mo_FR aa (mo_R g27) (mo_R g30) (mo_R g27) (mo_R g30) ∧ ((1 : Int32).toInt = 4 ∨ o38_x10.toInt < o454_x10.toInt ∨ (o454_x10.toInt = o38_x10.toInt ∧ (1 : Int32).toInt = 2))) ∧ o38_x22.toInt ≤ o454_x22.toInt ∧ o454_x9.toInt = o38_x9.toInt ∧ o454_x19.toInt = o38_x19.toInt ∧ o454_x20.toInt = o38_x20.toInt from ⟨by omega, by omega, h3, fun q9 => by exfalso; omega, by omega, by omega, by omega, by omega⟩)))⟩, by rw [ht]; exact hP, va_K.moved hW.alike hK, hD⟩, hS.F ht⟩) hS.2.2 dX12_behindSum_232
                        · have ic467 : o454_x15.toInt = 0 := zi_nef rfl rfl c467
                          refine lv_aload_n hx hb dX12_behindSum_220 rfl (lv_at hl 2 rfl) ?_
                          refine lv_iconst (v := 5) hx hb dX12_behindSum_221 (by decide) ?_
                          have hf_476 : f452 (ρ h0 26) = .inl (κ 0, 400, .inl g33) := (hF453 _ (by rw [y10]; decide)).trans hf_o32
                          have tf477 : mo_i (f452 (ρ h0 26)) = g33 := tfa_i hf_476
                          have hf_478 : f452 (ρ h0 27) = .inl (κ 0, 400, .inl g36) := (hF453 _ (by rw [y11]; decide)).trans hf_o35
                          have tf479 : mo_i (f452 (ρ h0 27)) = g36 := tfa_i hf_478
                          have hf_480 : f452 (ρ h0 23) = .inl (κ 0, 400, .inl g27) := (hF453 _ (by rw [y8]; decide)).trans hf_o26
                          have tf481 : mo_i (f452 (ρ h0 23)) = g27 := tfa_i hf_480
                          have hf_482 : f452 (ρ h0 24) = .inl (κ 0, 400, .inl g30) := (hF453 _ (by rw [y9]; decide)).trans hf_o29
                          have tf483 : mo_i (f452 (ρ h0 24)) = g30 := tfa_i hf_482
                          have hFc := tp_fr hD hS hA
                          refine va_callv (va_runV (As := [.int 5]) (rest := []) ⟨hx, hb, hml, hown, hts⟩ (t_X12_settleDown l dC dI _ κ τ ν ρ L f452 hG hT h0 (5) aa ht_h0 (by first | decide | omega) (by first | (simp only [tf463, tf464, mo_i1, mo_l1]; exact (show o454_x22.toInt + o454_x28.toInt ≤ 400 from by omega)) | (rw [tf463, tf464]; exact (show o454_x22.toInt + o454_x28.toInt ≤ 400 from by omega))) (by first | (simp only [tf477, tf479, tf464, mo_i1, mo_l1]; exact (show mo_PV (mo_R g33) (mo_R g36) o454_x28.toInt from h3)) | (rw [tf477, tf479, tf464]; exact (show mo_PV (mo_R g33) (mo_R g36) o454_x28.toInt from h3))) (by first | (simp only [tf460, tf481, tf483, tf477, tf479, tf463, tf464, mo_i1, mo_l1]; exact (show (o454_x15.toInt = 0 → 0 ≤ aa ∧ mo_PJ aa (mo_R g27) (mo_R g30) (mo_R g33) (mo_R g36) o454_x22.toInt o454_x28.toInt 1) from fun _ => ⟨h4.1, h4.pj1 (by decide)⟩)) | (rw [tf460, tf481, tf483, tf477, tf479, tf463, tf464]; exact (show (o454_x15.toInt = 0 → 0 ≤ aa ∧ mo_PJ aa (mo_R g27) (mo_R g30) (mo_R g33) (mo_R g36) o454_x22.toInt o454_x28.toInt 1) from fun _ => ⟨h4.1, h4.pj1 (by decide)⟩)))) (cwV 1 hts gX12_behindSum_X12_settleDown rfl rfl rfl ⟨rfl, pd_X12_settleDown⟩ ⟨Nat.le_of_ble_eq_true rfl, Nat.le_of_ble_eq_true rfl⟩) ⟨pz_blind, va_recv hK hP (ci := 12) (q0 := q466) rfl eq466, pz_pre hP hK hD hN⟩ rfl rfl hl.1 rfl (lv_room (Nat.le_of_ble_eq_true rfl)) dX12_behindSum_222 ⟨Nat.le_of_ble_eq_true rfl, Nat.le_of_ble_eq_true rfl⟩) hS (fun q _ h => hFc q h) hFc (fun f486 t H1 locs ht hvm hw485 hB hz1 hk1 hS => ?_)
                          obtain ⟨hT, hF487, hw485p⟩ := hw485
                          have hR := hR.then hF487 (by decide)
                          have hP := hB.1; rw [ht] at hP; have hD := tp_ad f486 hD; clear hB hFc hz1 hk1; subst ht; generalize t.heap = H at hP hS ⊢
                          obtain ⟨o488_x0, o488_x1, o488_x7, o488_x9, o488_x10, o488_x11, o488_x12, o488_x13, o488_x14, o488_x15, o488_x16, o488_x17, o488_x18, o488_x19, o488_x20, o488_x22, o488_x25, o488_x28, o488_x29, o488_x32, o488_x33, o488_x34, o488_x35, o488_x36, o488_x37, o488_x38, o488_x47, o488_x48, hf_o488, ro488_0, ro488_1, ro488_2, ro488_3, ro488_4, ro488_5, ro488_6, ro488_7, ro488_8, ro488_9, ro488_10, ro488_11, ro488_12, ro488_13⟩ := tpo_13 hT ht_h0
                          have tf489 : tp_fld (f486 h0) 28 = o488_x28.toInt := tff_28 hf_o488
                          have tf490 : tp_fld (f486 h0) 22 = o488_x22.toInt := tff_22 hf_o488
                          obtain ⟨g492, hf_o491⟩ := tpo_53 hT y8
                          have tf493 : mo_i (f486 (ρ h0 23)) = g492 := tfa_i hf_o491
                          obtain ⟨g495, hf_o494⟩ := tpo_54 hT y9
                          have tf496 : mo_i (f486 (ρ h0 24)) = g495 := tfa_i hf_o494
                          have tf497 : tp_fld (f486 h0) 9 = o488_x9.toInt := tff_9 hf_o488
                          have tf498 : tp_fld (f486 h0) 10 = o488_x10.toInt := tff_10 hf_o488
                          have tf499 : tp_fld (f486 h0) 11 = o488_x11.toInt := tff_11 hf_o488
                          have tf500 : tp_fld (f486 h0) 12 = o488_x12.toInt := tff_12 hf_o488
                          have tf501 : mo_fj (f486 h0) 13 = o488_x13.toInt := tff_13 hf_o488
                          have tf502 : tp_fld (f486 h0) 15 = o488_x15.toInt := tff_15 hf_o488
                          have tf503 : tp_fld (f486 h0) 19 = o488_x19.toInt := tff_19 hf_o488
                          have tf504 : tp_fld (f486 h0) 20 = o488_x20.toInt := tff_20 hf_o488
                          have tk505 : o488_x28.toInt ≤ o454_x28.toInt ∧ o454_x22.toInt ≤ o488_x22.toInt ∧ o488_x22.toInt + o488_x28.toInt ≤ o454_x22.toInt + o454_x28.toInt ∧ (o454_x15.toInt = 0 → mo_PJ aa (mo_R g492) (mo_R g495) (mo_R g33) (mo_R g36) o488_x22.toInt o488_x28.toInt 1) ∧ (∀ i, o488_x28.toInt ≤ i → i < o454_x28.toInt → (mo_R g33) i < 30 ∧ (5 ≤ (5 : Int) → (mo_R g33) i < 14)) ∧ (o488_x28.toInt = 0 ∨ (((5 : Int) = 1 → 30 ≤ (mo_R g33) (o488_x28.toInt + -1)) ∧ ((5 : Int) = 5 → 14 ≤ (mo_R g33) (o488_x28.toInt + -1)))) ∧ (o454_x15.toInt = 0 → mo_FR aa (mo_R g27) (mo_R g30) (mo_R g492) (mo_R g495)) ∧ o488_x9.toInt = o454_x9.toInt ∧ o488_x10.toInt = o454_x10.toInt ∧ o488_x11.toInt = o454_x11.toInt ∧ o488_x12.toInt = o454_x12.toInt ∧ o488_x13.toInt = o454_x13.toInt ∧ o488_x15.toInt = o454_x15.toInt ∧ o488_x19.toInt = o454_x19.toInt ∧ o488_x20.toInt = o454_x20.toInt := by have q9 := hw485p; first | (simp only [tf489, tf464, tf463, tf490, tf460, tf493, tf496, tf477, tf479, tf481, tf483, tf497, tf457, tf498, tf455, tf499, tf456, tf500, tf458, tf501, tf459, tf502, tf503, tf461, tf504, tf462, mo_i1, mo_l1] at q9; exact q9) | (rw [tf489, tf464, tf463, tf490, tf460, tf493, tf496, tf477, tf479, tf481, tf483, tf497, tf457, tf498, tf455, tf499, tf456, tf500, tf458, tf501, tf459, tf502, tf503, tf461, tf504, tf462] at q9; exact q9)
                          have hin8 : mo_in (mo_R g33) (o38_x28.toInt).toNat = mo_in (mo_R g33) (o488_x28.toInt).toNat := mo_in_drop' (by omega) (by omega) (fun i i0 i1 => (tk505.2.2.2.2.1 i i0 i1).1)
                          have hin9 : True → mo_in (mo_R g33) (o488_x28.toInt).toNat ≠ 31 := fun _ => by omega
                          refine lv_aload_n hx hb dX12_behindSum_225 rfl (lv_at hl 2 rfl) ?_
                          refine lv_iload_n hx hb dX12_behindSum_226 rfl (lv_at hl 0 rfl) ?_
                          refine lv_iconst (v := 0) hx hb dX12_behindSum_227 (by decide) ?_
                          have hf_506 : f486 (ρ h0 26) = .inl (κ 0, 400, .inl g33) := (hF487 _ (by rw [y10]; decide)).trans hf_476
                          have tf507 : mo_i (f486 (ρ h0 26)) = g33 := tfa_i hf_506
                          have hf_508 : f486 (ρ h0 27) = .inl (κ 0, 400, .inl g36) := (hF487 _ (by rw [y11]; decide)).trans hf_478
                          have tf509 : mo_i (f486 (ρ h0 27)) = g36 := tfa_i hf_508
                          obtain ⟨q510, eq510⟩ := tp_pos (tp_in hG ht_h0 (by decide)) hf_o488
                          have hFc := tp_fr hD hS hA
                          refine va_callv (va_runV (As := [.int 16, .int 0]) (rest := []) ⟨hx, hb, hml, hown, hts⟩ (t_X12_push l dC dI _ κ τ ν ρ L f486 hG hT h0 (16) (0) ht_h0 (by first | (simp only [tf489, mo_i1, mo_l1]; exact (show o488_x28.toInt < 400 from by have : (16 : Int32).toInt = 16 := rfl; have : (0 : Int32).toInt = 0 := rfl; first | omega | decide)) | (rw [tf489]; exact (show o488_x28.toInt < 400 from by have : (16 : Int32).toInt = 16 := rfl; have : (0 : Int32).toInt = 0 := rfl; first | omega | decide)))) (cwV 2 hts gX12_behindSum_X12_push rfl rfl rfl ⟨rfl, pd_X12_push⟩ ⟨Nat.le_of_ble_eq_true rfl, Nat.le_of_ble_eq_true rfl⟩) ⟨pz_blind, va_recv hK hP (ci := 12) (q0 := q510) rfl eq510, pz_pre hP hK hD hN⟩ rfl rfl hl.1 rfl (lv_room (Nat.le_of_ble_eq_true rfl)) dX12_behindSum_228 ⟨Nat.le_of_ble_eq_true rfl, Nat.le_of_ble_eq_true rfl⟩) hS (fun q _ h => hFc q h) hFc (fun f513 t H1 locs ht hvm hw512 hB hz1 hk1 hS => ?_)
                          obtain ⟨hT, hF514, hw512p⟩ := hw512
                          have hR := hR.then hF514 (by decide)
                          have hP := hB.1; rw [ht] at hP; have hD := tp_ad f513 hD; clear hB hFc hz1 hk1; subst ht; generalize t.heap = H at hP hS ⊢
                          obtain ⟨g516, hf_o515⟩ := tpo_56 hT y10
                          have tf517 : mo_i (f513 (ρ h0 26)) = g516 := tfa_i hf_o515
                          obtain ⟨g519, hf_o518⟩ := tpo_57 hT y11
                          have tf520 : mo_i (f513 (ρ h0 27)) = g519 := tfa_i hf_o518
                          obtain ⟨o521_x0, o521_x1, o521_x7, o521_x9, o521_x10, o521_x11, o521_x12, o521_x13, o521_x14, o521_x15, o521_x16, o521_x17, o521_x18, o521_x19, o521_x20, o521_x22, o521_x25, o521_x28, o521_x29, o521_x32, o521_x33, o521_x34, o521_x35, o521_x36, o521_x37, o521_x38, o521_x47, o521_x48, hf_o521, ro521_0, ro521_1, ro521_2, ro521_3, ro521_4, ro521_5, ro521_6, ro521_7, ro521_8, ro521_9, ro521_10, ro521_11, ro521_12, ro521_13⟩ := tpo_13 hT ht_h0
                          have tf522 : tp_fld (f513 h0) 28 = o521_x28.toInt := tff_28 hf_o521
                          have tf523 : tp_fld (f513 h0) 9 = o521_x9.toInt := tff_9 hf_o521
                          have tf524 : tp_fld (f513 h0) 10 = o521_x10.toInt := tff_10 hf_o521
                          have tf525 : tp_fld (f513 h0) 11 = o521_x11.toInt := tff_11 hf_o521
                          have tf526 : tp_fld (f513 h0) 12 = o521_x12.toInt := tff_12 hf_o521
                          have tf527 : mo_fj (f513 h0) 13 = o521_x13.toInt := tff_13 hf_o521
                          have tf528 : tp_fld (f513 h0) 15 = o521_x15.toInt := tff_15 hf_o521
                          have tf529 : tp_fld (f513 h0) 19 = o521_x19.toInt := tff_19 hf_o521
                          have tf530 : tp_fld (f513 h0) 20 = o521_x20.toInt := tff_20 hf_o521
                          have tf531 : tp_fld (f513 h0) 22 = o521_x22.toInt := tff_22 hf_o521
                          have tk532 : mo_U (mo_R g33) (mo_R g516) o488_x28.toInt (16 : Int) ∧ mo_U (mo_R g36) (mo_R g519) o488_x28.toInt (0 : Int) ∧ o521_x28.toInt = o488_x28.toInt + 1 ∧ o521_x9.toInt = o488_x9.toInt ∧ o521_x10.toInt = o488_x10.toInt ∧ o521_x11.toInt = o488_x11.toInt ∧ o521_x12.toInt = o488_x12.toInt ∧ o521_x13.toInt = o488_x13.toInt ∧ o521_x15.toInt = o488_x15.toInt ∧ o521_x19.toInt = o488_x19.toInt ∧ o521_x20.toInt = o488_x20.toInt ∧ o521_x22.toInt = o488_x22.toInt := by have q9 := hw512p; first | (simp only [tf507, tf517, tf489, tf509, tf520, tf522, tf523, tf497, tf524, tf498, tf525, tf499, tf526, tf500, tf527, tf501, tf528, tf502, tf529, tf503, tf530, tf504, tf531, tf490, mo_i1, mo_l1] at q9; exact q9) | (rw [tf507, tf517, tf489, tf509, tf520, tf522, tf523, tf497, tf524, tf498, tf525, tf499, tf526, tf500, tf527, tf501, tf528, tf502, tf529, tf503, tf530, tf504, tf531, tf490] at q9; exact q9)
                          refine lv_iconst (v := 1) hx hb dX12_behindSum_231 (by decide) ?_
                          have hf_533 : f513 (ρ h0 23) = .inl (κ 0, 400, .inl g492) := (hF514 _ (by rw [y8]; decide)).trans hf_o491
                          have tf534 : mo_i (f513 (ρ h0 23)) = g492 := tfa_i hf_533
                          have hf_535 : f513 (ρ h0 24) = .inl (κ 0, 400, .inl g495) := (hF514 _ (by rw [y9]; decide)).trans hf_o494
                          have tf536 : mo_i (f513 (ρ h0 24)) = g495 := tfa_i hf_535
                          exact W.iret (v := 1) hx hb hr (fun t ht hW => ⟨⟨1, f513, rfl, ⟨hT, hR, (by first | decide | omega), (by first | (simp only [tf524, tf525, tf523, tf526, tf527, tf531, tf522, tf517, tf520, tf528, tf534, tf536, tf28, tf31, tf40, tf46, tf39, tf529, tf44, tf530, tf45, mo_i1, mo_l1]; exact (show (o521_x10.toInt ≤ o521_x11.toInt ∧ o521_x11.toInt ≤ o521_x9.toInt ∧ (o521_x12.toInt = 0 ∨ o521_x10.toInt < o521_x11.toInt) ∧ (o521_x12.toInt = 1 → o521_x11.toInt = o521_x10.toInt + 1 → o521_x13.toInt ≤ 26)) ∧ o521_x22.toInt + o521_x28.toInt ≤ o521_x10.toInt ∧ mo_PV (mo_R g516) (mo_R g519) o521_x28.toInt ∧ (o521_x15.toInt = 0 → mo_EX aa (1 : Int32).toInt (mo_R g492) (mo_R g495) (mo_R g516) (mo_R g519) o521_x22.toInt o521_x28.toInt ∧ mo_FR aa (mo_R g27) (mo_R g30) (mo_R g492) (mo_R g495) ∧ ((1 : Int32).toInt = 4 ∨ o38_x10.toInt < o521_x10.toInt ∨ (o521_x10.toInt = o38_x10.toInt ∧ (1 : Int32).toInt = 2))) ∧ o38_x22.toInt ≤ o521_x22.toInt ∧ o521_x9.toInt = o38_x9.toInt ∧ o521_x19.toInt = o38_x19.toInt ∧ o521_x20.toInt = o38_x20.toInt from ⟨by omega, by omega, ((h3.lt (n' := _) tk505.1).push (by omega) tk532.1 tk532.2.1 (by omega) (by omega) (by omega)), fun q9 => ⟨(mo_EX.bin h4.1 (tk505.2.2.2.1 (by omega)) (h4.2.2.1.lt tk505.1) (by omega) tk532.1 tk532.2.1 (by omega) (by omega) (fun q7 => hin9 (by omega))), (tk505.2.2.2.2.2.2.1 (by omega)), by have q8 : (1 : Int32).toInt = 1 := rfl; omega⟩, by omega, by omega, by omega, by omega⟩)) | (rw [tf524, tf525, tf523, tf526, tf527, tf531, tf522, tf517, tf520, tf528, tf534, tf536, tf28, tf31, tf40, tf46, tf39, tf529, tf44, tf530, tf45]; exact (show (o521_x10.toInt ≤ o521_x11.toInt ∧ o521_x11.toInt ≤ o521_x9.toInt ∧ (o521_x12.toInt = 0 ∨ o521_x10.toInt < o521_x11.toInt) ∧ (o521_x12.toInt = 1 → o521_x11.toInt = o521_x10.toInt + 1 → o521_x13.toInt ≤ 26)) ∧ o521_x22.toInt + o521_x28.toInt ≤ o521_x10.toInt ∧ mo_PV (mo_R g516) (mo_R g519) o521_x28.toInt ∧ (o521_x15.toInt = 0 → mo_EX aa (1 : Int32).toInt (mo_R g492) (mo_R g495) (mo_R g516) (mo_R g519) o521_x22.toInt o521_x28.toInt ∧ mo_FR aa (mo_R g27) (mo_R g30) (mo_R g492) (mo_R g495) ∧ ((1 : Int32).toInt = 4 ∨ o38_x10.toInt < o521_x10.toInt ∨ (o521_x10.toInt = o38_x10.toInt ∧ (1 : Int32).toInt = 2))) ∧ o38_x22.toInt ≤ o521_x22.toInt ∧ o521_x9.toInt = o38_x9.toInt ∧ o521_x19.toInt = o38_x19.toInt ∧ o521_x20.toInt = o38_x20.toInt from ⟨by omega, by omega, ((h3.lt (n' := _) tk505.1).push (by omega) tk532.1 tk532.2.1 (by omega) (by omega) (by omega)), fun q9 => ⟨(mo_EX.bin h4.1 (tk505.2.2.2.1 (by omega)) (h4.2.2.1.lt tk505.1) (by omega) tk532.1 tk532.2.1 (by omega) (by omega) (fun q7 => hin9 (by omega))), (tk505.2.2.2.2.2.2.1 (by omega)), by have q8 : (1 : Int32).toInt = 1 := rfl; omega⟩, by omega, by omega, by omega, by omega⟩)))⟩, by rw [ht]; exact hP, va_K.moved hW.alike hK, hD⟩, hS.F ht⟩) hS.2.2 dX12_behindSum_232
                      · have ic449 : r446.toInt ≠ 0 := zi_eqf rfl rfl c449
                        refine lv_iconst (v := 1) hx hb dX12_behindSum_205 (by decide) ?_
                        refine lv_goto (tgt := 210) hx hb dX12_behindSum_206 (by decide) ?_
                        have hFc := tp_fr hD hS hA
                        refine va_callv (va_runV (As := [.int 1]) (rest := []) ⟨hx, hb, hml, hown, hts⟩ (t_X12_must l dC dI _ κ τ ν ρ L f hG hT h0 (1) ht_h0 (by first | decide | omega) (by first | (simp only [tf40, tf41, tf39, tf42, tf48, mo_i1, mo_l1]; exact (show (o38_x10.toInt ≤ o38_x11.toInt ∧ o38_x11.toInt ≤ o38_x9.toInt ∧ (o38_x12.toInt = 0 ∨ o38_x10.toInt < o38_x11.toInt) ∧ (o38_x12.toInt = 1 → o38_x11.toInt = o38_x10.toInt + 1 → o38_x13.toInt ≤ 26)) from by have : (1 : Int32).toInt = 1 := rfl; first | omega | decide)) | (rw [tf40, tf41, tf39, tf42, tf48]; exact (show (o38_x10.toInt ≤ o38_x11.toInt ∧ o38_x11.toInt ≤ o38_x9.toInt ∧ (o38_x12.toInt = 0 ∨ o38_x10.toInt < o38_x11.toInt) ∧ (o38_x12.toInt = 1 → o38_x11.toInt = o38_x10.toInt + 1 → o38_x13.toInt ≤ 26)) from by have : (1 : Int32).toInt = 1 := rfl; first | omega | decide)))) (cwV 1 hts gX12_behindSum_X12_must rfl rfl rfl ⟨rfl, pd_X12_must⟩ ⟨Nat.le_of_ble_eq_true rfl, Nat.le_of_ble_eq_true rfl⟩) ⟨pz_blind, va_recv hK hP (ci := 12) (q0 := q49) rfl eq49, pz_pre hP hK hD hN⟩ rfl rfl hl.1 rfl (lv_room (Nat.le_of_ble_eq_true rfl)) dX12_behindSum_210 ⟨Nat.le_of_ble_eq_true rfl, Nat.le_of_ble_eq_true rfl⟩) hS (fun q _ h => hFc q h) hFc (fun f539 t H1 locs ht hvm hw538 hB hz1 hk1 hS => ?_)
                        obtain ⟨hT, hF540, hw538p⟩ := hw538
                        have hR := hR.then hF540 (by decide)
                        have hP := hB.1; rw [ht] at hP; have hD := tp_ad f539 hD; clear hB hFc hz1 hk1; subst ht; generalize t.heap = H at hP hS ⊢
                        obtain ⟨o541_x0, o541_x1, o541_x7, o541_x9, o541_x10, o541_x11, o541_x12, o541_x13, o541_x14, o541_x15, o541_x16, o541_x17, o541_x18, o541_x19, o541_x20, o541_x22, o541_x25, o541_x28, o541_x29, o541_x32, o541_x33, o541_x34, o541_x35, o541_x36, o541_x37, o541_x38, o541_x47, o541_x48, hf_o541, ro541_0, ro541_1, ro541_2, ro541_3, ro541_4, ro541_5, ro541_6, ro541_7, ro541_8, ro541_9, ro541_10, ro541_11, ro541_12, ro541_13⟩ := tpo_13 hT ht_h0
                        have tf542 : tp_fld (f539 h0) 10 = o541_x10.toInt := tff_10 hf_o541
                        have tf543 : tp_fld (f539 h0) 11 = o541_x11.toInt := tff_11 hf_o541
                        have tf544 : tp_fld (f539 h0) 9 = o541_x9.toInt := tff_9 hf_o541
                        have tf545 : tp_fld (f539 h0) 12 = o541_x12.toInt := tff_12 hf_o541
                        have tf546 : mo_fj (f539 h0) 13 = o541_x13.toInt := tff_13 hf_o541
                        have tf547 : tp_fld (f539 h0) 15 = o541_x15.toInt := tff_15 hf_o541
                        have tf548 : tp_fld (f539 h0) 19 = o541_x19.toInt := tff_19 hf_o541
                        have tf549 : tp_fld (f539 h0) 20 = o541_x20.toInt := tff_20 hf_o541
                        have tf550 : tp_fld (f539 h0) 22 = o541_x22.toInt := tff_22 hf_o541
                        have tf551 : tp_fld (f539 h0) 28 = o541_x28.toInt := tff_28 hf_o541
                        have tk552 : (o541_x10.toInt ≤ o541_x11.toInt ∧ o541_x11.toInt ≤ o541_x9.toInt ∧ (o541_x12.toInt = 0 ∨ o541_x10.toInt < o541_x11.toInt) ∧ (o541_x12.toInt = 1 → o541_x11.toInt = o541_x10.toInt + 1 → o541_x13.toInt ≤ 26)) ∧ (o541_x15.toInt = 0 → o38_x15.toInt = 0 ∧ o38_x11.toInt ≤ o541_x10.toInt ∧ (1 : Int) ≠ 0) ∧ (o541_x15.toInt ≠ 0 → o541_x10.toInt = o38_x10.toInt) ∧ o541_x9.toInt = o38_x9.toInt ∧ o541_x19.toInt = o38_x19.toInt ∧ o541_x20.toInt = o38_x20.toInt ∧ o541_x22.toInt = o38_x22.toInt ∧ o541_x28.toInt = o38_x28.toInt := by have q9 := hw538p; first | (simp only [tf542, tf543, tf544, tf545, tf546, tf547, tf43, tf41, tf40, tf39, tf548, tf44, tf549, tf45, tf550, tf46, tf551, tf47, mo_i1, mo_l1] at q9; exact q9) | (rw [tf542, tf543, tf544, tf545, tf546, tf547, tf43, tf41, tf40, tf39, tf548, tf44, tf549, tf45, tf550, tf46, tf551, tf47] at q9; exact q9)
                        refine lv_aload_n hx hb dX12_behindSum_213 rfl (lv_at hl 2 rfl) ?_
                        obtain ⟨q553, eq553⟩ := tp_pos (tp_in hG ht_h0 (by decide)) hf_o541
                        refine va_get (D := (dC, dI)) (ci := 12) (v := .int o541_x15) (C := RX12) (T := TX12) (N := 53) hx hb hts hfX12 hown hK hP q553 eq553 rfl 15 (by decide) (hts (.fieldLink RX12 261 "ColdShipsModel" "bad" "Z") wa_994) (fun _ h9 => h9) rfl dX12_behindSum_214 ?_
                        refine lv_if_ne (tgt := 231) hx hb dX12_behindSum_217 (by decide) (fun c554 => ?_) (fun c554 => ?_)
                        · have ic554 : o541_x15.toInt ≠ 0 := zi_ne rfl rfl c554
                          refine lv_iconst (v := 1) hx hb dX12_behindSum_231 (by decide) ?_
                          have hf_555 : f539 (ρ h0 26) = .inl (κ 0, 400, .inl g33) := (hF540 _ (by rw [y10]; decide)).trans hf_o32
                          have tf556 : mo_i (f539 (ρ h0 26)) = g33 := tfa_i hf_555
                          have hf_557 : f539 (ρ h0 27) = .inl (κ 0, 400, .inl g36) := (hF540 _ (by rw [y11]; decide)).trans hf_o35
                          have tf558 : mo_i (f539 (ρ h0 27)) = g36 := tfa_i hf_557
                          have hf_559 : f539 (ρ h0 23) = .inl (κ 0, 400, .inl g27) := (hF540 _ (by rw [y8]; decide)).trans hf_o26
                          have tf560 : mo_i (f539 (ρ h0 23)) = g27 := tfa_i hf_559
                          have hf_561 : f539 (ρ h0 24) = .inl (κ 0, 400, .inl g30) := (hF540 _ (by rw [y9]; decide)).trans hf_o29
                          have tf562 : mo_i (f539 (ρ h0 24)) = g30 := tfa_i hf_561
                          exact W.iret (v := 1) hx hb hr (fun t ht hW => ⟨⟨1, f539, rfl, ⟨hT, hR, (by first | decide | omega), (by first | (simp only [tf542, tf543, tf544, tf545, tf546, tf550, tf551, tf556, tf558, tf547, tf560, tf562, tf28, tf31, tf40, tf46, tf39, tf548, tf44, tf549, tf45, mo_i1, mo_l1]; exact (show (o541_x10.toInt ≤ o541_x11.toInt ∧ o541_x11.toInt ≤ o541_x9.toInt ∧ (o541_x12.toInt = 0 ∨ o541_x10.toInt < o541_x11.toInt) ∧ (o541_x12.toInt = 1 → o541_x11.toInt = o541_x10.toInt + 1 → o541_x13.toInt ≤ 26)) ∧ o541_x22.toInt + o541_x28.toInt ≤ o541_x10.toInt ∧ mo_PV (mo_R g33) (mo_R g36) o541_x28.toInt ∧ (o541_x15.toInt = 0 → mo_EX aa (1 : Int32).toInt (mo_R g27) (mo_R g30) (mo_R g33) (mo_R g36) o541_x22.toInt o541_x28.toInt ∧ mo_FR aa (mo_R g27) (mo_R g30) (mo_R g27) (mo_R g30) ∧ ((1 : Int32).toInt = 4 ∨ o38_x10.toInt < o541_x10.toInt ∨ (o541_x10.toInt = o38_x10.toInt ∧ (1 : Int32).toInt = 2))) ∧ o38_x22.toInt ≤ o541_x22.toInt ∧ o541_x9.toInt = o38_x9.toInt ∧ o541_x19.toInt = o38_x19.toInt ∧ o541_x20.toInt = o38_x20.toInt from ⟨by omega, by omega, h3, fun q9 => by exfalso; omega, by omega, by omega, by omega, by omega⟩)) | (rw [tf542, tf543, tf544, tf545, tf546, tf550, tf551, tf556, tf558, tf547, tf560, tf562, tf28, tf31, tf40, tf46, tf39, tf548, tf44, tf549, tf45]; exact (show (o541_x10.toInt ≤ o541_x11.toInt ∧ o541_x11.toInt ≤ o541_x9.toInt ∧ (o541_x12.toInt = 0 ∨ o541_x10.toInt < o541_x11.toInt) ∧ (o541_x12.toInt = 1 → o541_x11.toInt = o541_x10.toInt + 1 → o541_x13.toInt ≤ 26)) ∧ o541_x22.toInt + o541_x28.toInt ≤ o541_x10.toInt ∧ mo_PV (mo_R g33) (mo_R g36) o541_x28.toInt ∧ (o541_x15.toInt = 0 → mo_EX aa (1 : Int32).toInt (mo_R g27) (mo_R g30) (mo_R g33) (mo_R g36) o541_x22.toInt o541_x28.toInt ∧ mo_FR aa (mo_R g27) (mo_R g30) (mo_R g27) (mo_R g30) ∧ ((1 : Int32).toInt = 4 ∨ o38_x10.toInt < o541_x10.toInt ∨ (o541_x10.toInt = o38_x10.toInt ∧ (1 : Int32).toInt = 2))) ∧ o38_x22.toInt ≤ o541_x22.toInt ∧ o541_x9.toInt = o38_x9.toInt ∧ o541_x19.toInt = o38_x19.toInt ∧ o541_x20.toInt = o38_x20.toInt from ⟨by omega, by omega, h3, fun q9 => by exfalso; omega, by omega, by omega, by omega, by omega⟩)))⟩, by rw [ht]; exact hP, va_K.moved hW.alike hK, hD⟩, hS.F ht⟩) hS.2.2 dX12_behindSum_232
                        · have ic554 : o541_x15.toInt = 0 := zi_nef rfl rfl c554
                          refine lv_aload_n hx hb dX12_behindSum_220 rfl (lv_at hl 2 rfl) ?_
                          refine lv_iconst (v := 5) hx hb dX12_behindSum_221 (by decide) ?_
                          have hf_563 : f539 (ρ h0 26) = .inl (κ 0, 400, .inl g33) := (hF540 _ (by rw [y10]; decide)).trans hf_o32
                          have tf564 : mo_i (f539 (ρ h0 26)) = g33 := tfa_i hf_563
                          have hf_565 : f539 (ρ h0 27) = .inl (κ 0, 400, .inl g36) := (hF540 _ (by rw [y11]; decide)).trans hf_o35
                          have tf566 : mo_i (f539 (ρ h0 27)) = g36 := tfa_i hf_565
                          have hf_567 : f539 (ρ h0 23) = .inl (κ 0, 400, .inl g27) := (hF540 _ (by rw [y8]; decide)).trans hf_o26
                          have tf568 : mo_i (f539 (ρ h0 23)) = g27 := tfa_i hf_567
                          have hf_569 : f539 (ρ h0 24) = .inl (κ 0, 400, .inl g30) := (hF540 _ (by rw [y9]; decide)).trans hf_o29
                          have tf570 : mo_i (f539 (ρ h0 24)) = g30 := tfa_i hf_569
                          have hFc := tp_fr hD hS hA
                          refine va_callv (va_runV (As := [.int 5]) (rest := []) ⟨hx, hb, hml, hown, hts⟩ (t_X12_settleDown l dC dI _ κ τ ν ρ L f539 hG hT h0 (5) aa ht_h0 (by first | decide | omega) (by first | (simp only [tf550, tf551, mo_i1, mo_l1]; exact (show o541_x22.toInt + o541_x28.toInt ≤ 400 from by omega)) | (rw [tf550, tf551]; exact (show o541_x22.toInt + o541_x28.toInt ≤ 400 from by omega))) (by first | (simp only [tf564, tf566, tf551, mo_i1, mo_l1]; exact (show mo_PV (mo_R g33) (mo_R g36) o541_x28.toInt from h3)) | (rw [tf564, tf566, tf551]; exact (show mo_PV (mo_R g33) (mo_R g36) o541_x28.toInt from h3))) (by first | (simp only [tf547, tf568, tf570, tf564, tf566, tf550, tf551, mo_i1, mo_l1]; exact (show (o541_x15.toInt = 0 → 0 ≤ aa ∧ mo_PJ aa (mo_R g27) (mo_R g30) (mo_R g33) (mo_R g36) o541_x22.toInt o541_x28.toInt 1) from fun _ => ⟨h4.1, h4.pj1 (by decide)⟩)) | (rw [tf547, tf568, tf570, tf564, tf566, tf550, tf551]; exact (show (o541_x15.toInt = 0 → 0 ≤ aa ∧ mo_PJ aa (mo_R g27) (mo_R g30) (mo_R g33) (mo_R g36) o541_x22.toInt o541_x28.toInt 1) from fun _ => ⟨h4.1, h4.pj1 (by decide)⟩)))) (cwV 1 hts gX12_behindSum_X12_settleDown rfl rfl rfl ⟨rfl, pd_X12_settleDown⟩ ⟨Nat.le_of_ble_eq_true rfl, Nat.le_of_ble_eq_true rfl⟩) ⟨pz_blind, va_recv hK hP (ci := 12) (q0 := q553) rfl eq553, pz_pre hP hK hD hN⟩ rfl rfl hl.1 rfl (lv_room (Nat.le_of_ble_eq_true rfl)) dX12_behindSum_222 ⟨Nat.le_of_ble_eq_true rfl, Nat.le_of_ble_eq_true rfl⟩) hS (fun q _ h => hFc q h) hFc (fun f573 t H1 locs ht hvm hw572 hB hz1 hk1 hS => ?_)
                          obtain ⟨hT, hF574, hw572p⟩ := hw572
                          have hR := hR.then hF574 (by decide)
                          have hP := hB.1; rw [ht] at hP; have hD := tp_ad f573 hD; clear hB hFc hz1 hk1; subst ht; generalize t.heap = H at hP hS ⊢
                          obtain ⟨o575_x0, o575_x1, o575_x7, o575_x9, o575_x10, o575_x11, o575_x12, o575_x13, o575_x14, o575_x15, o575_x16, o575_x17, o575_x18, o575_x19, o575_x20, o575_x22, o575_x25, o575_x28, o575_x29, o575_x32, o575_x33, o575_x34, o575_x35, o575_x36, o575_x37, o575_x38, o575_x47, o575_x48, hf_o575, ro575_0, ro575_1, ro575_2, ro575_3, ro575_4, ro575_5, ro575_6, ro575_7, ro575_8, ro575_9, ro575_10, ro575_11, ro575_12, ro575_13⟩ := tpo_13 hT ht_h0
                          have tf576 : tp_fld (f573 h0) 28 = o575_x28.toInt := tff_28 hf_o575
                          have tf577 : tp_fld (f573 h0) 22 = o575_x22.toInt := tff_22 hf_o575
                          obtain ⟨g579, hf_o578⟩ := tpo_53 hT y8
                          have tf580 : mo_i (f573 (ρ h0 23)) = g579 := tfa_i hf_o578
                          obtain ⟨g582, hf_o581⟩ := tpo_54 hT y9
                          have tf583 : mo_i (f573 (ρ h0 24)) = g582 := tfa_i hf_o581
                          have tf584 : tp_fld (f573 h0) 9 = o575_x9.toInt := tff_9 hf_o575
                          have tf585 : tp_fld (f573 h0) 10 = o575_x10.toInt := tff_10 hf_o575
                          have tf586 : tp_fld (f573 h0) 11 = o575_x11.toInt := tff_11 hf_o575
                          have tf587 : tp_fld (f573 h0) 12 = o575_x12.toInt := tff_12 hf_o575
                          have tf588 : mo_fj (f573 h0) 13 = o575_x13.toInt := tff_13 hf_o575
                          have tf589 : tp_fld (f573 h0) 15 = o575_x15.toInt := tff_15 hf_o575
                          have tf590 : tp_fld (f573 h0) 19 = o575_x19.toInt := tff_19 hf_o575
                          have tf591 : tp_fld (f573 h0) 20 = o575_x20.toInt := tff_20 hf_o575
                          have tk592 : o575_x28.toInt ≤ o541_x28.toInt ∧ o541_x22.toInt ≤ o575_x22.toInt ∧ o575_x22.toInt + o575_x28.toInt ≤ o541_x22.toInt + o541_x28.toInt ∧ (o541_x15.toInt = 0 → mo_PJ aa (mo_R g579) (mo_R g582) (mo_R g33) (mo_R g36) o575_x22.toInt o575_x28.toInt 1) ∧ (∀ i, o575_x28.toInt ≤ i → i < o541_x28.toInt → (mo_R g33) i < 30 ∧ (5 ≤ (5 : Int) → (mo_R g33) i < 14)) ∧ (o575_x28.toInt = 0 ∨ (((5 : Int) = 1 → 30 ≤ (mo_R g33) (o575_x28.toInt + -1)) ∧ ((5 : Int) = 5 → 14 ≤ (mo_R g33) (o575_x28.toInt + -1)))) ∧ (o541_x15.toInt = 0 → mo_FR aa (mo_R g27) (mo_R g30) (mo_R g579) (mo_R g582)) ∧ o575_x9.toInt = o541_x9.toInt ∧ o575_x10.toInt = o541_x10.toInt ∧ o575_x11.toInt = o541_x11.toInt ∧ o575_x12.toInt = o541_x12.toInt ∧ o575_x13.toInt = o541_x13.toInt ∧ o575_x15.toInt = o541_x15.toInt ∧ o575_x19.toInt = o541_x19.toInt ∧ o575_x20.toInt = o541_x20.toInt := by have q9 := hw572p; first | (simp only [tf576, tf551, tf550, tf577, tf547, tf580, tf583, tf564, tf566, tf568, tf570, tf584, tf544, tf585, tf542, tf586, tf543, tf587, tf545, tf588, tf546, tf589, tf590, tf548, tf591, tf549, mo_i1, mo_l1] at q9; exact q9) | (rw [tf576, tf551, tf550, tf577, tf547, tf580, tf583, tf564, tf566, tf568, tf570, tf584, tf544, tf585, tf542, tf586, tf543, tf587, tf545, tf588, tf546, tf589, tf590, tf548, tf591, tf549] at q9; exact q9)
                          have hin8 : mo_in (mo_R g33) (o38_x28.toInt).toNat = mo_in (mo_R g33) (o575_x28.toInt).toNat := mo_in_drop' (by omega) (by omega) (fun i i0 i1 => (tk592.2.2.2.2.1 i i0 i1).1)
                          have hin9 : True → mo_in (mo_R g33) (o575_x28.toInt).toNat ≠ 31 := fun _ => by omega
                          refine lv_aload_n hx hb dX12_behindSum_225 rfl (lv_at hl 2 rfl) ?_
                          refine lv_iload_n hx hb dX12_behindSum_226 rfl (lv_at hl 0 rfl) ?_
                          refine lv_iconst (v := 0) hx hb dX12_behindSum_227 (by decide) ?_
                          have hf_593 : f573 (ρ h0 26) = .inl (κ 0, 400, .inl g33) := (hF574 _ (by rw [y10]; decide)).trans hf_563
                          have tf594 : mo_i (f573 (ρ h0 26)) = g33 := tfa_i hf_593
                          have hf_595 : f573 (ρ h0 27) = .inl (κ 0, 400, .inl g36) := (hF574 _ (by rw [y11]; decide)).trans hf_565
                          have tf596 : mo_i (f573 (ρ h0 27)) = g36 := tfa_i hf_595
                          obtain ⟨q597, eq597⟩ := tp_pos (tp_in hG ht_h0 (by decide)) hf_o575
                          have hFc := tp_fr hD hS hA
                          refine va_callv (va_runV (As := [.int 16, .int 0]) (rest := []) ⟨hx, hb, hml, hown, hts⟩ (t_X12_push l dC dI _ κ τ ν ρ L f573 hG hT h0 (16) (0) ht_h0 (by first | (simp only [tf576, mo_i1, mo_l1]; exact (show o575_x28.toInt < 400 from by have : (16 : Int32).toInt = 16 := rfl; have : (0 : Int32).toInt = 0 := rfl; first | omega | decide)) | (rw [tf576]; exact (show o575_x28.toInt < 400 from by have : (16 : Int32).toInt = 16 := rfl; have : (0 : Int32).toInt = 0 := rfl; first | omega | decide)))) (cwV 2 hts gX12_behindSum_X12_push rfl rfl rfl ⟨rfl, pd_X12_push⟩ ⟨Nat.le_of_ble_eq_true rfl, Nat.le_of_ble_eq_true rfl⟩) ⟨pz_blind, va_recv hK hP (ci := 12) (q0 := q597) rfl eq597, pz_pre hP hK hD hN⟩ rfl rfl hl.1 rfl (lv_room (Nat.le_of_ble_eq_true rfl)) dX12_behindSum_228 ⟨Nat.le_of_ble_eq_true rfl, Nat.le_of_ble_eq_true rfl⟩) hS (fun q _ h => hFc q h) hFc (fun f600 t H1 locs ht hvm hw599 hB hz1 hk1 hS => ?_)
                          obtain ⟨hT, hF601, hw599p⟩ := hw599
                          have hR := hR.then hF601 (by decide)
                          have hP := hB.1; rw [ht] at hP; have hD := tp_ad f600 hD; clear hB hFc hz1 hk1; subst ht; generalize t.heap = H at hP hS ⊢
                          obtain ⟨g603, hf_o602⟩ := tpo_56 hT y10
                          have tf604 : mo_i (f600 (ρ h0 26)) = g603 := tfa_i hf_o602
                          obtain ⟨g606, hf_o605⟩ := tpo_57 hT y11
                          have tf607 : mo_i (f600 (ρ h0 27)) = g606 := tfa_i hf_o605
                          obtain ⟨o608_x0, o608_x1, o608_x7, o608_x9, o608_x10, o608_x11, o608_x12, o608_x13, o608_x14, o608_x15, o608_x16, o608_x17, o608_x18, o608_x19, o608_x20, o608_x22, o608_x25, o608_x28, o608_x29, o608_x32, o608_x33, o608_x34, o608_x35, o608_x36, o608_x37, o608_x38, o608_x47, o608_x48, hf_o608, ro608_0, ro608_1, ro608_2, ro608_3, ro608_4, ro608_5, ro608_6, ro608_7, ro608_8, ro608_9, ro608_10, ro608_11, ro608_12, ro608_13⟩ := tpo_13 hT ht_h0
                          have tf609 : tp_fld (f600 h0) 28 = o608_x28.toInt := tff_28 hf_o608
                          have tf610 : tp_fld (f600 h0) 9 = o608_x9.toInt := tff_9 hf_o608
                          have tf611 : tp_fld (f600 h0) 10 = o608_x10.toInt := tff_10 hf_o608
                          have tf612 : tp_fld (f600 h0) 11 = o608_x11.toInt := tff_11 hf_o608
                          have tf613 : tp_fld (f600 h0) 12 = o608_x12.toInt := tff_12 hf_o608
                          have tf614 : mo_fj (f600 h0) 13 = o608_x13.toInt := tff_13 hf_o608
                          have tf615 : tp_fld (f600 h0) 15 = o608_x15.toInt := tff_15 hf_o608
                          have tf616 : tp_fld (f600 h0) 19 = o608_x19.toInt := tff_19 hf_o608
                          have tf617 : tp_fld (f600 h0) 20 = o608_x20.toInt := tff_20 hf_o608
                          have tf618 : tp_fld (f600 h0) 22 = o608_x22.toInt := tff_22 hf_o608
                          have tk619 : mo_U (mo_R g33) (mo_R g603) o575_x28.toInt (16 : Int) ∧ mo_U (mo_R g36) (mo_R g606) o575_x28.toInt (0 : Int) ∧ o608_x28.toInt = o575_x28.toInt + 1 ∧ o608_x9.toInt = o575_x9.toInt ∧ o608_x10.toInt = o575_x10.toInt ∧ o608_x11.toInt = o575_x11.toInt ∧ o608_x12.toInt = o575_x12.toInt ∧ o608_x13.toInt = o575_x13.toInt ∧ o608_x15.toInt = o575_x15.toInt ∧ o608_x19.toInt = o575_x19.toInt ∧ o608_x20.toInt = o575_x20.toInt ∧ o608_x22.toInt = o575_x22.toInt := by have q9 := hw599p; first | (simp only [tf594, tf604, tf576, tf596, tf607, tf609, tf610, tf584, tf611, tf585, tf612, tf586, tf613, tf587, tf614, tf588, tf615, tf589, tf616, tf590, tf617, tf591, tf618, tf577, mo_i1, mo_l1] at q9; exact q9) | (rw [tf594, tf604, tf576, tf596, tf607, tf609, tf610, tf584, tf611, tf585, tf612, tf586, tf613, tf587, tf614, tf588, tf615, tf589, tf616, tf590, tf617, tf591, tf618, tf577] at q9; exact q9)
                          refine lv_iconst (v := 1) hx hb dX12_behindSum_231 (by decide) ?_
                          have hf_620 : f600 (ρ h0 23) = .inl (κ 0, 400, .inl g579) := (hF601 _ (by rw [y8]; decide)).trans hf_o578
                          have tf621 : mo_i (f600 (ρ h0 23)) = g579 := tfa_i hf_620
                          have hf_622 : f600 (ρ h0 24) = .inl (κ 0, 400, .inl g582) := (hF601 _ (by rw [y9]; decide)).trans hf_o581
                          have tf623 : mo_i (f600 (ρ h0 24)) = g582 := tfa_i hf_622
                          exact W.iret (v := 1) hx hb hr (fun t ht hW => ⟨⟨1, f600, rfl, ⟨hT, hR, (by first | decide | omega), (by first | (simp only [tf611, tf612, tf610, tf613, tf614, tf618, tf609, tf604, tf607, tf615, tf621, tf623, tf28, tf31, tf40, tf46, tf39, tf616, tf44, tf617, tf45, mo_i1, mo_l1]; exact (show (o608_x10.toInt ≤ o608_x11.toInt ∧ o608_x11.toInt ≤ o608_x9.toInt ∧ (o608_x12.toInt = 0 ∨ o608_x10.toInt < o608_x11.toInt) ∧ (o608_x12.toInt = 1 → o608_x11.toInt = o608_x10.toInt + 1 → o608_x13.toInt ≤ 26)) ∧ o608_x22.toInt + o608_x28.toInt ≤ o608_x10.toInt ∧ mo_PV (mo_R g603) (mo_R g606) o608_x28.toInt ∧ (o608_x15.toInt = 0 → mo_EX aa (1 : Int32).toInt (mo_R g579) (mo_R g582) (mo_R g603) (mo_R g606) o608_x22.toInt o608_x28.toInt ∧ mo_FR aa (mo_R g27) (mo_R g30) (mo_R g579) (mo_R g582) ∧ ((1 : Int32).toInt = 4 ∨ o38_x10.toInt < o608_x10.toInt ∨ (o608_x10.toInt = o38_x10.toInt ∧ (1 : Int32).toInt = 2))) ∧ o38_x22.toInt ≤ o608_x22.toInt ∧ o608_x9.toInt = o38_x9.toInt ∧ o608_x19.toInt = o38_x19.toInt ∧ o608_x20.toInt = o38_x20.toInt from ⟨by omega, by omega, ((h3.lt (n' := _) tk592.1).push (by omega) tk619.1 tk619.2.1 (by omega) (by omega) (by omega)), fun q9 => ⟨(mo_EX.bin h4.1 (tk592.2.2.2.1 (by omega)) (h4.2.2.1.lt tk592.1) (by omega) tk619.1 tk619.2.1 (by omega) (by omega) (fun q7 => hin9 (by omega))), (tk592.2.2.2.2.2.2.1 (by omega)), by have q8 : (1 : Int32).toInt = 1 := rfl; omega⟩, by omega, by omega, by omega, by omega⟩)) | (rw [tf611, tf612, tf610, tf613, tf614, tf618, tf609, tf604, tf607, tf615, tf621, tf623, tf28, tf31, tf40, tf46, tf39, tf616, tf44, tf617, tf45]; exact (show (o608_x10.toInt ≤ o608_x11.toInt ∧ o608_x11.toInt ≤ o608_x9.toInt ∧ (o608_x12.toInt = 0 ∨ o608_x10.toInt < o608_x11.toInt) ∧ (o608_x12.toInt = 1 → o608_x11.toInt = o608_x10.toInt + 1 → o608_x13.toInt ≤ 26)) ∧ o608_x22.toInt + o608_x28.toInt ≤ o608_x10.toInt ∧ mo_PV (mo_R g603) (mo_R g606) o608_x28.toInt ∧ (o608_x15.toInt = 0 → mo_EX aa (1 : Int32).toInt (mo_R g579) (mo_R g582) (mo_R g603) (mo_R g606) o608_x22.toInt o608_x28.toInt ∧ mo_FR aa (mo_R g27) (mo_R g30) (mo_R g579) (mo_R g582) ∧ ((1 : Int32).toInt = 4 ∨ o38_x10.toInt < o608_x10.toInt ∨ (o608_x10.toInt = o38_x10.toInt ∧ (1 : Int32).toInt = 2))) ∧ o38_x22.toInt ≤ o608_x22.toInt ∧ o608_x9.toInt = o38_x9.toInt ∧ o608_x19.toInt = o38_x19.toInt ∧ o608_x20.toInt = o38_x20.toInt from ⟨by omega, by omega, ((h3.lt (n' := _) tk592.1).push (by omega) tk619.1 tk619.2.1 (by omega) (by omega) (by omega)), fun q9 => ⟨(mo_EX.bin h4.1 (tk592.2.2.2.1 (by omega)) (h4.2.2.1.lt tk592.1) (by omega) tk619.1 tk619.2.1 (by omega) (by omega) (fun q7 => hin9 (by omega))), (tk592.2.2.2.2.2.2.1 (by omega)), by have q8 : (1 : Int32).toInt = 1 := rfl; omega⟩, by omega, by omega, by omega, by omega⟩)))⟩, by rw [ht]; exact hP, va_K.moved hW.alike hK, hD⟩, hS.F ht⟩) hS.2.2 dX12_behindSum_232
                    · have ic445 : r442.toInt ≠ 0 := zi_eqf rfl rfl c445
                      refine lv_bipush (v := 15) hx hb dX12_behindSum_181 (by decide) ?_
                      refine lv_goto (tgt := 188) hx hb dX12_behindSum_183 (by decide) ?_
                      refine lv_istore_n (lv' := [(2, .int 15), (3, .int r66), (0, .ref h0), (1, .int v)]) hx hb dX12_behindSum_188 rfl hl (by decide) rfl (fun ls hl => ?_)
                      refine lv_aload_n hx hb dX12_behindSum_189 rfl (lv_at hl 2 rfl) ?_
                      refine lv_iload_n hx hb dX12_behindSum_190 rfl (lv_at hl 0 rfl) ?_
                      refine lv_bipush (v := 16) hx hb dX12_behindSum_191 (by decide) ?_
                      refine lv_icmp_ne (tgt := 205) hx hb dX12_behindSum_193 (by decide) (fun _ => ?_) (fun c9 => absurd c9 (by decide))
                      refine lv_iconst (v := 1) hx hb dX12_behindSum_205 (by decide) ?_
                      refine lv_goto (tgt := 210) hx hb dX12_behindSum_206 (by decide) ?_
                      have hFc := tp_fr hD hS hA
                      refine va_callv (va_runV (As := [.int 1]) (rest := []) ⟨hx, hb, hml, hown, hts⟩ (t_X12_must l dC dI _ κ τ ν ρ L f hG hT h0 (1) ht_h0 (by first | decide | omega) (by first | (simp only [tf40, tf41, tf39, tf42, tf48, mo_i1, mo_l1]; exact (show (o38_x10.toInt ≤ o38_x11.toInt ∧ o38_x11.toInt ≤ o38_x9.toInt ∧ (o38_x12.toInt = 0 ∨ o38_x10.toInt < o38_x11.toInt) ∧ (o38_x12.toInt = 1 → o38_x11.toInt = o38_x10.toInt + 1 → o38_x13.toInt ≤ 26)) from by have : (1 : Int32).toInt = 1 := rfl; first | omega | decide)) | (rw [tf40, tf41, tf39, tf42, tf48]; exact (show (o38_x10.toInt ≤ o38_x11.toInt ∧ o38_x11.toInt ≤ o38_x9.toInt ∧ (o38_x12.toInt = 0 ∨ o38_x10.toInt < o38_x11.toInt) ∧ (o38_x12.toInt = 1 → o38_x11.toInt = o38_x10.toInt + 1 → o38_x13.toInt ≤ 26)) from by have : (1 : Int32).toInt = 1 := rfl; first | omega | decide)))) (cwV 1 hts gX12_behindSum_X12_must rfl rfl rfl ⟨rfl, pd_X12_must⟩ ⟨Nat.le_of_ble_eq_true rfl, Nat.le_of_ble_eq_true rfl⟩) ⟨pz_blind, va_recv hK hP (ci := 12) (q0 := q49) rfl eq49, pz_pre hP hK hD hN⟩ rfl rfl hl.1 rfl (lv_room (Nat.le_of_ble_eq_true rfl)) dX12_behindSum_210 ⟨Nat.le_of_ble_eq_true rfl, Nat.le_of_ble_eq_true rfl⟩) hS (fun q _ h => hFc q h) hFc (fun f626 t H1 locs ht hvm hw625 hB hz1 hk1 hS => ?_)
                      obtain ⟨hT, hF627, hw625p⟩ := hw625
                      have hR := hR.then hF627 (by decide)
                      have hP := hB.1; rw [ht] at hP; have hD := tp_ad f626 hD; clear hB hFc hz1 hk1; subst ht; generalize t.heap = H at hP hS ⊢
                      obtain ⟨o628_x0, o628_x1, o628_x7, o628_x9, o628_x10, o628_x11, o628_x12, o628_x13, o628_x14, o628_x15, o628_x16, o628_x17, o628_x18, o628_x19, o628_x20, o628_x22, o628_x25, o628_x28, o628_x29, o628_x32, o628_x33, o628_x34, o628_x35, o628_x36, o628_x37, o628_x38, o628_x47, o628_x48, hf_o628, ro628_0, ro628_1, ro628_2, ro628_3, ro628_4, ro628_5, ro628_6, ro628_7, ro628_8, ro628_9, ro628_10, ro628_11, ro628_12, ro628_13⟩ := tpo_13 hT ht_h0
                      have tf629 : tp_fld (f626 h0) 10 = o628_x10.toInt := tff_10 hf_o628
                      have tf630 : tp_fld (f626 h0) 11 = o628_x11.toInt := tff_11 hf_o628
                      have tf631 : tp_fld (f626 h0) 9 = o628_x9.toInt := tff_9 hf_o628
                      have tf632 : tp_fld (f626 h0) 12 = o628_x12.toInt := tff_12 hf_o628
                      have tf633 : mo_fj (f626 h0) 13 = o628_x13.toInt := tff_13 hf_o628
                      have tf634 : tp_fld (f626 h0) 15 = o628_x15.toInt := tff_15 hf_o628
                      have tf635 : tp_fld (f626 h0) 19 = o628_x19.toInt := tff_19 hf_o628
                      have tf636 : tp_fld (f626 h0) 20 = o628_x20.toInt := tff_20 hf_o628
                      have tf637 : tp_fld (f626 h0) 22 = o628_x22.toInt := tff_22 hf_o628
                      have tf638 : tp_fld (f626 h0) 28 = o628_x28.toInt := tff_28 hf_o628
                      have tk639 : (o628_x10.toInt ≤ o628_x11.toInt ∧ o628_x11.toInt ≤ o628_x9.toInt ∧ (o628_x12.toInt = 0 ∨ o628_x10.toInt < o628_x11.toInt) ∧ (o628_x12.toInt = 1 → o628_x11.toInt = o628_x10.toInt + 1 → o628_x13.toInt ≤ 26)) ∧ (o628_x15.toInt = 0 → o38_x15.toInt = 0 ∧ o38_x11.toInt ≤ o628_x10.toInt ∧ (1 : Int) ≠ 0) ∧ (o628_x15.toInt ≠ 0 → o628_x10.toInt = o38_x10.toInt) ∧ o628_x9.toInt = o38_x9.toInt ∧ o628_x19.toInt = o38_x19.toInt ∧ o628_x20.toInt = o38_x20.toInt ∧ o628_x22.toInt = o38_x22.toInt ∧ o628_x28.toInt = o38_x28.toInt := by have q9 := hw625p; first | (simp only [tf629, tf630, tf631, tf632, tf633, tf634, tf43, tf41, tf40, tf39, tf635, tf44, tf636, tf45, tf637, tf46, tf638, tf47, mo_i1, mo_l1] at q9; exact q9) | (rw [tf629, tf630, tf631, tf632, tf633, tf634, tf43, tf41, tf40, tf39, tf635, tf44, tf636, tf45, tf637, tf46, tf638, tf47] at q9; exact q9)
                      refine lv_aload_n hx hb dX12_behindSum_213 rfl (lv_at hl 2 rfl) ?_
                      obtain ⟨q640, eq640⟩ := tp_pos (tp_in hG ht_h0 (by decide)) hf_o628
                      refine va_get (D := (dC, dI)) (ci := 12) (v := .int o628_x15) (C := RX12) (T := TX12) (N := 53) hx hb hts hfX12 hown hK hP q640 eq640 rfl 15 (by decide) (hts (.fieldLink RX12 261 "ColdShipsModel" "bad" "Z") wa_994) (fun _ h9 => h9) rfl dX12_behindSum_214 ?_
                      refine lv_if_ne (tgt := 231) hx hb dX12_behindSum_217 (by decide) (fun c641 => ?_) (fun c641 => ?_)
                      · have ic641 : o628_x15.toInt ≠ 0 := zi_ne rfl rfl c641
                        refine lv_iconst (v := 1) hx hb dX12_behindSum_231 (by decide) ?_
                        have hf_642 : f626 (ρ h0 26) = .inl (κ 0, 400, .inl g33) := (hF627 _ (by rw [y10]; decide)).trans hf_o32
                        have tf643 : mo_i (f626 (ρ h0 26)) = g33 := tfa_i hf_642
                        have hf_644 : f626 (ρ h0 27) = .inl (κ 0, 400, .inl g36) := (hF627 _ (by rw [y11]; decide)).trans hf_o35
                        have tf645 : mo_i (f626 (ρ h0 27)) = g36 := tfa_i hf_644
                        have hf_646 : f626 (ρ h0 23) = .inl (κ 0, 400, .inl g27) := (hF627 _ (by rw [y8]; decide)).trans hf_o26
                        have tf647 : mo_i (f626 (ρ h0 23)) = g27 := tfa_i hf_646
                        have hf_648 : f626 (ρ h0 24) = .inl (κ 0, 400, .inl g30) := (hF627 _ (by rw [y9]; decide)).trans hf_o29
                        have tf649 : mo_i (f626 (ρ h0 24)) = g30 := tfa_i hf_648
                        exact W.iret (v := 1) hx hb hr (fun t ht hW => ⟨⟨1, f626, rfl, ⟨hT, hR, (by first | decide | omega), (by first | (simp only [tf629, tf630, tf631, tf632, tf633, tf637, tf638, tf643, tf645, tf634, tf647, tf649, tf28, tf31, tf40, tf46, tf39, tf635, tf44, tf636, tf45, mo_i1, mo_l1]; exact (show (o628_x10.toInt ≤ o628_x11.toInt ∧ o628_x11.toInt ≤ o628_x9.toInt ∧ (o628_x12.toInt = 0 ∨ o628_x10.toInt < o628_x11.toInt) ∧ (o628_x12.toInt = 1 → o628_x11.toInt = o628_x10.toInt + 1 → o628_x13.toInt ≤ 26)) ∧ o628_x22.toInt + o628_x28.toInt ≤ o628_x10.toInt ∧ mo_PV (mo_R g33) (mo_R g36) o628_x28.toInt ∧ (o628_x15.toInt = 0 → mo_EX aa (1 : Int32).toInt (mo_R g27) (mo_R g30) (mo_R g33) (mo_R g36) o628_x22.toInt o628_x28.toInt ∧ mo_FR aa (mo_R g27) (mo_R g30) (mo_R g27) (mo_R g30) ∧ ((1 : Int32).toInt = 4 ∨ o38_x10.toInt < o628_x10.toInt ∨ (o628_x10.toInt = o38_x10.toInt ∧ (1 : Int32).toInt = 2))) ∧ o38_x22.toInt ≤ o628_x22.toInt ∧ o628_x9.toInt = o38_x9.toInt ∧ o628_x19.toInt = o38_x19.toInt ∧ o628_x20.toInt = o38_x20.toInt from ⟨by omega, by omega, h3, fun q9 => by exfalso; omega, by omega, by omega, by omega, by omega⟩)) | (rw [tf629, tf630, tf631, tf632, tf633, tf637, tf638, tf643, tf645, tf634, tf647, tf649, tf28, tf31, tf40, tf46, tf39, tf635, tf44, tf636, tf45]; exact (show (o628_x10.toInt ≤ o628_x11.toInt ∧ o628_x11.toInt ≤ o628_x9.toInt ∧ (o628_x12.toInt = 0 ∨ o628_x10.toInt < o628_x11.toInt) ∧ (o628_x12.toInt = 1 → o628_x11.toInt = o628_x10.toInt + 1 → o628_x13.toInt ≤ 26)) ∧ o628_x22.toInt + o628_x28.toInt ≤ o628_x10.toInt ∧ mo_PV (mo_R g33) (mo_R g36) o628_x28.toInt ∧ (o628_x15.toInt = 0 → mo_EX aa (1 : Int32).toInt (mo_R g27) (mo_R g30) (mo_R g33) (mo_R g36) o628_x22.toInt o628_x28.toInt ∧ mo_FR aa (mo_R g27) (mo_R g30) (mo_R g27) (mo_R g30) ∧ ((1 : Int32).toInt = 4 ∨ o38_x10.toInt < o628_x10.toInt ∨ (o628_x10.toInt = o38_x10.toInt ∧ (1 : Int32).toInt = 2))) ∧ o38_x22.toInt ≤ o628_x22.toInt ∧ o628_x9.toInt = o38_x9.toInt ∧ o628_x19.toInt = o38_x19.toInt ∧ o628_x20.toInt = o38_x20.toInt from ⟨by omega, by omega, h3, fun q9 => by exfalso; omega, by omega, by omega, by omega, by omega⟩)))⟩, by rw [ht]; exact hP, va_K.moved hW.alike hK, hD⟩, hS.F ht⟩) hS.2.2 dX12_behindSum_232
                      · have ic641 : o628_x15.toInt = 0 := zi_nef rfl rfl c641
                        refine lv_aload_n hx hb dX12_behindSum_220 rfl (lv_at hl 2 rfl) ?_
                        refine lv_iconst (v := 5) hx hb dX12_behindSum_221 (by decide) ?_
                        have hf_650 : f626 (ρ h0 26) = .inl (κ 0, 400, .inl g33) := (hF627 _ (by rw [y10]; decide)).trans hf_o32
                        have tf651 : mo_i (f626 (ρ h0 26)) = g33 := tfa_i hf_650
                        have hf_652 : f626 (ρ h0 27) = .inl (κ 0, 400, .inl g36) := (hF627 _ (by rw [y11]; decide)).trans hf_o35
                        have tf653 : mo_i (f626 (ρ h0 27)) = g36 := tfa_i hf_652
                        have hf_654 : f626 (ρ h0 23) = .inl (κ 0, 400, .inl g27) := (hF627 _ (by rw [y8]; decide)).trans hf_o26
                        have tf655 : mo_i (f626 (ρ h0 23)) = g27 := tfa_i hf_654
                        have hf_656 : f626 (ρ h0 24) = .inl (κ 0, 400, .inl g30) := (hF627 _ (by rw [y9]; decide)).trans hf_o29
                        have tf657 : mo_i (f626 (ρ h0 24)) = g30 := tfa_i hf_656
                        have hFc := tp_fr hD hS hA
                        refine va_callv (va_runV (As := [.int 5]) (rest := []) ⟨hx, hb, hml, hown, hts⟩ (t_X12_settleDown l dC dI _ κ τ ν ρ L f626 hG hT h0 (5) aa ht_h0 (by first | decide | omega) (by first | (simp only [tf637, tf638, mo_i1, mo_l1]; exact (show o628_x22.toInt + o628_x28.toInt ≤ 400 from by omega)) | (rw [tf637, tf638]; exact (show o628_x22.toInt + o628_x28.toInt ≤ 400 from by omega))) (by first | (simp only [tf651, tf653, tf638, mo_i1, mo_l1]; exact (show mo_PV (mo_R g33) (mo_R g36) o628_x28.toInt from h3)) | (rw [tf651, tf653, tf638]; exact (show mo_PV (mo_R g33) (mo_R g36) o628_x28.toInt from h3))) (by first | (simp only [tf634, tf655, tf657, tf651, tf653, tf637, tf638, mo_i1, mo_l1]; exact (show (o628_x15.toInt = 0 → 0 ≤ aa ∧ mo_PJ aa (mo_R g27) (mo_R g30) (mo_R g33) (mo_R g36) o628_x22.toInt o628_x28.toInt 1) from fun _ => ⟨h4.1, h4.pj1 (by decide)⟩)) | (rw [tf634, tf655, tf657, tf651, tf653, tf637, tf638]; exact (show (o628_x15.toInt = 0 → 0 ≤ aa ∧ mo_PJ aa (mo_R g27) (mo_R g30) (mo_R g33) (mo_R g36) o628_x22.toInt o628_x28.toInt 1) from fun _ => ⟨h4.1, h4.pj1 (by decide)⟩)))) (cwV 1 hts gX12_behindSum_X12_settleDown rfl rfl rfl ⟨rfl, pd_X12_settleDown⟩ ⟨Nat.le_of_ble_eq_true rfl, Nat.le_of_ble_eq_true rfl⟩) ⟨pz_blind, va_recv hK hP (ci := 12) (q0 := q640) rfl eq640, pz_pre hP hK hD hN⟩ rfl rfl hl.1 rfl (lv_room (Nat.le_of_ble_eq_true rfl)) dX12_behindSum_222 ⟨Nat.le_of_ble_eq_true rfl, Nat.le_of_ble_eq_true rfl⟩) hS (fun q _ h => hFc q h) hFc (fun f660 t H1 locs ht hvm hw659 hB hz1 hk1 hS => ?_)
                        obtain ⟨hT, hF661, hw659p⟩ := hw659
                        have hR := hR.then hF661 (by decide)
                        have hP := hB.1; rw [ht] at hP; have hD := tp_ad f660 hD; clear hB hFc hz1 hk1; subst ht; generalize t.heap = H at hP hS ⊢
                        obtain ⟨o662_x0, o662_x1, o662_x7, o662_x9, o662_x10, o662_x11, o662_x12, o662_x13, o662_x14, o662_x15, o662_x16, o662_x17, o662_x18, o662_x19, o662_x20, o662_x22, o662_x25, o662_x28, o662_x29, o662_x32, o662_x33, o662_x34, o662_x35, o662_x36, o662_x37, o662_x38, o662_x47, o662_x48, hf_o662, ro662_0, ro662_1, ro662_2, ro662_3, ro662_4, ro662_5, ro662_6, ro662_7, ro662_8, ro662_9, ro662_10, ro662_11, ro662_12, ro662_13⟩ := tpo_13 hT ht_h0
                        have tf663 : tp_fld (f660 h0) 28 = o662_x28.toInt := tff_28 hf_o662
                        have tf664 : tp_fld (f660 h0) 22 = o662_x22.toInt := tff_22 hf_o662
                        obtain ⟨g666, hf_o665⟩ := tpo_53 hT y8
                        have tf667 : mo_i (f660 (ρ h0 23)) = g666 := tfa_i hf_o665
                        obtain ⟨g669, hf_o668⟩ := tpo_54 hT y9
                        have tf670 : mo_i (f660 (ρ h0 24)) = g669 := tfa_i hf_o668
                        have tf671 : tp_fld (f660 h0) 9 = o662_x9.toInt := tff_9 hf_o662
                        have tf672 : tp_fld (f660 h0) 10 = o662_x10.toInt := tff_10 hf_o662
                        have tf673 : tp_fld (f660 h0) 11 = o662_x11.toInt := tff_11 hf_o662
                        have tf674 : tp_fld (f660 h0) 12 = o662_x12.toInt := tff_12 hf_o662
                        have tf675 : mo_fj (f660 h0) 13 = o662_x13.toInt := tff_13 hf_o662
                        have tf676 : tp_fld (f660 h0) 15 = o662_x15.toInt := tff_15 hf_o662
                        have tf677 : tp_fld (f660 h0) 19 = o662_x19.toInt := tff_19 hf_o662
                        have tf678 : tp_fld (f660 h0) 20 = o662_x20.toInt := tff_20 hf_o662
                        have tk679 : o662_x28.toInt ≤ o628_x28.toInt ∧ o628_x22.toInt ≤ o662_x22.toInt ∧ o662_x22.toInt + o662_x28.toInt ≤ o628_x22.toInt + o628_x28.toInt ∧ (o628_x15.toInt = 0 → mo_PJ aa (mo_R g666) (mo_R g669) (mo_R g33) (mo_R g36) o662_x22.toInt o662_x28.toInt 1) ∧ (∀ i, o662_x28.toInt ≤ i → i < o628_x28.toInt → (mo_R g33) i < 30 ∧ (5 ≤ (5 : Int) → (mo_R g33) i < 14)) ∧ (o662_x28.toInt = 0 ∨ (((5 : Int) = 1 → 30 ≤ (mo_R g33) (o662_x28.toInt + -1)) ∧ ((5 : Int) = 5 → 14 ≤ (mo_R g33) (o662_x28.toInt + -1)))) ∧ (o628_x15.toInt = 0 → mo_FR aa (mo_R g27) (mo_R g30) (mo_R g666) (mo_R g669)) ∧ o662_x9.toInt = o628_x9.toInt ∧ o662_x10.toInt = o628_x10.toInt ∧ o662_x11.toInt = o628_x11.toInt ∧ o662_x12.toInt = o628_x12.toInt ∧ o662_x13.toInt = o628_x13.toInt ∧ o662_x15.toInt = o628_x15.toInt ∧ o662_x19.toInt = o628_x19.toInt ∧ o662_x20.toInt = o628_x20.toInt := by have q9 := hw659p; first | (simp only [tf663, tf638, tf637, tf664, tf634, tf667, tf670, tf651, tf653, tf655, tf657, tf671, tf631, tf672, tf629, tf673, tf630, tf674, tf632, tf675, tf633, tf676, tf677, tf635, tf678, tf636, mo_i1, mo_l1] at q9; exact q9) | (rw [tf663, tf638, tf637, tf664, tf634, tf667, tf670, tf651, tf653, tf655, tf657, tf671, tf631, tf672, tf629, tf673, tf630, tf674, tf632, tf675, tf633, tf676, tf677, tf635, tf678, tf636] at q9; exact q9)
                        have hin8 : mo_in (mo_R g33) (o38_x28.toInt).toNat = mo_in (mo_R g33) (o662_x28.toInt).toNat := mo_in_drop' (by omega) (by omega) (fun i i0 i1 => (tk679.2.2.2.2.1 i i0 i1).1)
                        have hin9 : True → mo_in (mo_R g33) (o662_x28.toInt).toNat ≠ 31 := fun _ => by omega
                        refine lv_aload_n hx hb dX12_behindSum_225 rfl (lv_at hl 2 rfl) ?_
                        refine lv_iload_n hx hb dX12_behindSum_226 rfl (lv_at hl 0 rfl) ?_
                        refine lv_iconst (v := 0) hx hb dX12_behindSum_227 (by decide) ?_
                        have hf_680 : f660 (ρ h0 26) = .inl (κ 0, 400, .inl g33) := (hF661 _ (by rw [y10]; decide)).trans hf_650
                        have tf681 : mo_i (f660 (ρ h0 26)) = g33 := tfa_i hf_680
                        have hf_682 : f660 (ρ h0 27) = .inl (κ 0, 400, .inl g36) := (hF661 _ (by rw [y11]; decide)).trans hf_652
                        have tf683 : mo_i (f660 (ρ h0 27)) = g36 := tfa_i hf_682
                        obtain ⟨q684, eq684⟩ := tp_pos (tp_in hG ht_h0 (by decide)) hf_o662
                        have hFc := tp_fr hD hS hA
                        refine va_callv (va_runV (As := [.int 15, .int 0]) (rest := []) ⟨hx, hb, hml, hown, hts⟩ (t_X12_push l dC dI _ κ τ ν ρ L f660 hG hT h0 (15) (0) ht_h0 (by first | (simp only [tf663, mo_i1, mo_l1]; exact (show o662_x28.toInt < 400 from by have : (15 : Int32).toInt = 15 := rfl; have : (0 : Int32).toInt = 0 := rfl; first | omega | decide)) | (rw [tf663]; exact (show o662_x28.toInt < 400 from by have : (15 : Int32).toInt = 15 := rfl; have : (0 : Int32).toInt = 0 := rfl; first | omega | decide)))) (cwV 2 hts gX12_behindSum_X12_push rfl rfl rfl ⟨rfl, pd_X12_push⟩ ⟨Nat.le_of_ble_eq_true rfl, Nat.le_of_ble_eq_true rfl⟩) ⟨pz_blind, va_recv hK hP (ci := 12) (q0 := q684) rfl eq684, pz_pre hP hK hD hN⟩ rfl rfl hl.1 rfl (lv_room (Nat.le_of_ble_eq_true rfl)) dX12_behindSum_228 ⟨Nat.le_of_ble_eq_true rfl, Nat.le_of_ble_eq_true rfl⟩) hS (fun q _ h => hFc q h) hFc (fun f687 t H1 locs ht hvm hw686 hB hz1 hk1 hS => ?_)
                        obtain ⟨hT, hF688, hw686p⟩ := hw686
                        have hR := hR.then hF688 (by decide)
                        have hP := hB.1; rw [ht] at hP; have hD := tp_ad f687 hD; clear hB hFc hz1 hk1; subst ht; generalize t.heap = H at hP hS ⊢
                        obtain ⟨g690, hf_o689⟩ := tpo_56 hT y10
                        have tf691 : mo_i (f687 (ρ h0 26)) = g690 := tfa_i hf_o689
                        obtain ⟨g693, hf_o692⟩ := tpo_57 hT y11
                        have tf694 : mo_i (f687 (ρ h0 27)) = g693 := tfa_i hf_o692
                        obtain ⟨o695_x0, o695_x1, o695_x7, o695_x9, o695_x10, o695_x11, o695_x12, o695_x13, o695_x14, o695_x15, o695_x16, o695_x17, o695_x18, o695_x19, o695_x20, o695_x22, o695_x25, o695_x28, o695_x29, o695_x32, o695_x33, o695_x34, o695_x35, o695_x36, o695_x37, o695_x38, o695_x47, o695_x48, hf_o695, ro695_0, ro695_1, ro695_2, ro695_3, ro695_4, ro695_5, ro695_6, ro695_7, ro695_8, ro695_9, ro695_10, ro695_11, ro695_12, ro695_13⟩ := tpo_13 hT ht_h0
                        have tf696 : tp_fld (f687 h0) 28 = o695_x28.toInt := tff_28 hf_o695
                        have tf697 : tp_fld (f687 h0) 9 = o695_x9.toInt := tff_9 hf_o695
                        have tf698 : tp_fld (f687 h0) 10 = o695_x10.toInt := tff_10 hf_o695
                        have tf699 : tp_fld (f687 h0) 11 = o695_x11.toInt := tff_11 hf_o695
                        have tf700 : tp_fld (f687 h0) 12 = o695_x12.toInt := tff_12 hf_o695
                        have tf701 : mo_fj (f687 h0) 13 = o695_x13.toInt := tff_13 hf_o695
                        have tf702 : tp_fld (f687 h0) 15 = o695_x15.toInt := tff_15 hf_o695
                        have tf703 : tp_fld (f687 h0) 19 = o695_x19.toInt := tff_19 hf_o695
                        have tf704 : tp_fld (f687 h0) 20 = o695_x20.toInt := tff_20 hf_o695
                        have tf705 : tp_fld (f687 h0) 22 = o695_x22.toInt := tff_22 hf_o695
                        have tk706 : mo_U (mo_R g33) (mo_R g690) o662_x28.toInt (15 : Int) ∧ mo_U (mo_R g36) (mo_R g693) o662_x28.toInt (0 : Int) ∧ o695_x28.toInt = o662_x28.toInt + 1 ∧ o695_x9.toInt = o662_x9.toInt ∧ o695_x10.toInt = o662_x10.toInt ∧ o695_x11.toInt = o662_x11.toInt ∧ o695_x12.toInt = o662_x12.toInt ∧ o695_x13.toInt = o662_x13.toInt ∧ o695_x15.toInt = o662_x15.toInt ∧ o695_x19.toInt = o662_x19.toInt ∧ o695_x20.toInt = o662_x20.toInt ∧ o695_x22.toInt = o662_x22.toInt := by have q9 := hw686p; first | (simp only [tf681, tf691, tf663, tf683, tf694, tf696, tf697, tf671, tf698, tf672, tf699, tf673, tf700, tf674, tf701, tf675, tf702, tf676, tf703, tf677, tf704, tf678, tf705, tf664, mo_i1, mo_l1] at q9; exact q9) | (rw [tf681, tf691, tf663, tf683, tf694, tf696, tf697, tf671, tf698, tf672, tf699, tf673, tf700, tf674, tf701, tf675, tf702, tf676, tf703, tf677, tf704, tf678, tf705, tf664] at q9; exact q9)
                        refine lv_iconst (v := 1) hx hb dX12_behindSum_231 (by decide) ?_
                        have hf_707 : f687 (ρ h0 23) = .inl (κ 0, 400, .inl g666) := (hF688 _ (by rw [y8]; decide)).trans hf_o665
                        have tf708 : mo_i (f687 (ρ h0 23)) = g666 := tfa_i hf_707
                        have hf_709 : f687 (ρ h0 24) = .inl (κ 0, 400, .inl g669) := (hF688 _ (by rw [y9]; decide)).trans hf_o668
                        have tf710 : mo_i (f687 (ρ h0 24)) = g669 := tfa_i hf_709
                        exact W.iret (v := 1) hx hb hr (fun t ht hW => ⟨⟨1, f687, rfl, ⟨hT, hR, (by first | decide | omega), (by first | (simp only [tf698, tf699, tf697, tf700, tf701, tf705, tf696, tf691, tf694, tf702, tf708, tf710, tf28, tf31, tf40, tf46, tf39, tf703, tf44, tf704, tf45, mo_i1, mo_l1]; exact (show (o695_x10.toInt ≤ o695_x11.toInt ∧ o695_x11.toInt ≤ o695_x9.toInt ∧ (o695_x12.toInt = 0 ∨ o695_x10.toInt < o695_x11.toInt) ∧ (o695_x12.toInt = 1 → o695_x11.toInt = o695_x10.toInt + 1 → o695_x13.toInt ≤ 26)) ∧ o695_x22.toInt + o695_x28.toInt ≤ o695_x10.toInt ∧ mo_PV (mo_R g690) (mo_R g693) o695_x28.toInt ∧ (o695_x15.toInt = 0 → mo_EX aa (1 : Int32).toInt (mo_R g666) (mo_R g669) (mo_R g690) (mo_R g693) o695_x22.toInt o695_x28.toInt ∧ mo_FR aa (mo_R g27) (mo_R g30) (mo_R g666) (mo_R g669) ∧ ((1 : Int32).toInt = 4 ∨ o38_x10.toInt < o695_x10.toInt ∨ (o695_x10.toInt = o38_x10.toInt ∧ (1 : Int32).toInt = 2))) ∧ o38_x22.toInt ≤ o695_x22.toInt ∧ o695_x9.toInt = o38_x9.toInt ∧ o695_x19.toInt = o38_x19.toInt ∧ o695_x20.toInt = o38_x20.toInt from ⟨by omega, by omega, ((h3.lt (n' := _) tk679.1).push (by omega) tk706.1 tk706.2.1 (by omega) (by omega) (by omega)), fun q9 => ⟨(mo_EX.bin h4.1 (tk679.2.2.2.1 (by omega)) (h4.2.2.1.lt tk679.1) (by omega) tk706.1 tk706.2.1 (by omega) (by omega) (fun q7 => hin9 (by omega))), (tk679.2.2.2.2.2.2.1 (by omega)), by have q8 : (1 : Int32).toInt = 1 := rfl; omega⟩, by omega, by omega, by omega, by omega⟩)) | (rw [tf698, tf699, tf697, tf700, tf701, tf705, tf696, tf691, tf694, tf702, tf708, tf710, tf28, tf31, tf40, tf46, tf39, tf703, tf44, tf704, tf45]; exact (show (o695_x10.toInt ≤ o695_x11.toInt ∧ o695_x11.toInt ≤ o695_x9.toInt ∧ (o695_x12.toInt = 0 ∨ o695_x10.toInt < o695_x11.toInt) ∧ (o695_x12.toInt = 1 → o695_x11.toInt = o695_x10.toInt + 1 → o695_x13.toInt ≤ 26)) ∧ o695_x22.toInt + o695_x28.toInt ≤ o695_x10.toInt ∧ mo_PV (mo_R g690) (mo_R g693) o695_x28.toInt ∧ (o695_x15.toInt = 0 → mo_EX aa (1 : Int32).toInt (mo_R g666) (mo_R g669) (mo_R g690) (mo_R g693) o695_x22.toInt o695_x28.toInt ∧ mo_FR aa (mo_R g27) (mo_R g30) (mo_R g666) (mo_R g669) ∧ ((1 : Int32).toInt = 4 ∨ o38_x10.toInt < o695_x10.toInt ∨ (o695_x10.toInt = o38_x10.toInt ∧ (1 : Int32).toInt = 2))) ∧ o38_x22.toInt ≤ o695_x22.toInt ∧ o695_x9.toInt = o38_x9.toInt ∧ o695_x19.toInt = o38_x19.toInt ∧ o695_x20.toInt = o38_x20.toInt from ⟨by omega, by omega, ((h3.lt (n' := _) tk679.1).push (by omega) tk706.1 tk706.2.1 (by omega) (by omega) (by omega)), fun q9 => ⟨(mo_EX.bin h4.1 (tk679.2.2.2.1 (by omega)) (h4.2.2.1.lt tk679.1) (by omega) tk706.1 tk706.2.1 (by omega) (by omega) (fun q7 => hin9 (by omega))), (tk679.2.2.2.2.2.2.1 (by omega)), by have q8 : (1 : Int32).toInt = 1 := rfl; omega⟩, by omega, by omega, by omega, by omega⟩)))⟩, by rw [ht]; exact hP, va_K.moved hW.alike hK, hD⟩, hS.F ht⟩) hS.2.2 dX12_behindSum_232
                  · have ic441 : r438.toInt ≠ 0 := zi_eqf rfl rfl c441
                    refine lv_bipush (v := 14) hx hb dX12_behindSum_167 (by decide) ?_
                    refine lv_goto (tgt := 188) hx hb dX12_behindSum_169 (by decide) ?_
                    refine lv_istore_n (lv' := [(2, .int 14), (3, .int r66), (0, .ref h0), (1, .int v)]) hx hb dX12_behindSum_188 rfl hl (by decide) rfl (fun ls hl => ?_)
                    refine lv_aload_n hx hb dX12_behindSum_189 rfl (lv_at hl 2 rfl) ?_
                    refine lv_iload_n hx hb dX12_behindSum_190 rfl (lv_at hl 0 rfl) ?_
                    refine lv_bipush (v := 16) hx hb dX12_behindSum_191 (by decide) ?_
                    refine lv_icmp_ne (tgt := 205) hx hb dX12_behindSum_193 (by decide) (fun _ => ?_) (fun c9 => absurd c9 (by decide))
                    refine lv_iconst (v := 1) hx hb dX12_behindSum_205 (by decide) ?_
                    refine lv_goto (tgt := 210) hx hb dX12_behindSum_206 (by decide) ?_
                    have hFc := tp_fr hD hS hA
                    refine va_callv (va_runV (As := [.int 1]) (rest := []) ⟨hx, hb, hml, hown, hts⟩ (t_X12_must l dC dI _ κ τ ν ρ L f hG hT h0 (1) ht_h0 (by first | decide | omega) (by first | (simp only [tf40, tf41, tf39, tf42, tf48, mo_i1, mo_l1]; exact (show (o38_x10.toInt ≤ o38_x11.toInt ∧ o38_x11.toInt ≤ o38_x9.toInt ∧ (o38_x12.toInt = 0 ∨ o38_x10.toInt < o38_x11.toInt) ∧ (o38_x12.toInt = 1 → o38_x11.toInt = o38_x10.toInt + 1 → o38_x13.toInt ≤ 26)) from by have : (1 : Int32).toInt = 1 := rfl; first | omega | decide)) | (rw [tf40, tf41, tf39, tf42, tf48]; exact (show (o38_x10.toInt ≤ o38_x11.toInt ∧ o38_x11.toInt ≤ o38_x9.toInt ∧ (o38_x12.toInt = 0 ∨ o38_x10.toInt < o38_x11.toInt) ∧ (o38_x12.toInt = 1 → o38_x11.toInt = o38_x10.toInt + 1 → o38_x13.toInt ≤ 26)) from by have : (1 : Int32).toInt = 1 := rfl; first | omega | decide)))) (cwV 1 hts gX12_behindSum_X12_must rfl rfl rfl ⟨rfl, pd_X12_must⟩ ⟨Nat.le_of_ble_eq_true rfl, Nat.le_of_ble_eq_true rfl⟩) ⟨pz_blind, va_recv hK hP (ci := 12) (q0 := q49) rfl eq49, pz_pre hP hK hD hN⟩ rfl rfl hl.1 rfl (lv_room (Nat.le_of_ble_eq_true rfl)) dX12_behindSum_210 ⟨Nat.le_of_ble_eq_true rfl, Nat.le_of_ble_eq_true rfl⟩) hS (fun q _ h => hFc q h) hFc (fun f713 t H1 locs ht hvm hw712 hB hz1 hk1 hS => ?_)
                    obtain ⟨hT, hF714, hw712p⟩ := hw712
                    have hR := hR.then hF714 (by decide)
                    have hP := hB.1; rw [ht] at hP; have hD := tp_ad f713 hD; clear hB hFc hz1 hk1; subst ht; generalize t.heap = H at hP hS ⊢
                    obtain ⟨o715_x0, o715_x1, o715_x7, o715_x9, o715_x10, o715_x11, o715_x12, o715_x13, o715_x14, o715_x15, o715_x16, o715_x17, o715_x18, o715_x19, o715_x20, o715_x22, o715_x25, o715_x28, o715_x29, o715_x32, o715_x33, o715_x34, o715_x35, o715_x36, o715_x37, o715_x38, o715_x47, o715_x48, hf_o715, ro715_0, ro715_1, ro715_2, ro715_3, ro715_4, ro715_5, ro715_6, ro715_7, ro715_8, ro715_9, ro715_10, ro715_11, ro715_12, ro715_13⟩ := tpo_13 hT ht_h0
                    have tf716 : tp_fld (f713 h0) 10 = o715_x10.toInt := tff_10 hf_o715
                    have tf717 : tp_fld (f713 h0) 11 = o715_x11.toInt := tff_11 hf_o715
                    have tf718 : tp_fld (f713 h0) 9 = o715_x9.toInt := tff_9 hf_o715
                    have tf719 : tp_fld (f713 h0) 12 = o715_x12.toInt := tff_12 hf_o715
                    have tf720 : mo_fj (f713 h0) 13 = o715_x13.toInt := tff_13 hf_o715
                    have tf721 : tp_fld (f713 h0) 15 = o715_x15.toInt := tff_15 hf_o715
                    have tf722 : tp_fld (f713 h0) 19 = o715_x19.toInt := tff_19 hf_o715
                    have tf723 : tp_fld (f713 h0) 20 = o715_x20.toInt := tff_20 hf_o715
                    have tf724 : tp_fld (f713 h0) 22 = o715_x22.toInt := tff_22 hf_o715
                    have tf725 : tp_fld (f713 h0) 28 = o715_x28.toInt := tff_28 hf_o715
                    have tk726 : (o715_x10.toInt ≤ o715_x11.toInt ∧ o715_x11.toInt ≤ o715_x9.toInt ∧ (o715_x12.toInt = 0 ∨ o715_x10.toInt < o715_x11.toInt) ∧ (o715_x12.toInt = 1 → o715_x11.toInt = o715_x10.toInt + 1 → o715_x13.toInt ≤ 26)) ∧ (o715_x15.toInt = 0 → o38_x15.toInt = 0 ∧ o38_x11.toInt ≤ o715_x10.toInt ∧ (1 : Int) ≠ 0) ∧ (o715_x15.toInt ≠ 0 → o715_x10.toInt = o38_x10.toInt) ∧ o715_x9.toInt = o38_x9.toInt ∧ o715_x19.toInt = o38_x19.toInt ∧ o715_x20.toInt = o38_x20.toInt ∧ o715_x22.toInt = o38_x22.toInt ∧ o715_x28.toInt = o38_x28.toInt := by have q9 := hw712p; first | (simp only [tf716, tf717, tf718, tf719, tf720, tf721, tf43, tf41, tf40, tf39, tf722, tf44, tf723, tf45, tf724, tf46, tf725, tf47, mo_i1, mo_l1] at q9; exact q9) | (rw [tf716, tf717, tf718, tf719, tf720, tf721, tf43, tf41, tf40, tf39, tf722, tf44, tf723, tf45, tf724, tf46, tf725, tf47] at q9; exact q9)
                    refine lv_aload_n hx hb dX12_behindSum_213 rfl (lv_at hl 2 rfl) ?_
                    obtain ⟨q727, eq727⟩ := tp_pos (tp_in hG ht_h0 (by decide)) hf_o715
                    refine va_get (D := (dC, dI)) (ci := 12) (v := .int o715_x15) (C := RX12) (T := TX12) (N := 53) hx hb hts hfX12 hown hK hP q727 eq727 rfl 15 (by decide) (hts (.fieldLink RX12 261 "ColdShipsModel" "bad" "Z") wa_994) (fun _ h9 => h9) rfl dX12_behindSum_214 ?_
                    refine lv_if_ne (tgt := 231) hx hb dX12_behindSum_217 (by decide) (fun c728 => ?_) (fun c728 => ?_)
                    · have ic728 : o715_x15.toInt ≠ 0 := zi_ne rfl rfl c728
                      refine lv_iconst (v := 1) hx hb dX12_behindSum_231 (by decide) ?_
                      have hf_729 : f713 (ρ h0 26) = .inl (κ 0, 400, .inl g33) := (hF714 _ (by rw [y10]; decide)).trans hf_o32
                      have tf730 : mo_i (f713 (ρ h0 26)) = g33 := tfa_i hf_729
                      have hf_731 : f713 (ρ h0 27) = .inl (κ 0, 400, .inl g36) := (hF714 _ (by rw [y11]; decide)).trans hf_o35
                      have tf732 : mo_i (f713 (ρ h0 27)) = g36 := tfa_i hf_731
                      have hf_733 : f713 (ρ h0 23) = .inl (κ 0, 400, .inl g27) := (hF714 _ (by rw [y8]; decide)).trans hf_o26
                      have tf734 : mo_i (f713 (ρ h0 23)) = g27 := tfa_i hf_733
                      have hf_735 : f713 (ρ h0 24) = .inl (κ 0, 400, .inl g30) := (hF714 _ (by rw [y9]; decide)).trans hf_o29
                      have tf736 : mo_i (f713 (ρ h0 24)) = g30 := tfa_i hf_735
                      exact W.iret (v := 1) hx hb hr (fun t ht hW => ⟨⟨1, f713, rfl, ⟨hT, hR, (by first | decide | omega), (by first | (simp only [tf716, tf717, tf718, tf719, tf720, tf724, tf725, tf730, tf732, tf721, tf734, tf736, tf28, tf31, tf40, tf46, tf39, tf722, tf44, tf723, tf45, mo_i1, mo_l1]; exact (show (o715_x10.toInt ≤ o715_x11.toInt ∧ o715_x11.toInt ≤ o715_x9.toInt ∧ (o715_x12.toInt = 0 ∨ o715_x10.toInt < o715_x11.toInt) ∧ (o715_x12.toInt = 1 → o715_x11.toInt = o715_x10.toInt + 1 → o715_x13.toInt ≤ 26)) ∧ o715_x22.toInt + o715_x28.toInt ≤ o715_x10.toInt ∧ mo_PV (mo_R g33) (mo_R g36) o715_x28.toInt ∧ (o715_x15.toInt = 0 → mo_EX aa (1 : Int32).toInt (mo_R g27) (mo_R g30) (mo_R g33) (mo_R g36) o715_x22.toInt o715_x28.toInt ∧ mo_FR aa (mo_R g27) (mo_R g30) (mo_R g27) (mo_R g30) ∧ ((1 : Int32).toInt = 4 ∨ o38_x10.toInt < o715_x10.toInt ∨ (o715_x10.toInt = o38_x10.toInt ∧ (1 : Int32).toInt = 2))) ∧ o38_x22.toInt ≤ o715_x22.toInt ∧ o715_x9.toInt = o38_x9.toInt ∧ o715_x19.toInt = o38_x19.toInt ∧ o715_x20.toInt = o38_x20.toInt from ⟨by omega, by omega, h3, fun q9 => by exfalso; omega, by omega, by omega, by omega, by omega⟩)) | (rw [tf716, tf717, tf718, tf719, tf720, tf724, tf725, tf730, tf732, tf721, tf734, tf736, tf28, tf31, tf40, tf46, tf39, tf722, tf44, tf723, tf45]; exact (show (o715_x10.toInt ≤ o715_x11.toInt ∧ o715_x11.toInt ≤ o715_x9.toInt ∧ (o715_x12.toInt = 0 ∨ o715_x10.toInt < o715_x11.toInt) ∧ (o715_x12.toInt = 1 → o715_x11.toInt = o715_x10.toInt + 1 → o715_x13.toInt ≤ 26)) ∧ o715_x22.toInt + o715_x28.toInt ≤ o715_x10.toInt ∧ mo_PV (mo_R g33) (mo_R g36) o715_x28.toInt ∧ (o715_x15.toInt = 0 → mo_EX aa (1 : Int32).toInt (mo_R g27) (mo_R g30) (mo_R g33) (mo_R g36) o715_x22.toInt o715_x28.toInt ∧ mo_FR aa (mo_R g27) (mo_R g30) (mo_R g27) (mo_R g30) ∧ ((1 : Int32).toInt = 4 ∨ o38_x10.toInt < o715_x10.toInt ∨ (o715_x10.toInt = o38_x10.toInt ∧ (1 : Int32).toInt = 2))) ∧ o38_x22.toInt ≤ o715_x22.toInt ∧ o715_x9.toInt = o38_x9.toInt ∧ o715_x19.toInt = o38_x19.toInt ∧ o715_x20.toInt = o38_x20.toInt from ⟨by omega, by omega, h3, fun q9 => by exfalso; omega, by omega, by omega, by omega, by omega⟩)))⟩, by rw [ht]; exact hP, va_K.moved hW.alike hK, hD⟩, hS.F ht⟩) hS.2.2 dX12_behindSum_232
                    · have ic728 : o715_x15.toInt = 0 := zi_nef rfl rfl c728
                      refine lv_aload_n hx hb dX12_behindSum_220 rfl (lv_at hl 2 rfl) ?_
                      refine lv_iconst (v := 5) hx hb dX12_behindSum_221 (by decide) ?_
                      have hf_737 : f713 (ρ h0 26) = .inl (κ 0, 400, .inl g33) := (hF714 _ (by rw [y10]; decide)).trans hf_o32
                      have tf738 : mo_i (f713 (ρ h0 26)) = g33 := tfa_i hf_737
                      have hf_739 : f713 (ρ h0 27) = .inl (κ 0, 400, .inl g36) := (hF714 _ (by rw [y11]; decide)).trans hf_o35
                      have tf740 : mo_i (f713 (ρ h0 27)) = g36 := tfa_i hf_739
                      have hf_741 : f713 (ρ h0 23) = .inl (κ 0, 400, .inl g27) := (hF714 _ (by rw [y8]; decide)).trans hf_o26
                      have tf742 : mo_i (f713 (ρ h0 23)) = g27 := tfa_i hf_741
                      have hf_743 : f713 (ρ h0 24) = .inl (κ 0, 400, .inl g30) := (hF714 _ (by rw [y9]; decide)).trans hf_o29
                      have tf744 : mo_i (f713 (ρ h0 24)) = g30 := tfa_i hf_743
                      have hFc := tp_fr hD hS hA
                      refine va_callv (va_runV (As := [.int 5]) (rest := []) ⟨hx, hb, hml, hown, hts⟩ (t_X12_settleDown l dC dI _ κ τ ν ρ L f713 hG hT h0 (5) aa ht_h0 (by first | decide | omega) (by first | (simp only [tf724, tf725, mo_i1, mo_l1]; exact (show o715_x22.toInt + o715_x28.toInt ≤ 400 from by omega)) | (rw [tf724, tf725]; exact (show o715_x22.toInt + o715_x28.toInt ≤ 400 from by omega))) (by first | (simp only [tf738, tf740, tf725, mo_i1, mo_l1]; exact (show mo_PV (mo_R g33) (mo_R g36) o715_x28.toInt from h3)) | (rw [tf738, tf740, tf725]; exact (show mo_PV (mo_R g33) (mo_R g36) o715_x28.toInt from h3))) (by first | (simp only [tf721, tf742, tf744, tf738, tf740, tf724, tf725, mo_i1, mo_l1]; exact (show (o715_x15.toInt = 0 → 0 ≤ aa ∧ mo_PJ aa (mo_R g27) (mo_R g30) (mo_R g33) (mo_R g36) o715_x22.toInt o715_x28.toInt 1) from fun _ => ⟨h4.1, h4.pj1 (by decide)⟩)) | (rw [tf721, tf742, tf744, tf738, tf740, tf724, tf725]; exact (show (o715_x15.toInt = 0 → 0 ≤ aa ∧ mo_PJ aa (mo_R g27) (mo_R g30) (mo_R g33) (mo_R g36) o715_x22.toInt o715_x28.toInt 1) from fun _ => ⟨h4.1, h4.pj1 (by decide)⟩)))) (cwV 1 hts gX12_behindSum_X12_settleDown rfl rfl rfl ⟨rfl, pd_X12_settleDown⟩ ⟨Nat.le_of_ble_eq_true rfl, Nat.le_of_ble_eq_true rfl⟩) ⟨pz_blind, va_recv hK hP (ci := 12) (q0 := q727) rfl eq727, pz_pre hP hK hD hN⟩ rfl rfl hl.1 rfl (lv_room (Nat.le_of_ble_eq_true rfl)) dX12_behindSum_222 ⟨Nat.le_of_ble_eq_true rfl, Nat.le_of_ble_eq_true rfl⟩) hS (fun q _ h => hFc q h) hFc (fun f747 t H1 locs ht hvm hw746 hB hz1 hk1 hS => ?_)
                      obtain ⟨hT, hF748, hw746p⟩ := hw746
                      have hR := hR.then hF748 (by decide)
                      have hP := hB.1; rw [ht] at hP; have hD := tp_ad f747 hD; clear hB hFc hz1 hk1; subst ht; generalize t.heap = H at hP hS ⊢
                      obtain ⟨o749_x0, o749_x1, o749_x7, o749_x9, o749_x10, o749_x11, o749_x12, o749_x13, o749_x14, o749_x15, o749_x16, o749_x17, o749_x18, o749_x19, o749_x20, o749_x22, o749_x25, o749_x28, o749_x29, o749_x32, o749_x33, o749_x34, o749_x35, o749_x36, o749_x37, o749_x38, o749_x47, o749_x48, hf_o749, ro749_0, ro749_1, ro749_2, ro749_3, ro749_4, ro749_5, ro749_6, ro749_7, ro749_8, ro749_9, ro749_10, ro749_11, ro749_12, ro749_13⟩ := tpo_13 hT ht_h0
                      have tf750 : tp_fld (f747 h0) 28 = o749_x28.toInt := tff_28 hf_o749
                      have tf751 : tp_fld (f747 h0) 22 = o749_x22.toInt := tff_22 hf_o749
                      obtain ⟨g753, hf_o752⟩ := tpo_53 hT y8
                      have tf754 : mo_i (f747 (ρ h0 23)) = g753 := tfa_i hf_o752
                      obtain ⟨g756, hf_o755⟩ := tpo_54 hT y9
                      have tf757 : mo_i (f747 (ρ h0 24)) = g756 := tfa_i hf_o755
                      have tf758 : tp_fld (f747 h0) 9 = o749_x9.toInt := tff_9 hf_o749
                      have tf759 : tp_fld (f747 h0) 10 = o749_x10.toInt := tff_10 hf_o749
                      have tf760 : tp_fld (f747 h0) 11 = o749_x11.toInt := tff_11 hf_o749
                      have tf761 : tp_fld (f747 h0) 12 = o749_x12.toInt := tff_12 hf_o749
                      have tf762 : mo_fj (f747 h0) 13 = o749_x13.toInt := tff_13 hf_o749
                      have tf763 : tp_fld (f747 h0) 15 = o749_x15.toInt := tff_15 hf_o749
                      have tf764 : tp_fld (f747 h0) 19 = o749_x19.toInt := tff_19 hf_o749
                      have tf765 : tp_fld (f747 h0) 20 = o749_x20.toInt := tff_20 hf_o749
                      have tk766 : o749_x28.toInt ≤ o715_x28.toInt ∧ o715_x22.toInt ≤ o749_x22.toInt ∧ o749_x22.toInt + o749_x28.toInt ≤ o715_x22.toInt + o715_x28.toInt ∧ (o715_x15.toInt = 0 → mo_PJ aa (mo_R g753) (mo_R g756) (mo_R g33) (mo_R g36) o749_x22.toInt o749_x28.toInt 1) ∧ (∀ i, o749_x28.toInt ≤ i → i < o715_x28.toInt → (mo_R g33) i < 30 ∧ (5 ≤ (5 : Int) → (mo_R g33) i < 14)) ∧ (o749_x28.toInt = 0 ∨ (((5 : Int) = 1 → 30 ≤ (mo_R g33) (o749_x28.toInt + -1)) ∧ ((5 : Int) = 5 → 14 ≤ (mo_R g33) (o749_x28.toInt + -1)))) ∧ (o715_x15.toInt = 0 → mo_FR aa (mo_R g27) (mo_R g30) (mo_R g753) (mo_R g756)) ∧ o749_x9.toInt = o715_x9.toInt ∧ o749_x10.toInt = o715_x10.toInt ∧ o749_x11.toInt = o715_x11.toInt ∧ o749_x12.toInt = o715_x12.toInt ∧ o749_x13.toInt = o715_x13.toInt ∧ o749_x15.toInt = o715_x15.toInt ∧ o749_x19.toInt = o715_x19.toInt ∧ o749_x20.toInt = o715_x20.toInt := by have q9 := hw746p; first | (simp only [tf750, tf725, tf724, tf751, tf721, tf754, tf757, tf738, tf740, tf742, tf744, tf758, tf718, tf759, tf716, tf760, tf717, tf761, tf719, tf762, tf720, tf763, tf764, tf722, tf765, tf723, mo_i1, mo_l1] at q9; exact q9) | (rw [tf750, tf725, tf724, tf751, tf721, tf754, tf757, tf738, tf740, tf742, tf744, tf758, tf718, tf759, tf716, tf760, tf717, tf761, tf719, tf762, tf720, tf763, tf764, tf722, tf765, tf723] at q9; exact q9)
                      have hin8 : mo_in (mo_R g33) (o38_x28.toInt).toNat = mo_in (mo_R g33) (o749_x28.toInt).toNat := mo_in_drop' (by omega) (by omega) (fun i i0 i1 => (tk766.2.2.2.2.1 i i0 i1).1)
                      have hin9 : True → mo_in (mo_R g33) (o749_x28.toInt).toNat ≠ 31 := fun _ => by omega
                      refine lv_aload_n hx hb dX12_behindSum_225 rfl (lv_at hl 2 rfl) ?_
                      refine lv_iload_n hx hb dX12_behindSum_226 rfl (lv_at hl 0 rfl) ?_
                      refine lv_iconst (v := 0) hx hb dX12_behindSum_227 (by decide) ?_
                      have hf_767 : f747 (ρ h0 26) = .inl (κ 0, 400, .inl g33) := (hF748 _ (by rw [y10]; decide)).trans hf_737
                      have tf768 : mo_i (f747 (ρ h0 26)) = g33 := tfa_i hf_767
                      have hf_769 : f747 (ρ h0 27) = .inl (κ 0, 400, .inl g36) := (hF748 _ (by rw [y11]; decide)).trans hf_739
                      have tf770 : mo_i (f747 (ρ h0 27)) = g36 := tfa_i hf_769
                      obtain ⟨q771, eq771⟩ := tp_pos (tp_in hG ht_h0 (by decide)) hf_o749
                      have hFc := tp_fr hD hS hA
                      refine va_callv (va_runV (As := [.int 14, .int 0]) (rest := []) ⟨hx, hb, hml, hown, hts⟩ (t_X12_push l dC dI _ κ τ ν ρ L f747 hG hT h0 (14) (0) ht_h0 (by first | (simp only [tf750, mo_i1, mo_l1]; exact (show o749_x28.toInt < 400 from by have : (14 : Int32).toInt = 14 := rfl; have : (0 : Int32).toInt = 0 := rfl; first | omega | decide)) | (rw [tf750]; exact (show o749_x28.toInt < 400 from by have : (14 : Int32).toInt = 14 := rfl; have : (0 : Int32).toInt = 0 := rfl; first | omega | decide)))) (cwV 2 hts gX12_behindSum_X12_push rfl rfl rfl ⟨rfl, pd_X12_push⟩ ⟨Nat.le_of_ble_eq_true rfl, Nat.le_of_ble_eq_true rfl⟩) ⟨pz_blind, va_recv hK hP (ci := 12) (q0 := q771) rfl eq771, pz_pre hP hK hD hN⟩ rfl rfl hl.1 rfl (lv_room (Nat.le_of_ble_eq_true rfl)) dX12_behindSum_228 ⟨Nat.le_of_ble_eq_true rfl, Nat.le_of_ble_eq_true rfl⟩) hS (fun q _ h => hFc q h) hFc (fun f774 t H1 locs ht hvm hw773 hB hz1 hk1 hS => ?_)
                      obtain ⟨hT, hF775, hw773p⟩ := hw773
                      have hR := hR.then hF775 (by decide)
                      have hP := hB.1; rw [ht] at hP; have hD := tp_ad f774 hD; clear hB hFc hz1 hk1; subst ht; generalize t.heap = H at hP hS ⊢
                      obtain ⟨g777, hf_o776⟩ := tpo_56 hT y10
                      have tf778 : mo_i (f774 (ρ h0 26)) = g777 := tfa_i hf_o776
                      obtain ⟨g780, hf_o779⟩ := tpo_57 hT y11
                      have tf781 : mo_i (f774 (ρ h0 27)) = g780 := tfa_i hf_o779
                      obtain ⟨o782_x0, o782_x1, o782_x7, o782_x9, o782_x10, o782_x11, o782_x12, o782_x13, o782_x14, o782_x15, o782_x16, o782_x17, o782_x18, o782_x19, o782_x20, o782_x22, o782_x25, o782_x28, o782_x29, o782_x32, o782_x33, o782_x34, o782_x35, o782_x36, o782_x37, o782_x38, o782_x47, o782_x48, hf_o782, ro782_0, ro782_1, ro782_2, ro782_3, ro782_4, ro782_5, ro782_6, ro782_7, ro782_8, ro782_9, ro782_10, ro782_11, ro782_12, ro782_13⟩ := tpo_13 hT ht_h0
                      have tf783 : tp_fld (f774 h0) 28 = o782_x28.toInt := tff_28 hf_o782
                      have tf784 : tp_fld (f774 h0) 9 = o782_x9.toInt := tff_9 hf_o782
                      have tf785 : tp_fld (f774 h0) 10 = o782_x10.toInt := tff_10 hf_o782
                      have tf786 : tp_fld (f774 h0) 11 = o782_x11.toInt := tff_11 hf_o782
                      have tf787 : tp_fld (f774 h0) 12 = o782_x12.toInt := tff_12 hf_o782
                      have tf788 : mo_fj (f774 h0) 13 = o782_x13.toInt := tff_13 hf_o782
                      have tf789 : tp_fld (f774 h0) 15 = o782_x15.toInt := tff_15 hf_o782
                      have tf790 : tp_fld (f774 h0) 19 = o782_x19.toInt := tff_19 hf_o782
                      have tf791 : tp_fld (f774 h0) 20 = o782_x20.toInt := tff_20 hf_o782
                      have tf792 : tp_fld (f774 h0) 22 = o782_x22.toInt := tff_22 hf_o782
                      have tk793 : mo_U (mo_R g33) (mo_R g777) o749_x28.toInt (14 : Int) ∧ mo_U (mo_R g36) (mo_R g780) o749_x28.toInt (0 : Int) ∧ o782_x28.toInt = o749_x28.toInt + 1 ∧ o782_x9.toInt = o749_x9.toInt ∧ o782_x10.toInt = o749_x10.toInt ∧ o782_x11.toInt = o749_x11.toInt ∧ o782_x12.toInt = o749_x12.toInt ∧ o782_x13.toInt = o749_x13.toInt ∧ o782_x15.toInt = o749_x15.toInt ∧ o782_x19.toInt = o749_x19.toInt ∧ o782_x20.toInt = o749_x20.toInt ∧ o782_x22.toInt = o749_x22.toInt := by have q9 := hw773p; first | (simp only [tf768, tf778, tf750, tf770, tf781, tf783, tf784, tf758, tf785, tf759, tf786, tf760, tf787, tf761, tf788, tf762, tf789, tf763, tf790, tf764, tf791, tf765, tf792, tf751, mo_i1, mo_l1] at q9; exact q9) | (rw [tf768, tf778, tf750, tf770, tf781, tf783, tf784, tf758, tf785, tf759, tf786, tf760, tf787, tf761, tf788, tf762, tf789, tf763, tf790, tf764, tf791, tf765, tf792, tf751] at q9; exact q9)
                      refine lv_iconst (v := 1) hx hb dX12_behindSum_231 (by decide) ?_
                      have hf_794 : f774 (ρ h0 23) = .inl (κ 0, 400, .inl g753) := (hF775 _ (by rw [y8]; decide)).trans hf_o752
                      have tf795 : mo_i (f774 (ρ h0 23)) = g753 := tfa_i hf_794
                      have hf_796 : f774 (ρ h0 24) = .inl (κ 0, 400, .inl g756) := (hF775 _ (by rw [y9]; decide)).trans hf_o755
                      have tf797 : mo_i (f774 (ρ h0 24)) = g756 := tfa_i hf_796
                      exact W.iret (v := 1) hx hb hr (fun t ht hW => ⟨⟨1, f774, rfl, ⟨hT, hR, (by first | decide | omega), (by first | (simp only [tf785, tf786, tf784, tf787, tf788, tf792, tf783, tf778, tf781, tf789, tf795, tf797, tf28, tf31, tf40, tf46, tf39, tf790, tf44, tf791, tf45, mo_i1, mo_l1]; exact (show (o782_x10.toInt ≤ o782_x11.toInt ∧ o782_x11.toInt ≤ o782_x9.toInt ∧ (o782_x12.toInt = 0 ∨ o782_x10.toInt < o782_x11.toInt) ∧ (o782_x12.toInt = 1 → o782_x11.toInt = o782_x10.toInt + 1 → o782_x13.toInt ≤ 26)) ∧ o782_x22.toInt + o782_x28.toInt ≤ o782_x10.toInt ∧ mo_PV (mo_R g777) (mo_R g780) o782_x28.toInt ∧ (o782_x15.toInt = 0 → mo_EX aa (1 : Int32).toInt (mo_R g753) (mo_R g756) (mo_R g777) (mo_R g780) o782_x22.toInt o782_x28.toInt ∧ mo_FR aa (mo_R g27) (mo_R g30) (mo_R g753) (mo_R g756) ∧ ((1 : Int32).toInt = 4 ∨ o38_x10.toInt < o782_x10.toInt ∨ (o782_x10.toInt = o38_x10.toInt ∧ (1 : Int32).toInt = 2))) ∧ o38_x22.toInt ≤ o782_x22.toInt ∧ o782_x9.toInt = o38_x9.toInt ∧ o782_x19.toInt = o38_x19.toInt ∧ o782_x20.toInt = o38_x20.toInt from ⟨by omega, by omega, ((h3.lt (n' := _) tk766.1).push (by omega) tk793.1 tk793.2.1 (by omega) (by omega) (by omega)), fun q9 => ⟨(mo_EX.bin h4.1 (tk766.2.2.2.1 (by omega)) (h4.2.2.1.lt tk766.1) (by omega) tk793.1 tk793.2.1 (by omega) (by omega) (fun q7 => hin9 (by omega))), (tk766.2.2.2.2.2.2.1 (by omega)), by have q8 : (1 : Int32).toInt = 1 := rfl; omega⟩, by omega, by omega, by omega, by omega⟩)) | (rw [tf785, tf786, tf784, tf787, tf788, tf792, tf783, tf778, tf781, tf789, tf795, tf797, tf28, tf31, tf40, tf46, tf39, tf790, tf44, tf791, tf45]; exact (show (o782_x10.toInt ≤ o782_x11.toInt ∧ o782_x11.toInt ≤ o782_x9.toInt ∧ (o782_x12.toInt = 0 ∨ o782_x10.toInt < o782_x11.toInt) ∧ (o782_x12.toInt = 1 → o782_x11.toInt = o782_x10.toInt + 1 → o782_x13.toInt ≤ 26)) ∧ o782_x22.toInt + o782_x28.toInt ≤ o782_x10.toInt ∧ mo_PV (mo_R g777) (mo_R g780) o782_x28.toInt ∧ (o782_x15.toInt = 0 → mo_EX aa (1 : Int32).toInt (mo_R g753) (mo_R g756) (mo_R g777) (mo_R g780) o782_x22.toInt o782_x28.toInt ∧ mo_FR aa (mo_R g27) (mo_R g30) (mo_R g753) (mo_R g756) ∧ ((1 : Int32).toInt = 4 ∨ o38_x10.toInt < o782_x10.toInt ∨ (o782_x10.toInt = o38_x10.toInt ∧ (1 : Int32).toInt = 2))) ∧ o38_x22.toInt ≤ o782_x22.toInt ∧ o782_x9.toInt = o38_x9.toInt ∧ o782_x19.toInt = o38_x19.toInt ∧ o782_x20.toInt = o38_x20.toInt from ⟨by omega, by omega, ((h3.lt (n' := _) tk766.1).push (by omega) tk793.1 tk793.2.1 (by omega) (by omega) (by omega)), fun q9 => ⟨(mo_EX.bin h4.1 (tk766.2.2.2.1 (by omega)) (h4.2.2.1.lt tk766.1) (by omega) tk793.1 tk793.2.1 (by omega) (by omega) (fun q7 => hin9 (by omega))), (tk766.2.2.2.2.2.2.1 (by omega)), by have q8 : (1 : Int32).toInt = 1 := rfl; omega⟩, by omega, by omega, by omega, by omega⟩)))⟩, by rw [ht]; exact hP, va_K.moved hW.alike hK, hD⟩, hS.F ht⟩) hS.2.2 dX12_behindSum_232
                · have ic437 : r435.toInt ≠ 0 := zi_eqf rfl rfl c437
                  refine lv_iconst (v := 2) hx hb dX12_behindSum_156 (by decide) ?_
                  exact W.iret (v := 2) hx hb hr (fun t ht hW => ⟨⟨2, f, rfl, ⟨hT, hR, (by first | decide | omega), (by first | (simp only [tf40, tf41, tf39, tf42, tf48, tf46, tf47, tf34, tf37, tf43, tf28, tf31, tf44, tf45, mo_i1, mo_l1]; exact (show (o38_x10.toInt ≤ o38_x11.toInt ∧ o38_x11.toInt ≤ o38_x9.toInt ∧ (o38_x12.toInt = 0 ∨ o38_x10.toInt < o38_x11.toInt) ∧ (o38_x12.toInt = 1 → o38_x11.toInt = o38_x10.toInt + 1 → o38_x13.toInt ≤ 26)) ∧ o38_x22.toInt + o38_x28.toInt ≤ o38_x10.toInt ∧ mo_PV (mo_R g33) (mo_R g36) o38_x28.toInt ∧ (o38_x15.toInt = 0 → mo_EX aa (2 : Int32).toInt (mo_R g27) (mo_R g30) (mo_R g33) (mo_R g36) o38_x22.toInt o38_x28.toInt ∧ mo_FR aa (mo_R g27) (mo_R g30) (mo_R g27) (mo_R g30) ∧ ((2 : Int32).toInt = 4 ∨ o38_x10.toInt < o38_x10.toInt ∨ (o38_x10.toInt = o38_x10.toInt ∧ (2 : Int32).toInt = 2))) ∧ o38_x22.toInt ≤ o38_x22.toInt ∧ o38_x9.toInt = o38_x9.toInt ∧ o38_x19.toInt = o38_x19.toInt ∧ o38_x20.toInt = o38_x20.toInt from ⟨by omega, by omega, h3, fun q9 => ⟨(mo_EX.of1 h4.1 (h4.pj1 (by decide)) h4.2.2.1 (by decide) (fun _ => by omega) (fun q7 => absurd q7 (by decide))), mo_FR.rf _ _ _, by have q8 : (2 : Int32).toInt = 2 := rfl; omega⟩, by omega, by omega, by omega, by omega⟩)) | (rw [tf40, tf41, tf39, tf42, tf48, tf46, tf47, tf34, tf37, tf43, tf28, tf31, tf44, tf45]; exact (show (o38_x10.toInt ≤ o38_x11.toInt ∧ o38_x11.toInt ≤ o38_x9.toInt ∧ (o38_x12.toInt = 0 ∨ o38_x10.toInt < o38_x11.toInt) ∧ (o38_x12.toInt = 1 → o38_x11.toInt = o38_x10.toInt + 1 → o38_x13.toInt ≤ 26)) ∧ o38_x22.toInt + o38_x28.toInt ≤ o38_x10.toInt ∧ mo_PV (mo_R g33) (mo_R g36) o38_x28.toInt ∧ (o38_x15.toInt = 0 → mo_EX aa (2 : Int32).toInt (mo_R g27) (mo_R g30) (mo_R g33) (mo_R g36) o38_x22.toInt o38_x28.toInt ∧ mo_FR aa (mo_R g27) (mo_R g30) (mo_R g27) (mo_R g30) ∧ ((2 : Int32).toInt = 4 ∨ o38_x10.toInt < o38_x10.toInt ∨ (o38_x10.toInt = o38_x10.toInt ∧ (2 : Int32).toInt = 2))) ∧ o38_x22.toInt ≤ o38_x22.toInt ∧ o38_x9.toInt = o38_x9.toInt ∧ o38_x19.toInt = o38_x19.toInt ∧ o38_x20.toInt = o38_x20.toInt from ⟨by omega, by omega, h3, fun q9 => ⟨(mo_EX.of1 h4.1 (h4.pj1 (by decide)) h4.2.2.1 (by decide) (fun _ => by omega) (fun q7 => absurd q7 (by decide))), mo_FR.rf _ _ _, by have q8 : (2 : Int32).toInt = 2 := rfl; omega⟩, by omega, by omega, by omega, by omega⟩)))⟩, by rw [ht]; exact hP, va_K.moved hW.alike hK, hD⟩, hS.F ht⟩) hS.2.2 dX12_behindSum_157
              · have ic434 : v.toInt = 0 := zi_nef rfl rfl c434
                refine lv_iconst (v := 4) hx hb dX12_behindSum_147 (by decide) ?_
                exact W.iret (v := 4) hx hb hr (fun t ht hW => ⟨⟨4, f, rfl, ⟨hT, hR, (by first | decide | omega), (by first | (simp only [tf40, tf41, tf39, tf42, tf48, tf46, tf47, tf34, tf37, tf43, tf28, tf31, tf44, tf45, mo_i1, mo_l1]; exact (show (o38_x10.toInt ≤ o38_x11.toInt ∧ o38_x11.toInt ≤ o38_x9.toInt ∧ (o38_x12.toInt = 0 ∨ o38_x10.toInt < o38_x11.toInt) ∧ (o38_x12.toInt = 1 → o38_x11.toInt = o38_x10.toInt + 1 → o38_x13.toInt ≤ 26)) ∧ o38_x22.toInt + o38_x28.toInt ≤ o38_x10.toInt ∧ mo_PV (mo_R g33) (mo_R g36) o38_x28.toInt ∧ (o38_x15.toInt = 0 → mo_EX aa (4 : Int32).toInt (mo_R g27) (mo_R g30) (mo_R g33) (mo_R g36) o38_x22.toInt o38_x28.toInt ∧ mo_FR aa (mo_R g27) (mo_R g30) (mo_R g27) (mo_R g30) ∧ ((4 : Int32).toInt = 4 ∨ o38_x10.toInt < o38_x10.toInt ∨ (o38_x10.toInt = o38_x10.toInt ∧ (4 : Int32).toInt = 2))) ∧ o38_x22.toInt ≤ o38_x22.toInt ∧ o38_x9.toInt = o38_x9.toInt ∧ o38_x19.toInt = o38_x19.toInt ∧ o38_x20.toInt = o38_x20.toInt from ⟨by omega, by omega, h3, fun q9 => ⟨(mo_EX.of1 h4.1 (h4.pj1 (by decide)) h4.2.2.1 (by decide) (fun q7 => absurd q7 (by decide)) (fun _ => by omega)), mo_FR.rf _ _ _, by have q8 : (4 : Int32).toInt = 4 := rfl; omega⟩, by omega, by omega, by omega, by omega⟩)) | (rw [tf40, tf41, tf39, tf42, tf48, tf46, tf47, tf34, tf37, tf43, tf28, tf31, tf44, tf45]; exact (show (o38_x10.toInt ≤ o38_x11.toInt ∧ o38_x11.toInt ≤ o38_x9.toInt ∧ (o38_x12.toInt = 0 ∨ o38_x10.toInt < o38_x11.toInt) ∧ (o38_x12.toInt = 1 → o38_x11.toInt = o38_x10.toInt + 1 → o38_x13.toInt ≤ 26)) ∧ o38_x22.toInt + o38_x28.toInt ≤ o38_x10.toInt ∧ mo_PV (mo_R g33) (mo_R g36) o38_x28.toInt ∧ (o38_x15.toInt = 0 → mo_EX aa (4 : Int32).toInt (mo_R g27) (mo_R g30) (mo_R g33) (mo_R g36) o38_x22.toInt o38_x28.toInt ∧ mo_FR aa (mo_R g27) (mo_R g30) (mo_R g27) (mo_R g30) ∧ ((4 : Int32).toInt = 4 ∨ o38_x10.toInt < o38_x10.toInt ∨ (o38_x10.toInt = o38_x10.toInt ∧ (4 : Int32).toInt = 2))) ∧ o38_x22.toInt ≤ o38_x22.toInt ∧ o38_x9.toInt = o38_x9.toInt ∧ o38_x19.toInt = o38_x19.toInt ∧ o38_x20.toInt = o38_x20.toInt from ⟨by omega, by omega, h3, fun q9 => ⟨(mo_EX.of1 h4.1 (h4.pj1 (by decide)) h4.2.2.1 (by decide) (fun q7 => absurd q7 (by decide)) (fun _ => by omega)), mo_FR.rf _ _ _, by have q8 : (4 : Int32).toInt = 4 := rfl; omega⟩, by omega, by omega, by omega, by omega⟩)))⟩, by rw [ht]; exact hP, va_K.moved hW.alike hK, hD⟩, hS.F ht⟩) hS.2.2 dX12_behindSum_148
          · have ic69 : r66.toInt = 31 := zi_nef rfl rfl c69
            refine lv_aload_n hx hb dX12_behindSum_94 rfl (lv_at hl 2 rfl) ?_
            refine lv_aload_n hx hb dX12_behindSum_95 rfl (lv_at hl 2 rfl) ?_
            refine lv_bipush (v := 93) hx hb dX12_behindSum_96 (by decide) ?_
            refine pz_calli (va_runV (As := [.int 93]) (rest := [.ref h0]) ⟨hx, hb, hml, hown, hts⟩ (t_X12_isSign l dC dI _ κ τ ν ρ L f hG hT h0 (93) ht_h0) (cwV 1 hts gX12_behindSum_X12_isSign rfl rfl rfl ⟨rfl, pd_X12_isSign⟩ ⟨Nat.le_of_ble_eq_true rfl, Nat.le_of_ble_eq_true rfl⟩) ⟨pz_blind, va_recv hK hP (ci := 12) (q0 := q49) rfl eq49, pz_pre hP hK hD hN⟩ rfl rfl hl.1 rfl (lv_room (Nat.le_of_ble_eq_true rfl)) dX12_behindSum_98 ⟨Nat.le_of_ble_eq_true rfl, Nat.le_of_ble_eq_true rfl⟩) (fun r798 hw799 => ?_)
            obtain ⟨hw799r, hw799p⟩ := hw799
            have tk800 : (r798.toInt ≠ 0 → o38_x12.toInt = 3 ∧ o38_x13.toInt = (93 : Int)) := by have q9 := hw799p; first | (simp only [tf42, tf48, mo_i1, mo_l1] at q9; exact q9) | (rw [tf42, tf48] at q9; exact q9)
            have hFc := tp_fr hD hS hA
            refine va_callv (va_runV (As := [.int r798]) (rest := []) ⟨hx, hb, hml, hown, hts⟩ (t_X12_must l dC dI _ κ τ ν ρ L f hG hT h0 r798 ht_h0 (by first | decide | omega) (by first | (simp only [tf40, tf41, tf39, tf42, tf48, mo_i1, mo_l1]; exact (show (o38_x10.toInt ≤ o38_x11.toInt ∧ o38_x11.toInt ≤ o38_x9.toInt ∧ (o38_x12.toInt = 0 ∨ o38_x10.toInt < o38_x11.toInt) ∧ (o38_x12.toInt = 1 → o38_x11.toInt = o38_x10.toInt + 1 → o38_x13.toInt ≤ 26)) from by first | omega | decide)) | (rw [tf40, tf41, tf39, tf42, tf48]; exact (show (o38_x10.toInt ≤ o38_x11.toInt ∧ o38_x11.toInt ≤ o38_x9.toInt ∧ (o38_x12.toInt = 0 ∨ o38_x10.toInt < o38_x11.toInt) ∧ (o38_x12.toInt = 1 → o38_x11.toInt = o38_x10.toInt + 1 → o38_x13.toInt ≤ 26)) from by first | omega | decide)))) (cwV 1 hts gX12_behindSum_X12_must rfl rfl rfl ⟨rfl, pd_X12_must⟩ ⟨Nat.le_of_ble_eq_true rfl, Nat.le_of_ble_eq_true rfl⟩) ⟨pz_blind, va_recv hK hP (ci := 12) (q0 := q49) rfl eq49, pz_pre hP hK hD hN⟩ rfl rfl hl.1 rfl (lv_room (Nat.le_of_ble_eq_true rfl)) dX12_behindSum_101 ⟨Nat.le_of_ble_eq_true rfl, Nat.le_of_ble_eq_true rfl⟩) hS (fun q _ h => hFc q h) hFc (fun f803 t H1 locs ht hvm hw802 hB hz1 hk1 hS => ?_)
            obtain ⟨hT, hF804, hw802p⟩ := hw802
            have hR := hR.then hF804 (by decide)
            have hP := hB.1; rw [ht] at hP; have hD := tp_ad f803 hD; clear hB hFc hz1 hk1; subst ht; generalize t.heap = H at hP hS ⊢
            obtain ⟨o805_x0, o805_x1, o805_x7, o805_x9, o805_x10, o805_x11, o805_x12, o805_x13, o805_x14, o805_x15, o805_x16, o805_x17, o805_x18, o805_x19, o805_x20, o805_x22, o805_x25, o805_x28, o805_x29, o805_x32, o805_x33, o805_x34, o805_x35, o805_x36, o805_x37, o805_x38, o805_x47, o805_x48, hf_o805, ro805_0, ro805_1, ro805_2, ro805_3, ro805_4, ro805_5, ro805_6, ro805_7, ro805_8, ro805_9, ro805_10, ro805_11, ro805_12, ro805_13⟩ := tpo_13 hT ht_h0
            have tf806 : tp_fld (f803 h0) 10 = o805_x10.toInt := tff_10 hf_o805
            have tf807 : tp_fld (f803 h0) 11 = o805_x11.toInt := tff_11 hf_o805
            have tf808 : tp_fld (f803 h0) 9 = o805_x9.toInt := tff_9 hf_o805
            have tf809 : tp_fld (f803 h0) 12 = o805_x12.toInt := tff_12 hf_o805
            have tf810 : mo_fj (f803 h0) 13 = o805_x13.toInt := tff_13 hf_o805
            have tf811 : tp_fld (f803 h0) 15 = o805_x15.toInt := tff_15 hf_o805
            have tf812 : tp_fld (f803 h0) 19 = o805_x19.toInt := tff_19 hf_o805
            have tf813 : tp_fld (f803 h0) 20 = o805_x20.toInt := tff_20 hf_o805
            have tf814 : tp_fld (f803 h0) 22 = o805_x22.toInt := tff_22 hf_o805
            have tf815 : tp_fld (f803 h0) 28 = o805_x28.toInt := tff_28 hf_o805
            have tk816 : (o805_x10.toInt ≤ o805_x11.toInt ∧ o805_x11.toInt ≤ o805_x9.toInt ∧ (o805_x12.toInt = 0 ∨ o805_x10.toInt < o805_x11.toInt) ∧ (o805_x12.toInt = 1 → o805_x11.toInt = o805_x10.toInt + 1 → o805_x13.toInt ≤ 26)) ∧ (o805_x15.toInt = 0 → o38_x15.toInt = 0 ∧ o38_x11.toInt ≤ o805_x10.toInt ∧ r798.toInt ≠ 0) ∧ (o805_x15.toInt ≠ 0 → o805_x10.toInt = o38_x10.toInt) ∧ o805_x9.toInt = o38_x9.toInt ∧ o805_x19.toInt = o38_x19.toInt ∧ o805_x20.toInt = o38_x20.toInt ∧ o805_x22.toInt = o38_x22.toInt ∧ o805_x28.toInt = o38_x28.toInt := by have q9 := hw802p; first | (simp only [tf806, tf807, tf808, tf809, tf810, tf811, tf43, tf41, tf40, tf39, tf812, tf44, tf813, tf45, tf814, tf46, tf815, tf47, mo_i1, mo_l1] at q9; exact q9) | (rw [tf806, tf807, tf808, tf809, tf810, tf811, tf43, tf41, tf40, tf39, tf812, tf44, tf813, tf45, tf814, tf46, tf815, tf47] at q9; exact q9)
            refine lv_aload_n hx hb dX12_behindSum_104 rfl (lv_at hl 2 rfl) ?_
            obtain ⟨q817, eq817⟩ := tp_pos (tp_in hG ht_h0 (by decide)) hf_o805
            refine va_get (D := (dC, dI)) (ci := 12) (v := .int o805_x15) (C := RX12) (T := TX12) (N := 53) hx hb hts hfX12 hown hK hP q817 eq817 rfl 15 (by decide) (hts (.fieldLink RX12 261 "ColdShipsModel" "bad" "Z") wa_994) (fun _ h9 => h9) rfl dX12_behindSum_105 ?_
            refine lv_if_ne (tgt := 136) hx hb dX12_behindSum_108 (by decide) (fun c818 => ?_) (fun c818 => ?_)
            · have ic818 : o805_x15.toInt ≠ 0 := zi_ne rfl rfl c818
              refine lv_iconst (v := 3) hx hb dX12_behindSum_136 (by decide) ?_
              have hf_819 : f803 (ρ h0 26) = .inl (κ 0, 400, .inl g33) := (hF804 _ (by rw [y10]; decide)).trans hf_o32
              have tf820 : mo_i (f803 (ρ h0 26)) = g33 := tfa_i hf_819
              have hf_821 : f803 (ρ h0 27) = .inl (κ 0, 400, .inl g36) := (hF804 _ (by rw [y11]; decide)).trans hf_o35
              have tf822 : mo_i (f803 (ρ h0 27)) = g36 := tfa_i hf_821
              have hf_823 : f803 (ρ h0 23) = .inl (κ 0, 400, .inl g27) := (hF804 _ (by rw [y8]; decide)).trans hf_o26
              have tf824 : mo_i (f803 (ρ h0 23)) = g27 := tfa_i hf_823
              have hf_825 : f803 (ρ h0 24) = .inl (κ 0, 400, .inl g30) := (hF804 _ (by rw [y9]; decide)).trans hf_o29
              have tf826 : mo_i (f803 (ρ h0 24)) = g30 := tfa_i hf_825
              exact W.iret (v := 3) hx hb hr (fun t ht hW => ⟨⟨3, f803, rfl, ⟨hT, hR, (by first | decide | omega), (by first | (simp only [tf806, tf807, tf808, tf809, tf810, tf814, tf815, tf820, tf822, tf811, tf824, tf826, tf28, tf31, tf40, tf46, tf39, tf812, tf44, tf813, tf45, mo_i1, mo_l1]; exact (show (o805_x10.toInt ≤ o805_x11.toInt ∧ o805_x11.toInt ≤ o805_x9.toInt ∧ (o805_x12.toInt = 0 ∨ o805_x10.toInt < o805_x11.toInt) ∧ (o805_x12.toInt = 1 → o805_x11.toInt = o805_x10.toInt + 1 → o805_x13.toInt ≤ 26)) ∧ o805_x22.toInt + o805_x28.toInt ≤ o805_x10.toInt ∧ mo_PV (mo_R g33) (mo_R g36) o805_x28.toInt ∧ (o805_x15.toInt = 0 → mo_EX aa (3 : Int32).toInt (mo_R g27) (mo_R g30) (mo_R g33) (mo_R g36) o805_x22.toInt o805_x28.toInt ∧ mo_FR aa (mo_R g27) (mo_R g30) (mo_R g27) (mo_R g30) ∧ ((3 : Int32).toInt = 4 ∨ o38_x10.toInt < o805_x10.toInt ∨ (o805_x10.toInt = o38_x10.toInt ∧ (3 : Int32).toInt = 2))) ∧ o38_x22.toInt ≤ o805_x22.toInt ∧ o805_x9.toInt = o38_x9.toInt ∧ o805_x19.toInt = o38_x19.toInt ∧ o805_x20.toInt = o38_x20.toInt from ⟨by omega, by omega, h3, fun q9 => by exfalso; omega, by omega, by omega, by omega, by omega⟩)) | (rw [tf806, tf807, tf808, tf809, tf810, tf814, tf815, tf820, tf822, tf811, tf824, tf826, tf28, tf31, tf40, tf46, tf39, tf812, tf44, tf813, tf45]; exact (show (o805_x10.toInt ≤ o805_x11.toInt ∧ o805_x11.toInt ≤ o805_x9.toInt ∧ (o805_x12.toInt = 0 ∨ o805_x10.toInt < o805_x11.toInt) ∧ (o805_x12.toInt = 1 → o805_x11.toInt = o805_x10.toInt + 1 → o805_x13.toInt ≤ 26)) ∧ o805_x22.toInt + o805_x28.toInt ≤ o805_x10.toInt ∧ mo_PV (mo_R g33) (mo_R g36) o805_x28.toInt ∧ (o805_x15.toInt = 0 → mo_EX aa (3 : Int32).toInt (mo_R g27) (mo_R g30) (mo_R g33) (mo_R g36) o805_x22.toInt o805_x28.toInt ∧ mo_FR aa (mo_R g27) (mo_R g30) (mo_R g27) (mo_R g30) ∧ ((3 : Int32).toInt = 4 ∨ o38_x10.toInt < o805_x10.toInt ∨ (o805_x10.toInt = o38_x10.toInt ∧ (3 : Int32).toInt = 2))) ∧ o38_x22.toInt ≤ o805_x22.toInt ∧ o805_x9.toInt = o38_x9.toInt ∧ o805_x19.toInt = o38_x19.toInt ∧ o805_x20.toInt = o38_x20.toInt from ⟨by omega, by omega, h3, fun q9 => by exfalso; omega, by omega, by omega, by omega, by omega⟩)))⟩, by rw [ht]; exact hP, va_K.moved hW.alike hK, hD⟩, hS.F ht⟩) hS.2.2 dX12_behindSum_137
            · have ic818 : o805_x15.toInt = 0 := zi_nef rfl rfl c818
              refine lv_aload_n hx hb dX12_behindSum_111 rfl (lv_at hl 2 rfl) ?_
              refine lv_iconst (v := 5) hx hb dX12_behindSum_112 (by decide) ?_
              have hf_827 : f803 (ρ h0 26) = .inl (κ 0, 400, .inl g33) := (hF804 _ (by rw [y10]; decide)).trans hf_o32
              have tf828 : mo_i (f803 (ρ h0 26)) = g33 := tfa_i hf_827
              have hf_829 : f803 (ρ h0 27) = .inl (κ 0, 400, .inl g36) := (hF804 _ (by rw [y11]; decide)).trans hf_o35
              have tf830 : mo_i (f803 (ρ h0 27)) = g36 := tfa_i hf_829
              have hf_831 : f803 (ρ h0 23) = .inl (κ 0, 400, .inl g27) := (hF804 _ (by rw [y8]; decide)).trans hf_o26
              have tf832 : mo_i (f803 (ρ h0 23)) = g27 := tfa_i hf_831
              have hf_833 : f803 (ρ h0 24) = .inl (κ 0, 400, .inl g30) := (hF804 _ (by rw [y9]; decide)).trans hf_o29
              have tf834 : mo_i (f803 (ρ h0 24)) = g30 := tfa_i hf_833
              have hFc := tp_fr hD hS hA
              refine va_callv (va_runV (As := [.int 5]) (rest := []) ⟨hx, hb, hml, hown, hts⟩ (t_X12_settleDown l dC dI _ κ τ ν ρ L f803 hG hT h0 (5) aa ht_h0 (by first | decide | omega) (by first | (simp only [tf814, tf815, mo_i1, mo_l1]; exact (show o805_x22.toInt + o805_x28.toInt ≤ 400 from by omega)) | (rw [tf814, tf815]; exact (show o805_x22.toInt + o805_x28.toInt ≤ 400 from by omega))) (by first | (simp only [tf828, tf830, tf815, mo_i1, mo_l1]; exact (show mo_PV (mo_R g33) (mo_R g36) o805_x28.toInt from h3)) | (rw [tf828, tf830, tf815]; exact (show mo_PV (mo_R g33) (mo_R g36) o805_x28.toInt from h3))) (by first | (simp only [tf811, tf832, tf834, tf828, tf830, tf814, tf815, mo_i1, mo_l1]; exact (show (o805_x15.toInt = 0 → 0 ≤ aa ∧ mo_PJ aa (mo_R g27) (mo_R g30) (mo_R g33) (mo_R g36) o805_x22.toInt o805_x28.toInt 1) from fun _ => ⟨h4.1, h4.pj1 (by decide)⟩)) | (rw [tf811, tf832, tf834, tf828, tf830, tf814, tf815]; exact (show (o805_x15.toInt = 0 → 0 ≤ aa ∧ mo_PJ aa (mo_R g27) (mo_R g30) (mo_R g33) (mo_R g36) o805_x22.toInt o805_x28.toInt 1) from fun _ => ⟨h4.1, h4.pj1 (by decide)⟩)))) (cwV 1 hts gX12_behindSum_X12_settleDown rfl rfl rfl ⟨rfl, pd_X12_settleDown⟩ ⟨Nat.le_of_ble_eq_true rfl, Nat.le_of_ble_eq_true rfl⟩) ⟨pz_blind, va_recv hK hP (ci := 12) (q0 := q817) rfl eq817, pz_pre hP hK hD hN⟩ rfl rfl hl.1 rfl (lv_room (Nat.le_of_ble_eq_true rfl)) dX12_behindSum_113 ⟨Nat.le_of_ble_eq_true rfl, Nat.le_of_ble_eq_true rfl⟩) hS (fun q _ h => hFc q h) hFc (fun f837 t H1 locs ht hvm hw836 hB hz1 hk1 hS => ?_)
              obtain ⟨hT, hF838, hw836p⟩ := hw836
              have hR := hR.then hF838 (by decide)
              have hP := hB.1; rw [ht] at hP; have hD := tp_ad f837 hD; clear hB hFc hz1 hk1; subst ht; generalize t.heap = H at hP hS ⊢
              obtain ⟨o839_x0, o839_x1, o839_x7, o839_x9, o839_x10, o839_x11, o839_x12, o839_x13, o839_x14, o839_x15, o839_x16, o839_x17, o839_x18, o839_x19, o839_x20, o839_x22, o839_x25, o839_x28, o839_x29, o839_x32, o839_x33, o839_x34, o839_x35, o839_x36, o839_x37, o839_x38, o839_x47, o839_x48, hf_o839, ro839_0, ro839_1, ro839_2, ro839_3, ro839_4, ro839_5, ro839_6, ro839_7, ro839_8, ro839_9, ro839_10, ro839_11, ro839_12, ro839_13⟩ := tpo_13 hT ht_h0
              have tf840 : tp_fld (f837 h0) 28 = o839_x28.toInt := tff_28 hf_o839
              have tf841 : tp_fld (f837 h0) 22 = o839_x22.toInt := tff_22 hf_o839
              obtain ⟨g843, hf_o842⟩ := tpo_53 hT y8
              have tf844 : mo_i (f837 (ρ h0 23)) = g843 := tfa_i hf_o842
              obtain ⟨g846, hf_o845⟩ := tpo_54 hT y9
              have tf847 : mo_i (f837 (ρ h0 24)) = g846 := tfa_i hf_o845
              have tf848 : tp_fld (f837 h0) 9 = o839_x9.toInt := tff_9 hf_o839
              have tf849 : tp_fld (f837 h0) 10 = o839_x10.toInt := tff_10 hf_o839
              have tf850 : tp_fld (f837 h0) 11 = o839_x11.toInt := tff_11 hf_o839
              have tf851 : tp_fld (f837 h0) 12 = o839_x12.toInt := tff_12 hf_o839
              have tf852 : mo_fj (f837 h0) 13 = o839_x13.toInt := tff_13 hf_o839
              have tf853 : tp_fld (f837 h0) 15 = o839_x15.toInt := tff_15 hf_o839
              have tf854 : tp_fld (f837 h0) 19 = o839_x19.toInt := tff_19 hf_o839
              have tf855 : tp_fld (f837 h0) 20 = o839_x20.toInt := tff_20 hf_o839
              have tk856 : o839_x28.toInt ≤ o805_x28.toInt ∧ o805_x22.toInt ≤ o839_x22.toInt ∧ o839_x22.toInt + o839_x28.toInt ≤ o805_x22.toInt + o805_x28.toInt ∧ (o805_x15.toInt = 0 → mo_PJ aa (mo_R g843) (mo_R g846) (mo_R g33) (mo_R g36) o839_x22.toInt o839_x28.toInt 1) ∧ (∀ i, o839_x28.toInt ≤ i → i < o805_x28.toInt → (mo_R g33) i < 30 ∧ (5 ≤ (5 : Int) → (mo_R g33) i < 14)) ∧ (o839_x28.toInt = 0 ∨ (((5 : Int) = 1 → 30 ≤ (mo_R g33) (o839_x28.toInt + -1)) ∧ ((5 : Int) = 5 → 14 ≤ (mo_R g33) (o839_x28.toInt + -1)))) ∧ (o805_x15.toInt = 0 → mo_FR aa (mo_R g27) (mo_R g30) (mo_R g843) (mo_R g846)) ∧ o839_x9.toInt = o805_x9.toInt ∧ o839_x10.toInt = o805_x10.toInt ∧ o839_x11.toInt = o805_x11.toInt ∧ o839_x12.toInt = o805_x12.toInt ∧ o839_x13.toInt = o805_x13.toInt ∧ o839_x15.toInt = o805_x15.toInt ∧ o839_x19.toInt = o805_x19.toInt ∧ o839_x20.toInt = o805_x20.toInt := by have q9 := hw836p; first | (simp only [tf840, tf815, tf814, tf841, tf811, tf844, tf847, tf828, tf830, tf832, tf834, tf848, tf808, tf849, tf806, tf850, tf807, tf851, tf809, tf852, tf810, tf853, tf854, tf812, tf855, tf813, mo_i1, mo_l1] at q9; exact q9) | (rw [tf840, tf815, tf814, tf841, tf811, tf844, tf847, tf828, tf830, tf832, tf834, tf848, tf808, tf849, tf806, tf850, tf807, tf851, tf809, tf852, tf810, tf853, tf854, tf812, tf855, tf813] at q9; exact q9)
              have htop := mo_top5 h3 h4.2.2.1 (by omega) (by omega) (by omega) (fun i i0 i1 => (tk856.2.2.2.2.1 i i0 i1).1) (by have q9 := tk856.2.2.2.2.2.1; omega)
              refine lv_aload_n hx hb dX12_behindSum_116 rfl (lv_at hl 2 rfl) ?_
              refine lv_dup hx hb dX12_behindSum_117 rfl ?_
              obtain ⟨q857, eq857⟩ := tp_pos (tp_in hG ht_h0 (by decide)) hf_o839
              refine va_get (D := (dC, dI)) (ci := 12) (v := .int o839_x28) (C := RX12) (T := TX12) (N := 53) hx hb hts hfX12 hown hK hP q857 eq857 rfl 28 (by decide) (hts (.fieldLink RX12 300 "ColdShipsModel" "piled" "I") wa_1045) (fun _ h9 => h9) rfl dX12_behindSum_118 ?_
              refine lv_iconst (v := 1) hx hb dX12_behindSum_121 (by decide) ?_
              refine lv_isub hx hb dX12_behindSum_122 ?_
              refine lv_topi (fun z858 ez858 => ?_)
              have iz858 : z858.toInt = o839_x28.toInt - 1 := zi_sub ez858 rfl rfl (by omega) (by omega)
              refine va_put (D := (dC, dI)) (ci := 12) (v := .int z858) (ty := .int) (C := RX12) (T := TX12) (N := 53) hx hb hts hfX12 tyX12 tyX12_ok nmX12 hown hK hP hD hS q857 eq857 rfl 28 (by decide) (hts (.fieldLink RX12 300 "ColdShipsModel" "piled" "I") wa_1045) (fun _ h9 => h9) rfl (tyX12_ok 28 (by decide)) rfl rfl (Nat.le_of_ble_eq_true rfl) dX12_behindSum_123 (tp_k (.inr (12, [.int o839_x0, .int o839_x1, .ref (ρ h0 2), .ref (ρ h0 3), .ref (ρ h0 4), .ref (ρ h0 5), .ref (ρ h0 6), .int o839_x7, .ref (ρ h0 8), .int o839_x9, .int o839_x10, .int o839_x11, .int o839_x12, .long o839_x13, .int o839_x14, .int o839_x15, .int o839_x16, .int o839_x17, .int o839_x18, .int o839_x19, .int o839_x20, .ref (ρ h0 21), .int o839_x22, .ref (ρ h0 23), .ref (ρ h0 24), .int o839_x25, .ref (ρ h0 26), .ref (ρ h0 27), .int z858, .int o839_x29, .ref (ρ h0 30), .ref (ρ h0 31), .int o839_x32, .long o839_x33, .long o839_x34, .long o839_x35, .int o839_x36, .int o839_x37, .int o839_x38, .ref (ρ h0 39), .ref (ρ h0 40), .ref (ρ h0 41), .ref (ρ h0 42), .ref (ρ h0 43), .ref (ρ h0 44), .ref (ρ h0 45), .ref (ρ h0 46), .int o839_x47, .int o839_x48, .ref (ρ h0 49), .ref (ρ h0 50), .ref (ρ h0 51), .ref (ρ h0 52)])) hD (tp_in hG ht_h0 (by decide)) eq857 (fun f859 H locs hP hD hS g861 k860 => ?_))
              have hT := hT.up ht_h0 g861 k860 ⟨_, _, _, _, _, _, _, _, _, _, _, _, _, _, _, _, _, _, _, _, _, _, _, _, _, _, _, _, rfl, ro839_0, ro839_1, ro839_2, ro839_3, ro839_4, ro839_5, ro839_6, ro839_7, ro839_8, (by omega), ro839_10, ro839_11, ro839_12, ro839_13⟩
              have hR := hR.up ht_h0 (by decide) k860
              refine lv_aload_n hx hb dX12_behindSum_126 rfl (lv_at hl 2 rfl) ?_
              refine lv_dup hx hb dX12_behindSum_127 rfl ?_
              obtain ⟨q862, eq862⟩ := tp_pos (tp_in hG ht_h0 (by decide)) g861
              refine va_get (D := (dC, dI)) (ci := 12) (v := .int o839_x29) (C := RX12) (T := TX12) (N := 53) hx hb hts hfX12 hown hK hP q862 eq862 rfl 29 (by decide) (hts (.fieldLink RX12 335 "ColdShipsModel" "opened" "I") wa_1046) (fun _ h9 => h9) rfl dX12_behindSum_128 ?_
              refine lv_iconst (v := 1) hx hb dX12_behindSum_131 (by decide) ?_
              refine lv_isub hx hb dX12_behindSum_132 ?_
              refine lv_topi (fun z863 ez863 => ?_)
              refine va_put (D := (dC, dI)) (ci := 12) (v := .int z863) (ty := .int) (C := RX12) (T := TX12) (N := 53) hx hb hts hfX12 tyX12 tyX12_ok nmX12 hown hK hP hD hS q862 eq862 rfl 29 (by decide) (hts (.fieldLink RX12 335 "ColdShipsModel" "opened" "I") wa_1046) (fun _ h9 => h9) rfl (tyX12_ok 29 (by decide)) rfl rfl (Nat.le_of_ble_eq_true rfl) dX12_behindSum_133 (tp_k (.inr (12, [.int o839_x0, .int o839_x1, .ref (ρ h0 2), .ref (ρ h0 3), .ref (ρ h0 4), .ref (ρ h0 5), .ref (ρ h0 6), .int o839_x7, .ref (ρ h0 8), .int o839_x9, .int o839_x10, .int o839_x11, .int o839_x12, .long o839_x13, .int o839_x14, .int o839_x15, .int o839_x16, .int o839_x17, .int o839_x18, .int o839_x19, .int o839_x20, .ref (ρ h0 21), .int o839_x22, .ref (ρ h0 23), .ref (ρ h0 24), .int o839_x25, .ref (ρ h0 26), .ref (ρ h0 27), .int z858, .int z863, .ref (ρ h0 30), .ref (ρ h0 31), .int o839_x32, .long o839_x33, .long o839_x34, .long o839_x35, .int o839_x36, .int o839_x37, .int o839_x38, .ref (ρ h0 39), .ref (ρ h0 40), .ref (ρ h0 41), .ref (ρ h0 42), .ref (ρ h0 43), .ref (ρ h0 44), .ref (ρ h0 45), .ref (ρ h0 46), .int o839_x47, .int o839_x48, .ref (ρ h0 49), .ref (ρ h0 50), .ref (ρ h0 51), .ref (ρ h0 52)])) hD (tp_in hG ht_h0 (by decide)) eq862 (fun f864 H locs hP hD hS g866 k865 => ?_))
              have hT := hT.up ht_h0 g866 k865 ⟨_, _, _, _, _, _, _, _, _, _, _, _, _, _, _, _, _, _, _, _, _, _, _, _, _, _, _, _, rfl, ro839_0, ro839_1, ro839_2, ro839_3, ro839_4, ro839_5, ro839_6, ro839_7, ro839_8, (by omega), ro839_10, ro839_11, ro839_12, ro839_13⟩
              have hR := hR.up ht_h0 (by decide) k865
              refine lv_iconst (v := 3) hx hb dX12_behindSum_136 (by decide) ?_
              have tf867 : tp_fld (f864 h0) 10 = o839_x10.toInt := tff_10 g866
              have tf868 : tp_fld (f864 h0) 11 = o839_x11.toInt := tff_11 g866
              have tf869 : tp_fld (f864 h0) 9 = o839_x9.toInt := tff_9 g866
              have tf870 : tp_fld (f864 h0) 12 = o839_x12.toInt := tff_12 g866
              have tf871 : mo_fj (f864 h0) 13 = o839_x13.toInt := tff_13 g866
              have tf872 : tp_fld (f864 h0) 22 = o839_x22.toInt := tff_22 g866
              have tf873 : tp_fld (f864 h0) 28 = z858.toInt := tff_28 g866
              have hf_874 : f837 (ρ h0 26) = .inl (κ 0, 400, .inl g33) := (hF838 _ (by rw [y10]; decide)).trans hf_827
              have hf_875 : f859 (ρ h0 26) = .inl (κ 0, 400, .inl g33) := (k860 _ (tp_ne y10 ht_h0 (by decide))).trans hf_874
              have hf_876 : f864 (ρ h0 26) = .inl (κ 0, 400, .inl g33) := (k865 _ (tp_ne y10 ht_h0 (by decide))).trans hf_875
              have tf877 : mo_i (f864 (ρ h0 26)) = g33 := tfa_i hf_876
              have hf_878 : f837 (ρ h0 27) = .inl (κ 0, 400, .inl g36) := (hF838 _ (by rw [y11]; decide)).trans hf_829
              have hf_879 : f859 (ρ h0 27) = .inl (κ 0, 400, .inl g36) := (k860 _ (tp_ne y11 ht_h0 (by decide))).trans hf_878
              have hf_880 : f864 (ρ h0 27) = .inl (κ 0, 400, .inl g36) := (k865 _ (tp_ne y11 ht_h0 (by decide))).trans hf_879
              have tf881 : mo_i (f864 (ρ h0 27)) = g36 := tfa_i hf_880
              have tf882 : tp_fld (f864 h0) 15 = o839_x15.toInt := tff_15 g866
              have hf_883 : f859 (ρ h0 23) = .inl (κ 0, 400, .inl g843) := (k860 _ (tp_ne y8 ht_h0 (by decide))).trans hf_o842
              have hf_884 : f864 (ρ h0 23) = .inl (κ 0, 400, .inl g843) := (k865 _ (tp_ne y8 ht_h0 (by decide))).trans hf_883
              have tf885 : mo_i (f864 (ρ h0 23)) = g843 := tfa_i hf_884
              have hf_886 : f859 (ρ h0 24) = .inl (κ 0, 400, .inl g846) := (k860 _ (tp_ne y9 ht_h0 (by decide))).trans hf_o845
              have hf_887 : f864 (ρ h0 24) = .inl (κ 0, 400, .inl g846) := (k865 _ (tp_ne y9 ht_h0 (by decide))).trans hf_886
              have tf888 : mo_i (f864 (ρ h0 24)) = g846 := tfa_i hf_887
              have tf889 : tp_fld (f864 h0) 19 = o839_x19.toInt := tff_19 g866
              have tf890 : tp_fld (f864 h0) 20 = o839_x20.toInt := tff_20 g866
              exact W.iret (v := 3) hx hb hr (fun t ht hW => ⟨⟨3, f864, rfl, ⟨hT, hR, (by first | decide | omega), (by first | (simp only [tf867, tf868, tf869, tf870, tf871, tf872, tf873, tf877, tf881, tf882, tf885, tf888, tf28, tf31, tf40, tf46, tf39, tf889, tf44, tf890, tf45, mo_i1, mo_l1]; exact (show (o839_x10.toInt ≤ o839_x11.toInt ∧ o839_x11.toInt ≤ o839_x9.toInt ∧ (o839_x12.toInt = 0 ∨ o839_x10.toInt < o839_x11.toInt) ∧ (o839_x12.toInt = 1 → o839_x11.toInt = o839_x10.toInt + 1 → o839_x13.toInt ≤ 26)) ∧ o839_x22.toInt + z858.toInt ≤ o839_x10.toInt ∧ mo_PV (mo_R g33) (mo_R g36) z858.toInt ∧ (o839_x15.toInt = 0 → mo_EX aa (3 : Int32).toInt (mo_R g843) (mo_R g846) (mo_R g33) (mo_R g36) o839_x22.toInt z858.toInt ∧ mo_FR aa (mo_R g27) (mo_R g30) (mo_R g843) (mo_R g846) ∧ ((3 : Int32).toInt = 4 ∨ o38_x10.toInt < o839_x10.toInt ∨ (o839_x10.toInt = o38_x10.toInt ∧ (3 : Int32).toInt = 2))) ∧ o38_x22.toInt ≤ o839_x22.toInt ∧ o839_x9.toInt = o38_x9.toInt ∧ o839_x19.toInt = o38_x19.toInt ∧ o839_x20.toInt = o38_x20.toInt from ⟨by omega, by omega, (h3.lt (by omega)), fun q9 => ⟨(mo_EX.of1 h4.1 ((tk856.2.2.2.1 (by omega)).popb (n' := _) (by omega) (by omega) htop.2) (h4.2.2.1.lt (by omega)) (by decide) (fun q7 => absurd q7 (by decide)) (fun q7 => absurd q7 (by decide))), (tk856.2.2.2.2.2.2.1 (by omega)), by have q8 : (3 : Int32).toInt = 3 := rfl; omega⟩, by omega, by omega, by omega, by omega⟩)) | (rw [tf867, tf868, tf869, tf870, tf871, tf872, tf873, tf877, tf881, tf882, tf885, tf888, tf28, tf31, tf40, tf46, tf39, tf889, tf44, tf890, tf45]; exact (show (o839_x10.toInt ≤ o839_x11.toInt ∧ o839_x11.toInt ≤ o839_x9.toInt ∧ (o839_x12.toInt = 0 ∨ o839_x10.toInt < o839_x11.toInt) ∧ (o839_x12.toInt = 1 → o839_x11.toInt = o839_x10.toInt + 1 → o839_x13.toInt ≤ 26)) ∧ o839_x22.toInt + z858.toInt ≤ o839_x10.toInt ∧ mo_PV (mo_R g33) (mo_R g36) z858.toInt ∧ (o839_x15.toInt = 0 → mo_EX aa (3 : Int32).toInt (mo_R g843) (mo_R g846) (mo_R g33) (mo_R g36) o839_x22.toInt z858.toInt ∧ mo_FR aa (mo_R g27) (mo_R g30) (mo_R g843) (mo_R g846) ∧ ((3 : Int32).toInt = 4 ∨ o38_x10.toInt < o839_x10.toInt ∨ (o839_x10.toInt = o38_x10.toInt ∧ (3 : Int32).toInt = 2))) ∧ o38_x22.toInt ≤ o839_x22.toInt ∧ o839_x9.toInt = o38_x9.toInt ∧ o839_x19.toInt = o38_x19.toInt ∧ o839_x20.toInt = o38_x20.toInt from ⟨by omega, by omega, (h3.lt (by omega)), fun q9 => ⟨(mo_EX.of1 h4.1 ((tk856.2.2.2.1 (by omega)).popb (n' := _) (by omega) (by omega) htop.2) (h4.2.2.1.lt (by omega)) (by decide) (fun q7 => absurd q7 (by decide)) (fun q7 => absurd q7 (by decide))), (tk856.2.2.2.2.2.2.1 (by omega)), by have q8 : (3 : Int32).toInt = 3 := rfl; omega⟩, by omega, by omega, by omega, by omega⟩)))⟩, by rw [ht]; exact hP, va_K.moved hW.alike hK, hD⟩, hS.F ht⟩) hS.2.2 dX12_behindSum_137
        · have ic65 : r62.toInt ≠ 0 := zi_eqf rfl rfl c65
          refine lv_bipush (v := 13) hx hb dX12_behindSum_51 (by decide) ?_
          refine lv_goto (tgt := 57) hx hb dX12_behindSum_53 (by decide) ?_
          refine lv_istore_n (lv' := [(2, .int 13), (0, .ref h0), (1, .int v)]) hx hb dX12_behindSum_57 rfl hl (by decide) rfl (fun ls hl => ?_)
          refine lv_iload_n hx hb dX12_behindSum_58 rfl (lv_at hl 0 rfl) ?_
          refine lv_iconst (v := (-1)) hx hb dX12_behindSum_59 (by decide) ?_
          refine lv_icmp_eq (tgt := 83) hx hb dX12_behindSum_60 (by decide) (fun c9 => absurd c9 (by decide)) (fun _ => ?_)
          refine lv_aload_n hx hb dX12_behindSum_63 rfl (lv_at hl 1 rfl) ?_
          refine lv_iload_n hx hb dX12_behindSum_64 rfl (lv_at hl 0 rfl) ?_
          refine pz_calli (va_runS (As := [.int 13]) (rest := [.ref h0]) ⟨hx, hb, hml, hown, hts⟩ (t_X12_binds l dC dI _ (13) (13) rfl) (va_cwS 1 hts gX12_behindSum_X12_binds rfl rfl rfl pd_X12_binds ⟨Nat.le_of_ble_eq_true rfl, Nat.le_of_ble_eq_true rfl⟩) ⟨pz_blind, pz_pre pz_P0 (hK.sub (tys' := []) [] rfl) (pz_D0 (A := fun _ => True)) hN⟩ rfl rfl hl.1 rfl (lv_room (Nat.le_of_ble_eq_true rfl)) dX12_behindSum_65 ⟨Nat.le_of_ble_eq_true rfl, Nat.le_of_ble_eq_true rfl⟩) (fun r891 hw892 => ?_)
          obtain ⟨hw892r, hw892p⟩ := hw892
          have hFc := tp_fr hD hS hA
          refine va_callv (va_runV (As := [.int r891]) (rest := []) ⟨hx, hb, hml, hown, hts⟩ (t_X12_settleDown l dC dI _ κ τ ν ρ L f hG hT h0 r891 aa ht_h0 (by first | decide | omega) (by first | (simp only [tf46, tf47, mo_i1, mo_l1]; exact (show o38_x22.toInt + o38_x28.toInt ≤ 400 from by omega)) | (rw [tf46, tf47]; exact (show o38_x22.toInt + o38_x28.toInt ≤ 400 from by omega))) (by first | (simp only [tf34, tf37, tf47, mo_i1, mo_l1]; exact (show mo_PV (mo_R g33) (mo_R g36) o38_x28.toInt from h3)) | (rw [tf34, tf37, tf47]; exact (show mo_PV (mo_R g33) (mo_R g36) o38_x28.toInt from h3))) (by first | (simp only [tf43, tf28, tf31, tf34, tf37, tf46, tf47, mo_i1, mo_l1]; exact (show (o38_x15.toInt = 0 → 0 ≤ aa ∧ mo_PJ aa (mo_R g27) (mo_R g30) (mo_R g33) (mo_R g36) o38_x22.toInt o38_x28.toInt 1) from fun _ => ⟨h4.1, h4.pj1 (by decide)⟩)) | (rw [tf43, tf28, tf31, tf34, tf37, tf46, tf47]; exact (show (o38_x15.toInt = 0 → 0 ≤ aa ∧ mo_PJ aa (mo_R g27) (mo_R g30) (mo_R g33) (mo_R g36) o38_x22.toInt o38_x28.toInt 1) from fun _ => ⟨h4.1, h4.pj1 (by decide)⟩)))) (cwV 1 hts gX12_behindSum_X12_settleDown rfl rfl rfl ⟨rfl, pd_X12_settleDown⟩ ⟨Nat.le_of_ble_eq_true rfl, Nat.le_of_ble_eq_true rfl⟩) ⟨pz_blind, va_recv hK hP (ci := 12) (q0 := q49) rfl eq49, pz_pre hP hK hD hN⟩ rfl rfl hl.1 rfl (lv_room (Nat.le_of_ble_eq_true rfl)) dX12_behindSum_68 ⟨Nat.le_of_ble_eq_true rfl, Nat.le_of_ble_eq_true rfl⟩) hS (fun q _ h => hFc q h) hFc (fun f895 t H1 locs ht hvm hw894 hB hz1 hk1 hS => ?_)
          obtain ⟨hT, hF896, hw894p⟩ := hw894
          have hR := hR.then hF896 (by decide)
          have hP := hB.1; rw [ht] at hP; have hD := tp_ad f895 hD; clear hB hFc hz1 hk1; subst ht; generalize t.heap = H at hP hS ⊢
          obtain ⟨o897_x0, o897_x1, o897_x7, o897_x9, o897_x10, o897_x11, o897_x12, o897_x13, o897_x14, o897_x15, o897_x16, o897_x17, o897_x18, o897_x19, o897_x20, o897_x22, o897_x25, o897_x28, o897_x29, o897_x32, o897_x33, o897_x34, o897_x35, o897_x36, o897_x37, o897_x38, o897_x47, o897_x48, hf_o897, ro897_0, ro897_1, ro897_2, ro897_3, ro897_4, ro897_5, ro897_6, ro897_7, ro897_8, ro897_9, ro897_10, ro897_11, ro897_12, ro897_13⟩ := tpo_13 hT ht_h0
          have tf898 : tp_fld (f895 h0) 28 = o897_x28.toInt := tff_28 hf_o897
          have tf899 : tp_fld (f895 h0) 22 = o897_x22.toInt := tff_22 hf_o897
          obtain ⟨g901, hf_o900⟩ := tpo_53 hT y8
          have tf902 : mo_i (f895 (ρ h0 23)) = g901 := tfa_i hf_o900
          obtain ⟨g904, hf_o903⟩ := tpo_54 hT y9
          have tf905 : mo_i (f895 (ρ h0 24)) = g904 := tfa_i hf_o903
          have tf906 : tp_fld (f895 h0) 9 = o897_x9.toInt := tff_9 hf_o897
          have tf907 : tp_fld (f895 h0) 10 = o897_x10.toInt := tff_10 hf_o897
          have tf908 : tp_fld (f895 h0) 11 = o897_x11.toInt := tff_11 hf_o897
          have tf909 : tp_fld (f895 h0) 12 = o897_x12.toInt := tff_12 hf_o897
          have tf910 : mo_fj (f895 h0) 13 = o897_x13.toInt := tff_13 hf_o897
          have tf911 : tp_fld (f895 h0) 15 = o897_x15.toInt := tff_15 hf_o897
          have tf912 : tp_fld (f895 h0) 19 = o897_x19.toInt := tff_19 hf_o897
          have tf913 : tp_fld (f895 h0) 20 = o897_x20.toInt := tff_20 hf_o897
          have tk914 : o897_x28.toInt ≤ o38_x28.toInt ∧ o38_x22.toInt ≤ o897_x22.toInt ∧ o897_x22.toInt + o897_x28.toInt ≤ o38_x22.toInt + o38_x28.toInt ∧ (o38_x15.toInt = 0 → mo_PJ aa (mo_R g901) (mo_R g904) (mo_R g33) (mo_R g36) o897_x22.toInt o897_x28.toInt 1) ∧ (∀ i, o897_x28.toInt ≤ i → i < o38_x28.toInt → (mo_R g33) i < 30 ∧ (5 ≤ r891.toInt → (mo_R g33) i < 14)) ∧ (o897_x28.toInt = 0 ∨ ((r891.toInt = 1 → 30 ≤ (mo_R g33) (o897_x28.toInt + -1)) ∧ (r891.toInt = 5 → 14 ≤ (mo_R g33) (o897_x28.toInt + -1)))) ∧ (o38_x15.toInt = 0 → mo_FR aa (mo_R g27) (mo_R g30) (mo_R g901) (mo_R g904)) ∧ o897_x9.toInt = o38_x9.toInt ∧ o897_x10.toInt = o38_x10.toInt ∧ o897_x11.toInt = o38_x11.toInt ∧ o897_x12.toInt = o38_x12.toInt ∧ o897_x13.toInt = o38_x13.toInt ∧ o897_x15.toInt = o38_x15.toInt ∧ o897_x19.toInt = o38_x19.toInt ∧ o897_x20.toInt = o38_x20.toInt := by have q9 := hw894p; first | (simp only [tf898, tf47, tf46, tf899, tf43, tf902, tf905, tf34, tf37, tf28, tf31, tf906, tf39, tf907, tf40, tf908, tf41, tf909, tf42, tf910, tf48, tf911, tf912, tf44, tf913, tf45, mo_i1, mo_l1] at q9; exact q9) | (rw [tf898, tf47, tf46, tf899, tf43, tf902, tf905, tf34, tf37, tf28, tf31, tf906, tf39, tf907, tf40, tf908, tf41, tf909, tf42, tf910, tf48, tf911, tf912, tf44, tf913, tf45] at q9; exact q9)
          have hin9 : False → mo_in (mo_R g33) (o897_x28.toInt).toNat ≠ 31 := fun q => q.elim
          refine lv_aload_n hx hb dX12_behindSum_71 rfl (lv_at hl 1 rfl) ?_
          refine lv_iload_n hx hb dX12_behindSum_72 rfl (lv_at hl 0 rfl) ?_
          refine lv_iconst (v := 0) hx hb dX12_behindSum_73 (by decide) ?_
          have hf_915 : f895 (ρ h0 26) = .inl (κ 0, 400, .inl g33) := (hF896 _ (by rw [y10]; decide)).trans hf_o32
          have tf916 : mo_i (f895 (ρ h0 26)) = g33 := tfa_i hf_915
          have hf_917 : f895 (ρ h0 27) = .inl (κ 0, 400, .inl g36) := (hF896 _ (by rw [y11]; decide)).trans hf_o35
          have tf918 : mo_i (f895 (ρ h0 27)) = g36 := tfa_i hf_917
          obtain ⟨q919, eq919⟩ := tp_pos (tp_in hG ht_h0 (by decide)) hf_o897
          have hFc := tp_fr hD hS hA
          refine va_callv (va_runV (As := [.int 13, .int 0]) (rest := []) ⟨hx, hb, hml, hown, hts⟩ (t_X12_push l dC dI _ κ τ ν ρ L f895 hG hT h0 (13) (0) ht_h0 (by first | (simp only [tf898, mo_i1, mo_l1]; exact (show o897_x28.toInt < 400 from by have : (13 : Int32).toInt = 13 := rfl; have : (0 : Int32).toInt = 0 := rfl; first | omega | decide)) | (rw [tf898]; exact (show o897_x28.toInt < 400 from by have : (13 : Int32).toInt = 13 := rfl; have : (0 : Int32).toInt = 0 := rfl; first | omega | decide)))) (cwV 2 hts gX12_behindSum_X12_push rfl rfl rfl ⟨rfl, pd_X12_push⟩ ⟨Nat.le_of_ble_eq_true rfl, Nat.le_of_ble_eq_true rfl⟩) ⟨pz_blind, va_recv hK hP (ci := 12) (q0 := q919) rfl eq919, pz_pre hP hK hD hN⟩ rfl rfl hl.1 rfl (lv_room (Nat.le_of_ble_eq_true rfl)) dX12_behindSum_74 ⟨Nat.le_of_ble_eq_true rfl, Nat.le_of_ble_eq_true rfl⟩) hS (fun q _ h => hFc q h) hFc (fun f922 t H1 locs ht hvm hw921 hB hz1 hk1 hS => ?_)
          obtain ⟨hT, hF923, hw921p⟩ := hw921
          have hR := hR.then hF923 (by decide)
          have hP := hB.1; rw [ht] at hP; have hD := tp_ad f922 hD; clear hB hFc hz1 hk1; subst ht; generalize t.heap = H at hP hS ⊢
          obtain ⟨g925, hf_o924⟩ := tpo_56 hT y10
          have tf926 : mo_i (f922 (ρ h0 26)) = g925 := tfa_i hf_o924
          obtain ⟨g928, hf_o927⟩ := tpo_57 hT y11
          have tf929 : mo_i (f922 (ρ h0 27)) = g928 := tfa_i hf_o927
          obtain ⟨o930_x0, o930_x1, o930_x7, o930_x9, o930_x10, o930_x11, o930_x12, o930_x13, o930_x14, o930_x15, o930_x16, o930_x17, o930_x18, o930_x19, o930_x20, o930_x22, o930_x25, o930_x28, o930_x29, o930_x32, o930_x33, o930_x34, o930_x35, o930_x36, o930_x37, o930_x38, o930_x47, o930_x48, hf_o930, ro930_0, ro930_1, ro930_2, ro930_3, ro930_4, ro930_5, ro930_6, ro930_7, ro930_8, ro930_9, ro930_10, ro930_11, ro930_12, ro930_13⟩ := tpo_13 hT ht_h0
          have tf931 : tp_fld (f922 h0) 28 = o930_x28.toInt := tff_28 hf_o930
          have tf932 : tp_fld (f922 h0) 9 = o930_x9.toInt := tff_9 hf_o930
          have tf933 : tp_fld (f922 h0) 10 = o930_x10.toInt := tff_10 hf_o930
          have tf934 : tp_fld (f922 h0) 11 = o930_x11.toInt := tff_11 hf_o930
          have tf935 : tp_fld (f922 h0) 12 = o930_x12.toInt := tff_12 hf_o930
          have tf936 : mo_fj (f922 h0) 13 = o930_x13.toInt := tff_13 hf_o930
          have tf937 : tp_fld (f922 h0) 15 = o930_x15.toInt := tff_15 hf_o930
          have tf938 : tp_fld (f922 h0) 19 = o930_x19.toInt := tff_19 hf_o930
          have tf939 : tp_fld (f922 h0) 20 = o930_x20.toInt := tff_20 hf_o930
          have tf940 : tp_fld (f922 h0) 22 = o930_x22.toInt := tff_22 hf_o930
          have tk941 : mo_U (mo_R g33) (mo_R g925) o897_x28.toInt (13 : Int) ∧ mo_U (mo_R g36) (mo_R g928) o897_x28.toInt (0 : Int) ∧ o930_x28.toInt = o897_x28.toInt + 1 ∧ o930_x9.toInt = o897_x9.toInt ∧ o930_x10.toInt = o897_x10.toInt ∧ o930_x11.toInt = o897_x11.toInt ∧ o930_x12.toInt = o897_x12.toInt ∧ o930_x13.toInt = o897_x13.toInt ∧ o930_x15.toInt = o897_x15.toInt ∧ o930_x19.toInt = o897_x19.toInt ∧ o930_x20.toInt = o897_x20.toInt ∧ o930_x22.toInt = o897_x22.toInt := by have q9 := hw921p; first | (simp only [tf916, tf926, tf898, tf918, tf929, tf931, tf932, tf906, tf933, tf907, tf934, tf908, tf935, tf909, tf936, tf910, tf937, tf911, tf938, tf912, tf939, tf913, tf940, tf899, mo_i1, mo_l1] at q9; exact q9) | (rw [tf916, tf926, tf898, tf918, tf929, tf931, tf932, tf906, tf933, tf907, tf934, tf908, tf935, tf909, tf936, tf910, tf937, tf911, tf938, tf912, tf939, tf913, tf940, tf899] at q9; exact q9)
          refine lv_aload_n hx hb dX12_behindSum_77 rfl (lv_at hl 1 rfl) ?_
          obtain ⟨q942, eq942⟩ := tp_pos (tp_in hG ht_h0 (by decide)) hf_o930
          have hFc := tp_fr hD hS hA
          refine va_callv (va_runV (As := []) (rest := []) ⟨hx, hb, hml, hown, hts⟩ (t_X12_next l dC dI _ κ τ ν ρ L f922 hG hT h0 ht_h0 (by first | (simp only [tf934, tf932, mo_i1, mo_l1]; exact (show o930_x11.toInt ≤ o930_x9.toInt from by first | omega | decide)) | (rw [tf934, tf932]; exact (show o930_x11.toInt ≤ o930_x9.toInt from by first | omega | decide)))) (cwV 0 hts gX12_behindSum_X12_next rfl rfl rfl ⟨rfl, pd_X12_next⟩ ⟨Nat.le_of_ble_eq_true rfl, Nat.le_of_ble_eq_true rfl⟩) ⟨pz_blind, va_recv hK hP (ci := 12) (q0 := q942) rfl eq942, pz_pre hP hK hD hN⟩ rfl rfl hl.1 rfl (lv_room (Nat.le_of_ble_eq_true rfl)) dX12_behindSum_78 ⟨Nat.le_of_ble_eq_true rfl, Nat.le_of_ble_eq_true rfl⟩) hS (fun q _ h => hFc q h) hFc (fun f945 t H1 locs ht hvm hw944 hB hz1 hk1 hS => ?_)
          obtain ⟨hT, hF946, hw944p⟩ := hw944
          have hR := hR.then hF946 (by decide)
          have hP := hB.1; rw [ht] at hP; have hD := tp_ad f945 hD; clear hB hFc hz1 hk1; subst ht; generalize t.heap = H at hP hS ⊢
          obtain ⟨o947_x0, o947_x1, o947_x7, o947_x9, o947_x10, o947_x11, o947_x12, o947_x13, o947_x14, o947_x15, o947_x16, o947_x17, o947_x18, o947_x19, o947_x20, o947_x22, o947_x25, o947_x28, o947_x29, o947_x32, o947_x33, o947_x34, o947_x35, o947_x36, o947_x37, o947_x38, o947_x47, o947_x48, hf_o947, ro947_0, ro947_1, ro947_2, ro947_3, ro947_4, ro947_5, ro947_6, ro947_7, ro947_8, ro947_9, ro947_10, ro947_11, ro947_12, ro947_13⟩ := tpo_13 hT ht_h0
          have tf948 : tp_fld (f945 h0) 10 = o947_x10.toInt := tff_10 hf_o947
          have tf949 : tp_fld (f945 h0) 11 = o947_x11.toInt := tff_11 hf_o947
          have tf950 : tp_fld (f945 h0) 9 = o947_x9.toInt := tff_9 hf_o947
          have tf951 : tp_fld (f945 h0) 12 = o947_x12.toInt := tff_12 hf_o947
          have tf952 : mo_fj (f945 h0) 13 = o947_x13.toInt := tff_13 hf_o947
          have tf953 : tp_fld (f945 h0) 15 = o947_x15.toInt := tff_15 hf_o947
          have tf954 : tp_fld (f945 h0) 19 = o947_x19.toInt := tff_19 hf_o947
          have tf955 : tp_fld (f945 h0) 20 = o947_x20.toInt := tff_20 hf_o947
          have tf956 : tp_fld (f945 h0) 22 = o947_x22.toInt := tff_22 hf_o947
          have tf957 : tp_fld (f945 h0) 28 = o947_x28.toInt := tff_28 hf_o947
          have tk958 : (o947_x10.toInt ≤ o947_x11.toInt ∧ o947_x11.toInt ≤ o947_x9.toInt ∧ (o947_x12.toInt = 0 ∨ o947_x10.toInt < o947_x11.toInt) ∧ (o947_x12.toInt = 1 → o947_x11.toInt = o947_x10.toInt + 1 → o947_x13.toInt ≤ 26)) ∧ o930_x11.toInt ≤ o947_x10.toInt ∧ o947_x9.toInt = o930_x9.toInt ∧ o947_x15.toInt = o930_x15.toInt ∧ o947_x19.toInt = o930_x19.toInt ∧ o947_x20.toInt = o930_x20.toInt ∧ o947_x22.toInt = o930_x22.toInt ∧ o947_x28.toInt = o930_x28.toInt := by have q9 := hw944p; first | (simp only [tf948, tf949, tf950, tf951, tf952, tf934, tf932, tf953, tf937, tf954, tf938, tf955, tf939, tf956, tf940, tf957, tf931, mo_i1, mo_l1] at q9; exact q9) | (rw [tf948, tf949, tf950, tf951, tf952, tf934, tf932, tf953, tf937, tf954, tf938, tf955, tf939, tf956, tf940, tf957, tf931] at q9; exact q9)
          refine lv_iconst (v := 1) hx hb dX12_behindSum_81 (by decide) ?_
          have hf_959 : f945 (ρ h0 26) = .inl (κ 0, 400, .inl g925) := (hF946 _ (by rw [y10]; decide)).trans hf_o924
          have tf960 : mo_i (f945 (ρ h0 26)) = g925 := tfa_i hf_959
          have hf_961 : f945 (ρ h0 27) = .inl (κ 0, 400, .inl g928) := (hF946 _ (by rw [y11]; decide)).trans hf_o927
          have tf962 : mo_i (f945 (ρ h0 27)) = g928 := tfa_i hf_961
          have hf_963 : f922 (ρ h0 23) = .inl (κ 0, 400, .inl g901) := (hF923 _ (by rw [y8]; decide)).trans hf_o900
          have hf_964 : f945 (ρ h0 23) = .inl (κ 0, 400, .inl g901) := (hF946 _ (by rw [y8]; decide)).trans hf_963
          have tf965 : mo_i (f945 (ρ h0 23)) = g901 := tfa_i hf_964
          have hf_966 : f922 (ρ h0 24) = .inl (κ 0, 400, .inl g904) := (hF923 _ (by rw [y9]; decide)).trans hf_o903
          have hf_967 : f945 (ρ h0 24) = .inl (κ 0, 400, .inl g904) := (hF946 _ (by rw [y9]; decide)).trans hf_966
          have tf968 : mo_i (f945 (ρ h0 24)) = g904 := tfa_i hf_967
          exact W.iret (v := 1) hx hb hr (fun t ht hW => ⟨⟨1, f945, rfl, ⟨hT, hR, (by first | decide | omega), (by first | (simp only [tf948, tf949, tf950, tf951, tf952, tf956, tf957, tf960, tf962, tf953, tf965, tf968, tf28, tf31, tf40, tf46, tf39, tf954, tf44, tf955, tf45, mo_i1, mo_l1]; exact (show (o947_x10.toInt ≤ o947_x11.toInt ∧ o947_x11.toInt ≤ o947_x9.toInt ∧ (o947_x12.toInt = 0 ∨ o947_x10.toInt < o947_x11.toInt) ∧ (o947_x12.toInt = 1 → o947_x11.toInt = o947_x10.toInt + 1 → o947_x13.toInt ≤ 26)) ∧ o947_x22.toInt + o947_x28.toInt ≤ o947_x10.toInt ∧ mo_PV (mo_R g925) (mo_R g928) o947_x28.toInt ∧ (o947_x15.toInt = 0 → mo_EX aa (1 : Int32).toInt (mo_R g901) (mo_R g904) (mo_R g925) (mo_R g928) o947_x22.toInt o947_x28.toInt ∧ mo_FR aa (mo_R g27) (mo_R g30) (mo_R g901) (mo_R g904) ∧ ((1 : Int32).toInt = 4 ∨ o38_x10.toInt < o947_x10.toInt ∨ (o947_x10.toInt = o38_x10.toInt ∧ (1 : Int32).toInt = 2))) ∧ o38_x22.toInt ≤ o947_x22.toInt ∧ o947_x9.toInt = o38_x9.toInt ∧ o947_x19.toInt = o38_x19.toInt ∧ o947_x20.toInt = o38_x20.toInt from ⟨by omega, by omega, ((h3.lt (n' := _) tk914.1).push (by omega) tk941.1 tk941.2.1 (by omega) (by omega) (by omega)), fun q9 => ⟨(mo_EX.bin h4.1 (tk914.2.2.2.1 (by omega)) (h4.2.2.1.lt tk914.1) (by omega) tk941.1 tk941.2.1 (by omega) (by omega) (fun q7 => hin9 (by omega))), (tk914.2.2.2.2.2.2.1 (by omega)), by have q8 : (1 : Int32).toInt = 1 := rfl; omega⟩, by omega, by omega, by omega, by omega⟩)) | (rw [tf948, tf949, tf950, tf951, tf952, tf956, tf957, tf960, tf962, tf953, tf965, tf968, tf28, tf31, tf40, tf46, tf39, tf954, tf44, tf955, tf45]; exact (show (o947_x10.toInt ≤ o947_x11.toInt ∧ o947_x11.toInt ≤ o947_x9.toInt ∧ (o947_x12.toInt = 0 ∨ o947_x10.toInt < o947_x11.toInt) ∧ (o947_x12.toInt = 1 → o947_x11.toInt = o947_x10.toInt + 1 → o947_x13.toInt ≤ 26)) ∧ o947_x22.toInt + o947_x28.toInt ≤ o947_x10.toInt ∧ mo_PV (mo_R g925) (mo_R g928) o947_x28.toInt ∧ (o947_x15.toInt = 0 → mo_EX aa (1 : Int32).toInt (mo_R g901) (mo_R g904) (mo_R g925) (mo_R g928) o947_x22.toInt o947_x28.toInt ∧ mo_FR aa (mo_R g27) (mo_R g30) (mo_R g901) (mo_R g904) ∧ ((1 : Int32).toInt = 4 ∨ o38_x10.toInt < o947_x10.toInt ∨ (o947_x10.toInt = o38_x10.toInt ∧ (1 : Int32).toInt = 2))) ∧ o38_x22.toInt ≤ o947_x22.toInt ∧ o947_x9.toInt = o38_x9.toInt ∧ o947_x19.toInt = o38_x19.toInt ∧ o947_x20.toInt = o38_x20.toInt from ⟨by omega, by omega, ((h3.lt (n' := _) tk914.1).push (by omega) tk941.1 tk941.2.1 (by omega) (by omega) (by omega)), fun q9 => ⟨(mo_EX.bin h4.1 (tk914.2.2.2.1 (by omega)) (h4.2.2.1.lt tk914.1) (by omega) tk941.1 tk941.2.1 (by omega) (by omega) (fun q7 => hin9 (by omega))), (tk914.2.2.2.2.2.2.1 (by omega)), by have q8 : (1 : Int32).toInt = 1 := rfl; omega⟩, by omega, by omega, by omega, by omega⟩)))⟩, by rw [ht]; exact hP, va_K.moved hW.alike hK, hD⟩, hS.F ht⟩) hS.2.2 dX12_behindSum_82
      · have ic61 : r58.toInt ≠ 0 := zi_eqf rfl rfl c61
        refine lv_bipush (v := 12) hx hb dX12_behindSum_37 (by decide) ?_
        refine lv_goto (tgt := 57) hx hb dX12_behindSum_39 (by decide) ?_
        refine lv_istore_n (lv' := [(2, .int 12), (0, .ref h0), (1, .int v)]) hx hb dX12_behindSum_57 rfl hl (by decide) rfl (fun ls hl => ?_)
        refine lv_iload_n hx hb dX12_behindSum_58 rfl (lv_at hl 0 rfl) ?_
        refine lv_iconst (v := (-1)) hx hb dX12_behindSum_59 (by decide) ?_
        refine lv_icmp_eq (tgt := 83) hx hb dX12_behindSum_60 (by decide) (fun c9 => absurd c9 (by decide)) (fun _ => ?_)
        refine lv_aload_n hx hb dX12_behindSum_63 rfl (lv_at hl 1 rfl) ?_
        refine lv_iload_n hx hb dX12_behindSum_64 rfl (lv_at hl 0 rfl) ?_
        refine pz_calli (va_runS (As := [.int 12]) (rest := [.ref h0]) ⟨hx, hb, hml, hown, hts⟩ (t_X12_binds l dC dI _ (12) (12) rfl) (va_cwS 1 hts gX12_behindSum_X12_binds rfl rfl rfl pd_X12_binds ⟨Nat.le_of_ble_eq_true rfl, Nat.le_of_ble_eq_true rfl⟩) ⟨pz_blind, pz_pre pz_P0 (hK.sub (tys' := []) [] rfl) (pz_D0 (A := fun _ => True)) hN⟩ rfl rfl hl.1 rfl (lv_room (Nat.le_of_ble_eq_true rfl)) dX12_behindSum_65 ⟨Nat.le_of_ble_eq_true rfl, Nat.le_of_ble_eq_true rfl⟩) (fun r969 hw970 => ?_)
        obtain ⟨hw970r, hw970p⟩ := hw970
        have hFc := tp_fr hD hS hA
        refine va_callv (va_runV (As := [.int r969]) (rest := []) ⟨hx, hb, hml, hown, hts⟩ (t_X12_settleDown l dC dI _ κ τ ν ρ L f hG hT h0 r969 aa ht_h0 (by first | decide | omega) (by first | (simp only [tf46, tf47, mo_i1, mo_l1]; exact (show o38_x22.toInt + o38_x28.toInt ≤ 400 from by omega)) | (rw [tf46, tf47]; exact (show o38_x22.toInt + o38_x28.toInt ≤ 400 from by omega))) (by first | (simp only [tf34, tf37, tf47, mo_i1, mo_l1]; exact (show mo_PV (mo_R g33) (mo_R g36) o38_x28.toInt from h3)) | (rw [tf34, tf37, tf47]; exact (show mo_PV (mo_R g33) (mo_R g36) o38_x28.toInt from h3))) (by first | (simp only [tf43, tf28, tf31, tf34, tf37, tf46, tf47, mo_i1, mo_l1]; exact (show (o38_x15.toInt = 0 → 0 ≤ aa ∧ mo_PJ aa (mo_R g27) (mo_R g30) (mo_R g33) (mo_R g36) o38_x22.toInt o38_x28.toInt 1) from fun _ => ⟨h4.1, h4.pj1 (by decide)⟩)) | (rw [tf43, tf28, tf31, tf34, tf37, tf46, tf47]; exact (show (o38_x15.toInt = 0 → 0 ≤ aa ∧ mo_PJ aa (mo_R g27) (mo_R g30) (mo_R g33) (mo_R g36) o38_x22.toInt o38_x28.toInt 1) from fun _ => ⟨h4.1, h4.pj1 (by decide)⟩)))) (cwV 1 hts gX12_behindSum_X12_settleDown rfl rfl rfl ⟨rfl, pd_X12_settleDown⟩ ⟨Nat.le_of_ble_eq_true rfl, Nat.le_of_ble_eq_true rfl⟩) ⟨pz_blind, va_recv hK hP (ci := 12) (q0 := q49) rfl eq49, pz_pre hP hK hD hN⟩ rfl rfl hl.1 rfl (lv_room (Nat.le_of_ble_eq_true rfl)) dX12_behindSum_68 ⟨Nat.le_of_ble_eq_true rfl, Nat.le_of_ble_eq_true rfl⟩) hS (fun q _ h => hFc q h) hFc (fun f973 t H1 locs ht hvm hw972 hB hz1 hk1 hS => ?_)
        obtain ⟨hT, hF974, hw972p⟩ := hw972
        have hR := hR.then hF974 (by decide)
        have hP := hB.1; rw [ht] at hP; have hD := tp_ad f973 hD; clear hB hFc hz1 hk1; subst ht; generalize t.heap = H at hP hS ⊢
        obtain ⟨o975_x0, o975_x1, o975_x7, o975_x9, o975_x10, o975_x11, o975_x12, o975_x13, o975_x14, o975_x15, o975_x16, o975_x17, o975_x18, o975_x19, o975_x20, o975_x22, o975_x25, o975_x28, o975_x29, o975_x32, o975_x33, o975_x34, o975_x35, o975_x36, o975_x37, o975_x38, o975_x47, o975_x48, hf_o975, ro975_0, ro975_1, ro975_2, ro975_3, ro975_4, ro975_5, ro975_6, ro975_7, ro975_8, ro975_9, ro975_10, ro975_11, ro975_12, ro975_13⟩ := tpo_13 hT ht_h0
        have tf976 : tp_fld (f973 h0) 28 = o975_x28.toInt := tff_28 hf_o975
        have tf977 : tp_fld (f973 h0) 22 = o975_x22.toInt := tff_22 hf_o975
        obtain ⟨g979, hf_o978⟩ := tpo_53 hT y8
        have tf980 : mo_i (f973 (ρ h0 23)) = g979 := tfa_i hf_o978
        obtain ⟨g982, hf_o981⟩ := tpo_54 hT y9
        have tf983 : mo_i (f973 (ρ h0 24)) = g982 := tfa_i hf_o981
        have tf984 : tp_fld (f973 h0) 9 = o975_x9.toInt := tff_9 hf_o975
        have tf985 : tp_fld (f973 h0) 10 = o975_x10.toInt := tff_10 hf_o975
        have tf986 : tp_fld (f973 h0) 11 = o975_x11.toInt := tff_11 hf_o975
        have tf987 : tp_fld (f973 h0) 12 = o975_x12.toInt := tff_12 hf_o975
        have tf988 : mo_fj (f973 h0) 13 = o975_x13.toInt := tff_13 hf_o975
        have tf989 : tp_fld (f973 h0) 15 = o975_x15.toInt := tff_15 hf_o975
        have tf990 : tp_fld (f973 h0) 19 = o975_x19.toInt := tff_19 hf_o975
        have tf991 : tp_fld (f973 h0) 20 = o975_x20.toInt := tff_20 hf_o975
        have tk992 : o975_x28.toInt ≤ o38_x28.toInt ∧ o38_x22.toInt ≤ o975_x22.toInt ∧ o975_x22.toInt + o975_x28.toInt ≤ o38_x22.toInt + o38_x28.toInt ∧ (o38_x15.toInt = 0 → mo_PJ aa (mo_R g979) (mo_R g982) (mo_R g33) (mo_R g36) o975_x22.toInt o975_x28.toInt 1) ∧ (∀ i, o975_x28.toInt ≤ i → i < o38_x28.toInt → (mo_R g33) i < 30 ∧ (5 ≤ r969.toInt → (mo_R g33) i < 14)) ∧ (o975_x28.toInt = 0 ∨ ((r969.toInt = 1 → 30 ≤ (mo_R g33) (o975_x28.toInt + -1)) ∧ (r969.toInt = 5 → 14 ≤ (mo_R g33) (o975_x28.toInt + -1)))) ∧ (o38_x15.toInt = 0 → mo_FR aa (mo_R g27) (mo_R g30) (mo_R g979) (mo_R g982)) ∧ o975_x9.toInt = o38_x9.toInt ∧ o975_x10.toInt = o38_x10.toInt ∧ o975_x11.toInt = o38_x11.toInt ∧ o975_x12.toInt = o38_x12.toInt ∧ o975_x13.toInt = o38_x13.toInt ∧ o975_x15.toInt = o38_x15.toInt ∧ o975_x19.toInt = o38_x19.toInt ∧ o975_x20.toInt = o38_x20.toInt := by have q9 := hw972p; first | (simp only [tf976, tf47, tf46, tf977, tf43, tf980, tf983, tf34, tf37, tf28, tf31, tf984, tf39, tf985, tf40, tf986, tf41, tf987, tf42, tf988, tf48, tf989, tf990, tf44, tf991, tf45, mo_i1, mo_l1] at q9; exact q9) | (rw [tf976, tf47, tf46, tf977, tf43, tf980, tf983, tf34, tf37, tf28, tf31, tf984, tf39, tf985, tf40, tf986, tf41, tf987, tf42, tf988, tf48, tf989, tf990, tf44, tf991, tf45] at q9; exact q9)
        have hin9 : False → mo_in (mo_R g33) (o975_x28.toInt).toNat ≠ 31 := fun q => q.elim
        refine lv_aload_n hx hb dX12_behindSum_71 rfl (lv_at hl 1 rfl) ?_
        refine lv_iload_n hx hb dX12_behindSum_72 rfl (lv_at hl 0 rfl) ?_
        refine lv_iconst (v := 0) hx hb dX12_behindSum_73 (by decide) ?_
        have hf_993 : f973 (ρ h0 26) = .inl (κ 0, 400, .inl g33) := (hF974 _ (by rw [y10]; decide)).trans hf_o32
        have tf994 : mo_i (f973 (ρ h0 26)) = g33 := tfa_i hf_993
        have hf_995 : f973 (ρ h0 27) = .inl (κ 0, 400, .inl g36) := (hF974 _ (by rw [y11]; decide)).trans hf_o35
        have tf996 : mo_i (f973 (ρ h0 27)) = g36 := tfa_i hf_995
        obtain ⟨q997, eq997⟩ := tp_pos (tp_in hG ht_h0 (by decide)) hf_o975
        have hFc := tp_fr hD hS hA
        refine va_callv (va_runV (As := [.int 12, .int 0]) (rest := []) ⟨hx, hb, hml, hown, hts⟩ (t_X12_push l dC dI _ κ τ ν ρ L f973 hG hT h0 (12) (0) ht_h0 (by first | (simp only [tf976, mo_i1, mo_l1]; exact (show o975_x28.toInt < 400 from by have : (12 : Int32).toInt = 12 := rfl; have : (0 : Int32).toInt = 0 := rfl; first | omega | decide)) | (rw [tf976]; exact (show o975_x28.toInt < 400 from by have : (12 : Int32).toInt = 12 := rfl; have : (0 : Int32).toInt = 0 := rfl; first | omega | decide)))) (cwV 2 hts gX12_behindSum_X12_push rfl rfl rfl ⟨rfl, pd_X12_push⟩ ⟨Nat.le_of_ble_eq_true rfl, Nat.le_of_ble_eq_true rfl⟩) ⟨pz_blind, va_recv hK hP (ci := 12) (q0 := q997) rfl eq997, pz_pre hP hK hD hN⟩ rfl rfl hl.1 rfl (lv_room (Nat.le_of_ble_eq_true rfl)) dX12_behindSum_74 ⟨Nat.le_of_ble_eq_true rfl, Nat.le_of_ble_eq_true rfl⟩) hS (fun q _ h => hFc q h) hFc (fun f1000 t H1 locs ht hvm hw999 hB hz1 hk1 hS => ?_)
        obtain ⟨hT, hF1001, hw999p⟩ := hw999
        have hR := hR.then hF1001 (by decide)
        have hP := hB.1; rw [ht] at hP; have hD := tp_ad f1000 hD; clear hB hFc hz1 hk1; subst ht; generalize t.heap = H at hP hS ⊢
        obtain ⟨g1003, hf_o1002⟩ := tpo_56 hT y10
        have tf1004 : mo_i (f1000 (ρ h0 26)) = g1003 := tfa_i hf_o1002
        obtain ⟨g1006, hf_o1005⟩ := tpo_57 hT y11
        have tf1007 : mo_i (f1000 (ρ h0 27)) = g1006 := tfa_i hf_o1005
        obtain ⟨o1008_x0, o1008_x1, o1008_x7, o1008_x9, o1008_x10, o1008_x11, o1008_x12, o1008_x13, o1008_x14, o1008_x15, o1008_x16, o1008_x17, o1008_x18, o1008_x19, o1008_x20, o1008_x22, o1008_x25, o1008_x28, o1008_x29, o1008_x32, o1008_x33, o1008_x34, o1008_x35, o1008_x36, o1008_x37, o1008_x38, o1008_x47, o1008_x48, hf_o1008, ro1008_0, ro1008_1, ro1008_2, ro1008_3, ro1008_4, ro1008_5, ro1008_6, ro1008_7, ro1008_8, ro1008_9, ro1008_10, ro1008_11, ro1008_12, ro1008_13⟩ := tpo_13 hT ht_h0
        have tf1009 : tp_fld (f1000 h0) 28 = o1008_x28.toInt := tff_28 hf_o1008
        have tf1010 : tp_fld (f1000 h0) 9 = o1008_x9.toInt := tff_9 hf_o1008
        have tf1011 : tp_fld (f1000 h0) 10 = o1008_x10.toInt := tff_10 hf_o1008
        have tf1012 : tp_fld (f1000 h0) 11 = o1008_x11.toInt := tff_11 hf_o1008
        have tf1013 : tp_fld (f1000 h0) 12 = o1008_x12.toInt := tff_12 hf_o1008
        have tf1014 : mo_fj (f1000 h0) 13 = o1008_x13.toInt := tff_13 hf_o1008
        have tf1015 : tp_fld (f1000 h0) 15 = o1008_x15.toInt := tff_15 hf_o1008
        have tf1016 : tp_fld (f1000 h0) 19 = o1008_x19.toInt := tff_19 hf_o1008
        have tf1017 : tp_fld (f1000 h0) 20 = o1008_x20.toInt := tff_20 hf_o1008
        have tf1018 : tp_fld (f1000 h0) 22 = o1008_x22.toInt := tff_22 hf_o1008
        have tk1019 : mo_U (mo_R g33) (mo_R g1003) o975_x28.toInt (12 : Int) ∧ mo_U (mo_R g36) (mo_R g1006) o975_x28.toInt (0 : Int) ∧ o1008_x28.toInt = o975_x28.toInt + 1 ∧ o1008_x9.toInt = o975_x9.toInt ∧ o1008_x10.toInt = o975_x10.toInt ∧ o1008_x11.toInt = o975_x11.toInt ∧ o1008_x12.toInt = o975_x12.toInt ∧ o1008_x13.toInt = o975_x13.toInt ∧ o1008_x15.toInt = o975_x15.toInt ∧ o1008_x19.toInt = o975_x19.toInt ∧ o1008_x20.toInt = o975_x20.toInt ∧ o1008_x22.toInt = o975_x22.toInt := by have q9 := hw999p; first | (simp only [tf994, tf1004, tf976, tf996, tf1007, tf1009, tf1010, tf984, tf1011, tf985, tf1012, tf986, tf1013, tf987, tf1014, tf988, tf1015, tf989, tf1016, tf990, tf1017, tf991, tf1018, tf977, mo_i1, mo_l1] at q9; exact q9) | (rw [tf994, tf1004, tf976, tf996, tf1007, tf1009, tf1010, tf984, tf1011, tf985, tf1012, tf986, tf1013, tf987, tf1014, tf988, tf1015, tf989, tf1016, tf990, tf1017, tf991, tf1018, tf977] at q9; exact q9)
        refine lv_aload_n hx hb dX12_behindSum_77 rfl (lv_at hl 1 rfl) ?_
        obtain ⟨q1020, eq1020⟩ := tp_pos (tp_in hG ht_h0 (by decide)) hf_o1008
        have hFc := tp_fr hD hS hA
        refine va_callv (va_runV (As := []) (rest := []) ⟨hx, hb, hml, hown, hts⟩ (t_X12_next l dC dI _ κ τ ν ρ L f1000 hG hT h0 ht_h0 (by first | (simp only [tf1012, tf1010, mo_i1, mo_l1]; exact (show o1008_x11.toInt ≤ o1008_x9.toInt from by first | omega | decide)) | (rw [tf1012, tf1010]; exact (show o1008_x11.toInt ≤ o1008_x9.toInt from by first | omega | decide)))) (cwV 0 hts gX12_behindSum_X12_next rfl rfl rfl ⟨rfl, pd_X12_next⟩ ⟨Nat.le_of_ble_eq_true rfl, Nat.le_of_ble_eq_true rfl⟩) ⟨pz_blind, va_recv hK hP (ci := 12) (q0 := q1020) rfl eq1020, pz_pre hP hK hD hN⟩ rfl rfl hl.1 rfl (lv_room (Nat.le_of_ble_eq_true rfl)) dX12_behindSum_78 ⟨Nat.le_of_ble_eq_true rfl, Nat.le_of_ble_eq_true rfl⟩) hS (fun q _ h => hFc q h) hFc (fun f1023 t H1 locs ht hvm hw1022 hB hz1 hk1 hS => ?_)
        obtain ⟨hT, hF1024, hw1022p⟩ := hw1022
        have hR := hR.then hF1024 (by decide)
        have hP := hB.1; rw [ht] at hP; have hD := tp_ad f1023 hD; clear hB hFc hz1 hk1; subst ht; generalize t.heap = H at hP hS ⊢
        obtain ⟨o1025_x0, o1025_x1, o1025_x7, o1025_x9, o1025_x10, o1025_x11, o1025_x12, o1025_x13, o1025_x14, o1025_x15, o1025_x16, o1025_x17, o1025_x18, o1025_x19, o1025_x20, o1025_x22, o1025_x25, o1025_x28, o1025_x29, o1025_x32, o1025_x33, o1025_x34, o1025_x35, o1025_x36, o1025_x37, o1025_x38, o1025_x47, o1025_x48, hf_o1025, ro1025_0, ro1025_1, ro1025_2, ro1025_3, ro1025_4, ro1025_5, ro1025_6, ro1025_7, ro1025_8, ro1025_9, ro1025_10, ro1025_11, ro1025_12, ro1025_13⟩ := tpo_13 hT ht_h0
        have tf1026 : tp_fld (f1023 h0) 10 = o1025_x10.toInt := tff_10 hf_o1025
        have tf1027 : tp_fld (f1023 h0) 11 = o1025_x11.toInt := tff_11 hf_o1025
        have tf1028 : tp_fld (f1023 h0) 9 = o1025_x9.toInt := tff_9 hf_o1025
        have tf1029 : tp_fld (f1023 h0) 12 = o1025_x12.toInt := tff_12 hf_o1025
        have tf1030 : mo_fj (f1023 h0) 13 = o1025_x13.toInt := tff_13 hf_o1025
        have tf1031 : tp_fld (f1023 h0) 15 = o1025_x15.toInt := tff_15 hf_o1025
        have tf1032 : tp_fld (f1023 h0) 19 = o1025_x19.toInt := tff_19 hf_o1025
        have tf1033 : tp_fld (f1023 h0) 20 = o1025_x20.toInt := tff_20 hf_o1025
        have tf1034 : tp_fld (f1023 h0) 22 = o1025_x22.toInt := tff_22 hf_o1025
        have tf1035 : tp_fld (f1023 h0) 28 = o1025_x28.toInt := tff_28 hf_o1025
        have tk1036 : (o1025_x10.toInt ≤ o1025_x11.toInt ∧ o1025_x11.toInt ≤ o1025_x9.toInt ∧ (o1025_x12.toInt = 0 ∨ o1025_x10.toInt < o1025_x11.toInt) ∧ (o1025_x12.toInt = 1 → o1025_x11.toInt = o1025_x10.toInt + 1 → o1025_x13.toInt ≤ 26)) ∧ o1008_x11.toInt ≤ o1025_x10.toInt ∧ o1025_x9.toInt = o1008_x9.toInt ∧ o1025_x15.toInt = o1008_x15.toInt ∧ o1025_x19.toInt = o1008_x19.toInt ∧ o1025_x20.toInt = o1008_x20.toInt ∧ o1025_x22.toInt = o1008_x22.toInt ∧ o1025_x28.toInt = o1008_x28.toInt := by have q9 := hw1022p; first | (simp only [tf1026, tf1027, tf1028, tf1029, tf1030, tf1012, tf1010, tf1031, tf1015, tf1032, tf1016, tf1033, tf1017, tf1034, tf1018, tf1035, tf1009, mo_i1, mo_l1] at q9; exact q9) | (rw [tf1026, tf1027, tf1028, tf1029, tf1030, tf1012, tf1010, tf1031, tf1015, tf1032, tf1016, tf1033, tf1017, tf1034, tf1018, tf1035, tf1009] at q9; exact q9)
        refine lv_iconst (v := 1) hx hb dX12_behindSum_81 (by decide) ?_
        have hf_1037 : f1023 (ρ h0 26) = .inl (κ 0, 400, .inl g1003) := (hF1024 _ (by rw [y10]; decide)).trans hf_o1002
        have tf1038 : mo_i (f1023 (ρ h0 26)) = g1003 := tfa_i hf_1037
        have hf_1039 : f1023 (ρ h0 27) = .inl (κ 0, 400, .inl g1006) := (hF1024 _ (by rw [y11]; decide)).trans hf_o1005
        have tf1040 : mo_i (f1023 (ρ h0 27)) = g1006 := tfa_i hf_1039
        have hf_1041 : f1000 (ρ h0 23) = .inl (κ 0, 400, .inl g979) := (hF1001 _ (by rw [y8]; decide)).trans hf_o978
        have hf_1042 : f1023 (ρ h0 23) = .inl (κ 0, 400, .inl g979) := (hF1024 _ (by rw [y8]; decide)).trans hf_1041
        have tf1043 : mo_i (f1023 (ρ h0 23)) = g979 := tfa_i hf_1042
        have hf_1044 : f1000 (ρ h0 24) = .inl (κ 0, 400, .inl g982) := (hF1001 _ (by rw [y9]; decide)).trans hf_o981
        have hf_1045 : f1023 (ρ h0 24) = .inl (κ 0, 400, .inl g982) := (hF1024 _ (by rw [y9]; decide)).trans hf_1044
        have tf1046 : mo_i (f1023 (ρ h0 24)) = g982 := tfa_i hf_1045
        exact W.iret (v := 1) hx hb hr (fun t ht hW => ⟨⟨1, f1023, rfl, ⟨hT, hR, (by first | decide | omega), (by first | (simp only [tf1026, tf1027, tf1028, tf1029, tf1030, tf1034, tf1035, tf1038, tf1040, tf1031, tf1043, tf1046, tf28, tf31, tf40, tf46, tf39, tf1032, tf44, tf1033, tf45, mo_i1, mo_l1]; exact (show (o1025_x10.toInt ≤ o1025_x11.toInt ∧ o1025_x11.toInt ≤ o1025_x9.toInt ∧ (o1025_x12.toInt = 0 ∨ o1025_x10.toInt < o1025_x11.toInt) ∧ (o1025_x12.toInt = 1 → o1025_x11.toInt = o1025_x10.toInt + 1 → o1025_x13.toInt ≤ 26)) ∧ o1025_x22.toInt + o1025_x28.toInt ≤ o1025_x10.toInt ∧ mo_PV (mo_R g1003) (mo_R g1006) o1025_x28.toInt ∧ (o1025_x15.toInt = 0 → mo_EX aa (1 : Int32).toInt (mo_R g979) (mo_R g982) (mo_R g1003) (mo_R g1006) o1025_x22.toInt o1025_x28.toInt ∧ mo_FR aa (mo_R g27) (mo_R g30) (mo_R g979) (mo_R g982) ∧ ((1 : Int32).toInt = 4 ∨ o38_x10.toInt < o1025_x10.toInt ∨ (o1025_x10.toInt = o38_x10.toInt ∧ (1 : Int32).toInt = 2))) ∧ o38_x22.toInt ≤ o1025_x22.toInt ∧ o1025_x9.toInt = o38_x9.toInt ∧ o1025_x19.toInt = o38_x19.toInt ∧ o1025_x20.toInt = o38_x20.toInt from ⟨by omega, by omega, ((h3.lt (n' := _) tk992.1).push (by omega) tk1019.1 tk1019.2.1 (by omega) (by omega) (by omega)), fun q9 => ⟨(mo_EX.bin h4.1 (tk992.2.2.2.1 (by omega)) (h4.2.2.1.lt tk992.1) (by omega) tk1019.1 tk1019.2.1 (by omega) (by omega) (fun q7 => hin9 (by omega))), (tk992.2.2.2.2.2.2.1 (by omega)), by have q8 : (1 : Int32).toInt = 1 := rfl; omega⟩, by omega, by omega, by omega, by omega⟩)) | (rw [tf1026, tf1027, tf1028, tf1029, tf1030, tf1034, tf1035, tf1038, tf1040, tf1031, tf1043, tf1046, tf28, tf31, tf40, tf46, tf39, tf1032, tf44, tf1033, tf45]; exact (show (o1025_x10.toInt ≤ o1025_x11.toInt ∧ o1025_x11.toInt ≤ o1025_x9.toInt ∧ (o1025_x12.toInt = 0 ∨ o1025_x10.toInt < o1025_x11.toInt) ∧ (o1025_x12.toInt = 1 → o1025_x11.toInt = o1025_x10.toInt + 1 → o1025_x13.toInt ≤ 26)) ∧ o1025_x22.toInt + o1025_x28.toInt ≤ o1025_x10.toInt ∧ mo_PV (mo_R g1003) (mo_R g1006) o1025_x28.toInt ∧ (o1025_x15.toInt = 0 → mo_EX aa (1 : Int32).toInt (mo_R g979) (mo_R g982) (mo_R g1003) (mo_R g1006) o1025_x22.toInt o1025_x28.toInt ∧ mo_FR aa (mo_R g27) (mo_R g30) (mo_R g979) (mo_R g982) ∧ ((1 : Int32).toInt = 4 ∨ o38_x10.toInt < o1025_x10.toInt ∨ (o1025_x10.toInt = o38_x10.toInt ∧ (1 : Int32).toInt = 2))) ∧ o38_x22.toInt ≤ o1025_x22.toInt ∧ o1025_x9.toInt = o38_x9.toInt ∧ o1025_x19.toInt = o38_x19.toInt ∧ o1025_x20.toInt = o38_x20.toInt from ⟨by omega, by omega, ((h3.lt (n' := _) tk992.1).push (by omega) tk1019.1 tk1019.2.1 (by omega) (by omega) (by omega)), fun q9 => ⟨(mo_EX.bin h4.1 (tk992.2.2.2.1 (by omega)) (h4.2.2.1.lt tk992.1) (by omega) tk1019.1 tk1019.2.1 (by omega) (by omega) (fun q7 => hin9 (by omega))), (tk992.2.2.2.2.2.2.1 (by omega)), by have q8 : (1 : Int32).toInt = 1 := rfl; omega⟩, by omega, by omega, by omega, by omega⟩)))⟩, by rw [ht]; exact hP, va_K.moved hW.alike hK, hD⟩, hS.F ht⟩) hS.2.2 dX12_behindSum_82
    · have ic57 : r54.toInt ≠ 0 := zi_eqf rfl rfl c57
      refine lv_bipush (v := 11) hx hb dX12_behindSum_23 (by decide) ?_
      refine lv_goto (tgt := 57) hx hb dX12_behindSum_25 (by decide) ?_
      refine lv_istore_n (lv' := [(2, .int 11), (0, .ref h0), (1, .int v)]) hx hb dX12_behindSum_57 rfl hl (by decide) rfl (fun ls hl => ?_)
      refine lv_iload_n hx hb dX12_behindSum_58 rfl (lv_at hl 0 rfl) ?_
      refine lv_iconst (v := (-1)) hx hb dX12_behindSum_59 (by decide) ?_
      refine lv_icmp_eq (tgt := 83) hx hb dX12_behindSum_60 (by decide) (fun c9 => absurd c9 (by decide)) (fun _ => ?_)
      refine lv_aload_n hx hb dX12_behindSum_63 rfl (lv_at hl 1 rfl) ?_
      refine lv_iload_n hx hb dX12_behindSum_64 rfl (lv_at hl 0 rfl) ?_
      refine pz_calli (va_runS (As := [.int 11]) (rest := [.ref h0]) ⟨hx, hb, hml, hown, hts⟩ (t_X12_binds l dC dI _ (11) (11) rfl) (va_cwS 1 hts gX12_behindSum_X12_binds rfl rfl rfl pd_X12_binds ⟨Nat.le_of_ble_eq_true rfl, Nat.le_of_ble_eq_true rfl⟩) ⟨pz_blind, pz_pre pz_P0 (hK.sub (tys' := []) [] rfl) (pz_D0 (A := fun _ => True)) hN⟩ rfl rfl hl.1 rfl (lv_room (Nat.le_of_ble_eq_true rfl)) dX12_behindSum_65 ⟨Nat.le_of_ble_eq_true rfl, Nat.le_of_ble_eq_true rfl⟩) (fun r1047 hw1048 => ?_)
      obtain ⟨hw1048r, hw1048p⟩ := hw1048
      have hFc := tp_fr hD hS hA
      refine va_callv (va_runV (As := [.int r1047]) (rest := []) ⟨hx, hb, hml, hown, hts⟩ (t_X12_settleDown l dC dI _ κ τ ν ρ L f hG hT h0 r1047 aa ht_h0 (by first | decide | omega) (by first | (simp only [tf46, tf47, mo_i1, mo_l1]; exact (show o38_x22.toInt + o38_x28.toInt ≤ 400 from by omega)) | (rw [tf46, tf47]; exact (show o38_x22.toInt + o38_x28.toInt ≤ 400 from by omega))) (by first | (simp only [tf34, tf37, tf47, mo_i1, mo_l1]; exact (show mo_PV (mo_R g33) (mo_R g36) o38_x28.toInt from h3)) | (rw [tf34, tf37, tf47]; exact (show mo_PV (mo_R g33) (mo_R g36) o38_x28.toInt from h3))) (by first | (simp only [tf43, tf28, tf31, tf34, tf37, tf46, tf47, mo_i1, mo_l1]; exact (show (o38_x15.toInt = 0 → 0 ≤ aa ∧ mo_PJ aa (mo_R g27) (mo_R g30) (mo_R g33) (mo_R g36) o38_x22.toInt o38_x28.toInt 1) from fun _ => ⟨h4.1, h4.pj1 (by decide)⟩)) | (rw [tf43, tf28, tf31, tf34, tf37, tf46, tf47]; exact (show (o38_x15.toInt = 0 → 0 ≤ aa ∧ mo_PJ aa (mo_R g27) (mo_R g30) (mo_R g33) (mo_R g36) o38_x22.toInt o38_x28.toInt 1) from fun _ => ⟨h4.1, h4.pj1 (by decide)⟩)))) (cwV 1 hts gX12_behindSum_X12_settleDown rfl rfl rfl ⟨rfl, pd_X12_settleDown⟩ ⟨Nat.le_of_ble_eq_true rfl, Nat.le_of_ble_eq_true rfl⟩) ⟨pz_blind, va_recv hK hP (ci := 12) (q0 := q49) rfl eq49, pz_pre hP hK hD hN⟩ rfl rfl hl.1 rfl (lv_room (Nat.le_of_ble_eq_true rfl)) dX12_behindSum_68 ⟨Nat.le_of_ble_eq_true rfl, Nat.le_of_ble_eq_true rfl⟩) hS (fun q _ h => hFc q h) hFc (fun f1051 t H1 locs ht hvm hw1050 hB hz1 hk1 hS => ?_)
      obtain ⟨hT, hF1052, hw1050p⟩ := hw1050
      have hR := hR.then hF1052 (by decide)
      have hP := hB.1; rw [ht] at hP; have hD := tp_ad f1051 hD; clear hB hFc hz1 hk1; subst ht; generalize t.heap = H at hP hS ⊢
      obtain ⟨o1053_x0, o1053_x1, o1053_x7, o1053_x9, o1053_x10, o1053_x11, o1053_x12, o1053_x13, o1053_x14, o1053_x15, o1053_x16, o1053_x17, o1053_x18, o1053_x19, o1053_x20, o1053_x22, o1053_x25, o1053_x28, o1053_x29, o1053_x32, o1053_x33, o1053_x34, o1053_x35, o1053_x36, o1053_x37, o1053_x38, o1053_x47, o1053_x48, hf_o1053, ro1053_0, ro1053_1, ro1053_2, ro1053_3, ro1053_4, ro1053_5, ro1053_6, ro1053_7, ro1053_8, ro1053_9, ro1053_10, ro1053_11, ro1053_12, ro1053_13⟩ := tpo_13 hT ht_h0
      have tf1054 : tp_fld (f1051 h0) 28 = o1053_x28.toInt := tff_28 hf_o1053
      have tf1055 : tp_fld (f1051 h0) 22 = o1053_x22.toInt := tff_22 hf_o1053
      obtain ⟨g1057, hf_o1056⟩ := tpo_53 hT y8
      have tf1058 : mo_i (f1051 (ρ h0 23)) = g1057 := tfa_i hf_o1056
      obtain ⟨g1060, hf_o1059⟩ := tpo_54 hT y9
      have tf1061 : mo_i (f1051 (ρ h0 24)) = g1060 := tfa_i hf_o1059
      have tf1062 : tp_fld (f1051 h0) 9 = o1053_x9.toInt := tff_9 hf_o1053
      have tf1063 : tp_fld (f1051 h0) 10 = o1053_x10.toInt := tff_10 hf_o1053
      have tf1064 : tp_fld (f1051 h0) 11 = o1053_x11.toInt := tff_11 hf_o1053
      have tf1065 : tp_fld (f1051 h0) 12 = o1053_x12.toInt := tff_12 hf_o1053
      have tf1066 : mo_fj (f1051 h0) 13 = o1053_x13.toInt := tff_13 hf_o1053
      have tf1067 : tp_fld (f1051 h0) 15 = o1053_x15.toInt := tff_15 hf_o1053
      have tf1068 : tp_fld (f1051 h0) 19 = o1053_x19.toInt := tff_19 hf_o1053
      have tf1069 : tp_fld (f1051 h0) 20 = o1053_x20.toInt := tff_20 hf_o1053
      have tk1070 : o1053_x28.toInt ≤ o38_x28.toInt ∧ o38_x22.toInt ≤ o1053_x22.toInt ∧ o1053_x22.toInt + o1053_x28.toInt ≤ o38_x22.toInt + o38_x28.toInt ∧ (o38_x15.toInt = 0 → mo_PJ aa (mo_R g1057) (mo_R g1060) (mo_R g33) (mo_R g36) o1053_x22.toInt o1053_x28.toInt 1) ∧ (∀ i, o1053_x28.toInt ≤ i → i < o38_x28.toInt → (mo_R g33) i < 30 ∧ (5 ≤ r1047.toInt → (mo_R g33) i < 14)) ∧ (o1053_x28.toInt = 0 ∨ ((r1047.toInt = 1 → 30 ≤ (mo_R g33) (o1053_x28.toInt + -1)) ∧ (r1047.toInt = 5 → 14 ≤ (mo_R g33) (o1053_x28.toInt + -1)))) ∧ (o38_x15.toInt = 0 → mo_FR aa (mo_R g27) (mo_R g30) (mo_R g1057) (mo_R g1060)) ∧ o1053_x9.toInt = o38_x9.toInt ∧ o1053_x10.toInt = o38_x10.toInt ∧ o1053_x11.toInt = o38_x11.toInt ∧ o1053_x12.toInt = o38_x12.toInt ∧ o1053_x13.toInt = o38_x13.toInt ∧ o1053_x15.toInt = o38_x15.toInt ∧ o1053_x19.toInt = o38_x19.toInt ∧ o1053_x20.toInt = o38_x20.toInt := by have q9 := hw1050p; first | (simp only [tf1054, tf47, tf46, tf1055, tf43, tf1058, tf1061, tf34, tf37, tf28, tf31, tf1062, tf39, tf1063, tf40, tf1064, tf41, tf1065, tf42, tf1066, tf48, tf1067, tf1068, tf44, tf1069, tf45, mo_i1, mo_l1] at q9; exact q9) | (rw [tf1054, tf47, tf46, tf1055, tf43, tf1058, tf1061, tf34, tf37, tf28, tf31, tf1062, tf39, tf1063, tf40, tf1064, tf41, tf1065, tf42, tf1066, tf48, tf1067, tf1068, tf44, tf1069, tf45] at q9; exact q9)
      have hin9 : False → mo_in (mo_R g33) (o1053_x28.toInt).toNat ≠ 31 := fun q => q.elim
      refine lv_aload_n hx hb dX12_behindSum_71 rfl (lv_at hl 1 rfl) ?_
      refine lv_iload_n hx hb dX12_behindSum_72 rfl (lv_at hl 0 rfl) ?_
      refine lv_iconst (v := 0) hx hb dX12_behindSum_73 (by decide) ?_
      have hf_1071 : f1051 (ρ h0 26) = .inl (κ 0, 400, .inl g33) := (hF1052 _ (by rw [y10]; decide)).trans hf_o32
      have tf1072 : mo_i (f1051 (ρ h0 26)) = g33 := tfa_i hf_1071
      have hf_1073 : f1051 (ρ h0 27) = .inl (κ 0, 400, .inl g36) := (hF1052 _ (by rw [y11]; decide)).trans hf_o35
      have tf1074 : mo_i (f1051 (ρ h0 27)) = g36 := tfa_i hf_1073
      obtain ⟨q1075, eq1075⟩ := tp_pos (tp_in hG ht_h0 (by decide)) hf_o1053
      have hFc := tp_fr hD hS hA
      refine va_callv (va_runV (As := [.int 11, .int 0]) (rest := []) ⟨hx, hb, hml, hown, hts⟩ (t_X12_push l dC dI _ κ τ ν ρ L f1051 hG hT h0 (11) (0) ht_h0 (by first | (simp only [tf1054, mo_i1, mo_l1]; exact (show o1053_x28.toInt < 400 from by have : (11 : Int32).toInt = 11 := rfl; have : (0 : Int32).toInt = 0 := rfl; first | omega | decide)) | (rw [tf1054]; exact (show o1053_x28.toInt < 400 from by have : (11 : Int32).toInt = 11 := rfl; have : (0 : Int32).toInt = 0 := rfl; first | omega | decide)))) (cwV 2 hts gX12_behindSum_X12_push rfl rfl rfl ⟨rfl, pd_X12_push⟩ ⟨Nat.le_of_ble_eq_true rfl, Nat.le_of_ble_eq_true rfl⟩) ⟨pz_blind, va_recv hK hP (ci := 12) (q0 := q1075) rfl eq1075, pz_pre hP hK hD hN⟩ rfl rfl hl.1 rfl (lv_room (Nat.le_of_ble_eq_true rfl)) dX12_behindSum_74 ⟨Nat.le_of_ble_eq_true rfl, Nat.le_of_ble_eq_true rfl⟩) hS (fun q _ h => hFc q h) hFc (fun f1078 t H1 locs ht hvm hw1077 hB hz1 hk1 hS => ?_)
      obtain ⟨hT, hF1079, hw1077p⟩ := hw1077
      have hR := hR.then hF1079 (by decide)
      have hP := hB.1; rw [ht] at hP; have hD := tp_ad f1078 hD; clear hB hFc hz1 hk1; subst ht; generalize t.heap = H at hP hS ⊢
      obtain ⟨g1081, hf_o1080⟩ := tpo_56 hT y10
      have tf1082 : mo_i (f1078 (ρ h0 26)) = g1081 := tfa_i hf_o1080
      obtain ⟨g1084, hf_o1083⟩ := tpo_57 hT y11
      have tf1085 : mo_i (f1078 (ρ h0 27)) = g1084 := tfa_i hf_o1083
      obtain ⟨o1086_x0, o1086_x1, o1086_x7, o1086_x9, o1086_x10, o1086_x11, o1086_x12, o1086_x13, o1086_x14, o1086_x15, o1086_x16, o1086_x17, o1086_x18, o1086_x19, o1086_x20, o1086_x22, o1086_x25, o1086_x28, o1086_x29, o1086_x32, o1086_x33, o1086_x34, o1086_x35, o1086_x36, o1086_x37, o1086_x38, o1086_x47, o1086_x48, hf_o1086, ro1086_0, ro1086_1, ro1086_2, ro1086_3, ro1086_4, ro1086_5, ro1086_6, ro1086_7, ro1086_8, ro1086_9, ro1086_10, ro1086_11, ro1086_12, ro1086_13⟩ := tpo_13 hT ht_h0
      have tf1087 : tp_fld (f1078 h0) 28 = o1086_x28.toInt := tff_28 hf_o1086
      have tf1088 : tp_fld (f1078 h0) 9 = o1086_x9.toInt := tff_9 hf_o1086
      have tf1089 : tp_fld (f1078 h0) 10 = o1086_x10.toInt := tff_10 hf_o1086
      have tf1090 : tp_fld (f1078 h0) 11 = o1086_x11.toInt := tff_11 hf_o1086
      have tf1091 : tp_fld (f1078 h0) 12 = o1086_x12.toInt := tff_12 hf_o1086
      have tf1092 : mo_fj (f1078 h0) 13 = o1086_x13.toInt := tff_13 hf_o1086
      have tf1093 : tp_fld (f1078 h0) 15 = o1086_x15.toInt := tff_15 hf_o1086
      have tf1094 : tp_fld (f1078 h0) 19 = o1086_x19.toInt := tff_19 hf_o1086
      have tf1095 : tp_fld (f1078 h0) 20 = o1086_x20.toInt := tff_20 hf_o1086
      have tf1096 : tp_fld (f1078 h0) 22 = o1086_x22.toInt := tff_22 hf_o1086
      have tk1097 : mo_U (mo_R g33) (mo_R g1081) o1053_x28.toInt (11 : Int) ∧ mo_U (mo_R g36) (mo_R g1084) o1053_x28.toInt (0 : Int) ∧ o1086_x28.toInt = o1053_x28.toInt + 1 ∧ o1086_x9.toInt = o1053_x9.toInt ∧ o1086_x10.toInt = o1053_x10.toInt ∧ o1086_x11.toInt = o1053_x11.toInt ∧ o1086_x12.toInt = o1053_x12.toInt ∧ o1086_x13.toInt = o1053_x13.toInt ∧ o1086_x15.toInt = o1053_x15.toInt ∧ o1086_x19.toInt = o1053_x19.toInt ∧ o1086_x20.toInt = o1053_x20.toInt ∧ o1086_x22.toInt = o1053_x22.toInt := by have q9 := hw1077p; first | (simp only [tf1072, tf1082, tf1054, tf1074, tf1085, tf1087, tf1088, tf1062, tf1089, tf1063, tf1090, tf1064, tf1091, tf1065, tf1092, tf1066, tf1093, tf1067, tf1094, tf1068, tf1095, tf1069, tf1096, tf1055, mo_i1, mo_l1] at q9; exact q9) | (rw [tf1072, tf1082, tf1054, tf1074, tf1085, tf1087, tf1088, tf1062, tf1089, tf1063, tf1090, tf1064, tf1091, tf1065, tf1092, tf1066, tf1093, tf1067, tf1094, tf1068, tf1095, tf1069, tf1096, tf1055] at q9; exact q9)
      refine lv_aload_n hx hb dX12_behindSum_77 rfl (lv_at hl 1 rfl) ?_
      obtain ⟨q1098, eq1098⟩ := tp_pos (tp_in hG ht_h0 (by decide)) hf_o1086
      have hFc := tp_fr hD hS hA
      refine va_callv (va_runV (As := []) (rest := []) ⟨hx, hb, hml, hown, hts⟩ (t_X12_next l dC dI _ κ τ ν ρ L f1078 hG hT h0 ht_h0 (by first | (simp only [tf1090, tf1088, mo_i1, mo_l1]; exact (show o1086_x11.toInt ≤ o1086_x9.toInt from by first | omega | decide)) | (rw [tf1090, tf1088]; exact (show o1086_x11.toInt ≤ o1086_x9.toInt from by first | omega | decide)))) (cwV 0 hts gX12_behindSum_X12_next rfl rfl rfl ⟨rfl, pd_X12_next⟩ ⟨Nat.le_of_ble_eq_true rfl, Nat.le_of_ble_eq_true rfl⟩) ⟨pz_blind, va_recv hK hP (ci := 12) (q0 := q1098) rfl eq1098, pz_pre hP hK hD hN⟩ rfl rfl hl.1 rfl (lv_room (Nat.le_of_ble_eq_true rfl)) dX12_behindSum_78 ⟨Nat.le_of_ble_eq_true rfl, Nat.le_of_ble_eq_true rfl⟩) hS (fun q _ h => hFc q h) hFc (fun f1101 t H1 locs ht hvm hw1100 hB hz1 hk1 hS => ?_)
      obtain ⟨hT, hF1102, hw1100p⟩ := hw1100
      have hR := hR.then hF1102 (by decide)
      have hP := hB.1; rw [ht] at hP; have hD := tp_ad f1101 hD; clear hB hFc hz1 hk1; subst ht; generalize t.heap = H at hP hS ⊢
      obtain ⟨o1103_x0, o1103_x1, o1103_x7, o1103_x9, o1103_x10, o1103_x11, o1103_x12, o1103_x13, o1103_x14, o1103_x15, o1103_x16, o1103_x17, o1103_x18, o1103_x19, o1103_x20, o1103_x22, o1103_x25, o1103_x28, o1103_x29, o1103_x32, o1103_x33, o1103_x34, o1103_x35, o1103_x36, o1103_x37, o1103_x38, o1103_x47, o1103_x48, hf_o1103, ro1103_0, ro1103_1, ro1103_2, ro1103_3, ro1103_4, ro1103_5, ro1103_6, ro1103_7, ro1103_8, ro1103_9, ro1103_10, ro1103_11, ro1103_12, ro1103_13⟩ := tpo_13 hT ht_h0
      have tf1104 : tp_fld (f1101 h0) 10 = o1103_x10.toInt := tff_10 hf_o1103
      have tf1105 : tp_fld (f1101 h0) 11 = o1103_x11.toInt := tff_11 hf_o1103
      have tf1106 : tp_fld (f1101 h0) 9 = o1103_x9.toInt := tff_9 hf_o1103
      have tf1107 : tp_fld (f1101 h0) 12 = o1103_x12.toInt := tff_12 hf_o1103
      have tf1108 : mo_fj (f1101 h0) 13 = o1103_x13.toInt := tff_13 hf_o1103
      have tf1109 : tp_fld (f1101 h0) 15 = o1103_x15.toInt := tff_15 hf_o1103
      have tf1110 : tp_fld (f1101 h0) 19 = o1103_x19.toInt := tff_19 hf_o1103
      have tf1111 : tp_fld (f1101 h0) 20 = o1103_x20.toInt := tff_20 hf_o1103
      have tf1112 : tp_fld (f1101 h0) 22 = o1103_x22.toInt := tff_22 hf_o1103
      have tf1113 : tp_fld (f1101 h0) 28 = o1103_x28.toInt := tff_28 hf_o1103
      have tk1114 : (o1103_x10.toInt ≤ o1103_x11.toInt ∧ o1103_x11.toInt ≤ o1103_x9.toInt ∧ (o1103_x12.toInt = 0 ∨ o1103_x10.toInt < o1103_x11.toInt) ∧ (o1103_x12.toInt = 1 → o1103_x11.toInt = o1103_x10.toInt + 1 → o1103_x13.toInt ≤ 26)) ∧ o1086_x11.toInt ≤ o1103_x10.toInt ∧ o1103_x9.toInt = o1086_x9.toInt ∧ o1103_x15.toInt = o1086_x15.toInt ∧ o1103_x19.toInt = o1086_x19.toInt ∧ o1103_x20.toInt = o1086_x20.toInt ∧ o1103_x22.toInt = o1086_x22.toInt ∧ o1103_x28.toInt = o1086_x28.toInt := by have q9 := hw1100p; first | (simp only [tf1104, tf1105, tf1106, tf1107, tf1108, tf1090, tf1088, tf1109, tf1093, tf1110, tf1094, tf1111, tf1095, tf1112, tf1096, tf1113, tf1087, mo_i1, mo_l1] at q9; exact q9) | (rw [tf1104, tf1105, tf1106, tf1107, tf1108, tf1090, tf1088, tf1109, tf1093, tf1110, tf1094, tf1111, tf1095, tf1112, tf1096, tf1113, tf1087] at q9; exact q9)
      refine lv_iconst (v := 1) hx hb dX12_behindSum_81 (by decide) ?_
      have hf_1115 : f1101 (ρ h0 26) = .inl (κ 0, 400, .inl g1081) := (hF1102 _ (by rw [y10]; decide)).trans hf_o1080
      have tf1116 : mo_i (f1101 (ρ h0 26)) = g1081 := tfa_i hf_1115
      have hf_1117 : f1101 (ρ h0 27) = .inl (κ 0, 400, .inl g1084) := (hF1102 _ (by rw [y11]; decide)).trans hf_o1083
      have tf1118 : mo_i (f1101 (ρ h0 27)) = g1084 := tfa_i hf_1117
      have hf_1119 : f1078 (ρ h0 23) = .inl (κ 0, 400, .inl g1057) := (hF1079 _ (by rw [y8]; decide)).trans hf_o1056
      have hf_1120 : f1101 (ρ h0 23) = .inl (κ 0, 400, .inl g1057) := (hF1102 _ (by rw [y8]; decide)).trans hf_1119
      have tf1121 : mo_i (f1101 (ρ h0 23)) = g1057 := tfa_i hf_1120
      have hf_1122 : f1078 (ρ h0 24) = .inl (κ 0, 400, .inl g1060) := (hF1079 _ (by rw [y9]; decide)).trans hf_o1059
      have hf_1123 : f1101 (ρ h0 24) = .inl (κ 0, 400, .inl g1060) := (hF1102 _ (by rw [y9]; decide)).trans hf_1122
      have tf1124 : mo_i (f1101 (ρ h0 24)) = g1060 := tfa_i hf_1123
      exact W.iret (v := 1) hx hb hr (fun t ht hW => ⟨⟨1, f1101, rfl, ⟨hT, hR, (by first | decide | omega), (by first | (simp only [tf1104, tf1105, tf1106, tf1107, tf1108, tf1112, tf1113, tf1116, tf1118, tf1109, tf1121, tf1124, tf28, tf31, tf40, tf46, tf39, tf1110, tf44, tf1111, tf45, mo_i1, mo_l1]; exact (show (o1103_x10.toInt ≤ o1103_x11.toInt ∧ o1103_x11.toInt ≤ o1103_x9.toInt ∧ (o1103_x12.toInt = 0 ∨ o1103_x10.toInt < o1103_x11.toInt) ∧ (o1103_x12.toInt = 1 → o1103_x11.toInt = o1103_x10.toInt + 1 → o1103_x13.toInt ≤ 26)) ∧ o1103_x22.toInt + o1103_x28.toInt ≤ o1103_x10.toInt ∧ mo_PV (mo_R g1081) (mo_R g1084) o1103_x28.toInt ∧ (o1103_x15.toInt = 0 → mo_EX aa (1 : Int32).toInt (mo_R g1057) (mo_R g1060) (mo_R g1081) (mo_R g1084) o1103_x22.toInt o1103_x28.toInt ∧ mo_FR aa (mo_R g27) (mo_R g30) (mo_R g1057) (mo_R g1060) ∧ ((1 : Int32).toInt = 4 ∨ o38_x10.toInt < o1103_x10.toInt ∨ (o1103_x10.toInt = o38_x10.toInt ∧ (1 : Int32).toInt = 2))) ∧ o38_x22.toInt ≤ o1103_x22.toInt ∧ o1103_x9.toInt = o38_x9.toInt ∧ o1103_x19.toInt = o38_x19.toInt ∧ o1103_x20.toInt = o38_x20.toInt from ⟨by omega, by omega, ((h3.lt (n' := _) tk1070.1).push (by omega) tk1097.1 tk1097.2.1 (by omega) (by omega) (by omega)), fun q9 => ⟨(mo_EX.bin h4.1 (tk1070.2.2.2.1 (by omega)) (h4.2.2.1.lt tk1070.1) (by omega) tk1097.1 tk1097.2.1 (by omega) (by omega) (fun q7 => hin9 (by omega))), (tk1070.2.2.2.2.2.2.1 (by omega)), by have q8 : (1 : Int32).toInt = 1 := rfl; omega⟩, by omega, by omega, by omega, by omega⟩)) | (rw [tf1104, tf1105, tf1106, tf1107, tf1108, tf1112, tf1113, tf1116, tf1118, tf1109, tf1121, tf1124, tf28, tf31, tf40, tf46, tf39, tf1110, tf44, tf1111, tf45]; exact (show (o1103_x10.toInt ≤ o1103_x11.toInt ∧ o1103_x11.toInt ≤ o1103_x9.toInt ∧ (o1103_x12.toInt = 0 ∨ o1103_x10.toInt < o1103_x11.toInt) ∧ (o1103_x12.toInt = 1 → o1103_x11.toInt = o1103_x10.toInt + 1 → o1103_x13.toInt ≤ 26)) ∧ o1103_x22.toInt + o1103_x28.toInt ≤ o1103_x10.toInt ∧ mo_PV (mo_R g1081) (mo_R g1084) o1103_x28.toInt ∧ (o1103_x15.toInt = 0 → mo_EX aa (1 : Int32).toInt (mo_R g1057) (mo_R g1060) (mo_R g1081) (mo_R g1084) o1103_x22.toInt o1103_x28.toInt ∧ mo_FR aa (mo_R g27) (mo_R g30) (mo_R g1057) (mo_R g1060) ∧ ((1 : Int32).toInt = 4 ∨ o38_x10.toInt < o1103_x10.toInt ∨ (o1103_x10.toInt = o38_x10.toInt ∧ (1 : Int32).toInt = 2))) ∧ o38_x22.toInt ≤ o1103_x22.toInt ∧ o1103_x9.toInt = o38_x9.toInt ∧ o1103_x19.toInt = o38_x19.toInt ∧ o1103_x20.toInt = o38_x20.toInt from ⟨by omega, by omega, ((h3.lt (n' := _) tk1070.1).push (by omega) tk1097.1 tk1097.2.1 (by omega) (by omega) (by omega)), fun q9 => ⟨(mo_EX.bin h4.1 (tk1070.2.2.2.1 (by omega)) (h4.2.2.1.lt tk1070.1) (by omega) tk1097.1 tk1097.2.1 (by omega) (by omega) (fun q7 => hin9 (by omega))), (tk1070.2.2.2.2.2.2.1 (by omega)), by have q8 : (1 : Int32).toInt = 1 := rfl; omega⟩, by omega, by omega, by omega, by omega⟩)))⟩, by rw [ht]; exact hP, va_K.moved hW.alike hK, hD⟩, hS.F ht⟩) hS.2.2 dX12_behindSum_82
  · have ic53 : r50.toInt ≠ 0 := zi_eqf rfl rfl c53
    refine lv_bipush (v := 10) hx hb dX12_behindSum_9 (by decide) ?_
    refine lv_goto (tgt := 57) hx hb dX12_behindSum_11 (by decide) ?_
    refine lv_istore_n (lv' := [(2, .int 10), (0, .ref h0), (1, .int v)]) hx hb dX12_behindSum_57 rfl hl (by decide) rfl (fun ls hl => ?_)
    refine lv_iload_n hx hb dX12_behindSum_58 rfl (lv_at hl 0 rfl) ?_
    refine lv_iconst (v := (-1)) hx hb dX12_behindSum_59 (by decide) ?_
    refine lv_icmp_eq (tgt := 83) hx hb dX12_behindSum_60 (by decide) (fun c9 => absurd c9 (by decide)) (fun _ => ?_)
    refine lv_aload_n hx hb dX12_behindSum_63 rfl (lv_at hl 1 rfl) ?_
    refine lv_iload_n hx hb dX12_behindSum_64 rfl (lv_at hl 0 rfl) ?_
    refine pz_calli (va_runS (As := [.int 10]) (rest := [.ref h0]) ⟨hx, hb, hml, hown, hts⟩ (t_X12_binds l dC dI _ (10) (10) rfl) (va_cwS 1 hts gX12_behindSum_X12_binds rfl rfl rfl pd_X12_binds ⟨Nat.le_of_ble_eq_true rfl, Nat.le_of_ble_eq_true rfl⟩) ⟨pz_blind, pz_pre pz_P0 (hK.sub (tys' := []) [] rfl) (pz_D0 (A := fun _ => True)) hN⟩ rfl rfl hl.1 rfl (lv_room (Nat.le_of_ble_eq_true rfl)) dX12_behindSum_65 ⟨Nat.le_of_ble_eq_true rfl, Nat.le_of_ble_eq_true rfl⟩) (fun r1125 hw1126 => ?_)
    obtain ⟨hw1126r, hw1126p⟩ := hw1126
    have hFc := tp_fr hD hS hA
    refine va_callv (va_runV (As := [.int r1125]) (rest := []) ⟨hx, hb, hml, hown, hts⟩ (t_X12_settleDown l dC dI _ κ τ ν ρ L f hG hT h0 r1125 aa ht_h0 (by first | decide | omega) (by first | (simp only [tf46, tf47, mo_i1, mo_l1]; exact (show o38_x22.toInt + o38_x28.toInt ≤ 400 from by omega)) | (rw [tf46, tf47]; exact (show o38_x22.toInt + o38_x28.toInt ≤ 400 from by omega))) (by first | (simp only [tf34, tf37, tf47, mo_i1, mo_l1]; exact (show mo_PV (mo_R g33) (mo_R g36) o38_x28.toInt from h3)) | (rw [tf34, tf37, tf47]; exact (show mo_PV (mo_R g33) (mo_R g36) o38_x28.toInt from h3))) (by first | (simp only [tf43, tf28, tf31, tf34, tf37, tf46, tf47, mo_i1, mo_l1]; exact (show (o38_x15.toInt = 0 → 0 ≤ aa ∧ mo_PJ aa (mo_R g27) (mo_R g30) (mo_R g33) (mo_R g36) o38_x22.toInt o38_x28.toInt 1) from fun _ => ⟨h4.1, h4.pj1 (by decide)⟩)) | (rw [tf43, tf28, tf31, tf34, tf37, tf46, tf47]; exact (show (o38_x15.toInt = 0 → 0 ≤ aa ∧ mo_PJ aa (mo_R g27) (mo_R g30) (mo_R g33) (mo_R g36) o38_x22.toInt o38_x28.toInt 1) from fun _ => ⟨h4.1, h4.pj1 (by decide)⟩)))) (cwV 1 hts gX12_behindSum_X12_settleDown rfl rfl rfl ⟨rfl, pd_X12_settleDown⟩ ⟨Nat.le_of_ble_eq_true rfl, Nat.le_of_ble_eq_true rfl⟩) ⟨pz_blind, va_recv hK hP (ci := 12) (q0 := q49) rfl eq49, pz_pre hP hK hD hN⟩ rfl rfl hl.1 rfl (lv_room (Nat.le_of_ble_eq_true rfl)) dX12_behindSum_68 ⟨Nat.le_of_ble_eq_true rfl, Nat.le_of_ble_eq_true rfl⟩) hS (fun q _ h => hFc q h) hFc (fun f1129 t H1 locs ht hvm hw1128 hB hz1 hk1 hS => ?_)
    obtain ⟨hT, hF1130, hw1128p⟩ := hw1128
    have hR := hR.then hF1130 (by decide)
    have hP := hB.1; rw [ht] at hP; have hD := tp_ad f1129 hD; clear hB hFc hz1 hk1; subst ht; generalize t.heap = H at hP hS ⊢
    obtain ⟨o1131_x0, o1131_x1, o1131_x7, o1131_x9, o1131_x10, o1131_x11, o1131_x12, o1131_x13, o1131_x14, o1131_x15, o1131_x16, o1131_x17, o1131_x18, o1131_x19, o1131_x20, o1131_x22, o1131_x25, o1131_x28, o1131_x29, o1131_x32, o1131_x33, o1131_x34, o1131_x35, o1131_x36, o1131_x37, o1131_x38, o1131_x47, o1131_x48, hf_o1131, ro1131_0, ro1131_1, ro1131_2, ro1131_3, ro1131_4, ro1131_5, ro1131_6, ro1131_7, ro1131_8, ro1131_9, ro1131_10, ro1131_11, ro1131_12, ro1131_13⟩ := tpo_13 hT ht_h0
    have tf1132 : tp_fld (f1129 h0) 28 = o1131_x28.toInt := tff_28 hf_o1131
    have tf1133 : tp_fld (f1129 h0) 22 = o1131_x22.toInt := tff_22 hf_o1131
    obtain ⟨g1135, hf_o1134⟩ := tpo_53 hT y8
    have tf1136 : mo_i (f1129 (ρ h0 23)) = g1135 := tfa_i hf_o1134
    obtain ⟨g1138, hf_o1137⟩ := tpo_54 hT y9
    have tf1139 : mo_i (f1129 (ρ h0 24)) = g1138 := tfa_i hf_o1137
    have tf1140 : tp_fld (f1129 h0) 9 = o1131_x9.toInt := tff_9 hf_o1131
    have tf1141 : tp_fld (f1129 h0) 10 = o1131_x10.toInt := tff_10 hf_o1131
    have tf1142 : tp_fld (f1129 h0) 11 = o1131_x11.toInt := tff_11 hf_o1131
    have tf1143 : tp_fld (f1129 h0) 12 = o1131_x12.toInt := tff_12 hf_o1131
    have tf1144 : mo_fj (f1129 h0) 13 = o1131_x13.toInt := tff_13 hf_o1131
    have tf1145 : tp_fld (f1129 h0) 15 = o1131_x15.toInt := tff_15 hf_o1131
    have tf1146 : tp_fld (f1129 h0) 19 = o1131_x19.toInt := tff_19 hf_o1131
    have tf1147 : tp_fld (f1129 h0) 20 = o1131_x20.toInt := tff_20 hf_o1131
    have tk1148 : o1131_x28.toInt ≤ o38_x28.toInt ∧ o38_x22.toInt ≤ o1131_x22.toInt ∧ o1131_x22.toInt + o1131_x28.toInt ≤ o38_x22.toInt + o38_x28.toInt ∧ (o38_x15.toInt = 0 → mo_PJ aa (mo_R g1135) (mo_R g1138) (mo_R g33) (mo_R g36) o1131_x22.toInt o1131_x28.toInt 1) ∧ (∀ i, o1131_x28.toInt ≤ i → i < o38_x28.toInt → (mo_R g33) i < 30 ∧ (5 ≤ r1125.toInt → (mo_R g33) i < 14)) ∧ (o1131_x28.toInt = 0 ∨ ((r1125.toInt = 1 → 30 ≤ (mo_R g33) (o1131_x28.toInt + -1)) ∧ (r1125.toInt = 5 → 14 ≤ (mo_R g33) (o1131_x28.toInt + -1)))) ∧ (o38_x15.toInt = 0 → mo_FR aa (mo_R g27) (mo_R g30) (mo_R g1135) (mo_R g1138)) ∧ o1131_x9.toInt = o38_x9.toInt ∧ o1131_x10.toInt = o38_x10.toInt ∧ o1131_x11.toInt = o38_x11.toInt ∧ o1131_x12.toInt = o38_x12.toInt ∧ o1131_x13.toInt = o38_x13.toInt ∧ o1131_x15.toInt = o38_x15.toInt ∧ o1131_x19.toInt = o38_x19.toInt ∧ o1131_x20.toInt = o38_x20.toInt := by have q9 := hw1128p; first | (simp only [tf1132, tf47, tf46, tf1133, tf43, tf1136, tf1139, tf34, tf37, tf28, tf31, tf1140, tf39, tf1141, tf40, tf1142, tf41, tf1143, tf42, tf1144, tf48, tf1145, tf1146, tf44, tf1147, tf45, mo_i1, mo_l1] at q9; exact q9) | (rw [tf1132, tf47, tf46, tf1133, tf43, tf1136, tf1139, tf34, tf37, tf28, tf31, tf1140, tf39, tf1141, tf40, tf1142, tf41, tf1143, tf42, tf1144, tf48, tf1145, tf1146, tf44, tf1147, tf45] at q9; exact q9)
    have hin9 : False → mo_in (mo_R g33) (o1131_x28.toInt).toNat ≠ 31 := fun q => q.elim
    refine lv_aload_n hx hb dX12_behindSum_71 rfl (lv_at hl 1 rfl) ?_
    refine lv_iload_n hx hb dX12_behindSum_72 rfl (lv_at hl 0 rfl) ?_
    refine lv_iconst (v := 0) hx hb dX12_behindSum_73 (by decide) ?_
    have hf_1149 : f1129 (ρ h0 26) = .inl (κ 0, 400, .inl g33) := (hF1130 _ (by rw [y10]; decide)).trans hf_o32
    have tf1150 : mo_i (f1129 (ρ h0 26)) = g33 := tfa_i hf_1149
    have hf_1151 : f1129 (ρ h0 27) = .inl (κ 0, 400, .inl g36) := (hF1130 _ (by rw [y11]; decide)).trans hf_o35
    have tf1152 : mo_i (f1129 (ρ h0 27)) = g36 := tfa_i hf_1151
    obtain ⟨q1153, eq1153⟩ := tp_pos (tp_in hG ht_h0 (by decide)) hf_o1131
    have hFc := tp_fr hD hS hA
    refine va_callv (va_runV (As := [.int 10, .int 0]) (rest := []) ⟨hx, hb, hml, hown, hts⟩ (t_X12_push l dC dI _ κ τ ν ρ L f1129 hG hT h0 (10) (0) ht_h0 (by first | (simp only [tf1132, mo_i1, mo_l1]; exact (show o1131_x28.toInt < 400 from by have : (10 : Int32).toInt = 10 := rfl; have : (0 : Int32).toInt = 0 := rfl; first | omega | decide)) | (rw [tf1132]; exact (show o1131_x28.toInt < 400 from by have : (10 : Int32).toInt = 10 := rfl; have : (0 : Int32).toInt = 0 := rfl; first | omega | decide)))) (cwV 2 hts gX12_behindSum_X12_push rfl rfl rfl ⟨rfl, pd_X12_push⟩ ⟨Nat.le_of_ble_eq_true rfl, Nat.le_of_ble_eq_true rfl⟩) ⟨pz_blind, va_recv hK hP (ci := 12) (q0 := q1153) rfl eq1153, pz_pre hP hK hD hN⟩ rfl rfl hl.1 rfl (lv_room (Nat.le_of_ble_eq_true rfl)) dX12_behindSum_74 ⟨Nat.le_of_ble_eq_true rfl, Nat.le_of_ble_eq_true rfl⟩) hS (fun q _ h => hFc q h) hFc (fun f1156 t H1 locs ht hvm hw1155 hB hz1 hk1 hS => ?_)
    obtain ⟨hT, hF1157, hw1155p⟩ := hw1155
    have hR := hR.then hF1157 (by decide)
    have hP := hB.1; rw [ht] at hP; have hD := tp_ad f1156 hD; clear hB hFc hz1 hk1; subst ht; generalize t.heap = H at hP hS ⊢
    obtain ⟨g1159, hf_o1158⟩ := tpo_56 hT y10
    have tf1160 : mo_i (f1156 (ρ h0 26)) = g1159 := tfa_i hf_o1158
    obtain ⟨g1162, hf_o1161⟩ := tpo_57 hT y11
    have tf1163 : mo_i (f1156 (ρ h0 27)) = g1162 := tfa_i hf_o1161
    obtain ⟨o1164_x0, o1164_x1, o1164_x7, o1164_x9, o1164_x10, o1164_x11, o1164_x12, o1164_x13, o1164_x14, o1164_x15, o1164_x16, o1164_x17, o1164_x18, o1164_x19, o1164_x20, o1164_x22, o1164_x25, o1164_x28, o1164_x29, o1164_x32, o1164_x33, o1164_x34, o1164_x35, o1164_x36, o1164_x37, o1164_x38, o1164_x47, o1164_x48, hf_o1164, ro1164_0, ro1164_1, ro1164_2, ro1164_3, ro1164_4, ro1164_5, ro1164_6, ro1164_7, ro1164_8, ro1164_9, ro1164_10, ro1164_11, ro1164_12, ro1164_13⟩ := tpo_13 hT ht_h0
    have tf1165 : tp_fld (f1156 h0) 28 = o1164_x28.toInt := tff_28 hf_o1164
    have tf1166 : tp_fld (f1156 h0) 9 = o1164_x9.toInt := tff_9 hf_o1164
    have tf1167 : tp_fld (f1156 h0) 10 = o1164_x10.toInt := tff_10 hf_o1164
    have tf1168 : tp_fld (f1156 h0) 11 = o1164_x11.toInt := tff_11 hf_o1164
    have tf1169 : tp_fld (f1156 h0) 12 = o1164_x12.toInt := tff_12 hf_o1164
    have tf1170 : mo_fj (f1156 h0) 13 = o1164_x13.toInt := tff_13 hf_o1164
    have tf1171 : tp_fld (f1156 h0) 15 = o1164_x15.toInt := tff_15 hf_o1164
    have tf1172 : tp_fld (f1156 h0) 19 = o1164_x19.toInt := tff_19 hf_o1164
    have tf1173 : tp_fld (f1156 h0) 20 = o1164_x20.toInt := tff_20 hf_o1164
    have tf1174 : tp_fld (f1156 h0) 22 = o1164_x22.toInt := tff_22 hf_o1164
    have tk1175 : mo_U (mo_R g33) (mo_R g1159) o1131_x28.toInt (10 : Int) ∧ mo_U (mo_R g36) (mo_R g1162) o1131_x28.toInt (0 : Int) ∧ o1164_x28.toInt = o1131_x28.toInt + 1 ∧ o1164_x9.toInt = o1131_x9.toInt ∧ o1164_x10.toInt = o1131_x10.toInt ∧ o1164_x11.toInt = o1131_x11.toInt ∧ o1164_x12.toInt = o1131_x12.toInt ∧ o1164_x13.toInt = o1131_x13.toInt ∧ o1164_x15.toInt = o1131_x15.toInt ∧ o1164_x19.toInt = o1131_x19.toInt ∧ o1164_x20.toInt = o1131_x20.toInt ∧ o1164_x22.toInt = o1131_x22.toInt := by have q9 := hw1155p; first | (simp only [tf1150, tf1160, tf1132, tf1152, tf1163, tf1165, tf1166, tf1140, tf1167, tf1141, tf1168, tf1142, tf1169, tf1143, tf1170, tf1144, tf1171, tf1145, tf1172, tf1146, tf1173, tf1147, tf1174, tf1133, mo_i1, mo_l1] at q9; exact q9) | (rw [tf1150, tf1160, tf1132, tf1152, tf1163, tf1165, tf1166, tf1140, tf1167, tf1141, tf1168, tf1142, tf1169, tf1143, tf1170, tf1144, tf1171, tf1145, tf1172, tf1146, tf1173, tf1147, tf1174, tf1133] at q9; exact q9)
    refine lv_aload_n hx hb dX12_behindSum_77 rfl (lv_at hl 1 rfl) ?_
    obtain ⟨q1176, eq1176⟩ := tp_pos (tp_in hG ht_h0 (by decide)) hf_o1164
    have hFc := tp_fr hD hS hA
    refine va_callv (va_runV (As := []) (rest := []) ⟨hx, hb, hml, hown, hts⟩ (t_X12_next l dC dI _ κ τ ν ρ L f1156 hG hT h0 ht_h0 (by first | (simp only [tf1168, tf1166, mo_i1, mo_l1]; exact (show o1164_x11.toInt ≤ o1164_x9.toInt from by first | omega | decide)) | (rw [tf1168, tf1166]; exact (show o1164_x11.toInt ≤ o1164_x9.toInt from by first | omega | decide)))) (cwV 0 hts gX12_behindSum_X12_next rfl rfl rfl ⟨rfl, pd_X12_next⟩ ⟨Nat.le_of_ble_eq_true rfl, Nat.le_of_ble_eq_true rfl⟩) ⟨pz_blind, va_recv hK hP (ci := 12) (q0 := q1176) rfl eq1176, pz_pre hP hK hD hN⟩ rfl rfl hl.1 rfl (lv_room (Nat.le_of_ble_eq_true rfl)) dX12_behindSum_78 ⟨Nat.le_of_ble_eq_true rfl, Nat.le_of_ble_eq_true rfl⟩) hS (fun q _ h => hFc q h) hFc (fun f1179 t H1 locs ht hvm hw1178 hB hz1 hk1 hS => ?_)
    obtain ⟨hT, hF1180, hw1178p⟩ := hw1178
    have hR := hR.then hF1180 (by decide)
    have hP := hB.1; rw [ht] at hP; have hD := tp_ad f1179 hD; clear hB hFc hz1 hk1; subst ht; generalize t.heap = H at hP hS ⊢
    obtain ⟨o1181_x0, o1181_x1, o1181_x7, o1181_x9, o1181_x10, o1181_x11, o1181_x12, o1181_x13, o1181_x14, o1181_x15, o1181_x16, o1181_x17, o1181_x18, o1181_x19, o1181_x20, o1181_x22, o1181_x25, o1181_x28, o1181_x29, o1181_x32, o1181_x33, o1181_x34, o1181_x35, o1181_x36, o1181_x37, o1181_x38, o1181_x47, o1181_x48, hf_o1181, ro1181_0, ro1181_1, ro1181_2, ro1181_3, ro1181_4, ro1181_5, ro1181_6, ro1181_7, ro1181_8, ro1181_9, ro1181_10, ro1181_11, ro1181_12, ro1181_13⟩ := tpo_13 hT ht_h0
    have tf1182 : tp_fld (f1179 h0) 10 = o1181_x10.toInt := tff_10 hf_o1181
    have tf1183 : tp_fld (f1179 h0) 11 = o1181_x11.toInt := tff_11 hf_o1181
    have tf1184 : tp_fld (f1179 h0) 9 = o1181_x9.toInt := tff_9 hf_o1181
    have tf1185 : tp_fld (f1179 h0) 12 = o1181_x12.toInt := tff_12 hf_o1181
    have tf1186 : mo_fj (f1179 h0) 13 = o1181_x13.toInt := tff_13 hf_o1181
    have tf1187 : tp_fld (f1179 h0) 15 = o1181_x15.toInt := tff_15 hf_o1181
    have tf1188 : tp_fld (f1179 h0) 19 = o1181_x19.toInt := tff_19 hf_o1181
    have tf1189 : tp_fld (f1179 h0) 20 = o1181_x20.toInt := tff_20 hf_o1181
    have tf1190 : tp_fld (f1179 h0) 22 = o1181_x22.toInt := tff_22 hf_o1181
    have tf1191 : tp_fld (f1179 h0) 28 = o1181_x28.toInt := tff_28 hf_o1181
    have tk1192 : (o1181_x10.toInt ≤ o1181_x11.toInt ∧ o1181_x11.toInt ≤ o1181_x9.toInt ∧ (o1181_x12.toInt = 0 ∨ o1181_x10.toInt < o1181_x11.toInt) ∧ (o1181_x12.toInt = 1 → o1181_x11.toInt = o1181_x10.toInt + 1 → o1181_x13.toInt ≤ 26)) ∧ o1164_x11.toInt ≤ o1181_x10.toInt ∧ o1181_x9.toInt = o1164_x9.toInt ∧ o1181_x15.toInt = o1164_x15.toInt ∧ o1181_x19.toInt = o1164_x19.toInt ∧ o1181_x20.toInt = o1164_x20.toInt ∧ o1181_x22.toInt = o1164_x22.toInt ∧ o1181_x28.toInt = o1164_x28.toInt := by have q9 := hw1178p; first | (simp only [tf1182, tf1183, tf1184, tf1185, tf1186, tf1168, tf1166, tf1187, tf1171, tf1188, tf1172, tf1189, tf1173, tf1190, tf1174, tf1191, tf1165, mo_i1, mo_l1] at q9; exact q9) | (rw [tf1182, tf1183, tf1184, tf1185, tf1186, tf1168, tf1166, tf1187, tf1171, tf1188, tf1172, tf1189, tf1173, tf1190, tf1174, tf1191, tf1165] at q9; exact q9)
    refine lv_iconst (v := 1) hx hb dX12_behindSum_81 (by decide) ?_
    have hf_1193 : f1179 (ρ h0 26) = .inl (κ 0, 400, .inl g1159) := (hF1180 _ (by rw [y10]; decide)).trans hf_o1158
    have tf1194 : mo_i (f1179 (ρ h0 26)) = g1159 := tfa_i hf_1193
    have hf_1195 : f1179 (ρ h0 27) = .inl (κ 0, 400, .inl g1162) := (hF1180 _ (by rw [y11]; decide)).trans hf_o1161
    have tf1196 : mo_i (f1179 (ρ h0 27)) = g1162 := tfa_i hf_1195
    have hf_1197 : f1156 (ρ h0 23) = .inl (κ 0, 400, .inl g1135) := (hF1157 _ (by rw [y8]; decide)).trans hf_o1134
    have hf_1198 : f1179 (ρ h0 23) = .inl (κ 0, 400, .inl g1135) := (hF1180 _ (by rw [y8]; decide)).trans hf_1197
    have tf1199 : mo_i (f1179 (ρ h0 23)) = g1135 := tfa_i hf_1198
    have hf_1200 : f1156 (ρ h0 24) = .inl (κ 0, 400, .inl g1138) := (hF1157 _ (by rw [y9]; decide)).trans hf_o1137
    have hf_1201 : f1179 (ρ h0 24) = .inl (κ 0, 400, .inl g1138) := (hF1180 _ (by rw [y9]; decide)).trans hf_1200
    have tf1202 : mo_i (f1179 (ρ h0 24)) = g1138 := tfa_i hf_1201
    exact W.iret (v := 1) hx hb hr (fun t ht hW => ⟨⟨1, f1179, rfl, ⟨hT, hR, (by first | decide | omega), (by first | (simp only [tf1182, tf1183, tf1184, tf1185, tf1186, tf1190, tf1191, tf1194, tf1196, tf1187, tf1199, tf1202, tf28, tf31, tf40, tf46, tf39, tf1188, tf44, tf1189, tf45, mo_i1, mo_l1]; exact (show (o1181_x10.toInt ≤ o1181_x11.toInt ∧ o1181_x11.toInt ≤ o1181_x9.toInt ∧ (o1181_x12.toInt = 0 ∨ o1181_x10.toInt < o1181_x11.toInt) ∧ (o1181_x12.toInt = 1 → o1181_x11.toInt = o1181_x10.toInt + 1 → o1181_x13.toInt ≤ 26)) ∧ o1181_x22.toInt + o1181_x28.toInt ≤ o1181_x10.toInt ∧ mo_PV (mo_R g1159) (mo_R g1162) o1181_x28.toInt ∧ (o1181_x15.toInt = 0 → mo_EX aa (1 : Int32).toInt (mo_R g1135) (mo_R g1138) (mo_R g1159) (mo_R g1162) o1181_x22.toInt o1181_x28.toInt ∧ mo_FR aa (mo_R g27) (mo_R g30) (mo_R g1135) (mo_R g1138) ∧ ((1 : Int32).toInt = 4 ∨ o38_x10.toInt < o1181_x10.toInt ∨ (o1181_x10.toInt = o38_x10.toInt ∧ (1 : Int32).toInt = 2))) ∧ o38_x22.toInt ≤ o1181_x22.toInt ∧ o1181_x9.toInt = o38_x9.toInt ∧ o1181_x19.toInt = o38_x19.toInt ∧ o1181_x20.toInt = o38_x20.toInt from ⟨by omega, by omega, ((h3.lt (n' := _) tk1148.1).push (by omega) tk1175.1 tk1175.2.1 (by omega) (by omega) (by omega)), fun q9 => ⟨(mo_EX.bin h4.1 (tk1148.2.2.2.1 (by omega)) (h4.2.2.1.lt tk1148.1) (by omega) tk1175.1 tk1175.2.1 (by omega) (by omega) (fun q7 => hin9 (by omega))), (tk1148.2.2.2.2.2.2.1 (by omega)), by have q8 : (1 : Int32).toInt = 1 := rfl; omega⟩, by omega, by omega, by omega, by omega⟩)) | (rw [tf1182, tf1183, tf1184, tf1185, tf1186, tf1190, tf1191, tf1194, tf1196, tf1187, tf1199, tf1202, tf28, tf31, tf40, tf46, tf39, tf1188, tf44, tf1189, tf45]; exact (show (o1181_x10.toInt ≤ o1181_x11.toInt ∧ o1181_x11.toInt ≤ o1181_x9.toInt ∧ (o1181_x12.toInt = 0 ∨ o1181_x10.toInt < o1181_x11.toInt) ∧ (o1181_x12.toInt = 1 → o1181_x11.toInt = o1181_x10.toInt + 1 → o1181_x13.toInt ≤ 26)) ∧ o1181_x22.toInt + o1181_x28.toInt ≤ o1181_x10.toInt ∧ mo_PV (mo_R g1159) (mo_R g1162) o1181_x28.toInt ∧ (o1181_x15.toInt = 0 → mo_EX aa (1 : Int32).toInt (mo_R g1135) (mo_R g1138) (mo_R g1159) (mo_R g1162) o1181_x22.toInt o1181_x28.toInt ∧ mo_FR aa (mo_R g27) (mo_R g30) (mo_R g1135) (mo_R g1138) ∧ ((1 : Int32).toInt = 4 ∨ o38_x10.toInt < o1181_x10.toInt ∨ (o1181_x10.toInt = o38_x10.toInt ∧ (1 : Int32).toInt = 2))) ∧ o38_x22.toInt ≤ o1181_x22.toInt ∧ o1181_x9.toInt = o38_x9.toInt ∧ o1181_x19.toInt = o38_x19.toInt ∧ o1181_x20.toInt = o38_x20.toInt from ⟨by omega, by omega, ((h3.lt (n' := _) tk1148.1).push (by omega) tk1175.1 tk1175.2.1 (by omega) (by omega) (by omega)), fun q9 => ⟨(mo_EX.bin h4.1 (tk1148.2.2.2.1 (by omega)) (h4.2.2.1.lt tk1148.1) (by omega) tk1175.1 tk1175.2.1 (by omega) (by omega) (fun q7 => hin9 (by omega))), (tk1148.2.2.2.2.2.2.1 (by omega)), by have q8 : (1 : Int32).toInt = 1 := rfl; omega⟩, by omega, by omega, by omega, by omega⟩)))⟩, by rw [ht]; exact hP, va_K.moved hW.alike hK, hD⟩, hS.F ht⟩) hS.2.2 dX12_behindSum_82
