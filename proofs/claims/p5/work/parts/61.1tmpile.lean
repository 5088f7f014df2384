set_option maxHeartbeats 4000000 in
set_option maxRecDepth 100000 in
theorem t_X12_settleDown (l : Launch) (dC : Nat → ClassId) (dI : Nat → Nat → Nat) (sz : Nat) (κ : Nat → ClassId) (τ ν : Nat → Nat) (ρ : Nat → Nat → Nat) (L : List Nat) (f : Nat → va_E) (hG : tp_G τ ν ρ L) (hT : tp_T (mo_O κ) κ τ ν ρ f) (h0 : Nat) (v : Int32) (aa : Int) (ht_h0 : τ h0 = 13) (hr_v : 1 ≤ v.toInt ∧ v.toInt ≤ 6) (h2 : (tp_fld (f h0) 22) + (tp_fld (f h0) 28) ≤ 400) (h3 : mo_PV (mo_R (mo_i (f (ρ h0 26)))) (mo_R (mo_i (f (ρ h0 27)))) (tp_fld (f h0) 28)) (h4 : ((tp_fld (f h0) 15) = 0 → 0 ≤ aa ∧ mo_PJ aa (mo_R (mo_i (f (ρ h0 23)))) (mo_R (mo_i (f (ρ h0 24)))) (mo_R (mo_i (f (ρ h0 26)))) (mo_R (mo_i (f (ρ h0 27)))) (tp_fld (f h0) 22) (tp_fld (f h0) 28) 1)) : Met l yX12_settleDown wqX12_settleDown ({ frames := 3, cells := 0, slots := 0, locals := 800 }) (va_Pc [.ref h0, .int v] (pz_B dC dI (tp_K κ) (va_pl L f) sz)) (va_Qv (fun (f1 : Nat → va_E) => tp_T (mo_O κ) κ τ ν ρ f1 ∧ tp_F τ [13, 53, 54] f f1 ∧ (tp_fld (f1 h0) 28) ≤ (tp_fld (f h0) 28) ∧ (tp_fld (f h0) 22) ≤ (tp_fld (f1 h0) 22) ∧ (tp_fld (f1 h0) 22) + (tp_fld (f1 h0) 28) ≤ (tp_fld (f h0) 22) + (tp_fld (f h0) 28) ∧ ((tp_fld (f h0) 15) = 0 → mo_PJ aa (mo_R (mo_i (f1 (ρ h0 23)))) (mo_R (mo_i (f1 (ρ h0 24)))) (mo_R (mo_i (f (ρ h0 26)))) (mo_R (mo_i (f (ρ h0 27)))) (tp_fld (f1 h0) 22) (tp_fld (f1 h0) 28) 1) ∧ (∀ i, (tp_fld (f1 h0) 28) ≤ i → i < (tp_fld (f h0) 28) → (mo_R (mo_i (f (ρ h0 26)))) i < 30 ∧ (5 ≤ v.toInt → (mo_R (mo_i (f (ρ h0 26)))) i < 14)) ∧ ((tp_fld (f1 h0) 28) = 0 ∨ ((v.toInt = 1 → 30 ≤ (mo_R (mo_i (f (ρ h0 26)))) ((tp_fld (f1 h0) 28) + -1)) ∧ (v.toInt = 5 → 14 ≤ (mo_R (mo_i (f (ρ h0 26)))) ((tp_fld (f1 h0) 28) + -1)))) ∧ ((tp_fld (f h0) 15) = 0 → mo_FR aa (mo_R (mo_i (f (ρ h0 23)))) (mo_R (mo_i (f (ρ h0 24)))) (mo_R (mo_i (f1 (ρ h0 23)))) (mo_R (mo_i (f1 (ρ h0 24))))) ∧ (tp_fld (f1 h0) 9) = (tp_fld (f h0) 9) ∧ (tp_fld (f1 h0) 10) = (tp_fld (f h0) 10) ∧ (tp_fld (f1 h0) 11) = (tp_fld (f h0) 11) ∧ (tp_fld (f1 h0) 12) = (tp_fld (f h0) 12) ∧ (mo_fj (f1 h0) 13) = (mo_fj (f h0) 13) ∧ (tp_fld (f1 h0) 15) = (tp_fld (f h0) 15) ∧ (tp_fld (f1 h0) 19) = (tp_fld (f h0) 19) ∧ (tp_fld (f1 h0) 20) = (tp_fld (f h0) 20)) (fun (f1 : Nat → va_E) (t : State) => pz_E dC dI (tp_K κ) (va_A (va_pl L f) sz) (va_pl L f1) t) (va_A (va_pl L f) sz)) 0 0 (va_A (va_pl L f) sz) := by
  refine Met.ofW (cc := cX12_settleDown) (maxL := 2) (ret := none) (by decide) rfl ?_
  intro p e s m args below meth c s₁ B hml hv
  obtain ⟨rfl, hsz, hP, hK, hD0, hN⟩ := hv
  have hx := B.exec
  have hb := B.bytes
  have hr := B.returns
  have hts := fun (w : Cond) (h : w ∈ WALL) => atoms_spec (ws := wqX12_settleDown) B.pre w (List.mem_cons_of_mem _ h)
  have hown : s.vm.findClass RX12 = some m.cls := findClass_of_methodNamed B.named
  have hlocks := B.notSynchronized
  subst hsz
  have hD := hD0.self (sz := s.heap.size)
  generalize hAe : va_A (va_pl L f) s.heap.size = A at hD ⊢
  have hA : ∀ q : Nat, s.heap.size ≤ q → A q := fun q h => by rw [← hAe]; exact Or.inr h
  have hS : va_S A s.heap s.heap [] := va_S.rf
  have hR : tp_F τ [13, 53, 54] f f := tp_F.rf
  have hl := lv_entry ([.ref h0, .int v]) (n := 2) (Nat.le_of_ble_eq_true rfl)
  rw [lg_entry_eq]
  generalize (lg_sl ([.ref h0, .int v]) ++ List.replicate (2 - (lg_sl ([.ref h0, .int v])).length) Slot.unset).toArray = ls at hl ⊢
  have hl : lv_has ls 2 [(0, .ref h0), (1, .int v)] := hl
  obtain ⟨y1, y2, y3, y4, y5, y6, y7, y8, y9, y10, y11, y12, y13, y14, y15, y16, y17, y18, y19, y20, y21, y22, y23, y24, y25⟩ := tpg_13 hG ht_h0
  obtain ⟨g27, hf_o26⟩ := tpo_53 hT y8
  have tf28 : mo_i (f (ρ h0 23)) = g27 := tfa_i hf_o26
  obtain ⟨g30, hf_o29⟩ := tpo_54 hT y9
  have tf31 : mo_i (f (ρ h0 24)) = g30 := tfa_i hf_o29
  obtain ⟨g33, hf_o32⟩ := tpo_56 hT y10
  have tf34 : mo_i (f (ρ h0 26)) = g33 := tfa_i hf_o32
  obtain ⟨g36, hf_o35⟩ := tpo_57 hT y11
  have tf37 : mo_i (f (ρ h0 27)) = g36 := tfa_i hf_o35
  obtain ⟨o38_x0, o38_x1, o38_x7, o38_x9, o38_x10, o38_x11, o38_x12, o38_x13, o38_x14, o38_x15, o38_x16, o38_x17, o38_x18, o38_x19, o38_x20, o38_x22, o38_x25, o38_x28, o38_x29, o38_x32, o38_x33, o38_x34, o38_x35, o38_x36, o38_x37, o38_x38, o38_x47, o38_x48, hf_o38, ro38_0, ro38_1, ro38_2, ro38_3, ro38_4, ro38_5, ro38_6, ro38_7, ro38_8, ro38_9, ro38_10, ro38_11, ro38_12, ro38_13⟩ := tpo_13 hT ht_h0
  have tf39 : tp_fld (f h0) 9 = o38_x9.toInt := tff_9 hf_o38
  have tf40 : tp_fld (f h0) 10 = o38_x10.toInt := tff_10 hf_o38
  have tf41 : tp_fld (f h0) 11 = o38_x11.toInt := tff_11 hf_o38
  have tf42 : tp_fld (f h0) 12 = o38_x12.toInt := tff_12 hf_o38
  have tf43 : tp_fld (f h0) 15 = o38_x15.toInt := tff_15 hf_o38
  have tf44 : tp_fld (f h0) 19 = o38_x19.toInt := tff_19 hf_o38
  have tf45 : tp_fld (f h0) 20 = o38_x20.toInt := tff_20 hf_o38
  have tf46 : tp_fld (f h0) 22 = o38_x22.toInt := tff_22 hf_o38
  have tf47 : tp_fld (f h0) 28 = o38_x28.toInt := tff_28 hf_o38
  have tf48 : mo_fj (f h0) 13 = o38_x13.toInt := tff_13 hf_o38
  have h2 : o38_x22.toInt + o38_x28.toInt ≤ 400 := by have q9 := h2; first | (simp only [tf46, tf47, mo_i1, mo_l1] at q9; exact q9) | (rw [tf46, tf47] at q9; exact q9)
  have h3 : mo_PV (mo_R g33) (mo_R g36) o38_x28.toInt := by have q9 := h3; first | (simp only [tf34, tf37, tf47, mo_i1, mo_l1] at q9; exact q9) | (rw [tf34, tf37, tf47] at q9; exact q9)
  have h4 : (o38_x15.toInt = 0 → 0 ≤ aa ∧ mo_PJ aa (mo_R g27) (mo_R g30) (mo_R g33) (mo_R g36) o38_x22.toInt o38_x28.toInt 1) := by have q9 := h4; first | (simp only [tf43, tf28, tf31, tf34, tf37, tf46, tf47, mo_i1, mo_l1] at q9; exact q9) | (rw [tf43, tf28, tf31, tf34, tf37, tf46, tf47] at q9; exact q9)
  refine pz_loop (fun n0 H locs ls => ∃ f51 : Nat → va_E, n0 = ((tp_fld (f51 h0) 28)).toNat ∧ tp_T (mo_O κ) κ τ ν ρ f51 ∧ tp_F τ [13, 53, 54] f f51 ∧ f51 (ρ h0 26) = .inl (κ 0, 400, .inl g33) ∧ f51 (ρ h0 27) = .inl (κ 0, 400, .inl g36) ∧ (((o38_x15.toInt = 0 → mo_PJ aa (mo_R (mo_i (f51 (ρ h0 23)))) (mo_R (mo_i (f51 (ρ h0 24)))) (mo_R g33) (mo_R g36) (tp_fld (f51 h0) 22) (tp_fld (f51 h0) 28) 1))) ∧ (((o38_x15.toInt = 0 → mo_FR aa (mo_R g27) (mo_R g30) (mo_R (mo_i (f51 (ρ h0 23)))) (mo_R (mo_i (f51 (ρ h0 24))))))) ∧ ((∀ i, (tp_fld (f51 h0) 28) ≤ i → i < o38_x28.toInt → (mo_R g33) i < 30 ∧ (5 ≤ v.toInt → (mo_R g33) i < 14))) ∧ ((((tp_fld (f51 h0) 28) ≤ o38_x28.toInt ∧ o38_x22.toInt ≤ (tp_fld (f51 h0) 22) ∧ (tp_fld (f51 h0) 22) + (tp_fld (f51 h0) 28) ≤ o38_x22.toInt + o38_x28.toInt))) ∧ ((((tp_fld (f51 h0) 9) = o38_x9.toInt ∧ (tp_fld (f51 h0) 10) = o38_x10.toInt ∧ (tp_fld (f51 h0) 11) = o38_x11.toInt ∧ (tp_fld (f51 h0) 12) = o38_x12.toInt ∧ (mo_fj (f51 h0) 13) = o38_x13.toInt ∧ (tp_fld (f51 h0) 15) = o38_x15.toInt ∧ (tp_fld (f51 h0) 19) = o38_x19.toInt ∧ (tp_fld (f51 h0) 20) = o38_x20.toInt))) ∧ va_P (dC, dI) vwCl (va_pl L f51) H ∧ va_D A (va_pl L f51) ∧ va_S A s.heap H locs ∧ lv_has ls 2 [(0, .ref h0), (1, .int v)]) ?_ _ _ _ _ ⟨f, rfl, hT, hR, hf_o32, hf_o35, (by first | (simp only [tf28, tf31, tf46, tf47, mo_i1, mo_l1]; exact (show (o38_x15.toInt = 0 → mo_PJ aa (mo_R g27) (mo_R g30) (mo_R g33) (mo_R g36) o38_x22.toInt o38_x28.toInt 1) from (fun q9 => (h4 q9).2))) | (rw [tf28, tf31, tf46, tf47]; exact (show (o38_x15.toInt = 0 → mo_PJ aa (mo_R g27) (mo_R g30) (mo_R g33) (mo_R g36) o38_x22.toInt o38_x28.toInt 1) from (fun q9 => (h4 q9).2)))), (by first | (simp only [tf28, tf31, mo_i1, mo_l1]; exact (show (o38_x15.toInt = 0 → mo_FR aa (mo_R g27) (mo_R g30) (mo_R g27) (mo_R g30)) from (fun q9 => mo_FR.rf _ _ _))) | (rw [tf28, tf31]; exact (show (o38_x15.toInt = 0 → mo_FR aa (mo_R g27) (mo_R g30) (mo_R g27) (mo_R g30)) from (fun q9 => mo_FR.rf _ _ _)))), (by first | (simp only [tf47, mo_i1, mo_l1]; exact (show ∀ i, o38_x28.toInt ≤ i → i < o38_x28.toInt → (mo_R g33) i < 30 ∧ (5 ≤ v.toInt → (mo_R g33) i < 14) from (fun i i0 i1 => absurd i1 (by omega)))) | (rw [tf47]; exact (show ∀ i, o38_x28.toInt ≤ i → i < o38_x28.toInt → (mo_R g33) i < 30 ∧ (5 ≤ v.toInt → (mo_R g33) i < 14) from (fun i i0 i1 => absurd i1 (by omega))))), (by first | (simp only [tf47, tf46, mo_i1, mo_l1]; exact (show (o38_x28.toInt ≤ o38_x28.toInt ∧ o38_x22.toInt ≤ o38_x22.toInt ∧ o38_x22.toInt + o38_x28.toInt ≤ o38_x22.toInt + o38_x28.toInt) from by first | omega | decide)) | (rw [tf47, tf46]; exact (show (o38_x28.toInt ≤ o38_x28.toInt ∧ o38_x22.toInt ≤ o38_x22.toInt ∧ o38_x22.toInt + o38_x28.toInt ≤ o38_x22.toInt + o38_x28.toInt) from by first | omega | decide))), (by first | (simp only [tf39, tf40, tf41, tf42, tf48, tf43, tf44, tf45, mo_i1, mo_l1]; exact (show (o38_x9.toInt = o38_x9.toInt ∧ o38_x10.toInt = o38_x10.toInt ∧ o38_x11.toInt = o38_x11.toInt ∧ o38_x12.toInt = o38_x12.toInt ∧ o38_x13.toInt = o38_x13.toInt ∧ o38_x15.toInt = o38_x15.toInt ∧ o38_x19.toInt = o38_x19.toInt ∧ o38_x20.toInt = o38_x20.toInt) from by first | omega | decide)) | (rw [tf39, tf40, tf41, tf42, tf48, tf43, tf44, tf45]; exact (show (o38_x9.toInt = o38_x9.toInt ∧ o38_x10.toInt = o38_x10.toInt ∧ o38_x11.toInt = o38_x11.toInt ∧ o38_x12.toInt = o38_x12.toInt ∧ o38_x13.toInt = o38_x13.toInt ∧ o38_x15.toInt = o38_x15.toInt ∧ o38_x19.toInt = o38_x19.toInt ∧ o38_x20.toInt = o38_x20.toInt) from by first | omega | decide))), hP, hD, hS, lv_sub hl [0, 1] rfl⟩
  intro n0 H locs ls hI ih53
  obtain ⟨f51, hn54, hT, hR, hk49k, hk50k, jf55, jf56, jf57, jf58, jf59, hP, hD, hS, hl⟩ := hI
  obtain ⟨g61, hf_o60⟩ := tpo_53 hT y8
  have tf62 : mo_i (f51 (ρ h0 23)) = g61 := tfa_i hf_o60
  obtain ⟨g64, hf_o63⟩ := tpo_54 hT y9
  have tf65 : mo_i (f51 (ρ h0 24)) = g64 := tfa_i hf_o63
  obtain ⟨o66_x0, o66_x1, o66_x7, o66_x9, o66_x10, o66_x11, o66_x12, o66_x13, o66_x14, o66_x15, o66_x16, o66_x17, o66_x18, o66_x19, o66_x20, o66_x22, o66_x25, o66_x28, o66_x29, o66_x32, o66_x33, o66_x34, o66_x35, o66_x36, o66_x37, o66_x38, o66_x47, o66_x48, hf_o66, ro66_0, ro66_1, ro66_2, ro66_3, ro66_4, ro66_5, ro66_6, ro66_7, ro66_8, ro66_9, ro66_10, ro66_11, ro66_12, ro66_13⟩ := tpo_13 hT ht_h0
  have tf67 : tp_fld (f51 h0) 22 = o66_x22.toInt := tff_22 hf_o66
  have tf68 : tp_fld (f51 h0) 28 = o66_x28.toInt := tff_28 hf_o66
  have jf55 : (o38_x15.toInt = 0 → mo_PJ aa (mo_R g61) (mo_R g64) (mo_R g33) (mo_R g36) o66_x22.toInt o66_x28.toInt 1) := by have q9 := jf55; first | (simp only [tf62, tf65, tf67, tf68, mo_i1, mo_l1] at q9; exact q9) | (rw [tf62, tf65, tf67, tf68] at q9; exact q9)
  have jf56 : (o38_x15.toInt = 0 → mo_FR aa (mo_R g27) (mo_R g30) (mo_R g61) (mo_R g64)) := by have q9 := jf56; first | (simp only [tf62, tf65, mo_i1, mo_l1] at q9; exact q9) | (rw [tf62, tf65] at q9; exact q9)
  have jf57 : ∀ i, o66_x28.toInt ≤ i → i < o38_x28.toInt → (mo_R g33) i < 30 ∧ (5 ≤ v.toInt → (mo_R g33) i < 14) := by have q9 := jf57; first | (simp only [tf68, mo_i1, mo_l1] at q9; exact q9) | (rw [tf68] at q9; exact q9)
  have jf58 : (o66_x28.toInt ≤ o38_x28.toInt ∧ o38_x22.toInt ≤ o66_x22.toInt ∧ o66_x22.toInt + o66_x28.toInt ≤ o38_x22.toInt + o38_x28.toInt) := by have q9 := jf58; first | (simp only [tf68, tf67, mo_i1, mo_l1] at q9; exact q9) | (rw [tf68, tf67] at q9; exact q9)
  have tf69 : tp_fld (f51 h0) 9 = o66_x9.toInt := tff_9 hf_o66
  have tf70 : tp_fld (f51 h0) 10 = o66_x10.toInt := tff_10 hf_o66
  have tf71 : tp_fld (f51 h0) 11 = o66_x11.toInt := tff_11 hf_o66
  have tf72 : tp_fld (f51 h0) 12 = o66_x12.toInt := tff_12 hf_o66
  have tf73 : mo_fj (f51 h0) 13 = o66_x13.toInt := tff_13 hf_o66
  have tf74 : tp_fld (f51 h0) 15 = o66_x15.toInt := tff_15 hf_o66
  have tf75 : tp_fld (f51 h0) 19 = o66_x19.toInt := tff_19 hf_o66
  have tf76 : tp_fld (f51 h0) 20 = o66_x20.toInt := tff_20 hf_o66
  have jf59 : (o66_x9.toInt = o38_x9.toInt ∧ o66_x10.toInt = o38_x10.toInt ∧ o66_x11.toInt = o38_x11.toInt ∧ o66_x12.toInt = o38_x12.toInt ∧ o66_x13.toInt = o38_x13.toInt ∧ o66_x15.toInt = o38_x15.toInt ∧ o66_x19.toInt = o38_x19.toInt ∧ o66_x20.toInt = o38_x20.toInt) := by have q9 := jf59; first | (simp only [tf69, tf70, tf71, tf72, tf73, tf74, tf75, tf76, mo_i1, mo_l1] at q9; exact q9) | (rw [tf69, tf70, tf71, tf72, tf73, tf74, tf75, tf76] at q9; exact q9)
  have hn54 : n0 = (o66_x28.toInt).toNat := by have q9 := hn54; first | (simp only [tf68, mo_i1, mo_l1] at q9; exact q9) | (rw [tf68] at q9; exact q9)
  refine lv_aload_n hx hb dX12_settleDown_0 rfl (lv_at hl 0 rfl) ?_
  obtain ⟨q77, eq77⟩ := tp_pos (tp_in hG ht_h0 (by decide)) hf_o66
  refine va_get (D := (dC, dI)) (ci := 12) (v := .int o66_x28) (C := RX12) (T := TX12) (N := 53) hx hb hts hfX12 hown hK hP q77 eq77 rfl 28 (by decide) (hts (.fieldLink RX12 300 "ColdShipsModel" "piled" "I") wa_1045) (fun _ h9 => h9) rfl dX12_settleDown_1 ?_
  refine lv_if_le (tgt := 101) hx hb dX12_settleDown_4 (by decide) (fun c78 => ?_) (fun c78 => ?_)
  · have ic78 : o66_x28.toInt ≤ 0 := zi_le rfl rfl c78
    exact W.vret hx hb hr (fun t ht hW => ⟨⟨f51, rfl, ⟨hT, hR, (by first | (simp only [tf68, tf47, tf46, tf67, tf43, tf62, tf65, tf34, tf37, tf28, tf31, tf69, tf39, tf70, tf40, tf71, tf41, tf72, tf42, tf73, tf48, tf74, tf75, tf44, tf76, tf45, mo_i1, mo_l1]; exact (show o66_x28.toInt ≤ o38_x28.toInt ∧ o38_x22.toInt ≤ o66_x22.toInt ∧ o66_x22.toInt + o66_x28.toInt ≤ o38_x22.toInt + o38_x28.toInt ∧ (o38_x15.toInt = 0 → mo_PJ aa (mo_R g61) (mo_R g64) (mo_R g33) (mo_R g36) o66_x22.toInt o66_x28.toInt 1) ∧ (∀ i, o66_x28.toInt ≤ i → i < o38_x28.toInt → (mo_R g33) i < 30 ∧ (5 ≤ v.toInt → (mo_R g33) i < 14)) ∧ (o66_x28.toInt = 0 ∨ ((v.toInt = 1 → 30 ≤ (mo_R g33) (o66_x28.toInt + -1)) ∧ (v.toInt = 5 → 14 ≤ (mo_R g33) (o66_x28.toInt + -1)))) ∧ (o38_x15.toInt = 0 → mo_FR aa (mo_R g27) (mo_R g30) (mo_R g61) (mo_R g64)) ∧ o66_x9.toInt = o38_x9.toInt ∧ o66_x10.toInt = o38_x10.toInt ∧ o66_x11.toInt = o38_x11.toInt ∧ o66_x12.toInt = o38_x12.toInt ∧ o66_x13.toInt = o38_x13.toInt ∧ o66_x15.toInt = o38_x15.toInt ∧ o66_x19.toInt = o38_x19.toInt ∧ o66_x20.toInt = o38_x20.toInt from ⟨by omega, by omega, by omega, jf55, jf57, by omega, jf56, by omega, by omega, by omega, by omega, by omega, by omega, by omega, by omega⟩)) | (rw [tf68, tf47, tf46, tf67, tf43, tf62, tf65, tf34, tf37, tf28, tf31, tf69, tf39, tf70, tf40, tf71, tf41, tf72, tf42, tf73, tf48, tf74, tf75, tf44, tf76, tf45]; exact (show o66_x28.toInt ≤ o38_x28.toInt ∧ o38_x22.toInt ≤ o66_x22.toInt ∧ o66_x22.toInt + o66_x28.toInt ≤ o38_x22.toInt + o38_x28.toInt ∧ (o38_x15.toInt = 0 → mo_PJ aa (mo_R g61) (mo_R g64) (mo_R g33) (mo_R g36) o66_x22.toInt o66_x28.toInt 1) ∧ (∀ i, o66_x28.toInt ≤ i → i < o38_x28.toInt → (mo_R g33) i < 30 ∧ (5 ≤ v.toInt → (mo_R g33) i < 14)) ∧ (o66_x28.toInt = 0 ∨ ((v.toInt = 1 → 30 ≤ (mo_R g33) (o66_x28.toInt + -1)) ∧ (v.toInt = 5 → 14 ≤ (mo_R g33) (o66_x28.toInt + -1)))) ∧ (o38_x15.toInt = 0 → mo_FR aa (mo_R g27) (mo_R g30) (mo_R g61) (mo_R g64)) ∧ o66_x9.toInt = o38_x9.toInt ∧ o66_x10.toInt = o38_x10.toInt ∧ o66_x11.toInt = o38_x11.toInt ∧ o66_x12.toInt = o38_x12.toInt ∧ o66_x13.toInt = o38_x13.toInt ∧ o66_x15.toInt = o38_x15.toInt ∧ o66_x19.toInt = o38_x19.toInt ∧ o66_x20.toInt = o38_x20.toInt from ⟨by omega, by omega, by omega, jf55, jf57, by omega, jf56, by omega, by omega, by omega, by omega, by omega, by omega, by omega, by omega⟩)))⟩, by rw [ht]; exact hP, va_K.moved hW.alike hK, hD⟩, hS.F ht⟩) hS.2.2 dX12_settleDown_101
  · have ic78 : o66_x28.toInt > 0 := zi_lef rfl rfl c78
    have hpv := h3 (o66_x28.toInt + -1) (by omega) (by omega)
    refine lv_aload_n hx hb dX12_settleDown_7 rfl (lv_at hl 0 rfl) ?_
    refine va_get (D := (dC, dI)) (ci := 12) (v := .ref (ρ h0 26)) (C := RX12) (T := TX12) (N := 53) hx hb hts hfX12 hown hK hP q77 eq77 rfl 26 (by decide) (hts (.fieldLink RX12 43 "ColdShipsModel" "pile" "[I") wa_159) (fun _ h9 => h9) rfl dX12_settleDown_8 ?_
    refine lv_aload_n hx hb dX12_settleDown_11 rfl (lv_at hl 0 rfl) ?_
    refine va_get (D := (dC, dI)) (ci := 12) (v := .int o66_x28) (C := RX12) (T := TX12) (N := 53) hx hb hts hfX12 hown hK hP q77 eq77 rfl 28 (by decide) (hts (.fieldLink RX12 300 "ColdShipsModel" "piled" "I") wa_1045) (fun _ h9 => h9) rfl dX12_settleDown_12 ?_
    refine lv_iconst (v := 1) hx hb dX12_settleDown_15 (by decide) ?_
    refine lv_isub hx hb dX12_settleDown_16 ?_
    refine lv_topi (fun z79 ez79 => ?_)
    have iz79 : z79.toInt = o66_x28.toInt - 1 := zi_sub ez79 rfl rfl (by omega) (by omega)
    obtain ⟨q80, eq80⟩ := tp_pos (tp_in hG y10 (by decide)) hk49k
    refine va_iald hx hb hK hP q80 0 eq80 rfl (vp_in_iff.mpr ⟨by omega, by omega⟩) dX12_settleDown_17 ?_
    refine lv_topi (fun z81 ez81 => ?_)
    have jz81 : z81.toInt = mo_R g33 (o66_x28.toInt + -1) := mo_rd ez81 (by omega)
    refine pz_calli (va_runS (As := [.int z81]) (rest := []) ⟨hx, hb, hml, hown, hts⟩ (t_X12_binds l dC dI _ z81 (z81.toInt) rfl) (va_cwS 1 hts gX12_settleDown_X12_binds rfl rfl rfl pd_X12_binds ⟨Nat.le_of_ble_eq_true rfl, Nat.le_of_ble_eq_true rfl⟩) ⟨pz_blind, pz_pre pz_P0 (hK.sub (tys' := []) [] rfl) (pz_D0 (A := fun _ => True)) hN⟩ rfl rfl hl.1 rfl (lv_room (Nat.le_of_ble_eq_true rfl)) dX12_settleDown_18 ⟨Nat.le_of_ble_eq_true rfl, Nat.le_of_ble_eq_true rfl⟩) (fun r82 hw83 => ?_)
    obtain ⟨hw83r, hw83p⟩ := hw83
    refine lv_iload_n hx hb dX12_settleDown_21 rfl (lv_at hl 1 rfl) ?_
    refine lv_icmp_lt (tgt := 101) hx hb dX12_settleDown_22 (by decide) (fun c84 => ?_) (fun c84 => ?_)
    · have ic84 : r82.toInt < v.toInt := zi_lt rfl rfl c84
      exact W.vret hx hb hr (fun t ht hW => ⟨⟨f51, rfl, ⟨hT, hR, (by first | (simp only [tf68, tf47, tf46, tf67, tf43, tf62, tf65, tf34, tf37, tf28, tf31, tf69, tf39, tf70, tf40, tf71, tf41, tf72, tf42, tf73, tf48, tf74, tf75, tf44, tf76, tf45, mo_i1, mo_l1]; exact (show o66_x28.toInt ≤ o38_x28.toInt ∧ o38_x22.toInt ≤ o66_x22.toInt ∧ o66_x22.toInt + o66_x28.toInt ≤ o38_x22.toInt + o38_x28.toInt ∧ (o38_x15.toInt = 0 → mo_PJ aa (mo_R g61) (mo_R g64) (mo_R g33) (mo_R g36) o66_x22.toInt o66_x28.toInt 1) ∧ (∀ i, o66_x28.toInt ≤ i → i < o38_x28.toInt → (mo_R g33) i < 30 ∧ (5 ≤ v.toInt → (mo_R g33) i < 14)) ∧ (o66_x28.toInt = 0 ∨ ((v.toInt = 1 → 30 ≤ (mo_R g33) (o66_x28.toInt + -1)) ∧ (v.toInt = 5 → 14 ≤ (mo_R g33) (o66_x28.toInt + -1)))) ∧ (o38_x15.toInt = 0 → mo_FR aa (mo_R g27) (mo_R g30) (mo_R g61) (mo_R g64)) ∧ o66_x9.toInt = o38_x9.toInt ∧ o66_x10.toInt = o38_x10.toInt ∧ o66_x11.toInt = o38_x11.toInt ∧ o66_x12.toInt = o38_x12.toInt ∧ o66_x13.toInt = o38_x13.toInt ∧ o66_x15.toInt = o38_x15.toInt ∧ o66_x19.toInt = o38_x19.toInt ∧ o66_x20.toInt = o38_x20.toInt from ⟨by omega, by omega, by omega, jf55, jf57, by omega, jf56, by omega, by omega, by omega, by omega, by omega, by omega, by omega, by omega⟩)) | (rw [tf68, tf47, tf46, tf67, tf43, tf62, tf65, tf34, tf37, tf28, tf31, tf69, tf39, tf70, tf40, tf71, tf41, tf72, tf42, tf73, tf48, tf74, tf75, tf44, tf76, tf45]; exact (show o66_x28.toInt ≤ o38_x28.toInt ∧ o38_x22.toInt ≤ o66_x22.toInt ∧ o66_x22.toInt + o66_x28.toInt ≤ o38_x22.toInt + o38_x28.toInt ∧ (o38_x15.toInt = 0 → mo_PJ aa (mo_R g61) (mo_R g64) (mo_R g33) (mo_R g36) o66_x22.toInt o66_x28.toInt 1) ∧ (∀ i, o66_x28.toInt ≤ i → i < o38_x28.toInt → (mo_R g33) i < 30 ∧ (5 ≤ v.toInt → (mo_R g33) i < 14)) ∧ (o66_x28.toInt = 0 ∨ ((v.toInt = 1 → 30 ≤ (mo_R g33) (o66_x28.toInt + -1)) ∧ (v.toInt = 5 → 14 ≤ (mo_R g33) (o66_x28.toInt + -1)))) ∧ (o38_x15.toInt = 0 → mo_FR aa (mo_R g27) (mo_R g30) (mo_R g61) (mo_R g64)) ∧ o66_x9.toInt = o38_x9.toInt ∧ o66_x10.toInt = o38_x10.toInt ∧ o66_x11.toInt = o38_x11.toInt ∧ o66_x12.toInt = o38_x12.toInt ∧ o66_x13.toInt = o38_x13.toInt ∧ o66_x15.toInt = o38_x15.toInt ∧ o66_x19.toInt = o38_x19.toInt ∧ o66_x20.toInt = o38_x20.toInt from ⟨by omega, by omega, by omega, jf55, jf57, by omega, jf56, by omega, by omega, by omega, by omega, by omega, by omega, by omega, by omega⟩)))⟩, by rw [ht]; exact hP, va_K.moved hW.alike hK, hD⟩, hS.F ht⟩) hS.2.2 dX12_settleDown_101
    · have ic84 : r82.toInt ≥ v.toInt := zi_ltf rfl rfl c84
      refine lv_aload_n hx hb dX12_settleDown_25 rfl (lv_at hl 0 rfl) ?_
      refine lv_dup hx hb dX12_settleDown_26 rfl ?_
      refine va_get (D := (dC, dI)) (ci := 12) (v := .int o66_x28) (C := RX12) (T := TX12) (N := 53) hx hb hts hfX12 hown hK hP q77 eq77 rfl 28 (by decide) (hts (.fieldLink RX12 300 "ColdShipsModel" "piled" "I") wa_1045) (fun _ h9 => h9) rfl dX12_settleDown_27 ?_
      refine lv_iconst (v := 1) hx hb dX12_settleDown_30 (by decide) ?_
      refine lv_isub hx hb dX12_settleDown_31 ?_
      refine lv_topi (fun z85 ez85 => ?_)
      have iz85 : z85.toInt = o66_x28.toInt - 1 := zi_sub ez85 rfl rfl (by omega) (by omega)
      refine va_put (D := (dC, dI)) (ci := 12) (v := .int z85) (ty := .int) (C := RX12) (T := TX12) (N := 53) hx hb hts hfX12 tyX12 tyX12_ok nmX12 hown hK hP hD hS q77 eq77 rfl 28 (by decide) (hts (.fieldLink RX12 300 "ColdShipsModel" "piled" "I") wa_1045) (fun _ h9 => h9) rfl (tyX12_ok 28 (by decide)) rfl rfl (Nat.le_of_ble_eq_true rfl) dX12_settleDown_32 (tp_k (.inr (12, [.int o66_x0, .int o66_x1, .ref (ρ h0 2), .ref (ρ h0 3), .ref (ρ h0 4), .ref (ρ h0 5), .ref (ρ h0 6), .int o66_x7, .ref (ρ h0 8), .int o66_x9, .int o66_x10, .int o66_x11, .int o66_x12, .long o66_x13, .int o66_x14, .int o66_x15, .int o66_x16, .int o66_x17, .int o66_x18, .int o66_x19, .int o66_x20, .ref (ρ h0 21), .int o66_x22, .ref (ρ h0 23), .ref (ρ h0 24), .int o66_x25, .ref (ρ h0 26), .ref (ρ h0 27), .int z85, .int o66_x29, .ref (ρ h0 30), .ref (ρ h0 31), .int o66_x32, .long o66_x33, .long o66_x34, .long o66_x35, .int o66_x36, .int o66_x37, .int o66_x38, .ref (ρ h0 39), .ref (ρ h0 40), .ref (ρ h0 41), .ref (ρ h0 42), .ref (ρ h0 43), .ref (ρ h0 44), .ref (ρ h0 45), .ref (ρ h0 46), .int o66_x47, .int o66_x48, .ref (ρ h0 49), .ref (ρ h0 50), .ref (ρ h0 51), .ref (ρ h0 52)])) hD (tp_in hG ht_h0 (by decide)) eq77 (fun f86 H locs hP hD hS g88 k87 => ?_))
      have hT := hT.up ht_h0 g88 k87 ⟨_, _, _, _, _, _, _, _, _, _, _, _, _, _, _, _, _, _, _, _, _, _, _, _, _, _, _, _, rfl, ro66_0, ro66_1, ro66_2, ro66_3, ro66_4, ro66_5, ro66_6, ro66_7, ro66_8, (by omega), ro66_10, ro66_11, ro66_12, ro66_13⟩
      have hR := hR.up ht_h0 (by decide) k87
      refine lv_aload_n hx hb dX12_settleDown_35 rfl (lv_at hl 0 rfl) ?_
      obtain ⟨q89, eq89⟩ := tp_pos (tp_in hG ht_h0 (by decide)) g88
      refine va_get (D := (dC, dI)) (ci := 12) (v := .ref (ρ h0 26)) (C := RX12) (T := TX12) (N := 53) hx hb hts hfX12 hown hK hP q89 eq89 rfl 26 (by decide) (hts (.fieldLink RX12 43 "ColdShipsModel" "pile" "[I") wa_159) (fun _ h9 => h9) rfl dX12_settleDown_36 ?_
      refine lv_aload_n hx hb dX12_settleDown_39 rfl (lv_at hl 0 rfl) ?_
      refine va_get (D := (dC, dI)) (ci := 12) (v := .int z85) (C := RX12) (T := TX12) (N := 53) hx hb hts hfX12 hown hK hP q89 eq89 rfl 28 (by decide) (hts (.fieldLink RX12 300 "ColdShipsModel" "piled" "I") wa_1045) (fun _ h9 => h9) rfl dX12_settleDown_40 ?_
      have hf_90 : f86 (ρ h0 26) = .inl (κ 0, 400, .inl g33) := (k87 _ (tp_ne y10 ht_h0 (by decide))).trans hk49k
      obtain ⟨q91, eq91⟩ := tp_pos (tp_in hG y10 (by decide)) hf_90
      refine va_iald hx hb hK hP q91 0 eq91 rfl (vp_in_iff.mpr ⟨by omega, by omega⟩) dX12_settleDown_43 ?_
      refine lv_topi (fun z92 ez92 => ?_)
      have jz92 : z92.toInt = mo_R g33 (o66_x28.toInt + -1) := mo_rd ez92 (by omega)
      refine lv_bipush (v := 18) hx hb dX12_settleDown_44 (by decide) ?_
      refine lv_icmp_eq (tgt := 63) hx hb dX12_settleDown_46 (by decide) (fun c93 => ?_) (fun c93 => ?_)
      · have ic93 : z92.toInt = 18 := zi_eq rfl rfl c93
        refine lv_aload_n hx hb dX12_settleDown_63 rfl (lv_at hl 0 rfl) ?_
        refine va_get (D := (dC, dI)) (ci := 12) (v := .ref (ρ h0 24)) (C := RX12) (T := TX12) (N := 53) hx hb hts hfX12 hown hK hP q89 eq89 rfl 24 (by decide) (hts (.fieldLink RX12 40 "ColdShipsModel" "nArg" "[I") wa_158) (fun _ h9 => h9) rfl dX12_settleDown_64 ?_
        refine lv_aload_n hx hb dX12_settleDown_67 rfl (lv_at hl 0 rfl) ?_
        refine va_get (D := (dC, dI)) (ci := 12) (v := .ref (ρ h0 27)) (C := RX12) (T := TX12) (N := 53) hx hb hts hfX12 hown hK hP q89 eq89 rfl 27 (by decide) (hts (.fieldLink RX12 46 "ColdShipsModel" "pileAt" "[I") wa_160) (fun _ h9 => h9) rfl dX12_settleDown_68 ?_
        refine lv_aload_n hx hb dX12_settleDown_71 rfl (lv_at hl 0 rfl) ?_
        refine va_get (D := (dC, dI)) (ci := 12) (v := .int z85) (C := RX12) (T := TX12) (N := 53) hx hb hts hfX12 hown hK hP q89 eq89 rfl 28 (by decide) (hts (.fieldLink RX12 300 "ColdShipsModel" "piled" "I") wa_1045) (fun _ h9 => h9) rfl dX12_settleDown_72 ?_
        have hf_94 : f86 (ρ h0 27) = .inl (κ 0, 400, .inl g36) := (k87 _ (tp_ne y11 ht_h0 (by decide))).trans hk50k
        obtain ⟨q95, eq95⟩ := tp_pos (tp_in hG y11 (by decide)) hf_94
        refine va_iald hx hb hK hP q95 0 eq95 rfl (vp_in_iff.mpr ⟨by omega, by omega⟩) dX12_settleDown_75 ?_
        refine lv_topi (fun z96 ez96 => ?_)
        have jz96 : z96.toInt = mo_R g36 (o66_x28.toInt + -1) := mo_rd ez96 (by omega)
        have hQb := fun (q9 : o38_x15.toInt = 0) => ((jf55 q9).choose_spec.2.2.2.2.2.1 (o66_x28.toInt + -1) (by omega) (by omega) (by omega) (by omega)).1
        refine lv_aload_n hx hb dX12_settleDown_76 rfl (lv_at hl 0 rfl) ?_
        refine va_get (D := (dC, dI)) (ci := 12) (v := .int o66_x22) (C := RX12) (T := TX12) (N := 53) hx hb hts hfX12 hown hK hP q89 eq89 rfl 22 (by decide) (hts (.fieldLink RX12 297 "ColdShipsModel" "nCode" "I") wa_989) (fun _ h9 => h9) rfl dX12_settleDown_77 ?_
        have hf_97 : f86 (ρ h0 24) = .inl (κ 0, 400, .inl g64) := (k87 _ (tp_ne y9 ht_h0 (by decide))).trans hf_o63
        obtain ⟨q98, eq98⟩ := tp_pos (tp_in hG y9 (by decide)) hf_97
        refine va_iast hx hb hK hP hD hS q98 0 eq98 rfl (vp_in_iff.mpr ⟨by omega, by omega⟩) dX12_settleDown_80 (tp_k (.inl (κ 0, 400, .inl (upd g64 z96.toNatClampNeg o66_x22))) hD (tp_in hG y9 (by decide)) eq98 (fun f99 H locs hP hD hS g101 k100 => ?_))
        have hT := hT.up y9 g101 k100 tp_o54
        have hR := hR.up y9 (by decide) k100
        have hU103 : mo_U (mo_R g64) (mo_R (upd g64 z96.toNatClampNeg o66_x22)) (z96.toInt) (o66_x22.toInt) := mo_up (by omega) (rfl : o66_x22.toInt = _) (by omega)
        generalize (upd g64 z96.toNatClampNeg o66_x22) = g102 at g101 hU103
        refine lv_goto (tgt := 0) hx hb dX12_settleDown_81 (by decide) ?_
        have hf_104 : f99 h0 = .inr (12, [.int o66_x0, .int o66_x1, .ref (ρ h0 2), .ref (ρ h0 3), .ref (ρ h0 4), .ref (ρ h0 5), .ref (ρ h0 6), .int o66_x7, .ref (ρ h0 8), .int o66_x9, .int o66_x10, .int o66_x11, .int o66_x12, .long o66_x13, .int o66_x14, .int o66_x15, .int o66_x16, .int o66_x17, .int o66_x18, .int o66_x19, .int o66_x20, .ref (ρ h0 21), .int o66_x22, .ref (ρ h0 23), .ref (ρ h0 24), .int o66_x25, .ref (ρ h0 26), .ref (ρ h0 27), .int z85, .int o66_x29, .ref (ρ h0 30), .ref (ρ h0 31), .int o66_x32, .long o66_x33, .long o66_x34, .long o66_x35, .int o66_x36, .int o66_x37, .int o66_x38, .ref (ρ h0 39), .ref (ρ h0 40), .ref (ρ h0 41), .ref (ρ h0 42), .ref (ρ h0 43), .ref (ρ h0 44), .ref (ρ h0 45), .ref (ρ h0 46), .int o66_x47, .int o66_x48, .ref (ρ h0 49), .ref (ρ h0 50), .ref (ρ h0 51), .ref (ρ h0 52)]) := (k100 _ (tp_ne ht_h0 y9 (by decide))).trans g88
        have tf105 : tp_fld (f99 h0) 28 = z85.toInt := tff_28 hf_104
        have hf_106 : f86 (ρ h0 23) = .inl (κ 0, 400, .inl g61) := (k87 _ (tp_ne y8 ht_h0 (by decide))).trans hf_o60
        have hf_107 : f99 (ρ h0 23) = .inl (κ 0, 400, .inl g61) := (k100 _ (tp_ne y8 y9 (by decide))).trans hf_106
        have tf108 : mo_i (f99 (ρ h0 23)) = g61 := tfa_i hf_107
        have tf109 : mo_i (f99 (ρ h0 24)) = g102 := tfa_i g101
        have tf110 : tp_fld (f99 h0) 22 = o66_x22.toInt := tff_22 hf_104
        have tf111 : tp_fld (f99 h0) 9 = o66_x9.toInt := tff_9 hf_104
        have tf112 : tp_fld (f99 h0) 10 = o66_x10.toInt := tff_10 hf_104
        have tf113 : tp_fld (f99 h0) 11 = o66_x11.toInt := tff_11 hf_104
        have tf114 : tp_fld (f99 h0) 12 = o66_x12.toInt := tff_12 hf_104
        have tf115 : mo_fj (f99 h0) 13 = o66_x13.toInt := tff_13 hf_104
        have tf116 : tp_fld (f99 h0) 15 = o66_x15.toInt := tff_15 hf_104
        have tf117 : tp_fld (f99 h0) 19 = o66_x19.toInt := tff_19 hf_104
        have tf118 : tp_fld (f99 h0) 20 = o66_x20.toInt := tff_20 hf_104
        have hf_119 : f99 (ρ h0 26) = .inl (κ 0, 400, .inl g33) := (k100 _ (tp_ne y10 y9 (by decide))).trans hf_90
        have hf_120 : f99 (ρ h0 27) = .inl (κ 0, 400, .inl g36) := (k100 _ (tp_ne y11 y9 (by decide))).trans hf_94
        exact ih53 _ _ _ _ (by rw [hn54]; first | (simp only [tf105, mo_i1, mo_l1]; exact (show (z85.toInt).toNat < (o66_x28.toInt).toNat from by omega)) | (rw [tf105]; exact (show (z85.toInt).toNat < (o66_x28.toInt).toNat from by omega))) ⟨f99, rfl, hT, hR, hf_119, hf_120, (by first | (simp only [tf108, tf109, tf110, tf105, mo_i1, mo_l1]; exact (show (o38_x15.toInt = 0 → mo_PJ aa (mo_R g61) (mo_R g102) (mo_R g33) (mo_R g36) o66_x22.toInt z85.toInt 1) from (fun q9 => by rw [show z85.toInt = (o66_x28.toInt + -1) by omega]; exact (jf55 q9).and (h4 q9).1 (by omega) (by omega) (by omega) (by rw [← jz96]; exact hU103)))) | (rw [tf108, tf109, tf110, tf105]; exact (show (o38_x15.toInt = 0 → mo_PJ aa (mo_R g61) (mo_R g102) (mo_R g33) (mo_R g36) o66_x22.toInt z85.toInt 1) from (fun q9 => by rw [show z85.toInt = (o66_x28.toInt + -1) by omega]; exact (jf55 q9).and (h4 q9).1 (by omega) (by omega) (by omega) (by rw [← jz96]; exact hU103))))), (by first | (simp only [tf108, tf109, mo_i1, mo_l1]; exact (show (o38_x15.toInt = 0 → mo_FR aa (mo_R g27) (mo_R g30) (mo_R g61) (mo_R g102)) from (fun q9 => by have q8 := (jf55 q9).base; have q7 := hQb q9; exact (jf56 q9).then (fun k k0 k1 => ⟨rfl, hU103.ne k0 (by omega)⟩)))) | (rw [tf108, tf109]; exact (show (o38_x15.toInt = 0 → mo_FR aa (mo_R g27) (mo_R g30) (mo_R g61) (mo_R g102)) from (fun q9 => by have q8 := (jf55 q9).base; have q7 := hQb q9; exact (jf56 q9).then (fun k k0 k1 => ⟨rfl, hU103.ne k0 (by omega)⟩))))), (by first | (simp only [tf105, mo_i1, mo_l1]; exact (show ∀ i, z85.toInt ≤ i → i < o38_x28.toInt → (mo_R g33) i < 30 ∧ (5 ≤ v.toInt → (mo_R g33) i < 14) from (fun i i0 i1 => by rcases (show i = (o66_x28.toInt + -1) ∨ (o66_x28.toInt + -1) < i by omega) with rfl | q9; (exact ⟨by omega, fun q8 => by omega⟩); (exact jf57 i (by omega) i1)))) | (rw [tf105]; exact (show ∀ i, z85.toInt ≤ i → i < o38_x28.toInt → (mo_R g33) i < 30 ∧ (5 ≤ v.toInt → (mo_R g33) i < 14) from (fun i i0 i1 => by rcases (show i = (o66_x28.toInt + -1) ∨ (o66_x28.toInt + -1) < i by omega) with rfl | q9; (exact ⟨by omega, fun q8 => by omega⟩); (exact jf57 i (by omega) i1))))), (by first | (simp only [tf105, tf110, mo_i1, mo_l1]; exact (show (z85.toInt ≤ o38_x28.toInt ∧ o38_x22.toInt ≤ o66_x22.toInt ∧ o66_x22.toInt + z85.toInt ≤ o38_x22.toInt + o38_x28.toInt) from by first | omega | decide)) | (rw [tf105, tf110]; exact (show (z85.toInt ≤ o38_x28.toInt ∧ o38_x22.toInt ≤ o66_x22.toInt ∧ o66_x22.toInt + z85.toInt ≤ o38_x22.toInt + o38_x28.toInt) from by first | omega | decide))), (by first | (simp only [tf111, tf112, tf113, tf114, tf115, tf116, tf117, tf118, mo_i1, mo_l1]; exact (show (o66_x9.toInt = o38_x9.toInt ∧ o66_x10.toInt = o38_x10.toInt ∧ o66_x11.toInt = o38_x11.toInt ∧ o66_x12.toInt = o38_x12.toInt ∧ o66_x13.toInt = o38_x13.toInt ∧ o66_x15.toInt = o38_x15.toInt ∧ o66_x19.toInt = o38_x19.toInt ∧ o66_x20.toInt = o38_x20.toInt) from by first | omega | decide)) | (rw [tf111, tf112, tf113, tf114, tf115, tf116, tf117, tf118]; exact (show (o66_x9.toInt = o38_x9.toInt ∧ o66_x10.toInt = o38_x10.toInt ∧ o66_x11.toInt = o38_x11.toInt ∧ o66_x12.toInt = o38_x12.toInt ∧ o66_x13.toInt = o38_x13.toInt ∧ o66_x15.toInt = o38_x15.toInt ∧ o66_x19.toInt = o38_x19.toInt ∧ o66_x20.toInt = o38_x20.toInt) from by first | omega | decide))), hP, hD, hS, lv_sub hl [0, 1] rfl⟩
      · have ic93 : z92.toInt ≠ 18 := zi_eqf rfl rfl c93
        refine lv_aload_n hx hb dX12_settleDown_49 rfl (lv_at hl 0 rfl) ?_
        refine va_get (D := (dC, dI)) (ci := 12) (v := .ref (ρ h0 26)) (C := RX12) (T := TX12) (N := 53) hx hb hts hfX12 hown hK hP q89 eq89 rfl 26 (by decide) (hts (.fieldLink RX12 43 "ColdShipsModel" "pile" "[I") wa_159) (fun _ h9 => h9) rfl dX12_settleDown_50 ?_
        refine lv_aload_n hx hb dX12_settleDown_53 rfl (lv_at hl 0 rfl) ?_
        refine va_get (D := (dC, dI)) (ci := 12) (v := .int z85) (C := RX12) (T := TX12) (N := 53) hx hb hts hfX12 hown hK hP q89 eq89 rfl 28 (by decide) (hts (.fieldLink RX12 300 "ColdShipsModel" "piled" "I") wa_1045) (fun _ h9 => h9) rfl dX12_settleDown_54 ?_
        refine va_iald hx hb hK hP q91 0 eq91 rfl (vp_in_iff.mpr ⟨by omega, by omega⟩) dX12_settleDown_57 ?_
        refine lv_topi (fun z121 ez121 => ?_)
        have jz121 : z121.toInt = mo_R g33 (o66_x28.toInt + -1) := mo_rd ez121 (by omega)
        refine lv_bipush (v := 19) hx hb dX12_settleDown_58 (by decide) ?_
        refine lv_icmp_ne (tgt := 84) hx hb dX12_settleDown_60 (by decide) (fun c122 => ?_) (fun c122 => ?_)
        · have ic122 : z121.toInt ≠ 19 := zi_ne rfl rfl c122
          refine lv_aload_n hx hb dX12_settleDown_84 rfl (lv_at hl 0 rfl) ?_
          refine lv_aload_n hx hb dX12_settleDown_85 rfl (lv_at hl 0 rfl) ?_
          refine va_get (D := (dC, dI)) (ci := 12) (v := .ref (ρ h0 26)) (C := RX12) (T := TX12) (N := 53) hx hb hts hfX12 hown hK hP q89 eq89 rfl 26 (by decide) (hts (.fieldLink RX12 43 "ColdShipsModel" "pile" "[I") wa_159) (fun _ h9 => h9) rfl dX12_settleDown_86 ?_
          refine lv_aload_n hx hb dX12_settleDown_89 rfl (lv_at hl 0 rfl) ?_
          refine va_get (D := (dC, dI)) (ci := 12) (v := .int z85) (C := RX12) (T := TX12) (N := 53) hx hb hts hfX12 hown hK hP q89 eq89 rfl 28 (by decide) (hts (.fieldLink RX12 300 "ColdShipsModel" "piled" "I") wa_1045) (fun _ h9 => h9) rfl dX12_settleDown_90 ?_
          refine va_iald hx hb hK hP q91 0 eq91 rfl (vp_in_iff.mpr ⟨by omega, by omega⟩) dX12_settleDown_93 ?_
          refine lv_topi (fun z123 ez123 => ?_)
          have jz123 : z123.toInt = mo_R g33 (o66_x28.toInt + -1) := mo_rd ez123 (by omega)
          refine lv_iconst (v := 0) hx hb dX12_settleDown_94 (by decide) ?_
          have hf_124 : f86 (ρ h0 23) = .inl (κ 0, 400, .inl g61) := (k87 _ (tp_ne y8 ht_h0 (by decide))).trans hf_o60
          have tf125 : mo_i (f86 (ρ h0 23)) = g61 := tfa_i hf_124
          have tf126 : tp_fld (f86 h0) 22 = o66_x22.toInt := tff_22 g88
          have hf_127 : f86 (ρ h0 24) = .inl (κ 0, 400, .inl g64) := (k87 _ (tp_ne y9 ht_h0 (by decide))).trans hf_o63
          have tf128 : mo_i (f86 (ρ h0 24)) = g64 := tfa_i hf_127
          have tf129 : tp_fld (f86 h0) 9 = o66_x9.toInt := tff_9 g88
          have tf130 : tp_fld (f86 h0) 10 = o66_x10.toInt := tff_10 g88
          have tf131 : tp_fld (f86 h0) 11 = o66_x11.toInt := tff_11 g88
          have tf132 : tp_fld (f86 h0) 12 = o66_x12.toInt := tff_12 g88
          have tf133 : mo_fj (f86 h0) 13 = o66_x13.toInt := tff_13 g88
          have tf134 : tp_fld (f86 h0) 15 = o66_x15.toInt := tff_15 g88
          have tf135 : tp_fld (f86 h0) 19 = o66_x19.toInt := tff_19 g88
          have tf136 : tp_fld (f86 h0) 20 = o66_x20.toInt := tff_20 g88
          have tf137 : tp_fld (f86 h0) 28 = z85.toInt := tff_28 g88
          have hFc := tp_fr hD hS hA
          refine va_callv (va_runV (As := [.int z123, .int 0]) (rest := []) ⟨hx, hb, hml, hown, hts⟩ (t_X12_emit l dC dI _ κ τ ν ρ L f86 hG hT h0 z123 (0) ht_h0 (by first | (simp only [tf126, mo_i1, mo_l1]; exact (show o66_x22.toInt < 400 from by have : (0 : Int32).toInt = 0 := rfl; first | omega | decide)) | (rw [tf126]; exact (show o66_x22.toInt < 400 from by have : (0 : Int32).toInt = 0 := rfl; first | omega | decide)))) (cwV 2 hts gX12_settleDown_X12_emit rfl rfl rfl ⟨rfl, pd_X12_emit⟩ ⟨Nat.le_of_ble_eq_true rfl, Nat.le_of_ble_eq_true rfl⟩) ⟨pz_blind, va_recv hK hP (ci := 12) (q0 := q89) rfl eq89, pz_pre hP hK hD hN⟩ rfl rfl hl.1 rfl (lv_room (Nat.le_of_ble_eq_true rfl)) dX12_settleDown_95 ⟨Nat.le_of_ble_eq_true rfl, Nat.le_of_ble_eq_true rfl⟩) hS (fun q _ h => hFc q h) hFc (fun f140 t H1 locs ht hvm hw139 hB hz1 hk1 hS => ?_)
          obtain ⟨hT, hF141, hw139p⟩ := hw139
          have hR := hR.then hF141 (by decide)
          have hP := hB.1; rw [ht] at hP; have hD := tp_ad f140 hD; clear hB hFc hz1 hk1; subst ht; generalize t.heap = H at hP hS ⊢
          obtain ⟨g143, hf_o142⟩ := tpo_53 hT y8
          have tf144 : mo_i (f140 (ρ h0 23)) = g143 := tfa_i hf_o142
          obtain ⟨g146, hf_o145⟩ := tpo_54 hT y9
          have tf147 : mo_i (f140 (ρ h0 24)) = g146 := tfa_i hf_o145
          obtain ⟨o148_x0, o148_x1, o148_x7, o148_x9, o148_x10, o148_x11, o148_x12, o148_x13, o148_x14, o148_x15, o148_x16, o148_x17, o148_x18, o148_x19, o148_x20, o148_x22, o148_x25, o148_x28, o148_x29, o148_x32, o148_x33, o148_x34, o148_x35, o148_x36, o148_x37, o148_x38, o148_x47, o148_x48, hf_o148, ro148_0, ro148_1, ro148_2, ro148_3, ro148_4, ro148_5, ro148_6, ro148_7, ro148_8, ro148_9, ro148_10, ro148_11, ro148_12, ro148_13⟩ := tpo_13 hT ht_h0
          have tf149 : tp_fld (f140 h0) 22 = o148_x22.toInt := tff_22 hf_o148
          have tf150 : tp_fld (f140 h0) 9 = o148_x9.toInt := tff_9 hf_o148
          have tf151 : tp_fld (f140 h0) 10 = o148_x10.toInt := tff_10 hf_o148
          have tf152 : tp_fld (f140 h0) 11 = o148_x11.toInt := tff_11 hf_o148
          have tf153 : tp_fld (f140 h0) 12 = o148_x12.toInt := tff_12 hf_o148
          have tf154 : mo_fj (f140 h0) 13 = o148_x13.toInt := tff_13 hf_o148
          have tf155 : tp_fld (f140 h0) 15 = o148_x15.toInt := tff_15 hf_o148
          have tf156 : tp_fld (f140 h0) 19 = o148_x19.toInt := tff_19 hf_o148
          have tf157 : tp_fld (f140 h0) 20 = o148_x20.toInt := tff_20 hf_o148
          have tf158 : tp_fld (f140 h0) 28 = o148_x28.toInt := tff_28 hf_o148
          have tk159 : mo_U (mo_R g61) (mo_R g143) o66_x22.toInt z123.toInt ∧ mo_U (mo_R g64) (mo_R g146) o66_x22.toInt (0 : Int) ∧ o148_x22.toInt = o66_x22.toInt + 1 ∧ o148_x9.toInt = o66_x9.toInt ∧ o148_x10.toInt = o66_x10.toInt ∧ o148_x11.toInt = o66_x11.toInt ∧ o148_x12.toInt = o66_x12.toInt ∧ o148_x13.toInt = o66_x13.toInt ∧ o148_x15.toInt = o66_x15.toInt ∧ o148_x19.toInt = o66_x19.toInt ∧ o148_x20.toInt = o66_x20.toInt ∧ o148_x28.toInt = z85.toInt := by have q9 := hw139p; first | (simp only [tf125, tf144, tf126, tf128, tf147, tf149, tf150, tf129, tf151, tf130, tf152, tf131, tf153, tf132, tf154, tf133, tf155, tf134, tf156, tf135, tf157, tf136, tf158, tf137, mo_i1, mo_l1] at q9; exact q9) | (rw [tf125, tf144, tf126, tf128, tf147, tf149, tf150, tf129, tf151, tf130, tf152, tf131, tf153, tf132, tf154, tf133, tf155, tf134, tf156, tf135, tf157, tf136, tf158, tf137] at q9; exact q9)
          refine lv_goto (tgt := 0) hx hb dX12_settleDown_98 (by decide) ?_
          have hf_160 : f140 (ρ h0 26) = .inl (κ 0, 400, .inl g33) := (hF141 _ (by rw [y10]; decide)).trans hf_90
          have hf_161 : f86 (ρ h0 27) = .inl (κ 0, 400, .inl g36) := (k87 _ (tp_ne y11 ht_h0 (by decide))).trans hk50k
          have hf_162 : f140 (ρ h0 27) = .inl (κ 0, 400, .inl g36) := (hF141 _ (by rw [y11]; decide)).trans hf_161
          exact ih53 _ _ _ _ (by rw [hn54]; first | (simp only [tf158, mo_i1, mo_l1]; exact (show (o148_x28.toInt).toNat < (o66_x28.toInt).toNat from by omega)) | (rw [tf158]; exact (show (o148_x28.toInt).toNat < (o66_x28.toInt).toNat from by omega))) ⟨f140, rfl, hT, hR, hf_160, hf_162, (by first | (simp only [tf144, tf147, tf149, tf158, mo_i1, mo_l1]; exact (show (o38_x15.toInt = 0 → mo_PJ aa (mo_R g143) (mo_R g146) (mo_R g33) (mo_R g36) o148_x22.toInt o148_x28.toInt 1) from (fun q9 => by rw [show o148_x28.toInt = (o66_x28.toInt + -1) by omega]; exact (jf55 q9).pop (h4 q9).1 tk159.1 tk159.2.1 (by omega) (by omega) (by omega) (by omega) (by omega)))) | (rw [tf144, tf147, tf149, tf158]; exact (show (o38_x15.toInt = 0 → mo_PJ aa (mo_R g143) (mo_R g146) (mo_R g33) (mo_R g36) o148_x22.toInt o148_x28.toInt 1) from (fun q9 => by rw [show o148_x28.toInt = (o66_x28.toInt + -1) by omega]; exact (jf55 q9).pop (h4 q9).1 tk159.1 tk159.2.1 (by omega) (by omega) (by omega) (by omega) (by omega))))), (by first | (simp only [tf144, tf147, mo_i1, mo_l1]; exact (show (o38_x15.toInt = 0 → mo_FR aa (mo_R g27) (mo_R g30) (mo_R g143) (mo_R g146)) from (fun q9 => (jf56 q9).then (mo_FR.emit tk159.1 tk159.2.1 (jf55 q9).base)))) | (rw [tf144, tf147]; exact (show (o38_x15.toInt = 0 → mo_FR aa (mo_R g27) (mo_R g30) (mo_R g143) (mo_R g146)) from (fun q9 => (jf56 q9).then (mo_FR.emit tk159.1 tk159.2.1 (jf55 q9).base))))), (by first | (simp only [tf158, mo_i1, mo_l1]; exact (show ∀ i, o148_x28.toInt ≤ i → i < o38_x28.toInt → (mo_R g33) i < 30 ∧ (5 ≤ v.toInt → (mo_R g33) i < 14) from (fun i i0 i1 => by rcases (show i = (o66_x28.toInt + -1) ∨ (o66_x28.toInt + -1) < i by omega) with rfl | q9; (exact ⟨by omega, fun q8 => by omega⟩); (exact jf57 i (by omega) i1)))) | (rw [tf158]; exact (show ∀ i, o148_x28.toInt ≤ i → i < o38_x28.toInt → (mo_R g33) i < 30 ∧ (5 ≤ v.toInt → (mo_R g33) i < 14) from (fun i i0 i1 => by rcases (show i = (o66_x28.toInt + -1) ∨ (o66_x28.toInt + -1) < i by omega) with rfl | q9; (exact ⟨by omega, fun q8 => by omega⟩); (exact jf57 i (by omega) i1))))), (by first | (simp only [tf158, tf149, mo_i1, mo_l1]; exact (show (o148_x28.toInt ≤ o38_x28.toInt ∧ o38_x22.toInt ≤ o148_x22.toInt ∧ o148_x22.toInt + o148_x28.toInt ≤ o38_x22.toInt + o38_x28.toInt) from by first | omega | decide)) | (rw [tf158, tf149]; exact (show (o148_x28.toInt ≤ o38_x28.toInt ∧ o38_x22.toInt ≤ o148_x22.toInt ∧ o148_x22.toInt + o148_x28.toInt ≤ o38_x22.toInt + o38_x28.toInt) from by first | omega | decide))), (by first | (simp only [tf150, tf151, tf152, tf153, tf154, tf155, tf156, tf157, mo_i1, mo_l1]; exact (show (o148_x9.toInt = o38_x9.toInt ∧ o148_x10.toInt = o38_x10.toInt ∧ o148_x11.toInt = o38_x11.toInt ∧ o148_x12.toInt = o38_x12.toInt ∧ o148_x13.toInt = o38_x13.toInt ∧ o148_x15.toInt = o38_x15.toInt ∧ o148_x19.toInt = o38_x19.toInt ∧ o148_x20.toInt = o38_x20.toInt) from by first | omega | decide)) | (rw [tf150, tf151, tf152, tf153, tf154, tf155, tf156, tf157]; exact (show (o148_x9.toInt = o38_x9.toInt ∧ o148_x10.toInt = o38_x10.toInt ∧ o148_x11.toInt = o38_x11.toInt ∧ o148_x12.toInt = o38_x12.toInt ∧ o148_x13.toInt = o38_x13.toInt ∧ o148_x15.toInt = o38_x15.toInt ∧ o148_x19.toInt = o38_x19.toInt ∧ o148_x20.toInt = o38_x20.toInt) from by first | omega | decide))), hP, hD, hS, lv_sub hl [0, 1] rfl⟩
        · have ic122 : z121.toInt = 19 := zi_nef rfl rfl c122
          refine lv_aload_n hx hb dX12_settleDown_63 rfl (lv_at hl 0 rfl) ?_
          refine va_get (D := (dC, dI)) (ci := 12) (v := .ref (ρ h0 24)) (C := RX12) (T := TX12) (N := 53) hx hb hts hfX12 hown hK hP q89 eq89 rfl 24 (by decide) (hts (.fieldLink RX12 40 "ColdShipsModel" "nArg" "[I") wa_158) (fun _ h9 => h9) rfl dX12_settleDown_64 ?_
          refine lv_aload_n hx hb dX12_settleDown_67 rfl (lv_at hl 0 rfl) ?_
          refine va_get (D := (dC, dI)) (ci := 12) (v := .ref (ρ h0 27)) (C := RX12) (T := TX12) (N := 53) hx hb hts hfX12 hown hK hP q89 eq89 rfl 27 (by decide) (hts (.fieldLink RX12 46 "ColdShipsModel" "pileAt" "[I") wa_160) (fun _ h9 => h9) rfl dX12_settleDown_68 ?_
          refine lv_aload_n hx hb dX12_settleDown_71 rfl (lv_at hl 0 rfl) ?_
          refine va_get (D := (dC, dI)) (ci := 12) (v := .int z85) (C := RX12) (T := TX12) (N := 53) hx hb hts hfX12 hown hK hP q89 eq89 rfl 28 (by decide) (hts (.fieldLink RX12 300 "ColdShipsModel" "piled" "I") wa_1045) (fun _ h9 => h9) rfl dX12_settleDown_72 ?_
          have hf_163 : f86 (ρ h0 27) = .inl (κ 0, 400, .inl g36) := (k87 _ (tp_ne y11 ht_h0 (by decide))).trans hk50k
          obtain ⟨q164, eq164⟩ := tp_pos (tp_in hG y11 (by decide)) hf_163
          refine va_iald hx hb hK hP q164 0 eq164 rfl (vp_in_iff.mpr ⟨by omega, by omega⟩) dX12_settleDown_75 ?_
          refine lv_topi (fun z165 ez165 => ?_)
          have jz165 : z165.toInt = mo_R g36 (o66_x28.toInt + -1) := mo_rd ez165 (by omega)
          have hQb := fun (q9 : o38_x15.toInt = 0) => ((jf55 q9).choose_spec.2.2.2.2.2.1 (o66_x28.toInt + -1) (by omega) (by omega) (by omega) (by omega)).1
          refine lv_aload_n hx hb dX12_settleDown_76 rfl (lv_at hl 0 rfl) ?_
          refine va_get (D := (dC, dI)) (ci := 12) (v := .int o66_x22) (C := RX12) (T := TX12) (N := 53) hx hb hts hfX12 hown hK hP q89 eq89 rfl 22 (by decide) (hts (.fieldLink RX12 297 "ColdShipsModel" "nCode" "I") wa_989) (fun _ h9 => h9) rfl dX12_settleDown_77 ?_
          have hf_166 : f86 (ρ h0 24) = .inl (κ 0, 400, .inl g64) := (k87 _ (tp_ne y9 ht_h0 (by decide))).trans hf_o63
          obtain ⟨q167, eq167⟩ := tp_pos (tp_in hG y9 (by decide)) hf_166
          refine va_iast hx hb hK hP hD hS q167 0 eq167 rfl (vp_in_iff.mpr ⟨by omega, by omega⟩) dX12_settleDown_80 (tp_k (.inl (κ 0, 400, .inl (upd g64 z165.toNatClampNeg o66_x22))) hD (tp_in hG y9 (by decide)) eq167 (fun f168 H locs hP hD hS g170 k169 => ?_))
          have hT := hT.up y9 g170 k169 tp_o54
          have hR := hR.up y9 (by decide) k169
          have hU172 : mo_U (mo_R g64) (mo_R (upd g64 z165.toNatClampNeg o66_x22)) (z165.toInt) (o66_x22.toInt) := mo_up (by omega) (rfl : o66_x22.toInt = _) (by omega)
          generalize (upd g64 z165.toNatClampNeg o66_x22) = g171 at g170 hU172
          refine lv_goto (tgt := 0) hx hb dX12_settleDown_81 (by decide) ?_
          have hf_173 : f168 h0 = .inr (12, [.int o66_x0, .int o66_x1, .ref (ρ h0 2), .ref (ρ h0 3), .ref (ρ h0 4), .ref (ρ h0 5), .ref (ρ h0 6), .int o66_x7, .ref (ρ h0 8), .int o66_x9, .int o66_x10, .int o66_x11, .int o66_x12, .long o66_x13, .int o66_x14, .int o66_x15, .int o66_x16, .int o66_x17, .int o66_x18, .int o66_x19, .int o66_x20, .ref (ρ h0 21), .int o66_x22, .ref (ρ h0 23), .ref (ρ h0 24), .int o66_x25, .ref (ρ h0 26), .ref (ρ h0 27), .int z85, .int o66_x29, .ref (ρ h0 30), .ref (ρ h0 31), .int o66_x32, .long o66_x33, .long o66_x34, .long o66_x35, .int o66_x36, .int o66_x37, .int o66_x38, .ref (ρ h0 39), .ref (ρ h0 40), .ref (ρ h0 41), .ref (ρ h0 42), .ref (ρ h0 43), .ref (ρ h0 44), .ref (ρ h0 45), .ref (ρ h0 46), .int o66_x47, .int o66_x48, .ref (ρ h0 49), .ref (ρ h0 50), .ref (ρ h0 51), .ref (ρ h0 52)]) := (k169 _ (tp_ne ht_h0 y9 (by decide))).trans g88
          have tf174 : tp_fld (f168 h0) 28 = z85.toInt := tff_28 hf_173
          have hf_175 : f86 (ρ h0 23) = .inl (κ 0, 400, .inl g61) := (k87 _ (tp_ne y8 ht_h0 (by decide))).trans hf_o60
          have hf_176 : f168 (ρ h0 23) = .inl (κ 0, 400, .inl g61) := (k169 _ (tp_ne y8 y9 (by decide))).trans hf_175
          have tf177 : mo_i (f168 (ρ h0 23)) = g61 := tfa_i hf_176
          have tf178 : mo_i (f168 (ρ h0 24)) = g171 := tfa_i g170
          have tf179 : tp_fld (f168 h0) 22 = o66_x22.toInt := tff_22 hf_173
          have tf180 : tp_fld (f168 h0) 9 = o66_x9.toInt := tff_9 hf_173
          have tf181 : tp_fld (f168 h0) 10 = o66_x10.toInt := tff_10 hf_173
          have tf182 : tp_fld (f168 h0) 11 = o66_x11.toInt := tff_11 hf_173
          have tf183 : tp_fld (f168 h0) 12 = o66_x12.toInt := tff_12 hf_173
          have tf184 : mo_fj (f168 h0) 13 = o66_x13.toInt := tff_13 hf_173
          have tf185 : tp_fld (f168 h0) 15 = o66_x15.toInt := tff_15 hf_173
          have tf186 : tp_fld (f168 h0) 19 = o66_x19.toInt := tff_19 hf_173
          have tf187 : tp_fld (f168 h0) 20 = o66_x20.toInt := tff_20 hf_173
          have hf_188 : f168 (ρ h0 26) = .inl (κ 0, 400, .inl g33) := (k169 _ (tp_ne y10 y9 (by decide))).trans hf_90
          have hf_189 : f168 (ρ h0 27) = .inl (κ 0, 400, .inl g36) := (k169 _ (tp_ne y11 y9 (by decide))).trans hf_163
          exact ih53 _ _ _ _ (by rw [hn54]; first | (simp only [tf174, mo_i1, mo_l1]; exact (show (z85.toInt).toNat < (o66_x28.toInt).toNat from by omega)) | (rw [tf174]; exact (show (z85.toInt).toNat < (o66_x28.toInt).toNat from by omega))) ⟨f168, rfl, hT, hR, hf_188, hf_189, (by first | (simp only [tf177, tf178, tf179, tf174, mo_i1, mo_l1]; exact (show (o38_x15.toInt = 0 → mo_PJ aa (mo_R g61) (mo_R g171) (mo_R g33) (mo_R g36) o66_x22.toInt z85.toInt 1) from (fun q9 => by rw [show z85.toInt = (o66_x28.toInt + -1) by omega]; exact (jf55 q9).and (h4 q9).1 (by omega) (by omega) (by omega) (by rw [← jz165]; exact hU172)))) | (rw [tf177, tf178, tf179, tf174]; exact (show (o38_x15.toInt = 0 → mo_PJ aa (mo_R g61) (mo_R g171) (mo_R g33) (mo_R g36) o66_x22.toInt z85.toInt 1) from (fun q9 => by rw [show z85.toInt = (o66_x28.toInt + -1) by omega]; exact (jf55 q9).and (h4 q9).1 (by omega) (by omega) (by omega) (by rw [← jz165]; exact hU172))))), (by first | (simp only [tf177, tf178, mo_i1, mo_l1]; exact (show (o38_x15.toInt = 0 → mo_FR aa (mo_R g27) (mo_R g30) (mo_R g61) (mo_R g171)) from (fun q9 => by have q8 := (jf55 q9).base; have q7 := hQb q9; exact (jf56 q9).then (fun k k0 k1 => ⟨rfl, hU172.ne k0 (by omega)⟩)))) | (rw [tf177, tf178]; exact (show (o38_x15.toInt = 0 → mo_FR aa (mo_R g27) (mo_R g30) (mo_R g61) (mo_R g171)) from (fun q9 => by have q8 := (jf55 q9).base; have q7 := hQb q9; exact (jf56 q9).then (fun k k0 k1 => ⟨rfl, hU172.ne k0 (by omega)⟩))))), (by first | (simp only [tf174, mo_i1, mo_l1]; exact (show ∀ i, z85.toInt ≤ i → i < o38_x28.toInt → (mo_R g33) i < 30 ∧ (5 ≤ v.toInt → (mo_R g33) i < 14) from (fun i i0 i1 => by rcases (show i = (o66_x28.toInt + -1) ∨ (o66_x28.toInt + -1) < i by omega) with rfl | q9; (exact ⟨by omega, fun q8 => by omega⟩); (exact jf57 i (by omega) i1)))) | (rw [tf174]; exact (show ∀ i, z85.toInt ≤ i → i < o38_x28.toInt → (mo_R g33) i < 30 ∧ (5 ≤ v.toInt → (mo_R g33) i < 14) from (fun i i0 i1 => by rcases (show i = (o66_x28.toInt + -1) ∨ (o66_x28.toInt + -1) < i by omega) with rfl | q9; (exact ⟨by omega, fun q8 => by omega⟩); (exact jf57 i (by omega) i1))))), (by first | (simp only [tf174, tf179, mo_i1, mo_l1]; exact (show (z85.toInt ≤ o38_x28.toInt ∧ o38_x22.toInt ≤ o66_x22.toInt ∧ o66_x22.toInt + z85.toInt ≤ o38_x22.toInt + o38_x28.toInt) from by first | omega | decide)) | (rw [tf174, tf179]; exact (show (z85.toInt ≤ o38_x28.toInt ∧ o38_x22.toInt ≤ o66_x22.toInt ∧ o66_x22.toInt + z85.toInt ≤ o38_x22.toInt + o38_x28.toInt) from by first | omega | decide))), (by first | (simp only [tf180, tf181, tf182, tf183, tf184, tf185, tf186, tf187, mo_i1, mo_l1]; exact (show (o66_x9.toInt = o38_x9.toInt ∧ o66_x10.toInt = o38_x10.toInt ∧ o66_x11.toInt = o38_x11.toInt ∧ o66_x12.toInt = o38_x12.toInt ∧ o66_x13.toInt = o38_x13.toInt ∧ o66_x15.toInt = o38_x15.toInt ∧ o66_x19.toInt = o38_x19.toInt ∧ o66_x20.toInt = o38_x20.toInt) from by first | omega | decide)) | (rw [tf180, tf181, tf182, tf183, tf184, tf185, tf186, tf187]; exact (show (o66_x9.toInt = o38_x9.toInt ∧ o66_x10.toInt = o38_x10.toInt ∧ o66_x11.toInt = o38_x11.toInt ∧ o66_x12.toInt = o38_x12.toInt ∧ o66_x13.toInt = o38_x13.toInt ∧ o66_x15.toInt = o38_x15.toInt ∧ o66_x19.toInt = o38_x19.toInt ∧ o66_x20.toInt = o38_x20.toInt) from by first | omega | decide))), hP, hD, hS, lv_sub hl [0, 1] rfl⟩
set_option maxHeartbeats 4000000 in
set_option maxRecDepth 100000 in
theorem t_X12_inner (l : Launch) (dC : Nat → ClassId) (dI : Nat → Nat → Nat) (sz : Nat) (κ : Nat → ClassId) (τ ν : Nat → Nat) (ρ : Nat → Nat → Nat) (L : List Nat) (f : Nat → va_E) (hG : tp_G τ ν ρ L) (hT : tp_T (mo_O κ) κ τ ν ρ f) (h0 : Nat) (ht_h0 : τ h0 = 13) : Met l yX12_inner wqX12_inner ({ frames := 2, cells := 0, slots := 0, locals := 400 }) (va_Pc [.ref h0] (pz_B dC dI (tp_K κ) (va_pl L f) sz)) (vp_Si (fun r => True ∧ r.toInt = mo_in (mo_R (mo_i (f (ρ h0 26)))) ((tp_fld (f h0) 28)).toNat)) 0 0 (fun _ => False) := by
  refine Met.ofW (cc := cX12_inner) (maxL := 3) (ret := some .int) (by decide) rfl ?_
  intro p e s m args below meth c s₁ B hml hv
  obtain ⟨rfl, hsz, hP, hK, hD0, hN⟩ := hv
  have hx := B.exec
  have hb := B.bytes
  have hr := B.returns
  have hts := fun (w : Cond) (h : w ∈ WALL) => atoms_spec (ws := wqX12_inner) B.pre w (List.mem_cons_of_mem _ h)
  have hown : s.vm.findClass RX12 = some m.cls := findClass_of_methodNamed B.named
  have hlocks := B.notSynchronized
  subst hsz
  have hD := hD0
  have hS : va_S (fun _ => True) s.heap s.heap [] := va_S.rf
  have hl := lv_entry ([.ref h0]) (n := 3) (Nat.le_of_ble_eq_true rfl)
  rw [lg_entry_eq]
  generalize (lg_sl ([.ref h0]) ++ List.replicate (3 - (lg_sl ([.ref h0])).length) Slot.unset).toArray = ls at hl ⊢
  have hl : lv_has ls 3 [(0, .ref h0)] := hl
  obtain ⟨y1, y2, y3, y4, y5, y6, y7, y8, y9, y10, y11, y12, y13, y14, y15, y16, y17, y18, y19, y20, y21, y22, y23, y24, y25⟩ := tpg_13 hG ht_h0
  obtain ⟨g27, hf_o26⟩ := tpo_56 hT y10
  have tf28 : mo_i (f (ρ h0 26)) = g27 := tfa_i hf_o26
  obtain ⟨o29_x0, o29_x1, o29_x7, o29_x9, o29_x10, o29_x11, o29_x12, o29_x13, o29_x14, o29_x15, o29_x16, o29_x17, o29_x18, o29_x19, o29_x20, o29_x22, o29_x25, o29_x28, o29_x29, o29_x32, o29_x33, o29_x34, o29_x35, o29_x36, o29_x37, o29_x38, o29_x47, o29_x48, hf_o29, ro29_0, ro29_1, ro29_2, ro29_3, ro29_4, ro29_5, ro29_6, ro29_7, ro29_8, ro29_9, ro29_10, ro29_11, ro29_12, ro29_13⟩ := tpo_13 hT ht_h0
  have tf30 : tp_fld (f h0) 28 = o29_x28.toInt := tff_28 hf_o29
  refine lv_iconst (v := (-1)) hx hb dX12_inner_0 (by decide) ?_
  refine lv_istore_n (lv' := [(1, .int (-1)), (0, .ref h0)]) hx hb dX12_inner_1 rfl hl (by decide) rfl (fun ls hl => ?_)
  refine lv_iconst (v := 0) hx hb dX12_inner_2 (by decide) ?_
  refine lv_istore_n (lv' := [(2, .int 0), (1, .int (-1)), (0, .ref h0)]) hx hb dX12_inner_3 rfl hl (by decide) rfl (fun ls hl => ?_)
  refine pz_loop (fun n0 H locs ls => ∃ w31 : Int32, ∃ w32 : Int32, n0 = (400 - (w31.toInt)).toNat ∧ (0 ≤ w31.toInt ∧ w31.toInt ≤ 400) ∧ ((w31.toInt) ≤ o29_x28.toInt) ∧ ((w32.toInt) = mo_in (mo_R g27) ((w31.toInt)).toNat) ∧ H = s.heap ∧ locs = [] ∧ lv_has ls 3 [(2, .int w31), (1, .int w32), (0, .ref h0)]) ?_ _ _ _ _ ⟨0, (-1), rfl, (by have : (0 : Int32).toInt = 0 := rfl; have : ((-1) : Int32).toInt = (-1) := rfl; omega), (by have : (0 : Int32).toInt = 0 := rfl; have : ((-1) : Int32).toInt = (-1) := rfl; omega), (by show _ = mo_in _ 0; rfl), rfl, rfl, lv_sub hl [0, 1, 2] rfl⟩
  intro n0 H locs ls hI ih35
  obtain ⟨w31, w32, hn36, rw31, k33, k34, rfl, rfl, hl⟩ := hI
  refine lv_iload_n hx hb dX12_inner_4 rfl (lv_at hl 0 rfl) ?_
  refine lv_aload_n hx hb dX12_inner_5 rfl (lv_at hl 2 rfl) ?_
  obtain ⟨q37, eq37⟩ := tp_pos (tp_in hG ht_h0 (by decide)) hf_o29
  refine va_get (D := (dC, dI)) (ci := 12) (v := .int o29_x28) (C := RX12) (T := TX12) (N := 53) hx hb hts hfX12 hown hK hP q37 eq37 rfl 28 (by decide) (hts (.fieldLink RX12 300 "ColdShipsModel" "piled" "I") wa_1045) (fun _ h9 => h9) rfl dX12_inner_6 ?_
  refine lv_icmp_ge (tgt := 40) hx hb dX12_inner_9 (by decide) (fun c38 => ?_) (fun c38 => ?_)
  · have ic38 : w31.toInt ≥ o29_x28.toInt := zi_ge rfl rfl c38
    refine lv_iload_n hx hb dX12_inner_40 rfl (lv_at hl 1 rfl) ?_
    exact W.iret (v := w32) hx hb hr (fun t ht hW => ⟨w32, rfl, ⟨trivial, (by first | (simp only [tf28, tf30, mo_i1, mo_l1]; exact (show w32.toInt = mo_in (mo_R g27) (o29_x28.toInt).toNat from (by have q9 := k34; rw [show w31.toInt = o29_x28.toInt by omega] at q9; exact q9))) | (rw [tf28, tf30]; exact (show w32.toInt = mo_in (mo_R g27) (o29_x28.toInt).toNat from (by have q9 := k34; rw [show w31.toInt = o29_x28.toInt by omega] at q9; exact q9))))⟩, ht⟩) (fun _ h => by cases h) dX12_inner_41
  · have ic38 : w31.toInt < o29_x28.toInt := zi_gef rfl rfl c38
    refine lv_aload_n hx hb dX12_inner_12 rfl (lv_at hl 2 rfl) ?_
    refine va_get (D := (dC, dI)) (ci := 12) (v := .ref (ρ h0 26)) (C := RX12) (T := TX12) (N := 53) hx hb hts hfX12 hown hK hP q37 eq37 rfl 26 (by decide) (hts (.fieldLink RX12 43 "ColdShipsModel" "pile" "[I") wa_159) (fun _ h9 => h9) rfl dX12_inner_13 ?_
    refine lv_iload_n hx hb dX12_inner_16 rfl (lv_at hl 0 rfl) ?_
    obtain ⟨q39, eq39⟩ := tp_pos (tp_in hG y10 (by decide)) hf_o26
    refine va_iald hx hb hK hP q39 0 eq39 rfl (vp_in_iff.mpr ⟨by omega, by omega⟩) dX12_inner_17 ?_
    refine lv_topi (fun z40 ez40 => ?_)
    have jz40 : z40.toInt = mo_R g27 w31.toInt := mo_rd ez40 (by omega)
    refine lv_bipush (v := 30) hx hb dX12_inner_18 (by decide) ?_
    refine lv_icmp_lt (tgt := 32) hx hb dX12_inner_20 (by decide) (fun c41 => ?_) (fun c41 => ?_)
    · have ic41 : z40.toInt < 30 := zi_lt rfl rfl c41
      refine lv_iload_n hx hb dX12_inner_32 rfl (lv_at hl 1 rfl) ?_
      refine lv_istore_n (lv' := [(1, .int w32), (2, .int w31), (0, .ref h0)]) hx hb dX12_inner_33 rfl hl (by decide) rfl (fun ls hl => ?_)
      obtain ⟨z42, ez42⟩ : ∃ y : Int32, y = w31 + 1 := ⟨_, rfl⟩
      refine lv_iinc (v := z42) (lv' := [(2, .int z42), (1, .int w32), (0, .ref h0)]) hx hb dX12_inner_34 hl (k := 1) rfl (by rw [ez42]; rfl) (by decide) rfl (fun ls hl => ?_)
      have iz42 : z42.toInt = w31.toInt + 1 := zi_add ez42 rfl rfl (by omega) (by omega)
      refine lv_goto (tgt := 4) hx hb dX12_inner_37 (by decide) ?_
      exact ih35 _ _ _ _ (by rw [hn36]; omega) ⟨z42, w32, rfl, (by omega), (by omega), (by rw [mo_in_no (P := (mo_R g27)) (m := w31.toInt) (by omega) (by omega) (by omega)]; exact k34), rfl, rfl, lv_sub hl [0, 1, 2] rfl⟩
    · have ic41 : z40.toInt ≥ 30 := zi_ltf rfl rfl c41
      refine lv_aload_n hx hb dX12_inner_23 rfl (lv_at hl 2 rfl) ?_
      refine va_get (D := (dC, dI)) (ci := 12) (v := .ref (ρ h0 26)) (C := RX12) (T := TX12) (N := 53) hx hb hts hfX12 hown hK hP q37 eq37 rfl 26 (by decide) (hts (.fieldLink RX12 43 "ColdShipsModel" "pile" "[I") wa_159) (fun _ h9 => h9) rfl dX12_inner_24 ?_
      refine lv_iload_n hx hb dX12_inner_27 rfl (lv_at hl 0 rfl) ?_
      refine va_iald hx hb hK hP q39 0 eq39 rfl (vp_in_iff.mpr ⟨by omega, by omega⟩) dX12_inner_28 ?_
      refine lv_topi (fun z43 ez43 => ?_)
      have jz43 : z43.toInt = mo_R g27 w31.toInt := mo_rd ez43 (by omega)
      refine lv_goto (tgt := 33) hx hb dX12_inner_29 (by decide) ?_
      refine lv_istore_n (lv' := [(1, .int z43), (2, .int w31), (0, .ref h0)]) hx hb dX12_inner_33 rfl hl (by decide) rfl (fun ls hl => ?_)
      obtain ⟨z44, ez44⟩ : ∃ y : Int32, y = w31 + 1 := ⟨_, rfl⟩
      refine lv_iinc (v := z44) (lv' := [(2, .int z44), (1, .int z43), (0, .ref h0)]) hx hb dX12_inner_34 hl (k := 1) rfl (by rw [ez44]; rfl) (by decide) rfl (fun ls hl => ?_)
      have iz44 : z44.toInt = w31.toInt + 1 := zi_add ez44 rfl rfl (by omega) (by omega)
      refine lv_goto (tgt := 4) hx hb dX12_inner_37 (by decide) ?_
      exact ih35 _ _ _ _ (by rw [hn36]; omega) ⟨z44, z43, rfl, (by omega), (by omega), (by rw [mo_in_yes (P := (mo_R g27)) (m := w31.toInt) (by omega) (by omega) (by omega)]; omega), rfl, rfl, lv_sub hl [0, 1, 2] rfl⟩
set_option maxHeartbeats 4000000 in
set_option maxRecDepth 100000 in
theorem t_X12_isCompared (l : Launch) (dC : Nat → ClassId) (dI : Nat → Nat → Nat) (sz : Nat) (κ : Nat → ClassId) (τ ν : Nat → Nat) (ρ : Nat → Nat → Nat) (L : List Nat) (f : Nat → va_E) (hG : tp_G τ ν ρ L) (hT : tp_T (mo_O κ) κ τ ν ρ f) (h0 : Nat) (ht_h0 : τ h0 = 13) : Met l yX12_isCompared wqX12_isCompared ({ frames := 3, cells := 0, slots := 0, locals := 800 }) (va_Pc [.ref h0] (pz_B dC dI (tp_K κ) (va_pl L f) sz)) (vp_Si (fun r => (0 ≤ r.toInt ∧ r.toInt ≤ 1) ∧ True)) 0 0 (fun _ => False) := by
  refine Met.ofW (cc := cX12_isCompared) (maxL := 2) (ret := some .boolean) (by decide) rfl ?_
  intro p e s m args below meth c s₁ B hml hv
  obtain ⟨rfl, hsz, hP, hK, hD0, hN⟩ := hv
  have hx := B.exec
  have hb := B.bytes
  have hr := B.returns
  have hts := fun (w : Cond) (h : w ∈ WALL) => atoms_spec (ws := wqX12_isCompared) B.pre w (List.mem_cons_of_mem _ h)
  have hown : s.vm.findClass RX12 = some m.cls := findClass_of_methodNamed B.named
  have hlocks := B.notSynchronized
  subst hsz
  have hD := hD0
  have hS : va_S (fun _ => True) s.heap s.heap [] := va_S.rf
  have hl := lv_entry ([.ref h0]) (n := 2) (Nat.le_of_ble_eq_true rfl)
  rw [lg_entry_eq]
  generalize (lg_sl ([.ref h0]) ++ List.replicate (2 - (lg_sl ([.ref h0])).length) Slot.unset).toArray = ls at hl ⊢
  have hl : lv_has ls 2 [(0, .ref h0)] := hl
  refine lv_aload_n hx hb dX12_isCompared_0 rfl (lv_at hl 0 rfl) ?_
  obtain ⟨y1, y2, y3, y4, y5, y6, y7, y8, y9, y10, y11, y12, y13, y14, y15, y16, y17, y18, y19, y20, y21, y22, y23, y24, y25⟩ := tpg_13 hG ht_h0
  obtain ⟨o26_x0, o26_x1, o26_x7, o26_x9, o26_x10, o26_x11, o26_x12, o26_x13, o26_x14, o26_x15, o26_x16, o26_x17, o26_x18, o26_x19, o26_x20, o26_x22, o26_x25, o26_x28, o26_x29, o26_x32, o26_x33, o26_x34, o26_x35, o26_x36, o26_x37, o26_x38, o26_x47, o26_x48, hf_o26, ro26_0, ro26_1, ro26_2, ro26_3, ro26_4, ro26_5, ro26_6, ro26_7, ro26_8, ro26_9, ro26_10, ro26_11, ro26_12, ro26_13⟩ := tpo_13 hT ht_h0
  obtain ⟨q27, eq27⟩ := tp_pos (tp_in hG ht_h0 (by decide)) hf_o26
  refine va_get (D := (dC, dI)) (ci := 12) (v := .int o26_x28) (C := RX12) (T := TX12) (N := 53) hx hb hts hfX12 hown hK hP q27 eq27 rfl 28 (by decide) (hts (.fieldLink RX12 300 "ColdShipsModel" "piled" "I") wa_1045) (fun _ h9 => h9) rfl dX12_isCompared_1 ?_
  refine lv_iconst (v := 1) hx hb dX12_isCompared_4 (by decide) ?_
  refine lv_isub hx hb dX12_isCompared_5 ?_
  refine lv_topi (fun z28 ez28 => ?_)
  have iz28 : z28.toInt = o26_x28.toInt - 1 := zi_sub ez28 rfl rfl (by omega) (by omega)
  refine lv_istore_n (lv' := [(1, .int z28), (0, .ref h0)]) hx hb dX12_isCompared_6 rfl hl (by decide) rfl (fun ls hl => ?_)
  refine pz_loop (fun n0 H locs ls => ∃ w29 : Int32, n0 = ((w29.toInt) + 1).toNat ∧ ((-1) ≤ w29.toInt ∧ w29.toInt ≤ 399) ∧ H = s.heap ∧ locs = [] ∧ lv_has ls 2 [(1, .int w29), (0, .ref h0)]) ?_ _ _ _ _ ⟨z28, rfl, (by omega), rfl, rfl, lv_sub hl [0, 1] rfl⟩
  intro n0 H locs ls hI ih30
  obtain ⟨w29, hn31, rw29, rfl, rfl, hl⟩ := hI
  refine lv_iload_n hx hb dX12_isCompared_7 rfl (lv_at hl 0 rfl) ?_
  refine tp_join 36 (fun H locs ls stk => stk = [] ∧ H = s.heap ∧ locs = [] ∧ lv_has ls 2 [(1, .int w29), (0, .ref h0)]) ?_ (fun hj32 => ?_)
  · intro H locs ls stk hI
    obtain ⟨rfl, rfl, rfl, hl⟩ := hI
    refine lv_iload_n hx hb dX12_isCompared_36 rfl (lv_at hl 0 rfl) ?_
    refine lv_if_lt (tgt := 63) hx hb dX12_isCompared_37 (by decide) (fun c33 => ?_) (fun c33 => ?_)
    · have ic33 : w29.toInt < 0 := zi_lt rfl rfl c33
      refine lv_iconst (v := 0) hx hb dX12_isCompared_63 (by decide) ?_
      exact W.zret (v := 0) hx hb hr rfl (fun t ht hW => ⟨0, rfl, ⟨(by first | decide | omega), trivial⟩, ht⟩) (fun _ h => by cases h) dX12_isCompared_64
    · have ic33 : w29.toInt ≥ 0 := zi_ltf rfl rfl c33
      refine lv_aload_n hx hb dX12_isCompared_40 rfl (lv_at hl 1 rfl) ?_
      refine va_get (D := (dC, dI)) (ci := 12) (v := .ref (ρ h0 26)) (C := RX12) (T := TX12) (N := 53) hx hb hts hfX12 hown hK hP q27 eq27 rfl 26 (by decide) (hts (.fieldLink RX12 43 "ColdShipsModel" "pile" "[I") wa_159) (fun _ h9 => h9) rfl dX12_isCompared_41 ?_
      refine lv_iload_n hx hb dX12_isCompared_44 rfl (lv_at hl 0 rfl) ?_
      obtain ⟨g35, hf_o34⟩ := tpo_56 hT y10
      obtain ⟨q36, eq36⟩ := tp_pos (tp_in hG y10 (by decide)) hf_o34
      refine va_iald hx hb hK hP q36 0 eq36 rfl (vp_in_iff.mpr ⟨by omega, by omega⟩) dX12_isCompared_45 ?_
      refine lv_topi (fun z37 ez37 => ?_)
      refine lv_i2l hx hb dX12_isCompared_46 rfl ?_
      refine lv_ldc2 (own := RX12) (v := 14) hx hb hown (hts (.constantLong RX12 311 (14)) wa_1104) dX12_isCompared_47 ?_
      refine lv_ldc2 (own := RX12) (v := 16) hx hb hown (hts (.constantLong RX12 313 (16)) wa_1105) dX12_isCompared_50 ?_
      refine pz_calli (va_runS (As := [.long z37.toInt64, .long 14, .long 16]) (rest := []) ⟨hx, hb, hml, hown, hts⟩ (t_X12_in l dC dI _ z37.toInt64 (14) (16) (z37.toInt) (14) (16) (Int32.toInt_toInt64 z37) rfl rfl) (va_cwS 3 hts gX12_isCompared_X12_in rfl rfl rfl pd_X12_in ⟨Nat.le_of_ble_eq_true rfl, Nat.le_of_ble_eq_true rfl⟩) ⟨pz_blind, pz_pre pz_P0 (hK.sub (tys' := []) [] rfl) (pz_D0 (A := fun _ => True)) hN⟩ rfl rfl hl.1 rfl (lv_room (Nat.le_of_ble_eq_true rfl)) dX12_isCompared_53 ⟨Nat.le_of_ble_eq_true rfl, Nat.le_of_ble_eq_true rfl⟩) (fun r38 hw39 => ?_)
      obtain ⟨hw39r, hw39p⟩ := hw39
      refine lv_if_eq (tgt := 63) hx hb dX12_isCompared_56 (by decide) (fun c40 => ?_) (fun c40 => ?_)
      · have ic40 : r38.toInt = 0 := zi_eq rfl rfl c40
        refine lv_iconst (v := 0) hx hb dX12_isCompared_63 (by decide) ?_
        exact W.zret (v := 0) hx hb hr rfl (fun t ht hW => ⟨0, rfl, ⟨(by first | decide | omega), trivial⟩, ht⟩) (fun _ h => by cases h) dX12_isCompared_64
      · have ic40 : r38.toInt ≠ 0 := zi_eqf rfl rfl c40
        have p41 : (14) ≤ (z37.toInt) ∧ (z37.toInt) ≤ (16) := (tp_cond.yes hw39p) (by omega)
        refine lv_iconst (v := 1) hx hb dX12_isCompared_59 (by decide) ?_
        refine lv_goto (tgt := 64) hx hb dX12_isCompared_60 (by decide) ?_
        exact W.zret (v := 1) hx hb hr rfl (fun t ht hW => ⟨1, rfl, ⟨(by first | decide | omega), trivial⟩, ht⟩) (fun _ h => by cases h) dX12_isCompared_64
  · refine lv_if_lt (tgt := 36) hx hb dX12_isCompared_8 (by decide) (fun c42 => ?_) (fun c42 => ?_)
    · have ic42 : w29.toInt < 0 := zi_lt rfl rfl c42
      exact hj32 _ _ _ _ ⟨rfl, rfl, rfl, lv_sub hl [0, 1] rfl⟩
    · have ic42 : w29.toInt ≥ 0 := zi_ltf rfl rfl c42
      refine lv_aload_n hx hb dX12_isCompared_11 rfl (lv_at hl 1 rfl) ?_
      refine va_get (D := (dC, dI)) (ci := 12) (v := .ref (ρ h0 26)) (C := RX12) (T := TX12) (N := 53) hx hb hts hfX12 hown hK hP q27 eq27 rfl 26 (by decide) (hts (.fieldLink RX12 43 "ColdShipsModel" "pile" "[I") wa_159) (fun _ h9 => h9) rfl dX12_isCompared_12 ?_
      refine lv_iload_n hx hb dX12_isCompared_15 rfl (lv_at hl 0 rfl) ?_
      obtain ⟨g44, hf_o43⟩ := tpo_56 hT y10
      obtain ⟨q45, eq45⟩ := tp_pos (tp_in hG y10 (by decide)) hf_o43
      refine va_iald hx hb hK hP q45 0 eq45 rfl (vp_in_iff.mpr ⟨by omega, by omega⟩) dX12_isCompared_16 ?_
      refine lv_topi (fun z46 ez46 => ?_)
      refine lv_i2l hx hb dX12_isCompared_17 rfl ?_
      refine lv_ldc2 (own := RX12) (v := 10) hx hb hown (hts (.constantLong RX12 289 (10)) wa_1010) dX12_isCompared_18 ?_
      refine lv_ldc2 (own := RX12) (v := 13) hx hb hown (hts (.constantLong RX12 309 (13)) wa_1103) dX12_isCompared_21 ?_
      refine pz_calli (va_runS (As := [.long z46.toInt64, .long 10, .long 13]) (rest := []) ⟨hx, hb, hml, hown, hts⟩ (t_X12_in l dC dI _ z46.toInt64 (10) (13) (z46.toInt) (10) (13) (Int32.toInt_toInt64 z46) rfl rfl) (va_cwS 3 hts gX12_isCompared_X12_in rfl rfl rfl pd_X12_in ⟨Nat.le_of_ble_eq_true rfl, Nat.le_of_ble_eq_true rfl⟩) ⟨pz_blind, pz_pre pz_P0 (hK.sub (tys' := []) [] rfl) (pz_D0 (A := fun _ => True)) hN⟩ rfl rfl hl.1 rfl (lv_room (Nat.le_of_ble_eq_true rfl)) dX12_isCompared_24 ⟨Nat.le_of_ble_eq_true rfl, Nat.le_of_ble_eq_true rfl⟩) (fun r47 hw48 => ?_)
      obtain ⟨hw48r, hw48p⟩ := hw48
      refine lv_if_eq (tgt := 36) hx hb dX12_isCompared_27 (by decide) (fun c49 => ?_) (fun c49 => ?_)
      · have ic49 : r47.toInt = 0 := zi_eq rfl rfl c49
        exact hj32 _ _ _ _ ⟨rfl, rfl, rfl, lv_sub hl [0, 1] rfl⟩
      · have ic49 : r47.toInt ≠ 0 := zi_eqf rfl rfl c49
        have p50 : (10) ≤ (z46.toInt) ∧ (z46.toInt) ≤ (13) := (tp_cond.yes hw48p) (by omega)
        obtain ⟨z51, ez51⟩ : ∃ y : Int32, y = w29 + (-1) := ⟨_, rfl⟩
        refine lv_iinc (v := z51) (lv' := [(1, .int z51), (0, .ref h0)]) hx hb dX12_isCompared_30 hl (k := 0) rfl (by rw [ez51]; rfl) (by decide) rfl (fun ls hl => ?_)
        have iz51 : z51.toInt = w29.toInt + (-1) := zi_add ez51 rfl rfl (by omega) (by omega)
        refine lv_goto (tgt := 7) hx hb dX12_isCompared_33 (by decide) ?_
        exact ih30 _ _ _ _ (by rw [hn31]; omega) ⟨z51, rfl, (by omega), rfl, rfl, lv_sub hl [0, 1] rfl⟩
set_option maxHeartbeats 4000000 in
set_option maxRecDepth 100000 in
theorem t_X12_partAt (l : Launch) (dC : Nat → ClassId) (dI : Nat → Nat → Nat) (sz : Nat) (κ : Nat → ClassId) (τ ν : Nat → Nat) (ρ : Nat → Nat → Nat) (L : List Nat) (f : Nat → va_E) (hG : tp_G τ ν ρ L) (hT : tp_T (mo_O κ) κ τ ν ρ f) (h0 : Nat) (ht_h0 : τ h0 = 13) : Met l yX12_partAt wqX12_partAt ({ frames := 3, cells := 0, slots := 0, locals := 800 }) (va_Pc [.ref h0] (pz_B dC dI (tp_K κ) (va_pl L f) sz)) (vp_Si (fun r => ((-1) ≤ r.toInt ∧ r.toInt ≤ 8) ∧ (r.toInt ≠ -1 → (tp_fld (f h0) 12) = 1 ∧ 1 ≤ r.toInt))) 0 0 (fun _ => False) := by
  refine Met.ofW (cc := cX12_partAt) (maxL := 1) (ret := some .int) (by decide) rfl ?_
  intro p e s m args below meth c s₁ B hml hv
  obtain ⟨rfl, hsz, hP, hK, hD0, hN⟩ := hv
  have hx := B.exec
  have hb := B.bytes
  have hr := B.returns
  have hts := fun (w : Cond) (h : w ∈ WALL) => atoms_spec (ws := wqX12_partAt) B.pre w (List.mem_cons_of_mem _ h)
  have hown : s.vm.findClass RX12 = some m.cls := findClass_of_methodNamed B.named
  have hlocks := B.notSynchronized
  subst hsz
  have hD := hD0
  have hS : va_S (fun _ => True) s.heap s.heap [] := va_S.rf
  have hl := lv_entry ([.ref h0]) (n := 1) (Nat.le_of_ble_eq_true rfl)
  rw [lg_entry_eq]
  generalize (lg_sl ([.ref h0]) ++ List.replicate (1 - (lg_sl ([.ref h0])).length) Slot.unset).toArray = ls at hl ⊢
  have hl : lv_has ls 1 [(0, .ref h0)] := hl
  obtain ⟨y1, y2, y3, y4, y5, y6, y7, y8, y9, y10, y11, y12, y13, y14, y15, y16, y17, y18, y19, y20, y21, y22, y23, y24, y25⟩ := tpg_13 hG ht_h0
  obtain ⟨o26_x0, o26_x1, o26_x7, o26_x9, o26_x10, o26_x11, o26_x12, o26_x13, o26_x14, o26_x15, o26_x16, o26_x17, o26_x18, o26_x19, o26_x20, o26_x22, o26_x25, o26_x28, o26_x29, o26_x32, o26_x33, o26_x34, o26_x35, o26_x36, o26_x37, o26_x38, o26_x47, o26_x48, hf_o26, ro26_0, ro26_1, ro26_2, ro26_3, ro26_4, ro26_5, ro26_6, ro26_7, ro26_8, ro26_9, ro26_10, ro26_11, ro26_12, ro26_13⟩ := tpo_13 hT ht_h0
  have tf27 : tp_fld (f h0) 12 = o26_x12.toInt := tff_12 hf_o26
  refine lv_aload_n hx hb dX12_partAt_0 rfl (lv_at hl 0 rfl) ?_
  refine lv_ldc2 (own := RX12) (v := 671187) hx hb hown (hts (.constantLong RX12 315 (671187)) wa_1072) dX12_partAt_1 ?_
  have tf28 : mo_fj (f h0) 13 = o26_x13.toInt := tff_13 hf_o26
  obtain ⟨q29, eq29⟩ := tp_pos (tp_in hG ht_h0 (by decide)) hf_o26
  refine pz_calli (va_runV (As := [.long 671187]) (rest := []) ⟨hx, hb, hml, hown, hts⟩ (t_X12_isWord l dC dI _ κ τ ν ρ L f hG hT h0 (671187) ht_h0) (cwV 1 hts gX12_partAt_X12_isWord rfl rfl rfl ⟨rfl, pd_X12_isWord⟩ ⟨Nat.le_of_ble_eq_true rfl, Nat.le_of_ble_eq_true rfl⟩) ⟨pz_blind, va_recv hK hP (ci := 12) (q0 := q29) rfl eq29, pz_pre hP hK hD hN⟩ rfl rfl hl.1 rfl (lv_room (Nat.le_of_ble_eq_true rfl)) dX12_partAt_4 ⟨Nat.le_of_ble_eq_true rfl, Nat.le_of_ble_eq_true rfl⟩) (fun r30 hw31 => ?_)
  obtain ⟨hw31r, hw31p⟩ := hw31
  have tk32 : (r30.toInt ≠ 0 → o26_x12.toInt = 1 ∧ o26_x13.toInt = (671187 : Int)) := by have q9 := hw31p; first | (simp only [tf27, tf28, mo_i1, mo_l1] at q9; exact q9) | (rw [tf27, tf28] at q9; exact q9)
  refine lv_if_ne (tgt := 40) hx hb dX12_partAt_7 (by decide) (fun c33 => ?_) (fun c33 => ?_)
  · have ic33 : r30.toInt ≠ 0 := zi_ne rfl rfl c33
    refine lv_aload_n hx hb dX12_partAt_40 rfl (lv_at hl 0 rfl) ?_
    refine lv_ldc2 (own := RX12) (v := 671187) hx hb hown (hts (.constantLong RX12 315 (671187)) wa_1072) dX12_partAt_41 ?_
    refine pz_calli (va_runV (As := [.long 671187]) (rest := []) ⟨hx, hb, hml, hown, hts⟩ (t_X12_isWord l dC dI _ κ τ ν ρ L f hG hT h0 (671187) ht_h0) (cwV 1 hts gX12_partAt_X12_isWord rfl rfl rfl ⟨rfl, pd_X12_isWord⟩ ⟨Nat.le_of_ble_eq_true rfl, Nat.le_of_ble_eq_true rfl⟩) ⟨pz_blind, va_recv hK hP (ci := 12) (q0 := q29) rfl eq29, pz_pre hP hK hD hN⟩ rfl rfl hl.1 rfl (lv_room (Nat.le_of_ble_eq_true rfl)) dX12_partAt_44 ⟨Nat.le_of_ble_eq_true rfl, Nat.le_of_ble_eq_true rfl⟩) (fun r34 hw35 => ?_)
    obtain ⟨hw35r, hw35p⟩ := hw35
    have tk36 : (r34.toInt ≠ 0 → o26_x12.toInt = 1 ∧ o26_x13.toInt = (671187 : Int)) := by have q9 := hw35p; first | (simp only [tf27, tf28, mo_i1, mo_l1] at q9; exact q9) | (rw [tf27, tf28] at q9; exact q9)
    refine lv_if_eq (tgt := 54) hx hb dX12_partAt_47 (by decide) (fun c37 => ?_) (fun c37 => ?_)
    · have ic37 : r34.toInt = 0 := zi_eq rfl rfl c37
      refine lv_aload_n hx hb dX12_partAt_54 rfl (lv_at hl 0 rfl) ?_
      refine lv_ldc2 (own := RX12) (v := 76951716) hx hb hown (hts (.constantLong RX12 321 (76951716)) wa_1073) dX12_partAt_55 ?_
      refine pz_calli (va_runV (As := [.long 76951716]) (rest := []) ⟨hx, hb, hml, hown, hts⟩ (t_X12_isWord l dC dI _ κ τ ν ρ L f hG hT h0 (76951716) ht_h0) (cwV 1 hts gX12_partAt_X12_isWord rfl rfl rfl ⟨rfl, pd_X12_isWord⟩ ⟨Nat.le_of_ble_eq_true rfl, Nat.le_of_ble_eq_true rfl⟩) ⟨pz_blind, va_recv hK hP (ci := 12) (q0 := q29) rfl eq29, pz_pre hP hK hD hN⟩ rfl rfl hl.1 rfl (lv_room (Nat.le_of_ble_eq_true rfl)) dX12_partAt_58 ⟨Nat.le_of_ble_eq_true rfl, Nat.le_of_ble_eq_true rfl⟩) (fun r38 hw39 => ?_)
      obtain ⟨hw39r, hw39p⟩ := hw39
      have tk40 : (r38.toInt ≠ 0 → o26_x12.toInt = 1 ∧ o26_x13.toInt = (76951716 : Int)) := by have q9 := hw39p; first | (simp only [tf27, tf28, mo_i1, mo_l1] at q9; exact q9) | (rw [tf27, tf28] at q9; exact q9)
      refine lv_if_eq (tgt := 68) hx hb dX12_partAt_61 (by decide) (fun c41 => ?_) (fun c41 => ?_)
      · have ic41 : r38.toInt = 0 := zi_eq rfl rfl c41
        refine lv_aload_n hx hb dX12_partAt_68 rfl (lv_at hl 0 rfl) ?_
        refine lv_ldc2 (own := RX12) (v := 267316) hx hb hown (hts (.constantLong RX12 323 (267316)) wa_1074) dX12_partAt_69 ?_
        refine pz_calli (va_runV (As := [.long 267316]) (rest := []) ⟨hx, hb, hml, hown, hts⟩ (t_X12_isWord l dC dI _ κ τ ν ρ L f hG hT h0 (267316) ht_h0) (cwV 1 hts gX12_partAt_X12_isWord rfl rfl rfl ⟨rfl, pd_X12_isWord⟩ ⟨Nat.le_of_ble_eq_true rfl, Nat.le_of_ble_eq_true rfl⟩) ⟨pz_blind, va_recv hK hP (ci := 12) (q0 := q29) rfl eq29, pz_pre hP hK hD hN⟩ rfl rfl hl.1 rfl (lv_room (Nat.le_of_ble_eq_true rfl)) dX12_partAt_72 ⟨Nat.le_of_ble_eq_true rfl, Nat.le_of_ble_eq_true rfl⟩) (fun r42 hw43 => ?_)
        obtain ⟨hw43r, hw43p⟩ := hw43
        have tk44 : (r42.toInt ≠ 0 → o26_x12.toInt = 1 ∧ o26_x13.toInt = (267316 : Int)) := by have q9 := hw43p; first | (simp only [tf27, tf28, mo_i1, mo_l1] at q9; exact q9) | (rw [tf27, tf28] at q9; exact q9)
        refine lv_if_eq (tgt := 82) hx hb dX12_partAt_75 (by decide) (fun c45 => ?_) (fun c45 => ?_)
        · have ic45 : r42.toInt = 0 := zi_eq rfl rfl c45
          refine lv_iconst (v := 4) hx hb dX12_partAt_82 (by decide) ?_
          exact W.iret (v := 4) hx hb hr (fun t ht hW => ⟨4, rfl, ⟨(by first | decide | omega), (by first | (simp only [tf27, mo_i1, mo_l1]; exact (show ((4 : Int32).toInt ≠ -1 → o26_x12.toInt = 1 ∧ 1 ≤ (4 : Int32).toInt) from by have q8 : (4 : Int32).toInt = 4 := rfl; first | omega | decide)) | (rw [tf27]; exact (show ((4 : Int32).toInt ≠ -1 → o26_x12.toInt = 1 ∧ 1 ≤ (4 : Int32).toInt) from by have q8 : (4 : Int32).toInt = 4 := rfl; first | omega | decide)))⟩, ht⟩) (fun _ h => by cases h) dX12_partAt_83
        · have ic45 : r42.toInt ≠ 0 := zi_eqf rfl rfl c45
          refine lv_iconst (v := 3) hx hb dX12_partAt_78 (by decide) ?_
          refine lv_goto (tgt := 83) hx hb dX12_partAt_79 (by decide) ?_
          exact W.iret (v := 3) hx hb hr (fun t ht hW => ⟨3, rfl, ⟨(by first | decide | omega), (by first | (simp only [tf27, mo_i1, mo_l1]; exact (show ((3 : Int32).toInt ≠ -1 → o26_x12.toInt = 1 ∧ 1 ≤ (3 : Int32).toInt) from by have q8 : (3 : Int32).toInt = 3 := rfl; first | omega | decide)) | (rw [tf27]; exact (show ((3 : Int32).toInt ≠ -1 → o26_x12.toInt = 1 ∧ 1 ≤ (3 : Int32).toInt) from by have q8 : (3 : Int32).toInt = 3 := rfl; first | omega | decide)))⟩, ht⟩) (fun _ h => by cases h) dX12_partAt_83
      · have ic41 : r38.toInt ≠ 0 := zi_eqf rfl rfl c41
        refine lv_iconst (v := 2) hx hb dX12_partAt_64 (by decide) ?_
        refine lv_goto (tgt := 83) hx hb dX12_partAt_65 (by decide) ?_
        exact W.iret (v := 2) hx hb hr (fun t ht hW => ⟨2, rfl, ⟨(by first | decide | omega), (by first | (simp only [tf27, mo_i1, mo_l1]; exact (show ((2 : Int32).toInt ≠ -1 → o26_x12.toInt = 1 ∧ 1 ≤ (2 : Int32).toInt) from by have q8 : (2 : Int32).toInt = 2 := rfl; first | omega | decide)) | (rw [tf27]; exact (show ((2 : Int32).toInt ≠ -1 → o26_x12.toInt = 1 ∧ 1 ≤ (2 : Int32).toInt) from by have q8 : (2 : Int32).toInt = 2 := rfl; first | omega | decide)))⟩, ht⟩) (fun _ h => by cases h) dX12_partAt_83
    · have ic37 : r34.toInt ≠ 0 := zi_eqf rfl rfl c37
      refine lv_iconst (v := 1) hx hb dX12_partAt_50 (by decide) ?_
      refine lv_goto (tgt := 83) hx hb dX12_partAt_51 (by decide) ?_
      exact W.iret (v := 1) hx hb hr (fun t ht hW => ⟨1, rfl, ⟨(by first | decide | omega), (by first | (simp only [tf27, mo_i1, mo_l1]; exact (show ((1 : Int32).toInt ≠ -1 → o26_x12.toInt = 1 ∧ 1 ≤ (1 : Int32).toInt) from by have q8 : (1 : Int32).toInt = 1 := rfl; first | omega | decide)) | (rw [tf27]; exact (show ((1 : Int32).toInt ≠ -1 → o26_x12.toInt = 1 ∧ 1 ≤ (1 : Int32).toInt) from by have q8 : (1 : Int32).toInt = 1 := rfl; first | omega | decide)))⟩, ht⟩) (fun _ h => by cases h) dX12_partAt_83
  · have ic33 : r30.toInt = 0 := zi_nef rfl rfl c33
    refine lv_aload_n hx hb dX12_partAt_10 rfl (lv_at hl 0 rfl) ?_
    refine lv_ldc2 (own := RX12) (v := 76951716) hx hb hown (hts (.constantLong RX12 321 (76951716)) wa_1073) dX12_partAt_11 ?_
    refine pz_calli (va_runV (As := [.long 76951716]) (rest := []) ⟨hx, hb, hml, hown, hts⟩ (t_X12_isWord l dC dI _ κ τ ν ρ L f hG hT h0 (76951716) ht_h0) (cwV 1 hts gX12_partAt_X12_isWord rfl rfl rfl ⟨rfl, pd_X12_isWord⟩ ⟨Nat.le_of_ble_eq_true rfl, Nat.le_of_ble_eq_true rfl⟩) ⟨pz_blind, va_recv hK hP (ci := 12) (q0 := q29) rfl eq29, pz_pre hP hK hD hN⟩ rfl rfl hl.1 rfl (lv_room (Nat.le_of_ble_eq_true rfl)) dX12_partAt_14 ⟨Nat.le_of_ble_eq_true rfl, Nat.le_of_ble_eq_true rfl⟩) (fun r46 hw47 => ?_)
    obtain ⟨hw47r, hw47p⟩ := hw47
    have tk48 : (r46.toInt ≠ 0 → o26_x12.toInt = 1 ∧ o26_x13.toInt = (76951716 : Int)) := by have q9 := hw47p; first | (simp only [tf27, tf28, mo_i1, mo_l1] at q9; exact q9) | (rw [tf27, tf28] at q9; exact q9)
    refine lv_if_ne (tgt := 40) hx hb dX12_partAt_17 (by decide) (fun c49 => ?_) (fun c49 => ?_)
    · have ic49 : r46.toInt ≠ 0 := zi_ne rfl rfl c49
      refine lv_aload_n hx hb dX12_partAt_40 rfl (lv_at hl 0 rfl) ?_
      refine lv_ldc2 (own := RX12) (v := 671187) hx hb hown (hts (.constantLong RX12 315 (671187)) wa_1072) dX12_partAt_41 ?_
      refine pz_calli (va_runV (As := [.long 671187]) (rest := []) ⟨hx, hb, hml, hown, hts⟩ (t_X12_isWord l dC dI _ κ τ ν ρ L f hG hT h0 (671187) ht_h0) (cwV 1 hts gX12_partAt_X12_isWord rfl rfl rfl ⟨rfl, pd_X12_isWord⟩ ⟨Nat.le_of_ble_eq_true rfl, Nat.le_of_ble_eq_true rfl⟩) ⟨pz_blind, va_recv hK hP (ci := 12) (q0 := q29) rfl eq29, pz_pre hP hK hD hN⟩ rfl rfl hl.1 rfl (lv_room (Nat.le_of_ble_eq_true rfl)) dX12_partAt_44 ⟨Nat.le_of_ble_eq_true rfl, Nat.le_of_ble_eq_true rfl⟩) (fun r50 hw51 => ?_)
      obtain ⟨hw51r, hw51p⟩ := hw51
      have tk52 : (r50.toInt ≠ 0 → o26_x12.toInt = 1 ∧ o26_x13.toInt = (671187 : Int)) := by have q9 := hw51p; first | (simp only [tf27, tf28, mo_i1, mo_l1] at q9; exact q9) | (rw [tf27, tf28] at q9; exact q9)
      refine lv_if_eq (tgt := 54) hx hb dX12_partAt_47 (by decide) (fun c53 => ?_) (fun c53 => ?_)
      · have ic53 : r50.toInt = 0 := zi_eq rfl rfl c53
        refine lv_aload_n hx hb dX12_partAt_54 rfl (lv_at hl 0 rfl) ?_
        refine lv_ldc2 (own := RX12) (v := 76951716) hx hb hown (hts (.constantLong RX12 321 (76951716)) wa_1073) dX12_partAt_55 ?_
        refine pz_calli (va_runV (As := [.long 76951716]) (rest := []) ⟨hx, hb, hml, hown, hts⟩ (t_X12_isWord l dC dI _ κ τ ν ρ L f hG hT h0 (76951716) ht_h0) (cwV 1 hts gX12_partAt_X12_isWord rfl rfl rfl ⟨rfl, pd_X12_isWord⟩ ⟨Nat.le_of_ble_eq_true rfl, Nat.le_of_ble_eq_true rfl⟩) ⟨pz_blind, va_recv hK hP (ci := 12) (q0 := q29) rfl eq29, pz_pre hP hK hD hN⟩ rfl rfl hl.1 rfl (lv_room (Nat.le_of_ble_eq_true rfl)) dX12_partAt_58 ⟨Nat.le_of_ble_eq_true rfl, Nat.le_of_ble_eq_true rfl⟩) (fun r54 hw55 => ?_)
        obtain ⟨hw55r, hw55p⟩ := hw55
        have tk56 : (r54.toInt ≠ 0 → o26_x12.toInt = 1 ∧ o26_x13.toInt = (76951716 : Int)) := by have q9 := hw55p; first | (simp only [tf27, tf28, mo_i1, mo_l1] at q9; exact q9) | (rw [tf27, tf28] at q9; exact q9)
        refine lv_if_eq (tgt := 68) hx hb dX12_partAt_61 (by decide) (fun c57 => ?_) (fun c57 => ?_)
        · have ic57 : r54.toInt = 0 := zi_eq rfl rfl c57
          refine lv_aload_n hx hb dX12_partAt_68 rfl (lv_at hl 0 rfl) ?_
          refine lv_ldc2 (own := RX12) (v := 267316) hx hb hown (hts (.constantLong RX12 323 (267316)) wa_1074) dX12_partAt_69 ?_
          refine pz_calli (va_runV (As := [.long 267316]) (rest := []) ⟨hx, hb, hml, hown, hts⟩ (t_X12_isWord l dC dI _ κ τ ν ρ L f hG hT h0 (267316) ht_h0) (cwV 1 hts gX12_partAt_X12_isWord rfl rfl rfl ⟨rfl, pd_X12_isWord⟩ ⟨Nat.le_of_ble_eq_true rfl, Nat.le_of_ble_eq_true rfl⟩) ⟨pz_blind, va_recv hK hP (ci := 12) (q0 := q29) rfl eq29, pz_pre hP hK hD hN⟩ rfl rfl hl.1 rfl (lv_room (Nat.le_of_ble_eq_true rfl)) dX12_partAt_72 ⟨Nat.le_of_ble_eq_true rfl, Nat.le_of_ble_eq_true rfl⟩) (fun r58 hw59 => ?_)
          obtain ⟨hw59r, hw59p⟩ := hw59
          have tk60 : (r58.toInt ≠ 0 → o26_x12.toInt = 1 ∧ o26_x13.toInt = (267316 : Int)) := by have q9 := hw59p; first | (simp only [tf27, tf28, mo_i1, mo_l1] at q9; exact q9) | (rw [tf27, tf28] at q9; exact q9)
          refine lv_if_eq (tgt := 82) hx hb dX12_partAt_75 (by decide) (fun c61 => ?_) (fun c61 => ?_)
          · have ic61 : r58.toInt = 0 := zi_eq rfl rfl c61
            refine lv_iconst (v := 4) hx hb dX12_partAt_82 (by decide) ?_
            exact W.iret (v := 4) hx hb hr (fun t ht hW => ⟨4, rfl, ⟨(by first | decide | omega), (by first | (simp only [tf27, mo_i1, mo_l1]; exact (show ((4 : Int32).toInt ≠ -1 → o26_x12.toInt = 1 ∧ 1 ≤ (4 : Int32).toInt) from by have q8 : (4 : Int32).toInt = 4 := rfl; first | omega | decide)) | (rw [tf27]; exact (show ((4 : Int32).toInt ≠ -1 → o26_x12.toInt = 1 ∧ 1 ≤ (4 : Int32).toInt) from by have q8 : (4 : Int32).toInt = 4 := rfl; first | omega | decide)))⟩, ht⟩) (fun _ h => by cases h) dX12_partAt_83
          · have ic61 : r58.toInt ≠ 0 := zi_eqf rfl rfl c61
            refine lv_iconst (v := 3) hx hb dX12_partAt_78 (by decide) ?_
            refine lv_goto (tgt := 83) hx hb dX12_partAt_79 (by decide) ?_
            exact W.iret (v := 3) hx hb hr (fun t ht hW => ⟨3, rfl, ⟨(by first | decide | omega), (by first | (simp only [tf27, mo_i1, mo_l1]; exact (show ((3 : Int32).toInt ≠ -1 → o26_x12.toInt = 1 ∧ 1 ≤ (3 : Int32).toInt) from by have q8 : (3 : Int32).toInt = 3 := rfl; first | omega | decide)) | (rw [tf27]; exact (show ((3 : Int32).toInt ≠ -1 → o26_x12.toInt = 1 ∧ 1 ≤ (3 : Int32).toInt) from by have q8 : (3 : Int32).toInt = 3 := rfl; first | omega | decide)))⟩, ht⟩) (fun _ h => by cases h) dX12_partAt_83
        · have ic57 : r54.toInt ≠ 0 := zi_eqf rfl rfl c57
          refine lv_iconst (v := 2) hx hb dX12_partAt_64 (by decide) ?_
          refine lv_goto (tgt := 83) hx hb dX12_partAt_65 (by decide) ?_
          exact W.iret (v := 2) hx hb hr (fun t ht hW => ⟨2, rfl, ⟨(by first | decide | omega), (by first | (simp only [tf27, mo_i1, mo_l1]; exact (show ((2 : Int32).toInt ≠ -1 → o26_x12.toInt = 1 ∧ 1 ≤ (2 : Int32).toInt) from by have q8 : (2 : Int32).toInt = 2 := rfl; first | omega | decide)) | (rw [tf27]; exact (show ((2 : Int32).toInt ≠ -1 → o26_x12.toInt = 1 ∧ 1 ≤ (2 : Int32).toInt) from by have q8 : (2 : Int32).toInt = 2 := rfl; first | omega | decide)))⟩, ht⟩) (fun _ h => by cases h) dX12_partAt_83
      · have ic53 : r50.toInt ≠ 0 := zi_eqf rfl rfl c53
        refine lv_iconst (v := 1) hx hb dX12_partAt_50 (by decide) ?_
        refine lv_goto (tgt := 83) hx hb dX12_partAt_51 (by decide) ?_
        exact W.iret (v := 1) hx hb hr (fun t ht hW => ⟨1, rfl, ⟨(by first | decide | omega), (by first | (simp only [tf27, mo_i1, mo_l1]; exact (show ((1 : Int32).toInt ≠ -1 → o26_x12.toInt = 1 ∧ 1 ≤ (1 : Int32).toInt) from by have q8 : (1 : Int32).toInt = 1 := rfl; first | omega | decide)) | (rw [tf27]; exact (show ((1 : Int32).toInt ≠ -1 → o26_x12.toInt = 1 ∧ 1 ≤ (1 : Int32).toInt) from by have q8 : (1 : Int32).toInt = 1 := rfl; first | omega | decide)))⟩, ht⟩) (fun _ h => by cases h) dX12_partAt_83
    · have ic49 : r46.toInt = 0 := zi_nef rfl rfl c49
      refine lv_aload_n hx hb dX12_partAt_20 rfl (lv_at hl 0 rfl) ?_
      refine lv_ldc2 (own := RX12) (v := 267316) hx hb hown (hts (.constantLong RX12 323 (267316)) wa_1074) dX12_partAt_21 ?_
      refine pz_calli (va_runV (As := [.long 267316]) (rest := []) ⟨hx, hb, hml, hown, hts⟩ (t_X12_isWord l dC dI _ κ τ ν ρ L f hG hT h0 (267316) ht_h0) (cwV 1 hts gX12_partAt_X12_isWord rfl rfl rfl ⟨rfl, pd_X12_isWord⟩ ⟨Nat.le_of_ble_eq_true rfl, Nat.le_of_ble_eq_true rfl⟩) ⟨pz_blind, va_recv hK hP (ci := 12) (q0 := q29) rfl eq29, pz_pre hP hK hD hN⟩ rfl rfl hl.1 rfl (lv_room (Nat.le_of_ble_eq_true rfl)) dX12_partAt_24 ⟨Nat.le_of_ble_eq_true rfl, Nat.le_of_ble_eq_true rfl⟩) (fun r62 hw63 => ?_)
      obtain ⟨hw63r, hw63p⟩ := hw63
      have tk64 : (r62.toInt ≠ 0 → o26_x12.toInt = 1 ∧ o26_x13.toInt = (267316 : Int)) := by have q9 := hw63p; first | (simp only [tf27, tf28, mo_i1, mo_l1] at q9; exact q9) | (rw [tf27, tf28] at q9; exact q9)
      refine lv_if_ne (tgt := 40) hx hb dX12_partAt_27 (by decide) (fun c65 => ?_) (fun c65 => ?_)
      · have ic65 : r62.toInt ≠ 0 := zi_ne rfl rfl c65
        refine lv_aload_n hx hb dX12_partAt_40 rfl (lv_at hl 0 rfl) ?_
        refine lv_ldc2 (own := RX12) (v := 671187) hx hb hown (hts (.constantLong RX12 315 (671187)) wa_1072) dX12_partAt_41 ?_
        refine pz_calli (va_runV (As := [.long 671187]) (rest := []) ⟨hx, hb, hml, hown, hts⟩ (t_X12_isWord l dC dI _ κ τ ν ρ L f hG hT h0 (671187) ht_h0) (cwV 1 hts gX12_partAt_X12_isWord rfl rfl rfl ⟨rfl, pd_X12_isWord⟩ ⟨Nat.le_of_ble_eq_true rfl, Nat.le_of_ble_eq_true rfl⟩) ⟨pz_blind, va_recv hK hP (ci := 12) (q0 := q29) rfl eq29, pz_pre hP hK hD hN⟩ rfl rfl hl.1 rfl (lv_room (Nat.le_of_ble_eq_true rfl)) dX12_partAt_44 ⟨Nat.le_of_ble_eq_true rfl, Nat.le_of_ble_eq_true rfl⟩) (fun r66 hw67 => ?_)
        obtain ⟨hw67r, hw67p⟩ := hw67
        have tk68 : (r66.toInt ≠ 0 → o26_x12.toInt = 1 ∧ o26_x13.toInt = (671187 : Int)) := by have q9 := hw67p; first | (simp only [tf27, tf28, mo_i1, mo_l1] at q9; exact q9) | (rw [tf27, tf28] at q9; exact q9)
        refine lv_if_eq (tgt := 54) hx hb dX12_partAt_47 (by decide) (fun c69 => ?_) (fun c69 => ?_)
        · have ic69 : r66.toInt = 0 := zi_eq rfl rfl c69
          refine lv_aload_n hx hb dX12_partAt_54 rfl (lv_at hl 0 rfl) ?_
          refine lv_ldc2 (own := RX12) (v := 76951716) hx hb hown (hts (.constantLong RX12 321 (76951716)) wa_1073) dX12_partAt_55 ?_
          refine pz_calli (va_runV (As := [.long 76951716]) (rest := []) ⟨hx, hb, hml, hown, hts⟩ (t_X12_isWord l dC dI _ κ τ ν ρ L f hG hT h0 (76951716) ht_h0) (cwV 1 hts gX12_partAt_X12_isWord rfl rfl rfl ⟨rfl, pd_X12_isWord⟩ ⟨Nat.le_of_ble_eq_true rfl, Nat.le_of_ble_eq_true rfl⟩) ⟨pz_blind, va_recv hK hP (ci := 12) (q0 := q29) rfl eq29, pz_pre hP hK hD hN⟩ rfl rfl hl.1 rfl (lv_room (Nat.le_of_ble_eq_true rfl)) dX12_partAt_58 ⟨Nat.le_of_ble_eq_true rfl, Nat.le_of_ble_eq_true rfl⟩) (fun r70 hw71 => ?_)
          obtain ⟨hw71r, hw71p⟩ := hw71
          have tk72 : (r70.toInt ≠ 0 → o26_x12.toInt = 1 ∧ o26_x13.toInt = (76951716 : Int)) := by have q9 := hw71p; first | (simp only [tf27, tf28, mo_i1, mo_l1] at q9; exact q9) | (rw [tf27, tf28] at q9; exact q9)
          refine lv_if_eq (tgt := 68) hx hb dX12_partAt_61 (by decide) (fun c73 => ?_) (fun c73 => ?_)
          · have ic73 : r70.toInt = 0 := zi_eq rfl rfl c73
            refine lv_aload_n hx hb dX12_partAt_68 rfl (lv_at hl 0 rfl) ?_
            refine lv_ldc2 (own := RX12) (v := 267316) hx hb hown (hts (.constantLong RX12 323 (267316)) wa_1074) dX12_partAt_69 ?_
            refine pz_calli (va_runV (As := [.long 267316]) (rest := []) ⟨hx, hb, hml, hown, hts⟩ (t_X12_isWord l dC dI _ κ τ ν ρ L f hG hT h0 (267316) ht_h0) (cwV 1 hts gX12_partAt_X12_isWord rfl rfl rfl ⟨rfl, pd_X12_isWord⟩ ⟨Nat.le_of_ble_eq_true rfl, Nat.le_of_ble_eq_true rfl⟩) ⟨pz_blind, va_recv hK hP (ci := 12) (q0 := q29) rfl eq29, pz_pre hP hK hD hN⟩ rfl rfl hl.1 rfl (lv_room (Nat.le_of_ble_eq_true rfl)) dX12_partAt_72 ⟨Nat.le_of_ble_eq_true rfl, Nat.le_of_ble_eq_true rfl⟩) (fun r74 hw75 => ?_)
            obtain ⟨hw75r, hw75p⟩ := hw75
            have tk76 : (r74.toInt ≠ 0 → o26_x12.toInt = 1 ∧ o26_x13.toInt = (267316 : Int)) := by have q9 := hw75p; first | (simp only [tf27, tf28, mo_i1, mo_l1] at q9; exact q9) | (rw [tf27, tf28] at q9; exact q9)
            refine lv_if_eq (tgt := 82) hx hb dX12_partAt_75 (by decide) (fun c77 => ?_) (fun c77 => ?_)
            · have ic77 : r74.toInt = 0 := zi_eq rfl rfl c77
              refine lv_iconst (v := 4) hx hb dX12_partAt_82 (by decide) ?_
              exact W.iret (v := 4) hx hb hr (fun t ht hW => ⟨4, rfl, ⟨(by first | decide | omega), (by first | (simp only [tf27, mo_i1, mo_l1]; exact (show ((4 : Int32).toInt ≠ -1 → o26_x12.toInt = 1 ∧ 1 ≤ (4 : Int32).toInt) from by have q8 : (4 : Int32).toInt = 4 := rfl; first | omega | decide)) | (rw [tf27]; exact (show ((4 : Int32).toInt ≠ -1 → o26_x12.toInt = 1 ∧ 1 ≤ (4 : Int32).toInt) from by have q8 : (4 : Int32).toInt = 4 := rfl; first | omega | decide)))⟩, ht⟩) (fun _ h => by cases h) dX12_partAt_83
            · have ic77 : r74.toInt ≠ 0 := zi_eqf rfl rfl c77
              refine lv_iconst (v := 3) hx hb dX12_partAt_78 (by decide) ?_
              refine lv_goto (tgt := 83) hx hb dX12_partAt_79 (by decide) ?_
              exact W.iret (v := 3) hx hb hr (fun t ht hW => ⟨3, rfl, ⟨(by first | decide | omega), (by first | (simp only [tf27, mo_i1, mo_l1]; exact (show ((3 : Int32).toInt ≠ -1 → o26_x12.toInt = 1 ∧ 1 ≤ (3 : Int32).toInt) from by have q8 : (3 : Int32).toInt = 3 := rfl; first | omega | decide)) | (rw [tf27]; exact (show ((3 : Int32).toInt ≠ -1 → o26_x12.toInt = 1 ∧ 1 ≤ (3 : Int32).toInt) from by have q8 : (3 : Int32).toInt = 3 := rfl; first | omega | decide)))⟩, ht⟩) (fun _ h => by cases h) dX12_partAt_83
          · have ic73 : r70.toInt ≠ 0 := zi_eqf rfl rfl c73
            refine lv_iconst (v := 2) hx hb dX12_partAt_64 (by decide) ?_
            refine lv_goto (tgt := 83) hx hb dX12_partAt_65 (by decide) ?_
            exact W.iret (v := 2) hx hb hr (fun t ht hW => ⟨2, rfl, ⟨(by first | decide | omega), (by first | (simp only [tf27, mo_i1, mo_l1]; exact (show ((2 : Int32).toInt ≠ -1 → o26_x12.toInt = 1 ∧ 1 ≤ (2 : Int32).toInt) from by have q8 : (2 : Int32).toInt = 2 := rfl; first | omega | decide)) | (rw [tf27]; exact (show ((2 : Int32).toInt ≠ -1 → o26_x12.toInt = 1 ∧ 1 ≤ (2 : Int32).toInt) from by have q8 : (2 : Int32).toInt = 2 := rfl; first | omega | decide)))⟩, ht⟩) (fun _ h => by cases h) dX12_partAt_83
        · have ic69 : r66.toInt ≠ 0 := zi_eqf rfl rfl c69
          refine lv_iconst (v := 1) hx hb dX12_partAt_50 (by decide) ?_
          refine lv_goto (tgt := 83) hx hb dX12_partAt_51 (by decide) ?_
          exact W.iret (v := 1) hx hb hr (fun t ht hW => ⟨1, rfl, ⟨(by first | decide | omega), (by first | (simp only [tf27, mo_i1, mo_l1]; exact (show ((1 : Int32).toInt ≠ -1 → o26_x12.toInt = 1 ∧ 1 ≤ (1 : Int32).toInt) from by have q8 : (1 : Int32).toInt = 1 := rfl; first | omega | decide)) | (rw [tf27]; exact (show ((1 : Int32).toInt ≠ -1 → o26_x12.toInt = 1 ∧ 1 ≤ (1 : Int32).toInt) from by have q8 : (1 : Int32).toInt = 1 := rfl; first | omega | decide)))⟩, ht⟩) (fun _ h => by cases h) dX12_partAt_83
      · have ic65 : r62.toInt = 0 := zi_nef rfl rfl c65
        refine lv_aload_n hx hb dX12_partAt_30 rfl (lv_at hl 0 rfl) ?_
        refine lv_ldc2 (own := RX12) (v := 394885) hx hb hown (hts (.constantLong RX12 325 (394885)) wa_1075) dX12_partAt_31 ?_
        refine pz_calli (va_runV (As := [.long 394885]) (rest := []) ⟨hx, hb, hml, hown, hts⟩ (t_X12_isWord l dC dI _ κ τ ν ρ L f hG hT h0 (394885) ht_h0) (cwV 1 hts gX12_partAt_X12_isWord rfl rfl rfl ⟨rfl, pd_X12_isWord⟩ ⟨Nat.le_of_ble_eq_true rfl, Nat.le_of_ble_eq_true rfl⟩) ⟨pz_blind, va_recv hK hP (ci := 12) (q0 := q29) rfl eq29, pz_pre hP hK hD hN⟩ rfl rfl hl.1 rfl (lv_room (Nat.le_of_ble_eq_true rfl)) dX12_partAt_34 ⟨Nat.le_of_ble_eq_true rfl, Nat.le_of_ble_eq_true rfl⟩) (fun r78 hw79 => ?_)
        obtain ⟨hw79r, hw79p⟩ := hw79
        have tk80 : (r78.toInt ≠ 0 → o26_x12.toInt = 1 ∧ o26_x13.toInt = (394885 : Int)) := by have q9 := hw79p; first | (simp only [tf27, tf28, mo_i1, mo_l1] at q9; exact q9) | (rw [tf27, tf28] at q9; exact q9)
        refine lv_if_eq (tgt := 84) hx hb dX12_partAt_37 (by decide) (fun c81 => ?_) (fun c81 => ?_)
        · have ic81 : r78.toInt = 0 := zi_eq rfl rfl c81
          refine lv_aload_n hx hb dX12_partAt_84 rfl (lv_at hl 0 rfl) ?_
          refine lv_ldc2 (own := RX12) (v := 5294489) hx hb hown (hts (.constantLong RX12 327 (5294489)) wa_1076) dX12_partAt_85 ?_
          refine pz_calli (va_runV (As := [.long 5294489]) (rest := []) ⟨hx, hb, hml, hown, hts⟩ (t_X12_isWord l dC dI _ κ τ ν ρ L f hG hT h0 (5294489) ht_h0) (cwV 1 hts gX12_partAt_X12_isWord rfl rfl rfl ⟨rfl, pd_X12_isWord⟩ ⟨Nat.le_of_ble_eq_true rfl, Nat.le_of_ble_eq_true rfl⟩) ⟨pz_blind, va_recv hK hP (ci := 12) (q0 := q29) rfl eq29, pz_pre hP hK hD hN⟩ rfl rfl hl.1 rfl (lv_room (Nat.le_of_ble_eq_true rfl)) dX12_partAt_88 ⟨Nat.le_of_ble_eq_true rfl, Nat.le_of_ble_eq_true rfl⟩) (fun r82 hw83 => ?_)
          obtain ⟨hw83r, hw83p⟩ := hw83
          have tk84 : (r82.toInt ≠ 0 → o26_x12.toInt = 1 ∧ o26_x13.toInt = (5294489 : Int)) := by have q9 := hw83p; first | (simp only [tf27, tf28, mo_i1, mo_l1] at q9; exact q9) | (rw [tf27, tf28] at q9; exact q9)
          refine lv_if_eq (tgt := 98) hx hb dX12_partAt_91 (by decide) (fun c85 => ?_) (fun c85 => ?_)
          · have ic85 : r82.toInt = 0 := zi_eq rfl rfl c85
            refine lv_aload_n hx hb dX12_partAt_98 rfl (lv_at hl 0 rfl) ?_
            refine lv_ldc2 (own := RX12) (v := 17376357) hx hb hown (hts (.constantLong RX12 329 (17376357)) wa_1077) dX12_partAt_99 ?_
            refine pz_calli (va_runV (As := [.long 17376357]) (rest := []) ⟨hx, hb, hml, hown, hts⟩ (t_X12_isWord l dC dI _ κ τ ν ρ L f hG hT h0 (17376357) ht_h0) (cwV 1 hts gX12_partAt_X12_isWord rfl rfl rfl ⟨rfl, pd_X12_isWord⟩ ⟨Nat.le_of_ble_eq_true rfl, Nat.le_of_ble_eq_true rfl⟩) ⟨pz_blind, va_recv hK hP (ci := 12) (q0 := q29) rfl eq29, pz_pre hP hK hD hN⟩ rfl rfl hl.1 rfl (lv_room (Nat.le_of_ble_eq_true rfl)) dX12_partAt_102 ⟨Nat.le_of_ble_eq_true rfl, Nat.le_of_ble_eq_true rfl⟩) (fun r86 hw87 => ?_)
            obtain ⟨hw87r, hw87p⟩ := hw87
            have tk88 : (r86.toInt ≠ 0 → o26_x12.toInt = 1 ∧ o26_x13.toInt = (17376357 : Int)) := by have q9 := hw87p; first | (simp only [tf27, tf28, mo_i1, mo_l1] at q9; exact q9) | (rw [tf27, tf28] at q9; exact q9)
            refine lv_if_eq (tgt := 113) hx hb dX12_partAt_105 (by decide) (fun c89 => ?_) (fun c89 => ?_)
            · have ic89 : r86.toInt = 0 := zi_eq rfl rfl c89
              refine lv_aload_n hx hb dX12_partAt_113 rfl (lv_at hl 0 rfl) ?_
              refine lv_ldc2 (own := RX12) (v := 8902227) hx hb hown (hts (.constantLong RX12 331 (8902227)) wa_1078) dX12_partAt_114 ?_
              refine pz_calli (va_runV (As := [.long 8902227]) (rest := []) ⟨hx, hb, hml, hown, hts⟩ (t_X12_isWord l dC dI _ κ τ ν ρ L f hG hT h0 (8902227) ht_h0) (cwV 1 hts gX12_partAt_X12_isWord rfl rfl rfl ⟨rfl, pd_X12_isWord⟩ ⟨Nat.le_of_ble_eq_true rfl, Nat.le_of_ble_eq_true rfl⟩) ⟨pz_blind, va_recv hK hP (ci := 12) (q0 := q29) rfl eq29, pz_pre hP hK hD hN⟩ rfl rfl hl.1 rfl (lv_room (Nat.le_of_ble_eq_true rfl)) dX12_partAt_117 ⟨Nat.le_of_ble_eq_true rfl, Nat.le_of_ble_eq_true rfl⟩) (fun r90 hw91 => ?_)
              obtain ⟨hw91r, hw91p⟩ := hw91
              have tk92 : (r90.toInt ≠ 0 → o26_x12.toInt = 1 ∧ o26_x13.toInt = (8902227 : Int)) := by have q9 := hw91p; first | (simp only [tf27, tf28, mo_i1, mo_l1] at q9; exact q9) | (rw [tf27, tf28] at q9; exact q9)
              refine lv_if_eq (tgt := 128) hx hb dX12_partAt_120 (by decide) (fun c93 => ?_) (fun c93 => ?_)
              · have ic93 : r90.toInt = 0 := zi_eq rfl rfl c93
                refine lv_aload_n hx hb dX12_partAt_128 rfl (lv_at hl 0 rfl) ?_
                refine lv_ldc2 (own := RX12) (v := 5930468251205) hx hb hown (hts (.constantLong RX12 333 (5930468251205)) wa_1079) dX12_partAt_129 ?_
                refine pz_calli (va_runV (As := [.long 5930468251205]) (rest := []) ⟨hx, hb, hml, hown, hts⟩ (t_X12_isWord l dC dI _ κ τ ν ρ L f hG hT h0 (5930468251205) ht_h0) (cwV 1 hts gX12_partAt_X12_isWord rfl rfl rfl ⟨rfl, pd_X12_isWord⟩ ⟨Nat.le_of_ble_eq_true rfl, Nat.le_of_ble_eq_true rfl⟩) ⟨pz_blind, va_recv hK hP (ci := 12) (q0 := q29) rfl eq29, pz_pre hP hK hD hN⟩ rfl rfl hl.1 rfl (lv_room (Nat.le_of_ble_eq_true rfl)) dX12_partAt_132 ⟨Nat.le_of_ble_eq_true rfl, Nat.le_of_ble_eq_true rfl⟩) (fun r94 hw95 => ?_)
                obtain ⟨hw95r, hw95p⟩ := hw95
                have tk96 : (r94.toInt ≠ 0 → o26_x12.toInt = 1 ∧ o26_x13.toInt = (5930468251205 : Int)) := by have q9 := hw95p; first | (simp only [tf27, tf28, mo_i1, mo_l1] at q9; exact q9) | (rw [tf27, tf28] at q9; exact q9)
                refine lv_if_eq (tgt := 143) hx hb dX12_partAt_135 (by decide) (fun c97 => ?_) (fun c97 => ?_)
                · have ic97 : r94.toInt = 0 := zi_eq rfl rfl c97
                  refine lv_iconst (v := (-1)) hx hb dX12_partAt_143 (by decide) ?_
                  exact W.iret (v := (-1)) hx hb hr (fun t ht hW => ⟨(-1), rfl, ⟨(by first | decide | omega), (by first | (simp only [tf27, mo_i1, mo_l1]; exact (show (((-1) : Int32).toInt ≠ -1 → o26_x12.toInt = 1 ∧ 1 ≤ ((-1) : Int32).toInt) from by have q8 : ((-1) : Int32).toInt = (-1) := rfl; first | omega | decide)) | (rw [tf27]; exact (show (((-1) : Int32).toInt ≠ -1 → o26_x12.toInt = 1 ∧ 1 ≤ ((-1) : Int32).toInt) from by have q8 : ((-1) : Int32).toInt = (-1) := rfl; first | omega | decide)))⟩, ht⟩) (fun _ h => by cases h) dX12_partAt_144
                · have ic97 : r94.toInt ≠ 0 := zi_eqf rfl rfl c97
                  refine lv_bipush (v := 8) hx hb dX12_partAt_138 (by decide) ?_
                  refine lv_goto (tgt := 144) hx hb dX12_partAt_140 (by decide) ?_
                  exact W.iret (v := 8) hx hb hr (fun t ht hW => ⟨8, rfl, ⟨(by first | decide | omega), (by first | (simp only [tf27, mo_i1, mo_l1]; exact (show ((8 : Int32).toInt ≠ -1 → o26_x12.toInt = 1 ∧ 1 ≤ (8 : Int32).toInt) from by have q8 : (8 : Int32).toInt = 8 := rfl; first | omega | decide)) | (rw [tf27]; exact (show ((8 : Int32).toInt ≠ -1 → o26_x12.toInt = 1 ∧ 1 ≤ (8 : Int32).toInt) from by have q8 : (8 : Int32).toInt = 8 := rfl; first | omega | decide)))⟩, ht⟩) (fun _ h => by cases h) dX12_partAt_144
              · have ic93 : r90.toInt ≠ 0 := zi_eqf rfl rfl c93
                refine lv_bipush (v := 7) hx hb dX12_partAt_123 (by decide) ?_
                refine lv_goto (tgt := 144) hx hb dX12_partAt_125 (by decide) ?_
                exact W.iret (v := 7) hx hb hr (fun t ht hW => ⟨7, rfl, ⟨(by first | decide | omega), (by first | (simp only [tf27, mo_i1, mo_l1]; exact (show ((7 : Int32).toInt ≠ -1 → o26_x12.toInt = 1 ∧ 1 ≤ (7 : Int32).toInt) from by have q8 : (7 : Int32).toInt = 7 := rfl; first | omega | decide)) | (rw [tf27]; exact (show ((7 : Int32).toInt ≠ -1 → o26_x12.toInt = 1 ∧ 1 ≤ (7 : Int32).toInt) from by have q8 : (7 : Int32).toInt = 7 := rfl; first | omega | decide)))⟩, ht⟩) (fun _ h => by cases h) dX12_partAt_144
            · have ic89 : r86.toInt ≠ 0 := zi_eqf rfl rfl c89
              refine lv_bipush (v := 6) hx hb dX12_partAt_108 (by decide) ?_
              refine lv_goto (tgt := 144) hx hb dX12_partAt_110 (by decide) ?_
              exact W.iret (v := 6) hx hb hr (fun t ht hW => ⟨6, rfl, ⟨(by first | decide | omega), (by first | (simp only [tf27, mo_i1, mo_l1]; exact (show ((6 : Int32).toInt ≠ -1 → o26_x12.toInt = 1 ∧ 1 ≤ (6 : Int32).toInt) from by have q8 : (6 : Int32).toInt = 6 := rfl; first | omega | decide)) | (rw [tf27]; exact (show ((6 : Int32).toInt ≠ -1 → o26_x12.toInt = 1 ∧ 1 ≤ (6 : Int32).toInt) from by have q8 : (6 : Int32).toInt = 6 := rfl; first | omega | decide)))⟩, ht⟩) (fun _ h => by cases h) dX12_partAt_144
          · have ic85 : r82.toInt ≠ 0 := zi_eqf rfl rfl c85
            refine lv_iconst (v := 5) hx hb dX12_partAt_94 (by decide) ?_
            refine lv_goto (tgt := 144) hx hb dX12_partAt_95 (by decide) ?_
            exact W.iret (v := 5) hx hb hr (fun t ht hW => ⟨5, rfl, ⟨(by first | decide | omega), (by first | (simp only [tf27, mo_i1, mo_l1]; exact (show ((5 : Int32).toInt ≠ -1 → o26_x12.toInt = 1 ∧ 1 ≤ (5 : Int32).toInt) from by have q8 : (5 : Int32).toInt = 5 := rfl; first | omega | decide)) | (rw [tf27]; exact (show ((5 : Int32).toInt ≠ -1 → o26_x12.toInt = 1 ∧ 1 ≤ (5 : Int32).toInt) from by have q8 : (5 : Int32).toInt = 5 := rfl; first | omega | decide)))⟩, ht⟩) (fun _ h => by cases h) dX12_partAt_144
        · have ic81 : r78.toInt ≠ 0 := zi_eqf rfl rfl c81
          refine lv_aload_n hx hb dX12_partAt_40 rfl (lv_at hl 0 rfl) ?_
          refine lv_ldc2 (own := RX12) (v := 671187) hx hb hown (hts (.constantLong RX12 315 (671187)) wa_1072) dX12_partAt_41 ?_
          refine pz_calli (va_runV (As := [.long 671187]) (rest := []) ⟨hx, hb, hml, hown, hts⟩ (t_X12_isWord l dC dI _ κ τ ν ρ L f hG hT h0 (671187) ht_h0) (cwV 1 hts gX12_partAt_X12_isWord rfl rfl rfl ⟨rfl, pd_X12_isWord⟩ ⟨Nat.le_of_ble_eq_true rfl, Nat.le_of_ble_eq_true rfl⟩) ⟨pz_blind, va_recv hK hP (ci := 12) (q0 := q29) rfl eq29, pz_pre hP hK hD hN⟩ rfl rfl hl.1 rfl (lv_room (Nat.le_of_ble_eq_true rfl)) dX12_partAt_44 ⟨Nat.le_of_ble_eq_true rfl, Nat.le_of_ble_eq_true rfl⟩) (fun r98 hw99 => ?_)
          obtain ⟨hw99r, hw99p⟩ := hw99
          have tk100 : (r98.toInt ≠ 0 → o26_x12.toInt = 1 ∧ o26_x13.toInt = (671187 : Int)) := by have q9 := hw99p; first | (simp only [tf27, tf28, mo_i1, mo_l1] at q9; exact q9) | (rw [tf27, tf28] at q9; exact q9)
          refine lv_if_eq (tgt := 54) hx hb dX12_partAt_47 (by decide) (fun c101 => ?_) (fun c101 => ?_)
          · have ic101 : r98.toInt = 0 := zi_eq rfl rfl c101
            refine lv_aload_n hx hb dX12_partAt_54 rfl (lv_at hl 0 rfl) ?_
            refine lv_ldc2 (own := RX12) (v := 76951716) hx hb hown (hts (.constantLong RX12 321 (76951716)) wa_1073) dX12_partAt_55 ?_
            refine pz_calli (va_runV (As := [.long 76951716]) (rest := []) ⟨hx, hb, hml, hown, hts⟩ (t_X12_isWord l dC dI _ κ τ ν ρ L f hG hT h0 (76951716) ht_h0) (cwV 1 hts gX12_partAt_X12_isWord rfl rfl rfl ⟨rfl, pd_X12_isWord⟩ ⟨Nat.le_of_ble_eq_true rfl, Nat.le_of_ble_eq_true rfl⟩) ⟨pz_blind, va_recv hK hP (ci := 12) (q0 := q29) rfl eq29, pz_pre hP hK hD hN⟩ rfl rfl hl.1 rfl (lv_room (Nat.le_of_ble_eq_true rfl)) dX12_partAt_58 ⟨Nat.le_of_ble_eq_true rfl, Nat.le_of_ble_eq_true rfl⟩) (fun r102 hw103 => ?_)
            obtain ⟨hw103r, hw103p⟩ := hw103
            have tk104 : (r102.toInt ≠ 0 → o26_x12.toInt = 1 ∧ o26_x13.toInt = (76951716 : Int)) := by have q9 := hw103p; first | (simp only [tf27, tf28, mo_i1, mo_l1] at q9; exact q9) | (rw [tf27, tf28] at q9; exact q9)
            refine lv_if_eq (tgt := 68) hx hb dX12_partAt_61 (by decide) (fun c105 => ?_) (fun c105 => ?_)
            · have ic105 : r102.toInt = 0 := zi_eq rfl rfl c105
              refine lv_aload_n hx hb dX12_partAt_68 rfl (lv_at hl 0 rfl) ?_
              refine lv_ldc2 (own := RX12) (v := 267316) hx hb hown (hts (.constantLong RX12 323 (267316)) wa_1074) dX12_partAt_69 ?_
              refine pz_calli (va_runV (As := [.long 267316]) (rest := []) ⟨hx, hb, hml, hown, hts⟩ (t_X12_isWord l dC dI _ κ τ ν ρ L f hG hT h0 (267316) ht_h0) (cwV 1 hts gX12_partAt_X12_isWord rfl rfl rfl ⟨rfl, pd_X12_isWord⟩ ⟨Nat.le_of_ble_eq_true rfl, Nat.le_of_ble_eq_true rfl⟩) ⟨pz_blind, va_recv hK hP (ci := 12) (q0 := q29) rfl eq29, pz_pre hP hK hD hN⟩ rfl rfl hl.1 rfl (lv_room (Nat.le_of_ble_eq_true rfl)) dX12_partAt_72 ⟨Nat.le_of_ble_eq_true rfl, Nat.le_of_ble_eq_true rfl⟩) (fun r106 hw107 => ?_)
              obtain ⟨hw107r, hw107p⟩ := hw107
              have tk108 : (r106.toInt ≠ 0 → o26_x12.toInt = 1 ∧ o26_x13.toInt = (267316 : Int)) := by have q9 := hw107p; first | (simp only [tf27, tf28, mo_i1, mo_l1] at q9; exact q9) | (rw [tf27, tf28] at q9; exact q9)
              refine lv_if_eq (tgt := 82) hx hb dX12_partAt_75 (by decide) (fun c109 => ?_) (fun c109 => ?_)
              · have ic109 : r106.toInt = 0 := zi_eq rfl rfl c109
                refine lv_iconst (v := 4) hx hb dX12_partAt_82 (by decide) ?_
                exact W.iret (v := 4) hx hb hr (fun t ht hW => ⟨4, rfl, ⟨(by first | decide | omega), (by first | (simp only [tf27, mo_i1, mo_l1]; exact (show ((4 : Int32).toInt ≠ -1 → o26_x12.toInt = 1 ∧ 1 ≤ (4 : Int32).toInt) from by have q8 : (4 : Int32).toInt = 4 := rfl; first | omega | decide)) | (rw [tf27]; exact (show ((4 : Int32).toInt ≠ -1 → o26_x12.toInt = 1 ∧ 1 ≤ (4 : Int32).toInt) from by have q8 : (4 : Int32).toInt = 4 := rfl; first | omega | decide)))⟩, ht⟩) (fun _ h => by cases h) dX12_partAt_83
              · have ic109 : r106.toInt ≠ 0 := zi_eqf rfl rfl c109
                refine lv_iconst (v := 3) hx hb dX12_partAt_78 (by decide) ?_
                refine lv_goto (tgt := 83) hx hb dX12_partAt_79 (by decide) ?_
                exact W.iret (v := 3) hx hb hr (fun t ht hW => ⟨3, rfl, ⟨(by first | decide | omega), (by first | (simp only [tf27, mo_i1, mo_l1]; exact (show ((3 : Int32).toInt ≠ -1 → o26_x12.toInt = 1 ∧ 1 ≤ (3 : Int32).toInt) from by have q8 : (3 : Int32).toInt = 3 := rfl; first | omega | decide)) | (rw [tf27]; exact (show ((3 : Int32).toInt ≠ -1 → o26_x12.toInt = 1 ∧ 1 ≤ (3 : Int32).toInt) from by have q8 : (3 : Int32).toInt = 3 := rfl; first | omega | decide)))⟩, ht⟩) (fun _ h => by cases h) dX12_partAt_83
            · have ic105 : r102.toInt ≠ 0 := zi_eqf rfl rfl c105
              refine lv_iconst (v := 2) hx hb dX12_partAt_64 (by decide) ?_
              refine lv_goto (tgt := 83) hx hb dX12_partAt_65 (by decide) ?_
              exact W.iret (v := 2) hx hb hr (fun t ht hW => ⟨2, rfl, ⟨(by first | decide | omega), (by first | (simp only [tf27, mo_i1, mo_l1]; exact (show ((2 : Int32).toInt ≠ -1 → o26_x12.toInt = 1 ∧ 1 ≤ (2 : Int32).toInt) from by have q8 : (2 : Int32).toInt = 2 := rfl; first | omega | decide)) | (rw [tf27]; exact (show ((2 : Int32).toInt ≠ -1 → o26_x12.toInt = 1 ∧ 1 ≤ (2 : Int32).toInt) from by have q8 : (2 : Int32).toInt = 2 := rfl; first | omega | decide)))⟩, ht⟩) (fun _ h => by cases h) dX12_partAt_83
          · have ic101 : r98.toInt ≠ 0 := zi_eqf rfl rfl c101
            refine lv_iconst (v := 1) hx hb dX12_partAt_50 (by decide) ?_
            refine lv_goto (tgt := 83) hx hb dX12_partAt_51 (by decide) ?_
            exact W.iret (v := 1) hx hb hr (fun t ht hW => ⟨1, rfl, ⟨(by first | decide | omega), (by first | (simp only [tf27, mo_i1, mo_l1]; exact (show ((1 : Int32).toInt ≠ -1 → o26_x12.toInt = 1 ∧ 1 ≤ (1 : Int32).toInt) from by have q8 : (1 : Int32).toInt = 1 := rfl; first | omega | decide)) | (rw [tf27]; exact (show ((1 : Int32).toInt ≠ -1 → o26_x12.toInt = 1 ∧ 1 ≤ (1 : Int32).toInt) from by have q8 : (1 : Int32).toInt = 1 := rfl; first | omega | decide)))⟩, ht⟩) (fun _ h => by cases h) dX12_partAt_83
