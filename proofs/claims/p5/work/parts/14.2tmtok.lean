set_option maxHeartbeats 4000000 in
set_option maxRecDepth 100000 in
theorem t_X12_begin (l : Launch) (dC : Nat → ClassId) (dI : Nat → Nat → Nat) (sz : Nat) (κ : Nat → ClassId) (τ ν : Nat → Nat) (ρ : Nat → Nat → Nat) (L : List Nat) (f : Nat → va_E) (hG : tp_G τ ν ρ L) (hT : tp_T (mo_O κ) κ τ ν ρ f) (h0 : Nat) (ht_h0 : τ h0 = 13) : Met l yX12_begin wqX12_begin ({ frames := 4, cells := 0, slots := 0, locals := 1200 }) (va_Pc [.ref h0] (pz_B dC dI (tp_K κ) (va_pl L f) sz)) (va_Qv (fun (f1 : Nat → va_E) => tp_T (mo_O κ) κ τ ν ρ f1 ∧ tp_F τ [13] f f1 ∧ ((tp_fld (f1 h0) 10) ≤ (tp_fld (f1 h0) 11) ∧ (tp_fld (f1 h0) 11) ≤ (tp_fld (f1 h0) 9) ∧ ((tp_fld (f1 h0) 12) = 0 ∨ (tp_fld (f1 h0) 10) < (tp_fld (f1 h0) 11)) ∧ ((tp_fld (f1 h0) 12) = 1 → (tp_fld (f1 h0) 11) = (tp_fld (f1 h0) 10) + 1 → (mo_fj (f1 h0) 13) ≤ 26)) ∧ (tp_fld (f1 h0) 15) = 0 ∧ 0 ≤ (tp_fld (f1 h0) 10) ∧ (tp_fld (f1 h0) 9) = (tp_fld (f h0) 9)) (fun (f1 : Nat → va_E) (t : State) => pz_E dC dI (tp_K κ) (va_A (va_pl L f) sz) (va_pl L f1) t) (va_A (va_pl L f) sz)) 0 0 (va_A (va_pl L f) sz) := by
  refine Met.ofW (cc := cX12_begin) (maxL := 1) (ret := none) (by decide) rfl ?_
  intro p e s m args below meth c s₁ B hml hv
  obtain ⟨rfl, hsz, hP, hK, hD0, hN⟩ := hv
  have hx := B.exec
  have hb := B.bytes
  have hr := B.returns
  have hts := fun (w : Cond) (h : w ∈ WALL) => atoms_spec (ws := wqX12_begin) B.pre w (List.mem_cons_of_mem _ h)
  have hown : s.vm.findClass RX12 = some m.cls := findClass_of_methodNamed B.named
  have hlocks := B.notSynchronized
  subst hsz
  have hD := hD0.self (sz := s.heap.size)
  generalize hAe : va_A (va_pl L f) s.heap.size = A at hD ⊢
  have hA : ∀ q : Nat, s.heap.size ≤ q → A q := fun q h => by rw [← hAe]; exact Or.inr h
  have hS : va_S A s.heap s.heap [] := va_S.rf
  have hR : tp_F τ [13] f f := tp_F.rf
  have hl := lv_entry ([.ref h0]) (n := 1) (Nat.le_of_ble_eq_true rfl)
  rw [lg_entry_eq]
  generalize (lg_sl ([.ref h0]) ++ List.replicate (1 - (lg_sl ([.ref h0])).length) Slot.unset).toArray = ls at hl ⊢
  have hl : lv_has ls 1 [(0, .ref h0)] := hl
  refine tgk_13 hG ht_h0 (fun y1 y2 y3 y4 y5 y6 y7 y8 y9 y10 y11 y12 y13 y14 y15 y16 y17 y18 y19 y20 y21 y22 y23 y24 y25 => ?_)
  refine tpk_13 hT ht_h0 (fun o26_x0 o26_x1 o26_x7 o26_x9 o26_x10 o26_x11 o26_x12 o26_x13 o26_x14 o26_x15 o26_x16 o26_x17 o26_x18 o26_x19 o26_x20 o26_x22 o26_x25 o26_x28 o26_x29 o26_x32 o26_x33 o26_x34 o26_x35 o26_x36 o26_x37 o26_x38 o26_x47 o26_x48 hf_o26 ro26_0 ro26_1 ro26_2 ro26_3 ro26_4 ro26_5 ro26_6 ro26_7 ro26_8 ro26_9 ro26_10 ro26_11 ro26_12 ro26_13 => ?_)
  have tf27 : mo_hd (tp_fld (f h0) 9 = o26_x9.toInt) := tff_9 hf_o26
  refine lv_aload_n hx hb dX12_begin_0 rfl (lv_at hl 0 rfl) ?_
  refine lv_iconst (v := 0) hx hb dX12_begin_1 (by decide) ?_
  refine tpk_pos (tp_in hG ht_h0 (by decide)) hf_o26 (fun q28 eq28 => ?_)
  refine va_put (D := (dC, dI)) (ci := 12) (v := .int 0) (ty := .int) (C := RX12) (T := TX12) (N := 53) hx hb hts hfX12 tyX12 tyX12_ok nmX12 hown hK hP hD hS q28 eq28 rfl 11 (by decide) (hts (.fieldLink RX12 258 "ColdShipsModel" "to" "I") wa_1000) (fun _ h9 => h9) rfl (tyX12_ok 11 (by decide)) rfl rfl (Nat.le_of_ble_eq_true rfl) dX12_begin_2 (tp_k (.inr (12, [.int o26_x0, .int o26_x1, .ref (ρ h0 2), .ref (ρ h0 3), .ref (ρ h0 4), .ref (ρ h0 5), .ref (ρ h0 6), .int o26_x7, .ref (ρ h0 8), .int o26_x9, .int o26_x10, .int 0, .int o26_x12, .long o26_x13, .int o26_x14, .int o26_x15, .int o26_x16, .int o26_x17, .int o26_x18, .int o26_x19, .int o26_x20, .ref (ρ h0 21), .int o26_x22, .ref (ρ h0 23), .ref (ρ h0 24), .int o26_x25, .ref (ρ h0 26), .ref (ρ h0 27), .int o26_x28, .int o26_x29, .ref (ρ h0 30), .ref (ρ h0 31), .int o26_x32, .long o26_x33, .long o26_x34, .long o26_x35, .int o26_x36, .int o26_x37, .int o26_x38, .ref (ρ h0 39), .ref (ρ h0 40), .ref (ρ h0 41), .ref (ρ h0 42), .ref (ρ h0 43), .ref (ρ h0 44), .ref (ρ h0 45), .ref (ρ h0 46), .int o26_x47, .int o26_x48, .ref (ρ h0 49), .ref (ρ h0 50), .ref (ρ h0 51), .ref (ρ h0 52)])) hD (tp_in hG ht_h0 (by decide)) eq28 (fun f29 H locs hP hD hS g31 k30 => ?_))
  have hT := hT.up ht_h0 g31 k30 ⟨_, _, _, _, _, _, _, _, _, _, _, _, _, _, _, _, _, _, _, _, _, _, _, _, _, _, _, _, rfl, ro26_0, ro26_1, ro26_2, (by decide), ro26_4, ro26_5, ro26_6, ro26_7, ro26_8, ro26_9, ro26_10, ro26_11, ro26_12, ro26_13⟩
  have hR := hR.up ht_h0 (by decide) k30
  refine lv_aload_n hx hb dX12_begin_5 rfl (lv_at hl 0 rfl) ?_
  refine lv_iconst (v := 0) hx hb dX12_begin_6 (by decide) ?_
  refine tpk_pos (tp_in hG ht_h0 (by decide)) g31 (fun q32 eq32 => ?_)
  refine va_put (D := (dC, dI)) (ci := 12) (v := .int 0) (ty := .boolean) (C := RX12) (T := TX12) (N := 53) hx hb hts hfX12 tyX12 tyX12_ok nmX12 hown hK hP hD hS q32 eq32 rfl 15 (by decide) (hts (.fieldLink RX12 261 "ColdShipsModel" "bad" "Z") wa_994) (fun _ h9 => h9) rfl (tyX12_ok 15 (by decide)) rfl rfl (Nat.le_of_ble_eq_true rfl) dX12_begin_7 (tp_k (.inr (12, [.int o26_x0, .int o26_x1, .ref (ρ h0 2), .ref (ρ h0 3), .ref (ρ h0 4), .ref (ρ h0 5), .ref (ρ h0 6), .int o26_x7, .ref (ρ h0 8), .int o26_x9, .int o26_x10, .int 0, .int o26_x12, .long o26_x13, .int o26_x14, .int 0, .int o26_x16, .int o26_x17, .int o26_x18, .int o26_x19, .int o26_x20, .ref (ρ h0 21), .int o26_x22, .ref (ρ h0 23), .ref (ρ h0 24), .int o26_x25, .ref (ρ h0 26), .ref (ρ h0 27), .int o26_x28, .int o26_x29, .ref (ρ h0 30), .ref (ρ h0 31), .int o26_x32, .long o26_x33, .long o26_x34, .long o26_x35, .int o26_x36, .int o26_x37, .int o26_x38, .ref (ρ h0 39), .ref (ρ h0 40), .ref (ρ h0 41), .ref (ρ h0 42), .ref (ρ h0 43), .ref (ρ h0 44), .ref (ρ h0 45), .ref (ρ h0 46), .int o26_x47, .int o26_x48, .ref (ρ h0 49), .ref (ρ h0 50), .ref (ρ h0 51), .ref (ρ h0 52)])) hD (tp_in hG ht_h0 (by decide)) eq32 (fun f33 H locs hP hD hS g35 k34 => ?_))
  have hT := hT.up ht_h0 g35 k34 ⟨_, _, _, _, _, _, _, _, _, _, _, _, _, _, _, _, _, _, _, _, _, _, _, _, _, _, _, _, rfl, ro26_0, ro26_1, ro26_2, (by decide), ro26_4, (by decide), ro26_6, ro26_7, ro26_8, ro26_9, ro26_10, ro26_11, ro26_12, ro26_13⟩
  have hR := hR.up ht_h0 (by decide) k34
  refine lv_aload_n hx hb dX12_begin_10 rfl (lv_at hl 0 rfl) ?_
  refine lv_iconst (v := (-1)) hx hb dX12_begin_11 (by decide) ?_
  refine tpk_pos (tp_in hG ht_h0 (by decide)) g35 (fun q36 eq36 => ?_)
  refine va_put (D := (dC, dI)) (ci := 12) (v := .int (-1)) (ty := .int) (C := RX12) (T := TX12) (N := 53) hx hb hts hfX12 tyX12 tyX12_ok nmX12 hown hK hP hD hS q36 eq36 rfl 14 (by decide) (hts (.fieldLink RX12 30 "ColdShipsModel" "fault" "I") wa_155) (fun _ h9 => h9) rfl (tyX12_ok 14 (by decide)) rfl rfl (Nat.le_of_ble_eq_true rfl) dX12_begin_12 (tp_k (.inr (12, [.int o26_x0, .int o26_x1, .ref (ρ h0 2), .ref (ρ h0 3), .ref (ρ h0 4), .ref (ρ h0 5), .ref (ρ h0 6), .int o26_x7, .ref (ρ h0 8), .int o26_x9, .int o26_x10, .int 0, .int o26_x12, .long o26_x13, .int (-1), .int 0, .int o26_x16, .int o26_x17, .int o26_x18, .int o26_x19, .int o26_x20, .ref (ρ h0 21), .int o26_x22, .ref (ρ h0 23), .ref (ρ h0 24), .int o26_x25, .ref (ρ h0 26), .ref (ρ h0 27), .int o26_x28, .int o26_x29, .ref (ρ h0 30), .ref (ρ h0 31), .int o26_x32, .long o26_x33, .long o26_x34, .long o26_x35, .int o26_x36, .int o26_x37, .int o26_x38, .ref (ρ h0 39), .ref (ρ h0 40), .ref (ρ h0 41), .ref (ρ h0 42), .ref (ρ h0 43), .ref (ρ h0 44), .ref (ρ h0 45), .ref (ρ h0 46), .int o26_x47, .int o26_x48, .ref (ρ h0 49), .ref (ρ h0 50), .ref (ρ h0 51), .ref (ρ h0 52)])) hD (tp_in hG ht_h0 (by decide)) eq36 (fun f37 H locs hP hD hS g39 k38 => ?_))
  have hT := hT.up ht_h0 g39 k38 ⟨_, _, _, _, _, _, _, _, _, _, _, _, _, _, _, _, _, _, _, _, _, _, _, _, _, _, _, _, rfl, ro26_0, ro26_1, ro26_2, (by decide), ro26_4, (by decide), ro26_6, ro26_7, ro26_8, ro26_9, ro26_10, ro26_11, ro26_12, ro26_13⟩
  have hR := hR.up ht_h0 (by decide) k38
  refine lv_aload_n hx hb dX12_begin_15 rfl (lv_at hl 0 rfl) ?_
  have tf40 : mo_hd (tp_fld (f37 h0) 11 = 0) := tff_11 g39
  have tf41 : mo_hd (tp_fld (f37 h0) 9 = o26_x9.toInt) := tff_9 g39
  have tf42 : mo_hd (tp_fld (f37 h0) 15 = 0) := tff_15 g39
  have tf43 : mo_hd (tp_fld (f37 h0) 19 = o26_x19.toInt) := tff_19 g39
  have tf44 : mo_hd (tp_fld (f37 h0) 20 = o26_x20.toInt) := tff_20 g39
  have tf45 : mo_hd (tp_fld (f37 h0) 22 = o26_x22.toInt) := tff_22 g39
  have tf46 : mo_hd (tp_fld (f37 h0) 28 = o26_x28.toInt) := tff_28 g39
  refine tpk_pos (tp_in hG ht_h0 (by decide)) g39 (fun q47 eq47 => ?_)
  have hFc := tp_fr hD hS hA
  refine va_callv (va_runV (As := []) (rest := []) ⟨hx, hb, hml, hown, hts⟩ (t_X12_next l dC dI _ κ τ ν ρ L f37 hG hT h0 ht_h0 (by first | (simp only [(mo_un tf40), (mo_un tf41), mo_i1, mo_l1]; exact (show 0 ≤ o26_x9.toInt from by first | omega | decide)) | (rw [(mo_un tf40), (mo_un tf41)]; exact (show 0 ≤ o26_x9.toInt from by first | omega | decide)))) (cwV 0 hts gX12_begin_X12_next rfl rfl rfl ⟨rfl, pd_X12_next⟩ ⟨Nat.le_of_ble_eq_true rfl, Nat.le_of_ble_eq_true rfl⟩) ⟨pz_blind, va_recv hK hP (ci := 12) (q0 := q47) rfl eq47, pz_pre hP hK hD hN⟩ rfl rfl hl.1 rfl (lv_room (Nat.le_of_ble_eq_true rfl)) dX12_begin_16 ⟨Nat.le_of_ble_eq_true rfl, Nat.le_of_ble_eq_true rfl⟩) hS (fun q _ h => hFc q h) hFc (fun f50 t H1 locs ht hvm hw49 hB hz1 hk1 hS => ?_)
  refine tn_3 hw49 (fun hT hF51 hw49p => ?_); clear hw49
  have hR := hR.then hF51 (by decide)
  have hP := hB.1; rw [ht] at hP; have hD := tp_ad f50 hD; clear hB hFc hz1 hk1; subst ht; generalize t.heap = H at hP hS ⊢
  refine tpk_13 hT ht_h0 (fun o52_x0 o52_x1 o52_x7 o52_x9 o52_x10 o52_x11 o52_x12 o52_x13 o52_x14 o52_x15 o52_x16 o52_x17 o52_x18 o52_x19 o52_x20 o52_x22 o52_x25 o52_x28 o52_x29 o52_x32 o52_x33 o52_x34 o52_x35 o52_x36 o52_x37 o52_x38 o52_x47 o52_x48 hf_o52 ro52_0 ro52_1 ro52_2 ro52_3 ro52_4 ro52_5 ro52_6 ro52_7 ro52_8 ro52_9 ro52_10 ro52_11 ro52_12 ro52_13 => ?_)
  have tf53 : mo_hd (tp_fld (f50 h0) 10 = o52_x10.toInt) := tff_10 hf_o52
  have tf54 : mo_hd (tp_fld (f50 h0) 11 = o52_x11.toInt) := tff_11 hf_o52
  have tf55 : mo_hd (tp_fld (f50 h0) 9 = o52_x9.toInt) := tff_9 hf_o52
  have tf56 : mo_hd (tp_fld (f50 h0) 12 = o52_x12.toInt) := tff_12 hf_o52
  have tf57 : mo_hd (mo_fj (f50 h0) 13 = o52_x13.toInt) := tff_13 hf_o52
  have tf58 : mo_hd (tp_fld (f50 h0) 15 = o52_x15.toInt) := tff_15 hf_o52
  have tf59 : mo_hd (tp_fld (f50 h0) 19 = o52_x19.toInt) := tff_19 hf_o52
  have tf60 : mo_hd (tp_fld (f50 h0) 20 = o52_x20.toInt) := tff_20 hf_o52
  have tf61 : mo_hd (tp_fld (f50 h0) 22 = o52_x22.toInt) := tff_22 hf_o52
  have tf62 : mo_hd (tp_fld (f50 h0) 28 = o52_x28.toInt) := tff_28 hf_o52
  have tk63 : mo_hd ((o52_x10.toInt ≤ o52_x11.toInt ∧ o52_x11.toInt ≤ o52_x9.toInt ∧ (o52_x12.toInt = 0 ∨ o52_x10.toInt < o52_x11.toInt) ∧ (o52_x12.toInt = 1 → o52_x11.toInt = o52_x10.toInt + 1 → o52_x13.toInt ≤ 26)) ∧ 0 ≤ o52_x10.toInt ∧ o52_x9.toInt = o26_x9.toInt ∧ o52_x15.toInt = 0 ∧ o52_x19.toInt = o26_x19.toInt ∧ o52_x20.toInt = o26_x20.toInt ∧ o52_x22.toInt = o26_x22.toInt ∧ o52_x28.toInt = o26_x28.toInt) := by have q9 := hw49p; first | (simp only [(mo_un tf53), (mo_un tf54), (mo_un tf55), (mo_un tf56), (mo_un tf57), (mo_un tf40), (mo_un tf41), (mo_un tf58), (mo_un tf42), (mo_un tf59), (mo_un tf43), (mo_un tf60), (mo_un tf44), (mo_un tf61), (mo_un tf45), (mo_un tf62), (mo_un tf46), mo_i1, mo_l1] at q9; exact q9) | (rw [(mo_un tf53), (mo_un tf54), (mo_un tf55), (mo_un tf56), (mo_un tf57), (mo_un tf40), (mo_un tf41), (mo_un tf58), (mo_un tf42), (mo_un tf59), (mo_un tf43), (mo_un tf60), (mo_un tf44), (mo_un tf61), (mo_un tf45), (mo_un tf62), (mo_un tf46)] at q9; exact q9)
  have e9 := (Int32.toInt_inj.mp tk63.2.2.1).symm; subst e9
  have e9 := (Int32.toInt_inj.mp tk63.2.2.2.2.1).symm; subst e9
  have e9 := (Int32.toInt_inj.mp tk63.2.2.2.2.2.1).symm; subst e9
  have e9 := (Int32.toInt_inj.mp tk63.2.2.2.2.2.2.1).symm; subst e9
  have e9 := (Int32.toInt_inj.mp tk63.2.2.2.2.2.2.2).symm; subst e9
  have tk63l : (o52_x10.toInt ≤ o52_x11.toInt) ∧ (o52_x11.toInt ≤ o26_x9.toInt) ∧ (0 ≤ o52_x10.toInt) ∧ (o52_x15.toInt = 0) := ⟨tk63.1.1, tk63.1.2.1, tk63.2.1, tk63.2.2.2.1⟩
  clear hw49p
  exact W.vret hx hb hr (fun t ht hW => ⟨⟨f50, rfl, ⟨hT, hR, (by first | (simp only [(mo_un tf53), (mo_un tf54), (mo_un tf55), (mo_un tf56), (mo_un tf57), (mo_un tf58), (mo_un tf27), mo_i1, mo_l1]; exact (show (o52_x10.toInt ≤ o52_x11.toInt ∧ o52_x11.toInt ≤ o26_x9.toInt ∧ (o52_x12.toInt = 0 ∨ o52_x10.toInt < o52_x11.toInt) ∧ (o52_x12.toInt = 1 → o52_x11.toInt = o52_x10.toInt + 1 → o52_x13.toInt ≤ 26)) ∧ o52_x15.toInt = 0 ∧ 0 ≤ o52_x10.toInt ∧ o26_x9.toInt = o26_x9.toInt from by exact ⟨⟨(by (first | omega | (have u0 := mo_un tk63; omega))), (by (first | omega | (have u0 := mo_un tk63; omega))), tk63.1.2.2.1, tk63.1.2.2.2⟩, (by (first | omega | (have u0 := mo_un tk63; omega))), (by (first | omega | (have u0 := mo_un tk63; omega))), (by (first | omega | (have u0 := mo_un tk63; omega)))⟩)) | (rw [(mo_un tf53), (mo_un tf54), (mo_un tf55), (mo_un tf56), (mo_un tf57), (mo_un tf58), (mo_un tf27)]; exact (show (o52_x10.toInt ≤ o52_x11.toInt ∧ o52_x11.toInt ≤ o26_x9.toInt ∧ (o52_x12.toInt = 0 ∨ o52_x10.toInt < o52_x11.toInt) ∧ (o52_x12.toInt = 1 → o52_x11.toInt = o52_x10.toInt + 1 → o52_x13.toInt ≤ 26)) ∧ o52_x15.toInt = 0 ∧ 0 ≤ o52_x10.toInt ∧ o26_x9.toInt = o26_x9.toInt from by exact ⟨⟨(by (first | omega | (have u0 := mo_un tk63; omega))), (by (first | omega | (have u0 := mo_un tk63; omega))), tk63.1.2.2.1, tk63.1.2.2.2⟩, (by (first | omega | (have u0 := mo_un tk63; omega))), (by (first | omega | (have u0 := mo_un tk63; omega))), (by (first | omega | (have u0 := mo_un tk63; omega)))⟩)))⟩, by rw [ht]; exact hP, va_K.moved hW.alike hK, hD⟩, hS.F ht⟩) hS.2.2 dX12_begin_19
set_option maxHeartbeats 4000000 in
set_option maxRecDepth 100000 in
theorem t_X12_isWord (l : Launch) (dC : Nat → ClassId) (dI : Nat → Nat → Nat) (sz : Nat) (κ : Nat → ClassId) (τ ν : Nat → Nat) (ρ : Nat → Nat → Nat) (L : List Nat) (f : Nat → va_E) (hG : tp_G τ ν ρ L) (hT : tp_T (mo_O κ) κ τ ν ρ f) (h0 : Nat) (v : Int64) (ht_h0 : τ h0 = 13) : Met l yX12_isWord wqX12_isWord ({ frames := 2, cells := 0, slots := 0, locals := 400 }) (va_Pc [.ref h0, .long v] (pz_B dC dI (tp_K κ) (va_pl L f) sz)) (vp_Si (fun r => (0 ≤ r.toInt ∧ r.toInt ≤ 1) ∧ (r.toInt ≠ 0 → (tp_fld (f h0) 12) = 1 ∧ (mo_fj (f h0) 13) = v.toInt))) 0 0 (fun _ => False) := by
  refine Met.ofW (cc := cX12_isWord) (maxL := 3) (ret := some .boolean) (by decide) rfl ?_
  intro p e s m args below meth c s₁ B hml hv
  obtain ⟨rfl, hsz, hP, hK, hD0, hN⟩ := hv
  have hx := B.exec
  have hb := B.bytes
  have hr := B.returns
  have hts := fun (w : Cond) (h : w ∈ WALL) => atoms_spec (ws := wqX12_isWord) B.pre w (List.mem_cons_of_mem _ h)
  have hown : s.vm.findClass RX12 = some m.cls := findClass_of_methodNamed B.named
  have hlocks := B.notSynchronized
  subst hsz
  have hD := hD0
  have hS : va_S (fun _ => True) s.heap s.heap [] := va_S.rf
  have hl := lv_entry ([.ref h0, .long v]) (n := 3) (Nat.le_of_ble_eq_true rfl)
  rw [lg_entry_eq]
  generalize (lg_sl ([.ref h0, .long v]) ++ List.replicate (3 - (lg_sl ([.ref h0, .long v])).length) Slot.unset).toArray = ls at hl ⊢
  have hl : lv_has ls 3 [(0, .ref h0), (1, .long v)] := hl
  refine tgk_13 hG ht_h0 (fun y1 y2 y3 y4 y5 y6 y7 y8 y9 y10 y11 y12 y13 y14 y15 y16 y17 y18 y19 y20 y21 y22 y23 y24 y25 => ?_)
  refine tpk_13 hT ht_h0 (fun o26_x0 o26_x1 o26_x7 o26_x9 o26_x10 o26_x11 o26_x12 o26_x13 o26_x14 o26_x15 o26_x16 o26_x17 o26_x18 o26_x19 o26_x20 o26_x22 o26_x25 o26_x28 o26_x29 o26_x32 o26_x33 o26_x34 o26_x35 o26_x36 o26_x37 o26_x38 o26_x47 o26_x48 hf_o26 ro26_0 ro26_1 ro26_2 ro26_3 ro26_4 ro26_5 ro26_6 ro26_7 ro26_8 ro26_9 ro26_10 ro26_11 ro26_12 ro26_13 => ?_)
  have tf27 : mo_hd (tp_fld (f h0) 12 = o26_x12.toInt) := tff_12 hf_o26
  have tf28 : mo_hd (mo_fj (f h0) 13 = o26_x13.toInt) := tff_13 hf_o26
  refine lv_aload_n hx hb dX12_isWord_0 rfl (lv_at hl 0 rfl) ?_
  refine tpk_pos (tp_in hG ht_h0 (by decide)) hf_o26 (fun q29 eq29 => ?_)
  refine va_get (D := (dC, dI)) (ci := 12) (v := .int o26_x12) (C := RX12) (T := TX12) (N := 53) hx hb hts hfX12 hown hK hP q29 eq29 rfl 12 (by decide) (hts (.fieldLink RX12 280 "ColdShipsModel" "sort" "I") wa_995) (fun _ h9 => h9) rfl dX12_isWord_1 ?_
  refine lv_iconst (v := 1) hx hb dX12_isWord_4 (by decide) ?_
  refine lv_icmp_ne (tgt := 21) hx hb dX12_isWord_5 (by decide) (fun c30 => ?_) (fun c30 => ?_)
  · have ic30 : o26_x12.toInt ≠ 1 := zi_ne rfl rfl c30
    refine lv_iconst (v := 0) hx hb dX12_isWord_21 (by decide) ?_
    exact W.zret (v := 0) hx hb hr rfl (fun t ht hW => ⟨0, rfl, ⟨(by first | decide | omega), (by first | (simp only [(mo_un tf27), (mo_un tf28), mo_i1, mo_l1]; exact (show ((0 : Int32).toInt ≠ 0 → o26_x12.toInt = 1 ∧ o26_x13.toInt = v.toInt) from by have q8 : (0 : Int32).toInt = 0 := rfl; first | omega | decide)) | (rw [(mo_un tf27), (mo_un tf28)]; exact (show ((0 : Int32).toInt ≠ 0 → o26_x12.toInt = 1 ∧ o26_x13.toInt = v.toInt) from by have q8 : (0 : Int32).toInt = 0 := rfl; first | omega | decide)))⟩, ht⟩) (fun _ h => by cases h) dX12_isWord_22
  · have ic30 : o26_x12.toInt = 1 := zi_nef rfl rfl c30
    refine lv_aload_n hx hb dX12_isWord_8 rfl (lv_at hl 0 rfl) ?_
    refine va_get (D := (dC, dI)) (ci := 12) (v := .long o26_x13) (C := RX12) (T := TX12) (N := 53) hx hb hts hfX12 hown hK hP q29 eq29 rfl 13 (by decide) (hts (.fieldLink RX12 270 "ColdShipsModel" "worth" "J") wa_1006) (fun _ h9 => h9) rfl dX12_isWord_9 ?_
    refine lv_lload_n hx hb dX12_isWord_12 rfl (lv_at hl 1 rfl) ?_
    refine W.lcmp hx hb dX12_isWord_13 ?_
    refine lv_if_ne (tgt := 21) hx hb dX12_isWord_14 (by decide) (fun c31 => ?_) (fun c31 => ?_)
    · have ic31 : o26_x13.toInt ≠ v.toInt := zl_ne rfl rfl c31
      refine lv_iconst (v := 0) hx hb dX12_isWord_21 (by decide) ?_
      exact W.zret (v := 0) hx hb hr rfl (fun t ht hW => ⟨0, rfl, ⟨(by first | decide | omega), (by first | (simp only [(mo_un tf27), (mo_un tf28), mo_i1, mo_l1]; exact (show ((0 : Int32).toInt ≠ 0 → o26_x12.toInt = 1 ∧ o26_x13.toInt = v.toInt) from by have q8 : (0 : Int32).toInt = 0 := rfl; first | omega | decide)) | (rw [(mo_un tf27), (mo_un tf28)]; exact (show ((0 : Int32).toInt ≠ 0 → o26_x12.toInt = 1 ∧ o26_x13.toInt = v.toInt) from by have q8 : (0 : Int32).toInt = 0 := rfl; first | omega | decide)))⟩, ht⟩) (fun _ h => by cases h) dX12_isWord_22
    · have ic31 : o26_x13.toInt = v.toInt := zl_nef rfl rfl c31
      refine lv_iconst (v := 1) hx hb dX12_isWord_17 (by decide) ?_
      refine lv_goto (tgt := 22) hx hb dX12_isWord_18 (by decide) ?_
      exact W.zret (v := 1) hx hb hr rfl (fun t ht hW => ⟨1, rfl, ⟨(by first | decide | omega), (by first | (simp only [(mo_un tf27), (mo_un tf28), mo_i1, mo_l1]; exact (show ((1 : Int32).toInt ≠ 0 → o26_x12.toInt = 1 ∧ o26_x13.toInt = v.toInt) from by have q8 : (1 : Int32).toInt = 1 := rfl; first | omega | decide)) | (rw [(mo_un tf27), (mo_un tf28)]; exact (show ((1 : Int32).toInt ≠ 0 → o26_x12.toInt = 1 ∧ o26_x13.toInt = v.toInt) from by have q8 : (1 : Int32).toInt = 1 := rfl; first | omega | decide)))⟩, ht⟩) (fun _ h => by cases h) dX12_isWord_22
set_option maxHeartbeats 4000000 in
set_option maxRecDepth 100000 in
theorem t_X12_isSign (l : Launch) (dC : Nat → ClassId) (dI : Nat → Nat → Nat) (sz : Nat) (κ : Nat → ClassId) (τ ν : Nat → Nat) (ρ : Nat → Nat → Nat) (L : List Nat) (f : Nat → va_E) (hG : tp_G τ ν ρ L) (hT : tp_T (mo_O κ) κ τ ν ρ f) (h0 : Nat) (v : Int32) (ht_h0 : τ h0 = 13) : Met l yX12_isSign wqX12_isSign ({ frames := 2, cells := 0, slots := 0, locals := 400 }) (va_Pc [.ref h0, .int v] (pz_B dC dI (tp_K κ) (va_pl L f) sz)) (vp_Si (fun r => (0 ≤ r.toInt ∧ r.toInt ≤ 1) ∧ (r.toInt ≠ 0 → (tp_fld (f h0) 12) = 3 ∧ (mo_fj (f h0) 13) = v.toInt))) 0 0 (fun _ => False) := by
  refine Met.ofW (cc := cX12_isSign) (maxL := 2) (ret := some .boolean) (by decide) rfl ?_
  intro p e s m args below meth c s₁ B hml hv
  obtain ⟨rfl, hsz, hP, hK, hD0, hN⟩ := hv
  have hx := B.exec
  have hb := B.bytes
  have hr := B.returns
  have hts := fun (w : Cond) (h : w ∈ WALL) => atoms_spec (ws := wqX12_isSign) B.pre w (List.mem_cons_of_mem _ h)
  have hown : s.vm.findClass RX12 = some m.cls := findClass_of_methodNamed B.named
  have hlocks := B.notSynchronized
  subst hsz
  have hD := hD0
  have hS : va_S (fun _ => True) s.heap s.heap [] := va_S.rf
  have hl := lv_entry ([.ref h0, .int v]) (n := 2) (Nat.le_of_ble_eq_true rfl)
  rw [lg_entry_eq]
  generalize (lg_sl ([.ref h0, .int v]) ++ List.replicate (2 - (lg_sl ([.ref h0, .int v])).length) Slot.unset).toArray = ls at hl ⊢
  have hl : lv_has ls 2 [(0, .ref h0), (1, .int v)] := hl
  refine tgk_13 hG ht_h0 (fun y1 y2 y3 y4 y5 y6 y7 y8 y9 y10 y11 y12 y13 y14 y15 y16 y17 y18 y19 y20 y21 y22 y23 y24 y25 => ?_)
  refine tpk_13 hT ht_h0 (fun o26_x0 o26_x1 o26_x7 o26_x9 o26_x10 o26_x11 o26_x12 o26_x13 o26_x14 o26_x15 o26_x16 o26_x17 o26_x18 o26_x19 o26_x20 o26_x22 o26_x25 o26_x28 o26_x29 o26_x32 o26_x33 o26_x34 o26_x35 o26_x36 o26_x37 o26_x38 o26_x47 o26_x48 hf_o26 ro26_0 ro26_1 ro26_2 ro26_3 ro26_4 ro26_5 ro26_6 ro26_7 ro26_8 ro26_9 ro26_10 ro26_11 ro26_12 ro26_13 => ?_)
  have tf27 : mo_hd (tp_fld (f h0) 12 = o26_x12.toInt) := tff_12 hf_o26
  have tf28 : mo_hd (mo_fj (f h0) 13 = o26_x13.toInt) := tff_13 hf_o26
  refine lv_aload_n hx hb dX12_isSign_0 rfl (lv_at hl 0 rfl) ?_
  refine tpk_pos (tp_in hG ht_h0 (by decide)) hf_o26 (fun q29 eq29 => ?_)
  refine va_get (D := (dC, dI)) (ci := 12) (v := .int o26_x12) (C := RX12) (T := TX12) (N := 53) hx hb hts hfX12 hown hK hP q29 eq29 rfl 12 (by decide) (hts (.fieldLink RX12 280 "ColdShipsModel" "sort" "I") wa_995) (fun _ h9 => h9) rfl dX12_isSign_1 ?_
  refine lv_iconst (v := 3) hx hb dX12_isSign_4 (by decide) ?_
  refine lv_icmp_ne (tgt := 22) hx hb dX12_isSign_5 (by decide) (fun c30 => ?_) (fun c30 => ?_)
  · have ic30 : o26_x12.toInt ≠ 3 := zi_ne rfl rfl c30
    replace ic30 : o26_x12.toInt ≤ 2 := by omega
    refine lv_iconst (v := 0) hx hb dX12_isSign_22 (by decide) ?_
    exact W.zret (v := 0) hx hb hr rfl (fun t ht hW => ⟨0, rfl, ⟨(by first | decide | omega), (by first | (simp only [(mo_un tf27), (mo_un tf28), mo_i1, mo_l1]; exact (show ((0 : Int32).toInt ≠ 0 → o26_x12.toInt = 3 ∧ o26_x13.toInt = v.toInt) from by have q8 : (0 : Int32).toInt = 0 := rfl; first | omega | decide)) | (rw [(mo_un tf27), (mo_un tf28)]; exact (show ((0 : Int32).toInt ≠ 0 → o26_x12.toInt = 3 ∧ o26_x13.toInt = v.toInt) from by have q8 : (0 : Int32).toInt = 0 := rfl; first | omega | decide)))⟩, ht⟩) (fun _ h => by cases h) dX12_isSign_23
  · have ic30 : o26_x12.toInt = 3 := zi_nef rfl rfl c30
    refine lv_aload_n hx hb dX12_isSign_8 rfl (lv_at hl 0 rfl) ?_
    refine va_get (D := (dC, dI)) (ci := 12) (v := .long o26_x13) (C := RX12) (T := TX12) (N := 53) hx hb hts hfX12 hown hK hP q29 eq29 rfl 13 (by decide) (hts (.fieldLink RX12 270 "ColdShipsModel" "worth" "J") wa_1006) (fun _ h9 => h9) rfl dX12_isSign_9 ?_
    refine lv_iload_n hx hb dX12_isSign_12 rfl (lv_at hl 1 rfl) ?_
    refine lv_i2l hx hb dX12_isSign_13 rfl ?_
    refine W.lcmp hx hb dX12_isSign_14 ?_
    refine lv_if_ne (tgt := 22) hx hb dX12_isSign_15 (by decide) (fun c31 => ?_) (fun c31 => ?_)
    · have ic31 : o26_x13.toInt ≠ v.toInt := zl_ne rfl (Int32.toInt_toInt64 v) c31
      refine lv_iconst (v := 0) hx hb dX12_isSign_22 (by decide) ?_
      exact W.zret (v := 0) hx hb hr rfl (fun t ht hW => ⟨0, rfl, ⟨(by first | decide | omega), (by first | (simp only [(mo_un tf27), (mo_un tf28), mo_i1, mo_l1]; exact (show ((0 : Int32).toInt ≠ 0 → o26_x12.toInt = 3 ∧ o26_x13.toInt = v.toInt) from by have q8 : (0 : Int32).toInt = 0 := rfl; first | omega | decide)) | (rw [(mo_un tf27), (mo_un tf28)]; exact (show ((0 : Int32).toInt ≠ 0 → o26_x12.toInt = 3 ∧ o26_x13.toInt = v.toInt) from by have q8 : (0 : Int32).toInt = 0 := rfl; first | omega | decide)))⟩, ht⟩) (fun _ h => by cases h) dX12_isSign_23
    · have ic31 : o26_x13.toInt = v.toInt := zl_nef rfl (Int32.toInt_toInt64 v) c31
      refine lv_iconst (v := 1) hx hb dX12_isSign_18 (by decide) ?_
      refine lv_goto (tgt := 23) hx hb dX12_isSign_19 (by decide) ?_
      exact W.zret (v := 1) hx hb hr rfl (fun t ht hW => ⟨1, rfl, ⟨(by first | decide | omega), (by first | (simp only [(mo_un tf27), (mo_un tf28), mo_i1, mo_l1]; exact (show ((1 : Int32).toInt ≠ 0 → o26_x12.toInt = 3 ∧ o26_x13.toInt = v.toInt) from by have q8 : (1 : Int32).toInt = 1 := rfl; first | omega | decide)) | (rw [(mo_un tf27), (mo_un tf28)]; exact (show ((1 : Int32).toInt ≠ 0 → o26_x12.toInt = 3 ∧ o26_x13.toInt = v.toInt) from by have q8 : (1 : Int32).toInt = 1 := rfl; first | omega | decide)))⟩, ht⟩) (fun _ h => by cases h) dX12_isSign_23
set_option maxHeartbeats 4000000 in
set_option maxRecDepth 100000 in
theorem t_X12_must (l : Launch) (dC : Nat → ClassId) (dI : Nat → Nat → Nat) (sz : Nat) (κ : Nat → ClassId) (τ ν : Nat → Nat) (ρ : Nat → Nat → Nat) (L : List Nat) (f : Nat → va_E) (hG : tp_G τ ν ρ L) (hT : tp_T (mo_O κ) κ τ ν ρ f) (h0 : Nat) (v : Int32) (ht_h0 : τ h0 = 13) (hr_v : 0 ≤ v.toInt ∧ v.toInt ≤ 1) (h1 : ((tp_fld (f h0) 10) ≤ (tp_fld (f h0) 11) ∧ (tp_fld (f h0) 11) ≤ (tp_fld (f h0) 9) ∧ ((tp_fld (f h0) 12) = 0 ∨ (tp_fld (f h0) 10) < (tp_fld (f h0) 11)) ∧ ((tp_fld (f h0) 12) = 1 → (tp_fld (f h0) 11) = (tp_fld (f h0) 10) + 1 → (mo_fj (f h0) 13) ≤ 26))) : Met l yX12_must wqX12_must ({ frames := 4, cells := 0, slots := 0, locals := 1200 }) (va_Pc [.ref h0, .int v] (pz_B dC dI (tp_K κ) (va_pl L f) sz)) (va_Qv (fun (f1 : Nat → va_E) => tp_T (mo_O κ) κ τ ν ρ f1 ∧ tp_F τ [13] f f1 ∧ ((tp_fld (f1 h0) 10) ≤ (tp_fld (f1 h0) 11) ∧ (tp_fld (f1 h0) 11) ≤ (tp_fld (f1 h0) 9) ∧ ((tp_fld (f1 h0) 12) = 0 ∨ (tp_fld (f1 h0) 10) < (tp_fld (f1 h0) 11)) ∧ ((tp_fld (f1 h0) 12) = 1 → (tp_fld (f1 h0) 11) = (tp_fld (f1 h0) 10) + 1 → (mo_fj (f1 h0) 13) ≤ 26)) ∧ ((tp_fld (f1 h0) 15) = 0 → (tp_fld (f h0) 15) = 0 ∧ (tp_fld (f h0) 11) ≤ (tp_fld (f1 h0) 10) ∧ v.toInt ≠ 0) ∧ ((tp_fld (f1 h0) 15) ≠ 0 → (tp_fld (f1 h0) 10) = (tp_fld (f h0) 10)) ∧ (tp_fld (f h0) 10) ≤ (tp_fld (f1 h0) 10) ∧ (tp_fld (f h0) 15) ≤ (tp_fld (f1 h0) 15) ∧ (tp_fld (f1 h0) 9) = (tp_fld (f h0) 9) ∧ (tp_fld (f1 h0) 19) = (tp_fld (f h0) 19) ∧ (tp_fld (f1 h0) 20) = (tp_fld (f h0) 20) ∧ (tp_fld (f1 h0) 22) = (tp_fld (f h0) 22) ∧ (tp_fld (f1 h0) 28) = (tp_fld (f h0) 28)) (fun (f1 : Nat → va_E) (t : State) => pz_E dC dI (tp_K κ) (va_A (va_pl L f) sz) (va_pl L f1) t) (va_A (va_pl L f) sz)) 0 0 (va_A (va_pl L f) sz) := by
  refine Met.ofW (cc := cX12_must) (maxL := 2) (ret := none) (by decide) rfl ?_
  intro p e s m args below meth c s₁ B hml hv
  obtain ⟨rfl, hsz, hP, hK, hD0, hN⟩ := hv
  have hx := B.exec
  have hb := B.bytes
  have hr := B.returns
  have hts := fun (w : Cond) (h : w ∈ WALL) => atoms_spec (ws := wqX12_must) B.pre w (List.mem_cons_of_mem _ h)
  have hown : s.vm.findClass RX12 = some m.cls := findClass_of_methodNamed B.named
  have hlocks := B.notSynchronized
  subst hsz
  have hD := hD0.self (sz := s.heap.size)
  generalize hAe : va_A (va_pl L f) s.heap.size = A at hD ⊢
  have hA : ∀ q : Nat, s.heap.size ≤ q → A q := fun q h => by rw [← hAe]; exact Or.inr h
  have hS : va_S A s.heap s.heap [] := va_S.rf
  have hR : tp_F τ [13] f f := tp_F.rf
  have hl := lv_entry ([.ref h0, .int v]) (n := 2) (Nat.le_of_ble_eq_true rfl)
  rw [lg_entry_eq]
  generalize (lg_sl ([.ref h0, .int v]) ++ List.replicate (2 - (lg_sl ([.ref h0, .int v])).length) Slot.unset).toArray = ls at hl ⊢
  have hl : lv_has ls 2 [(0, .ref h0), (1, .int v)] := hl
  refine tgk_13 hG ht_h0 (fun y1 y2 y3 y4 y5 y6 y7 y8 y9 y10 y11 y12 y13 y14 y15 y16 y17 y18 y19 y20 y21 y22 y23 y24 y25 => ?_)
  refine tpk_13 hT ht_h0 (fun o26_x0 o26_x1 o26_x7 o26_x9 o26_x10 o26_x11 o26_x12 o26_x13 o26_x14 o26_x15 o26_x16 o26_x17 o26_x18 o26_x19 o26_x20 o26_x22 o26_x25 o26_x28 o26_x29 o26_x32 o26_x33 o26_x34 o26_x35 o26_x36 o26_x37 o26_x38 o26_x47 o26_x48 hf_o26 ro26_0 ro26_1 ro26_2 ro26_3 ro26_4 ro26_5 ro26_6 ro26_7 ro26_8 ro26_9 ro26_10 ro26_11 ro26_12 ro26_13 => ?_)
  have tf27 : mo_hd (tp_fld (f h0) 9 = o26_x9.toInt) := tff_9 hf_o26
  have tf28 : mo_hd (tp_fld (f h0) 10 = o26_x10.toInt) := tff_10 hf_o26
  have tf29 : mo_hd (tp_fld (f h0) 11 = o26_x11.toInt) := tff_11 hf_o26
  have tf30 : mo_hd (tp_fld (f h0) 12 = o26_x12.toInt) := tff_12 hf_o26
  have tf31 : mo_hd (tp_fld (f h0) 15 = o26_x15.toInt) := tff_15 hf_o26
  have tf32 : mo_hd (tp_fld (f h0) 19 = o26_x19.toInt) := tff_19 hf_o26
  have tf33 : mo_hd (tp_fld (f h0) 20 = o26_x20.toInt) := tff_20 hf_o26
  have tf34 : mo_hd (tp_fld (f h0) 22 = o26_x22.toInt) := tff_22 hf_o26
  have tf35 : mo_hd (tp_fld (f h0) 28 = o26_x28.toInt) := tff_28 hf_o26
  have tf36 : mo_hd (mo_fj (f h0) 13 = o26_x13.toInt) := tff_13 hf_o26
  replace h1 : mo_hd ((o26_x10.toInt ≤ o26_x11.toInt ∧ o26_x11.toInt ≤ o26_x9.toInt ∧ (o26_x12.toInt = 0 ∨ o26_x10.toInt < o26_x11.toInt) ∧ (o26_x12.toInt = 1 → o26_x11.toInt = o26_x10.toInt + 1 → o26_x13.toInt ≤ 26))) := by have q9 := h1; first | (simp only [(mo_un tf28), (mo_un tf29), (mo_un tf27), (mo_un tf30), (mo_un tf36), mo_i1, mo_l1] at q9; exact q9) | (rw [(mo_un tf28), (mo_un tf29), (mo_un tf27), (mo_un tf30), (mo_un tf36)] at q9; exact q9)
  have h1l : (o26_x10.toInt ≤ o26_x11.toInt) ∧ (o26_x11.toInt ≤ o26_x9.toInt) := ⟨h1.1, h1.2.1⟩
  refine lv_aload_n hx hb dX12_must_0 rfl (lv_at hl 0 rfl) ?_
  refine tpk_pos (tp_in hG ht_h0 (by decide)) hf_o26 (fun q37 eq37 => ?_)
  refine va_get (D := (dC, dI)) (ci := 12) (v := .int o26_x15) (C := RX12) (T := TX12) (N := 53) hx hb hts hfX12 hown hK hP q37 eq37 rfl 15 (by decide) (hts (.fieldLink RX12 261 "ColdShipsModel" "bad" "Z") wa_994) (fun _ h9 => h9) rfl dX12_must_1 ?_
  refine lv_if_ne (tgt := 24) hx hb dX12_must_4 (by decide) (fun c38 => ?_) (fun c38 => ?_)
  · have ic38 : o26_x15.toInt ≠ 0 := zi_ne rfl rfl c38
    replace ic38 : 1 ≤ o26_x15.toInt := by (first | omega | (have u0 := mo_un h1; omega))
    refine lv_aload_n hx hb dX12_must_24 rfl (lv_at hl 0 rfl) ?_
    refine va_get (D := (dC, dI)) (ci := 12) (v := .int o26_x15) (C := RX12) (T := TX12) (N := 53) hx hb hts hfX12 hown hK hP q37 eq37 rfl 15 (by decide) (hts (.fieldLink RX12 261 "ColdShipsModel" "bad" "Z") wa_994) (fun _ h9 => h9) rfl dX12_must_25 ?_
    refine lv_if_ne (tgt := 35) hx hb dX12_must_28 (by decide) (fun c39 => ?_) (fun c39 => ?_)
    · have ic39 : o26_x15.toInt ≠ 0 := zi_ne rfl rfl c39
      exact W.vret hx hb hr (fun t ht hW => ⟨⟨f, rfl, ⟨hT, hR, (by first | (simp only [(mo_un tf28), (mo_un tf29), (mo_un tf27), (mo_un tf30), (mo_un tf36), (mo_un tf31), (mo_un tf32), (mo_un tf33), (mo_un tf34), (mo_un tf35), mo_i1, mo_l1]; exact (show (o26_x10.toInt ≤ o26_x11.toInt ∧ o26_x11.toInt ≤ o26_x9.toInt ∧ (o26_x12.toInt = 0 ∨ o26_x10.toInt < o26_x11.toInt) ∧ (o26_x12.toInt = 1 → o26_x11.toInt = o26_x10.toInt + 1 → o26_x13.toInt ≤ 26)) ∧ (o26_x15.toInt = 0 → o26_x15.toInt = 0 ∧ o26_x11.toInt ≤ o26_x10.toInt ∧ v.toInt ≠ 0) ∧ (o26_x15.toInt ≠ 0 → o26_x10.toInt = o26_x10.toInt) ∧ o26_x10.toInt ≤ o26_x10.toInt ∧ o26_x15.toInt ≤ o26_x15.toInt ∧ o26_x9.toInt = o26_x9.toInt ∧ o26_x19.toInt = o26_x19.toInt ∧ o26_x20.toInt = o26_x20.toInt ∧ o26_x22.toInt = o26_x22.toInt ∧ o26_x28.toInt = o26_x28.toInt from by exact ⟨⟨(by (first | omega | (have u0 := mo_un h1; omega))), (by (first | omega | (have u0 := mo_un h1; omega))), h1.2.2.1, h1.2.2.2⟩, (by (first | omega | (have u0 := mo_un h1; omega))), (by (first | omega | (have u0 := mo_un h1; omega))), (by (first | omega | (have u0 := mo_un h1; omega))), (by (first | omega | (have u0 := mo_un h1; omega))), (by (first | omega | (have u0 := mo_un h1; omega))), (by (first | omega | (have u0 := mo_un h1; omega))), (by (first | omega | (have u0 := mo_un h1; omega))), (by (first | omega | (have u0 := mo_un h1; omega))), (by (first | omega | (have u0 := mo_un h1; omega)))⟩)) | (rw [(mo_un tf28), (mo_un tf29), (mo_un tf27), (mo_un tf30), (mo_un tf36), (mo_un tf31), (mo_un tf32), (mo_un tf33), (mo_un tf34), (mo_un tf35)]; exact (show (o26_x10.toInt ≤ o26_x11.toInt ∧ o26_x11.toInt ≤ o26_x9.toInt ∧ (o26_x12.toInt = 0 ∨ o26_x10.toInt < o26_x11.toInt) ∧ (o26_x12.toInt = 1 → o26_x11.toInt = o26_x10.toInt + 1 → o26_x13.toInt ≤ 26)) ∧ (o26_x15.toInt = 0 → o26_x15.toInt = 0 ∧ o26_x11.toInt ≤ o26_x10.toInt ∧ v.toInt ≠ 0) ∧ (o26_x15.toInt ≠ 0 → o26_x10.toInt = o26_x10.toInt) ∧ o26_x10.toInt ≤ o26_x10.toInt ∧ o26_x15.toInt ≤ o26_x15.toInt ∧ o26_x9.toInt = o26_x9.toInt ∧ o26_x19.toInt = o26_x19.toInt ∧ o26_x20.toInt = o26_x20.toInt ∧ o26_x22.toInt = o26_x22.toInt ∧ o26_x28.toInt = o26_x28.toInt from by exact ⟨⟨(by (first | omega | (have u0 := mo_un h1; omega))), (by (first | omega | (have u0 := mo_un h1; omega))), h1.2.2.1, h1.2.2.2⟩, (by (first | omega | (have u0 := mo_un h1; omega))), (by (first | omega | (have u0 := mo_un h1; omega))), (by (first | omega | (have u0 := mo_un h1; omega))), (by (first | omega | (have u0 := mo_un h1; omega))), (by (first | omega | (have u0 := mo_un h1; omega))), (by (first | omega | (have u0 := mo_un h1; omega))), (by (first | omega | (have u0 := mo_un h1; omega))), (by (first | omega | (have u0 := mo_un h1; omega))), (by (first | omega | (have u0 := mo_un h1; omega)))⟩)))⟩, by rw [ht]; exact hP, va_K.moved hW.alike hK, hD⟩, hS.F ht⟩) hS.2.2 dX12_must_35
    · have ic39 : o26_x15.toInt = 0 := zi_nef rfl rfl c39
      exfalso; (first | omega | (have u0 := mo_un h1; omega))
  · have ic38 : o26_x15.toInt = 0 := zi_nef rfl rfl c38
    refine lv_iload_n hx hb dX12_must_7 rfl (lv_at hl 1 rfl) ?_
    refine lv_if_ne (tgt := 24) hx hb dX12_must_8 (by decide) (fun c40 => ?_) (fun c40 => ?_)
    · have ic40 : v.toInt ≠ 0 := zi_ne rfl rfl c40
      replace ic40 : 1 ≤ v.toInt := by (first | omega | (have u0 := mo_un h1; omega))
      refine lv_aload_n hx hb dX12_must_24 rfl (lv_at hl 0 rfl) ?_
      refine va_get (D := (dC, dI)) (ci := 12) (v := .int o26_x15) (C := RX12) (T := TX12) (N := 53) hx hb hts hfX12 hown hK hP q37 eq37 rfl 15 (by decide) (hts (.fieldLink RX12 261 "ColdShipsModel" "bad" "Z") wa_994) (fun _ h9 => h9) rfl dX12_must_25 ?_
      refine lv_if_ne (tgt := 35) hx hb dX12_must_28 (by decide) (fun c41 => ?_) (fun c41 => ?_)
      · have ic41 : o26_x15.toInt ≠ 0 := zi_ne rfl rfl c41
        exfalso; (first | omega | (have u0 := mo_un h1; omega))
      · have ic41 : o26_x15.toInt = 0 := zi_nef rfl rfl c41
        refine lv_aload_n hx hb dX12_must_31 rfl (lv_at hl 0 rfl) ?_
        have hFc := tp_fr hD hS hA
        refine va_callv (va_runV (As := []) (rest := []) ⟨hx, hb, hml, hown, hts⟩ (t_X12_next l dC dI _ κ τ ν ρ L f hG hT h0 ht_h0 (by first | (simp only [(mo_un tf29), (mo_un tf27), mo_i1, mo_l1]; exact (show o26_x11.toInt ≤ o26_x9.toInt from by first | (first | omega | (have u0 := mo_un h1; omega)) | decide)) | (rw [(mo_un tf29), (mo_un tf27)]; exact (show o26_x11.toInt ≤ o26_x9.toInt from by first | (first | omega | (have u0 := mo_un h1; omega)) | decide)))) (cwV 0 hts gX12_must_X12_next rfl rfl rfl ⟨rfl, pd_X12_next⟩ ⟨Nat.le_of_ble_eq_true rfl, Nat.le_of_ble_eq_true rfl⟩) ⟨pz_blind, va_recv hK hP (ci := 12) (q0 := q37) rfl eq37, pz_pre hP hK hD hN⟩ rfl rfl hl.1 rfl (lv_room (Nat.le_of_ble_eq_true rfl)) dX12_must_32 ⟨Nat.le_of_ble_eq_true rfl, Nat.le_of_ble_eq_true rfl⟩) hS (fun q _ h => hFc q h) hFc (fun f44 t H1 locs ht hvm hw43 hB hz1 hk1 hS => ?_)
        refine tn_3 hw43 (fun hT hF45 hw43p => ?_); clear hw43
        have hR := hR.then hF45 (by decide)
        have hP := hB.1; rw [ht] at hP; have hD := tp_ad f44 hD; clear hB hFc hz1 hk1; subst ht; generalize t.heap = H at hP hS ⊢
        refine tpk_13 hT ht_h0 (fun o46_x0 o46_x1 o46_x7 o46_x9 o46_x10 o46_x11 o46_x12 o46_x13 o46_x14 o46_x15 o46_x16 o46_x17 o46_x18 o46_x19 o46_x20 o46_x22 o46_x25 o46_x28 o46_x29 o46_x32 o46_x33 o46_x34 o46_x35 o46_x36 o46_x37 o46_x38 o46_x47 o46_x48 hf_o46 ro46_0 ro46_1 ro46_2 ro46_3 ro46_4 ro46_5 ro46_6 ro46_7 ro46_8 ro46_9 ro46_10 ro46_11 ro46_12 ro46_13 => ?_)
        have tf47 : mo_hd (tp_fld (f44 h0) 10 = o46_x10.toInt) := tff_10 hf_o46
        have tf48 : mo_hd (tp_fld (f44 h0) 11 = o46_x11.toInt) := tff_11 hf_o46
        have tf49 : mo_hd (tp_fld (f44 h0) 9 = o46_x9.toInt) := tff_9 hf_o46
        have tf50 : mo_hd (tp_fld (f44 h0) 12 = o46_x12.toInt) := tff_12 hf_o46
        have tf51 : mo_hd (mo_fj (f44 h0) 13 = o46_x13.toInt) := tff_13 hf_o46
        have tf52 : mo_hd (tp_fld (f44 h0) 15 = o46_x15.toInt) := tff_15 hf_o46
        have tf53 : mo_hd (tp_fld (f44 h0) 19 = o46_x19.toInt) := tff_19 hf_o46
        have tf54 : mo_hd (tp_fld (f44 h0) 20 = o46_x20.toInt) := tff_20 hf_o46
        have tf55 : mo_hd (tp_fld (f44 h0) 22 = o46_x22.toInt) := tff_22 hf_o46
        have tf56 : mo_hd (tp_fld (f44 h0) 28 = o46_x28.toInt) := tff_28 hf_o46
        have tk57 : mo_hd ((o46_x10.toInt ≤ o46_x11.toInt ∧ o46_x11.toInt ≤ o46_x9.toInt ∧ (o46_x12.toInt = 0 ∨ o46_x10.toInt < o46_x11.toInt) ∧ (o46_x12.toInt = 1 → o46_x11.toInt = o46_x10.toInt + 1 → o46_x13.toInt ≤ 26)) ∧ o26_x11.toInt ≤ o46_x10.toInt ∧ o46_x9.toInt = o26_x9.toInt ∧ o46_x15.toInt = o26_x15.toInt ∧ o46_x19.toInt = o26_x19.toInt ∧ o46_x20.toInt = o26_x20.toInt ∧ o46_x22.toInt = o26_x22.toInt ∧ o46_x28.toInt = o26_x28.toInt) := by have q9 := hw43p; first | (simp only [(mo_un tf47), (mo_un tf48), (mo_un tf49), (mo_un tf50), (mo_un tf51), (mo_un tf29), (mo_un tf27), (mo_un tf52), (mo_un tf31), (mo_un tf53), (mo_un tf32), (mo_un tf54), (mo_un tf33), (mo_un tf55), (mo_un tf34), (mo_un tf56), (mo_un tf35), mo_i1, mo_l1] at q9; exact q9) | (rw [(mo_un tf47), (mo_un tf48), (mo_un tf49), (mo_un tf50), (mo_un tf51), (mo_un tf29), (mo_un tf27), (mo_un tf52), (mo_un tf31), (mo_un tf53), (mo_un tf32), (mo_un tf54), (mo_un tf33), (mo_un tf55), (mo_un tf34), (mo_un tf56), (mo_un tf35)] at q9; exact q9)
        have e9 := (Int32.toInt_inj.mp tk57.2.2.1).symm; subst e9
        have e9 := (Int32.toInt_inj.mp tk57.2.2.2.1).symm; subst e9
        have e9 := (Int32.toInt_inj.mp tk57.2.2.2.2.1).symm; subst e9
        have e9 := (Int32.toInt_inj.mp tk57.2.2.2.2.2.1).symm; subst e9
        have e9 := (Int32.toInt_inj.mp tk57.2.2.2.2.2.2.1).symm; subst e9
        have e9 := (Int32.toInt_inj.mp tk57.2.2.2.2.2.2.2).symm; subst e9
        have tk57l : (o46_x10.toInt ≤ o46_x11.toInt) ∧ (o46_x11.toInt ≤ o26_x9.toInt) ∧ (o26_x11.toInt ≤ o46_x10.toInt) := ⟨tk57.1.1, tk57.1.2.1, tk57.2.1⟩
        clear hw43p
        exact W.vret hx hb hr (fun t ht hW => ⟨⟨f44, rfl, ⟨hT, hR, (by first | (simp only [(mo_un tf47), (mo_un tf48), (mo_un tf49), (mo_un tf50), (mo_un tf51), (mo_un tf52), (mo_un tf31), (mo_un tf29), (mo_un tf28), (mo_un tf27), (mo_un tf53), (mo_un tf32), (mo_un tf54), (mo_un tf33), (mo_un tf55), (mo_un tf34), (mo_un tf56), (mo_un tf35), mo_i1, mo_l1]; exact (show (o46_x10.toInt ≤ o46_x11.toInt ∧ o46_x11.toInt ≤ o26_x9.toInt ∧ (o46_x12.toInt = 0 ∨ o46_x10.toInt < o46_x11.toInt) ∧ (o46_x12.toInt = 1 → o46_x11.toInt = o46_x10.toInt + 1 → o46_x13.toInt ≤ 26)) ∧ (o26_x15.toInt = 0 → o26_x15.toInt = 0 ∧ o26_x11.toInt ≤ o46_x10.toInt ∧ v.toInt ≠ 0) ∧ (o26_x15.toInt ≠ 0 → o46_x10.toInt = o26_x10.toInt) ∧ o26_x10.toInt ≤ o46_x10.toInt ∧ o26_x15.toInt ≤ o26_x15.toInt ∧ o26_x9.toInt = o26_x9.toInt ∧ o26_x19.toInt = o26_x19.toInt ∧ o26_x20.toInt = o26_x20.toInt ∧ o26_x22.toInt = o26_x22.toInt ∧ o26_x28.toInt = o26_x28.toInt from by exact ⟨⟨(by (first | omega | (have u1 := mo_un tk57; first | omega | (have u0 := mo_un h1; omega)))), (by (first | omega | (have u1 := mo_un tk57; first | omega | (have u0 := mo_un h1; omega)))), tk57.1.2.2.1, tk57.1.2.2.2⟩, (by (first | omega | (have u1 := mo_un tk57; first | omega | (have u0 := mo_un h1; omega)))), (by (first | omega | (have u1 := mo_un tk57; first | omega | (have u0 := mo_un h1; omega)))), (by (first | omega | (have u1 := mo_un tk57; first | omega | (have u0 := mo_un h1; omega)))), (by (first | omega | (have u1 := mo_un tk57; first | omega | (have u0 := mo_un h1; omega)))), (by (first | omega | (have u1 := mo_un tk57; first | omega | (have u0 := mo_un h1; omega)))), (by (first | omega | (have u1 := mo_un tk57; first | omega | (have u0 := mo_un h1; omega)))), (by (first | omega | (have u1 := mo_un tk57; first | omega | (have u0 := mo_un h1; omega)))), (by (first | omega | (have u1 := mo_un tk57; first | omega | (have u0 := mo_un h1; omega)))), (by (first | omega | (have u1 := mo_un tk57; first | omega | (have u0 := mo_un h1; omega))))⟩)) | (rw [(mo_un tf47), (mo_un tf48), (mo_un tf49), (mo_un tf50), (mo_un tf51), (mo_un tf52), (mo_un tf31), (mo_un tf29), (mo_un tf28), (mo_un tf27), (mo_un tf53), (mo_un tf32), (mo_un tf54), (mo_un tf33), (mo_un tf55), (mo_un tf34), (mo_un tf56), (mo_un tf35)]; exact (show (o46_x10.toInt ≤ o46_x11.toInt ∧ o46_x11.toInt ≤ o26_x9.toInt ∧ (o46_x12.toInt = 0 ∨ o46_x10.toInt < o46_x11.toInt) ∧ (o46_x12.toInt = 1 → o46_x11.toInt = o46_x10.toInt + 1 → o46_x13.toInt ≤ 26)) ∧ (o26_x15.toInt = 0 → o26_x15.toInt = 0 ∧ o26_x11.toInt ≤ o46_x10.toInt ∧ v.toInt ≠ 0) ∧ (o26_x15.toInt ≠ 0 → o46_x10.toInt = o26_x10.toInt) ∧ o26_x10.toInt ≤ o46_x10.toInt ∧ o26_x15.toInt ≤ o26_x15.toInt ∧ o26_x9.toInt = o26_x9.toInt ∧ o26_x19.toInt = o26_x19.toInt ∧ o26_x20.toInt = o26_x20.toInt ∧ o26_x22.toInt = o26_x22.toInt ∧ o26_x28.toInt = o26_x28.toInt from by exact ⟨⟨(by (first | omega | (have u1 := mo_un tk57; first | omega | (have u0 := mo_un h1; omega)))), (by (first | omega | (have u1 := mo_un tk57; first | omega | (have u0 := mo_un h1; omega)))), tk57.1.2.2.1, tk57.1.2.2.2⟩, (by (first | omega | (have u1 := mo_un tk57; first | omega | (have u0 := mo_un h1; omega)))), (by (first | omega | (have u1 := mo_un tk57; first | omega | (have u0 := mo_un h1; omega)))), (by (first | omega | (have u1 := mo_un tk57; first | omega | (have u0 := mo_un h1; omega)))), (by (first | omega | (have u1 := mo_un tk57; first | omega | (have u0 := mo_un h1; omega)))), (by (first | omega | (have u1 := mo_un tk57; first | omega | (have u0 := mo_un h1; omega)))), (by (first | omega | (have u1 := mo_un tk57; first | omega | (have u0 := mo_un h1; omega)))), (by (first | omega | (have u1 := mo_un tk57; first | omega | (have u0 := mo_un h1; omega)))), (by (first | omega | (have u1 := mo_un tk57; first | omega | (have u0 := mo_un h1; omega)))), (by (first | omega | (have u1 := mo_un tk57; first | omega | (have u0 := mo_un h1; omega))))⟩)))⟩, by rw [ht]; exact hP, va_K.moved hW.alike hK, hD⟩, hS.F ht⟩) hS.2.2 dX12_must_35
    · have ic40 : v.toInt = 0 := zi_nef rfl rfl c40
      refine lv_aload_n hx hb dX12_must_11 rfl (lv_at hl 0 rfl) ?_
      refine lv_iconst (v := 1) hx hb dX12_must_12 (by decide) ?_
      refine va_put (D := (dC, dI)) (ci := 12) (v := .int 1) (ty := .boolean) (C := RX12) (T := TX12) (N := 53) hx hb hts hfX12 tyX12 tyX12_ok nmX12 hown hK hP hD hS q37 eq37 rfl 15 (by decide) (hts (.fieldLink RX12 261 "ColdShipsModel" "bad" "Z") wa_994) (fun _ h9 => h9) rfl (tyX12_ok 15 (by decide)) rfl rfl (Nat.le_of_ble_eq_true rfl) dX12_must_13 (tp_k (.inr (12, [.int o26_x0, .int o26_x1, .ref (ρ h0 2), .ref (ρ h0 3), .ref (ρ h0 4), .ref (ρ h0 5), .ref (ρ h0 6), .int o26_x7, .ref (ρ h0 8), .int o26_x9, .int o26_x10, .int o26_x11, .int o26_x12, .long o26_x13, .int o26_x14, .int 1, .int o26_x16, .int o26_x17, .int o26_x18, .int o26_x19, .int o26_x20, .ref (ρ h0 21), .int o26_x22, .ref (ρ h0 23), .ref (ρ h0 24), .int o26_x25, .ref (ρ h0 26), .ref (ρ h0 27), .int o26_x28, .int o26_x29, .ref (ρ h0 30), .ref (ρ h0 31), .int o26_x32, .long o26_x33, .long o26_x34, .long o26_x35, .int o26_x36, .int o26_x37, .int o26_x38, .ref (ρ h0 39), .ref (ρ h0 40), .ref (ρ h0 41), .ref (ρ h0 42), .ref (ρ h0 43), .ref (ρ h0 44), .ref (ρ h0 45), .ref (ρ h0 46), .int o26_x47, .int o26_x48, .ref (ρ h0 49), .ref (ρ h0 50), .ref (ρ h0 51), .ref (ρ h0 52)])) hD (tp_in hG ht_h0 (by decide)) eq37 (fun f58 H locs hP hD hS g60 k59 => ?_))
      have hT := hT.up ht_h0 g60 k59 ⟨_, _, _, _, _, _, _, _, _, _, _, _, _, _, _, _, _, _, _, _, _, _, _, _, _, _, _, _, rfl, ro26_0, ro26_1, ro26_2, ro26_3, ro26_4, (by decide), ro26_6, ro26_7, ro26_8, ro26_9, ro26_10, ro26_11, ro26_12, ro26_13⟩
      have hR := hR.up ht_h0 (by decide) k59
      refine lv_aload_n hx hb dX12_must_16 rfl (lv_at hl 0 rfl) ?_
      refine lv_aload_n hx hb dX12_must_17 rfl (lv_at hl 0 rfl) ?_
      refine tpk_pos (tp_in hG ht_h0 (by decide)) g60 (fun q61 eq61 => ?_)
      refine va_get (D := (dC, dI)) (ci := 12) (v := .int o26_x10) (C := RX12) (T := TX12) (N := 53) hx hb hts hfX12 hown hK hP q61 eq61 rfl 10 (by decide) (hts (.fieldLink RX12 267 "ColdShipsModel" "from" "I") wa_1005) (fun _ h9 => h9) rfl dX12_must_18 ?_
      refine va_put (D := (dC, dI)) (ci := 12) (v := .int o26_x10) (ty := .int) (C := RX12) (T := TX12) (N := 53) hx hb hts hfX12 tyX12 tyX12_ok nmX12 hown hK hP hD hS q61 eq61 rfl 14 (by decide) (hts (.fieldLink RX12 30 "ColdShipsModel" "fault" "I") wa_155) (fun _ h9 => h9) rfl (tyX12_ok 14 (by decide)) rfl rfl (Nat.le_of_ble_eq_true rfl) dX12_must_21 (tp_k (.inr (12, [.int o26_x0, .int o26_x1, .ref (ρ h0 2), .ref (ρ h0 3), .ref (ρ h0 4), .ref (ρ h0 5), .ref (ρ h0 6), .int o26_x7, .ref (ρ h0 8), .int o26_x9, .int o26_x10, .int o26_x11, .int o26_x12, .long o26_x13, .int o26_x10, .int 1, .int o26_x16, .int o26_x17, .int o26_x18, .int o26_x19, .int o26_x20, .ref (ρ h0 21), .int o26_x22, .ref (ρ h0 23), .ref (ρ h0 24), .int o26_x25, .ref (ρ h0 26), .ref (ρ h0 27), .int o26_x28, .int o26_x29, .ref (ρ h0 30), .ref (ρ h0 31), .int o26_x32, .long o26_x33, .long o26_x34, .long o26_x35, .int o26_x36, .int o26_x37, .int o26_x38, .ref (ρ h0 39), .ref (ρ h0 40), .ref (ρ h0 41), .ref (ρ h0 42), .ref (ρ h0 43), .ref (ρ h0 44), .ref (ρ h0 45), .ref (ρ h0 46), .int o26_x47, .int o26_x48, .ref (ρ h0 49), .ref (ρ h0 50), .ref (ρ h0 51), .ref (ρ h0 52)])) hD (tp_in hG ht_h0 (by decide)) eq61 (fun f62 H locs hP hD hS g64 k63 => ?_))
      have hT := hT.up ht_h0 g64 k63 ⟨_, _, _, _, _, _, _, _, _, _, _, _, _, _, _, _, _, _, _, _, _, _, _, _, _, _, _, _, rfl, ro26_0, ro26_1, ro26_2, ro26_3, ro26_4, (by decide), ro26_6, ro26_7, ro26_8, ro26_9, ro26_10, ro26_11, ro26_12, ro26_13⟩
      have hR := hR.up ht_h0 (by decide) k63
      refine lv_aload_n hx hb dX12_must_24 rfl (lv_at hl 0 rfl) ?_
      refine tpk_pos (tp_in hG ht_h0 (by decide)) g64 (fun q65 eq65 => ?_)
      refine va_get (D := (dC, dI)) (ci := 12) (v := .int 1) (C := RX12) (T := TX12) (N := 53) hx hb hts hfX12 hown hK hP q65 eq65 rfl 15 (by decide) (hts (.fieldLink RX12 261 "ColdShipsModel" "bad" "Z") wa_994) (fun _ h9 => h9) rfl dX12_must_25 ?_
      refine lv_if_ne (tgt := 35) hx hb dX12_must_28 (by decide) (fun _ => ?_) (fun c9 => absurd c9 (by decide))
      have tf66 : mo_hd (tp_fld (f62 h0) 10 = o26_x10.toInt) := tff_10 g64
      have tf67 : mo_hd (tp_fld (f62 h0) 11 = o26_x11.toInt) := tff_11 g64
      have tf68 : mo_hd (tp_fld (f62 h0) 9 = o26_x9.toInt) := tff_9 g64
      have tf69 : mo_hd (tp_fld (f62 h0) 12 = o26_x12.toInt) := tff_12 g64
      have tf70 : mo_hd (mo_fj (f62 h0) 13 = o26_x13.toInt) := tff_13 g64
      have tf71 : mo_hd (tp_fld (f62 h0) 15 = 1) := tff_15 g64
      have tf72 : mo_hd (tp_fld (f62 h0) 19 = o26_x19.toInt) := tff_19 g64
      have tf73 : mo_hd (tp_fld (f62 h0) 20 = o26_x20.toInt) := tff_20 g64
      have tf74 : mo_hd (tp_fld (f62 h0) 22 = o26_x22.toInt) := tff_22 g64
      have tf75 : mo_hd (tp_fld (f62 h0) 28 = o26_x28.toInt) := tff_28 g64
      exact W.vret hx hb hr (fun t ht hW => ⟨⟨f62, rfl, ⟨hT, hR, (by first | (simp only [(mo_un tf66), (mo_un tf67), (mo_un tf68), (mo_un tf69), (mo_un tf70), (mo_un tf71), (mo_un tf31), (mo_un tf29), (mo_un tf28), (mo_un tf27), (mo_un tf72), (mo_un tf32), (mo_un tf73), (mo_un tf33), (mo_un tf74), (mo_un tf34), (mo_un tf75), (mo_un tf35), mo_i1, mo_l1]; exact (show (o26_x10.toInt ≤ o26_x11.toInt ∧ o26_x11.toInt ≤ o26_x9.toInt ∧ (o26_x12.toInt = 0 ∨ o26_x10.toInt < o26_x11.toInt) ∧ (o26_x12.toInt = 1 → o26_x11.toInt = o26_x10.toInt + 1 → o26_x13.toInt ≤ 26)) ∧ (1 = 0 → o26_x15.toInt = 0 ∧ o26_x11.toInt ≤ o26_x10.toInt ∧ v.toInt ≠ 0) ∧ (1 ≠ 0 → o26_x10.toInt = o26_x10.toInt) ∧ o26_x10.toInt ≤ o26_x10.toInt ∧ o26_x15.toInt ≤ 1 ∧ o26_x9.toInt = o26_x9.toInt ∧ o26_x19.toInt = o26_x19.toInt ∧ o26_x20.toInt = o26_x20.toInt ∧ o26_x22.toInt = o26_x22.toInt ∧ o26_x28.toInt = o26_x28.toInt from by exact ⟨⟨(by (first | omega | (have u0 := mo_un h1; omega))), (by (first | omega | (have u0 := mo_un h1; omega))), h1.2.2.1, h1.2.2.2⟩, (by (first | omega | (have u0 := mo_un h1; omega))), (by (first | omega | (have u0 := mo_un h1; omega))), (by (first | omega | (have u0 := mo_un h1; omega))), (by (first | omega | (have u0 := mo_un h1; omega))), (by (first | omega | (have u0 := mo_un h1; omega))), (by (first | omega | (have u0 := mo_un h1; omega))), (by (first | omega | (have u0 := mo_un h1; omega))), (by (first | omega | (have u0 := mo_un h1; omega))), (by (first | omega | (have u0 := mo_un h1; omega)))⟩)) | (rw [(mo_un tf66), (mo_un tf67), (mo_un tf68), (mo_un tf69), (mo_un tf70), (mo_un tf71), (mo_un tf31), (mo_un tf29), (mo_un tf28), (mo_un tf27), (mo_un tf72), (mo_un tf32), (mo_un tf73), (mo_un tf33), (mo_un tf74), (mo_un tf34), (mo_un tf75), (mo_un tf35)]; exact (show (o26_x10.toInt ≤ o26_x11.toInt ∧ o26_x11.toInt ≤ o26_x9.toInt ∧ (o26_x12.toInt = 0 ∨ o26_x10.toInt < o26_x11.toInt) ∧ (o26_x12.toInt = 1 → o26_x11.toInt = o26_x10.toInt + 1 → o26_x13.toInt ≤ 26)) ∧ (1 = 0 → o26_x15.toInt = 0 ∧ o26_x11.toInt ≤ o26_x10.toInt ∧ v.toInt ≠ 0) ∧ (1 ≠ 0 → o26_x10.toInt = o26_x10.toInt) ∧ o26_x10.toInt ≤ o26_x10.toInt ∧ o26_x15.toInt ≤ 1 ∧ o26_x9.toInt = o26_x9.toInt ∧ o26_x19.toInt = o26_x19.toInt ∧ o26_x20.toInt = o26_x20.toInt ∧ o26_x22.toInt = o26_x22.toInt ∧ o26_x28.toInt = o26_x28.toInt from by exact ⟨⟨(by (first | omega | (have u0 := mo_un h1; omega))), (by (first | omega | (have u0 := mo_un h1; omega))), h1.2.2.1, h1.2.2.2⟩, (by (first | omega | (have u0 := mo_un h1; omega))), (by (first | omega | (have u0 := mo_un h1; omega))), (by (first | omega | (have u0 := mo_un h1; omega))), (by (first | omega | (have u0 := mo_un h1; omega))), (by (first | omega | (have u0 := mo_un h1; omega))), (by (first | omega | (have u0 := mo_un h1; omega))), (by (first | omega | (have u0 := mo_un h1; omega))), (by (first | omega | (have u0 := mo_un h1; omega))), (by (first | omega | (have u0 := mo_un h1; omega)))⟩)))⟩, by rw [ht]; exact hP, va_K.moved hW.alike hK, hD⟩, hS.F ht⟩) hS.2.2 dX12_must_35
set_option maxHeartbeats 4000000 in
set_option maxRecDepth 100000 in
theorem t_X12_number (l : Launch) (dC : Nat → ClassId) (dI : Nat → Nat → Nat) (sz : Nat) (κ : Nat → ClassId) (τ ν : Nat → Nat) (ρ : Nat → Nat → Nat) (L : List Nat) (f : Nat → va_E) (hG : tp_G τ ν ρ L) (hT : tp_T (mo_O κ) κ τ ν ρ f) (h0 : Nat) (v : Int64) (u : Int64) (ht_h0 : τ h0 = 13) (h1 : ((tp_fld (f h0) 10) ≤ (tp_fld (f h0) 11) ∧ (tp_fld (f h0) 11) ≤ (tp_fld (f h0) 9) ∧ ((tp_fld (f h0) 12) = 0 ∨ (tp_fld (f h0) 10) < (tp_fld (f h0) 11)) ∧ ((tp_fld (f h0) 12) = 1 → (tp_fld (f h0) 11) = (tp_fld (f h0) 10) + 1 → (mo_fj (f h0) 13) ≤ 26))) : Met l yX12_number wqX12_number ({ frames := 5, cells := 0, slots := 0, locals := 1600 }) (va_Pc [.ref h0, .long v, .long u] (pz_B dC dI (tp_K κ) (va_pl L f) sz)) (va_Qi (fun (r : Int32) (f1 : Nat → va_E) => tp_T (mo_O κ) κ τ ν ρ f1 ∧ tp_F τ [13] f f1 ∧ True ∧ ((tp_fld (f1 h0) 10) ≤ (tp_fld (f1 h0) 11) ∧ (tp_fld (f1 h0) 11) ≤ (tp_fld (f1 h0) 9) ∧ ((tp_fld (f1 h0) 12) = 0 ∨ (tp_fld (f1 h0) 10) < (tp_fld (f1 h0) 11)) ∧ ((tp_fld (f1 h0) 12) = 1 → (tp_fld (f1 h0) 11) = (tp_fld (f1 h0) 10) + 1 → (mo_fj (f1 h0) 13) ≤ 26)) ∧ ((tp_fld (f1 h0) 15) = 0 → (tp_fld (f h0) 15) = 0 ∧ (tp_fld (f h0) 11) ≤ (tp_fld (f1 h0) 10)) ∧ ((tp_fld (f1 h0) 15) ≠ 0 → (tp_fld (f1 h0) 10) = (tp_fld (f h0) 10)) ∧ (tp_fld (f h0) 10) ≤ (tp_fld (f1 h0) 10) ∧ (tp_fld (f h0) 15) ≤ (tp_fld (f1 h0) 15) ∧ (tp_fld (f1 h0) 9) = (tp_fld (f h0) 9) ∧ (tp_fld (f1 h0) 19) = (tp_fld (f h0) 19) ∧ (tp_fld (f1 h0) 20) = (tp_fld (f h0) 20) ∧ (tp_fld (f1 h0) 22) = (tp_fld (f h0) 22) ∧ (tp_fld (f1 h0) 28) = (tp_fld (f h0) 28)) (fun (f1 : Nat → va_E) (t : State) => pz_E dC dI (tp_K κ) (va_A (va_pl L f) sz) (va_pl L f1) t) (va_A (va_pl L f) sz)) 0 0 (va_A (va_pl L f) sz) := by
  refine Met.ofW (cc := cX12_number) (maxL := 6) (ret := some .int) (by decide) rfl ?_
  intro p e s m args below meth c s₁ B hml hv
  obtain ⟨rfl, hsz, hP, hK, hD0, hN⟩ := hv
  have hx := B.exec
  have hb := B.bytes
  have hr := B.returns
  have hts := fun (w : Cond) (h : w ∈ WALL) => atoms_spec (ws := wqX12_number) B.pre w (List.mem_cons_of_mem _ h)
  have hown : s.vm.findClass RX12 = some m.cls := findClass_of_methodNamed B.named
  have hlocks := B.notSynchronized
  subst hsz
  have hD := hD0.self (sz := s.heap.size)
  generalize hAe : va_A (va_pl L f) s.heap.size = A at hD ⊢
  have hA : ∀ q : Nat, s.heap.size ≤ q → A q := fun q h => by rw [← hAe]; exact Or.inr h
  have hS : va_S A s.heap s.heap [] := va_S.rf
  have hR : tp_F τ [13] f f := tp_F.rf
  have hl := lv_entry ([.ref h0, .long v, .long u]) (n := 6) (Nat.le_of_ble_eq_true rfl)
  rw [lg_entry_eq]
  generalize (lg_sl ([.ref h0, .long v, .long u]) ++ List.replicate (6 - (lg_sl ([.ref h0, .long v, .long u])).length) Slot.unset).toArray = ls at hl ⊢
  have hl : lv_has ls 6 [(0, .ref h0), (1, .long v), (3, .long u)] := hl
  refine tgk_13 hG ht_h0 (fun y1 y2 y3 y4 y5 y6 y7 y8 y9 y10 y11 y12 y13 y14 y15 y16 y17 y18 y19 y20 y21 y22 y23 y24 y25 => ?_)
  refine tpk_13 hT ht_h0 (fun o26_x0 o26_x1 o26_x7 o26_x9 o26_x10 o26_x11 o26_x12 o26_x13 o26_x14 o26_x15 o26_x16 o26_x17 o26_x18 o26_x19 o26_x20 o26_x22 o26_x25 o26_x28 o26_x29 o26_x32 o26_x33 o26_x34 o26_x35 o26_x36 o26_x37 o26_x38 o26_x47 o26_x48 hf_o26 ro26_0 ro26_1 ro26_2 ro26_3 ro26_4 ro26_5 ro26_6 ro26_7 ro26_8 ro26_9 ro26_10 ro26_11 ro26_12 ro26_13 => ?_)
  have tf27 : mo_hd (tp_fld (f h0) 9 = o26_x9.toInt) := tff_9 hf_o26
  have tf28 : mo_hd (tp_fld (f h0) 10 = o26_x10.toInt) := tff_10 hf_o26
  have tf29 : mo_hd (tp_fld (f h0) 11 = o26_x11.toInt) := tff_11 hf_o26
  have tf30 : mo_hd (tp_fld (f h0) 12 = o26_x12.toInt) := tff_12 hf_o26
  have tf31 : mo_hd (tp_fld (f h0) 15 = o26_x15.toInt) := tff_15 hf_o26
  have tf32 : mo_hd (tp_fld (f h0) 19 = o26_x19.toInt) := tff_19 hf_o26
  have tf33 : mo_hd (tp_fld (f h0) 20 = o26_x20.toInt) := tff_20 hf_o26
  have tf34 : mo_hd (tp_fld (f h0) 22 = o26_x22.toInt) := tff_22 hf_o26
  have tf35 : mo_hd (tp_fld (f h0) 28 = o26_x28.toInt) := tff_28 hf_o26
  have tf36 : mo_hd (mo_fj (f h0) 13 = o26_x13.toInt) := tff_13 hf_o26
  replace h1 : mo_hd ((o26_x10.toInt ≤ o26_x11.toInt ∧ o26_x11.toInt ≤ o26_x9.toInt ∧ (o26_x12.toInt = 0 ∨ o26_x10.toInt < o26_x11.toInt) ∧ (o26_x12.toInt = 1 → o26_x11.toInt = o26_x10.toInt + 1 → o26_x13.toInt ≤ 26))) := by have q9 := h1; first | (simp only [(mo_un tf28), (mo_un tf29), (mo_un tf27), (mo_un tf30), (mo_un tf36), mo_i1, mo_l1] at q9; exact q9) | (rw [(mo_un tf28), (mo_un tf29), (mo_un tf27), (mo_un tf30), (mo_un tf36)] at q9; exact q9)
  have h1l : (o26_x10.toInt ≤ o26_x11.toInt) ∧ (o26_x11.toInt ≤ o26_x9.toInt) := ⟨h1.1, h1.2.1⟩
  refine lv_aload_n hx hb dX12_number_0 rfl (lv_at hl 0 rfl) ?_
  refine tpk_pos (tp_in hG ht_h0 (by decide)) hf_o26 (fun q37 eq37 => ?_)
  refine va_get (D := (dC, dI)) (ci := 12) (v := .long o26_x13) (C := RX12) (T := TX12) (N := 53) hx hb hts hfX12 hown hK hP q37 eq37 rfl 13 (by decide) (hts (.fieldLink RX12 270 "ColdShipsModel" "worth" "J") wa_1006) (fun _ h9 => h9) rfl dX12_number_1 ?_
  refine lv_l2i hx hb dX12_number_4 rfl ?_
  refine lv_topi (fun z38 ez38 => ?_)
  refine lv_istore (lv' := [(5, .int z38), (0, .ref h0), (1, .long v), (3, .long u)]) hx hb dX12_number_5 hl (by decide) rfl (fun ls hl => ?_)
  refine lv_aload_n hx hb dX12_number_7 rfl (lv_at hl 1 rfl) ?_
  refine lv_aload_n hx hb dX12_number_8 rfl (lv_at hl 1 rfl) ?_
  refine va_get (D := (dC, dI)) (ci := 12) (v := .int o26_x12) (C := RX12) (T := TX12) (N := 53) hx hb hts hfX12 hown hK hP q37 eq37 rfl 12 (by decide) (hts (.fieldLink RX12 280 "ColdShipsModel" "sort" "I") wa_995) (fun _ h9 => h9) rfl dX12_number_9 ?_
  refine lv_iconst (v := 2) hx hb dX12_number_12 (by decide) ?_
  refine lv_icmp_ne (tgt := 32) hx hb dX12_number_13 (by decide) (fun c39 => ?_) (fun c39 => ?_)
  · have ic39 : o26_x12.toInt ≠ 2 := zi_ne rfl rfl c39
    refine lv_iconst (v := 0) hx hb dX12_number_32 (by decide) ?_
    have hFc := tp_fr hD hS hA
    refine va_callv (va_runV (As := [.int 0]) (rest := []) ⟨hx, hb, hml, hown, hts⟩ (t_X12_must l dC dI _ κ τ ν ρ L f hG hT h0 (0) ht_h0 (by first | decide | (first | omega | (have u0 := mo_un h1; omega))) (by first | (simp only [(mo_un tf28), (mo_un tf29), (mo_un tf27), (mo_un tf30), (mo_un tf36), mo_i1, mo_l1]; exact (show (o26_x10.toInt ≤ o26_x11.toInt ∧ o26_x11.toInt ≤ o26_x9.toInt ∧ (o26_x12.toInt = 0 ∨ o26_x10.toInt < o26_x11.toInt) ∧ (o26_x12.toInt = 1 → o26_x11.toInt = o26_x10.toInt + 1 → o26_x13.toInt ≤ 26)) from by have : (0 : Int32).toInt = 0 := rfl; exact ⟨(by (first | omega | (have u0 := mo_un h1; omega))), (by (first | omega | (have u0 := mo_un h1; omega))), h1.2.2.1, h1.2.2.2⟩)) | (rw [(mo_un tf28), (mo_un tf29), (mo_un tf27), (mo_un tf30), (mo_un tf36)]; exact (show (o26_x10.toInt ≤ o26_x11.toInt ∧ o26_x11.toInt ≤ o26_x9.toInt ∧ (o26_x12.toInt = 0 ∨ o26_x10.toInt < o26_x11.toInt) ∧ (o26_x12.toInt = 1 → o26_x11.toInt = o26_x10.toInt + 1 → o26_x13.toInt ≤ 26)) from by have : (0 : Int32).toInt = 0 := rfl; exact ⟨(by (first | omega | (have u0 := mo_un h1; omega))), (by (first | omega | (have u0 := mo_un h1; omega))), h1.2.2.1, h1.2.2.2⟩)))) (cwV 1 hts gX12_number_X12_must rfl rfl rfl ⟨rfl, pd_X12_must⟩ ⟨Nat.le_of_ble_eq_true rfl, Nat.le_of_ble_eq_true rfl⟩) ⟨pz_blind, va_recv hK hP (ci := 12) (q0 := q37) rfl eq37, pz_pre hP hK hD hN⟩ rfl rfl hl.1 rfl (lv_room (Nat.le_of_ble_eq_true rfl)) dX12_number_33 ⟨Nat.le_of_ble_eq_true rfl, Nat.le_of_ble_eq_true rfl⟩) hS (fun q _ h => hFc q h) hFc (fun f42 t H1 locs ht hvm hw41 hB hz1 hk1 hS => ?_)
    refine tn_3 hw41 (fun hT hF43 hw41p => ?_); clear hw41
    have hR := hR.then hF43 (by decide)
    have hP := hB.1; rw [ht] at hP; have hD := tp_ad f42 hD; clear hB hFc hz1 hk1; subst ht; generalize t.heap = H at hP hS ⊢
    refine tpk_13 hT ht_h0 (fun o44_x0 o44_x1 o44_x7 o44_x9 o44_x10 o44_x11 o44_x12 o44_x13 o44_x14 o44_x15 o44_x16 o44_x17 o44_x18 o44_x19 o44_x20 o44_x22 o44_x25 o44_x28 o44_x29 o44_x32 o44_x33 o44_x34 o44_x35 o44_x36 o44_x37 o44_x38 o44_x47 o44_x48 hf_o44 ro44_0 ro44_1 ro44_2 ro44_3 ro44_4 ro44_5 ro44_6 ro44_7 ro44_8 ro44_9 ro44_10 ro44_11 ro44_12 ro44_13 => ?_)
    have tf45 : mo_hd (tp_fld (f42 h0) 10 = o44_x10.toInt) := tff_10 hf_o44
    have tf46 : mo_hd (tp_fld (f42 h0) 11 = o44_x11.toInt) := tff_11 hf_o44
    have tf47 : mo_hd (tp_fld (f42 h0) 9 = o44_x9.toInt) := tff_9 hf_o44
    have tf48 : mo_hd (tp_fld (f42 h0) 12 = o44_x12.toInt) := tff_12 hf_o44
    have tf49 : mo_hd (mo_fj (f42 h0) 13 = o44_x13.toInt) := tff_13 hf_o44
    have tf50 : mo_hd (tp_fld (f42 h0) 15 = o44_x15.toInt) := tff_15 hf_o44
    have tf51 : mo_hd (tp_fld (f42 h0) 19 = o44_x19.toInt) := tff_19 hf_o44
    have tf52 : mo_hd (tp_fld (f42 h0) 20 = o44_x20.toInt) := tff_20 hf_o44
    have tf53 : mo_hd (tp_fld (f42 h0) 22 = o44_x22.toInt) := tff_22 hf_o44
    have tf54 : mo_hd (tp_fld (f42 h0) 28 = o44_x28.toInt) := tff_28 hf_o44
    have tk55 : mo_hd ((o44_x10.toInt ≤ o44_x11.toInt ∧ o44_x11.toInt ≤ o44_x9.toInt ∧ (o44_x12.toInt = 0 ∨ o44_x10.toInt < o44_x11.toInt) ∧ (o44_x12.toInt = 1 → o44_x11.toInt = o44_x10.toInt + 1 → o44_x13.toInt ≤ 26)) ∧ (o44_x15.toInt = 0 → o26_x15.toInt = 0 ∧ o26_x11.toInt ≤ o44_x10.toInt ∧ (0 : Int) ≠ 0) ∧ (o44_x15.toInt ≠ 0 → o44_x10.toInt = o26_x10.toInt) ∧ o26_x10.toInt ≤ o44_x10.toInt ∧ o26_x15.toInt ≤ o44_x15.toInt ∧ o44_x9.toInt = o26_x9.toInt ∧ o44_x19.toInt = o26_x19.toInt ∧ o44_x20.toInt = o26_x20.toInt ∧ o44_x22.toInt = o26_x22.toInt ∧ o44_x28.toInt = o26_x28.toInt) := by have q9 := hw41p; first | (simp only [(mo_un tf45), (mo_un tf46), (mo_un tf47), (mo_un tf48), (mo_un tf49), (mo_un tf50), (mo_un tf31), (mo_un tf29), (mo_un tf28), (mo_un tf27), (mo_un tf51), (mo_un tf32), (mo_un tf52), (mo_un tf33), (mo_un tf53), (mo_un tf34), (mo_un tf54), (mo_un tf35), mo_i1, mo_l1] at q9; exact q9) | (rw [(mo_un tf45), (mo_un tf46), (mo_un tf47), (mo_un tf48), (mo_un tf49), (mo_un tf50), (mo_un tf31), (mo_un tf29), (mo_un tf28), (mo_un tf27), (mo_un tf51), (mo_un tf32), (mo_un tf52), (mo_un tf33), (mo_un tf53), (mo_un tf34), (mo_un tf54), (mo_un tf35)] at q9; exact q9)
    have e9 := (Int32.toInt_inj.mp tk55.2.2.2.2.2.1).symm; subst e9
    have e9 := (Int32.toInt_inj.mp tk55.2.2.2.2.2.2.1).symm; subst e9
    have e9 := (Int32.toInt_inj.mp tk55.2.2.2.2.2.2.2.1).symm; subst e9
    have e9 := (Int32.toInt_inj.mp tk55.2.2.2.2.2.2.2.2.1).symm; subst e9
    have e9 := (Int32.toInt_inj.mp tk55.2.2.2.2.2.2.2.2.2).symm; subst e9
    have tk55l : (o44_x10.toInt ≤ o44_x11.toInt) ∧ (o44_x11.toInt ≤ o26_x9.toInt) ∧ (o26_x10.toInt ≤ o44_x10.toInt) ∧ (o26_x15.toInt ≤ o44_x15.toInt) := ⟨tk55.1.1, tk55.1.2.1, tk55.2.2.2.1, tk55.2.2.2.2.1⟩
    clear hw41p
    have hbad56 : 1 ≤ o44_x15.toInt := by rcases (show o44_x15.toInt = 0 ∨ 1 ≤ o44_x15.toInt by (first | omega | (have u1 := mo_un tk55; first | omega | (have u0 := mo_un h1; omega)))) with z9 | z9; (exact absurd (rfl) (tk55.2.1 z9).2.2); (exact z9)
    refine lv_iload hx hb dX12_number_36 (lv_at hl 0 rfl) ?_
    exact W.iret (v := z38) hx hb hr (fun t ht hW => ⟨⟨z38, f42, rfl, ⟨hT, hR, trivial, (by first | (simp only [(mo_un tf45), (mo_un tf46), (mo_un tf47), (mo_un tf48), (mo_un tf49), (mo_un tf50), (mo_un tf31), (mo_un tf29), (mo_un tf28), (mo_un tf27), (mo_un tf51), (mo_un tf32), (mo_un tf52), (mo_un tf33), (mo_un tf53), (mo_un tf34), (mo_un tf54), (mo_un tf35), mo_i1, mo_l1]; exact (show (o44_x10.toInt ≤ o44_x11.toInt ∧ o44_x11.toInt ≤ o26_x9.toInt ∧ (o44_x12.toInt = 0 ∨ o44_x10.toInt < o44_x11.toInt) ∧ (o44_x12.toInt = 1 → o44_x11.toInt = o44_x10.toInt + 1 → o44_x13.toInt ≤ 26)) ∧ (o44_x15.toInt = 0 → o26_x15.toInt = 0 ∧ o26_x11.toInt ≤ o44_x10.toInt) ∧ (o44_x15.toInt ≠ 0 → o44_x10.toInt = o26_x10.toInt) ∧ o26_x10.toInt ≤ o44_x10.toInt ∧ o26_x15.toInt ≤ o44_x15.toInt ∧ o26_x9.toInt = o26_x9.toInt ∧ o26_x19.toInt = o26_x19.toInt ∧ o26_x20.toInt = o26_x20.toInt ∧ o26_x22.toInt = o26_x22.toInt ∧ o26_x28.toInt = o26_x28.toInt from by exact ⟨⟨(by (first | omega | (have u1 := mo_un tk55; first | omega | (have u0 := mo_un h1; omega)))), (by (first | omega | (have u1 := mo_un tk55; first | omega | (have u0 := mo_un h1; omega)))), tk55.1.2.2.1, tk55.1.2.2.2⟩, (by (first | omega | (have u1 := mo_un tk55; first | omega | (have u0 := mo_un h1; omega)))), tk55.2.2.1, (by (first | omega | (have u1 := mo_un tk55; first | omega | (have u0 := mo_un h1; omega)))), (by (first | omega | (have u1 := mo_un tk55; first | omega | (have u0 := mo_un h1; omega)))), (by (first | omega | (have u1 := mo_un tk55; first | omega | (have u0 := mo_un h1; omega)))), (by (first | omega | (have u1 := mo_un tk55; first | omega | (have u0 := mo_un h1; omega)))), (by (first | omega | (have u1 := mo_un tk55; first | omega | (have u0 := mo_un h1; omega)))), (by (first | omega | (have u1 := mo_un tk55; first | omega | (have u0 := mo_un h1; omega)))), (by (first | omega | (have u1 := mo_un tk55; first | omega | (have u0 := mo_un h1; omega))))⟩)) | (rw [(mo_un tf45), (mo_un tf46), (mo_un tf47), (mo_un tf48), (mo_un tf49), (mo_un tf50), (mo_un tf31), (mo_un tf29), (mo_un tf28), (mo_un tf27), (mo_un tf51), (mo_un tf32), (mo_un tf52), (mo_un tf33), (mo_un tf53), (mo_un tf34), (mo_un tf54), (mo_un tf35)]; exact (show (o44_x10.toInt ≤ o44_x11.toInt ∧ o44_x11.toInt ≤ o26_x9.toInt ∧ (o44_x12.toInt = 0 ∨ o44_x10.toInt < o44_x11.toInt) ∧ (o44_x12.toInt = 1 → o44_x11.toInt = o44_x10.toInt + 1 → o44_x13.toInt ≤ 26)) ∧ (o44_x15.toInt = 0 → o26_x15.toInt = 0 ∧ o26_x11.toInt ≤ o44_x10.toInt) ∧ (o44_x15.toInt ≠ 0 → o44_x10.toInt = o26_x10.toInt) ∧ o26_x10.toInt ≤ o44_x10.toInt ∧ o26_x15.toInt ≤ o44_x15.toInt ∧ o26_x9.toInt = o26_x9.toInt ∧ o26_x19.toInt = o26_x19.toInt ∧ o26_x20.toInt = o26_x20.toInt ∧ o26_x22.toInt = o26_x22.toInt ∧ o26_x28.toInt = o26_x28.toInt from by exact ⟨⟨(by (first | omega | (have u1 := mo_un tk55; first | omega | (have u0 := mo_un h1; omega)))), (by (first | omega | (have u1 := mo_un tk55; first | omega | (have u0 := mo_un h1; omega)))), tk55.1.2.2.1, tk55.1.2.2.2⟩, (by (first | omega | (have u1 := mo_un tk55; first | omega | (have u0 := mo_un h1; omega)))), tk55.2.2.1, (by (first | omega | (have u1 := mo_un tk55; first | omega | (have u0 := mo_un h1; omega)))), (by (first | omega | (have u1 := mo_un tk55; first | omega | (have u0 := mo_un h1; omega)))), (by (first | omega | (have u1 := mo_un tk55; first | omega | (have u0 := mo_un h1; omega)))), (by (first | omega | (have u1 := mo_un tk55; first | omega | (have u0 := mo_un h1; omega)))), (by (first | omega | (have u1 := mo_un tk55; first | omega | (have u0 := mo_un h1; omega)))), (by (first | omega | (have u1 := mo_un tk55; first | omega | (have u0 := mo_un h1; omega)))), (by (first | omega | (have u1 := mo_un tk55; first | omega | (have u0 := mo_un h1; omega))))⟩)))⟩, by rw [ht]; exact hP, va_K.moved hW.alike hK, hD⟩, hS.F ht⟩) hS.2.2 dX12_number_38
  · have ic39 : o26_x12.toInt = 2 := zi_nef rfl rfl c39
    refine lv_aload_n hx hb dX12_number_16 rfl (lv_at hl 1 rfl) ?_
    refine va_get (D := (dC, dI)) (ci := 12) (v := .long o26_x13) (C := RX12) (T := TX12) (N := 53) hx hb hts hfX12 hown hK hP q37 eq37 rfl 13 (by decide) (hts (.fieldLink RX12 270 "ColdShipsModel" "worth" "J") wa_1006) (fun _ h9 => h9) rfl dX12_number_17 ?_
    refine lv_lload_n hx hb dX12_number_20 rfl (lv_at hl 2 rfl) ?_
    refine lv_lload_n hx hb dX12_number_21 rfl (lv_at hl 3 rfl) ?_
    refine pz_calli (va_runS (As := [.long o26_x13, .long v, .long u]) (rest := [.ref h0]) ⟨hx, hb, hml, hown, hts⟩ (t_X12_in l dC dI _ o26_x13 v u (o26_x13.toInt) (v.toInt) (u.toInt) rfl rfl rfl) (va_cwS 3 hts gX12_number_X12_in rfl rfl rfl pd_X12_in ⟨Nat.le_of_ble_eq_true rfl, Nat.le_of_ble_eq_true rfl⟩) ⟨pz_blind, pz_pre pz_P0 (hK.sub (tys' := []) [] rfl) (pz_D0 (A := fun _ => True)) hN⟩ rfl rfl hl.1 rfl (lv_room (Nat.le_of_ble_eq_true rfl)) dX12_number_22 ⟨Nat.le_of_ble_eq_true rfl, Nat.le_of_ble_eq_true rfl⟩) (fun r57 hw58 => ?_)
    obtain ⟨hw58r, hw58p⟩ := hw58
    refine lv_if_eq (tgt := 32) hx hb dX12_number_25 (by decide) (fun c59 => ?_) (fun c59 => ?_)
    · have ic59 : r57.toInt = 0 := zi_eq rfl rfl c59
      refine lv_iconst (v := 0) hx hb dX12_number_32 (by decide) ?_
      have hFc := tp_fr hD hS hA
      refine va_callv (va_runV (As := [.int 0]) (rest := []) ⟨hx, hb, hml, hown, hts⟩ (t_X12_must l dC dI _ κ τ ν ρ L f hG hT h0 (0) ht_h0 (by first | decide | (first | omega | (have u0 := mo_un h1; omega))) (by first | (simp only [(mo_un tf28), (mo_un tf29), (mo_un tf27), (mo_un tf30), (mo_un tf36), mo_i1, mo_l1]; exact (show (o26_x10.toInt ≤ o26_x11.toInt ∧ o26_x11.toInt ≤ o26_x9.toInt ∧ (o26_x12.toInt = 0 ∨ o26_x10.toInt < o26_x11.toInt) ∧ (o26_x12.toInt = 1 → o26_x11.toInt = o26_x10.toInt + 1 → o26_x13.toInt ≤ 26)) from by have : (0 : Int32).toInt = 0 := rfl; exact ⟨(by (first | omega | (have u0 := mo_un h1; omega))), (by (first | omega | (have u0 := mo_un h1; omega))), h1.2.2.1, h1.2.2.2⟩)) | (rw [(mo_un tf28), (mo_un tf29), (mo_un tf27), (mo_un tf30), (mo_un tf36)]; exact (show (o26_x10.toInt ≤ o26_x11.toInt ∧ o26_x11.toInt ≤ o26_x9.toInt ∧ (o26_x12.toInt = 0 ∨ o26_x10.toInt < o26_x11.toInt) ∧ (o26_x12.toInt = 1 → o26_x11.toInt = o26_x10.toInt + 1 → o26_x13.toInt ≤ 26)) from by have : (0 : Int32).toInt = 0 := rfl; exact ⟨(by (first | omega | (have u0 := mo_un h1; omega))), (by (first | omega | (have u0 := mo_un h1; omega))), h1.2.2.1, h1.2.2.2⟩)))) (cwV 1 hts gX12_number_X12_must rfl rfl rfl ⟨rfl, pd_X12_must⟩ ⟨Nat.le_of_ble_eq_true rfl, Nat.le_of_ble_eq_true rfl⟩) ⟨pz_blind, va_recv hK hP (ci := 12) (q0 := q37) rfl eq37, pz_pre hP hK hD hN⟩ rfl rfl hl.1 rfl (lv_room (Nat.le_of_ble_eq_true rfl)) dX12_number_33 ⟨Nat.le_of_ble_eq_true rfl, Nat.le_of_ble_eq_true rfl⟩) hS (fun q _ h => hFc q h) hFc (fun f62 t H1 locs ht hvm hw61 hB hz1 hk1 hS => ?_)
      refine tn_3 hw61 (fun hT hF63 hw61p => ?_); clear hw61
      have hR := hR.then hF63 (by decide)
      have hP := hB.1; rw [ht] at hP; have hD := tp_ad f62 hD; clear hB hFc hz1 hk1; subst ht; generalize t.heap = H at hP hS ⊢
      refine tpk_13 hT ht_h0 (fun o64_x0 o64_x1 o64_x7 o64_x9 o64_x10 o64_x11 o64_x12 o64_x13 o64_x14 o64_x15 o64_x16 o64_x17 o64_x18 o64_x19 o64_x20 o64_x22 o64_x25 o64_x28 o64_x29 o64_x32 o64_x33 o64_x34 o64_x35 o64_x36 o64_x37 o64_x38 o64_x47 o64_x48 hf_o64 ro64_0 ro64_1 ro64_2 ro64_3 ro64_4 ro64_5 ro64_6 ro64_7 ro64_8 ro64_9 ro64_10 ro64_11 ro64_12 ro64_13 => ?_)
      have tf65 : mo_hd (tp_fld (f62 h0) 10 = o64_x10.toInt) := tff_10 hf_o64
      have tf66 : mo_hd (tp_fld (f62 h0) 11 = o64_x11.toInt) := tff_11 hf_o64
      have tf67 : mo_hd (tp_fld (f62 h0) 9 = o64_x9.toInt) := tff_9 hf_o64
      have tf68 : mo_hd (tp_fld (f62 h0) 12 = o64_x12.toInt) := tff_12 hf_o64
      have tf69 : mo_hd (mo_fj (f62 h0) 13 = o64_x13.toInt) := tff_13 hf_o64
      have tf70 : mo_hd (tp_fld (f62 h0) 15 = o64_x15.toInt) := tff_15 hf_o64
      have tf71 : mo_hd (tp_fld (f62 h0) 19 = o64_x19.toInt) := tff_19 hf_o64
      have tf72 : mo_hd (tp_fld (f62 h0) 20 = o64_x20.toInt) := tff_20 hf_o64
      have tf73 : mo_hd (tp_fld (f62 h0) 22 = o64_x22.toInt) := tff_22 hf_o64
      have tf74 : mo_hd (tp_fld (f62 h0) 28 = o64_x28.toInt) := tff_28 hf_o64
      have tk75 : mo_hd ((o64_x10.toInt ≤ o64_x11.toInt ∧ o64_x11.toInt ≤ o64_x9.toInt ∧ (o64_x12.toInt = 0 ∨ o64_x10.toInt < o64_x11.toInt) ∧ (o64_x12.toInt = 1 → o64_x11.toInt = o64_x10.toInt + 1 → o64_x13.toInt ≤ 26)) ∧ (o64_x15.toInt = 0 → o26_x15.toInt = 0 ∧ o26_x11.toInt ≤ o64_x10.toInt ∧ (0 : Int) ≠ 0) ∧ (o64_x15.toInt ≠ 0 → o64_x10.toInt = o26_x10.toInt) ∧ o26_x10.toInt ≤ o64_x10.toInt ∧ o26_x15.toInt ≤ o64_x15.toInt ∧ o64_x9.toInt = o26_x9.toInt ∧ o64_x19.toInt = o26_x19.toInt ∧ o64_x20.toInt = o26_x20.toInt ∧ o64_x22.toInt = o26_x22.toInt ∧ o64_x28.toInt = o26_x28.toInt) := by have q9 := hw61p; first | (simp only [(mo_un tf65), (mo_un tf66), (mo_un tf67), (mo_un tf68), (mo_un tf69), (mo_un tf70), (mo_un tf31), (mo_un tf29), (mo_un tf28), (mo_un tf27), (mo_un tf71), (mo_un tf32), (mo_un tf72), (mo_un tf33), (mo_un tf73), (mo_un tf34), (mo_un tf74), (mo_un tf35), mo_i1, mo_l1] at q9; exact q9) | (rw [(mo_un tf65), (mo_un tf66), (mo_un tf67), (mo_un tf68), (mo_un tf69), (mo_un tf70), (mo_un tf31), (mo_un tf29), (mo_un tf28), (mo_un tf27), (mo_un tf71), (mo_un tf32), (mo_un tf72), (mo_un tf33), (mo_un tf73), (mo_un tf34), (mo_un tf74), (mo_un tf35)] at q9; exact q9)
      have e9 := (Int32.toInt_inj.mp tk75.2.2.2.2.2.1).symm; subst e9
      have e9 := (Int32.toInt_inj.mp tk75.2.2.2.2.2.2.1).symm; subst e9
      have e9 := (Int32.toInt_inj.mp tk75.2.2.2.2.2.2.2.1).symm; subst e9
      have e9 := (Int32.toInt_inj.mp tk75.2.2.2.2.2.2.2.2.1).symm; subst e9
      have e9 := (Int32.toInt_inj.mp tk75.2.2.2.2.2.2.2.2.2).symm; subst e9
      have tk75l : (o64_x10.toInt ≤ o64_x11.toInt) ∧ (o64_x11.toInt ≤ o26_x9.toInt) ∧ (o26_x10.toInt ≤ o64_x10.toInt) ∧ (o26_x15.toInt ≤ o64_x15.toInt) := ⟨tk75.1.1, tk75.1.2.1, tk75.2.2.2.1, tk75.2.2.2.2.1⟩
      clear hw61p
      have hbad76 : 1 ≤ o64_x15.toInt := by rcases (show o64_x15.toInt = 0 ∨ 1 ≤ o64_x15.toInt by (first | omega | (have u1 := mo_un tk75; first | omega | (have u0 := mo_un h1; omega)))) with z9 | z9; (exact absurd (rfl) (tk75.2.1 z9).2.2); (exact z9)
      refine lv_iload hx hb dX12_number_36 (lv_at hl 0 rfl) ?_
      exact W.iret (v := z38) hx hb hr (fun t ht hW => ⟨⟨z38, f62, rfl, ⟨hT, hR, trivial, (by first | (simp only [(mo_un tf65), (mo_un tf66), (mo_un tf67), (mo_un tf68), (mo_un tf69), (mo_un tf70), (mo_un tf31), (mo_un tf29), (mo_un tf28), (mo_un tf27), (mo_un tf71), (mo_un tf32), (mo_un tf72), (mo_un tf33), (mo_un tf73), (mo_un tf34), (mo_un tf74), (mo_un tf35), mo_i1, mo_l1]; exact (show (o64_x10.toInt ≤ o64_x11.toInt ∧ o64_x11.toInt ≤ o26_x9.toInt ∧ (o64_x12.toInt = 0 ∨ o64_x10.toInt < o64_x11.toInt) ∧ (o64_x12.toInt = 1 → o64_x11.toInt = o64_x10.toInt + 1 → o64_x13.toInt ≤ 26)) ∧ (o64_x15.toInt = 0 → o26_x15.toInt = 0 ∧ o26_x11.toInt ≤ o64_x10.toInt) ∧ (o64_x15.toInt ≠ 0 → o64_x10.toInt = o26_x10.toInt) ∧ o26_x10.toInt ≤ o64_x10.toInt ∧ o26_x15.toInt ≤ o64_x15.toInt ∧ o26_x9.toInt = o26_x9.toInt ∧ o26_x19.toInt = o26_x19.toInt ∧ o26_x20.toInt = o26_x20.toInt ∧ o26_x22.toInt = o26_x22.toInt ∧ o26_x28.toInt = o26_x28.toInt from by exact ⟨⟨(by (first | omega | (have u1 := mo_un tk75; first | omega | (have u0 := mo_un h1; omega)))), (by (first | omega | (have u1 := mo_un tk75; first | omega | (have u0 := mo_un h1; omega)))), tk75.1.2.2.1, tk75.1.2.2.2⟩, (by (first | omega | (have u1 := mo_un tk75; first | omega | (have u0 := mo_un h1; omega)))), tk75.2.2.1, (by (first | omega | (have u1 := mo_un tk75; first | omega | (have u0 := mo_un h1; omega)))), (by (first | omega | (have u1 := mo_un tk75; first | omega | (have u0 := mo_un h1; omega)))), (by (first | omega | (have u1 := mo_un tk75; first | omega | (have u0 := mo_un h1; omega)))), (by (first | omega | (have u1 := mo_un tk75; first | omega | (have u0 := mo_un h1; omega)))), (by (first | omega | (have u1 := mo_un tk75; first | omega | (have u0 := mo_un h1; omega)))), (by (first | omega | (have u1 := mo_un tk75; first | omega | (have u0 := mo_un h1; omega)))), (by (first | omega | (have u1 := mo_un tk75; first | omega | (have u0 := mo_un h1; omega))))⟩)) | (rw [(mo_un tf65), (mo_un tf66), (mo_un tf67), (mo_un tf68), (mo_un tf69), (mo_un tf70), (mo_un tf31), (mo_un tf29), (mo_un tf28), (mo_un tf27), (mo_un tf71), (mo_un tf32), (mo_un tf72), (mo_un tf33), (mo_un tf73), (mo_un tf34), (mo_un tf74), (mo_un tf35)]; exact (show (o64_x10.toInt ≤ o64_x11.toInt ∧ o64_x11.toInt ≤ o26_x9.toInt ∧ (o64_x12.toInt = 0 ∨ o64_x10.toInt < o64_x11.toInt) ∧ (o64_x12.toInt = 1 → o64_x11.toInt = o64_x10.toInt + 1 → o64_x13.toInt ≤ 26)) ∧ (o64_x15.toInt = 0 → o26_x15.toInt = 0 ∧ o26_x11.toInt ≤ o64_x10.toInt) ∧ (o64_x15.toInt ≠ 0 → o64_x10.toInt = o26_x10.toInt) ∧ o26_x10.toInt ≤ o64_x10.toInt ∧ o26_x15.toInt ≤ o64_x15.toInt ∧ o26_x9.toInt = o26_x9.toInt ∧ o26_x19.toInt = o26_x19.toInt ∧ o26_x20.toInt = o26_x20.toInt ∧ o26_x22.toInt = o26_x22.toInt ∧ o26_x28.toInt = o26_x28.toInt from by exact ⟨⟨(by (first | omega | (have u1 := mo_un tk75; first | omega | (have u0 := mo_un h1; omega)))), (by (first | omega | (have u1 := mo_un tk75; first | omega | (have u0 := mo_un h1; omega)))), tk75.1.2.2.1, tk75.1.2.2.2⟩, (by (first | omega | (have u1 := mo_un tk75; first | omega | (have u0 := mo_un h1; omega)))), tk75.2.2.1, (by (first | omega | (have u1 := mo_un tk75; first | omega | (have u0 := mo_un h1; omega)))), (by (first | omega | (have u1 := mo_un tk75; first | omega | (have u0 := mo_un h1; omega)))), (by (first | omega | (have u1 := mo_un tk75; first | omega | (have u0 := mo_un h1; omega)))), (by (first | omega | (have u1 := mo_un tk75; first | omega | (have u0 := mo_un h1; omega)))), (by (first | omega | (have u1 := mo_un tk75; first | omega | (have u0 := mo_un h1; omega)))), (by (first | omega | (have u1 := mo_un tk75; first | omega | (have u0 := mo_un h1; omega)))), (by (first | omega | (have u1 := mo_un tk75; first | omega | (have u0 := mo_un h1; omega))))⟩)))⟩, by rw [ht]; exact hP, va_K.moved hW.alike hK, hD⟩, hS.F ht⟩) hS.2.2 dX12_number_38
    · have ic59 : r57.toInt ≠ 0 := zi_eqf rfl rfl c59
      replace ic59 : 1 ≤ r57.toInt := by (first | omega | (have u0 := mo_un h1; omega))
      have p77 : (v.toInt) ≤ (o26_x13.toInt) ∧ (o26_x13.toInt) ≤ (u.toInt) := (tp_cond.yes hw58p) (by (first | omega | (have u0 := mo_un h1; omega)))
      refine lv_iconst (v := 1) hx hb dX12_number_28 (by decide) ?_
      refine lv_goto (tgt := 33) hx hb dX12_number_29 (by decide) ?_
      have hFc := tp_fr hD hS hA
      refine va_callv (va_runV (As := [.int 1]) (rest := []) ⟨hx, hb, hml, hown, hts⟩ (t_X12_must l dC dI _ κ τ ν ρ L f hG hT h0 (1) ht_h0 (by first | decide | (first | omega | (have u0 := mo_un h1; omega))) (by first | (simp only [(mo_un tf28), (mo_un tf29), (mo_un tf27), (mo_un tf30), (mo_un tf36), mo_i1, mo_l1]; exact (show (o26_x10.toInt ≤ o26_x11.toInt ∧ o26_x11.toInt ≤ o26_x9.toInt ∧ (o26_x12.toInt = 0 ∨ o26_x10.toInt < o26_x11.toInt) ∧ (o26_x12.toInt = 1 → o26_x11.toInt = o26_x10.toInt + 1 → o26_x13.toInt ≤ 26)) from by have : (1 : Int32).toInt = 1 := rfl; exact ⟨(by (first | omega | (have u0 := mo_un h1; omega))), (by (first | omega | (have u0 := mo_un h1; omega))), h1.2.2.1, h1.2.2.2⟩)) | (rw [(mo_un tf28), (mo_un tf29), (mo_un tf27), (mo_un tf30), (mo_un tf36)]; exact (show (o26_x10.toInt ≤ o26_x11.toInt ∧ o26_x11.toInt ≤ o26_x9.toInt ∧ (o26_x12.toInt = 0 ∨ o26_x10.toInt < o26_x11.toInt) ∧ (o26_x12.toInt = 1 → o26_x11.toInt = o26_x10.toInt + 1 → o26_x13.toInt ≤ 26)) from by have : (1 : Int32).toInt = 1 := rfl; exact ⟨(by (first | omega | (have u0 := mo_un h1; omega))), (by (first | omega | (have u0 := mo_un h1; omega))), h1.2.2.1, h1.2.2.2⟩)))) (cwV 1 hts gX12_number_X12_must rfl rfl rfl ⟨rfl, pd_X12_must⟩ ⟨Nat.le_of_ble_eq_true rfl, Nat.le_of_ble_eq_true rfl⟩) ⟨pz_blind, va_recv hK hP (ci := 12) (q0 := q37) rfl eq37, pz_pre hP hK hD hN⟩ rfl rfl hl.1 rfl (lv_room (Nat.le_of_ble_eq_true rfl)) dX12_number_33 ⟨Nat.le_of_ble_eq_true rfl, Nat.le_of_ble_eq_true rfl⟩) hS (fun q _ h => hFc q h) hFc (fun f80 t H1 locs ht hvm hw79 hB hz1 hk1 hS => ?_)
      refine tn_3 hw79 (fun hT hF81 hw79p => ?_); clear hw79
      have hR := hR.then hF81 (by decide)
      have hP := hB.1; rw [ht] at hP; have hD := tp_ad f80 hD; clear hB hFc hz1 hk1; subst ht; generalize t.heap = H at hP hS ⊢
      refine tpk_13 hT ht_h0 (fun o82_x0 o82_x1 o82_x7 o82_x9 o82_x10 o82_x11 o82_x12 o82_x13 o82_x14 o82_x15 o82_x16 o82_x17 o82_x18 o82_x19 o82_x20 o82_x22 o82_x25 o82_x28 o82_x29 o82_x32 o82_x33 o82_x34 o82_x35 o82_x36 o82_x37 o82_x38 o82_x47 o82_x48 hf_o82 ro82_0 ro82_1 ro82_2 ro82_3 ro82_4 ro82_5 ro82_6 ro82_7 ro82_8 ro82_9 ro82_10 ro82_11 ro82_12 ro82_13 => ?_)
      have tf83 : mo_hd (tp_fld (f80 h0) 10 = o82_x10.toInt) := tff_10 hf_o82
      have tf84 : mo_hd (tp_fld (f80 h0) 11 = o82_x11.toInt) := tff_11 hf_o82
      have tf85 : mo_hd (tp_fld (f80 h0) 9 = o82_x9.toInt) := tff_9 hf_o82
      have tf86 : mo_hd (tp_fld (f80 h0) 12 = o82_x12.toInt) := tff_12 hf_o82
      have tf87 : mo_hd (mo_fj (f80 h0) 13 = o82_x13.toInt) := tff_13 hf_o82
      have tf88 : mo_hd (tp_fld (f80 h0) 15 = o82_x15.toInt) := tff_15 hf_o82
      have tf89 : mo_hd (tp_fld (f80 h0) 19 = o82_x19.toInt) := tff_19 hf_o82
      have tf90 : mo_hd (tp_fld (f80 h0) 20 = o82_x20.toInt) := tff_20 hf_o82
      have tf91 : mo_hd (tp_fld (f80 h0) 22 = o82_x22.toInt) := tff_22 hf_o82
      have tf92 : mo_hd (tp_fld (f80 h0) 28 = o82_x28.toInt) := tff_28 hf_o82
      have tk93 : mo_hd ((o82_x10.toInt ≤ o82_x11.toInt ∧ o82_x11.toInt ≤ o82_x9.toInt ∧ (o82_x12.toInt = 0 ∨ o82_x10.toInt < o82_x11.toInt) ∧ (o82_x12.toInt = 1 → o82_x11.toInt = o82_x10.toInt + 1 → o82_x13.toInt ≤ 26)) ∧ (o82_x15.toInt = 0 → o26_x15.toInt = 0 ∧ o26_x11.toInt ≤ o82_x10.toInt ∧ (1 : Int) ≠ 0) ∧ (o82_x15.toInt ≠ 0 → o82_x10.toInt = o26_x10.toInt) ∧ o26_x10.toInt ≤ o82_x10.toInt ∧ o26_x15.toInt ≤ o82_x15.toInt ∧ o82_x9.toInt = o26_x9.toInt ∧ o82_x19.toInt = o26_x19.toInt ∧ o82_x20.toInt = o26_x20.toInt ∧ o82_x22.toInt = o26_x22.toInt ∧ o82_x28.toInt = o26_x28.toInt) := by have q9 := hw79p; first | (simp only [(mo_un tf83), (mo_un tf84), (mo_un tf85), (mo_un tf86), (mo_un tf87), (mo_un tf88), (mo_un tf31), (mo_un tf29), (mo_un tf28), (mo_un tf27), (mo_un tf89), (mo_un tf32), (mo_un tf90), (mo_un tf33), (mo_un tf91), (mo_un tf34), (mo_un tf92), (mo_un tf35), mo_i1, mo_l1] at q9; exact q9) | (rw [(mo_un tf83), (mo_un tf84), (mo_un tf85), (mo_un tf86), (mo_un tf87), (mo_un tf88), (mo_un tf31), (mo_un tf29), (mo_un tf28), (mo_un tf27), (mo_un tf89), (mo_un tf32), (mo_un tf90), (mo_un tf33), (mo_un tf91), (mo_un tf34), (mo_un tf92), (mo_un tf35)] at q9; exact q9)
      have e9 := (Int32.toInt_inj.mp tk93.2.2.2.2.2.1).symm; subst e9
      have e9 := (Int32.toInt_inj.mp tk93.2.2.2.2.2.2.1).symm; subst e9
      have e9 := (Int32.toInt_inj.mp tk93.2.2.2.2.2.2.2.1).symm; subst e9
      have e9 := (Int32.toInt_inj.mp tk93.2.2.2.2.2.2.2.2.1).symm; subst e9
      have e9 := (Int32.toInt_inj.mp tk93.2.2.2.2.2.2.2.2.2).symm; subst e9
      have tk93l : (o82_x10.toInt ≤ o82_x11.toInt) ∧ (o82_x11.toInt ≤ o26_x9.toInt) ∧ (o26_x10.toInt ≤ o82_x10.toInt) ∧ (o26_x15.toInt ≤ o82_x15.toInt) := ⟨tk93.1.1, tk93.1.2.1, tk93.2.2.2.1, tk93.2.2.2.2.1⟩
      clear hw79p
      refine lv_iload hx hb dX12_number_36 (lv_at hl 0 rfl) ?_
      exact W.iret (v := z38) hx hb hr (fun t ht hW => ⟨⟨z38, f80, rfl, ⟨hT, hR, trivial, (by first | (simp only [(mo_un tf83), (mo_un tf84), (mo_un tf85), (mo_un tf86), (mo_un tf87), (mo_un tf88), (mo_un tf31), (mo_un tf29), (mo_un tf28), (mo_un tf27), (mo_un tf89), (mo_un tf32), (mo_un tf90), (mo_un tf33), (mo_un tf91), (mo_un tf34), (mo_un tf92), (mo_un tf35), mo_i1, mo_l1]; exact (show (o82_x10.toInt ≤ o82_x11.toInt ∧ o82_x11.toInt ≤ o26_x9.toInt ∧ (o82_x12.toInt = 0 ∨ o82_x10.toInt < o82_x11.toInt) ∧ (o82_x12.toInt = 1 → o82_x11.toInt = o82_x10.toInt + 1 → o82_x13.toInt ≤ 26)) ∧ (o82_x15.toInt = 0 → o26_x15.toInt = 0 ∧ o26_x11.toInt ≤ o82_x10.toInt) ∧ (o82_x15.toInt ≠ 0 → o82_x10.toInt = o26_x10.toInt) ∧ o26_x10.toInt ≤ o82_x10.toInt ∧ o26_x15.toInt ≤ o82_x15.toInt ∧ o26_x9.toInt = o26_x9.toInt ∧ o26_x19.toInt = o26_x19.toInt ∧ o26_x20.toInt = o26_x20.toInt ∧ o26_x22.toInt = o26_x22.toInt ∧ o26_x28.toInt = o26_x28.toInt from by exact ⟨⟨(by (first | omega | (have u1 := mo_un tk93; first | omega | (have u0 := mo_un h1; omega)))), (by (first | omega | (have u1 := mo_un tk93; first | omega | (have u0 := mo_un h1; omega)))), tk93.1.2.2.1, tk93.1.2.2.2⟩, (by (first | omega | (have u1 := mo_un tk93; first | omega | (have u0 := mo_un h1; omega)))), tk93.2.2.1, (by (first | omega | (have u1 := mo_un tk93; first | omega | (have u0 := mo_un h1; omega)))), (by (first | omega | (have u1 := mo_un tk93; first | omega | (have u0 := mo_un h1; omega)))), (by (first | omega | (have u1 := mo_un tk93; first | omega | (have u0 := mo_un h1; omega)))), (by (first | omega | (have u1 := mo_un tk93; first | omega | (have u0 := mo_un h1; omega)))), (by (first | omega | (have u1 := mo_un tk93; first | omega | (have u0 := mo_un h1; omega)))), (by (first | omega | (have u1 := mo_un tk93; first | omega | (have u0 := mo_un h1; omega)))), (by (first | omega | (have u1 := mo_un tk93; first | omega | (have u0 := mo_un h1; omega))))⟩)) | (rw [(mo_un tf83), (mo_un tf84), (mo_un tf85), (mo_un tf86), (mo_un tf87), (mo_un tf88), (mo_un tf31), (mo_un tf29), (mo_un tf28), (mo_un tf27), (mo_un tf89), (mo_un tf32), (mo_un tf90), (mo_un tf33), (mo_un tf91), (mo_un tf34), (mo_un tf92), (mo_un tf35)]; exact (show (o82_x10.toInt ≤ o82_x11.toInt ∧ o82_x11.toInt ≤ o26_x9.toInt ∧ (o82_x12.toInt = 0 ∨ o82_x10.toInt < o82_x11.toInt) ∧ (o82_x12.toInt = 1 → o82_x11.toInt = o82_x10.toInt + 1 → o82_x13.toInt ≤ 26)) ∧ (o82_x15.toInt = 0 → o26_x15.toInt = 0 ∧ o26_x11.toInt ≤ o82_x10.toInt) ∧ (o82_x15.toInt ≠ 0 → o82_x10.toInt = o26_x10.toInt) ∧ o26_x10.toInt ≤ o82_x10.toInt ∧ o26_x15.toInt ≤ o82_x15.toInt ∧ o26_x9.toInt = o26_x9.toInt ∧ o26_x19.toInt = o26_x19.toInt ∧ o26_x20.toInt = o26_x20.toInt ∧ o26_x22.toInt = o26_x22.toInt ∧ o26_x28.toInt = o26_x28.toInt from by exact ⟨⟨(by (first | omega | (have u1 := mo_un tk93; first | omega | (have u0 := mo_un h1; omega)))), (by (first | omega | (have u1 := mo_un tk93; first | omega | (have u0 := mo_un h1; omega)))), tk93.1.2.2.1, tk93.1.2.2.2⟩, (by (first | omega | (have u1 := mo_un tk93; first | omega | (have u0 := mo_un h1; omega)))), tk93.2.2.1, (by (first | omega | (have u1 := mo_un tk93; first | omega | (have u0 := mo_un h1; omega)))), (by (first | omega | (have u1 := mo_un tk93; first | omega | (have u0 := mo_un h1; omega)))), (by (first | omega | (have u1 := mo_un tk93; first | omega | (have u0 := mo_un h1; omega)))), (by (first | omega | (have u1 := mo_un tk93; first | omega | (have u0 := mo_un h1; omega)))), (by (first | omega | (have u1 := mo_un tk93; first | omega | (have u0 := mo_un h1; omega)))), (by (first | omega | (have u1 := mo_un tk93; first | omega | (have u0 := mo_un h1; omega)))), (by (first | omega | (have u1 := mo_un tk93; first | omega | (have u0 := mo_un h1; omega))))⟩)))⟩, by rw [ht]; exact hP, va_K.moved hW.alike hK, hD⟩, hS.F ht⟩) hS.2.2 dX12_number_38
set_option maxHeartbeats 4000000 in
set_option maxRecDepth 100000 in
theorem t_X12_emit (l : Launch) (dC : Nat → ClassId) (dI : Nat → Nat → Nat) (sz : Nat) (κ : Nat → ClassId) (τ ν : Nat → Nat) (ρ : Nat → Nat → Nat) (L : List Nat) (f : Nat → va_E) (hG : tp_G τ ν ρ L) (hT : tp_T (mo_O κ) κ τ ν ρ f) (h0 : Nat) (v : Int32) (u : Int32) (ht_h0 : τ h0 = 13) (h22 : (tp_fld (f h0) 22) < 400) : Met l yX12_emit wqX12_emit ({ frames := 2, cells := 0, slots := 0, locals := 400 }) (va_Pc [.ref h0, .int v, .int u] (pz_B dC dI (tp_K κ) (va_pl L f) sz)) (va_Qv (fun (f1 : Nat → va_E) => tp_T (mo_O κ) κ τ ν ρ f1 ∧ tp_F τ [13, 53, 54] f f1 ∧ mo_U (mo_R (mo_i (f (ρ h0 23)))) (mo_R (mo_i (f1 (ρ h0 23)))) (tp_fld (f h0) 22) v.toInt ∧ mo_U (mo_R (mo_i (f (ρ h0 24)))) (mo_R (mo_i (f1 (ρ h0 24)))) (tp_fld (f h0) 22) u.toInt ∧ (tp_fld (f1 h0) 22) = (tp_fld (f h0) 22) + 1 ∧ (tp_fld (f1 h0) 9) = (tp_fld (f h0) 9) ∧ (tp_fld (f1 h0) 10) = (tp_fld (f h0) 10) ∧ (tp_fld (f1 h0) 11) = (tp_fld (f h0) 11) ∧ (tp_fld (f1 h0) 12) = (tp_fld (f h0) 12) ∧ (mo_fj (f1 h0) 13) = (mo_fj (f h0) 13) ∧ (tp_fld (f1 h0) 15) = (tp_fld (f h0) 15) ∧ (tp_fld (f1 h0) 19) = (tp_fld (f h0) 19) ∧ (tp_fld (f1 h0) 20) = (tp_fld (f h0) 20) ∧ (tp_fld (f1 h0) 28) = (tp_fld (f h0) 28)) (fun (f1 : Nat → va_E) (t : State) => pz_E dC dI (tp_K κ) (va_A (va_pl L f) sz) (va_pl L f1) t) (va_A (va_pl L f) sz)) 0 0 (va_A (va_pl L f) sz) := by
  refine Met.ofW (cc := cX12_emit) (maxL := 3) (ret := none) (by decide) rfl ?_
  intro p e s m args below meth c s₁ B hml hv
  obtain ⟨rfl, hsz, hP, hK, hD0, hN⟩ := hv
  have hx := B.exec
  have hb := B.bytes
  have hr := B.returns
  have hts := fun (w : Cond) (h : w ∈ WALL) => atoms_spec (ws := wqX12_emit) B.pre w (List.mem_cons_of_mem _ h)
  have hown : s.vm.findClass RX12 = some m.cls := findClass_of_methodNamed B.named
  have hlocks := B.notSynchronized
  subst hsz
  have hD := hD0.self (sz := s.heap.size)
  generalize hAe : va_A (va_pl L f) s.heap.size = A at hD ⊢
  have hA : ∀ q : Nat, s.heap.size ≤ q → A q := fun q h => by rw [← hAe]; exact Or.inr h
  have hS : va_S A s.heap s.heap [] := va_S.rf
  have hR : tp_F τ [13, 53, 54] f f := tp_F.rf
  have hl := lv_entry ([.ref h0, .int v, .int u]) (n := 3) (Nat.le_of_ble_eq_true rfl)
  rw [lg_entry_eq]
  generalize (lg_sl ([.ref h0, .int v, .int u]) ++ List.replicate (3 - (lg_sl ([.ref h0, .int v, .int u])).length) Slot.unset).toArray = ls at hl ⊢
  have hl : lv_has ls 3 [(0, .ref h0), (1, .int v), (2, .int u)] := hl
  refine tgk_13 hG ht_h0 (fun y1 y2 y3 y4 y5 y6 y7 y8 y9 y10 y11 y12 y13 y14 y15 y16 y17 y18 y19 y20 y21 y22 y23 y24 y25 => ?_)
  refine tpk_53 hT y8 (fun g27 hf_o26 => ?_)
  have tf28 : mo_hd (mo_i (f (ρ h0 23)) = g27) := tfa_i hf_o26
  refine tpk_54 hT y9 (fun g30 hf_o29 => ?_)
  have tf31 : mo_hd (mo_i (f (ρ h0 24)) = g30) := tfa_i hf_o29
  refine tpk_13 hT ht_h0 (fun o32_x0 o32_x1 o32_x7 o32_x9 o32_x10 o32_x11 o32_x12 o32_x13 o32_x14 o32_x15 o32_x16 o32_x17 o32_x18 o32_x19 o32_x20 o32_x22 o32_x25 o32_x28 o32_x29 o32_x32 o32_x33 o32_x34 o32_x35 o32_x36 o32_x37 o32_x38 o32_x47 o32_x48 hf_o32 ro32_0 ro32_1 ro32_2 ro32_3 ro32_4 ro32_5 ro32_6 ro32_7 ro32_8 ro32_9 ro32_10 ro32_11 ro32_12 ro32_13 => ?_)
  have tf33 : mo_hd (tp_fld (f h0) 9 = o32_x9.toInt) := tff_9 hf_o32
  have tf34 : mo_hd (tp_fld (f h0) 10 = o32_x10.toInt) := tff_10 hf_o32
  have tf35 : mo_hd (tp_fld (f h0) 11 = o32_x11.toInt) := tff_11 hf_o32
  have tf36 : mo_hd (tp_fld (f h0) 12 = o32_x12.toInt) := tff_12 hf_o32
  have tf37 : mo_hd (tp_fld (f h0) 15 = o32_x15.toInt) := tff_15 hf_o32
  have tf38 : mo_hd (tp_fld (f h0) 19 = o32_x19.toInt) := tff_19 hf_o32
  have tf39 : mo_hd (tp_fld (f h0) 20 = o32_x20.toInt) := tff_20 hf_o32
  have tf40 : mo_hd (tp_fld (f h0) 22 = o32_x22.toInt) := tff_22 hf_o32
  have tf41 : mo_hd (tp_fld (f h0) 28 = o32_x28.toInt) := tff_28 hf_o32
  have tf42 : mo_hd (mo_fj (f h0) 13 = o32_x13.toInt) := tff_13 hf_o32
  replace h22 : o32_x22.toInt < 400 := by have q9 := h22; first | (simp only [(mo_un tf40), mo_i1, mo_l1] at q9; exact q9) | (rw [(mo_un tf40)] at q9; exact q9)
  refine lv_aload_n hx hb dX12_emit_0 rfl (lv_at hl 0 rfl) ?_
  refine tpk_pos (tp_in hG ht_h0 (by decide)) hf_o32 (fun q43 eq43 => ?_)
  refine va_get (D := (dC, dI)) (ci := 12) (v := .ref (ρ h0 23)) (C := RX12) (T := TX12) (N := 53) hx hb hts hfX12 hown hK hP q43 eq43 rfl 23 (by decide) (hts (.fieldLink RX12 37 "ColdShipsModel" "nOp" "[I") wa_157) (fun _ h9 => h9) rfl dX12_emit_1 ?_
  refine lv_aload_n hx hb dX12_emit_4 rfl (lv_at hl 0 rfl) ?_
  refine va_get (D := (dC, dI)) (ci := 12) (v := .int o32_x22) (C := RX12) (T := TX12) (N := 53) hx hb hts hfX12 hown hK hP q43 eq43 rfl 22 (by decide) (hts (.fieldLink RX12 297 "ColdShipsModel" "nCode" "I") wa_989) (fun _ h9 => h9) rfl dX12_emit_5 ?_
  refine lv_iload_n hx hb dX12_emit_8 rfl (lv_at hl 1 rfl) ?_
  refine tpk_pos (tp_in hG y8 (by decide)) hf_o26 (fun q44 eq44 => ?_)
  refine va_iast hx hb hK hP hD hS q44 0 eq44 rfl (vp_in_iff.mpr ⟨by omega, by omega⟩) dX12_emit_9 (tp_k (.inl (κ 0, 400, .inl (upd g27 o32_x22.toNatClampNeg v))) hD (tp_in hG y8 (by decide)) eq44 (fun f45 H locs hP hD hS g47 k46 => ?_))
  have hT := hT.up y8 g47 k46 tp_o53
  have hR := hR.up y8 (by decide) k46
  have hU49 : mo_U (mo_R g27) (mo_R (upd g27 o32_x22.toNatClampNeg v)) (o32_x22.toInt) (v.toInt) := mo_up (by omega) (rfl : v.toInt = _) (by omega)
  generalize (upd g27 o32_x22.toNatClampNeg v) = g48 at g47 hU49
  refine lv_aload_n hx hb dX12_emit_10 rfl (lv_at hl 0 rfl) ?_
  have hf_50 : f45 h0 = .inr (12, [.int o32_x0, .int o32_x1, .ref (ρ h0 2), .ref (ρ h0 3), .ref (ρ h0 4), .ref (ρ h0 5), .ref (ρ h0 6), .int o32_x7, .ref (ρ h0 8), .int o32_x9, .int o32_x10, .int o32_x11, .int o32_x12, .long o32_x13, .int o32_x14, .int o32_x15, .int o32_x16, .int o32_x17, .int o32_x18, .int o32_x19, .int o32_x20, .ref (ρ h0 21), .int o32_x22, .ref (ρ h0 23), .ref (ρ h0 24), .int o32_x25, .ref (ρ h0 26), .ref (ρ h0 27), .int o32_x28, .int o32_x29, .ref (ρ h0 30), .ref (ρ h0 31), .int o32_x32, .long o32_x33, .long o32_x34, .long o32_x35, .int o32_x36, .int o32_x37, .int o32_x38, .ref (ρ h0 39), .ref (ρ h0 40), .ref (ρ h0 41), .ref (ρ h0 42), .ref (ρ h0 43), .ref (ρ h0 44), .ref (ρ h0 45), .ref (ρ h0 46), .int o32_x47, .int o32_x48, .ref (ρ h0 49), .ref (ρ h0 50), .ref (ρ h0 51), .ref (ρ h0 52)]) := (k46 _ (tp_ne ht_h0 y8 (by decide))).trans hf_o32
  refine tpk_pos (tp_in hG ht_h0 (by decide)) hf_50 (fun q51 eq51 => ?_)
  refine va_get (D := (dC, dI)) (ci := 12) (v := .ref (ρ h0 24)) (C := RX12) (T := TX12) (N := 53) hx hb hts hfX12 hown hK hP q51 eq51 rfl 24 (by decide) (hts (.fieldLink RX12 40 "ColdShipsModel" "nArg" "[I") wa_158) (fun _ h9 => h9) rfl dX12_emit_11 ?_
  refine lv_aload_n hx hb dX12_emit_14 rfl (lv_at hl 0 rfl) ?_
  refine va_get (D := (dC, dI)) (ci := 12) (v := .int o32_x22) (C := RX12) (T := TX12) (N := 53) hx hb hts hfX12 hown hK hP q51 eq51 rfl 22 (by decide) (hts (.fieldLink RX12 297 "ColdShipsModel" "nCode" "I") wa_989) (fun _ h9 => h9) rfl dX12_emit_15 ?_
  refine lv_iload_n hx hb dX12_emit_18 rfl (lv_at hl 2 rfl) ?_
  have hf_52 : f45 (ρ h0 24) = .inl (κ 0, 400, .inl g30) := (k46 _ (tp_ne y9 y8 (by decide))).trans hf_o29
  refine tpk_pos (tp_in hG y9 (by decide)) hf_52 (fun q53 eq53 => ?_)
  refine va_iast hx hb hK hP hD hS q53 0 eq53 rfl (vp_in_iff.mpr ⟨by omega, by omega⟩) dX12_emit_19 (tp_k (.inl (κ 0, 400, .inl (upd g30 o32_x22.toNatClampNeg u))) hD (tp_in hG y9 (by decide)) eq53 (fun f54 H locs hP hD hS g56 k55 => ?_))
  have hT := hT.up y9 g56 k55 tp_o54
  have hR := hR.up y9 (by decide) k55
  have hU58 : mo_U (mo_R g30) (mo_R (upd g30 o32_x22.toNatClampNeg u)) (o32_x22.toInt) (u.toInt) := mo_up (by omega) (rfl : u.toInt = _) (by omega)
  generalize (upd g30 o32_x22.toNatClampNeg u) = g57 at g56 hU58
  refine lv_aload_n hx hb dX12_emit_20 rfl (lv_at hl 0 rfl) ?_
  refine lv_dup hx hb dX12_emit_21 rfl ?_
  have hf_59 : f54 h0 = .inr (12, [.int o32_x0, .int o32_x1, .ref (ρ h0 2), .ref (ρ h0 3), .ref (ρ h0 4), .ref (ρ h0 5), .ref (ρ h0 6), .int o32_x7, .ref (ρ h0 8), .int o32_x9, .int o32_x10, .int o32_x11, .int o32_x12, .long o32_x13, .int o32_x14, .int o32_x15, .int o32_x16, .int o32_x17, .int o32_x18, .int o32_x19, .int o32_x20, .ref (ρ h0 21), .int o32_x22, .ref (ρ h0 23), .ref (ρ h0 24), .int o32_x25, .ref (ρ h0 26), .ref (ρ h0 27), .int o32_x28, .int o32_x29, .ref (ρ h0 30), .ref (ρ h0 31), .int o32_x32, .long o32_x33, .long o32_x34, .long o32_x35, .int o32_x36, .int o32_x37, .int o32_x38, .ref (ρ h0 39), .ref (ρ h0 40), .ref (ρ h0 41), .ref (ρ h0 42), .ref (ρ h0 43), .ref (ρ h0 44), .ref (ρ h0 45), .ref (ρ h0 46), .int o32_x47, .int o32_x48, .ref (ρ h0 49), .ref (ρ h0 50), .ref (ρ h0 51), .ref (ρ h0 52)]) := (k55 _ (tp_ne ht_h0 y9 (by decide))).trans hf_50
  refine tpk_pos (tp_in hG ht_h0 (by decide)) hf_59 (fun q60 eq60 => ?_)
  refine va_get (D := (dC, dI)) (ci := 12) (v := .int o32_x22) (C := RX12) (T := TX12) (N := 53) hx hb hts hfX12 hown hK hP q60 eq60 rfl 22 (by decide) (hts (.fieldLink RX12 297 "ColdShipsModel" "nCode" "I") wa_989) (fun _ h9 => h9) rfl dX12_emit_22 ?_
  refine lv_iconst (v := 1) hx hb dX12_emit_25 (by decide) ?_
  refine lv_iadd hx hb dX12_emit_26 ?_
  refine lv_topi (fun z61 ez61 => ?_)
  have iz61 : z61.toInt = o32_x22.toInt + 1 := zi_add ez61 rfl rfl (by omega) (by omega)
  refine va_put (D := (dC, dI)) (ci := 12) (v := .int z61) (ty := .int) (C := RX12) (T := TX12) (N := 53) hx hb hts hfX12 tyX12 tyX12_ok nmX12 hown hK hP hD hS q60 eq60 rfl 22 (by decide) (hts (.fieldLink RX12 297 "ColdShipsModel" "nCode" "I") wa_989) (fun _ h9 => h9) rfl (tyX12_ok 22 (by decide)) rfl rfl (Nat.le_of_ble_eq_true rfl) dX12_emit_27 (tp_k (.inr (12, [.int o32_x0, .int o32_x1, .ref (ρ h0 2), .ref (ρ h0 3), .ref (ρ h0 4), .ref (ρ h0 5), .ref (ρ h0 6), .int o32_x7, .ref (ρ h0 8), .int o32_x9, .int o32_x10, .int o32_x11, .int o32_x12, .long o32_x13, .int o32_x14, .int o32_x15, .int o32_x16, .int o32_x17, .int o32_x18, .int o32_x19, .int o32_x20, .ref (ρ h0 21), .int z61, .ref (ρ h0 23), .ref (ρ h0 24), .int o32_x25, .ref (ρ h0 26), .ref (ρ h0 27), .int o32_x28, .int o32_x29, .ref (ρ h0 30), .ref (ρ h0 31), .int o32_x32, .long o32_x33, .long o32_x34, .long o32_x35, .int o32_x36, .int o32_x37, .int o32_x38, .ref (ρ h0 39), .ref (ρ h0 40), .ref (ρ h0 41), .ref (ρ h0 42), .ref (ρ h0 43), .ref (ρ h0 44), .ref (ρ h0 45), .ref (ρ h0 46), .int o32_x47, .int o32_x48, .ref (ρ h0 49), .ref (ρ h0 50), .ref (ρ h0 51), .ref (ρ h0 52)])) hD (tp_in hG ht_h0 (by decide)) eq60 (fun f62 H locs hP hD hS g64 k63 => ?_))
  have hT := hT.up ht_h0 g64 k63 ⟨_, _, _, _, _, _, _, _, _, _, _, _, _, _, _, _, _, _, _, _, _, _, _, _, _, _, _, _, rfl, ro32_0, ro32_1, ro32_2, ro32_3, ro32_4, ro32_5, ro32_6, ro32_7, (by omega), ro32_9, ro32_10, ro32_11, ro32_12, ro32_13⟩
  have hR := hR.up ht_h0 (by decide) k63
  have hf_65 : f54 (ρ h0 23) = .inl (κ 0, 400, .inl g48) := (k55 _ (tp_ne y8 y9 (by decide))).trans g47
  have hf_66 : f62 (ρ h0 23) = .inl (κ 0, 400, .inl g48) := (k63 _ (tp_ne y8 ht_h0 (by decide))).trans hf_65
  have tf67 : mo_hd (mo_i (f62 (ρ h0 23)) = g48) := tfa_i hf_66
  have hf_68 : f62 (ρ h0 24) = .inl (κ 0, 400, .inl g57) := (k63 _ (tp_ne y9 ht_h0 (by decide))).trans g56
  have tf69 : mo_hd (mo_i (f62 (ρ h0 24)) = g57) := tfa_i hf_68
  have tf70 : mo_hd (tp_fld (f62 h0) 22 = z61.toInt) := tff_22 g64
  have tf71 : mo_hd (tp_fld (f62 h0) 9 = o32_x9.toInt) := tff_9 g64
  have tf72 : mo_hd (tp_fld (f62 h0) 10 = o32_x10.toInt) := tff_10 g64
  have tf73 : mo_hd (tp_fld (f62 h0) 11 = o32_x11.toInt) := tff_11 g64
  have tf74 : mo_hd (tp_fld (f62 h0) 12 = o32_x12.toInt) := tff_12 g64
  have tf75 : mo_hd (mo_fj (f62 h0) 13 = o32_x13.toInt) := tff_13 g64
  have tf76 : mo_hd (tp_fld (f62 h0) 15 = o32_x15.toInt) := tff_15 g64
  have tf77 : mo_hd (tp_fld (f62 h0) 19 = o32_x19.toInt) := tff_19 g64
  have tf78 : mo_hd (tp_fld (f62 h0) 20 = o32_x20.toInt) := tff_20 g64
  have tf79 : mo_hd (tp_fld (f62 h0) 28 = o32_x28.toInt) := tff_28 g64
  exact W.vret hx hb hr (fun t ht hW => ⟨⟨f62, rfl, ⟨hT, hR, (by first | (simp only [(mo_un tf28), (mo_un tf67), (mo_un tf40), (mo_un tf31), (mo_un tf69), (mo_un tf70), (mo_un tf71), (mo_un tf33), (mo_un tf72), (mo_un tf34), (mo_un tf73), (mo_un tf35), (mo_un tf74), (mo_un tf36), (mo_un tf75), (mo_un tf42), (mo_un tf76), (mo_un tf37), (mo_un tf77), (mo_un tf38), (mo_un tf78), (mo_un tf39), (mo_un tf79), (mo_un tf41), mo_i1, mo_l1]; exact (show mo_U (mo_R g27) (mo_R g48) o32_x22.toInt v.toInt ∧ mo_U (mo_R g30) (mo_R g57) o32_x22.toInt u.toInt ∧ z61.toInt = o32_x22.toInt + 1 ∧ o32_x9.toInt = o32_x9.toInt ∧ o32_x10.toInt = o32_x10.toInt ∧ o32_x11.toInt = o32_x11.toInt ∧ o32_x12.toInt = o32_x12.toInt ∧ o32_x13.toInt = o32_x13.toInt ∧ o32_x15.toInt = o32_x15.toInt ∧ o32_x19.toInt = o32_x19.toInt ∧ o32_x20.toInt = o32_x20.toInt ∧ o32_x28.toInt = o32_x28.toInt from ⟨hU49, hU58, by omega, rfl, rfl, rfl, rfl, rfl, rfl, rfl, rfl, rfl⟩)) | (rw [(mo_un tf28), (mo_un tf67), (mo_un tf40), (mo_un tf31), (mo_un tf69), (mo_un tf70), (mo_un tf71), (mo_un tf33), (mo_un tf72), (mo_un tf34), (mo_un tf73), (mo_un tf35), (mo_un tf74), (mo_un tf36), (mo_un tf75), (mo_un tf42), (mo_un tf76), (mo_un tf37), (mo_un tf77), (mo_un tf38), (mo_un tf78), (mo_un tf39), (mo_un tf79), (mo_un tf41)]; exact (show mo_U (mo_R g27) (mo_R g48) o32_x22.toInt v.toInt ∧ mo_U (mo_R g30) (mo_R g57) o32_x22.toInt u.toInt ∧ z61.toInt = o32_x22.toInt + 1 ∧ o32_x9.toInt = o32_x9.toInt ∧ o32_x10.toInt = o32_x10.toInt ∧ o32_x11.toInt = o32_x11.toInt ∧ o32_x12.toInt = o32_x12.toInt ∧ o32_x13.toInt = o32_x13.toInt ∧ o32_x15.toInt = o32_x15.toInt ∧ o32_x19.toInt = o32_x19.toInt ∧ o32_x20.toInt = o32_x20.toInt ∧ o32_x28.toInt = o32_x28.toInt from ⟨hU49, hU58, by omega, rfl, rfl, rfl, rfl, rfl, rfl, rfl, rfl, rfl⟩)))⟩, by rw [ht]; exact hP, va_K.moved hW.alike hK, hD⟩, hS.F ht⟩) hS.2.2 dX12_emit_30
