section
set_option maxHeartbeats 4000000 in
set_option maxRecDepth 100000 in
theorem t_X12_next (l : Launch) (dC : Nat → ClassId) (dI : Nat → Nat → Nat) (sz : Nat) (κ : Nat → ClassId) (Θ : Nat → Option Int) (τ ν : Nat → Nat) (ρ : Nat → Nat → Nat) (L : List Nat) (f : Nat → va_E) (hG : tp_G τ ν ρ L) (hT : tp_T (mo_O κ Θ) κ τ ν ρ f) (h0 : Nat) (ht_h0 : τ h0 = 13) (h11 : (tp_fld (f h0) 11) ≤ (tp_fld (f h0) 9)) : Met l yX12_next wqX12_next ({ frames := 3, cells := 0, slots := 0, locals := 800 }) (va_Pc [.ref h0] (pz_B dC dI (tp_K κ) (va_pl L f) sz)) (va_Qv (fun (f1 : Nat → va_E) => tp_T (mo_O κ Θ) κ τ ν ρ f1 ∧ tp_F τ [13] f f1 ∧ ((tp_fld (f1 h0) 10) ≤ (tp_fld (f1 h0) 11) ∧ (tp_fld (f1 h0) 11) ≤ (tp_fld (f1 h0) 9) ∧ ((tp_fld (f1 h0) 12) = 0 ∨ (tp_fld (f1 h0) 10) < (tp_fld (f1 h0) 11)) ∧ ((tp_fld (f1 h0) 12) = 1 → (tp_fld (f1 h0) 11) = (tp_fld (f1 h0) 10) + 1 → (mo_fj (f1 h0) 13) ≤ 26)) ∧ (tp_fld (f h0) 11) ≤ (tp_fld (f1 h0) 10) ∧ (tp_fld (f1 h0) 9) = (tp_fld (f h0) 9) ∧ (tp_fld (f1 h0) 15) = (tp_fld (f h0) 15) ∧ (tp_fld (f1 h0) 19) = (tp_fld (f h0) 19) ∧ (tp_fld (f1 h0) 20) = (tp_fld (f h0) 20) ∧ (tp_fld (f1 h0) 22) = (tp_fld (f h0) 22) ∧ (tp_fld (f1 h0) 28) = (tp_fld (f h0) 28)) (fun (f1 : Nat → va_E) (t : State) => pz_E dC dI (tp_K κ) (va_A (va_pl L f) sz) (va_pl L f1) t) (va_A (va_pl L f) sz)) 0 0 (va_A (va_pl L f) sz) := by
  refine Met.ofW (cc := cX12_next) (maxL := 1) (ret := none) (by decide) rfl ?_
  intro p e s m args below meth c s₁ B hml hv
  obtain ⟨rfl, hsz, hP, hK, hD0, hN⟩ := hv
  have hx := B.exec
  have hb := B.bytes
  have hr := B.returns
  have hts := fun (w : Cond) (h : w ∈ WALL) => atoms_spec (ws := wqX12_next) B.pre w (List.mem_cons_of_mem _ h)
  have hown : s.vm.findClass RX12 = some m.cls := findClass_of_methodNamed B.named
  have hlocks := B.notSynchronized
  subst hsz
  have hD := hD0.self (sz := s.heap.size)
  generalize hAe : va_A (va_pl L f) s.heap.size = A at hD ⊢
  have hA : ∀ q : Nat, s.heap.size ≤ q → A q := fun q h => by rw [← hAe]; exact Or.inr h
  have hS : va_S A s.heap s.heap [] := va_S.rf
  have hR : tp_F τ [13] f f := tp_F.rf
  have hl := lv_entry ([.ref h0]) (n := 1) (Nat.le_of_ble_eq_true rfl)
  rw [lg_entry_eq]
  generalize (lg_sl ([.ref h0]) ++ List.replicate (1 - (lg_sl ([.ref h0])).length) Slot.unset).toArray = ls at hl ⊢
  have hl : lv_has ls 1 [(0, .ref h0)] := hl
  refine tgk_13 hG ht_h0 (fun y1 y2 y3 y4 y5 y6 y7 y8 y9 y10 y11 y12 y13 y14 y15 y16 y17 y18 y19 y20 y21 y22 y23 y24 y25 => ?_)
  refine tpk_13 hT ht_h0 (fun o26_x0 o26_x1 o26_x7 o26_x9 o26_x10 o26_x11 o26_x12 o26_x13 o26_x14 o26_x15 o26_x16 o26_x17 o26_x18 o26_x19 o26_x20 o26_x22 o26_x25 o26_x28 o26_x29 o26_x32 o26_x33 o26_x34 o26_x35 o26_x36 o26_x37 o26_x38 o26_x47 o26_x48 hf_o26 ro26_0 ro26_1 ro26_2 ro26_3 ro26_4 ro26_5 ro26_6 ro26_7 ro26_8 ro26_9 ro26_10 ro26_11 ro26_12 ro26_13 ro26_14 => ?_)
  have tf27 : mo_hd (tp_fld (f h0) 9 = o26_x9.toInt) := tff_9 hf_o26
  have tf28 : mo_hd (tp_fld (f h0) 11 = o26_x11.toInt) := tff_11 hf_o26
  have tf29 : mo_hd (tp_fld (f h0) 15 = o26_x15.toInt) := tff_15 hf_o26
  have tf30 : mo_hd (tp_fld (f h0) 19 = o26_x19.toInt) := tff_19 hf_o26
  have tf31 : mo_hd (tp_fld (f h0) 20 = o26_x20.toInt) := tff_20 hf_o26
  have tf32 : mo_hd (tp_fld (f h0) 22 = o26_x22.toInt) := tff_22 hf_o26
  have tf33 : mo_hd (tp_fld (f h0) 28 = o26_x28.toInt) := tff_28 hf_o26
  have ro26_3 := tp_hu ro26_3; have ro26_1 := tp_hu ro26_1; have ro26_14 := tp_hu ro26_14
  replace h11 : o26_x11.toInt ≤ o26_x9.toInt := by have q9 := h11; first | (simp only [(mo_un tf28), (mo_un tf27), mo_i1, mo_l1] at q9; exact q9) | (rw [(mo_un tf28), (mo_un tf27)] at q9; exact q9)
  refine tpk_38 hT y6 (fun g35 hf_o34 => ?_)
  have tf36 : mo_hd (mo_i (f (ρ h0 8)) = g35) := tfa_i hf_o34
  refine lv_aload_n hx hb dX12_next_0 rfl (lv_at hl 0 rfl) ?_
  refine lv_aload_n hx hb dX12_next_1 rfl (lv_at hl 0 rfl) ?_
  refine tpk_pos (tp_in hG ht_h0 (by decide)) hf_o26 (fun q37 eq37 => ?_)
  refine va_get (D := (dC, dI)) (ci := 12) (v := .int o26_x11) (C := RX12) (T := TX12) (N := 53) hx hb hts hfX12 hown hK hP q37 eq37 rfl 11 (by decide) (hts (.fieldLink RX12 258 "ColdShipsModel" "to" "I") wa_1000) (fun _ h9 => h9) rfl dX12_next_2 ?_
  refine va_put (D := (dC, dI)) (ci := 12) (v := .int o26_x11) (ty := .int) (C := RX12) (T := TX12) (N := 53) hx hb hts hfX12 tyX12 tyX12_ok nmX12 hown hK hP hD hS q37 eq37 rfl 10 (by decide) (hts (.fieldLink RX12 267 "ColdShipsModel" "from" "I") wa_1005) (fun _ h9 => h9) rfl (tyX12_ok 10 (by decide)) rfl rfl (Nat.le_of_ble_eq_true rfl) dX12_next_5 (tp_k (.inr (12, [.int o26_x0, .int o26_x1, .ref (ρ h0 2), .ref (ρ h0 3), .ref (ρ h0 4), .ref (ρ h0 5), .ref (ρ h0 6), .int o26_x7, .ref (ρ h0 8), .int o26_x9, .int o26_x11, .int o26_x11, .int o26_x12, .long o26_x13, .int o26_x14, .int o26_x15, .int o26_x16, .int o26_x17, .int o26_x18, .int o26_x19, .int o26_x20, .ref (ρ h0 21), .int o26_x22, .ref (ρ h0 23), .ref (ρ h0 24), .int o26_x25, .ref (ρ h0 26), .ref (ρ h0 27), .int o26_x28, .int o26_x29, .ref (ρ h0 30), .ref (ρ h0 31), .int o26_x32, .long o26_x33, .long o26_x34, .long o26_x35, .int o26_x36, .int o26_x37, .int o26_x38, .ref (ρ h0 39), .ref (ρ h0 40), .ref (ρ h0 41), .ref (ρ h0 42), .ref (ρ h0 43), .ref (ρ h0 44), .ref (ρ h0 45), .ref (ρ h0 46), .int o26_x47, .int o26_x48, .ref (ρ h0 49), .ref (ρ h0 50), .ref (ρ h0 51), .ref (ρ h0 52)])) hD (tp_in hG ht_h0 (by decide)) eq37 (fun f38 H locs hP hD hS g40 k39 => ?_))
  have hT := hT.up ht_h0 g40 k39 ⟨_, _, _, _, _, _, _, _, _, _, _, _, _, _, _, _, _, _, _, _, _, _, _, _, _, _, _, _, rfl, ro26_0, ro26_1, (by omega), ro26_3, ro26_4, ro26_5, ro26_6, ro26_7, ro26_8, ro26_9, ro26_10, ro26_11, ro26_12, ro26_13, ro26_14⟩
  have hR := hR.up ht_h0 (by decide) k39
  have hf_44 : f38 (ρ h0 8) = .inl (κ 0, 400, .inl g35) := (k39 _ (tp_ne y6 ht_h0 (by decide))).trans hf_o34
  refine pz_loop (fun n0 H locs ls => ∃ f47 : Nat → va_E, ∃ w41 : Int32, n0 = (400 - (w41.toInt)).toNat ∧ tp_T (mo_O κ Θ) κ τ ν ρ f47 ∧ tp_F τ [13] f f47 ∧ f47 (ρ h0 8) = .inl (κ 0, 400, .inl g35) ∧ f47 h0 = .inr (12, [.int o26_x0, .int o26_x1, .ref (ρ h0 2), .ref (ρ h0 3), .ref (ρ h0 4), .ref (ρ h0 5), .ref (ρ h0 6), .int o26_x7, .ref (ρ h0 8), .int o26_x9, .int w41, .int o26_x11, .int o26_x12, .long o26_x13, .int o26_x14, .int o26_x15, .int o26_x16, .int o26_x17, .int o26_x18, .int o26_x19, .int o26_x20, .ref (ρ h0 21), .int o26_x22, .ref (ρ h0 23), .ref (ρ h0 24), .int o26_x25, .ref (ρ h0 26), .ref (ρ h0 27), .int o26_x28, .int o26_x29, .ref (ρ h0 30), .ref (ρ h0 31), .int o26_x32, .long o26_x33, .long o26_x34, .long o26_x35, .int o26_x36, .int o26_x37, .int o26_x38, .ref (ρ h0 39), .ref (ρ h0 40), .ref (ρ h0 41), .ref (ρ h0 42), .ref (ρ h0 43), .ref (ρ h0 44), .ref (ρ h0 45), .ref (ρ h0 46), .int o26_x47, .int o26_x48, .ref (ρ h0 49), .ref (ρ h0 50), .ref (ρ h0 51), .ref (ρ h0 52)]) ∧ (0 ≤ w41.toInt ∧ w41.toInt ≤ 400) ∧ (o26_x11.toInt ≤ (w41.toInt)) ∧ ((w41.toInt) ≤ o26_x9.toInt) ∧ va_P (dC, dI) vwCl (va_pl L f47) H ∧ va_D A (va_pl L f47) ∧ va_S A s.heap H locs ∧ lv_has ls 1 [(0, .ref h0)]) ?_ _ _ _ _ ⟨f38, o26_x11, rfl, hT, hR, hf_44, g40, (by omega), (by omega), (by omega), hP, hD, hS, lv_sub hl [0] rfl⟩
  intro n0 H locs ls hI ih49
  refine Exists.elim hI (fun f47 hE90 => Exists.elim hE90 (fun w41 hE91 => tn_12 hE91 (fun hn50 hT hR hk45k hk46k rw41 k42 k43 hP hD hS hl => ?_)))
  clear hE91 hE90 hI
  refine lv_aload_n hx hb dX12_next_8 rfl (lv_at hl 0 rfl) ?_
  refine tpk_pos (tp_in hG ht_h0 (by decide)) hk46k (fun q51 eq51 => ?_)
  refine va_get (D := (dC, dI)) (ci := 12) (v := .int w41) (C := RX12) (T := TX12) (N := 53) hx hb hts hfX12 hown hK hP q51 eq51 rfl 10 (by decide) (hts (.fieldLink RX12 267 "ColdShipsModel" "from" "I") wa_1005) (fun _ h9 => h9) rfl dX12_next_9 ?_
  refine lv_aload_n hx hb dX12_next_12 rfl (lv_at hl 0 rfl) ?_
  refine va_get (D := (dC, dI)) (ci := 12) (v := .int o26_x9) (C := RX12) (T := TX12) (N := 53) hx hb hts hfX12 hown hK hP q51 eq51 rfl 9 (by decide) (hts (.fieldLink RX12 252 "ColdShipsModel" "taped" "I") wa_774) (fun _ h9 => h9) rfl dX12_next_13 ?_
  refine lv_icmp_ge (tgt := 46) hx hb dX12_next_16 (by decide) (fun c52 => ?_) (fun c52 => ?_)
  · have ic52 : w41.toInt ≥ o26_x9.toInt := zi_ge rfl rfl c52
    refine lv_aload_n hx hb dX12_next_46 rfl (lv_at hl 0 rfl) ?_
    refine lv_aload_n hx hb dX12_next_47 rfl (lv_at hl 0 rfl) ?_
    refine va_get (D := (dC, dI)) (ci := 12) (v := .int w41) (C := RX12) (T := TX12) (N := 53) hx hb hts hfX12 hown hK hP q51 eq51 rfl 10 (by decide) (hts (.fieldLink RX12 267 "ColdShipsModel" "from" "I") wa_1005) (fun _ h9 => h9) rfl dX12_next_48 ?_
    refine va_put (D := (dC, dI)) (ci := 12) (v := .int w41) (ty := .int) (C := RX12) (T := TX12) (N := 53) hx hb hts hfX12 tyX12 tyX12_ok nmX12 hown hK hP hD hS q51 eq51 rfl 11 (by decide) (hts (.fieldLink RX12 258 "ColdShipsModel" "to" "I") wa_1000) (fun _ h9 => h9) rfl (tyX12_ok 11 (by decide)) rfl rfl (Nat.le_of_ble_eq_true rfl) dX12_next_51 (tp_k (.inr (12, [.int o26_x0, .int o26_x1, .ref (ρ h0 2), .ref (ρ h0 3), .ref (ρ h0 4), .ref (ρ h0 5), .ref (ρ h0 6), .int o26_x7, .ref (ρ h0 8), .int o26_x9, .int w41, .int w41, .int o26_x12, .long o26_x13, .int o26_x14, .int o26_x15, .int o26_x16, .int o26_x17, .int o26_x18, .int o26_x19, .int o26_x20, .ref (ρ h0 21), .int o26_x22, .ref (ρ h0 23), .ref (ρ h0 24), .int o26_x25, .ref (ρ h0 26), .ref (ρ h0 27), .int o26_x28, .int o26_x29, .ref (ρ h0 30), .ref (ρ h0 31), .int o26_x32, .long o26_x33, .long o26_x34, .long o26_x35, .int o26_x36, .int o26_x37, .int o26_x38, .ref (ρ h0 39), .ref (ρ h0 40), .ref (ρ h0 41), .ref (ρ h0 42), .ref (ρ h0 43), .ref (ρ h0 44), .ref (ρ h0 45), .ref (ρ h0 46), .int o26_x47, .int o26_x48, .ref (ρ h0 49), .ref (ρ h0 50), .ref (ρ h0 51), .ref (ρ h0 52)])) hD (tp_in hG ht_h0 (by decide)) eq51 (fun f53 H locs hP hD hS g55 k54 => ?_))
    have hT := hT.up ht_h0 g55 k54 ⟨_, _, _, _, _, _, _, _, _, _, _, _, _, _, _, _, _, _, _, _, _, _, _, _, _, _, _, _, rfl, ro26_0, ro26_1, (by omega), (by omega), ro26_4, ro26_5, ro26_6, ro26_7, ro26_8, ro26_9, ro26_10, ro26_11, ro26_12, ro26_13, ro26_14⟩
    have hR := hR.up ht_h0 (by decide) k54
    refine lv_aload_n hx hb dX12_next_54 rfl (lv_at hl 0 rfl) ?_
    refine lv_lconst (v := 0) hx hb dX12_next_55 (by decide) ?_
    refine tpk_pos (tp_in hG ht_h0 (by decide)) g55 (fun q56 eq56 => ?_)
    refine va_put (D := (dC, dI)) (ci := 12) (v := .long 0) (ty := .long) (C := RX12) (T := TX12) (N := 53) hx hb hts hfX12 tyX12 tyX12_ok nmX12 hown hK hP hD hS q56 eq56 rfl 13 (by decide) (hts (.fieldLink RX12 270 "ColdShipsModel" "worth" "J") wa_1006) (fun _ h9 => h9) rfl (tyX12_ok 13 (by decide)) rfl rfl (Nat.le_of_ble_eq_true rfl) dX12_next_56 (tp_k (.inr (12, [.int o26_x0, .int o26_x1, .ref (ρ h0 2), .ref (ρ h0 3), .ref (ρ h0 4), .ref (ρ h0 5), .ref (ρ h0 6), .int o26_x7, .ref (ρ h0 8), .int o26_x9, .int w41, .int w41, .int o26_x12, .long 0, .int o26_x14, .int o26_x15, .int o26_x16, .int o26_x17, .int o26_x18, .int o26_x19, .int o26_x20, .ref (ρ h0 21), .int o26_x22, .ref (ρ h0 23), .ref (ρ h0 24), .int o26_x25, .ref (ρ h0 26), .ref (ρ h0 27), .int o26_x28, .int o26_x29, .ref (ρ h0 30), .ref (ρ h0 31), .int o26_x32, .long o26_x33, .long o26_x34, .long o26_x35, .int o26_x36, .int o26_x37, .int o26_x38, .ref (ρ h0 39), .ref (ρ h0 40), .ref (ρ h0 41), .ref (ρ h0 42), .ref (ρ h0 43), .ref (ρ h0 44), .ref (ρ h0 45), .ref (ρ h0 46), .int o26_x47, .int o26_x48, .ref (ρ h0 49), .ref (ρ h0 50), .ref (ρ h0 51), .ref (ρ h0 52)])) hD (tp_in hG ht_h0 (by decide)) eq56 (fun f57 H locs hP hD hS g59 k58 => ?_))
    have hT := hT.up ht_h0 g59 k58 ⟨_, _, _, _, _, _, _, _, _, _, _, _, _, _, _, _, _, _, _, _, _, _, _, _, _, _, _, _, rfl, ro26_0, ro26_1, (by omega), (by omega), ro26_4, ro26_5, ro26_6, ro26_7, ro26_8, ro26_9, ro26_10, ro26_11, ro26_12, ro26_13, ro26_14⟩
    have hR := hR.up ht_h0 (by decide) k58
    refine lv_aload_n hx hb dX12_next_59 rfl (lv_at hl 0 rfl) ?_
    refine lv_aload_n hx hb dX12_next_60 rfl (lv_at hl 0 rfl) ?_
    refine tpk_pos (tp_in hG ht_h0 (by decide)) g59 (fun q60 eq60 => ?_)
    refine va_get (D := (dC, dI)) (ci := 12) (v := .int w41) (C := RX12) (T := TX12) (N := 53) hx hb hts hfX12 hown hK hP q60 eq60 rfl 10 (by decide) (hts (.fieldLink RX12 267 "ColdShipsModel" "from" "I") wa_1005) (fun _ h9 => h9) rfl dX12_next_61 ?_
    refine lv_aload_n hx hb dX12_next_64 rfl (lv_at hl 0 rfl) ?_
    refine va_get (D := (dC, dI)) (ci := 12) (v := .int o26_x9) (C := RX12) (T := TX12) (N := 53) hx hb hts hfX12 hown hK hP q60 eq60 rfl 9 (by decide) (hts (.fieldLink RX12 252 "ColdShipsModel" "taped" "I") wa_774) (fun _ h9 => h9) rfl dX12_next_65 ?_
    refine lv_icmp_ne (tgt := 75) hx hb dX12_next_68 (by decide) (fun c61 => ?_) (fun c61 => ?_)
    · have ic61 : w41.toInt ≠ o26_x9.toInt := zi_ne rfl rfl c61
      refine lv_aload_n hx hb dX12_next_75 rfl (lv_at hl 0 rfl) ?_
      refine va_get (D := (dC, dI)) (ci := 12) (v := .ref (ρ h0 8)) (C := RX12) (T := TX12) (N := 53) hx hb hts hfX12 hown hK hP q60 eq60 rfl 8 (by decide) (hts (.fieldLink RX12 27 "ColdShipsModel" "tape" "[I") wa_154) (fun _ h9 => h9) rfl dX12_next_76 ?_
      refine lv_aload_n hx hb dX12_next_79 rfl (lv_at hl 0 rfl) ?_
      refine va_get (D := (dC, dI)) (ci := 12) (v := .int w41) (C := RX12) (T := TX12) (N := 53) hx hb hts hfX12 hown hK hP q60 eq60 rfl 10 (by decide) (hts (.fieldLink RX12 267 "ColdShipsModel" "from" "I") wa_1005) (fun _ h9 => h9) rfl dX12_next_80 ?_
      have hf_62 : f53 (ρ h0 8) = .inl (κ 0, 400, .inl g35) := (k54 _ (tp_ne y6 ht_h0 (by decide))).trans hk45k
      have hf_63 : f57 (ρ h0 8) = .inl (κ 0, 400, .inl g35) := (k58 _ (tp_ne y6 ht_h0 (by decide))).trans hf_62
      refine tpk_pos (tp_in hG y6 (by decide)) hf_63 (fun q64 eq64 => ?_)
      refine va_iald hx hb hK hP q64 0 eq64 rfl (vp_in_iff.mpr ⟨by omega, by omega⟩) dX12_next_83 ?_
      refine lv_topi (fun z65 ez65 => ?_)
      have jz65 : z65.toInt = mo_R g35 w41.toInt := mo_rd ez65 (by omega)
      refine pz_calli (va_runS (As := [.int z65]) (rest := [.ref h0]) ⟨hx, hb, hml, hown, hts⟩ (t_X12_isSmall l dC dI _ z65 (z65.toInt) rfl) (va_cwS 1 hts gX12_next_X12_isSmall rfl rfl rfl pd_X12_isSmall ⟨Nat.le_of_ble_eq_true rfl, Nat.le_of_ble_eq_true rfl⟩) ⟨pz_blind, pz_pre pz_P0 (hK.sub (tys' := []) [] rfl) (pz_D0 (A := fun _ => True)) hN⟩ rfl rfl hl.1 rfl (lv_room (Nat.le_of_ble_eq_true rfl)) dX12_next_84 ⟨Nat.le_of_ble_eq_true rfl, Nat.le_of_ble_eq_true rfl⟩) (fun r66 hw67 => ?_)
      obtain ⟨hw67r, hw67p⟩ := hw67
      refine lv_if_eq (tgt := 94) hx hb dX12_next_87 (by decide) (fun c68 => ?_) (fun c68 => ?_)
      · have ic68 : r66.toInt = 0 := zi_eq rfl rfl c68
        have p69 : ¬ (97 ≤ (z65.toInt) ∧ (z65.toInt) ≤ 122) := (tp_cond.no hw67p) (by omega)
        clear hw67r ic68
        refine lv_aload_n hx hb dX12_next_94 rfl (lv_at hl 0 rfl) ?_
        refine va_get (D := (dC, dI)) (ci := 12) (v := .ref (ρ h0 8)) (C := RX12) (T := TX12) (N := 53) hx hb hts hfX12 hown hK hP q60 eq60 rfl 8 (by decide) (hts (.fieldLink RX12 27 "ColdShipsModel" "tape" "[I") wa_154) (fun _ h9 => h9) rfl dX12_next_95 ?_
        refine lv_aload_n hx hb dX12_next_98 rfl (lv_at hl 0 rfl) ?_
        refine va_get (D := (dC, dI)) (ci := 12) (v := .int w41) (C := RX12) (T := TX12) (N := 53) hx hb hts hfX12 hown hK hP q60 eq60 rfl 10 (by decide) (hts (.fieldLink RX12 267 "ColdShipsModel" "from" "I") wa_1005) (fun _ h9 => h9) rfl dX12_next_99 ?_
        refine va_iald hx hb hK hP q64 0 eq64 rfl (vp_in_iff.mpr ⟨by omega, by omega⟩) dX12_next_102 ?_
        refine lv_topi (fun z70 ez70 => ?_)
        have jz70 : z70.toInt = mo_R g35 w41.toInt := mo_rd ez70 (by omega)
        refine pz_calli (va_runS (As := [.int z70]) (rest := [.ref h0]) ⟨hx, hb, hml, hown, hts⟩ (t_X12_isDigit l dC dI _ z70 (z70.toInt) rfl) (va_cwS 1 hts gX12_next_X12_isDigit rfl rfl rfl pd_X12_isDigit ⟨Nat.le_of_ble_eq_true rfl, Nat.le_of_ble_eq_true rfl⟩) ⟨pz_blind, pz_pre pz_P0 (hK.sub (tys' := []) [] rfl) (pz_D0 (A := fun _ => True)) hN⟩ rfl rfl hl.1 rfl (lv_room (Nat.le_of_ble_eq_true rfl)) dX12_next_103 ⟨Nat.le_of_ble_eq_true rfl, Nat.le_of_ble_eq_true rfl⟩) (fun r71 hw72 => ?_)
        obtain ⟨hw72r, hw72p⟩ := hw72
        refine lv_if_eq (tgt := 113) hx hb dX12_next_106 (by decide) (fun c73 => ?_) (fun c73 => ?_)
        · have ic73 : r71.toInt = 0 := zi_eq rfl rfl c73
          have p74 : ¬ (48 ≤ (z70.toInt) ∧ (z70.toInt) ≤ 57) := (tp_cond.no hw72p) (by omega)
          clear hw72r ic73
          refine lv_iconst (v := 3) hx hb dX12_next_113 (by decide) ?_
          refine va_put (D := (dC, dI)) (ci := 12) (v := .int 3) (ty := .int) (C := RX12) (T := TX12) (N := 53) hx hb hts hfX12 tyX12 tyX12_ok nmX12 hown hK hP hD hS q60 eq60 rfl 12 (by decide) (hts (.fieldLink RX12 280 "ColdShipsModel" "sort" "I") wa_995) (fun _ h9 => h9) rfl (tyX12_ok 12 (by decide)) rfl rfl (Nat.le_of_ble_eq_true rfl) dX12_next_114 (tp_k (.inr (12, [.int o26_x0, .int o26_x1, .ref (ρ h0 2), .ref (ρ h0 3), .ref (ρ h0 4), .ref (ρ h0 5), .ref (ρ h0 6), .int o26_x7, .ref (ρ h0 8), .int o26_x9, .int w41, .int w41, .int 3, .long 0, .int o26_x14, .int o26_x15, .int o26_x16, .int o26_x17, .int o26_x18, .int o26_x19, .int o26_x20, .ref (ρ h0 21), .int o26_x22, .ref (ρ h0 23), .ref (ρ h0 24), .int o26_x25, .ref (ρ h0 26), .ref (ρ h0 27), .int o26_x28, .int o26_x29, .ref (ρ h0 30), .ref (ρ h0 31), .int o26_x32, .long o26_x33, .long o26_x34, .long o26_x35, .int o26_x36, .int o26_x37, .int o26_x38, .ref (ρ h0 39), .ref (ρ h0 40), .ref (ρ h0 41), .ref (ρ h0 42), .ref (ρ h0 43), .ref (ρ h0 44), .ref (ρ h0 45), .ref (ρ h0 46), .int o26_x47, .int o26_x48, .ref (ρ h0 49), .ref (ρ h0 50), .ref (ρ h0 51), .ref (ρ h0 52)])) hD (tp_in hG ht_h0 (by decide)) eq60 (fun f75 H locs hP hD hS g77 k76 => ?_))
          have hT := hT.up ht_h0 g77 k76 ⟨_, _, _, _, _, _, _, _, _, _, _, _, _, _, _, _, _, _, _, _, _, _, _, _, _, _, _, _, rfl, ro26_0, ro26_1, (by omega), (by omega), (by decide), ro26_5, ro26_6, ro26_7, ro26_8, ro26_9, ro26_10, ro26_11, ro26_12, ro26_13, ro26_14⟩
          have hR := hR.up ht_h0 (by decide) k76
          refine lv_aload_n hx hb dX12_next_117 rfl (lv_at hl 0 rfl) ?_
          refine tpk_pos (tp_in hG ht_h0 (by decide)) g77 (fun q78 eq78 => ?_)
          refine va_get (D := (dC, dI)) (ci := 12) (v := .int 3) (C := RX12) (T := TX12) (N := 53) hx hb hts hfX12 hown hK hP q78 eq78 rfl 12 (by decide) (hts (.fieldLink RX12 280 "ColdShipsModel" "sort" "I") wa_995) (fun _ h9 => h9) rfl dX12_next_118 ?_
          refine lv_iconst (v := 3) hx hb dX12_next_121 (by decide) ?_
          refine lv_icmp_ne (tgt := 149) hx hb dX12_next_122 (by decide) (fun c9 => absurd c9 (by decide)) (fun _ => ?_)
          refine lv_aload_n hx hb dX12_next_125 rfl (lv_at hl 0 rfl) ?_
          refine lv_aload_n hx hb dX12_next_126 rfl (lv_at hl 0 rfl) ?_
          refine va_get (D := (dC, dI)) (ci := 12) (v := .ref (ρ h0 8)) (C := RX12) (T := TX12) (N := 53) hx hb hts hfX12 hown hK hP q78 eq78 rfl 8 (by decide) (hts (.fieldLink RX12 27 "ColdShipsModel" "tape" "[I") wa_154) (fun _ h9 => h9) rfl dX12_next_127 ?_
          refine lv_aload_n hx hb dX12_next_130 rfl (lv_at hl 0 rfl) ?_
          refine va_get (D := (dC, dI)) (ci := 12) (v := .int w41) (C := RX12) (T := TX12) (N := 53) hx hb hts hfX12 hown hK hP q78 eq78 rfl 10 (by decide) (hts (.fieldLink RX12 267 "ColdShipsModel" "from" "I") wa_1005) (fun _ h9 => h9) rfl dX12_next_131 ?_
          have hf_79 : f75 (ρ h0 8) = .inl (κ 0, 400, .inl g35) := (k76 _ (tp_ne y6 ht_h0 (by decide))).trans hf_63
          refine tpk_pos (tp_in hG y6 (by decide)) hf_79 (fun q80 eq80 => ?_)
          refine va_iald hx hb hK hP q80 0 eq80 rfl (vp_in_iff.mpr ⟨by omega, by omega⟩) dX12_next_134 ?_
          refine lv_topi (fun z81 ez81 => ?_)
          have jz81 : z81.toInt = mo_R g35 w41.toInt := mo_rd ez81 (by omega)
          refine lv_i2l hx hb dX12_next_135 rfl ?_
          refine va_put (D := (dC, dI)) (ci := 12) (v := .long z81.toInt64) (ty := .long) (C := RX12) (T := TX12) (N := 53) hx hb hts hfX12 tyX12 tyX12_ok nmX12 hown hK hP hD hS q78 eq78 rfl 13 (by decide) (hts (.fieldLink RX12 270 "ColdShipsModel" "worth" "J") wa_1006) (fun _ h9 => h9) rfl (tyX12_ok 13 (by decide)) rfl rfl (Nat.le_of_ble_eq_true rfl) dX12_next_136 (tp_k (.inr (12, [.int o26_x0, .int o26_x1, .ref (ρ h0 2), .ref (ρ h0 3), .ref (ρ h0 4), .ref (ρ h0 5), .ref (ρ h0 6), .int o26_x7, .ref (ρ h0 8), .int o26_x9, .int w41, .int w41, .int 3, .long z81.toInt64, .int o26_x14, .int o26_x15, .int o26_x16, .int o26_x17, .int o26_x18, .int o26_x19, .int o26_x20, .ref (ρ h0 21), .int o26_x22, .ref (ρ h0 23), .ref (ρ h0 24), .int o26_x25, .ref (ρ h0 26), .ref (ρ h0 27), .int o26_x28, .int o26_x29, .ref (ρ h0 30), .ref (ρ h0 31), .int o26_x32, .long o26_x33, .long o26_x34, .long o26_x35, .int o26_x36, .int o26_x37, .int o26_x38, .ref (ρ h0 39), .ref (ρ h0 40), .ref (ρ h0 41), .ref (ρ h0 42), .ref (ρ h0 43), .ref (ρ h0 44), .ref (ρ h0 45), .ref (ρ h0 46), .int o26_x47, .int o26_x48, .ref (ρ h0 49), .ref (ρ h0 50), .ref (ρ h0 51), .ref (ρ h0 52)])) hD (tp_in hG ht_h0 (by decide)) eq78 (fun f82 H locs hP hD hS g84 k83 => ?_))
          have hT := hT.up ht_h0 g84 k83 ⟨_, _, _, _, _, _, _, _, _, _, _, _, _, _, _, _, _, _, _, _, _, _, _, _, _, _, _, _, rfl, ro26_0, ro26_1, (by omega), (by omega), (by decide), ro26_5, ro26_6, ro26_7, ro26_8, ro26_9, ro26_10, ro26_11, ro26_12, ro26_13, ro26_14⟩
          have hR := hR.up ht_h0 (by decide) k83
          refine lv_aload_n hx hb dX12_next_139 rfl (lv_at hl 0 rfl) ?_
          refine lv_dup hx hb dX12_next_140 rfl ?_
          refine tpk_pos (tp_in hG ht_h0 (by decide)) g84 (fun q85 eq85 => ?_)
          refine va_get (D := (dC, dI)) (ci := 12) (v := .int w41) (C := RX12) (T := TX12) (N := 53) hx hb hts hfX12 hown hK hP q85 eq85 rfl 11 (by decide) (hts (.fieldLink RX12 258 "ColdShipsModel" "to" "I") wa_1000) (fun _ h9 => h9) rfl dX12_next_141 ?_
          refine lv_iconst (v := 1) hx hb dX12_next_144 (by decide) ?_
          refine lv_iadd hx hb dX12_next_145 ?_
          refine lv_topi (fun z86 ez86 => ?_)
          have iz86 : z86.toInt = w41.toInt + 1 := zi_add ez86 rfl rfl (by omega) (by omega)
          refine va_put (D := (dC, dI)) (ci := 12) (v := .int z86) (ty := .int) (C := RX12) (T := TX12) (N := 53) hx hb hts hfX12 tyX12 tyX12_ok nmX12 hown hK hP hD hS q85 eq85 rfl 11 (by decide) (hts (.fieldLink RX12 258 "ColdShipsModel" "to" "I") wa_1000) (fun _ h9 => h9) rfl (tyX12_ok 11 (by decide)) rfl rfl (Nat.le_of_ble_eq_true rfl) dX12_next_146 (tp_k (.inr (12, [.int o26_x0, .int o26_x1, .ref (ρ h0 2), .ref (ρ h0 3), .ref (ρ h0 4), .ref (ρ h0 5), .ref (ρ h0 6), .int o26_x7, .ref (ρ h0 8), .int o26_x9, .int w41, .int z86, .int 3, .long z81.toInt64, .int o26_x14, .int o26_x15, .int o26_x16, .int o26_x17, .int o26_x18, .int o26_x19, .int o26_x20, .ref (ρ h0 21), .int o26_x22, .ref (ρ h0 23), .ref (ρ h0 24), .int o26_x25, .ref (ρ h0 26), .ref (ρ h0 27), .int o26_x28, .int o26_x29, .ref (ρ h0 30), .ref (ρ h0 31), .int o26_x32, .long o26_x33, .long o26_x34, .long o26_x35, .int o26_x36, .int o26_x37, .int o26_x38, .ref (ρ h0 39), .ref (ρ h0 40), .ref (ρ h0 41), .ref (ρ h0 42), .ref (ρ h0 43), .ref (ρ h0 44), .ref (ρ h0 45), .ref (ρ h0 46), .int o26_x47, .int o26_x48, .ref (ρ h0 49), .ref (ρ h0 50), .ref (ρ h0 51), .ref (ρ h0 52)])) hD (tp_in hG ht_h0 (by decide)) eq85 (fun f87 H locs hP hD hS g89 k88 => ?_))
          have hT := hT.up ht_h0 g89 k88 ⟨_, _, _, _, _, _, _, _, _, _, _, _, _, _, _, _, _, _, _, _, _, _, _, _, _, _, _, _, rfl, ro26_0, ro26_1, (by omega), (by omega), (by decide), ro26_5, ro26_6, ro26_7, ro26_8, ro26_9, ro26_10, ro26_11, ro26_12, ro26_13, ro26_14⟩
          have hR := hR.up ht_h0 (by decide) k88
          have hf_95 : f82 (ρ h0 8) = .inl (κ 0, 400, .inl g35) := (k83 _ (tp_ne y6 ht_h0 (by decide))).trans hf_79
          have hf_96 : f87 (ρ h0 8) = .inl (κ 0, 400, .inl g35) := (k88 _ (tp_ne y6 ht_h0 (by decide))).trans hf_95
          refine pz_loop (fun n0 H locs ls => ∃ f99 : Nat → va_E, ∃ w90 : Int32, ∃ w91 : Int64, n0 = (400 - (w90.toInt)).toNat ∧ tp_T (mo_O κ Θ) κ τ ν ρ f99 ∧ tp_F τ [13] f f99 ∧ f99 (ρ h0 8) = .inl (κ 0, 400, .inl g35) ∧ f99 h0 = .inr (12, [.int o26_x0, .int o26_x1, .ref (ρ h0 2), .ref (ρ h0 3), .ref (ρ h0 4), .ref (ρ h0 5), .ref (ρ h0 6), .int o26_x7, .ref (ρ h0 8), .int o26_x9, .int w41, .int w90, .int 3, .long w91, .int o26_x14, .int o26_x15, .int o26_x16, .int o26_x17, .int o26_x18, .int o26_x19, .int o26_x20, .ref (ρ h0 21), .int o26_x22, .ref (ρ h0 23), .ref (ρ h0 24), .int o26_x25, .ref (ρ h0 26), .ref (ρ h0 27), .int o26_x28, .int o26_x29, .ref (ρ h0 30), .ref (ρ h0 31), .int o26_x32, .long o26_x33, .long o26_x34, .long o26_x35, .int o26_x36, .int o26_x37, .int o26_x38, .ref (ρ h0 39), .ref (ρ h0 40), .ref (ρ h0 41), .ref (ρ h0 42), .ref (ρ h0 43), .ref (ρ h0 44), .ref (ρ h0 45), .ref (ρ h0 46), .int o26_x47, .int o26_x48, .ref (ρ h0 49), .ref (ρ h0 50), .ref (ρ h0 51), .ref (ρ h0 52)]) ∧ (0 ≤ w90.toInt ∧ w90.toInt ≤ 400) ∧ (w41.toInt ≤ (w90.toInt)) ∧ ((w90.toInt) ≤ o26_x9.toInt) ∧ ((w90.toInt) = w41.toInt + 1) ∧ va_P (dC, dI) vwCl (va_pl L f99) H ∧ va_D A (va_pl L f99) ∧ va_S A s.heap H locs ∧ lv_has ls 1 [(0, .ref h0)]) ?_ _ _ _ _ ⟨f87, z86, z81.toInt64, rfl, hT, hR, hf_96, g89, (by have : (z81.toInt64).toInt = z81.toInt := (Int32.toInt_toInt64 z81); omega), (by have : (z81.toInt64).toInt = z81.toInt := (Int32.toInt_toInt64 z81); omega), (by have : (z81.toInt64).toInt = z81.toInt := (Int32.toInt_toInt64 z81); omega), (by have : (z81.toInt64).toInt = z81.toInt := (Int32.toInt_toInt64 z81); omega), hP, hD, hS, lv_sub hl [0] rfl⟩
          intro n0 H locs ls hI ih101
          refine Exists.elim hI (fun f99 hE90 => Exists.elim hE90 (fun w90 hE91 => Exists.elim hE91 (fun w91 hE92 => tn_13 hE92 (fun hn102 hT hR hk97k hk98k rw90 k92 k93 k94 hP hD hS hl => ?_))))
          clear hE92 hE91 hE90 hI
          refine lv_aload_n hx hb dX12_next_149 rfl (lv_at hl 0 rfl) ?_
          refine tpk_pos (tp_in hG ht_h0 (by decide)) hk98k (fun q103 eq103 => ?_)
          refine va_get (D := (dC, dI)) (ci := 12) (v := .int 3) (C := RX12) (T := TX12) (N := 53) hx hb hts hfX12 hown hK hP q103 eq103 rfl 12 (by decide) (hts (.fieldLink RX12 280 "ColdShipsModel" "sort" "I") wa_995) (fun _ h9 => h9) rfl dX12_next_150 ?_
          refine lv_iconst (v := 1) hx hb dX12_next_153 (by decide) ?_
          refine lv_icmp_ne (tgt := 243) hx hb dX12_next_154 (by decide) (fun _ => ?_) (fun c9 => absurd c9 (by decide))
          refine pz_loop (fun n0 H locs ls => ∃ f111 : Nat → va_E, ∃ w104 : Int32, ∃ w105 : Int64, n0 = (400 - (w104.toInt)).toNat ∧ tp_T (mo_O κ Θ) κ τ ν ρ f111 ∧ tp_F τ [13] f f111 ∧ f111 (ρ h0 8) = .inl (κ 0, 400, .inl g35) ∧ f111 h0 = .inr (12, [.int o26_x0, .int o26_x1, .ref (ρ h0 2), .ref (ρ h0 3), .ref (ρ h0 4), .ref (ρ h0 5), .ref (ρ h0 6), .int o26_x7, .ref (ρ h0 8), .int o26_x9, .int w41, .int w104, .int 3, .long w105, .int o26_x14, .int o26_x15, .int o26_x16, .int o26_x17, .int o26_x18, .int o26_x19, .int o26_x20, .ref (ρ h0 21), .int o26_x22, .ref (ρ h0 23), .ref (ρ h0 24), .int o26_x25, .ref (ρ h0 26), .ref (ρ h0 27), .int o26_x28, .int o26_x29, .ref (ρ h0 30), .ref (ρ h0 31), .int o26_x32, .long o26_x33, .long o26_x34, .long o26_x35, .int o26_x36, .int o26_x37, .int o26_x38, .ref (ρ h0 39), .ref (ρ h0 40), .ref (ρ h0 41), .ref (ρ h0 42), .ref (ρ h0 43), .ref (ρ h0 44), .ref (ρ h0 45), .ref (ρ h0 46), .int o26_x47, .int o26_x48, .ref (ρ h0 49), .ref (ρ h0 50), .ref (ρ h0 51), .ref (ρ h0 52)]) ∧ (0 ≤ w104.toInt ∧ w104.toInt ≤ 400) ∧ (w41.toInt ≤ (w104.toInt)) ∧ ((w104.toInt) ≤ o26_x9.toInt) ∧ (w41.toInt < (w104.toInt)) ∧ va_P (dC, dI) vwCl (va_pl L f111) H ∧ va_D A (va_pl L f111) ∧ va_S A s.heap H locs ∧ lv_has ls 1 [(0, .ref h0)]) ?_ _ _ _ _ ⟨f99, w90, w91, rfl, hT, hR, hk97k, hk98k, (by omega), (by omega), (by omega), (by omega), hP, hD, hS, lv_sub hl [0] rfl⟩
          intro n0 H locs ls hI ih113
          refine Exists.elim hI (fun f111 hE90 => Exists.elim hE90 (fun w104 hE91 => Exists.elim hE91 (fun w105 hE92 => tn_13 hE92 (fun hn114 hT hR hk109k hk110k rw104 k106 k107 k108 hP hD hS hl => ?_))))
          clear hE92 hE91 hE90 hI
          refine lv_aload_n hx hb dX12_next_243 rfl (lv_at hl 0 rfl) ?_
          refine tpk_pos (tp_in hG ht_h0 (by decide)) hk110k (fun q115 eq115 => ?_)
          refine va_get (D := (dC, dI)) (ci := 12) (v := .int 3) (C := RX12) (T := TX12) (N := 53) hx hb hts hfX12 hown hK hP q115 eq115 rfl 12 (by decide) (hts (.fieldLink RX12 280 "ColdShipsModel" "sort" "I") wa_995) (fun _ h9 => h9) rfl dX12_next_244 ?_
          refine lv_iconst (v := 2) hx hb dX12_next_247 (by decide) ?_
          refine lv_icmp_ne (tgt := 335) hx hb dX12_next_248 (by decide) (fun _ => ?_) (fun c9 => absurd c9 (by decide))
          have tf116 : mo_hd (tp_fld (f111 h0) 10 = w41.toInt) := tff_10 hk110k
          have tf117 : mo_hd (tp_fld (f111 h0) 11 = w104.toInt) := tff_11 hk110k
          have tf118 : mo_hd (tp_fld (f111 h0) 9 = o26_x9.toInt) := tff_9 hk110k
          have tf119 : mo_hd (tp_fld (f111 h0) 12 = 3) := tff_12 hk110k
          have tf120 : mo_hd (mo_fj (f111 h0) 13 = w105.toInt) := tff_13 hk110k
          have tf121 : mo_hd (tp_fld (f111 h0) 15 = o26_x15.toInt) := tff_15 hk110k
          have tf122 : mo_hd (tp_fld (f111 h0) 19 = o26_x19.toInt) := tff_19 hk110k
          have tf123 : mo_hd (tp_fld (f111 h0) 20 = o26_x20.toInt) := tff_20 hk110k
          have tf124 : mo_hd (tp_fld (f111 h0) 22 = o26_x22.toInt) := tff_22 hk110k
          have tf125 : mo_hd (tp_fld (f111 h0) 28 = o26_x28.toInt) := tff_28 hk110k
          have ro26_5 := tp_hu ro26_5; have ro26_6 := tp_hu ro26_6; have ro26_7 := tp_hu ro26_7; have ro26_8 := tp_hu ro26_8; have ro26_9 := tp_hu ro26_9
          exact W.vret hx hb hr (fun t ht hW => ⟨⟨f111, rfl, ⟨hT, hR, (by first | (simp only [(mo_un tf116), (mo_un tf117), (mo_un tf118), (mo_un tf119), (mo_un tf120), (mo_un tf28), (mo_un tf27), (mo_un tf121), (mo_un tf29), (mo_un tf122), (mo_un tf30), (mo_un tf123), (mo_un tf31), (mo_un tf124), (mo_un tf32), (mo_un tf125), (mo_un tf33), mo_i1, mo_l1]; exact (show (w41.toInt ≤ w104.toInt ∧ w104.toInt ≤ o26_x9.toInt ∧ (3 = 0 ∨ w41.toInt < w104.toInt) ∧ (3 = 1 → w104.toInt = w41.toInt + 1 → w105.toInt ≤ 26)) ∧ o26_x11.toInt ≤ w41.toInt ∧ o26_x9.toInt = o26_x9.toInt ∧ o26_x15.toInt = o26_x15.toInt ∧ o26_x19.toInt = o26_x19.toInt ∧ o26_x20.toInt = o26_x20.toInt ∧ o26_x22.toInt = o26_x22.toInt ∧ o26_x28.toInt = o26_x28.toInt from by first | omega | decide)) | (rw [(mo_un tf116), (mo_un tf117), (mo_un tf118), (mo_un tf119), (mo_un tf120), (mo_un tf28), (mo_un tf27), (mo_un tf121), (mo_un tf29), (mo_un tf122), (mo_un tf30), (mo_un tf123), (mo_un tf31), (mo_un tf124), (mo_un tf32), (mo_un tf125), (mo_un tf33)]; exact (show (w41.toInt ≤ w104.toInt ∧ w104.toInt ≤ o26_x9.toInt ∧ (3 = 0 ∨ w41.toInt < w104.toInt) ∧ (3 = 1 → w104.toInt = w41.toInt + 1 → w105.toInt ≤ 26)) ∧ o26_x11.toInt ≤ w41.toInt ∧ o26_x9.toInt = o26_x9.toInt ∧ o26_x15.toInt = o26_x15.toInt ∧ o26_x19.toInt = o26_x19.toInt ∧ o26_x20.toInt = o26_x20.toInt ∧ o26_x22.toInt = o26_x22.toInt ∧ o26_x28.toInt = o26_x28.toInt from by first | omega | decide)))⟩, by rw [ht]; exact hP, va_K.moved hW.alike hK, hD⟩, hS.F ht⟩) hS.2.2 dX12_next_335
        · have ic73 : r71.toInt ≠ 0 := zi_eqf rfl rfl c73
          replace ic73 : 1 ≤ r71.toInt := by omega
          have p126 : 48 ≤ (z70.toInt) ∧ (z70.toInt) ≤ 57 := (tp_cond.yes hw72p) (by omega)
          clear hw72r ic73
          refine lv_iconst (v := 2) hx hb dX12_next_109 (by decide) ?_
          refine lv_goto (tgt := 114) hx hb dX12_next_110 (by decide) ?_
          refine va_put (D := (dC, dI)) (ci := 12) (v := .int 2) (ty := .int) (C := RX12) (T := TX12) (N := 53) hx hb hts hfX12 tyX12 tyX12_ok nmX12 hown hK hP hD hS q60 eq60 rfl 12 (by decide) (hts (.fieldLink RX12 280 "ColdShipsModel" "sort" "I") wa_995) (fun _ h9 => h9) rfl (tyX12_ok 12 (by decide)) rfl rfl (Nat.le_of_ble_eq_true rfl) dX12_next_114 (tp_k (.inr (12, [.int o26_x0, .int o26_x1, .ref (ρ h0 2), .ref (ρ h0 3), .ref (ρ h0 4), .ref (ρ h0 5), .ref (ρ h0 6), .int o26_x7, .ref (ρ h0 8), .int o26_x9, .int w41, .int w41, .int 2, .long 0, .int o26_x14, .int o26_x15, .int o26_x16, .int o26_x17, .int o26_x18, .int o26_x19, .int o26_x20, .ref (ρ h0 21), .int o26_x22, .ref (ρ h0 23), .ref (ρ h0 24), .int o26_x25, .ref (ρ h0 26), .ref (ρ h0 27), .int o26_x28, .int o26_x29, .ref (ρ h0 30), .ref (ρ h0 31), .int o26_x32, .long o26_x33, .long o26_x34, .long o26_x35, .int o26_x36, .int o26_x37, .int o26_x38, .ref (ρ h0 39), .ref (ρ h0 40), .ref (ρ h0 41), .ref (ρ h0 42), .ref (ρ h0 43), .ref (ρ h0 44), .ref (ρ h0 45), .ref (ρ h0 46), .int o26_x47, .int o26_x48, .ref (ρ h0 49), .ref (ρ h0 50), .ref (ρ h0 51), .ref (ρ h0 52)])) hD (tp_in hG ht_h0 (by decide)) eq60 (fun f127 H locs hP hD hS g129 k128 => ?_))
          have hT := hT.up ht_h0 g129 k128 ⟨_, _, _, _, _, _, _, _, _, _, _, _, _, _, _, _, _, _, _, _, _, _, _, _, _, _, _, _, rfl, ro26_0, ro26_1, (by omega), (by omega), (by decide), ro26_5, ro26_6, ro26_7, ro26_8, ro26_9, ro26_10, ro26_11, ro26_12, ro26_13, ro26_14⟩
          have hR := hR.up ht_h0 (by decide) k128
          refine lv_aload_n hx hb dX12_next_117 rfl (lv_at hl 0 rfl) ?_
          refine tpk_pos (tp_in hG ht_h0 (by decide)) g129 (fun q130 eq130 => ?_)
          refine va_get (D := (dC, dI)) (ci := 12) (v := .int 2) (C := RX12) (T := TX12) (N := 53) hx hb hts hfX12 hown hK hP q130 eq130 rfl 12 (by decide) (hts (.fieldLink RX12 280 "ColdShipsModel" "sort" "I") wa_995) (fun _ h9 => h9) rfl dX12_next_118 ?_
          refine lv_iconst (v := 3) hx hb dX12_next_121 (by decide) ?_
          refine lv_icmp_ne (tgt := 149) hx hb dX12_next_122 (by decide) (fun _ => ?_) (fun c9 => absurd c9 (by decide))
          have hf_135 : f127 (ρ h0 8) = .inl (κ 0, 400, .inl g35) := (k128 _ (tp_ne y6 ht_h0 (by decide))).trans hf_63
          refine pz_loop (fun n0 H locs ls => ∃ f138 : Nat → va_E, ∃ w131 : Int32, ∃ w132 : Int64, n0 = (400 - (w131.toInt)).toNat ∧ tp_T (mo_O κ Θ) κ τ ν ρ f138 ∧ tp_F τ [13] f f138 ∧ f138 (ρ h0 8) = .inl (κ 0, 400, .inl g35) ∧ f138 h0 = .inr (12, [.int o26_x0, .int o26_x1, .ref (ρ h0 2), .ref (ρ h0 3), .ref (ρ h0 4), .ref (ρ h0 5), .ref (ρ h0 6), .int o26_x7, .ref (ρ h0 8), .int o26_x9, .int w41, .int w131, .int 2, .long w132, .int o26_x14, .int o26_x15, .int o26_x16, .int o26_x17, .int o26_x18, .int o26_x19, .int o26_x20, .ref (ρ h0 21), .int o26_x22, .ref (ρ h0 23), .ref (ρ h0 24), .int o26_x25, .ref (ρ h0 26), .ref (ρ h0 27), .int o26_x28, .int o26_x29, .ref (ρ h0 30), .ref (ρ h0 31), .int o26_x32, .long o26_x33, .long o26_x34, .long o26_x35, .int o26_x36, .int o26_x37, .int o26_x38, .ref (ρ h0 39), .ref (ρ h0 40), .ref (ρ h0 41), .ref (ρ h0 42), .ref (ρ h0 43), .ref (ρ h0 44), .ref (ρ h0 45), .ref (ρ h0 46), .int o26_x47, .int o26_x48, .ref (ρ h0 49), .ref (ρ h0 50), .ref (ρ h0 51), .ref (ρ h0 52)]) ∧ (0 ≤ w131.toInt ∧ w131.toInt ≤ 400) ∧ (w41.toInt ≤ (w131.toInt)) ∧ ((w131.toInt) ≤ o26_x9.toInt) ∧ va_P (dC, dI) vwCl (va_pl L f138) H ∧ va_D A (va_pl L f138) ∧ va_S A s.heap H locs ∧ lv_has ls 1 [(0, .ref h0)]) ?_ _ _ _ _ ⟨f127, w41, 0, rfl, hT, hR, hf_135, g129, (by have : (0 : Int64).toInt = 0 := rfl; omega), (by have : (0 : Int64).toInt = 0 := rfl; omega), (by have : (0 : Int64).toInt = 0 := rfl; omega), hP, hD, hS, lv_sub hl [0] rfl⟩
          intro n0 H locs ls hI ih140
          refine Exists.elim hI (fun f138 hE90 => Exists.elim hE90 (fun w131 hE91 => Exists.elim hE91 (fun w132 hE92 => tn_12 hE92 (fun hn141 hT hR hk136k hk137k rw131 k133 k134 hP hD hS hl => ?_))))
          clear hE92 hE91 hE90 hI
          refine lv_aload_n hx hb dX12_next_149 rfl (lv_at hl 0 rfl) ?_
          refine tpk_pos (tp_in hG ht_h0 (by decide)) hk137k (fun q142 eq142 => ?_)
          refine va_get (D := (dC, dI)) (ci := 12) (v := .int 2) (C := RX12) (T := TX12) (N := 53) hx hb hts hfX12 hown hK hP q142 eq142 rfl 12 (by decide) (hts (.fieldLink RX12 280 "ColdShipsModel" "sort" "I") wa_995) (fun _ h9 => h9) rfl dX12_next_150 ?_
          refine lv_iconst (v := 1) hx hb dX12_next_153 (by decide) ?_
          refine lv_icmp_ne (tgt := 243) hx hb dX12_next_154 (by decide) (fun _ => ?_) (fun c9 => absurd c9 (by decide))
          refine pz_loop (fun n0 H locs ls => ∃ f149 : Nat → va_E, ∃ w143 : Int32, ∃ w144 : Int64, n0 = (400 - (w143.toInt)).toNat ∧ tp_T (mo_O κ Θ) κ τ ν ρ f149 ∧ tp_F τ [13] f f149 ∧ f149 (ρ h0 8) = .inl (κ 0, 400, .inl g35) ∧ f149 h0 = .inr (12, [.int o26_x0, .int o26_x1, .ref (ρ h0 2), .ref (ρ h0 3), .ref (ρ h0 4), .ref (ρ h0 5), .ref (ρ h0 6), .int o26_x7, .ref (ρ h0 8), .int o26_x9, .int w41, .int w143, .int 2, .long w144, .int o26_x14, .int o26_x15, .int o26_x16, .int o26_x17, .int o26_x18, .int o26_x19, .int o26_x20, .ref (ρ h0 21), .int o26_x22, .ref (ρ h0 23), .ref (ρ h0 24), .int o26_x25, .ref (ρ h0 26), .ref (ρ h0 27), .int o26_x28, .int o26_x29, .ref (ρ h0 30), .ref (ρ h0 31), .int o26_x32, .long o26_x33, .long o26_x34, .long o26_x35, .int o26_x36, .int o26_x37, .int o26_x38, .ref (ρ h0 39), .ref (ρ h0 40), .ref (ρ h0 41), .ref (ρ h0 42), .ref (ρ h0 43), .ref (ρ h0 44), .ref (ρ h0 45), .ref (ρ h0 46), .int o26_x47, .int o26_x48, .ref (ρ h0 49), .ref (ρ h0 50), .ref (ρ h0 51), .ref (ρ h0 52)]) ∧ (0 ≤ w143.toInt ∧ w143.toInt ≤ 400) ∧ (w41.toInt ≤ (w143.toInt)) ∧ ((w143.toInt) ≤ o26_x9.toInt) ∧ va_P (dC, dI) vwCl (va_pl L f149) H ∧ va_D A (va_pl L f149) ∧ va_S A s.heap H locs ∧ lv_has ls 1 [(0, .ref h0)]) ?_ _ _ _ _ ⟨f138, w131, w132, rfl, hT, hR, hk136k, hk137k, (by omega), (by omega), (by omega), hP, hD, hS, lv_sub hl [0] rfl⟩
          intro n0 H locs ls hI ih151
          refine Exists.elim hI (fun f149 hE90 => Exists.elim hE90 (fun w143 hE91 => Exists.elim hE91 (fun w144 hE92 => tn_12 hE92 (fun hn152 hT hR hk147k hk148k rw143 k145 k146 hP hD hS hl => ?_))))
          clear hE92 hE91 hE90 hI
          refine lv_aload_n hx hb dX12_next_243 rfl (lv_at hl 0 rfl) ?_
          refine tpk_pos (tp_in hG ht_h0 (by decide)) hk148k (fun q153 eq153 => ?_)
          refine va_get (D := (dC, dI)) (ci := 12) (v := .int 2) (C := RX12) (T := TX12) (N := 53) hx hb hts hfX12 hown hK hP q153 eq153 rfl 12 (by decide) (hts (.fieldLink RX12 280 "ColdShipsModel" "sort" "I") wa_995) (fun _ h9 => h9) rfl dX12_next_244 ?_
          refine lv_iconst (v := 2) hx hb dX12_next_247 (by decide) ?_
          refine lv_icmp_ne (tgt := 335) hx hb dX12_next_248 (by decide) (fun c9 => absurd c9 (by decide)) (fun _ => ?_)
          refine lv_aload_n hx hb dX12_next_251 rfl (lv_at hl 0 rfl) ?_
          refine va_get (D := (dC, dI)) (ci := 12) (v := .int w143) (C := RX12) (T := TX12) (N := 53) hx hb hts hfX12 hown hK hP q153 eq153 rfl 11 (by decide) (hts (.fieldLink RX12 258 "ColdShipsModel" "to" "I") wa_1000) (fun _ h9 => h9) rfl dX12_next_252 ?_
          refine lv_aload_n hx hb dX12_next_255 rfl (lv_at hl 0 rfl) ?_
          refine va_get (D := (dC, dI)) (ci := 12) (v := .int o26_x9) (C := RX12) (T := TX12) (N := 53) hx hb hts hfX12 hown hK hP q153 eq153 rfl 9 (by decide) (hts (.fieldLink RX12 252 "ColdShipsModel" "taped" "I") wa_774) (fun _ h9 => h9) rfl dX12_next_256 ?_
          refine lv_icmp_ge (tgt := 335) hx hb dX12_next_259 (by decide) (fun c154 => ?_) (fun c154 => ?_)
          · have ic154 : w143.toInt ≥ o26_x9.toInt := zi_ge rfl rfl c154
            have tf155 : mo_hd (tp_fld (f149 h0) 10 = w41.toInt) := tff_10 hk148k
            have tf156 : mo_hd (tp_fld (f149 h0) 11 = w143.toInt) := tff_11 hk148k
            have tf157 : mo_hd (tp_fld (f149 h0) 9 = o26_x9.toInt) := tff_9 hk148k
            have tf158 : mo_hd (tp_fld (f149 h0) 12 = 2) := tff_12 hk148k
            have tf159 : mo_hd (mo_fj (f149 h0) 13 = w144.toInt) := tff_13 hk148k
            have tf160 : mo_hd (tp_fld (f149 h0) 15 = o26_x15.toInt) := tff_15 hk148k
            have tf161 : mo_hd (tp_fld (f149 h0) 19 = o26_x19.toInt) := tff_19 hk148k
            have tf162 : mo_hd (tp_fld (f149 h0) 20 = o26_x20.toInt) := tff_20 hk148k
            have tf163 : mo_hd (tp_fld (f149 h0) 22 = o26_x22.toInt) := tff_22 hk148k
            have tf164 : mo_hd (tp_fld (f149 h0) 28 = o26_x28.toInt) := tff_28 hk148k
            have ro26_5 := tp_hu ro26_5; have ro26_6 := tp_hu ro26_6; have ro26_7 := tp_hu ro26_7; have ro26_8 := tp_hu ro26_8; have ro26_9 := tp_hu ro26_9
            exact W.vret hx hb hr (fun t ht hW => ⟨⟨f149, rfl, ⟨hT, hR, (by first | (simp only [(mo_un tf155), (mo_un tf156), (mo_un tf157), (mo_un tf158), (mo_un tf159), (mo_un tf28), (mo_un tf27), (mo_un tf160), (mo_un tf29), (mo_un tf161), (mo_un tf30), (mo_un tf162), (mo_un tf31), (mo_un tf163), (mo_un tf32), (mo_un tf164), (mo_un tf33), mo_i1, mo_l1]; exact (show (w41.toInt ≤ w143.toInt ∧ w143.toInt ≤ o26_x9.toInt ∧ (2 = 0 ∨ w41.toInt < w143.toInt) ∧ (2 = 1 → w143.toInt = w41.toInt + 1 → w144.toInt ≤ 26)) ∧ o26_x11.toInt ≤ w41.toInt ∧ o26_x9.toInt = o26_x9.toInt ∧ o26_x15.toInt = o26_x15.toInt ∧ o26_x19.toInt = o26_x19.toInt ∧ o26_x20.toInt = o26_x20.toInt ∧ o26_x22.toInt = o26_x22.toInt ∧ o26_x28.toInt = o26_x28.toInt from by first | omega | decide)) | (rw [(mo_un tf155), (mo_un tf156), (mo_un tf157), (mo_un tf158), (mo_un tf159), (mo_un tf28), (mo_un tf27), (mo_un tf160), (mo_un tf29), (mo_un tf161), (mo_un tf30), (mo_un tf162), (mo_un tf31), (mo_un tf163), (mo_un tf32), (mo_un tf164), (mo_un tf33)]; exact (show (w41.toInt ≤ w143.toInt ∧ w143.toInt ≤ o26_x9.toInt ∧ (2 = 0 ∨ w41.toInt < w143.toInt) ∧ (2 = 1 → w143.toInt = w41.toInt + 1 → w144.toInt ≤ 26)) ∧ o26_x11.toInt ≤ w41.toInt ∧ o26_x9.toInt = o26_x9.toInt ∧ o26_x15.toInt = o26_x15.toInt ∧ o26_x19.toInt = o26_x19.toInt ∧ o26_x20.toInt = o26_x20.toInt ∧ o26_x22.toInt = o26_x22.toInt ∧ o26_x28.toInt = o26_x28.toInt from by first | omega | decide)))⟩, by rw [ht]; exact hP, va_K.moved hW.alike hK, hD⟩, hS.F ht⟩) hS.2.2 dX12_next_335
          · have ic154 : w143.toInt < o26_x9.toInt := zi_gef rfl rfl c154
            refine lv_aload_n hx hb dX12_next_262 rfl (lv_at hl 0 rfl) ?_
            refine va_get (D := (dC, dI)) (ci := 12) (v := .ref (ρ h0 8)) (C := RX12) (T := TX12) (N := 53) hx hb hts hfX12 hown hK hP q153 eq153 rfl 8 (by decide) (hts (.fieldLink RX12 27 "ColdShipsModel" "tape" "[I") wa_154) (fun _ h9 => h9) rfl dX12_next_263 ?_
            refine lv_aload_n hx hb dX12_next_266 rfl (lv_at hl 0 rfl) ?_
            refine va_get (D := (dC, dI)) (ci := 12) (v := .int w143) (C := RX12) (T := TX12) (N := 53) hx hb hts hfX12 hown hK hP q153 eq153 rfl 11 (by decide) (hts (.fieldLink RX12 258 "ColdShipsModel" "to" "I") wa_1000) (fun _ h9 => h9) rfl dX12_next_267 ?_
            refine tpk_pos (tp_in hG y6 (by decide)) hk147k (fun q165 eq165 => ?_)
            refine va_iald hx hb hK hP q165 0 eq165 rfl (vp_in_iff.mpr ⟨by omega, by omega⟩) dX12_next_270 ?_
            refine lv_topi (fun z166 ez166 => ?_)
            have jz166 : z166.toInt = mo_R g35 w143.toInt := mo_rd ez166 (by omega)
            have hz166q := fun (q9 : w143.toInt = w41.toInt) => congrArg (mo_R g35) q9
            refine pz_calli (va_runS (As := [.int z166]) (rest := []) ⟨hx, hb, hml, hown, hts⟩ (t_X12_isDigit l dC dI _ z166 (z166.toInt) rfl) (va_cwS 1 hts gX12_next_X12_isDigit rfl rfl rfl pd_X12_isDigit ⟨Nat.le_of_ble_eq_true rfl, Nat.le_of_ble_eq_true rfl⟩) ⟨pz_blind, pz_pre pz_P0 (hK.sub (tys' := []) [] rfl) (pz_D0 (A := fun _ => True)) hN⟩ rfl rfl hl.1 rfl (lv_room (Nat.le_of_ble_eq_true rfl)) dX12_next_271 ⟨Nat.le_of_ble_eq_true rfl, Nat.le_of_ble_eq_true rfl⟩) (fun r167 hw168 => ?_)
            obtain ⟨hw168r, hw168p⟩ := hw168
            refine lv_if_eq (tgt := 335) hx hb dX12_next_274 (by decide) (fun c169 => ?_) (fun c169 => ?_)
            · have ic169 : r167.toInt = 0 := zi_eq rfl rfl c169
              have p170 : ¬ (48 ≤ (z166.toInt) ∧ (z166.toInt) ≤ 57) := (tp_cond.no hw168p) (by omega)
              clear hw168r ic169
              have tf171 : mo_hd (tp_fld (f149 h0) 10 = w41.toInt) := tff_10 hk148k
              have tf172 : mo_hd (tp_fld (f149 h0) 11 = w143.toInt) := tff_11 hk148k
              have tf173 : mo_hd (tp_fld (f149 h0) 9 = o26_x9.toInt) := tff_9 hk148k
              have tf174 : mo_hd (tp_fld (f149 h0) 12 = 2) := tff_12 hk148k
              have tf175 : mo_hd (mo_fj (f149 h0) 13 = w144.toInt) := tff_13 hk148k
              have tf176 : mo_hd (tp_fld (f149 h0) 15 = o26_x15.toInt) := tff_15 hk148k
              have tf177 : mo_hd (tp_fld (f149 h0) 19 = o26_x19.toInt) := tff_19 hk148k
              have tf178 : mo_hd (tp_fld (f149 h0) 20 = o26_x20.toInt) := tff_20 hk148k
              have tf179 : mo_hd (tp_fld (f149 h0) 22 = o26_x22.toInt) := tff_22 hk148k
              have tf180 : mo_hd (tp_fld (f149 h0) 28 = o26_x28.toInt) := tff_28 hk148k
              have ro26_5 := tp_hu ro26_5; have ro26_6 := tp_hu ro26_6; have ro26_7 := tp_hu ro26_7; have ro26_8 := tp_hu ro26_8; have ro26_9 := tp_hu ro26_9
              exact W.vret hx hb hr (fun t ht hW => ⟨⟨f149, rfl, ⟨hT, hR, (by first | (simp only [(mo_un tf171), (mo_un tf172), (mo_un tf173), (mo_un tf174), (mo_un tf175), (mo_un tf28), (mo_un tf27), (mo_un tf176), (mo_un tf29), (mo_un tf177), (mo_un tf30), (mo_un tf178), (mo_un tf31), (mo_un tf179), (mo_un tf32), (mo_un tf180), (mo_un tf33), mo_i1, mo_l1]; exact (show (w41.toInt ≤ w143.toInt ∧ w143.toInt ≤ o26_x9.toInt ∧ (2 = 0 ∨ w41.toInt < w143.toInt) ∧ (2 = 1 → w143.toInt = w41.toInt + 1 → w144.toInt ≤ 26)) ∧ o26_x11.toInt ≤ w41.toInt ∧ o26_x9.toInt = o26_x9.toInt ∧ o26_x15.toInt = o26_x15.toInt ∧ o26_x19.toInt = o26_x19.toInt ∧ o26_x20.toInt = o26_x20.toInt ∧ o26_x22.toInt = o26_x22.toInt ∧ o26_x28.toInt = o26_x28.toInt from by first | omega | decide)) | (rw [(mo_un tf171), (mo_un tf172), (mo_un tf173), (mo_un tf174), (mo_un tf175), (mo_un tf28), (mo_un tf27), (mo_un tf176), (mo_un tf29), (mo_un tf177), (mo_un tf30), (mo_un tf178), (mo_un tf31), (mo_un tf179), (mo_un tf32), (mo_un tf180), (mo_un tf33)]; exact (show (w41.toInt ≤ w143.toInt ∧ w143.toInt ≤ o26_x9.toInt ∧ (2 = 0 ∨ w41.toInt < w143.toInt) ∧ (2 = 1 → w143.toInt = w41.toInt + 1 → w144.toInt ≤ 26)) ∧ o26_x11.toInt ≤ w41.toInt ∧ o26_x9.toInt = o26_x9.toInt ∧ o26_x15.toInt = o26_x15.toInt ∧ o26_x19.toInt = o26_x19.toInt ∧ o26_x20.toInt = o26_x20.toInt ∧ o26_x22.toInt = o26_x22.toInt ∧ o26_x28.toInt = o26_x28.toInt from by first | omega | decide)))⟩, by rw [ht]; exact hP, va_K.moved hW.alike hK, hD⟩, hS.F ht⟩) hS.2.2 dX12_next_335
            · have ic169 : r167.toInt ≠ 0 := zi_eqf rfl rfl c169
              replace ic169 : 1 ≤ r167.toInt := by omega
              have p181 : 48 ≤ (z166.toInt) ∧ (z166.toInt) ≤ 57 := (tp_cond.yes hw168p) (by omega)
              clear hw168r ic169
              refine lv_aload_n hx hb dX12_next_277 rfl (lv_at hl 0 rfl) ?_
              refine lv_aload_n hx hb dX12_next_278 rfl (lv_at hl 0 rfl) ?_
              refine va_get (D := (dC, dI)) (ci := 12) (v := .long w144) (C := RX12) (T := TX12) (N := 53) hx hb hts hfX12 hown hK hP q153 eq153 rfl 13 (by decide) (hts (.fieldLink RX12 270 "ColdShipsModel" "worth" "J") wa_1006) (fun _ h9 => h9) rfl dX12_next_279 ?_
              refine lv_ldc2 (own := RX12) (v := 1000000) hx hb hown (hts (.constantLong RX12 287 (1000000)) wa_1009) dX12_next_282 ?_
              refine W.lcmp hx hb dX12_next_285 ?_
              refine lv_if_le (tgt := 296) hx hb dX12_next_286 (by decide) (fun c182 => ?_) (fun c182 => ?_)
              · have ic182 : w144.toInt ≤ 1000000 := zl_le rfl rfl c182
                refine lv_aload_n hx hb dX12_next_296 rfl (lv_at hl 0 rfl) ?_
                refine va_get (D := (dC, dI)) (ci := 12) (v := .long w144) (C := RX12) (T := TX12) (N := 53) hx hb hts hfX12 hown hK hP q153 eq153 rfl 13 (by decide) (hts (.fieldLink RX12 270 "ColdShipsModel" "worth" "J") wa_1006) (fun _ h9 => h9) rfl dX12_next_297 ?_
                refine lv_ldc2 (own := RX12) (v := 10) hx hb hown (hts (.constantLong RX12 289 (10)) wa_1010) dX12_next_300 ?_
                refine lv_lmul hx hb dX12_next_303 ?_
                refine lv_topl (fun z183 ez183 => ?_)
                refine lv_aload_n hx hb dX12_next_304 rfl (lv_at hl 0 rfl) ?_
                refine va_get (D := (dC, dI)) (ci := 12) (v := .ref (ρ h0 8)) (C := RX12) (T := TX12) (N := 53) hx hb hts hfX12 hown hK hP q153 eq153 rfl 8 (by decide) (hts (.fieldLink RX12 27 "ColdShipsModel" "tape" "[I") wa_154) (fun _ h9 => h9) rfl dX12_next_305 ?_
                refine lv_aload_n hx hb dX12_next_308 rfl (lv_at hl 0 rfl) ?_
                refine va_get (D := (dC, dI)) (ci := 12) (v := .int w143) (C := RX12) (T := TX12) (N := 53) hx hb hts hfX12 hown hK hP q153 eq153 rfl 11 (by decide) (hts (.fieldLink RX12 258 "ColdShipsModel" "to" "I") wa_1000) (fun _ h9 => h9) rfl dX12_next_309 ?_
                refine va_iald hx hb hK hP q165 0 eq165 rfl (vp_in_iff.mpr ⟨by omega, by omega⟩) dX12_next_312 ?_
                refine lv_topi (fun z184 ez184 => ?_)
                have jz184 : z184.toInt = mo_R g35 w143.toInt := mo_rd ez184 (by omega)
                have hz184q := fun (q9 : w143.toInt = w41.toInt) => congrArg (mo_R g35) q9
                refine lv_i2l hx hb dX12_next_313 rfl ?_
                refine lv_ladd hx hb dX12_next_314 ?_
                refine lv_topl (fun z185 ez185 => ?_)
                refine lv_ldc2 (own := RX12) (v := 48) hx hb hown (hts (.constantLong RX12 291 (48)) wa_1011) dX12_next_315 ?_
                refine lv_lsub hx hb dX12_next_318 ?_
                refine lv_topl (fun z186 ez186 => ?_)
                refine va_put (D := (dC, dI)) (ci := 12) (v := .long z186) (ty := .long) (C := RX12) (T := TX12) (N := 53) hx hb hts hfX12 tyX12 tyX12_ok nmX12 hown hK hP hD hS q153 eq153 rfl 13 (by decide) (hts (.fieldLink RX12 270 "ColdShipsModel" "worth" "J") wa_1006) (fun _ h9 => h9) rfl (tyX12_ok 13 (by decide)) rfl rfl (Nat.le_of_ble_eq_true rfl) dX12_next_319 (tp_k (.inr (12, [.int o26_x0, .int o26_x1, .ref (ρ h0 2), .ref (ρ h0 3), .ref (ρ h0 4), .ref (ρ h0 5), .ref (ρ h0 6), .int o26_x7, .ref (ρ h0 8), .int o26_x9, .int w41, .int w143, .int 2, .long z186, .int o26_x14, .int o26_x15, .int o26_x16, .int o26_x17, .int o26_x18, .int o26_x19, .int o26_x20, .ref (ρ h0 21), .int o26_x22, .ref (ρ h0 23), .ref (ρ h0 24), .int o26_x25, .ref (ρ h0 26), .ref (ρ h0 27), .int o26_x28, .int o26_x29, .ref (ρ h0 30), .ref (ρ h0 31), .int o26_x32, .long o26_x33, .long o26_x34, .long o26_x35, .int o26_x36, .int o26_x37, .int o26_x38, .ref (ρ h0 39), .ref (ρ h0 40), .ref (ρ h0 41), .ref (ρ h0 42), .ref (ρ h0 43), .ref (ρ h0 44), .ref (ρ h0 45), .ref (ρ h0 46), .int o26_x47, .int o26_x48, .ref (ρ h0 49), .ref (ρ h0 50), .ref (ρ h0 51), .ref (ρ h0 52)])) hD (tp_in hG ht_h0 (by decide)) eq153 (fun f187 H locs hP hD hS g189 k188 => ?_))
                have hT := hT.up ht_h0 g189 k188 ⟨_, _, _, _, _, _, _, _, _, _, _, _, _, _, _, _, _, _, _, _, _, _, _, _, _, _, _, _, rfl, ro26_0, ro26_1, (by omega), (by omega), (by decide), ro26_5, ro26_6, ro26_7, ro26_8, ro26_9, ro26_10, ro26_11, ro26_12, ro26_13, ro26_14⟩
                have hR := hR.up ht_h0 (by decide) k188
                refine lv_aload_n hx hb dX12_next_322 rfl (lv_at hl 0 rfl) ?_
                refine lv_dup hx hb dX12_next_323 rfl ?_
                refine tpk_pos (tp_in hG ht_h0 (by decide)) g189 (fun q190 eq190 => ?_)
                refine va_get (D := (dC, dI)) (ci := 12) (v := .int w143) (C := RX12) (T := TX12) (N := 53) hx hb hts hfX12 hown hK hP q190 eq190 rfl 11 (by decide) (hts (.fieldLink RX12 258 "ColdShipsModel" "to" "I") wa_1000) (fun _ h9 => h9) rfl dX12_next_324 ?_
                refine lv_iconst (v := 1) hx hb dX12_next_327 (by decide) ?_
                refine lv_iadd hx hb dX12_next_328 ?_
                refine lv_topi (fun z191 ez191 => ?_)
                have iz191 : z191.toInt = w143.toInt + 1 := zi_add ez191 rfl rfl (by omega) (by omega)
                refine va_put (D := (dC, dI)) (ci := 12) (v := .int z191) (ty := .int) (C := RX12) (T := TX12) (N := 53) hx hb hts hfX12 tyX12 tyX12_ok nmX12 hown hK hP hD hS q190 eq190 rfl 11 (by decide) (hts (.fieldLink RX12 258 "ColdShipsModel" "to" "I") wa_1000) (fun _ h9 => h9) rfl (tyX12_ok 11 (by decide)) rfl rfl (Nat.le_of_ble_eq_true rfl) dX12_next_329 (tp_k (.inr (12, [.int o26_x0, .int o26_x1, .ref (ρ h0 2), .ref (ρ h0 3), .ref (ρ h0 4), .ref (ρ h0 5), .ref (ρ h0 6), .int o26_x7, .ref (ρ h0 8), .int o26_x9, .int w41, .int z191, .int 2, .long z186, .int o26_x14, .int o26_x15, .int o26_x16, .int o26_x17, .int o26_x18, .int o26_x19, .int o26_x20, .ref (ρ h0 21), .int o26_x22, .ref (ρ h0 23), .ref (ρ h0 24), .int o26_x25, .ref (ρ h0 26), .ref (ρ h0 27), .int o26_x28, .int o26_x29, .ref (ρ h0 30), .ref (ρ h0 31), .int o26_x32, .long o26_x33, .long o26_x34, .long o26_x35, .int o26_x36, .int o26_x37, .int o26_x38, .ref (ρ h0 39), .ref (ρ h0 40), .ref (ρ h0 41), .ref (ρ h0 42), .ref (ρ h0 43), .ref (ρ h0 44), .ref (ρ h0 45), .ref (ρ h0 46), .int o26_x47, .int o26_x48, .ref (ρ h0 49), .ref (ρ h0 50), .ref (ρ h0 51), .ref (ρ h0 52)])) hD (tp_in hG ht_h0 (by decide)) eq190 (fun f192 H locs hP hD hS g194 k193 => ?_))
                have hT := hT.up ht_h0 g194 k193 ⟨_, _, _, _, _, _, _, _, _, _, _, _, _, _, _, _, _, _, _, _, _, _, _, _, _, _, _, _, rfl, ro26_0, ro26_1, (by omega), (by omega), (by decide), ro26_5, ro26_6, ro26_7, ro26_8, ro26_9, ro26_10, ro26_11, ro26_12, ro26_13, ro26_14⟩
                have hR := hR.up ht_h0 (by decide) k193
                refine lv_goto (tgt := 243) hx hb dX12_next_332 (by decide) ?_
                have hf_195 : f187 (ρ h0 8) = .inl (κ 0, 400, .inl g35) := (k188 _ (tp_ne y6 ht_h0 (by decide))).trans hk147k
                have hf_196 : f192 (ρ h0 8) = .inl (κ 0, 400, .inl g35) := (k193 _ (tp_ne y6 ht_h0 (by decide))).trans hf_195
                exact ih151 _ _ _ _ (by rw [hn152]; omega) ⟨f192, z191, z186, rfl, hT, hR, hf_196, g194, (by omega), (by omega), (by omega), hP, hD, hS, lv_sub hl [0] rfl⟩
              · have ic182 : w144.toInt > 1000000 := zl_lef rfl rfl c182
                refine lv_aload_n hx hb dX12_next_289 rfl (lv_at hl 0 rfl) ?_
                refine va_get (D := (dC, dI)) (ci := 12) (v := .long w144) (C := RX12) (T := TX12) (N := 53) hx hb hts hfX12 hown hK hP q153 eq153 rfl 13 (by decide) (hts (.fieldLink RX12 270 "ColdShipsModel" "worth" "J") wa_1006) (fun _ h9 => h9) rfl dX12_next_290 ?_
                refine lv_goto (tgt := 319) hx hb dX12_next_293 (by decide) ?_
                refine va_put (D := (dC, dI)) (ci := 12) (v := .long w144) (ty := .long) (C := RX12) (T := TX12) (N := 53) hx hb hts hfX12 tyX12 tyX12_ok nmX12 hown hK hP hD hS q153 eq153 rfl 13 (by decide) (hts (.fieldLink RX12 270 "ColdShipsModel" "worth" "J") wa_1006) (fun _ h9 => h9) rfl (tyX12_ok 13 (by decide)) rfl rfl (Nat.le_of_ble_eq_true rfl) dX12_next_319 (tp_k (.inr (12, [.int o26_x0, .int o26_x1, .ref (ρ h0 2), .ref (ρ h0 3), .ref (ρ h0 4), .ref (ρ h0 5), .ref (ρ h0 6), .int o26_x7, .ref (ρ h0 8), .int o26_x9, .int w41, .int w143, .int 2, .long w144, .int o26_x14, .int o26_x15, .int o26_x16, .int o26_x17, .int o26_x18, .int o26_x19, .int o26_x20, .ref (ρ h0 21), .int o26_x22, .ref (ρ h0 23), .ref (ρ h0 24), .int o26_x25, .ref (ρ h0 26), .ref (ρ h0 27), .int o26_x28, .int o26_x29, .ref (ρ h0 30), .ref (ρ h0 31), .int o26_x32, .long o26_x33, .long o26_x34, .long o26_x35, .int o26_x36, .int o26_x37, .int o26_x38, .ref (ρ h0 39), .ref (ρ h0 40), .ref (ρ h0 41), .ref (ρ h0 42), .ref (ρ h0 43), .ref (ρ h0 44), .ref (ρ h0 45), .ref (ρ h0 46), .int o26_x47, .int o26_x48, .ref (ρ h0 49), .ref (ρ h0 50), .ref (ρ h0 51), .ref (ρ h0 52)])) hD (tp_in hG ht_h0 (by decide)) eq153 (fun f197 H locs hP hD hS g199 k198 => ?_))
                have hT := hT.up ht_h0 g199 k198 ⟨_, _, _, _, _, _, _, _, _, _, _, _, _, _, _, _, _, _, _, _, _, _, _, _, _, _, _, _, rfl, ro26_0, ro26_1, (by omega), (by omega), (by decide), ro26_5, ro26_6, ro26_7, ro26_8, ro26_9, ro26_10, ro26_11, ro26_12, ro26_13, ro26_14⟩
                have hR := hR.up ht_h0 (by decide) k198
                refine lv_aload_n hx hb dX12_next_322 rfl (lv_at hl 0 rfl) ?_
                refine lv_dup hx hb dX12_next_323 rfl ?_
                refine tpk_pos (tp_in hG ht_h0 (by decide)) g199 (fun q200 eq200 => ?_)
                refine va_get (D := (dC, dI)) (ci := 12) (v := .int w143) (C := RX12) (T := TX12) (N := 53) hx hb hts hfX12 hown hK hP q200 eq200 rfl 11 (by decide) (hts (.fieldLink RX12 258 "ColdShipsModel" "to" "I") wa_1000) (fun _ h9 => h9) rfl dX12_next_324 ?_
                refine lv_iconst (v := 1) hx hb dX12_next_327 (by decide) ?_
                refine lv_iadd hx hb dX12_next_328 ?_
                refine lv_topi (fun z201 ez201 => ?_)
                have iz201 : z201.toInt = w143.toInt + 1 := zi_add ez201 rfl rfl (by omega) (by omega)
                refine va_put (D := (dC, dI)) (ci := 12) (v := .int z201) (ty := .int) (C := RX12) (T := TX12) (N := 53) hx hb hts hfX12 tyX12 tyX12_ok nmX12 hown hK hP hD hS q200 eq200 rfl 11 (by decide) (hts (.fieldLink RX12 258 "ColdShipsModel" "to" "I") wa_1000) (fun _ h9 => h9) rfl (tyX12_ok 11 (by decide)) rfl rfl (Nat.le_of_ble_eq_true rfl) dX12_next_329 (tp_k (.inr (12, [.int o26_x0, .int o26_x1, .ref (ρ h0 2), .ref (ρ h0 3), .ref (ρ h0 4), .ref (ρ h0 5), .ref (ρ h0 6), .int o26_x7, .ref (ρ h0 8), .int o26_x9, .int w41, .int z201, .int 2, .long w144, .int o26_x14, .int o26_x15, .int o26_x16, .int o26_x17, .int o26_x18, .int o26_x19, .int o26_x20, .ref (ρ h0 21), .int o26_x22, .ref (ρ h0 23), .ref (ρ h0 24), .int o26_x25, .ref (ρ h0 26), .ref (ρ h0 27), .int o26_x28, .int o26_x29, .ref (ρ h0 30), .ref (ρ h0 31), .int o26_x32, .long o26_x33, .long o26_x34, .long o26_x35, .int o26_x36, .int o26_x37, .int o26_x38, .ref (ρ h0 39), .ref (ρ h0 40), .ref (ρ h0 41), .ref (ρ h0 42), .ref (ρ h0 43), .ref (ρ h0 44), .ref (ρ h0 45), .ref (ρ h0 46), .int o26_x47, .int o26_x48, .ref (ρ h0 49), .ref (ρ h0 50), .ref (ρ h0 51), .ref (ρ h0 52)])) hD (tp_in hG ht_h0 (by decide)) eq200 (fun f202 H locs hP hD hS g204 k203 => ?_))
                have hT := hT.up ht_h0 g204 k203 ⟨_, _, _, _, _, _, _, _, _, _, _, _, _, _, _, _, _, _, _, _, _, _, _, _, _, _, _, _, rfl, ro26_0, ro26_1, (by omega), (by omega), (by decide), ro26_5, ro26_6, ro26_7, ro26_8, ro26_9, ro26_10, ro26_11, ro26_12, ro26_13, ro26_14⟩
                have hR := hR.up ht_h0 (by decide) k203
                refine lv_goto (tgt := 243) hx hb dX12_next_332 (by decide) ?_
                have hf_205 : f197 (ρ h0 8) = .inl (κ 0, 400, .inl g35) := (k198 _ (tp_ne y6 ht_h0 (by decide))).trans hk147k
                have hf_206 : f202 (ρ h0 8) = .inl (κ 0, 400, .inl g35) := (k203 _ (tp_ne y6 ht_h0 (by decide))).trans hf_205
                exact ih151 _ _ _ _ (by rw [hn152]; omega) ⟨f202, z201, w144, rfl, hT, hR, hf_206, g204, (by omega), (by omega), (by omega), hP, hD, hS, lv_sub hl [0] rfl⟩
      · have ic68 : r66.toInt ≠ 0 := zi_eqf rfl rfl c68
        replace ic68 : 1 ≤ r66.toInt := by omega
        have p207 : 97 ≤ (z65.toInt) ∧ (z65.toInt) ≤ 122 := (tp_cond.yes hw67p) (by omega)
        clear hw67r ic68
        refine lv_iconst (v := 1) hx hb dX12_next_90 (by decide) ?_
        refine lv_goto (tgt := 114) hx hb dX12_next_91 (by decide) ?_
        refine va_put (D := (dC, dI)) (ci := 12) (v := .int 1) (ty := .int) (C := RX12) (T := TX12) (N := 53) hx hb hts hfX12 tyX12 tyX12_ok nmX12 hown hK hP hD hS q60 eq60 rfl 12 (by decide) (hts (.fieldLink RX12 280 "ColdShipsModel" "sort" "I") wa_995) (fun _ h9 => h9) rfl (tyX12_ok 12 (by decide)) rfl rfl (Nat.le_of_ble_eq_true rfl) dX12_next_114 (tp_k (.inr (12, [.int o26_x0, .int o26_x1, .ref (ρ h0 2), .ref (ρ h0 3), .ref (ρ h0 4), .ref (ρ h0 5), .ref (ρ h0 6), .int o26_x7, .ref (ρ h0 8), .int o26_x9, .int w41, .int w41, .int 1, .long 0, .int o26_x14, .int o26_x15, .int o26_x16, .int o26_x17, .int o26_x18, .int o26_x19, .int o26_x20, .ref (ρ h0 21), .int o26_x22, .ref (ρ h0 23), .ref (ρ h0 24), .int o26_x25, .ref (ρ h0 26), .ref (ρ h0 27), .int o26_x28, .int o26_x29, .ref (ρ h0 30), .ref (ρ h0 31), .int o26_x32, .long o26_x33, .long o26_x34, .long o26_x35, .int o26_x36, .int o26_x37, .int o26_x38, .ref (ρ h0 39), .ref (ρ h0 40), .ref (ρ h0 41), .ref (ρ h0 42), .ref (ρ h0 43), .ref (ρ h0 44), .ref (ρ h0 45), .ref (ρ h0 46), .int o26_x47, .int o26_x48, .ref (ρ h0 49), .ref (ρ h0 50), .ref (ρ h0 51), .ref (ρ h0 52)])) hD (tp_in hG ht_h0 (by decide)) eq60 (fun f208 H locs hP hD hS g210 k209 => ?_))
        have hT := hT.up ht_h0 g210 k209 ⟨_, _, _, _, _, _, _, _, _, _, _, _, _, _, _, _, _, _, _, _, _, _, _, _, _, _, _, _, rfl, ro26_0, ro26_1, (by omega), (by omega), (by decide), ro26_5, ro26_6, ro26_7, ro26_8, ro26_9, ro26_10, ro26_11, ro26_12, ro26_13, ro26_14⟩
        have hR := hR.up ht_h0 (by decide) k209
        refine lv_aload_n hx hb dX12_next_117 rfl (lv_at hl 0 rfl) ?_
        refine tpk_pos (tp_in hG ht_h0 (by decide)) g210 (fun q211 eq211 => ?_)
        refine va_get (D := (dC, dI)) (ci := 12) (v := .int 1) (C := RX12) (T := TX12) (N := 53) hx hb hts hfX12 hown hK hP q211 eq211 rfl 12 (by decide) (hts (.fieldLink RX12 280 "ColdShipsModel" "sort" "I") wa_995) (fun _ h9 => h9) rfl dX12_next_118 ?_
        refine lv_iconst (v := 3) hx hb dX12_next_121 (by decide) ?_
        refine lv_icmp_ne (tgt := 149) hx hb dX12_next_122 (by decide) (fun _ => ?_) (fun c9 => absurd c9 (by decide))
        have hf_218 : f208 (ρ h0 8) = .inl (κ 0, 400, .inl g35) := (k209 _ (tp_ne y6 ht_h0 (by decide))).trans hf_63
        refine pz_loop (fun n0 H locs ls => ∃ f221 : Nat → va_E, ∃ w212 : Int32, ∃ w213 : Int64, n0 = (400 - (w212.toInt)).toNat ∧ tp_T (mo_O κ Θ) κ τ ν ρ f221 ∧ tp_F τ [13] f f221 ∧ f221 (ρ h0 8) = .inl (κ 0, 400, .inl g35) ∧ f221 h0 = .inr (12, [.int o26_x0, .int o26_x1, .ref (ρ h0 2), .ref (ρ h0 3), .ref (ρ h0 4), .ref (ρ h0 5), .ref (ρ h0 6), .int o26_x7, .ref (ρ h0 8), .int o26_x9, .int w41, .int w212, .int 1, .long w213, .int o26_x14, .int o26_x15, .int o26_x16, .int o26_x17, .int o26_x18, .int o26_x19, .int o26_x20, .ref (ρ h0 21), .int o26_x22, .ref (ρ h0 23), .ref (ρ h0 24), .int o26_x25, .ref (ρ h0 26), .ref (ρ h0 27), .int o26_x28, .int o26_x29, .ref (ρ h0 30), .ref (ρ h0 31), .int o26_x32, .long o26_x33, .long o26_x34, .long o26_x35, .int o26_x36, .int o26_x37, .int o26_x38, .ref (ρ h0 39), .ref (ρ h0 40), .ref (ρ h0 41), .ref (ρ h0 42), .ref (ρ h0 43), .ref (ρ h0 44), .ref (ρ h0 45), .ref (ρ h0 46), .int o26_x47, .int o26_x48, .ref (ρ h0 49), .ref (ρ h0 50), .ref (ρ h0 51), .ref (ρ h0 52)]) ∧ (0 ≤ w212.toInt ∧ w212.toInt ≤ 400) ∧ (w41.toInt ≤ (w212.toInt)) ∧ ((w212.toInt) ≤ o26_x9.toInt) ∧ (((w212.toInt) = w41.toInt → (w213.toInt) = 0)) ∧ (((w212.toInt) = w41.toInt + 1 → (w213.toInt) ≤ 26)) ∧ va_P (dC, dI) vwCl (va_pl L f221) H ∧ va_D A (va_pl L f221) ∧ va_S A s.heap H locs ∧ lv_has ls 1 [(0, .ref h0)]) ?_ _ _ _ _ ⟨f208, w41, 0, rfl, hT, hR, hf_218, g210, (by have : (0 : Int64).toInt = 0 := rfl; omega), (by have : (0 : Int64).toInt = 0 := rfl; omega), (by have : (0 : Int64).toInt = 0 := rfl; omega), (by have : (0 : Int64).toInt = 0 := rfl; omega), (by have : (0 : Int64).toInt = 0 := rfl; omega), hP, hD, hS, lv_sub hl [0] rfl⟩
        intro n0 H locs ls hI ih223
        refine Exists.elim hI (fun f221 hE90 => Exists.elim hE90 (fun w212 hE91 => Exists.elim hE91 (fun w213 hE92 => tn_14 hE92 (fun hn224 hT hR hk219k hk220k rw212 k214 k215 k216 k217 hP hD hS hl => ?_))))
        clear hE92 hE91 hE90 hI
        refine lv_aload_n hx hb dX12_next_149 rfl (lv_at hl 0 rfl) ?_
        refine tpk_pos (tp_in hG ht_h0 (by decide)) hk220k (fun q225 eq225 => ?_)
        refine va_get (D := (dC, dI)) (ci := 12) (v := .int 1) (C := RX12) (T := TX12) (N := 53) hx hb hts hfX12 hown hK hP q225 eq225 rfl 12 (by decide) (hts (.fieldLink RX12 280 "ColdShipsModel" "sort" "I") wa_995) (fun _ h9 => h9) rfl dX12_next_150 ?_
        refine lv_iconst (v := 1) hx hb dX12_next_153 (by decide) ?_
        refine lv_icmp_ne (tgt := 243) hx hb dX12_next_154 (by decide) (fun c9 => absurd c9 (by decide)) (fun _ => ?_)
        refine lv_aload_n hx hb dX12_next_157 rfl (lv_at hl 0 rfl) ?_
        refine va_get (D := (dC, dI)) (ci := 12) (v := .int w212) (C := RX12) (T := TX12) (N := 53) hx hb hts hfX12 hown hK hP q225 eq225 rfl 11 (by decide) (hts (.fieldLink RX12 258 "ColdShipsModel" "to" "I") wa_1000) (fun _ h9 => h9) rfl dX12_next_158 ?_
        refine lv_aload_n hx hb dX12_next_161 rfl (lv_at hl 0 rfl) ?_
        refine va_get (D := (dC, dI)) (ci := 12) (v := .int o26_x9) (C := RX12) (T := TX12) (N := 53) hx hb hts hfX12 hown hK hP q225 eq225 rfl 9 (by decide) (hts (.fieldLink RX12 252 "ColdShipsModel" "taped" "I") wa_774) (fun _ h9 => h9) rfl dX12_next_162 ?_
        refine lv_icmp_ge (tgt := 243) hx hb dX12_next_165 (by decide) (fun c226 => ?_) (fun c226 => ?_)
        · have ic226 : w212.toInt ≥ o26_x9.toInt := zi_ge rfl rfl c226
          refine pz_loop (fun n0 H locs ls => ∃ f235 : Nat → va_E, ∃ w227 : Int32, ∃ w228 : Int64, n0 = (400 - (w227.toInt)).toNat ∧ tp_T (mo_O κ Θ) κ τ ν ρ f235 ∧ tp_F τ [13] f f235 ∧ f235 (ρ h0 8) = .inl (κ 0, 400, .inl g35) ∧ f235 h0 = .inr (12, [.int o26_x0, .int o26_x1, .ref (ρ h0 2), .ref (ρ h0 3), .ref (ρ h0 4), .ref (ρ h0 5), .ref (ρ h0 6), .int o26_x7, .ref (ρ h0 8), .int o26_x9, .int w41, .int w227, .int 1, .long w228, .int o26_x14, .int o26_x15, .int o26_x16, .int o26_x17, .int o26_x18, .int o26_x19, .int o26_x20, .ref (ρ h0 21), .int o26_x22, .ref (ρ h0 23), .ref (ρ h0 24), .int o26_x25, .ref (ρ h0 26), .ref (ρ h0 27), .int o26_x28, .int o26_x29, .ref (ρ h0 30), .ref (ρ h0 31), .int o26_x32, .long o26_x33, .long o26_x34, .long o26_x35, .int o26_x36, .int o26_x37, .int o26_x38, .ref (ρ h0 39), .ref (ρ h0 40), .ref (ρ h0 41), .ref (ρ h0 42), .ref (ρ h0 43), .ref (ρ h0 44), .ref (ρ h0 45), .ref (ρ h0 46), .int o26_x47, .int o26_x48, .ref (ρ h0 49), .ref (ρ h0 50), .ref (ρ h0 51), .ref (ρ h0 52)]) ∧ (0 ≤ w227.toInt ∧ w227.toInt ≤ 400) ∧ (w41.toInt ≤ (w227.toInt)) ∧ ((w227.toInt) ≤ o26_x9.toInt) ∧ (w41.toInt < (w227.toInt)) ∧ (((w227.toInt) = w41.toInt + 1 → (w228.toInt) ≤ 26)) ∧ va_P (dC, dI) vwCl (va_pl L f235) H ∧ va_D A (va_pl L f235) ∧ va_S A s.heap H locs ∧ lv_has ls 1 [(0, .ref h0)]) ?_ _ _ _ _ ⟨f221, w212, w213, rfl, hT, hR, hk219k, hk220k, (by omega), (by omega), (by omega), (by omega), (by omega), hP, hD, hS, lv_sub hl [0] rfl⟩
          intro n0 H locs ls hI ih237
          refine Exists.elim hI (fun f235 hE90 => Exists.elim hE90 (fun w227 hE91 => Exists.elim hE91 (fun w228 hE92 => tn_14 hE92 (fun hn238 hT hR hk233k hk234k rw227 k229 k230 k231 k232 hP hD hS hl => ?_))))
          clear hE92 hE91 hE90 hI
          refine lv_aload_n hx hb dX12_next_243 rfl (lv_at hl 0 rfl) ?_
          refine tpk_pos (tp_in hG ht_h0 (by decide)) hk234k (fun q239 eq239 => ?_)
          refine va_get (D := (dC, dI)) (ci := 12) (v := .int 1) (C := RX12) (T := TX12) (N := 53) hx hb hts hfX12 hown hK hP q239 eq239 rfl 12 (by decide) (hts (.fieldLink RX12 280 "ColdShipsModel" "sort" "I") wa_995) (fun _ h9 => h9) rfl dX12_next_244 ?_
          refine lv_iconst (v := 2) hx hb dX12_next_247 (by decide) ?_
          refine lv_icmp_ne (tgt := 335) hx hb dX12_next_248 (by decide) (fun _ => ?_) (fun c9 => absurd c9 (by decide))
          have tf240 : mo_hd (tp_fld (f235 h0) 10 = w41.toInt) := tff_10 hk234k
          have tf241 : mo_hd (tp_fld (f235 h0) 11 = w227.toInt) := tff_11 hk234k
          have tf242 : mo_hd (tp_fld (f235 h0) 9 = o26_x9.toInt) := tff_9 hk234k
          have tf243 : mo_hd (tp_fld (f235 h0) 12 = 1) := tff_12 hk234k
          have tf244 : mo_hd (mo_fj (f235 h0) 13 = w228.toInt) := tff_13 hk234k
          have tf245 : mo_hd (tp_fld (f235 h0) 15 = o26_x15.toInt) := tff_15 hk234k
          have tf246 : mo_hd (tp_fld (f235 h0) 19 = o26_x19.toInt) := tff_19 hk234k
          have tf247 : mo_hd (tp_fld (f235 h0) 20 = o26_x20.toInt) := tff_20 hk234k
          have tf248 : mo_hd (tp_fld (f235 h0) 22 = o26_x22.toInt) := tff_22 hk234k
          have tf249 : mo_hd (tp_fld (f235 h0) 28 = o26_x28.toInt) := tff_28 hk234k
          have ro26_5 := tp_hu ro26_5; have ro26_6 := tp_hu ro26_6; have ro26_7 := tp_hu ro26_7; have ro26_8 := tp_hu ro26_8; have ro26_9 := tp_hu ro26_9
          exact W.vret hx hb hr (fun t ht hW => ⟨⟨f235, rfl, ⟨hT, hR, (by first | (simp only [(mo_un tf240), (mo_un tf241), (mo_un tf242), (mo_un tf243), (mo_un tf244), (mo_un tf28), (mo_un tf27), (mo_un tf245), (mo_un tf29), (mo_un tf246), (mo_un tf30), (mo_un tf247), (mo_un tf31), (mo_un tf248), (mo_un tf32), (mo_un tf249), (mo_un tf33), mo_i1, mo_l1]; exact (show (w41.toInt ≤ w227.toInt ∧ w227.toInt ≤ o26_x9.toInt ∧ (1 = 0 ∨ w41.toInt < w227.toInt) ∧ (1 = 1 → w227.toInt = w41.toInt + 1 → w228.toInt ≤ 26)) ∧ o26_x11.toInt ≤ w41.toInt ∧ o26_x9.toInt = o26_x9.toInt ∧ o26_x15.toInt = o26_x15.toInt ∧ o26_x19.toInt = o26_x19.toInt ∧ o26_x20.toInt = o26_x20.toInt ∧ o26_x22.toInt = o26_x22.toInt ∧ o26_x28.toInt = o26_x28.toInt from by first | omega | decide)) | (rw [(mo_un tf240), (mo_un tf241), (mo_un tf242), (mo_un tf243), (mo_un tf244), (mo_un tf28), (mo_un tf27), (mo_un tf245), (mo_un tf29), (mo_un tf246), (mo_un tf30), (mo_un tf247), (mo_un tf31), (mo_un tf248), (mo_un tf32), (mo_un tf249), (mo_un tf33)]; exact (show (w41.toInt ≤ w227.toInt ∧ w227.toInt ≤ o26_x9.toInt ∧ (1 = 0 ∨ w41.toInt < w227.toInt) ∧ (1 = 1 → w227.toInt = w41.toInt + 1 → w228.toInt ≤ 26)) ∧ o26_x11.toInt ≤ w41.toInt ∧ o26_x9.toInt = o26_x9.toInt ∧ o26_x15.toInt = o26_x15.toInt ∧ o26_x19.toInt = o26_x19.toInt ∧ o26_x20.toInt = o26_x20.toInt ∧ o26_x22.toInt = o26_x22.toInt ∧ o26_x28.toInt = o26_x28.toInt from by first | omega | decide)))⟩, by rw [ht]; exact hP, va_K.moved hW.alike hK, hD⟩, hS.F ht⟩) hS.2.2 dX12_next_335
        · have ic226 : w212.toInt < o26_x9.toInt := zi_gef rfl rfl c226
          refine lv_aload_n hx hb dX12_next_168 rfl (lv_at hl 0 rfl) ?_
          refine va_get (D := (dC, dI)) (ci := 12) (v := .ref (ρ h0 8)) (C := RX12) (T := TX12) (N := 53) hx hb hts hfX12 hown hK hP q225 eq225 rfl 8 (by decide) (hts (.fieldLink RX12 27 "ColdShipsModel" "tape" "[I") wa_154) (fun _ h9 => h9) rfl dX12_next_169 ?_
          refine lv_aload_n hx hb dX12_next_172 rfl (lv_at hl 0 rfl) ?_
          refine va_get (D := (dC, dI)) (ci := 12) (v := .int w212) (C := RX12) (T := TX12) (N := 53) hx hb hts hfX12 hown hK hP q225 eq225 rfl 11 (by decide) (hts (.fieldLink RX12 258 "ColdShipsModel" "to" "I") wa_1000) (fun _ h9 => h9) rfl dX12_next_173 ?_
          refine tpk_pos (tp_in hG y6 (by decide)) hk219k (fun q250 eq250 => ?_)
          refine va_iald hx hb hK hP q250 0 eq250 rfl (vp_in_iff.mpr ⟨by omega, by omega⟩) dX12_next_176 ?_
          refine lv_topi (fun z251 ez251 => ?_)
          have jz251 : z251.toInt = mo_R g35 w212.toInt := mo_rd ez251 (by omega)
          have hz251q := fun (q9 : w212.toInt = w41.toInt) => congrArg (mo_R g35) q9
          refine pz_calli (va_runS (As := [.int z251]) (rest := []) ⟨hx, hb, hml, hown, hts⟩ (t_X12_isSmall l dC dI _ z251 (z251.toInt) rfl) (va_cwS 1 hts gX12_next_X12_isSmall rfl rfl rfl pd_X12_isSmall ⟨Nat.le_of_ble_eq_true rfl, Nat.le_of_ble_eq_true rfl⟩) ⟨pz_blind, pz_pre pz_P0 (hK.sub (tys' := []) [] rfl) (pz_D0 (A := fun _ => True)) hN⟩ rfl rfl hl.1 rfl (lv_room (Nat.le_of_ble_eq_true rfl)) dX12_next_177 ⟨Nat.le_of_ble_eq_true rfl, Nat.le_of_ble_eq_true rfl⟩) (fun r252 hw253 => ?_)
          obtain ⟨hw253r, hw253p⟩ := hw253
          refine lv_if_eq (tgt := 243) hx hb dX12_next_180 (by decide) (fun c254 => ?_) (fun c254 => ?_)
          · have ic254 : r252.toInt = 0 := zi_eq rfl rfl c254
            have p255 : ¬ (97 ≤ (z251.toInt) ∧ (z251.toInt) ≤ 122) := (tp_cond.no hw253p) (by omega)
            clear hw253r ic254
            refine pz_loop (fun n0 H locs ls => ∃ f264 : Nat → va_E, ∃ w256 : Int32, ∃ w257 : Int64, n0 = (400 - (w256.toInt)).toNat ∧ tp_T (mo_O κ Θ) κ τ ν ρ f264 ∧ tp_F τ [13] f f264 ∧ f264 (ρ h0 8) = .inl (κ 0, 400, .inl g35) ∧ f264 h0 = .inr (12, [.int o26_x0, .int o26_x1, .ref (ρ h0 2), .ref (ρ h0 3), .ref (ρ h0 4), .ref (ρ h0 5), .ref (ρ h0 6), .int o26_x7, .ref (ρ h0 8), .int o26_x9, .int w41, .int w256, .int 1, .long w257, .int o26_x14, .int o26_x15, .int o26_x16, .int o26_x17, .int o26_x18, .int o26_x19, .int o26_x20, .ref (ρ h0 21), .int o26_x22, .ref (ρ h0 23), .ref (ρ h0 24), .int o26_x25, .ref (ρ h0 26), .ref (ρ h0 27), .int o26_x28, .int o26_x29, .ref (ρ h0 30), .ref (ρ h0 31), .int o26_x32, .long o26_x33, .long o26_x34, .long o26_x35, .int o26_x36, .int o26_x37, .int o26_x38, .ref (ρ h0 39), .ref (ρ h0 40), .ref (ρ h0 41), .ref (ρ h0 42), .ref (ρ h0 43), .ref (ρ h0 44), .ref (ρ h0 45), .ref (ρ h0 46), .int o26_x47, .int o26_x48, .ref (ρ h0 49), .ref (ρ h0 50), .ref (ρ h0 51), .ref (ρ h0 52)]) ∧ (0 ≤ w256.toInt ∧ w256.toInt ≤ 400) ∧ (w41.toInt ≤ (w256.toInt)) ∧ ((w256.toInt) ≤ o26_x9.toInt) ∧ (w41.toInt < (w256.toInt)) ∧ (((w256.toInt) = w41.toInt + 1 → (w257.toInt) ≤ 26)) ∧ va_P (dC, dI) vwCl (va_pl L f264) H ∧ va_D A (va_pl L f264) ∧ va_S A s.heap H locs ∧ lv_has ls 1 [(0, .ref h0)]) ?_ _ _ _ _ ⟨f221, w212, w213, rfl, hT, hR, hk219k, hk220k, (by omega), (by omega), (by omega), (by omega), (by omega), hP, hD, hS, lv_sub hl [0] rfl⟩
            intro n0 H locs ls hI ih266
            refine Exists.elim hI (fun f264 hE90 => Exists.elim hE90 (fun w256 hE91 => Exists.elim hE91 (fun w257 hE92 => tn_14 hE92 (fun hn267 hT hR hk262k hk263k rw256 k258 k259 k260 k261 hP hD hS hl => ?_))))
            clear hE92 hE91 hE90 hI
            refine lv_aload_n hx hb dX12_next_243 rfl (lv_at hl 0 rfl) ?_
            refine tpk_pos (tp_in hG ht_h0 (by decide)) hk263k (fun q268 eq268 => ?_)
            refine va_get (D := (dC, dI)) (ci := 12) (v := .int 1) (C := RX12) (T := TX12) (N := 53) hx hb hts hfX12 hown hK hP q268 eq268 rfl 12 (by decide) (hts (.fieldLink RX12 280 "ColdShipsModel" "sort" "I") wa_995) (fun _ h9 => h9) rfl dX12_next_244 ?_
            refine lv_iconst (v := 2) hx hb dX12_next_247 (by decide) ?_
            refine lv_icmp_ne (tgt := 335) hx hb dX12_next_248 (by decide) (fun _ => ?_) (fun c9 => absurd c9 (by decide))
            have tf269 : mo_hd (tp_fld (f264 h0) 10 = w41.toInt) := tff_10 hk263k
            have tf270 : mo_hd (tp_fld (f264 h0) 11 = w256.toInt) := tff_11 hk263k
            have tf271 : mo_hd (tp_fld (f264 h0) 9 = o26_x9.toInt) := tff_9 hk263k
            have tf272 : mo_hd (tp_fld (f264 h0) 12 = 1) := tff_12 hk263k
            have tf273 : mo_hd (mo_fj (f264 h0) 13 = w257.toInt) := tff_13 hk263k
            have tf274 : mo_hd (tp_fld (f264 h0) 15 = o26_x15.toInt) := tff_15 hk263k
            have tf275 : mo_hd (tp_fld (f264 h0) 19 = o26_x19.toInt) := tff_19 hk263k
            have tf276 : mo_hd (tp_fld (f264 h0) 20 = o26_x20.toInt) := tff_20 hk263k
            have tf277 : mo_hd (tp_fld (f264 h0) 22 = o26_x22.toInt) := tff_22 hk263k
            have tf278 : mo_hd (tp_fld (f264 h0) 28 = o26_x28.toInt) := tff_28 hk263k
            have ro26_5 := tp_hu ro26_5; have ro26_6 := tp_hu ro26_6; have ro26_7 := tp_hu ro26_7; have ro26_8 := tp_hu ro26_8; have ro26_9 := tp_hu ro26_9
            exact W.vret hx hb hr (fun t ht hW => ⟨⟨f264, rfl, ⟨hT, hR, (by first | (simp only [(mo_un tf269), (mo_un tf270), (mo_un tf271), (mo_un tf272), (mo_un tf273), (mo_un tf28), (mo_un tf27), (mo_un tf274), (mo_un tf29), (mo_un tf275), (mo_un tf30), (mo_un tf276), (mo_un tf31), (mo_un tf277), (mo_un tf32), (mo_un tf278), (mo_un tf33), mo_i1, mo_l1]; exact (show (w41.toInt ≤ w256.toInt ∧ w256.toInt ≤ o26_x9.toInt ∧ (1 = 0 ∨ w41.toInt < w256.toInt) ∧ (1 = 1 → w256.toInt = w41.toInt + 1 → w257.toInt ≤ 26)) ∧ o26_x11.toInt ≤ w41.toInt ∧ o26_x9.toInt = o26_x9.toInt ∧ o26_x15.toInt = o26_x15.toInt ∧ o26_x19.toInt = o26_x19.toInt ∧ o26_x20.toInt = o26_x20.toInt ∧ o26_x22.toInt = o26_x22.toInt ∧ o26_x28.toInt = o26_x28.toInt from by first | omega | decide)) | (rw [(mo_un tf269), (mo_un tf270), (mo_un tf271), (mo_un tf272), (mo_un tf273), (mo_un tf28), (mo_un tf27), (mo_un tf274), (mo_un tf29), (mo_un tf275), (mo_un tf30), (mo_un tf276), (mo_un tf31), (mo_un tf277), (mo_un tf32), (mo_un tf278), (mo_un tf33)]; exact (show (w41.toInt ≤ w256.toInt ∧ w256.toInt ≤ o26_x9.toInt ∧ (1 = 0 ∨ w41.toInt < w256.toInt) ∧ (1 = 1 → w256.toInt = w41.toInt + 1 → w257.toInt ≤ 26)) ∧ o26_x11.toInt ≤ w41.toInt ∧ o26_x9.toInt = o26_x9.toInt ∧ o26_x15.toInt = o26_x15.toInt ∧ o26_x19.toInt = o26_x19.toInt ∧ o26_x20.toInt = o26_x20.toInt ∧ o26_x22.toInt = o26_x22.toInt ∧ o26_x28.toInt = o26_x28.toInt from by first | omega | decide)))⟩, by rw [ht]; exact hP, va_K.moved hW.alike hK, hD⟩, hS.F ht⟩) hS.2.2 dX12_next_335
          · have ic254 : r252.toInt ≠ 0 := zi_eqf rfl rfl c254
            replace ic254 : 1 ≤ r252.toInt := by omega
            have p279 : 97 ≤ (z251.toInt) ∧ (z251.toInt) ≤ 122 := (tp_cond.yes hw253p) (by omega)
            clear hw253r ic254
            refine lv_aload_n hx hb dX12_next_183 rfl (lv_at hl 0 rfl) ?_
            refine lv_aload_n hx hb dX12_next_184 rfl (lv_at hl 0 rfl) ?_
            refine va_get (D := (dC, dI)) (ci := 12) (v := .int w212) (C := RX12) (T := TX12) (N := 53) hx hb hts hfX12 hown hK hP q225 eq225 rfl 11 (by decide) (hts (.fieldLink RX12 258 "ColdShipsModel" "to" "I") wa_1000) (fun _ h9 => h9) rfl dX12_next_185 ?_
            refine lv_aload_n hx hb dX12_next_188 rfl (lv_at hl 0 rfl) ?_
            refine va_get (D := (dC, dI)) (ci := 12) (v := .int w41) (C := RX12) (T := TX12) (N := 53) hx hb hts hfX12 hown hK hP q225 eq225 rfl 10 (by decide) (hts (.fieldLink RX12 267 "ColdShipsModel" "from" "I") wa_1005) (fun _ h9 => h9) rfl dX12_next_189 ?_
            refine lv_isub hx hb dX12_next_192 ?_
            refine lv_topi (fun z280 ez280 => ?_)
            have iz280 : z280.toInt = w212.toInt - w41.toInt := zi_sub ez280 rfl rfl (by omega) (by omega)
            refine lv_bipush (v := 10) hx hb dX12_next_193 (by decide) ?_
            refine lv_icmp_ge (tgt := 224) hx hb dX12_next_195 (by decide) (fun c281 => ?_) (fun c281 => ?_)
            · have ic281 : z280.toInt ≥ 10 := zi_ge rfl rfl c281
              refine lv_ldc2 (own := RX12) (v := (-1)) hx hb hown (hts (.constantLong RX12 158 (-1)) wa_557) dX12_next_224 ?_
              refine va_put (D := (dC, dI)) (ci := 12) (v := .long (-1)) (ty := .long) (C := RX12) (T := TX12) (N := 53) hx hb hts hfX12 tyX12 tyX12_ok nmX12 hown hK hP hD hS q225 eq225 rfl 13 (by decide) (hts (.fieldLink RX12 270 "ColdShipsModel" "worth" "J") wa_1006) (fun _ h9 => h9) rfl (tyX12_ok 13 (by decide)) rfl rfl (Nat.le_of_ble_eq_true rfl) dX12_next_227 (tp_k (.inr (12, [.int o26_x0, .int o26_x1, .ref (ρ h0 2), .ref (ρ h0 3), .ref (ρ h0 4), .ref (ρ h0 5), .ref (ρ h0 6), .int o26_x7, .ref (ρ h0 8), .int o26_x9, .int w41, .int w212, .int 1, .long (-1), .int o26_x14, .int o26_x15, .int o26_x16, .int o26_x17, .int o26_x18, .int o26_x19, .int o26_x20, .ref (ρ h0 21), .int o26_x22, .ref (ρ h0 23), .ref (ρ h0 24), .int o26_x25, .ref (ρ h0 26), .ref (ρ h0 27), .int o26_x28, .int o26_x29, .ref (ρ h0 30), .ref (ρ h0 31), .int o26_x32, .long o26_x33, .long o26_x34, .long o26_x35, .int o26_x36, .int o26_x37, .int o26_x38, .ref (ρ h0 39), .ref (ρ h0 40), .ref (ρ h0 41), .ref (ρ h0 42), .ref (ρ h0 43), .ref (ρ h0 44), .ref (ρ h0 45), .ref (ρ h0 46), .int o26_x47, .int o26_x48, .ref (ρ h0 49), .ref (ρ h0 50), .ref (ρ h0 51), .ref (ρ h0 52)])) hD (tp_in hG ht_h0 (by decide)) eq225 (fun f282 H locs hP hD hS g284 k283 => ?_))
              have hT := hT.up ht_h0 g284 k283 ⟨_, _, _, _, _, _, _, _, _, _, _, _, _, _, _, _, _, _, _, _, _, _, _, _, _, _, _, _, rfl, ro26_0, ro26_1, (by omega), (by omega), (by decide), ro26_5, ro26_6, ro26_7, ro26_8, ro26_9, ro26_10, ro26_11, ro26_12, ro26_13, ro26_14⟩
              have hR := hR.up ht_h0 (by decide) k283
              refine lv_aload_n hx hb dX12_next_230 rfl (lv_at hl 0 rfl) ?_
              refine lv_dup hx hb dX12_next_231 rfl ?_
              refine tpk_pos (tp_in hG ht_h0 (by decide)) g284 (fun q285 eq285 => ?_)
              refine va_get (D := (dC, dI)) (ci := 12) (v := .int w212) (C := RX12) (T := TX12) (N := 53) hx hb hts hfX12 hown hK hP q285 eq285 rfl 11 (by decide) (hts (.fieldLink RX12 258 "ColdShipsModel" "to" "I") wa_1000) (fun _ h9 => h9) rfl dX12_next_232 ?_
              refine lv_iconst (v := 1) hx hb dX12_next_235 (by decide) ?_
              refine lv_iadd hx hb dX12_next_236 ?_
              refine lv_topi (fun z286 ez286 => ?_)
              have iz286 : z286.toInt = w212.toInt + 1 := zi_add ez286 rfl rfl (by omega) (by omega)
              refine va_put (D := (dC, dI)) (ci := 12) (v := .int z286) (ty := .int) (C := RX12) (T := TX12) (N := 53) hx hb hts hfX12 tyX12 tyX12_ok nmX12 hown hK hP hD hS q285 eq285 rfl 11 (by decide) (hts (.fieldLink RX12 258 "ColdShipsModel" "to" "I") wa_1000) (fun _ h9 => h9) rfl (tyX12_ok 11 (by decide)) rfl rfl (Nat.le_of_ble_eq_true rfl) dX12_next_237 (tp_k (.inr (12, [.int o26_x0, .int o26_x1, .ref (ρ h0 2), .ref (ρ h0 3), .ref (ρ h0 4), .ref (ρ h0 5), .ref (ρ h0 6), .int o26_x7, .ref (ρ h0 8), .int o26_x9, .int w41, .int z286, .int 1, .long (-1), .int o26_x14, .int o26_x15, .int o26_x16, .int o26_x17, .int o26_x18, .int o26_x19, .int o26_x20, .ref (ρ h0 21), .int o26_x22, .ref (ρ h0 23), .ref (ρ h0 24), .int o26_x25, .ref (ρ h0 26), .ref (ρ h0 27), .int o26_x28, .int o26_x29, .ref (ρ h0 30), .ref (ρ h0 31), .int o26_x32, .long o26_x33, .long o26_x34, .long o26_x35, .int o26_x36, .int o26_x37, .int o26_x38, .ref (ρ h0 39), .ref (ρ h0 40), .ref (ρ h0 41), .ref (ρ h0 42), .ref (ρ h0 43), .ref (ρ h0 44), .ref (ρ h0 45), .ref (ρ h0 46), .int o26_x47, .int o26_x48, .ref (ρ h0 49), .ref (ρ h0 50), .ref (ρ h0 51), .ref (ρ h0 52)])) hD (tp_in hG ht_h0 (by decide)) eq285 (fun f287 H locs hP hD hS g289 k288 => ?_))
              have hT := hT.up ht_h0 g289 k288 ⟨_, _, _, _, _, _, _, _, _, _, _, _, _, _, _, _, _, _, _, _, _, _, _, _, _, _, _, _, rfl, ro26_0, ro26_1, (by omega), (by omega), (by decide), ro26_5, ro26_6, ro26_7, ro26_8, ro26_9, ro26_10, ro26_11, ro26_12, ro26_13, ro26_14⟩
              have hR := hR.up ht_h0 (by decide) k288
              refine lv_goto (tgt := 149) hx hb dX12_next_240 (by decide) ?_
              have hf_290 : f282 (ρ h0 8) = .inl (κ 0, 400, .inl g35) := (k283 _ (tp_ne y6 ht_h0 (by decide))).trans hk219k
              have hf_291 : f287 (ρ h0 8) = .inl (κ 0, 400, .inl g35) := (k288 _ (tp_ne y6 ht_h0 (by decide))).trans hf_290
              exact ih223 _ _ _ _ (by rw [hn224]; omega) ⟨f287, z286, (-1), rfl, hT, hR, hf_291, g289, (by have : ((-1) : Int64).toInt = (-1) := rfl; omega), (by have : ((-1) : Int64).toInt = (-1) := rfl; omega), (by have : ((-1) : Int64).toInt = (-1) := rfl; omega), (by have : ((-1) : Int64).toInt = (-1) := rfl; omega), (by have : ((-1) : Int64).toInt = (-1) := rfl; omega), hP, hD, hS, lv_sub hl [0] rfl⟩
            · have ic281 : z280.toInt < 10 := zi_gef rfl rfl c281
              refine lv_aload_n hx hb dX12_next_198 rfl (lv_at hl 0 rfl) ?_
              refine va_get (D := (dC, dI)) (ci := 12) (v := .long w213) (C := RX12) (T := TX12) (N := 53) hx hb hts hfX12 hown hK hP q225 eq225 rfl 13 (by decide) (hts (.fieldLink RX12 270 "ColdShipsModel" "worth" "J") wa_1006) (fun _ h9 => h9) rfl dX12_next_199 ?_
              refine lv_ldc2 (own := RX12) (v := 32) hx hb hown (hts (.constantLong RX12 283 (32)) wa_1007) dX12_next_202 ?_
              refine lv_lmul hx hb dX12_next_205 ?_
              refine lv_topl (fun z292 ez292 => ?_)
              refine lv_aload_n hx hb dX12_next_206 rfl (lv_at hl 0 rfl) ?_
              refine va_get (D := (dC, dI)) (ci := 12) (v := .ref (ρ h0 8)) (C := RX12) (T := TX12) (N := 53) hx hb hts hfX12 hown hK hP q225 eq225 rfl 8 (by decide) (hts (.fieldLink RX12 27 "ColdShipsModel" "tape" "[I") wa_154) (fun _ h9 => h9) rfl dX12_next_207 ?_
              refine lv_aload_n hx hb dX12_next_210 rfl (lv_at hl 0 rfl) ?_
              refine va_get (D := (dC, dI)) (ci := 12) (v := .int w212) (C := RX12) (T := TX12) (N := 53) hx hb hts hfX12 hown hK hP q225 eq225 rfl 11 (by decide) (hts (.fieldLink RX12 258 "ColdShipsModel" "to" "I") wa_1000) (fun _ h9 => h9) rfl dX12_next_211 ?_
              refine va_iald hx hb hK hP q250 0 eq250 rfl (vp_in_iff.mpr ⟨by omega, by omega⟩) dX12_next_214 ?_
              refine lv_topi (fun z293 ez293 => ?_)
              have jz293 : z293.toInt = mo_R g35 w212.toInt := mo_rd ez293 (by omega)
              have hz293q := fun (q9 : w212.toInt = w41.toInt) => congrArg (mo_R g35) q9
              refine lv_i2l hx hb dX12_next_215 rfl ?_
              refine lv_ladd hx hb dX12_next_216 ?_
              refine lv_topl (fun z294 ez294 => ?_)
              refine lv_ldc2 (own := RX12) (v := 96) hx hb hown (hts (.constantLong RX12 285 (96)) wa_1008) dX12_next_217 ?_
              refine lv_lsub hx hb dX12_next_220 ?_
              refine lv_topl (fun z295 ez295 => ?_)
              have hw1 : w212.toInt = w41.toInt → z295.toInt ≤ 26 := fun q9 => by have q8 := zl_w0 ez292 ez294 ez295 (by omega) (Int32.toInt_toInt64 z293) (by omega) (by omega); omega
              refine lv_goto (tgt := 227) hx hb dX12_next_221 (by decide) ?_
              refine va_put (D := (dC, dI)) (ci := 12) (v := .long z295) (ty := .long) (C := RX12) (T := TX12) (N := 53) hx hb hts hfX12 tyX12 tyX12_ok nmX12 hown hK hP hD hS q225 eq225 rfl 13 (by decide) (hts (.fieldLink RX12 270 "ColdShipsModel" "worth" "J") wa_1006) (fun _ h9 => h9) rfl (tyX12_ok 13 (by decide)) rfl rfl (Nat.le_of_ble_eq_true rfl) dX12_next_227 (tp_k (.inr (12, [.int o26_x0, .int o26_x1, .ref (ρ h0 2), .ref (ρ h0 3), .ref (ρ h0 4), .ref (ρ h0 5), .ref (ρ h0 6), .int o26_x7, .ref (ρ h0 8), .int o26_x9, .int w41, .int w212, .int 1, .long z295, .int o26_x14, .int o26_x15, .int o26_x16, .int o26_x17, .int o26_x18, .int o26_x19, .int o26_x20, .ref (ρ h0 21), .int o26_x22, .ref (ρ h0 23), .ref (ρ h0 24), .int o26_x25, .ref (ρ h0 26), .ref (ρ h0 27), .int o26_x28, .int o26_x29, .ref (ρ h0 30), .ref (ρ h0 31), .int o26_x32, .long o26_x33, .long o26_x34, .long o26_x35, .int o26_x36, .int o26_x37, .int o26_x38, .ref (ρ h0 39), .ref (ρ h0 40), .ref (ρ h0 41), .ref (ρ h0 42), .ref (ρ h0 43), .ref (ρ h0 44), .ref (ρ h0 45), .ref (ρ h0 46), .int o26_x47, .int o26_x48, .ref (ρ h0 49), .ref (ρ h0 50), .ref (ρ h0 51), .ref (ρ h0 52)])) hD (tp_in hG ht_h0 (by decide)) eq225 (fun f296 H locs hP hD hS g298 k297 => ?_))
              have hT := hT.up ht_h0 g298 k297 ⟨_, _, _, _, _, _, _, _, _, _, _, _, _, _, _, _, _, _, _, _, _, _, _, _, _, _, _, _, rfl, ro26_0, ro26_1, (by omega), (by omega), (by decide), ro26_5, ro26_6, ro26_7, ro26_8, ro26_9, ro26_10, ro26_11, ro26_12, ro26_13, ro26_14⟩
              have hR := hR.up ht_h0 (by decide) k297
              refine lv_aload_n hx hb dX12_next_230 rfl (lv_at hl 0 rfl) ?_
              refine lv_dup hx hb dX12_next_231 rfl ?_
              refine tpk_pos (tp_in hG ht_h0 (by decide)) g298 (fun q299 eq299 => ?_)
              refine va_get (D := (dC, dI)) (ci := 12) (v := .int w212) (C := RX12) (T := TX12) (N := 53) hx hb hts hfX12 hown hK hP q299 eq299 rfl 11 (by decide) (hts (.fieldLink RX12 258 "ColdShipsModel" "to" "I") wa_1000) (fun _ h9 => h9) rfl dX12_next_232 ?_
              refine lv_iconst (v := 1) hx hb dX12_next_235 (by decide) ?_
              refine lv_iadd hx hb dX12_next_236 ?_
              refine lv_topi (fun z300 ez300 => ?_)
              have iz300 : z300.toInt = w212.toInt + 1 := zi_add ez300 rfl rfl (by omega) (by omega)
              refine va_put (D := (dC, dI)) (ci := 12) (v := .int z300) (ty := .int) (C := RX12) (T := TX12) (N := 53) hx hb hts hfX12 tyX12 tyX12_ok nmX12 hown hK hP hD hS q299 eq299 rfl 11 (by decide) (hts (.fieldLink RX12 258 "ColdShipsModel" "to" "I") wa_1000) (fun _ h9 => h9) rfl (tyX12_ok 11 (by decide)) rfl rfl (Nat.le_of_ble_eq_true rfl) dX12_next_237 (tp_k (.inr (12, [.int o26_x0, .int o26_x1, .ref (ρ h0 2), .ref (ρ h0 3), .ref (ρ h0 4), .ref (ρ h0 5), .ref (ρ h0 6), .int o26_x7, .ref (ρ h0 8), .int o26_x9, .int w41, .int z300, .int 1, .long z295, .int o26_x14, .int o26_x15, .int o26_x16, .int o26_x17, .int o26_x18, .int o26_x19, .int o26_x20, .ref (ρ h0 21), .int o26_x22, .ref (ρ h0 23), .ref (ρ h0 24), .int o26_x25, .ref (ρ h0 26), .ref (ρ h0 27), .int o26_x28, .int o26_x29, .ref (ρ h0 30), .ref (ρ h0 31), .int o26_x32, .long o26_x33, .long o26_x34, .long o26_x35, .int o26_x36, .int o26_x37, .int o26_x38, .ref (ρ h0 39), .ref (ρ h0 40), .ref (ρ h0 41), .ref (ρ h0 42), .ref (ρ h0 43), .ref (ρ h0 44), .ref (ρ h0 45), .ref (ρ h0 46), .int o26_x47, .int o26_x48, .ref (ρ h0 49), .ref (ρ h0 50), .ref (ρ h0 51), .ref (ρ h0 52)])) hD (tp_in hG ht_h0 (by decide)) eq299 (fun f301 H locs hP hD hS g303 k302 => ?_))
              have hT := hT.up ht_h0 g303 k302 ⟨_, _, _, _, _, _, _, _, _, _, _, _, _, _, _, _, _, _, _, _, _, _, _, _, _, _, _, _, rfl, ro26_0, ro26_1, (by omega), (by omega), (by decide), ro26_5, ro26_6, ro26_7, ro26_8, ro26_9, ro26_10, ro26_11, ro26_12, ro26_13, ro26_14⟩
              have hR := hR.up ht_h0 (by decide) k302
              refine lv_goto (tgt := 149) hx hb dX12_next_240 (by decide) ?_
              have hf_304 : f296 (ρ h0 8) = .inl (κ 0, 400, .inl g35) := (k297 _ (tp_ne y6 ht_h0 (by decide))).trans hk219k
              have hf_305 : f301 (ρ h0 8) = .inl (κ 0, 400, .inl g35) := (k302 _ (tp_ne y6 ht_h0 (by decide))).trans hf_304
              exact ih223 _ _ _ _ (by rw [hn224]; omega) ⟨f301, z300, z295, rfl, hT, hR, hf_305, g303, (by omega), (by omega), (by omega), (by omega), (by omega), hP, hD, hS, lv_sub hl [0] rfl⟩
    · have ic61 : w41.toInt = o26_x9.toInt := zi_nef rfl rfl c61
      refine lv_iconst (v := 0) hx hb dX12_next_71 (by decide) ?_
      refine lv_goto (tgt := 114) hx hb dX12_next_72 (by decide) ?_
      refine va_put (D := (dC, dI)) (ci := 12) (v := .int 0) (ty := .int) (C := RX12) (T := TX12) (N := 53) hx hb hts hfX12 tyX12 tyX12_ok nmX12 hown hK hP hD hS q60 eq60 rfl 12 (by decide) (hts (.fieldLink RX12 280 "ColdShipsModel" "sort" "I") wa_995) (fun _ h9 => h9) rfl (tyX12_ok 12 (by decide)) rfl rfl (Nat.le_of_ble_eq_true rfl) dX12_next_114 (tp_k (.inr (12, [.int o26_x0, .int o26_x1, .ref (ρ h0 2), .ref (ρ h0 3), .ref (ρ h0 4), .ref (ρ h0 5), .ref (ρ h0 6), .int o26_x7, .ref (ρ h0 8), .int o26_x9, .int w41, .int w41, .int 0, .long 0, .int o26_x14, .int o26_x15, .int o26_x16, .int o26_x17, .int o26_x18, .int o26_x19, .int o26_x20, .ref (ρ h0 21), .int o26_x22, .ref (ρ h0 23), .ref (ρ h0 24), .int o26_x25, .ref (ρ h0 26), .ref (ρ h0 27), .int o26_x28, .int o26_x29, .ref (ρ h0 30), .ref (ρ h0 31), .int o26_x32, .long o26_x33, .long o26_x34, .long o26_x35, .int o26_x36, .int o26_x37, .int o26_x38, .ref (ρ h0 39), .ref (ρ h0 40), .ref (ρ h0 41), .ref (ρ h0 42), .ref (ρ h0 43), .ref (ρ h0 44), .ref (ρ h0 45), .ref (ρ h0 46), .int o26_x47, .int o26_x48, .ref (ρ h0 49), .ref (ρ h0 50), .ref (ρ h0 51), .ref (ρ h0 52)])) hD (tp_in hG ht_h0 (by decide)) eq60 (fun f306 H locs hP hD hS g308 k307 => ?_))
      have hT := hT.up ht_h0 g308 k307 ⟨_, _, _, _, _, _, _, _, _, _, _, _, _, _, _, _, _, _, _, _, _, _, _, _, _, _, _, _, rfl, ro26_0, ro26_1, (by omega), (by omega), (by decide), ro26_5, ro26_6, ro26_7, ro26_8, ro26_9, ro26_10, ro26_11, ro26_12, ro26_13, ro26_14⟩
      have hR := hR.up ht_h0 (by decide) k307
      refine lv_aload_n hx hb dX12_next_117 rfl (lv_at hl 0 rfl) ?_
      refine tpk_pos (tp_in hG ht_h0 (by decide)) g308 (fun q309 eq309 => ?_)
      refine va_get (D := (dC, dI)) (ci := 12) (v := .int 0) (C := RX12) (T := TX12) (N := 53) hx hb hts hfX12 hown hK hP q309 eq309 rfl 12 (by decide) (hts (.fieldLink RX12 280 "ColdShipsModel" "sort" "I") wa_995) (fun _ h9 => h9) rfl dX12_next_118 ?_
      refine lv_iconst (v := 3) hx hb dX12_next_121 (by decide) ?_
      refine lv_icmp_ne (tgt := 149) hx hb dX12_next_122 (by decide) (fun _ => ?_) (fun c9 => absurd c9 (by decide))
      have hf_314 : f53 (ρ h0 8) = .inl (κ 0, 400, .inl g35) := (k54 _ (tp_ne y6 ht_h0 (by decide))).trans hk45k
      have hf_315 : f57 (ρ h0 8) = .inl (κ 0, 400, .inl g35) := (k58 _ (tp_ne y6 ht_h0 (by decide))).trans hf_314
      have hf_316 : f306 (ρ h0 8) = .inl (κ 0, 400, .inl g35) := (k307 _ (tp_ne y6 ht_h0 (by decide))).trans hf_315
      refine pz_loop (fun n0 H locs ls => ∃ f319 : Nat → va_E, ∃ w310 : Int32, ∃ w311 : Int64, n0 = (400 - (w310.toInt)).toNat ∧ tp_T (mo_O κ Θ) κ τ ν ρ f319 ∧ tp_F τ [13] f f319 ∧ f319 (ρ h0 8) = .inl (κ 0, 400, .inl g35) ∧ f319 h0 = .inr (12, [.int o26_x0, .int o26_x1, .ref (ρ h0 2), .ref (ρ h0 3), .ref (ρ h0 4), .ref (ρ h0 5), .ref (ρ h0 6), .int o26_x7, .ref (ρ h0 8), .int o26_x9, .int w41, .int w310, .int 0, .long w311, .int o26_x14, .int o26_x15, .int o26_x16, .int o26_x17, .int o26_x18, .int o26_x19, .int o26_x20, .ref (ρ h0 21), .int o26_x22, .ref (ρ h0 23), .ref (ρ h0 24), .int o26_x25, .ref (ρ h0 26), .ref (ρ h0 27), .int o26_x28, .int o26_x29, .ref (ρ h0 30), .ref (ρ h0 31), .int o26_x32, .long o26_x33, .long o26_x34, .long o26_x35, .int o26_x36, .int o26_x37, .int o26_x38, .ref (ρ h0 39), .ref (ρ h0 40), .ref (ρ h0 41), .ref (ρ h0 42), .ref (ρ h0 43), .ref (ρ h0 44), .ref (ρ h0 45), .ref (ρ h0 46), .int o26_x47, .int o26_x48, .ref (ρ h0 49), .ref (ρ h0 50), .ref (ρ h0 51), .ref (ρ h0 52)]) ∧ (0 ≤ w310.toInt ∧ w310.toInt ≤ 400) ∧ (w41.toInt ≤ (w310.toInt)) ∧ ((w310.toInt) ≤ o26_x9.toInt) ∧ va_P (dC, dI) vwCl (va_pl L f319) H ∧ va_D A (va_pl L f319) ∧ va_S A s.heap H locs ∧ lv_has ls 1 [(0, .ref h0)]) ?_ _ _ _ _ ⟨f306, w41, 0, rfl, hT, hR, hf_316, g308, (by have : (0 : Int64).toInt = 0 := rfl; omega), (by have : (0 : Int64).toInt = 0 := rfl; omega), (by have : (0 : Int64).toInt = 0 := rfl; omega), hP, hD, hS, lv_sub hl [0] rfl⟩
      intro n0 H locs ls hI ih321
      refine Exists.elim hI (fun f319 hE90 => Exists.elim hE90 (fun w310 hE91 => Exists.elim hE91 (fun w311 hE92 => tn_12 hE92 (fun hn322 hT hR hk317k hk318k rw310 k312 k313 hP hD hS hl => ?_))))
      clear hE92 hE91 hE90 hI
      refine lv_aload_n hx hb dX12_next_149 rfl (lv_at hl 0 rfl) ?_
      refine tpk_pos (tp_in hG ht_h0 (by decide)) hk318k (fun q323 eq323 => ?_)
      refine va_get (D := (dC, dI)) (ci := 12) (v := .int 0) (C := RX12) (T := TX12) (N := 53) hx hb hts hfX12 hown hK hP q323 eq323 rfl 12 (by decide) (hts (.fieldLink RX12 280 "ColdShipsModel" "sort" "I") wa_995) (fun _ h9 => h9) rfl dX12_next_150 ?_
      refine lv_iconst (v := 1) hx hb dX12_next_153 (by decide) ?_
      refine lv_icmp_ne (tgt := 243) hx hb dX12_next_154 (by decide) (fun _ => ?_) (fun c9 => absurd c9 (by decide))
      refine pz_loop (fun n0 H locs ls => ∃ f330 : Nat → va_E, ∃ w324 : Int32, ∃ w325 : Int64, n0 = (400 - (w324.toInt)).toNat ∧ tp_T (mo_O κ Θ) κ τ ν ρ f330 ∧ tp_F τ [13] f f330 ∧ f330 (ρ h0 8) = .inl (κ 0, 400, .inl g35) ∧ f330 h0 = .inr (12, [.int o26_x0, .int o26_x1, .ref (ρ h0 2), .ref (ρ h0 3), .ref (ρ h0 4), .ref (ρ h0 5), .ref (ρ h0 6), .int o26_x7, .ref (ρ h0 8), .int o26_x9, .int w41, .int w324, .int 0, .long w325, .int o26_x14, .int o26_x15, .int o26_x16, .int o26_x17, .int o26_x18, .int o26_x19, .int o26_x20, .ref (ρ h0 21), .int o26_x22, .ref (ρ h0 23), .ref (ρ h0 24), .int o26_x25, .ref (ρ h0 26), .ref (ρ h0 27), .int o26_x28, .int o26_x29, .ref (ρ h0 30), .ref (ρ h0 31), .int o26_x32, .long o26_x33, .long o26_x34, .long o26_x35, .int o26_x36, .int o26_x37, .int o26_x38, .ref (ρ h0 39), .ref (ρ h0 40), .ref (ρ h0 41), .ref (ρ h0 42), .ref (ρ h0 43), .ref (ρ h0 44), .ref (ρ h0 45), .ref (ρ h0 46), .int o26_x47, .int o26_x48, .ref (ρ h0 49), .ref (ρ h0 50), .ref (ρ h0 51), .ref (ρ h0 52)]) ∧ (0 ≤ w324.toInt ∧ w324.toInt ≤ 400) ∧ (w41.toInt ≤ (w324.toInt)) ∧ ((w324.toInt) ≤ o26_x9.toInt) ∧ va_P (dC, dI) vwCl (va_pl L f330) H ∧ va_D A (va_pl L f330) ∧ va_S A s.heap H locs ∧ lv_has ls 1 [(0, .ref h0)]) ?_ _ _ _ _ ⟨f319, w310, w311, rfl, hT, hR, hk317k, hk318k, (by omega), (by omega), (by omega), hP, hD, hS, lv_sub hl [0] rfl⟩
      intro n0 H locs ls hI ih332
      refine Exists.elim hI (fun f330 hE90 => Exists.elim hE90 (fun w324 hE91 => Exists.elim hE91 (fun w325 hE92 => tn_12 hE92 (fun hn333 hT hR hk328k hk329k rw324 k326 k327 hP hD hS hl => ?_))))
      clear hE92 hE91 hE90 hI
      refine lv_aload_n hx hb dX12_next_243 rfl (lv_at hl 0 rfl) ?_
      refine tpk_pos (tp_in hG ht_h0 (by decide)) hk329k (fun q334 eq334 => ?_)
      refine va_get (D := (dC, dI)) (ci := 12) (v := .int 0) (C := RX12) (T := TX12) (N := 53) hx hb hts hfX12 hown hK hP q334 eq334 rfl 12 (by decide) (hts (.fieldLink RX12 280 "ColdShipsModel" "sort" "I") wa_995) (fun _ h9 => h9) rfl dX12_next_244 ?_
      refine lv_iconst (v := 2) hx hb dX12_next_247 (by decide) ?_
      refine lv_icmp_ne (tgt := 335) hx hb dX12_next_248 (by decide) (fun _ => ?_) (fun c9 => absurd c9 (by decide))
      have tf335 : mo_hd (tp_fld (f330 h0) 10 = w41.toInt) := tff_10 hk329k
      have tf336 : mo_hd (tp_fld (f330 h0) 11 = w324.toInt) := tff_11 hk329k
      have tf337 : mo_hd (tp_fld (f330 h0) 9 = o26_x9.toInt) := tff_9 hk329k
      have tf338 : mo_hd (tp_fld (f330 h0) 12 = 0) := tff_12 hk329k
      have tf339 : mo_hd (mo_fj (f330 h0) 13 = w325.toInt) := tff_13 hk329k
      have tf340 : mo_hd (tp_fld (f330 h0) 15 = o26_x15.toInt) := tff_15 hk329k
      have tf341 : mo_hd (tp_fld (f330 h0) 19 = o26_x19.toInt) := tff_19 hk329k
      have tf342 : mo_hd (tp_fld (f330 h0) 20 = o26_x20.toInt) := tff_20 hk329k
      have tf343 : mo_hd (tp_fld (f330 h0) 22 = o26_x22.toInt) := tff_22 hk329k
      have tf344 : mo_hd (tp_fld (f330 h0) 28 = o26_x28.toInt) := tff_28 hk329k
      have ro26_5 := tp_hu ro26_5; have ro26_6 := tp_hu ro26_6; have ro26_7 := tp_hu ro26_7; have ro26_8 := tp_hu ro26_8; have ro26_9 := tp_hu ro26_9
      exact W.vret hx hb hr (fun t ht hW => ⟨⟨f330, rfl, ⟨hT, hR, (by first | (simp only [(mo_un tf335), (mo_un tf336), (mo_un tf337), (mo_un tf338), (mo_un tf339), (mo_un tf28), (mo_un tf27), (mo_un tf340), (mo_un tf29), (mo_un tf341), (mo_un tf30), (mo_un tf342), (mo_un tf31), (mo_un tf343), (mo_un tf32), (mo_un tf344), (mo_un tf33), mo_i1, mo_l1]; exact (show (w41.toInt ≤ w324.toInt ∧ w324.toInt ≤ o26_x9.toInt ∧ (0 = 0 ∨ w41.toInt < w324.toInt) ∧ (0 = 1 → w324.toInt = w41.toInt + 1 → w325.toInt ≤ 26)) ∧ o26_x11.toInt ≤ w41.toInt ∧ o26_x9.toInt = o26_x9.toInt ∧ o26_x15.toInt = o26_x15.toInt ∧ o26_x19.toInt = o26_x19.toInt ∧ o26_x20.toInt = o26_x20.toInt ∧ o26_x22.toInt = o26_x22.toInt ∧ o26_x28.toInt = o26_x28.toInt from by first | omega | decide)) | (rw [(mo_un tf335), (mo_un tf336), (mo_un tf337), (mo_un tf338), (mo_un tf339), (mo_un tf28), (mo_un tf27), (mo_un tf340), (mo_un tf29), (mo_un tf341), (mo_un tf30), (mo_un tf342), (mo_un tf31), (mo_un tf343), (mo_un tf32), (mo_un tf344), (mo_un tf33)]; exact (show (w41.toInt ≤ w324.toInt ∧ w324.toInt ≤ o26_x9.toInt ∧ (0 = 0 ∨ w41.toInt < w324.toInt) ∧ (0 = 1 → w324.toInt = w41.toInt + 1 → w325.toInt ≤ 26)) ∧ o26_x11.toInt ≤ w41.toInt ∧ o26_x9.toInt = o26_x9.toInt ∧ o26_x15.toInt = o26_x15.toInt ∧ o26_x19.toInt = o26_x19.toInt ∧ o26_x20.toInt = o26_x20.toInt ∧ o26_x22.toInt = o26_x22.toInt ∧ o26_x28.toInt = o26_x28.toInt from by first | omega | decide)))⟩, by rw [ht]; exact hP, va_K.moved hW.alike hK, hD⟩, hS.F ht⟩) hS.2.2 dX12_next_335
  · have ic52 : w41.toInt < o26_x9.toInt := zi_gef rfl rfl c52
    refine lv_aload_n hx hb dX12_next_19 rfl (lv_at hl 0 rfl) ?_
    refine va_get (D := (dC, dI)) (ci := 12) (v := .ref (ρ h0 8)) (C := RX12) (T := TX12) (N := 53) hx hb hts hfX12 hown hK hP q51 eq51 rfl 8 (by decide) (hts (.fieldLink RX12 27 "ColdShipsModel" "tape" "[I") wa_154) (fun _ h9 => h9) rfl dX12_next_20 ?_
    refine lv_aload_n hx hb dX12_next_23 rfl (lv_at hl 0 rfl) ?_
    refine va_get (D := (dC, dI)) (ci := 12) (v := .int w41) (C := RX12) (T := TX12) (N := 53) hx hb hts hfX12 hown hK hP q51 eq51 rfl 10 (by decide) (hts (.fieldLink RX12 267 "ColdShipsModel" "from" "I") wa_1005) (fun _ h9 => h9) rfl dX12_next_24 ?_
    refine tpk_pos (tp_in hG y6 (by decide)) hk45k (fun q345 eq345 => ?_)
    refine va_iald hx hb hK hP q345 0 eq345 rfl (vp_in_iff.mpr ⟨by omega, by omega⟩) dX12_next_27 ?_
    refine lv_topi (fun z346 ez346 => ?_)
    have jz346 : z346.toInt = mo_R g35 w41.toInt := mo_rd ez346 (by omega)
    refine lv_bipush (v := 32) hx hb dX12_next_28 (by decide) ?_
    refine lv_icmp_ne (tgt := 46) hx hb dX12_next_30 (by decide) (fun c347 => ?_) (fun c347 => ?_)
    · have ic347 : z346.toInt ≠ 32 := zi_ne rfl rfl c347
      refine lv_aload_n hx hb dX12_next_46 rfl (lv_at hl 0 rfl) ?_
      refine lv_aload_n hx hb dX12_next_47 rfl (lv_at hl 0 rfl) ?_
      refine va_get (D := (dC, dI)) (ci := 12) (v := .int w41) (C := RX12) (T := TX12) (N := 53) hx hb hts hfX12 hown hK hP q51 eq51 rfl 10 (by decide) (hts (.fieldLink RX12 267 "ColdShipsModel" "from" "I") wa_1005) (fun _ h9 => h9) rfl dX12_next_48 ?_
      refine va_put (D := (dC, dI)) (ci := 12) (v := .int w41) (ty := .int) (C := RX12) (T := TX12) (N := 53) hx hb hts hfX12 tyX12 tyX12_ok nmX12 hown hK hP hD hS q51 eq51 rfl 11 (by decide) (hts (.fieldLink RX12 258 "ColdShipsModel" "to" "I") wa_1000) (fun _ h9 => h9) rfl (tyX12_ok 11 (by decide)) rfl rfl (Nat.le_of_ble_eq_true rfl) dX12_next_51 (tp_k (.inr (12, [.int o26_x0, .int o26_x1, .ref (ρ h0 2), .ref (ρ h0 3), .ref (ρ h0 4), .ref (ρ h0 5), .ref (ρ h0 6), .int o26_x7, .ref (ρ h0 8), .int o26_x9, .int w41, .int w41, .int o26_x12, .long o26_x13, .int o26_x14, .int o26_x15, .int o26_x16, .int o26_x17, .int o26_x18, .int o26_x19, .int o26_x20, .ref (ρ h0 21), .int o26_x22, .ref (ρ h0 23), .ref (ρ h0 24), .int o26_x25, .ref (ρ h0 26), .ref (ρ h0 27), .int o26_x28, .int o26_x29, .ref (ρ h0 30), .ref (ρ h0 31), .int o26_x32, .long o26_x33, .long o26_x34, .long o26_x35, .int o26_x36, .int o26_x37, .int o26_x38, .ref (ρ h0 39), .ref (ρ h0 40), .ref (ρ h0 41), .ref (ρ h0 42), .ref (ρ h0 43), .ref (ρ h0 44), .ref (ρ h0 45), .ref (ρ h0 46), .int o26_x47, .int o26_x48, .ref (ρ h0 49), .ref (ρ h0 50), .ref (ρ h0 51), .ref (ρ h0 52)])) hD (tp_in hG ht_h0 (by decide)) eq51 (fun f348 H locs hP hD hS g350 k349 => ?_))
      have hT := hT.up ht_h0 g350 k349 ⟨_, _, _, _, _, _, _, _, _, _, _, _, _, _, _, _, _, _, _, _, _, _, _, _, _, _, _, _, rfl, ro26_0, ro26_1, (by omega), (by omega), ro26_4, ro26_5, ro26_6, ro26_7, ro26_8, ro26_9, ro26_10, ro26_11, ro26_12, ro26_13, ro26_14⟩
      have hR := hR.up ht_h0 (by decide) k349
      refine lv_aload_n hx hb dX12_next_54 rfl (lv_at hl 0 rfl) ?_
      refine lv_lconst (v := 0) hx hb dX12_next_55 (by decide) ?_
      refine tpk_pos (tp_in hG ht_h0 (by decide)) g350 (fun q351 eq351 => ?_)
      refine va_put (D := (dC, dI)) (ci := 12) (v := .long 0) (ty := .long) (C := RX12) (T := TX12) (N := 53) hx hb hts hfX12 tyX12 tyX12_ok nmX12 hown hK hP hD hS q351 eq351 rfl 13 (by decide) (hts (.fieldLink RX12 270 "ColdShipsModel" "worth" "J") wa_1006) (fun _ h9 => h9) rfl (tyX12_ok 13 (by decide)) rfl rfl (Nat.le_of_ble_eq_true rfl) dX12_next_56 (tp_k (.inr (12, [.int o26_x0, .int o26_x1, .ref (ρ h0 2), .ref (ρ h0 3), .ref (ρ h0 4), .ref (ρ h0 5), .ref (ρ h0 6), .int o26_x7, .ref (ρ h0 8), .int o26_x9, .int w41, .int w41, .int o26_x12, .long 0, .int o26_x14, .int o26_x15, .int o26_x16, .int o26_x17, .int o26_x18, .int o26_x19, .int o26_x20, .ref (ρ h0 21), .int o26_x22, .ref (ρ h0 23), .ref (ρ h0 24), .int o26_x25, .ref (ρ h0 26), .ref (ρ h0 27), .int o26_x28, .int o26_x29, .ref (ρ h0 30), .ref (ρ h0 31), .int o26_x32, .long o26_x33, .long o26_x34, .long o26_x35, .int o26_x36, .int o26_x37, .int o26_x38, .ref (ρ h0 39), .ref (ρ h0 40), .ref (ρ h0 41), .ref (ρ h0 42), .ref (ρ h0 43), .ref (ρ h0 44), .ref (ρ h0 45), .ref (ρ h0 46), .int o26_x47, .int o26_x48, .ref (ρ h0 49), .ref (ρ h0 50), .ref (ρ h0 51), .ref (ρ h0 52)])) hD (tp_in hG ht_h0 (by decide)) eq351 (fun f352 H locs hP hD hS g354 k353 => ?_))
      have hT := hT.up ht_h0 g354 k353 ⟨_, _, _, _, _, _, _, _, _, _, _, _, _, _, _, _, _, _, _, _, _, _, _, _, _, _, _, _, rfl, ro26_0, ro26_1, (by omega), (by omega), ro26_4, ro26_5, ro26_6, ro26_7, ro26_8, ro26_9, ro26_10, ro26_11, ro26_12, ro26_13, ro26_14⟩
      have hR := hR.up ht_h0 (by decide) k353
      refine lv_aload_n hx hb dX12_next_59 rfl (lv_at hl 0 rfl) ?_
      refine lv_aload_n hx hb dX12_next_60 rfl (lv_at hl 0 rfl) ?_
      refine tpk_pos (tp_in hG ht_h0 (by decide)) g354 (fun q355 eq355 => ?_)
      refine va_get (D := (dC, dI)) (ci := 12) (v := .int w41) (C := RX12) (T := TX12) (N := 53) hx hb hts hfX12 hown hK hP q355 eq355 rfl 10 (by decide) (hts (.fieldLink RX12 267 "ColdShipsModel" "from" "I") wa_1005) (fun _ h9 => h9) rfl dX12_next_61 ?_
      refine lv_aload_n hx hb dX12_next_64 rfl (lv_at hl 0 rfl) ?_
      refine va_get (D := (dC, dI)) (ci := 12) (v := .int o26_x9) (C := RX12) (T := TX12) (N := 53) hx hb hts hfX12 hown hK hP q355 eq355 rfl 9 (by decide) (hts (.fieldLink RX12 252 "ColdShipsModel" "taped" "I") wa_774) (fun _ h9 => h9) rfl dX12_next_65 ?_
      refine lv_icmp_ne (tgt := 75) hx hb dX12_next_68 (by decide) (fun c356 => ?_) (fun c356 => ?_)
      · have ic356 : w41.toInt ≠ o26_x9.toInt := zi_ne rfl rfl c356
        refine lv_aload_n hx hb dX12_next_75 rfl (lv_at hl 0 rfl) ?_
        refine va_get (D := (dC, dI)) (ci := 12) (v := .ref (ρ h0 8)) (C := RX12) (T := TX12) (N := 53) hx hb hts hfX12 hown hK hP q355 eq355 rfl 8 (by decide) (hts (.fieldLink RX12 27 "ColdShipsModel" "tape" "[I") wa_154) (fun _ h9 => h9) rfl dX12_next_76 ?_
        refine lv_aload_n hx hb dX12_next_79 rfl (lv_at hl 0 rfl) ?_
        refine va_get (D := (dC, dI)) (ci := 12) (v := .int w41) (C := RX12) (T := TX12) (N := 53) hx hb hts hfX12 hown hK hP q355 eq355 rfl 10 (by decide) (hts (.fieldLink RX12 267 "ColdShipsModel" "from" "I") wa_1005) (fun _ h9 => h9) rfl dX12_next_80 ?_
        have hf_357 : f348 (ρ h0 8) = .inl (κ 0, 400, .inl g35) := (k349 _ (tp_ne y6 ht_h0 (by decide))).trans hk45k
        have hf_358 : f352 (ρ h0 8) = .inl (κ 0, 400, .inl g35) := (k353 _ (tp_ne y6 ht_h0 (by decide))).trans hf_357
        refine tpk_pos (tp_in hG y6 (by decide)) hf_358 (fun q359 eq359 => ?_)
        refine va_iald hx hb hK hP q359 0 eq359 rfl (vp_in_iff.mpr ⟨by omega, by omega⟩) dX12_next_83 ?_
        refine lv_topi (fun z360 ez360 => ?_)
        have jz360 : z360.toInt = mo_R g35 w41.toInt := mo_rd ez360 (by omega)
        refine pz_calli (va_runS (As := [.int z360]) (rest := [.ref h0]) ⟨hx, hb, hml, hown, hts⟩ (t_X12_isSmall l dC dI _ z360 (z360.toInt) rfl) (va_cwS 1 hts gX12_next_X12_isSmall rfl rfl rfl pd_X12_isSmall ⟨Nat.le_of_ble_eq_true rfl, Nat.le_of_ble_eq_true rfl⟩) ⟨pz_blind, pz_pre pz_P0 (hK.sub (tys' := []) [] rfl) (pz_D0 (A := fun _ => True)) hN⟩ rfl rfl hl.1 rfl (lv_room (Nat.le_of_ble_eq_true rfl)) dX12_next_84 ⟨Nat.le_of_ble_eq_true rfl, Nat.le_of_ble_eq_true rfl⟩) (fun r361 hw362 => ?_)
        obtain ⟨hw362r, hw362p⟩ := hw362
        refine lv_if_eq (tgt := 94) hx hb dX12_next_87 (by decide) (fun c363 => ?_) (fun c363 => ?_)
        · have ic363 : r361.toInt = 0 := zi_eq rfl rfl c363
          have p364 : ¬ (97 ≤ (z360.toInt) ∧ (z360.toInt) ≤ 122) := (tp_cond.no hw362p) (by omega)
          clear hw362r ic363
          refine lv_aload_n hx hb dX12_next_94 rfl (lv_at hl 0 rfl) ?_
          refine va_get (D := (dC, dI)) (ci := 12) (v := .ref (ρ h0 8)) (C := RX12) (T := TX12) (N := 53) hx hb hts hfX12 hown hK hP q355 eq355 rfl 8 (by decide) (hts (.fieldLink RX12 27 "ColdShipsModel" "tape" "[I") wa_154) (fun _ h9 => h9) rfl dX12_next_95 ?_
          refine lv_aload_n hx hb dX12_next_98 rfl (lv_at hl 0 rfl) ?_
          refine va_get (D := (dC, dI)) (ci := 12) (v := .int w41) (C := RX12) (T := TX12) (N := 53) hx hb hts hfX12 hown hK hP q355 eq355 rfl 10 (by decide) (hts (.fieldLink RX12 267 "ColdShipsModel" "from" "I") wa_1005) (fun _ h9 => h9) rfl dX12_next_99 ?_
          refine va_iald hx hb hK hP q359 0 eq359 rfl (vp_in_iff.mpr ⟨by omega, by omega⟩) dX12_next_102 ?_
          refine lv_topi (fun z365 ez365 => ?_)
          have jz365 : z365.toInt = mo_R g35 w41.toInt := mo_rd ez365 (by omega)
          refine pz_calli (va_runS (As := [.int z365]) (rest := [.ref h0]) ⟨hx, hb, hml, hown, hts⟩ (t_X12_isDigit l dC dI _ z365 (z365.toInt) rfl) (va_cwS 1 hts gX12_next_X12_isDigit rfl rfl rfl pd_X12_isDigit ⟨Nat.le_of_ble_eq_true rfl, Nat.le_of_ble_eq_true rfl⟩) ⟨pz_blind, pz_pre pz_P0 (hK.sub (tys' := []) [] rfl) (pz_D0 (A := fun _ => True)) hN⟩ rfl rfl hl.1 rfl (lv_room (Nat.le_of_ble_eq_true rfl)) dX12_next_103 ⟨Nat.le_of_ble_eq_true rfl, Nat.le_of_ble_eq_true rfl⟩) (fun r366 hw367 => ?_)
          obtain ⟨hw367r, hw367p⟩ := hw367
          refine lv_if_eq (tgt := 113) hx hb dX12_next_106 (by decide) (fun c368 => ?_) (fun c368 => ?_)
          · have ic368 : r366.toInt = 0 := zi_eq rfl rfl c368
            have p369 : ¬ (48 ≤ (z365.toInt) ∧ (z365.toInt) ≤ 57) := (tp_cond.no hw367p) (by omega)
            clear hw367r ic368
            refine lv_iconst (v := 3) hx hb dX12_next_113 (by decide) ?_
            refine va_put (D := (dC, dI)) (ci := 12) (v := .int 3) (ty := .int) (C := RX12) (T := TX12) (N := 53) hx hb hts hfX12 tyX12 tyX12_ok nmX12 hown hK hP hD hS q355 eq355 rfl 12 (by decide) (hts (.fieldLink RX12 280 "ColdShipsModel" "sort" "I") wa_995) (fun _ h9 => h9) rfl (tyX12_ok 12 (by decide)) rfl rfl (Nat.le_of_ble_eq_true rfl) dX12_next_114 (tp_k (.inr (12, [.int o26_x0, .int o26_x1, .ref (ρ h0 2), .ref (ρ h0 3), .ref (ρ h0 4), .ref (ρ h0 5), .ref (ρ h0 6), .int o26_x7, .ref (ρ h0 8), .int o26_x9, .int w41, .int w41, .int 3, .long 0, .int o26_x14, .int o26_x15, .int o26_x16, .int o26_x17, .int o26_x18, .int o26_x19, .int o26_x20, .ref (ρ h0 21), .int o26_x22, .ref (ρ h0 23), .ref (ρ h0 24), .int o26_x25, .ref (ρ h0 26), .ref (ρ h0 27), .int o26_x28, .int o26_x29, .ref (ρ h0 30), .ref (ρ h0 31), .int o26_x32, .long o26_x33, .long o26_x34, .long o26_x35, .int o26_x36, .int o26_x37, .int o26_x38, .ref (ρ h0 39), .ref (ρ h0 40), .ref (ρ h0 41), .ref (ρ h0 42), .ref (ρ h0 43), .ref (ρ h0 44), .ref (ρ h0 45), .ref (ρ h0 46), .int o26_x47, .int o26_x48, .ref (ρ h0 49), .ref (ρ h0 50), .ref (ρ h0 51), .ref (ρ h0 52)])) hD (tp_in hG ht_h0 (by decide)) eq355 (fun f370 H locs hP hD hS g372 k371 => ?_))
            have hT := hT.up ht_h0 g372 k371 ⟨_, _, _, _, _, _, _, _, _, _, _, _, _, _, _, _, _, _, _, _, _, _, _, _, _, _, _, _, rfl, ro26_0, ro26_1, (by omega), (by omega), (by decide), ro26_5, ro26_6, ro26_7, ro26_8, ro26_9, ro26_10, ro26_11, ro26_12, ro26_13, ro26_14⟩
            have hR := hR.up ht_h0 (by decide) k371
            refine lv_aload_n hx hb dX12_next_117 rfl (lv_at hl 0 rfl) ?_
            refine tpk_pos (tp_in hG ht_h0 (by decide)) g372 (fun q373 eq373 => ?_)
            refine va_get (D := (dC, dI)) (ci := 12) (v := .int 3) (C := RX12) (T := TX12) (N := 53) hx hb hts hfX12 hown hK hP q373 eq373 rfl 12 (by decide) (hts (.fieldLink RX12 280 "ColdShipsModel" "sort" "I") wa_995) (fun _ h9 => h9) rfl dX12_next_118 ?_
            refine lv_iconst (v := 3) hx hb dX12_next_121 (by decide) ?_
            refine lv_icmp_ne (tgt := 149) hx hb dX12_next_122 (by decide) (fun c9 => absurd c9 (by decide)) (fun _ => ?_)
            refine lv_aload_n hx hb dX12_next_125 rfl (lv_at hl 0 rfl) ?_
            refine lv_aload_n hx hb dX12_next_126 rfl (lv_at hl 0 rfl) ?_
            refine va_get (D := (dC, dI)) (ci := 12) (v := .ref (ρ h0 8)) (C := RX12) (T := TX12) (N := 53) hx hb hts hfX12 hown hK hP q373 eq373 rfl 8 (by decide) (hts (.fieldLink RX12 27 "ColdShipsModel" "tape" "[I") wa_154) (fun _ h9 => h9) rfl dX12_next_127 ?_
            refine lv_aload_n hx hb dX12_next_130 rfl (lv_at hl 0 rfl) ?_
            refine va_get (D := (dC, dI)) (ci := 12) (v := .int w41) (C := RX12) (T := TX12) (N := 53) hx hb hts hfX12 hown hK hP q373 eq373 rfl 10 (by decide) (hts (.fieldLink RX12 267 "ColdShipsModel" "from" "I") wa_1005) (fun _ h9 => h9) rfl dX12_next_131 ?_
            have hf_374 : f370 (ρ h0 8) = .inl (κ 0, 400, .inl g35) := (k371 _ (tp_ne y6 ht_h0 (by decide))).trans hf_358
            refine tpk_pos (tp_in hG y6 (by decide)) hf_374 (fun q375 eq375 => ?_)
            refine va_iald hx hb hK hP q375 0 eq375 rfl (vp_in_iff.mpr ⟨by omega, by omega⟩) dX12_next_134 ?_
            refine lv_topi (fun z376 ez376 => ?_)
            have jz376 : z376.toInt = mo_R g35 w41.toInt := mo_rd ez376 (by omega)
            refine lv_i2l hx hb dX12_next_135 rfl ?_
            refine va_put (D := (dC, dI)) (ci := 12) (v := .long z376.toInt64) (ty := .long) (C := RX12) (T := TX12) (N := 53) hx hb hts hfX12 tyX12 tyX12_ok nmX12 hown hK hP hD hS q373 eq373 rfl 13 (by decide) (hts (.fieldLink RX12 270 "ColdShipsModel" "worth" "J") wa_1006) (fun _ h9 => h9) rfl (tyX12_ok 13 (by decide)) rfl rfl (Nat.le_of_ble_eq_true rfl) dX12_next_136 (tp_k (.inr (12, [.int o26_x0, .int o26_x1, .ref (ρ h0 2), .ref (ρ h0 3), .ref (ρ h0 4), .ref (ρ h0 5), .ref (ρ h0 6), .int o26_x7, .ref (ρ h0 8), .int o26_x9, .int w41, .int w41, .int 3, .long z376.toInt64, .int o26_x14, .int o26_x15, .int o26_x16, .int o26_x17, .int o26_x18, .int o26_x19, .int o26_x20, .ref (ρ h0 21), .int o26_x22, .ref (ρ h0 23), .ref (ρ h0 24), .int o26_x25, .ref (ρ h0 26), .ref (ρ h0 27), .int o26_x28, .int o26_x29, .ref (ρ h0 30), .ref (ρ h0 31), .int o26_x32, .long o26_x33, .long o26_x34, .long o26_x35, .int o26_x36, .int o26_x37, .int o26_x38, .ref (ρ h0 39), .ref (ρ h0 40), .ref (ρ h0 41), .ref (ρ h0 42), .ref (ρ h0 43), .ref (ρ h0 44), .ref (ρ h0 45), .ref (ρ h0 46), .int o26_x47, .int o26_x48, .ref (ρ h0 49), .ref (ρ h0 50), .ref (ρ h0 51), .ref (ρ h0 52)])) hD (tp_in hG ht_h0 (by decide)) eq373 (fun f377 H locs hP hD hS g379 k378 => ?_))
            have hT := hT.up ht_h0 g379 k378 ⟨_, _, _, _, _, _, _, _, _, _, _, _, _, _, _, _, _, _, _, _, _, _, _, _, _, _, _, _, rfl, ro26_0, ro26_1, (by omega), (by omega), (by decide), ro26_5, ro26_6, ro26_7, ro26_8, ro26_9, ro26_10, ro26_11, ro26_12, ro26_13, ro26_14⟩
            have hR := hR.up ht_h0 (by decide) k378
            refine lv_aload_n hx hb dX12_next_139 rfl (lv_at hl 0 rfl) ?_
            refine lv_dup hx hb dX12_next_140 rfl ?_
            refine tpk_pos (tp_in hG ht_h0 (by decide)) g379 (fun q380 eq380 => ?_)
            refine va_get (D := (dC, dI)) (ci := 12) (v := .int w41) (C := RX12) (T := TX12) (N := 53) hx hb hts hfX12 hown hK hP q380 eq380 rfl 11 (by decide) (hts (.fieldLink RX12 258 "ColdShipsModel" "to" "I") wa_1000) (fun _ h9 => h9) rfl dX12_next_141 ?_
            refine lv_iconst (v := 1) hx hb dX12_next_144 (by decide) ?_
            refine lv_iadd hx hb dX12_next_145 ?_
            refine lv_topi (fun z381 ez381 => ?_)
            have iz381 : z381.toInt = w41.toInt + 1 := zi_add ez381 rfl rfl (by omega) (by omega)
            refine va_put (D := (dC, dI)) (ci := 12) (v := .int z381) (ty := .int) (C := RX12) (T := TX12) (N := 53) hx hb hts hfX12 tyX12 tyX12_ok nmX12 hown hK hP hD hS q380 eq380 rfl 11 (by decide) (hts (.fieldLink RX12 258 "ColdShipsModel" "to" "I") wa_1000) (fun _ h9 => h9) rfl (tyX12_ok 11 (by decide)) rfl rfl (Nat.le_of_ble_eq_true rfl) dX12_next_146 (tp_k (.inr (12, [.int o26_x0, .int o26_x1, .ref (ρ h0 2), .ref (ρ h0 3), .ref (ρ h0 4), .ref (ρ h0 5), .ref (ρ h0 6), .int o26_x7, .ref (ρ h0 8), .int o26_x9, .int w41, .int z381, .int 3, .long z376.toInt64, .int o26_x14, .int o26_x15, .int o26_x16, .int o26_x17, .int o26_x18, .int o26_x19, .int o26_x20, .ref (ρ h0 21), .int o26_x22, .ref (ρ h0 23), .ref (ρ h0 24), .int o26_x25, .ref (ρ h0 26), .ref (ρ h0 27), .int o26_x28, .int o26_x29, .ref (ρ h0 30), .ref (ρ h0 31), .int o26_x32, .long o26_x33, .long o26_x34, .long o26_x35, .int o26_x36, .int o26_x37, .int o26_x38, .ref (ρ h0 39), .ref (ρ h0 40), .ref (ρ h0 41), .ref (ρ h0 42), .ref (ρ h0 43), .ref (ρ h0 44), .ref (ρ h0 45), .ref (ρ h0 46), .int o26_x47, .int o26_x48, .ref (ρ h0 49), .ref (ρ h0 50), .ref (ρ h0 51), .ref (ρ h0 52)])) hD (tp_in hG ht_h0 (by decide)) eq380 (fun f382 H locs hP hD hS g384 k383 => ?_))
            have hT := hT.up ht_h0 g384 k383 ⟨_, _, _, _, _, _, _, _, _, _, _, _, _, _, _, _, _, _, _, _, _, _, _, _, _, _, _, _, rfl, ro26_0, ro26_1, (by omega), (by omega), (by decide), ro26_5, ro26_6, ro26_7, ro26_8, ro26_9, ro26_10, ro26_11, ro26_12, ro26_13, ro26_14⟩
            have hR := hR.up ht_h0 (by decide) k383
            have hf_390 : f377 (ρ h0 8) = .inl (κ 0, 400, .inl g35) := (k378 _ (tp_ne y6 ht_h0 (by decide))).trans hf_374
            have hf_391 : f382 (ρ h0 8) = .inl (κ 0, 400, .inl g35) := (k383 _ (tp_ne y6 ht_h0 (by decide))).trans hf_390
            refine pz_loop (fun n0 H locs ls => ∃ f394 : Nat → va_E, ∃ w385 : Int32, ∃ w386 : Int64, n0 = (400 - (w385.toInt)).toNat ∧ tp_T (mo_O κ Θ) κ τ ν ρ f394 ∧ tp_F τ [13] f f394 ∧ f394 (ρ h0 8) = .inl (κ 0, 400, .inl g35) ∧ f394 h0 = .inr (12, [.int o26_x0, .int o26_x1, .ref (ρ h0 2), .ref (ρ h0 3), .ref (ρ h0 4), .ref (ρ h0 5), .ref (ρ h0 6), .int o26_x7, .ref (ρ h0 8), .int o26_x9, .int w41, .int w385, .int 3, .long w386, .int o26_x14, .int o26_x15, .int o26_x16, .int o26_x17, .int o26_x18, .int o26_x19, .int o26_x20, .ref (ρ h0 21), .int o26_x22, .ref (ρ h0 23), .ref (ρ h0 24), .int o26_x25, .ref (ρ h0 26), .ref (ρ h0 27), .int o26_x28, .int o26_x29, .ref (ρ h0 30), .ref (ρ h0 31), .int o26_x32, .long o26_x33, .long o26_x34, .long o26_x35, .int o26_x36, .int o26_x37, .int o26_x38, .ref (ρ h0 39), .ref (ρ h0 40), .ref (ρ h0 41), .ref (ρ h0 42), .ref (ρ h0 43), .ref (ρ h0 44), .ref (ρ h0 45), .ref (ρ h0 46), .int o26_x47, .int o26_x48, .ref (ρ h0 49), .ref (ρ h0 50), .ref (ρ h0 51), .ref (ρ h0 52)]) ∧ (0 ≤ w385.toInt ∧ w385.toInt ≤ 400) ∧ (w41.toInt ≤ (w385.toInt)) ∧ ((w385.toInt) ≤ o26_x9.toInt) ∧ ((w385.toInt) = w41.toInt + 1) ∧ va_P (dC, dI) vwCl (va_pl L f394) H ∧ va_D A (va_pl L f394) ∧ va_S A s.heap H locs ∧ lv_has ls 1 [(0, .ref h0)]) ?_ _ _ _ _ ⟨f382, z381, z376.toInt64, rfl, hT, hR, hf_391, g384, (by have : (z376.toInt64).toInt = z376.toInt := (Int32.toInt_toInt64 z376); omega), (by have : (z376.toInt64).toInt = z376.toInt := (Int32.toInt_toInt64 z376); omega), (by have : (z376.toInt64).toInt = z376.toInt := (Int32.toInt_toInt64 z376); omega), (by have : (z376.toInt64).toInt = z376.toInt := (Int32.toInt_toInt64 z376); omega), hP, hD, hS, lv_sub hl [0] rfl⟩
            intro n0 H locs ls hI ih396
            refine Exists.elim hI (fun f394 hE90 => Exists.elim hE90 (fun w385 hE91 => Exists.elim hE91 (fun w386 hE92 => tn_13 hE92 (fun hn397 hT hR hk392k hk393k rw385 k387 k388 k389 hP hD hS hl => ?_))))
            clear hE92 hE91 hE90 hI
            refine lv_aload_n hx hb dX12_next_149 rfl (lv_at hl 0 rfl) ?_
            refine tpk_pos (tp_in hG ht_h0 (by decide)) hk393k (fun q398 eq398 => ?_)
            refine va_get (D := (dC, dI)) (ci := 12) (v := .int 3) (C := RX12) (T := TX12) (N := 53) hx hb hts hfX12 hown hK hP q398 eq398 rfl 12 (by decide) (hts (.fieldLink RX12 280 "ColdShipsModel" "sort" "I") wa_995) (fun _ h9 => h9) rfl dX12_next_150 ?_
            refine lv_iconst (v := 1) hx hb dX12_next_153 (by decide) ?_
            refine lv_icmp_ne (tgt := 243) hx hb dX12_next_154 (by decide) (fun _ => ?_) (fun c9 => absurd c9 (by decide))
            refine pz_loop (fun n0 H locs ls => ∃ f406 : Nat → va_E, ∃ w399 : Int32, ∃ w400 : Int64, n0 = (400 - (w399.toInt)).toNat ∧ tp_T (mo_O κ Θ) κ τ ν ρ f406 ∧ tp_F τ [13] f f406 ∧ f406 (ρ h0 8) = .inl (κ 0, 400, .inl g35) ∧ f406 h0 = .inr (12, [.int o26_x0, .int o26_x1, .ref (ρ h0 2), .ref (ρ h0 3), .ref (ρ h0 4), .ref (ρ h0 5), .ref (ρ h0 6), .int o26_x7, .ref (ρ h0 8), .int o26_x9, .int w41, .int w399, .int 3, .long w400, .int o26_x14, .int o26_x15, .int o26_x16, .int o26_x17, .int o26_x18, .int o26_x19, .int o26_x20, .ref (ρ h0 21), .int o26_x22, .ref (ρ h0 23), .ref (ρ h0 24), .int o26_x25, .ref (ρ h0 26), .ref (ρ h0 27), .int o26_x28, .int o26_x29, .ref (ρ h0 30), .ref (ρ h0 31), .int o26_x32, .long o26_x33, .long o26_x34, .long o26_x35, .int o26_x36, .int o26_x37, .int o26_x38, .ref (ρ h0 39), .ref (ρ h0 40), .ref (ρ h0 41), .ref (ρ h0 42), .ref (ρ h0 43), .ref (ρ h0 44), .ref (ρ h0 45), .ref (ρ h0 46), .int o26_x47, .int o26_x48, .ref (ρ h0 49), .ref (ρ h0 50), .ref (ρ h0 51), .ref (ρ h0 52)]) ∧ (0 ≤ w399.toInt ∧ w399.toInt ≤ 400) ∧ (w41.toInt ≤ (w399.toInt)) ∧ ((w399.toInt) ≤ o26_x9.toInt) ∧ (w41.toInt < (w399.toInt)) ∧ va_P (dC, dI) vwCl (va_pl L f406) H ∧ va_D A (va_pl L f406) ∧ va_S A s.heap H locs ∧ lv_has ls 1 [(0, .ref h0)]) ?_ _ _ _ _ ⟨f394, w385, w386, rfl, hT, hR, hk392k, hk393k, (by omega), (by omega), (by omega), (by omega), hP, hD, hS, lv_sub hl [0] rfl⟩
            intro n0 H locs ls hI ih408
            refine Exists.elim hI (fun f406 hE90 => Exists.elim hE90 (fun w399 hE91 => Exists.elim hE91 (fun w400 hE92 => tn_13 hE92 (fun hn409 hT hR hk404k hk405k rw399 k401 k402 k403 hP hD hS hl => ?_))))
            clear hE92 hE91 hE90 hI
            refine lv_aload_n hx hb dX12_next_243 rfl (lv_at hl 0 rfl) ?_
            refine tpk_pos (tp_in hG ht_h0 (by decide)) hk405k (fun q410 eq410 => ?_)
            refine va_get (D := (dC, dI)) (ci := 12) (v := .int 3) (C := RX12) (T := TX12) (N := 53) hx hb hts hfX12 hown hK hP q410 eq410 rfl 12 (by decide) (hts (.fieldLink RX12 280 "ColdShipsModel" "sort" "I") wa_995) (fun _ h9 => h9) rfl dX12_next_244 ?_
            refine lv_iconst (v := 2) hx hb dX12_next_247 (by decide) ?_
            refine lv_icmp_ne (tgt := 335) hx hb dX12_next_248 (by decide) (fun _ => ?_) (fun c9 => absurd c9 (by decide))
            have tf411 : mo_hd (tp_fld (f406 h0) 10 = w41.toInt) := tff_10 hk405k
            have tf412 : mo_hd (tp_fld (f406 h0) 11 = w399.toInt) := tff_11 hk405k
            have tf413 : mo_hd (tp_fld (f406 h0) 9 = o26_x9.toInt) := tff_9 hk405k
            have tf414 : mo_hd (tp_fld (f406 h0) 12 = 3) := tff_12 hk405k
            have tf415 : mo_hd (mo_fj (f406 h0) 13 = w400.toInt) := tff_13 hk405k
            have tf416 : mo_hd (tp_fld (f406 h0) 15 = o26_x15.toInt) := tff_15 hk405k
            have tf417 : mo_hd (tp_fld (f406 h0) 19 = o26_x19.toInt) := tff_19 hk405k
            have tf418 : mo_hd (tp_fld (f406 h0) 20 = o26_x20.toInt) := tff_20 hk405k
            have tf419 : mo_hd (tp_fld (f406 h0) 22 = o26_x22.toInt) := tff_22 hk405k
            have tf420 : mo_hd (tp_fld (f406 h0) 28 = o26_x28.toInt) := tff_28 hk405k
            have ro26_5 := tp_hu ro26_5; have ro26_6 := tp_hu ro26_6; have ro26_7 := tp_hu ro26_7; have ro26_8 := tp_hu ro26_8; have ro26_9 := tp_hu ro26_9
            exact W.vret hx hb hr (fun t ht hW => ⟨⟨f406, rfl, ⟨hT, hR, (by first | (simp only [(mo_un tf411), (mo_un tf412), (mo_un tf413), (mo_un tf414), (mo_un tf415), (mo_un tf28), (mo_un tf27), (mo_un tf416), (mo_un tf29), (mo_un tf417), (mo_un tf30), (mo_un tf418), (mo_un tf31), (mo_un tf419), (mo_un tf32), (mo_un tf420), (mo_un tf33), mo_i1, mo_l1]; exact (show (w41.toInt ≤ w399.toInt ∧ w399.toInt ≤ o26_x9.toInt ∧ (3 = 0 ∨ w41.toInt < w399.toInt) ∧ (3 = 1 → w399.toInt = w41.toInt + 1 → w400.toInt ≤ 26)) ∧ o26_x11.toInt ≤ w41.toInt ∧ o26_x9.toInt = o26_x9.toInt ∧ o26_x15.toInt = o26_x15.toInt ∧ o26_x19.toInt = o26_x19.toInt ∧ o26_x20.toInt = o26_x20.toInt ∧ o26_x22.toInt = o26_x22.toInt ∧ o26_x28.toInt = o26_x28.toInt from by first | omega | decide)) | (rw [(mo_un tf411), (mo_un tf412), (mo_un tf413), (mo_un tf414), (mo_un tf415), (mo_un tf28), (mo_un tf27), (mo_un tf416), (mo_un tf29), (mo_un tf417), (mo_un tf30), (mo_un tf418), (mo_un tf31), (mo_un tf419), (mo_un tf32), (mo_un tf420), (mo_un tf33)]; exact (show (w41.toInt ≤ w399.toInt ∧ w399.toInt ≤ o26_x9.toInt ∧ (3 = 0 ∨ w41.toInt < w399.toInt) ∧ (3 = 1 → w399.toInt = w41.toInt + 1 → w400.toInt ≤ 26)) ∧ o26_x11.toInt ≤ w41.toInt ∧ o26_x9.toInt = o26_x9.toInt ∧ o26_x15.toInt = o26_x15.toInt ∧ o26_x19.toInt = o26_x19.toInt ∧ o26_x20.toInt = o26_x20.toInt ∧ o26_x22.toInt = o26_x22.toInt ∧ o26_x28.toInt = o26_x28.toInt from by first | omega | decide)))⟩, by rw [ht]; exact hP, va_K.moved hW.alike hK, hD⟩, hS.F ht⟩) hS.2.2 dX12_next_335
          · have ic368 : r366.toInt ≠ 0 := zi_eqf rfl rfl c368
            replace ic368 : 1 ≤ r366.toInt := by omega
            have p421 : 48 ≤ (z365.toInt) ∧ (z365.toInt) ≤ 57 := (tp_cond.yes hw367p) (by omega)
            clear hw367r ic368
            refine lv_iconst (v := 2) hx hb dX12_next_109 (by decide) ?_
            refine lv_goto (tgt := 114) hx hb dX12_next_110 (by decide) ?_
            refine va_put (D := (dC, dI)) (ci := 12) (v := .int 2) (ty := .int) (C := RX12) (T := TX12) (N := 53) hx hb hts hfX12 tyX12 tyX12_ok nmX12 hown hK hP hD hS q355 eq355 rfl 12 (by decide) (hts (.fieldLink RX12 280 "ColdShipsModel" "sort" "I") wa_995) (fun _ h9 => h9) rfl (tyX12_ok 12 (by decide)) rfl rfl (Nat.le_of_ble_eq_true rfl) dX12_next_114 (tp_k (.inr (12, [.int o26_x0, .int o26_x1, .ref (ρ h0 2), .ref (ρ h0 3), .ref (ρ h0 4), .ref (ρ h0 5), .ref (ρ h0 6), .int o26_x7, .ref (ρ h0 8), .int o26_x9, .int w41, .int w41, .int 2, .long 0, .int o26_x14, .int o26_x15, .int o26_x16, .int o26_x17, .int o26_x18, .int o26_x19, .int o26_x20, .ref (ρ h0 21), .int o26_x22, .ref (ρ h0 23), .ref (ρ h0 24), .int o26_x25, .ref (ρ h0 26), .ref (ρ h0 27), .int o26_x28, .int o26_x29, .ref (ρ h0 30), .ref (ρ h0 31), .int o26_x32, .long o26_x33, .long o26_x34, .long o26_x35, .int o26_x36, .int o26_x37, .int o26_x38, .ref (ρ h0 39), .ref (ρ h0 40), .ref (ρ h0 41), .ref (ρ h0 42), .ref (ρ h0 43), .ref (ρ h0 44), .ref (ρ h0 45), .ref (ρ h0 46), .int o26_x47, .int o26_x48, .ref (ρ h0 49), .ref (ρ h0 50), .ref (ρ h0 51), .ref (ρ h0 52)])) hD (tp_in hG ht_h0 (by decide)) eq355 (fun f422 H locs hP hD hS g424 k423 => ?_))
            have hT := hT.up ht_h0 g424 k423 ⟨_, _, _, _, _, _, _, _, _, _, _, _, _, _, _, _, _, _, _, _, _, _, _, _, _, _, _, _, rfl, ro26_0, ro26_1, (by omega), (by omega), (by decide), ro26_5, ro26_6, ro26_7, ro26_8, ro26_9, ro26_10, ro26_11, ro26_12, ro26_13, ro26_14⟩
            have hR := hR.up ht_h0 (by decide) k423
            refine lv_aload_n hx hb dX12_next_117 rfl (lv_at hl 0 rfl) ?_
            refine tpk_pos (tp_in hG ht_h0 (by decide)) g424 (fun q425 eq425 => ?_)
            refine va_get (D := (dC, dI)) (ci := 12) (v := .int 2) (C := RX12) (T := TX12) (N := 53) hx hb hts hfX12 hown hK hP q425 eq425 rfl 12 (by decide) (hts (.fieldLink RX12 280 "ColdShipsModel" "sort" "I") wa_995) (fun _ h9 => h9) rfl dX12_next_118 ?_
            refine lv_iconst (v := 3) hx hb dX12_next_121 (by decide) ?_
            refine lv_icmp_ne (tgt := 149) hx hb dX12_next_122 (by decide) (fun _ => ?_) (fun c9 => absurd c9 (by decide))
            have hf_430 : f422 (ρ h0 8) = .inl (κ 0, 400, .inl g35) := (k423 _ (tp_ne y6 ht_h0 (by decide))).trans hf_358
            refine pz_loop (fun n0 H locs ls => ∃ f433 : Nat → va_E, ∃ w426 : Int32, ∃ w427 : Int64, n0 = (400 - (w426.toInt)).toNat ∧ tp_T (mo_O κ Θ) κ τ ν ρ f433 ∧ tp_F τ [13] f f433 ∧ f433 (ρ h0 8) = .inl (κ 0, 400, .inl g35) ∧ f433 h0 = .inr (12, [.int o26_x0, .int o26_x1, .ref (ρ h0 2), .ref (ρ h0 3), .ref (ρ h0 4), .ref (ρ h0 5), .ref (ρ h0 6), .int o26_x7, .ref (ρ h0 8), .int o26_x9, .int w41, .int w426, .int 2, .long w427, .int o26_x14, .int o26_x15, .int o26_x16, .int o26_x17, .int o26_x18, .int o26_x19, .int o26_x20, .ref (ρ h0 21), .int o26_x22, .ref (ρ h0 23), .ref (ρ h0 24), .int o26_x25, .ref (ρ h0 26), .ref (ρ h0 27), .int o26_x28, .int o26_x29, .ref (ρ h0 30), .ref (ρ h0 31), .int o26_x32, .long o26_x33, .long o26_x34, .long o26_x35, .int o26_x36, .int o26_x37, .int o26_x38, .ref (ρ h0 39), .ref (ρ h0 40), .ref (ρ h0 41), .ref (ρ h0 42), .ref (ρ h0 43), .ref (ρ h0 44), .ref (ρ h0 45), .ref (ρ h0 46), .int o26_x47, .int o26_x48, .ref (ρ h0 49), .ref (ρ h0 50), .ref (ρ h0 51), .ref (ρ h0 52)]) ∧ (0 ≤ w426.toInt ∧ w426.toInt ≤ 400) ∧ (w41.toInt ≤ (w426.toInt)) ∧ ((w426.toInt) ≤ o26_x9.toInt) ∧ va_P (dC, dI) vwCl (va_pl L f433) H ∧ va_D A (va_pl L f433) ∧ va_S A s.heap H locs ∧ lv_has ls 1 [(0, .ref h0)]) ?_ _ _ _ _ ⟨f422, w41, 0, rfl, hT, hR, hf_430, g424, (by have : (0 : Int64).toInt = 0 := rfl; omega), (by have : (0 : Int64).toInt = 0 := rfl; omega), (by have : (0 : Int64).toInt = 0 := rfl; omega), hP, hD, hS, lv_sub hl [0] rfl⟩
            intro n0 H locs ls hI ih435
            refine Exists.elim hI (fun f433 hE90 => Exists.elim hE90 (fun w426 hE91 => Exists.elim hE91 (fun w427 hE92 => tn_12 hE92 (fun hn436 hT hR hk431k hk432k rw426 k428 k429 hP hD hS hl => ?_))))
            clear hE92 hE91 hE90 hI
            refine lv_aload_n hx hb dX12_next_149 rfl (lv_at hl 0 rfl) ?_
            refine tpk_pos (tp_in hG ht_h0 (by decide)) hk432k (fun q437 eq437 => ?_)
            refine va_get (D := (dC, dI)) (ci := 12) (v := .int 2) (C := RX12) (T := TX12) (N := 53) hx hb hts hfX12 hown hK hP q437 eq437 rfl 12 (by decide) (hts (.fieldLink RX12 280 "ColdShipsModel" "sort" "I") wa_995) (fun _ h9 => h9) rfl dX12_next_150 ?_
            refine lv_iconst (v := 1) hx hb dX12_next_153 (by decide) ?_
            refine lv_icmp_ne (tgt := 243) hx hb dX12_next_154 (by decide) (fun _ => ?_) (fun c9 => absurd c9 (by decide))
            refine pz_loop (fun n0 H locs ls => ∃ f444 : Nat → va_E, ∃ w438 : Int32, ∃ w439 : Int64, n0 = (400 - (w438.toInt)).toNat ∧ tp_T (mo_O κ Θ) κ τ ν ρ f444 ∧ tp_F τ [13] f f444 ∧ f444 (ρ h0 8) = .inl (κ 0, 400, .inl g35) ∧ f444 h0 = .inr (12, [.int o26_x0, .int o26_x1, .ref (ρ h0 2), .ref (ρ h0 3), .ref (ρ h0 4), .ref (ρ h0 5), .ref (ρ h0 6), .int o26_x7, .ref (ρ h0 8), .int o26_x9, .int w41, .int w438, .int 2, .long w439, .int o26_x14, .int o26_x15, .int o26_x16, .int o26_x17, .int o26_x18, .int o26_x19, .int o26_x20, .ref (ρ h0 21), .int o26_x22, .ref (ρ h0 23), .ref (ρ h0 24), .int o26_x25, .ref (ρ h0 26), .ref (ρ h0 27), .int o26_x28, .int o26_x29, .ref (ρ h0 30), .ref (ρ h0 31), .int o26_x32, .long o26_x33, .long o26_x34, .long o26_x35, .int o26_x36, .int o26_x37, .int o26_x38, .ref (ρ h0 39), .ref (ρ h0 40), .ref (ρ h0 41), .ref (ρ h0 42), .ref (ρ h0 43), .ref (ρ h0 44), .ref (ρ h0 45), .ref (ρ h0 46), .int o26_x47, .int o26_x48, .ref (ρ h0 49), .ref (ρ h0 50), .ref (ρ h0 51), .ref (ρ h0 52)]) ∧ (0 ≤ w438.toInt ∧ w438.toInt ≤ 400) ∧ (w41.toInt ≤ (w438.toInt)) ∧ ((w438.toInt) ≤ o26_x9.toInt) ∧ va_P (dC, dI) vwCl (va_pl L f444) H ∧ va_D A (va_pl L f444) ∧ va_S A s.heap H locs ∧ lv_has ls 1 [(0, .ref h0)]) ?_ _ _ _ _ ⟨f433, w426, w427, rfl, hT, hR, hk431k, hk432k, (by omega), (by omega), (by omega), hP, hD, hS, lv_sub hl [0] rfl⟩
            intro n0 H locs ls hI ih446
            refine Exists.elim hI (fun f444 hE90 => Exists.elim hE90 (fun w438 hE91 => Exists.elim hE91 (fun w439 hE92 => tn_12 hE92 (fun hn447 hT hR hk442k hk443k rw438 k440 k441 hP hD hS hl => ?_))))
            clear hE92 hE91 hE90 hI
            refine lv_aload_n hx hb dX12_next_243 rfl (lv_at hl 0 rfl) ?_
            refine tpk_pos (tp_in hG ht_h0 (by decide)) hk443k (fun q448 eq448 => ?_)
            refine va_get (D := (dC, dI)) (ci := 12) (v := .int 2) (C := RX12) (T := TX12) (N := 53) hx hb hts hfX12 hown hK hP q448 eq448 rfl 12 (by decide) (hts (.fieldLink RX12 280 "ColdShipsModel" "sort" "I") wa_995) (fun _ h9 => h9) rfl dX12_next_244 ?_
            refine lv_iconst (v := 2) hx hb dX12_next_247 (by decide) ?_
            refine lv_icmp_ne (tgt := 335) hx hb dX12_next_248 (by decide) (fun c9 => absurd c9 (by decide)) (fun _ => ?_)
            refine lv_aload_n hx hb dX12_next_251 rfl (lv_at hl 0 rfl) ?_
            refine va_get (D := (dC, dI)) (ci := 12) (v := .int w438) (C := RX12) (T := TX12) (N := 53) hx hb hts hfX12 hown hK hP q448 eq448 rfl 11 (by decide) (hts (.fieldLink RX12 258 "ColdShipsModel" "to" "I") wa_1000) (fun _ h9 => h9) rfl dX12_next_252 ?_
            refine lv_aload_n hx hb dX12_next_255 rfl (lv_at hl 0 rfl) ?_
            refine va_get (D := (dC, dI)) (ci := 12) (v := .int o26_x9) (C := RX12) (T := TX12) (N := 53) hx hb hts hfX12 hown hK hP q448 eq448 rfl 9 (by decide) (hts (.fieldLink RX12 252 "ColdShipsModel" "taped" "I") wa_774) (fun _ h9 => h9) rfl dX12_next_256 ?_
            refine lv_icmp_ge (tgt := 335) hx hb dX12_next_259 (by decide) (fun c449 => ?_) (fun c449 => ?_)
            · have ic449 : w438.toInt ≥ o26_x9.toInt := zi_ge rfl rfl c449
              have tf450 : mo_hd (tp_fld (f444 h0) 10 = w41.toInt) := tff_10 hk443k
              have tf451 : mo_hd (tp_fld (f444 h0) 11 = w438.toInt) := tff_11 hk443k
              have tf452 : mo_hd (tp_fld (f444 h0) 9 = o26_x9.toInt) := tff_9 hk443k
              have tf453 : mo_hd (tp_fld (f444 h0) 12 = 2) := tff_12 hk443k
              have tf454 : mo_hd (mo_fj (f444 h0) 13 = w439.toInt) := tff_13 hk443k
              have tf455 : mo_hd (tp_fld (f444 h0) 15 = o26_x15.toInt) := tff_15 hk443k
              have tf456 : mo_hd (tp_fld (f444 h0) 19 = o26_x19.toInt) := tff_19 hk443k
              have tf457 : mo_hd (tp_fld (f444 h0) 20 = o26_x20.toInt) := tff_20 hk443k
              have tf458 : mo_hd (tp_fld (f444 h0) 22 = o26_x22.toInt) := tff_22 hk443k
              have tf459 : mo_hd (tp_fld (f444 h0) 28 = o26_x28.toInt) := tff_28 hk443k
              have ro26_5 := tp_hu ro26_5; have ro26_6 := tp_hu ro26_6; have ro26_7 := tp_hu ro26_7; have ro26_8 := tp_hu ro26_8; have ro26_9 := tp_hu ro26_9
              exact W.vret hx hb hr (fun t ht hW => ⟨⟨f444, rfl, ⟨hT, hR, (by first | (simp only [(mo_un tf450), (mo_un tf451), (mo_un tf452), (mo_un tf453), (mo_un tf454), (mo_un tf28), (mo_un tf27), (mo_un tf455), (mo_un tf29), (mo_un tf456), (mo_un tf30), (mo_un tf457), (mo_un tf31), (mo_un tf458), (mo_un tf32), (mo_un tf459), (mo_un tf33), mo_i1, mo_l1]; exact (show (w41.toInt ≤ w438.toInt ∧ w438.toInt ≤ o26_x9.toInt ∧ (2 = 0 ∨ w41.toInt < w438.toInt) ∧ (2 = 1 → w438.toInt = w41.toInt + 1 → w439.toInt ≤ 26)) ∧ o26_x11.toInt ≤ w41.toInt ∧ o26_x9.toInt = o26_x9.toInt ∧ o26_x15.toInt = o26_x15.toInt ∧ o26_x19.toInt = o26_x19.toInt ∧ o26_x20.toInt = o26_x20.toInt ∧ o26_x22.toInt = o26_x22.toInt ∧ o26_x28.toInt = o26_x28.toInt from by first | omega | decide)) | (rw [(mo_un tf450), (mo_un tf451), (mo_un tf452), (mo_un tf453), (mo_un tf454), (mo_un tf28), (mo_un tf27), (mo_un tf455), (mo_un tf29), (mo_un tf456), (mo_un tf30), (mo_un tf457), (mo_un tf31), (mo_un tf458), (mo_un tf32), (mo_un tf459), (mo_un tf33)]; exact (show (w41.toInt ≤ w438.toInt ∧ w438.toInt ≤ o26_x9.toInt ∧ (2 = 0 ∨ w41.toInt < w438.toInt) ∧ (2 = 1 → w438.toInt = w41.toInt + 1 → w439.toInt ≤ 26)) ∧ o26_x11.toInt ≤ w41.toInt ∧ o26_x9.toInt = o26_x9.toInt ∧ o26_x15.toInt = o26_x15.toInt ∧ o26_x19.toInt = o26_x19.toInt ∧ o26_x20.toInt = o26_x20.toInt ∧ o26_x22.toInt = o26_x22.toInt ∧ o26_x28.toInt = o26_x28.toInt from by first | omega | decide)))⟩, by rw [ht]; exact hP, va_K.moved hW.alike hK, hD⟩, hS.F ht⟩) hS.2.2 dX12_next_335
            · have ic449 : w438.toInt < o26_x9.toInt := zi_gef rfl rfl c449
              refine lv_aload_n hx hb dX12_next_262 rfl (lv_at hl 0 rfl) ?_
              refine va_get (D := (dC, dI)) (ci := 12) (v := .ref (ρ h0 8)) (C := RX12) (T := TX12) (N := 53) hx hb hts hfX12 hown hK hP q448 eq448 rfl 8 (by decide) (hts (.fieldLink RX12 27 "ColdShipsModel" "tape" "[I") wa_154) (fun _ h9 => h9) rfl dX12_next_263 ?_
              refine lv_aload_n hx hb dX12_next_266 rfl (lv_at hl 0 rfl) ?_
              refine va_get (D := (dC, dI)) (ci := 12) (v := .int w438) (C := RX12) (T := TX12) (N := 53) hx hb hts hfX12 hown hK hP q448 eq448 rfl 11 (by decide) (hts (.fieldLink RX12 258 "ColdShipsModel" "to" "I") wa_1000) (fun _ h9 => h9) rfl dX12_next_267 ?_
              refine tpk_pos (tp_in hG y6 (by decide)) hk442k (fun q460 eq460 => ?_)
              refine va_iald hx hb hK hP q460 0 eq460 rfl (vp_in_iff.mpr ⟨by omega, by omega⟩) dX12_next_270 ?_
              refine lv_topi (fun z461 ez461 => ?_)
              have jz461 : z461.toInt = mo_R g35 w438.toInt := mo_rd ez461 (by omega)
              have hz461q := fun (q9 : w438.toInt = w41.toInt) => congrArg (mo_R g35) q9
              refine pz_calli (va_runS (As := [.int z461]) (rest := []) ⟨hx, hb, hml, hown, hts⟩ (t_X12_isDigit l dC dI _ z461 (z461.toInt) rfl) (va_cwS 1 hts gX12_next_X12_isDigit rfl rfl rfl pd_X12_isDigit ⟨Nat.le_of_ble_eq_true rfl, Nat.le_of_ble_eq_true rfl⟩) ⟨pz_blind, pz_pre pz_P0 (hK.sub (tys' := []) [] rfl) (pz_D0 (A := fun _ => True)) hN⟩ rfl rfl hl.1 rfl (lv_room (Nat.le_of_ble_eq_true rfl)) dX12_next_271 ⟨Nat.le_of_ble_eq_true rfl, Nat.le_of_ble_eq_true rfl⟩) (fun r462 hw463 => ?_)
              obtain ⟨hw463r, hw463p⟩ := hw463
              refine lv_if_eq (tgt := 335) hx hb dX12_next_274 (by decide) (fun c464 => ?_) (fun c464 => ?_)
              · have ic464 : r462.toInt = 0 := zi_eq rfl rfl c464
                have p465 : ¬ (48 ≤ (z461.toInt) ∧ (z461.toInt) ≤ 57) := (tp_cond.no hw463p) (by omega)
                clear hw463r ic464
                have tf466 : mo_hd (tp_fld (f444 h0) 10 = w41.toInt) := tff_10 hk443k
                have tf467 : mo_hd (tp_fld (f444 h0) 11 = w438.toInt) := tff_11 hk443k
                have tf468 : mo_hd (tp_fld (f444 h0) 9 = o26_x9.toInt) := tff_9 hk443k
                have tf469 : mo_hd (tp_fld (f444 h0) 12 = 2) := tff_12 hk443k
                have tf470 : mo_hd (mo_fj (f444 h0) 13 = w439.toInt) := tff_13 hk443k
                have tf471 : mo_hd (tp_fld (f444 h0) 15 = o26_x15.toInt) := tff_15 hk443k
                have tf472 : mo_hd (tp_fld (f444 h0) 19 = o26_x19.toInt) := tff_19 hk443k
                have tf473 : mo_hd (tp_fld (f444 h0) 20 = o26_x20.toInt) := tff_20 hk443k
                have tf474 : mo_hd (tp_fld (f444 h0) 22 = o26_x22.toInt) := tff_22 hk443k
                have tf475 : mo_hd (tp_fld (f444 h0) 28 = o26_x28.toInt) := tff_28 hk443k
                have ro26_5 := tp_hu ro26_5; have ro26_6 := tp_hu ro26_6; have ro26_7 := tp_hu ro26_7; have ro26_8 := tp_hu ro26_8; have ro26_9 := tp_hu ro26_9
                exact W.vret hx hb hr (fun t ht hW => ⟨⟨f444, rfl, ⟨hT, hR, (by first | (simp only [(mo_un tf466), (mo_un tf467), (mo_un tf468), (mo_un tf469), (mo_un tf470), (mo_un tf28), (mo_un tf27), (mo_un tf471), (mo_un tf29), (mo_un tf472), (mo_un tf30), (mo_un tf473), (mo_un tf31), (mo_un tf474), (mo_un tf32), (mo_un tf475), (mo_un tf33), mo_i1, mo_l1]; exact (show (w41.toInt ≤ w438.toInt ∧ w438.toInt ≤ o26_x9.toInt ∧ (2 = 0 ∨ w41.toInt < w438.toInt) ∧ (2 = 1 → w438.toInt = w41.toInt + 1 → w439.toInt ≤ 26)) ∧ o26_x11.toInt ≤ w41.toInt ∧ o26_x9.toInt = o26_x9.toInt ∧ o26_x15.toInt = o26_x15.toInt ∧ o26_x19.toInt = o26_x19.toInt ∧ o26_x20.toInt = o26_x20.toInt ∧ o26_x22.toInt = o26_x22.toInt ∧ o26_x28.toInt = o26_x28.toInt from by first | omega | decide)) | (rw [(mo_un tf466), (mo_un tf467), (mo_un tf468), (mo_un tf469), (mo_un tf470), (mo_un tf28), (mo_un tf27), (mo_un tf471), (mo_un tf29), (mo_un tf472), (mo_un tf30), (mo_un tf473), (mo_un tf31), (mo_un tf474), (mo_un tf32), (mo_un tf475), (mo_un tf33)]; exact (show (w41.toInt ≤ w438.toInt ∧ w438.toInt ≤ o26_x9.toInt ∧ (2 = 0 ∨ w41.toInt < w438.toInt) ∧ (2 = 1 → w438.toInt = w41.toInt + 1 → w439.toInt ≤ 26)) ∧ o26_x11.toInt ≤ w41.toInt ∧ o26_x9.toInt = o26_x9.toInt ∧ o26_x15.toInt = o26_x15.toInt ∧ o26_x19.toInt = o26_x19.toInt ∧ o26_x20.toInt = o26_x20.toInt ∧ o26_x22.toInt = o26_x22.toInt ∧ o26_x28.toInt = o26_x28.toInt from by first | omega | decide)))⟩, by rw [ht]; exact hP, va_K.moved hW.alike hK, hD⟩, hS.F ht⟩) hS.2.2 dX12_next_335
              · have ic464 : r462.toInt ≠ 0 := zi_eqf rfl rfl c464
                replace ic464 : 1 ≤ r462.toInt := by omega
                have p476 : 48 ≤ (z461.toInt) ∧ (z461.toInt) ≤ 57 := (tp_cond.yes hw463p) (by omega)
                clear hw463r ic464
                refine lv_aload_n hx hb dX12_next_277 rfl (lv_at hl 0 rfl) ?_
                refine lv_aload_n hx hb dX12_next_278 rfl (lv_at hl 0 rfl) ?_
                refine va_get (D := (dC, dI)) (ci := 12) (v := .long w439) (C := RX12) (T := TX12) (N := 53) hx hb hts hfX12 hown hK hP q448 eq448 rfl 13 (by decide) (hts (.fieldLink RX12 270 "ColdShipsModel" "worth" "J") wa_1006) (fun _ h9 => h9) rfl dX12_next_279 ?_
                refine lv_ldc2 (own := RX12) (v := 1000000) hx hb hown (hts (.constantLong RX12 287 (1000000)) wa_1009) dX12_next_282 ?_
                refine W.lcmp hx hb dX12_next_285 ?_
                refine lv_if_le (tgt := 296) hx hb dX12_next_286 (by decide) (fun c477 => ?_) (fun c477 => ?_)
                · have ic477 : w439.toInt ≤ 1000000 := zl_le rfl rfl c477
                  refine lv_aload_n hx hb dX12_next_296 rfl (lv_at hl 0 rfl) ?_
                  refine va_get (D := (dC, dI)) (ci := 12) (v := .long w439) (C := RX12) (T := TX12) (N := 53) hx hb hts hfX12 hown hK hP q448 eq448 rfl 13 (by decide) (hts (.fieldLink RX12 270 "ColdShipsModel" "worth" "J") wa_1006) (fun _ h9 => h9) rfl dX12_next_297 ?_
                  refine lv_ldc2 (own := RX12) (v := 10) hx hb hown (hts (.constantLong RX12 289 (10)) wa_1010) dX12_next_300 ?_
                  refine lv_lmul hx hb dX12_next_303 ?_
                  refine lv_topl (fun z478 ez478 => ?_)
                  refine lv_aload_n hx hb dX12_next_304 rfl (lv_at hl 0 rfl) ?_
                  refine va_get (D := (dC, dI)) (ci := 12) (v := .ref (ρ h0 8)) (C := RX12) (T := TX12) (N := 53) hx hb hts hfX12 hown hK hP q448 eq448 rfl 8 (by decide) (hts (.fieldLink RX12 27 "ColdShipsModel" "tape" "[I") wa_154) (fun _ h9 => h9) rfl dX12_next_305 ?_
                  refine lv_aload_n hx hb dX12_next_308 rfl (lv_at hl 0 rfl) ?_
                  refine va_get (D := (dC, dI)) (ci := 12) (v := .int w438) (C := RX12) (T := TX12) (N := 53) hx hb hts hfX12 hown hK hP q448 eq448 rfl 11 (by decide) (hts (.fieldLink RX12 258 "ColdShipsModel" "to" "I") wa_1000) (fun _ h9 => h9) rfl dX12_next_309 ?_
                  refine va_iald hx hb hK hP q460 0 eq460 rfl (vp_in_iff.mpr ⟨by omega, by omega⟩) dX12_next_312 ?_
                  refine lv_topi (fun z479 ez479 => ?_)
                  have jz479 : z479.toInt = mo_R g35 w438.toInt := mo_rd ez479 (by omega)
                  have hz479q := fun (q9 : w438.toInt = w41.toInt) => congrArg (mo_R g35) q9
                  refine lv_i2l hx hb dX12_next_313 rfl ?_
                  refine lv_ladd hx hb dX12_next_314 ?_
                  refine lv_topl (fun z480 ez480 => ?_)
                  refine lv_ldc2 (own := RX12) (v := 48) hx hb hown (hts (.constantLong RX12 291 (48)) wa_1011) dX12_next_315 ?_
                  refine lv_lsub hx hb dX12_next_318 ?_
                  refine lv_topl (fun z481 ez481 => ?_)
                  refine va_put (D := (dC, dI)) (ci := 12) (v := .long z481) (ty := .long) (C := RX12) (T := TX12) (N := 53) hx hb hts hfX12 tyX12 tyX12_ok nmX12 hown hK hP hD hS q448 eq448 rfl 13 (by decide) (hts (.fieldLink RX12 270 "ColdShipsModel" "worth" "J") wa_1006) (fun _ h9 => h9) rfl (tyX12_ok 13 (by decide)) rfl rfl (Nat.le_of_ble_eq_true rfl) dX12_next_319 (tp_k (.inr (12, [.int o26_x0, .int o26_x1, .ref (ρ h0 2), .ref (ρ h0 3), .ref (ρ h0 4), .ref (ρ h0 5), .ref (ρ h0 6), .int o26_x7, .ref (ρ h0 8), .int o26_x9, .int w41, .int w438, .int 2, .long z481, .int o26_x14, .int o26_x15, .int o26_x16, .int o26_x17, .int o26_x18, .int o26_x19, .int o26_x20, .ref (ρ h0 21), .int o26_x22, .ref (ρ h0 23), .ref (ρ h0 24), .int o26_x25, .ref (ρ h0 26), .ref (ρ h0 27), .int o26_x28, .int o26_x29, .ref (ρ h0 30), .ref (ρ h0 31), .int o26_x32, .long o26_x33, .long o26_x34, .long o26_x35, .int o26_x36, .int o26_x37, .int o26_x38, .ref (ρ h0 39), .ref (ρ h0 40), .ref (ρ h0 41), .ref (ρ h0 42), .ref (ρ h0 43), .ref (ρ h0 44), .ref (ρ h0 45), .ref (ρ h0 46), .int o26_x47, .int o26_x48, .ref (ρ h0 49), .ref (ρ h0 50), .ref (ρ h0 51), .ref (ρ h0 52)])) hD (tp_in hG ht_h0 (by decide)) eq448 (fun f482 H locs hP hD hS g484 k483 => ?_))
                  have hT := hT.up ht_h0 g484 k483 ⟨_, _, _, _, _, _, _, _, _, _, _, _, _, _, _, _, _, _, _, _, _, _, _, _, _, _, _, _, rfl, ro26_0, ro26_1, (by omega), (by omega), (by decide), ro26_5, ro26_6, ro26_7, ro26_8, ro26_9, ro26_10, ro26_11, ro26_12, ro26_13, ro26_14⟩
                  have hR := hR.up ht_h0 (by decide) k483
                  refine lv_aload_n hx hb dX12_next_322 rfl (lv_at hl 0 rfl) ?_
                  refine lv_dup hx hb dX12_next_323 rfl ?_
                  refine tpk_pos (tp_in hG ht_h0 (by decide)) g484 (fun q485 eq485 => ?_)
                  refine va_get (D := (dC, dI)) (ci := 12) (v := .int w438) (C := RX12) (T := TX12) (N := 53) hx hb hts hfX12 hown hK hP q485 eq485 rfl 11 (by decide) (hts (.fieldLink RX12 258 "ColdShipsModel" "to" "I") wa_1000) (fun _ h9 => h9) rfl dX12_next_324 ?_
                  refine lv_iconst (v := 1) hx hb dX12_next_327 (by decide) ?_
                  refine lv_iadd hx hb dX12_next_328 ?_
                  refine lv_topi (fun z486 ez486 => ?_)
                  have iz486 : z486.toInt = w438.toInt + 1 := zi_add ez486 rfl rfl (by omega) (by omega)
                  refine va_put (D := (dC, dI)) (ci := 12) (v := .int z486) (ty := .int) (C := RX12) (T := TX12) (N := 53) hx hb hts hfX12 tyX12 tyX12_ok nmX12 hown hK hP hD hS q485 eq485 rfl 11 (by decide) (hts (.fieldLink RX12 258 "ColdShipsModel" "to" "I") wa_1000) (fun _ h9 => h9) rfl (tyX12_ok 11 (by decide)) rfl rfl (Nat.le_of_ble_eq_true rfl) dX12_next_329 (tp_k (.inr (12, [.int o26_x0, .int o26_x1, .ref (ρ h0 2), .ref (ρ h0 3), .ref (ρ h0 4), .ref (ρ h0 5), .ref (ρ h0 6), .int o26_x7, .ref (ρ h0 8), .int o26_x9, .int w41, .int z486, .int 2, .long z481, .int o26_x14, .int o26_x15, .int o26_x16, .int o26_x17, .int o26_x18, .int o26_x19, .int o26_x20, .ref (ρ h0 21), .int o26_x22, .ref (ρ h0 23), .ref (ρ h0 24), .int o26_x25, .ref (ρ h0 26), .ref (ρ h0 27), .int o26_x28, .int o26_x29, .ref (ρ h0 30), .ref (ρ h0 31), .int o26_x32, .long o26_x33, .long o26_x34, .long o26_x35, .int o26_x36, .int o26_x37, .int o26_x38, .ref (ρ h0 39), .ref (ρ h0 40), .ref (ρ h0 41), .ref (ρ h0 42), .ref (ρ h0 43), .ref (ρ h0 44), .ref (ρ h0 45), .ref (ρ h0 46), .int o26_x47, .int o26_x48, .ref (ρ h0 49), .ref (ρ h0 50), .ref (ρ h0 51), .ref (ρ h0 52)])) hD (tp_in hG ht_h0 (by decide)) eq485 (fun f487 H locs hP hD hS g489 k488 => ?_))
                  have hT := hT.up ht_h0 g489 k488 ⟨_, _, _, _, _, _, _, _, _, _, _, _, _, _, _, _, _, _, _, _, _, _, _, _, _, _, _, _, rfl, ro26_0, ro26_1, (by omega), (by omega), (by decide), ro26_5, ro26_6, ro26_7, ro26_8, ro26_9, ro26_10, ro26_11, ro26_12, ro26_13, ro26_14⟩
                  have hR := hR.up ht_h0 (by decide) k488
                  refine lv_goto (tgt := 243) hx hb dX12_next_332 (by decide) ?_
                  have hf_490 : f482 (ρ h0 8) = .inl (κ 0, 400, .inl g35) := (k483 _ (tp_ne y6 ht_h0 (by decide))).trans hk442k
                  have hf_491 : f487 (ρ h0 8) = .inl (κ 0, 400, .inl g35) := (k488 _ (tp_ne y6 ht_h0 (by decide))).trans hf_490
                  exact ih446 _ _ _ _ (by rw [hn447]; omega) ⟨f487, z486, z481, rfl, hT, hR, hf_491, g489, (by omega), (by omega), (by omega), hP, hD, hS, lv_sub hl [0] rfl⟩
                · have ic477 : w439.toInt > 1000000 := zl_lef rfl rfl c477
                  refine lv_aload_n hx hb dX12_next_289 rfl (lv_at hl 0 rfl) ?_
                  refine va_get (D := (dC, dI)) (ci := 12) (v := .long w439) (C := RX12) (T := TX12) (N := 53) hx hb hts hfX12 hown hK hP q448 eq448 rfl 13 (by decide) (hts (.fieldLink RX12 270 "ColdShipsModel" "worth" "J") wa_1006) (fun _ h9 => h9) rfl dX12_next_290 ?_
                  refine lv_goto (tgt := 319) hx hb dX12_next_293 (by decide) ?_
                  refine va_put (D := (dC, dI)) (ci := 12) (v := .long w439) (ty := .long) (C := RX12) (T := TX12) (N := 53) hx hb hts hfX12 tyX12 tyX12_ok nmX12 hown hK hP hD hS q448 eq448 rfl 13 (by decide) (hts (.fieldLink RX12 270 "ColdShipsModel" "worth" "J") wa_1006) (fun _ h9 => h9) rfl (tyX12_ok 13 (by decide)) rfl rfl (Nat.le_of_ble_eq_true rfl) dX12_next_319 (tp_k (.inr (12, [.int o26_x0, .int o26_x1, .ref (ρ h0 2), .ref (ρ h0 3), .ref (ρ h0 4), .ref (ρ h0 5), .ref (ρ h0 6), .int o26_x7, .ref (ρ h0 8), .int o26_x9, .int w41, .int w438, .int 2, .long w439, .int o26_x14, .int o26_x15, .int o26_x16, .int o26_x17, .int o26_x18, .int o26_x19, .int o26_x20, .ref (ρ h0 21), .int o26_x22, .ref (ρ h0 23), .ref (ρ h0 24), .int o26_x25, .ref (ρ h0 26), .ref (ρ h0 27), .int o26_x28, .int o26_x29, .ref (ρ h0 30), .ref (ρ h0 31), .int o26_x32, .long o26_x33, .long o26_x34, .long o26_x35, .int o26_x36, .int o26_x37, .int o26_x38, .ref (ρ h0 39), .ref (ρ h0 40), .ref (ρ h0 41), .ref (ρ h0 42), .ref (ρ h0 43), .ref (ρ h0 44), .ref (ρ h0 45), .ref (ρ h0 46), .int o26_x47, .int o26_x48, .ref (ρ h0 49), .ref (ρ h0 50), .ref (ρ h0 51), .ref (ρ h0 52)])) hD (tp_in hG ht_h0 (by decide)) eq448 (fun f492 H locs hP hD hS g494 k493 => ?_))
                  have hT := hT.up ht_h0 g494 k493 ⟨_, _, _, _, _, _, _, _, _, _, _, _, _, _, _, _, _, _, _, _, _, _, _, _, _, _, _, _, rfl, ro26_0, ro26_1, (by omega), (by omega), (by decide), ro26_5, ro26_6, ro26_7, ro26_8, ro26_9, ro26_10, ro26_11, ro26_12, ro26_13, ro26_14⟩
                  have hR := hR.up ht_h0 (by decide) k493
                  refine lv_aload_n hx hb dX12_next_322 rfl (lv_at hl 0 rfl) ?_
                  refine lv_dup hx hb dX12_next_323 rfl ?_
                  refine tpk_pos (tp_in hG ht_h0 (by decide)) g494 (fun q495 eq495 => ?_)
                  refine va_get (D := (dC, dI)) (ci := 12) (v := .int w438) (C := RX12) (T := TX12) (N := 53) hx hb hts hfX12 hown hK hP q495 eq495 rfl 11 (by decide) (hts (.fieldLink RX12 258 "ColdShipsModel" "to" "I") wa_1000) (fun _ h9 => h9) rfl dX12_next_324 ?_
                  refine lv_iconst (v := 1) hx hb dX12_next_327 (by decide) ?_
                  refine lv_iadd hx hb dX12_next_328 ?_
                  refine lv_topi (fun z496 ez496 => ?_)
                  have iz496 : z496.toInt = w438.toInt + 1 := zi_add ez496 rfl rfl (by omega) (by omega)
                  refine va_put (D := (dC, dI)) (ci := 12) (v := .int z496) (ty := .int) (C := RX12) (T := TX12) (N := 53) hx hb hts hfX12 tyX12 tyX12_ok nmX12 hown hK hP hD hS q495 eq495 rfl 11 (by decide) (hts (.fieldLink RX12 258 "ColdShipsModel" "to" "I") wa_1000) (fun _ h9 => h9) rfl (tyX12_ok 11 (by decide)) rfl rfl (Nat.le_of_ble_eq_true rfl) dX12_next_329 (tp_k (.inr (12, [.int o26_x0, .int o26_x1, .ref (ρ h0 2), .ref (ρ h0 3), .ref (ρ h0 4), .ref (ρ h0 5), .ref (ρ h0 6), .int o26_x7, .ref (ρ h0 8), .int o26_x9, .int w41, .int z496, .int 2, .long w439, .int o26_x14, .int o26_x15, .int o26_x16, .int o26_x17, .int o26_x18, .int o26_x19, .int o26_x20, .ref (ρ h0 21), .int o26_x22, .ref (ρ h0 23), .ref (ρ h0 24), .int o26_x25, .ref (ρ h0 26), .ref (ρ h0 27), .int o26_x28, .int o26_x29, .ref (ρ h0 30), .ref (ρ h0 31), .int o26_x32, .long o26_x33, .long o26_x34, .long o26_x35, .int o26_x36, .int o26_x37, .int o26_x38, .ref (ρ h0 39), .ref (ρ h0 40), .ref (ρ h0 41), .ref (ρ h0 42), .ref (ρ h0 43), .ref (ρ h0 44), .ref (ρ h0 45), .ref (ρ h0 46), .int o26_x47, .int o26_x48, .ref (ρ h0 49), .ref (ρ h0 50), .ref (ρ h0 51), .ref (ρ h0 52)])) hD (tp_in hG ht_h0 (by decide)) eq495 (fun f497 H locs hP hD hS g499 k498 => ?_))
                  have hT := hT.up ht_h0 g499 k498 ⟨_, _, _, _, _, _, _, _, _, _, _, _, _, _, _, _, _, _, _, _, _, _, _, _, _, _, _, _, rfl, ro26_0, ro26_1, (by omega), (by omega), (by decide), ro26_5, ro26_6, ro26_7, ro26_8, ro26_9, ro26_10, ro26_11, ro26_12, ro26_13, ro26_14⟩
                  have hR := hR.up ht_h0 (by decide) k498
                  refine lv_goto (tgt := 243) hx hb dX12_next_332 (by decide) ?_
                  have hf_500 : f492 (ρ h0 8) = .inl (κ 0, 400, .inl g35) := (k493 _ (tp_ne y6 ht_h0 (by decide))).trans hk442k
                  have hf_501 : f497 (ρ h0 8) = .inl (κ 0, 400, .inl g35) := (k498 _ (tp_ne y6 ht_h0 (by decide))).trans hf_500
                  exact ih446 _ _ _ _ (by rw [hn447]; omega) ⟨f497, z496, w439, rfl, hT, hR, hf_501, g499, (by omega), (by omega), (by omega), hP, hD, hS, lv_sub hl [0] rfl⟩
        · have ic363 : r361.toInt ≠ 0 := zi_eqf rfl rfl c363
          replace ic363 : 1 ≤ r361.toInt := by omega
          have p502 : 97 ≤ (z360.toInt) ∧ (z360.toInt) ≤ 122 := (tp_cond.yes hw362p) (by omega)
          clear hw362r ic363
          refine lv_iconst (v := 1) hx hb dX12_next_90 (by decide) ?_
          refine lv_goto (tgt := 114) hx hb dX12_next_91 (by decide) ?_
          refine va_put (D := (dC, dI)) (ci := 12) (v := .int 1) (ty := .int) (C := RX12) (T := TX12) (N := 53) hx hb hts hfX12 tyX12 tyX12_ok nmX12 hown hK hP hD hS q355 eq355 rfl 12 (by decide) (hts (.fieldLink RX12 280 "ColdShipsModel" "sort" "I") wa_995) (fun _ h9 => h9) rfl (tyX12_ok 12 (by decide)) rfl rfl (Nat.le_of_ble_eq_true rfl) dX12_next_114 (tp_k (.inr (12, [.int o26_x0, .int o26_x1, .ref (ρ h0 2), .ref (ρ h0 3), .ref (ρ h0 4), .ref (ρ h0 5), .ref (ρ h0 6), .int o26_x7, .ref (ρ h0 8), .int o26_x9, .int w41, .int w41, .int 1, .long 0, .int o26_x14, .int o26_x15, .int o26_x16, .int o26_x17, .int o26_x18, .int o26_x19, .int o26_x20, .ref (ρ h0 21), .int o26_x22, .ref (ρ h0 23), .ref (ρ h0 24), .int o26_x25, .ref (ρ h0 26), .ref (ρ h0 27), .int o26_x28, .int o26_x29, .ref (ρ h0 30), .ref (ρ h0 31), .int o26_x32, .long o26_x33, .long o26_x34, .long o26_x35, .int o26_x36, .int o26_x37, .int o26_x38, .ref (ρ h0 39), .ref (ρ h0 40), .ref (ρ h0 41), .ref (ρ h0 42), .ref (ρ h0 43), .ref (ρ h0 44), .ref (ρ h0 45), .ref (ρ h0 46), .int o26_x47, .int o26_x48, .ref (ρ h0 49), .ref (ρ h0 50), .ref (ρ h0 51), .ref (ρ h0 52)])) hD (tp_in hG ht_h0 (by decide)) eq355 (fun f503 H locs hP hD hS g505 k504 => ?_))
          have hT := hT.up ht_h0 g505 k504 ⟨_, _, _, _, _, _, _, _, _, _, _, _, _, _, _, _, _, _, _, _, _, _, _, _, _, _, _, _, rfl, ro26_0, ro26_1, (by omega), (by omega), (by decide), ro26_5, ro26_6, ro26_7, ro26_8, ro26_9, ro26_10, ro26_11, ro26_12, ro26_13, ro26_14⟩
          have hR := hR.up ht_h0 (by decide) k504
          refine lv_aload_n hx hb dX12_next_117 rfl (lv_at hl 0 rfl) ?_
          refine tpk_pos (tp_in hG ht_h0 (by decide)) g505 (fun q506 eq506 => ?_)
          refine va_get (D := (dC, dI)) (ci := 12) (v := .int 1) (C := RX12) (T := TX12) (N := 53) hx hb hts hfX12 hown hK hP q506 eq506 rfl 12 (by decide) (hts (.fieldLink RX12 280 "ColdShipsModel" "sort" "I") wa_995) (fun _ h9 => h9) rfl dX12_next_118 ?_
          refine lv_iconst (v := 3) hx hb dX12_next_121 (by decide) ?_
          refine lv_icmp_ne (tgt := 149) hx hb dX12_next_122 (by decide) (fun _ => ?_) (fun c9 => absurd c9 (by decide))
          have hf_513 : f503 (ρ h0 8) = .inl (κ 0, 400, .inl g35) := (k504 _ (tp_ne y6 ht_h0 (by decide))).trans hf_358
          refine pz_loop (fun n0 H locs ls => ∃ f516 : Nat → va_E, ∃ w507 : Int32, ∃ w508 : Int64, n0 = (400 - (w507.toInt)).toNat ∧ tp_T (mo_O κ Θ) κ τ ν ρ f516 ∧ tp_F τ [13] f f516 ∧ f516 (ρ h0 8) = .inl (κ 0, 400, .inl g35) ∧ f516 h0 = .inr (12, [.int o26_x0, .int o26_x1, .ref (ρ h0 2), .ref (ρ h0 3), .ref (ρ h0 4), .ref (ρ h0 5), .ref (ρ h0 6), .int o26_x7, .ref (ρ h0 8), .int o26_x9, .int w41, .int w507, .int 1, .long w508, .int o26_x14, .int o26_x15, .int o26_x16, .int o26_x17, .int o26_x18, .int o26_x19, .int o26_x20, .ref (ρ h0 21), .int o26_x22, .ref (ρ h0 23), .ref (ρ h0 24), .int o26_x25, .ref (ρ h0 26), .ref (ρ h0 27), .int o26_x28, .int o26_x29, .ref (ρ h0 30), .ref (ρ h0 31), .int o26_x32, .long o26_x33, .long o26_x34, .long o26_x35, .int o26_x36, .int o26_x37, .int o26_x38, .ref (ρ h0 39), .ref (ρ h0 40), .ref (ρ h0 41), .ref (ρ h0 42), .ref (ρ h0 43), .ref (ρ h0 44), .ref (ρ h0 45), .ref (ρ h0 46), .int o26_x47, .int o26_x48, .ref (ρ h0 49), .ref (ρ h0 50), .ref (ρ h0 51), .ref (ρ h0 52)]) ∧ (0 ≤ w507.toInt ∧ w507.toInt ≤ 400) ∧ (w41.toInt ≤ (w507.toInt)) ∧ ((w507.toInt) ≤ o26_x9.toInt) ∧ (((w507.toInt) = w41.toInt → (w508.toInt) = 0)) ∧ (((w507.toInt) = w41.toInt + 1 → (w508.toInt) ≤ 26)) ∧ va_P (dC, dI) vwCl (va_pl L f516) H ∧ va_D A (va_pl L f516) ∧ va_S A s.heap H locs ∧ lv_has ls 1 [(0, .ref h0)]) ?_ _ _ _ _ ⟨f503, w41, 0, rfl, hT, hR, hf_513, g505, (by have : (0 : Int64).toInt = 0 := rfl; omega), (by have : (0 : Int64).toInt = 0 := rfl; omega), (by have : (0 : Int64).toInt = 0 := rfl; omega), (by have : (0 : Int64).toInt = 0 := rfl; omega), (by have : (0 : Int64).toInt = 0 := rfl; omega), hP, hD, hS, lv_sub hl [0] rfl⟩
          intro n0 H locs ls hI ih518
          refine Exists.elim hI (fun f516 hE90 => Exists.elim hE90 (fun w507 hE91 => Exists.elim hE91 (fun w508 hE92 => tn_14 hE92 (fun hn519 hT hR hk514k hk515k rw507 k509 k510 k511 k512 hP hD hS hl => ?_))))
          clear hE92 hE91 hE90 hI
          refine lv_aload_n hx hb dX12_next_149 rfl (lv_at hl 0 rfl) ?_
          refine tpk_pos (tp_in hG ht_h0 (by decide)) hk515k (fun q520 eq520 => ?_)
          refine va_get (D := (dC, dI)) (ci := 12) (v := .int 1) (C := RX12) (T := TX12) (N := 53) hx hb hts hfX12 hown hK hP q520 eq520 rfl 12 (by decide) (hts (.fieldLink RX12 280 "ColdShipsModel" "sort" "I") wa_995) (fun _ h9 => h9) rfl dX12_next_150 ?_
          refine lv_iconst (v := 1) hx hb dX12_next_153 (by decide) ?_
          refine lv_icmp_ne (tgt := 243) hx hb dX12_next_154 (by decide) (fun c9 => absurd c9 (by decide)) (fun _ => ?_)
          refine lv_aload_n hx hb dX12_next_157 rfl (lv_at hl 0 rfl) ?_
          refine va_get (D := (dC, dI)) (ci := 12) (v := .int w507) (C := RX12) (T := TX12) (N := 53) hx hb hts hfX12 hown hK hP q520 eq520 rfl 11 (by decide) (hts (.fieldLink RX12 258 "ColdShipsModel" "to" "I") wa_1000) (fun _ h9 => h9) rfl dX12_next_158 ?_
          refine lv_aload_n hx hb dX12_next_161 rfl (lv_at hl 0 rfl) ?_
          refine va_get (D := (dC, dI)) (ci := 12) (v := .int o26_x9) (C := RX12) (T := TX12) (N := 53) hx hb hts hfX12 hown hK hP q520 eq520 rfl 9 (by decide) (hts (.fieldLink RX12 252 "ColdShipsModel" "taped" "I") wa_774) (fun _ h9 => h9) rfl dX12_next_162 ?_
          refine lv_icmp_ge (tgt := 243) hx hb dX12_next_165 (by decide) (fun c521 => ?_) (fun c521 => ?_)
          · have ic521 : w507.toInt ≥ o26_x9.toInt := zi_ge rfl rfl c521
            refine pz_loop (fun n0 H locs ls => ∃ f530 : Nat → va_E, ∃ w522 : Int32, ∃ w523 : Int64, n0 = (400 - (w522.toInt)).toNat ∧ tp_T (mo_O κ Θ) κ τ ν ρ f530 ∧ tp_F τ [13] f f530 ∧ f530 (ρ h0 8) = .inl (κ 0, 400, .inl g35) ∧ f530 h0 = .inr (12, [.int o26_x0, .int o26_x1, .ref (ρ h0 2), .ref (ρ h0 3), .ref (ρ h0 4), .ref (ρ h0 5), .ref (ρ h0 6), .int o26_x7, .ref (ρ h0 8), .int o26_x9, .int w41, .int w522, .int 1, .long w523, .int o26_x14, .int o26_x15, .int o26_x16, .int o26_x17, .int o26_x18, .int o26_x19, .int o26_x20, .ref (ρ h0 21), .int o26_x22, .ref (ρ h0 23), .ref (ρ h0 24), .int o26_x25, .ref (ρ h0 26), .ref (ρ h0 27), .int o26_x28, .int o26_x29, .ref (ρ h0 30), .ref (ρ h0 31), .int o26_x32, .long o26_x33, .long o26_x34, .long o26_x35, .int o26_x36, .int o26_x37, .int o26_x38, .ref (ρ h0 39), .ref (ρ h0 40), .ref (ρ h0 41), .ref (ρ h0 42), .ref (ρ h0 43), .ref (ρ h0 44), .ref (ρ h0 45), .ref (ρ h0 46), .int o26_x47, .int o26_x48, .ref (ρ h0 49), .ref (ρ h0 50), .ref (ρ h0 51), .ref (ρ h0 52)]) ∧ (0 ≤ w522.toInt ∧ w522.toInt ≤ 400) ∧ (w41.toInt ≤ (w522.toInt)) ∧ ((w522.toInt) ≤ o26_x9.toInt) ∧ (w41.toInt < (w522.toInt)) ∧ (((w522.toInt) = w41.toInt + 1 → (w523.toInt) ≤ 26)) ∧ va_P (dC, dI) vwCl (va_pl L f530) H ∧ va_D A (va_pl L f530) ∧ va_S A s.heap H locs ∧ lv_has ls 1 [(0, .ref h0)]) ?_ _ _ _ _ ⟨f516, w507, w508, rfl, hT, hR, hk514k, hk515k, (by omega), (by omega), (by omega), (by omega), (by omega), hP, hD, hS, lv_sub hl [0] rfl⟩
            intro n0 H locs ls hI ih532
            refine Exists.elim hI (fun f530 hE90 => Exists.elim hE90 (fun w522 hE91 => Exists.elim hE91 (fun w523 hE92 => tn_14 hE92 (fun hn533 hT hR hk528k hk529k rw522 k524 k525 k526 k527 hP hD hS hl => ?_))))
            clear hE92 hE91 hE90 hI
            refine lv_aload_n hx hb dX12_next_243 rfl (lv_at hl 0 rfl) ?_
            refine tpk_pos (tp_in hG ht_h0 (by decide)) hk529k (fun q534 eq534 => ?_)
            refine va_get (D := (dC, dI)) (ci := 12) (v := .int 1) (C := RX12) (T := TX12) (N := 53) hx hb hts hfX12 hown hK hP q534 eq534 rfl 12 (by decide) (hts (.fieldLink RX12 280 "ColdShipsModel" "sort" "I") wa_995) (fun _ h9 => h9) rfl dX12_next_244 ?_
            refine lv_iconst (v := 2) hx hb dX12_next_247 (by decide) ?_
            refine lv_icmp_ne (tgt := 335) hx hb dX12_next_248 (by decide) (fun _ => ?_) (fun c9 => absurd c9 (by decide))
            have tf535 : mo_hd (tp_fld (f530 h0) 10 = w41.toInt) := tff_10 hk529k
            have tf536 : mo_hd (tp_fld (f530 h0) 11 = w522.toInt) := tff_11 hk529k
            have tf537 : mo_hd (tp_fld (f530 h0) 9 = o26_x9.toInt) := tff_9 hk529k
            have tf538 : mo_hd (tp_fld (f530 h0) 12 = 1) := tff_12 hk529k
            have tf539 : mo_hd (mo_fj (f530 h0) 13 = w523.toInt) := tff_13 hk529k
            have tf540 : mo_hd (tp_fld (f530 h0) 15 = o26_x15.toInt) := tff_15 hk529k
            have tf541 : mo_hd (tp_fld (f530 h0) 19 = o26_x19.toInt) := tff_19 hk529k
            have tf542 : mo_hd (tp_fld (f530 h0) 20 = o26_x20.toInt) := tff_20 hk529k
            have tf543 : mo_hd (tp_fld (f530 h0) 22 = o26_x22.toInt) := tff_22 hk529k
            have tf544 : mo_hd (tp_fld (f530 h0) 28 = o26_x28.toInt) := tff_28 hk529k
            have ro26_5 := tp_hu ro26_5; have ro26_6 := tp_hu ro26_6; have ro26_7 := tp_hu ro26_7; have ro26_8 := tp_hu ro26_8; have ro26_9 := tp_hu ro26_9
            exact W.vret hx hb hr (fun t ht hW => ⟨⟨f530, rfl, ⟨hT, hR, (by first | (simp only [(mo_un tf535), (mo_un tf536), (mo_un tf537), (mo_un tf538), (mo_un tf539), (mo_un tf28), (mo_un tf27), (mo_un tf540), (mo_un tf29), (mo_un tf541), (mo_un tf30), (mo_un tf542), (mo_un tf31), (mo_un tf543), (mo_un tf32), (mo_un tf544), (mo_un tf33), mo_i1, mo_l1]; exact (show (w41.toInt ≤ w522.toInt ∧ w522.toInt ≤ o26_x9.toInt ∧ (1 = 0 ∨ w41.toInt < w522.toInt) ∧ (1 = 1 → w522.toInt = w41.toInt + 1 → w523.toInt ≤ 26)) ∧ o26_x11.toInt ≤ w41.toInt ∧ o26_x9.toInt = o26_x9.toInt ∧ o26_x15.toInt = o26_x15.toInt ∧ o26_x19.toInt = o26_x19.toInt ∧ o26_x20.toInt = o26_x20.toInt ∧ o26_x22.toInt = o26_x22.toInt ∧ o26_x28.toInt = o26_x28.toInt from by first | omega | decide)) | (rw [(mo_un tf535), (mo_un tf536), (mo_un tf537), (mo_un tf538), (mo_un tf539), (mo_un tf28), (mo_un tf27), (mo_un tf540), (mo_un tf29), (mo_un tf541), (mo_un tf30), (mo_un tf542), (mo_un tf31), (mo_un tf543), (mo_un tf32), (mo_un tf544), (mo_un tf33)]; exact (show (w41.toInt ≤ w522.toInt ∧ w522.toInt ≤ o26_x9.toInt ∧ (1 = 0 ∨ w41.toInt < w522.toInt) ∧ (1 = 1 → w522.toInt = w41.toInt + 1 → w523.toInt ≤ 26)) ∧ o26_x11.toInt ≤ w41.toInt ∧ o26_x9.toInt = o26_x9.toInt ∧ o26_x15.toInt = o26_x15.toInt ∧ o26_x19.toInt = o26_x19.toInt ∧ o26_x20.toInt = o26_x20.toInt ∧ o26_x22.toInt = o26_x22.toInt ∧ o26_x28.toInt = o26_x28.toInt from by first | omega | decide)))⟩, by rw [ht]; exact hP, va_K.moved hW.alike hK, hD⟩, hS.F ht⟩) hS.2.2 dX12_next_335
          · have ic521 : w507.toInt < o26_x9.toInt := zi_gef rfl rfl c521
            refine lv_aload_n hx hb dX12_next_168 rfl (lv_at hl 0 rfl) ?_
            refine va_get (D := (dC, dI)) (ci := 12) (v := .ref (ρ h0 8)) (C := RX12) (T := TX12) (N := 53) hx hb hts hfX12 hown hK hP q520 eq520 rfl 8 (by decide) (hts (.fieldLink RX12 27 "ColdShipsModel" "tape" "[I") wa_154) (fun _ h9 => h9) rfl dX12_next_169 ?_
            refine lv_aload_n hx hb dX12_next_172 rfl (lv_at hl 0 rfl) ?_
            refine va_get (D := (dC, dI)) (ci := 12) (v := .int w507) (C := RX12) (T := TX12) (N := 53) hx hb hts hfX12 hown hK hP q520 eq520 rfl 11 (by decide) (hts (.fieldLink RX12 258 "ColdShipsModel" "to" "I") wa_1000) (fun _ h9 => h9) rfl dX12_next_173 ?_
            refine tpk_pos (tp_in hG y6 (by decide)) hk514k (fun q545 eq545 => ?_)
            refine va_iald hx hb hK hP q545 0 eq545 rfl (vp_in_iff.mpr ⟨by omega, by omega⟩) dX12_next_176 ?_
            refine lv_topi (fun z546 ez546 => ?_)
            have jz546 : z546.toInt = mo_R g35 w507.toInt := mo_rd ez546 (by omega)
            have hz546q := fun (q9 : w507.toInt = w41.toInt) => congrArg (mo_R g35) q9
            refine pz_calli (va_runS (As := [.int z546]) (rest := []) ⟨hx, hb, hml, hown, hts⟩ (t_X12_isSmall l dC dI _ z546 (z546.toInt) rfl) (va_cwS 1 hts gX12_next_X12_isSmall rfl rfl rfl pd_X12_isSmall ⟨Nat.le_of_ble_eq_true rfl, Nat.le_of_ble_eq_true rfl⟩) ⟨pz_blind, pz_pre pz_P0 (hK.sub (tys' := []) [] rfl) (pz_D0 (A := fun _ => True)) hN⟩ rfl rfl hl.1 rfl (lv_room (Nat.le_of_ble_eq_true rfl)) dX12_next_177 ⟨Nat.le_of_ble_eq_true rfl, Nat.le_of_ble_eq_true rfl⟩) (fun r547 hw548 => ?_)
            obtain ⟨hw548r, hw548p⟩ := hw548
            refine lv_if_eq (tgt := 243) hx hb dX12_next_180 (by decide) (fun c549 => ?_) (fun c549 => ?_)
            · have ic549 : r547.toInt = 0 := zi_eq rfl rfl c549
              have p550 : ¬ (97 ≤ (z546.toInt) ∧ (z546.toInt) ≤ 122) := (tp_cond.no hw548p) (by omega)
              clear hw548r ic549
              refine pz_loop (fun n0 H locs ls => ∃ f559 : Nat → va_E, ∃ w551 : Int32, ∃ w552 : Int64, n0 = (400 - (w551.toInt)).toNat ∧ tp_T (mo_O κ Θ) κ τ ν ρ f559 ∧ tp_F τ [13] f f559 ∧ f559 (ρ h0 8) = .inl (κ 0, 400, .inl g35) ∧ f559 h0 = .inr (12, [.int o26_x0, .int o26_x1, .ref (ρ h0 2), .ref (ρ h0 3), .ref (ρ h0 4), .ref (ρ h0 5), .ref (ρ h0 6), .int o26_x7, .ref (ρ h0 8), .int o26_x9, .int w41, .int w551, .int 1, .long w552, .int o26_x14, .int o26_x15, .int o26_x16, .int o26_x17, .int o26_x18, .int o26_x19, .int o26_x20, .ref (ρ h0 21), .int o26_x22, .ref (ρ h0 23), .ref (ρ h0 24), .int o26_x25, .ref (ρ h0 26), .ref (ρ h0 27), .int o26_x28, .int o26_x29, .ref (ρ h0 30), .ref (ρ h0 31), .int o26_x32, .long o26_x33, .long o26_x34, .long o26_x35, .int o26_x36, .int o26_x37, .int o26_x38, .ref (ρ h0 39), .ref (ρ h0 40), .ref (ρ h0 41), .ref (ρ h0 42), .ref (ρ h0 43), .ref (ρ h0 44), .ref (ρ h0 45), .ref (ρ h0 46), .int o26_x47, .int o26_x48, .ref (ρ h0 49), .ref (ρ h0 50), .ref (ρ h0 51), .ref (ρ h0 52)]) ∧ (0 ≤ w551.toInt ∧ w551.toInt ≤ 400) ∧ (w41.toInt ≤ (w551.toInt)) ∧ ((w551.toInt) ≤ o26_x9.toInt) ∧ (w41.toInt < (w551.toInt)) ∧ (((w551.toInt) = w41.toInt + 1 → (w552.toInt) ≤ 26)) ∧ va_P (dC, dI) vwCl (va_pl L f559) H ∧ va_D A (va_pl L f559) ∧ va_S A s.heap H locs ∧ lv_has ls 1 [(0, .ref h0)]) ?_ _ _ _ _ ⟨f516, w507, w508, rfl, hT, hR, hk514k, hk515k, (by omega), (by omega), (by omega), (by omega), (by omega), hP, hD, hS, lv_sub hl [0] rfl⟩
              intro n0 H locs ls hI ih561
              refine Exists.elim hI (fun f559 hE90 => Exists.elim hE90 (fun w551 hE91 => Exists.elim hE91 (fun w552 hE92 => tn_14 hE92 (fun hn562 hT hR hk557k hk558k rw551 k553 k554 k555 k556 hP hD hS hl => ?_))))
              clear hE92 hE91 hE90 hI
              refine lv_aload_n hx hb dX12_next_243 rfl (lv_at hl 0 rfl) ?_
              refine tpk_pos (tp_in hG ht_h0 (by decide)) hk558k (fun q563 eq563 => ?_)
              refine va_get (D := (dC, dI)) (ci := 12) (v := .int 1) (C := RX12) (T := TX12) (N := 53) hx hb hts hfX12 hown hK hP q563 eq563 rfl 12 (by decide) (hts (.fieldLink RX12 280 "ColdShipsModel" "sort" "I") wa_995) (fun _ h9 => h9) rfl dX12_next_244 ?_
              refine lv_iconst (v := 2) hx hb dX12_next_247 (by decide) ?_
              refine lv_icmp_ne (tgt := 335) hx hb dX12_next_248 (by decide) (fun _ => ?_) (fun c9 => absurd c9 (by decide))
              have tf564 : mo_hd (tp_fld (f559 h0) 10 = w41.toInt) := tff_10 hk558k
              have tf565 : mo_hd (tp_fld (f559 h0) 11 = w551.toInt) := tff_11 hk558k
              have tf566 : mo_hd (tp_fld (f559 h0) 9 = o26_x9.toInt) := tff_9 hk558k
              have tf567 : mo_hd (tp_fld (f559 h0) 12 = 1) := tff_12 hk558k
              have tf568 : mo_hd (mo_fj (f559 h0) 13 = w552.toInt) := tff_13 hk558k
              have tf569 : mo_hd (tp_fld (f559 h0) 15 = o26_x15.toInt) := tff_15 hk558k
              have tf570 : mo_hd (tp_fld (f559 h0) 19 = o26_x19.toInt) := tff_19 hk558k
              have tf571 : mo_hd (tp_fld (f559 h0) 20 = o26_x20.toInt) := tff_20 hk558k
              have tf572 : mo_hd (tp_fld (f559 h0) 22 = o26_x22.toInt) := tff_22 hk558k
              have tf573 : mo_hd (tp_fld (f559 h0) 28 = o26_x28.toInt) := tff_28 hk558k
              have ro26_5 := tp_hu ro26_5; have ro26_6 := tp_hu ro26_6; have ro26_7 := tp_hu ro26_7; have ro26_8 := tp_hu ro26_8; have ro26_9 := tp_hu ro26_9
              exact W.vret hx hb hr (fun t ht hW => ⟨⟨f559, rfl, ⟨hT, hR, (by first | (simp only [(mo_un tf564), (mo_un tf565), (mo_un tf566), (mo_un tf567), (mo_un tf568), (mo_un tf28), (mo_un tf27), (mo_un tf569), (mo_un tf29), (mo_un tf570), (mo_un tf30), (mo_un tf571), (mo_un tf31), (mo_un tf572), (mo_un tf32), (mo_un tf573), (mo_un tf33), mo_i1, mo_l1]; exact (show (w41.toInt ≤ w551.toInt ∧ w551.toInt ≤ o26_x9.toInt ∧ (1 = 0 ∨ w41.toInt < w551.toInt) ∧ (1 = 1 → w551.toInt = w41.toInt + 1 → w552.toInt ≤ 26)) ∧ o26_x11.toInt ≤ w41.toInt ∧ o26_x9.toInt = o26_x9.toInt ∧ o26_x15.toInt = o26_x15.toInt ∧ o26_x19.toInt = o26_x19.toInt ∧ o26_x20.toInt = o26_x20.toInt ∧ o26_x22.toInt = o26_x22.toInt ∧ o26_x28.toInt = o26_x28.toInt from by first | omega | decide)) | (rw [(mo_un tf564), (mo_un tf565), (mo_un tf566), (mo_un tf567), (mo_un tf568), (mo_un tf28), (mo_un tf27), (mo_un tf569), (mo_un tf29), (mo_un tf570), (mo_un tf30), (mo_un tf571), (mo_un tf31), (mo_un tf572), (mo_un tf32), (mo_un tf573), (mo_un tf33)]; exact (show (w41.toInt ≤ w551.toInt ∧ w551.toInt ≤ o26_x9.toInt ∧ (1 = 0 ∨ w41.toInt < w551.toInt) ∧ (1 = 1 → w551.toInt = w41.toInt + 1 → w552.toInt ≤ 26)) ∧ o26_x11.toInt ≤ w41.toInt ∧ o26_x9.toInt = o26_x9.toInt ∧ o26_x15.toInt = o26_x15.toInt ∧ o26_x19.toInt = o26_x19.toInt ∧ o26_x20.toInt = o26_x20.toInt ∧ o26_x22.toInt = o26_x22.toInt ∧ o26_x28.toInt = o26_x28.toInt from by first | omega | decide)))⟩, by rw [ht]; exact hP, va_K.moved hW.alike hK, hD⟩, hS.F ht⟩) hS.2.2 dX12_next_335
            · have ic549 : r547.toInt ≠ 0 := zi_eqf rfl rfl c549
              replace ic549 : 1 ≤ r547.toInt := by omega
              have p574 : 97 ≤ (z546.toInt) ∧ (z546.toInt) ≤ 122 := (tp_cond.yes hw548p) (by omega)
              clear hw548r ic549
              refine lv_aload_n hx hb dX12_next_183 rfl (lv_at hl 0 rfl) ?_
              refine lv_aload_n hx hb dX12_next_184 rfl (lv_at hl 0 rfl) ?_
              refine va_get (D := (dC, dI)) (ci := 12) (v := .int w507) (C := RX12) (T := TX12) (N := 53) hx hb hts hfX12 hown hK hP q520 eq520 rfl 11 (by decide) (hts (.fieldLink RX12 258 "ColdShipsModel" "to" "I") wa_1000) (fun _ h9 => h9) rfl dX12_next_185 ?_
              refine lv_aload_n hx hb dX12_next_188 rfl (lv_at hl 0 rfl) ?_
              refine va_get (D := (dC, dI)) (ci := 12) (v := .int w41) (C := RX12) (T := TX12) (N := 53) hx hb hts hfX12 hown hK hP q520 eq520 rfl 10 (by decide) (hts (.fieldLink RX12 267 "ColdShipsModel" "from" "I") wa_1005) (fun _ h9 => h9) rfl dX12_next_189 ?_
              refine lv_isub hx hb dX12_next_192 ?_
              refine lv_topi (fun z575 ez575 => ?_)
              have iz575 : z575.toInt = w507.toInt - w41.toInt := zi_sub ez575 rfl rfl (by omega) (by omega)
              refine lv_bipush (v := 10) hx hb dX12_next_193 (by decide) ?_
              refine lv_icmp_ge (tgt := 224) hx hb dX12_next_195 (by decide) (fun c576 => ?_) (fun c576 => ?_)
              · have ic576 : z575.toInt ≥ 10 := zi_ge rfl rfl c576
                refine lv_ldc2 (own := RX12) (v := (-1)) hx hb hown (hts (.constantLong RX12 158 (-1)) wa_557) dX12_next_224 ?_
                refine va_put (D := (dC, dI)) (ci := 12) (v := .long (-1)) (ty := .long) (C := RX12) (T := TX12) (N := 53) hx hb hts hfX12 tyX12 tyX12_ok nmX12 hown hK hP hD hS q520 eq520 rfl 13 (by decide) (hts (.fieldLink RX12 270 "ColdShipsModel" "worth" "J") wa_1006) (fun _ h9 => h9) rfl (tyX12_ok 13 (by decide)) rfl rfl (Nat.le_of_ble_eq_true rfl) dX12_next_227 (tp_k (.inr (12, [.int o26_x0, .int o26_x1, .ref (ρ h0 2), .ref (ρ h0 3), .ref (ρ h0 4), .ref (ρ h0 5), .ref (ρ h0 6), .int o26_x7, .ref (ρ h0 8), .int o26_x9, .int w41, .int w507, .int 1, .long (-1), .int o26_x14, .int o26_x15, .int o26_x16, .int o26_x17, .int o26_x18, .int o26_x19, .int o26_x20, .ref (ρ h0 21), .int o26_x22, .ref (ρ h0 23), .ref (ρ h0 24), .int o26_x25, .ref (ρ h0 26), .ref (ρ h0 27), .int o26_x28, .int o26_x29, .ref (ρ h0 30), .ref (ρ h0 31), .int o26_x32, .long o26_x33, .long o26_x34, .long o26_x35, .int o26_x36, .int o26_x37, .int o26_x38, .ref (ρ h0 39), .ref (ρ h0 40), .ref (ρ h0 41), .ref (ρ h0 42), .ref (ρ h0 43), .ref (ρ h0 44), .ref (ρ h0 45), .ref (ρ h0 46), .int o26_x47, .int o26_x48, .ref (ρ h0 49), .ref (ρ h0 50), .ref (ρ h0 51), .ref (ρ h0 52)])) hD (tp_in hG ht_h0 (by decide)) eq520 (fun f577 H locs hP hD hS g579 k578 => ?_))
                have hT := hT.up ht_h0 g579 k578 ⟨_, _, _, _, _, _, _, _, _, _, _, _, _, _, _, _, _, _, _, _, _, _, _, _, _, _, _, _, rfl, ro26_0, ro26_1, (by omega), (by omega), (by decide), ro26_5, ro26_6, ro26_7, ro26_8, ro26_9, ro26_10, ro26_11, ro26_12, ro26_13, ro26_14⟩
                have hR := hR.up ht_h0 (by decide) k578
                refine lv_aload_n hx hb dX12_next_230 rfl (lv_at hl 0 rfl) ?_
                refine lv_dup hx hb dX12_next_231 rfl ?_
                refine tpk_pos (tp_in hG ht_h0 (by decide)) g579 (fun q580 eq580 => ?_)
                refine va_get (D := (dC, dI)) (ci := 12) (v := .int w507) (C := RX12) (T := TX12) (N := 53) hx hb hts hfX12 hown hK hP q580 eq580 rfl 11 (by decide) (hts (.fieldLink RX12 258 "ColdShipsModel" "to" "I") wa_1000) (fun _ h9 => h9) rfl dX12_next_232 ?_
                refine lv_iconst (v := 1) hx hb dX12_next_235 (by decide) ?_
                refine lv_iadd hx hb dX12_next_236 ?_
                refine lv_topi (fun z581 ez581 => ?_)
                have iz581 : z581.toInt = w507.toInt + 1 := zi_add ez581 rfl rfl (by omega) (by omega)
                refine va_put (D := (dC, dI)) (ci := 12) (v := .int z581) (ty := .int) (C := RX12) (T := TX12) (N := 53) hx hb hts hfX12 tyX12 tyX12_ok nmX12 hown hK hP hD hS q580 eq580 rfl 11 (by decide) (hts (.fieldLink RX12 258 "ColdShipsModel" "to" "I") wa_1000) (fun _ h9 => h9) rfl (tyX12_ok 11 (by decide)) rfl rfl (Nat.le_of_ble_eq_true rfl) dX12_next_237 (tp_k (.inr (12, [.int o26_x0, .int o26_x1, .ref (ρ h0 2), .ref (ρ h0 3), .ref (ρ h0 4), .ref (ρ h0 5), .ref (ρ h0 6), .int o26_x7, .ref (ρ h0 8), .int o26_x9, .int w41, .int z581, .int 1, .long (-1), .int o26_x14, .int o26_x15, .int o26_x16, .int o26_x17, .int o26_x18, .int o26_x19, .int o26_x20, .ref (ρ h0 21), .int o26_x22, .ref (ρ h0 23), .ref (ρ h0 24), .int o26_x25, .ref (ρ h0 26), .ref (ρ h0 27), .int o26_x28, .int o26_x29, .ref (ρ h0 30), .ref (ρ h0 31), .int o26_x32, .long o26_x33, .long o26_x34, .long o26_x35, .int o26_x36, .int o26_x37, .int o26_x38, .ref (ρ h0 39), .ref (ρ h0 40), .ref (ρ h0 41), .ref (ρ h0 42), .ref (ρ h0 43), .ref (ρ h0 44), .ref (ρ h0 45), .ref (ρ h0 46), .int o26_x47, .int o26_x48, .ref (ρ h0 49), .ref (ρ h0 50), .ref (ρ h0 51), .ref (ρ h0 52)])) hD (tp_in hG ht_h0 (by decide)) eq580 (fun f582 H locs hP hD hS g584 k583 => ?_))
                have hT := hT.up ht_h0 g584 k583 ⟨_, _, _, _, _, _, _, _, _, _, _, _, _, _, _, _, _, _, _, _, _, _, _, _, _, _, _, _, rfl, ro26_0, ro26_1, (by omega), (by omega), (by decide), ro26_5, ro26_6, ro26_7, ro26_8, ro26_9, ro26_10, ro26_11, ro26_12, ro26_13, ro26_14⟩
                have hR := hR.up ht_h0 (by decide) k583
                refine lv_goto (tgt := 149) hx hb dX12_next_240 (by decide) ?_
                have hf_585 : f577 (ρ h0 8) = .inl (κ 0, 400, .inl g35) := (k578 _ (tp_ne y6 ht_h0 (by decide))).trans hk514k
                have hf_586 : f582 (ρ h0 8) = .inl (κ 0, 400, .inl g35) := (k583 _ (tp_ne y6 ht_h0 (by decide))).trans hf_585
                exact ih518 _ _ _ _ (by rw [hn519]; omega) ⟨f582, z581, (-1), rfl, hT, hR, hf_586, g584, (by have : ((-1) : Int64).toInt = (-1) := rfl; omega), (by have : ((-1) : Int64).toInt = (-1) := rfl; omega), (by have : ((-1) : Int64).toInt = (-1) := rfl; omega), (by have : ((-1) : Int64).toInt = (-1) := rfl; omega), (by have : ((-1) : Int64).toInt = (-1) := rfl; omega), hP, hD, hS, lv_sub hl [0] rfl⟩
              · have ic576 : z575.toInt < 10 := zi_gef rfl rfl c576
                refine lv_aload_n hx hb dX12_next_198 rfl (lv_at hl 0 rfl) ?_
                refine va_get (D := (dC, dI)) (ci := 12) (v := .long w508) (C := RX12) (T := TX12) (N := 53) hx hb hts hfX12 hown hK hP q520 eq520 rfl 13 (by decide) (hts (.fieldLink RX12 270 "ColdShipsModel" "worth" "J") wa_1006) (fun _ h9 => h9) rfl dX12_next_199 ?_
                refine lv_ldc2 (own := RX12) (v := 32) hx hb hown (hts (.constantLong RX12 283 (32)) wa_1007) dX12_next_202 ?_
                refine lv_lmul hx hb dX12_next_205 ?_
                refine lv_topl (fun z587 ez587 => ?_)
                refine lv_aload_n hx hb dX12_next_206 rfl (lv_at hl 0 rfl) ?_
                refine va_get (D := (dC, dI)) (ci := 12) (v := .ref (ρ h0 8)) (C := RX12) (T := TX12) (N := 53) hx hb hts hfX12 hown hK hP q520 eq520 rfl 8 (by decide) (hts (.fieldLink RX12 27 "ColdShipsModel" "tape" "[I") wa_154) (fun _ h9 => h9) rfl dX12_next_207 ?_
                refine lv_aload_n hx hb dX12_next_210 rfl (lv_at hl 0 rfl) ?_
                refine va_get (D := (dC, dI)) (ci := 12) (v := .int w507) (C := RX12) (T := TX12) (N := 53) hx hb hts hfX12 hown hK hP q520 eq520 rfl 11 (by decide) (hts (.fieldLink RX12 258 "ColdShipsModel" "to" "I") wa_1000) (fun _ h9 => h9) rfl dX12_next_211 ?_
                refine va_iald hx hb hK hP q545 0 eq545 rfl (vp_in_iff.mpr ⟨by omega, by omega⟩) dX12_next_214 ?_
                refine lv_topi (fun z588 ez588 => ?_)
                have jz588 : z588.toInt = mo_R g35 w507.toInt := mo_rd ez588 (by omega)
                have hz588q := fun (q9 : w507.toInt = w41.toInt) => congrArg (mo_R g35) q9
                refine lv_i2l hx hb dX12_next_215 rfl ?_
                refine lv_ladd hx hb dX12_next_216 ?_
                refine lv_topl (fun z589 ez589 => ?_)
                refine lv_ldc2 (own := RX12) (v := 96) hx hb hown (hts (.constantLong RX12 285 (96)) wa_1008) dX12_next_217 ?_
                refine lv_lsub hx hb dX12_next_220 ?_
                refine lv_topl (fun z590 ez590 => ?_)
                have hw1 : w507.toInt = w41.toInt → z590.toInt ≤ 26 := fun q9 => by have q8 := zl_w0 ez587 ez589 ez590 (by omega) (Int32.toInt_toInt64 z588) (by omega) (by omega); omega
                refine lv_goto (tgt := 227) hx hb dX12_next_221 (by decide) ?_
                refine va_put (D := (dC, dI)) (ci := 12) (v := .long z590) (ty := .long) (C := RX12) (T := TX12) (N := 53) hx hb hts hfX12 tyX12 tyX12_ok nmX12 hown hK hP hD hS q520 eq520 rfl 13 (by decide) (hts (.fieldLink RX12 270 "ColdShipsModel" "worth" "J") wa_1006) (fun _ h9 => h9) rfl (tyX12_ok 13 (by decide)) rfl rfl (Nat.le_of_ble_eq_true rfl) dX12_next_227 (tp_k (.inr (12, [.int o26_x0, .int o26_x1, .ref (ρ h0 2), .ref (ρ h0 3), .ref (ρ h0 4), .ref (ρ h0 5), .ref (ρ h0 6), .int o26_x7, .ref (ρ h0 8), .int o26_x9, .int w41, .int w507, .int 1, .long z590, .int o26_x14, .int o26_x15, .int o26_x16, .int o26_x17, .int o26_x18, .int o26_x19, .int o26_x20, .ref (ρ h0 21), .int o26_x22, .ref (ρ h0 23), .ref (ρ h0 24), .int o26_x25, .ref (ρ h0 26), .ref (ρ h0 27), .int o26_x28, .int o26_x29, .ref (ρ h0 30), .ref (ρ h0 31), .int o26_x32, .long o26_x33, .long o26_x34, .long o26_x35, .int o26_x36, .int o26_x37, .int o26_x38, .ref (ρ h0 39), .ref (ρ h0 40), .ref (ρ h0 41), .ref (ρ h0 42), .ref (ρ h0 43), .ref (ρ h0 44), .ref (ρ h0 45), .ref (ρ h0 46), .int o26_x47, .int o26_x48, .ref (ρ h0 49), .ref (ρ h0 50), .ref (ρ h0 51), .ref (ρ h0 52)])) hD (tp_in hG ht_h0 (by decide)) eq520 (fun f591 H locs hP hD hS g593 k592 => ?_))
                have hT := hT.up ht_h0 g593 k592 ⟨_, _, _, _, _, _, _, _, _, _, _, _, _, _, _, _, _, _, _, _, _, _, _, _, _, _, _, _, rfl, ro26_0, ro26_1, (by omega), (by omega), (by decide), ro26_5, ro26_6, ro26_7, ro26_8, ro26_9, ro26_10, ro26_11, ro26_12, ro26_13, ro26_14⟩
                have hR := hR.up ht_h0 (by decide) k592
                refine lv_aload_n hx hb dX12_next_230 rfl (lv_at hl 0 rfl) ?_
                refine lv_dup hx hb dX12_next_231 rfl ?_
                refine tpk_pos (tp_in hG ht_h0 (by decide)) g593 (fun q594 eq594 => ?_)
                refine va_get (D := (dC, dI)) (ci := 12) (v := .int w507) (C := RX12) (T := TX12) (N := 53) hx hb hts hfX12 hown hK hP q594 eq594 rfl 11 (by decide) (hts (.fieldLink RX12 258 "ColdShipsModel" "to" "I") wa_1000) (fun _ h9 => h9) rfl dX12_next_232 ?_
                refine lv_iconst (v := 1) hx hb dX12_next_235 (by decide) ?_
                refine lv_iadd hx hb dX12_next_236 ?_
                refine lv_topi (fun z595 ez595 => ?_)
                have iz595 : z595.toInt = w507.toInt + 1 := zi_add ez595 rfl rfl (by omega) (by omega)
                refine va_put (D := (dC, dI)) (ci := 12) (v := .int z595) (ty := .int) (C := RX12) (T := TX12) (N := 53) hx hb hts hfX12 tyX12 tyX12_ok nmX12 hown hK hP hD hS q594 eq594 rfl 11 (by decide) (hts (.fieldLink RX12 258 "ColdShipsModel" "to" "I") wa_1000) (fun _ h9 => h9) rfl (tyX12_ok 11 (by decide)) rfl rfl (Nat.le_of_ble_eq_true rfl) dX12_next_237 (tp_k (.inr (12, [.int o26_x0, .int o26_x1, .ref (ρ h0 2), .ref (ρ h0 3), .ref (ρ h0 4), .ref (ρ h0 5), .ref (ρ h0 6), .int o26_x7, .ref (ρ h0 8), .int o26_x9, .int w41, .int z595, .int 1, .long z590, .int o26_x14, .int o26_x15, .int o26_x16, .int o26_x17, .int o26_x18, .int o26_x19, .int o26_x20, .ref (ρ h0 21), .int o26_x22, .ref (ρ h0 23), .ref (ρ h0 24), .int o26_x25, .ref (ρ h0 26), .ref (ρ h0 27), .int o26_x28, .int o26_x29, .ref (ρ h0 30), .ref (ρ h0 31), .int o26_x32, .long o26_x33, .long o26_x34, .long o26_x35, .int o26_x36, .int o26_x37, .int o26_x38, .ref (ρ h0 39), .ref (ρ h0 40), .ref (ρ h0 41), .ref (ρ h0 42), .ref (ρ h0 43), .ref (ρ h0 44), .ref (ρ h0 45), .ref (ρ h0 46), .int o26_x47, .int o26_x48, .ref (ρ h0 49), .ref (ρ h0 50), .ref (ρ h0 51), .ref (ρ h0 52)])) hD (tp_in hG ht_h0 (by decide)) eq594 (fun f596 H locs hP hD hS g598 k597 => ?_))
                have hT := hT.up ht_h0 g598 k597 ⟨_, _, _, _, _, _, _, _, _, _, _, _, _, _, _, _, _, _, _, _, _, _, _, _, _, _, _, _, rfl, ro26_0, ro26_1, (by omega), (by omega), (by decide), ro26_5, ro26_6, ro26_7, ro26_8, ro26_9, ro26_10, ro26_11, ro26_12, ro26_13, ro26_14⟩
                have hR := hR.up ht_h0 (by decide) k597
                refine lv_goto (tgt := 149) hx hb dX12_next_240 (by decide) ?_
                have hf_599 : f591 (ρ h0 8) = .inl (κ 0, 400, .inl g35) := (k592 _ (tp_ne y6 ht_h0 (by decide))).trans hk514k
                have hf_600 : f596 (ρ h0 8) = .inl (κ 0, 400, .inl g35) := (k597 _ (tp_ne y6 ht_h0 (by decide))).trans hf_599
                exact ih518 _ _ _ _ (by rw [hn519]; omega) ⟨f596, z595, z590, rfl, hT, hR, hf_600, g598, (by omega), (by omega), (by omega), (by omega), (by omega), hP, hD, hS, lv_sub hl [0] rfl⟩
      · have ic356 : w41.toInt = o26_x9.toInt := zi_nef rfl rfl c356
        refine lv_iconst (v := 0) hx hb dX12_next_71 (by decide) ?_
        refine lv_goto (tgt := 114) hx hb dX12_next_72 (by decide) ?_
        refine va_put (D := (dC, dI)) (ci := 12) (v := .int 0) (ty := .int) (C := RX12) (T := TX12) (N := 53) hx hb hts hfX12 tyX12 tyX12_ok nmX12 hown hK hP hD hS q355 eq355 rfl 12 (by decide) (hts (.fieldLink RX12 280 "ColdShipsModel" "sort" "I") wa_995) (fun _ h9 => h9) rfl (tyX12_ok 12 (by decide)) rfl rfl (Nat.le_of_ble_eq_true rfl) dX12_next_114 (tp_k (.inr (12, [.int o26_x0, .int o26_x1, .ref (ρ h0 2), .ref (ρ h0 3), .ref (ρ h0 4), .ref (ρ h0 5), .ref (ρ h0 6), .int o26_x7, .ref (ρ h0 8), .int o26_x9, .int w41, .int w41, .int 0, .long 0, .int o26_x14, .int o26_x15, .int o26_x16, .int o26_x17, .int o26_x18, .int o26_x19, .int o26_x20, .ref (ρ h0 21), .int o26_x22, .ref (ρ h0 23), .ref (ρ h0 24), .int o26_x25, .ref (ρ h0 26), .ref (ρ h0 27), .int o26_x28, .int o26_x29, .ref (ρ h0 30), .ref (ρ h0 31), .int o26_x32, .long o26_x33, .long o26_x34, .long o26_x35, .int o26_x36, .int o26_x37, .int o26_x38, .ref (ρ h0 39), .ref (ρ h0 40), .ref (ρ h0 41), .ref (ρ h0 42), .ref (ρ h0 43), .ref (ρ h0 44), .ref (ρ h0 45), .ref (ρ h0 46), .int o26_x47, .int o26_x48, .ref (ρ h0 49), .ref (ρ h0 50), .ref (ρ h0 51), .ref (ρ h0 52)])) hD (tp_in hG ht_h0 (by decide)) eq355 (fun f601 H locs hP hD hS g603 k602 => ?_))
        have hT := hT.up ht_h0 g603 k602 ⟨_, _, _, _, _, _, _, _, _, _, _, _, _, _, _, _, _, _, _, _, _, _, _, _, _, _, _, _, rfl, ro26_0, ro26_1, (by omega), (by omega), (by decide), ro26_5, ro26_6, ro26_7, ro26_8, ro26_9, ro26_10, ro26_11, ro26_12, ro26_13, ro26_14⟩
        have hR := hR.up ht_h0 (by decide) k602
        refine lv_aload_n hx hb dX12_next_117 rfl (lv_at hl 0 rfl) ?_
        refine tpk_pos (tp_in hG ht_h0 (by decide)) g603 (fun q604 eq604 => ?_)
        refine va_get (D := (dC, dI)) (ci := 12) (v := .int 0) (C := RX12) (T := TX12) (N := 53) hx hb hts hfX12 hown hK hP q604 eq604 rfl 12 (by decide) (hts (.fieldLink RX12 280 "ColdShipsModel" "sort" "I") wa_995) (fun _ h9 => h9) rfl dX12_next_118 ?_
        refine lv_iconst (v := 3) hx hb dX12_next_121 (by decide) ?_
        refine lv_icmp_ne (tgt := 149) hx hb dX12_next_122 (by decide) (fun _ => ?_) (fun c9 => absurd c9 (by decide))
        have hf_609 : f348 (ρ h0 8) = .inl (κ 0, 400, .inl g35) := (k349 _ (tp_ne y6 ht_h0 (by decide))).trans hk45k
        have hf_610 : f352 (ρ h0 8) = .inl (κ 0, 400, .inl g35) := (k353 _ (tp_ne y6 ht_h0 (by decide))).trans hf_609
        have hf_611 : f601 (ρ h0 8) = .inl (κ 0, 400, .inl g35) := (k602 _ (tp_ne y6 ht_h0 (by decide))).trans hf_610
        refine pz_loop (fun n0 H locs ls => ∃ f614 : Nat → va_E, ∃ w605 : Int32, ∃ w606 : Int64, n0 = (400 - (w605.toInt)).toNat ∧ tp_T (mo_O κ Θ) κ τ ν ρ f614 ∧ tp_F τ [13] f f614 ∧ f614 (ρ h0 8) = .inl (κ 0, 400, .inl g35) ∧ f614 h0 = .inr (12, [.int o26_x0, .int o26_x1, .ref (ρ h0 2), .ref (ρ h0 3), .ref (ρ h0 4), .ref (ρ h0 5), .ref (ρ h0 6), .int o26_x7, .ref (ρ h0 8), .int o26_x9, .int w41, .int w605, .int 0, .long w606, .int o26_x14, .int o26_x15, .int o26_x16, .int o26_x17, .int o26_x18, .int o26_x19, .int o26_x20, .ref (ρ h0 21), .int o26_x22, .ref (ρ h0 23), .ref (ρ h0 24), .int o26_x25, .ref (ρ h0 26), .ref (ρ h0 27), .int o26_x28, .int o26_x29, .ref (ρ h0 30), .ref (ρ h0 31), .int o26_x32, .long o26_x33, .long o26_x34, .long o26_x35, .int o26_x36, .int o26_x37, .int o26_x38, .ref (ρ h0 39), .ref (ρ h0 40), .ref (ρ h0 41), .ref (ρ h0 42), .ref (ρ h0 43), .ref (ρ h0 44), .ref (ρ h0 45), .ref (ρ h0 46), .int o26_x47, .int o26_x48, .ref (ρ h0 49), .ref (ρ h0 50), .ref (ρ h0 51), .ref (ρ h0 52)]) ∧ (0 ≤ w605.toInt ∧ w605.toInt ≤ 400) ∧ (w41.toInt ≤ (w605.toInt)) ∧ ((w605.toInt) ≤ o26_x9.toInt) ∧ va_P (dC, dI) vwCl (va_pl L f614) H ∧ va_D A (va_pl L f614) ∧ va_S A s.heap H locs ∧ lv_has ls 1 [(0, .ref h0)]) ?_ _ _ _ _ ⟨f601, w41, 0, rfl, hT, hR, hf_611, g603, (by have : (0 : Int64).toInt = 0 := rfl; omega), (by have : (0 : Int64).toInt = 0 := rfl; omega), (by have : (0 : Int64).toInt = 0 := rfl; omega), hP, hD, hS, lv_sub hl [0] rfl⟩
        intro n0 H locs ls hI ih616
        refine Exists.elim hI (fun f614 hE90 => Exists.elim hE90 (fun w605 hE91 => Exists.elim hE91 (fun w606 hE92 => tn_12 hE92 (fun hn617 hT hR hk612k hk613k rw605 k607 k608 hP hD hS hl => ?_))))
        clear hE92 hE91 hE90 hI
        refine lv_aload_n hx hb dX12_next_149 rfl (lv_at hl 0 rfl) ?_
        refine tpk_pos (tp_in hG ht_h0 (by decide)) hk613k (fun q618 eq618 => ?_)
        refine va_get (D := (dC, dI)) (ci := 12) (v := .int 0) (C := RX12) (T := TX12) (N := 53) hx hb hts hfX12 hown hK hP q618 eq618 rfl 12 (by decide) (hts (.fieldLink RX12 280 "ColdShipsModel" "sort" "I") wa_995) (fun _ h9 => h9) rfl dX12_next_150 ?_
        refine lv_iconst (v := 1) hx hb dX12_next_153 (by decide) ?_
        refine lv_icmp_ne (tgt := 243) hx hb dX12_next_154 (by decide) (fun _ => ?_) (fun c9 => absurd c9 (by decide))
        refine pz_loop (fun n0 H locs ls => ∃ f625 : Nat → va_E, ∃ w619 : Int32, ∃ w620 : Int64, n0 = (400 - (w619.toInt)).toNat ∧ tp_T (mo_O κ Θ) κ τ ν ρ f625 ∧ tp_F τ [13] f f625 ∧ f625 (ρ h0 8) = .inl (κ 0, 400, .inl g35) ∧ f625 h0 = .inr (12, [.int o26_x0, .int o26_x1, .ref (ρ h0 2), .ref (ρ h0 3), .ref (ρ h0 4), .ref (ρ h0 5), .ref (ρ h0 6), .int o26_x7, .ref (ρ h0 8), .int o26_x9, .int w41, .int w619, .int 0, .long w620, .int o26_x14, .int o26_x15, .int o26_x16, .int o26_x17, .int o26_x18, .int o26_x19, .int o26_x20, .ref (ρ h0 21), .int o26_x22, .ref (ρ h0 23), .ref (ρ h0 24), .int o26_x25, .ref (ρ h0 26), .ref (ρ h0 27), .int o26_x28, .int o26_x29, .ref (ρ h0 30), .ref (ρ h0 31), .int o26_x32, .long o26_x33, .long o26_x34, .long o26_x35, .int o26_x36, .int o26_x37, .int o26_x38, .ref (ρ h0 39), .ref (ρ h0 40), .ref (ρ h0 41), .ref (ρ h0 42), .ref (ρ h0 43), .ref (ρ h0 44), .ref (ρ h0 45), .ref (ρ h0 46), .int o26_x47, .int o26_x48, .ref (ρ h0 49), .ref (ρ h0 50), .ref (ρ h0 51), .ref (ρ h0 52)]) ∧ (0 ≤ w619.toInt ∧ w619.toInt ≤ 400) ∧ (w41.toInt ≤ (w619.toInt)) ∧ ((w619.toInt) ≤ o26_x9.toInt) ∧ va_P (dC, dI) vwCl (va_pl L f625) H ∧ va_D A (va_pl L f625) ∧ va_S A s.heap H locs ∧ lv_has ls 1 [(0, .ref h0)]) ?_ _ _ _ _ ⟨f614, w605, w606, rfl, hT, hR, hk612k, hk613k, (by omega), (by omega), (by omega), hP, hD, hS, lv_sub hl [0] rfl⟩
        intro n0 H locs ls hI ih627
        refine Exists.elim hI (fun f625 hE90 => Exists.elim hE90 (fun w619 hE91 => Exists.elim hE91 (fun w620 hE92 => tn_12 hE92 (fun hn628 hT hR hk623k hk624k rw619 k621 k622 hP hD hS hl => ?_))))
        clear hE92 hE91 hE90 hI
        refine lv_aload_n hx hb dX12_next_243 rfl (lv_at hl 0 rfl) ?_
        refine tpk_pos (tp_in hG ht_h0 (by decide)) hk624k (fun q629 eq629 => ?_)
        refine va_get (D := (dC, dI)) (ci := 12) (v := .int 0) (C := RX12) (T := TX12) (N := 53) hx hb hts hfX12 hown hK hP q629 eq629 rfl 12 (by decide) (hts (.fieldLink RX12 280 "ColdShipsModel" "sort" "I") wa_995) (fun _ h9 => h9) rfl dX12_next_244 ?_
        refine lv_iconst (v := 2) hx hb dX12_next_247 (by decide) ?_
        refine lv_icmp_ne (tgt := 335) hx hb dX12_next_248 (by decide) (fun _ => ?_) (fun c9 => absurd c9 (by decide))
        have tf630 : mo_hd (tp_fld (f625 h0) 10 = w41.toInt) := tff_10 hk624k
        have tf631 : mo_hd (tp_fld (f625 h0) 11 = w619.toInt) := tff_11 hk624k
        have tf632 : mo_hd (tp_fld (f625 h0) 9 = o26_x9.toInt) := tff_9 hk624k
        have tf633 : mo_hd (tp_fld (f625 h0) 12 = 0) := tff_12 hk624k
        have tf634 : mo_hd (mo_fj (f625 h0) 13 = w620.toInt) := tff_13 hk624k
        have tf635 : mo_hd (tp_fld (f625 h0) 15 = o26_x15.toInt) := tff_15 hk624k
        have tf636 : mo_hd (tp_fld (f625 h0) 19 = o26_x19.toInt) := tff_19 hk624k
        have tf637 : mo_hd (tp_fld (f625 h0) 20 = o26_x20.toInt) := tff_20 hk624k
        have tf638 : mo_hd (tp_fld (f625 h0) 22 = o26_x22.toInt) := tff_22 hk624k
        have tf639 : mo_hd (tp_fld (f625 h0) 28 = o26_x28.toInt) := tff_28 hk624k
        have ro26_5 := tp_hu ro26_5; have ro26_6 := tp_hu ro26_6; have ro26_7 := tp_hu ro26_7; have ro26_8 := tp_hu ro26_8; have ro26_9 := tp_hu ro26_9
        exact W.vret hx hb hr (fun t ht hW => ⟨⟨f625, rfl, ⟨hT, hR, (by first | (simp only [(mo_un tf630), (mo_un tf631), (mo_un tf632), (mo_un tf633), (mo_un tf634), (mo_un tf28), (mo_un tf27), (mo_un tf635), (mo_un tf29), (mo_un tf636), (mo_un tf30), (mo_un tf637), (mo_un tf31), (mo_un tf638), (mo_un tf32), (mo_un tf639), (mo_un tf33), mo_i1, mo_l1]; exact (show (w41.toInt ≤ w619.toInt ∧ w619.toInt ≤ o26_x9.toInt ∧ (0 = 0 ∨ w41.toInt < w619.toInt) ∧ (0 = 1 → w619.toInt = w41.toInt + 1 → w620.toInt ≤ 26)) ∧ o26_x11.toInt ≤ w41.toInt ∧ o26_x9.toInt = o26_x9.toInt ∧ o26_x15.toInt = o26_x15.toInt ∧ o26_x19.toInt = o26_x19.toInt ∧ o26_x20.toInt = o26_x20.toInt ∧ o26_x22.toInt = o26_x22.toInt ∧ o26_x28.toInt = o26_x28.toInt from by first | omega | decide)) | (rw [(mo_un tf630), (mo_un tf631), (mo_un tf632), (mo_un tf633), (mo_un tf634), (mo_un tf28), (mo_un tf27), (mo_un tf635), (mo_un tf29), (mo_un tf636), (mo_un tf30), (mo_un tf637), (mo_un tf31), (mo_un tf638), (mo_un tf32), (mo_un tf639), (mo_un tf33)]; exact (show (w41.toInt ≤ w619.toInt ∧ w619.toInt ≤ o26_x9.toInt ∧ (0 = 0 ∨ w41.toInt < w619.toInt) ∧ (0 = 1 → w619.toInt = w41.toInt + 1 → w620.toInt ≤ 26)) ∧ o26_x11.toInt ≤ w41.toInt ∧ o26_x9.toInt = o26_x9.toInt ∧ o26_x15.toInt = o26_x15.toInt ∧ o26_x19.toInt = o26_x19.toInt ∧ o26_x20.toInt = o26_x20.toInt ∧ o26_x22.toInt = o26_x22.toInt ∧ o26_x28.toInt = o26_x28.toInt from by first | omega | decide)))⟩, by rw [ht]; exact hP, va_K.moved hW.alike hK, hD⟩, hS.F ht⟩) hS.2.2 dX12_next_335
    · have ic347 : z346.toInt = 32 := zi_nef rfl rfl c347
      refine lv_aload_n hx hb dX12_next_33 rfl (lv_at hl 0 rfl) ?_
      refine lv_dup hx hb dX12_next_34 rfl ?_
      refine va_get (D := (dC, dI)) (ci := 12) (v := .int w41) (C := RX12) (T := TX12) (N := 53) hx hb hts hfX12 hown hK hP q51 eq51 rfl 10 (by decide) (hts (.fieldLink RX12 267 "ColdShipsModel" "from" "I") wa_1005) (fun _ h9 => h9) rfl dX12_next_35 ?_
      refine lv_iconst (v := 1) hx hb dX12_next_38 (by decide) ?_
      refine lv_iadd hx hb dX12_next_39 ?_
      refine lv_topi (fun z640 ez640 => ?_)
      have iz640 : z640.toInt = w41.toInt + 1 := zi_add ez640 rfl rfl (by omega) (by omega)
      refine va_put (D := (dC, dI)) (ci := 12) (v := .int z640) (ty := .int) (C := RX12) (T := TX12) (N := 53) hx hb hts hfX12 tyX12 tyX12_ok nmX12 hown hK hP hD hS q51 eq51 rfl 10 (by decide) (hts (.fieldLink RX12 267 "ColdShipsModel" "from" "I") wa_1005) (fun _ h9 => h9) rfl (tyX12_ok 10 (by decide)) rfl rfl (Nat.le_of_ble_eq_true rfl) dX12_next_40 (tp_k (.inr (12, [.int o26_x0, .int o26_x1, .ref (ρ h0 2), .ref (ρ h0 3), .ref (ρ h0 4), .ref (ρ h0 5), .ref (ρ h0 6), .int o26_x7, .ref (ρ h0 8), .int o26_x9, .int z640, .int o26_x11, .int o26_x12, .long o26_x13, .int o26_x14, .int o26_x15, .int o26_x16, .int o26_x17, .int o26_x18, .int o26_x19, .int o26_x20, .ref (ρ h0 21), .int o26_x22, .ref (ρ h0 23), .ref (ρ h0 24), .int o26_x25, .ref (ρ h0 26), .ref (ρ h0 27), .int o26_x28, .int o26_x29, .ref (ρ h0 30), .ref (ρ h0 31), .int o26_x32, .long o26_x33, .long o26_x34, .long o26_x35, .int o26_x36, .int o26_x37, .int o26_x38, .ref (ρ h0 39), .ref (ρ h0 40), .ref (ρ h0 41), .ref (ρ h0 42), .ref (ρ h0 43), .ref (ρ h0 44), .ref (ρ h0 45), .ref (ρ h0 46), .int o26_x47, .int o26_x48, .ref (ρ h0 49), .ref (ρ h0 50), .ref (ρ h0 51), .ref (ρ h0 52)])) hD (tp_in hG ht_h0 (by decide)) eq51 (fun f641 H locs hP hD hS g643 k642 => ?_))
      have hT := hT.up ht_h0 g643 k642 ⟨_, _, _, _, _, _, _, _, _, _, _, _, _, _, _, _, _, _, _, _, _, _, _, _, _, _, _, _, rfl, ro26_0, ro26_1, (by omega), ro26_3, ro26_4, ro26_5, ro26_6, ro26_7, ro26_8, ro26_9, ro26_10, ro26_11, ro26_12, ro26_13, ro26_14⟩
      have hR := hR.up ht_h0 (by decide) k642
      refine lv_goto (tgt := 8) hx hb dX12_next_43 (by decide) ?_
      have hf_644 : f641 (ρ h0 8) = .inl (κ 0, 400, .inl g35) := (k642 _ (tp_ne y6 ht_h0 (by decide))).trans hk45k
      exact ih49 _ _ _ _ (by rw [hn50]; omega) ⟨f641, z640, rfl, hT, hR, hf_644, g643, (by omega), (by omega), (by omega), hP, hD, hS, lv_sub hl [0] rfl⟩
end
section
set_option maxHeartbeats 4000000 in
set_option maxRecDepth 100000 in
theorem t_X12_begin (l : Launch) (dC : Nat → ClassId) (dI : Nat → Nat → Nat) (sz : Nat) (κ : Nat → ClassId) (Θ : Nat → Option Int) (τ ν : Nat → Nat) (ρ : Nat → Nat → Nat) (L : List Nat) (f : Nat → va_E) (hG : tp_G τ ν ρ L) (hT : tp_T (mo_O κ Θ) κ τ ν ρ f) (h0 : Nat) (ht_h0 : τ h0 = 13) : Met l yX12_begin wqX12_begin ({ frames := 4, cells := 0, slots := 0, locals := 1200 }) (va_Pc [.ref h0] (pz_B dC dI (tp_K κ) (va_pl L f) sz)) (va_Qv (fun (f1 : Nat → va_E) => tp_T (mo_O κ Θ) κ τ ν ρ f1 ∧ tp_F τ [13] f f1 ∧ ((tp_fld (f1 h0) 10) ≤ (tp_fld (f1 h0) 11) ∧ (tp_fld (f1 h0) 11) ≤ (tp_fld (f1 h0) 9) ∧ ((tp_fld (f1 h0) 12) = 0 ∨ (tp_fld (f1 h0) 10) < (tp_fld (f1 h0) 11)) ∧ ((tp_fld (f1 h0) 12) = 1 → (tp_fld (f1 h0) 11) = (tp_fld (f1 h0) 10) + 1 → (mo_fj (f1 h0) 13) ≤ 26)) ∧ (tp_fld (f1 h0) 15) = 0 ∧ 0 ≤ (tp_fld (f1 h0) 10) ∧ (tp_fld (f1 h0) 9) = (tp_fld (f h0) 9)) (fun (f1 : Nat → va_E) (t : State) => pz_E dC dI (tp_K κ) (va_A (va_pl L f) sz) (va_pl L f1) t) (va_A (va_pl L f) sz)) 0 0 (va_A (va_pl L f) sz) := by
  refine Met.ofW (cc := cX12_begin) (maxL := 1) (ret := none) (by decide) rfl ?_
  intro p e s m args below meth c s₁ B hml hv
  obtain ⟨rfl, hsz, hP, hK, hD0, hN⟩ := hv
  have hx := B.exec
  have hb := B.bytes
  have hr := B.returns
  have hts := fun (w : Cond) (h : w ∈ WALL) => atoms_spec (ws := wqX12_begin) B.pre w (List.mem_cons_of_mem _ h)
  have hown : s.vm.findClass RX12 = some m.cls := findClass_of_methodNamed B.named
  have hlocks := B.notSynchronized
  subst hsz
  have hD := hD0.self (sz := s.heap.size)
  generalize hAe : va_A (va_pl L f) s.heap.size = A at hD ⊢
  have hA : ∀ q : Nat, s.heap.size ≤ q → A q := fun q h => by rw [← hAe]; exact Or.inr h
  have hS : va_S A s.heap s.heap [] := va_S.rf
  have hR : tp_F τ [13] f f := tp_F.rf
  have hl := lv_entry ([.ref h0]) (n := 1) (Nat.le_of_ble_eq_true rfl)
  rw [lg_entry_eq]
  generalize (lg_sl ([.ref h0]) ++ List.replicate (1 - (lg_sl ([.ref h0])).length) Slot.unset).toArray = ls at hl ⊢
  have hl : lv_has ls 1 [(0, .ref h0)] := hl
  refine tgk_13 hG ht_h0 (fun y1 y2 y3 y4 y5 y6 y7 y8 y9 y10 y11 y12 y13 y14 y15 y16 y17 y18 y19 y20 y21 y22 y23 y24 y25 => ?_)
  refine tpk_13 hT ht_h0 (fun o26_x0 o26_x1 o26_x7 o26_x9 o26_x10 o26_x11 o26_x12 o26_x13 o26_x14 o26_x15 o26_x16 o26_x17 o26_x18 o26_x19 o26_x20 o26_x22 o26_x25 o26_x28 o26_x29 o26_x32 o26_x33 o26_x34 o26_x35 o26_x36 o26_x37 o26_x38 o26_x47 o26_x48 hf_o26 ro26_0 ro26_1 ro26_2 ro26_3 ro26_4 ro26_5 ro26_6 ro26_7 ro26_8 ro26_9 ro26_10 ro26_11 ro26_12 ro26_13 ro26_14 => ?_)
  have tf27 : mo_hd (tp_fld (f h0) 9 = o26_x9.toInt) := tff_9 hf_o26
  refine lv_aload_n hx hb dX12_begin_0 rfl (lv_at hl 0 rfl) ?_
  refine lv_iconst (v := 0) hx hb dX12_begin_1 (by decide) ?_
  refine tpk_pos (tp_in hG ht_h0 (by decide)) hf_o26 (fun q28 eq28 => ?_)
  refine va_put (D := (dC, dI)) (ci := 12) (v := .int 0) (ty := .int) (C := RX12) (T := TX12) (N := 53) hx hb hts hfX12 tyX12 tyX12_ok nmX12 hown hK hP hD hS q28 eq28 rfl 11 (by decide) (hts (.fieldLink RX12 258 "ColdShipsModel" "to" "I") wa_1000) (fun _ h9 => h9) rfl (tyX12_ok 11 (by decide)) rfl rfl (Nat.le_of_ble_eq_true rfl) dX12_begin_2 (tp_k (.inr (12, [.int o26_x0, .int o26_x1, .ref (ρ h0 2), .ref (ρ h0 3), .ref (ρ h0 4), .ref (ρ h0 5), .ref (ρ h0 6), .int o26_x7, .ref (ρ h0 8), .int o26_x9, .int o26_x10, .int 0, .int o26_x12, .long o26_x13, .int o26_x14, .int o26_x15, .int o26_x16, .int o26_x17, .int o26_x18, .int o26_x19, .int o26_x20, .ref (ρ h0 21), .int o26_x22, .ref (ρ h0 23), .ref (ρ h0 24), .int o26_x25, .ref (ρ h0 26), .ref (ρ h0 27), .int o26_x28, .int o26_x29, .ref (ρ h0 30), .ref (ρ h0 31), .int o26_x32, .long o26_x33, .long o26_x34, .long o26_x35, .int o26_x36, .int o26_x37, .int o26_x38, .ref (ρ h0 39), .ref (ρ h0 40), .ref (ρ h0 41), .ref (ρ h0 42), .ref (ρ h0 43), .ref (ρ h0 44), .ref (ρ h0 45), .ref (ρ h0 46), .int o26_x47, .int o26_x48, .ref (ρ h0 49), .ref (ρ h0 50), .ref (ρ h0 51), .ref (ρ h0 52)])) hD (tp_in hG ht_h0 (by decide)) eq28 (fun f29 H locs hP hD hS g31 k30 => ?_))
  have hT := hT.up ht_h0 g31 k30 ⟨_, _, _, _, _, _, _, _, _, _, _, _, _, _, _, _, _, _, _, _, _, _, _, _, _, _, _, _, rfl, ro26_0, ro26_1, ro26_2, (by decide), ro26_4, ro26_5, ro26_6, ro26_7, ro26_8, ro26_9, ro26_10, ro26_11, ro26_12, ro26_13, ro26_14⟩
  have hR := hR.up ht_h0 (by decide) k30
  refine lv_aload_n hx hb dX12_begin_5 rfl (lv_at hl 0 rfl) ?_
  refine lv_iconst (v := 0) hx hb dX12_begin_6 (by decide) ?_
  refine tpk_pos (tp_in hG ht_h0 (by decide)) g31 (fun q32 eq32 => ?_)
  refine va_put (D := (dC, dI)) (ci := 12) (v := .int 0) (ty := .boolean) (C := RX12) (T := TX12) (N := 53) hx hb hts hfX12 tyX12 tyX12_ok nmX12 hown hK hP hD hS q32 eq32 rfl 15 (by decide) (hts (.fieldLink RX12 261 "ColdShipsModel" "bad" "Z") wa_994) (fun _ h9 => h9) rfl (tyX12_ok 15 (by decide)) rfl rfl (Nat.le_of_ble_eq_true rfl) dX12_begin_7 (tp_k (.inr (12, [.int o26_x0, .int o26_x1, .ref (ρ h0 2), .ref (ρ h0 3), .ref (ρ h0 4), .ref (ρ h0 5), .ref (ρ h0 6), .int o26_x7, .ref (ρ h0 8), .int o26_x9, .int o26_x10, .int 0, .int o26_x12, .long o26_x13, .int o26_x14, .int 0, .int o26_x16, .int o26_x17, .int o26_x18, .int o26_x19, .int o26_x20, .ref (ρ h0 21), .int o26_x22, .ref (ρ h0 23), .ref (ρ h0 24), .int o26_x25, .ref (ρ h0 26), .ref (ρ h0 27), .int o26_x28, .int o26_x29, .ref (ρ h0 30), .ref (ρ h0 31), .int o26_x32, .long o26_x33, .long o26_x34, .long o26_x35, .int o26_x36, .int o26_x37, .int o26_x38, .ref (ρ h0 39), .ref (ρ h0 40), .ref (ρ h0 41), .ref (ρ h0 42), .ref (ρ h0 43), .ref (ρ h0 44), .ref (ρ h0 45), .ref (ρ h0 46), .int o26_x47, .int o26_x48, .ref (ρ h0 49), .ref (ρ h0 50), .ref (ρ h0 51), .ref (ρ h0 52)])) hD (tp_in hG ht_h0 (by decide)) eq32 (fun f33 H locs hP hD hS g35 k34 => ?_))
  have hT := hT.up ht_h0 g35 k34 ⟨_, _, _, _, _, _, _, _, _, _, _, _, _, _, _, _, _, _, _, _, _, _, _, _, _, _, _, _, rfl, ro26_0, ro26_1, ro26_2, (by decide), ro26_4, (by decide), ro26_6, ro26_7, ro26_8, ro26_9, ro26_10, ro26_11, ro26_12, ro26_13, ro26_14⟩
  have hR := hR.up ht_h0 (by decide) k34
  refine lv_aload_n hx hb dX12_begin_10 rfl (lv_at hl 0 rfl) ?_
  refine lv_iconst (v := (-1)) hx hb dX12_begin_11 (by decide) ?_
  refine tpk_pos (tp_in hG ht_h0 (by decide)) g35 (fun q36 eq36 => ?_)
  refine va_put (D := (dC, dI)) (ci := 12) (v := .int (-1)) (ty := .int) (C := RX12) (T := TX12) (N := 53) hx hb hts hfX12 tyX12 tyX12_ok nmX12 hown hK hP hD hS q36 eq36 rfl 14 (by decide) (hts (.fieldLink RX12 30 "ColdShipsModel" "fault" "I") wa_155) (fun _ h9 => h9) rfl (tyX12_ok 14 (by decide)) rfl rfl (Nat.le_of_ble_eq_true rfl) dX12_begin_12 (tp_k (.inr (12, [.int o26_x0, .int o26_x1, .ref (ρ h0 2), .ref (ρ h0 3), .ref (ρ h0 4), .ref (ρ h0 5), .ref (ρ h0 6), .int o26_x7, .ref (ρ h0 8), .int o26_x9, .int o26_x10, .int 0, .int o26_x12, .long o26_x13, .int (-1), .int 0, .int o26_x16, .int o26_x17, .int o26_x18, .int o26_x19, .int o26_x20, .ref (ρ h0 21), .int o26_x22, .ref (ρ h0 23), .ref (ρ h0 24), .int o26_x25, .ref (ρ h0 26), .ref (ρ h0 27), .int o26_x28, .int o26_x29, .ref (ρ h0 30), .ref (ρ h0 31), .int o26_x32, .long o26_x33, .long o26_x34, .long o26_x35, .int o26_x36, .int o26_x37, .int o26_x38, .ref (ρ h0 39), .ref (ρ h0 40), .ref (ρ h0 41), .ref (ρ h0 42), .ref (ρ h0 43), .ref (ρ h0 44), .ref (ρ h0 45), .ref (ρ h0 46), .int o26_x47, .int o26_x48, .ref (ρ h0 49), .ref (ρ h0 50), .ref (ρ h0 51), .ref (ρ h0 52)])) hD (tp_in hG ht_h0 (by decide)) eq36 (fun f37 H locs hP hD hS g39 k38 => ?_))
  have hT := hT.up ht_h0 g39 k38 ⟨_, _, _, _, _, _, _, _, _, _, _, _, _, _, _, _, _, _, _, _, _, _, _, _, _, _, _, _, rfl, ro26_0, ro26_1, ro26_2, (by decide), ro26_4, (by decide), ro26_6, ro26_7, ro26_8, ro26_9, ro26_10, ro26_11, ro26_12, ro26_13, ro26_14⟩
  have hR := hR.up ht_h0 (by decide) k38
  refine lv_aload_n hx hb dX12_begin_15 rfl (lv_at hl 0 rfl) ?_
  have tf40 : mo_hd (tp_fld (f37 h0) 11 = 0) := tff_11 g39
  have tf41 : mo_hd (tp_fld (f37 h0) 9 = o26_x9.toInt) := tff_9 g39
  have tf42 : mo_hd (tp_fld (f37 h0) 15 = 0) := tff_15 g39
  have tf43 : mo_hd (tp_fld (f37 h0) 19 = o26_x19.toInt) := tff_19 g39
  have tf44 : mo_hd (tp_fld (f37 h0) 20 = o26_x20.toInt) := tff_20 g39
  have tf45 : mo_hd (tp_fld (f37 h0) 22 = o26_x22.toInt) := tff_22 g39
  have tf46 : mo_hd (tp_fld (f37 h0) 28 = o26_x28.toInt) := tff_28 g39
  refine tpk_pos (tp_in hG ht_h0 (by decide)) g39 (fun q47 eq47 => ?_)
  have hFc := tp_fr hD hS hA
  have ro26_1 := tp_hu ro26_1; have ro26_14 := tp_hu ro26_14
  refine va_callv (va_runV (As := []) (rest := []) ⟨hx, hb, hml, hown, hts⟩ (t_X12_next l dC dI _ κ Θ τ ν ρ L f37 hG hT h0 ht_h0 (by first | (simp only [(mo_un tf40), (mo_un tf41), mo_i1, mo_l1]; exact (show 0 ≤ o26_x9.toInt from by first | omega | decide)) | (rw [(mo_un tf40), (mo_un tf41)]; exact (show 0 ≤ o26_x9.toInt from by first | omega | decide)))) (cwV 0 hts gX12_begin_X12_next rfl rfl rfl ⟨rfl, pd_X12_next⟩ ⟨Nat.le_of_ble_eq_true rfl, Nat.le_of_ble_eq_true rfl⟩) ⟨pz_blind, va_recv hK hP (ci := 12) (q0 := q47) rfl eq47, pz_pre hP hK hD hN⟩ rfl rfl hl.1 rfl (lv_room (Nat.le_of_ble_eq_true rfl)) dX12_begin_16 ⟨Nat.le_of_ble_eq_true rfl, Nat.le_of_ble_eq_true rfl⟩) hS (fun q _ h => hFc q h) hFc (fun f50 t H1 locs ht hvm hw49 hB hz1 hk1 hS => ?_)
  refine tn_3 hw49 (fun hT hF51 hw49p => ?_); clear hw49
  have hR := hR.then hF51 (by decide)
  have hP := hB.1; rw [ht] at hP; have hD := tp_ad f50 hD; clear hB hFc hz1 hk1; subst ht; generalize t.heap = H at hP hS ⊢
  refine tpk_13 hT ht_h0 (fun o52_x0 o52_x1 o52_x7 o52_x9 o52_x10 o52_x11 o52_x12 o52_x13 o52_x14 o52_x15 o52_x16 o52_x17 o52_x18 o52_x19 o52_x20 o52_x22 o52_x25 o52_x28 o52_x29 o52_x32 o52_x33 o52_x34 o52_x35 o52_x36 o52_x37 o52_x38 o52_x47 o52_x48 hf_o52 ro52_0 ro52_1 ro52_2 ro52_3 ro52_4 ro52_5 ro52_6 ro52_7 ro52_8 ro52_9 ro52_10 ro52_11 ro52_12 ro52_13 ro52_14 => ?_)
  have tf53 : mo_hd (tp_fld (f50 h0) 10 = o52_x10.toInt) := tff_10 hf_o52
  have tf54 : mo_hd (tp_fld (f50 h0) 11 = o52_x11.toInt) := tff_11 hf_o52
  have tf55 : mo_hd (tp_fld (f50 h0) 9 = o52_x9.toInt) := tff_9 hf_o52
  have tf56 : mo_hd (tp_fld (f50 h0) 12 = o52_x12.toInt) := tff_12 hf_o52
  have tf57 : mo_hd (mo_fj (f50 h0) 13 = o52_x13.toInt) := tff_13 hf_o52
  have tf58 : mo_hd (tp_fld (f50 h0) 15 = o52_x15.toInt) := tff_15 hf_o52
  have tf59 : mo_hd (tp_fld (f50 h0) 19 = o52_x19.toInt) := tff_19 hf_o52
  have tf60 : mo_hd (tp_fld (f50 h0) 20 = o52_x20.toInt) := tff_20 hf_o52
  have tf61 : mo_hd (tp_fld (f50 h0) 22 = o52_x22.toInt) := tff_22 hf_o52
  have tf62 : mo_hd (tp_fld (f50 h0) 28 = o52_x28.toInt) := tff_28 hf_o52
  have ro52_2 := tp_hu ro52_2; have ro52_3 := tp_hu ro52_3; have ro52_1 := tp_hu ro52_1; have ro52_14 := tp_hu ro52_14; have ro52_4 := tp_hu ro52_4; have ro52_5 := tp_hu ro52_5; have ro52_6 := tp_hu ro52_6; have ro26_6 := tp_hu ro26_6; have ro52_7 := tp_hu ro52_7; have ro26_7 := tp_hu ro26_7; have ro52_8 := tp_hu ro52_8; have ro26_8 := tp_hu ro26_8; have ro52_9 := tp_hu ro52_9; have ro26_9 := tp_hu ro26_9
  have tk63 : mo_hd ((o52_x10.toInt ≤ o52_x11.toInt ∧ o52_x11.toInt ≤ o52_x9.toInt ∧ (o52_x12.toInt = 0 ∨ o52_x10.toInt < o52_x11.toInt) ∧ (o52_x12.toInt = 1 → o52_x11.toInt = o52_x10.toInt + 1 → o52_x13.toInt ≤ 26)) ∧ 0 ≤ o52_x10.toInt ∧ o52_x9.toInt = o26_x9.toInt ∧ o52_x15.toInt = 0 ∧ o52_x19.toInt = o26_x19.toInt ∧ o52_x20.toInt = o26_x20.toInt ∧ o52_x22.toInt = o26_x22.toInt ∧ o52_x28.toInt = o26_x28.toInt) := by have q9 := hw49p; first | (simp only [(mo_un tf53), (mo_un tf54), (mo_un tf55), (mo_un tf56), (mo_un tf57), (mo_un tf40), (mo_un tf41), (mo_un tf58), (mo_un tf42), (mo_un tf59), (mo_un tf43), (mo_un tf60), (mo_un tf44), (mo_un tf61), (mo_un tf45), (mo_un tf62), (mo_un tf46), mo_i1, mo_l1] at q9; exact q9) | (rw [(mo_un tf53), (mo_un tf54), (mo_un tf55), (mo_un tf56), (mo_un tf57), (mo_un tf40), (mo_un tf41), (mo_un tf58), (mo_un tf42), (mo_un tf59), (mo_un tf43), (mo_un tf60), (mo_un tf44), (mo_un tf61), (mo_un tf45), (mo_un tf62), (mo_un tf46)] at q9; exact q9)
  have e9 := (Int32.toInt_inj.mp tk63.2.2.1).symm; subst e9
  have e9 := (Int32.toInt_inj.mp tk63.2.2.2.2.1).symm; subst e9
  have e9 := (Int32.toInt_inj.mp tk63.2.2.2.2.2.1).symm; subst e9
  have e9 := (Int32.toInt_inj.mp tk63.2.2.2.2.2.2.1).symm; subst e9
  have e9 := (Int32.toInt_inj.mp tk63.2.2.2.2.2.2.2).symm; subst e9
  have tk63l : (o52_x10.toInt ≤ o52_x11.toInt) ∧ (o52_x11.toInt ≤ o26_x9.toInt) ∧ (0 ≤ o52_x10.toInt) ∧ (o52_x15.toInt = 0) := ⟨tk63.1.1, tk63.1.2.1, tk63.2.1, tk63.2.2.2.1⟩
  clear hw49p
  exact W.vret hx hb hr (fun t ht hW => ⟨⟨f50, rfl, ⟨hT, hR, (by first | (simp only [(mo_un tf53), (mo_un tf54), (mo_un tf55), (mo_un tf56), (mo_un tf57), (mo_un tf58), (mo_un tf27), mo_i1, mo_l1]; exact (show (o52_x10.toInt ≤ o52_x11.toInt ∧ o52_x11.toInt ≤ o26_x9.toInt ∧ (o52_x12.toInt = 0 ∨ o52_x10.toInt < o52_x11.toInt) ∧ (o52_x12.toInt = 1 → o52_x11.toInt = o52_x10.toInt + 1 → o52_x13.toInt ≤ 26)) ∧ o52_x15.toInt = 0 ∧ 0 ≤ o52_x10.toInt ∧ o26_x9.toInt = o26_x9.toInt from by exact ⟨⟨(by (first | omega | (have u0 := mo_un tk63; omega))), (by (first | omega | (have u0 := mo_un tk63; omega))), tk63.1.2.2.1, tk63.1.2.2.2⟩, (by (first | omega | (have u0 := mo_un tk63; omega))), (by (first | omega | (have u0 := mo_un tk63; omega))), (by (first | omega | (have u0 := mo_un tk63; omega)))⟩)) | (rw [(mo_un tf53), (mo_un tf54), (mo_un tf55), (mo_un tf56), (mo_un tf57), (mo_un tf58), (mo_un tf27)]; exact (show (o52_x10.toInt ≤ o52_x11.toInt ∧ o52_x11.toInt ≤ o26_x9.toInt ∧ (o52_x12.toInt = 0 ∨ o52_x10.toInt < o52_x11.toInt) ∧ (o52_x12.toInt = 1 → o52_x11.toInt = o52_x10.toInt + 1 → o52_x13.toInt ≤ 26)) ∧ o52_x15.toInt = 0 ∧ 0 ≤ o52_x10.toInt ∧ o26_x9.toInt = o26_x9.toInt from by exact ⟨⟨(by (first | omega | (have u0 := mo_un tk63; omega))), (by (first | omega | (have u0 := mo_un tk63; omega))), tk63.1.2.2.1, tk63.1.2.2.2⟩, (by (first | omega | (have u0 := mo_un tk63; omega))), (by (first | omega | (have u0 := mo_un tk63; omega))), (by (first | omega | (have u0 := mo_un tk63; omega)))⟩)))⟩, by rw [ht]; exact hP, va_K.moved hW.alike hK, hD⟩, hS.F ht⟩) hS.2.2 dX12_begin_19
set_option maxHeartbeats 4000000 in
set_option maxRecDepth 100000 in
theorem t_X12_isWord (l : Launch) (dC : Nat → ClassId) (dI : Nat → Nat → Nat) (sz : Nat) (κ : Nat → ClassId) (Θ : Nat → Option Int) (τ ν : Nat → Nat) (ρ : Nat → Nat → Nat) (L : List Nat) (f : Nat → va_E) (hG : tp_G τ ν ρ L) (hT : tp_T (mo_O κ Θ) κ τ ν ρ f) (h0 : Nat) (v : Int64) (ht_h0 : τ h0 = 13) : Met l yX12_isWord wqX12_isWord ({ frames := 2, cells := 0, slots := 0, locals := 400 }) (va_Pc [.ref h0, .long v] (pz_B dC dI (tp_K κ) (va_pl L f) sz)) (vp_Si (fun r => (0 ≤ r.toInt ∧ r.toInt ≤ 1) ∧ (r.toInt ≠ 0 → (tp_fld (f h0) 12) = 1 ∧ (mo_fj (f h0) 13) = v.toInt))) 0 0 (fun _ => False) := by
  refine Met.ofW (cc := cX12_isWord) (maxL := 3) (ret := some .boolean) (by decide) rfl ?_
  intro p e s m args below meth c s₁ B hml hv
  obtain ⟨rfl, hsz, hP, hK, hD0, hN⟩ := hv
  have hx := B.exec
  have hb := B.bytes
  have hr := B.returns
  have hts := fun (w : Cond) (h : w ∈ WALL) => atoms_spec (ws := wqX12_isWord) B.pre w (List.mem_cons_of_mem _ h)
  have hown : s.vm.findClass RX12 = some m.cls := findClass_of_methodNamed B.named
  have hlocks := B.notSynchronized
  subst hsz
  have hD := hD0
  have hS : va_S (fun _ => True) s.heap s.heap [] := va_S.rf
  have hl := lv_entry ([.ref h0, .long v]) (n := 3) (Nat.le_of_ble_eq_true rfl)
  rw [lg_entry_eq]
  generalize (lg_sl ([.ref h0, .long v]) ++ List.replicate (3 - (lg_sl ([.ref h0, .long v])).length) Slot.unset).toArray = ls at hl ⊢
  have hl : lv_has ls 3 [(0, .ref h0), (1, .long v)] := hl
  refine tgk_13 hG ht_h0 (fun y1 y2 y3 y4 y5 y6 y7 y8 y9 y10 y11 y12 y13 y14 y15 y16 y17 y18 y19 y20 y21 y22 y23 y24 y25 => ?_)
  refine tpk_13 hT ht_h0 (fun o26_x0 o26_x1 o26_x7 o26_x9 o26_x10 o26_x11 o26_x12 o26_x13 o26_x14 o26_x15 o26_x16 o26_x17 o26_x18 o26_x19 o26_x20 o26_x22 o26_x25 o26_x28 o26_x29 o26_x32 o26_x33 o26_x34 o26_x35 o26_x36 o26_x37 o26_x38 o26_x47 o26_x48 hf_o26 ro26_0 ro26_1 ro26_2 ro26_3 ro26_4 ro26_5 ro26_6 ro26_7 ro26_8 ro26_9 ro26_10 ro26_11 ro26_12 ro26_13 ro26_14 => ?_)
  have tf27 : mo_hd (tp_fld (f h0) 12 = o26_x12.toInt) := tff_12 hf_o26
  have tf28 : mo_hd (mo_fj (f h0) 13 = o26_x13.toInt) := tff_13 hf_o26
  refine lv_aload_n hx hb dX12_isWord_0 rfl (lv_at hl 0 rfl) ?_
  refine tpk_pos (tp_in hG ht_h0 (by decide)) hf_o26 (fun q29 eq29 => ?_)
  have ro26_4 := tp_hu ro26_4
  refine va_get (D := (dC, dI)) (ci := 12) (v := .int o26_x12) (C := RX12) (T := TX12) (N := 53) hx hb hts hfX12 hown hK hP q29 eq29 rfl 12 (by decide) (hts (.fieldLink RX12 280 "ColdShipsModel" "sort" "I") wa_995) (fun _ h9 => h9) rfl dX12_isWord_1 ?_
  refine lv_iconst (v := 1) hx hb dX12_isWord_4 (by decide) ?_
  refine lv_icmp_ne (tgt := 21) hx hb dX12_isWord_5 (by decide) (fun c30 => ?_) (fun c30 => ?_)
  · have ic30 : o26_x12.toInt ≠ 1 := zi_ne rfl rfl c30
    refine lv_iconst (v := 0) hx hb dX12_isWord_21 (by decide) ?_
    exact W.zret (v := 0) hx hb hr rfl (fun t ht hW => ⟨0, rfl, ⟨(by first | decide | omega), (by first | (simp only [(mo_un tf27), (mo_un tf28), mo_i1, mo_l1]; exact (show ((0 : Int32).toInt ≠ 0 → o26_x12.toInt = 1 ∧ o26_x13.toInt = v.toInt) from by have q8 : (0 : Int32).toInt = 0 := rfl; first | omega | decide)) | (rw [(mo_un tf27), (mo_un tf28)]; exact (show ((0 : Int32).toInt ≠ 0 → o26_x12.toInt = 1 ∧ o26_x13.toInt = v.toInt) from by have q8 : (0 : Int32).toInt = 0 := rfl; first | omega | decide)))⟩, ht⟩) (fun _ h => by cases h) dX12_isWord_22
  · have ic30 : o26_x12.toInt = 1 := zi_nef rfl rfl c30
    refine lv_aload_n hx hb dX12_isWord_8 rfl (lv_at hl 0 rfl) ?_
    refine va_get (D := (dC, dI)) (ci := 12) (v := .long o26_x13) (C := RX12) (T := TX12) (N := 53) hx hb hts hfX12 hown hK hP q29 eq29 rfl 13 (by decide) (hts (.fieldLink RX12 270 "ColdShipsModel" "worth" "J") wa_1006) (fun _ h9 => h9) rfl dX12_isWord_9 ?_
    refine lv_lload_n hx hb dX12_isWord_12 rfl (lv_at hl 1 rfl) ?_
    refine W.lcmp hx hb dX12_isWord_13 ?_
    refine lv_if_ne (tgt := 21) hx hb dX12_isWord_14 (by decide) (fun c31 => ?_) (fun c31 => ?_)
    · have ic31 : o26_x13.toInt ≠ v.toInt := zl_ne rfl rfl c31
      refine lv_iconst (v := 0) hx hb dX12_isWord_21 (by decide) ?_
      exact W.zret (v := 0) hx hb hr rfl (fun t ht hW => ⟨0, rfl, ⟨(by first | decide | omega), (by first | (simp only [(mo_un tf27), (mo_un tf28), mo_i1, mo_l1]; exact (show ((0 : Int32).toInt ≠ 0 → o26_x12.toInt = 1 ∧ o26_x13.toInt = v.toInt) from by have q8 : (0 : Int32).toInt = 0 := rfl; first | omega | decide)) | (rw [(mo_un tf27), (mo_un tf28)]; exact (show ((0 : Int32).toInt ≠ 0 → o26_x12.toInt = 1 ∧ o26_x13.toInt = v.toInt) from by have q8 : (0 : Int32).toInt = 0 := rfl; first | omega | decide)))⟩, ht⟩) (fun _ h => by cases h) dX12_isWord_22
    · have ic31 : o26_x13.toInt = v.toInt := zl_nef rfl rfl c31
      refine lv_iconst (v := 1) hx hb dX12_isWord_17 (by decide) ?_
      refine lv_goto (tgt := 22) hx hb dX12_isWord_18 (by decide) ?_
      exact W.zret (v := 1) hx hb hr rfl (fun t ht hW => ⟨1, rfl, ⟨(by first | decide | omega), (by first | (simp only [(mo_un tf27), (mo_un tf28), mo_i1, mo_l1]; exact (show ((1 : Int32).toInt ≠ 0 → o26_x12.toInt = 1 ∧ o26_x13.toInt = v.toInt) from by have q8 : (1 : Int32).toInt = 1 := rfl; first | omega | decide)) | (rw [(mo_un tf27), (mo_un tf28)]; exact (show ((1 : Int32).toInt ≠ 0 → o26_x12.toInt = 1 ∧ o26_x13.toInt = v.toInt) from by have q8 : (1 : Int32).toInt = 1 := rfl; first | omega | decide)))⟩, ht⟩) (fun _ h => by cases h) dX12_isWord_22
set_option maxHeartbeats 4000000 in
set_option maxRecDepth 100000 in
theorem t_X12_isSign (l : Launch) (dC : Nat → ClassId) (dI : Nat → Nat → Nat) (sz : Nat) (κ : Nat → ClassId) (Θ : Nat → Option Int) (τ ν : Nat → Nat) (ρ : Nat → Nat → Nat) (L : List Nat) (f : Nat → va_E) (hG : tp_G τ ν ρ L) (hT : tp_T (mo_O κ Θ) κ τ ν ρ f) (h0 : Nat) (v : Int32) (ht_h0 : τ h0 = 13) : Met l yX12_isSign wqX12_isSign ({ frames := 2, cells := 0, slots := 0, locals := 400 }) (va_Pc [.ref h0, .int v] (pz_B dC dI (tp_K κ) (va_pl L f) sz)) (vp_Si (fun r => (0 ≤ r.toInt ∧ r.toInt ≤ 1) ∧ (r.toInt ≠ 0 → (tp_fld (f h0) 12) = 3 ∧ (mo_fj (f h0) 13) = v.toInt))) 0 0 (fun _ => False) := by
  refine Met.ofW (cc := cX12_isSign) (maxL := 2) (ret := some .boolean) (by decide) rfl ?_
  intro p e s m args below meth c s₁ B hml hv
  obtain ⟨rfl, hsz, hP, hK, hD0, hN⟩ := hv
  have hx := B.exec
  have hb := B.bytes
  have hr := B.returns
  have hts := fun (w : Cond) (h : w ∈ WALL) => atoms_spec (ws := wqX12_isSign) B.pre w (List.mem_cons_of_mem _ h)
  have hown : s.vm.findClass RX12 = some m.cls := findClass_of_methodNamed B.named
  have hlocks := B.notSynchronized
  subst hsz
  have hD := hD0
  have hS : va_S (fun _ => True) s.heap s.heap [] := va_S.rf
  have hl := lv_entry ([.ref h0, .int v]) (n := 2) (Nat.le_of_ble_eq_true rfl)
  rw [lg_entry_eq]
  generalize (lg_sl ([.ref h0, .int v]) ++ List.replicate (2 - (lg_sl ([.ref h0, .int v])).length) Slot.unset).toArray = ls at hl ⊢
  have hl : lv_has ls 2 [(0, .ref h0), (1, .int v)] := hl
  refine tgk_13 hG ht_h0 (fun y1 y2 y3 y4 y5 y6 y7 y8 y9 y10 y11 y12 y13 y14 y15 y16 y17 y18 y19 y20 y21 y22 y23 y24 y25 => ?_)
  refine tpk_13 hT ht_h0 (fun o26_x0 o26_x1 o26_x7 o26_x9 o26_x10 o26_x11 o26_x12 o26_x13 o26_x14 o26_x15 o26_x16 o26_x17 o26_x18 o26_x19 o26_x20 o26_x22 o26_x25 o26_x28 o26_x29 o26_x32 o26_x33 o26_x34 o26_x35 o26_x36 o26_x37 o26_x38 o26_x47 o26_x48 hf_o26 ro26_0 ro26_1 ro26_2 ro26_3 ro26_4 ro26_5 ro26_6 ro26_7 ro26_8 ro26_9 ro26_10 ro26_11 ro26_12 ro26_13 ro26_14 => ?_)
  have tf27 : mo_hd (tp_fld (f h0) 12 = o26_x12.toInt) := tff_12 hf_o26
  have tf28 : mo_hd (mo_fj (f h0) 13 = o26_x13.toInt) := tff_13 hf_o26
  refine lv_aload_n hx hb dX12_isSign_0 rfl (lv_at hl 0 rfl) ?_
  refine tpk_pos (tp_in hG ht_h0 (by decide)) hf_o26 (fun q29 eq29 => ?_)
  have ro26_4 := tp_hu ro26_4
  refine va_get (D := (dC, dI)) (ci := 12) (v := .int o26_x12) (C := RX12) (T := TX12) (N := 53) hx hb hts hfX12 hown hK hP q29 eq29 rfl 12 (by decide) (hts (.fieldLink RX12 280 "ColdShipsModel" "sort" "I") wa_995) (fun _ h9 => h9) rfl dX12_isSign_1 ?_
  refine lv_iconst (v := 3) hx hb dX12_isSign_4 (by decide) ?_
  refine lv_icmp_ne (tgt := 22) hx hb dX12_isSign_5 (by decide) (fun c30 => ?_) (fun c30 => ?_)
  · have ic30 : o26_x12.toInt ≠ 3 := zi_ne rfl rfl c30
    replace ic30 : o26_x12.toInt ≤ 2 := by omega
    refine lv_iconst (v := 0) hx hb dX12_isSign_22 (by decide) ?_
    exact W.zret (v := 0) hx hb hr rfl (fun t ht hW => ⟨0, rfl, ⟨(by first | decide | omega), (by first | (simp only [(mo_un tf27), (mo_un tf28), mo_i1, mo_l1]; exact (show ((0 : Int32).toInt ≠ 0 → o26_x12.toInt = 3 ∧ o26_x13.toInt = v.toInt) from by have q8 : (0 : Int32).toInt = 0 := rfl; first | omega | decide)) | (rw [(mo_un tf27), (mo_un tf28)]; exact (show ((0 : Int32).toInt ≠ 0 → o26_x12.toInt = 3 ∧ o26_x13.toInt = v.toInt) from by have q8 : (0 : Int32).toInt = 0 := rfl; first | omega | decide)))⟩, ht⟩) (fun _ h => by cases h) dX12_isSign_23
  · have ic30 : o26_x12.toInt = 3 := zi_nef rfl rfl c30
    refine lv_aload_n hx hb dX12_isSign_8 rfl (lv_at hl 0 rfl) ?_
    refine va_get (D := (dC, dI)) (ci := 12) (v := .long o26_x13) (C := RX12) (T := TX12) (N := 53) hx hb hts hfX12 hown hK hP q29 eq29 rfl 13 (by decide) (hts (.fieldLink RX12 270 "ColdShipsModel" "worth" "J") wa_1006) (fun _ h9 => h9) rfl dX12_isSign_9 ?_
    refine lv_iload_n hx hb dX12_isSign_12 rfl (lv_at hl 1 rfl) ?_
    refine lv_i2l hx hb dX12_isSign_13 rfl ?_
    refine W.lcmp hx hb dX12_isSign_14 ?_
    refine lv_if_ne (tgt := 22) hx hb dX12_isSign_15 (by decide) (fun c31 => ?_) (fun c31 => ?_)
    · have ic31 : o26_x13.toInt ≠ v.toInt := zl_ne rfl (Int32.toInt_toInt64 v) c31
      refine lv_iconst (v := 0) hx hb dX12_isSign_22 (by decide) ?_
      exact W.zret (v := 0) hx hb hr rfl (fun t ht hW => ⟨0, rfl, ⟨(by first | decide | omega), (by first | (simp only [(mo_un tf27), (mo_un tf28), mo_i1, mo_l1]; exact (show ((0 : Int32).toInt ≠ 0 → o26_x12.toInt = 3 ∧ o26_x13.toInt = v.toInt) from by have q8 : (0 : Int32).toInt = 0 := rfl; first | omega | decide)) | (rw [(mo_un tf27), (mo_un tf28)]; exact (show ((0 : Int32).toInt ≠ 0 → o26_x12.toInt = 3 ∧ o26_x13.toInt = v.toInt) from by have q8 : (0 : Int32).toInt = 0 := rfl; first | omega | decide)))⟩, ht⟩) (fun _ h => by cases h) dX12_isSign_23
    · have ic31 : o26_x13.toInt = v.toInt := zl_nef rfl (Int32.toInt_toInt64 v) c31
      refine lv_iconst (v := 1) hx hb dX12_isSign_18 (by decide) ?_
      refine lv_goto (tgt := 23) hx hb dX12_isSign_19 (by decide) ?_
      exact W.zret (v := 1) hx hb hr rfl (fun t ht hW => ⟨1, rfl, ⟨(by first | decide | omega), (by first | (simp only [(mo_un tf27), (mo_un tf28), mo_i1, mo_l1]; exact (show ((1 : Int32).toInt ≠ 0 → o26_x12.toInt = 3 ∧ o26_x13.toInt = v.toInt) from by have q8 : (1 : Int32).toInt = 1 := rfl; first | omega | decide)) | (rw [(mo_un tf27), (mo_un tf28)]; exact (show ((1 : Int32).toInt ≠ 0 → o26_x12.toInt = 3 ∧ o26_x13.toInt = v.toInt) from by have q8 : (1 : Int32).toInt = 1 := rfl; first | omega | decide)))⟩, ht⟩) (fun _ h => by cases h) dX12_isSign_23
set_option maxHeartbeats 4000000 in
set_option maxRecDepth 100000 in
theorem t_X12_must (l : Launch) (dC : Nat → ClassId) (dI : Nat → Nat → Nat) (sz : Nat) (κ : Nat → ClassId) (Θ : Nat → Option Int) (τ ν : Nat → Nat) (ρ : Nat → Nat → Nat) (L : List Nat) (f : Nat → va_E) (hG : tp_G τ ν ρ L) (hT : tp_T (mo_O κ Θ) κ τ ν ρ f) (h0 : Nat) (v : Int32) (ht_h0 : τ h0 = 13) (hr_v : 0 ≤ v.toInt ∧ v.toInt ≤ 1) (h1 : ((tp_fld (f h0) 10) ≤ (tp_fld (f h0) 11) ∧ (tp_fld (f h0) 11) ≤ (tp_fld (f h0) 9) ∧ ((tp_fld (f h0) 12) = 0 ∨ (tp_fld (f h0) 10) < (tp_fld (f h0) 11)) ∧ ((tp_fld (f h0) 12) = 1 → (tp_fld (f h0) 11) = (tp_fld (f h0) 10) + 1 → (mo_fj (f h0) 13) ≤ 26))) : Met l yX12_must wqX12_must ({ frames := 4, cells := 0, slots := 0, locals := 1200 }) (va_Pc [.ref h0, .int v] (pz_B dC dI (tp_K κ) (va_pl L f) sz)) (va_Qv (fun (f1 : Nat → va_E) => tp_T (mo_O κ Θ) κ τ ν ρ f1 ∧ tp_F τ [13] f f1 ∧ ((tp_fld (f1 h0) 10) ≤ (tp_fld (f1 h0) 11) ∧ (tp_fld (f1 h0) 11) ≤ (tp_fld (f1 h0) 9) ∧ ((tp_fld (f1 h0) 12) = 0 ∨ (tp_fld (f1 h0) 10) < (tp_fld (f1 h0) 11)) ∧ ((tp_fld (f1 h0) 12) = 1 → (tp_fld (f1 h0) 11) = (tp_fld (f1 h0) 10) + 1 → (mo_fj (f1 h0) 13) ≤ 26)) ∧ ((tp_fld (f1 h0) 15) = 0 → (tp_fld (f h0) 15) = 0 ∧ (tp_fld (f h0) 11) ≤ (tp_fld (f1 h0) 10) ∧ v.toInt ≠ 0) ∧ ((tp_fld (f1 h0) 15) ≠ 0 → (tp_fld (f1 h0) 10) = (tp_fld (f h0) 10)) ∧ (tp_fld (f h0) 10) ≤ (tp_fld (f1 h0) 10) ∧ (tp_fld (f h0) 15) ≤ (tp_fld (f1 h0) 15) ∧ (tp_fld (f1 h0) 9) = (tp_fld (f h0) 9) ∧ (tp_fld (f1 h0) 19) = (tp_fld (f h0) 19) ∧ (tp_fld (f1 h0) 20) = (tp_fld (f h0) 20) ∧ (tp_fld (f1 h0) 22) = (tp_fld (f h0) 22) ∧ (tp_fld (f1 h0) 28) = (tp_fld (f h0) 28)) (fun (f1 : Nat → va_E) (t : State) => pz_E dC dI (tp_K κ) (va_A (va_pl L f) sz) (va_pl L f1) t) (va_A (va_pl L f) sz)) 0 0 (va_A (va_pl L f) sz) := by
  refine Met.ofW (cc := cX12_must) (maxL := 2) (ret := none) (by decide) rfl ?_
  intro p e s m args below meth c s₁ B hml hv
  obtain ⟨rfl, hsz, hP, hK, hD0, hN⟩ := hv
  have hx := B.exec
  have hb := B.bytes
  have hr := B.returns
  have hts := fun (w : Cond) (h : w ∈ WALL) => atoms_spec (ws := wqX12_must) B.pre w (List.mem_cons_of_mem _ h)
  have hown : s.vm.findClass RX12 = some m.cls := findClass_of_methodNamed B.named
  have hlocks := B.notSynchronized
  subst hsz
  have hD := hD0.self (sz := s.heap.size)
  generalize hAe : va_A (va_pl L f) s.heap.size = A at hD ⊢
  have hA : ∀ q : Nat, s.heap.size ≤ q → A q := fun q h => by rw [← hAe]; exact Or.inr h
  have hS : va_S A s.heap s.heap [] := va_S.rf
  have hR : tp_F τ [13] f f := tp_F.rf
  have hl := lv_entry ([.ref h0, .int v]) (n := 2) (Nat.le_of_ble_eq_true rfl)
  rw [lg_entry_eq]
  generalize (lg_sl ([.ref h0, .int v]) ++ List.replicate (2 - (lg_sl ([.ref h0, .int v])).length) Slot.unset).toArray = ls at hl ⊢
  have hl : lv_has ls 2 [(0, .ref h0), (1, .int v)] := hl
  refine tgk_13 hG ht_h0 (fun y1 y2 y3 y4 y5 y6 y7 y8 y9 y10 y11 y12 y13 y14 y15 y16 y17 y18 y19 y20 y21 y22 y23 y24 y25 => ?_)
  refine tpk_13 hT ht_h0 (fun o26_x0 o26_x1 o26_x7 o26_x9 o26_x10 o26_x11 o26_x12 o26_x13 o26_x14 o26_x15 o26_x16 o26_x17 o26_x18 o26_x19 o26_x20 o26_x22 o26_x25 o26_x28 o26_x29 o26_x32 o26_x33 o26_x34 o26_x35 o26_x36 o26_x37 o26_x38 o26_x47 o26_x48 hf_o26 ro26_0 ro26_1 ro26_2 ro26_3 ro26_4 ro26_5 ro26_6 ro26_7 ro26_8 ro26_9 ro26_10 ro26_11 ro26_12 ro26_13 ro26_14 => ?_)
  have tf27 : mo_hd (tp_fld (f h0) 9 = o26_x9.toInt) := tff_9 hf_o26
  have tf28 : mo_hd (tp_fld (f h0) 10 = o26_x10.toInt) := tff_10 hf_o26
  have tf29 : mo_hd (tp_fld (f h0) 11 = o26_x11.toInt) := tff_11 hf_o26
  have tf30 : mo_hd (tp_fld (f h0) 12 = o26_x12.toInt) := tff_12 hf_o26
  have tf31 : mo_hd (tp_fld (f h0) 15 = o26_x15.toInt) := tff_15 hf_o26
  have tf32 : mo_hd (tp_fld (f h0) 19 = o26_x19.toInt) := tff_19 hf_o26
  have tf33 : mo_hd (tp_fld (f h0) 20 = o26_x20.toInt) := tff_20 hf_o26
  have tf34 : mo_hd (tp_fld (f h0) 22 = o26_x22.toInt) := tff_22 hf_o26
  have tf35 : mo_hd (tp_fld (f h0) 28 = o26_x28.toInt) := tff_28 hf_o26
  have tf36 : mo_hd (mo_fj (f h0) 13 = o26_x13.toInt) := tff_13 hf_o26
  have ro26_2 := tp_hu ro26_2; have ro26_3 := tp_hu ro26_3; have ro26_1 := tp_hu ro26_1; have ro26_14 := tp_hu ro26_14; have ro26_4 := tp_hu ro26_4
  replace h1 : mo_hd ((o26_x10.toInt ≤ o26_x11.toInt ∧ o26_x11.toInt ≤ o26_x9.toInt ∧ (o26_x12.toInt = 0 ∨ o26_x10.toInt < o26_x11.toInt) ∧ (o26_x12.toInt = 1 → o26_x11.toInt = o26_x10.toInt + 1 → o26_x13.toInt ≤ 26))) := by have q9 := h1; first | (simp only [(mo_un tf28), (mo_un tf29), (mo_un tf27), (mo_un tf30), (mo_un tf36), mo_i1, mo_l1] at q9; exact q9) | (rw [(mo_un tf28), (mo_un tf29), (mo_un tf27), (mo_un tf30), (mo_un tf36)] at q9; exact q9)
  have h1l : (o26_x10.toInt ≤ o26_x11.toInt) ∧ (o26_x11.toInt ≤ o26_x9.toInt) := ⟨h1.1, h1.2.1⟩
  refine lv_aload_n hx hb dX12_must_0 rfl (lv_at hl 0 rfl) ?_
  refine tpk_pos (tp_in hG ht_h0 (by decide)) hf_o26 (fun q37 eq37 => ?_)
  have ro26_5 := tp_hu ro26_5
  refine va_get (D := (dC, dI)) (ci := 12) (v := .int o26_x15) (C := RX12) (T := TX12) (N := 53) hx hb hts hfX12 hown hK hP q37 eq37 rfl 15 (by decide) (hts (.fieldLink RX12 261 "ColdShipsModel" "bad" "Z") wa_994) (fun _ h9 => h9) rfl dX12_must_1 ?_
  refine lv_if_ne (tgt := 24) hx hb dX12_must_4 (by decide) (fun c38 => ?_) (fun c38 => ?_)
  · have ic38 : o26_x15.toInt ≠ 0 := zi_ne rfl rfl c38
    replace ic38 : 1 ≤ o26_x15.toInt := by (first | omega | (have u0 := mo_un h1; omega))
    refine lv_aload_n hx hb dX12_must_24 rfl (lv_at hl 0 rfl) ?_
    refine va_get (D := (dC, dI)) (ci := 12) (v := .int o26_x15) (C := RX12) (T := TX12) (N := 53) hx hb hts hfX12 hown hK hP q37 eq37 rfl 15 (by decide) (hts (.fieldLink RX12 261 "ColdShipsModel" "bad" "Z") wa_994) (fun _ h9 => h9) rfl dX12_must_25 ?_
    refine lv_if_ne (tgt := 35) hx hb dX12_must_28 (by decide) (fun c39 => ?_) (fun c39 => ?_)
    · have ic39 : o26_x15.toInt ≠ 0 := zi_ne rfl rfl c39
      have ro26_6 := tp_hu ro26_6; have ro26_7 := tp_hu ro26_7; have ro26_8 := tp_hu ro26_8; have ro26_9 := tp_hu ro26_9
      exact W.vret hx hb hr (fun t ht hW => ⟨⟨f, rfl, ⟨hT, hR, (by first | (simp only [(mo_un tf28), (mo_un tf29), (mo_un tf27), (mo_un tf30), (mo_un tf36), (mo_un tf31), (mo_un tf32), (mo_un tf33), (mo_un tf34), (mo_un tf35), mo_i1, mo_l1]; exact (show (o26_x10.toInt ≤ o26_x11.toInt ∧ o26_x11.toInt ≤ o26_x9.toInt ∧ (o26_x12.toInt = 0 ∨ o26_x10.toInt < o26_x11.toInt) ∧ (o26_x12.toInt = 1 → o26_x11.toInt = o26_x10.toInt + 1 → o26_x13.toInt ≤ 26)) ∧ (o26_x15.toInt = 0 → o26_x15.toInt = 0 ∧ o26_x11.toInt ≤ o26_x10.toInt ∧ v.toInt ≠ 0) ∧ (o26_x15.toInt ≠ 0 → o26_x10.toInt = o26_x10.toInt) ∧ o26_x10.toInt ≤ o26_x10.toInt ∧ o26_x15.toInt ≤ o26_x15.toInt ∧ o26_x9.toInt = o26_x9.toInt ∧ o26_x19.toInt = o26_x19.toInt ∧ o26_x20.toInt = o26_x20.toInt ∧ o26_x22.toInt = o26_x22.toInt ∧ o26_x28.toInt = o26_x28.toInt from by exact ⟨⟨(by (first | omega | (have u0 := mo_un h1; omega))), (by (first | omega | (have u0 := mo_un h1; omega))), h1.2.2.1, h1.2.2.2⟩, (by (first | omega | (have u0 := mo_un h1; omega))), (by (first | omega | (have u0 := mo_un h1; omega))), (by (first | omega | (have u0 := mo_un h1; omega))), (by (first | omega | (have u0 := mo_un h1; omega))), (by (first | omega | (have u0 := mo_un h1; omega))), (by (first | omega | (have u0 := mo_un h1; omega))), (by (first | omega | (have u0 := mo_un h1; omega))), (by (first | omega | (have u0 := mo_un h1; omega))), (by (first | omega | (have u0 := mo_un h1; omega)))⟩)) | (rw [(mo_un tf28), (mo_un tf29), (mo_un tf27), (mo_un tf30), (mo_un tf36), (mo_un tf31), (mo_un tf32), (mo_un tf33), (mo_un tf34), (mo_un tf35)]; exact (show (o26_x10.toInt ≤ o26_x11.toInt ∧ o26_x11.toInt ≤ o26_x9.toInt ∧ (o26_x12.toInt = 0 ∨ o26_x10.toInt < o26_x11.toInt) ∧ (o26_x12.toInt = 1 → o26_x11.toInt = o26_x10.toInt + 1 → o26_x13.toInt ≤ 26)) ∧ (o26_x15.toInt = 0 → o26_x15.toInt = 0 ∧ o26_x11.toInt ≤ o26_x10.toInt ∧ v.toInt ≠ 0) ∧ (o26_x15.toInt ≠ 0 → o26_x10.toInt = o26_x10.toInt) ∧ o26_x10.toInt ≤ o26_x10.toInt ∧ o26_x15.toInt ≤ o26_x15.toInt ∧ o26_x9.toInt = o26_x9.toInt ∧ o26_x19.toInt = o26_x19.toInt ∧ o26_x20.toInt = o26_x20.toInt ∧ o26_x22.toInt = o26_x22.toInt ∧ o26_x28.toInt = o26_x28.toInt from by exact ⟨⟨(by (first | omega | (have u0 := mo_un h1; omega))), (by (first | omega | (have u0 := mo_un h1; omega))), h1.2.2.1, h1.2.2.2⟩, (by (first | omega | (have u0 := mo_un h1; omega))), (by (first | omega | (have u0 := mo_un h1; omega))), (by (first | omega | (have u0 := mo_un h1; omega))), (by (first | omega | (have u0 := mo_un h1; omega))), (by (first | omega | (have u0 := mo_un h1; omega))), (by (first | omega | (have u0 := mo_un h1; omega))), (by (first | omega | (have u0 := mo_un h1; omega))), (by (first | omega | (have u0 := mo_un h1; omega))), (by (first | omega | (have u0 := mo_un h1; omega)))⟩)))⟩, by rw [ht]; exact hP, va_K.moved hW.alike hK, hD⟩, hS.F ht⟩) hS.2.2 dX12_must_35
    · have ic39 : o26_x15.toInt = 0 := zi_nef rfl rfl c39
      exfalso; (first | omega | (have u0 := mo_un h1; omega))
  · have ic38 : o26_x15.toInt = 0 := zi_nef rfl rfl c38
    refine lv_iload_n hx hb dX12_must_7 rfl (lv_at hl 1 rfl) ?_
    refine lv_if_ne (tgt := 24) hx hb dX12_must_8 (by decide) (fun c40 => ?_) (fun c40 => ?_)
    · have ic40 : v.toInt ≠ 0 := zi_ne rfl rfl c40
      replace ic40 : 1 ≤ v.toInt := by (first | omega | (have u0 := mo_un h1; omega))
      refine lv_aload_n hx hb dX12_must_24 rfl (lv_at hl 0 rfl) ?_
      refine va_get (D := (dC, dI)) (ci := 12) (v := .int o26_x15) (C := RX12) (T := TX12) (N := 53) hx hb hts hfX12 hown hK hP q37 eq37 rfl 15 (by decide) (hts (.fieldLink RX12 261 "ColdShipsModel" "bad" "Z") wa_994) (fun _ h9 => h9) rfl dX12_must_25 ?_
      refine lv_if_ne (tgt := 35) hx hb dX12_must_28 (by decide) (fun c41 => ?_) (fun c41 => ?_)
      · have ic41 : o26_x15.toInt ≠ 0 := zi_ne rfl rfl c41
        exfalso; (first | omega | (have u0 := mo_un h1; omega))
      · have ic41 : o26_x15.toInt = 0 := zi_nef rfl rfl c41
        refine lv_aload_n hx hb dX12_must_31 rfl (lv_at hl 0 rfl) ?_
        have hFc := tp_fr hD hS hA
        refine va_callv (va_runV (As := []) (rest := []) ⟨hx, hb, hml, hown, hts⟩ (t_X12_next l dC dI _ κ Θ τ ν ρ L f hG hT h0 ht_h0 (by first | (simp only [(mo_un tf29), (mo_un tf27), mo_i1, mo_l1]; exact (show o26_x11.toInt ≤ o26_x9.toInt from by first | (first | omega | (have u0 := mo_un h1; omega)) | decide)) | (rw [(mo_un tf29), (mo_un tf27)]; exact (show o26_x11.toInt ≤ o26_x9.toInt from by first | (first | omega | (have u0 := mo_un h1; omega)) | decide)))) (cwV 0 hts gX12_must_X12_next rfl rfl rfl ⟨rfl, pd_X12_next⟩ ⟨Nat.le_of_ble_eq_true rfl, Nat.le_of_ble_eq_true rfl⟩) ⟨pz_blind, va_recv hK hP (ci := 12) (q0 := q37) rfl eq37, pz_pre hP hK hD hN⟩ rfl rfl hl.1 rfl (lv_room (Nat.le_of_ble_eq_true rfl)) dX12_must_32 ⟨Nat.le_of_ble_eq_true rfl, Nat.le_of_ble_eq_true rfl⟩) hS (fun q _ h => hFc q h) hFc (fun f44 t H1 locs ht hvm hw43 hB hz1 hk1 hS => ?_)
        refine tn_3 hw43 (fun hT hF45 hw43p => ?_); clear hw43
        have hR := hR.then hF45 (by decide)
        have hP := hB.1; rw [ht] at hP; have hD := tp_ad f44 hD; clear hB hFc hz1 hk1; subst ht; generalize t.heap = H at hP hS ⊢
        refine tpk_13 hT ht_h0 (fun o46_x0 o46_x1 o46_x7 o46_x9 o46_x10 o46_x11 o46_x12 o46_x13 o46_x14 o46_x15 o46_x16 o46_x17 o46_x18 o46_x19 o46_x20 o46_x22 o46_x25 o46_x28 o46_x29 o46_x32 o46_x33 o46_x34 o46_x35 o46_x36 o46_x37 o46_x38 o46_x47 o46_x48 hf_o46 ro46_0 ro46_1 ro46_2 ro46_3 ro46_4 ro46_5 ro46_6 ro46_7 ro46_8 ro46_9 ro46_10 ro46_11 ro46_12 ro46_13 ro46_14 => ?_)
        have tf47 : mo_hd (tp_fld (f44 h0) 10 = o46_x10.toInt) := tff_10 hf_o46
        have tf48 : mo_hd (tp_fld (f44 h0) 11 = o46_x11.toInt) := tff_11 hf_o46
        have tf49 : mo_hd (tp_fld (f44 h0) 9 = o46_x9.toInt) := tff_9 hf_o46
        have tf50 : mo_hd (tp_fld (f44 h0) 12 = o46_x12.toInt) := tff_12 hf_o46
        have tf51 : mo_hd (mo_fj (f44 h0) 13 = o46_x13.toInt) := tff_13 hf_o46
        have tf52 : mo_hd (tp_fld (f44 h0) 15 = o46_x15.toInt) := tff_15 hf_o46
        have tf53 : mo_hd (tp_fld (f44 h0) 19 = o46_x19.toInt) := tff_19 hf_o46
        have tf54 : mo_hd (tp_fld (f44 h0) 20 = o46_x20.toInt) := tff_20 hf_o46
        have tf55 : mo_hd (tp_fld (f44 h0) 22 = o46_x22.toInt) := tff_22 hf_o46
        have tf56 : mo_hd (tp_fld (f44 h0) 28 = o46_x28.toInt) := tff_28 hf_o46
        have ro46_2 := tp_hu ro46_2; have ro46_3 := tp_hu ro46_3; have ro46_1 := tp_hu ro46_1; have ro46_14 := tp_hu ro46_14; have ro46_4 := tp_hu ro46_4; have ro46_5 := tp_hu ro46_5; have ro46_6 := tp_hu ro46_6; have ro26_6 := tp_hu ro26_6; have ro46_7 := tp_hu ro46_7; have ro26_7 := tp_hu ro26_7; have ro46_8 := tp_hu ro46_8; have ro26_8 := tp_hu ro26_8; have ro46_9 := tp_hu ro46_9; have ro26_9 := tp_hu ro26_9
        have tk57 : mo_hd ((o46_x10.toInt ≤ o46_x11.toInt ∧ o46_x11.toInt ≤ o46_x9.toInt ∧ (o46_x12.toInt = 0 ∨ o46_x10.toInt < o46_x11.toInt) ∧ (o46_x12.toInt = 1 → o46_x11.toInt = o46_x10.toInt + 1 → o46_x13.toInt ≤ 26)) ∧ o26_x11.toInt ≤ o46_x10.toInt ∧ o46_x9.toInt = o26_x9.toInt ∧ o46_x15.toInt = o26_x15.toInt ∧ o46_x19.toInt = o26_x19.toInt ∧ o46_x20.toInt = o26_x20.toInt ∧ o46_x22.toInt = o26_x22.toInt ∧ o46_x28.toInt = o26_x28.toInt) := by have q9 := hw43p; first | (simp only [(mo_un tf47), (mo_un tf48), (mo_un tf49), (mo_un tf50), (mo_un tf51), (mo_un tf29), (mo_un tf27), (mo_un tf52), (mo_un tf31), (mo_un tf53), (mo_un tf32), (mo_un tf54), (mo_un tf33), (mo_un tf55), (mo_un tf34), (mo_un tf56), (mo_un tf35), mo_i1, mo_l1] at q9; exact q9) | (rw [(mo_un tf47), (mo_un tf48), (mo_un tf49), (mo_un tf50), (mo_un tf51), (mo_un tf29), (mo_un tf27), (mo_un tf52), (mo_un tf31), (mo_un tf53), (mo_un tf32), (mo_un tf54), (mo_un tf33), (mo_un tf55), (mo_un tf34), (mo_un tf56), (mo_un tf35)] at q9; exact q9)
        have e9 := (Int32.toInt_inj.mp tk57.2.2.1).symm; subst e9
        have e9 := (Int32.toInt_inj.mp tk57.2.2.2.1).symm; subst e9
        have e9 := (Int32.toInt_inj.mp tk57.2.2.2.2.1).symm; subst e9
        have e9 := (Int32.toInt_inj.mp tk57.2.2.2.2.2.1).symm; subst e9
        have e9 := (Int32.toInt_inj.mp tk57.2.2.2.2.2.2.1).symm; subst e9
        have e9 := (Int32.toInt_inj.mp tk57.2.2.2.2.2.2.2).symm; subst e9
        have tk57l : (o46_x10.toInt ≤ o46_x11.toInt) ∧ (o46_x11.toInt ≤ o26_x9.toInt) ∧ (o26_x11.toInt ≤ o46_x10.toInt) := ⟨tk57.1.1, tk57.1.2.1, tk57.2.1⟩
        clear hw43p
        exact W.vret hx hb hr (fun t ht hW => ⟨⟨f44, rfl, ⟨hT, hR, (by first | (simp only [(mo_un tf47), (mo_un tf48), (mo_un tf49), (mo_un tf50), (mo_un tf51), (mo_un tf52), (mo_un tf31), (mo_un tf29), (mo_un tf28), (mo_un tf27), (mo_un tf53), (mo_un tf32), (mo_un tf54), (mo_un tf33), (mo_un tf55), (mo_un tf34), (mo_un tf56), (mo_un tf35), mo_i1, mo_l1]; exact (show (o46_x10.toInt ≤ o46_x11.toInt ∧ o46_x11.toInt ≤ o26_x9.toInt ∧ (o46_x12.toInt = 0 ∨ o46_x10.toInt < o46_x11.toInt) ∧ (o46_x12.toInt = 1 → o46_x11.toInt = o46_x10.toInt + 1 → o46_x13.toInt ≤ 26)) ∧ (o26_x15.toInt = 0 → o26_x15.toInt = 0 ∧ o26_x11.toInt ≤ o46_x10.toInt ∧ v.toInt ≠ 0) ∧ (o26_x15.toInt ≠ 0 → o46_x10.toInt = o26_x10.toInt) ∧ o26_x10.toInt ≤ o46_x10.toInt ∧ o26_x15.toInt ≤ o26_x15.toInt ∧ o26_x9.toInt = o26_x9.toInt ∧ o26_x19.toInt = o26_x19.toInt ∧ o26_x20.toInt = o26_x20.toInt ∧ o26_x22.toInt = o26_x22.toInt ∧ o26_x28.toInt = o26_x28.toInt from by exact ⟨⟨(by (first | omega | (have u1 := mo_un tk57; first | omega | (have u0 := mo_un h1; omega)))), (by (first | omega | (have u1 := mo_un tk57; first | omega | (have u0 := mo_un h1; omega)))), tk57.1.2.2.1, tk57.1.2.2.2⟩, (by (first | omega | (have u1 := mo_un tk57; first | omega | (have u0 := mo_un h1; omega)))), (by (first | omega | (have u1 := mo_un tk57; first | omega | (have u0 := mo_un h1; omega)))), (by (first | omega | (have u1 := mo_un tk57; first | omega | (have u0 := mo_un h1; omega)))), (by (first | omega | (have u1 := mo_un tk57; first | omega | (have u0 := mo_un h1; omega)))), (by (first | omega | (have u1 := mo_un tk57; first | omega | (have u0 := mo_un h1; omega)))), (by (first | omega | (have u1 := mo_un tk57; first | omega | (have u0 := mo_un h1; omega)))), (by (first | omega | (have u1 := mo_un tk57; first | omega | (have u0 := mo_un h1; omega)))), (by (first | omega | (have u1 := mo_un tk57; first | omega | (have u0 := mo_un h1; omega)))), (by (first | omega | (have u1 := mo_un tk57; first | omega | (have u0 := mo_un h1; omega))))⟩)) | (rw [(mo_un tf47), (mo_un tf48), (mo_un tf49), (mo_un tf50), (mo_un tf51), (mo_un tf52), (mo_un tf31), (mo_un tf29), (mo_un tf28), (mo_un tf27), (mo_un tf53), (mo_un tf32), (mo_un tf54), (mo_un tf33), (mo_un tf55), (mo_un tf34), (mo_un tf56), (mo_un tf35)]; exact (show (o46_x10.toInt ≤ o46_x11.toInt ∧ o46_x11.toInt ≤ o26_x9.toInt ∧ (o46_x12.toInt = 0 ∨ o46_x10.toInt < o46_x11.toInt) ∧ (o46_x12.toInt = 1 → o46_x11.toInt = o46_x10.toInt + 1 → o46_x13.toInt ≤ 26)) ∧ (o26_x15.toInt = 0 → o26_x15.toInt = 0 ∧ o26_x11.toInt ≤ o46_x10.toInt ∧ v.toInt ≠ 0) ∧ (o26_x15.toInt ≠ 0 → o46_x10.toInt = o26_x10.toInt) ∧ o26_x10.toInt ≤ o46_x10.toInt ∧ o26_x15.toInt ≤ o26_x15.toInt ∧ o26_x9.toInt = o26_x9.toInt ∧ o26_x19.toInt = o26_x19.toInt ∧ o26_x20.toInt = o26_x20.toInt ∧ o26_x22.toInt = o26_x22.toInt ∧ o26_x28.toInt = o26_x28.toInt from by exact ⟨⟨(by (first | omega | (have u1 := mo_un tk57; first | omega | (have u0 := mo_un h1; omega)))), (by (first | omega | (have u1 := mo_un tk57; first | omega | (have u0 := mo_un h1; omega)))), tk57.1.2.2.1, tk57.1.2.2.2⟩, (by (first | omega | (have u1 := mo_un tk57; first | omega | (have u0 := mo_un h1; omega)))), (by (first | omega | (have u1 := mo_un tk57; first | omega | (have u0 := mo_un h1; omega)))), (by (first | omega | (have u1 := mo_un tk57; first | omega | (have u0 := mo_un h1; omega)))), (by (first | omega | (have u1 := mo_un tk57; first | omega | (have u0 := mo_un h1; omega)))), (by (first | omega | (have u1 := mo_un tk57; first | omega | (have u0 := mo_un h1; omega)))), (by (first | omega | (have u1 := mo_un tk57; first | omega | (have u0 := mo_un h1; omega)))), (by (first | omega | (have u1 := mo_un tk57; first | omega | (have u0 := mo_un h1; omega)))), (by (first | omega | (have u1 := mo_un tk57; first | omega | (have u0 := mo_un h1; omega)))), (by (first | omega | (have u1 := mo_un tk57; first | omega | (have u0 := mo_un h1; omega))))⟩)))⟩, by rw [ht]; exact hP, va_K.moved hW.alike hK, hD⟩, hS.F ht⟩) hS.2.2 dX12_must_35
    · have ic40 : v.toInt = 0 := zi_nef rfl rfl c40
      refine lv_aload_n hx hb dX12_must_11 rfl (lv_at hl 0 rfl) ?_
      refine lv_iconst (v := 1) hx hb dX12_must_12 (by decide) ?_
      refine va_put (D := (dC, dI)) (ci := 12) (v := .int 1) (ty := .boolean) (C := RX12) (T := TX12) (N := 53) hx hb hts hfX12 tyX12 tyX12_ok nmX12 hown hK hP hD hS q37 eq37 rfl 15 (by decide) (hts (.fieldLink RX12 261 "ColdShipsModel" "bad" "Z") wa_994) (fun _ h9 => h9) rfl (tyX12_ok 15 (by decide)) rfl rfl (Nat.le_of_ble_eq_true rfl) dX12_must_13 (tp_k (.inr (12, [.int o26_x0, .int o26_x1, .ref (ρ h0 2), .ref (ρ h0 3), .ref (ρ h0 4), .ref (ρ h0 5), .ref (ρ h0 6), .int o26_x7, .ref (ρ h0 8), .int o26_x9, .int o26_x10, .int o26_x11, .int o26_x12, .long o26_x13, .int o26_x14, .int 1, .int o26_x16, .int o26_x17, .int o26_x18, .int o26_x19, .int o26_x20, .ref (ρ h0 21), .int o26_x22, .ref (ρ h0 23), .ref (ρ h0 24), .int o26_x25, .ref (ρ h0 26), .ref (ρ h0 27), .int o26_x28, .int o26_x29, .ref (ρ h0 30), .ref (ρ h0 31), .int o26_x32, .long o26_x33, .long o26_x34, .long o26_x35, .int o26_x36, .int o26_x37, .int o26_x38, .ref (ρ h0 39), .ref (ρ h0 40), .ref (ρ h0 41), .ref (ρ h0 42), .ref (ρ h0 43), .ref (ρ h0 44), .ref (ρ h0 45), .ref (ρ h0 46), .int o26_x47, .int o26_x48, .ref (ρ h0 49), .ref (ρ h0 50), .ref (ρ h0 51), .ref (ρ h0 52)])) hD (tp_in hG ht_h0 (by decide)) eq37 (fun f58 H locs hP hD hS g60 k59 => ?_))
      have hT := hT.up ht_h0 g60 k59 ⟨_, _, _, _, _, _, _, _, _, _, _, _, _, _, _, _, _, _, _, _, _, _, _, _, _, _, _, _, rfl, ro26_0, ro26_1, ro26_2, ro26_3, ro26_4, (by decide), ro26_6, ro26_7, ro26_8, ro26_9, ro26_10, ro26_11, ro26_12, ro26_13, ro26_14⟩
      have hR := hR.up ht_h0 (by decide) k59
      refine lv_aload_n hx hb dX12_must_16 rfl (lv_at hl 0 rfl) ?_
      refine lv_aload_n hx hb dX12_must_17 rfl (lv_at hl 0 rfl) ?_
      refine tpk_pos (tp_in hG ht_h0 (by decide)) g60 (fun q61 eq61 => ?_)
      refine va_get (D := (dC, dI)) (ci := 12) (v := .int o26_x10) (C := RX12) (T := TX12) (N := 53) hx hb hts hfX12 hown hK hP q61 eq61 rfl 10 (by decide) (hts (.fieldLink RX12 267 "ColdShipsModel" "from" "I") wa_1005) (fun _ h9 => h9) rfl dX12_must_18 ?_
      refine va_put (D := (dC, dI)) (ci := 12) (v := .int o26_x10) (ty := .int) (C := RX12) (T := TX12) (N := 53) hx hb hts hfX12 tyX12 tyX12_ok nmX12 hown hK hP hD hS q61 eq61 rfl 14 (by decide) (hts (.fieldLink RX12 30 "ColdShipsModel" "fault" "I") wa_155) (fun _ h9 => h9) rfl (tyX12_ok 14 (by decide)) rfl rfl (Nat.le_of_ble_eq_true rfl) dX12_must_21 (tp_k (.inr (12, [.int o26_x0, .int o26_x1, .ref (ρ h0 2), .ref (ρ h0 3), .ref (ρ h0 4), .ref (ρ h0 5), .ref (ρ h0 6), .int o26_x7, .ref (ρ h0 8), .int o26_x9, .int o26_x10, .int o26_x11, .int o26_x12, .long o26_x13, .int o26_x10, .int 1, .int o26_x16, .int o26_x17, .int o26_x18, .int o26_x19, .int o26_x20, .ref (ρ h0 21), .int o26_x22, .ref (ρ h0 23), .ref (ρ h0 24), .int o26_x25, .ref (ρ h0 26), .ref (ρ h0 27), .int o26_x28, .int o26_x29, .ref (ρ h0 30), .ref (ρ h0 31), .int o26_x32, .long o26_x33, .long o26_x34, .long o26_x35, .int o26_x36, .int o26_x37, .int o26_x38, .ref (ρ h0 39), .ref (ρ h0 40), .ref (ρ h0 41), .ref (ρ h0 42), .ref (ρ h0 43), .ref (ρ h0 44), .ref (ρ h0 45), .ref (ρ h0 46), .int o26_x47, .int o26_x48, .ref (ρ h0 49), .ref (ρ h0 50), .ref (ρ h0 51), .ref (ρ h0 52)])) hD (tp_in hG ht_h0 (by decide)) eq61 (fun f62 H locs hP hD hS g64 k63 => ?_))
      have hT := hT.up ht_h0 g64 k63 ⟨_, _, _, _, _, _, _, _, _, _, _, _, _, _, _, _, _, _, _, _, _, _, _, _, _, _, _, _, rfl, ro26_0, ro26_1, ro26_2, ro26_3, ro26_4, (by decide), ro26_6, ro26_7, ro26_8, ro26_9, ro26_10, ro26_11, ro26_12, ro26_13, ro26_14⟩
      have hR := hR.up ht_h0 (by decide) k63
      refine lv_aload_n hx hb dX12_must_24 rfl (lv_at hl 0 rfl) ?_
      refine tpk_pos (tp_in hG ht_h0 (by decide)) g64 (fun q65 eq65 => ?_)
      refine va_get (D := (dC, dI)) (ci := 12) (v := .int 1) (C := RX12) (T := TX12) (N := 53) hx hb hts hfX12 hown hK hP q65 eq65 rfl 15 (by decide) (hts (.fieldLink RX12 261 "ColdShipsModel" "bad" "Z") wa_994) (fun _ h9 => h9) rfl dX12_must_25 ?_
      refine lv_if_ne (tgt := 35) hx hb dX12_must_28 (by decide) (fun _ => ?_) (fun c9 => absurd c9 (by decide))
      have tf66 : mo_hd (tp_fld (f62 h0) 10 = o26_x10.toInt) := tff_10 g64
      have tf67 : mo_hd (tp_fld (f62 h0) 11 = o26_x11.toInt) := tff_11 g64
      have tf68 : mo_hd (tp_fld (f62 h0) 9 = o26_x9.toInt) := tff_9 g64
      have tf69 : mo_hd (tp_fld (f62 h0) 12 = o26_x12.toInt) := tff_12 g64
      have tf70 : mo_hd (mo_fj (f62 h0) 13 = o26_x13.toInt) := tff_13 g64
      have tf71 : mo_hd (tp_fld (f62 h0) 15 = 1) := tff_15 g64
      have tf72 : mo_hd (tp_fld (f62 h0) 19 = o26_x19.toInt) := tff_19 g64
      have tf73 : mo_hd (tp_fld (f62 h0) 20 = o26_x20.toInt) := tff_20 g64
      have tf74 : mo_hd (tp_fld (f62 h0) 22 = o26_x22.toInt) := tff_22 g64
      have tf75 : mo_hd (tp_fld (f62 h0) 28 = o26_x28.toInt) := tff_28 g64
      have ro26_6 := tp_hu ro26_6; have ro26_7 := tp_hu ro26_7; have ro26_8 := tp_hu ro26_8; have ro26_9 := tp_hu ro26_9
      exact W.vret hx hb hr (fun t ht hW => ⟨⟨f62, rfl, ⟨hT, hR, (by first | (simp only [(mo_un tf66), (mo_un tf67), (mo_un tf68), (mo_un tf69), (mo_un tf70), (mo_un tf71), (mo_un tf31), (mo_un tf29), (mo_un tf28), (mo_un tf27), (mo_un tf72), (mo_un tf32), (mo_un tf73), (mo_un tf33), (mo_un tf74), (mo_un tf34), (mo_un tf75), (mo_un tf35), mo_i1, mo_l1]; exact (show (o26_x10.toInt ≤ o26_x11.toInt ∧ o26_x11.toInt ≤ o26_x9.toInt ∧ (o26_x12.toInt = 0 ∨ o26_x10.toInt < o26_x11.toInt) ∧ (o26_x12.toInt = 1 → o26_x11.toInt = o26_x10.toInt + 1 → o26_x13.toInt ≤ 26)) ∧ (1 = 0 → o26_x15.toInt = 0 ∧ o26_x11.toInt ≤ o26_x10.toInt ∧ v.toInt ≠ 0) ∧ (1 ≠ 0 → o26_x10.toInt = o26_x10.toInt) ∧ o26_x10.toInt ≤ o26_x10.toInt ∧ o26_x15.toInt ≤ 1 ∧ o26_x9.toInt = o26_x9.toInt ∧ o26_x19.toInt = o26_x19.toInt ∧ o26_x20.toInt = o26_x20.toInt ∧ o26_x22.toInt = o26_x22.toInt ∧ o26_x28.toInt = o26_x28.toInt from by exact ⟨⟨(by (first | omega | (have u0 := mo_un h1; omega))), (by (first | omega | (have u0 := mo_un h1; omega))), h1.2.2.1, h1.2.2.2⟩, (by (first | omega | (have u0 := mo_un h1; omega))), (by (first | omega | (have u0 := mo_un h1; omega))), (by (first | omega | (have u0 := mo_un h1; omega))), (by (first | omega | (have u0 := mo_un h1; omega))), (by (first | omega | (have u0 := mo_un h1; omega))), (by (first | omega | (have u0 := mo_un h1; omega))), (by (first | omega | (have u0 := mo_un h1; omega))), (by (first | omega | (have u0 := mo_un h1; omega))), (by (first | omega | (have u0 := mo_un h1; omega)))⟩)) | (rw [(mo_un tf66), (mo_un tf67), (mo_un tf68), (mo_un tf69), (mo_un tf70), (mo_un tf71), (mo_un tf31), (mo_un tf29), (mo_un tf28), (mo_un tf27), (mo_un tf72), (mo_un tf32), (mo_un tf73), (mo_un tf33), (mo_un tf74), (mo_un tf34), (mo_un tf75), (mo_un tf35)]; exact (show (o26_x10.toInt ≤ o26_x11.toInt ∧ o26_x11.toInt ≤ o26_x9.toInt ∧ (o26_x12.toInt = 0 ∨ o26_x10.toInt < o26_x11.toInt) ∧ (o26_x12.toInt = 1 → o26_x11.toInt = o26_x10.toInt + 1 → o26_x13.toInt ≤ 26)) ∧ (1 = 0 → o26_x15.toInt = 0 ∧ o26_x11.toInt ≤ o26_x10.toInt ∧ v.toInt ≠ 0) ∧ (1 ≠ 0 → o26_x10.toInt = o26_x10.toInt) ∧ o26_x10.toInt ≤ o26_x10.toInt ∧ o26_x15.toInt ≤ 1 ∧ o26_x9.toInt = o26_x9.toInt ∧ o26_x19.toInt = o26_x19.toInt ∧ o26_x20.toInt = o26_x20.toInt ∧ o26_x22.toInt = o26_x22.toInt ∧ o26_x28.toInt = o26_x28.toInt from by exact ⟨⟨(by (first | omega | (have u0 := mo_un h1; omega))), (by (first | omega | (have u0 := mo_un h1; omega))), h1.2.2.1, h1.2.2.2⟩, (by (first | omega | (have u0 := mo_un h1; omega))), (by (first | omega | (have u0 := mo_un h1; omega))), (by (first | omega | (have u0 := mo_un h1; omega))), (by (first | omega | (have u0 := mo_un h1; omega))), (by (first | omega | (have u0 := mo_un h1; omega))), (by (first | omega | (have u0 := mo_un h1; omega))), (by (first | omega | (have u0 := mo_un h1; omega))), (by (first | omega | (have u0 := mo_un h1; omega))), (by (first | omega | (have u0 := mo_un h1; omega)))⟩)))⟩, by rw [ht]; exact hP, va_K.moved hW.alike hK, hD⟩, hS.F ht⟩) hS.2.2 dX12_must_35
set_option maxHeartbeats 4000000 in
set_option maxRecDepth 100000 in
theorem t_X12_number (l : Launch) (dC : Nat → ClassId) (dI : Nat → Nat → Nat) (sz : Nat) (κ : Nat → ClassId) (Θ : Nat → Option Int) (τ ν : Nat → Nat) (ρ : Nat → Nat → Nat) (L : List Nat) (f : Nat → va_E) (hG : tp_G τ ν ρ L) (hT : tp_T (mo_O κ Θ) κ τ ν ρ f) (h0 : Nat) (v : Int64) (u : Int64) (ht_h0 : τ h0 = 13) (h1 : ((tp_fld (f h0) 10) ≤ (tp_fld (f h0) 11) ∧ (tp_fld (f h0) 11) ≤ (tp_fld (f h0) 9) ∧ ((tp_fld (f h0) 12) = 0 ∨ (tp_fld (f h0) 10) < (tp_fld (f h0) 11)) ∧ ((tp_fld (f h0) 12) = 1 → (tp_fld (f h0) 11) = (tp_fld (f h0) 10) + 1 → (mo_fj (f h0) 13) ≤ 26))) : Met l yX12_number wqX12_number ({ frames := 5, cells := 0, slots := 0, locals := 1600 }) (va_Pc [.ref h0, .long v, .long u] (pz_B dC dI (tp_K κ) (va_pl L f) sz)) (va_Qi (fun (r : Int32) (f1 : Nat → va_E) => tp_T (mo_O κ Θ) κ τ ν ρ f1 ∧ tp_F τ [13] f f1 ∧ True ∧ ((tp_fld (f1 h0) 10) ≤ (tp_fld (f1 h0) 11) ∧ (tp_fld (f1 h0) 11) ≤ (tp_fld (f1 h0) 9) ∧ ((tp_fld (f1 h0) 12) = 0 ∨ (tp_fld (f1 h0) 10) < (tp_fld (f1 h0) 11)) ∧ ((tp_fld (f1 h0) 12) = 1 → (tp_fld (f1 h0) 11) = (tp_fld (f1 h0) 10) + 1 → (mo_fj (f1 h0) 13) ≤ 26)) ∧ ((tp_fld (f1 h0) 15) = 0 → (tp_fld (f h0) 15) = 0 ∧ (tp_fld (f h0) 11) ≤ (tp_fld (f1 h0) 10)) ∧ ((tp_fld (f1 h0) 15) ≠ 0 → (tp_fld (f1 h0) 10) = (tp_fld (f h0) 10)) ∧ (tp_fld (f h0) 10) ≤ (tp_fld (f1 h0) 10) ∧ (tp_fld (f h0) 15) ≤ (tp_fld (f1 h0) 15) ∧ (tp_fld (f1 h0) 9) = (tp_fld (f h0) 9) ∧ (tp_fld (f1 h0) 19) = (tp_fld (f h0) 19) ∧ (tp_fld (f1 h0) 20) = (tp_fld (f h0) 20) ∧ (tp_fld (f1 h0) 22) = (tp_fld (f h0) 22) ∧ (tp_fld (f1 h0) 28) = (tp_fld (f h0) 28)) (fun (f1 : Nat → va_E) (t : State) => pz_E dC dI (tp_K κ) (va_A (va_pl L f) sz) (va_pl L f1) t) (va_A (va_pl L f) sz)) 0 0 (va_A (va_pl L f) sz) := by
  refine Met.ofW (cc := cX12_number) (maxL := 6) (ret := some .int) (by decide) rfl ?_
  intro p e s m args below meth c s₁ B hml hv
  obtain ⟨rfl, hsz, hP, hK, hD0, hN⟩ := hv
  have hx := B.exec
  have hb := B.bytes
  have hr := B.returns
  have hts := fun (w : Cond) (h : w ∈ WALL) => atoms_spec (ws := wqX12_number) B.pre w (List.mem_cons_of_mem _ h)
  have hown : s.vm.findClass RX12 = some m.cls := findClass_of_methodNamed B.named
  have hlocks := B.notSynchronized
  subst hsz
  have hD := hD0.self (sz := s.heap.size)
  generalize hAe : va_A (va_pl L f) s.heap.size = A at hD ⊢
  have hA : ∀ q : Nat, s.heap.size ≤ q → A q := fun q h => by rw [← hAe]; exact Or.inr h
  have hS : va_S A s.heap s.heap [] := va_S.rf
  have hR : tp_F τ [13] f f := tp_F.rf
  have hl := lv_entry ([.ref h0, .long v, .long u]) (n := 6) (Nat.le_of_ble_eq_true rfl)
  rw [lg_entry_eq]
  generalize (lg_sl ([.ref h0, .long v, .long u]) ++ List.replicate (6 - (lg_sl ([.ref h0, .long v, .long u])).length) Slot.unset).toArray = ls at hl ⊢
  have hl : lv_has ls 6 [(0, .ref h0), (1, .long v), (3, .long u)] := hl
  refine tgk_13 hG ht_h0 (fun y1 y2 y3 y4 y5 y6 y7 y8 y9 y10 y11 y12 y13 y14 y15 y16 y17 y18 y19 y20 y21 y22 y23 y24 y25 => ?_)
  refine tpk_13 hT ht_h0 (fun o26_x0 o26_x1 o26_x7 o26_x9 o26_x10 o26_x11 o26_x12 o26_x13 o26_x14 o26_x15 o26_x16 o26_x17 o26_x18 o26_x19 o26_x20 o26_x22 o26_x25 o26_x28 o26_x29 o26_x32 o26_x33 o26_x34 o26_x35 o26_x36 o26_x37 o26_x38 o26_x47 o26_x48 hf_o26 ro26_0 ro26_1 ro26_2 ro26_3 ro26_4 ro26_5 ro26_6 ro26_7 ro26_8 ro26_9 ro26_10 ro26_11 ro26_12 ro26_13 ro26_14 => ?_)
  have tf27 : mo_hd (tp_fld (f h0) 9 = o26_x9.toInt) := tff_9 hf_o26
  have tf28 : mo_hd (tp_fld (f h0) 10 = o26_x10.toInt) := tff_10 hf_o26
  have tf29 : mo_hd (tp_fld (f h0) 11 = o26_x11.toInt) := tff_11 hf_o26
  have tf30 : mo_hd (tp_fld (f h0) 12 = o26_x12.toInt) := tff_12 hf_o26
  have tf31 : mo_hd (tp_fld (f h0) 15 = o26_x15.toInt) := tff_15 hf_o26
  have tf32 : mo_hd (tp_fld (f h0) 19 = o26_x19.toInt) := tff_19 hf_o26
  have tf33 : mo_hd (tp_fld (f h0) 20 = o26_x20.toInt) := tff_20 hf_o26
  have tf34 : mo_hd (tp_fld (f h0) 22 = o26_x22.toInt) := tff_22 hf_o26
  have tf35 : mo_hd (tp_fld (f h0) 28 = o26_x28.toInt) := tff_28 hf_o26
  have tf36 : mo_hd (mo_fj (f h0) 13 = o26_x13.toInt) := tff_13 hf_o26
  have ro26_2 := tp_hu ro26_2; have ro26_3 := tp_hu ro26_3; have ro26_1 := tp_hu ro26_1; have ro26_14 := tp_hu ro26_14; have ro26_4 := tp_hu ro26_4
  replace h1 : mo_hd ((o26_x10.toInt ≤ o26_x11.toInt ∧ o26_x11.toInt ≤ o26_x9.toInt ∧ (o26_x12.toInt = 0 ∨ o26_x10.toInt < o26_x11.toInt) ∧ (o26_x12.toInt = 1 → o26_x11.toInt = o26_x10.toInt + 1 → o26_x13.toInt ≤ 26))) := by have q9 := h1; first | (simp only [(mo_un tf28), (mo_un tf29), (mo_un tf27), (mo_un tf30), (mo_un tf36), mo_i1, mo_l1] at q9; exact q9) | (rw [(mo_un tf28), (mo_un tf29), (mo_un tf27), (mo_un tf30), (mo_un tf36)] at q9; exact q9)
  have h1l : (o26_x10.toInt ≤ o26_x11.toInt) ∧ (o26_x11.toInt ≤ o26_x9.toInt) := ⟨h1.1, h1.2.1⟩
  refine lv_aload_n hx hb dX12_number_0 rfl (lv_at hl 0 rfl) ?_
  refine tpk_pos (tp_in hG ht_h0 (by decide)) hf_o26 (fun q37 eq37 => ?_)
  refine va_get (D := (dC, dI)) (ci := 12) (v := .long o26_x13) (C := RX12) (T := TX12) (N := 53) hx hb hts hfX12 hown hK hP q37 eq37 rfl 13 (by decide) (hts (.fieldLink RX12 270 "ColdShipsModel" "worth" "J") wa_1006) (fun _ h9 => h9) rfl dX12_number_1 ?_
  refine lv_l2i hx hb dX12_number_4 rfl ?_
  refine lv_topi (fun z38 ez38 => ?_)
  refine lv_istore (lv' := [(5, .int z38), (0, .ref h0), (1, .long v), (3, .long u)]) hx hb dX12_number_5 hl (by decide) rfl (fun ls hl => ?_)
  refine lv_aload_n hx hb dX12_number_7 rfl (lv_at hl 1 rfl) ?_
  refine lv_aload_n hx hb dX12_number_8 rfl (lv_at hl 1 rfl) ?_
  refine va_get (D := (dC, dI)) (ci := 12) (v := .int o26_x12) (C := RX12) (T := TX12) (N := 53) hx hb hts hfX12 hown hK hP q37 eq37 rfl 12 (by decide) (hts (.fieldLink RX12 280 "ColdShipsModel" "sort" "I") wa_995) (fun _ h9 => h9) rfl dX12_number_9 ?_
  refine lv_iconst (v := 2) hx hb dX12_number_12 (by decide) ?_
  refine lv_icmp_ne (tgt := 32) hx hb dX12_number_13 (by decide) (fun c39 => ?_) (fun c39 => ?_)
  · have ic39 : o26_x12.toInt ≠ 2 := zi_ne rfl rfl c39
    refine lv_iconst (v := 0) hx hb dX12_number_32 (by decide) ?_
    have hFc := tp_fr hD hS hA
    refine va_callv (va_runV (As := [.int 0]) (rest := []) ⟨hx, hb, hml, hown, hts⟩ (t_X12_must l dC dI _ κ Θ τ ν ρ L f hG hT h0 (0) ht_h0 (by first | decide | (first | omega | (have u0 := mo_un h1; omega))) (by first | (simp only [(mo_un tf28), (mo_un tf29), (mo_un tf27), (mo_un tf30), (mo_un tf36), mo_i1, mo_l1]; exact (show (o26_x10.toInt ≤ o26_x11.toInt ∧ o26_x11.toInt ≤ o26_x9.toInt ∧ (o26_x12.toInt = 0 ∨ o26_x10.toInt < o26_x11.toInt) ∧ (o26_x12.toInt = 1 → o26_x11.toInt = o26_x10.toInt + 1 → o26_x13.toInt ≤ 26)) from by have : (0 : Int32).toInt = 0 := rfl; exact ⟨(by (first | omega | (have u0 := mo_un h1; omega))), (by (first | omega | (have u0 := mo_un h1; omega))), h1.2.2.1, h1.2.2.2⟩)) | (rw [(mo_un tf28), (mo_un tf29), (mo_un tf27), (mo_un tf30), (mo_un tf36)]; exact (show (o26_x10.toInt ≤ o26_x11.toInt ∧ o26_x11.toInt ≤ o26_x9.toInt ∧ (o26_x12.toInt = 0 ∨ o26_x10.toInt < o26_x11.toInt) ∧ (o26_x12.toInt = 1 → o26_x11.toInt = o26_x10.toInt + 1 → o26_x13.toInt ≤ 26)) from by have : (0 : Int32).toInt = 0 := rfl; exact ⟨(by (first | omega | (have u0 := mo_un h1; omega))), (by (first | omega | (have u0 := mo_un h1; omega))), h1.2.2.1, h1.2.2.2⟩)))) (cwV 1 hts gX12_number_X12_must rfl rfl rfl ⟨rfl, pd_X12_must⟩ ⟨Nat.le_of_ble_eq_true rfl, Nat.le_of_ble_eq_true rfl⟩) ⟨pz_blind, va_recv hK hP (ci := 12) (q0 := q37) rfl eq37, pz_pre hP hK hD hN⟩ rfl rfl hl.1 rfl (lv_room (Nat.le_of_ble_eq_true rfl)) dX12_number_33 ⟨Nat.le_of_ble_eq_true rfl, Nat.le_of_ble_eq_true rfl⟩) hS (fun q _ h => hFc q h) hFc (fun f42 t H1 locs ht hvm hw41 hB hz1 hk1 hS => ?_)
    refine tn_3 hw41 (fun hT hF43 hw41p => ?_); clear hw41
    have hR := hR.then hF43 (by decide)
    have hP := hB.1; rw [ht] at hP; have hD := tp_ad f42 hD; clear hB hFc hz1 hk1; subst ht; generalize t.heap = H at hP hS ⊢
    refine tpk_13 hT ht_h0 (fun o44_x0 o44_x1 o44_x7 o44_x9 o44_x10 o44_x11 o44_x12 o44_x13 o44_x14 o44_x15 o44_x16 o44_x17 o44_x18 o44_x19 o44_x20 o44_x22 o44_x25 o44_x28 o44_x29 o44_x32 o44_x33 o44_x34 o44_x35 o44_x36 o44_x37 o44_x38 o44_x47 o44_x48 hf_o44 ro44_0 ro44_1 ro44_2 ro44_3 ro44_4 ro44_5 ro44_6 ro44_7 ro44_8 ro44_9 ro44_10 ro44_11 ro44_12 ro44_13 ro44_14 => ?_)
    have tf45 : mo_hd (tp_fld (f42 h0) 10 = o44_x10.toInt) := tff_10 hf_o44
    have tf46 : mo_hd (tp_fld (f42 h0) 11 = o44_x11.toInt) := tff_11 hf_o44
    have tf47 : mo_hd (tp_fld (f42 h0) 9 = o44_x9.toInt) := tff_9 hf_o44
    have tf48 : mo_hd (tp_fld (f42 h0) 12 = o44_x12.toInt) := tff_12 hf_o44
    have tf49 : mo_hd (mo_fj (f42 h0) 13 = o44_x13.toInt) := tff_13 hf_o44
    have tf50 : mo_hd (tp_fld (f42 h0) 15 = o44_x15.toInt) := tff_15 hf_o44
    have tf51 : mo_hd (tp_fld (f42 h0) 19 = o44_x19.toInt) := tff_19 hf_o44
    have tf52 : mo_hd (tp_fld (f42 h0) 20 = o44_x20.toInt) := tff_20 hf_o44
    have tf53 : mo_hd (tp_fld (f42 h0) 22 = o44_x22.toInt) := tff_22 hf_o44
    have tf54 : mo_hd (tp_fld (f42 h0) 28 = o44_x28.toInt) := tff_28 hf_o44
    have ro44_2 := tp_hu ro44_2; have ro44_3 := tp_hu ro44_3; have ro44_1 := tp_hu ro44_1; have ro44_14 := tp_hu ro44_14; have ro44_4 := tp_hu ro44_4; have ro44_5 := tp_hu ro44_5; have ro26_5 := tp_hu ro26_5; have ro44_6 := tp_hu ro44_6; have ro26_6 := tp_hu ro26_6; have ro44_7 := tp_hu ro44_7; have ro26_7 := tp_hu ro26_7; have ro44_8 := tp_hu ro44_8; have ro26_8 := tp_hu ro26_8; have ro44_9 := tp_hu ro44_9; have ro26_9 := tp_hu ro26_9
    have tk55 : mo_hd ((o44_x10.toInt ≤ o44_x11.toInt ∧ o44_x11.toInt ≤ o44_x9.toInt ∧ (o44_x12.toInt = 0 ∨ o44_x10.toInt < o44_x11.toInt) ∧ (o44_x12.toInt = 1 → o44_x11.toInt = o44_x10.toInt + 1 → o44_x13.toInt ≤ 26)) ∧ (o44_x15.toInt = 0 → o26_x15.toInt = 0 ∧ o26_x11.toInt ≤ o44_x10.toInt ∧ (0 : Int) ≠ 0) ∧ (o44_x15.toInt ≠ 0 → o44_x10.toInt = o26_x10.toInt) ∧ o26_x10.toInt ≤ o44_x10.toInt ∧ o26_x15.toInt ≤ o44_x15.toInt ∧ o44_x9.toInt = o26_x9.toInt ∧ o44_x19.toInt = o26_x19.toInt ∧ o44_x20.toInt = o26_x20.toInt ∧ o44_x22.toInt = o26_x22.toInt ∧ o44_x28.toInt = o26_x28.toInt) := by have q9 := hw41p; first | (simp only [(mo_un tf45), (mo_un tf46), (mo_un tf47), (mo_un tf48), (mo_un tf49), (mo_un tf50), (mo_un tf31), (mo_un tf29), (mo_un tf28), (mo_un tf27), (mo_un tf51), (mo_un tf32), (mo_un tf52), (mo_un tf33), (mo_un tf53), (mo_un tf34), (mo_un tf54), (mo_un tf35), mo_i1, mo_l1] at q9; exact q9) | (rw [(mo_un tf45), (mo_un tf46), (mo_un tf47), (mo_un tf48), (mo_un tf49), (mo_un tf50), (mo_un tf31), (mo_un tf29), (mo_un tf28), (mo_un tf27), (mo_un tf51), (mo_un tf32), (mo_un tf52), (mo_un tf33), (mo_un tf53), (mo_un tf34), (mo_un tf54), (mo_un tf35)] at q9; exact q9)
    have e9 := (Int32.toInt_inj.mp tk55.2.2.2.2.2.1).symm; subst e9
    have e9 := (Int32.toInt_inj.mp tk55.2.2.2.2.2.2.1).symm; subst e9
    have e9 := (Int32.toInt_inj.mp tk55.2.2.2.2.2.2.2.1).symm; subst e9
    have e9 := (Int32.toInt_inj.mp tk55.2.2.2.2.2.2.2.2.1).symm; subst e9
    have e9 := (Int32.toInt_inj.mp tk55.2.2.2.2.2.2.2.2.2).symm; subst e9
    have tk55l : (o44_x10.toInt ≤ o44_x11.toInt) ∧ (o44_x11.toInt ≤ o26_x9.toInt) ∧ (o26_x10.toInt ≤ o44_x10.toInt) ∧ (o26_x15.toInt ≤ o44_x15.toInt) := ⟨tk55.1.1, tk55.1.2.1, tk55.2.2.2.1, tk55.2.2.2.2.1⟩
    clear hw41p
    have hbad56 : 1 ≤ o44_x15.toInt := by rcases (show o44_x15.toInt = 0 ∨ 1 ≤ o44_x15.toInt by (first | omega | (have u1 := mo_un tk55; first | omega | (have u0 := mo_un h1; omega)))) with z9 | z9; (exact absurd (rfl) (tk55.2.1 z9).2.2); (exact z9)
    refine lv_iload hx hb dX12_number_36 (lv_at hl 0 rfl) ?_
    exact W.iret (v := z38) hx hb hr (fun t ht hW => ⟨⟨z38, f42, rfl, ⟨hT, hR, trivial, (by first | (simp only [(mo_un tf45), (mo_un tf46), (mo_un tf47), (mo_un tf48), (mo_un tf49), (mo_un tf50), (mo_un tf31), (mo_un tf29), (mo_un tf28), (mo_un tf27), (mo_un tf51), (mo_un tf32), (mo_un tf52), (mo_un tf33), (mo_un tf53), (mo_un tf34), (mo_un tf54), (mo_un tf35), mo_i1, mo_l1]; exact (show (o44_x10.toInt ≤ o44_x11.toInt ∧ o44_x11.toInt ≤ o26_x9.toInt ∧ (o44_x12.toInt = 0 ∨ o44_x10.toInt < o44_x11.toInt) ∧ (o44_x12.toInt = 1 → o44_x11.toInt = o44_x10.toInt + 1 → o44_x13.toInt ≤ 26)) ∧ (o44_x15.toInt = 0 → o26_x15.toInt = 0 ∧ o26_x11.toInt ≤ o44_x10.toInt) ∧ (o44_x15.toInt ≠ 0 → o44_x10.toInt = o26_x10.toInt) ∧ o26_x10.toInt ≤ o44_x10.toInt ∧ o26_x15.toInt ≤ o44_x15.toInt ∧ o26_x9.toInt = o26_x9.toInt ∧ o26_x19.toInt = o26_x19.toInt ∧ o26_x20.toInt = o26_x20.toInt ∧ o26_x22.toInt = o26_x22.toInt ∧ o26_x28.toInt = o26_x28.toInt from by exact ⟨⟨(by (first | omega | (have u1 := mo_un tk55; first | omega | (have u0 := mo_un h1; omega)))), (by (first | omega | (have u1 := mo_un tk55; first | omega | (have u0 := mo_un h1; omega)))), tk55.1.2.2.1, tk55.1.2.2.2⟩, (by (first | omega | (have u1 := mo_un tk55; first | omega | (have u0 := mo_un h1; omega)))), tk55.2.2.1, (by (first | omega | (have u1 := mo_un tk55; first | omega | (have u0 := mo_un h1; omega)))), (by (first | omega | (have u1 := mo_un tk55; first | omega | (have u0 := mo_un h1; omega)))), (by (first | omega | (have u1 := mo_un tk55; first | omega | (have u0 := mo_un h1; omega)))), (by (first | omega | (have u1 := mo_un tk55; first | omega | (have u0 := mo_un h1; omega)))), (by (first | omega | (have u1 := mo_un tk55; first | omega | (have u0 := mo_un h1; omega)))), (by (first | omega | (have u1 := mo_un tk55; first | omega | (have u0 := mo_un h1; omega)))), (by (first | omega | (have u1 := mo_un tk55; first | omega | (have u0 := mo_un h1; omega))))⟩)) | (rw [(mo_un tf45), (mo_un tf46), (mo_un tf47), (mo_un tf48), (mo_un tf49), (mo_un tf50), (mo_un tf31), (mo_un tf29), (mo_un tf28), (mo_un tf27), (mo_un tf51), (mo_un tf32), (mo_un tf52), (mo_un tf33), (mo_un tf53), (mo_un tf34), (mo_un tf54), (mo_un tf35)]; exact (show (o44_x10.toInt ≤ o44_x11.toInt ∧ o44_x11.toInt ≤ o26_x9.toInt ∧ (o44_x12.toInt = 0 ∨ o44_x10.toInt < o44_x11.toInt) ∧ (o44_x12.toInt = 1 → o44_x11.toInt = o44_x10.toInt + 1 → o44_x13.toInt ≤ 26)) ∧ (o44_x15.toInt = 0 → o26_x15.toInt = 0 ∧ o26_x11.toInt ≤ o44_x10.toInt) ∧ (o44_x15.toInt ≠ 0 → o44_x10.toInt = o26_x10.toInt) ∧ o26_x10.toInt ≤ o44_x10.toInt ∧ o26_x15.toInt ≤ o44_x15.toInt ∧ o26_x9.toInt = o26_x9.toInt ∧ o26_x19.toInt = o26_x19.toInt ∧ o26_x20.toInt = o26_x20.toInt ∧ o26_x22.toInt = o26_x22.toInt ∧ o26_x28.toInt = o26_x28.toInt from by exact ⟨⟨(by (first | omega | (have u1 := mo_un tk55; first | omega | (have u0 := mo_un h1; omega)))), (by (first | omega | (have u1 := mo_un tk55; first | omega | (have u0 := mo_un h1; omega)))), tk55.1.2.2.1, tk55.1.2.2.2⟩, (by (first | omega | (have u1 := mo_un tk55; first | omega | (have u0 := mo_un h1; omega)))), tk55.2.2.1, (by (first | omega | (have u1 := mo_un tk55; first | omega | (have u0 := mo_un h1; omega)))), (by (first | omega | (have u1 := mo_un tk55; first | omega | (have u0 := mo_un h1; omega)))), (by (first | omega | (have u1 := mo_un tk55; first | omega | (have u0 := mo_un h1; omega)))), (by (first | omega | (have u1 := mo_un tk55; first | omega | (have u0 := mo_un h1; omega)))), (by (first | omega | (have u1 := mo_un tk55; first | omega | (have u0 := mo_un h1; omega)))), (by (first | omega | (have u1 := mo_un tk55; first | omega | (have u0 := mo_un h1; omega)))), (by (first | omega | (have u1 := mo_un tk55; first | omega | (have u0 := mo_un h1; omega))))⟩)))⟩, by rw [ht]; exact hP, va_K.moved hW.alike hK, hD⟩, hS.F ht⟩) hS.2.2 dX12_number_38
  · have ic39 : o26_x12.toInt = 2 := zi_nef rfl rfl c39
    refine lv_aload_n hx hb dX12_number_16 rfl (lv_at hl 1 rfl) ?_
    refine va_get (D := (dC, dI)) (ci := 12) (v := .long o26_x13) (C := RX12) (T := TX12) (N := 53) hx hb hts hfX12 hown hK hP q37 eq37 rfl 13 (by decide) (hts (.fieldLink RX12 270 "ColdShipsModel" "worth" "J") wa_1006) (fun _ h9 => h9) rfl dX12_number_17 ?_
    refine lv_lload_n hx hb dX12_number_20 rfl (lv_at hl 2 rfl) ?_
    refine lv_lload_n hx hb dX12_number_21 rfl (lv_at hl 3 rfl) ?_
    refine pz_calli (va_runS (As := [.long o26_x13, .long v, .long u]) (rest := [.ref h0]) ⟨hx, hb, hml, hown, hts⟩ (t_X12_in l dC dI _ o26_x13 v u (o26_x13.toInt) (v.toInt) (u.toInt) rfl rfl rfl) (va_cwS 3 hts gX12_number_X12_in rfl rfl rfl pd_X12_in ⟨Nat.le_of_ble_eq_true rfl, Nat.le_of_ble_eq_true rfl⟩) ⟨pz_blind, pz_pre pz_P0 (hK.sub (tys' := []) [] rfl) (pz_D0 (A := fun _ => True)) hN⟩ rfl rfl hl.1 rfl (lv_room (Nat.le_of_ble_eq_true rfl)) dX12_number_22 ⟨Nat.le_of_ble_eq_true rfl, Nat.le_of_ble_eq_true rfl⟩) (fun r57 hw58 => ?_)
    obtain ⟨hw58r, hw58p⟩ := hw58
    refine lv_if_eq (tgt := 32) hx hb dX12_number_25 (by decide) (fun c59 => ?_) (fun c59 => ?_)
    · have ic59 : r57.toInt = 0 := zi_eq rfl rfl c59
      clear hw58r ic59
      refine lv_iconst (v := 0) hx hb dX12_number_32 (by decide) ?_
      have hFc := tp_fr hD hS hA
      refine va_callv (va_runV (As := [.int 0]) (rest := []) ⟨hx, hb, hml, hown, hts⟩ (t_X12_must l dC dI _ κ Θ τ ν ρ L f hG hT h0 (0) ht_h0 (by first | decide | (first | omega | (have u0 := mo_un h1; omega))) (by first | (simp only [(mo_un tf28), (mo_un tf29), (mo_un tf27), (mo_un tf30), (mo_un tf36), mo_i1, mo_l1]; exact (show (o26_x10.toInt ≤ o26_x11.toInt ∧ o26_x11.toInt ≤ o26_x9.toInt ∧ (o26_x12.toInt = 0 ∨ o26_x10.toInt < o26_x11.toInt) ∧ (o26_x12.toInt = 1 → o26_x11.toInt = o26_x10.toInt + 1 → o26_x13.toInt ≤ 26)) from by have : (0 : Int32).toInt = 0 := rfl; exact ⟨(by (first | omega | (have u0 := mo_un h1; omega))), (by (first | omega | (have u0 := mo_un h1; omega))), h1.2.2.1, h1.2.2.2⟩)) | (rw [(mo_un tf28), (mo_un tf29), (mo_un tf27), (mo_un tf30), (mo_un tf36)]; exact (show (o26_x10.toInt ≤ o26_x11.toInt ∧ o26_x11.toInt ≤ o26_x9.toInt ∧ (o26_x12.toInt = 0 ∨ o26_x10.toInt < o26_x11.toInt) ∧ (o26_x12.toInt = 1 → o26_x11.toInt = o26_x10.toInt + 1 → o26_x13.toInt ≤ 26)) from by have : (0 : Int32).toInt = 0 := rfl; exact ⟨(by (first | omega | (have u0 := mo_un h1; omega))), (by (first | omega | (have u0 := mo_un h1; omega))), h1.2.2.1, h1.2.2.2⟩)))) (cwV 1 hts gX12_number_X12_must rfl rfl rfl ⟨rfl, pd_X12_must⟩ ⟨Nat.le_of_ble_eq_true rfl, Nat.le_of_ble_eq_true rfl⟩) ⟨pz_blind, va_recv hK hP (ci := 12) (q0 := q37) rfl eq37, pz_pre hP hK hD hN⟩ rfl rfl hl.1 rfl (lv_room (Nat.le_of_ble_eq_true rfl)) dX12_number_33 ⟨Nat.le_of_ble_eq_true rfl, Nat.le_of_ble_eq_true rfl⟩) hS (fun q _ h => hFc q h) hFc (fun f62 t H1 locs ht hvm hw61 hB hz1 hk1 hS => ?_)
      refine tn_3 hw61 (fun hT hF63 hw61p => ?_); clear hw61
      have hR := hR.then hF63 (by decide)
      have hP := hB.1; rw [ht] at hP; have hD := tp_ad f62 hD; clear hB hFc hz1 hk1; subst ht; generalize t.heap = H at hP hS ⊢
      refine tpk_13 hT ht_h0 (fun o64_x0 o64_x1 o64_x7 o64_x9 o64_x10 o64_x11 o64_x12 o64_x13 o64_x14 o64_x15 o64_x16 o64_x17 o64_x18 o64_x19 o64_x20 o64_x22 o64_x25 o64_x28 o64_x29 o64_x32 o64_x33 o64_x34 o64_x35 o64_x36 o64_x37 o64_x38 o64_x47 o64_x48 hf_o64 ro64_0 ro64_1 ro64_2 ro64_3 ro64_4 ro64_5 ro64_6 ro64_7 ro64_8 ro64_9 ro64_10 ro64_11 ro64_12 ro64_13 ro64_14 => ?_)
      have tf65 : mo_hd (tp_fld (f62 h0) 10 = o64_x10.toInt) := tff_10 hf_o64
      have tf66 : mo_hd (tp_fld (f62 h0) 11 = o64_x11.toInt) := tff_11 hf_o64
      have tf67 : mo_hd (tp_fld (f62 h0) 9 = o64_x9.toInt) := tff_9 hf_o64
      have tf68 : mo_hd (tp_fld (f62 h0) 12 = o64_x12.toInt) := tff_12 hf_o64
      have tf69 : mo_hd (mo_fj (f62 h0) 13 = o64_x13.toInt) := tff_13 hf_o64
      have tf70 : mo_hd (tp_fld (f62 h0) 15 = o64_x15.toInt) := tff_15 hf_o64
      have tf71 : mo_hd (tp_fld (f62 h0) 19 = o64_x19.toInt) := tff_19 hf_o64
      have tf72 : mo_hd (tp_fld (f62 h0) 20 = o64_x20.toInt) := tff_20 hf_o64
      have tf73 : mo_hd (tp_fld (f62 h0) 22 = o64_x22.toInt) := tff_22 hf_o64
      have tf74 : mo_hd (tp_fld (f62 h0) 28 = o64_x28.toInt) := tff_28 hf_o64
      have ro64_2 := tp_hu ro64_2; have ro64_3 := tp_hu ro64_3; have ro64_1 := tp_hu ro64_1; have ro64_14 := tp_hu ro64_14; have ro64_4 := tp_hu ro64_4; have ro64_5 := tp_hu ro64_5; have ro26_5 := tp_hu ro26_5; have ro64_6 := tp_hu ro64_6; have ro26_6 := tp_hu ro26_6; have ro64_7 := tp_hu ro64_7; have ro26_7 := tp_hu ro26_7; have ro64_8 := tp_hu ro64_8; have ro26_8 := tp_hu ro26_8; have ro64_9 := tp_hu ro64_9; have ro26_9 := tp_hu ro26_9
      have tk75 : mo_hd ((o64_x10.toInt ≤ o64_x11.toInt ∧ o64_x11.toInt ≤ o64_x9.toInt ∧ (o64_x12.toInt = 0 ∨ o64_x10.toInt < o64_x11.toInt) ∧ (o64_x12.toInt = 1 → o64_x11.toInt = o64_x10.toInt + 1 → o64_x13.toInt ≤ 26)) ∧ (o64_x15.toInt = 0 → o26_x15.toInt = 0 ∧ o26_x11.toInt ≤ o64_x10.toInt ∧ (0 : Int) ≠ 0) ∧ (o64_x15.toInt ≠ 0 → o64_x10.toInt = o26_x10.toInt) ∧ o26_x10.toInt ≤ o64_x10.toInt ∧ o26_x15.toInt ≤ o64_x15.toInt ∧ o64_x9.toInt = o26_x9.toInt ∧ o64_x19.toInt = o26_x19.toInt ∧ o64_x20.toInt = o26_x20.toInt ∧ o64_x22.toInt = o26_x22.toInt ∧ o64_x28.toInt = o26_x28.toInt) := by have q9 := hw61p; first | (simp only [(mo_un tf65), (mo_un tf66), (mo_un tf67), (mo_un tf68), (mo_un tf69), (mo_un tf70), (mo_un tf31), (mo_un tf29), (mo_un tf28), (mo_un tf27), (mo_un tf71), (mo_un tf32), (mo_un tf72), (mo_un tf33), (mo_un tf73), (mo_un tf34), (mo_un tf74), (mo_un tf35), mo_i1, mo_l1] at q9; exact q9) | (rw [(mo_un tf65), (mo_un tf66), (mo_un tf67), (mo_un tf68), (mo_un tf69), (mo_un tf70), (mo_un tf31), (mo_un tf29), (mo_un tf28), (mo_un tf27), (mo_un tf71), (mo_un tf32), (mo_un tf72), (mo_un tf33), (mo_un tf73), (mo_un tf34), (mo_un tf74), (mo_un tf35)] at q9; exact q9)
      have e9 := (Int32.toInt_inj.mp tk75.2.2.2.2.2.1).symm; subst e9
      have e9 := (Int32.toInt_inj.mp tk75.2.2.2.2.2.2.1).symm; subst e9
      have e9 := (Int32.toInt_inj.mp tk75.2.2.2.2.2.2.2.1).symm; subst e9
      have e9 := (Int32.toInt_inj.mp tk75.2.2.2.2.2.2.2.2.1).symm; subst e9
      have e9 := (Int32.toInt_inj.mp tk75.2.2.2.2.2.2.2.2.2).symm; subst e9
      have tk75l : (o64_x10.toInt ≤ o64_x11.toInt) ∧ (o64_x11.toInt ≤ o26_x9.toInt) ∧ (o26_x10.toInt ≤ o64_x10.toInt) ∧ (o26_x15.toInt ≤ o64_x15.toInt) := ⟨tk75.1.1, tk75.1.2.1, tk75.2.2.2.1, tk75.2.2.2.2.1⟩
      clear hw61p
      have hbad76 : 1 ≤ o64_x15.toInt := by rcases (show o64_x15.toInt = 0 ∨ 1 ≤ o64_x15.toInt by (first | omega | (have u1 := mo_un tk75; first | omega | (have u0 := mo_un h1; omega)))) with z9 | z9; (exact absurd (rfl) (tk75.2.1 z9).2.2); (exact z9)
      refine lv_iload hx hb dX12_number_36 (lv_at hl 0 rfl) ?_
      exact W.iret (v := z38) hx hb hr (fun t ht hW => ⟨⟨z38, f62, rfl, ⟨hT, hR, trivial, (by first | (simp only [(mo_un tf65), (mo_un tf66), (mo_un tf67), (mo_un tf68), (mo_un tf69), (mo_un tf70), (mo_un tf31), (mo_un tf29), (mo_un tf28), (mo_un tf27), (mo_un tf71), (mo_un tf32), (mo_un tf72), (mo_un tf33), (mo_un tf73), (mo_un tf34), (mo_un tf74), (mo_un tf35), mo_i1, mo_l1]; exact (show (o64_x10.toInt ≤ o64_x11.toInt ∧ o64_x11.toInt ≤ o26_x9.toInt ∧ (o64_x12.toInt = 0 ∨ o64_x10.toInt < o64_x11.toInt) ∧ (o64_x12.toInt = 1 → o64_x11.toInt = o64_x10.toInt + 1 → o64_x13.toInt ≤ 26)) ∧ (o64_x15.toInt = 0 → o26_x15.toInt = 0 ∧ o26_x11.toInt ≤ o64_x10.toInt) ∧ (o64_x15.toInt ≠ 0 → o64_x10.toInt = o26_x10.toInt) ∧ o26_x10.toInt ≤ o64_x10.toInt ∧ o26_x15.toInt ≤ o64_x15.toInt ∧ o26_x9.toInt = o26_x9.toInt ∧ o26_x19.toInt = o26_x19.toInt ∧ o26_x20.toInt = o26_x20.toInt ∧ o26_x22.toInt = o26_x22.toInt ∧ o26_x28.toInt = o26_x28.toInt from by exact ⟨⟨(by (first | omega | (have u1 := mo_un tk75; first | omega | (have u0 := mo_un h1; omega)))), (by (first | omega | (have u1 := mo_un tk75; first | omega | (have u0 := mo_un h1; omega)))), tk75.1.2.2.1, tk75.1.2.2.2⟩, (by (first | omega | (have u1 := mo_un tk75; first | omega | (have u0 := mo_un h1; omega)))), tk75.2.2.1, (by (first | omega | (have u1 := mo_un tk75; first | omega | (have u0 := mo_un h1; omega)))), (by (first | omega | (have u1 := mo_un tk75; first | omega | (have u0 := mo_un h1; omega)))), (by (first | omega | (have u1 := mo_un tk75; first | omega | (have u0 := mo_un h1; omega)))), (by (first | omega | (have u1 := mo_un tk75; first | omega | (have u0 := mo_un h1; omega)))), (by (first | omega | (have u1 := mo_un tk75; first | omega | (have u0 := mo_un h1; omega)))), (by (first | omega | (have u1 := mo_un tk75; first | omega | (have u0 := mo_un h1; omega)))), (by (first | omega | (have u1 := mo_un tk75; first | omega | (have u0 := mo_un h1; omega))))⟩)) | (rw [(mo_un tf65), (mo_un tf66), (mo_un tf67), (mo_un tf68), (mo_un tf69), (mo_un tf70), (mo_un tf31), (mo_un tf29), (mo_un tf28), (mo_un tf27), (mo_un tf71), (mo_un tf32), (mo_un tf72), (mo_un tf33), (mo_un tf73), (mo_un tf34), (mo_un tf74), (mo_un tf35)]; exact (show (o64_x10.toInt ≤ o64_x11.toInt ∧ o64_x11.toInt ≤ o26_x9.toInt ∧ (o64_x12.toInt = 0 ∨ o64_x10.toInt < o64_x11.toInt) ∧ (o64_x12.toInt = 1 → o64_x11.toInt = o64_x10.toInt + 1 → o64_x13.toInt ≤ 26)) ∧ (o64_x15.toInt = 0 → o26_x15.toInt = 0 ∧ o26_x11.toInt ≤ o64_x10.toInt) ∧ (o64_x15.toInt ≠ 0 → o64_x10.toInt = o26_x10.toInt) ∧ o26_x10.toInt ≤ o64_x10.toInt ∧ o26_x15.toInt ≤ o64_x15.toInt ∧ o26_x9.toInt = o26_x9.toInt ∧ o26_x19.toInt = o26_x19.toInt ∧ o26_x20.toInt = o26_x20.toInt ∧ o26_x22.toInt = o26_x22.toInt ∧ o26_x28.toInt = o26_x28.toInt from by exact ⟨⟨(by (first | omega | (have u1 := mo_un tk75; first | omega | (have u0 := mo_un h1; omega)))), (by (first | omega | (have u1 := mo_un tk75; first | omega | (have u0 := mo_un h1; omega)))), tk75.1.2.2.1, tk75.1.2.2.2⟩, (by (first | omega | (have u1 := mo_un tk75; first | omega | (have u0 := mo_un h1; omega)))), tk75.2.2.1, (by (first | omega | (have u1 := mo_un tk75; first | omega | (have u0 := mo_un h1; omega)))), (by (first | omega | (have u1 := mo_un tk75; first | omega | (have u0 := mo_un h1; omega)))), (by (first | omega | (have u1 := mo_un tk75; first | omega | (have u0 := mo_un h1; omega)))), (by (first | omega | (have u1 := mo_un tk75; first | omega | (have u0 := mo_un h1; omega)))), (by (first | omega | (have u1 := mo_un tk75; first | omega | (have u0 := mo_un h1; omega)))), (by (first | omega | (have u1 := mo_un tk75; first | omega | (have u0 := mo_un h1; omega)))), (by (first | omega | (have u1 := mo_un tk75; first | omega | (have u0 := mo_un h1; omega))))⟩)))⟩, by rw [ht]; exact hP, va_K.moved hW.alike hK, hD⟩, hS.F ht⟩) hS.2.2 dX12_number_38
    · have ic59 : r57.toInt ≠ 0 := zi_eqf rfl rfl c59
      replace ic59 : 1 ≤ r57.toInt := by (first | omega | (have u0 := mo_un h1; omega))
      have p77 : (v.toInt) ≤ (o26_x13.toInt) ∧ (o26_x13.toInt) ≤ (u.toInt) := (tp_cond.yes hw58p) (by (first | omega | (have u0 := mo_un h1; omega)))
      clear hw58r ic59
      refine lv_iconst (v := 1) hx hb dX12_number_28 (by decide) ?_
      refine lv_goto (tgt := 33) hx hb dX12_number_29 (by decide) ?_
      have hFc := tp_fr hD hS hA
      refine va_callv (va_runV (As := [.int 1]) (rest := []) ⟨hx, hb, hml, hown, hts⟩ (t_X12_must l dC dI _ κ Θ τ ν ρ L f hG hT h0 (1) ht_h0 (by first | decide | (first | omega | (have u0 := mo_un h1; omega))) (by first | (simp only [(mo_un tf28), (mo_un tf29), (mo_un tf27), (mo_un tf30), (mo_un tf36), mo_i1, mo_l1]; exact (show (o26_x10.toInt ≤ o26_x11.toInt ∧ o26_x11.toInt ≤ o26_x9.toInt ∧ (o26_x12.toInt = 0 ∨ o26_x10.toInt < o26_x11.toInt) ∧ (o26_x12.toInt = 1 → o26_x11.toInt = o26_x10.toInt + 1 → o26_x13.toInt ≤ 26)) from by have : (1 : Int32).toInt = 1 := rfl; exact ⟨(by (first | omega | (have u0 := mo_un h1; omega))), (by (first | omega | (have u0 := mo_un h1; omega))), h1.2.2.1, h1.2.2.2⟩)) | (rw [(mo_un tf28), (mo_un tf29), (mo_un tf27), (mo_un tf30), (mo_un tf36)]; exact (show (o26_x10.toInt ≤ o26_x11.toInt ∧ o26_x11.toInt ≤ o26_x9.toInt ∧ (o26_x12.toInt = 0 ∨ o26_x10.toInt < o26_x11.toInt) ∧ (o26_x12.toInt = 1 → o26_x11.toInt = o26_x10.toInt + 1 → o26_x13.toInt ≤ 26)) from by have : (1 : Int32).toInt = 1 := rfl; exact ⟨(by (first | omega | (have u0 := mo_un h1; omega))), (by (first | omega | (have u0 := mo_un h1; omega))), h1.2.2.1, h1.2.2.2⟩)))) (cwV 1 hts gX12_number_X12_must rfl rfl rfl ⟨rfl, pd_X12_must⟩ ⟨Nat.le_of_ble_eq_true rfl, Nat.le_of_ble_eq_true rfl⟩) ⟨pz_blind, va_recv hK hP (ci := 12) (q0 := q37) rfl eq37, pz_pre hP hK hD hN⟩ rfl rfl hl.1 rfl (lv_room (Nat.le_of_ble_eq_true rfl)) dX12_number_33 ⟨Nat.le_of_ble_eq_true rfl, Nat.le_of_ble_eq_true rfl⟩) hS (fun q _ h => hFc q h) hFc (fun f80 t H1 locs ht hvm hw79 hB hz1 hk1 hS => ?_)
      refine tn_3 hw79 (fun hT hF81 hw79p => ?_); clear hw79
      have hR := hR.then hF81 (by decide)
      have hP := hB.1; rw [ht] at hP; have hD := tp_ad f80 hD; clear hB hFc hz1 hk1; subst ht; generalize t.heap = H at hP hS ⊢
      refine tpk_13 hT ht_h0 (fun o82_x0 o82_x1 o82_x7 o82_x9 o82_x10 o82_x11 o82_x12 o82_x13 o82_x14 o82_x15 o82_x16 o82_x17 o82_x18 o82_x19 o82_x20 o82_x22 o82_x25 o82_x28 o82_x29 o82_x32 o82_x33 o82_x34 o82_x35 o82_x36 o82_x37 o82_x38 o82_x47 o82_x48 hf_o82 ro82_0 ro82_1 ro82_2 ro82_3 ro82_4 ro82_5 ro82_6 ro82_7 ro82_8 ro82_9 ro82_10 ro82_11 ro82_12 ro82_13 ro82_14 => ?_)
      have tf83 : mo_hd (tp_fld (f80 h0) 10 = o82_x10.toInt) := tff_10 hf_o82
      have tf84 : mo_hd (tp_fld (f80 h0) 11 = o82_x11.toInt) := tff_11 hf_o82
      have tf85 : mo_hd (tp_fld (f80 h0) 9 = o82_x9.toInt) := tff_9 hf_o82
      have tf86 : mo_hd (tp_fld (f80 h0) 12 = o82_x12.toInt) := tff_12 hf_o82
      have tf87 : mo_hd (mo_fj (f80 h0) 13 = o82_x13.toInt) := tff_13 hf_o82
      have tf88 : mo_hd (tp_fld (f80 h0) 15 = o82_x15.toInt) := tff_15 hf_o82
      have tf89 : mo_hd (tp_fld (f80 h0) 19 = o82_x19.toInt) := tff_19 hf_o82
      have tf90 : mo_hd (tp_fld (f80 h0) 20 = o82_x20.toInt) := tff_20 hf_o82
      have tf91 : mo_hd (tp_fld (f80 h0) 22 = o82_x22.toInt) := tff_22 hf_o82
      have tf92 : mo_hd (tp_fld (f80 h0) 28 = o82_x28.toInt) := tff_28 hf_o82
      have ro82_2 := tp_hu ro82_2; have ro82_3 := tp_hu ro82_3; have ro82_1 := tp_hu ro82_1; have ro82_14 := tp_hu ro82_14; have ro82_4 := tp_hu ro82_4; have ro82_5 := tp_hu ro82_5; have ro26_5 := tp_hu ro26_5; have ro82_6 := tp_hu ro82_6; have ro26_6 := tp_hu ro26_6; have ro82_7 := tp_hu ro82_7; have ro26_7 := tp_hu ro26_7; have ro82_8 := tp_hu ro82_8; have ro26_8 := tp_hu ro26_8; have ro82_9 := tp_hu ro82_9; have ro26_9 := tp_hu ro26_9
      have tk93 : mo_hd ((o82_x10.toInt ≤ o82_x11.toInt ∧ o82_x11.toInt ≤ o82_x9.toInt ∧ (o82_x12.toInt = 0 ∨ o82_x10.toInt < o82_x11.toInt) ∧ (o82_x12.toInt = 1 → o82_x11.toInt = o82_x10.toInt + 1 → o82_x13.toInt ≤ 26)) ∧ (o82_x15.toInt = 0 → o26_x15.toInt = 0 ∧ o26_x11.toInt ≤ o82_x10.toInt ∧ (1 : Int) ≠ 0) ∧ (o82_x15.toInt ≠ 0 → o82_x10.toInt = o26_x10.toInt) ∧ o26_x10.toInt ≤ o82_x10.toInt ∧ o26_x15.toInt ≤ o82_x15.toInt ∧ o82_x9.toInt = o26_x9.toInt ∧ o82_x19.toInt = o26_x19.toInt ∧ o82_x20.toInt = o26_x20.toInt ∧ o82_x22.toInt = o26_x22.toInt ∧ o82_x28.toInt = o26_x28.toInt) := by have q9 := hw79p; first | (simp only [(mo_un tf83), (mo_un tf84), (mo_un tf85), (mo_un tf86), (mo_un tf87), (mo_un tf88), (mo_un tf31), (mo_un tf29), (mo_un tf28), (mo_un tf27), (mo_un tf89), (mo_un tf32), (mo_un tf90), (mo_un tf33), (mo_un tf91), (mo_un tf34), (mo_un tf92), (mo_un tf35), mo_i1, mo_l1] at q9; exact q9) | (rw [(mo_un tf83), (mo_un tf84), (mo_un tf85), (mo_un tf86), (mo_un tf87), (mo_un tf88), (mo_un tf31), (mo_un tf29), (mo_un tf28), (mo_un tf27), (mo_un tf89), (mo_un tf32), (mo_un tf90), (mo_un tf33), (mo_un tf91), (mo_un tf34), (mo_un tf92), (mo_un tf35)] at q9; exact q9)
      have e9 := (Int32.toInt_inj.mp tk93.2.2.2.2.2.1).symm; subst e9
      have e9 := (Int32.toInt_inj.mp tk93.2.2.2.2.2.2.1).symm; subst e9
      have e9 := (Int32.toInt_inj.mp tk93.2.2.2.2.2.2.2.1).symm; subst e9
      have e9 := (Int32.toInt_inj.mp tk93.2.2.2.2.2.2.2.2.1).symm; subst e9
      have e9 := (Int32.toInt_inj.mp tk93.2.2.2.2.2.2.2.2.2).symm; subst e9
      have tk93l : (o82_x10.toInt ≤ o82_x11.toInt) ∧ (o82_x11.toInt ≤ o26_x9.toInt) ∧ (o26_x10.toInt ≤ o82_x10.toInt) ∧ (o26_x15.toInt ≤ o82_x15.toInt) := ⟨tk93.1.1, tk93.1.2.1, tk93.2.2.2.1, tk93.2.2.2.2.1⟩
      clear hw79p
      refine lv_iload hx hb dX12_number_36 (lv_at hl 0 rfl) ?_
      exact W.iret (v := z38) hx hb hr (fun t ht hW => ⟨⟨z38, f80, rfl, ⟨hT, hR, trivial, (by first | (simp only [(mo_un tf83), (mo_un tf84), (mo_un tf85), (mo_un tf86), (mo_un tf87), (mo_un tf88), (mo_un tf31), (mo_un tf29), (mo_un tf28), (mo_un tf27), (mo_un tf89), (mo_un tf32), (mo_un tf90), (mo_un tf33), (mo_un tf91), (mo_un tf34), (mo_un tf92), (mo_un tf35), mo_i1, mo_l1]; exact (show (o82_x10.toInt ≤ o82_x11.toInt ∧ o82_x11.toInt ≤ o26_x9.toInt ∧ (o82_x12.toInt = 0 ∨ o82_x10.toInt < o82_x11.toInt) ∧ (o82_x12.toInt = 1 → o82_x11.toInt = o82_x10.toInt + 1 → o82_x13.toInt ≤ 26)) ∧ (o82_x15.toInt = 0 → o26_x15.toInt = 0 ∧ o26_x11.toInt ≤ o82_x10.toInt) ∧ (o82_x15.toInt ≠ 0 → o82_x10.toInt = o26_x10.toInt) ∧ o26_x10.toInt ≤ o82_x10.toInt ∧ o26_x15.toInt ≤ o82_x15.toInt ∧ o26_x9.toInt = o26_x9.toInt ∧ o26_x19.toInt = o26_x19.toInt ∧ o26_x20.toInt = o26_x20.toInt ∧ o26_x22.toInt = o26_x22.toInt ∧ o26_x28.toInt = o26_x28.toInt from by exact ⟨⟨(by (first | omega | (have u1 := mo_un tk93; first | omega | (have u0 := mo_un h1; omega)))), (by (first | omega | (have u1 := mo_un tk93; first | omega | (have u0 := mo_un h1; omega)))), tk93.1.2.2.1, tk93.1.2.2.2⟩, (by (first | omega | (have u1 := mo_un tk93; first | omega | (have u0 := mo_un h1; omega)))), tk93.2.2.1, (by (first | omega | (have u1 := mo_un tk93; first | omega | (have u0 := mo_un h1; omega)))), (by (first | omega | (have u1 := mo_un tk93; first | omega | (have u0 := mo_un h1; omega)))), (by (first | omega | (have u1 := mo_un tk93; first | omega | (have u0 := mo_un h1; omega)))), (by (first | omega | (have u1 := mo_un tk93; first | omega | (have u0 := mo_un h1; omega)))), (by (first | omega | (have u1 := mo_un tk93; first | omega | (have u0 := mo_un h1; omega)))), (by (first | omega | (have u1 := mo_un tk93; first | omega | (have u0 := mo_un h1; omega)))), (by (first | omega | (have u1 := mo_un tk93; first | omega | (have u0 := mo_un h1; omega))))⟩)) | (rw [(mo_un tf83), (mo_un tf84), (mo_un tf85), (mo_un tf86), (mo_un tf87), (mo_un tf88), (mo_un tf31), (mo_un tf29), (mo_un tf28), (mo_un tf27), (mo_un tf89), (mo_un tf32), (mo_un tf90), (mo_un tf33), (mo_un tf91), (mo_un tf34), (mo_un tf92), (mo_un tf35)]; exact (show (o82_x10.toInt ≤ o82_x11.toInt ∧ o82_x11.toInt ≤ o26_x9.toInt ∧ (o82_x12.toInt = 0 ∨ o82_x10.toInt < o82_x11.toInt) ∧ (o82_x12.toInt = 1 → o82_x11.toInt = o82_x10.toInt + 1 → o82_x13.toInt ≤ 26)) ∧ (o82_x15.toInt = 0 → o26_x15.toInt = 0 ∧ o26_x11.toInt ≤ o82_x10.toInt) ∧ (o82_x15.toInt ≠ 0 → o82_x10.toInt = o26_x10.toInt) ∧ o26_x10.toInt ≤ o82_x10.toInt ∧ o26_x15.toInt ≤ o82_x15.toInt ∧ o26_x9.toInt = o26_x9.toInt ∧ o26_x19.toInt = o26_x19.toInt ∧ o26_x20.toInt = o26_x20.toInt ∧ o26_x22.toInt = o26_x22.toInt ∧ o26_x28.toInt = o26_x28.toInt from by exact ⟨⟨(by (first | omega | (have u1 := mo_un tk93; first | omega | (have u0 := mo_un h1; omega)))), (by (first | omega | (have u1 := mo_un tk93; first | omega | (have u0 := mo_un h1; omega)))), tk93.1.2.2.1, tk93.1.2.2.2⟩, (by (first | omega | (have u1 := mo_un tk93; first | omega | (have u0 := mo_un h1; omega)))), tk93.2.2.1, (by (first | omega | (have u1 := mo_un tk93; first | omega | (have u0 := mo_un h1; omega)))), (by (first | omega | (have u1 := mo_un tk93; first | omega | (have u0 := mo_un h1; omega)))), (by (first | omega | (have u1 := mo_un tk93; first | omega | (have u0 := mo_un h1; omega)))), (by (first | omega | (have u1 := mo_un tk93; first | omega | (have u0 := mo_un h1; omega)))), (by (first | omega | (have u1 := mo_un tk93; first | omega | (have u0 := mo_un h1; omega)))), (by (first | omega | (have u1 := mo_un tk93; first | omega | (have u0 := mo_un h1; omega)))), (by (first | omega | (have u1 := mo_un tk93; first | omega | (have u0 := mo_un h1; omega))))⟩)))⟩, by rw [ht]; exact hP, va_K.moved hW.alike hK, hD⟩, hS.F ht⟩) hS.2.2 dX12_number_38
set_option maxHeartbeats 4000000 in
set_option maxRecDepth 100000 in
theorem t_X12_emit (l : Launch) (dC : Nat → ClassId) (dI : Nat → Nat → Nat) (sz : Nat) (κ : Nat → ClassId) (Θ : Nat → Option Int) (τ ν : Nat → Nat) (ρ : Nat → Nat → Nat) (L : List Nat) (f : Nat → va_E) (hG : tp_G τ ν ρ L) (hT : tp_T (mo_O κ Θ) κ τ ν ρ f) (h0 : Nat) (v : Int32) (u : Int32) (ht_h0 : τ h0 = 13) (h22 : (tp_fld (f h0) 22) < 400) : Met l yX12_emit wqX12_emit ({ frames := 2, cells := 0, slots := 0, locals := 400 }) (va_Pc [.ref h0, .int v, .int u] (pz_B dC dI (tp_K κ) (va_pl L f) sz)) (va_Qv (fun (f1 : Nat → va_E) => tp_T (mo_O κ Θ) κ τ ν ρ f1 ∧ tp_F τ [13, 53, 54] f f1 ∧ mo_U (mo_R (mo_i (f (ρ h0 23)))) (mo_R (mo_i (f1 (ρ h0 23)))) (tp_fld (f h0) 22) v.toInt ∧ mo_U (mo_R (mo_i (f (ρ h0 24)))) (mo_R (mo_i (f1 (ρ h0 24)))) (tp_fld (f h0) 22) u.toInt ∧ (tp_fld (f1 h0) 22) = (tp_fld (f h0) 22) + 1 ∧ (tp_fld (f1 h0) 9) = (tp_fld (f h0) 9) ∧ (tp_fld (f1 h0) 10) = (tp_fld (f h0) 10) ∧ (tp_fld (f1 h0) 11) = (tp_fld (f h0) 11) ∧ (tp_fld (f1 h0) 12) = (tp_fld (f h0) 12) ∧ (mo_fj (f1 h0) 13) = (mo_fj (f h0) 13) ∧ (tp_fld (f1 h0) 15) = (tp_fld (f h0) 15) ∧ (tp_fld (f1 h0) 19) = (tp_fld (f h0) 19) ∧ (tp_fld (f1 h0) 20) = (tp_fld (f h0) 20) ∧ (tp_fld (f1 h0) 28) = (tp_fld (f h0) 28)) (fun (f1 : Nat → va_E) (t : State) => pz_E dC dI (tp_K κ) (va_A (va_pl L f) sz) (va_pl L f1) t) (va_A (va_pl L f) sz)) 0 0 (va_A (va_pl L f) sz) := by
  refine Met.ofW (cc := cX12_emit) (maxL := 3) (ret := none) (by decide) rfl ?_
  intro p e s m args below meth c s₁ B hml hv
  obtain ⟨rfl, hsz, hP, hK, hD0, hN⟩ := hv
  have hx := B.exec
  have hb := B.bytes
  have hr := B.returns
  have hts := fun (w : Cond) (h : w ∈ WALL) => atoms_spec (ws := wqX12_emit) B.pre w (List.mem_cons_of_mem _ h)
  have hown : s.vm.findClass RX12 = some m.cls := findClass_of_methodNamed B.named
  have hlocks := B.notSynchronized
  subst hsz
  have hD := hD0.self (sz := s.heap.size)
  generalize hAe : va_A (va_pl L f) s.heap.size = A at hD ⊢
  have hA : ∀ q : Nat, s.heap.size ≤ q → A q := fun q h => by rw [← hAe]; exact Or.inr h
  have hS : va_S A s.heap s.heap [] := va_S.rf
  have hR : tp_F τ [13, 53, 54] f f := tp_F.rf
  have hl := lv_entry ([.ref h0, .int v, .int u]) (n := 3) (Nat.le_of_ble_eq_true rfl)
  rw [lg_entry_eq]
  generalize (lg_sl ([.ref h0, .int v, .int u]) ++ List.replicate (3 - (lg_sl ([.ref h0, .int v, .int u])).length) Slot.unset).toArray = ls at hl ⊢
  have hl : lv_has ls 3 [(0, .ref h0), (1, .int v), (2, .int u)] := hl
  refine tgk_13 hG ht_h0 (fun y1 y2 y3 y4 y5 y6 y7 y8 y9 y10 y11 y12 y13 y14 y15 y16 y17 y18 y19 y20 y21 y22 y23 y24 y25 => ?_)
  refine tpk_53 hT y8 (fun g27 hf_o26 => ?_)
  have tf28 : mo_hd (mo_i (f (ρ h0 23)) = g27) := tfa_i hf_o26
  refine tpk_54 hT y9 (fun g30 hf_o29 => ?_)
  have tf31 : mo_hd (mo_i (f (ρ h0 24)) = g30) := tfa_i hf_o29
  refine tpk_13 hT ht_h0 (fun o32_x0 o32_x1 o32_x7 o32_x9 o32_x10 o32_x11 o32_x12 o32_x13 o32_x14 o32_x15 o32_x16 o32_x17 o32_x18 o32_x19 o32_x20 o32_x22 o32_x25 o32_x28 o32_x29 o32_x32 o32_x33 o32_x34 o32_x35 o32_x36 o32_x37 o32_x38 o32_x47 o32_x48 hf_o32 ro32_0 ro32_1 ro32_2 ro32_3 ro32_4 ro32_5 ro32_6 ro32_7 ro32_8 ro32_9 ro32_10 ro32_11 ro32_12 ro32_13 ro32_14 => ?_)
  have tf33 : mo_hd (tp_fld (f h0) 9 = o32_x9.toInt) := tff_9 hf_o32
  have tf34 : mo_hd (tp_fld (f h0) 10 = o32_x10.toInt) := tff_10 hf_o32
  have tf35 : mo_hd (tp_fld (f h0) 11 = o32_x11.toInt) := tff_11 hf_o32
  have tf36 : mo_hd (tp_fld (f h0) 12 = o32_x12.toInt) := tff_12 hf_o32
  have tf37 : mo_hd (tp_fld (f h0) 15 = o32_x15.toInt) := tff_15 hf_o32
  have tf38 : mo_hd (tp_fld (f h0) 19 = o32_x19.toInt) := tff_19 hf_o32
  have tf39 : mo_hd (tp_fld (f h0) 20 = o32_x20.toInt) := tff_20 hf_o32
  have tf40 : mo_hd (tp_fld (f h0) 22 = o32_x22.toInt) := tff_22 hf_o32
  have tf41 : mo_hd (tp_fld (f h0) 28 = o32_x28.toInt) := tff_28 hf_o32
  have tf42 : mo_hd (mo_fj (f h0) 13 = o32_x13.toInt) := tff_13 hf_o32
  have ro32_8 := tp_hu ro32_8
  replace h22 : o32_x22.toInt < 400 := by have q9 := h22; first | (simp only [(mo_un tf40), mo_i1, mo_l1] at q9; exact q9) | (rw [(mo_un tf40)] at q9; exact q9)
  refine lv_aload_n hx hb dX12_emit_0 rfl (lv_at hl 0 rfl) ?_
  refine tpk_pos (tp_in hG ht_h0 (by decide)) hf_o32 (fun q43 eq43 => ?_)
  refine va_get (D := (dC, dI)) (ci := 12) (v := .ref (ρ h0 23)) (C := RX12) (T := TX12) (N := 53) hx hb hts hfX12 hown hK hP q43 eq43 rfl 23 (by decide) (hts (.fieldLink RX12 37 "ColdShipsModel" "nOp" "[I") wa_157) (fun _ h9 => h9) rfl dX12_emit_1 ?_
  refine lv_aload_n hx hb dX12_emit_4 rfl (lv_at hl 0 rfl) ?_
  refine va_get (D := (dC, dI)) (ci := 12) (v := .int o32_x22) (C := RX12) (T := TX12) (N := 53) hx hb hts hfX12 hown hK hP q43 eq43 rfl 22 (by decide) (hts (.fieldLink RX12 297 "ColdShipsModel" "nCode" "I") wa_989) (fun _ h9 => h9) rfl dX12_emit_5 ?_
  refine lv_iload_n hx hb dX12_emit_8 rfl (lv_at hl 1 rfl) ?_
  refine tpk_pos (tp_in hG y8 (by decide)) hf_o26 (fun q44 eq44 => ?_)
  refine va_iast hx hb hK hP hD hS q44 0 eq44 rfl (vp_in_iff.mpr ⟨by omega, by omega⟩) dX12_emit_9 (tp_k (.inl (κ 0, 400, .inl (upd g27 o32_x22.toNatClampNeg v))) hD (tp_in hG y8 (by decide)) eq44 (fun f45 H locs hP hD hS g47 k46 => ?_))
  have hT := hT.up y8 g47 k46 tp_o53
  have hR := hR.up y8 (by decide) k46
  have hU49 : mo_U (mo_R g27) (mo_R (upd g27 o32_x22.toNatClampNeg v)) (o32_x22.toInt) (v.toInt) := mo_up (by omega) (rfl : v.toInt = _) (by omega)
  generalize (upd g27 o32_x22.toNatClampNeg v) = g48 at g47 hU49
  refine lv_aload_n hx hb dX12_emit_10 rfl (lv_at hl 0 rfl) ?_
  have hf_50 : f45 h0 = .inr (12, [.int o32_x0, .int o32_x1, .ref (ρ h0 2), .ref (ρ h0 3), .ref (ρ h0 4), .ref (ρ h0 5), .ref (ρ h0 6), .int o32_x7, .ref (ρ h0 8), .int o32_x9, .int o32_x10, .int o32_x11, .int o32_x12, .long o32_x13, .int o32_x14, .int o32_x15, .int o32_x16, .int o32_x17, .int o32_x18, .int o32_x19, .int o32_x20, .ref (ρ h0 21), .int o32_x22, .ref (ρ h0 23), .ref (ρ h0 24), .int o32_x25, .ref (ρ h0 26), .ref (ρ h0 27), .int o32_x28, .int o32_x29, .ref (ρ h0 30), .ref (ρ h0 31), .int o32_x32, .long o32_x33, .long o32_x34, .long o32_x35, .int o32_x36, .int o32_x37, .int o32_x38, .ref (ρ h0 39), .ref (ρ h0 40), .ref (ρ h0 41), .ref (ρ h0 42), .ref (ρ h0 43), .ref (ρ h0 44), .ref (ρ h0 45), .ref (ρ h0 46), .int o32_x47, .int o32_x48, .ref (ρ h0 49), .ref (ρ h0 50), .ref (ρ h0 51), .ref (ρ h0 52)]) := (k46 _ (tp_ne ht_h0 y8 (by decide))).trans hf_o32
  refine tpk_pos (tp_in hG ht_h0 (by decide)) hf_50 (fun q51 eq51 => ?_)
  refine va_get (D := (dC, dI)) (ci := 12) (v := .ref (ρ h0 24)) (C := RX12) (T := TX12) (N := 53) hx hb hts hfX12 hown hK hP q51 eq51 rfl 24 (by decide) (hts (.fieldLink RX12 40 "ColdShipsModel" "nArg" "[I") wa_158) (fun _ h9 => h9) rfl dX12_emit_11 ?_
  refine lv_aload_n hx hb dX12_emit_14 rfl (lv_at hl 0 rfl) ?_
  refine va_get (D := (dC, dI)) (ci := 12) (v := .int o32_x22) (C := RX12) (T := TX12) (N := 53) hx hb hts hfX12 hown hK hP q51 eq51 rfl 22 (by decide) (hts (.fieldLink RX12 297 "ColdShipsModel" "nCode" "I") wa_989) (fun _ h9 => h9) rfl dX12_emit_15 ?_
  refine lv_iload_n hx hb dX12_emit_18 rfl (lv_at hl 2 rfl) ?_
  have hf_52 : f45 (ρ h0 24) = .inl (κ 0, 400, .inl g30) := (k46 _ (tp_ne y9 y8 (by decide))).trans hf_o29
  refine tpk_pos (tp_in hG y9 (by decide)) hf_52 (fun q53 eq53 => ?_)
  refine va_iast hx hb hK hP hD hS q53 0 eq53 rfl (vp_in_iff.mpr ⟨by omega, by omega⟩) dX12_emit_19 (tp_k (.inl (κ 0, 400, .inl (upd g30 o32_x22.toNatClampNeg u))) hD (tp_in hG y9 (by decide)) eq53 (fun f54 H locs hP hD hS g56 k55 => ?_))
  have hT := hT.up y9 g56 k55 tp_o54
  have hR := hR.up y9 (by decide) k55
  have hU58 : mo_U (mo_R g30) (mo_R (upd g30 o32_x22.toNatClampNeg u)) (o32_x22.toInt) (u.toInt) := mo_up (by omega) (rfl : u.toInt = _) (by omega)
  generalize (upd g30 o32_x22.toNatClampNeg u) = g57 at g56 hU58
  refine lv_aload_n hx hb dX12_emit_20 rfl (lv_at hl 0 rfl) ?_
  refine lv_dup hx hb dX12_emit_21 rfl ?_
  have hf_59 : f54 h0 = .inr (12, [.int o32_x0, .int o32_x1, .ref (ρ h0 2), .ref (ρ h0 3), .ref (ρ h0 4), .ref (ρ h0 5), .ref (ρ h0 6), .int o32_x7, .ref (ρ h0 8), .int o32_x9, .int o32_x10, .int o32_x11, .int o32_x12, .long o32_x13, .int o32_x14, .int o32_x15, .int o32_x16, .int o32_x17, .int o32_x18, .int o32_x19, .int o32_x20, .ref (ρ h0 21), .int o32_x22, .ref (ρ h0 23), .ref (ρ h0 24), .int o32_x25, .ref (ρ h0 26), .ref (ρ h0 27), .int o32_x28, .int o32_x29, .ref (ρ h0 30), .ref (ρ h0 31), .int o32_x32, .long o32_x33, .long o32_x34, .long o32_x35, .int o32_x36, .int o32_x37, .int o32_x38, .ref (ρ h0 39), .ref (ρ h0 40), .ref (ρ h0 41), .ref (ρ h0 42), .ref (ρ h0 43), .ref (ρ h0 44), .ref (ρ h0 45), .ref (ρ h0 46), .int o32_x47, .int o32_x48, .ref (ρ h0 49), .ref (ρ h0 50), .ref (ρ h0 51), .ref (ρ h0 52)]) := (k55 _ (tp_ne ht_h0 y9 (by decide))).trans hf_50
  refine tpk_pos (tp_in hG ht_h0 (by decide)) hf_59 (fun q60 eq60 => ?_)
  refine va_get (D := (dC, dI)) (ci := 12) (v := .int o32_x22) (C := RX12) (T := TX12) (N := 53) hx hb hts hfX12 hown hK hP q60 eq60 rfl 22 (by decide) (hts (.fieldLink RX12 297 "ColdShipsModel" "nCode" "I") wa_989) (fun _ h9 => h9) rfl dX12_emit_22 ?_
  refine lv_iconst (v := 1) hx hb dX12_emit_25 (by decide) ?_
  refine lv_iadd hx hb dX12_emit_26 ?_
  refine lv_topi (fun z61 ez61 => ?_)
  have iz61 : z61.toInt = o32_x22.toInt + 1 := zi_add ez61 rfl rfl (by omega) (by omega)
  refine va_put (D := (dC, dI)) (ci := 12) (v := .int z61) (ty := .int) (C := RX12) (T := TX12) (N := 53) hx hb hts hfX12 tyX12 tyX12_ok nmX12 hown hK hP hD hS q60 eq60 rfl 22 (by decide) (hts (.fieldLink RX12 297 "ColdShipsModel" "nCode" "I") wa_989) (fun _ h9 => h9) rfl (tyX12_ok 22 (by decide)) rfl rfl (Nat.le_of_ble_eq_true rfl) dX12_emit_27 (tp_k (.inr (12, [.int o32_x0, .int o32_x1, .ref (ρ h0 2), .ref (ρ h0 3), .ref (ρ h0 4), .ref (ρ h0 5), .ref (ρ h0 6), .int o32_x7, .ref (ρ h0 8), .int o32_x9, .int o32_x10, .int o32_x11, .int o32_x12, .long o32_x13, .int o32_x14, .int o32_x15, .int o32_x16, .int o32_x17, .int o32_x18, .int o32_x19, .int o32_x20, .ref (ρ h0 21), .int z61, .ref (ρ h0 23), .ref (ρ h0 24), .int o32_x25, .ref (ρ h0 26), .ref (ρ h0 27), .int o32_x28, .int o32_x29, .ref (ρ h0 30), .ref (ρ h0 31), .int o32_x32, .long o32_x33, .long o32_x34, .long o32_x35, .int o32_x36, .int o32_x37, .int o32_x38, .ref (ρ h0 39), .ref (ρ h0 40), .ref (ρ h0 41), .ref (ρ h0 42), .ref (ρ h0 43), .ref (ρ h0 44), .ref (ρ h0 45), .ref (ρ h0 46), .int o32_x47, .int o32_x48, .ref (ρ h0 49), .ref (ρ h0 50), .ref (ρ h0 51), .ref (ρ h0 52)])) hD (tp_in hG ht_h0 (by decide)) eq60 (fun f62 H locs hP hD hS g64 k63 => ?_))
  have hT := hT.up ht_h0 g64 k63 ⟨_, _, _, _, _, _, _, _, _, _, _, _, _, _, _, _, _, _, _, _, _, _, _, _, _, _, _, _, rfl, ro32_0, ro32_1, ro32_2, ro32_3, ro32_4, ro32_5, ro32_6, ro32_7, (by omega), ro32_9, ro32_10, ro32_11, ro32_12, ro32_13, ro32_14⟩
  have hR := hR.up ht_h0 (by decide) k63
  have hf_65 : f54 (ρ h0 23) = .inl (κ 0, 400, .inl g48) := (k55 _ (tp_ne y8 y9 (by decide))).trans g47
  have hf_66 : f62 (ρ h0 23) = .inl (κ 0, 400, .inl g48) := (k63 _ (tp_ne y8 ht_h0 (by decide))).trans hf_65
  have tf67 : mo_hd (mo_i (f62 (ρ h0 23)) = g48) := tfa_i hf_66
  have hf_68 : f62 (ρ h0 24) = .inl (κ 0, 400, .inl g57) := (k63 _ (tp_ne y9 ht_h0 (by decide))).trans g56
  have tf69 : mo_hd (mo_i (f62 (ρ h0 24)) = g57) := tfa_i hf_68
  have tf70 : mo_hd (tp_fld (f62 h0) 22 = z61.toInt) := tff_22 g64
  have tf71 : mo_hd (tp_fld (f62 h0) 9 = o32_x9.toInt) := tff_9 g64
  have tf72 : mo_hd (tp_fld (f62 h0) 10 = o32_x10.toInt) := tff_10 g64
  have tf73 : mo_hd (tp_fld (f62 h0) 11 = o32_x11.toInt) := tff_11 g64
  have tf74 : mo_hd (tp_fld (f62 h0) 12 = o32_x12.toInt) := tff_12 g64
  have tf75 : mo_hd (mo_fj (f62 h0) 13 = o32_x13.toInt) := tff_13 g64
  have tf76 : mo_hd (tp_fld (f62 h0) 15 = o32_x15.toInt) := tff_15 g64
  have tf77 : mo_hd (tp_fld (f62 h0) 19 = o32_x19.toInt) := tff_19 g64
  have tf78 : mo_hd (tp_fld (f62 h0) 20 = o32_x20.toInt) := tff_20 g64
  have tf79 : mo_hd (tp_fld (f62 h0) 28 = o32_x28.toInt) := tff_28 g64
  have ro32_1 := tp_hu ro32_1; have ro32_14 := tp_hu ro32_14; have ro32_2 := tp_hu ro32_2; have ro32_3 := tp_hu ro32_3; have ro32_4 := tp_hu ro32_4; have ro32_5 := tp_hu ro32_5; have ro32_6 := tp_hu ro32_6; have ro32_7 := tp_hu ro32_7; have ro32_9 := tp_hu ro32_9
  exact W.vret hx hb hr (fun t ht hW => ⟨⟨f62, rfl, ⟨hT, hR, (by first | (simp only [(mo_un tf28), (mo_un tf67), (mo_un tf40), (mo_un tf31), (mo_un tf69), (mo_un tf70), (mo_un tf71), (mo_un tf33), (mo_un tf72), (mo_un tf34), (mo_un tf73), (mo_un tf35), (mo_un tf74), (mo_un tf36), (mo_un tf75), (mo_un tf42), (mo_un tf76), (mo_un tf37), (mo_un tf77), (mo_un tf38), (mo_un tf78), (mo_un tf39), (mo_un tf79), (mo_un tf41), mo_i1, mo_l1]; exact (show mo_U (mo_R g27) (mo_R g48) o32_x22.toInt v.toInt ∧ mo_U (mo_R g30) (mo_R g57) o32_x22.toInt u.toInt ∧ z61.toInt = o32_x22.toInt + 1 ∧ o32_x9.toInt = o32_x9.toInt ∧ o32_x10.toInt = o32_x10.toInt ∧ o32_x11.toInt = o32_x11.toInt ∧ o32_x12.toInt = o32_x12.toInt ∧ o32_x13.toInt = o32_x13.toInt ∧ o32_x15.toInt = o32_x15.toInt ∧ o32_x19.toInt = o32_x19.toInt ∧ o32_x20.toInt = o32_x20.toInt ∧ o32_x28.toInt = o32_x28.toInt from ⟨hU49, hU58, by omega, rfl, rfl, rfl, rfl, rfl, rfl, rfl, rfl, rfl⟩)) | (rw [(mo_un tf28), (mo_un tf67), (mo_un tf40), (mo_un tf31), (mo_un tf69), (mo_un tf70), (mo_un tf71), (mo_un tf33), (mo_un tf72), (mo_un tf34), (mo_un tf73), (mo_un tf35), (mo_un tf74), (mo_un tf36), (mo_un tf75), (mo_un tf42), (mo_un tf76), (mo_un tf37), (mo_un tf77), (mo_un tf38), (mo_un tf78), (mo_un tf39), (mo_un tf79), (mo_un tf41)]; exact (show mo_U (mo_R g27) (mo_R g48) o32_x22.toInt v.toInt ∧ mo_U (mo_R g30) (mo_R g57) o32_x22.toInt u.toInt ∧ z61.toInt = o32_x22.toInt + 1 ∧ o32_x9.toInt = o32_x9.toInt ∧ o32_x10.toInt = o32_x10.toInt ∧ o32_x11.toInt = o32_x11.toInt ∧ o32_x12.toInt = o32_x12.toInt ∧ o32_x13.toInt = o32_x13.toInt ∧ o32_x15.toInt = o32_x15.toInt ∧ o32_x19.toInt = o32_x19.toInt ∧ o32_x20.toInt = o32_x20.toInt ∧ o32_x28.toInt = o32_x28.toInt from ⟨hU49, hU58, by omega, rfl, rfl, rfl, rfl, rfl, rfl, rfl, rfl, rfl⟩)))⟩, by rw [ht]; exact hP, va_K.moved hW.alike hK, hD⟩, hS.F ht⟩) hS.2.2 dX12_emit_30
end
section
set_option maxHeartbeats 4000000 in
set_option maxRecDepth 100000 in
theorem t_X12_push (l : Launch) (dC : Nat → ClassId) (dI : Nat → Nat → Nat) (sz : Nat) (κ : Nat → ClassId) (Θ : Nat → Option Int) (τ ν : Nat → Nat) (ρ : Nat → Nat → Nat) (L : List Nat) (f : Nat → va_E) (hG : tp_G τ ν ρ L) (hT : tp_T (mo_O κ Θ) κ τ ν ρ f) (h0 : Nat) (v : Int32) (u : Int32) (ht_h0 : τ h0 = 13) (h28 : (tp_fld (f h0) 28) < 400) : Met l yX12_push wqX12_push ({ frames := 2, cells := 0, slots := 0, locals := 400 }) (va_Pc [.ref h0, .int v, .int u] (pz_B dC dI (tp_K κ) (va_pl L f) sz)) (va_Qv (fun (f1 : Nat → va_E) => tp_T (mo_O κ Θ) κ τ ν ρ f1 ∧ tp_F τ [13, 56, 57] f f1 ∧ mo_U (mo_R (mo_i (f (ρ h0 26)))) (mo_R (mo_i (f1 (ρ h0 26)))) (tp_fld (f h0) 28) v.toInt ∧ mo_U (mo_R (mo_i (f (ρ h0 27)))) (mo_R (mo_i (f1 (ρ h0 27)))) (tp_fld (f h0) 28) u.toInt ∧ (tp_fld (f1 h0) 28) = (tp_fld (f h0) 28) + 1 ∧ (tp_fld (f1 h0) 9) = (tp_fld (f h0) 9) ∧ (tp_fld (f1 h0) 10) = (tp_fld (f h0) 10) ∧ (tp_fld (f1 h0) 11) = (tp_fld (f h0) 11) ∧ (tp_fld (f1 h0) 12) = (tp_fld (f h0) 12) ∧ (mo_fj (f1 h0) 13) = (mo_fj (f h0) 13) ∧ (tp_fld (f1 h0) 15) = (tp_fld (f h0) 15) ∧ (tp_fld (f1 h0) 19) = (tp_fld (f h0) 19) ∧ (tp_fld (f1 h0) 20) = (tp_fld (f h0) 20) ∧ (tp_fld (f1 h0) 22) = (tp_fld (f h0) 22)) (fun (f1 : Nat → va_E) (t : State) => pz_E dC dI (tp_K κ) (va_A (va_pl L f) sz) (va_pl L f1) t) (va_A (va_pl L f) sz)) 0 0 (va_A (va_pl L f) sz) := by
  refine Met.ofW (cc := cX12_push) (maxL := 3) (ret := none) (by decide) rfl ?_
  intro p e s m args below meth c s₁ B hml hv
  obtain ⟨rfl, hsz, hP, hK, hD0, hN⟩ := hv
  have hx := B.exec
  have hb := B.bytes
  have hr := B.returns
  have hts := fun (w : Cond) (h : w ∈ WALL) => atoms_spec (ws := wqX12_push) B.pre w (List.mem_cons_of_mem _ h)
  have hown : s.vm.findClass RX12 = some m.cls := findClass_of_methodNamed B.named
  have hlocks := B.notSynchronized
  subst hsz
  have hD := hD0.self (sz := s.heap.size)
  generalize hAe : va_A (va_pl L f) s.heap.size = A at hD ⊢
  have hA : ∀ q : Nat, s.heap.size ≤ q → A q := fun q h => by rw [← hAe]; exact Or.inr h
  have hS : va_S A s.heap s.heap [] := va_S.rf
  have hR : tp_F τ [13, 56, 57] f f := tp_F.rf
  have hl := lv_entry ([.ref h0, .int v, .int u]) (n := 3) (Nat.le_of_ble_eq_true rfl)
  rw [lg_entry_eq]
  generalize (lg_sl ([.ref h0, .int v, .int u]) ++ List.replicate (3 - (lg_sl ([.ref h0, .int v, .int u])).length) Slot.unset).toArray = ls at hl ⊢
  have hl : lv_has ls 3 [(0, .ref h0), (1, .int v), (2, .int u)] := hl
  refine tgk_13 hG ht_h0 (fun y1 y2 y3 y4 y5 y6 y7 y8 y9 y10 y11 y12 y13 y14 y15 y16 y17 y18 y19 y20 y21 y22 y23 y24 y25 => ?_)
  refine tpk_56 hT y10 (fun g27 hf_o26 => ?_)
  have tf28 : mo_hd (mo_i (f (ρ h0 26)) = g27) := tfa_i hf_o26
  refine tpk_57 hT y11 (fun g30 hf_o29 => ?_)
  have tf31 : mo_hd (mo_i (f (ρ h0 27)) = g30) := tfa_i hf_o29
  refine tpk_13 hT ht_h0 (fun o32_x0 o32_x1 o32_x7 o32_x9 o32_x10 o32_x11 o32_x12 o32_x13 o32_x14 o32_x15 o32_x16 o32_x17 o32_x18 o32_x19 o32_x20 o32_x22 o32_x25 o32_x28 o32_x29 o32_x32 o32_x33 o32_x34 o32_x35 o32_x36 o32_x37 o32_x38 o32_x47 o32_x48 hf_o32 ro32_0 ro32_1 ro32_2 ro32_3 ro32_4 ro32_5 ro32_6 ro32_7 ro32_8 ro32_9 ro32_10 ro32_11 ro32_12 ro32_13 ro32_14 => ?_)
  have tf33 : mo_hd (tp_fld (f h0) 9 = o32_x9.toInt) := tff_9 hf_o32
  have tf34 : mo_hd (tp_fld (f h0) 10 = o32_x10.toInt) := tff_10 hf_o32
  have tf35 : mo_hd (tp_fld (f h0) 11 = o32_x11.toInt) := tff_11 hf_o32
  have tf36 : mo_hd (tp_fld (f h0) 12 = o32_x12.toInt) := tff_12 hf_o32
  have tf37 : mo_hd (tp_fld (f h0) 15 = o32_x15.toInt) := tff_15 hf_o32
  have tf38 : mo_hd (tp_fld (f h0) 19 = o32_x19.toInt) := tff_19 hf_o32
  have tf39 : mo_hd (tp_fld (f h0) 20 = o32_x20.toInt) := tff_20 hf_o32
  have tf40 : mo_hd (tp_fld (f h0) 22 = o32_x22.toInt) := tff_22 hf_o32
  have tf41 : mo_hd (tp_fld (f h0) 28 = o32_x28.toInt) := tff_28 hf_o32
  have tf42 : mo_hd (mo_fj (f h0) 13 = o32_x13.toInt) := tff_13 hf_o32
  have ro32_9 := tp_hu ro32_9
  replace h28 : o32_x28.toInt < 400 := by have q9 := h28; first | (simp only [(mo_un tf41), mo_i1, mo_l1] at q9; exact q9) | (rw [(mo_un tf41)] at q9; exact q9)
  refine lv_aload_n hx hb dX12_push_0 rfl (lv_at hl 0 rfl) ?_
  refine tpk_pos (tp_in hG ht_h0 (by decide)) hf_o32 (fun q43 eq43 => ?_)
  refine va_get (D := (dC, dI)) (ci := 12) (v := .ref (ρ h0 26)) (C := RX12) (T := TX12) (N := 53) hx hb hts hfX12 hown hK hP q43 eq43 rfl 26 (by decide) (hts (.fieldLink RX12 43 "ColdShipsModel" "pile" "[I") wa_159) (fun _ h9 => h9) rfl dX12_push_1 ?_
  refine lv_aload_n hx hb dX12_push_4 rfl (lv_at hl 0 rfl) ?_
  refine va_get (D := (dC, dI)) (ci := 12) (v := .int o32_x28) (C := RX12) (T := TX12) (N := 53) hx hb hts hfX12 hown hK hP q43 eq43 rfl 28 (by decide) (hts (.fieldLink RX12 300 "ColdShipsModel" "piled" "I") wa_1045) (fun _ h9 => h9) rfl dX12_push_5 ?_
  refine lv_iload_n hx hb dX12_push_8 rfl (lv_at hl 1 rfl) ?_
  refine tpk_pos (tp_in hG y10 (by decide)) hf_o26 (fun q44 eq44 => ?_)
  refine va_iast hx hb hK hP hD hS q44 0 eq44 rfl (vp_in_iff.mpr ⟨by omega, by omega⟩) dX12_push_9 (tp_k (.inl (κ 0, 400, .inl (upd g27 o32_x28.toNatClampNeg v))) hD (tp_in hG y10 (by decide)) eq44 (fun f45 H locs hP hD hS g47 k46 => ?_))
  have hT := hT.up y10 g47 k46 tp_o56
  have hR := hR.up y10 (by decide) k46
  have hU49 : mo_U (mo_R g27) (mo_R (upd g27 o32_x28.toNatClampNeg v)) (o32_x28.toInt) (v.toInt) := mo_up (by omega) (rfl : v.toInt = _) (by omega)
  generalize (upd g27 o32_x28.toNatClampNeg v) = g48 at g47 hU49
  refine lv_aload_n hx hb dX12_push_10 rfl (lv_at hl 0 rfl) ?_
  have hf_50 : f45 h0 = .inr (12, [.int o32_x0, .int o32_x1, .ref (ρ h0 2), .ref (ρ h0 3), .ref (ρ h0 4), .ref (ρ h0 5), .ref (ρ h0 6), .int o32_x7, .ref (ρ h0 8), .int o32_x9, .int o32_x10, .int o32_x11, .int o32_x12, .long o32_x13, .int o32_x14, .int o32_x15, .int o32_x16, .int o32_x17, .int o32_x18, .int o32_x19, .int o32_x20, .ref (ρ h0 21), .int o32_x22, .ref (ρ h0 23), .ref (ρ h0 24), .int o32_x25, .ref (ρ h0 26), .ref (ρ h0 27), .int o32_x28, .int o32_x29, .ref (ρ h0 30), .ref (ρ h0 31), .int o32_x32, .long o32_x33, .long o32_x34, .long o32_x35, .int o32_x36, .int o32_x37, .int o32_x38, .ref (ρ h0 39), .ref (ρ h0 40), .ref (ρ h0 41), .ref (ρ h0 42), .ref (ρ h0 43), .ref (ρ h0 44), .ref (ρ h0 45), .ref (ρ h0 46), .int o32_x47, .int o32_x48, .ref (ρ h0 49), .ref (ρ h0 50), .ref (ρ h0 51), .ref (ρ h0 52)]) := (k46 _ (tp_ne ht_h0 y10 (by decide))).trans hf_o32
  refine tpk_pos (tp_in hG ht_h0 (by decide)) hf_50 (fun q51 eq51 => ?_)
  refine va_get (D := (dC, dI)) (ci := 12) (v := .ref (ρ h0 27)) (C := RX12) (T := TX12) (N := 53) hx hb hts hfX12 hown hK hP q51 eq51 rfl 27 (by decide) (hts (.fieldLink RX12 46 "ColdShipsModel" "pileAt" "[I") wa_160) (fun _ h9 => h9) rfl dX12_push_11 ?_
  refine lv_aload_n hx hb dX12_push_14 rfl (lv_at hl 0 rfl) ?_
  refine va_get (D := (dC, dI)) (ci := 12) (v := .int o32_x28) (C := RX12) (T := TX12) (N := 53) hx hb hts hfX12 hown hK hP q51 eq51 rfl 28 (by decide) (hts (.fieldLink RX12 300 "ColdShipsModel" "piled" "I") wa_1045) (fun _ h9 => h9) rfl dX12_push_15 ?_
  refine lv_iload_n hx hb dX12_push_18 rfl (lv_at hl 2 rfl) ?_
  have hf_52 : f45 (ρ h0 27) = .inl (κ 0, 400, .inl g30) := (k46 _ (tp_ne y11 y10 (by decide))).trans hf_o29
  refine tpk_pos (tp_in hG y11 (by decide)) hf_52 (fun q53 eq53 => ?_)
  refine va_iast hx hb hK hP hD hS q53 0 eq53 rfl (vp_in_iff.mpr ⟨by omega, by omega⟩) dX12_push_19 (tp_k (.inl (κ 0, 400, .inl (upd g30 o32_x28.toNatClampNeg u))) hD (tp_in hG y11 (by decide)) eq53 (fun f54 H locs hP hD hS g56 k55 => ?_))
  have hT := hT.up y11 g56 k55 tp_o57
  have hR := hR.up y11 (by decide) k55
  have hU58 : mo_U (mo_R g30) (mo_R (upd g30 o32_x28.toNatClampNeg u)) (o32_x28.toInt) (u.toInt) := mo_up (by omega) (rfl : u.toInt = _) (by omega)
  generalize (upd g30 o32_x28.toNatClampNeg u) = g57 at g56 hU58
  refine lv_aload_n hx hb dX12_push_20 rfl (lv_at hl 0 rfl) ?_
  refine lv_dup hx hb dX12_push_21 rfl ?_
  have hf_59 : f54 h0 = .inr (12, [.int o32_x0, .int o32_x1, .ref (ρ h0 2), .ref (ρ h0 3), .ref (ρ h0 4), .ref (ρ h0 5), .ref (ρ h0 6), .int o32_x7, .ref (ρ h0 8), .int o32_x9, .int o32_x10, .int o32_x11, .int o32_x12, .long o32_x13, .int o32_x14, .int o32_x15, .int o32_x16, .int o32_x17, .int o32_x18, .int o32_x19, .int o32_x20, .ref (ρ h0 21), .int o32_x22, .ref (ρ h0 23), .ref (ρ h0 24), .int o32_x25, .ref (ρ h0 26), .ref (ρ h0 27), .int o32_x28, .int o32_x29, .ref (ρ h0 30), .ref (ρ h0 31), .int o32_x32, .long o32_x33, .long o32_x34, .long o32_x35, .int o32_x36, .int o32_x37, .int o32_x38, .ref (ρ h0 39), .ref (ρ h0 40), .ref (ρ h0 41), .ref (ρ h0 42), .ref (ρ h0 43), .ref (ρ h0 44), .ref (ρ h0 45), .ref (ρ h0 46), .int o32_x47, .int o32_x48, .ref (ρ h0 49), .ref (ρ h0 50), .ref (ρ h0 51), .ref (ρ h0 52)]) := (k55 _ (tp_ne ht_h0 y11 (by decide))).trans hf_50
  refine tpk_pos (tp_in hG ht_h0 (by decide)) hf_59 (fun q60 eq60 => ?_)
  refine va_get (D := (dC, dI)) (ci := 12) (v := .int o32_x28) (C := RX12) (T := TX12) (N := 53) hx hb hts hfX12 hown hK hP q60 eq60 rfl 28 (by decide) (hts (.fieldLink RX12 300 "ColdShipsModel" "piled" "I") wa_1045) (fun _ h9 => h9) rfl dX12_push_22 ?_
  refine lv_iconst (v := 1) hx hb dX12_push_25 (by decide) ?_
  refine lv_iadd hx hb dX12_push_26 ?_
  refine lv_topi (fun z61 ez61 => ?_)
  have iz61 : z61.toInt = o32_x28.toInt + 1 := zi_add ez61 rfl rfl (by omega) (by omega)
  refine va_put (D := (dC, dI)) (ci := 12) (v := .int z61) (ty := .int) (C := RX12) (T := TX12) (N := 53) hx hb hts hfX12 tyX12 tyX12_ok nmX12 hown hK hP hD hS q60 eq60 rfl 28 (by decide) (hts (.fieldLink RX12 300 "ColdShipsModel" "piled" "I") wa_1045) (fun _ h9 => h9) rfl (tyX12_ok 28 (by decide)) rfl rfl (Nat.le_of_ble_eq_true rfl) dX12_push_27 (tp_k (.inr (12, [.int o32_x0, .int o32_x1, .ref (ρ h0 2), .ref (ρ h0 3), .ref (ρ h0 4), .ref (ρ h0 5), .ref (ρ h0 6), .int o32_x7, .ref (ρ h0 8), .int o32_x9, .int o32_x10, .int o32_x11, .int o32_x12, .long o32_x13, .int o32_x14, .int o32_x15, .int o32_x16, .int o32_x17, .int o32_x18, .int o32_x19, .int o32_x20, .ref (ρ h0 21), .int o32_x22, .ref (ρ h0 23), .ref (ρ h0 24), .int o32_x25, .ref (ρ h0 26), .ref (ρ h0 27), .int z61, .int o32_x29, .ref (ρ h0 30), .ref (ρ h0 31), .int o32_x32, .long o32_x33, .long o32_x34, .long o32_x35, .int o32_x36, .int o32_x37, .int o32_x38, .ref (ρ h0 39), .ref (ρ h0 40), .ref (ρ h0 41), .ref (ρ h0 42), .ref (ρ h0 43), .ref (ρ h0 44), .ref (ρ h0 45), .ref (ρ h0 46), .int o32_x47, .int o32_x48, .ref (ρ h0 49), .ref (ρ h0 50), .ref (ρ h0 51), .ref (ρ h0 52)])) hD (tp_in hG ht_h0 (by decide)) eq60 (fun f62 H locs hP hD hS g64 k63 => ?_))
  have hT := hT.up ht_h0 g64 k63 ⟨_, _, _, _, _, _, _, _, _, _, _, _, _, _, _, _, _, _, _, _, _, _, _, _, _, _, _, _, rfl, ro32_0, ro32_1, ro32_2, ro32_3, ro32_4, ro32_5, ro32_6, ro32_7, ro32_8, (by omega), ro32_10, ro32_11, ro32_12, ro32_13, ro32_14⟩
  have hR := hR.up ht_h0 (by decide) k63
  have hf_65 : f54 (ρ h0 26) = .inl (κ 0, 400, .inl g48) := (k55 _ (tp_ne y10 y11 (by decide))).trans g47
  have hf_66 : f62 (ρ h0 26) = .inl (κ 0, 400, .inl g48) := (k63 _ (tp_ne y10 ht_h0 (by decide))).trans hf_65
  have tf67 : mo_hd (mo_i (f62 (ρ h0 26)) = g48) := tfa_i hf_66
  have hf_68 : f62 (ρ h0 27) = .inl (κ 0, 400, .inl g57) := (k63 _ (tp_ne y11 ht_h0 (by decide))).trans g56
  have tf69 : mo_hd (mo_i (f62 (ρ h0 27)) = g57) := tfa_i hf_68
  have tf70 : mo_hd (tp_fld (f62 h0) 28 = z61.toInt) := tff_28 g64
  have tf71 : mo_hd (tp_fld (f62 h0) 9 = o32_x9.toInt) := tff_9 g64
  have tf72 : mo_hd (tp_fld (f62 h0) 10 = o32_x10.toInt) := tff_10 g64
  have tf73 : mo_hd (tp_fld (f62 h0) 11 = o32_x11.toInt) := tff_11 g64
  have tf74 : mo_hd (tp_fld (f62 h0) 12 = o32_x12.toInt) := tff_12 g64
  have tf75 : mo_hd (mo_fj (f62 h0) 13 = o32_x13.toInt) := tff_13 g64
  have tf76 : mo_hd (tp_fld (f62 h0) 15 = o32_x15.toInt) := tff_15 g64
  have tf77 : mo_hd (tp_fld (f62 h0) 19 = o32_x19.toInt) := tff_19 g64
  have tf78 : mo_hd (tp_fld (f62 h0) 20 = o32_x20.toInt) := tff_20 g64
  have tf79 : mo_hd (tp_fld (f62 h0) 22 = o32_x22.toInt) := tff_22 g64
  have ro32_1 := tp_hu ro32_1; have ro32_14 := tp_hu ro32_14; have ro32_2 := tp_hu ro32_2; have ro32_3 := tp_hu ro32_3; have ro32_4 := tp_hu ro32_4; have ro32_5 := tp_hu ro32_5; have ro32_6 := tp_hu ro32_6; have ro32_7 := tp_hu ro32_7; have ro32_8 := tp_hu ro32_8
  exact W.vret hx hb hr (fun t ht hW => ⟨⟨f62, rfl, ⟨hT, hR, (by first | (simp only [(mo_un tf28), (mo_un tf67), (mo_un tf41), (mo_un tf31), (mo_un tf69), (mo_un tf70), (mo_un tf71), (mo_un tf33), (mo_un tf72), (mo_un tf34), (mo_un tf73), (mo_un tf35), (mo_un tf74), (mo_un tf36), (mo_un tf75), (mo_un tf42), (mo_un tf76), (mo_un tf37), (mo_un tf77), (mo_un tf38), (mo_un tf78), (mo_un tf39), (mo_un tf79), (mo_un tf40), mo_i1, mo_l1]; exact (show mo_U (mo_R g27) (mo_R g48) o32_x28.toInt v.toInt ∧ mo_U (mo_R g30) (mo_R g57) o32_x28.toInt u.toInt ∧ z61.toInt = o32_x28.toInt + 1 ∧ o32_x9.toInt = o32_x9.toInt ∧ o32_x10.toInt = o32_x10.toInt ∧ o32_x11.toInt = o32_x11.toInt ∧ o32_x12.toInt = o32_x12.toInt ∧ o32_x13.toInt = o32_x13.toInt ∧ o32_x15.toInt = o32_x15.toInt ∧ o32_x19.toInt = o32_x19.toInt ∧ o32_x20.toInt = o32_x20.toInt ∧ o32_x22.toInt = o32_x22.toInt from ⟨hU49, hU58, by omega, rfl, rfl, rfl, rfl, rfl, rfl, rfl, rfl, rfl⟩)) | (rw [(mo_un tf28), (mo_un tf67), (mo_un tf41), (mo_un tf31), (mo_un tf69), (mo_un tf70), (mo_un tf71), (mo_un tf33), (mo_un tf72), (mo_un tf34), (mo_un tf73), (mo_un tf35), (mo_un tf74), (mo_un tf36), (mo_un tf75), (mo_un tf42), (mo_un tf76), (mo_un tf37), (mo_un tf77), (mo_un tf38), (mo_un tf78), (mo_un tf39), (mo_un tf79), (mo_un tf40)]; exact (show mo_U (mo_R g27) (mo_R g48) o32_x28.toInt v.toInt ∧ mo_U (mo_R g30) (mo_R g57) o32_x28.toInt u.toInt ∧ z61.toInt = o32_x28.toInt + 1 ∧ o32_x9.toInt = o32_x9.toInt ∧ o32_x10.toInt = o32_x10.toInt ∧ o32_x11.toInt = o32_x11.toInt ∧ o32_x12.toInt = o32_x12.toInt ∧ o32_x13.toInt = o32_x13.toInt ∧ o32_x15.toInt = o32_x15.toInt ∧ o32_x19.toInt = o32_x19.toInt ∧ o32_x20.toInt = o32_x20.toInt ∧ o32_x22.toInt = o32_x22.toInt from ⟨hU49, hU58, by omega, rfl, rfl, rfl, rfl, rfl, rfl, rfl, rfl, rfl⟩)))⟩, by rw [ht]; exact hP, va_K.moved hW.alike hK, hD⟩, hS.F ht⟩) hS.2.2 dX12_push_30
set_option maxHeartbeats 4000000 in
set_option maxRecDepth 100000 in
theorem t_X12_binds (l : Launch) (dC : Nat → ClassId) (dI : Nat → Nat → Nat) (sz : Nat) (v : Int32) (Z_v : Int) (hZ_v : v.toInt = Z_v) : Met l yX12_binds wqX12_binds ({ frames := 2, cells := 0, slots := 0, locals := 400 }) (va_Pc [.int v] (pz_B dC dI [] [] sz)) (vp_Si (fun r => (0 ≤ r.toInt ∧ r.toInt ≤ 6) ∧ ((30 ≤ Z_v → r.toInt = 0) ∧ (Z_v = 19 → r.toInt = 1) ∧ (Z_v = 18 → r.toInt = 2) ∧ (Z_v = 17 → r.toInt = 3) ∧ (14 ≤ Z_v → Z_v ≤ 16 → r.toInt = 4) ∧ (12 ≤ Z_v → Z_v ≤ 13 → r.toInt = 6) ∧ (Z_v < 12 → r.toInt = 5)))) 0 0 (fun _ => False) := by
  refine Met.ofW (cc := cX12_binds) (maxL := 1) (ret := some .int) (by decide) rfl ?_
  intro p e s m args below meth c s₁ B hml hv
  obtain ⟨rfl, hsz, hP, hK, hD0, hN⟩ := hv
  have hx := B.exec
  have hb := B.bytes
  have hr := B.returns
  have hts := fun (w : Cond) (h : w ∈ WALL) => atoms_spec (ws := wqX12_binds) B.pre w (List.mem_cons_of_mem _ h)
  have hown : s.vm.findClass RX12 = some m.cls := findClass_of_methodNamed B.named
  have hlocks := B.notSynchronized
  subst hsz
  have hD := hD0
  have hS : va_S (fun _ => True) s.heap s.heap [] := va_S.rf
  have hl := lv_entry ([.int v]) (n := 1) (Nat.le_of_ble_eq_true rfl)
  rw [lg_entry_eq]
  generalize (lg_sl ([.int v]) ++ List.replicate (1 - (lg_sl ([.int v])).length) Slot.unset).toArray = ls at hl ⊢
  have hl : lv_has ls 1 [(0, .int v)] := hl
  refine lv_iload_n hx hb dX12_binds_0 rfl (lv_at hl 0 rfl) ?_
  refine lv_bipush (v := 30) hx hb dX12_binds_1 (by decide) ?_
  refine lv_icmp_lt (tgt := 10) hx hb dX12_binds_3 (by decide) (fun c1 => ?_) (fun c1 => ?_)
  · have ic1 : Z_v < 30 := zi_lt hZ_v rfl c1
    refine lv_iload_n hx hb dX12_binds_10 rfl (lv_at hl 0 rfl) ?_
    refine lv_bipush (v := 19) hx hb dX12_binds_11 (by decide) ?_
    refine lv_icmp_ne (tgt := 20) hx hb dX12_binds_13 (by decide) (fun c2 => ?_) (fun c2 => ?_)
    · have ic2 : Z_v ≠ 19 := zi_ne hZ_v rfl c2
      refine lv_iload_n hx hb dX12_binds_20 rfl (lv_at hl 0 rfl) ?_
      refine lv_bipush (v := 18) hx hb dX12_binds_21 (by decide) ?_
      refine lv_icmp_ne (tgt := 30) hx hb dX12_binds_23 (by decide) (fun c3 => ?_) (fun c3 => ?_)
      · have ic3 : Z_v ≠ 18 := zi_ne hZ_v rfl c3
        refine lv_iload_n hx hb dX12_binds_30 rfl (lv_at hl 0 rfl) ?_
        refine lv_bipush (v := 17) hx hb dX12_binds_31 (by decide) ?_
        refine lv_icmp_ne (tgt := 40) hx hb dX12_binds_33 (by decide) (fun c4 => ?_) (fun c4 => ?_)
        · have ic4 : Z_v ≠ 17 := zi_ne hZ_v rfl c4
          refine lv_iload_n hx hb dX12_binds_40 rfl (lv_at hl 0 rfl) ?_
          refine lv_bipush (v := 14) hx hb dX12_binds_41 (by decide) ?_
          refine lv_icmp_lt (tgt := 50) hx hb dX12_binds_43 (by decide) (fun c5 => ?_) (fun c5 => ?_)
          · have ic5 : Z_v < 14 := zi_lt hZ_v rfl c5
            refine lv_iload_n hx hb dX12_binds_50 rfl (lv_at hl 0 rfl) ?_
            refine lv_bipush (v := 12) hx hb dX12_binds_51 (by decide) ?_
            refine lv_icmp_lt (tgt := 61) hx hb dX12_binds_53 (by decide) (fun c6 => ?_) (fun c6 => ?_)
            · have ic6 : Z_v < 12 := zi_lt hZ_v rfl c6
              refine lv_iconst (v := 5) hx hb dX12_binds_61 (by decide) ?_
              exact W.iret (v := 5) hx hb hr (fun t ht hW => ⟨5, rfl, ⟨(by first | decide | omega), (by have : (5 : Int32).toInt = 5 := rfl; omega)⟩, ht⟩) (fun _ h => by cases h) dX12_binds_62
            · have ic6 : Z_v ≥ 12 := zi_ltf hZ_v rfl c6
              refine lv_bipush (v := 6) hx hb dX12_binds_56 (by decide) ?_
              refine lv_goto (tgt := 62) hx hb dX12_binds_58 (by decide) ?_
              exact W.iret (v := 6) hx hb hr (fun t ht hW => ⟨6, rfl, ⟨(by first | decide | omega), (by have : (6 : Int32).toInt = 6 := rfl; omega)⟩, ht⟩) (fun _ h => by cases h) dX12_binds_62
          · have ic5 : Z_v ≥ 14 := zi_ltf hZ_v rfl c5
            refine lv_iconst (v := 4) hx hb dX12_binds_46 (by decide) ?_
            refine lv_goto (tgt := 62) hx hb dX12_binds_47 (by decide) ?_
            exact W.iret (v := 4) hx hb hr (fun t ht hW => ⟨4, rfl, ⟨(by first | decide | omega), (by have : (4 : Int32).toInt = 4 := rfl; omega)⟩, ht⟩) (fun _ h => by cases h) dX12_binds_62
        · have ic4 : Z_v = 17 := zi_nef hZ_v rfl c4
          refine lv_iconst (v := 3) hx hb dX12_binds_36 (by decide) ?_
          refine lv_goto (tgt := 62) hx hb dX12_binds_37 (by decide) ?_
          exact W.iret (v := 3) hx hb hr (fun t ht hW => ⟨3, rfl, ⟨(by first | decide | omega), (by have : (3 : Int32).toInt = 3 := rfl; omega)⟩, ht⟩) (fun _ h => by cases h) dX12_binds_62
      · have ic3 : Z_v = 18 := zi_nef hZ_v rfl c3
        refine lv_iconst (v := 2) hx hb dX12_binds_26 (by decide) ?_
        refine lv_goto (tgt := 62) hx hb dX12_binds_27 (by decide) ?_
        exact W.iret (v := 2) hx hb hr (fun t ht hW => ⟨2, rfl, ⟨(by first | decide | omega), (by have : (2 : Int32).toInt = 2 := rfl; omega)⟩, ht⟩) (fun _ h => by cases h) dX12_binds_62
    · have ic2 : Z_v = 19 := zi_nef hZ_v rfl c2
      refine lv_iconst (v := 1) hx hb dX12_binds_16 (by decide) ?_
      refine lv_goto (tgt := 62) hx hb dX12_binds_17 (by decide) ?_
      exact W.iret (v := 1) hx hb hr (fun t ht hW => ⟨1, rfl, ⟨(by first | decide | omega), (by have : (1 : Int32).toInt = 1 := rfl; omega)⟩, ht⟩) (fun _ h => by cases h) dX12_binds_62
  · have ic1 : Z_v ≥ 30 := zi_ltf hZ_v rfl c1
    refine lv_iconst (v := 0) hx hb dX12_binds_6 (by decide) ?_
    refine lv_goto (tgt := 62) hx hb dX12_binds_7 (by decide) ?_
    exact W.iret (v := 0) hx hb hr (fun t ht hW => ⟨0, rfl, ⟨(by first | decide | omega), (by have : (0 : Int32).toInt = 0 := rfl; omega)⟩, ht⟩) (fun _ h => by cases h) dX12_binds_62
end
section
theorem gX12_settleDown_X12_binds : GoodIn WALL (va_wsS RX12 303 yX12_binds wqX12_binds) := wg_S wa_1088 wa_1089 wa_5 wa_1090
theorem gX12_settleDown_X12_emit : GoodIn WALL (wsV RX12 306 RX12 yX12_emit wqX12_emit) := wg_V wa_1080 wa_1081 wa_1082 wa_5 wa_1083
theorem dX12_settleDown_0 : decode cX12_settleDown 0 = .ok (.aload_n 0, 1) := od_42  (by decide +kernel)
theorem dX12_settleDown_1 : decode cX12_settleDown 1 = .ok (.getfield 300, 3) := od_180 (a := 1) (b := 44) (by decide +kernel) (by decide)
theorem dX12_settleDown_4 : decode cX12_settleDown 4 = .ok (.ifCond .le 97, 3) := od_158 (a := 0) (b := 97) (by decide +kernel) (by decide +kernel)
theorem dX12_settleDown_7 : decode cX12_settleDown 7 = .ok (.aload_n 0, 1) := od_42  (by decide +kernel)
theorem dX12_settleDown_8 : decode cX12_settleDown 8 = .ok (.getfield 43, 3) := od_180 (a := 0) (b := 43) (by decide +kernel) (by decide)
theorem dX12_settleDown_11 : decode cX12_settleDown 11 = .ok (.aload_n 0, 1) := od_42  (by decide +kernel)
theorem dX12_settleDown_12 : decode cX12_settleDown 12 = .ok (.getfield 300, 3) := od_180 (a := 1) (b := 44) (by decide +kernel) (by decide)
theorem dX12_settleDown_15 : decode cX12_settleDown 15 = .ok (.iconst 1, 1) := od_4  (by decide +kernel)
theorem dX12_settleDown_16 : decode cX12_settleDown 16 = .ok (.isub, 1) := od_100  (by decide +kernel)
theorem dX12_settleDown_17 : decode cX12_settleDown 17 = .ok (.iaload, 1) := od_46  (by decide +kernel)
theorem dX12_settleDown_18 : decode cX12_settleDown 18 = .ok (.invokestatic 303, 3) := od_184 (a := 1) (b := 47) (by decide +kernel) (by decide)
theorem dX12_settleDown_21 : decode cX12_settleDown 21 = .ok (.iload_n 1, 1) := od_27  (by decide +kernel)
theorem dX12_settleDown_22 : decode cX12_settleDown 22 = .ok (.if_icmp .lt 79, 3) := od_161 (a := 0) (b := 79) (by decide +kernel) (by decide +kernel)
theorem dX12_settleDown_25 : decode cX12_settleDown 25 = .ok (.aload_n 0, 1) := od_42  (by decide +kernel)
theorem dX12_settleDown_26 : decode cX12_settleDown 26 = .ok (.dup, 1) := od_89  (by decide +kernel)
theorem dX12_settleDown_27 : decode cX12_settleDown 27 = .ok (.getfield 300, 3) := od_180 (a := 1) (b := 44) (by decide +kernel) (by decide)
theorem dX12_settleDown_30 : decode cX12_settleDown 30 = .ok (.iconst 1, 1) := od_4  (by decide +kernel)
theorem dX12_settleDown_31 : decode cX12_settleDown 31 = .ok (.isub, 1) := od_100  (by decide +kernel)
theorem dX12_settleDown_32 : decode cX12_settleDown 32 = .ok (.putfield 300, 3) := od_181 (a := 1) (b := 44) (by decide +kernel) (by decide)
theorem dX12_settleDown_35 : decode cX12_settleDown 35 = .ok (.aload_n 0, 1) := od_42  (by decide +kernel)
theorem dX12_settleDown_36 : decode cX12_settleDown 36 = .ok (.getfield 43, 3) := od_180 (a := 0) (b := 43) (by decide +kernel) (by decide)
theorem dX12_settleDown_39 : decode cX12_settleDown 39 = .ok (.aload_n 0, 1) := od_42  (by decide +kernel)
theorem dX12_settleDown_40 : decode cX12_settleDown 40 = .ok (.getfield 300, 3) := od_180 (a := 1) (b := 44) (by decide +kernel) (by decide)
theorem dX12_settleDown_43 : decode cX12_settleDown 43 = .ok (.iaload, 1) := od_46  (by decide +kernel)
theorem dX12_settleDown_44 : decode cX12_settleDown 44 = .ok (.bipush 18, 2) := od_16 (a := 18) (by decide +kernel) (by decide +kernel)
theorem dX12_settleDown_46 : decode cX12_settleDown 46 = .ok (.if_icmp .eq 17, 3) := od_159 (a := 0) (b := 17) (by decide +kernel) (by decide +kernel)
theorem dX12_settleDown_49 : decode cX12_settleDown 49 = .ok (.aload_n 0, 1) := od_42  (by decide +kernel)
theorem dX12_settleDown_50 : decode cX12_settleDown 50 = .ok (.getfield 43, 3) := od_180 (a := 0) (b := 43) (by decide +kernel) (by decide)
theorem dX12_settleDown_53 : decode cX12_settleDown 53 = .ok (.aload_n 0, 1) := od_42  (by decide +kernel)
theorem dX12_settleDown_54 : decode cX12_settleDown 54 = .ok (.getfield 300, 3) := od_180 (a := 1) (b := 44) (by decide +kernel) (by decide)
theorem dX12_settleDown_57 : decode cX12_settleDown 57 = .ok (.iaload, 1) := od_46  (by decide +kernel)
theorem dX12_settleDown_58 : decode cX12_settleDown 58 = .ok (.bipush 19, 2) := od_16 (a := 19) (by decide +kernel) (by decide +kernel)
theorem dX12_settleDown_60 : decode cX12_settleDown 60 = .ok (.if_icmp .ne 24, 3) := od_160 (a := 0) (b := 24) (by decide +kernel) (by decide +kernel)
theorem dX12_settleDown_63 : decode cX12_settleDown 63 = .ok (.aload_n 0, 1) := od_42  (by decide +kernel)
theorem dX12_settleDown_64 : decode cX12_settleDown 64 = .ok (.getfield 40, 3) := od_180 (a := 0) (b := 40) (by decide +kernel) (by decide)
theorem dX12_settleDown_67 : decode cX12_settleDown 67 = .ok (.aload_n 0, 1) := od_42  (by decide +kernel)
theorem dX12_settleDown_68 : decode cX12_settleDown 68 = .ok (.getfield 46, 3) := od_180 (a := 0) (b := 46) (by decide +kernel) (by decide)
theorem dX12_settleDown_71 : decode cX12_settleDown 71 = .ok (.aload_n 0, 1) := od_42  (by decide +kernel)
theorem dX12_settleDown_72 : decode cX12_settleDown 72 = .ok (.getfield 300, 3) := od_180 (a := 1) (b := 44) (by decide +kernel) (by decide)
theorem dX12_settleDown_75 : decode cX12_settleDown 75 = .ok (.iaload, 1) := od_46  (by decide +kernel)
theorem dX12_settleDown_76 : decode cX12_settleDown 76 = .ok (.aload_n 0, 1) := od_42  (by decide +kernel)
theorem dX12_settleDown_77 : decode cX12_settleDown 77 = .ok (.getfield 297, 3) := od_180 (a := 1) (b := 41) (by decide +kernel) (by decide)
theorem dX12_settleDown_80 : decode cX12_settleDown 80 = .ok (.iastore, 1) := od_79  (by decide +kernel)
theorem dX12_settleDown_81 : decode cX12_settleDown 81 = .ok (.goto (-81), 3) := od_167 (a := 255) (b := 175) (by decide +kernel) (by decide +kernel)
theorem dX12_settleDown_84 : decode cX12_settleDown 84 = .ok (.aload_n 0, 1) := od_42  (by decide +kernel)
theorem dX12_settleDown_85 : decode cX12_settleDown 85 = .ok (.aload_n 0, 1) := od_42  (by decide +kernel)
theorem dX12_settleDown_86 : decode cX12_settleDown 86 = .ok (.getfield 43, 3) := od_180 (a := 0) (b := 43) (by decide +kernel) (by decide)
theorem dX12_settleDown_89 : decode cX12_settleDown 89 = .ok (.aload_n 0, 1) := od_42  (by decide +kernel)
theorem dX12_settleDown_90 : decode cX12_settleDown 90 = .ok (.getfield 300, 3) := od_180 (a := 1) (b := 44) (by decide +kernel) (by decide)
theorem dX12_settleDown_93 : decode cX12_settleDown 93 = .ok (.iaload, 1) := od_46  (by decide +kernel)
theorem dX12_settleDown_94 : decode cX12_settleDown 94 = .ok (.iconst 0, 1) := od_3  (by decide +kernel)
theorem dX12_settleDown_95 : decode cX12_settleDown 95 = .ok (.invokevirtual 306, 3) := od_182 (a := 1) (b := 50) (by decide +kernel) (by decide)
theorem dX12_settleDown_98 : decode cX12_settleDown 98 = .ok (.goto (-98), 3) := od_167 (a := 255) (b := 158) (by decide +kernel) (by decide +kernel)
theorem dX12_settleDown_101 : decode cX12_settleDown 101 = .ok (.return_, 1) := od_177  (by decide +kernel)
theorem dX12_inner_0 : decode cX12_inner 0 = .ok (.iconst (-1), 1) := od_2  (by decide +kernel)
theorem dX12_inner_1 : decode cX12_inner 1 = .ok (.istore_n 1, 1) := od_60  (by decide +kernel)
theorem dX12_inner_2 : decode cX12_inner 2 = .ok (.iconst 0, 1) := od_3  (by decide +kernel)
theorem dX12_inner_3 : decode cX12_inner 3 = .ok (.istore_n 2, 1) := od_61  (by decide +kernel)
theorem dX12_inner_4 : decode cX12_inner 4 = .ok (.iload_n 2, 1) := od_28  (by decide +kernel)
theorem dX12_inner_5 : decode cX12_inner 5 = .ok (.aload_n 0, 1) := od_42  (by decide +kernel)
theorem dX12_inner_6 : decode cX12_inner 6 = .ok (.getfield 300, 3) := od_180 (a := 1) (b := 44) (by decide +kernel) (by decide)
theorem dX12_inner_9 : decode cX12_inner 9 = .ok (.if_icmp .ge 31, 3) := od_162 (a := 0) (b := 31) (by decide +kernel) (by decide +kernel)
theorem dX12_inner_12 : decode cX12_inner 12 = .ok (.aload_n 0, 1) := od_42  (by decide +kernel)
theorem dX12_inner_13 : decode cX12_inner 13 = .ok (.getfield 43, 3) := od_180 (a := 0) (b := 43) (by decide +kernel) (by decide)
theorem dX12_inner_16 : decode cX12_inner 16 = .ok (.iload_n 2, 1) := od_28  (by decide +kernel)
theorem dX12_inner_17 : decode cX12_inner 17 = .ok (.iaload, 1) := od_46  (by decide +kernel)
theorem dX12_inner_18 : decode cX12_inner 18 = .ok (.bipush 30, 2) := od_16 (a := 30) (by decide +kernel) (by decide +kernel)
theorem dX12_inner_20 : decode cX12_inner 20 = .ok (.if_icmp .lt 12, 3) := od_161 (a := 0) (b := 12) (by decide +kernel) (by decide +kernel)
theorem dX12_inner_23 : decode cX12_inner 23 = .ok (.aload_n 0, 1) := od_42  (by decide +kernel)
theorem dX12_inner_24 : decode cX12_inner 24 = .ok (.getfield 43, 3) := od_180 (a := 0) (b := 43) (by decide +kernel) (by decide)
theorem dX12_inner_27 : decode cX12_inner 27 = .ok (.iload_n 2, 1) := od_28  (by decide +kernel)
theorem dX12_inner_28 : decode cX12_inner 28 = .ok (.iaload, 1) := od_46  (by decide +kernel)
theorem dX12_inner_29 : decode cX12_inner 29 = .ok (.goto 4, 3) := od_167 (a := 0) (b := 4) (by decide +kernel) (by decide +kernel)
theorem dX12_inner_32 : decode cX12_inner 32 = .ok (.iload_n 1, 1) := od_27  (by decide +kernel)
theorem dX12_inner_33 : decode cX12_inner 33 = .ok (.istore_n 1, 1) := od_60  (by decide +kernel)
theorem dX12_inner_34 : decode cX12_inner 34 = .ok (.iinc 2 1, 3) := od_132 (a := 2) (b := 1) (by decide +kernel) (by decide +kernel)
theorem dX12_inner_37 : decode cX12_inner 37 = .ok (.goto (-33), 3) := od_167 (a := 255) (b := 223) (by decide +kernel) (by decide +kernel)
theorem dX12_inner_40 : decode cX12_inner 40 = .ok (.iload_n 1, 1) := od_27  (by decide +kernel)
theorem dX12_inner_41 : decode cX12_inner 41 = .ok (.ireturn, 1) := od_172  (by decide +kernel)
theorem gX12_isCompared_X12_in : GoodIn WALL (va_wsS RX12 99 yX12_in wqX12_in) := wg_S wa_213 wa_214 wa_5 wa_215
theorem dX12_isCompared_0 : decode cX12_isCompared 0 = .ok (.aload_n 0, 1) := od_42  (by decide +kernel)
theorem dX12_isCompared_1 : decode cX12_isCompared 1 = .ok (.getfield 300, 3) := od_180 (a := 1) (b := 44) (by decide +kernel) (by decide)
theorem dX12_isCompared_4 : decode cX12_isCompared 4 = .ok (.iconst 1, 1) := od_4  (by decide +kernel)
theorem dX12_isCompared_5 : decode cX12_isCompared 5 = .ok (.isub, 1) := od_100  (by decide +kernel)
theorem dX12_isCompared_6 : decode cX12_isCompared 6 = .ok (.istore_n 1, 1) := od_60  (by decide +kernel)
theorem dX12_isCompared_7 : decode cX12_isCompared 7 = .ok (.iload_n 1, 1) := od_27  (by decide +kernel)
theorem dX12_isCompared_8 : decode cX12_isCompared 8 = .ok (.ifCond .lt 28, 3) := od_155 (a := 0) (b := 28) (by decide +kernel) (by decide +kernel)
theorem dX12_isCompared_11 : decode cX12_isCompared 11 = .ok (.aload_n 0, 1) := od_42  (by decide +kernel)
theorem dX12_isCompared_12 : decode cX12_isCompared 12 = .ok (.getfield 43, 3) := od_180 (a := 0) (b := 43) (by decide +kernel) (by decide)
theorem dX12_isCompared_15 : decode cX12_isCompared 15 = .ok (.iload_n 1, 1) := od_27  (by decide +kernel)
theorem dX12_isCompared_16 : decode cX12_isCompared 16 = .ok (.iaload, 1) := od_46  (by decide +kernel)
theorem dX12_isCompared_17 : decode cX12_isCompared 17 = .ok (.i2l, 1) := od_133  (by decide +kernel)
theorem dX12_isCompared_18 : decode cX12_isCompared 18 = .ok (.ldc2_w 289, 3) := od_20 (a := 1) (b := 33) (by decide +kernel) (by decide)
theorem dX12_isCompared_21 : decode cX12_isCompared 21 = .ok (.ldc2_w 309, 3) := od_20 (a := 1) (b := 53) (by decide +kernel) (by decide)
theorem dX12_isCompared_24 : decode cX12_isCompared 24 = .ok (.invokestatic 99, 3) := od_184 (a := 0) (b := 99) (by decide +kernel) (by decide)
theorem dX12_isCompared_27 : decode cX12_isCompared 27 = .ok (.ifCond .eq 9, 3) := od_153 (a := 0) (b := 9) (by decide +kernel) (by decide +kernel)
theorem dX12_isCompared_30 : decode cX12_isCompared 30 = .ok (.iinc 1 (-1), 3) := od_132 (a := 1) (b := 255) (by decide +kernel) (by decide +kernel)
theorem dX12_isCompared_33 : decode cX12_isCompared 33 = .ok (.goto (-26), 3) := od_167 (a := 255) (b := 230) (by decide +kernel) (by decide +kernel)
theorem dX12_isCompared_36 : decode cX12_isCompared 36 = .ok (.iload_n 1, 1) := od_27  (by decide +kernel)
theorem dX12_isCompared_37 : decode cX12_isCompared 37 = .ok (.ifCond .lt 26, 3) := od_155 (a := 0) (b := 26) (by decide +kernel) (by decide +kernel)
theorem dX12_isCompared_40 : decode cX12_isCompared 40 = .ok (.aload_n 0, 1) := od_42  (by decide +kernel)
theorem dX12_isCompared_41 : decode cX12_isCompared 41 = .ok (.getfield 43, 3) := od_180 (a := 0) (b := 43) (by decide +kernel) (by decide)
theorem dX12_isCompared_44 : decode cX12_isCompared 44 = .ok (.iload_n 1, 1) := od_27  (by decide +kernel)
theorem dX12_isCompared_45 : decode cX12_isCompared 45 = .ok (.iaload, 1) := od_46  (by decide +kernel)
theorem dX12_isCompared_46 : decode cX12_isCompared 46 = .ok (.i2l, 1) := od_133  (by decide +kernel)
theorem dX12_isCompared_47 : decode cX12_isCompared 47 = .ok (.ldc2_w 311, 3) := od_20 (a := 1) (b := 55) (by decide +kernel) (by decide)
theorem dX12_isCompared_50 : decode cX12_isCompared 50 = .ok (.ldc2_w 313, 3) := od_20 (a := 1) (b := 57) (by decide +kernel) (by decide)
theorem dX12_isCompared_53 : decode cX12_isCompared 53 = .ok (.invokestatic 99, 3) := od_184 (a := 0) (b := 99) (by decide +kernel) (by decide)
theorem dX12_isCompared_56 : decode cX12_isCompared 56 = .ok (.ifCond .eq 7, 3) := od_153 (a := 0) (b := 7) (by decide +kernel) (by decide +kernel)
theorem dX12_isCompared_59 : decode cX12_isCompared 59 = .ok (.iconst 1, 1) := od_4  (by decide +kernel)
theorem dX12_isCompared_60 : decode cX12_isCompared 60 = .ok (.goto 4, 3) := od_167 (a := 0) (b := 4) (by decide +kernel) (by decide +kernel)
theorem dX12_isCompared_63 : decode cX12_isCompared 63 = .ok (.iconst 0, 1) := od_3  (by decide +kernel)
theorem dX12_isCompared_64 : decode cX12_isCompared 64 = .ok (.ireturn, 1) := od_172  (by decide +kernel)
theorem gX12_partAt_X12_isWord : GoodIn WALL (wsV RX12 317 RX12 yX12_isWord wqX12_isWord) := wg_V wa_1029 wa_1030 wa_1031 wa_5 wa_1032
theorem dX12_partAt_0 : decode cX12_partAt 0 = .ok (.aload_n 0, 1) := od_42  (by decide +kernel)
theorem dX12_partAt_1 : decode cX12_partAt 1 = .ok (.ldc2_w 315, 3) := od_20 (a := 1) (b := 59) (by decide +kernel) (by decide)
theorem dX12_partAt_4 : decode cX12_partAt 4 = .ok (.invokevirtual 317, 3) := od_182 (a := 1) (b := 61) (by decide +kernel) (by decide)
theorem dX12_partAt_7 : decode cX12_partAt 7 = .ok (.ifCond .ne 33, 3) := od_154 (a := 0) (b := 33) (by decide +kernel) (by decide +kernel)
theorem dX12_partAt_10 : decode cX12_partAt 10 = .ok (.aload_n 0, 1) := od_42  (by decide +kernel)
theorem dX12_partAt_11 : decode cX12_partAt 11 = .ok (.ldc2_w 321, 3) := od_20 (a := 1) (b := 65) (by decide +kernel) (by decide)
theorem dX12_partAt_14 : decode cX12_partAt 14 = .ok (.invokevirtual 317, 3) := od_182 (a := 1) (b := 61) (by decide +kernel) (by decide)
theorem dX12_partAt_17 : decode cX12_partAt 17 = .ok (.ifCond .ne 23, 3) := od_154 (a := 0) (b := 23) (by decide +kernel) (by decide +kernel)
theorem dX12_partAt_20 : decode cX12_partAt 20 = .ok (.aload_n 0, 1) := od_42  (by decide +kernel)
theorem dX12_partAt_21 : decode cX12_partAt 21 = .ok (.ldc2_w 323, 3) := od_20 (a := 1) (b := 67) (by decide +kernel) (by decide)
theorem dX12_partAt_24 : decode cX12_partAt 24 = .ok (.invokevirtual 317, 3) := od_182 (a := 1) (b := 61) (by decide +kernel) (by decide)
theorem dX12_partAt_27 : decode cX12_partAt 27 = .ok (.ifCond .ne 13, 3) := od_154 (a := 0) (b := 13) (by decide +kernel) (by decide +kernel)
theorem dX12_partAt_30 : decode cX12_partAt 30 = .ok (.aload_n 0, 1) := od_42  (by decide +kernel)
theorem dX12_partAt_31 : decode cX12_partAt 31 = .ok (.ldc2_w 325, 3) := od_20 (a := 1) (b := 69) (by decide +kernel) (by decide)
theorem dX12_partAt_34 : decode cX12_partAt 34 = .ok (.invokevirtual 317, 3) := od_182 (a := 1) (b := 61) (by decide +kernel) (by decide)
theorem dX12_partAt_37 : decode cX12_partAt 37 = .ok (.ifCond .eq 47, 3) := od_153 (a := 0) (b := 47) (by decide +kernel) (by decide +kernel)
theorem dX12_partAt_40 : decode cX12_partAt 40 = .ok (.aload_n 0, 1) := od_42  (by decide +kernel)
theorem dX12_partAt_41 : decode cX12_partAt 41 = .ok (.ldc2_w 315, 3) := od_20 (a := 1) (b := 59) (by decide +kernel) (by decide)
theorem dX12_partAt_44 : decode cX12_partAt 44 = .ok (.invokevirtual 317, 3) := od_182 (a := 1) (b := 61) (by decide +kernel) (by decide)
theorem dX12_partAt_47 : decode cX12_partAt 47 = .ok (.ifCond .eq 7, 3) := od_153 (a := 0) (b := 7) (by decide +kernel) (by decide +kernel)
theorem dX12_partAt_50 : decode cX12_partAt 50 = .ok (.iconst 1, 1) := od_4  (by decide +kernel)
theorem dX12_partAt_51 : decode cX12_partAt 51 = .ok (.goto 32, 3) := od_167 (a := 0) (b := 32) (by decide +kernel) (by decide +kernel)
theorem dX12_partAt_54 : decode cX12_partAt 54 = .ok (.aload_n 0, 1) := od_42  (by decide +kernel)
theorem dX12_partAt_55 : decode cX12_partAt 55 = .ok (.ldc2_w 321, 3) := od_20 (a := 1) (b := 65) (by decide +kernel) (by decide)
theorem dX12_partAt_58 : decode cX12_partAt 58 = .ok (.invokevirtual 317, 3) := od_182 (a := 1) (b := 61) (by decide +kernel) (by decide)
theorem dX12_partAt_61 : decode cX12_partAt 61 = .ok (.ifCond .eq 7, 3) := od_153 (a := 0) (b := 7) (by decide +kernel) (by decide +kernel)
theorem dX12_partAt_64 : decode cX12_partAt 64 = .ok (.iconst 2, 1) := od_5  (by decide +kernel)
theorem dX12_partAt_65 : decode cX12_partAt 65 = .ok (.goto 18, 3) := od_167 (a := 0) (b := 18) (by decide +kernel) (by decide +kernel)
theorem dX12_partAt_68 : decode cX12_partAt 68 = .ok (.aload_n 0, 1) := od_42  (by decide +kernel)
theorem dX12_partAt_69 : decode cX12_partAt 69 = .ok (.ldc2_w 323, 3) := od_20 (a := 1) (b := 67) (by decide +kernel) (by decide)
theorem dX12_partAt_72 : decode cX12_partAt 72 = .ok (.invokevirtual 317, 3) := od_182 (a := 1) (b := 61) (by decide +kernel) (by decide)
theorem dX12_partAt_75 : decode cX12_partAt 75 = .ok (.ifCond .eq 7, 3) := od_153 (a := 0) (b := 7) (by decide +kernel) (by decide +kernel)
theorem dX12_partAt_78 : decode cX12_partAt 78 = .ok (.iconst 3, 1) := od_6  (by decide +kernel)
theorem dX12_partAt_79 : decode cX12_partAt 79 = .ok (.goto 4, 3) := od_167 (a := 0) (b := 4) (by decide +kernel) (by decide +kernel)
theorem dX12_partAt_82 : decode cX12_partAt 82 = .ok (.iconst 4, 1) := od_7  (by decide +kernel)
theorem dX12_partAt_83 : decode cX12_partAt 83 = .ok (.ireturn, 1) := od_172  (by decide +kernel)
theorem dX12_partAt_84 : decode cX12_partAt 84 = .ok (.aload_n 0, 1) := od_42  (by decide +kernel)
theorem dX12_partAt_85 : decode cX12_partAt 85 = .ok (.ldc2_w 327, 3) := od_20 (a := 1) (b := 71) (by decide +kernel) (by decide)
theorem dX12_partAt_88 : decode cX12_partAt 88 = .ok (.invokevirtual 317, 3) := od_182 (a := 1) (b := 61) (by decide +kernel) (by decide)
theorem dX12_partAt_91 : decode cX12_partAt 91 = .ok (.ifCond .eq 7, 3) := od_153 (a := 0) (b := 7) (by decide +kernel) (by decide +kernel)
theorem dX12_partAt_94 : decode cX12_partAt 94 = .ok (.iconst 5, 1) := od_8  (by decide +kernel)
theorem dX12_partAt_95 : decode cX12_partAt 95 = .ok (.goto 49, 3) := od_167 (a := 0) (b := 49) (by decide +kernel) (by decide +kernel)
theorem dX12_partAt_98 : decode cX12_partAt 98 = .ok (.aload_n 0, 1) := od_42  (by decide +kernel)
theorem dX12_partAt_99 : decode cX12_partAt 99 = .ok (.ldc2_w 329, 3) := od_20 (a := 1) (b := 73) (by decide +kernel) (by decide)
theorem dX12_partAt_102 : decode cX12_partAt 102 = .ok (.invokevirtual 317, 3) := od_182 (a := 1) (b := 61) (by decide +kernel) (by decide)
theorem dX12_partAt_105 : decode cX12_partAt 105 = .ok (.ifCond .eq 8, 3) := od_153 (a := 0) (b := 8) (by decide +kernel) (by decide +kernel)
theorem dX12_partAt_108 : decode cX12_partAt 108 = .ok (.bipush 6, 2) := od_16 (a := 6) (by decide +kernel) (by decide +kernel)
theorem dX12_partAt_110 : decode cX12_partAt 110 = .ok (.goto 34, 3) := od_167 (a := 0) (b := 34) (by decide +kernel) (by decide +kernel)
theorem dX12_partAt_113 : decode cX12_partAt 113 = .ok (.aload_n 0, 1) := od_42  (by decide +kernel)
theorem dX12_partAt_114 : decode cX12_partAt 114 = .ok (.ldc2_w 331, 3) := od_20 (a := 1) (b := 75) (by decide +kernel) (by decide)
theorem dX12_partAt_117 : decode cX12_partAt 117 = .ok (.invokevirtual 317, 3) := od_182 (a := 1) (b := 61) (by decide +kernel) (by decide)
theorem dX12_partAt_120 : decode cX12_partAt 120 = .ok (.ifCond .eq 8, 3) := od_153 (a := 0) (b := 8) (by decide +kernel) (by decide +kernel)
theorem dX12_partAt_123 : decode cX12_partAt 123 = .ok (.bipush 7, 2) := od_16 (a := 7) (by decide +kernel) (by decide +kernel)
theorem dX12_partAt_125 : decode cX12_partAt 125 = .ok (.goto 19, 3) := od_167 (a := 0) (b := 19) (by decide +kernel) (by decide +kernel)
theorem dX12_partAt_128 : decode cX12_partAt 128 = .ok (.aload_n 0, 1) := od_42  (by decide +kernel)
theorem dX12_partAt_129 : decode cX12_partAt 129 = .ok (.ldc2_w 333, 3) := od_20 (a := 1) (b := 77) (by decide +kernel) (by decide)
theorem dX12_partAt_132 : decode cX12_partAt 132 = .ok (.invokevirtual 317, 3) := od_182 (a := 1) (b := 61) (by decide +kernel) (by decide)
theorem dX12_partAt_135 : decode cX12_partAt 135 = .ok (.ifCond .eq 8, 3) := od_153 (a := 0) (b := 8) (by decide +kernel) (by decide +kernel)
theorem dX12_partAt_138 : decode cX12_partAt 138 = .ok (.bipush 8, 2) := od_16 (a := 8) (by decide +kernel) (by decide +kernel)
theorem dX12_partAt_140 : decode cX12_partAt 140 = .ok (.goto 4, 3) := od_167 (a := 0) (b := 4) (by decide +kernel) (by decide +kernel)
theorem dX12_partAt_143 : decode cX12_partAt 143 = .ok (.iconst (-1), 1) := od_2  (by decide +kernel)
theorem dX12_partAt_144 : decode cX12_partAt 144 = .ok (.ireturn, 1) := od_172  (by decide +kernel)
end
