set_option maxHeartbeats 4000000 in
set_option maxRecDepth 100000 in
theorem t_X7_init (l : Launch) (dC : Nat → ClassId) (dI : Nat → Nat → Nat) (sz : Nat) (Ω : Nat → (Nat → Nat) → va_E → Prop) (κ : Nat → ClassId) (τ ν : Nat → Nat) (ρ : Nat → Nat → Nat) (L : List Nat) (f : Nat → va_E) (hG : tp_G τ ν ρ L) (hT : tp_T Ω κ τ ν ρ f) (h0 : Nat) (hl_h0 : h0 ∈ L) (hz_h0 : τ h0 = 0) (hf_h0 : f h0 = .inr (7, [.int 0, .int 0, .int 0, .int 0, .null, .null, .null])) : Met l yX7_init wqX7_init ({ frames := 2, cells := 3, slots := 18, locals := 400 }) (va_Pc [.ref h0] (pz_B dC dI (tp_K κ) (va_pl L f) sz)) (va_Qv (fun (x : tp_S) => tp_PX Ω κ τ ν ρ L f [] (some h0) x ∧ x.1 h0 = 8) (fun (x : tp_S) (t : State) => pz_E dC dI (tp_K κ) (va_A (va_pl L f) sz) (va_pl x.2.2.2.1 x.2.2.2.2) t) (va_A (va_pl L f) sz)) 3 18 (va_A (va_pl L f) sz) := by
  refine Met.ofW (cc := cX7_init) (maxL := 1) (ret := none) (by decide) rfl ?_
  intro p e s m args below meth c s₁ B hml hv
  obtain ⟨rfl, hsz, hP, hK, hD0, hN⟩ := hv
  have hx := B.exec
  have hb := B.bytes
  have hr := B.returns
  have hts := fun (w : Cond) (h : w ∈ WALL) => atoms_spec (ws := wqX7_init) B.pre w (List.mem_cons_of_mem _ h)
  have hown : s.vm.findClass RX7 = some m.cls := findClass_of_methodNamed B.named
  have hlocks := B.notSynchronized
  have hin : meth.name = "<init>" := (name_of_methodNamed B.named B.method).1
  subst hsz
  have hD := hD0.self (sz := s.heap.size)
  generalize hAe : va_A (va_pl L f) s.heap.size = A at hD ⊢
  have hA : ∀ q : Nat, s.heap.size ≤ q → A q := fun q h => by rw [← hAe]; exact Or.inr h
  have hS : va_S A s.heap s.heap [] := va_S.rf
  have hH : tp_H τ ν ρ L f [] (some h0) τ ν ρ L f := tp_H.rf
  have hl := lv_entry ([.ref h0]) (n := 1) (Nat.le_of_ble_eq_true rfl)
  rw [lg_entry_eq]
  generalize (lg_sl ([.ref h0]) ++ List.replicate (1 - (lg_sl ([.ref h0])).length) Slot.unset).toArray = ls at hl ⊢
  have hl : lv_has ls 1 [(0, .ref h0)] := hl
  refine lv_aload_n hx hb dX7_init_0 rfl (lv_at hl 0 rfl) ?_
  refine W.objInit hx hb hown (hts (.methodLink RX7 3 objectInit) wa_105) (hts (.instanceMethod objectInit) wa_10) (hts (.code objectInit ⟨#[0xb1]⟩ 1 none) wa_11) rfl (by rw [hml]; exact hl.1) rfl dX7_init_1 (Nat.le_of_ble_eq_true rfl) (Nat.le_of_ble_eq_true rfl) ?_
  refine W.eq (g2 := F0 m 4 ls []) rfl ?_
  refine lv_aload_n hx hb dX7_init_4 rfl (lv_at hl 0 rfl) ?_
  refine lv_sipush (v := 1000) hx hb dX7_init_5 (by decide) ?_
  refine tpk_pos hl_h0 hf_h0 (fun q1 eq1 => ?_)
  refine va_put (D := (dC, dI)) (ci := 7) (v := .int 1000) (ty := .int) (C := RX7) (T := TX7) (N := 7) hx hb hts hfX7 tyX7 tyX7_ok nmX7 hown hK hP hD hS q1 eq1 rfl 0 (by decide) (hts (.fieldLink RX7 9 "ColdShips$Tank" "cap" "I") wa_106) (fun _ h9 => h9) rfl (tyX7_ok 0 (by decide)) rfl rfl (Nat.le_of_ble_eq_true rfl) dX7_init_8 (tp_k (.inr (7, [.int 1000, .int 0, .int 0, .int 0, .null, .null, .null])) hD hl_h0 eq1 (fun f2 H locs hP hD hS g4 k3 => ?_))
  have hT := hT.raw hz_h0 k3
  have hH := hH.wo k3
  refine lv_aload_n hx hb dX7_init_11 rfl (lv_at hl 0 rfl) ?_
  refine lv_bipush (v := 6) hx hb dX7_init_12 (by decide) ?_
  refine va_newa (atype := .int) hx hb (hts (.arrayClass .int) wa_39) (ty := .int) rfl hK hP hD hS hA (a0 := (6, .inl (fun _ => 0))) (fun cA => pz_na_int cA 6) (by decide +kernel : ¬ (6 : Int32) < 0) (by decide +kernel : (6 : Int32).toNatClampNeg = 6) (by decide +kernel) (Nat.le_of_ble_eq_true rfl) (Nat.le_of_ble_eq_true rfl) dX7_init_14 (fun q5 k6 H hK hP hD hS => ?_)
  obtain ⟨e9, hK9⟩ := tp_kid 0 rfl hK; subst e9; have hK := hK9
  refine Exists.elim (tp_grow hG hT hP hD) (fun L16 hE90 => Exists.elim hE90 (fun f15 hE91 => tn_10 hE91 (fun hP hD hg7 ht8 hs9 hq10 hz11 hn12 hf13 ho14 => ?_)))
  clear hE91 hE90
  have hn17 : ∀ a, a ∈ L → a ≠ q5 := fun a ha => hn12 a (hH.1 a ha)
  have ne18 : h0 ≠ q5 := hn12 _ hl_h0
  have hG := hg7
  have hT := ht8
  have hH := hH.gr hs9 hn12 ho14
  have hf19 : f15 h0 = .inr (7, [.int 1000, .int 0, .int 0, .int 0, .null, .null, .null]) := (ho14 _ ne18).trans g4
  have hl20 : h0 ∈ L16 := hs9 _ hl_h0
  clear g4 hl_h0
  obtain ⟨τ_21, ν_21, ρ_21, hG, hT, hb22, ht23, hn24, hr25⟩ := tp_type hG hT hq10 hz11 20 (6) (fun _ => 0) (by decide) (fun τ9 ν9 ρ9 hE h2 h3 => ⟨trivial, by rw [hf13]; exact tp_o20 h2⟩)
  have hH := hH.ty (fun a ha _ => hn17 a ha) hb22
  have hz26 : τ_21 h0 = 0 := (hb22 _ ne18).1.trans hz_h0
  clear hz_h0 hb22 ne18
  refine tpk_pos hl20 hf19 (fun q27 eq27 => ?_)
  refine va_putF (D := (dC, dI)) (ci := 7) (v := .ref q5) (ty := (.array .int)) (C := RX7) (T := TX7) (N := 7) hx hb hts hfX7 tyX7 tyX7_ok nmX7 hown hK hP hD hS q27 eq27 rfl 4 (by decide) (hts (.fieldLink RX7 15 "ColdShips$Tank" "parts" "[I") wa_107) (fun _ h9 => h9) rfl hin rfl (tyX7_ok 4 (by decide)) rfl rfl (Nat.le_of_ble_eq_true rfl) dX7_init_16 (tp_k (.inr (7, [.int 1000, .int 0, .int 0, .int 0, .ref q5, .null, .null])) hD hl20 eq27 (fun f28 H locs hP hD hS g30 k29 => ?_))
  have hT := hT.raw hz26 k29
  have hH := hH.wo k29
  refine lv_aload_n hx hb dX7_init_19 rfl (lv_at hl 0 rfl) ?_
  refine lv_bipush (v := 6) hx hb dX7_init_20 (by decide) ?_
  refine va_newa (atype := .int) hx hb (hts (.arrayClass .int) wa_39) (ty := .int) rfl hK hP hD hS hA (a0 := (6, .inl (fun _ => 0))) (fun cA => pz_na_int cA 6) (by decide +kernel : ¬ (6 : Int32) < 0) (by decide +kernel : (6 : Int32).toNatClampNeg = 6) (by decide +kernel) (Nat.le_of_ble_eq_true rfl) (Nat.le_of_ble_eq_true rfl) dX7_init_22 (fun q31 k32 H hK hP hD hS => ?_)
  obtain ⟨e9, hK9⟩ := tp_kid 0 rfl hK; subst e9; have hK := hK9
  refine Exists.elim (tp_grow hG hT hP hD) (fun L42 hE90 => Exists.elim hE90 (fun f41 hE91 => tn_10 hE91 (fun hP hD hg33 ht34 hs35 hq36 hz37 hn38 hf39 ho40 => ?_)))
  clear hE91 hE90
  have hn43 : ∀ a, a ∈ L → a ≠ q31 := fun a ha => hn38 a (hH.1 a ha)
  have ne44 : h0 ≠ q31 := hn38 _ hl20
  have ne45 : q5 ≠ q31 := hn38 _ (tp_in hG ht23 (by decide))
  have hG := hg33
  have hT := ht34
  have hH := hH.gr hs35 hn38 ho40
  have hf46 : f41 h0 = .inr (7, [.int 1000, .int 0, .int 0, .int 0, .ref q5, .null, .null]) := (ho40 _ ne44).trans g30
  have hl47 : h0 ∈ L42 := hs35 _ hl20
  clear g30 hl20
  obtain ⟨τ_48, ν_48, ρ_48, hG, hT, hb49, ht50, hn51, hr52⟩ := tp_type hG hT hq36 hz37 20 (6) (fun _ => 0) (by decide) (fun τ9 ν9 ρ9 hE h2 h3 => ⟨trivial, by rw [hf39]; exact tp_o20 h2⟩)
  have hH := hH.ty (fun a ha _ => hn43 a ha) hb49
  have ht53 : τ_48 q5 = 20 := (hb49 _ ne45).1.trans ht23
  have hn54 : ν_48 q5 = 6 := (hb49 _ ne45).2.1.trans hn24
  have hz55 : τ_48 h0 = 0 := (hb49 _ ne44).1.trans hz26
  clear ht23 hn24 hz26 hb49 ne44 ne45
  refine tpk_pos hl47 hf46 (fun q56 eq56 => ?_)
  refine va_putF (D := (dC, dI)) (ci := 7) (v := .ref q31) (ty := (.array .int)) (C := RX7) (T := TX7) (N := 7) hx hb hts hfX7 tyX7 tyX7_ok nmX7 hown hK hP hD hS q56 eq56 rfl 5 (by decide) (hts (.fieldLink RX7 19 "ColdShips$Tank" "given" "[I") wa_108) (fun _ h9 => h9) rfl hin rfl (tyX7_ok 5 (by decide)) rfl rfl (Nat.le_of_ble_eq_true rfl) dX7_init_24 (tp_k (.inr (7, [.int 1000, .int 0, .int 0, .int 0, .ref q5, .ref q31, .null])) hD hl47 eq56 (fun f57 H locs hP hD hS g59 k58 => ?_))
  have hT := hT.raw hz55 k58
  have hH := hH.wo k58
  refine lv_aload_n hx hb dX7_init_27 rfl (lv_at hl 0 rfl) ?_
  refine lv_bipush (v := 6) hx hb dX7_init_28 (by decide) ?_
  refine va_newa (atype := .long) hx hb (hts (.arrayClass .long) wa_82) (ty := .long) rfl hK hP hD hS hA (a0 := (6, .inr (.inl (fun _ => 0)))) (fun cA => pz_na_long cA 6) (by decide +kernel : ¬ (6 : Int32) < 0) (by decide +kernel : (6 : Int32).toNatClampNeg = 6) (by decide +kernel) (Nat.le_of_ble_eq_true rfl) (Nat.le_of_ble_eq_true rfl) dX7_init_30 (fun q60 k61 H hK hP hD hS => ?_)
  obtain ⟨e9, hK9⟩ := tp_kid 1 rfl hK; subst e9; have hK := hK9
  refine Exists.elim (tp_grow hG hT hP hD) (fun L71 hE90 => Exists.elim hE90 (fun f70 hE91 => tn_10 hE91 (fun hP hD hg62 ht63 hs64 hq65 hz66 hn67 hf68 ho69 => ?_)))
  clear hE91 hE90
  have hn72 : ∀ a, a ∈ L → a ≠ q60 := fun a ha => hn67 a (hH.1 a ha)
  have ne73 : h0 ≠ q60 := hn67 _ hl47
  have ne74 : q5 ≠ q60 := hn67 _ (tp_in hG ht53 (by decide))
  have ne75 : q31 ≠ q60 := hn67 _ (tp_in hG ht50 (by decide))
  have hG := hg62
  have hT := ht63
  have hH := hH.gr hs64 hn67 ho69
  have hf76 : f70 h0 = .inr (7, [.int 1000, .int 0, .int 0, .int 0, .ref q5, .ref q31, .null]) := (ho69 _ ne73).trans g59
  have hl77 : h0 ∈ L71 := hs64 _ hl47
  clear g59 hl47
  obtain ⟨τ_78, ν_78, ρ_78, hG, hT, hb79, ht80, hn81, hr82⟩ := tp_type hG hT hq65 hz66 21 (6) (fun _ => 0) (by decide) (fun τ9 ν9 ρ9 hE h2 h3 => ⟨trivial, by rw [hf68]; exact tp_o21 h2⟩)
  have hH := hH.ty (fun a ha _ => hn72 a ha) hb79
  have ht83 : τ_78 q5 = 20 := (hb79 _ ne74).1.trans ht53
  have hn84 : ν_78 q5 = 6 := (hb79 _ ne74).2.1.trans hn54
  have ht85 : τ_78 q31 = 20 := (hb79 _ ne75).1.trans ht50
  have hn86 : ν_78 q31 = 6 := (hb79 _ ne75).2.1.trans hn51
  have hz87 : τ_78 h0 = 0 := (hb79 _ ne73).1.trans hz55
  clear ht53 hn54 ht50 hn51 hz55 hb79 ne73 ne74 ne75
  refine tpk_pos hl77 hf76 (fun q88 eq88 => ?_)
  refine va_putF (D := (dC, dI)) (ci := 7) (v := .ref q60) (ty := (.array .long)) (C := RX7) (T := TX7) (N := 7) hx hb hts hfX7 tyX7 tyX7_ok nmX7 hown hK hP hD hS q88 eq88 rfl 6 (by decide) (hts (.fieldLink RX7 22 "ColdShips$Tank" "rests" "[J") wa_109) (fun _ h9 => h9) rfl hin rfl (tyX7_ok 6 (by decide)) rfl rfl (Nat.le_of_ble_eq_true rfl) dX7_init_32 (tp_k (.inr (7, [.int 1000, .int 0, .int 0, .int 0, .ref q5, .ref q31, .ref q60])) hD hl77 eq88 (fun f89 H locs hP hD hS g91 k90 => ?_))
  have hT := hT.raw hz87 k90
  have hH := hH.wo k90
  obtain ⟨τ_92, ν_92, ρ_92, hG, hT, hb93, ht94, hn95, hr96⟩ := tp_type hG hT hl77 hz87 8 (0) (fun k => [0, 0, 0, 0, q5, q31, q60].getD k 0) (by decide) (fun τ9 ν9 ρ9 hE h2 h3 => ⟨(by show (τ9 (ρ9 h0 4) = 20 ∧ ν9 (ρ9 h0 4) = 6) ∧ (τ9 (ρ9 h0 5) = 20 ∧ ν9 (ρ9 h0 5) = 6) ∧ (τ9 (ρ9 h0 6) = 21 ∧ ν9 (ρ9 h0 6) = 6); rw [h3]; exact ⟨⟨(hE q5 (by rw [ht83]; decide)).1.trans ht83, (hE q5 (by rw [ht83]; decide)).2.1.trans hn84⟩, ⟨(hE q31 (by rw [ht85]; decide)).1.trans ht85, (hE q31 (by rw [ht85]; decide)).2.1.trans hn86⟩, ⟨(hE q60 (by rw [ht80]; decide)).1.trans ht80, (hE q60 (by rw [ht80]; decide)).2.1.trans hn81⟩⟩), by rw [g91]; exact ⟨_, _, _, _, (by rw [h3]; rfl), (by first | decide | (rw [h3]; decide) | (have : (1000 : Int32).toInt = 1000 := rfl; have : (0 : Int32).toInt = 0 := rfl; have : (0 : Int32).toInt = 0 := rfl; have : (0 : Int32).toInt = 0 := rfl; omega) | (rw [h3]; have : (1000 : Int32).toInt = 1000 := rfl; have : (0 : Int32).toInt = 0 := rfl; have : (0 : Int32).toInt = 0 := rfl; have : (0 : Int32).toInt = 0 := rfl; omega))⟩⟩)
  have hH := hH.ty (fun a _ ho z => ho (by rw [z])) hb93
  have ht97 : τ_92 q5 = 20 := (hb93 _ (Ne.symm (tp_ne0 hz87 ht83 (by decide)))).1.trans ht83
  have hn98 : ν_92 q5 = 6 := (hb93 _ (Ne.symm (tp_ne0 hz87 ht83 (by decide)))).2.1.trans hn84
  have ht99 : τ_92 q31 = 20 := (hb93 _ (Ne.symm (tp_ne0 hz87 ht85 (by decide)))).1.trans ht85
  have hn100 : ν_92 q31 = 6 := (hb93 _ (Ne.symm (tp_ne0 hz87 ht85 (by decide)))).2.1.trans hn86
  have ht101 : τ_92 q60 = 21 := (hb93 _ (Ne.symm (tp_ne0 hz87 ht80 (by decide)))).1.trans ht80
  have hn102 : ν_92 q60 = 6 := (hb93 _ (Ne.symm (tp_ne0 hz87 ht80 (by decide)))).2.1.trans hn81
  clear ht83 hn84 ht85 hn86 ht80 hn81 hb93
  refine tp_widen 3 18 (Nat.le_of_ble_eq_true rfl) (Nat.le_of_ble_eq_true rfl) ?_
  exact W.vret hx hb hr (fun t ht hW => ⟨⟨(τ_92, ν_92, ρ_92, L71, f89), rfl, ⟨⟨hG, hT, hH⟩, ht94⟩, by rw [ht]; exact hP, va_K.moved hW.alike hK, hD⟩, hS.F ht⟩) hS.2.2 dX7_init_35
set_option maxHeartbeats 4000000 in
set_option maxRecDepth 100000 in
theorem t_X8_init (l : Launch) (dC : Nat → ClassId) (dI : Nat → Nat → Nat) (sz : Nat) (Ω : Nat → (Nat → Nat) → va_E → Prop) (κ : Nat → ClassId) (τ ν : Nat → Nat) (ρ : Nat → Nat → Nat) (L : List Nat) (f : Nat → va_E) (hG : tp_G τ ν ρ L) (hT : tp_T Ω κ τ ν ρ f) (h0 : Nat) (hl_h0 : h0 ∈ L) (hz_h0 : τ h0 = 0) (hf_h0 : f h0 = .inr (8, [.int 0, .int 0, .int 0, .int 0, .int 0, .null, .null])) : Met l yX8_init wqX8_init ({ frames := 2, cells := 2, slots := 12, locals := 400 }) (va_Pc [.ref h0] (pz_B dC dI (tp_K κ) (va_pl L f) sz)) (va_Qv (fun (x : tp_S) => tp_PX Ω κ τ ν ρ L f [] (some h0) x ∧ x.1 h0 = 9) (fun (x : tp_S) (t : State) => pz_E dC dI (tp_K κ) (va_A (va_pl L f) sz) (va_pl x.2.2.2.1 x.2.2.2.2) t) (va_A (va_pl L f) sz)) 2 12 (va_A (va_pl L f) sz) := by
  refine Met.ofW (cc := cX8_init) (maxL := 1) (ret := none) (by decide) rfl ?_
  intro p e s m args below meth c s₁ B hml hv
  obtain ⟨rfl, hsz, hP, hK, hD0, hN⟩ := hv
  have hx := B.exec
  have hb := B.bytes
  have hr := B.returns
  have hts := fun (w : Cond) (h : w ∈ WALL) => atoms_spec (ws := wqX8_init) B.pre w (List.mem_cons_of_mem _ h)
  have hown : s.vm.findClass RX8 = some m.cls := findClass_of_methodNamed B.named
  have hlocks := B.notSynchronized
  have hin : meth.name = "<init>" := (name_of_methodNamed B.named B.method).1
  subst hsz
  have hD := hD0.self (sz := s.heap.size)
  generalize hAe : va_A (va_pl L f) s.heap.size = A at hD ⊢
  have hA : ∀ q : Nat, s.heap.size ≤ q → A q := fun q h => by rw [← hAe]; exact Or.inr h
  have hS : va_S A s.heap s.heap [] := va_S.rf
  have hH : tp_H τ ν ρ L f [] (some h0) τ ν ρ L f := tp_H.rf
  have hl := lv_entry ([.ref h0]) (n := 1) (Nat.le_of_ble_eq_true rfl)
  rw [lg_entry_eq]
  generalize (lg_sl ([.ref h0]) ++ List.replicate (1 - (lg_sl ([.ref h0])).length) Slot.unset).toArray = ls at hl ⊢
  have hl : lv_has ls 1 [(0, .ref h0)] := hl
  refine lv_aload_n hx hb dX8_init_0 rfl (lv_at hl 0 rfl) ?_
  refine W.objInit hx hb hown (hts (.methodLink RX8 3 objectInit) wa_86) (hts (.instanceMethod objectInit) wa_10) (hts (.code objectInit ⟨#[0xb1]⟩ 1 none) wa_11) rfl (by rw [hml]; exact hl.1) rfl dX8_init_1 (Nat.le_of_ble_eq_true rfl) (Nat.le_of_ble_eq_true rfl) ?_
  refine W.eq (g2 := F0 m 4 ls []) rfl ?_
  refine lv_aload_n hx hb dX8_init_4 rfl (lv_at hl 0 rfl) ?_
  refine lv_iconst (v := 1) hx hb dX8_init_5 (by decide) ?_
  refine tpk_pos hl_h0 hf_h0 (fun q1 eq1 => ?_)
  refine va_put (D := (dC, dI)) (ci := 8) (v := .int 1) (ty := .int) (C := RX8) (T := TX8) (N := 7) hx hb hts hfX8 tyX8 tyX8_ok nmX8 hown hK hP hD hS q1 eq1 rfl 2 (by decide) (hts (.fieldLink RX8 9 "ColdShips$Terminal" "rate" "I") wa_87) (fun _ h9 => h9) rfl (tyX8_ok 2 (by decide)) rfl rfl (Nat.le_of_ble_eq_true rfl) dX8_init_6 (tp_k (.inr (8, [.int 0, .int 0, .int 1, .int 0, .int 0, .null, .null])) hD hl_h0 eq1 (fun f2 H locs hP hD hS g4 k3 => ?_))
  have hT := hT.raw hz_h0 k3
  have hH := hH.wo k3
  refine lv_aload_n hx hb dX8_init_9 rfl (lv_at hl 0 rfl) ?_
  refine lv_bipush (v := 6) hx hb dX8_init_10 (by decide) ?_
  refine va_newa (atype := .int) hx hb (hts (.arrayClass .int) wa_39) (ty := .int) rfl hK hP hD hS hA (a0 := (6, .inl (fun _ => 0))) (fun cA => pz_na_int cA 6) (by decide +kernel : ¬ (6 : Int32) < 0) (by decide +kernel : (6 : Int32).toNatClampNeg = 6) (by decide +kernel) (Nat.le_of_ble_eq_true rfl) (Nat.le_of_ble_eq_true rfl) dX8_init_12 (fun q5 k6 H hK hP hD hS => ?_)
  obtain ⟨e9, hK9⟩ := tp_kid 0 rfl hK; subst e9; have hK := hK9
  refine Exists.elim (tp_grow hG hT hP hD) (fun L16 hE90 => Exists.elim hE90 (fun f15 hE91 => tn_10 hE91 (fun hP hD hg7 ht8 hs9 hq10 hz11 hn12 hf13 ho14 => ?_)))
  clear hE91 hE90
  have hn17 : ∀ a, a ∈ L → a ≠ q5 := fun a ha => hn12 a (hH.1 a ha)
  have ne18 : h0 ≠ q5 := hn12 _ hl_h0
  have hG := hg7
  have hT := ht8
  have hH := hH.gr hs9 hn12 ho14
  have hf19 : f15 h0 = .inr (8, [.int 0, .int 0, .int 1, .int 0, .int 0, .null, .null]) := (ho14 _ ne18).trans g4
  have hl20 : h0 ∈ L16 := hs9 _ hl_h0
  clear g4 hl_h0
  obtain ⟨τ_21, ν_21, ρ_21, hG, hT, hb22, ht23, hn24, hr25⟩ := tp_type hG hT hq10 hz11 20 (6) (fun _ => 0) (by decide) (fun τ9 ν9 ρ9 hE h2 h3 => ⟨trivial, by rw [hf13]; exact tp_o20 h2⟩)
  have hH := hH.ty (fun a ha _ => hn17 a ha) hb22
  have hz26 : τ_21 h0 = 0 := (hb22 _ ne18).1.trans hz_h0
  clear hz_h0 hb22 ne18
  refine tpk_pos hl20 hf19 (fun q27 eq27 => ?_)
  refine va_putF (D := (dC, dI)) (ci := 8) (v := .ref q5) (ty := (.array .int)) (C := RX8) (T := TX8) (N := 7) hx hb hts hfX8 tyX8 tyX8_ok nmX8 hown hK hP hD hS q27 eq27 rfl 5 (by decide) (hts (.fieldLink RX8 15 "ColdShips$Terminal" "wayHours" "[I") wa_88) (fun _ h9 => h9) rfl hin rfl (tyX8_ok 5 (by decide)) rfl rfl (Nat.le_of_ble_eq_true rfl) dX8_init_14 (tp_k (.inr (8, [.int 0, .int 0, .int 1, .int 0, .int 0, .ref q5, .null])) hD hl20 eq27 (fun f28 H locs hP hD hS g30 k29 => ?_))
  have hT := hT.raw hz26 k29
  have hH := hH.wo k29
  refine lv_aload_n hx hb dX8_init_17 rfl (lv_at hl 0 rfl) ?_
  refine lv_bipush (v := 6) hx hb dX8_init_18 (by decide) ?_
  refine va_newa (atype := .int) hx hb (hts (.arrayClass .int) wa_39) (ty := .int) rfl hK hP hD hS hA (a0 := (6, .inl (fun _ => 0))) (fun cA => pz_na_int cA 6) (by decide +kernel : ¬ (6 : Int32) < 0) (by decide +kernel : (6 : Int32).toNatClampNeg = 6) (by decide +kernel) (Nat.le_of_ble_eq_true rfl) (Nat.le_of_ble_eq_true rfl) dX8_init_20 (fun q31 k32 H hK hP hD hS => ?_)
  obtain ⟨e9, hK9⟩ := tp_kid 0 rfl hK; subst e9; have hK := hK9
  refine Exists.elim (tp_grow hG hT hP hD) (fun L42 hE90 => Exists.elim hE90 (fun f41 hE91 => tn_10 hE91 (fun hP hD hg33 ht34 hs35 hq36 hz37 hn38 hf39 ho40 => ?_)))
  clear hE91 hE90
  have hn43 : ∀ a, a ∈ L → a ≠ q31 := fun a ha => hn38 a (hH.1 a ha)
  have ne44 : h0 ≠ q31 := hn38 _ hl20
  have ne45 : q5 ≠ q31 := hn38 _ (tp_in hG ht23 (by decide))
  have hG := hg33
  have hT := ht34
  have hH := hH.gr hs35 hn38 ho40
  have hf46 : f41 h0 = .inr (8, [.int 0, .int 0, .int 1, .int 0, .int 0, .ref q5, .null]) := (ho40 _ ne44).trans g30
  have hl47 : h0 ∈ L42 := hs35 _ hl20
  clear g30 hl20
  obtain ⟨τ_48, ν_48, ρ_48, hG, hT, hb49, ht50, hn51, hr52⟩ := tp_type hG hT hq36 hz37 20 (6) (fun _ => 0) (by decide) (fun τ9 ν9 ρ9 hE h2 h3 => ⟨trivial, by rw [hf39]; exact tp_o20 h2⟩)
  have hH := hH.ty (fun a ha _ => hn43 a ha) hb49
  have ht53 : τ_48 q5 = 20 := (hb49 _ ne45).1.trans ht23
  have hn54 : ν_48 q5 = 6 := (hb49 _ ne45).2.1.trans hn24
  have hz55 : τ_48 h0 = 0 := (hb49 _ ne44).1.trans hz26
  clear ht23 hn24 hz26 hb49 ne44 ne45
  refine tpk_pos hl47 hf46 (fun q56 eq56 => ?_)
  refine va_putF (D := (dC, dI)) (ci := 8) (v := .ref q31) (ty := (.array .int)) (C := RX8) (T := TX8) (N := 7) hx hb hts hfX8 tyX8 tyX8_ok nmX8 hown hK hP hD hS q56 eq56 rfl 6 (by decide) (hts (.fieldLink RX8 19 "ColdShips$Terminal" "wayHalf" "[I") wa_89) (fun _ h9 => h9) rfl hin rfl (tyX8_ok 6 (by decide)) rfl rfl (Nat.le_of_ble_eq_true rfl) dX8_init_22 (tp_k (.inr (8, [.int 0, .int 0, .int 1, .int 0, .int 0, .ref q5, .ref q31])) hD hl47 eq56 (fun f57 H locs hP hD hS g59 k58 => ?_))
  have hT := hT.raw hz55 k58
  have hH := hH.wo k58
  obtain ⟨τ_60, ν_60, ρ_60, hG, hT, hb61, ht62, hn63, hr64⟩ := tp_type hG hT hl47 hz55 9 (0) (fun k => [0, 0, 0, 0, 0, q5, q31].getD k 0) (by decide) (fun τ9 ν9 ρ9 hE h2 h3 => ⟨(by show (τ9 (ρ9 h0 5) = 20 ∧ ν9 (ρ9 h0 5) = 6) ∧ (τ9 (ρ9 h0 6) = 20 ∧ ν9 (ρ9 h0 6) = 6); rw [h3]; exact ⟨⟨(hE q5 (by rw [ht53]; decide)).1.trans ht53, (hE q5 (by rw [ht53]; decide)).2.1.trans hn54⟩, ⟨(hE q31 (by rw [ht50]; decide)).1.trans ht50, (hE q31 (by rw [ht50]; decide)).2.1.trans hn51⟩⟩), by rw [g59]; exact ⟨_, _, _, _, _, (by rw [h3]; rfl), (by first | decide | (rw [h3]; decide) | (have : (0 : Int32).toInt = 0 := rfl; have : (0 : Int32).toInt = 0 := rfl; have : (1 : Int32).toInt = 1 := rfl; have : (0 : Int32).toInt = 0 := rfl; have : (0 : Int32).toInt = 0 := rfl; omega) | (rw [h3]; have : (0 : Int32).toInt = 0 := rfl; have : (0 : Int32).toInt = 0 := rfl; have : (1 : Int32).toInt = 1 := rfl; have : (0 : Int32).toInt = 0 := rfl; have : (0 : Int32).toInt = 0 := rfl; omega))⟩⟩)
  have hH := hH.ty (fun a _ ho z => ho (by rw [z])) hb61
  have ht65 : τ_60 q5 = 20 := (hb61 _ (Ne.symm (tp_ne0 hz55 ht53 (by decide)))).1.trans ht53
  have hn66 : ν_60 q5 = 6 := (hb61 _ (Ne.symm (tp_ne0 hz55 ht53 (by decide)))).2.1.trans hn54
  have ht67 : τ_60 q31 = 20 := (hb61 _ (Ne.symm (tp_ne0 hz55 ht50 (by decide)))).1.trans ht50
  have hn68 : ν_60 q31 = 6 := (hb61 _ (Ne.symm (tp_ne0 hz55 ht50 (by decide)))).2.1.trans hn51
  clear ht53 hn54 ht50 hn51 hb61
  refine tp_widen 2 12 (Nat.le_of_ble_eq_true rfl) (Nat.le_of_ble_eq_true rfl) ?_
  exact W.vret hx hb hr (fun t ht hW => ⟨⟨(τ_60, ν_60, ρ_60, L42, f57), rfl, ⟨⟨hG, hT, hH⟩, ht62⟩, by rw [ht]; exact hP, va_K.moved hW.alike hK, hD⟩, hS.F ht⟩) hS.2.2 dX8_init_25
set_option maxHeartbeats 4000000 in
set_option maxRecDepth 100000 in
theorem t_X5_init (l : Launch) (dC : Nat → ClassId) (dI : Nat → Nat → Nat) (sz : Nat) (Ω : Nat → (Nat → Nat) → va_E → Prop) (κ : Nat → ClassId) (τ ν : Nat → Nat) (ρ : Nat → Nat → Nat) (L : List Nat) (f : Nat → va_E) (hG : tp_G τ ν ρ L) (hT : tp_T Ω κ τ ν ρ f) (h0 : Nat) (hl_h0 : h0 ∈ L) (hz_h0 : τ h0 = 0) (hf_h0 : f h0 = .inr (5, [.null, .int 0, .int 0, .int 0, .int 0, .int 0, .int 0, .null, .null, .null, .int 0, .int 0, .int 0, .null, .int 0, .null, .null])) : Met l yX5_init wqX5_init ({ frames := 3, cells := 10, slots := 83, locals := 800 }) (va_Pc [.ref h0] (pz_B dC dI (tp_K κ) (va_pl L f) sz)) (va_Qv (fun (x : tp_S) => tp_PX Ω κ τ ν ρ L f [] (some h0) x ∧ x.1 h0 = 6) (fun (x : tp_S) (t : State) => pz_E dC dI (tp_K κ) (va_A (va_pl L f) sz) (va_pl x.2.2.2.1 x.2.2.2.2) t) (va_A (va_pl L f) sz)) 10 83 (va_A (va_pl L f) sz) := by
  refine Met.ofW (cc := cX5_init) (maxL := 1) (ret := none) (by decide) rfl ?_
  intro p e s m args below meth c s₁ B hml hv
  obtain ⟨rfl, hsz, hP, hK, hD0, hN⟩ := hv
  have hx := B.exec
  have hb := B.bytes
  have hr := B.returns
  have hts := fun (w : Cond) (h : w ∈ WALL) => atoms_spec (ws := wqX5_init) B.pre w (List.mem_cons_of_mem _ h)
  have hown : s.vm.findClass RX5 = some m.cls := findClass_of_methodNamed B.named
  have hlocks := B.notSynchronized
  have hin : meth.name = "<init>" := (name_of_methodNamed B.named B.method).1
  subst hsz
  have hD := hD0.self (sz := s.heap.size)
  generalize hAe : va_A (va_pl L f) s.heap.size = A at hD ⊢
  have hA : ∀ q : Nat, s.heap.size ≤ q → A q := fun q h => by rw [← hAe]; exact Or.inr h
  have hS : va_S A s.heap s.heap [] := va_S.rf
  have hH : tp_H τ ν ρ L f [] (some h0) τ ν ρ L f := tp_H.rf
  have hl := lv_entry ([.ref h0]) (n := 1) (Nat.le_of_ble_eq_true rfl)
  rw [lg_entry_eq]
  generalize (lg_sl ([.ref h0]) ++ List.replicate (1 - (lg_sl ([.ref h0])).length) Slot.unset).toArray = ls at hl ⊢
  have hl : lv_has ls 1 [(0, .ref h0)] := hl
  refine lv_aload_n hx hb dX5_init_0 rfl (lv_at hl 0 rfl) ?_
  refine W.objInit hx hb hown (hts (.methodLink RX5 3 objectInit) wa_92) (hts (.instanceMethod objectInit) wa_10) (hts (.code objectInit ⟨#[0xb1]⟩ 1 none) wa_11) rfl (by rw [hml]; exact hl.1) rfl dX5_init_1 (Nat.le_of_ble_eq_true rfl) (Nat.le_of_ble_eq_true rfl) ?_
  refine W.eq (g2 := F0 m 4 ls []) rfl ?_
  refine lv_aload_n hx hb dX5_init_4 rfl (lv_at hl 0 rfl) ?_
  refine va_new (ci := 7) (fs := [.int 0, .int 0, .int 0, .int 0, .null, .null, .null]) (C := RX7) (T := TX7) (N := 7) hx hb hts hfX7 tyX7 tyX7_ok hown (hts (.classLink RX5 9 RX7) wa_93) (hts (.instantiable RX7 7) wa_94) (hts (.initialized RX7) wa_95) hK hP hD hS hA rfl (fun j hj => by rcases tpj_7 j hj with rfl | rfl | rfl | rfl | rfl | rfl | rfl <;> rfl) (Nat.le_of_ble_eq_true rfl) (Nat.le_of_ble_eq_true rfl) dX5_init_5 (fun q1 H hP hD hS => ?_)
  refine Exists.elim (tp_grow hG hT hP hD) (fun L11 hE90 => Exists.elim hE90 (fun f10 hE91 => tn_10 hE91 (fun hP hD hg2 ht3 hs4 hq5 hz6 hn7 hf8 ho9 => ?_)))
  clear hE91 hE90
  have hn12 : ∀ a, a ∈ L → a ≠ q1 := fun a ha => hn7 a (hH.1 a ha)
  have ne13 : h0 ≠ q1 := hn7 _ hl_h0
  have hG := hg2
  have hT := ht3
  have hH := hH.gr hs4 hn7 ho9
  have hf14 : f10 h0 = .inr (5, [.null, .int 0, .int 0, .int 0, .int 0, .int 0, .int 0, .null, .null, .null, .int 0, .int 0, .int 0, .null, .int 0, .null, .null]) := (ho9 _ ne13).trans hf_h0
  have hl15 : h0 ∈ L11 := hs4 _ hl_h0
  clear hf_h0 hl_h0
  refine lv_dup hx hb dX5_init_8 rfl ?_
  have hFc := tp_fr hD hS hA
  refine va_callv (va_runIN (As := []) (rest := [.ref q1, .ref h0]) ⟨hx, hb, hml, hown, hts⟩ (t_X7_init l dC dI _ Ω κ τ ν ρ L11 f10 hG hT q1 hq5 hz6 hf8) ⟨(va_cnB (host := "ColdShips") 0 hts ggX5_init_X7_init rfl rfl rfl (hN.1 (.methodLinkNest RX5 11 yX7_init "ColdShips") nzw_106) (hts (.initialized RX7) wa_95) pd_X7_init ⟨Nat.le_of_ble_eq_true rfl, Nat.le_of_ble_eq_true rfl⟩), rfl, (hts (.instanceMethod yX7_init) wa_103)⟩ ⟨pz_blind, pz_pre hP hK hD hN⟩ rfl rfl hl.1 rfl (lv_room (Nat.le_of_ble_eq_true rfl)) dX5_init_9 ⟨Nat.le_of_ble_eq_true rfl, Nat.le_of_ble_eq_true rfl⟩) hS (fun q _ h => hFc q h) hFc (fun x16 t H1 locs ht hvm hw18 hB hz1 hk1 hS => ?_)
  obtain ⟨τ_20, ν_20, ρ_20, L_20, f19⟩ := x16
  obtain ⟨⟨hG9, hT9, hH9⟩, hw18p⟩ := hw18
  have hc21 := hH9.2 _ hl15 (fun z => ne13 (Option.some.inj z))
  have hf22 : f19 h0 = .inr (5, [.null, .int 0, .int 0, .int 0, .int 0, .int 0, .int 0, .null, .null, .null, .int 0, .int 0, .int 0, .null, .int 0, .null, .null]) := (hc21.2.2.2 (by rw [hz_h0]; decide)).trans hf14
  have hl23 := hH9.1 _ hl15
  have hH := hH.call hH9 (by decide) (fun a ha _ z => hn12 a ha (Option.some.inj z))
  have hG : tp_G τ_20 ν_20 ρ_20 L_20 := hG9; have hT : tp_T Ω κ τ_20 ν_20 ρ_20 f19 := hT9
  have hH : tp_H τ ν ρ L f [] (some h0) τ_20 ν_20 ρ_20 L_20 f19 := hH
  have hP := hB.1; rw [ht] at hP; have hD := tp_Dw hB.2.2 hFc; clear hB hFc hz1 hk1; subst ht; generalize t.heap = H at hP hS ⊢
  have hP : va_P (dC, dI) vwCl (va_pl L_20 f19) H := hP
  have hD : va_D A (va_pl L_20 f19) := hD
  have hz24 : τ_20 h0 = 0 := hc21.1.trans hz_h0
  clear hz_h0 ne13 hc21 hG9 hT9 hH9
  have ht25 : τ_20 q1 = 8 := hw18p
  refine tpk_pos hl23 hf22 (fun q26 eq26 => ?_)
  refine va_putF (D := (dC, dI)) (ci := 5) (v := .ref q1) (ty := (.object "ColdShips$Tank")) (C := RX5) (T := TX5) (N := 17) hx hb hts hfX5 tyX5 tyX5_ok nmX5 hown hK hP hD hS q26 eq26 rfl 0 (by decide) (hts (.fieldLink RX5 12 "ColdShips$Ship" "tank" "LColdShips$Tank;") wa_96) (fun _ h9 => h9) rfl hin rfl (tyX5_ok 0 (by decide)) rfl rfl (Nat.le_of_ble_eq_true rfl) dX5_init_12 (tp_k (.inr (5, [.ref q1, .int 0, .int 0, .int 0, .int 0, .int 0, .int 0, .null, .null, .null, .int 0, .int 0, .int 0, .null, .int 0, .null, .null])) hD hl23 eq26 (fun f27 H locs hP hD hS g29 k28 => ?_))
  have hT := hT.raw hz24 k28
  have hH := hH.wo k28
  refine lv_aload_n hx hb dX5_init_15 rfl (lv_at hl 0 rfl) ?_
  refine lv_bipush (v := 20) hx hb dX5_init_16 (by decide) ?_
  refine va_newa (atype := .int) hx hb (hts (.arrayClass .int) wa_39) (ty := .int) rfl hK hP hD hS hA (a0 := (20, .inl (fun _ => 0))) (fun cA => pz_na_int cA 20) (by decide +kernel : ¬ (20 : Int32) < 0) (by decide +kernel : (20 : Int32).toNatClampNeg = 20) (by decide +kernel) (Nat.le_of_ble_eq_true rfl) (Nat.le_of_ble_eq_true rfl) dX5_init_18 (fun q30 k31 H hK hP hD hS => ?_)
  obtain ⟨e9, hK9⟩ := tp_kid 0 rfl hK; subst e9; have hK := hK9
  refine Exists.elim (tp_grow hG hT hP hD) (fun L41 hE90 => Exists.elim hE90 (fun f40 hE91 => tn_10 hE91 (fun hP hD hg32 ht33 hs34 hq35 hz36 hn37 hf38 ho39 => ?_)))
  clear hE91 hE90
  have hn42 : ∀ a, a ∈ L → a ≠ q30 := fun a ha => hn37 a (hH.1 a ha)
  have ne43 : h0 ≠ q30 := hn37 _ hl23
  have ne44 : q1 ≠ q30 := hn37 _ (tp_in hG ht25 (by decide))
  have hG := hg32
  have hT := ht33
  have hH := hH.gr hs34 hn37 ho39
  have hf45 : f40 h0 = .inr (5, [.ref q1, .int 0, .int 0, .int 0, .int 0, .int 0, .int 0, .null, .null, .null, .int 0, .int 0, .int 0, .null, .int 0, .null, .null]) := (ho39 _ ne43).trans g29
  have hl46 : h0 ∈ L41 := hs34 _ hl23
  clear g29 hl23
  obtain ⟨τ_47, ν_47, ρ_47, hG, hT, hb48, ht49, hn50, hr51⟩ := tp_type hG hT hq35 hz36 20 (20) (fun _ => 0) (by decide) (fun τ9 ν9 ρ9 hE h2 h3 => ⟨trivial, by rw [hf38]; exact tp_o20 h2⟩)
  have hH := hH.ty (fun a ha _ => hn42 a ha) hb48
  have ht52 : τ_47 q1 = 8 := (hb48 _ ne44).1.trans ht25
  have hz53 : τ_47 h0 = 0 := (hb48 _ ne43).1.trans hz24
  clear ht25 hz24 hb48 ne43 ne44
  refine tpk_pos hl46 hf45 (fun q54 eq54 => ?_)
  refine va_putF (D := (dC, dI)) (ci := 5) (v := .ref q30) (ty := (.array .int)) (C := RX5) (T := TX5) (N := 17) hx hb hts hfX5 tyX5 tyX5_ok nmX5 hown hK hP hD hS q54 eq54 rfl 7 (by decide) (hts (.fieldLink RX5 18 "ColdShips$Ship" "orderSorts" "[I") wa_97) (fun _ h9 => h9) rfl hin rfl (tyX5_ok 7 (by decide)) rfl rfl (Nat.le_of_ble_eq_true rfl) dX5_init_20 (tp_k (.inr (5, [.ref q1, .int 0, .int 0, .int 0, .int 0, .int 0, .int 0, .ref q30, .null, .null, .int 0, .int 0, .int 0, .null, .int 0, .null, .null])) hD hl46 eq54 (fun f55 H locs hP hD hS g57 k56 => ?_))
  have hT := hT.raw hz53 k56
  have hH := hH.wo k56
  refine lv_aload_n hx hb dX5_init_23 rfl (lv_at hl 0 rfl) ?_
  refine lv_bipush (v := 20) hx hb dX5_init_24 (by decide) ?_
  refine va_newa (atype := .int) hx hb (hts (.arrayClass .int) wa_39) (ty := .int) rfl hK hP hD hS hA (a0 := (20, .inl (fun _ => 0))) (fun cA => pz_na_int cA 20) (by decide +kernel : ¬ (20 : Int32) < 0) (by decide +kernel : (20 : Int32).toNatClampNeg = 20) (by decide +kernel) (Nat.le_of_ble_eq_true rfl) (Nat.le_of_ble_eq_true rfl) dX5_init_26 (fun q58 k59 H hK hP hD hS => ?_)
  obtain ⟨e9, hK9⟩ := tp_kid 0 rfl hK; subst e9; have hK := hK9
  refine Exists.elim (tp_grow hG hT hP hD) (fun L69 hE90 => Exists.elim hE90 (fun f68 hE91 => tn_10 hE91 (fun hP hD hg60 ht61 hs62 hq63 hz64 hn65 hf66 ho67 => ?_)))
  clear hE91 hE90
  have hn70 : ∀ a, a ∈ L → a ≠ q58 := fun a ha => hn65 a (hH.1 a ha)
  have ne71 : h0 ≠ q58 := hn65 _ hl46
  have ne72 : q1 ≠ q58 := hn65 _ (tp_in hG ht52 (by decide))
  have ne73 : q30 ≠ q58 := hn65 _ (tp_in hG ht49 (by decide))
  have hG := hg60
  have hT := ht61
  have hH := hH.gr hs62 hn65 ho67
  have hf74 : f68 h0 = .inr (5, [.ref q1, .int 0, .int 0, .int 0, .int 0, .int 0, .int 0, .ref q30, .null, .null, .int 0, .int 0, .int 0, .null, .int 0, .null, .null]) := (ho67 _ ne71).trans g57
  have hl75 : h0 ∈ L69 := hs62 _ hl46
  clear g57 hl46
  obtain ⟨τ_76, ν_76, ρ_76, hG, hT, hb77, ht78, hn79, hr80⟩ := tp_type hG hT hq63 hz64 20 (20) (fun _ => 0) (by decide) (fun τ9 ν9 ρ9 hE h2 h3 => ⟨trivial, by rw [hf66]; exact tp_o20 h2⟩)
  have hH := hH.ty (fun a ha _ => hn70 a ha) hb77
  have ht81 : τ_76 q1 = 8 := (hb77 _ ne72).1.trans ht52
  have ht82 : τ_76 q30 = 20 := (hb77 _ ne73).1.trans ht49
  have hn83 : ν_76 q30 = 20 := (hb77 _ ne73).2.1.trans hn50
  have hz84 : τ_76 h0 = 0 := (hb77 _ ne71).1.trans hz53
  clear ht52 ht49 hn50 hz53 hb77 ne71 ne72 ne73
  refine tpk_pos hl75 hf74 (fun q85 eq85 => ?_)
  refine va_putF (D := (dC, dI)) (ci := 5) (v := .ref q58) (ty := (.array .int)) (C := RX5) (T := TX5) (N := 17) hx hb hts hfX5 tyX5 tyX5_ok nmX5 hown hK hP hD hS q85 eq85 rfl 8 (by decide) (hts (.fieldLink RX5 22 "ColdShips$Ship" "orderWhats" "[I") wa_98) (fun _ h9 => h9) rfl hin rfl (tyX5_ok 8 (by decide)) rfl rfl (Nat.le_of_ble_eq_true rfl) dX5_init_28 (tp_k (.inr (5, [.ref q1, .int 0, .int 0, .int 0, .int 0, .int 0, .int 0, .ref q30, .ref q58, .null, .int 0, .int 0, .int 0, .null, .int 0, .null, .null])) hD hl75 eq85 (fun f86 H locs hP hD hS g88 k87 => ?_))
  have hT := hT.raw hz84 k87
  have hH := hH.wo k87
  refine lv_aload_n hx hb dX5_init_31 rfl (lv_at hl 0 rfl) ?_
  refine lv_iconst (v := 4) hx hb dX5_init_32 (by decide) ?_
  refine va_newa (atype := .long) hx hb (hts (.arrayClass .long) wa_82) (ty := .long) rfl hK hP hD hS hA (a0 := (4, .inr (.inl (fun _ => 0)))) (fun cA => pz_na_long cA 4) (by decide +kernel : ¬ (4 : Int32) < 0) (by decide +kernel : (4 : Int32).toNatClampNeg = 4) (by decide +kernel) (Nat.le_of_ble_eq_true rfl) (Nat.le_of_ble_eq_true rfl) dX5_init_33 (fun q89 k90 H hK hP hD hS => ?_)
  obtain ⟨e9, hK9⟩ := tp_kid 1 rfl hK; subst e9; have hK := hK9
  refine Exists.elim (tp_grow hG hT hP hD) (fun L100 hE90 => Exists.elim hE90 (fun f99 hE91 => tn_10 hE91 (fun hP hD hg91 ht92 hs93 hq94 hz95 hn96 hf97 ho98 => ?_)))
  clear hE91 hE90
  have hn101 : ∀ a, a ∈ L → a ≠ q89 := fun a ha => hn96 a (hH.1 a ha)
  have ne102 : h0 ≠ q89 := hn96 _ hl75
  have ne103 : q1 ≠ q89 := hn96 _ (tp_in hG ht81 (by decide))
  have ne104 : q30 ≠ q89 := hn96 _ (tp_in hG ht82 (by decide))
  have ne105 : q58 ≠ q89 := hn96 _ (tp_in hG ht78 (by decide))
  have hG := hg91
  have hT := ht92
  have hH := hH.gr hs93 hn96 ho98
  have hf106 : f99 h0 = .inr (5, [.ref q1, .int 0, .int 0, .int 0, .int 0, .int 0, .int 0, .ref q30, .ref q58, .null, .int 0, .int 0, .int 0, .null, .int 0, .null, .null]) := (ho98 _ ne102).trans g88
  have hl107 : h0 ∈ L100 := hs93 _ hl75
  clear g88 hl75
  obtain ⟨τ_108, ν_108, ρ_108, hG, hT, hb109, ht110, hn111, hr112⟩ := tp_type hG hT hq94 hz95 21 (4) (fun _ => 0) (by decide) (fun τ9 ν9 ρ9 hE h2 h3 => ⟨trivial, by rw [hf97]; exact tp_o21 h2⟩)
  have hH := hH.ty (fun a ha _ => hn101 a ha) hb109
  have ht113 : τ_108 q1 = 8 := (hb109 _ ne103).1.trans ht81
  have ht114 : τ_108 q30 = 20 := (hb109 _ ne104).1.trans ht82
  have hn115 : ν_108 q30 = 20 := (hb109 _ ne104).2.1.trans hn83
  have ht116 : τ_108 q58 = 20 := (hb109 _ ne105).1.trans ht78
  have hn117 : ν_108 q58 = 20 := (hb109 _ ne105).2.1.trans hn79
  have hz118 : τ_108 h0 = 0 := (hb109 _ ne102).1.trans hz84
  clear ht81 ht82 hn83 ht78 hn79 hz84 hb109 ne102 ne103 ne104 ne105
  refine tpk_pos hl107 hf106 (fun q119 eq119 => ?_)
  refine va_putF (D := (dC, dI)) (ci := 5) (v := .ref q89) (ty := (.array .long)) (C := RX5) (T := TX5) (N := 17) hx hb hts hfX5 tyX5 tyX5_ok nmX5 hown hK hP hD hS q119 eq119 rfl 9 (by decide) (hts (.fieldLink RX5 25 "ColdShips$Ship" "book" "[J") wa_99) (fun _ h9 => h9) rfl hin rfl (tyX5_ok 9 (by decide)) rfl rfl (Nat.le_of_ble_eq_true rfl) dX5_init_35 (tp_k (.inr (5, [.ref q1, .int 0, .int 0, .int 0, .int 0, .int 0, .int 0, .ref q30, .ref q58, .ref q89, .int 0, .int 0, .int 0, .null, .int 0, .null, .null])) hD hl107 eq119 (fun f120 H locs hP hD hS g122 k121 => ?_))
  have hT := hT.raw hz118 k121
  have hH := hH.wo k121
  refine lv_aload_n hx hb dX5_init_38 rfl (lv_at hl 0 rfl) ?_
  refine lv_bipush (v := 6) hx hb dX5_init_39 (by decide) ?_
  refine va_newa (atype := .int) hx hb (hts (.arrayClass .int) wa_39) (ty := .int) rfl hK hP hD hS hA (a0 := (6, .inl (fun _ => 0))) (fun cA => pz_na_int cA 6) (by decide +kernel : ¬ (6 : Int32) < 0) (by decide +kernel : (6 : Int32).toNatClampNeg = 6) (by decide +kernel) (Nat.le_of_ble_eq_true rfl) (Nat.le_of_ble_eq_true rfl) dX5_init_41 (fun q123 k124 H hK hP hD hS => ?_)
  obtain ⟨e9, hK9⟩ := tp_kid 0 rfl hK; subst e9; have hK := hK9
  refine Exists.elim (tp_grow hG hT hP hD) (fun L134 hE90 => Exists.elim hE90 (fun f133 hE91 => tn_10 hE91 (fun hP hD hg125 ht126 hs127 hq128 hz129 hn130 hf131 ho132 => ?_)))
  clear hE91 hE90
  have hn135 : ∀ a, a ∈ L → a ≠ q123 := fun a ha => hn130 a (hH.1 a ha)
  have ne136 : h0 ≠ q123 := hn130 _ hl107
  have ne137 : q1 ≠ q123 := hn130 _ (tp_in hG ht113 (by decide))
  have ne138 : q30 ≠ q123 := hn130 _ (tp_in hG ht114 (by decide))
  have ne139 : q58 ≠ q123 := hn130 _ (tp_in hG ht116 (by decide))
  have ne140 : q89 ≠ q123 := hn130 _ (tp_in hG ht110 (by decide))
  have hG := hg125
  have hT := ht126
  have hH := hH.gr hs127 hn130 ho132
  have hf141 : f133 h0 = .inr (5, [.ref q1, .int 0, .int 0, .int 0, .int 0, .int 0, .int 0, .ref q30, .ref q58, .ref q89, .int 0, .int 0, .int 0, .null, .int 0, .null, .null]) := (ho132 _ ne136).trans g122
  have hl142 : h0 ∈ L134 := hs127 _ hl107
  clear g122 hl107
  obtain ⟨τ_143, ν_143, ρ_143, hG, hT, hb144, ht145, hn146, hr147⟩ := tp_type hG hT hq128 hz129 20 (6) (fun _ => 0) (by decide) (fun τ9 ν9 ρ9 hE h2 h3 => ⟨trivial, by rw [hf131]; exact tp_o20 h2⟩)
  have hH := hH.ty (fun a ha _ => hn135 a ha) hb144
  have ht148 : τ_143 q1 = 8 := (hb144 _ ne137).1.trans ht113
  have ht149 : τ_143 q30 = 20 := (hb144 _ ne138).1.trans ht114
  have hn150 : ν_143 q30 = 20 := (hb144 _ ne138).2.1.trans hn115
  have ht151 : τ_143 q58 = 20 := (hb144 _ ne139).1.trans ht116
  have hn152 : ν_143 q58 = 20 := (hb144 _ ne139).2.1.trans hn117
  have ht153 : τ_143 q89 = 21 := (hb144 _ ne140).1.trans ht110
  have hn154 : ν_143 q89 = 4 := (hb144 _ ne140).2.1.trans hn111
  have hz155 : τ_143 h0 = 0 := (hb144 _ ne136).1.trans hz118
  clear ht113 ht114 hn115 ht116 hn117 ht110 hn111 hz118 hb144 ne136 ne137 ne138 ne139 ne140
  refine tpk_pos hl142 hf141 (fun q156 eq156 => ?_)
  refine va_putF (D := (dC, dI)) (ci := 5) (v := .ref q123) (ty := (.array .int)) (C := RX5) (T := TX5) (N := 17) hx hb hts hfX5 tyX5 tyX5_ok nmX5 hown hK hP hD hS q156 eq156 rfl 13 (by decide) (hts (.fieldLink RX5 29 "ColdShips$Ship" "landParts" "[I") wa_100) (fun _ h9 => h9) rfl hin rfl (tyX5_ok 13 (by decide)) rfl rfl (Nat.le_of_ble_eq_true rfl) dX5_init_43 (tp_k (.inr (5, [.ref q1, .int 0, .int 0, .int 0, .int 0, .int 0, .int 0, .ref q30, .ref q58, .ref q89, .int 0, .int 0, .int 0, .ref q123, .int 0, .null, .null])) hD hl142 eq156 (fun f157 H locs hP hD hS g159 k158 => ?_))
  have hT := hT.raw hz155 k158
  have hH := hH.wo k158
  refine lv_aload_n hx hb dX5_init_46 rfl (lv_at hl 0 rfl) ?_
  refine lv_iconst (v := 4) hx hb dX5_init_47 (by decide) ?_
  refine va_newa (atype := .int) hx hb (hts (.arrayClass .int) wa_39) (ty := .int) rfl hK hP hD hS hA (a0 := (4, .inl (fun _ => 0))) (fun cA => pz_na_int cA 4) (by decide +kernel : ¬ (4 : Int32) < 0) (by decide +kernel : (4 : Int32).toNatClampNeg = 4) (by decide +kernel) (Nat.le_of_ble_eq_true rfl) (Nat.le_of_ble_eq_true rfl) dX5_init_48 (fun q160 k161 H hK hP hD hS => ?_)
  obtain ⟨e9, hK9⟩ := tp_kid 0 rfl hK; subst e9; have hK := hK9
  refine Exists.elim (tp_grow hG hT hP hD) (fun L171 hE90 => Exists.elim hE90 (fun f170 hE91 => tn_10 hE91 (fun hP hD hg162 ht163 hs164 hq165 hz166 hn167 hf168 ho169 => ?_)))
  clear hE91 hE90
  have hn172 : ∀ a, a ∈ L → a ≠ q160 := fun a ha => hn167 a (hH.1 a ha)
  have ne173 : h0 ≠ q160 := hn167 _ hl142
  have ne174 : q1 ≠ q160 := hn167 _ (tp_in hG ht148 (by decide))
  have ne175 : q30 ≠ q160 := hn167 _ (tp_in hG ht149 (by decide))
  have ne176 : q58 ≠ q160 := hn167 _ (tp_in hG ht151 (by decide))
  have ne177 : q89 ≠ q160 := hn167 _ (tp_in hG ht153 (by decide))
  have ne178 : q123 ≠ q160 := hn167 _ (tp_in hG ht145 (by decide))
  have hG := hg162
  have hT := ht163
  have hH := hH.gr hs164 hn167 ho169
  have hf179 : f170 h0 = .inr (5, [.ref q1, .int 0, .int 0, .int 0, .int 0, .int 0, .int 0, .ref q30, .ref q58, .ref q89, .int 0, .int 0, .int 0, .ref q123, .int 0, .null, .null]) := (ho169 _ ne173).trans g159
  have hl180 : h0 ∈ L171 := hs164 _ hl142
  clear g159 hl142
  obtain ⟨τ_181, ν_181, ρ_181, hG, hT, hb182, ht183, hn184, hr185⟩ := tp_type hG hT hq165 hz166 20 (4) (fun _ => 0) (by decide) (fun τ9 ν9 ρ9 hE h2 h3 => ⟨trivial, by rw [hf168]; exact tp_o20 h2⟩)
  have hH := hH.ty (fun a ha _ => hn172 a ha) hb182
  have ht186 : τ_181 q1 = 8 := (hb182 _ ne174).1.trans ht148
  have ht187 : τ_181 q30 = 20 := (hb182 _ ne175).1.trans ht149
  have hn188 : ν_181 q30 = 20 := (hb182 _ ne175).2.1.trans hn150
  have ht189 : τ_181 q58 = 20 := (hb182 _ ne176).1.trans ht151
  have hn190 : ν_181 q58 = 20 := (hb182 _ ne176).2.1.trans hn152
  have ht191 : τ_181 q89 = 21 := (hb182 _ ne177).1.trans ht153
  have hn192 : ν_181 q89 = 4 := (hb182 _ ne177).2.1.trans hn154
  have ht193 : τ_181 q123 = 20 := (hb182 _ ne178).1.trans ht145
  have hn194 : ν_181 q123 = 6 := (hb182 _ ne178).2.1.trans hn146
  have hz195 : τ_181 h0 = 0 := (hb182 _ ne173).1.trans hz155
  clear ht148 ht149 hn150 ht151 hn152 ht153 hn154 ht145 hn146 hz155 hb182 ne173 ne174 ne175 ne176 ne177 ne178
  refine tpk_pos hl180 hf179 (fun q196 eq196 => ?_)
  refine va_putF (D := (dC, dI)) (ci := 5) (v := .ref q160) (ty := (.array .int)) (C := RX5) (T := TX5) (N := 17) hx hb hts hfX5 tyX5 tyX5_ok nmX5 hown hK hP hD hS q196 eq196 rfl 15 (by decide) (hts (.fieldLink RX5 32 "ColdShips$Ship" "gaugeCentimetres" "[I") wa_101) (fun _ h9 => h9) rfl hin rfl (tyX5_ok 15 (by decide)) rfl rfl (Nat.le_of_ble_eq_true rfl) dX5_init_50 (tp_k (.inr (5, [.ref q1, .int 0, .int 0, .int 0, .int 0, .int 0, .int 0, .ref q30, .ref q58, .ref q89, .int 0, .int 0, .int 0, .ref q123, .int 0, .ref q160, .null])) hD hl180 eq196 (fun f197 H locs hP hD hS g199 k198 => ?_))
  have hT := hT.raw hz195 k198
  have hH := hH.wo k198
  refine lv_aload_n hx hb dX5_init_53 rfl (lv_at hl 0 rfl) ?_
  refine lv_iconst (v := 4) hx hb dX5_init_54 (by decide) ?_
  refine va_newa (atype := .int) hx hb (hts (.arrayClass .int) wa_39) (ty := .int) rfl hK hP hD hS hA (a0 := (4, .inl (fun _ => 0))) (fun cA => pz_na_int cA 4) (by decide +kernel : ¬ (4 : Int32) < 0) (by decide +kernel : (4 : Int32).toNatClampNeg = 4) (by decide +kernel) (Nat.le_of_ble_eq_true rfl) (Nat.le_of_ble_eq_true rfl) dX5_init_55 (fun q200 k201 H hK hP hD hS => ?_)
  obtain ⟨e9, hK9⟩ := tp_kid 0 rfl hK; subst e9; have hK := hK9
  refine Exists.elim (tp_grow hG hT hP hD) (fun L211 hE90 => Exists.elim hE90 (fun f210 hE91 => tn_10 hE91 (fun hP hD hg202 ht203 hs204 hq205 hz206 hn207 hf208 ho209 => ?_)))
  clear hE91 hE90
  have hn212 : ∀ a, a ∈ L → a ≠ q200 := fun a ha => hn207 a (hH.1 a ha)
  have ne213 : h0 ≠ q200 := hn207 _ hl180
  have ne214 : q1 ≠ q200 := hn207 _ (tp_in hG ht186 (by decide))
  have ne215 : q30 ≠ q200 := hn207 _ (tp_in hG ht187 (by decide))
  have ne216 : q58 ≠ q200 := hn207 _ (tp_in hG ht189 (by decide))
  have ne217 : q89 ≠ q200 := hn207 _ (tp_in hG ht191 (by decide))
  have ne218 : q123 ≠ q200 := hn207 _ (tp_in hG ht193 (by decide))
  have ne219 : q160 ≠ q200 := hn207 _ (tp_in hG ht183 (by decide))
  have hG := hg202
  have hT := ht203
  have hH := hH.gr hs204 hn207 ho209
  have hf220 : f210 h0 = .inr (5, [.ref q1, .int 0, .int 0, .int 0, .int 0, .int 0, .int 0, .ref q30, .ref q58, .ref q89, .int 0, .int 0, .int 0, .ref q123, .int 0, .ref q160, .null]) := (ho209 _ ne213).trans g199
  have hl221 : h0 ∈ L211 := hs204 _ hl180
  clear g199 hl180
  obtain ⟨τ_222, ν_222, ρ_222, hG, hT, hb223, ht224, hn225, hr226⟩ := tp_type hG hT hq205 hz206 20 (4) (fun _ => 0) (by decide) (fun τ9 ν9 ρ9 hE h2 h3 => ⟨trivial, by rw [hf208]; exact tp_o20 h2⟩)
  have hH := hH.ty (fun a ha _ => hn212 a ha) hb223
  have ht227 : τ_222 q1 = 8 := (hb223 _ ne214).1.trans ht186
  have ht228 : τ_222 q30 = 20 := (hb223 _ ne215).1.trans ht187
  have hn229 : ν_222 q30 = 20 := (hb223 _ ne215).2.1.trans hn188
  have ht230 : τ_222 q58 = 20 := (hb223 _ ne216).1.trans ht189
  have hn231 : ν_222 q58 = 20 := (hb223 _ ne216).2.1.trans hn190
  have ht232 : τ_222 q89 = 21 := (hb223 _ ne217).1.trans ht191
  have hn233 : ν_222 q89 = 4 := (hb223 _ ne217).2.1.trans hn192
  have ht234 : τ_222 q123 = 20 := (hb223 _ ne218).1.trans ht193
  have hn235 : ν_222 q123 = 6 := (hb223 _ ne218).2.1.trans hn194
  have ht236 : τ_222 q160 = 20 := (hb223 _ ne219).1.trans ht183
  have hn237 : ν_222 q160 = 4 := (hb223 _ ne219).2.1.trans hn184
  have hz238 : τ_222 h0 = 0 := (hb223 _ ne213).1.trans hz195
  clear ht186 ht187 hn188 ht189 hn190 ht191 hn192 ht193 hn194 ht183 hn184 hz195 hb223 ne213 ne214 ne215 ne216 ne217 ne218 ne219
  refine tpk_pos hl221 hf220 (fun q239 eq239 => ?_)
  refine va_putF (D := (dC, dI)) (ci := 5) (v := .ref q200) (ty := (.array .int)) (C := RX5) (T := TX5) (N := 17) hx hb hts hfX5 tyX5 tyX5_ok nmX5 hown hK hP hD hS q239 eq239 rfl 16 (by decide) (hts (.fieldLink RX5 35 "ColdShips$Ship" "gaugeTons" "[I") wa_102) (fun _ h9 => h9) rfl hin rfl (tyX5_ok 16 (by decide)) rfl rfl (Nat.le_of_ble_eq_true rfl) dX5_init_57 (tp_k (.inr (5, [.ref q1, .int 0, .int 0, .int 0, .int 0, .int 0, .int 0, .ref q30, .ref q58, .ref q89, .int 0, .int 0, .int 0, .ref q123, .int 0, .ref q160, .ref q200])) hD hl221 eq239 (fun f240 H locs hP hD hS g242 k241 => ?_))
  have hT := hT.raw hz238 k241
  have hH := hH.wo k241
  obtain ⟨τ_243, ν_243, ρ_243, hG, hT, hb244, ht245, hn246, hr247⟩ := tp_type hG hT hl221 hz238 6 (0) (fun k => [q1, 0, 0, 0, 0, 0, 0, q30, q58, q89, 0, 0, 0, q123, 0, q160, q200].getD k 0) (by decide) (fun τ9 ν9 ρ9 hE h2 h3 => ⟨(by show (τ9 (ρ9 h0 0) = 8) ∧ (τ9 (ρ9 h0 7) = 20 ∧ ν9 (ρ9 h0 7) = 20) ∧ (τ9 (ρ9 h0 8) = 20 ∧ ν9 (ρ9 h0 8) = 20) ∧ (τ9 (ρ9 h0 9) = 21 ∧ ν9 (ρ9 h0 9) = 4) ∧ (τ9 (ρ9 h0 13) = 20 ∧ ν9 (ρ9 h0 13) = 6) ∧ (τ9 (ρ9 h0 15) = 20 ∧ ν9 (ρ9 h0 15) = 4) ∧ (τ9 (ρ9 h0 16) = 20 ∧ ν9 (ρ9 h0 16) = 4); rw [h3]; exact ⟨(hE q1 (by rw [ht227]; decide)).1.trans ht227, ⟨(hE q30 (by rw [ht228]; decide)).1.trans ht228, (hE q30 (by rw [ht228]; decide)).2.1.trans hn229⟩, ⟨(hE q58 (by rw [ht230]; decide)).1.trans ht230, (hE q58 (by rw [ht230]; decide)).2.1.trans hn231⟩, ⟨(hE q89 (by rw [ht232]; decide)).1.trans ht232, (hE q89 (by rw [ht232]; decide)).2.1.trans hn233⟩, ⟨(hE q123 (by rw [ht234]; decide)).1.trans ht234, (hE q123 (by rw [ht234]; decide)).2.1.trans hn235⟩, ⟨(hE q160 (by rw [ht236]; decide)).1.trans ht236, (hE q160 (by rw [ht236]; decide)).2.1.trans hn237⟩, ⟨(hE q200 (by rw [ht224]; decide)).1.trans ht224, (hE q200 (by rw [ht224]; decide)).2.1.trans hn225⟩⟩), by rw [g242]; exact ⟨_, _, _, _, _, _, _, _, _, _, (by rw [h3]; rfl), (by first | decide | (rw [h3]; decide) | (have : (0 : Int32).toInt = 0 := rfl; have : (0 : Int32).toInt = 0 := rfl; have : (0 : Int32).toInt = 0 := rfl; have : (0 : Int32).toInt = 0 := rfl; have : (0 : Int32).toInt = 0 := rfl; have : (0 : Int32).toInt = 0 := rfl; have : (0 : Int32).toInt = 0 := rfl; have : (0 : Int32).toInt = 0 := rfl; have : (0 : Int32).toInt = 0 := rfl; have : (0 : Int32).toInt = 0 := rfl; omega) | (rw [h3]; have : (0 : Int32).toInt = 0 := rfl; have : (0 : Int32).toInt = 0 := rfl; have : (0 : Int32).toInt = 0 := rfl; have : (0 : Int32).toInt = 0 := rfl; have : (0 : Int32).toInt = 0 := rfl; have : (0 : Int32).toInt = 0 := rfl; have : (0 : Int32).toInt = 0 := rfl; have : (0 : Int32).toInt = 0 := rfl; have : (0 : Int32).toInt = 0 := rfl; have : (0 : Int32).toInt = 0 := rfl; omega)), (by first | decide | (rw [h3]; decide) | (have : (0 : Int32).toInt = 0 := rfl; have : (0 : Int32).toInt = 0 := rfl; have : (0 : Int32).toInt = 0 := rfl; have : (0 : Int32).toInt = 0 := rfl; have : (0 : Int32).toInt = 0 := rfl; have : (0 : Int32).toInt = 0 := rfl; have : (0 : Int32).toInt = 0 := rfl; have : (0 : Int32).toInt = 0 := rfl; have : (0 : Int32).toInt = 0 := rfl; have : (0 : Int32).toInt = 0 := rfl; omega) | (rw [h3]; have : (0 : Int32).toInt = 0 := rfl; have : (0 : Int32).toInt = 0 := rfl; have : (0 : Int32).toInt = 0 := rfl; have : (0 : Int32).toInt = 0 := rfl; have : (0 : Int32).toInt = 0 := rfl; have : (0 : Int32).toInt = 0 := rfl; have : (0 : Int32).toInt = 0 := rfl; have : (0 : Int32).toInt = 0 := rfl; have : (0 : Int32).toInt = 0 := rfl; have : (0 : Int32).toInt = 0 := rfl; omega)), (by first | decide | (rw [h3]; decide) | (have : (0 : Int32).toInt = 0 := rfl; have : (0 : Int32).toInt = 0 := rfl; have : (0 : Int32).toInt = 0 := rfl; have : (0 : Int32).toInt = 0 := rfl; have : (0 : Int32).toInt = 0 := rfl; have : (0 : Int32).toInt = 0 := rfl; have : (0 : Int32).toInt = 0 := rfl; have : (0 : Int32).toInt = 0 := rfl; have : (0 : Int32).toInt = 0 := rfl; have : (0 : Int32).toInt = 0 := rfl; omega) | (rw [h3]; have : (0 : Int32).toInt = 0 := rfl; have : (0 : Int32).toInt = 0 := rfl; have : (0 : Int32).toInt = 0 := rfl; have : (0 : Int32).toInt = 0 := rfl; have : (0 : Int32).toInt = 0 := rfl; have : (0 : Int32).toInt = 0 := rfl; have : (0 : Int32).toInt = 0 := rfl; have : (0 : Int32).toInt = 0 := rfl; have : (0 : Int32).toInt = 0 := rfl; have : (0 : Int32).toInt = 0 := rfl; omega))⟩⟩)
  have hH := hH.ty (fun a _ ho z => ho (by rw [z])) hb244
  have ht248 : τ_243 q1 = 8 := (hb244 _ (Ne.symm (tp_ne0 hz238 ht227 (by decide)))).1.trans ht227
  have ht249 : τ_243 q30 = 20 := (hb244 _ (Ne.symm (tp_ne0 hz238 ht228 (by decide)))).1.trans ht228
  have hn250 : ν_243 q30 = 20 := (hb244 _ (Ne.symm (tp_ne0 hz238 ht228 (by decide)))).2.1.trans hn229
  have ht251 : τ_243 q58 = 20 := (hb244 _ (Ne.symm (tp_ne0 hz238 ht230 (by decide)))).1.trans ht230
  have hn252 : ν_243 q58 = 20 := (hb244 _ (Ne.symm (tp_ne0 hz238 ht230 (by decide)))).2.1.trans hn231
  have ht253 : τ_243 q89 = 21 := (hb244 _ (Ne.symm (tp_ne0 hz238 ht232 (by decide)))).1.trans ht232
  have hn254 : ν_243 q89 = 4 := (hb244 _ (Ne.symm (tp_ne0 hz238 ht232 (by decide)))).2.1.trans hn233
  have ht255 : τ_243 q123 = 20 := (hb244 _ (Ne.symm (tp_ne0 hz238 ht234 (by decide)))).1.trans ht234
  have hn256 : ν_243 q123 = 6 := (hb244 _ (Ne.symm (tp_ne0 hz238 ht234 (by decide)))).2.1.trans hn235
  have ht257 : τ_243 q160 = 20 := (hb244 _ (Ne.symm (tp_ne0 hz238 ht236 (by decide)))).1.trans ht236
  have hn258 : ν_243 q160 = 4 := (hb244 _ (Ne.symm (tp_ne0 hz238 ht236 (by decide)))).2.1.trans hn237
  have ht259 : τ_243 q200 = 20 := (hb244 _ (Ne.symm (tp_ne0 hz238 ht224 (by decide)))).1.trans ht224
  have hn260 : ν_243 q200 = 4 := (hb244 _ (Ne.symm (tp_ne0 hz238 ht224 (by decide)))).2.1.trans hn225
  clear ht227 ht228 hn229 ht230 hn231 ht232 hn233 ht234 hn235 ht236 hn237 ht224 hn225 hb244
  refine tp_widen 10 83 (Nat.le_of_ble_eq_true rfl) (Nat.le_of_ble_eq_true rfl) ?_
  exact W.vret hx hb hr (fun t ht hW => ⟨⟨(τ_243, ν_243, ρ_243, L211, f240), rfl, ⟨⟨hG, hT, hH⟩, ht245⟩, by rw [ht]; exact hP, va_K.moved hW.alike hK, hD⟩, hS.F ht⟩) hS.2.2 dX5_init_60
set_option maxHeartbeats 4000000 in
set_option maxRecDepth 100000 in
theorem t_X6_init_60 (l : Launch) (dC : Nat → ClassId) (dI : Nat → Nat → Nat) (sz : Nat) (Ω : Nat → (Nat → Nat) → va_E → Prop) (κ : Nat → ClassId) (τ ν : Nat → Nat) (ρ : Nat → Nat → Nat) (L : List Nat) (f : Nat → va_E) (hG : tp_G τ ν ρ L) (hT : tp_T Ω κ τ ν ρ f) (h0 : Nat) (hl_h0 : h0 ∈ L) (hz_h0 : τ h0 = 0) (hf_h0 : f h0 = .inr (6, [.null, .null, .null, .int 0])) : Met l yX6_init wqX6_init ({ frames := 2, cells := 3, slots := 180, locals := 400 }) (va_Pc [.ref h0, .int 60] (pz_B dC dI (tp_K κ) (va_pl L f) sz)) (va_Qv (fun (x : tp_S) => tp_PX Ω κ τ ν ρ L f [] (some h0) x ∧ x.1 h0 = 7) (fun (x : tp_S) (t : State) => pz_E dC dI (tp_K κ) (va_A (va_pl L f) sz) (va_pl x.2.2.2.1 x.2.2.2.2) t) (va_A (va_pl L f) sz)) 3 180 (va_A (va_pl L f) sz) := by
  refine Met.ofW (cc := cX6_init) (maxL := 3) (ret := none) (by decide) rfl ?_
  intro p e s m args below meth c s₁ B hml hv
  obtain ⟨rfl, hsz, hP, hK, hD0, hN⟩ := hv
  have hx := B.exec
  have hb := B.bytes
  have hr := B.returns
  have hts := fun (w : Cond) (h : w ∈ WALL) => atoms_spec (ws := wqX6_init) B.pre w (List.mem_cons_of_mem _ h)
  have hown : s.vm.findClass RX6 = some m.cls := findClass_of_methodNamed B.named
  have hlocks := B.notSynchronized
  have hin : meth.name = "<init>" := (name_of_methodNamed B.named B.method).1
  subst hsz
  have hD := hD0.self (sz := s.heap.size)
  generalize hAe : va_A (va_pl L f) s.heap.size = A at hD ⊢
  have hA : ∀ q : Nat, s.heap.size ≤ q → A q := fun q h => by rw [← hAe]; exact Or.inr h
  have hS : va_S A s.heap s.heap [] := va_S.rf
  have hH : tp_H τ ν ρ L f [] (some h0) τ ν ρ L f := tp_H.rf
  have hl := lv_entry ([.ref h0, .int 60]) (n := 3) (Nat.le_of_ble_eq_true rfl)
  rw [lg_entry_eq]
  generalize (lg_sl ([.ref h0, .int 60]) ++ List.replicate (3 - (lg_sl ([.ref h0, .int 60])).length) Slot.unset).toArray = ls at hl ⊢
  have hl : lv_has ls 3 [(0, .ref h0), (1, .int 60)] := hl
  refine lv_aload_n hx hb dX6_init_0 rfl (lv_at hl 0 rfl) ?_
  refine W.objInit hx hb hown (hts (.methodLink RX6 3 objectInit) wa_68) (hts (.instanceMethod objectInit) wa_10) (hts (.code objectInit ⟨#[0xb1]⟩ 1 none) wa_11) rfl (by rw [hml]; exact hl.1) rfl dX6_init_1 (Nat.le_of_ble_eq_true rfl) (Nat.le_of_ble_eq_true rfl) ?_
  refine W.eq (g2 := F0 m 4 ls []) rfl ?_
  refine lv_iconst (v := 0) hx hb dX6_init_4 (by decide) ?_
  refine lv_iload_n hx hb dX6_init_5 rfl (lv_at hl 1 rfl) ?_
  refine va_mmax hx hb (by rw [hml]; exact hl.1.symm) hown (hts (.methodLink RX6 9 Lib.Math.max.name) wa_69) (hts (.static Lib.Math.max.name) wa_70) (hts (.initialized "java/lang/Math") wa_71) (hts (.code Lib.Math.max.name Lib.Math.max.code 2 (some .int)) wa_72) (Nat.le_of_ble_eq_true rfl) (Nat.le_of_ble_eq_true rfl) (Nat.le_of_ble_eq_true rfl) (Nat.le_of_ble_eq_true rfl) dX6_init_6 ?_
  refine lv_topi (fun z1 ez1 => ?_)
  obtain rfl : z1 = 60 := ez1.trans (by first | rfl | decide)
  refine lv_istore_n (lv' := [(2, .int 60), (0, .ref h0), (1, .int 60)]) hx hb dX6_init_9 rfl hl (by decide) rfl (fun ls hl => ?_)
  refine lv_aload_n hx hb dX6_init_10 rfl (lv_at hl 1 rfl) ?_
  refine lv_iload_n hx hb dX6_init_11 rfl (lv_at hl 0 rfl) ?_
  refine va_newa (atype := .int) hx hb (hts (.arrayClass .int) wa_39) (ty := .int) rfl hK hP hD hS hA (a0 := (60, .inl (fun _ => 0))) (fun cA => pz_na_int cA 60) (by decide +kernel : ¬ (60 : Int32) < 0) (by decide +kernel : (60 : Int32).toNatClampNeg = 60) (by decide +kernel) (Nat.le_of_ble_eq_true rfl) (Nat.le_of_ble_eq_true rfl) dX6_init_12 (fun q2 k3 H hK hP hD hS => ?_)
  obtain ⟨e9, hK9⟩ := tp_kid 0 rfl hK; subst e9; have hK := hK9
  refine Exists.elim (tp_grow hG hT hP hD) (fun L13 hE90 => Exists.elim hE90 (fun f12 hE91 => tn_10 hE91 (fun hP hD hg4 ht5 hs6 hq7 hz8 hn9 hf10 ho11 => ?_)))
  clear hE91 hE90
  have hn14 : ∀ a, a ∈ L → a ≠ q2 := fun a ha => hn9 a (hH.1 a ha)
  have ne15 : h0 ≠ q2 := hn9 _ hl_h0
  have hG := hg4
  have hT := ht5
  have hH := hH.gr hs6 hn9 ho11
  have hf16 : f12 h0 = .inr (6, [.null, .null, .null, .int 0]) := (ho11 _ ne15).trans hf_h0
  have hl17 : h0 ∈ L13 := hs6 _ hl_h0
  clear hf_h0 hl_h0
  obtain ⟨τ_18, ν_18, ρ_18, hG, hT, hb19, ht20, hn21, hr22⟩ := tp_type hG hT hq7 hz8 20 (60) (fun _ => 0) (by decide) (fun τ9 ν9 ρ9 hE h2 h3 => ⟨trivial, by rw [hf10]; exact tp_o20 h2⟩)
  have hH := hH.ty (fun a ha _ => hn14 a ha) hb19
  have hz23 : τ_18 h0 = 0 := (hb19 _ ne15).1.trans hz_h0
  clear hz_h0 hb19 ne15
  refine tpk_pos hl17 hf16 (fun q24 eq24 => ?_)
  refine va_putF (D := (dC, dI)) (ci := 6) (v := .ref q2) (ty := (.array .int)) (C := RX6) (T := TX6) (N := 4) hx hb hts hfX6 tyX6 tyX6_ok nmX6 hown hK hP hD hS q24 eq24 rfl 0 (by decide) (hts (.fieldLink RX6 15 "ColdShips$Spans" "owners" "[I") wa_73) (fun _ h9 => h9) rfl hin rfl (tyX6_ok 0 (by decide)) rfl rfl (Nat.le_of_ble_eq_true rfl) dX6_init_14 (tp_k (.inr (6, [.ref q2, .null, .null, .int 0])) hD hl17 eq24 (fun f25 H locs hP hD hS g27 k26 => ?_))
  have hT := hT.raw hz23 k26
  have hH := hH.wo k26
  refine lv_aload_n hx hb dX6_init_17 rfl (lv_at hl 1 rfl) ?_
  refine lv_iload_n hx hb dX6_init_18 rfl (lv_at hl 0 rfl) ?_
  refine va_newa (atype := .int) hx hb (hts (.arrayClass .int) wa_39) (ty := .int) rfl hK hP hD hS hA (a0 := (60, .inl (fun _ => 0))) (fun cA => pz_na_int cA 60) (by decide +kernel : ¬ (60 : Int32) < 0) (by decide +kernel : (60 : Int32).toNatClampNeg = 60) (by decide +kernel) (Nat.le_of_ble_eq_true rfl) (Nat.le_of_ble_eq_true rfl) dX6_init_19 (fun q28 k29 H hK hP hD hS => ?_)
  obtain ⟨e9, hK9⟩ := tp_kid 0 rfl hK; subst e9; have hK := hK9
  refine Exists.elim (tp_grow hG hT hP hD) (fun L39 hE90 => Exists.elim hE90 (fun f38 hE91 => tn_10 hE91 (fun hP hD hg30 ht31 hs32 hq33 hz34 hn35 hf36 ho37 => ?_)))
  clear hE91 hE90
  have hn40 : ∀ a, a ∈ L → a ≠ q28 := fun a ha => hn35 a (hH.1 a ha)
  have ne41 : h0 ≠ q28 := hn35 _ hl17
  have ne42 : q2 ≠ q28 := hn35 _ (tp_in hG ht20 (by decide))
  have hG := hg30
  have hT := ht31
  have hH := hH.gr hs32 hn35 ho37
  have hf43 : f38 h0 = .inr (6, [.ref q2, .null, .null, .int 0]) := (ho37 _ ne41).trans g27
  have hl44 : h0 ∈ L39 := hs32 _ hl17
  clear g27 hl17
  obtain ⟨τ_45, ν_45, ρ_45, hG, hT, hb46, ht47, hn48, hr49⟩ := tp_type hG hT hq33 hz34 20 (60) (fun _ => 0) (by decide) (fun τ9 ν9 ρ9 hE h2 h3 => ⟨trivial, by rw [hf36]; exact tp_o20 h2⟩)
  have hH := hH.ty (fun a ha _ => hn40 a ha) hb46
  have ht50 : τ_45 q2 = 20 := (hb46 _ ne42).1.trans ht20
  have hn51 : ν_45 q2 = 60 := (hb46 _ ne42).2.1.trans hn21
  have hz52 : τ_45 h0 = 0 := (hb46 _ ne41).1.trans hz23
  clear ht20 hn21 hz23 hb46 ne41 ne42
  refine tpk_pos hl44 hf43 (fun q53 eq53 => ?_)
  refine va_putF (D := (dC, dI)) (ci := 6) (v := .ref q28) (ty := (.array .int)) (C := RX6) (T := TX6) (N := 4) hx hb hts hfX6 tyX6 tyX6_ok nmX6 hown hK hP hD hS q53 eq53 rfl 1 (by decide) (hts (.fieldLink RX6 21 "ColdShips$Spans" "begins" "[I") wa_74) (fun _ h9 => h9) rfl hin rfl (tyX6_ok 1 (by decide)) rfl rfl (Nat.le_of_ble_eq_true rfl) dX6_init_21 (tp_k (.inr (6, [.ref q2, .ref q28, .null, .int 0])) hD hl44 eq53 (fun f54 H locs hP hD hS g56 k55 => ?_))
  have hT := hT.raw hz52 k55
  have hH := hH.wo k55
  refine lv_aload_n hx hb dX6_init_24 rfl (lv_at hl 1 rfl) ?_
  refine lv_iload_n hx hb dX6_init_25 rfl (lv_at hl 0 rfl) ?_
  refine va_newa (atype := .int) hx hb (hts (.arrayClass .int) wa_39) (ty := .int) rfl hK hP hD hS hA (a0 := (60, .inl (fun _ => 0))) (fun cA => pz_na_int cA 60) (by decide +kernel : ¬ (60 : Int32) < 0) (by decide +kernel : (60 : Int32).toNatClampNeg = 60) (by decide +kernel) (Nat.le_of_ble_eq_true rfl) (Nat.le_of_ble_eq_true rfl) dX6_init_26 (fun q57 k58 H hK hP hD hS => ?_)
  obtain ⟨e9, hK9⟩ := tp_kid 0 rfl hK; subst e9; have hK := hK9
  refine Exists.elim (tp_grow hG hT hP hD) (fun L68 hE90 => Exists.elim hE90 (fun f67 hE91 => tn_10 hE91 (fun hP hD hg59 ht60 hs61 hq62 hz63 hn64 hf65 ho66 => ?_)))
  clear hE91 hE90
  have hn69 : ∀ a, a ∈ L → a ≠ q57 := fun a ha => hn64 a (hH.1 a ha)
  have ne70 : h0 ≠ q57 := hn64 _ hl44
  have ne71 : q2 ≠ q57 := hn64 _ (tp_in hG ht50 (by decide))
  have ne72 : q28 ≠ q57 := hn64 _ (tp_in hG ht47 (by decide))
  have hG := hg59
  have hT := ht60
  have hH := hH.gr hs61 hn64 ho66
  have hf73 : f67 h0 = .inr (6, [.ref q2, .ref q28, .null, .int 0]) := (ho66 _ ne70).trans g56
  have hl74 : h0 ∈ L68 := hs61 _ hl44
  clear g56 hl44
  obtain ⟨τ_75, ν_75, ρ_75, hG, hT, hb76, ht77, hn78, hr79⟩ := tp_type hG hT hq62 hz63 20 (60) (fun _ => 0) (by decide) (fun τ9 ν9 ρ9 hE h2 h3 => ⟨trivial, by rw [hf65]; exact tp_o20 h2⟩)
  have hH := hH.ty (fun a ha _ => hn69 a ha) hb76
  have ht80 : τ_75 q2 = 20 := (hb76 _ ne71).1.trans ht50
  have hn81 : ν_75 q2 = 60 := (hb76 _ ne71).2.1.trans hn51
  have ht82 : τ_75 q28 = 20 := (hb76 _ ne72).1.trans ht47
  have hn83 : ν_75 q28 = 60 := (hb76 _ ne72).2.1.trans hn48
  have hz84 : τ_75 h0 = 0 := (hb76 _ ne70).1.trans hz52
  clear ht50 hn51 ht47 hn48 hz52 hb76 ne70 ne71 ne72
  refine tpk_pos hl74 hf73 (fun q85 eq85 => ?_)
  refine va_putF (D := (dC, dI)) (ci := 6) (v := .ref q57) (ty := (.array .int)) (C := RX6) (T := TX6) (N := 4) hx hb hts hfX6 tyX6 tyX6_ok nmX6 hown hK hP hD hS q85 eq85 rfl 2 (by decide) (hts (.fieldLink RX6 24 "ColdShips$Spans" "ends" "[I") wa_75) (fun _ h9 => h9) rfl hin rfl (tyX6_ok 2 (by decide)) rfl rfl (Nat.le_of_ble_eq_true rfl) dX6_init_28 (tp_k (.inr (6, [.ref q2, .ref q28, .ref q57, .int 0])) hD hl74 eq85 (fun f86 H locs hP hD hS g88 k87 => ?_))
  have hT := hT.raw hz84 k87
  have hH := hH.wo k87
  obtain ⟨τ_89, ν_89, ρ_89, hG, hT, hb90, ht91, hn92, hr93⟩ := tp_type hG hT hl74 hz84 7 (0) (fun k => [q2, q28, q57, 0].getD k 0) (by decide) (fun τ9 ν9 ρ9 hE h2 h3 => ⟨(by show (τ9 (ρ9 h0 0) = 20 ∧ ν9 (ρ9 h0 0) ≤ 60) ∧ (τ9 (ρ9 h0 1) = 20 ∧ ν9 (ρ9 h0 1) = ν9 (ρ9 h0 0)) ∧ (τ9 (ρ9 h0 2) = 20 ∧ ν9 (ρ9 h0 2) = ν9 (ρ9 h0 0)); rw [h3]; exact ⟨⟨(hE q2 (by rw [ht80]; decide)).1.trans ht80, (by have q9 := (hE q2 (by rw [ht80]; decide)).2.1.trans hn81; show ν9 q2 ≤ _; omega)⟩, ⟨(hE q28 (by rw [ht82]; decide)).1.trans ht82, ((hE q28 (by rw [ht82]; decide)).2.1.trans hn83).trans ((hE q2 (by rw [ht80]; decide)).2.1.trans hn81).symm⟩, ⟨(hE q57 (by rw [ht77]; decide)).1.trans ht77, ((hE q57 (by rw [ht77]; decide)).2.1.trans hn78).trans ((hE q2 (by rw [ht80]; decide)).2.1.trans hn81).symm⟩⟩), by rw [g88]; exact ⟨_, (by rw [h3]; rfl), (by first | decide | (rw [h3]; decide) | (have : (0 : Int32).toInt = 0 := rfl; omega) | (rw [h3]; have : (0 : Int32).toInt = 0 := rfl; omega))⟩⟩)
  have hH := hH.ty (fun a _ ho z => ho (by rw [z])) hb90
  have ht94 : τ_89 q2 = 20 := (hb90 _ (Ne.symm (tp_ne0 hz84 ht80 (by decide)))).1.trans ht80
  have hn95 : ν_89 q2 = 60 := (hb90 _ (Ne.symm (tp_ne0 hz84 ht80 (by decide)))).2.1.trans hn81
  have ht96 : τ_89 q28 = 20 := (hb90 _ (Ne.symm (tp_ne0 hz84 ht82 (by decide)))).1.trans ht82
  have hn97 : ν_89 q28 = 60 := (hb90 _ (Ne.symm (tp_ne0 hz84 ht82 (by decide)))).2.1.trans hn83
  have ht98 : τ_89 q57 = 20 := (hb90 _ (Ne.symm (tp_ne0 hz84 ht77 (by decide)))).1.trans ht77
  have hn99 : ν_89 q57 = 60 := (hb90 _ (Ne.symm (tp_ne0 hz84 ht77 (by decide)))).2.1.trans hn78
  clear ht80 hn81 ht82 hn83 ht77 hn78 hb90
  refine tp_widen 3 180 (Nat.le_of_ble_eq_true rfl) (Nat.le_of_ble_eq_true rfl) ?_
  exact W.vret hx hb hr (fun t ht hW => ⟨⟨(τ_89, ν_89, ρ_89, L68, f86), rfl, ⟨⟨hG, hT, hH⟩, ht91⟩, by rw [ht]; exact hP, va_K.moved hW.alike hK, hD⟩, hS.F ht⟩) hS.2.2 dX6_init_31
set_option maxHeartbeats 4000000 in
set_option maxRecDepth 100000 in
theorem t_X6_init_20 (l : Launch) (dC : Nat → ClassId) (dI : Nat → Nat → Nat) (sz : Nat) (Ω : Nat → (Nat → Nat) → va_E → Prop) (κ : Nat → ClassId) (τ ν : Nat → Nat) (ρ : Nat → Nat → Nat) (L : List Nat) (f : Nat → va_E) (hG : tp_G τ ν ρ L) (hT : tp_T Ω κ τ ν ρ f) (h0 : Nat) (hl_h0 : h0 ∈ L) (hz_h0 : τ h0 = 0) (hf_h0 : f h0 = .inr (6, [.null, .null, .null, .int 0])) : Met l yX6_init wqX6_init ({ frames := 2, cells := 3, slots := 60, locals := 400 }) (va_Pc [.ref h0, .int 20] (pz_B dC dI (tp_K κ) (va_pl L f) sz)) (va_Qv (fun (x : tp_S) => tp_PX Ω κ τ ν ρ L f [] (some h0) x ∧ x.1 h0 = 7) (fun (x : tp_S) (t : State) => pz_E dC dI (tp_K κ) (va_A (va_pl L f) sz) (va_pl x.2.2.2.1 x.2.2.2.2) t) (va_A (va_pl L f) sz)) 3 60 (va_A (va_pl L f) sz) := by
  refine Met.ofW (cc := cX6_init) (maxL := 3) (ret := none) (by decide) rfl ?_
  intro p e s m args below meth c s₁ B hml hv
  obtain ⟨rfl, hsz, hP, hK, hD0, hN⟩ := hv
  have hx := B.exec
  have hb := B.bytes
  have hr := B.returns
  have hts := fun (w : Cond) (h : w ∈ WALL) => atoms_spec (ws := wqX6_init) B.pre w (List.mem_cons_of_mem _ h)
  have hown : s.vm.findClass RX6 = some m.cls := findClass_of_methodNamed B.named
  have hlocks := B.notSynchronized
  have hin : meth.name = "<init>" := (name_of_methodNamed B.named B.method).1
  subst hsz
  have hD := hD0.self (sz := s.heap.size)
  generalize hAe : va_A (va_pl L f) s.heap.size = A at hD ⊢
  have hA : ∀ q : Nat, s.heap.size ≤ q → A q := fun q h => by rw [← hAe]; exact Or.inr h
  have hS : va_S A s.heap s.heap [] := va_S.rf
  have hH : tp_H τ ν ρ L f [] (some h0) τ ν ρ L f := tp_H.rf
  have hl := lv_entry ([.ref h0, .int 20]) (n := 3) (Nat.le_of_ble_eq_true rfl)
  rw [lg_entry_eq]
  generalize (lg_sl ([.ref h0, .int 20]) ++ List.replicate (3 - (lg_sl ([.ref h0, .int 20])).length) Slot.unset).toArray = ls at hl ⊢
  have hl : lv_has ls 3 [(0, .ref h0), (1, .int 20)] := hl
  refine lv_aload_n hx hb dX6_init_0 rfl (lv_at hl 0 rfl) ?_
  refine W.objInit hx hb hown (hts (.methodLink RX6 3 objectInit) wa_68) (hts (.instanceMethod objectInit) wa_10) (hts (.code objectInit ⟨#[0xb1]⟩ 1 none) wa_11) rfl (by rw [hml]; exact hl.1) rfl dX6_init_1 (Nat.le_of_ble_eq_true rfl) (Nat.le_of_ble_eq_true rfl) ?_
  refine W.eq (g2 := F0 m 4 ls []) rfl ?_
  refine lv_iconst (v := 0) hx hb dX6_init_4 (by decide) ?_
  refine lv_iload_n hx hb dX6_init_5 rfl (lv_at hl 1 rfl) ?_
  refine va_mmax hx hb (by rw [hml]; exact hl.1.symm) hown (hts (.methodLink RX6 9 Lib.Math.max.name) wa_69) (hts (.static Lib.Math.max.name) wa_70) (hts (.initialized "java/lang/Math") wa_71) (hts (.code Lib.Math.max.name Lib.Math.max.code 2 (some .int)) wa_72) (Nat.le_of_ble_eq_true rfl) (Nat.le_of_ble_eq_true rfl) (Nat.le_of_ble_eq_true rfl) (Nat.le_of_ble_eq_true rfl) dX6_init_6 ?_
  refine lv_topi (fun z1 ez1 => ?_)
  obtain rfl : z1 = 20 := ez1.trans (by first | rfl | decide)
  refine lv_istore_n (lv' := [(2, .int 20), (0, .ref h0), (1, .int 20)]) hx hb dX6_init_9 rfl hl (by decide) rfl (fun ls hl => ?_)
  refine lv_aload_n hx hb dX6_init_10 rfl (lv_at hl 1 rfl) ?_
  refine lv_iload_n hx hb dX6_init_11 rfl (lv_at hl 0 rfl) ?_
  refine va_newa (atype := .int) hx hb (hts (.arrayClass .int) wa_39) (ty := .int) rfl hK hP hD hS hA (a0 := (20, .inl (fun _ => 0))) (fun cA => pz_na_int cA 20) (by decide +kernel : ¬ (20 : Int32) < 0) (by decide +kernel : (20 : Int32).toNatClampNeg = 20) (by decide +kernel) (Nat.le_of_ble_eq_true rfl) (Nat.le_of_ble_eq_true rfl) dX6_init_12 (fun q2 k3 H hK hP hD hS => ?_)
  obtain ⟨e9, hK9⟩ := tp_kid 0 rfl hK; subst e9; have hK := hK9
  refine Exists.elim (tp_grow hG hT hP hD) (fun L13 hE90 => Exists.elim hE90 (fun f12 hE91 => tn_10 hE91 (fun hP hD hg4 ht5 hs6 hq7 hz8 hn9 hf10 ho11 => ?_)))
  clear hE91 hE90
  have hn14 : ∀ a, a ∈ L → a ≠ q2 := fun a ha => hn9 a (hH.1 a ha)
  have ne15 : h0 ≠ q2 := hn9 _ hl_h0
  have hG := hg4
  have hT := ht5
  have hH := hH.gr hs6 hn9 ho11
  have hf16 : f12 h0 = .inr (6, [.null, .null, .null, .int 0]) := (ho11 _ ne15).trans hf_h0
  have hl17 : h0 ∈ L13 := hs6 _ hl_h0
  clear hf_h0 hl_h0
  obtain ⟨τ_18, ν_18, ρ_18, hG, hT, hb19, ht20, hn21, hr22⟩ := tp_type hG hT hq7 hz8 20 (20) (fun _ => 0) (by decide) (fun τ9 ν9 ρ9 hE h2 h3 => ⟨trivial, by rw [hf10]; exact tp_o20 h2⟩)
  have hH := hH.ty (fun a ha _ => hn14 a ha) hb19
  have hz23 : τ_18 h0 = 0 := (hb19 _ ne15).1.trans hz_h0
  clear hz_h0 hb19 ne15
  refine tpk_pos hl17 hf16 (fun q24 eq24 => ?_)
  refine va_putF (D := (dC, dI)) (ci := 6) (v := .ref q2) (ty := (.array .int)) (C := RX6) (T := TX6) (N := 4) hx hb hts hfX6 tyX6 tyX6_ok nmX6 hown hK hP hD hS q24 eq24 rfl 0 (by decide) (hts (.fieldLink RX6 15 "ColdShips$Spans" "owners" "[I") wa_73) (fun _ h9 => h9) rfl hin rfl (tyX6_ok 0 (by decide)) rfl rfl (Nat.le_of_ble_eq_true rfl) dX6_init_14 (tp_k (.inr (6, [.ref q2, .null, .null, .int 0])) hD hl17 eq24 (fun f25 H locs hP hD hS g27 k26 => ?_))
  have hT := hT.raw hz23 k26
  have hH := hH.wo k26
  refine lv_aload_n hx hb dX6_init_17 rfl (lv_at hl 1 rfl) ?_
  refine lv_iload_n hx hb dX6_init_18 rfl (lv_at hl 0 rfl) ?_
  refine va_newa (atype := .int) hx hb (hts (.arrayClass .int) wa_39) (ty := .int) rfl hK hP hD hS hA (a0 := (20, .inl (fun _ => 0))) (fun cA => pz_na_int cA 20) (by decide +kernel : ¬ (20 : Int32) < 0) (by decide +kernel : (20 : Int32).toNatClampNeg = 20) (by decide +kernel) (Nat.le_of_ble_eq_true rfl) (Nat.le_of_ble_eq_true rfl) dX6_init_19 (fun q28 k29 H hK hP hD hS => ?_)
  obtain ⟨e9, hK9⟩ := tp_kid 0 rfl hK; subst e9; have hK := hK9
  refine Exists.elim (tp_grow hG hT hP hD) (fun L39 hE90 => Exists.elim hE90 (fun f38 hE91 => tn_10 hE91 (fun hP hD hg30 ht31 hs32 hq33 hz34 hn35 hf36 ho37 => ?_)))
  clear hE91 hE90
  have hn40 : ∀ a, a ∈ L → a ≠ q28 := fun a ha => hn35 a (hH.1 a ha)
  have ne41 : h0 ≠ q28 := hn35 _ hl17
  have ne42 : q2 ≠ q28 := hn35 _ (tp_in hG ht20 (by decide))
  have hG := hg30
  have hT := ht31
  have hH := hH.gr hs32 hn35 ho37
  have hf43 : f38 h0 = .inr (6, [.ref q2, .null, .null, .int 0]) := (ho37 _ ne41).trans g27
  have hl44 : h0 ∈ L39 := hs32 _ hl17
  clear g27 hl17
  obtain ⟨τ_45, ν_45, ρ_45, hG, hT, hb46, ht47, hn48, hr49⟩ := tp_type hG hT hq33 hz34 20 (20) (fun _ => 0) (by decide) (fun τ9 ν9 ρ9 hE h2 h3 => ⟨trivial, by rw [hf36]; exact tp_o20 h2⟩)
  have hH := hH.ty (fun a ha _ => hn40 a ha) hb46
  have ht50 : τ_45 q2 = 20 := (hb46 _ ne42).1.trans ht20
  have hn51 : ν_45 q2 = 20 := (hb46 _ ne42).2.1.trans hn21
  have hz52 : τ_45 h0 = 0 := (hb46 _ ne41).1.trans hz23
  clear ht20 hn21 hz23 hb46 ne41 ne42
  refine tpk_pos hl44 hf43 (fun q53 eq53 => ?_)
  refine va_putF (D := (dC, dI)) (ci := 6) (v := .ref q28) (ty := (.array .int)) (C := RX6) (T := TX6) (N := 4) hx hb hts hfX6 tyX6 tyX6_ok nmX6 hown hK hP hD hS q53 eq53 rfl 1 (by decide) (hts (.fieldLink RX6 21 "ColdShips$Spans" "begins" "[I") wa_74) (fun _ h9 => h9) rfl hin rfl (tyX6_ok 1 (by decide)) rfl rfl (Nat.le_of_ble_eq_true rfl) dX6_init_21 (tp_k (.inr (6, [.ref q2, .ref q28, .null, .int 0])) hD hl44 eq53 (fun f54 H locs hP hD hS g56 k55 => ?_))
  have hT := hT.raw hz52 k55
  have hH := hH.wo k55
  refine lv_aload_n hx hb dX6_init_24 rfl (lv_at hl 1 rfl) ?_
  refine lv_iload_n hx hb dX6_init_25 rfl (lv_at hl 0 rfl) ?_
  refine va_newa (atype := .int) hx hb (hts (.arrayClass .int) wa_39) (ty := .int) rfl hK hP hD hS hA (a0 := (20, .inl (fun _ => 0))) (fun cA => pz_na_int cA 20) (by decide +kernel : ¬ (20 : Int32) < 0) (by decide +kernel : (20 : Int32).toNatClampNeg = 20) (by decide +kernel) (Nat.le_of_ble_eq_true rfl) (Nat.le_of_ble_eq_true rfl) dX6_init_26 (fun q57 k58 H hK hP hD hS => ?_)
  obtain ⟨e9, hK9⟩ := tp_kid 0 rfl hK; subst e9; have hK := hK9
  refine Exists.elim (tp_grow hG hT hP hD) (fun L68 hE90 => Exists.elim hE90 (fun f67 hE91 => tn_10 hE91 (fun hP hD hg59 ht60 hs61 hq62 hz63 hn64 hf65 ho66 => ?_)))
  clear hE91 hE90
  have hn69 : ∀ a, a ∈ L → a ≠ q57 := fun a ha => hn64 a (hH.1 a ha)
  have ne70 : h0 ≠ q57 := hn64 _ hl44
  have ne71 : q2 ≠ q57 := hn64 _ (tp_in hG ht50 (by decide))
  have ne72 : q28 ≠ q57 := hn64 _ (tp_in hG ht47 (by decide))
  have hG := hg59
  have hT := ht60
  have hH := hH.gr hs61 hn64 ho66
  have hf73 : f67 h0 = .inr (6, [.ref q2, .ref q28, .null, .int 0]) := (ho66 _ ne70).trans g56
  have hl74 : h0 ∈ L68 := hs61 _ hl44
  clear g56 hl44
  obtain ⟨τ_75, ν_75, ρ_75, hG, hT, hb76, ht77, hn78, hr79⟩ := tp_type hG hT hq62 hz63 20 (20) (fun _ => 0) (by decide) (fun τ9 ν9 ρ9 hE h2 h3 => ⟨trivial, by rw [hf65]; exact tp_o20 h2⟩)
  have hH := hH.ty (fun a ha _ => hn69 a ha) hb76
  have ht80 : τ_75 q2 = 20 := (hb76 _ ne71).1.trans ht50
  have hn81 : ν_75 q2 = 20 := (hb76 _ ne71).2.1.trans hn51
  have ht82 : τ_75 q28 = 20 := (hb76 _ ne72).1.trans ht47
  have hn83 : ν_75 q28 = 20 := (hb76 _ ne72).2.1.trans hn48
  have hz84 : τ_75 h0 = 0 := (hb76 _ ne70).1.trans hz52
  clear ht50 hn51 ht47 hn48 hz52 hb76 ne70 ne71 ne72
  refine tpk_pos hl74 hf73 (fun q85 eq85 => ?_)
  refine va_putF (D := (dC, dI)) (ci := 6) (v := .ref q57) (ty := (.array .int)) (C := RX6) (T := TX6) (N := 4) hx hb hts hfX6 tyX6 tyX6_ok nmX6 hown hK hP hD hS q85 eq85 rfl 2 (by decide) (hts (.fieldLink RX6 24 "ColdShips$Spans" "ends" "[I") wa_75) (fun _ h9 => h9) rfl hin rfl (tyX6_ok 2 (by decide)) rfl rfl (Nat.le_of_ble_eq_true rfl) dX6_init_28 (tp_k (.inr (6, [.ref q2, .ref q28, .ref q57, .int 0])) hD hl74 eq85 (fun f86 H locs hP hD hS g88 k87 => ?_))
  have hT := hT.raw hz84 k87
  have hH := hH.wo k87
  obtain ⟨τ_89, ν_89, ρ_89, hG, hT, hb90, ht91, hn92, hr93⟩ := tp_type hG hT hl74 hz84 7 (0) (fun k => [q2, q28, q57, 0].getD k 0) (by decide) (fun τ9 ν9 ρ9 hE h2 h3 => ⟨(by show (τ9 (ρ9 h0 0) = 20 ∧ ν9 (ρ9 h0 0) ≤ 60) ∧ (τ9 (ρ9 h0 1) = 20 ∧ ν9 (ρ9 h0 1) = ν9 (ρ9 h0 0)) ∧ (τ9 (ρ9 h0 2) = 20 ∧ ν9 (ρ9 h0 2) = ν9 (ρ9 h0 0)); rw [h3]; exact ⟨⟨(hE q2 (by rw [ht80]; decide)).1.trans ht80, (by have q9 := (hE q2 (by rw [ht80]; decide)).2.1.trans hn81; show ν9 q2 ≤ _; omega)⟩, ⟨(hE q28 (by rw [ht82]; decide)).1.trans ht82, ((hE q28 (by rw [ht82]; decide)).2.1.trans hn83).trans ((hE q2 (by rw [ht80]; decide)).2.1.trans hn81).symm⟩, ⟨(hE q57 (by rw [ht77]; decide)).1.trans ht77, ((hE q57 (by rw [ht77]; decide)).2.1.trans hn78).trans ((hE q2 (by rw [ht80]; decide)).2.1.trans hn81).symm⟩⟩), by rw [g88]; exact ⟨_, (by rw [h3]; rfl), (by first | decide | (rw [h3]; decide) | (have : (0 : Int32).toInt = 0 := rfl; omega) | (rw [h3]; have : (0 : Int32).toInt = 0 := rfl; omega))⟩⟩)
  have hH := hH.ty (fun a _ ho z => ho (by rw [z])) hb90
  have ht94 : τ_89 q2 = 20 := (hb90 _ (Ne.symm (tp_ne0 hz84 ht80 (by decide)))).1.trans ht80
  have hn95 : ν_89 q2 = 20 := (hb90 _ (Ne.symm (tp_ne0 hz84 ht80 (by decide)))).2.1.trans hn81
  have ht96 : τ_89 q28 = 20 := (hb90 _ (Ne.symm (tp_ne0 hz84 ht82 (by decide)))).1.trans ht82
  have hn97 : ν_89 q28 = 20 := (hb90 _ (Ne.symm (tp_ne0 hz84 ht82 (by decide)))).2.1.trans hn83
  have ht98 : τ_89 q57 = 20 := (hb90 _ (Ne.symm (tp_ne0 hz84 ht77 (by decide)))).1.trans ht77
  have hn99 : ν_89 q57 = 20 := (hb90 _ (Ne.symm (tp_ne0 hz84 ht77 (by decide)))).2.1.trans hn78
  clear ht80 hn81 ht82 hn83 ht77 hn78 hb90
  refine tp_widen 3 60 (Nat.le_of_ble_eq_true rfl) (Nat.le_of_ble_eq_true rfl) ?_
  exact W.vret hx hb hr (fun t ht hW => ⟨⟨(τ_89, ν_89, ρ_89, L68, f86), rfl, ⟨⟨hG, hT, hH⟩, ht91⟩, by rw [ht]; exact hP, va_K.moved hW.alike hK, hD⟩, hS.F ht⟩) hS.2.2 dX6_init_31
set_option maxHeartbeats 4000000 in
set_option maxRecDepth 100000 in
theorem t_X4_init_60_3 (l : Launch) (dC : Nat → ClassId) (dI : Nat → Nat → Nat) (sz : Nat) (Ω : Nat → (Nat → Nat) → va_E → Prop) (κ : Nat → ClassId) (τ ν : Nat → Nat) (ρ : Nat → Nat → Nat) (L : List Nat) (f : Nat → va_E) (hG : tp_G τ ν ρ L) (hT : tp_T Ω κ τ ν ρ f) (h0 : Nat) (hl_h0 : h0 ∈ L) (hz_h0 : τ h0 = 0) (hf_h0 : f h0 = .inr (4, [.int 0, .null, .int 0])) : Met l yX4_init wqX4_init ({ frames := 2, cells := 1, slots := 180, locals := 400 }) (va_Pc [.ref h0, .int 60, .int 3] (pz_B dC dI (tp_K κ) (va_pl L f) sz)) (va_Qv (fun (x : tp_S) => tp_PX Ω κ τ ν ρ L f [] (some h0) x ∧ x.1 h0 = 5 ∧ x.2.2.1 h0 10 = 3 ∧ x.2.2.1 h0 11 = 60) (fun (x : tp_S) (t : State) => pz_E dC dI (tp_K κ) (va_A (va_pl L f) sz) (va_pl x.2.2.2.1 x.2.2.2.2) t) (va_A (va_pl L f) sz)) 1 180 (va_A (va_pl L f) sz) := by
  refine Met.ofW (cc := cX4_init) (maxL := 3) (ret := none) (by decide) rfl ?_
  intro p e s m args below meth c s₁ B hml hv
  obtain ⟨rfl, hsz, hP, hK, hD0, hN⟩ := hv
  have hx := B.exec
  have hb := B.bytes
  have hr := B.returns
  have hts := fun (w : Cond) (h : w ∈ WALL) => atoms_spec (ws := wqX4_init) B.pre w (List.mem_cons_of_mem _ h)
  have hown : s.vm.findClass RX4 = some m.cls := findClass_of_methodNamed B.named
  have hlocks := B.notSynchronized
  have hin : meth.name = "<init>" := (name_of_methodNamed B.named B.method).1
  subst hsz
  have hD := hD0.self (sz := s.heap.size)
  generalize hAe : va_A (va_pl L f) s.heap.size = A at hD ⊢
  have hA : ∀ q : Nat, s.heap.size ≤ q → A q := fun q h => by rw [← hAe]; exact Or.inr h
  have hS : va_S A s.heap s.heap [] := va_S.rf
  have hH : tp_H τ ν ρ L f [] (some h0) τ ν ρ L f := tp_H.rf
  have hl := lv_entry ([.ref h0, .int 60, .int 3]) (n := 3) (Nat.le_of_ble_eq_true rfl)
  rw [lg_entry_eq]
  generalize (lg_sl ([.ref h0, .int 60, .int 3]) ++ List.replicate (3 - (lg_sl ([.ref h0, .int 60, .int 3])).length) Slot.unset).toArray = ls at hl ⊢
  have hl : lv_has ls 3 [(0, .ref h0), (1, .int 60), (2, .int 3)] := hl
  refine lv_aload_n hx hb dX4_init_0 rfl (lv_at hl 0 rfl) ?_
  refine W.objInit hx hb hown (hts (.methodLink RX4 3 objectInit) wa_79) (hts (.instanceMethod objectInit) wa_10) (hts (.code objectInit ⟨#[0xb1]⟩ 1 none) wa_11) rfl (by rw [hml]; exact hl.1) rfl dX4_init_1 (Nat.le_of_ble_eq_true rfl) (Nat.le_of_ble_eq_true rfl) ?_
  refine W.eq (g2 := F0 m 4 ls []) rfl ?_
  refine lv_aload_n hx hb dX4_init_4 rfl (lv_at hl 0 rfl) ?_
  refine lv_iconst (v := 1) hx hb dX4_init_5 (by decide) ?_
  refine lv_iload_n hx hb dX4_init_6 rfl (lv_at hl 2 rfl) ?_
  refine va_mmax hx hb (by rw [hml]; exact hl.1.symm) hown (hts (.methodLink RX4 9 Lib.Math.max.name) wa_80) (hts (.static Lib.Math.max.name) wa_70) (hts (.initialized "java/lang/Math") wa_71) (hts (.code Lib.Math.max.name Lib.Math.max.code 2 (some .int)) wa_72) (Nat.le_of_ble_eq_true rfl) (Nat.le_of_ble_eq_true rfl) (Nat.le_of_ble_eq_true rfl) (Nat.le_of_ble_eq_true rfl) dX4_init_7 ?_
  refine lv_topi (fun z1 ez1 => ?_)
  obtain rfl : z1 = 3 := ez1.trans (by first | rfl | decide)
  refine tpk_pos hl_h0 hf_h0 (fun q2 eq2 => ?_)
  refine va_putF (D := (dC, dI)) (ci := 4) (v := .int 3) (ty := .int) (C := RX4) (T := TX4) (N := 3) hx hb hts hfX4 tyX4 tyX4_ok nmX4 hown hK hP hD hS q2 eq2 rfl 0 (by decide) (hts (.fieldLink RX4 15 "ColdShips$Rows" "width" "I") wa_81) (fun _ h9 => h9) rfl hin rfl (tyX4_ok 0 (by decide)) rfl rfl (Nat.le_of_ble_eq_true rfl) dX4_init_10 (tp_k (.inr (4, [.int 3, .null, .int 0])) hD hl_h0 eq2 (fun f3 H locs hP hD hS g5 k4 => ?_))
  have hT := hT.raw hz_h0 k4
  have hH := hH.wo k4
  refine lv_aload_n hx hb dX4_init_13 rfl (lv_at hl 0 rfl) ?_
  refine lv_iconst (v := 0) hx hb dX4_init_14 (by decide) ?_
  refine lv_iload_n hx hb dX4_init_15 rfl (lv_at hl 1 rfl) ?_
  refine va_mmax hx hb (by rw [hml]; exact hl.1.symm) hown (hts (.methodLink RX4 9 Lib.Math.max.name) wa_80) (hts (.static Lib.Math.max.name) wa_70) (hts (.initialized "java/lang/Math") wa_71) (hts (.code Lib.Math.max.name Lib.Math.max.code 2 (some .int)) wa_72) (Nat.le_of_ble_eq_true rfl) (Nat.le_of_ble_eq_true rfl) (Nat.le_of_ble_eq_true rfl) (Nat.le_of_ble_eq_true rfl) dX4_init_16 ?_
  refine lv_topi (fun z6 ez6 => ?_)
  obtain rfl : z6 = 60 := ez6.trans (by first | rfl | decide)
  refine lv_aload_n hx hb dX4_init_19 rfl (lv_at hl 0 rfl) ?_
  refine tpk_pos hl_h0 g5 (fun q7 eq7 => ?_)
  refine va_get (D := (dC, dI)) (ci := 4) (v := .int 3) (C := RX4) (T := TX4) (N := 3) hx hb hts hfX4 hown hK hP q7 eq7 rfl 0 (by decide) (hts (.fieldLink RX4 15 "ColdShips$Rows" "width" "I") wa_81) (fun _ h9 => h9) rfl dX4_init_20 ?_
  refine lv_imul hx hb dX4_init_23 ?_
  refine lv_topi (fun z8 ez8 => ?_)
  obtain rfl : z8 = 180 := ez8.trans (by first | rfl | decide)
  refine va_newa (atype := .long) hx hb (hts (.arrayClass .long) wa_82) (ty := .long) rfl hK hP hD hS hA (a0 := (180, .inr (.inl (fun _ => 0)))) (fun cA => pz_na_long cA 180) (by decide +kernel : ¬ (180 : Int32) < 0) (by decide +kernel : (180 : Int32).toNatClampNeg = 180) (by decide +kernel) (Nat.le_of_ble_eq_true rfl) (Nat.le_of_ble_eq_true rfl) dX4_init_24 (fun q9 k10 H hK hP hD hS => ?_)
  obtain ⟨e9, hK9⟩ := tp_kid 1 rfl hK; subst e9; have hK := hK9
  refine Exists.elim (tp_grow hG hT hP hD) (fun L20 hE90 => Exists.elim hE90 (fun f19 hE91 => tn_10 hE91 (fun hP hD hg11 ht12 hs13 hq14 hz15 hn16 hf17 ho18 => ?_)))
  clear hE91 hE90
  have hn21 : ∀ a, a ∈ L → a ≠ q9 := fun a ha => hn16 a (hH.1 a ha)
  have ne22 : h0 ≠ q9 := hn16 _ hl_h0
  have hG := hg11
  have hT := ht12
  have hH := hH.gr hs13 hn16 ho18
  have hf23 : f19 h0 = .inr (4, [.int 3, .null, .int 0]) := (ho18 _ ne22).trans g5
  have hl24 : h0 ∈ L20 := hs13 _ hl_h0
  clear g5 hl_h0
  obtain ⟨τ_25, ν_25, ρ_25, hG, hT, hb26, ht27, hn28, hr29⟩ := tp_type hG hT hq14 hz15 21 (180) (fun _ => 0) (by decide) (fun τ9 ν9 ρ9 hE h2 h3 => ⟨trivial, by rw [hf17]; exact tp_o21 h2⟩)
  have hH := hH.ty (fun a ha _ => hn21 a ha) hb26
  have hz30 : τ_25 h0 = 0 := (hb26 _ ne22).1.trans hz_h0
  clear hz_h0 hb26 ne22
  refine tpk_pos hl24 hf23 (fun q31 eq31 => ?_)
  refine va_putF (D := (dC, dI)) (ci := 4) (v := .ref q9) (ty := (.array .long)) (C := RX4) (T := TX4) (N := 3) hx hb hts hfX4 tyX4 tyX4_ok nmX4 hown hK hP hD hS q31 eq31 rfl 1 (by decide) (hts (.fieldLink RX4 21 "ColdShips$Rows" "cells" "[J") wa_83) (fun _ h9 => h9) rfl hin rfl (tyX4_ok 1 (by decide)) rfl rfl (Nat.le_of_ble_eq_true rfl) dX4_init_26 (tp_k (.inr (4, [.int 3, .ref q9, .int 0])) hD hl24 eq31 (fun f32 H locs hP hD hS g34 k33 => ?_))
  have hT := hT.raw hz30 k33
  have hH := hH.wo k33
  obtain ⟨τ_35, ν_35, ρ_35, hG, hT, hb36, ht37, hn38, hr39⟩ := tp_type hG hT hl24 hz30 5 (0) (fun k => [0, q9, 0, 0, 0, 0, 0, 0, 0, 0, 3, 60].getD k 0) (by decide) (fun τ9 ν9 ρ9 hE h2 h3 => ⟨(by show (τ9 (ρ9 h0 1) = 21 ∧ ν9 (ρ9 h0 1) = ρ9 h0 10 * ρ9 h0 11) ∧ (1 ≤ ρ9 h0 10 ∧ ρ9 h0 10 ≤ 15 ∧ ρ9 h0 11 ≤ 60); rw [h3]; exact ⟨⟨(hE q9 (by rw [ht27]; decide)).1.trans ht27, (show ν9 _ = _ from (hE q9 (by rw [ht27]; decide)).2.1.trans hn28)⟩, ⟨show 1 ≤ 3 by decide, show 3 ≤ 15 by decide, show 60 ≤ 60 by decide⟩⟩), by rw [g34]; exact ⟨_, _, (by rw [h3]; rfl), (by rw [h3]; rfl), (by rw [h3]; exact ⟨by decide, show (0 : Int32).toInt ≤ ((60 : Nat) : Int) by decide⟩)⟩⟩)
  have hH := hH.ty (fun a _ ho z => ho (by rw [z])) hb36
  have ht40 : τ_35 q9 = 21 := (hb36 _ (Ne.symm (tp_ne0 hz30 ht27 (by decide)))).1.trans ht27
  have hn41 : ν_35 q9 = 180 := (hb36 _ (Ne.symm (tp_ne0 hz30 ht27 (by decide)))).2.1.trans hn28
  clear ht27 hn28 hb36
  refine tp_widen 1 180 (Nat.le_of_ble_eq_true rfl) (Nat.le_of_ble_eq_true rfl) ?_
  exact W.vret hx hb hr (fun t ht hW => ⟨⟨(τ_35, ν_35, ρ_35, L20, f32), rfl, ⟨⟨hG, hT, hH⟩, ⟨ht37, congrFun hr39 10, congrFun hr39 11⟩⟩, by rw [ht]; exact hP, va_K.moved hW.alike hK, hD⟩, hS.F ht⟩) hS.2.2 dX4_init_29
set_option maxHeartbeats 4000000 in
set_option maxRecDepth 100000 in
theorem t_X4_init_60_5 (l : Launch) (dC : Nat → ClassId) (dI : Nat → Nat → Nat) (sz : Nat) (Ω : Nat → (Nat → Nat) → va_E → Prop) (κ : Nat → ClassId) (τ ν : Nat → Nat) (ρ : Nat → Nat → Nat) (L : List Nat) (f : Nat → va_E) (hG : tp_G τ ν ρ L) (hT : tp_T Ω κ τ ν ρ f) (h0 : Nat) (hl_h0 : h0 ∈ L) (hz_h0 : τ h0 = 0) (hf_h0 : f h0 = .inr (4, [.int 0, .null, .int 0])) : Met l yX4_init wqX4_init ({ frames := 2, cells := 1, slots := 300, locals := 400 }) (va_Pc [.ref h0, .int 60, .int 5] (pz_B dC dI (tp_K κ) (va_pl L f) sz)) (va_Qv (fun (x : tp_S) => tp_PX Ω κ τ ν ρ L f [] (some h0) x ∧ x.1 h0 = 5 ∧ x.2.2.1 h0 10 = 5 ∧ x.2.2.1 h0 11 = 60) (fun (x : tp_S) (t : State) => pz_E dC dI (tp_K κ) (va_A (va_pl L f) sz) (va_pl x.2.2.2.1 x.2.2.2.2) t) (va_A (va_pl L f) sz)) 1 300 (va_A (va_pl L f) sz) := by
  refine Met.ofW (cc := cX4_init) (maxL := 3) (ret := none) (by decide) rfl ?_
  intro p e s m args below meth c s₁ B hml hv
  obtain ⟨rfl, hsz, hP, hK, hD0, hN⟩ := hv
  have hx := B.exec
  have hb := B.bytes
  have hr := B.returns
  have hts := fun (w : Cond) (h : w ∈ WALL) => atoms_spec (ws := wqX4_init) B.pre w (List.mem_cons_of_mem _ h)
  have hown : s.vm.findClass RX4 = some m.cls := findClass_of_methodNamed B.named
  have hlocks := B.notSynchronized
  have hin : meth.name = "<init>" := (name_of_methodNamed B.named B.method).1
  subst hsz
  have hD := hD0.self (sz := s.heap.size)
  generalize hAe : va_A (va_pl L f) s.heap.size = A at hD ⊢
  have hA : ∀ q : Nat, s.heap.size ≤ q → A q := fun q h => by rw [← hAe]; exact Or.inr h
  have hS : va_S A s.heap s.heap [] := va_S.rf
  have hH : tp_H τ ν ρ L f [] (some h0) τ ν ρ L f := tp_H.rf
  have hl := lv_entry ([.ref h0, .int 60, .int 5]) (n := 3) (Nat.le_of_ble_eq_true rfl)
  rw [lg_entry_eq]
  generalize (lg_sl ([.ref h0, .int 60, .int 5]) ++ List.replicate (3 - (lg_sl ([.ref h0, .int 60, .int 5])).length) Slot.unset).toArray = ls at hl ⊢
  have hl : lv_has ls 3 [(0, .ref h0), (1, .int 60), (2, .int 5)] := hl
  refine lv_aload_n hx hb dX4_init_0 rfl (lv_at hl 0 rfl) ?_
  refine W.objInit hx hb hown (hts (.methodLink RX4 3 objectInit) wa_79) (hts (.instanceMethod objectInit) wa_10) (hts (.code objectInit ⟨#[0xb1]⟩ 1 none) wa_11) rfl (by rw [hml]; exact hl.1) rfl dX4_init_1 (Nat.le_of_ble_eq_true rfl) (Nat.le_of_ble_eq_true rfl) ?_
  refine W.eq (g2 := F0 m 4 ls []) rfl ?_
  refine lv_aload_n hx hb dX4_init_4 rfl (lv_at hl 0 rfl) ?_
  refine lv_iconst (v := 1) hx hb dX4_init_5 (by decide) ?_
  refine lv_iload_n hx hb dX4_init_6 rfl (lv_at hl 2 rfl) ?_
  refine va_mmax hx hb (by rw [hml]; exact hl.1.symm) hown (hts (.methodLink RX4 9 Lib.Math.max.name) wa_80) (hts (.static Lib.Math.max.name) wa_70) (hts (.initialized "java/lang/Math") wa_71) (hts (.code Lib.Math.max.name Lib.Math.max.code 2 (some .int)) wa_72) (Nat.le_of_ble_eq_true rfl) (Nat.le_of_ble_eq_true rfl) (Nat.le_of_ble_eq_true rfl) (Nat.le_of_ble_eq_true rfl) dX4_init_7 ?_
  refine lv_topi (fun z1 ez1 => ?_)
  obtain rfl : z1 = 5 := ez1.trans (by first | rfl | decide)
  refine tpk_pos hl_h0 hf_h0 (fun q2 eq2 => ?_)
  refine va_putF (D := (dC, dI)) (ci := 4) (v := .int 5) (ty := .int) (C := RX4) (T := TX4) (N := 3) hx hb hts hfX4 tyX4 tyX4_ok nmX4 hown hK hP hD hS q2 eq2 rfl 0 (by decide) (hts (.fieldLink RX4 15 "ColdShips$Rows" "width" "I") wa_81) (fun _ h9 => h9) rfl hin rfl (tyX4_ok 0 (by decide)) rfl rfl (Nat.le_of_ble_eq_true rfl) dX4_init_10 (tp_k (.inr (4, [.int 5, .null, .int 0])) hD hl_h0 eq2 (fun f3 H locs hP hD hS g5 k4 => ?_))
  have hT := hT.raw hz_h0 k4
  have hH := hH.wo k4
  refine lv_aload_n hx hb dX4_init_13 rfl (lv_at hl 0 rfl) ?_
  refine lv_iconst (v := 0) hx hb dX4_init_14 (by decide) ?_
  refine lv_iload_n hx hb dX4_init_15 rfl (lv_at hl 1 rfl) ?_
  refine va_mmax hx hb (by rw [hml]; exact hl.1.symm) hown (hts (.methodLink RX4 9 Lib.Math.max.name) wa_80) (hts (.static Lib.Math.max.name) wa_70) (hts (.initialized "java/lang/Math") wa_71) (hts (.code Lib.Math.max.name Lib.Math.max.code 2 (some .int)) wa_72) (Nat.le_of_ble_eq_true rfl) (Nat.le_of_ble_eq_true rfl) (Nat.le_of_ble_eq_true rfl) (Nat.le_of_ble_eq_true rfl) dX4_init_16 ?_
  refine lv_topi (fun z6 ez6 => ?_)
  obtain rfl : z6 = 60 := ez6.trans (by first | rfl | decide)
  refine lv_aload_n hx hb dX4_init_19 rfl (lv_at hl 0 rfl) ?_
  refine tpk_pos hl_h0 g5 (fun q7 eq7 => ?_)
  refine va_get (D := (dC, dI)) (ci := 4) (v := .int 5) (C := RX4) (T := TX4) (N := 3) hx hb hts hfX4 hown hK hP q7 eq7 rfl 0 (by decide) (hts (.fieldLink RX4 15 "ColdShips$Rows" "width" "I") wa_81) (fun _ h9 => h9) rfl dX4_init_20 ?_
  refine lv_imul hx hb dX4_init_23 ?_
  refine lv_topi (fun z8 ez8 => ?_)
  obtain rfl : z8 = 300 := ez8.trans (by first | rfl | decide)
  refine va_newa (atype := .long) hx hb (hts (.arrayClass .long) wa_82) (ty := .long) rfl hK hP hD hS hA (a0 := (300, .inr (.inl (fun _ => 0)))) (fun cA => pz_na_long cA 300) (by decide +kernel : ¬ (300 : Int32) < 0) (by decide +kernel : (300 : Int32).toNatClampNeg = 300) (by decide +kernel) (Nat.le_of_ble_eq_true rfl) (Nat.le_of_ble_eq_true rfl) dX4_init_24 (fun q9 k10 H hK hP hD hS => ?_)
  obtain ⟨e9, hK9⟩ := tp_kid 1 rfl hK; subst e9; have hK := hK9
  refine Exists.elim (tp_grow hG hT hP hD) (fun L20 hE90 => Exists.elim hE90 (fun f19 hE91 => tn_10 hE91 (fun hP hD hg11 ht12 hs13 hq14 hz15 hn16 hf17 ho18 => ?_)))
  clear hE91 hE90
  have hn21 : ∀ a, a ∈ L → a ≠ q9 := fun a ha => hn16 a (hH.1 a ha)
  have ne22 : h0 ≠ q9 := hn16 _ hl_h0
  have hG := hg11
  have hT := ht12
  have hH := hH.gr hs13 hn16 ho18
  have hf23 : f19 h0 = .inr (4, [.int 5, .null, .int 0]) := (ho18 _ ne22).trans g5
  have hl24 : h0 ∈ L20 := hs13 _ hl_h0
  clear g5 hl_h0
  obtain ⟨τ_25, ν_25, ρ_25, hG, hT, hb26, ht27, hn28, hr29⟩ := tp_type hG hT hq14 hz15 21 (300) (fun _ => 0) (by decide) (fun τ9 ν9 ρ9 hE h2 h3 => ⟨trivial, by rw [hf17]; exact tp_o21 h2⟩)
  have hH := hH.ty (fun a ha _ => hn21 a ha) hb26
  have hz30 : τ_25 h0 = 0 := (hb26 _ ne22).1.trans hz_h0
  clear hz_h0 hb26 ne22
  refine tpk_pos hl24 hf23 (fun q31 eq31 => ?_)
  refine va_putF (D := (dC, dI)) (ci := 4) (v := .ref q9) (ty := (.array .long)) (C := RX4) (T := TX4) (N := 3) hx hb hts hfX4 tyX4 tyX4_ok nmX4 hown hK hP hD hS q31 eq31 rfl 1 (by decide) (hts (.fieldLink RX4 21 "ColdShips$Rows" "cells" "[J") wa_83) (fun _ h9 => h9) rfl hin rfl (tyX4_ok 1 (by decide)) rfl rfl (Nat.le_of_ble_eq_true rfl) dX4_init_26 (tp_k (.inr (4, [.int 5, .ref q9, .int 0])) hD hl24 eq31 (fun f32 H locs hP hD hS g34 k33 => ?_))
  have hT := hT.raw hz30 k33
  have hH := hH.wo k33
  obtain ⟨τ_35, ν_35, ρ_35, hG, hT, hb36, ht37, hn38, hr39⟩ := tp_type hG hT hl24 hz30 5 (0) (fun k => [0, q9, 0, 0, 0, 0, 0, 0, 0, 0, 5, 60].getD k 0) (by decide) (fun τ9 ν9 ρ9 hE h2 h3 => ⟨(by show (τ9 (ρ9 h0 1) = 21 ∧ ν9 (ρ9 h0 1) = ρ9 h0 10 * ρ9 h0 11) ∧ (1 ≤ ρ9 h0 10 ∧ ρ9 h0 10 ≤ 15 ∧ ρ9 h0 11 ≤ 60); rw [h3]; exact ⟨⟨(hE q9 (by rw [ht27]; decide)).1.trans ht27, (show ν9 _ = _ from (hE q9 (by rw [ht27]; decide)).2.1.trans hn28)⟩, ⟨show 1 ≤ 5 by decide, show 5 ≤ 15 by decide, show 60 ≤ 60 by decide⟩⟩), by rw [g34]; exact ⟨_, _, (by rw [h3]; rfl), (by rw [h3]; rfl), (by rw [h3]; exact ⟨by decide, show (0 : Int32).toInt ≤ ((60 : Nat) : Int) by decide⟩)⟩⟩)
  have hH := hH.ty (fun a _ ho z => ho (by rw [z])) hb36
  have ht40 : τ_35 q9 = 21 := (hb36 _ (Ne.symm (tp_ne0 hz30 ht27 (by decide)))).1.trans ht27
  have hn41 : ν_35 q9 = 300 := (hb36 _ (Ne.symm (tp_ne0 hz30 ht27 (by decide)))).2.1.trans hn28
  clear ht27 hn28 hb36
  refine tp_widen 1 300 (Nat.le_of_ble_eq_true rfl) (Nat.le_of_ble_eq_true rfl) ?_
  exact W.vret hx hb hr (fun t ht hW => ⟨⟨(τ_35, ν_35, ρ_35, L20, f32), rfl, ⟨⟨hG, hT, hH⟩, ⟨ht37, congrFun hr39 10, congrFun hr39 11⟩⟩, by rw [ht]; exact hP, va_K.moved hW.alike hK, hD⟩, hS.F ht⟩) hS.2.2 dX4_init_29
set_option maxHeartbeats 4000000 in
set_option maxRecDepth 100000 in
theorem t_X4_init_60_15 (l : Launch) (dC : Nat → ClassId) (dI : Nat → Nat → Nat) (sz : Nat) (Ω : Nat → (Nat → Nat) → va_E → Prop) (κ : Nat → ClassId) (τ ν : Nat → Nat) (ρ : Nat → Nat → Nat) (L : List Nat) (f : Nat → va_E) (hG : tp_G τ ν ρ L) (hT : tp_T Ω κ τ ν ρ f) (h0 : Nat) (hl_h0 : h0 ∈ L) (hz_h0 : τ h0 = 0) (hf_h0 : f h0 = .inr (4, [.int 0, .null, .int 0])) : Met l yX4_init wqX4_init ({ frames := 2, cells := 1, slots := 900, locals := 400 }) (va_Pc [.ref h0, .int 60, .int 15] (pz_B dC dI (tp_K κ) (va_pl L f) sz)) (va_Qv (fun (x : tp_S) => tp_PX Ω κ τ ν ρ L f [] (some h0) x ∧ x.1 h0 = 5 ∧ x.2.2.1 h0 10 = 15 ∧ x.2.2.1 h0 11 = 60) (fun (x : tp_S) (t : State) => pz_E dC dI (tp_K κ) (va_A (va_pl L f) sz) (va_pl x.2.2.2.1 x.2.2.2.2) t) (va_A (va_pl L f) sz)) 1 900 (va_A (va_pl L f) sz) := by
  refine Met.ofW (cc := cX4_init) (maxL := 3) (ret := none) (by decide) rfl ?_
  intro p e s m args below meth c s₁ B hml hv
  obtain ⟨rfl, hsz, hP, hK, hD0, hN⟩ := hv
  have hx := B.exec
  have hb := B.bytes
  have hr := B.returns
  have hts := fun (w : Cond) (h : w ∈ WALL) => atoms_spec (ws := wqX4_init) B.pre w (List.mem_cons_of_mem _ h)
  have hown : s.vm.findClass RX4 = some m.cls := findClass_of_methodNamed B.named
  have hlocks := B.notSynchronized
  have hin : meth.name = "<init>" := (name_of_methodNamed B.named B.method).1
  subst hsz
  have hD := hD0.self (sz := s.heap.size)
  generalize hAe : va_A (va_pl L f) s.heap.size = A at hD ⊢
  have hA : ∀ q : Nat, s.heap.size ≤ q → A q := fun q h => by rw [← hAe]; exact Or.inr h
  have hS : va_S A s.heap s.heap [] := va_S.rf
  have hH : tp_H τ ν ρ L f [] (some h0) τ ν ρ L f := tp_H.rf
  have hl := lv_entry ([.ref h0, .int 60, .int 15]) (n := 3) (Nat.le_of_ble_eq_true rfl)
  rw [lg_entry_eq]
  generalize (lg_sl ([.ref h0, .int 60, .int 15]) ++ List.replicate (3 - (lg_sl ([.ref h0, .int 60, .int 15])).length) Slot.unset).toArray = ls at hl ⊢
  have hl : lv_has ls 3 [(0, .ref h0), (1, .int 60), (2, .int 15)] := hl
  refine lv_aload_n hx hb dX4_init_0 rfl (lv_at hl 0 rfl) ?_
  refine W.objInit hx hb hown (hts (.methodLink RX4 3 objectInit) wa_79) (hts (.instanceMethod objectInit) wa_10) (hts (.code objectInit ⟨#[0xb1]⟩ 1 none) wa_11) rfl (by rw [hml]; exact hl.1) rfl dX4_init_1 (Nat.le_of_ble_eq_true rfl) (Nat.le_of_ble_eq_true rfl) ?_
  refine W.eq (g2 := F0 m 4 ls []) rfl ?_
  refine lv_aload_n hx hb dX4_init_4 rfl (lv_at hl 0 rfl) ?_
  refine lv_iconst (v := 1) hx hb dX4_init_5 (by decide) ?_
  refine lv_iload_n hx hb dX4_init_6 rfl (lv_at hl 2 rfl) ?_
  refine va_mmax hx hb (by rw [hml]; exact hl.1.symm) hown (hts (.methodLink RX4 9 Lib.Math.max.name) wa_80) (hts (.static Lib.Math.max.name) wa_70) (hts (.initialized "java/lang/Math") wa_71) (hts (.code Lib.Math.max.name Lib.Math.max.code 2 (some .int)) wa_72) (Nat.le_of_ble_eq_true rfl) (Nat.le_of_ble_eq_true rfl) (Nat.le_of_ble_eq_true rfl) (Nat.le_of_ble_eq_true rfl) dX4_init_7 ?_
  refine lv_topi (fun z1 ez1 => ?_)
  obtain rfl : z1 = 15 := ez1.trans (by first | rfl | decide)
  refine tpk_pos hl_h0 hf_h0 (fun q2 eq2 => ?_)
  refine va_putF (D := (dC, dI)) (ci := 4) (v := .int 15) (ty := .int) (C := RX4) (T := TX4) (N := 3) hx hb hts hfX4 tyX4 tyX4_ok nmX4 hown hK hP hD hS q2 eq2 rfl 0 (by decide) (hts (.fieldLink RX4 15 "ColdShips$Rows" "width" "I") wa_81) (fun _ h9 => h9) rfl hin rfl (tyX4_ok 0 (by decide)) rfl rfl (Nat.le_of_ble_eq_true rfl) dX4_init_10 (tp_k (.inr (4, [.int 15, .null, .int 0])) hD hl_h0 eq2 (fun f3 H locs hP hD hS g5 k4 => ?_))
  have hT := hT.raw hz_h0 k4
  have hH := hH.wo k4
  refine lv_aload_n hx hb dX4_init_13 rfl (lv_at hl 0 rfl) ?_
  refine lv_iconst (v := 0) hx hb dX4_init_14 (by decide) ?_
  refine lv_iload_n hx hb dX4_init_15 rfl (lv_at hl 1 rfl) ?_
  refine va_mmax hx hb (by rw [hml]; exact hl.1.symm) hown (hts (.methodLink RX4 9 Lib.Math.max.name) wa_80) (hts (.static Lib.Math.max.name) wa_70) (hts (.initialized "java/lang/Math") wa_71) (hts (.code Lib.Math.max.name Lib.Math.max.code 2 (some .int)) wa_72) (Nat.le_of_ble_eq_true rfl) (Nat.le_of_ble_eq_true rfl) (Nat.le_of_ble_eq_true rfl) (Nat.le_of_ble_eq_true rfl) dX4_init_16 ?_
  refine lv_topi (fun z6 ez6 => ?_)
  obtain rfl : z6 = 60 := ez6.trans (by first | rfl | decide)
  refine lv_aload_n hx hb dX4_init_19 rfl (lv_at hl 0 rfl) ?_
  refine tpk_pos hl_h0 g5 (fun q7 eq7 => ?_)
  refine va_get (D := (dC, dI)) (ci := 4) (v := .int 15) (C := RX4) (T := TX4) (N := 3) hx hb hts hfX4 hown hK hP q7 eq7 rfl 0 (by decide) (hts (.fieldLink RX4 15 "ColdShips$Rows" "width" "I") wa_81) (fun _ h9 => h9) rfl dX4_init_20 ?_
  refine lv_imul hx hb dX4_init_23 ?_
  refine lv_topi (fun z8 ez8 => ?_)
  obtain rfl : z8 = 900 := ez8.trans (by first | rfl | decide)
  refine va_newa (atype := .long) hx hb (hts (.arrayClass .long) wa_82) (ty := .long) rfl hK hP hD hS hA (a0 := (900, .inr (.inl (fun _ => 0)))) (fun cA => pz_na_long cA 900) (by decide +kernel : ¬ (900 : Int32) < 0) (by decide +kernel : (900 : Int32).toNatClampNeg = 900) (by decide +kernel) (Nat.le_of_ble_eq_true rfl) (Nat.le_of_ble_eq_true rfl) dX4_init_24 (fun q9 k10 H hK hP hD hS => ?_)
  obtain ⟨e9, hK9⟩ := tp_kid 1 rfl hK; subst e9; have hK := hK9
  refine Exists.elim (tp_grow hG hT hP hD) (fun L20 hE90 => Exists.elim hE90 (fun f19 hE91 => tn_10 hE91 (fun hP hD hg11 ht12 hs13 hq14 hz15 hn16 hf17 ho18 => ?_)))
  clear hE91 hE90
  have hn21 : ∀ a, a ∈ L → a ≠ q9 := fun a ha => hn16 a (hH.1 a ha)
  have ne22 : h0 ≠ q9 := hn16 _ hl_h0
  have hG := hg11
  have hT := ht12
  have hH := hH.gr hs13 hn16 ho18
  have hf23 : f19 h0 = .inr (4, [.int 15, .null, .int 0]) := (ho18 _ ne22).trans g5
  have hl24 : h0 ∈ L20 := hs13 _ hl_h0
  clear g5 hl_h0
  obtain ⟨τ_25, ν_25, ρ_25, hG, hT, hb26, ht27, hn28, hr29⟩ := tp_type hG hT hq14 hz15 21 (900) (fun _ => 0) (by decide) (fun τ9 ν9 ρ9 hE h2 h3 => ⟨trivial, by rw [hf17]; exact tp_o21 h2⟩)
  have hH := hH.ty (fun a ha _ => hn21 a ha) hb26
  have hz30 : τ_25 h0 = 0 := (hb26 _ ne22).1.trans hz_h0
  clear hz_h0 hb26 ne22
  refine tpk_pos hl24 hf23 (fun q31 eq31 => ?_)
  refine va_putF (D := (dC, dI)) (ci := 4) (v := .ref q9) (ty := (.array .long)) (C := RX4) (T := TX4) (N := 3) hx hb hts hfX4 tyX4 tyX4_ok nmX4 hown hK hP hD hS q31 eq31 rfl 1 (by decide) (hts (.fieldLink RX4 21 "ColdShips$Rows" "cells" "[J") wa_83) (fun _ h9 => h9) rfl hin rfl (tyX4_ok 1 (by decide)) rfl rfl (Nat.le_of_ble_eq_true rfl) dX4_init_26 (tp_k (.inr (4, [.int 15, .ref q9, .int 0])) hD hl24 eq31 (fun f32 H locs hP hD hS g34 k33 => ?_))
  have hT := hT.raw hz30 k33
  have hH := hH.wo k33
  obtain ⟨τ_35, ν_35, ρ_35, hG, hT, hb36, ht37, hn38, hr39⟩ := tp_type hG hT hl24 hz30 5 (0) (fun k => [0, q9, 0, 0, 0, 0, 0, 0, 0, 0, 15, 60].getD k 0) (by decide) (fun τ9 ν9 ρ9 hE h2 h3 => ⟨(by show (τ9 (ρ9 h0 1) = 21 ∧ ν9 (ρ9 h0 1) = ρ9 h0 10 * ρ9 h0 11) ∧ (1 ≤ ρ9 h0 10 ∧ ρ9 h0 10 ≤ 15 ∧ ρ9 h0 11 ≤ 60); rw [h3]; exact ⟨⟨(hE q9 (by rw [ht27]; decide)).1.trans ht27, (show ν9 _ = _ from (hE q9 (by rw [ht27]; decide)).2.1.trans hn28)⟩, ⟨show 1 ≤ 15 by decide, show 15 ≤ 15 by decide, show 60 ≤ 60 by decide⟩⟩), by rw [g34]; exact ⟨_, _, (by rw [h3]; rfl), (by rw [h3]; rfl), (by rw [h3]; exact ⟨by decide, show (0 : Int32).toInt ≤ ((60 : Nat) : Int) by decide⟩)⟩⟩)
  have hH := hH.ty (fun a _ ho z => ho (by rw [z])) hb36
  have ht40 : τ_35 q9 = 21 := (hb36 _ (Ne.symm (tp_ne0 hz30 ht27 (by decide)))).1.trans ht27
  have hn41 : ν_35 q9 = 900 := (hb36 _ (Ne.symm (tp_ne0 hz30 ht27 (by decide)))).2.1.trans hn28
  clear ht27 hn28 hb36
  refine tp_widen 1 900 (Nat.le_of_ble_eq_true rfl) (Nat.le_of_ble_eq_true rfl) ?_
  exact W.vret hx hb hr (fun t ht hW => ⟨⟨(τ_35, ν_35, ρ_35, L20, f32), rfl, ⟨⟨hG, hT, hH⟩, ⟨ht37, congrFun hr39 10, congrFun hr39 11⟩⟩, by rw [ht]; exact hP, va_K.moved hW.alike hK, hD⟩, hS.F ht⟩) hS.2.2 dX4_init_29
set_option maxHeartbeats 4000000 in
set_option maxRecDepth 100000 in
theorem t_X4_init_6_8 (l : Launch) (dC : Nat → ClassId) (dI : Nat → Nat → Nat) (sz : Nat) (Ω : Nat → (Nat → Nat) → va_E → Prop) (κ : Nat → ClassId) (τ ν : Nat → Nat) (ρ : Nat → Nat → Nat) (L : List Nat) (f : Nat → va_E) (hG : tp_G τ ν ρ L) (hT : tp_T Ω κ τ ν ρ f) (h0 : Nat) (hl_h0 : h0 ∈ L) (hz_h0 : τ h0 = 0) (hf_h0 : f h0 = .inr (4, [.int 0, .null, .int 0])) : Met l yX4_init wqX4_init ({ frames := 2, cells := 1, slots := 48, locals := 400 }) (va_Pc [.ref h0, .int 6, .int 8] (pz_B dC dI (tp_K κ) (va_pl L f) sz)) (va_Qv (fun (x : tp_S) => tp_PX Ω κ τ ν ρ L f [] (some h0) x ∧ x.1 h0 = 5 ∧ x.2.2.1 h0 10 = 8 ∧ x.2.2.1 h0 11 = 6) (fun (x : tp_S) (t : State) => pz_E dC dI (tp_K κ) (va_A (va_pl L f) sz) (va_pl x.2.2.2.1 x.2.2.2.2) t) (va_A (va_pl L f) sz)) 1 48 (va_A (va_pl L f) sz) := by
  refine Met.ofW (cc := cX4_init) (maxL := 3) (ret := none) (by decide) rfl ?_
  intro p e s m args below meth c s₁ B hml hv
  obtain ⟨rfl, hsz, hP, hK, hD0, hN⟩ := hv
  have hx := B.exec
  have hb := B.bytes
  have hr := B.returns
  have hts := fun (w : Cond) (h : w ∈ WALL) => atoms_spec (ws := wqX4_init) B.pre w (List.mem_cons_of_mem _ h)
  have hown : s.vm.findClass RX4 = some m.cls := findClass_of_methodNamed B.named
  have hlocks := B.notSynchronized
  have hin : meth.name = "<init>" := (name_of_methodNamed B.named B.method).1
  subst hsz
  have hD := hD0.self (sz := s.heap.size)
  generalize hAe : va_A (va_pl L f) s.heap.size = A at hD ⊢
  have hA : ∀ q : Nat, s.heap.size ≤ q → A q := fun q h => by rw [← hAe]; exact Or.inr h
  have hS : va_S A s.heap s.heap [] := va_S.rf
  have hH : tp_H τ ν ρ L f [] (some h0) τ ν ρ L f := tp_H.rf
  have hl := lv_entry ([.ref h0, .int 6, .int 8]) (n := 3) (Nat.le_of_ble_eq_true rfl)
  rw [lg_entry_eq]
  generalize (lg_sl ([.ref h0, .int 6, .int 8]) ++ List.replicate (3 - (lg_sl ([.ref h0, .int 6, .int 8])).length) Slot.unset).toArray = ls at hl ⊢
  have hl : lv_has ls 3 [(0, .ref h0), (1, .int 6), (2, .int 8)] := hl
  refine lv_aload_n hx hb dX4_init_0 rfl (lv_at hl 0 rfl) ?_
  refine W.objInit hx hb hown (hts (.methodLink RX4 3 objectInit) wa_79) (hts (.instanceMethod objectInit) wa_10) (hts (.code objectInit ⟨#[0xb1]⟩ 1 none) wa_11) rfl (by rw [hml]; exact hl.1) rfl dX4_init_1 (Nat.le_of_ble_eq_true rfl) (Nat.le_of_ble_eq_true rfl) ?_
  refine W.eq (g2 := F0 m 4 ls []) rfl ?_
  refine lv_aload_n hx hb dX4_init_4 rfl (lv_at hl 0 rfl) ?_
  refine lv_iconst (v := 1) hx hb dX4_init_5 (by decide) ?_
  refine lv_iload_n hx hb dX4_init_6 rfl (lv_at hl 2 rfl) ?_
  refine va_mmax hx hb (by rw [hml]; exact hl.1.symm) hown (hts (.methodLink RX4 9 Lib.Math.max.name) wa_80) (hts (.static Lib.Math.max.name) wa_70) (hts (.initialized "java/lang/Math") wa_71) (hts (.code Lib.Math.max.name Lib.Math.max.code 2 (some .int)) wa_72) (Nat.le_of_ble_eq_true rfl) (Nat.le_of_ble_eq_true rfl) (Nat.le_of_ble_eq_true rfl) (Nat.le_of_ble_eq_true rfl) dX4_init_7 ?_
  refine lv_topi (fun z1 ez1 => ?_)
  obtain rfl : z1 = 8 := ez1.trans (by first | rfl | decide)
  refine tpk_pos hl_h0 hf_h0 (fun q2 eq2 => ?_)
  refine va_putF (D := (dC, dI)) (ci := 4) (v := .int 8) (ty := .int) (C := RX4) (T := TX4) (N := 3) hx hb hts hfX4 tyX4 tyX4_ok nmX4 hown hK hP hD hS q2 eq2 rfl 0 (by decide) (hts (.fieldLink RX4 15 "ColdShips$Rows" "width" "I") wa_81) (fun _ h9 => h9) rfl hin rfl (tyX4_ok 0 (by decide)) rfl rfl (Nat.le_of_ble_eq_true rfl) dX4_init_10 (tp_k (.inr (4, [.int 8, .null, .int 0])) hD hl_h0 eq2 (fun f3 H locs hP hD hS g5 k4 => ?_))
  have hT := hT.raw hz_h0 k4
  have hH := hH.wo k4
  refine lv_aload_n hx hb dX4_init_13 rfl (lv_at hl 0 rfl) ?_
  refine lv_iconst (v := 0) hx hb dX4_init_14 (by decide) ?_
  refine lv_iload_n hx hb dX4_init_15 rfl (lv_at hl 1 rfl) ?_
  refine va_mmax hx hb (by rw [hml]; exact hl.1.symm) hown (hts (.methodLink RX4 9 Lib.Math.max.name) wa_80) (hts (.static Lib.Math.max.name) wa_70) (hts (.initialized "java/lang/Math") wa_71) (hts (.code Lib.Math.max.name Lib.Math.max.code 2 (some .int)) wa_72) (Nat.le_of_ble_eq_true rfl) (Nat.le_of_ble_eq_true rfl) (Nat.le_of_ble_eq_true rfl) (Nat.le_of_ble_eq_true rfl) dX4_init_16 ?_
  refine lv_topi (fun z6 ez6 => ?_)
  obtain rfl : z6 = 6 := ez6.trans (by first | rfl | decide)
  refine lv_aload_n hx hb dX4_init_19 rfl (lv_at hl 0 rfl) ?_
  refine tpk_pos hl_h0 g5 (fun q7 eq7 => ?_)
  refine va_get (D := (dC, dI)) (ci := 4) (v := .int 8) (C := RX4) (T := TX4) (N := 3) hx hb hts hfX4 hown hK hP q7 eq7 rfl 0 (by decide) (hts (.fieldLink RX4 15 "ColdShips$Rows" "width" "I") wa_81) (fun _ h9 => h9) rfl dX4_init_20 ?_
  refine lv_imul hx hb dX4_init_23 ?_
  refine lv_topi (fun z8 ez8 => ?_)
  obtain rfl : z8 = 48 := ez8.trans (by first | rfl | decide)
  refine va_newa (atype := .long) hx hb (hts (.arrayClass .long) wa_82) (ty := .long) rfl hK hP hD hS hA (a0 := (48, .inr (.inl (fun _ => 0)))) (fun cA => pz_na_long cA 48) (by decide +kernel : ¬ (48 : Int32) < 0) (by decide +kernel : (48 : Int32).toNatClampNeg = 48) (by decide +kernel) (Nat.le_of_ble_eq_true rfl) (Nat.le_of_ble_eq_true rfl) dX4_init_24 (fun q9 k10 H hK hP hD hS => ?_)
  obtain ⟨e9, hK9⟩ := tp_kid 1 rfl hK; subst e9; have hK := hK9
  refine Exists.elim (tp_grow hG hT hP hD) (fun L20 hE90 => Exists.elim hE90 (fun f19 hE91 => tn_10 hE91 (fun hP hD hg11 ht12 hs13 hq14 hz15 hn16 hf17 ho18 => ?_)))
  clear hE91 hE90
  have hn21 : ∀ a, a ∈ L → a ≠ q9 := fun a ha => hn16 a (hH.1 a ha)
  have ne22 : h0 ≠ q9 := hn16 _ hl_h0
  have hG := hg11
  have hT := ht12
  have hH := hH.gr hs13 hn16 ho18
  have hf23 : f19 h0 = .inr (4, [.int 8, .null, .int 0]) := (ho18 _ ne22).trans g5
  have hl24 : h0 ∈ L20 := hs13 _ hl_h0
  clear g5 hl_h0
  obtain ⟨τ_25, ν_25, ρ_25, hG, hT, hb26, ht27, hn28, hr29⟩ := tp_type hG hT hq14 hz15 21 (48) (fun _ => 0) (by decide) (fun τ9 ν9 ρ9 hE h2 h3 => ⟨trivial, by rw [hf17]; exact tp_o21 h2⟩)
  have hH := hH.ty (fun a ha _ => hn21 a ha) hb26
  have hz30 : τ_25 h0 = 0 := (hb26 _ ne22).1.trans hz_h0
  clear hz_h0 hb26 ne22
  refine tpk_pos hl24 hf23 (fun q31 eq31 => ?_)
  refine va_putF (D := (dC, dI)) (ci := 4) (v := .ref q9) (ty := (.array .long)) (C := RX4) (T := TX4) (N := 3) hx hb hts hfX4 tyX4 tyX4_ok nmX4 hown hK hP hD hS q31 eq31 rfl 1 (by decide) (hts (.fieldLink RX4 21 "ColdShips$Rows" "cells" "[J") wa_83) (fun _ h9 => h9) rfl hin rfl (tyX4_ok 1 (by decide)) rfl rfl (Nat.le_of_ble_eq_true rfl) dX4_init_26 (tp_k (.inr (4, [.int 8, .ref q9, .int 0])) hD hl24 eq31 (fun f32 H locs hP hD hS g34 k33 => ?_))
  have hT := hT.raw hz30 k33
  have hH := hH.wo k33
  obtain ⟨τ_35, ν_35, ρ_35, hG, hT, hb36, ht37, hn38, hr39⟩ := tp_type hG hT hl24 hz30 5 (0) (fun k => [0, q9, 0, 0, 0, 0, 0, 0, 0, 0, 8, 6].getD k 0) (by decide) (fun τ9 ν9 ρ9 hE h2 h3 => ⟨(by show (τ9 (ρ9 h0 1) = 21 ∧ ν9 (ρ9 h0 1) = ρ9 h0 10 * ρ9 h0 11) ∧ (1 ≤ ρ9 h0 10 ∧ ρ9 h0 10 ≤ 15 ∧ ρ9 h0 11 ≤ 60); rw [h3]; exact ⟨⟨(hE q9 (by rw [ht27]; decide)).1.trans ht27, (show ν9 _ = _ from (hE q9 (by rw [ht27]; decide)).2.1.trans hn28)⟩, ⟨show 1 ≤ 8 by decide, show 8 ≤ 15 by decide, show 6 ≤ 60 by decide⟩⟩), by rw [g34]; exact ⟨_, _, (by rw [h3]; rfl), (by rw [h3]; rfl), (by rw [h3]; exact ⟨by decide, show (0 : Int32).toInt ≤ ((6 : Nat) : Int) by decide⟩)⟩⟩)
  have hH := hH.ty (fun a _ ho z => ho (by rw [z])) hb36
  have ht40 : τ_35 q9 = 21 := (hb36 _ (Ne.symm (tp_ne0 hz30 ht27 (by decide)))).1.trans ht27
  have hn41 : ν_35 q9 = 48 := (hb36 _ (Ne.symm (tp_ne0 hz30 ht27 (by decide)))).2.1.trans hn28
  clear ht27 hn28 hb36
  refine tp_widen 1 48 (Nat.le_of_ble_eq_true rfl) (Nat.le_of_ble_eq_true rfl) ?_
  exact W.vret hx hb hr (fun t ht hW => ⟨⟨(τ_35, ν_35, ρ_35, L20, f32), rfl, ⟨⟨hG, hT, hH⟩, ⟨ht37, congrFun hr39 10, congrFun hr39 11⟩⟩, by rw [ht]; exact hP, va_K.moved hW.alike hK, hD⟩, hS.F ht⟩) hS.2.2 dX4_init_29
set_option maxHeartbeats 4000000 in
set_option maxRecDepth 100000 in
theorem t_X0_init (l : Launch) (dC : Nat → ClassId) (dI : Nat → Nat → Nat) (sz : Nat) (Ω : Nat → (Nat → Nat) → va_E → Prop) (κ : Nat → ClassId) (τ ν : Nat → Nat) (ρ : Nat → Nat → Nat) (L : List Nat) (f : Nat → va_E) (hG : tp_G τ ν ρ L) (hT : tp_T Ω κ τ ν ρ f) (h0 : Nat) (ha1 : Nat) (ha2 : Nat) (v : Int32) (u : Int32) (a : Int32) (hl_h0 : h0 ∈ L) (hz_h0 : τ h0 = 0) (hf_h0 : f h0 = .inr (0, [.null, .null, .int 0, .int 0, .int 0])) (ht_ha1 : τ ha1 = 28) (ht_ha2 : τ ha2 = 20) (hn : ν ha1 ≤ 400 ∧ ν ha2 ≤ 13) : Met l yX0_init wqX0_init ({ frames := 2, cells := 0, slots := 0, locals := 400 }) (va_Pc [.ref h0, .ref ha1, .ref ha2, .int v, .int u, .int a] (pz_B dC dI (tp_K κ) (va_pl L f) sz)) (va_Qv (fun (x : tp_S) => tp_PX Ω κ τ ν ρ L f [] (some h0) x ∧ x.1 h0 = 1) (fun (x : tp_S) (t : State) => pz_E dC dI (tp_K κ) (va_A (va_pl L f) sz) (va_pl x.2.2.2.1 x.2.2.2.2) t) (va_A (va_pl L f) sz)) 0 0 (va_A (va_pl L f) sz) := by
  refine Met.ofW (cc := cX0_init) (maxL := 6) (ret := none) (by decide) rfl ?_
  intro p e s m args below meth c s₁ B hml hv
  obtain ⟨rfl, hsz, hP, hK, hD0, hN⟩ := hv
  have hx := B.exec
  have hb := B.bytes
  have hr := B.returns
  have hts := fun (w : Cond) (h : w ∈ WALL) => atoms_spec (ws := wqX0_init) B.pre w (List.mem_cons_of_mem _ h)
  have hown : s.vm.findClass RX0 = some m.cls := findClass_of_methodNamed B.named
  have hlocks := B.notSynchronized
  have hin : meth.name = "<init>" := (name_of_methodNamed B.named B.method).1
  subst hsz
  have hD := hD0.self (sz := s.heap.size)
  generalize hAe : va_A (va_pl L f) s.heap.size = A at hD ⊢
  have hA : ∀ q : Nat, s.heap.size ≤ q → A q := fun q h => by rw [← hAe]; exact Or.inr h
  have hS : va_S A s.heap s.heap [] := va_S.rf
  have hH : tp_H τ ν ρ L f [] (some h0) τ ν ρ L f := tp_H.rf
  have hl := lv_entry ([.ref h0, .ref ha1, .ref ha2, .int v, .int u, .int a]) (n := 6) (Nat.le_of_ble_eq_true rfl)
  rw [lg_entry_eq]
  generalize (lg_sl ([.ref h0, .ref ha1, .ref ha2, .int v, .int u, .int a]) ++ List.replicate (6 - (lg_sl ([.ref h0, .ref ha1, .ref ha2, .int v, .int u, .int a])).length) Slot.unset).toArray = ls at hl ⊢
  have hl : lv_has ls 6 [(0, .ref h0), (1, .ref ha1), (2, .ref ha2), (3, .int v), (4, .int u), (5, .int a)] := hl
  refine lv_aload_n hx hb dX0_init_0 rfl (lv_at hl 0 rfl) ?_
  refine W.objInit hx hb hown (hts (.methodLink RX0 1 objectInit) wa_973) (hts (.instanceMethod objectInit) wa_10) (hts (.code objectInit ⟨#[0xb1]⟩ 1 none) wa_11) rfl (by rw [hml]; exact hl.1) rfl dX0_init_1 (Nat.le_of_ble_eq_true rfl) (Nat.le_of_ble_eq_true rfl) ?_
  refine W.eq (g2 := F0 m 4 ls []) rfl ?_
  refine lv_aload_n hx hb dX0_init_4 rfl (lv_at hl 0 rfl) ?_
  refine lv_aload_n hx hb dX0_init_5 rfl (lv_at hl 1 rfl) ?_
  refine tpk_pos hl_h0 hf_h0 (fun q1 eq1 => ?_)
  refine va_putF (D := (dC, dI)) (ci := 0) (v := .ref ha1) (ty := (.array .int)) (C := RX0) (T := TX0) (N := 5) hx hb hts hfX0 tyX0 tyX0_ok nmX0 hown hK hP hD hS q1 eq1 rfl 0 (by decide) (hts (.fieldLink RX0 7 "ColdShips$Contract" "code" "[I") wa_974) (fun _ h9 => h9) rfl hin rfl (tyX0_ok 0 (by decide)) rfl rfl (Nat.le_of_ble_eq_true rfl) dX0_init_6 (tp_k (.inr (0, [.ref ha1, .null, .int 0, .int 0, .int 0])) hD hl_h0 eq1 (fun f2 H locs hP hD hS g4 k3 => ?_))
  have hT := hT.raw hz_h0 k3
  have hH := hH.wo k3
  refine lv_aload_n hx hb dX0_init_9 rfl (lv_at hl 0 rfl) ?_
  refine lv_aload_n hx hb dX0_init_10 rfl (lv_at hl 2 rfl) ?_
  refine tpk_pos hl_h0 g4 (fun q5 eq5 => ?_)
  refine va_putF (D := (dC, dI)) (ci := 0) (v := .ref ha2) (ty := (.array .int)) (C := RX0) (T := TX0) (N := 5) hx hb hts hfX0 tyX0 tyX0_ok nmX0 hown hK hP hD hS q5 eq5 rfl 1 (by decide) (hts (.fieldLink RX0 13 "ColdShips$Contract" "starts" "[I") wa_975) (fun _ h9 => h9) rfl hin rfl (tyX0_ok 1 (by decide)) rfl rfl (Nat.le_of_ble_eq_true rfl) dX0_init_11 (tp_k (.inr (0, [.ref ha1, .ref ha2, .int 0, .int 0, .int 0])) hD hl_h0 eq5 (fun f6 H locs hP hD hS g8 k7 => ?_))
  have hT := hT.raw hz_h0 k7
  have hH := hH.wo k7
  refine lv_aload_n hx hb dX0_init_14 rfl (lv_at hl 0 rfl) ?_
  refine lv_iload_n hx hb dX0_init_15 rfl (lv_at hl 3 rfl) ?_
  refine tpk_pos hl_h0 g8 (fun q9 eq9 => ?_)
  refine va_putF (D := (dC, dI)) (ci := 0) (v := .int v) (ty := .int) (C := RX0) (T := TX0) (N := 5) hx hb hts hfX0 tyX0 tyX0_ok nmX0 hown hK hP hD hS q9 eq9 rfl 2 (by decide) (hts (.fieldLink RX0 16 "ColdShips$Contract" "windowFrom" "I") wa_976) (fun _ h9 => h9) rfl hin rfl (tyX0_ok 2 (by decide)) rfl rfl (Nat.le_of_ble_eq_true rfl) dX0_init_16 (tp_k (.inr (0, [.ref ha1, .ref ha2, .int v, .int 0, .int 0])) hD hl_h0 eq9 (fun f10 H locs hP hD hS g12 k11 => ?_))
  have hT := hT.raw hz_h0 k11
  have hH := hH.wo k11
  refine lv_aload_n hx hb dX0_init_19 rfl (lv_at hl 0 rfl) ?_
  refine lv_iload hx hb dX0_init_20 (lv_at hl 4 rfl) ?_
  refine tpk_pos hl_h0 g12 (fun q13 eq13 => ?_)
  refine va_putF (D := (dC, dI)) (ci := 0) (v := .int u) (ty := .int) (C := RX0) (T := TX0) (N := 5) hx hb hts hfX0 tyX0 tyX0_ok nmX0 hown hK hP hD hS q13 eq13 rfl 3 (by decide) (hts (.fieldLink RX0 20 "ColdShips$Contract" "windowTo" "I") wa_977) (fun _ h9 => h9) rfl hin rfl (tyX0_ok 3 (by decide)) rfl rfl (Nat.le_of_ble_eq_true rfl) dX0_init_22 (tp_k (.inr (0, [.ref ha1, .ref ha2, .int v, .int u, .int 0])) hD hl_h0 eq13 (fun f14 H locs hP hD hS g16 k15 => ?_))
  have hT := hT.raw hz_h0 k15
  have hH := hH.wo k15
  refine lv_aload_n hx hb dX0_init_25 rfl (lv_at hl 0 rfl) ?_
  refine lv_iload hx hb dX0_init_26 (lv_at hl 5 rfl) ?_
  refine tpk_pos hl_h0 g16 (fun q17 eq17 => ?_)
  refine va_putF (D := (dC, dI)) (ci := 0) (v := .int a) (ty := .int) (C := RX0) (T := TX0) (N := 5) hx hb hts hfX0 tyX0 tyX0_ok nmX0 hown hK hP hD hS q17 eq17 rfl 4 (by decide) (hts (.fieldLink RX0 23 "ColdShips$Contract" "place" "I") wa_978) (fun _ h9 => h9) rfl hin rfl (tyX0_ok 4 (by decide)) rfl rfl (Nat.le_of_ble_eq_true rfl) dX0_init_28 (tp_k (.inr (0, [.ref ha1, .ref ha2, .int v, .int u, .int a])) hD hl_h0 eq17 (fun f18 H locs hP hD hS g20 k19 => ?_))
  have hT := hT.raw hz_h0 k19
  have hH := hH.wo k19
  obtain ⟨τ_21, ν_21, ρ_21, hG, hT, hb22, ht23, hn24, hr25⟩ := tp_type hG hT hl_h0 hz_h0 1 (0) (fun k => [ha1, ha2, 0, 0, 0].getD k 0) (by decide) (fun τ9 ν9 ρ9 hE h2 h3 => ⟨(by show (τ9 (ρ9 h0 0) = 28 ∧ ν9 (ρ9 h0 0) ≤ 400) ∧ (τ9 (ρ9 h0 1) = 20 ∧ ν9 (ρ9 h0 1) ≤ 13); rw [h3]; exact ⟨⟨(hE ha1 (by rw [ht_ha1]; decide)).1.trans ht_ha1, (by have q9 := (hE ha1 (by rw [ht_ha1]; decide)).2.1; show ν9 ha1 ≤ _; omega)⟩, ⟨(hE ha2 (by rw [ht_ha2]; decide)).1.trans ht_ha2, (by have q9 := (hE ha2 (by rw [ht_ha2]; decide)).2.1; show ν9 ha2 ≤ _; omega)⟩⟩), by rw [g20]; exact ⟨_, _, _, (by rw [h3]; rfl)⟩⟩)
  have hH := hH.ty (fun a _ ho z => ho (by rw [z])) hb22
  have ht26 : τ_21 ha1 = 28 := (hb22 _ (Ne.symm (tp_ne0 hz_h0 ht_ha1 (by decide)))).1.trans ht_ha1
  have ht27 : τ_21 ha2 = 20 := (hb22 _ (Ne.symm (tp_ne0 hz_h0 ht_ha2 (by decide)))).1.trans ht_ha2
  clear ht_ha1 ht_ha2 hb22
  refine tp_widen 0 0 (Nat.le_of_ble_eq_true rfl) (Nat.le_of_ble_eq_true rfl) ?_
  exact W.vret hx hb hr (fun t ht hW => ⟨⟨(τ_21, ν_21, ρ_21, L, f18), rfl, ⟨⟨hG, hT, hH⟩, ht23⟩, by rw [ht]; exact hP, va_K.moved hW.alike hK, hD⟩, hS.F ht⟩) hS.2.2 dX0_init_31
set_option maxHeartbeats 4000000 in
set_option maxRecDepth 100000 in
theorem t_X9_init (l : Launch) (dC : Nat → ClassId) (dI : Nat → Nat → Nat) (sz : Nat) (Ω : Nat → (Nat → Nat) → va_E → Prop) (κ : Nat → ClassId) (τ ν : Nat → Nat) (ρ : Nat → Nat → Nat) (L : List Nat) (f : Nat → va_E) (hG : tp_G τ ν ρ L) (hT : tp_T Ω κ τ ν ρ f) (h0 : Nat) (h1 : Nat) (hl_h0 : h0 ∈ L) (hz_h0 : τ h0 = 0) (hf_h0 : f h0 = .inr (9, [.null, .int 0, .int 0, .int 0])) (ht_h1 : τ h1 = 11) : Met l yX9_init wqX9_init ({ frames := 2, cells := 0, slots := 0, locals := 400 }) (va_Pc [.ref h0, .ref h1] (pz_B dC dI (tp_K κ) (va_pl L f) sz)) (va_Qv (fun (x : tp_S) => tp_PX Ω κ τ ν ρ L f [] (some h0) x ∧ x.1 h0 = 10) (fun (x : tp_S) (t : State) => pz_E dC dI (tp_K κ) (va_A (va_pl L f) sz) (va_pl x.2.2.2.1 x.2.2.2.2) t) (va_A (va_pl L f) sz)) 0 0 (va_A (va_pl L f) sz) := by
  refine Met.ofW (cc := cX9_init) (maxL := 2) (ret := none) (by decide) rfl ?_
  intro p e s m args below meth c s₁ B hml hv
  obtain ⟨rfl, hsz, hP, hK, hD0, hN⟩ := hv
  have hx := B.exec
  have hb := B.bytes
  have hr := B.returns
  have hts := fun (w : Cond) (h : w ∈ WALL) => atoms_spec (ws := wqX9_init) B.pre w (List.mem_cons_of_mem _ h)
  have hown : s.vm.findClass RX9 = some m.cls := findClass_of_methodNamed B.named
  have hlocks := B.notSynchronized
  have hin : meth.name = "<init>" := (name_of_methodNamed B.named B.method).1
  subst hsz
  have hD := hD0.self (sz := s.heap.size)
  generalize hAe : va_A (va_pl L f) s.heap.size = A at hD ⊢
  have hA : ∀ q : Nat, s.heap.size ≤ q → A q := fun q h => by rw [← hAe]; exact Or.inr h
  have hS : va_S A s.heap s.heap [] := va_S.rf
  have hH : tp_H τ ν ρ L f [] (some h0) τ ν ρ L f := tp_H.rf
  have hl := lv_entry ([.ref h0, .ref h1]) (n := 2) (Nat.le_of_ble_eq_true rfl)
  rw [lg_entry_eq]
  generalize (lg_sl ([.ref h0, .ref h1]) ++ List.replicate (2 - (lg_sl ([.ref h0, .ref h1])).length) Slot.unset).toArray = ls at hl ⊢
  have hl : lv_has ls 2 [(0, .ref h0), (1, .ref h1)] := hl
  refine lv_aload_n hx hb dX9_init_0 rfl (lv_at hl 0 rfl) ?_
  refine W.objInit hx hb hown (hts (.methodLink RX9 3 objectInit) wa_113) (hts (.instanceMethod objectInit) wa_10) (hts (.code objectInit ⟨#[0xb1]⟩ 1 none) wa_11) rfl (by rw [hml]; exact hl.1) rfl dX9_init_1 (Nat.le_of_ble_eq_true rfl) (Nat.le_of_ble_eq_true rfl) ?_
  refine W.eq (g2 := F0 m 4 ls []) rfl ?_
  refine lv_aload_n hx hb dX9_init_4 rfl (lv_at hl 0 rfl) ?_
  refine lv_aload_n hx hb dX9_init_5 rfl (lv_at hl 1 rfl) ?_
  refine tpk_pos hl_h0 hf_h0 (fun q1 eq1 => ?_)
  refine va_putF (D := (dC, dI)) (ci := 9) (v := .ref h1) (ty := (.object "ColdShips$World")) (C := RX9) (T := TX9) (N := 4) hx hb hts hfX9 tyX9 tyX9_ok nmX9 hown hK hP hD hS q1 eq1 rfl 0 (by decide) (hts (.fieldLink RX9 9 "ColdShips$Watch" "world" "LColdShips$World;") wa_114) (fun _ h9 => h9) rfl hin rfl (tyX9_ok 0 (by decide)) rfl rfl (Nat.le_of_ble_eq_true rfl) dX9_init_6 (tp_k (.inr (9, [.ref h1, .int 0, .int 0, .int 0])) hD hl_h0 eq1 (fun f2 H locs hP hD hS g4 k3 => ?_))
  have hT := hT.raw hz_h0 k3
  have hH := hH.wo k3
  obtain ⟨τ_5, ν_5, ρ_5, hG, hT, hb6, ht7, hn8, hr9⟩ := tp_type hG hT hl_h0 hz_h0 10 (0) (fun k => [h1, 0, 0, 0].getD k 0) (by decide) (fun τ9 ν9 ρ9 hE h2 h3 => ⟨(by show (τ9 (ρ9 h0 0) = 11); rw [h3]; exact (hE h1 (by rw [ht_h1]; decide)).1.trans ht_h1), by rw [g4]; exact ⟨_, _, _, (by rw [h3]; rfl), (by first | decide | (rw [h3]; decide) | (have : (0 : Int32).toInt = 0 := rfl; have : (0 : Int32).toInt = 0 := rfl; have : (0 : Int32).toInt = 0 := rfl; omega) | (rw [h3]; have : (0 : Int32).toInt = 0 := rfl; have : (0 : Int32).toInt = 0 := rfl; have : (0 : Int32).toInt = 0 := rfl; omega)), (by first | decide | (rw [h3]; decide) | (have : (0 : Int32).toInt = 0 := rfl; have : (0 : Int32).toInt = 0 := rfl; have : (0 : Int32).toInt = 0 := rfl; omega) | (rw [h3]; have : (0 : Int32).toInt = 0 := rfl; have : (0 : Int32).toInt = 0 := rfl; have : (0 : Int32).toInt = 0 := rfl; omega))⟩⟩)
  have hH := hH.ty (fun a _ ho z => ho (by rw [z])) hb6
  have ht10 : τ_5 h1 = 11 := (hb6 _ (Ne.symm (tp_ne0 hz_h0 ht_h1 (by decide)))).1.trans ht_h1
  clear ht_h1 hb6
  refine tp_widen 0 0 (Nat.le_of_ble_eq_true rfl) (Nat.le_of_ble_eq_true rfl) ?_
  exact W.vret hx hb hr (fun t ht hW => ⟨⟨(τ_5, ν_5, ρ_5, L, f2), rfl, ⟨⟨hG, hT, hH⟩, ht7⟩, by rw [ht]; exact hP, va_K.moved hW.alike hK, hD⟩, hS.F ht⟩) hS.2.2 dX9_init_9
set_option maxHeartbeats 4000000 in
set_option maxRecDepth 100000 in
theorem t_X3_init (l : Launch) (dC : Nat → ClassId) (dI : Nat → Nat → Nat) (sz : Nat) (Ω : Nat → (Nat → Nat) → va_E → Prop) (κ : Nat → ClassId) (τ ν : Nat → Nat) (ρ : Nat → Nat → Nat) (L : List Nat) (f : Nat → va_E) (hG : tp_G τ ν ρ L) (hT : tp_T Ω κ τ ν ρ f) (h0 : Nat) (h1 : Nat) (hl_h0 : h0 ∈ L) (hz_h0 : τ h0 = 0) (hf_h0 : f h0 = .inr (3, [.null, .null, .null, .int 0, .long 0, .long 0])) (ht_h1 : τ h1 = 11) : Met l yX3_init wqX3_init ({ frames := 2, cells := 2, slots := 72, locals := 400 }) (va_Pc [.ref h0, .ref h1] (pz_B dC dI (tp_K κ) (va_pl L f) sz)) (va_Qv (fun (x : tp_S) => tp_PX Ω κ τ ν ρ L f [] (some h0) x ∧ x.1 h0 = 4) (fun (x : tp_S) (t : State) => pz_E dC dI (tp_K κ) (va_A (va_pl L f) sz) (va_pl x.2.2.2.1 x.2.2.2.2) t) (va_A (va_pl L f) sz)) 2 72 (va_A (va_pl L f) sz) := by
  refine Met.ofW (cc := cX3_init) (maxL := 2) (ret := none) (by decide) rfl ?_
  intro p e s m args below meth c s₁ B hml hv
  obtain ⟨rfl, hsz, hP, hK, hD0, hN⟩ := hv
  have hx := B.exec
  have hb := B.bytes
  have hr := B.returns
  have hts := fun (w : Cond) (h : w ∈ WALL) => atoms_spec (ws := wqX3_init) B.pre w (List.mem_cons_of_mem _ h)
  have hown : s.vm.findClass RX3 = some m.cls := findClass_of_methodNamed B.named
  have hlocks := B.notSynchronized
  have hin : meth.name = "<init>" := (name_of_methodNamed B.named B.method).1
  subst hsz
  have hD := hD0.self (sz := s.heap.size)
  generalize hAe : va_A (va_pl L f) s.heap.size = A at hD ⊢
  have hA : ∀ q : Nat, s.heap.size ≤ q → A q := fun q h => by rw [← hAe]; exact Or.inr h
  have hS : va_S A s.heap s.heap [] := va_S.rf
  have hH : tp_H τ ν ρ L f [] (some h0) τ ν ρ L f := tp_H.rf
  have hl := lv_entry ([.ref h0, .ref h1]) (n := 2) (Nat.le_of_ble_eq_true rfl)
  rw [lg_entry_eq]
  generalize (lg_sl ([.ref h0, .ref h1]) ++ List.replicate (2 - (lg_sl ([.ref h0, .ref h1])).length) Slot.unset).toArray = ls at hl ⊢
  have hl : lv_has ls 2 [(0, .ref h0), (1, .ref h1)] := hl
  refine lv_aload_n hx hb dX3_init_0 rfl (lv_at hl 0 rfl) ?_
  refine W.objInit hx hb hown (hts (.methodLink RX3 3 objectInit) wa_126) (hts (.instanceMethod objectInit) wa_10) (hts (.code objectInit ⟨#[0xb1]⟩ 1 none) wa_11) rfl (by rw [hml]; exact hl.1) rfl dX3_init_1 (Nat.le_of_ble_eq_true rfl) (Nat.le_of_ble_eq_true rfl) ?_
  refine W.eq (g2 := F0 m 4 ls []) rfl ?_
  refine lv_aload_n hx hb dX3_init_4 rfl (lv_at hl 0 rfl) ?_
  refine lv_bipush (v := 8) hx hb dX3_init_5 (by decide) ?_
  refine va_newa (atype := .long) hx hb (hts (.arrayClass .long) wa_82) (ty := .long) rfl hK hP hD hS hA (a0 := (8, .inr (.inl (fun _ => 0)))) (fun cA => pz_na_long cA 8) (by decide +kernel : ¬ (8 : Int32) < 0) (by decide +kernel : (8 : Int32).toNatClampNeg = 8) (by decide +kernel) (Nat.le_of_ble_eq_true rfl) (Nat.le_of_ble_eq_true rfl) dX3_init_7 (fun q1 k2 H hK hP hD hS => ?_)
  obtain ⟨e9, hK9⟩ := tp_kid 1 rfl hK; subst e9; have hK := hK9
  refine Exists.elim (tp_grow hG hT hP hD) (fun L12 hE90 => Exists.elim hE90 (fun f11 hE91 => tn_10 hE91 (fun hP hD hg3 ht4 hs5 hq6 hz7 hn8 hf9 ho10 => ?_)))
  clear hE91 hE90
  have hn13 : ∀ a, a ∈ L → a ≠ q1 := fun a ha => hn8 a (hH.1 a ha)
  have ne14 : h0 ≠ q1 := hn8 _ hl_h0
  have ne15 : h1 ≠ q1 := hn8 _ (tp_in hG ht_h1 (by decide))
  have hG := hg3
  have hT := ht4
  have hH := hH.gr hs5 hn8 ho10
  have hf16 : f11 h0 = .inr (3, [.null, .null, .null, .int 0, .long 0, .long 0]) := (ho10 _ ne14).trans hf_h0
  have hl17 : h0 ∈ L12 := hs5 _ hl_h0
  clear hf_h0 hl_h0
  obtain ⟨τ_18, ν_18, ρ_18, hG, hT, hb19, ht20, hn21, hr22⟩ := tp_type hG hT hq6 hz7 21 (8) (fun _ => 0) (by decide) (fun τ9 ν9 ρ9 hE h2 h3 => ⟨trivial, by rw [hf9]; exact tp_o21 h2⟩)
  have hH := hH.ty (fun a ha _ => hn13 a ha) hb19
  have ht23 : τ_18 h1 = 11 := (hb19 _ ne15).1.trans ht_h1
  have hz24 : τ_18 h0 = 0 := (hb19 _ ne14).1.trans hz_h0
  clear ht_h1 hz_h0 hb19 ne14 ne15
  refine tpk_pos hl17 hf16 (fun q25 eq25 => ?_)
  refine va_putF (D := (dC, dI)) (ci := 3) (v := .ref q1) (ty := (.array .long)) (C := RX3) (T := TX3) (N := 6) hx hb hts hfX3 tyX3 tyX3_ok nmX3 hown hK hP hD hS q25 eq25 rfl 1 (by decide) (hts (.fieldLink RX3 9 "ColdShips$Reckoner" "facts" "[J") wa_127) (fun _ h9 => h9) rfl hin rfl (tyX3_ok 1 (by decide)) rfl rfl (Nat.le_of_ble_eq_true rfl) dX3_init_9 (tp_k (.inr (3, [.null, .ref q1, .null, .int 0, .long 0, .long 0])) hD hl17 eq25 (fun f26 H locs hP hD hS g28 k27 => ?_))
  have hT := hT.raw hz24 k27
  have hH := hH.wo k27
  refine lv_aload_n hx hb dX3_init_12 rfl (lv_at hl 0 rfl) ?_
  refine lv_bipush (v := 64) hx hb dX3_init_13 (by decide) ?_
  refine va_newa (atype := .long) hx hb (hts (.arrayClass .long) wa_82) (ty := .long) rfl hK hP hD hS hA (a0 := (64, .inr (.inl (fun _ => 0)))) (fun cA => pz_na_long cA 64) (by decide +kernel : ¬ (64 : Int32) < 0) (by decide +kernel : (64 : Int32).toNatClampNeg = 64) (by decide +kernel) (Nat.le_of_ble_eq_true rfl) (Nat.le_of_ble_eq_true rfl) dX3_init_15 (fun q29 k30 H hK hP hD hS => ?_)
  obtain ⟨e9, hK9⟩ := tp_kid 1 rfl hK; subst e9; have hK := hK9
  refine Exists.elim (tp_grow hG hT hP hD) (fun L40 hE90 => Exists.elim hE90 (fun f39 hE91 => tn_10 hE91 (fun hP hD hg31 ht32 hs33 hq34 hz35 hn36 hf37 ho38 => ?_)))
  clear hE91 hE90
  have hn41 : ∀ a, a ∈ L → a ≠ q29 := fun a ha => hn36 a (hH.1 a ha)
  have ne42 : h0 ≠ q29 := hn36 _ hl17
  have ne43 : h1 ≠ q29 := hn36 _ (tp_in hG ht23 (by decide))
  have ne44 : q1 ≠ q29 := hn36 _ (tp_in hG ht20 (by decide))
  have hG := hg31
  have hT := ht32
  have hH := hH.gr hs33 hn36 ho38
  have hf45 : f39 h0 = .inr (3, [.null, .ref q1, .null, .int 0, .long 0, .long 0]) := (ho38 _ ne42).trans g28
  have hl46 : h0 ∈ L40 := hs33 _ hl17
  clear g28 hl17
  obtain ⟨τ_47, ν_47, ρ_47, hG, hT, hb48, ht49, hn50, hr51⟩ := tp_type hG hT hq34 hz35 21 (64) (fun _ => 0) (by decide) (fun τ9 ν9 ρ9 hE h2 h3 => ⟨trivial, by rw [hf37]; exact tp_o21 h2⟩)
  have hH := hH.ty (fun a ha _ => hn41 a ha) hb48
  have ht52 : τ_47 h1 = 11 := (hb48 _ ne43).1.trans ht23
  have ht53 : τ_47 q1 = 21 := (hb48 _ ne44).1.trans ht20
  have hn54 : ν_47 q1 = 8 := (hb48 _ ne44).2.1.trans hn21
  have hz55 : τ_47 h0 = 0 := (hb48 _ ne42).1.trans hz24
  clear ht23 ht20 hn21 hz24 hb48 ne42 ne43 ne44
  refine tpk_pos hl46 hf45 (fun q56 eq56 => ?_)
  refine va_putF (D := (dC, dI)) (ci := 3) (v := .ref q29) (ty := (.array .long)) (C := RX3) (T := TX3) (N := 6) hx hb hts hfX3 tyX3 tyX3_ok nmX3 hown hK hP hD hS q56 eq56 rfl 2 (by decide) (hts (.fieldLink RX3 15 "ColdShips$Reckoner" "stack" "[J") wa_128) (fun _ h9 => h9) rfl hin rfl (tyX3_ok 2 (by decide)) rfl rfl (Nat.le_of_ble_eq_true rfl) dX3_init_17 (tp_k (.inr (3, [.null, .ref q1, .ref q29, .int 0, .long 0, .long 0])) hD hl46 eq56 (fun f57 H locs hP hD hS g59 k58 => ?_))
  have hT := hT.raw hz55 k58
  have hH := hH.wo k58
  refine lv_aload_n hx hb dX3_init_20 rfl (lv_at hl 0 rfl) ?_
  refine lv_aload_n hx hb dX3_init_21 rfl (lv_at hl 1 rfl) ?_
  refine tpk_pos hl46 g59 (fun q60 eq60 => ?_)
  refine va_putF (D := (dC, dI)) (ci := 3) (v := .ref h1) (ty := (.object "ColdShips$World")) (C := RX3) (T := TX3) (N := 6) hx hb hts hfX3 tyX3 tyX3_ok nmX3 hown hK hP hD hS q60 eq60 rfl 0 (by decide) (hts (.fieldLink RX3 18 "ColdShips$Reckoner" "world" "LColdShips$World;") wa_129) (fun _ h9 => h9) rfl hin rfl (tyX3_ok 0 (by decide)) rfl rfl (Nat.le_of_ble_eq_true rfl) dX3_init_22 (tp_k (.inr (3, [.ref h1, .ref q1, .ref q29, .int 0, .long 0, .long 0])) hD hl46 eq60 (fun f61 H locs hP hD hS g63 k62 => ?_))
  have hT := hT.raw hz55 k62
  have hH := hH.wo k62
  obtain ⟨τ_64, ν_64, ρ_64, hG, hT, hb65, ht66, hn67, hr68⟩ := tp_type hG hT hl46 hz55 4 (0) (fun k => [h1, q1, q29, 0, 0, 0].getD k 0) (by decide) (fun τ9 ν9 ρ9 hE h2 h3 => ⟨(by show (τ9 (ρ9 h0 0) = 11) ∧ (τ9 (ρ9 h0 1) = 21 ∧ ν9 (ρ9 h0 1) = 8) ∧ (τ9 (ρ9 h0 2) = 21 ∧ ν9 (ρ9 h0 2) = 64); rw [h3]; exact ⟨(hE h1 (by rw [ht52]; decide)).1.trans ht52, ⟨(hE q1 (by rw [ht53]; decide)).1.trans ht53, (hE q1 (by rw [ht53]; decide)).2.1.trans hn54⟩, ⟨(hE q29 (by rw [ht49]; decide)).1.trans ht49, (hE q29 (by rw [ht49]; decide)).2.1.trans hn50⟩⟩), by rw [g63]; exact ⟨_, _, _, (by rw [h3]; rfl), (by first | decide | (rw [h3]; decide) | (have : (0 : Int32).toInt = 0 := rfl; omega) | (rw [h3]; have : (0 : Int32).toInt = 0 := rfl; omega))⟩⟩)
  have hH := hH.ty (fun a _ ho z => ho (by rw [z])) hb65
  have ht69 : τ_64 h1 = 11 := (hb65 _ (Ne.symm (tp_ne0 hz55 ht52 (by decide)))).1.trans ht52
  have ht70 : τ_64 q1 = 21 := (hb65 _ (Ne.symm (tp_ne0 hz55 ht53 (by decide)))).1.trans ht53
  have hn71 : ν_64 q1 = 8 := (hb65 _ (Ne.symm (tp_ne0 hz55 ht53 (by decide)))).2.1.trans hn54
  have ht72 : τ_64 q29 = 21 := (hb65 _ (Ne.symm (tp_ne0 hz55 ht49 (by decide)))).1.trans ht49
  have hn73 : ν_64 q29 = 64 := (hb65 _ (Ne.symm (tp_ne0 hz55 ht49 (by decide)))).2.1.trans hn50
  clear ht52 ht53 hn54 ht49 hn50 hb65
  refine tp_widen 2 72 (Nat.le_of_ble_eq_true rfl) (Nat.le_of_ble_eq_true rfl) ?_
  exact W.vret hx hb hr (fun t ht hW => ⟨⟨(τ_64, ν_64, ρ_64, L40, f61), rfl, ⟨⟨hG, hT, hH⟩, ht66⟩, by rw [ht]; exact hP, va_K.moved hW.alike hK, hD⟩, hS.F ht⟩) hS.2.2 dX3_init_25
set_option maxHeartbeats 4000000 in
set_option maxRecDepth 100000 in
theorem t_X1_init (l : Launch) (dC : Nat → ClassId) (dI : Nat → Nat → Nat) (sz : Nat) (Ω : Nat → (Nat → Nat) → va_E → Prop) (κ : Nat → ClassId) (τ ν : Nat → Nat) (ρ : Nat → Nat → Nat) (L : List Nat) (f : Nat → va_E) (hG : tp_G τ ν ρ L) (hT : tp_T Ω κ τ ν ρ f) (h0 : Nat) (h1 : Nat) (hl_h0 : h0 ∈ L) (hz_h0 : τ h0 = 0) (hf_h0 : f h0 = .inr (1, [.null, .null, .null, .null, .null, .int 0, .int 0, .int 0, .long 0, .int 0, .null, .null, .null, .null, .null])) (ht_h1 : τ h1 = 11) : Met l yX1_init wqX1_init ({ frames := 2, cells := 9, slots := 542, locals := 400 }) (va_Pc [.ref h0, .ref h1] (pz_B dC dI (tp_K κ) (va_pl L f) sz)) (va_Qv (fun (x : tp_S) => tp_PX Ω κ τ ν ρ L f [] (some h0) x ∧ x.1 h0 = 2) (fun (x : tp_S) (t : State) => pz_E dC dI (tp_K κ) (va_A (va_pl L f) sz) (va_pl x.2.2.2.1 x.2.2.2.2) t) (va_A (va_pl L f) sz)) 9 542 (va_A (va_pl L f) sz) := by
  refine Met.ofW (cc := cX1_init) (maxL := 2) (ret := none) (by decide) rfl ?_
  intro p e s m args below meth c s₁ B hml hv
  obtain ⟨rfl, hsz, hP, hK, hD0, hN⟩ := hv
  have hx := B.exec
  have hb := B.bytes
  have hr := B.returns
  have hts := fun (w : Cond) (h : w ∈ WALL) => atoms_spec (ws := wqX1_init) B.pre w (List.mem_cons_of_mem _ h)
  have hown : s.vm.findClass RX1 = some m.cls := findClass_of_methodNamed B.named
  have hlocks := B.notSynchronized
  have hin : meth.name = "<init>" := (name_of_methodNamed B.named B.method).1
  subst hsz
  have hD := hD0.self (sz := s.heap.size)
  generalize hAe : va_A (va_pl L f) s.heap.size = A at hD ⊢
  have hA : ∀ q : Nat, s.heap.size ≤ q → A q := fun q h => by rw [← hAe]; exact Or.inr h
  have hS : va_S A s.heap s.heap [] := va_S.rf
  have hH : tp_H τ ν ρ L f [] (some h0) τ ν ρ L f := tp_H.rf
  have hl := lv_entry ([.ref h0, .ref h1]) (n := 2) (Nat.le_of_ble_eq_true rfl)
  rw [lg_entry_eq]
  generalize (lg_sl ([.ref h0, .ref h1]) ++ List.replicate (2 - (lg_sl ([.ref h0, .ref h1])).length) Slot.unset).toArray = ls at hl ⊢
  have hl : lv_has ls 2 [(0, .ref h0), (1, .ref h1)] := hl
  refine lv_aload_n hx hb dX1_init_0 rfl (lv_at hl 0 rfl) ?_
  refine W.objInit hx hb hown (hts (.methodLink RX1 3 objectInit) wa_133) (hts (.instanceMethod objectInit) wa_10) (hts (.code objectInit ⟨#[0xb1]⟩ 1 none) wa_11) rfl (by rw [hml]; exact hl.1) rfl dX1_init_1 (Nat.le_of_ble_eq_true rfl) (Nat.le_of_ble_eq_true rfl) ?_
  refine W.eq (g2 := F0 m 4 ls []) rfl ?_
  refine lv_aload_n hx hb dX1_init_4 rfl (lv_at hl 0 rfl) ?_
  refine lv_sipush (v := 192) hx hb dX1_init_5 (by decide) ?_
  refine va_newa (atype := .long) hx hb (hts (.arrayClass .long) wa_82) (ty := .long) rfl hK hP hD hS hA (a0 := (192, .inr (.inl (fun _ => 0)))) (fun cA => pz_na_long cA 192) (by decide +kernel : ¬ (192 : Int32) < 0) (by decide +kernel : (192 : Int32).toNatClampNeg = 192) (by decide +kernel) (Nat.le_of_ble_eq_true rfl) (Nat.le_of_ble_eq_true rfl) dX1_init_8 (fun q1 k2 H hK hP hD hS => ?_)
  obtain ⟨e9, hK9⟩ := tp_kid 1 rfl hK; subst e9; have hK := hK9
  refine Exists.elim (tp_grow hG hT hP hD) (fun L12 hE90 => Exists.elim hE90 (fun f11 hE91 => tn_10 hE91 (fun hP hD hg3 ht4 hs5 hq6 hz7 hn8 hf9 ho10 => ?_)))
  clear hE91 hE90
  have hn13 : ∀ a, a ∈ L → a ≠ q1 := fun a ha => hn8 a (hH.1 a ha)
  have ne14 : h0 ≠ q1 := hn8 _ hl_h0
  have ne15 : h1 ≠ q1 := hn8 _ (tp_in hG ht_h1 (by decide))
  have hG := hg3
  have hT := ht4
  have hH := hH.gr hs5 hn8 ho10
  have hf16 : f11 h0 = .inr (1, [.null, .null, .null, .null, .null, .int 0, .int 0, .int 0, .long 0, .int 0, .null, .null, .null, .null, .null]) := (ho10 _ ne14).trans hf_h0
  have hl17 : h0 ∈ L12 := hs5 _ hl_h0
  clear hf_h0 hl_h0
  obtain ⟨τ_18, ν_18, ρ_18, hG, hT, hb19, ht20, hn21, hr22⟩ := tp_type hG hT hq6 hz7 21 (192) (fun _ => 0) (by decide) (fun τ9 ν9 ρ9 hE h2 h3 => ⟨trivial, by rw [hf9]; exact tp_o21 h2⟩)
  have hH := hH.ty (fun a ha _ => hn13 a ha) hb19
  have ht23 : τ_18 h1 = 11 := (hb19 _ ne15).1.trans ht_h1
  have hz24 : τ_18 h0 = 0 := (hb19 _ ne14).1.trans hz_h0
  clear ht_h1 hz_h0 hb19 ne14 ne15
  refine tpk_pos hl17 hf16 (fun q25 eq25 => ?_)
  refine va_putF (D := (dC, dI)) (ci := 1) (v := .ref q1) (ty := (.array .long)) (C := RX1) (T := TX1) (N := 15) hx hb hts hfX1 tyX1 tyX1_ok nmX1 hown hK hP hD hS q25 eq25 rfl 1 (by decide) (hts (.fieldLink RX1 11 "ColdShips$Planner" "rowWorths" "[J") wa_134) (fun _ h9 => h9) rfl hin rfl (tyX1_ok 1 (by decide)) rfl rfl (Nat.le_of_ble_eq_true rfl) dX1_init_10 (tp_k (.inr (1, [.null, .ref q1, .null, .null, .null, .int 0, .int 0, .int 0, .long 0, .int 0, .null, .null, .null, .null, .null])) hD hl17 eq25 (fun f26 H locs hP hD hS g28 k27 => ?_))
  have hT := hT.raw hz24 k27
  have hH := hH.wo k27
  refine lv_aload_n hx hb dX1_init_13 rfl (lv_at hl 0 rfl) ?_
  refine lv_sipush (v := 192) hx hb dX1_init_14 (by decide) ?_
  refine va_newa (atype := .int) hx hb (hts (.arrayClass .int) wa_39) (ty := .int) rfl hK hP hD hS hA (a0 := (192, .inl (fun _ => 0))) (fun cA => pz_na_int cA 192) (by decide +kernel : ¬ (192 : Int32) < 0) (by decide +kernel : (192 : Int32).toNatClampNeg = 192) (by decide +kernel) (Nat.le_of_ble_eq_true rfl) (Nat.le_of_ble_eq_true rfl) dX1_init_17 (fun q29 k30 H hK hP hD hS => ?_)
  obtain ⟨e9, hK9⟩ := tp_kid 0 rfl hK; subst e9; have hK := hK9
  refine Exists.elim (tp_grow hG hT hP hD) (fun L40 hE90 => Exists.elim hE90 (fun f39 hE91 => tn_10 hE91 (fun hP hD hg31 ht32 hs33 hq34 hz35 hn36 hf37 ho38 => ?_)))
  clear hE91 hE90
  have hn41 : ∀ a, a ∈ L → a ≠ q29 := fun a ha => hn36 a (hH.1 a ha)
  have ne42 : h0 ≠ q29 := hn36 _ hl17
  have ne43 : h1 ≠ q29 := hn36 _ (tp_in hG ht23 (by decide))
  have ne44 : q1 ≠ q29 := hn36 _ (tp_in hG ht20 (by decide))
  have hG := hg31
  have hT := ht32
  have hH := hH.gr hs33 hn36 ho38
  have hf45 : f39 h0 = .inr (1, [.null, .ref q1, .null, .null, .null, .int 0, .int 0, .int 0, .long 0, .int 0, .null, .null, .null, .null, .null]) := (ho38 _ ne42).trans g28
  have hl46 : h0 ∈ L40 := hs33 _ hl17
  clear g28 hl17
  obtain ⟨τ_47, ν_47, ρ_47, hG, hT, hb48, ht49, hn50, hr51⟩ := tp_type hG hT hq34 hz35 20 (192) (fun _ => 0) (by decide) (fun τ9 ν9 ρ9 hE h2 h3 => ⟨trivial, by rw [hf37]; exact tp_o20 h2⟩)
  have hH := hH.ty (fun a ha _ => hn41 a ha) hb48
  have ht52 : τ_47 h1 = 11 := (hb48 _ ne43).1.trans ht23
  have ht53 : τ_47 q1 = 21 := (hb48 _ ne44).1.trans ht20
  have hn54 : ν_47 q1 = 192 := (hb48 _ ne44).2.1.trans hn21
  have hz55 : τ_47 h0 = 0 := (hb48 _ ne42).1.trans hz24
  clear ht23 ht20 hn21 hz24 hb48 ne42 ne43 ne44
  refine tpk_pos hl46 hf45 (fun q56 eq56 => ?_)
  refine va_putF (D := (dC, dI)) (ci := 1) (v := .ref q29) (ty := (.array .int)) (C := RX1) (T := TX1) (N := 15) hx hb hts hfX1 tyX1 tyX1_ok nmX1 hown hK hP hD hS q56 eq56 rfl 2 (by decide) (hts (.fieldLink RX1 15 "ColdShips$Planner" "rowPlaces" "[I") wa_135) (fun _ h9 => h9) rfl hin rfl (tyX1_ok 2 (by decide)) rfl rfl (Nat.le_of_ble_eq_true rfl) dX1_init_19 (tp_k (.inr (1, [.null, .ref q1, .ref q29, .null, .null, .int 0, .int 0, .int 0, .long 0, .int 0, .null, .null, .null, .null, .null])) hD hl46 eq56 (fun f57 H locs hP hD hS g59 k58 => ?_))
  have hT := hT.raw hz55 k58
  have hH := hH.wo k58
  refine lv_aload_n hx hb dX1_init_22 rfl (lv_at hl 0 rfl) ?_
  refine lv_bipush (v := 64) hx hb dX1_init_23 (by decide) ?_
  refine va_newa (atype := .long) hx hb (hts (.arrayClass .long) wa_82) (ty := .long) rfl hK hP hD hS hA (a0 := (64, .inr (.inl (fun _ => 0)))) (fun cA => pz_na_long cA 64) (by decide +kernel : ¬ (64 : Int32) < 0) (by decide +kernel : (64 : Int32).toNatClampNeg = 64) (by decide +kernel) (Nat.le_of_ble_eq_true rfl) (Nat.le_of_ble_eq_true rfl) dX1_init_25 (fun q60 k61 H hK hP hD hS => ?_)
  obtain ⟨e9, hK9⟩ := tp_kid 1 rfl hK; subst e9; have hK := hK9
  refine Exists.elim (tp_grow hG hT hP hD) (fun L71 hE90 => Exists.elim hE90 (fun f70 hE91 => tn_10 hE91 (fun hP hD hg62 ht63 hs64 hq65 hz66 hn67 hf68 ho69 => ?_)))
  clear hE91 hE90
  have hn72 : ∀ a, a ∈ L → a ≠ q60 := fun a ha => hn67 a (hH.1 a ha)
  have ne73 : h0 ≠ q60 := hn67 _ hl46
  have ne74 : h1 ≠ q60 := hn67 _ (tp_in hG ht52 (by decide))
  have ne75 : q1 ≠ q60 := hn67 _ (tp_in hG ht53 (by decide))
  have ne76 : q29 ≠ q60 := hn67 _ (tp_in hG ht49 (by decide))
  have hG := hg62
  have hT := ht63
  have hH := hH.gr hs64 hn67 ho69
  have hf77 : f70 h0 = .inr (1, [.null, .ref q1, .ref q29, .null, .null, .int 0, .int 0, .int 0, .long 0, .int 0, .null, .null, .null, .null, .null]) := (ho69 _ ne73).trans g59
  have hl78 : h0 ∈ L71 := hs64 _ hl46
  clear g59 hl46
  obtain ⟨τ_79, ν_79, ρ_79, hG, hT, hb80, ht81, hn82, hr83⟩ := tp_type hG hT hq65 hz66 21 (64) (fun _ => 0) (by decide) (fun τ9 ν9 ρ9 hE h2 h3 => ⟨trivial, by rw [hf68]; exact tp_o21 h2⟩)
  have hH := hH.ty (fun a ha _ => hn72 a ha) hb80
  have ht84 : τ_79 h1 = 11 := (hb80 _ ne74).1.trans ht52
  have ht85 : τ_79 q1 = 21 := (hb80 _ ne75).1.trans ht53
  have hn86 : ν_79 q1 = 192 := (hb80 _ ne75).2.1.trans hn54
  have ht87 : τ_79 q29 = 20 := (hb80 _ ne76).1.trans ht49
  have hn88 : ν_79 q29 = 192 := (hb80 _ ne76).2.1.trans hn50
  have hz89 : τ_79 h0 = 0 := (hb80 _ ne73).1.trans hz55
  clear ht52 ht53 hn54 ht49 hn50 hz55 hb80 ne73 ne74 ne75 ne76
  refine tpk_pos hl78 hf77 (fun q90 eq90 => ?_)
  refine va_putF (D := (dC, dI)) (ci := 1) (v := .ref q60) (ty := (.array .long)) (C := RX1) (T := TX1) (N := 15) hx hb hts hfX1 tyX1 tyX1_ok nmX1 hown hK hP hD hS q90 eq90 rfl 3 (by decide) (hts (.fieldLink RX1 19 "ColdShips$Planner" "setWorths" "[J") wa_136) (fun _ h9 => h9) rfl hin rfl (tyX1_ok 3 (by decide)) rfl rfl (Nat.le_of_ble_eq_true rfl) dX1_init_27 (tp_k (.inr (1, [.null, .ref q1, .ref q29, .ref q60, .null, .int 0, .int 0, .int 0, .long 0, .int 0, .null, .null, .null, .null, .null])) hD hl78 eq90 (fun f91 H locs hP hD hS g93 k92 => ?_))
  have hT := hT.raw hz89 k92
  have hH := hH.wo k92
  refine lv_aload_n hx hb dX1_init_30 rfl (lv_at hl 0 rfl) ?_
  refine lv_bipush (v := 64) hx hb dX1_init_31 (by decide) ?_
  refine va_newa (atype := .int) hx hb (hts (.arrayClass .int) wa_39) (ty := .int) rfl hK hP hD hS hA (a0 := (64, .inl (fun _ => 0))) (fun cA => pz_na_int cA 64) (by decide +kernel : ¬ (64 : Int32) < 0) (by decide +kernel : (64 : Int32).toNatClampNeg = 64) (by decide +kernel) (Nat.le_of_ble_eq_true rfl) (Nat.le_of_ble_eq_true rfl) dX1_init_33 (fun q94 k95 H hK hP hD hS => ?_)
  obtain ⟨e9, hK9⟩ := tp_kid 0 rfl hK; subst e9; have hK := hK9
  refine Exists.elim (tp_grow hG hT hP hD) (fun L105 hE90 => Exists.elim hE90 (fun f104 hE91 => tn_10 hE91 (fun hP hD hg96 ht97 hs98 hq99 hz100 hn101 hf102 ho103 => ?_)))
  clear hE91 hE90
  have hn106 : ∀ a, a ∈ L → a ≠ q94 := fun a ha => hn101 a (hH.1 a ha)
  have ne107 : h0 ≠ q94 := hn101 _ hl78
  have ne108 : h1 ≠ q94 := hn101 _ (tp_in hG ht84 (by decide))
  have ne109 : q1 ≠ q94 := hn101 _ (tp_in hG ht85 (by decide))
  have ne110 : q29 ≠ q94 := hn101 _ (tp_in hG ht87 (by decide))
  have ne111 : q60 ≠ q94 := hn101 _ (tp_in hG ht81 (by decide))
  have hG := hg96
  have hT := ht97
  have hH := hH.gr hs98 hn101 ho103
  have hf112 : f104 h0 = .inr (1, [.null, .ref q1, .ref q29, .ref q60, .null, .int 0, .int 0, .int 0, .long 0, .int 0, .null, .null, .null, .null, .null]) := (ho103 _ ne107).trans g93
  have hl113 : h0 ∈ L105 := hs98 _ hl78
  clear g93 hl78
  obtain ⟨τ_114, ν_114, ρ_114, hG, hT, hb115, ht116, hn117, hr118⟩ := tp_type hG hT hq99 hz100 20 (64) (fun _ => 0) (by decide) (fun τ9 ν9 ρ9 hE h2 h3 => ⟨trivial, by rw [hf102]; exact tp_o20 h2⟩)
  have hH := hH.ty (fun a ha _ => hn106 a ha) hb115
  have ht119 : τ_114 h1 = 11 := (hb115 _ ne108).1.trans ht84
  have ht120 : τ_114 q1 = 21 := (hb115 _ ne109).1.trans ht85
  have hn121 : ν_114 q1 = 192 := (hb115 _ ne109).2.1.trans hn86
  have ht122 : τ_114 q29 = 20 := (hb115 _ ne110).1.trans ht87
  have hn123 : ν_114 q29 = 192 := (hb115 _ ne110).2.1.trans hn88
  have ht124 : τ_114 q60 = 21 := (hb115 _ ne111).1.trans ht81
  have hn125 : ν_114 q60 = 64 := (hb115 _ ne111).2.1.trans hn82
  have hz126 : τ_114 h0 = 0 := (hb115 _ ne107).1.trans hz89
  clear ht84 ht85 hn86 ht87 hn88 ht81 hn82 hz89 hb115 ne107 ne108 ne109 ne110 ne111
  refine tpk_pos hl113 hf112 (fun q127 eq127 => ?_)
  refine va_putF (D := (dC, dI)) (ci := 1) (v := .ref q94) (ty := (.array .int)) (C := RX1) (T := TX1) (N := 15) hx hb hts hfX1 tyX1 tyX1_ok nmX1 hown hK hP hD hS q127 eq127 rfl 4 (by decide) (hts (.fieldLink RX1 22 "ColdShips$Planner" "setShips" "[I") wa_137) (fun _ h9 => h9) rfl hin rfl (tyX1_ok 4 (by decide)) rfl rfl (Nat.le_of_ble_eq_true rfl) dX1_init_35 (tp_k (.inr (1, [.null, .ref q1, .ref q29, .ref q60, .ref q94, .int 0, .int 0, .int 0, .long 0, .int 0, .null, .null, .null, .null, .null])) hD hl113 eq127 (fun f128 H locs hP hD hS g130 k129 => ?_))
  have hT := hT.raw hz126 k129
  have hH := hH.wo k129
  refine lv_aload_n hx hb dX1_init_38 rfl (lv_at hl 0 rfl) ?_
  refine lv_bipush (v := 6) hx hb dX1_init_39 (by decide) ?_
  refine va_newa (atype := .int) hx hb (hts (.arrayClass .int) wa_39) (ty := .int) rfl hK hP hD hS hA (a0 := (6, .inl (fun _ => 0))) (fun cA => pz_na_int cA 6) (by decide +kernel : ¬ (6 : Int32) < 0) (by decide +kernel : (6 : Int32).toNatClampNeg = 6) (by decide +kernel) (Nat.le_of_ble_eq_true rfl) (Nat.le_of_ble_eq_true rfl) dX1_init_41 (fun q131 k132 H hK hP hD hS => ?_)
  obtain ⟨e9, hK9⟩ := tp_kid 0 rfl hK; subst e9; have hK := hK9
  refine Exists.elim (tp_grow hG hT hP hD) (fun L142 hE90 => Exists.elim hE90 (fun f141 hE91 => tn_10 hE91 (fun hP hD hg133 ht134 hs135 hq136 hz137 hn138 hf139 ho140 => ?_)))
  clear hE91 hE90
  have hn143 : ∀ a, a ∈ L → a ≠ q131 := fun a ha => hn138 a (hH.1 a ha)
  have ne144 : h0 ≠ q131 := hn138 _ hl113
  have ne145 : h1 ≠ q131 := hn138 _ (tp_in hG ht119 (by decide))
  have ne146 : q1 ≠ q131 := hn138 _ (tp_in hG ht120 (by decide))
  have ne147 : q29 ≠ q131 := hn138 _ (tp_in hG ht122 (by decide))
  have ne148 : q60 ≠ q131 := hn138 _ (tp_in hG ht124 (by decide))
  have ne149 : q94 ≠ q131 := hn138 _ (tp_in hG ht116 (by decide))
  have hG := hg133
  have hT := ht134
  have hH := hH.gr hs135 hn138 ho140
  have hf150 : f141 h0 = .inr (1, [.null, .ref q1, .ref q29, .ref q60, .ref q94, .int 0, .int 0, .int 0, .long 0, .int 0, .null, .null, .null, .null, .null]) := (ho140 _ ne144).trans g130
  have hl151 : h0 ∈ L142 := hs135 _ hl113
  clear g130 hl113
  obtain ⟨τ_152, ν_152, ρ_152, hG, hT, hb153, ht154, hn155, hr156⟩ := tp_type hG hT hq136 hz137 20 (6) (fun _ => 0) (by decide) (fun τ9 ν9 ρ9 hE h2 h3 => ⟨trivial, by rw [hf139]; exact tp_o20 h2⟩)
  have hH := hH.ty (fun a ha _ => hn143 a ha) hb153
  have ht157 : τ_152 h1 = 11 := (hb153 _ ne145).1.trans ht119
  have ht158 : τ_152 q1 = 21 := (hb153 _ ne146).1.trans ht120
  have hn159 : ν_152 q1 = 192 := (hb153 _ ne146).2.1.trans hn121
  have ht160 : τ_152 q29 = 20 := (hb153 _ ne147).1.trans ht122
  have hn161 : ν_152 q29 = 192 := (hb153 _ ne147).2.1.trans hn123
  have ht162 : τ_152 q60 = 21 := (hb153 _ ne148).1.trans ht124
  have hn163 : ν_152 q60 = 64 := (hb153 _ ne148).2.1.trans hn125
  have ht164 : τ_152 q94 = 20 := (hb153 _ ne149).1.trans ht116
  have hn165 : ν_152 q94 = 64 := (hb153 _ ne149).2.1.trans hn117
  have hz166 : τ_152 h0 = 0 := (hb153 _ ne144).1.trans hz126
  clear ht119 ht120 hn121 ht122 hn123 ht124 hn125 ht116 hn117 hz126 hb153 ne144 ne145 ne146 ne147 ne148 ne149
  refine tpk_pos hl151 hf150 (fun q167 eq167 => ?_)
  refine va_putF (D := (dC, dI)) (ci := 1) (v := .ref q131) (ty := (.array .int)) (C := RX1) (T := TX1) (N := 15) hx hb hts hfX1 tyX1 tyX1_ok nmX1 hown hK hP hD hS q167 eq167 rfl 10 (by decide) (hts (.fieldLink RX1 25 "ColdShips$Planner" "shipOf" "[I") wa_138) (fun _ h9 => h9) rfl hin rfl (tyX1_ok 10 (by decide)) rfl rfl (Nat.le_of_ble_eq_true rfl) dX1_init_43 (tp_k (.inr (1, [.null, .ref q1, .ref q29, .ref q60, .ref q94, .int 0, .int 0, .int 0, .long 0, .int 0, .ref q131, .null, .null, .null, .null])) hD hl151 eq167 (fun f168 H locs hP hD hS g170 k169 => ?_))
  have hT := hT.raw hz166 k169
  have hH := hH.wo k169
  refine lv_aload_n hx hb dX1_init_46 rfl (lv_at hl 0 rfl) ?_
  refine lv_bipush (v := 6) hx hb dX1_init_47 (by decide) ?_
  refine va_newa (atype := .int) hx hb (hts (.arrayClass .int) wa_39) (ty := .int) rfl hK hP hD hS hA (a0 := (6, .inl (fun _ => 0))) (fun cA => pz_na_int cA 6) (by decide +kernel : ¬ (6 : Int32) < 0) (by decide +kernel : (6 : Int32).toNatClampNeg = 6) (by decide +kernel) (Nat.le_of_ble_eq_true rfl) (Nat.le_of_ble_eq_true rfl) dX1_init_49 (fun q171 k172 H hK hP hD hS => ?_)
  obtain ⟨e9, hK9⟩ := tp_kid 0 rfl hK; subst e9; have hK := hK9
  refine Exists.elim (tp_grow hG hT hP hD) (fun L182 hE90 => Exists.elim hE90 (fun f181 hE91 => tn_10 hE91 (fun hP hD hg173 ht174 hs175 hq176 hz177 hn178 hf179 ho180 => ?_)))
  clear hE91 hE90
  have hn183 : ∀ a, a ∈ L → a ≠ q171 := fun a ha => hn178 a (hH.1 a ha)
  have ne184 : h0 ≠ q171 := hn178 _ hl151
  have ne185 : h1 ≠ q171 := hn178 _ (tp_in hG ht157 (by decide))
  have ne186 : q1 ≠ q171 := hn178 _ (tp_in hG ht158 (by decide))
  have ne187 : q29 ≠ q171 := hn178 _ (tp_in hG ht160 (by decide))
  have ne188 : q60 ≠ q171 := hn178 _ (tp_in hG ht162 (by decide))
  have ne189 : q94 ≠ q171 := hn178 _ (tp_in hG ht164 (by decide))
  have ne190 : q131 ≠ q171 := hn178 _ (tp_in hG ht154 (by decide))
  have hG := hg173
  have hT := ht174
  have hH := hH.gr hs175 hn178 ho180
  have hf191 : f181 h0 = .inr (1, [.null, .ref q1, .ref q29, .ref q60, .ref q94, .int 0, .int 0, .int 0, .long 0, .int 0, .ref q131, .null, .null, .null, .null]) := (ho180 _ ne184).trans g170
  have hl192 : h0 ∈ L182 := hs175 _ hl151
  clear g170 hl151
  obtain ⟨τ_193, ν_193, ρ_193, hG, hT, hb194, ht195, hn196, hr197⟩ := tp_type hG hT hq176 hz177 20 (6) (fun _ => 0) (by decide) (fun τ9 ν9 ρ9 hE h2 h3 => ⟨trivial, by rw [hf179]; exact tp_o20 h2⟩)
  have hH := hH.ty (fun a ha _ => hn183 a ha) hb194
  have ht198 : τ_193 h1 = 11 := (hb194 _ ne185).1.trans ht157
  have ht199 : τ_193 q1 = 21 := (hb194 _ ne186).1.trans ht158
  have hn200 : ν_193 q1 = 192 := (hb194 _ ne186).2.1.trans hn159
  have ht201 : τ_193 q29 = 20 := (hb194 _ ne187).1.trans ht160
  have hn202 : ν_193 q29 = 192 := (hb194 _ ne187).2.1.trans hn161
  have ht203 : τ_193 q60 = 21 := (hb194 _ ne188).1.trans ht162
  have hn204 : ν_193 q60 = 64 := (hb194 _ ne188).2.1.trans hn163
  have ht205 : τ_193 q94 = 20 := (hb194 _ ne189).1.trans ht164
  have hn206 : ν_193 q94 = 64 := (hb194 _ ne189).2.1.trans hn165
  have ht207 : τ_193 q131 = 20 := (hb194 _ ne190).1.trans ht154
  have hn208 : ν_193 q131 = 6 := (hb194 _ ne190).2.1.trans hn155
  have hz209 : τ_193 h0 = 0 := (hb194 _ ne184).1.trans hz166
  clear ht157 ht158 hn159 ht160 hn161 ht162 hn163 ht164 hn165 ht154 hn155 hz166 hb194 ne184 ne185 ne186 ne187 ne188 ne189 ne190
  refine tpk_pos hl192 hf191 (fun q210 eq210 => ?_)
  refine va_putF (D := (dC, dI)) (ci := 1) (v := .ref q171) (ty := (.array .int)) (C := RX1) (T := TX1) (N := 15) hx hb hts hfX1 tyX1 tyX1_ok nmX1 hown hK hP hD hS q210 eq210 rfl 11 (by decide) (hts (.fieldLink RX1 28 "ColdShips$Planner" "placeOf" "[I") wa_139) (fun _ h9 => h9) rfl hin rfl (tyX1_ok 11 (by decide)) rfl rfl (Nat.le_of_ble_eq_true rfl) dX1_init_51 (tp_k (.inr (1, [.null, .ref q1, .ref q29, .ref q60, .ref q94, .int 0, .int 0, .int 0, .long 0, .int 0, .ref q131, .ref q171, .null, .null, .null])) hD hl192 eq210 (fun f211 H locs hP hD hS g213 k212 => ?_))
  have hT := hT.raw hz209 k212
  have hH := hH.wo k212
  refine lv_aload_n hx hb dX1_init_54 rfl (lv_at hl 0 rfl) ?_
  refine lv_bipush (v := 6) hx hb dX1_init_55 (by decide) ?_
  refine va_newa (atype := .int) hx hb (hts (.arrayClass .int) wa_39) (ty := .int) rfl hK hP hD hS hA (a0 := (6, .inl (fun _ => 0))) (fun cA => pz_na_int cA 6) (by decide +kernel : ¬ (6 : Int32) < 0) (by decide +kernel : (6 : Int32).toNatClampNeg = 6) (by decide +kernel) (Nat.le_of_ble_eq_true rfl) (Nat.le_of_ble_eq_true rfl) dX1_init_57 (fun q214 k215 H hK hP hD hS => ?_)
  obtain ⟨e9, hK9⟩ := tp_kid 0 rfl hK; subst e9; have hK := hK9
  refine Exists.elim (tp_grow hG hT hP hD) (fun L225 hE90 => Exists.elim hE90 (fun f224 hE91 => tn_10 hE91 (fun hP hD hg216 ht217 hs218 hq219 hz220 hn221 hf222 ho223 => ?_)))
  clear hE91 hE90
  have hn226 : ∀ a, a ∈ L → a ≠ q214 := fun a ha => hn221 a (hH.1 a ha)
  have ne227 : h0 ≠ q214 := hn221 _ hl192
  have ne228 : h1 ≠ q214 := hn221 _ (tp_in hG ht198 (by decide))
  have ne229 : q1 ≠ q214 := hn221 _ (tp_in hG ht199 (by decide))
  have ne230 : q29 ≠ q214 := hn221 _ (tp_in hG ht201 (by decide))
  have ne231 : q60 ≠ q214 := hn221 _ (tp_in hG ht203 (by decide))
  have ne232 : q94 ≠ q214 := hn221 _ (tp_in hG ht205 (by decide))
  have ne233 : q131 ≠ q214 := hn221 _ (tp_in hG ht207 (by decide))
  have ne234 : q171 ≠ q214 := hn221 _ (tp_in hG ht195 (by decide))
  have hG := hg216
  have hT := ht217
  have hH := hH.gr hs218 hn221 ho223
  have hf235 : f224 h0 = .inr (1, [.null, .ref q1, .ref q29, .ref q60, .ref q94, .int 0, .int 0, .int 0, .long 0, .int 0, .ref q131, .ref q171, .null, .null, .null]) := (ho223 _ ne227).trans g213
  have hl236 : h0 ∈ L225 := hs218 _ hl192
  clear g213 hl192
  obtain ⟨τ_237, ν_237, ρ_237, hG, hT, hb238, ht239, hn240, hr241⟩ := tp_type hG hT hq219 hz220 20 (6) (fun _ => 0) (by decide) (fun τ9 ν9 ρ9 hE h2 h3 => ⟨trivial, by rw [hf222]; exact tp_o20 h2⟩)
  have hH := hH.ty (fun a ha _ => hn226 a ha) hb238
  have ht242 : τ_237 h1 = 11 := (hb238 _ ne228).1.trans ht198
  have ht243 : τ_237 q1 = 21 := (hb238 _ ne229).1.trans ht199
  have hn244 : ν_237 q1 = 192 := (hb238 _ ne229).2.1.trans hn200
  have ht245 : τ_237 q29 = 20 := (hb238 _ ne230).1.trans ht201
  have hn246 : ν_237 q29 = 192 := (hb238 _ ne230).2.1.trans hn202
  have ht247 : τ_237 q60 = 21 := (hb238 _ ne231).1.trans ht203
  have hn248 : ν_237 q60 = 64 := (hb238 _ ne231).2.1.trans hn204
  have ht249 : τ_237 q94 = 20 := (hb238 _ ne232).1.trans ht205
  have hn250 : ν_237 q94 = 64 := (hb238 _ ne232).2.1.trans hn206
  have ht251 : τ_237 q131 = 20 := (hb238 _ ne233).1.trans ht207
  have hn252 : ν_237 q131 = 6 := (hb238 _ ne233).2.1.trans hn208
  have ht253 : τ_237 q171 = 20 := (hb238 _ ne234).1.trans ht195
  have hn254 : ν_237 q171 = 6 := (hb238 _ ne234).2.1.trans hn196
  have hz255 : τ_237 h0 = 0 := (hb238 _ ne227).1.trans hz209
  clear ht198 ht199 hn200 ht201 hn202 ht203 hn204 ht205 hn206 ht207 hn208 ht195 hn196 hz209 hb238 ne227 ne228 ne229 ne230 ne231 ne232 ne233 ne234
  refine tpk_pos hl236 hf235 (fun q256 eq256 => ?_)
  refine va_putF (D := (dC, dI)) (ci := 1) (v := .ref q214) (ty := (.array .int)) (C := RX1) (T := TX1) (N := 15) hx hb hts hfX1 tyX1 tyX1_ok nmX1 hown hK hP hD hS q256 eq256 rfl 12 (by decide) (hts (.fieldLink RX1 31 "ColdShips$Planner" "loadOf" "[I") wa_140) (fun _ h9 => h9) rfl hin rfl (tyX1_ok 12 (by decide)) rfl rfl (Nat.le_of_ble_eq_true rfl) dX1_init_59 (tp_k (.inr (1, [.null, .ref q1, .ref q29, .ref q60, .ref q94, .int 0, .int 0, .int 0, .long 0, .int 0, .ref q131, .ref q171, .ref q214, .null, .null])) hD hl236 eq256 (fun f257 H locs hP hD hS g259 k258 => ?_))
  have hT := hT.raw hz255 k258
  have hH := hH.wo k258
  refine lv_aload_n hx hb dX1_init_62 rfl (lv_at hl 0 rfl) ?_
  refine lv_bipush (v := 6) hx hb dX1_init_63 (by decide) ?_
  refine va_newa (atype := .int) hx hb (hts (.arrayClass .int) wa_39) (ty := .int) rfl hK hP hD hS hA (a0 := (6, .inl (fun _ => 0))) (fun cA => pz_na_int cA 6) (by decide +kernel : ¬ (6 : Int32) < 0) (by decide +kernel : (6 : Int32).toNatClampNeg = 6) (by decide +kernel) (Nat.le_of_ble_eq_true rfl) (Nat.le_of_ble_eq_true rfl) dX1_init_65 (fun q260 k261 H hK hP hD hS => ?_)
  obtain ⟨e9, hK9⟩ := tp_kid 0 rfl hK; subst e9; have hK := hK9
  refine Exists.elim (tp_grow hG hT hP hD) (fun L271 hE90 => Exists.elim hE90 (fun f270 hE91 => tn_10 hE91 (fun hP hD hg262 ht263 hs264 hq265 hz266 hn267 hf268 ho269 => ?_)))
  clear hE91 hE90
  have hn272 : ∀ a, a ∈ L → a ≠ q260 := fun a ha => hn267 a (hH.1 a ha)
  have ne273 : h0 ≠ q260 := hn267 _ hl236
  have ne274 : h1 ≠ q260 := hn267 _ (tp_in hG ht242 (by decide))
  have ne275 : q1 ≠ q260 := hn267 _ (tp_in hG ht243 (by decide))
  have ne276 : q29 ≠ q260 := hn267 _ (tp_in hG ht245 (by decide))
  have ne277 : q60 ≠ q260 := hn267 _ (tp_in hG ht247 (by decide))
  have ne278 : q94 ≠ q260 := hn267 _ (tp_in hG ht249 (by decide))
  have ne279 : q131 ≠ q260 := hn267 _ (tp_in hG ht251 (by decide))
  have ne280 : q171 ≠ q260 := hn267 _ (tp_in hG ht253 (by decide))
  have ne281 : q214 ≠ q260 := hn267 _ (tp_in hG ht239 (by decide))
  have hG := hg262
  have hT := ht263
  have hH := hH.gr hs264 hn267 ho269
  have hf282 : f270 h0 = .inr (1, [.null, .ref q1, .ref q29, .ref q60, .ref q94, .int 0, .int 0, .int 0, .long 0, .int 0, .ref q131, .ref q171, .ref q214, .null, .null]) := (ho269 _ ne273).trans g259
  have hl283 : h0 ∈ L271 := hs264 _ hl236
  clear g259 hl236
  obtain ⟨τ_284, ν_284, ρ_284, hG, hT, hb285, ht286, hn287, hr288⟩ := tp_type hG hT hq265 hz266 20 (6) (fun _ => 0) (by decide) (fun τ9 ν9 ρ9 hE h2 h3 => ⟨trivial, by rw [hf268]; exact tp_o20 h2⟩)
  have hH := hH.ty (fun a ha _ => hn272 a ha) hb285
  have ht289 : τ_284 h1 = 11 := (hb285 _ ne274).1.trans ht242
  have ht290 : τ_284 q1 = 21 := (hb285 _ ne275).1.trans ht243
  have hn291 : ν_284 q1 = 192 := (hb285 _ ne275).2.1.trans hn244
  have ht292 : τ_284 q29 = 20 := (hb285 _ ne276).1.trans ht245
  have hn293 : ν_284 q29 = 192 := (hb285 _ ne276).2.1.trans hn246
  have ht294 : τ_284 q60 = 21 := (hb285 _ ne277).1.trans ht247
  have hn295 : ν_284 q60 = 64 := (hb285 _ ne277).2.1.trans hn248
  have ht296 : τ_284 q94 = 20 := (hb285 _ ne278).1.trans ht249
  have hn297 : ν_284 q94 = 64 := (hb285 _ ne278).2.1.trans hn250
  have ht298 : τ_284 q131 = 20 := (hb285 _ ne279).1.trans ht251
  have hn299 : ν_284 q131 = 6 := (hb285 _ ne279).2.1.trans hn252
  have ht300 : τ_284 q171 = 20 := (hb285 _ ne280).1.trans ht253
  have hn301 : ν_284 q171 = 6 := (hb285 _ ne280).2.1.trans hn254
  have ht302 : τ_284 q214 = 20 := (hb285 _ ne281).1.trans ht239
  have hn303 : ν_284 q214 = 6 := (hb285 _ ne281).2.1.trans hn240
  have hz304 : τ_284 h0 = 0 := (hb285 _ ne273).1.trans hz255
  clear ht242 ht243 hn244 ht245 hn246 ht247 hn248 ht249 hn250 ht251 hn252 ht253 hn254 ht239 hn240 hz255 hb285 ne273 ne274 ne275 ne276 ne277 ne278 ne279 ne280 ne281
  refine tpk_pos hl283 hf282 (fun q305 eq305 => ?_)
  refine va_putF (D := (dC, dI)) (ci := 1) (v := .ref q260) (ty := (.array .int)) (C := RX1) (T := TX1) (N := 15) hx hb hts hfX1 tyX1 tyX1_ok nmX1 hown hK hP hD hS q305 eq305 rfl 13 (by decide) (hts (.fieldLink RX1 34 "ColdShips$Planner" "landOf" "[I") wa_141) (fun _ h9 => h9) rfl hin rfl (tyX1_ok 13 (by decide)) rfl rfl (Nat.le_of_ble_eq_true rfl) dX1_init_67 (tp_k (.inr (1, [.null, .ref q1, .ref q29, .ref q60, .ref q94, .int 0, .int 0, .int 0, .long 0, .int 0, .ref q131, .ref q171, .ref q214, .ref q260, .null])) hD hl283 eq305 (fun f306 H locs hP hD hS g308 k307 => ?_))
  have hT := hT.raw hz304 k307
  have hH := hH.wo k307
  refine lv_aload_n hx hb dX1_init_70 rfl (lv_at hl 0 rfl) ?_
  refine lv_bipush (v := 6) hx hb dX1_init_71 (by decide) ?_
  refine va_newa (atype := .long) hx hb (hts (.arrayClass .long) wa_82) (ty := .long) rfl hK hP hD hS hA (a0 := (6, .inr (.inl (fun _ => 0)))) (fun cA => pz_na_long cA 6) (by decide +kernel : ¬ (6 : Int32) < 0) (by decide +kernel : (6 : Int32).toNatClampNeg = 6) (by decide +kernel) (Nat.le_of_ble_eq_true rfl) (Nat.le_of_ble_eq_true rfl) dX1_init_73 (fun q309 k310 H hK hP hD hS => ?_)
  obtain ⟨e9, hK9⟩ := tp_kid 1 rfl hK; subst e9; have hK := hK9
  refine Exists.elim (tp_grow hG hT hP hD) (fun L320 hE90 => Exists.elim hE90 (fun f319 hE91 => tn_10 hE91 (fun hP hD hg311 ht312 hs313 hq314 hz315 hn316 hf317 ho318 => ?_)))
  clear hE91 hE90
  have hn321 : ∀ a, a ∈ L → a ≠ q309 := fun a ha => hn316 a (hH.1 a ha)
  have ne322 : h0 ≠ q309 := hn316 _ hl283
  have ne323 : h1 ≠ q309 := hn316 _ (tp_in hG ht289 (by decide))
  have ne324 : q1 ≠ q309 := hn316 _ (tp_in hG ht290 (by decide))
  have ne325 : q29 ≠ q309 := hn316 _ (tp_in hG ht292 (by decide))
  have ne326 : q60 ≠ q309 := hn316 _ (tp_in hG ht294 (by decide))
  have ne327 : q94 ≠ q309 := hn316 _ (tp_in hG ht296 (by decide))
  have ne328 : q131 ≠ q309 := hn316 _ (tp_in hG ht298 (by decide))
  have ne329 : q171 ≠ q309 := hn316 _ (tp_in hG ht300 (by decide))
  have ne330 : q214 ≠ q309 := hn316 _ (tp_in hG ht302 (by decide))
  have ne331 : q260 ≠ q309 := hn316 _ (tp_in hG ht286 (by decide))
  have hG := hg311
  have hT := ht312
  have hH := hH.gr hs313 hn316 ho318
  have hf332 : f319 h0 = .inr (1, [.null, .ref q1, .ref q29, .ref q60, .ref q94, .int 0, .int 0, .int 0, .long 0, .int 0, .ref q131, .ref q171, .ref q214, .ref q260, .null]) := (ho318 _ ne322).trans g308
  have hl333 : h0 ∈ L320 := hs313 _ hl283
  clear g308 hl283
  obtain ⟨τ_334, ν_334, ρ_334, hG, hT, hb335, ht336, hn337, hr338⟩ := tp_type hG hT hq314 hz315 21 (6) (fun _ => 0) (by decide) (fun τ9 ν9 ρ9 hE h2 h3 => ⟨trivial, by rw [hf317]; exact tp_o21 h2⟩)
  have hH := hH.ty (fun a ha _ => hn321 a ha) hb335
  have ht339 : τ_334 h1 = 11 := (hb335 _ ne323).1.trans ht289
  have ht340 : τ_334 q1 = 21 := (hb335 _ ne324).1.trans ht290
  have hn341 : ν_334 q1 = 192 := (hb335 _ ne324).2.1.trans hn291
  have ht342 : τ_334 q29 = 20 := (hb335 _ ne325).1.trans ht292
  have hn343 : ν_334 q29 = 192 := (hb335 _ ne325).2.1.trans hn293
  have ht344 : τ_334 q60 = 21 := (hb335 _ ne326).1.trans ht294
  have hn345 : ν_334 q60 = 64 := (hb335 _ ne326).2.1.trans hn295
  have ht346 : τ_334 q94 = 20 := (hb335 _ ne327).1.trans ht296
  have hn347 : ν_334 q94 = 64 := (hb335 _ ne327).2.1.trans hn297
  have ht348 : τ_334 q131 = 20 := (hb335 _ ne328).1.trans ht298
  have hn349 : ν_334 q131 = 6 := (hb335 _ ne328).2.1.trans hn299
  have ht350 : τ_334 q171 = 20 := (hb335 _ ne329).1.trans ht300
  have hn351 : ν_334 q171 = 6 := (hb335 _ ne329).2.1.trans hn301
  have ht352 : τ_334 q214 = 20 := (hb335 _ ne330).1.trans ht302
  have hn353 : ν_334 q214 = 6 := (hb335 _ ne330).2.1.trans hn303
  have ht354 : τ_334 q260 = 20 := (hb335 _ ne331).1.trans ht286
  have hn355 : ν_334 q260 = 6 := (hb335 _ ne331).2.1.trans hn287
  have hz356 : τ_334 h0 = 0 := (hb335 _ ne322).1.trans hz304
  clear ht289 ht290 hn291 ht292 hn293 ht294 hn295 ht296 hn297 ht298 hn299 ht300 hn301 ht302 hn303 ht286 hn287 hz304 hb335 ne322 ne323 ne324 ne325 ne326 ne327 ne328 ne329 ne330 ne331
  refine tpk_pos hl333 hf332 (fun q357 eq357 => ?_)
  refine va_putF (D := (dC, dI)) (ci := 1) (v := .ref q309) (ty := (.array .long)) (C := RX1) (T := TX1) (N := 15) hx hb hts hfX1 tyX1 tyX1_ok nmX1 hown hK hP hD hS q357 eq357 rfl 14 (by decide) (hts (.fieldLink RX1 37 "ColdShips$Planner" "worthOf" "[J") wa_142) (fun _ h9 => h9) rfl hin rfl (tyX1_ok 14 (by decide)) rfl rfl (Nat.le_of_ble_eq_true rfl) dX1_init_75 (tp_k (.inr (1, [.null, .ref q1, .ref q29, .ref q60, .ref q94, .int 0, .int 0, .int 0, .long 0, .int 0, .ref q131, .ref q171, .ref q214, .ref q260, .ref q309])) hD hl333 eq357 (fun f358 H locs hP hD hS g360 k359 => ?_))
  have hT := hT.raw hz356 k359
  have hH := hH.wo k359
  refine lv_aload_n hx hb dX1_init_78 rfl (lv_at hl 0 rfl) ?_
  refine lv_aload_n hx hb dX1_init_79 rfl (lv_at hl 1 rfl) ?_
  refine tpk_pos hl333 g360 (fun q361 eq361 => ?_)
  refine va_putF (D := (dC, dI)) (ci := 1) (v := .ref h1) (ty := (.object "ColdShips$World")) (C := RX1) (T := TX1) (N := 15) hx hb hts hfX1 tyX1 tyX1_ok nmX1 hown hK hP hD hS q361 eq361 rfl 0 (by decide) (hts (.fieldLink RX1 40 "ColdShips$Planner" "world" "LColdShips$World;") wa_143) (fun _ h9 => h9) rfl hin rfl (tyX1_ok 0 (by decide)) rfl rfl (Nat.le_of_ble_eq_true rfl) dX1_init_80 (tp_k (.inr (1, [.ref h1, .ref q1, .ref q29, .ref q60, .ref q94, .int 0, .int 0, .int 0, .long 0, .int 0, .ref q131, .ref q171, .ref q214, .ref q260, .ref q309])) hD hl333 eq361 (fun f362 H locs hP hD hS g364 k363 => ?_))
  have hT := hT.raw hz356 k363
  have hH := hH.wo k363
  obtain ⟨τ_365, ν_365, ρ_365, hG, hT, hb366, ht367, hn368, hr369⟩ := tp_type hG hT hl333 hz356 2 (0) (fun k => [h1, q1, q29, q60, q94, 0, 0, 0, 0, 0, q131, q171, q214, q260, q309].getD k 0) (by decide) (fun τ9 ν9 ρ9 hE h2 h3 => ⟨(by show (τ9 (ρ9 h0 0) = 11) ∧ (τ9 (ρ9 h0 1) = 21 ∧ ν9 (ρ9 h0 1) = 192) ∧ (τ9 (ρ9 h0 2) = 20 ∧ ν9 (ρ9 h0 2) = 192) ∧ (τ9 (ρ9 h0 3) = 21 ∧ ν9 (ρ9 h0 3) = 64) ∧ (τ9 (ρ9 h0 4) = 20 ∧ ν9 (ρ9 h0 4) = 64) ∧ (τ9 (ρ9 h0 10) = 20 ∧ ν9 (ρ9 h0 10) = 6) ∧ (τ9 (ρ9 h0 11) = 20 ∧ ν9 (ρ9 h0 11) = 6) ∧ (τ9 (ρ9 h0 12) = 20 ∧ ν9 (ρ9 h0 12) = 6) ∧ (τ9 (ρ9 h0 13) = 20 ∧ ν9 (ρ9 h0 13) = 6) ∧ (τ9 (ρ9 h0 14) = 21 ∧ ν9 (ρ9 h0 14) = 6); rw [h3]; exact ⟨(hE h1 (by rw [ht339]; decide)).1.trans ht339, ⟨(hE q1 (by rw [ht340]; decide)).1.trans ht340, (hE q1 (by rw [ht340]; decide)).2.1.trans hn341⟩, ⟨(hE q29 (by rw [ht342]; decide)).1.trans ht342, (hE q29 (by rw [ht342]; decide)).2.1.trans hn343⟩, ⟨(hE q60 (by rw [ht344]; decide)).1.trans ht344, (hE q60 (by rw [ht344]; decide)).2.1.trans hn345⟩, ⟨(hE q94 (by rw [ht346]; decide)).1.trans ht346, (hE q94 (by rw [ht346]; decide)).2.1.trans hn347⟩, ⟨(hE q131 (by rw [ht348]; decide)).1.trans ht348, (hE q131 (by rw [ht348]; decide)).2.1.trans hn349⟩, ⟨(hE q171 (by rw [ht350]; decide)).1.trans ht350, (hE q171 (by rw [ht350]; decide)).2.1.trans hn351⟩, ⟨(hE q214 (by rw [ht352]; decide)).1.trans ht352, (hE q214 (by rw [ht352]; decide)).2.1.trans hn353⟩, ⟨(hE q260 (by rw [ht354]; decide)).1.trans ht354, (hE q260 (by rw [ht354]; decide)).2.1.trans hn355⟩, ⟨(hE q309 (by rw [ht336]; decide)).1.trans ht336, (hE q309 (by rw [ht336]; decide)).2.1.trans hn337⟩⟩), by rw [g364]; exact ⟨_, _, _, _, _, (by rw [h3]; rfl), (by first | decide | (rw [h3]; decide) | (have : (0 : Int32).toInt = 0 := rfl; have : (0 : Int32).toInt = 0 := rfl; have : (0 : Int32).toInt = 0 := rfl; have : (0 : Int32).toInt = 0 := rfl; omega) | (rw [h3]; have : (0 : Int32).toInt = 0 := rfl; have : (0 : Int32).toInt = 0 := rfl; have : (0 : Int32).toInt = 0 := rfl; have : (0 : Int32).toInt = 0 := rfl; omega))⟩⟩)
  have hH := hH.ty (fun a _ ho z => ho (by rw [z])) hb366
  have ht370 : τ_365 h1 = 11 := (hb366 _ (Ne.symm (tp_ne0 hz356 ht339 (by decide)))).1.trans ht339
  have ht371 : τ_365 q1 = 21 := (hb366 _ (Ne.symm (tp_ne0 hz356 ht340 (by decide)))).1.trans ht340
  have hn372 : ν_365 q1 = 192 := (hb366 _ (Ne.symm (tp_ne0 hz356 ht340 (by decide)))).2.1.trans hn341
  have ht373 : τ_365 q29 = 20 := (hb366 _ (Ne.symm (tp_ne0 hz356 ht342 (by decide)))).1.trans ht342
  have hn374 : ν_365 q29 = 192 := (hb366 _ (Ne.symm (tp_ne0 hz356 ht342 (by decide)))).2.1.trans hn343
  have ht375 : τ_365 q60 = 21 := (hb366 _ (Ne.symm (tp_ne0 hz356 ht344 (by decide)))).1.trans ht344
  have hn376 : ν_365 q60 = 64 := (hb366 _ (Ne.symm (tp_ne0 hz356 ht344 (by decide)))).2.1.trans hn345
  have ht377 : τ_365 q94 = 20 := (hb366 _ (Ne.symm (tp_ne0 hz356 ht346 (by decide)))).1.trans ht346
  have hn378 : ν_365 q94 = 64 := (hb366 _ (Ne.symm (tp_ne0 hz356 ht346 (by decide)))).2.1.trans hn347
  have ht379 : τ_365 q131 = 20 := (hb366 _ (Ne.symm (tp_ne0 hz356 ht348 (by decide)))).1.trans ht348
  have hn380 : ν_365 q131 = 6 := (hb366 _ (Ne.symm (tp_ne0 hz356 ht348 (by decide)))).2.1.trans hn349
  have ht381 : τ_365 q171 = 20 := (hb366 _ (Ne.symm (tp_ne0 hz356 ht350 (by decide)))).1.trans ht350
  have hn382 : ν_365 q171 = 6 := (hb366 _ (Ne.symm (tp_ne0 hz356 ht350 (by decide)))).2.1.trans hn351
  have ht383 : τ_365 q214 = 20 := (hb366 _ (Ne.symm (tp_ne0 hz356 ht352 (by decide)))).1.trans ht352
  have hn384 : ν_365 q214 = 6 := (hb366 _ (Ne.symm (tp_ne0 hz356 ht352 (by decide)))).2.1.trans hn353
  have ht385 : τ_365 q260 = 20 := (hb366 _ (Ne.symm (tp_ne0 hz356 ht354 (by decide)))).1.trans ht354
  have hn386 : ν_365 q260 = 6 := (hb366 _ (Ne.symm (tp_ne0 hz356 ht354 (by decide)))).2.1.trans hn355
  have ht387 : τ_365 q309 = 21 := (hb366 _ (Ne.symm (tp_ne0 hz356 ht336 (by decide)))).1.trans ht336
  have hn388 : ν_365 q309 = 6 := (hb366 _ (Ne.symm (tp_ne0 hz356 ht336 (by decide)))).2.1.trans hn337
  clear ht339 ht340 hn341 ht342 hn343 ht344 hn345 ht346 hn347 ht348 hn349 ht350 hn351 ht352 hn353 ht354 hn355 ht336 hn337 hb366
  refine tp_widen 9 542 (Nat.le_of_ble_eq_true rfl) (Nat.le_of_ble_eq_true rfl) ?_
  exact W.vret hx hb hr (fun t ht hW => ⟨⟨(τ_365, ν_365, ρ_365, L320, f362), rfl, ⟨⟨hG, hT, hH⟩, ht367⟩, by rw [ht]; exact hP, va_K.moved hW.alike hK, hD⟩, hS.F ht⟩) hS.2.2 dX1_init_83
set_option maxHeartbeats 4000000 in
set_option maxRecDepth 100000 in
theorem t_X2_init (l : Launch) (dC : Nat → ClassId) (dI : Nat → Nat → Nat) (sz : Nat) (Ω : Nat → (Nat → Nat) → va_E → Prop) (κ : Nat → ClassId) (τ ν : Nat → Nat) (ρ : Nat → Nat → Nat) (L : List Nat) (f : Nat → va_E) (hG : tp_G τ ν ρ L) (hT : tp_T Ω κ τ ν ρ f) (h0 : Nat) (hl_h0 : h0 ∈ L) (hz_h0 : τ h0 = 0) (hf_h0 : f h0 = .inr (2, [.null, .int 0, .int 0, .int 0, .int 0, .int 0, .int 0, .null, .int 0, .null, .int 0, .int 0, .int 0, .int 0, .int 0, .int 0])) : Met l yX2_init wqX2_init ({ frames := 2, cells := 3, slots := 813, locals := 400 }) (va_Pc [.ref h0] (pz_B dC dI (tp_K κ) (va_pl L f) sz)) (va_Qv (fun (x : tp_S) => tp_PX Ω κ τ ν ρ L f [] (some h0) x ∧ x.1 h0 = 3) (fun (x : tp_S) (t : State) => pz_E dC dI (tp_K κ) (va_A (va_pl L f) sz) (va_pl x.2.2.2.1 x.2.2.2.2) t) (va_A (va_pl L f) sz)) 3 813 (va_A (va_pl L f) sz) := by
  refine Met.ofW (cc := cX2_init) (maxL := 1) (ret := none) (by decide) rfl ?_
  intro p e s m args below meth c s₁ B hml hv
  obtain ⟨rfl, hsz, hP, hK, hD0, hN⟩ := hv
  have hx := B.exec
  have hb := B.bytes
  have hr := B.returns
  have hts := fun (w : Cond) (h : w ∈ WALL) => atoms_spec (ws := wqX2_init) B.pre w (List.mem_cons_of_mem _ h)
  have hown : s.vm.findClass RX2 = some m.cls := findClass_of_methodNamed B.named
  have hlocks := B.notSynchronized
  have hin : meth.name = "<init>" := (name_of_methodNamed B.named B.method).1
  subst hsz
  have hD := hD0.self (sz := s.heap.size)
  generalize hAe : va_A (va_pl L f) s.heap.size = A at hD ⊢
  have hA : ∀ q : Nat, s.heap.size ≤ q → A q := fun q h => by rw [← hAe]; exact Or.inr h
  have hS : va_S A s.heap s.heap [] := va_S.rf
  have hH : tp_H τ ν ρ L f [] (some h0) τ ν ρ L f := tp_H.rf
  have hl := lv_entry ([.ref h0]) (n := 1) (Nat.le_of_ble_eq_true rfl)
  rw [lg_entry_eq]
  generalize (lg_sl ([.ref h0]) ++ List.replicate (1 - (lg_sl ([.ref h0])).length) Slot.unset).toArray = ls at hl ⊢
  have hl : lv_has ls 1 [(0, .ref h0)] := hl
  refine lv_aload_n hx hb dX2_init_0 rfl (lv_at hl 0 rfl) ?_
  refine W.objInit hx hb hown (hts (.methodLink RX2 3 objectInit) wa_117) (hts (.instanceMethod objectInit) wa_10) (hts (.code objectInit ⟨#[0xb1]⟩ 1 none) wa_11) rfl (by rw [hml]; exact hl.1) rfl dX2_init_1 (Nat.le_of_ble_eq_true rfl) (Nat.le_of_ble_eq_true rfl) ?_
  refine W.eq (g2 := F0 m 4 ls []) rfl ?_
  refine lv_aload_n hx hb dX2_init_4 rfl (lv_at hl 0 rfl) ?_
  refine lv_sipush (v := 400) hx hb dX2_init_5 (by decide) ?_
  refine va_newa (atype := .char) hx hb (hts (.arrayClass .char) wa_118) (ty := .char) rfl hK hP hD hS hA (a0 := (400, .inl (fun _ => 0))) (fun cA => pz_na_char cA 400) (by decide +kernel : ¬ (400 : Int32) < 0) (by decide +kernel : (400 : Int32).toNatClampNeg = 400) (by decide +kernel) (Nat.le_of_ble_eq_true rfl) (Nat.le_of_ble_eq_true rfl) dX2_init_8 (fun q1 k2 H hK hP hD hS => ?_)
  obtain ⟨e9, hK9⟩ := tp_kid 2 rfl hK; subst e9; have hK := hK9
  refine Exists.elim (tp_grow hG hT hP hD) (fun L12 hE90 => Exists.elim hE90 (fun f11 hE91 => tn_10 hE91 (fun hP hD hg3 ht4 hs5 hq6 hz7 hn8 hf9 ho10 => ?_)))
  clear hE91 hE90
  have hn13 : ∀ a, a ∈ L → a ≠ q1 := fun a ha => hn8 a (hH.1 a ha)
  have ne14 : h0 ≠ q1 := hn8 _ hl_h0
  have hG := hg3
  have hT := ht4
  have hH := hH.gr hs5 hn8 ho10
  have hf15 : f11 h0 = .inr (2, [.null, .int 0, .int 0, .int 0, .int 0, .int 0, .int 0, .null, .int 0, .null, .int 0, .int 0, .int 0, .int 0, .int 0, .int 0]) := (ho10 _ ne14).trans hf_h0
  have hl16 : h0 ∈ L12 := hs5 _ hl_h0
  clear hf_h0 hl_h0
  obtain ⟨τ_17, ν_17, ρ_17, hG, hT, hb18, ht19, hn20, hr21⟩ := tp_type hG hT hq6 hz7 22 (400) (fun _ => 0) (by decide) (fun τ9 ν9 ρ9 hE h2 h3 => ⟨trivial, by rw [hf9]; exact tp_o22 h2⟩)
  have hH := hH.ty (fun a ha _ => hn13 a ha) hb18
  have hz22 : τ_17 h0 = 0 := (hb18 _ ne14).1.trans hz_h0
  clear hz_h0 hb18 ne14
  refine tpk_pos hl16 hf15 (fun q23 eq23 => ?_)
  refine va_putF (D := (dC, dI)) (ci := 2) (v := .ref q1) (ty := (.array .char)) (C := RX2) (T := TX2) (N := 16) hx hb hts hfX2 tyX2 tyX2_ok nmX2 hown hK hP hD hS q23 eq23 rfl 0 (by decide) (hts (.fieldLink RX2 11 "ColdShips$Reader" "tape" "[C") wa_119) (fun _ h9 => h9) rfl hin rfl (tyX2_ok 0 (by decide)) rfl rfl (Nat.le_of_ble_eq_true rfl) dX2_init_10 (tp_k (.inr (2, [.ref q1, .int 0, .int 0, .int 0, .int 0, .int 0, .int 0, .null, .int 0, .null, .int 0, .int 0, .int 0, .int 0, .int 0, .int 0])) hD hl16 eq23 (fun f24 H locs hP hD hS g26 k25 => ?_))
  have hT := hT.raw hz22 k25
  have hH := hH.wo k25
  refine lv_aload_n hx hb dX2_init_13 rfl (lv_at hl 0 rfl) ?_
  refine lv_iconst (v := (-1)) hx hb dX2_init_14 (by decide) ?_
  refine tpk_pos hl16 g26 (fun q27 eq27 => ?_)
  refine va_put (D := (dC, dI)) (ci := 2) (v := .int (-1)) (ty := .int) (C := RX2) (T := TX2) (N := 16) hx hb hts hfX2 tyX2 tyX2_ok nmX2 hown hK hP hD hS q27 eq27 rfl 2 (by decide) (hts (.fieldLink RX2 15 "ColdShips$Reader" "faultAt" "I") wa_120) (fun _ h9 => h9) rfl (tyX2_ok 2 (by decide)) rfl rfl (Nat.le_of_ble_eq_true rfl) dX2_init_15 (tp_k (.inr (2, [.ref q1, .int 0, .int (-1), .int 0, .int 0, .int 0, .int 0, .null, .int 0, .null, .int 0, .int 0, .int 0, .int 0, .int 0, .int 0])) hD hl16 eq27 (fun f28 H locs hP hD hS g30 k29 => ?_))
  have hT := hT.raw hz22 k29
  have hH := hH.wo k29
  refine lv_aload_n hx hb dX2_init_18 rfl (lv_at hl 0 rfl) ?_
  refine lv_sipush (v := 400) hx hb dX2_init_19 (by decide) ?_
  refine va_newa (atype := .int) hx hb (hts (.arrayClass .int) wa_39) (ty := .int) rfl hK hP hD hS hA (a0 := (400, .inl (fun _ => 0))) (fun cA => pz_na_int cA 400) (by decide +kernel : ¬ (400 : Int32) < 0) (by decide +kernel : (400 : Int32).toNatClampNeg = 400) (by decide +kernel) (Nat.le_of_ble_eq_true rfl) (Nat.le_of_ble_eq_true rfl) dX2_init_22 (fun q31 k32 H hK hP hD hS => ?_)
  obtain ⟨e9, hK9⟩ := tp_kid 0 rfl hK; subst e9; have hK := hK9
  refine Exists.elim (tp_grow hG hT hP hD) (fun L42 hE90 => Exists.elim hE90 (fun f41 hE91 => tn_10 hE91 (fun hP hD hg33 ht34 hs35 hq36 hz37 hn38 hf39 ho40 => ?_)))
  clear hE91 hE90
  have hn43 : ∀ a, a ∈ L → a ≠ q31 := fun a ha => hn38 a (hH.1 a ha)
  have ne44 : h0 ≠ q31 := hn38 _ hl16
  have ne45 : q1 ≠ q31 := hn38 _ (tp_in hG ht19 (by decide))
  have hG := hg33
  have hT := ht34
  have hH := hH.gr hs35 hn38 ho40
  have hf46 : f41 h0 = .inr (2, [.ref q1, .int 0, .int (-1), .int 0, .int 0, .int 0, .int 0, .null, .int 0, .null, .int 0, .int 0, .int 0, .int 0, .int 0, .int 0]) := (ho40 _ ne44).trans g30
  have hl47 : h0 ∈ L42 := hs35 _ hl16
  clear g30 hl16
  obtain ⟨τ_48, ν_48, ρ_48, hG, hT, hb49, ht50, hn51, hr52⟩ := tp_type hG hT hq36 hz37 28 (400) (fun _ => 0) (by decide) (fun τ9 ν9 ρ9 hE h2 h3 => ⟨trivial, by rw [hf39]; exact tp_o28 h2 (fun _ => ⟨by decide, by decide⟩)⟩)
  have hH := hH.ty (fun a ha _ => hn43 a ha) hb49
  have ht53 : τ_48 q1 = 22 := (hb49 _ ne45).1.trans ht19
  have hn54 : ν_48 q1 = 400 := (hb49 _ ne45).2.1.trans hn20
  have hz55 : τ_48 h0 = 0 := (hb49 _ ne44).1.trans hz22
  clear ht19 hn20 hz22 hb49 ne44 ne45
  refine tpk_pos hl47 hf46 (fun q56 eq56 => ?_)
  refine va_putF (D := (dC, dI)) (ci := 2) (v := .ref q31) (ty := (.array .int)) (C := RX2) (T := TX2) (N := 16) hx hb hts hfX2 tyX2 tyX2_ok nmX2 hown hK hP hD hS q56 eq56 rfl 7 (by decide) (hts (.fieldLink RX2 19 "ColdShips$Reader" "code" "[I") wa_121) (fun _ h9 => h9) rfl hin rfl (tyX2_ok 7 (by decide)) rfl rfl (Nat.le_of_ble_eq_true rfl) dX2_init_24 (tp_k (.inr (2, [.ref q1, .int 0, .int (-1), .int 0, .int 0, .int 0, .int 0, .ref q31, .int 0, .null, .int 0, .int 0, .int 0, .int 0, .int 0, .int 0])) hD hl47 eq56 (fun f57 H locs hP hD hS g59 k58 => ?_))
  have hT := hT.raw hz55 k58
  have hH := hH.wo k58
  refine lv_aload_n hx hb dX2_init_27 rfl (lv_at hl 0 rfl) ?_
  refine lv_bipush (v := 13) hx hb dX2_init_28 (by decide) ?_
  refine va_newa (atype := .int) hx hb (hts (.arrayClass .int) wa_39) (ty := .int) rfl hK hP hD hS hA (a0 := (13, .inl (fun _ => 0))) (fun cA => pz_na_int cA 13) (by decide +kernel : ¬ (13 : Int32) < 0) (by decide +kernel : (13 : Int32).toNatClampNeg = 13) (by decide +kernel) (Nat.le_of_ble_eq_true rfl) (Nat.le_of_ble_eq_true rfl) dX2_init_30 (fun q60 k61 H hK hP hD hS => ?_)
  obtain ⟨e9, hK9⟩ := tp_kid 0 rfl hK; subst e9; have hK := hK9
  refine Exists.elim (tp_grow hG hT hP hD) (fun L71 hE90 => Exists.elim hE90 (fun f70 hE91 => tn_10 hE91 (fun hP hD hg62 ht63 hs64 hq65 hz66 hn67 hf68 ho69 => ?_)))
  clear hE91 hE90
  have hn72 : ∀ a, a ∈ L → a ≠ q60 := fun a ha => hn67 a (hH.1 a ha)
  have ne73 : h0 ≠ q60 := hn67 _ hl47
  have ne74 : q1 ≠ q60 := hn67 _ (tp_in hG ht53 (by decide))
  have ne75 : q31 ≠ q60 := hn67 _ (tp_in hG ht50 (by decide))
  have hG := hg62
  have hT := ht63
  have hH := hH.gr hs64 hn67 ho69
  have hf76 : f70 h0 = .inr (2, [.ref q1, .int 0, .int (-1), .int 0, .int 0, .int 0, .int 0, .ref q31, .int 0, .null, .int 0, .int 0, .int 0, .int 0, .int 0, .int 0]) := (ho69 _ ne73).trans g59
  have hl77 : h0 ∈ L71 := hs64 _ hl47
  clear g59 hl47
  obtain ⟨τ_78, ν_78, ρ_78, hG, hT, hb79, ht80, hn81, hr82⟩ := tp_type hG hT hq65 hz66 20 (13) (fun _ => 0) (by decide) (fun τ9 ν9 ρ9 hE h2 h3 => ⟨trivial, by rw [hf68]; exact tp_o20 h2⟩)
  have hH := hH.ty (fun a ha _ => hn72 a ha) hb79
  have ht83 : τ_78 q1 = 22 := (hb79 _ ne74).1.trans ht53
  have hn84 : ν_78 q1 = 400 := (hb79 _ ne74).2.1.trans hn54
  have ht85 : τ_78 q31 = 28 := (hb79 _ ne75).1.trans ht50
  have hn86 : ν_78 q31 = 400 := (hb79 _ ne75).2.1.trans hn51
  have hz87 : τ_78 h0 = 0 := (hb79 _ ne73).1.trans hz55
  clear ht53 hn54 ht50 hn51 hz55 hb79 ne73 ne74 ne75
  refine tpk_pos hl77 hf76 (fun q88 eq88 => ?_)
  refine va_putF (D := (dC, dI)) (ci := 2) (v := .ref q60) (ty := (.array .int)) (C := RX2) (T := TX2) (N := 16) hx hb hts hfX2 tyX2 tyX2_ok nmX2 hown hK hP hD hS q88 eq88 rfl 9 (by decide) (hts (.fieldLink RX2 23 "ColdShips$Reader" "starts" "[I") wa_122) (fun _ h9 => h9) rfl hin rfl (tyX2_ok 9 (by decide)) rfl rfl (Nat.le_of_ble_eq_true rfl) dX2_init_32 (tp_k (.inr (2, [.ref q1, .int 0, .int (-1), .int 0, .int 0, .int 0, .int 0, .ref q31, .int 0, .ref q60, .int 0, .int 0, .int 0, .int 0, .int 0, .int 0])) hD hl77 eq88 (fun f89 H locs hP hD hS g91 k90 => ?_))
  have hT := hT.raw hz87 k90
  have hH := hH.wo k90
  obtain ⟨τ_92, ν_92, ρ_92, hG, hT, hb93, ht94, hn95, hr96⟩ := tp_type hG hT hl77 hz87 3 (0) (fun k => [q1, 0, 0, 0, 0, 0, 0, q31, 0, q60, 0, 0, 0, 0, 0, 0].getD k 0) (by decide) (fun τ9 ν9 ρ9 hE h2 h3 => ⟨(by show (τ9 (ρ9 h0 0) = 22 ∧ ν9 (ρ9 h0 0) = 400) ∧ (τ9 (ρ9 h0 7) = 28 ∧ ν9 (ρ9 h0 7) = 400) ∧ (τ9 (ρ9 h0 9) = 20 ∧ ν9 (ρ9 h0 9) = 13); rw [h3]; exact ⟨⟨(hE q1 (by rw [ht83]; decide)).1.trans ht83, (hE q1 (by rw [ht83]; decide)).2.1.trans hn84⟩, ⟨(hE q31 (by rw [ht85]; decide)).1.trans ht85, (hE q31 (by rw [ht85]; decide)).2.1.trans hn86⟩, ⟨(hE q60 (by rw [ht80]; decide)).1.trans ht80, (hE q60 (by rw [ht80]; decide)).2.1.trans hn81⟩⟩), by rw [g91]; exact ⟨_, _, _, _, _, _, _, _, _, _, _, _, _, (by rw [h3]; rfl), (by first | decide | (rw [h3]; decide) | (have : (0 : Int32).toInt = 0 := rfl; have : ((-1) : Int32).toInt = (-1) := rfl; have : (0 : Int32).toInt = 0 := rfl; have : (0 : Int32).toInt = 0 := rfl; have : (0 : Int32).toInt = 0 := rfl; have : (0 : Int32).toInt = 0 := rfl; have : (0 : Int32).toInt = 0 := rfl; have : (0 : Int32).toInt = 0 := rfl; have : (0 : Int32).toInt = 0 := rfl; have : (0 : Int32).toInt = 0 := rfl; have : (0 : Int32).toInt = 0 := rfl; have : (0 : Int32).toInt = 0 := rfl; have : (0 : Int32).toInt = 0 := rfl; omega) | (rw [h3]; have : (0 : Int32).toInt = 0 := rfl; have : ((-1) : Int32).toInt = (-1) := rfl; have : (0 : Int32).toInt = 0 := rfl; have : (0 : Int32).toInt = 0 := rfl; have : (0 : Int32).toInt = 0 := rfl; have : (0 : Int32).toInt = 0 := rfl; have : (0 : Int32).toInt = 0 := rfl; have : (0 : Int32).toInt = 0 := rfl; have : (0 : Int32).toInt = 0 := rfl; have : (0 : Int32).toInt = 0 := rfl; have : (0 : Int32).toInt = 0 := rfl; have : (0 : Int32).toInt = 0 := rfl; have : (0 : Int32).toInt = 0 := rfl; omega)), (by first | decide | (rw [h3]; decide) | (have : (0 : Int32).toInt = 0 := rfl; have : ((-1) : Int32).toInt = (-1) := rfl; have : (0 : Int32).toInt = 0 := rfl; have : (0 : Int32).toInt = 0 := rfl; have : (0 : Int32).toInt = 0 := rfl; have : (0 : Int32).toInt = 0 := rfl; have : (0 : Int32).toInt = 0 := rfl; have : (0 : Int32).toInt = 0 := rfl; have : (0 : Int32).toInt = 0 := rfl; have : (0 : Int32).toInt = 0 := rfl; have : (0 : Int32).toInt = 0 := rfl; have : (0 : Int32).toInt = 0 := rfl; have : (0 : Int32).toInt = 0 := rfl; omega) | (rw [h3]; have : (0 : Int32).toInt = 0 := rfl; have : ((-1) : Int32).toInt = (-1) := rfl; have : (0 : Int32).toInt = 0 := rfl; have : (0 : Int32).toInt = 0 := rfl; have : (0 : Int32).toInt = 0 := rfl; have : (0 : Int32).toInt = 0 := rfl; have : (0 : Int32).toInt = 0 := rfl; have : (0 : Int32).toInt = 0 := rfl; have : (0 : Int32).toInt = 0 := rfl; have : (0 : Int32).toInt = 0 := rfl; have : (0 : Int32).toInt = 0 := rfl; have : (0 : Int32).toInt = 0 := rfl; have : (0 : Int32).toInt = 0 := rfl; omega)), (by first | decide | (rw [h3]; decide) | (have : (0 : Int32).toInt = 0 := rfl; have : ((-1) : Int32).toInt = (-1) := rfl; have : (0 : Int32).toInt = 0 := rfl; have : (0 : Int32).toInt = 0 := rfl; have : (0 : Int32).toInt = 0 := rfl; have : (0 : Int32).toInt = 0 := rfl; have : (0 : Int32).toInt = 0 := rfl; have : (0 : Int32).toInt = 0 := rfl; have : (0 : Int32).toInt = 0 := rfl; have : (0 : Int32).toInt = 0 := rfl; have : (0 : Int32).toInt = 0 := rfl; have : (0 : Int32).toInt = 0 := rfl; have : (0 : Int32).toInt = 0 := rfl; omega) | (rw [h3]; have : (0 : Int32).toInt = 0 := rfl; have : ((-1) : Int32).toInt = (-1) := rfl; have : (0 : Int32).toInt = 0 := rfl; have : (0 : Int32).toInt = 0 := rfl; have : (0 : Int32).toInt = 0 := rfl; have : (0 : Int32).toInt = 0 := rfl; have : (0 : Int32).toInt = 0 := rfl; have : (0 : Int32).toInt = 0 := rfl; have : (0 : Int32).toInt = 0 := rfl; have : (0 : Int32).toInt = 0 := rfl; have : (0 : Int32).toInt = 0 := rfl; have : (0 : Int32).toInt = 0 := rfl; have : (0 : Int32).toInt = 0 := rfl; omega)), (by first | decide | (rw [h3]; decide) | (have : (0 : Int32).toInt = 0 := rfl; have : ((-1) : Int32).toInt = (-1) := rfl; have : (0 : Int32).toInt = 0 := rfl; have : (0 : Int32).toInt = 0 := rfl; have : (0 : Int32).toInt = 0 := rfl; have : (0 : Int32).toInt = 0 := rfl; have : (0 : Int32).toInt = 0 := rfl; have : (0 : Int32).toInt = 0 := rfl; have : (0 : Int32).toInt = 0 := rfl; have : (0 : Int32).toInt = 0 := rfl; have : (0 : Int32).toInt = 0 := rfl; have : (0 : Int32).toInt = 0 := rfl; have : (0 : Int32).toInt = 0 := rfl; omega) | (rw [h3]; have : (0 : Int32).toInt = 0 := rfl; have : ((-1) : Int32).toInt = (-1) := rfl; have : (0 : Int32).toInt = 0 := rfl; have : (0 : Int32).toInt = 0 := rfl; have : (0 : Int32).toInt = 0 := rfl; have : (0 : Int32).toInt = 0 := rfl; have : (0 : Int32).toInt = 0 := rfl; have : (0 : Int32).toInt = 0 := rfl; have : (0 : Int32).toInt = 0 := rfl; have : (0 : Int32).toInt = 0 := rfl; have : (0 : Int32).toInt = 0 := rfl; have : (0 : Int32).toInt = 0 := rfl; have : (0 : Int32).toInt = 0 := rfl; omega)), (by first | decide | (rw [h3]; decide) | (have : (0 : Int32).toInt = 0 := rfl; have : ((-1) : Int32).toInt = (-1) := rfl; have : (0 : Int32).toInt = 0 := rfl; have : (0 : Int32).toInt = 0 := rfl; have : (0 : Int32).toInt = 0 := rfl; have : (0 : Int32).toInt = 0 := rfl; have : (0 : Int32).toInt = 0 := rfl; have : (0 : Int32).toInt = 0 := rfl; have : (0 : Int32).toInt = 0 := rfl; have : (0 : Int32).toInt = 0 := rfl; have : (0 : Int32).toInt = 0 := rfl; have : (0 : Int32).toInt = 0 := rfl; have : (0 : Int32).toInt = 0 := rfl; omega) | (rw [h3]; have : (0 : Int32).toInt = 0 := rfl; have : ((-1) : Int32).toInt = (-1) := rfl; have : (0 : Int32).toInt = 0 := rfl; have : (0 : Int32).toInt = 0 := rfl; have : (0 : Int32).toInt = 0 := rfl; have : (0 : Int32).toInt = 0 := rfl; have : (0 : Int32).toInt = 0 := rfl; have : (0 : Int32).toInt = 0 := rfl; have : (0 : Int32).toInt = 0 := rfl; have : (0 : Int32).toInt = 0 := rfl; have : (0 : Int32).toInt = 0 := rfl; have : (0 : Int32).toInt = 0 := rfl; have : (0 : Int32).toInt = 0 := rfl; omega)), (by first | decide | (rw [h3]; decide) | (have : (0 : Int32).toInt = 0 := rfl; have : ((-1) : Int32).toInt = (-1) := rfl; have : (0 : Int32).toInt = 0 := rfl; have : (0 : Int32).toInt = 0 := rfl; have : (0 : Int32).toInt = 0 := rfl; have : (0 : Int32).toInt = 0 := rfl; have : (0 : Int32).toInt = 0 := rfl; have : (0 : Int32).toInt = 0 := rfl; have : (0 : Int32).toInt = 0 := rfl; have : (0 : Int32).toInt = 0 := rfl; have : (0 : Int32).toInt = 0 := rfl; have : (0 : Int32).toInt = 0 := rfl; have : (0 : Int32).toInt = 0 := rfl; omega) | (rw [h3]; have : (0 : Int32).toInt = 0 := rfl; have : ((-1) : Int32).toInt = (-1) := rfl; have : (0 : Int32).toInt = 0 := rfl; have : (0 : Int32).toInt = 0 := rfl; have : (0 : Int32).toInt = 0 := rfl; have : (0 : Int32).toInt = 0 := rfl; have : (0 : Int32).toInt = 0 := rfl; have : (0 : Int32).toInt = 0 := rfl; have : (0 : Int32).toInt = 0 := rfl; have : (0 : Int32).toInt = 0 := rfl; have : (0 : Int32).toInt = 0 := rfl; have : (0 : Int32).toInt = 0 := rfl; have : (0 : Int32).toInt = 0 := rfl; omega)), (by first | decide | (rw [h3]; decide) | (have : (0 : Int32).toInt = 0 := rfl; have : ((-1) : Int32).toInt = (-1) := rfl; have : (0 : Int32).toInt = 0 := rfl; have : (0 : Int32).toInt = 0 := rfl; have : (0 : Int32).toInt = 0 := rfl; have : (0 : Int32).toInt = 0 := rfl; have : (0 : Int32).toInt = 0 := rfl; have : (0 : Int32).toInt = 0 := rfl; have : (0 : Int32).toInt = 0 := rfl; have : (0 : Int32).toInt = 0 := rfl; have : (0 : Int32).toInt = 0 := rfl; have : (0 : Int32).toInt = 0 := rfl; have : (0 : Int32).toInt = 0 := rfl; omega) | (rw [h3]; have : (0 : Int32).toInt = 0 := rfl; have : ((-1) : Int32).toInt = (-1) := rfl; have : (0 : Int32).toInt = 0 := rfl; have : (0 : Int32).toInt = 0 := rfl; have : (0 : Int32).toInt = 0 := rfl; have : (0 : Int32).toInt = 0 := rfl; have : (0 : Int32).toInt = 0 := rfl; have : (0 : Int32).toInt = 0 := rfl; have : (0 : Int32).toInt = 0 := rfl; have : (0 : Int32).toInt = 0 := rfl; have : (0 : Int32).toInt = 0 := rfl; have : (0 : Int32).toInt = 0 := rfl; have : (0 : Int32).toInt = 0 := rfl; omega))⟩⟩)
  have hH := hH.ty (fun a _ ho z => ho (by rw [z])) hb93
  have ht97 : τ_92 q1 = 22 := (hb93 _ (Ne.symm (tp_ne0 hz87 ht83 (by decide)))).1.trans ht83
  have hn98 : ν_92 q1 = 400 := (hb93 _ (Ne.symm (tp_ne0 hz87 ht83 (by decide)))).2.1.trans hn84
  have ht99 : τ_92 q31 = 28 := (hb93 _ (Ne.symm (tp_ne0 hz87 ht85 (by decide)))).1.trans ht85
  have hn100 : ν_92 q31 = 400 := (hb93 _ (Ne.symm (tp_ne0 hz87 ht85 (by decide)))).2.1.trans hn86
  have ht101 : τ_92 q60 = 20 := (hb93 _ (Ne.symm (tp_ne0 hz87 ht80 (by decide)))).1.trans ht80
  have hn102 : ν_92 q60 = 13 := (hb93 _ (Ne.symm (tp_ne0 hz87 ht80 (by decide)))).2.1.trans hn81
  clear ht83 hn84 ht85 hn86 ht80 hn81 hb93
  refine tp_widen 3 813 (Nat.le_of_ble_eq_true rfl) (Nat.le_of_ble_eq_true rfl) ?_
  exact W.vret hx hb hr (fun t ht hW => ⟨⟨(τ_92, ν_92, ρ_92, L71, f89), rfl, ⟨⟨hG, hT, hH⟩, ht94⟩, by rw [ht]; exact hP, va_K.moved hW.alike hK, hD⟩, hS.F ht⟩) hS.2.2 dX2_init_35
