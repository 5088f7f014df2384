set_option maxHeartbeats 4000000 in
set_option maxRecDepth 100000 in
theorem t_X10_init (l : Launch) (dC : Nat → ClassId) (dI : Nat → Nat → Nat) (sz : Nat) (Ω : Nat → (Nat → Nat) → va_E → Prop) (κ : Nat → ClassId) (τ ν : Nat → Nat) (ρ : Nat → Nat → Nat) (L : List Nat) (f : Nat → va_E) (hG : tp_G τ ν ρ L) (hT : tp_T Ω κ τ ν ρ f) (h0 : Nat) (hl_h0 : h0 ∈ L) (hz_h0 : τ h0 = 0) (hf_h0 : f h0 = .inr (10, [.int 0, .int 0, .int 0, .int 0, .int 0, .int 0, .int 0, .null, .null, .null, .null, .null, .null, .null, .null, .null, .null, .null, .null])) : Met l yX10_init wqX10_init ({ frames := 4, cells := 109, slots := 2615, locals := 1200 }) (va_Pc [.ref h0] (pz_B dC dI (tp_K κ) (va_pl L f) sz)) (va_Qv (fun (x : tp_S) => tp_PX Ω κ τ ν ρ L f [] (some h0) x ∧ x.1 h0 = 11) (fun (x : tp_S) (t : State) => pz_E dC dI (tp_K κ) (va_A (va_pl L f) sz) (va_pl x.2.2.2.1 x.2.2.2.2) t) (va_A (va_pl L f) sz)) 109 2615 (va_A (va_pl L f) sz) := by
  refine Met.ofW (cc := cX10_init) (maxL := 2) (ret := none) (by decide) rfl ?_
  intro p e s m args below meth c s₁ B hml hv
  obtain ⟨rfl, hsz, hP, hK, hD0, hN⟩ := hv
  have hx := B.exec
  have hb := B.bytes
  have hr := B.returns
  have hts := fun (w : Cond) (h : w ∈ WALL) => atoms_spec (ws := wqX10_init) B.pre w (List.mem_cons_of_mem _ h)
  have hown : s.vm.findClass RX10 = some m.cls := findClass_of_methodNamed B.named
  have hlocks := B.notSynchronized
  have hin : meth.name = "<init>" := (name_of_methodNamed B.named B.method).1
  subst hsz
  have hD := hD0.self (sz := s.heap.size)
  generalize hAe : va_A (va_pl L f) s.heap.size = A at hD ⊢
  have hA : ∀ q : Nat, s.heap.size ≤ q → A q := fun q h => by rw [← hAe]; exact Or.inr h
  have hS : va_S A s.heap s.heap [] := va_S.rf
  have hH : tp_H τ ν ρ L f [] (some h0) τ ν ρ L f := tp_H.rf
  have hl := lv_entry ([.ref h0]) (n := 2) (Nat.le_of_ble_eq_true rfl)
  rw [lg_entry_eq]
  generalize (lg_sl ([.ref h0]) ++ List.replicate (2 - (lg_sl ([.ref h0])).length) Slot.unset).toArray = ls at hl ⊢
  have hl : lv_has ls 2 [(0, .ref h0)] := hl
  refine lv_aload_n hx hb dX10_init_0 rfl (lv_at hl 0 rfl) ?_
  refine W.objInit hx hb hown (hts (.methodLink RX10 3 objectInit) wa_36) (hts (.instanceMethod objectInit) wa_10) (hts (.code objectInit ⟨#[0xb1]⟩ 1 none) wa_11) rfl (by rw [hml]; exact hl.1) rfl dX10_init_1 (Nat.le_of_ble_eq_true rfl) (Nat.le_of_ble_eq_true rfl) ?_
  refine W.eq (g2 := F0 m 4 ls []) rfl ?_
  refine lv_aload_n hx hb dX10_init_4 rfl (lv_at hl 0 rfl) ?_
  refine lv_bipush (v := 10) hx hb dX10_init_5 (by decide) ?_
  refine tpk_pos hl_h0 hf_h0 (fun q1 eq1 => ?_)
  refine va_put (D := (dC, dI)) (ci := 10) (v := .int 10) (ty := .int) (C := RX10) (T := TX10) (N := 19) hx hb hts hfX10 tyX10 tyX10_ok nmX10 hown hK hP hD hS q1 eq1 rfl 1 (by decide) (hts (.fieldLink RX10 9 "ColdShips$World" "boils" "I") wa_37) (fun _ h9 => h9) rfl (tyX10_ok 1 (by decide)) rfl rfl (Nat.le_of_ble_eq_true rfl) dX10_init_7 (tp_k (.inr (10, [.int 0, .int 10, .int 0, .int 0, .int 0, .int 0, .int 0, .null, .null, .null, .null, .null, .null, .null, .null, .null, .null, .null, .null])) hD hl_h0 eq1 (fun f2 H locs hP hD hS g4 k3 => ?_))
  have hT := hT.raw hz_h0 k3
  have hH := hH.wo k3
  refine lv_aload_n hx hb dX10_init_10 rfl (lv_at hl 0 rfl) ?_
  refine lv_sipush (v := 700) hx hb dX10_init_11 (by decide) ?_
  refine tpk_pos hl_h0 g4 (fun q5 eq5 => ?_)
  refine va_put (D := (dC, dI)) (ci := 10) (v := .int 700) (ty := .int) (C := RX10) (T := TX10) (N := 19) hx hb hts hfX10 tyX10 tyX10_ok nmX10 hown hK hP hD hS q5 eq5 rfl 2 (by decide) (hts (.fieldLink RX10 15 "ColdShips$World" "limit" "I") wa_38) (fun _ h9 => h9) rfl (tyX10_ok 2 (by decide)) rfl rfl (Nat.le_of_ble_eq_true rfl) dX10_init_14 (tp_k (.inr (10, [.int 0, .int 10, .int 700, .int 0, .int 0, .int 0, .int 0, .null, .null, .null, .null, .null, .null, .null, .null, .null, .null, .null, .null])) hD hl_h0 eq5 (fun f6 H locs hP hD hS g8 k7 => ?_))
  have hT := hT.raw hz_h0 k7
  have hH := hH.wo k7
  refine lv_aload_n hx hb dX10_init_17 rfl (lv_at hl 0 rfl) ?_
  refine lv_bipush (v := 25) hx hb dX10_init_18 (by decide) ?_
  refine va_newa (atype := .int) hx hb (hts (.arrayClass .int) wa_39) (ty := .int) rfl hK hP hD hS hA (a0 := (25, .inl (fun _ => 0))) (fun cA => pz_na_int cA 25) (by decide +kernel : ¬ (25 : Int32) < 0) (by decide +kernel : (25 : Int32).toNatClampNeg = 25) (by decide +kernel) (Nat.le_of_ble_eq_true rfl) (Nat.le_of_ble_eq_true rfl) dX10_init_20 (fun q9 k10 H hK hP hD hS => ?_)
  obtain ⟨e9, hK9⟩ := tp_kid 0 rfl hK; subst e9; have hK := hK9
  refine Exists.elim (tp_grow hG hT hP hD) (fun L20 hE90 => Exists.elim hE90 (fun f19 hE91 => tn_10 hE91 (fun hP hD hg11 ht12 hs13 hq14 hz15 hn16 hf17 ho18 => ?_)))
  clear hE91 hE90
  have hn21 : ∀ a, a ∈ L → a ≠ q9 := fun a ha => hn16 a (hH.1 a ha)
  have ne22 : h0 ≠ q9 := hn16 _ hl_h0
  have hG := hg11
  have hT := ht12
  have hH := hH.gr hs13 hn16 ho18
  have hf23 : f19 h0 = .inr (10, [.int 0, .int 10, .int 700, .int 0, .int 0, .int 0, .int 0, .null, .null, .null, .null, .null, .null, .null, .null, .null, .null, .null, .null]) := (ho18 _ ne22).trans g8
  have hl24 : h0 ∈ L20 := hs13 _ hl_h0
  clear g8 hl_h0
  obtain ⟨τ_25, ν_25, ρ_25, hG, hT, hb26, ht27, hn28, hr29⟩ := tp_type hG hT hq14 hz15 20 (25) (fun _ => 0) (by decide) (fun τ9 ν9 ρ9 hE h2 h3 => ⟨trivial, by rw [hf17]; exact tp_o20 h2⟩)
  have hH := hH.ty (fun a ha _ => hn21 a ha) hb26
  have hz30 : τ_25 h0 = 0 := (hb26 _ ne22).1.trans hz_h0
  clear hz_h0 hb26 ne22
  refine tpk_pos hl24 hf23 (fun q31 eq31 => ?_)
  refine va_putF (D := (dC, dI)) (ci := 10) (v := .ref q9) (ty := (.array .int)) (C := RX10) (T := TX10) (N := 19) hx hb hts hfX10 tyX10 tyX10_ok nmX10 hown hK hP hD hS q31 eq31 rfl 7 (by decide) (hts (.fieldLink RX10 18 "ColdShips$World" "tides" "[I") wa_40) (fun _ h9 => h9) rfl hin rfl (tyX10_ok 7 (by decide)) rfl rfl (Nat.le_of_ble_eq_true rfl) dX10_init_22 (tp_k (.inr (10, [.int 0, .int 10, .int 700, .int 0, .int 0, .int 0, .int 0, .ref q9, .null, .null, .null, .null, .null, .null, .null, .null, .null, .null, .null])) hD hl24 eq31 (fun f32 H locs hP hD hS g34 k33 => ?_))
  have hT := hT.raw hz30 k33
  have hH := hH.wo k33
  refine lv_aload_n hx hb dX10_init_25 rfl (lv_at hl 0 rfl) ?_
  refine lv_bipush (v := 100) hx hb dX10_init_26 (by decide) ?_
  refine va_newa (atype := .int) hx hb (hts (.arrayClass .int) wa_39) (ty := .int) rfl hK hP hD hS hA (a0 := (100, .inl (fun _ => 0))) (fun cA => pz_na_int cA 100) (by decide +kernel : ¬ (100 : Int32) < 0) (by decide +kernel : (100 : Int32).toNatClampNeg = 100) (by decide +kernel) (Nat.le_of_ble_eq_true rfl) (Nat.le_of_ble_eq_true rfl) dX10_init_28 (fun q35 k36 H hK hP hD hS => ?_)
  obtain ⟨e9, hK9⟩ := tp_kid 0 rfl hK; subst e9; have hK := hK9
  refine Exists.elim (tp_grow hG hT hP hD) (fun L46 hE90 => Exists.elim hE90 (fun f45 hE91 => tn_10 hE91 (fun hP hD hg37 ht38 hs39 hq40 hz41 hn42 hf43 ho44 => ?_)))
  clear hE91 hE90
  have hn47 : ∀ a, a ∈ L → a ≠ q35 := fun a ha => hn42 a (hH.1 a ha)
  have ne48 : h0 ≠ q35 := hn42 _ hl24
  have ne49 : q9 ≠ q35 := hn42 _ (tp_in hG ht27 (by decide))
  have hG := hg37
  have hT := ht38
  have hH := hH.gr hs39 hn42 ho44
  have hf50 : f45 h0 = .inr (10, [.int 0, .int 10, .int 700, .int 0, .int 0, .int 0, .int 0, .ref q9, .null, .null, .null, .null, .null, .null, .null, .null, .null, .null, .null]) := (ho44 _ ne48).trans g34
  have hl51 : h0 ∈ L46 := hs39 _ hl24
  clear g34 hl24
  obtain ⟨τ_52, ν_52, ρ_52, hG, hT, hb53, ht54, hn55, hr56⟩ := tp_type hG hT hq40 hz41 20 (100) (fun _ => 0) (by decide) (fun τ9 ν9 ρ9 hE h2 h3 => ⟨trivial, by rw [hf43]; exact tp_o20 h2⟩)
  have hH := hH.ty (fun a ha _ => hn47 a ha) hb53
  have ht57 : τ_52 q9 = 20 := (hb53 _ ne49).1.trans ht27
  have hn58 : ν_52 q9 = 25 := (hb53 _ ne49).2.1.trans hn28
  have hz59 : τ_52 h0 = 0 := (hb53 _ ne48).1.trans hz30
  clear ht27 hn28 hz30 hb53 ne48 ne49
  refine tpk_pos hl51 hf50 (fun q60 eq60 => ?_)
  refine va_putF (D := (dC, dI)) (ci := 10) (v := .ref q35) (ty := (.array .int)) (C := RX10) (T := TX10) (N := 19) hx hb hts hfX10 tyX10 tyX10_ok nmX10 hown hK hP hD hS q60 eq60 rfl 8 (by decide) (hts (.fieldLink RX10 22 "ColdShips$World" "seas" "[I") wa_41) (fun _ h9 => h9) rfl hin rfl (tyX10_ok 8 (by decide)) rfl rfl (Nat.le_of_ble_eq_true rfl) dX10_init_30 (tp_k (.inr (10, [.int 0, .int 10, .int 700, .int 0, .int 0, .int 0, .int 0, .ref q9, .ref q35, .null, .null, .null, .null, .null, .null, .null, .null, .null, .null])) hD hl51 eq60 (fun f61 H locs hP hD hS g63 k62 => ?_))
  have hT := hT.raw hz59 k62
  have hH := hH.wo k62
  refine lv_aload_n hx hb dX10_init_33 rfl (lv_at hl 0 rfl) ?_
  refine lv_bipush (v := 6) hx hb dX10_init_34 (by decide) ?_
  refine va_newq hx hb hown (hts (.classLink RX10 25 RX8) wa_42) hN.2.2.1 hK hP hD hS hA (by decide +kernel : ¬ (6 : Int32) < 0) (by decide +kernel : (6 : Int32).toNatClampNeg = 6) (by decide +kernel) (Nat.le_of_ble_eq_true rfl) (Nat.le_of_ble_eq_true rfl) dX10_init_36 (fun q64 k65 H hK hP hD hS => ?_)
  obtain ⟨e9, hK9⟩ := tp_kid 4 rfl hK; subst e9; have hK := hK9
  refine Exists.elim (tp_grow hG hT hP hD) (fun L75 hE90 => Exists.elim hE90 (fun f74 hE91 => tn_10 hE91 (fun hP hD hg66 ht67 hs68 hq69 hz70 hn71 hf72 ho73 => ?_)))
  clear hE91 hE90
  have hn76 : ∀ a, a ∈ L → a ≠ q64 := fun a ha => hn71 a (hH.1 a ha)
  have ne77 : h0 ≠ q64 := hn71 _ hl51
  have ne78 : q9 ≠ q64 := hn71 _ (tp_in hG ht57 (by decide))
  have ne79 : q35 ≠ q64 := hn71 _ (tp_in hG ht54 (by decide))
  have hG := hg66
  have hT := ht67
  have hH := hH.gr hs68 hn71 ho73
  have hf80 : f74 h0 = .inr (10, [.int 0, .int 10, .int 700, .int 0, .int 0, .int 0, .int 0, .ref q9, .ref q35, .null, .null, .null, .null, .null, .null, .null, .null, .null, .null]) := (ho73 _ ne77).trans g63
  have hl81 : h0 ∈ L75 := hs68 _ hl51
  clear g63 hl51
  refine tpk_pos hl81 hf80 (fun q82 eq82 => ?_)
  refine va_putF (D := (dC, dI)) (ci := 10) (v := .ref q64) (ty := (.array (.object "ColdShips$Terminal"))) (C := RX10) (T := TX10) (N := 19) hx hb hts hfX10 tyX10 tyX10_ok nmX10 hown hK hP hD hS q82 eq82 rfl 9 (by decide) (hts (.fieldLink RX10 27 "ColdShips$World" "terminals" "[LColdShips$Terminal;") wa_43) (fun _ h9 => h9) rfl hin rfl (tyX10_ok 9 (by decide)) rfl rfl (Nat.le_of_ble_eq_true rfl) dX10_init_39 (tp_k (.inr (10, [.int 0, .int 10, .int 700, .int 0, .int 0, .int 0, .int 0, .ref q9, .ref q35, .ref q64, .null, .null, .null, .null, .null, .null, .null, .null, .null])) hD hl81 eq82 (fun f83 H locs hP hD hS g85 k84 => ?_))
  have hT := hT.raw hz59 k84
  have hH := hH.wo k84
  have hf86 : f83 q64 = .inl (κ 4, 6, .inr (.inr (.inr (.inr (fun _ => none))))) := (k84 _ (Ne.symm ne77)).trans hf72
  clear hf72
  refine lv_aload_n hx hb dX10_init_42 rfl (lv_at hl 0 rfl) ?_
  refine lv_bipush (v := 6) hx hb dX10_init_43 (by decide) ?_
  refine va_newq hx hb hown (hts (.classLink RX10 31 RX5) wa_44) hN.2.2.2.1 hK hP hD hS hA (by decide +kernel : ¬ (6 : Int32) < 0) (by decide +kernel : (6 : Int32).toNatClampNeg = 6) (by decide +kernel) (Nat.le_of_ble_eq_true rfl) (Nat.le_of_ble_eq_true rfl) dX10_init_45 (fun q87 k88 H hK hP hD hS => ?_)
  obtain ⟨e9, hK9⟩ := tp_kid 5 rfl hK; subst e9; have hK := hK9
  refine Exists.elim (tp_grow hG hT hP hD) (fun L98 hE90 => Exists.elim hE90 (fun f97 hE91 => tn_10 hE91 (fun hP hD hg89 ht90 hs91 hq92 hz93 hn94 hf95 ho96 => ?_)))
  clear hE91 hE90
  have hn99 : ∀ a, a ∈ L → a ≠ q87 := fun a ha => hn94 a (hH.1 a ha)
  have ne100 : h0 ≠ q87 := hn94 _ hl81
  have ne101 : q64 ≠ q87 := hn94 _ hq69
  have ne102 : q9 ≠ q87 := hn94 _ (tp_in hG ht57 (by decide))
  have ne103 : q35 ≠ q87 := hn94 _ (tp_in hG ht54 (by decide))
  have hG := hg89
  have hT := ht90
  have hH := hH.gr hs91 hn94 ho96
  have hf104 : f97 h0 = .inr (10, [.int 0, .int 10, .int 700, .int 0, .int 0, .int 0, .int 0, .ref q9, .ref q35, .ref q64, .null, .null, .null, .null, .null, .null, .null, .null, .null]) := (ho96 _ ne100).trans g85
  have hl105 : h0 ∈ L98 := hs91 _ hl81
  have hf106 : f97 q64 = .inl (κ 4, 6, .inr (.inr (.inr (.inr (fun _ => none))))) := (ho96 _ ne101).trans hf86
  have hl107 : q64 ∈ L98 := hs91 _ hq69
  clear g85 hl81 hf86 hq69
  refine tpk_pos hl105 hf104 (fun q108 eq108 => ?_)
  refine va_putF (D := (dC, dI)) (ci := 10) (v := .ref q87) (ty := (.array (.object "ColdShips$Ship"))) (C := RX10) (T := TX10) (N := 19) hx hb hts hfX10 tyX10 tyX10_ok nmX10 hown hK hP hD hS q108 eq108 rfl 10 (by decide) (hts (.fieldLink RX10 33 "ColdShips$World" "ships" "[LColdShips$Ship;") wa_45) (fun _ h9 => h9) rfl hin rfl (tyX10_ok 10 (by decide)) rfl rfl (Nat.le_of_ble_eq_true rfl) dX10_init_48 (tp_k (.inr (10, [.int 0, .int 10, .int 700, .int 0, .int 0, .int 0, .int 0, .ref q9, .ref q35, .ref q64, .ref q87, .null, .null, .null, .null, .null, .null, .null, .null])) hD hl105 eq108 (fun f109 H locs hP hD hS g111 k110 => ?_))
  have hT := hT.raw hz59 k110
  have hH := hH.wo k110
  have hf112 : f109 q64 = .inl (κ 4, 6, .inr (.inr (.inr (.inr (fun _ => none))))) := (k110 _ (Ne.symm ne77)).trans hf106
  have hf113 : f109 q87 = .inl (κ 5, 6, .inr (.inr (.inr (.inr (fun _ => none))))) := (k110 _ (Ne.symm ne100)).trans hf95
  clear hf106 hf95
  refine lv_aload_n hx hb dX10_init_51 rfl (lv_at hl 0 rfl) ?_
  refine lv_bipush (v := 12) hx hb dX10_init_52 (by decide) ?_
  refine va_newq hx hb hown (hts (.classLink RX10 37 RX0) wa_46) hN.2.2.2.2.1 hK hP hD hS hA (by decide +kernel : ¬ (12 : Int32) < 0) (by decide +kernel : (12 : Int32).toNatClampNeg = 12) (by decide +kernel) (Nat.le_of_ble_eq_true rfl) (Nat.le_of_ble_eq_true rfl) dX10_init_54 (fun q114 k115 H hK hP hD hS => ?_)
  obtain ⟨e9, hK9⟩ := tp_kid 6 rfl hK; subst e9; have hK := hK9
  refine Exists.elim (tp_grow hG hT hP hD) (fun L125 hE90 => Exists.elim hE90 (fun f124 hE91 => tn_10 hE91 (fun hP hD hg116 ht117 hs118 hq119 hz120 hn121 hf122 ho123 => ?_)))
  clear hE91 hE90
  have hn126 : ∀ a, a ∈ L → a ≠ q114 := fun a ha => hn121 a (hH.1 a ha)
  have ne127 : h0 ≠ q114 := hn121 _ hl105
  have ne128 : q64 ≠ q114 := hn121 _ hl107
  have ne129 : q87 ≠ q114 := hn121 _ hq92
  have ne130 : q9 ≠ q114 := hn121 _ (tp_in hG ht57 (by decide))
  have ne131 : q35 ≠ q114 := hn121 _ (tp_in hG ht54 (by decide))
  have hG := hg116
  have hT := ht117
  have hH := hH.gr hs118 hn121 ho123
  have hf132 : f124 h0 = .inr (10, [.int 0, .int 10, .int 700, .int 0, .int 0, .int 0, .int 0, .ref q9, .ref q35, .ref q64, .ref q87, .null, .null, .null, .null, .null, .null, .null, .null]) := (ho123 _ ne127).trans g111
  have hl133 : h0 ∈ L125 := hs118 _ hl105
  have hf134 : f124 q64 = .inl (κ 4, 6, .inr (.inr (.inr (.inr (fun _ => none))))) := (ho123 _ ne128).trans hf112
  have hl135 : q64 ∈ L125 := hs118 _ hl107
  have hf136 : f124 q87 = .inl (κ 5, 6, .inr (.inr (.inr (.inr (fun _ => none))))) := (ho123 _ ne129).trans hf113
  have hl137 : q87 ∈ L125 := hs118 _ hq92
  clear g111 hl105 hf112 hl107 hf113 hq92
  obtain ⟨τ_138, ν_138, ρ_138, hG, hT, hb139, ht140, hn141, hr142⟩ := tp_type hG hT hq119 hz120 26 (0) (fun _ => 0) (by decide) (fun τ9 ν9 ρ9 hE h2 h3 => ⟨trivial, by rw [hf122]; exact ⟨_, rfl, fun j _ => Or.inl rfl⟩⟩)
  have hH := hH.ty (fun a ha _ => hn126 a ha) hb139
  have ht143 : τ_138 q9 = 20 := (hb139 _ ne130).1.trans ht57
  have hn144 : ν_138 q9 = 25 := (hb139 _ ne130).2.1.trans hn58
  have ht145 : τ_138 q35 = 20 := (hb139 _ ne131).1.trans ht54
  have hn146 : ν_138 q35 = 100 := (hb139 _ ne131).2.1.trans hn55
  have hz147 : τ_138 h0 = 0 := (hb139 _ ne127).1.trans hz59
  have hz148 : τ_138 q64 = 0 := (hb139 _ ne128).1.trans hz70
  have hz149 : τ_138 q87 = 0 := (hb139 _ ne129).1.trans hz93
  clear ht57 hn58 ht54 hn55 hz59 hz70 hz93 hb139 ne127 ne128 ne129 ne130 ne131
  refine tpk_pos hl133 hf132 (fun q150 eq150 => ?_)
  refine va_putF (D := (dC, dI)) (ci := 10) (v := .ref q114) (ty := (.array (.object "ColdShips$Contract"))) (C := RX10) (T := TX10) (N := 19) hx hb hts hfX10 tyX10 tyX10_ok nmX10 hown hK hP hD hS q150 eq150 rfl 11 (by decide) (hts (.fieldLink RX10 39 "ColdShips$World" "contracts" "[LColdShips$Contract;") wa_47) (fun _ h9 => h9) rfl hin rfl (tyX10_ok 11 (by decide)) rfl rfl (Nat.le_of_ble_eq_true rfl) dX10_init_57 (tp_k (.inr (10, [.int 0, .int 10, .int 700, .int 0, .int 0, .int 0, .int 0, .ref q9, .ref q35, .ref q64, .ref q87, .ref q114, .null, .null, .null, .null, .null, .null, .null])) hD hl133 eq150 (fun f151 H locs hP hD hS g153 k152 => ?_))
  have hT := hT.raw hz147 k152
  have hH := hH.wo k152
  have hf154 : f151 q64 = .inl (κ 4, 6, .inr (.inr (.inr (.inr (fun _ => none))))) := (k152 _ (Ne.symm ne77)).trans hf134
  have hf155 : f151 q87 = .inl (κ 5, 6, .inr (.inr (.inr (.inr (fun _ => none))))) := (k152 _ (Ne.symm ne100)).trans hf136
  clear hf134 hf136
  refine lv_aload_n hx hb dX10_init_60 rfl (lv_at hl 0 rfl) ?_
  refine va_new (ci := 6) (fs := [.null, .null, .null, .int 0]) (C := RX6) (T := TX6) (N := 4) hx hb hts hfX6 tyX6 tyX6_ok hown (hts (.classLink RX10 43 RX6) wa_48) (hts (.instantiable RX6 4) wa_49) (hts (.initialized RX6) wa_50) hK hP hD hS hA rfl (fun j hj => by rcases tpj_4 j hj with rfl | rfl | rfl | rfl <;> rfl) (Nat.le_of_ble_eq_true rfl) (Nat.le_of_ble_eq_true rfl) dX10_init_61 (fun q156 H hP hD hS => ?_)
  refine Exists.elim (tp_grow hG hT hP hD) (fun L166 hE90 => Exists.elim hE90 (fun f165 hE91 => tn_10 hE91 (fun hP hD hg157 ht158 hs159 hq160 hz161 hn162 hf163 ho164 => ?_)))
  clear hE91 hE90
  have hn167 : ∀ a, a ∈ L → a ≠ q156 := fun a ha => hn162 a (hH.1 a ha)
  have ne168 : h0 ≠ q156 := hn162 _ hl133
  have ne169 : q64 ≠ q156 := hn162 _ hl135
  have ne170 : q87 ≠ q156 := hn162 _ hl137
  have ne171 : q9 ≠ q156 := hn162 _ (tp_in hG ht143 (by decide))
  have ne172 : q35 ≠ q156 := hn162 _ (tp_in hG ht145 (by decide))
  have ne173 : q114 ≠ q156 := hn162 _ (tp_in hG ht140 (by decide))
  have hG := hg157
  have hT := ht158
  have hH := hH.gr hs159 hn162 ho164
  have hf174 : f165 h0 = .inr (10, [.int 0, .int 10, .int 700, .int 0, .int 0, .int 0, .int 0, .ref q9, .ref q35, .ref q64, .ref q87, .ref q114, .null, .null, .null, .null, .null, .null, .null]) := (ho164 _ ne168).trans g153
  have hl175 : h0 ∈ L166 := hs159 _ hl133
  have hf176 : f165 q64 = .inl (κ 4, 6, .inr (.inr (.inr (.inr (fun _ => none))))) := (ho164 _ ne169).trans hf154
  have hl177 : q64 ∈ L166 := hs159 _ hl135
  have hf178 : f165 q87 = .inl (κ 5, 6, .inr (.inr (.inr (.inr (fun _ => none))))) := (ho164 _ ne170).trans hf155
  have hl179 : q87 ∈ L166 := hs159 _ hl137
  clear g153 hl133 hf154 hl135 hf155 hl137
  refine lv_dup hx hb dX10_init_64 rfl ?_
  refine lv_bipush (v := 60) hx hb dX10_init_65 (by decide) ?_
  have hFc := tp_fr hD hS hA
  refine va_callv (va_runI (As := [.int 60]) (rest := [.ref q156, .ref h0]) ⟨hx, hb, hml, hown, hts⟩ (t_X6_init_60 l dC dI _ Ω κ τ_138 ν_138 ρ_138 L166 f165 hG hT q156 hq160 hz161 hf163) (cwI 1 hts ggX10_init_X6_init rfl rfl rfl (hts (.initialized RX6) wa_50) (hts (.methodLink RX10 45 yX6_init) wa_65) (hts (.instanceMethod yX6_init) wa_66) rfl pd_X6_init ⟨Nat.le_of_ble_eq_true rfl, Nat.le_of_ble_eq_true rfl⟩) ⟨pz_blind, pz_pre hP hK hD hN⟩ rfl rfl hl.1 rfl (lv_room (Nat.le_of_ble_eq_true rfl)) dX10_init_67 ⟨Nat.le_of_ble_eq_true rfl, Nat.le_of_ble_eq_true rfl⟩) hS (fun q _ h => hFc q h) hFc (fun x180 t H1 locs ht hvm hw182 hB hz1 hk1 hS => ?_)
  obtain ⟨τ_184, ν_184, ρ_184, L_184, f183⟩ := x180
  obtain ⟨⟨hG9, hT9, hH9⟩, hw182p⟩ := hw182
  have hc185 := hH9.2 _ (tp_in hG ht143 (by decide)) (fun z => ne171 (Option.some.inj z))
  have hc186 := hH9.2 _ (tp_in hG ht145 (by decide)) (fun z => ne172 (Option.some.inj z))
  have hc187 := hH9.2 _ (tp_in hG ht140 (by decide)) (fun z => ne173 (Option.some.inj z))
  have hc188 := hH9.2 _ hl175 (fun z => ne168 (Option.some.inj z))
  have hf189 : f183 h0 = .inr (10, [.int 0, .int 10, .int 700, .int 0, .int 0, .int 0, .int 0, .ref q9, .ref q35, .ref q64, .ref q87, .ref q114, .null, .null, .null, .null, .null, .null, .null]) := (hc188.2.2.2 (by rw [hz147]; decide)).trans hf174
  have hl190 := hH9.1 _ hl175
  have hc191 := hH9.2 _ hl177 (fun z => ne169 (Option.some.inj z))
  have hf192 : f183 q64 = .inl (κ 4, 6, .inr (.inr (.inr (.inr (fun _ => none))))) := (hc191.2.2.2 (by rw [hz148]; decide)).trans hf176
  have hl193 := hH9.1 _ hl177
  have hc194 := hH9.2 _ hl179 (fun z => ne170 (Option.some.inj z))
  have hf195 : f183 q87 = .inl (κ 5, 6, .inr (.inr (.inr (.inr (fun _ => none))))) := (hc194.2.2.2 (by rw [hz149]; decide)).trans hf178
  have hl196 := hH9.1 _ hl179
  have hH := hH.call hH9 (by decide) (fun a ha _ z => hn167 a ha (Option.some.inj z))
  have hG : tp_G τ_184 ν_184 ρ_184 L_184 := hG9; have hT : tp_T Ω κ τ_184 ν_184 ρ_184 f183 := hT9
  have hH : tp_H τ ν ρ L f [] (some h0) τ_184 ν_184 ρ_184 L_184 f183 := hH
  have hP := hB.1; rw [ht] at hP; have hD := tp_Dw hB.2.2 hFc; clear hB hFc hz1 hk1; subst ht; generalize t.heap = H at hP hS ⊢
  have hP : va_P (dC, dI) vwCl (va_pl L_184 f183) H := hP
  have hD : va_D A (va_pl L_184 f183) := hD
  have ht197 : τ_184 q9 = 20 := hc185.1.trans ht143
  have hn198 : ν_184 q9 = 25 := hc185.2.1.trans hn144
  have ht199 : τ_184 q35 = 20 := hc186.1.trans ht145
  have hn200 : ν_184 q35 = 100 := hc186.2.1.trans hn146
  have ht201 : τ_184 q114 = 26 := hc187.1.trans ht140
  have hz202 : τ_184 h0 = 0 := hc188.1.trans hz147
  have hz203 : τ_184 q64 = 0 := hc191.1.trans hz148
  have hz204 : τ_184 q87 = 0 := hc194.1.trans hz149
  clear ht143 hn144 ht145 hn146 ht140 hz147 hz148 hz149 ne168 ne169 ne170 ne171 ne172 ne173 hc185 hc186 hc187 hc188 hc191 hc194 hG9 hT9 hH9
  have ht205 : τ_184 q156 = 7 := hw182p
  refine tpk_pos hl190 hf189 (fun q206 eq206 => ?_)
  refine va_putF (D := (dC, dI)) (ci := 10) (v := .ref q156) (ty := (.object "ColdShips$Spans")) (C := RX10) (T := TX10) (N := 19) hx hb hts hfX10 tyX10 tyX10_ok nmX10 hown hK hP hD hS q206 eq206 rfl 12 (by decide) (hts (.fieldLink RX10 48 "ColdShips$World" "slots" "LColdShips$Spans;") wa_51) (fun _ h9 => h9) rfl hin rfl (tyX10_ok 12 (by decide)) rfl rfl (Nat.le_of_ble_eq_true rfl) dX10_init_70 (tp_k (.inr (10, [.int 0, .int 10, .int 700, .int 0, .int 0, .int 0, .int 0, .ref q9, .ref q35, .ref q64, .ref q87, .ref q114, .ref q156, .null, .null, .null, .null, .null, .null])) hD hl190 eq206 (fun f207 H locs hP hD hS g209 k208 => ?_))
  have hT := hT.raw hz202 k208
  have hH := hH.wo k208
  have hf210 : f207 q64 = .inl (κ 4, 6, .inr (.inr (.inr (.inr (fun _ => none))))) := (k208 _ (Ne.symm ne77)).trans hf192
  have hf211 : f207 q87 = .inl (κ 5, 6, .inr (.inr (.inr (.inr (fun _ => none))))) := (k208 _ (Ne.symm ne100)).trans hf195
  clear hf192 hf195
  refine lv_aload_n hx hb dX10_init_73 rfl (lv_at hl 0 rfl) ?_
  refine va_new (ci := 6) (fs := [.null, .null, .null, .int 0]) (C := RX6) (T := TX6) (N := 4) hx hb hts hfX6 tyX6 tyX6_ok hown (hts (.classLink RX10 43 RX6) wa_48) (hts (.instantiable RX6 4) wa_49) (hts (.initialized RX6) wa_50) hK hP hD hS hA rfl (fun j hj => by rcases tpj_4 j hj with rfl | rfl | rfl | rfl <;> rfl) (Nat.le_of_ble_eq_true rfl) (Nat.le_of_ble_eq_true rfl) dX10_init_74 (fun q212 H hP hD hS => ?_)
  refine Exists.elim (tp_grow hG hT hP hD) (fun L222 hE90 => Exists.elim hE90 (fun f221 hE91 => tn_10 hE91 (fun hP hD hg213 ht214 hs215 hq216 hz217 hn218 hf219 ho220 => ?_)))
  clear hE91 hE90
  have hn223 : ∀ a, a ∈ L → a ≠ q212 := fun a ha => hn218 a (hH.1 a ha)
  have ne224 : h0 ≠ q212 := hn218 _ hl190
  have ne225 : q64 ≠ q212 := hn218 _ hl193
  have ne226 : q87 ≠ q212 := hn218 _ hl196
  have ne227 : q9 ≠ q212 := hn218 _ (tp_in hG ht197 (by decide))
  have ne228 : q35 ≠ q212 := hn218 _ (tp_in hG ht199 (by decide))
  have ne229 : q114 ≠ q212 := hn218 _ (tp_in hG ht201 (by decide))
  have ne230 : q156 ≠ q212 := hn218 _ (tp_in hG ht205 (by decide))
  have hG := hg213
  have hT := ht214
  have hH := hH.gr hs215 hn218 ho220
  have hf231 : f221 h0 = .inr (10, [.int 0, .int 10, .int 700, .int 0, .int 0, .int 0, .int 0, .ref q9, .ref q35, .ref q64, .ref q87, .ref q114, .ref q156, .null, .null, .null, .null, .null, .null]) := (ho220 _ ne224).trans g209
  have hl232 : h0 ∈ L222 := hs215 _ hl190
  have hf233 : f221 q64 = .inl (κ 4, 6, .inr (.inr (.inr (.inr (fun _ => none))))) := (ho220 _ ne225).trans hf210
  have hl234 : q64 ∈ L222 := hs215 _ hl193
  have hf235 : f221 q87 = .inl (κ 5, 6, .inr (.inr (.inr (.inr (fun _ => none))))) := (ho220 _ ne226).trans hf211
  have hl236 : q87 ∈ L222 := hs215 _ hl196
  clear g209 hl190 hf210 hl193 hf211 hl196
  refine lv_dup hx hb dX10_init_77 rfl ?_
  refine lv_bipush (v := 20) hx hb dX10_init_78 (by decide) ?_
  have hFc := tp_fr hD hS hA
  refine va_callv (va_runI (As := [.int 20]) (rest := [.ref q212, .ref h0]) ⟨hx, hb, hml, hown, hts⟩ (t_X6_init_20 l dC dI _ Ω κ τ_184 ν_184 ρ_184 L222 f221 hG hT q212 hq216 hz217 hf219) (cwI 1 hts ggX10_init_X6_init rfl rfl rfl (hts (.initialized RX6) wa_50) (hts (.methodLink RX10 45 yX6_init) wa_65) (hts (.instanceMethod yX6_init) wa_66) rfl pd_X6_init ⟨Nat.le_of_ble_eq_true rfl, Nat.le_of_ble_eq_true rfl⟩) ⟨pz_blind, pz_pre hP hK hD hN⟩ rfl rfl hl.1 rfl (lv_room (Nat.le_of_ble_eq_true rfl)) dX10_init_80 ⟨Nat.le_of_ble_eq_true rfl, Nat.le_of_ble_eq_true rfl⟩) hS (fun q _ h => hFc q h) hFc (fun x237 t H1 locs ht hvm hw239 hB hz1 hk1 hS => ?_)
  obtain ⟨τ_241, ν_241, ρ_241, L_241, f240⟩ := x237
  obtain ⟨⟨hG9, hT9, hH9⟩, hw239p⟩ := hw239
  have hc242 := hH9.2 _ (tp_in hG ht197 (by decide)) (fun z => ne227 (Option.some.inj z))
  have hc243 := hH9.2 _ (tp_in hG ht199 (by decide)) (fun z => ne228 (Option.some.inj z))
  have hc244 := hH9.2 _ (tp_in hG ht201 (by decide)) (fun z => ne229 (Option.some.inj z))
  have hc245 := hH9.2 _ (tp_in hG ht205 (by decide)) (fun z => ne230 (Option.some.inj z))
  have hc246 := hH9.2 _ hl232 (fun z => ne224 (Option.some.inj z))
  have hf247 : f240 h0 = .inr (10, [.int 0, .int 10, .int 700, .int 0, .int 0, .int 0, .int 0, .ref q9, .ref q35, .ref q64, .ref q87, .ref q114, .ref q156, .null, .null, .null, .null, .null, .null]) := (hc246.2.2.2 (by rw [hz202]; decide)).trans hf231
  have hl248 := hH9.1 _ hl232
  have hc249 := hH9.2 _ hl234 (fun z => ne225 (Option.some.inj z))
  have hf250 : f240 q64 = .inl (κ 4, 6, .inr (.inr (.inr (.inr (fun _ => none))))) := (hc249.2.2.2 (by rw [hz203]; decide)).trans hf233
  have hl251 := hH9.1 _ hl234
  have hc252 := hH9.2 _ hl236 (fun z => ne226 (Option.some.inj z))
  have hf253 : f240 q87 = .inl (κ 5, 6, .inr (.inr (.inr (.inr (fun _ => none))))) := (hc252.2.2.2 (by rw [hz204]; decide)).trans hf235
  have hl254 := hH9.1 _ hl236
  have hH := hH.call hH9 (by decide) (fun a ha _ z => hn223 a ha (Option.some.inj z))
  have hG : tp_G τ_241 ν_241 ρ_241 L_241 := hG9; have hT : tp_T Ω κ τ_241 ν_241 ρ_241 f240 := hT9
  have hH : tp_H τ ν ρ L f [] (some h0) τ_241 ν_241 ρ_241 L_241 f240 := hH
  have hP := hB.1; rw [ht] at hP; have hD := tp_Dw hB.2.2 hFc; clear hB hFc hz1 hk1; subst ht; generalize t.heap = H at hP hS ⊢
  have hP : va_P (dC, dI) vwCl (va_pl L_241 f240) H := hP
  have hD : va_D A (va_pl L_241 f240) := hD
  have ht255 : τ_241 q9 = 20 := hc242.1.trans ht197
  have hn256 : ν_241 q9 = 25 := hc242.2.1.trans hn198
  have ht257 : τ_241 q35 = 20 := hc243.1.trans ht199
  have hn258 : ν_241 q35 = 100 := hc243.2.1.trans hn200
  have ht259 : τ_241 q114 = 26 := hc244.1.trans ht201
  have ht260 : τ_241 q156 = 7 := hc245.1.trans ht205
  have hz261 : τ_241 h0 = 0 := hc246.1.trans hz202
  have hz262 : τ_241 q64 = 0 := hc249.1.trans hz203
  have hz263 : τ_241 q87 = 0 := hc252.1.trans hz204
  clear ht197 hn198 ht199 hn200 ht201 ht205 hz202 hz203 hz204 ne224 ne225 ne226 ne227 ne228 ne229 ne230 hc242 hc243 hc244 hc245 hc246 hc249 hc252 hG9 hT9 hH9
  have ht264 : τ_241 q212 = 7 := hw239p
  refine tpk_pos hl248 hf247 (fun q265 eq265 => ?_)
  refine va_putF (D := (dC, dI)) (ci := 10) (v := .ref q212) (ty := (.object "ColdShips$Spans")) (C := RX10) (T := TX10) (N := 19) hx hb hts hfX10 tyX10 tyX10_ok nmX10 hown hK hP hD hS q265 eq265 rfl 13 (by decide) (hts (.fieldLink RX10 52 "ColdShips$World" "breaks" "LColdShips$Spans;") wa_52) (fun _ h9 => h9) rfl hin rfl (tyX10_ok 13 (by decide)) rfl rfl (Nat.le_of_ble_eq_true rfl) dX10_init_83 (tp_k (.inr (10, [.int 0, .int 10, .int 700, .int 0, .int 0, .int 0, .int 0, .ref q9, .ref q35, .ref q64, .ref q87, .ref q114, .ref q156, .ref q212, .null, .null, .null, .null, .null])) hD hl248 eq265 (fun f266 H locs hP hD hS g268 k267 => ?_))
  have hT := hT.raw hz261 k267
  have hH := hH.wo k267
  have hf269 : f266 q64 = .inl (κ 4, 6, .inr (.inr (.inr (.inr (fun _ => none))))) := (k267 _ (Ne.symm ne77)).trans hf250
  have hf270 : f266 q87 = .inl (κ 5, 6, .inr (.inr (.inr (.inr (fun _ => none))))) := (k267 _ (Ne.symm ne100)).trans hf253
  clear hf250 hf253
  refine lv_aload_n hx hb dX10_init_86 rfl (lv_at hl 0 rfl) ?_
  refine va_new (ci := 6) (fs := [.null, .null, .null, .int 0]) (C := RX6) (T := TX6) (N := 4) hx hb hts hfX6 tyX6 tyX6_ok hown (hts (.classLink RX10 43 RX6) wa_48) (hts (.instantiable RX6 4) wa_49) (hts (.initialized RX6) wa_50) hK hP hD hS hA rfl (fun j hj => by rcases tpj_4 j hj with rfl | rfl | rfl | rfl <;> rfl) (Nat.le_of_ble_eq_true rfl) (Nat.le_of_ble_eq_true rfl) dX10_init_87 (fun q271 H hP hD hS => ?_)
  refine Exists.elim (tp_grow hG hT hP hD) (fun L281 hE90 => Exists.elim hE90 (fun f280 hE91 => tn_10 hE91 (fun hP hD hg272 ht273 hs274 hq275 hz276 hn277 hf278 ho279 => ?_)))
  clear hE91 hE90
  have hn282 : ∀ a, a ∈ L → a ≠ q271 := fun a ha => hn277 a (hH.1 a ha)
  have ne283 : h0 ≠ q271 := hn277 _ hl248
  have ne284 : q64 ≠ q271 := hn277 _ hl251
  have ne285 : q87 ≠ q271 := hn277 _ hl254
  have ne286 : q9 ≠ q271 := hn277 _ (tp_in hG ht255 (by decide))
  have ne287 : q35 ≠ q271 := hn277 _ (tp_in hG ht257 (by decide))
  have ne288 : q114 ≠ q271 := hn277 _ (tp_in hG ht259 (by decide))
  have ne289 : q156 ≠ q271 := hn277 _ (tp_in hG ht260 (by decide))
  have ne290 : q212 ≠ q271 := hn277 _ (tp_in hG ht264 (by decide))
  have hG := hg272
  have hT := ht273
  have hH := hH.gr hs274 hn277 ho279
  have hf291 : f280 h0 = .inr (10, [.int 0, .int 10, .int 700, .int 0, .int 0, .int 0, .int 0, .ref q9, .ref q35, .ref q64, .ref q87, .ref q114, .ref q156, .ref q212, .null, .null, .null, .null, .null]) := (ho279 _ ne283).trans g268
  have hl292 : h0 ∈ L281 := hs274 _ hl248
  have hf293 : f280 q64 = .inl (κ 4, 6, .inr (.inr (.inr (.inr (fun _ => none))))) := (ho279 _ ne284).trans hf269
  have hl294 : q64 ∈ L281 := hs274 _ hl251
  have hf295 : f280 q87 = .inl (κ 5, 6, .inr (.inr (.inr (.inr (fun _ => none))))) := (ho279 _ ne285).trans hf270
  have hl296 : q87 ∈ L281 := hs274 _ hl254
  clear g268 hl248 hf269 hl251 hf270 hl254
  refine lv_dup hx hb dX10_init_90 rfl ?_
  refine lv_bipush (v := 20) hx hb dX10_init_91 (by decide) ?_
  have hFc := tp_fr hD hS hA
  refine va_callv (va_runI (As := [.int 20]) (rest := [.ref q271, .ref h0]) ⟨hx, hb, hml, hown, hts⟩ (t_X6_init_20 l dC dI _ Ω κ τ_241 ν_241 ρ_241 L281 f280 hG hT q271 hq275 hz276 hf278) (cwI 1 hts ggX10_init_X6_init rfl rfl rfl (hts (.initialized RX6) wa_50) (hts (.methodLink RX10 45 yX6_init) wa_65) (hts (.instanceMethod yX6_init) wa_66) rfl pd_X6_init ⟨Nat.le_of_ble_eq_true rfl, Nat.le_of_ble_eq_true rfl⟩) ⟨pz_blind, pz_pre hP hK hD hN⟩ rfl rfl hl.1 rfl (lv_room (Nat.le_of_ble_eq_true rfl)) dX10_init_93 ⟨Nat.le_of_ble_eq_true rfl, Nat.le_of_ble_eq_true rfl⟩) hS (fun q _ h => hFc q h) hFc (fun x297 t H1 locs ht hvm hw299 hB hz1 hk1 hS => ?_)
  obtain ⟨τ_301, ν_301, ρ_301, L_301, f300⟩ := x297
  obtain ⟨⟨hG9, hT9, hH9⟩, hw299p⟩ := hw299
  have hc302 := hH9.2 _ (tp_in hG ht255 (by decide)) (fun z => ne286 (Option.some.inj z))
  have hc303 := hH9.2 _ (tp_in hG ht257 (by decide)) (fun z => ne287 (Option.some.inj z))
  have hc304 := hH9.2 _ (tp_in hG ht259 (by decide)) (fun z => ne288 (Option.some.inj z))
  have hc305 := hH9.2 _ (tp_in hG ht260 (by decide)) (fun z => ne289 (Option.some.inj z))
  have hc306 := hH9.2 _ (tp_in hG ht264 (by decide)) (fun z => ne290 (Option.some.inj z))
  have hc307 := hH9.2 _ hl292 (fun z => ne283 (Option.some.inj z))
  have hf308 : f300 h0 = .inr (10, [.int 0, .int 10, .int 700, .int 0, .int 0, .int 0, .int 0, .ref q9, .ref q35, .ref q64, .ref q87, .ref q114, .ref q156, .ref q212, .null, .null, .null, .null, .null]) := (hc307.2.2.2 (by rw [hz261]; decide)).trans hf291
  have hl309 := hH9.1 _ hl292
  have hc310 := hH9.2 _ hl294 (fun z => ne284 (Option.some.inj z))
  have hf311 : f300 q64 = .inl (κ 4, 6, .inr (.inr (.inr (.inr (fun _ => none))))) := (hc310.2.2.2 (by rw [hz262]; decide)).trans hf293
  have hl312 := hH9.1 _ hl294
  have hc313 := hH9.2 _ hl296 (fun z => ne285 (Option.some.inj z))
  have hf314 : f300 q87 = .inl (κ 5, 6, .inr (.inr (.inr (.inr (fun _ => none))))) := (hc313.2.2.2 (by rw [hz263]; decide)).trans hf295
  have hl315 := hH9.1 _ hl296
  have hH := hH.call hH9 (by decide) (fun a ha _ z => hn282 a ha (Option.some.inj z))
  have hG : tp_G τ_301 ν_301 ρ_301 L_301 := hG9; have hT : tp_T Ω κ τ_301 ν_301 ρ_301 f300 := hT9
  have hH : tp_H τ ν ρ L f [] (some h0) τ_301 ν_301 ρ_301 L_301 f300 := hH
  have hP := hB.1; rw [ht] at hP; have hD := tp_Dw hB.2.2 hFc; clear hB hFc hz1 hk1; subst ht; generalize t.heap = H at hP hS ⊢
  have hP : va_P (dC, dI) vwCl (va_pl L_301 f300) H := hP
  have hD : va_D A (va_pl L_301 f300) := hD
  have ht316 : τ_301 q9 = 20 := hc302.1.trans ht255
  have hn317 : ν_301 q9 = 25 := hc302.2.1.trans hn256
  have ht318 : τ_301 q35 = 20 := hc303.1.trans ht257
  have hn319 : ν_301 q35 = 100 := hc303.2.1.trans hn258
  have ht320 : τ_301 q114 = 26 := hc304.1.trans ht259
  have ht321 : τ_301 q156 = 7 := hc305.1.trans ht260
  have ht322 : τ_301 q212 = 7 := hc306.1.trans ht264
  have hz323 : τ_301 h0 = 0 := hc307.1.trans hz261
  have hz324 : τ_301 q64 = 0 := hc310.1.trans hz262
  have hz325 : τ_301 q87 = 0 := hc313.1.trans hz263
  clear ht255 hn256 ht257 hn258 ht259 ht260 ht264 hz261 hz262 hz263 ne283 ne284 ne285 ne286 ne287 ne288 ne289 ne290 hc302 hc303 hc304 hc305 hc306 hc307 hc310 hc313 hG9 hT9 hH9
  have ht326 : τ_301 q271 = 7 := hw299p
  refine tpk_pos hl309 hf308 (fun q327 eq327 => ?_)
  refine va_putF (D := (dC, dI)) (ci := 10) (v := .ref q271) (ty := (.object "ColdShips$Spans")) (C := RX10) (T := TX10) (N := 19) hx hb hts hfX10 tyX10 tyX10_ok nmX10 hown hK hP hD hS q327 eq327 rfl 14 (by decide) (hts (.fieldLink RX10 55 "ColdShips$World" "forces" "LColdShips$Spans;") wa_53) (fun _ h9 => h9) rfl hin rfl (tyX10_ok 14 (by decide)) rfl rfl (Nat.le_of_ble_eq_true rfl) dX10_init_96 (tp_k (.inr (10, [.int 0, .int 10, .int 700, .int 0, .int 0, .int 0, .int 0, .ref q9, .ref q35, .ref q64, .ref q87, .ref q114, .ref q156, .ref q212, .ref q271, .null, .null, .null, .null])) hD hl309 eq327 (fun f328 H locs hP hD hS g330 k329 => ?_))
  have hT := hT.raw hz323 k329
  have hH := hH.wo k329
  have hf331 : f328 q64 = .inl (κ 4, 6, .inr (.inr (.inr (.inr (fun _ => none))))) := (k329 _ (Ne.symm ne77)).trans hf311
  have hf332 : f328 q87 = .inl (κ 5, 6, .inr (.inr (.inr (.inr (fun _ => none))))) := (k329 _ (Ne.symm ne100)).trans hf314
  clear hf311 hf314
  refine lv_aload_n hx hb dX10_init_99 rfl (lv_at hl 0 rfl) ?_
  refine va_new (ci := 4) (fs := [.int 0, .null, .int 0]) (C := RX4) (T := TX4) (N := 3) hx hb hts hfX4 tyX4 tyX4_ok hown (hts (.classLink RX10 58 RX4) wa_54) (hts (.instantiable RX4 3) wa_55) (hts (.initialized RX4) wa_56) hK hP hD hS hA rfl (fun j hj => by rcases tpj_3 j hj with rfl | rfl | rfl <;> rfl) (Nat.le_of_ble_eq_true rfl) (Nat.le_of_ble_eq_true rfl) dX10_init_100 (fun q333 H hP hD hS => ?_)
  refine Exists.elim (tp_grow hG hT hP hD) (fun L343 hE90 => Exists.elim hE90 (fun f342 hE91 => tn_10 hE91 (fun hP hD hg334 ht335 hs336 hq337 hz338 hn339 hf340 ho341 => ?_)))
  clear hE91 hE90
  have hn344 : ∀ a, a ∈ L → a ≠ q333 := fun a ha => hn339 a (hH.1 a ha)
  have ne345 : h0 ≠ q333 := hn339 _ hl309
  have ne346 : q64 ≠ q333 := hn339 _ hl312
  have ne347 : q87 ≠ q333 := hn339 _ hl315
  have ne348 : q9 ≠ q333 := hn339 _ (tp_in hG ht316 (by decide))
  have ne349 : q35 ≠ q333 := hn339 _ (tp_in hG ht318 (by decide))
  have ne350 : q114 ≠ q333 := hn339 _ (tp_in hG ht320 (by decide))
  have ne351 : q156 ≠ q333 := hn339 _ (tp_in hG ht321 (by decide))
  have ne352 : q212 ≠ q333 := hn339 _ (tp_in hG ht322 (by decide))
  have ne353 : q271 ≠ q333 := hn339 _ (tp_in hG ht326 (by decide))
  have hG := hg334
  have hT := ht335
  have hH := hH.gr hs336 hn339 ho341
  have hf354 : f342 h0 = .inr (10, [.int 0, .int 10, .int 700, .int 0, .int 0, .int 0, .int 0, .ref q9, .ref q35, .ref q64, .ref q87, .ref q114, .ref q156, .ref q212, .ref q271, .null, .null, .null, .null]) := (ho341 _ ne345).trans g330
  have hl355 : h0 ∈ L343 := hs336 _ hl309
  have hf356 : f342 q64 = .inl (κ 4, 6, .inr (.inr (.inr (.inr (fun _ => none))))) := (ho341 _ ne346).trans hf331
  have hl357 : q64 ∈ L343 := hs336 _ hl312
  have hf358 : f342 q87 = .inl (κ 5, 6, .inr (.inr (.inr (.inr (fun _ => none))))) := (ho341 _ ne347).trans hf332
  have hl359 : q87 ∈ L343 := hs336 _ hl315
  clear g330 hl309 hf331 hl312 hf332 hl315
  refine lv_dup hx hb dX10_init_103 rfl ?_
  refine lv_bipush (v := 60) hx hb dX10_init_104 (by decide) ?_
  refine lv_iconst (v := 3) hx hb dX10_init_106 (by decide) ?_
  have hFc := tp_fr hD hS hA
  refine va_callv (va_runI (As := [.int 60, .int 3]) (rest := [.ref q333, .ref h0]) ⟨hx, hb, hml, hown, hts⟩ (t_X4_init_60_3 l dC dI _ Ω κ τ_301 ν_301 ρ_301 L343 f342 hG hT q333 hq337 hz338 hf340) (cwI 2 hts ggX10_init_X4_init rfl rfl rfl (hts (.initialized RX4) wa_56) (hts (.methodLink RX10 60 yX4_init) wa_76) (hts (.instanceMethod yX4_init) wa_77) rfl pd_X4_init ⟨Nat.le_of_ble_eq_true rfl, Nat.le_of_ble_eq_true rfl⟩) ⟨pz_blind, pz_pre hP hK hD hN⟩ rfl rfl hl.1 rfl (lv_room (Nat.le_of_ble_eq_true rfl)) dX10_init_107 ⟨Nat.le_of_ble_eq_true rfl, Nat.le_of_ble_eq_true rfl⟩) hS (fun q _ h => hFc q h) hFc (fun x360 t H1 locs ht hvm hw362 hB hz1 hk1 hS => ?_)
  obtain ⟨τ_364, ν_364, ρ_364, L_364, f363⟩ := x360
  obtain ⟨⟨hG9, hT9, hH9⟩, hw362p⟩ := hw362
  have hc365 := hH9.2 _ (tp_in hG ht316 (by decide)) (fun z => ne348 (Option.some.inj z))
  have hc366 := hH9.2 _ (tp_in hG ht318 (by decide)) (fun z => ne349 (Option.some.inj z))
  have hc367 := hH9.2 _ (tp_in hG ht320 (by decide)) (fun z => ne350 (Option.some.inj z))
  have hc368 := hH9.2 _ (tp_in hG ht321 (by decide)) (fun z => ne351 (Option.some.inj z))
  have hc369 := hH9.2 _ (tp_in hG ht322 (by decide)) (fun z => ne352 (Option.some.inj z))
  have hc370 := hH9.2 _ (tp_in hG ht326 (by decide)) (fun z => ne353 (Option.some.inj z))
  have hc371 := hH9.2 _ hl355 (fun z => ne345 (Option.some.inj z))
  have hf372 : f363 h0 = .inr (10, [.int 0, .int 10, .int 700, .int 0, .int 0, .int 0, .int 0, .ref q9, .ref q35, .ref q64, .ref q87, .ref q114, .ref q156, .ref q212, .ref q271, .null, .null, .null, .null]) := (hc371.2.2.2 (by rw [hz323]; decide)).trans hf354
  have hl373 := hH9.1 _ hl355
  have hc374 := hH9.2 _ hl357 (fun z => ne346 (Option.some.inj z))
  have hf375 : f363 q64 = .inl (κ 4, 6, .inr (.inr (.inr (.inr (fun _ => none))))) := (hc374.2.2.2 (by rw [hz324]; decide)).trans hf356
  have hl376 := hH9.1 _ hl357
  have hc377 := hH9.2 _ hl359 (fun z => ne347 (Option.some.inj z))
  have hf378 : f363 q87 = .inl (κ 5, 6, .inr (.inr (.inr (.inr (fun _ => none))))) := (hc377.2.2.2 (by rw [hz325]; decide)).trans hf358
  have hl379 := hH9.1 _ hl359
  have hH := hH.call hH9 (by decide) (fun a ha _ z => hn344 a ha (Option.some.inj z))
  have hG : tp_G τ_364 ν_364 ρ_364 L_364 := hG9; have hT : tp_T Ω κ τ_364 ν_364 ρ_364 f363 := hT9
  have hH : tp_H τ ν ρ L f [] (some h0) τ_364 ν_364 ρ_364 L_364 f363 := hH
  have hP := hB.1; rw [ht] at hP; have hD := tp_Dw hB.2.2 hFc; clear hB hFc hz1 hk1; subst ht; generalize t.heap = H at hP hS ⊢
  have hP : va_P (dC, dI) vwCl (va_pl L_364 f363) H := hP
  have hD : va_D A (va_pl L_364 f363) := hD
  have ht380 : τ_364 q9 = 20 := hc365.1.trans ht316
  have hn381 : ν_364 q9 = 25 := hc365.2.1.trans hn317
  have ht382 : τ_364 q35 = 20 := hc366.1.trans ht318
  have hn383 : ν_364 q35 = 100 := hc366.2.1.trans hn319
  have ht384 : τ_364 q114 = 26 := hc367.1.trans ht320
  have ht385 : τ_364 q156 = 7 := hc368.1.trans ht321
  have ht386 : τ_364 q212 = 7 := hc369.1.trans ht322
  have ht387 : τ_364 q271 = 7 := hc370.1.trans ht326
  have hz388 : τ_364 h0 = 0 := hc371.1.trans hz323
  have hz389 : τ_364 q64 = 0 := hc374.1.trans hz324
  have hz390 : τ_364 q87 = 0 := hc377.1.trans hz325
  clear ht316 hn317 ht318 hn319 ht320 ht321 ht322 ht326 hz323 hz324 hz325 ne345 ne346 ne347 ne348 ne349 ne350 ne351 ne352 ne353 hc365 hc366 hc367 hc368 hc369 hc370 hc371 hc374 hc377 hG9 hT9 hH9
  have ht391 : τ_364 q333 = 5 := hw362p.1
  have hx392 : ρ_364 q333 10 = 3 ∧ ρ_364 q333 11 = 60 := hw362p.2
  refine tpk_pos hl373 hf372 (fun q393 eq393 => ?_)
  refine va_putF (D := (dC, dI)) (ci := 10) (v := .ref q333) (ty := (.object "ColdShips$Rows")) (C := RX10) (T := TX10) (N := 19) hx hb hts hfX10 tyX10 tyX10_ok nmX10 hown hK hP hD hS q393 eq393 rfl 15 (by decide) (hts (.fieldLink RX10 63 "ColdShips$World" "prices" "LColdShips$Rows;") wa_57) (fun _ h9 => h9) rfl hin rfl (tyX10_ok 15 (by decide)) rfl rfl (Nat.le_of_ble_eq_true rfl) dX10_init_110 (tp_k (.inr (10, [.int 0, .int 10, .int 700, .int 0, .int 0, .int 0, .int 0, .ref q9, .ref q35, .ref q64, .ref q87, .ref q114, .ref q156, .ref q212, .ref q271, .ref q333, .null, .null, .null])) hD hl373 eq393 (fun f394 H locs hP hD hS g396 k395 => ?_))
  have hT := hT.raw hz388 k395
  have hH := hH.wo k395
  have hf397 : f394 q64 = .inl (κ 4, 6, .inr (.inr (.inr (.inr (fun _ => none))))) := (k395 _ (Ne.symm ne77)).trans hf375
  have hf398 : f394 q87 = .inl (κ 5, 6, .inr (.inr (.inr (.inr (fun _ => none))))) := (k395 _ (Ne.symm ne100)).trans hf378
  clear hf375 hf378
  refine lv_aload_n hx hb dX10_init_113 rfl (lv_at hl 0 rfl) ?_
  refine va_new (ci := 4) (fs := [.int 0, .null, .int 0]) (C := RX4) (T := TX4) (N := 3) hx hb hts hfX4 tyX4 tyX4_ok hown (hts (.classLink RX10 58 RX4) wa_54) (hts (.instantiable RX4 3) wa_55) (hts (.initialized RX4) wa_56) hK hP hD hS hA rfl (fun j hj => by rcases tpj_3 j hj with rfl | rfl | rfl <;> rfl) (Nat.le_of_ble_eq_true rfl) (Nat.le_of_ble_eq_true rfl) dX10_init_114 (fun q399 H hP hD hS => ?_)
  refine Exists.elim (tp_grow hG hT hP hD) (fun L409 hE90 => Exists.elim hE90 (fun f408 hE91 => tn_10 hE91 (fun hP hD hg400 ht401 hs402 hq403 hz404 hn405 hf406 ho407 => ?_)))
  clear hE91 hE90
  have hn410 : ∀ a, a ∈ L → a ≠ q399 := fun a ha => hn405 a (hH.1 a ha)
  have ne411 : h0 ≠ q399 := hn405 _ hl373
  have ne412 : q64 ≠ q399 := hn405 _ hl376
  have ne413 : q87 ≠ q399 := hn405 _ hl379
  have ne414 : q9 ≠ q399 := hn405 _ (tp_in hG ht380 (by decide))
  have ne415 : q35 ≠ q399 := hn405 _ (tp_in hG ht382 (by decide))
  have ne416 : q114 ≠ q399 := hn405 _ (tp_in hG ht384 (by decide))
  have ne417 : q156 ≠ q399 := hn405 _ (tp_in hG ht385 (by decide))
  have ne418 : q212 ≠ q399 := hn405 _ (tp_in hG ht386 (by decide))
  have ne419 : q271 ≠ q399 := hn405 _ (tp_in hG ht387 (by decide))
  have ne420 : q333 ≠ q399 := hn405 _ (tp_in hG ht391 (by decide))
  have hG := hg400
  have hT := ht401
  have hH := hH.gr hs402 hn405 ho407
  have hf421 : f408 h0 = .inr (10, [.int 0, .int 10, .int 700, .int 0, .int 0, .int 0, .int 0, .ref q9, .ref q35, .ref q64, .ref q87, .ref q114, .ref q156, .ref q212, .ref q271, .ref q333, .null, .null, .null]) := (ho407 _ ne411).trans g396
  have hl422 : h0 ∈ L409 := hs402 _ hl373
  have hf423 : f408 q64 = .inl (κ 4, 6, .inr (.inr (.inr (.inr (fun _ => none))))) := (ho407 _ ne412).trans hf397
  have hl424 : q64 ∈ L409 := hs402 _ hl376
  have hf425 : f408 q87 = .inl (κ 5, 6, .inr (.inr (.inr (.inr (fun _ => none))))) := (ho407 _ ne413).trans hf398
  have hl426 : q87 ∈ L409 := hs402 _ hl379
  clear g396 hl373 hf397 hl376 hf398 hl379
  refine lv_dup hx hb dX10_init_117 rfl ?_
  refine lv_bipush (v := 60) hx hb dX10_init_118 (by decide) ?_
  refine lv_iconst (v := 5) hx hb dX10_init_120 (by decide) ?_
  have hFc := tp_fr hD hS hA
  refine va_callv (va_runI (As := [.int 60, .int 5]) (rest := [.ref q399, .ref h0]) ⟨hx, hb, hml, hown, hts⟩ (t_X4_init_60_5 l dC dI _ Ω κ τ_364 ν_364 ρ_364 L409 f408 hG hT q399 hq403 hz404 hf406) (cwI 2 hts ggX10_init_X4_init rfl rfl rfl (hts (.initialized RX4) wa_56) (hts (.methodLink RX10 60 yX4_init) wa_76) (hts (.instanceMethod yX4_init) wa_77) rfl pd_X4_init ⟨Nat.le_of_ble_eq_true rfl, Nat.le_of_ble_eq_true rfl⟩) ⟨pz_blind, pz_pre hP hK hD hN⟩ rfl rfl hl.1 rfl (lv_room (Nat.le_of_ble_eq_true rfl)) dX10_init_121 ⟨Nat.le_of_ble_eq_true rfl, Nat.le_of_ble_eq_true rfl⟩) hS (fun q _ h => hFc q h) hFc (fun x427 t H1 locs ht hvm hw429 hB hz1 hk1 hS => ?_)
  obtain ⟨τ_431, ν_431, ρ_431, L_431, f430⟩ := x427
  obtain ⟨⟨hG9, hT9, hH9⟩, hw429p⟩ := hw429
  have hc432 := hH9.2 _ (tp_in hG ht380 (by decide)) (fun z => ne414 (Option.some.inj z))
  have hc433 := hH9.2 _ (tp_in hG ht382 (by decide)) (fun z => ne415 (Option.some.inj z))
  have hc434 := hH9.2 _ (tp_in hG ht384 (by decide)) (fun z => ne416 (Option.some.inj z))
  have hc435 := hH9.2 _ (tp_in hG ht385 (by decide)) (fun z => ne417 (Option.some.inj z))
  have hc436 := hH9.2 _ (tp_in hG ht386 (by decide)) (fun z => ne418 (Option.some.inj z))
  have hc437 := hH9.2 _ (tp_in hG ht387 (by decide)) (fun z => ne419 (Option.some.inj z))
  have hc438 := hH9.2 _ (tp_in hG ht391 (by decide)) (fun z => ne420 (Option.some.inj z))
  have hc439 := hH9.2 _ hl422 (fun z => ne411 (Option.some.inj z))
  have hf440 : f430 h0 = .inr (10, [.int 0, .int 10, .int 700, .int 0, .int 0, .int 0, .int 0, .ref q9, .ref q35, .ref q64, .ref q87, .ref q114, .ref q156, .ref q212, .ref q271, .ref q333, .null, .null, .null]) := (hc439.2.2.2 (by rw [hz388]; decide)).trans hf421
  have hl441 := hH9.1 _ hl422
  have hc442 := hH9.2 _ hl424 (fun z => ne412 (Option.some.inj z))
  have hf443 : f430 q64 = .inl (κ 4, 6, .inr (.inr (.inr (.inr (fun _ => none))))) := (hc442.2.2.2 (by rw [hz389]; decide)).trans hf423
  have hl444 := hH9.1 _ hl424
  have hc445 := hH9.2 _ hl426 (fun z => ne413 (Option.some.inj z))
  have hf446 : f430 q87 = .inl (κ 5, 6, .inr (.inr (.inr (.inr (fun _ => none))))) := (hc445.2.2.2 (by rw [hz390]; decide)).trans hf425
  have hl447 := hH9.1 _ hl426
  have hH := hH.call hH9 (by decide) (fun a ha _ z => hn410 a ha (Option.some.inj z))
  have hG : tp_G τ_431 ν_431 ρ_431 L_431 := hG9; have hT : tp_T Ω κ τ_431 ν_431 ρ_431 f430 := hT9
  have hH : tp_H τ ν ρ L f [] (some h0) τ_431 ν_431 ρ_431 L_431 f430 := hH
  have hP := hB.1; rw [ht] at hP; have hD := tp_Dw hB.2.2 hFc; clear hB hFc hz1 hk1; subst ht; generalize t.heap = H at hP hS ⊢
  have hP : va_P (dC, dI) vwCl (va_pl L_431 f430) H := hP
  have hD : va_D A (va_pl L_431 f430) := hD
  have ht448 : τ_431 q9 = 20 := hc432.1.trans ht380
  have hn449 : ν_431 q9 = 25 := hc432.2.1.trans hn381
  have ht450 : τ_431 q35 = 20 := hc433.1.trans ht382
  have hn451 : ν_431 q35 = 100 := hc433.2.1.trans hn383
  have ht452 : τ_431 q114 = 26 := hc434.1.trans ht384
  have ht453 : τ_431 q156 = 7 := hc435.1.trans ht385
  have ht454 : τ_431 q212 = 7 := hc436.1.trans ht386
  have ht455 : τ_431 q271 = 7 := hc437.1.trans ht387
  have ht456 : τ_431 q333 = 5 := hc438.1.trans ht391
  have hx457 : ρ_431 q333 10 = 3 ∧ ρ_431 q333 11 = 60 := by have q9 : ρ_431 q333 = _ := hc438.2.2.1; rw [q9]; exact hx392
  have hz458 : τ_431 h0 = 0 := hc439.1.trans hz388
  have hz459 : τ_431 q64 = 0 := hc442.1.trans hz389
  have hz460 : τ_431 q87 = 0 := hc445.1.trans hz390
  clear ht380 hn381 ht382 hn383 ht384 ht385 ht386 ht387 ht391 hx392 hz388 hz389 hz390 ne411 ne412 ne413 ne414 ne415 ne416 ne417 ne418 ne419 ne420 hc432 hc433 hc434 hc435 hc436 hc437 hc438 hc439 hc442 hc445 hG9 hT9 hH9
  have ht461 : τ_431 q399 = 5 := hw429p.1
  have hx462 : ρ_431 q399 10 = 5 ∧ ρ_431 q399 11 = 60 := hw429p.2
  refine tpk_pos hl441 hf440 (fun q463 eq463 => ?_)
  refine va_putF (D := (dC, dI)) (ci := 10) (v := .ref q399) (ty := (.object "ColdShips$Rows")) (C := RX10) (T := TX10) (N := 19) hx hb hts hfX10 tyX10 tyX10_ok nmX10 hown hK hP hD hS q463 eq463 rfl 16 (by decide) (hts (.fieldLink RX10 67 "ColdShips$World" "readings" "LColdShips$Rows;") wa_58) (fun _ h9 => h9) rfl hin rfl (tyX10_ok 16 (by decide)) rfl rfl (Nat.le_of_ble_eq_true rfl) dX10_init_124 (tp_k (.inr (10, [.int 0, .int 10, .int 700, .int 0, .int 0, .int 0, .int 0, .ref q9, .ref q35, .ref q64, .ref q87, .ref q114, .ref q156, .ref q212, .ref q271, .ref q333, .ref q399, .null, .null])) hD hl441 eq463 (fun f464 H locs hP hD hS g466 k465 => ?_))
  have hT := hT.raw hz458 k465
  have hH := hH.wo k465
  have hf467 : f464 q64 = .inl (κ 4, 6, .inr (.inr (.inr (.inr (fun _ => none))))) := (k465 _ (Ne.symm ne77)).trans hf443
  have hf468 : f464 q87 = .inl (κ 5, 6, .inr (.inr (.inr (.inr (fun _ => none))))) := (k465 _ (Ne.symm ne100)).trans hf446
  clear hf443 hf446
  refine lv_aload_n hx hb dX10_init_127 rfl (lv_at hl 0 rfl) ?_
  refine va_new (ci := 4) (fs := [.int 0, .null, .int 0]) (C := RX4) (T := TX4) (N := 3) hx hb hts hfX4 tyX4 tyX4_ok hown (hts (.classLink RX10 58 RX4) wa_54) (hts (.instantiable RX4 3) wa_55) (hts (.initialized RX4) wa_56) hK hP hD hS hA rfl (fun j hj => by rcases tpj_3 j hj with rfl | rfl | rfl <;> rfl) (Nat.le_of_ble_eq_true rfl) (Nat.le_of_ble_eq_true rfl) dX10_init_128 (fun q469 H hP hD hS => ?_)
  refine Exists.elim (tp_grow hG hT hP hD) (fun L479 hE90 => Exists.elim hE90 (fun f478 hE91 => tn_10 hE91 (fun hP hD hg470 ht471 hs472 hq473 hz474 hn475 hf476 ho477 => ?_)))
  clear hE91 hE90
  have hn480 : ∀ a, a ∈ L → a ≠ q469 := fun a ha => hn475 a (hH.1 a ha)
  have ne481 : h0 ≠ q469 := hn475 _ hl441
  have ne482 : q64 ≠ q469 := hn475 _ hl444
  have ne483 : q87 ≠ q469 := hn475 _ hl447
  have ne484 : q9 ≠ q469 := hn475 _ (tp_in hG ht448 (by decide))
  have ne485 : q35 ≠ q469 := hn475 _ (tp_in hG ht450 (by decide))
  have ne486 : q114 ≠ q469 := hn475 _ (tp_in hG ht452 (by decide))
  have ne487 : q156 ≠ q469 := hn475 _ (tp_in hG ht453 (by decide))
  have ne488 : q212 ≠ q469 := hn475 _ (tp_in hG ht454 (by decide))
  have ne489 : q271 ≠ q469 := hn475 _ (tp_in hG ht455 (by decide))
  have ne490 : q333 ≠ q469 := hn475 _ (tp_in hG ht456 (by decide))
  have ne491 : q399 ≠ q469 := hn475 _ (tp_in hG ht461 (by decide))
  have hG := hg470
  have hT := ht471
  have hH := hH.gr hs472 hn475 ho477
  have hf492 : f478 h0 = .inr (10, [.int 0, .int 10, .int 700, .int 0, .int 0, .int 0, .int 0, .ref q9, .ref q35, .ref q64, .ref q87, .ref q114, .ref q156, .ref q212, .ref q271, .ref q333, .ref q399, .null, .null]) := (ho477 _ ne481).trans g466
  have hl493 : h0 ∈ L479 := hs472 _ hl441
  have hf494 : f478 q64 = .inl (κ 4, 6, .inr (.inr (.inr (.inr (fun _ => none))))) := (ho477 _ ne482).trans hf467
  have hl495 : q64 ∈ L479 := hs472 _ hl444
  have hf496 : f478 q87 = .inl (κ 5, 6, .inr (.inr (.inr (.inr (fun _ => none))))) := (ho477 _ ne483).trans hf468
  have hl497 : q87 ∈ L479 := hs472 _ hl447
  clear g466 hl441 hf467 hl444 hf468 hl447
  refine lv_dup hx hb dX10_init_131 rfl ?_
  refine lv_bipush (v := 60) hx hb dX10_init_132 (by decide) ?_
  refine lv_bipush (v := 15) hx hb dX10_init_134 (by decide) ?_
  have hFc := tp_fr hD hS hA
  refine va_callv (va_runI (As := [.int 60, .int 15]) (rest := [.ref q469, .ref h0]) ⟨hx, hb, hml, hown, hts⟩ (t_X4_init_60_15 l dC dI _ Ω κ τ_431 ν_431 ρ_431 L479 f478 hG hT q469 hq473 hz474 hf476) (cwI 2 hts ggX10_init_X4_init rfl rfl rfl (hts (.initialized RX4) wa_56) (hts (.methodLink RX10 60 yX4_init) wa_76) (hts (.instanceMethod yX4_init) wa_77) rfl pd_X4_init ⟨Nat.le_of_ble_eq_true rfl, Nat.le_of_ble_eq_true rfl⟩) ⟨pz_blind, pz_pre hP hK hD hN⟩ rfl rfl hl.1 rfl (lv_room (Nat.le_of_ble_eq_true rfl)) dX10_init_136 ⟨Nat.le_of_ble_eq_true rfl, Nat.le_of_ble_eq_true rfl⟩) hS (fun q _ h => hFc q h) hFc (fun x498 t H1 locs ht hvm hw500 hB hz1 hk1 hS => ?_)
  obtain ⟨τ_502, ν_502, ρ_502, L_502, f501⟩ := x498
  obtain ⟨⟨hG9, hT9, hH9⟩, hw500p⟩ := hw500
  have hc503 := hH9.2 _ (tp_in hG ht448 (by decide)) (fun z => ne484 (Option.some.inj z))
  have hc504 := hH9.2 _ (tp_in hG ht450 (by decide)) (fun z => ne485 (Option.some.inj z))
  have hc505 := hH9.2 _ (tp_in hG ht452 (by decide)) (fun z => ne486 (Option.some.inj z))
  have hc506 := hH9.2 _ (tp_in hG ht453 (by decide)) (fun z => ne487 (Option.some.inj z))
  have hc507 := hH9.2 _ (tp_in hG ht454 (by decide)) (fun z => ne488 (Option.some.inj z))
  have hc508 := hH9.2 _ (tp_in hG ht455 (by decide)) (fun z => ne489 (Option.some.inj z))
  have hc509 := hH9.2 _ (tp_in hG ht456 (by decide)) (fun z => ne490 (Option.some.inj z))
  have hc510 := hH9.2 _ (tp_in hG ht461 (by decide)) (fun z => ne491 (Option.some.inj z))
  have hc511 := hH9.2 _ hl493 (fun z => ne481 (Option.some.inj z))
  have hf512 : f501 h0 = .inr (10, [.int 0, .int 10, .int 700, .int 0, .int 0, .int 0, .int 0, .ref q9, .ref q35, .ref q64, .ref q87, .ref q114, .ref q156, .ref q212, .ref q271, .ref q333, .ref q399, .null, .null]) := (hc511.2.2.2 (by rw [hz458]; decide)).trans hf492
  have hl513 := hH9.1 _ hl493
  have hc514 := hH9.2 _ hl495 (fun z => ne482 (Option.some.inj z))
  have hf515 : f501 q64 = .inl (κ 4, 6, .inr (.inr (.inr (.inr (fun _ => none))))) := (hc514.2.2.2 (by rw [hz459]; decide)).trans hf494
  have hl516 := hH9.1 _ hl495
  have hc517 := hH9.2 _ hl497 (fun z => ne483 (Option.some.inj z))
  have hf518 : f501 q87 = .inl (κ 5, 6, .inr (.inr (.inr (.inr (fun _ => none))))) := (hc517.2.2.2 (by rw [hz460]; decide)).trans hf496
  have hl519 := hH9.1 _ hl497
  have hH := hH.call hH9 (by decide) (fun a ha _ z => hn480 a ha (Option.some.inj z))
  have hG : tp_G τ_502 ν_502 ρ_502 L_502 := hG9; have hT : tp_T Ω κ τ_502 ν_502 ρ_502 f501 := hT9
  have hH : tp_H τ ν ρ L f [] (some h0) τ_502 ν_502 ρ_502 L_502 f501 := hH
  have hP := hB.1; rw [ht] at hP; have hD := tp_Dw hB.2.2 hFc; clear hB hFc hz1 hk1; subst ht; generalize t.heap = H at hP hS ⊢
  have hP : va_P (dC, dI) vwCl (va_pl L_502 f501) H := hP
  have hD : va_D A (va_pl L_502 f501) := hD
  have ht520 : τ_502 q9 = 20 := hc503.1.trans ht448
  have hn521 : ν_502 q9 = 25 := hc503.2.1.trans hn449
  have ht522 : τ_502 q35 = 20 := hc504.1.trans ht450
  have hn523 : ν_502 q35 = 100 := hc504.2.1.trans hn451
  have ht524 : τ_502 q114 = 26 := hc505.1.trans ht452
  have ht525 : τ_502 q156 = 7 := hc506.1.trans ht453
  have ht526 : τ_502 q212 = 7 := hc507.1.trans ht454
  have ht527 : τ_502 q271 = 7 := hc508.1.trans ht455
  have ht528 : τ_502 q333 = 5 := hc509.1.trans ht456
  have hx529 : ρ_502 q333 10 = 3 ∧ ρ_502 q333 11 = 60 := by have q9 : ρ_502 q333 = _ := hc509.2.2.1; rw [q9]; exact hx457
  have ht530 : τ_502 q399 = 5 := hc510.1.trans ht461
  have hx531 : ρ_502 q399 10 = 5 ∧ ρ_502 q399 11 = 60 := by have q9 : ρ_502 q399 = _ := hc510.2.2.1; rw [q9]; exact hx462
  have hz532 : τ_502 h0 = 0 := hc511.1.trans hz458
  have hz533 : τ_502 q64 = 0 := hc514.1.trans hz459
  have hz534 : τ_502 q87 = 0 := hc517.1.trans hz460
  clear ht448 hn449 ht450 hn451 ht452 ht453 ht454 ht455 ht456 hx457 ht461 hx462 hz458 hz459 hz460 ne481 ne482 ne483 ne484 ne485 ne486 ne487 ne488 ne489 ne490 ne491 hc503 hc504 hc505 hc506 hc507 hc508 hc509 hc510 hc511 hc514 hc517 hG9 hT9 hH9
  have ht535 : τ_502 q469 = 5 := hw500p.1
  have hx536 : ρ_502 q469 10 = 15 ∧ ρ_502 q469 11 = 60 := hw500p.2
  refine tpk_pos hl513 hf512 (fun q537 eq537 => ?_)
  refine va_putF (D := (dC, dI)) (ci := 10) (v := .ref q469) (ty := (.object "ColdShips$Rows")) (C := RX10) (T := TX10) (N := 19) hx hb hts hfX10 tyX10 tyX10_ok nmX10 hown hK hP hD hS q537 eq537 rfl 17 (by decide) (hts (.fieldLink RX10 70 "ColdShips$World" "landings" "LColdShips$Rows;") wa_59) (fun _ h9 => h9) rfl hin rfl (tyX10_ok 17 (by decide)) rfl rfl (Nat.le_of_ble_eq_true rfl) dX10_init_139 (tp_k (.inr (10, [.int 0, .int 10, .int 700, .int 0, .int 0, .int 0, .int 0, .ref q9, .ref q35, .ref q64, .ref q87, .ref q114, .ref q156, .ref q212, .ref q271, .ref q333, .ref q399, .ref q469, .null])) hD hl513 eq537 (fun f538 H locs hP hD hS g540 k539 => ?_))
  have hT := hT.raw hz532 k539
  have hH := hH.wo k539
  have hf541 : f538 q64 = .inl (κ 4, 6, .inr (.inr (.inr (.inr (fun _ => none))))) := (k539 _ (Ne.symm ne77)).trans hf515
  have hf542 : f538 q87 = .inl (κ 5, 6, .inr (.inr (.inr (.inr (fun _ => none))))) := (k539 _ (Ne.symm ne100)).trans hf518
  clear hf515 hf518
  refine lv_aload_n hx hb dX10_init_142 rfl (lv_at hl 0 rfl) ?_
  refine va_new (ci := 4) (fs := [.int 0, .null, .int 0]) (C := RX4) (T := TX4) (N := 3) hx hb hts hfX4 tyX4 tyX4_ok hown (hts (.classLink RX10 58 RX4) wa_54) (hts (.instantiable RX4 3) wa_55) (hts (.initialized RX4) wa_56) hK hP hD hS hA rfl (fun j hj => by rcases tpj_3 j hj with rfl | rfl | rfl <;> rfl) (Nat.le_of_ble_eq_true rfl) (Nat.le_of_ble_eq_true rfl) dX10_init_143 (fun q543 H hP hD hS => ?_)
  refine Exists.elim (tp_grow hG hT hP hD) (fun L553 hE90 => Exists.elim hE90 (fun f552 hE91 => tn_10 hE91 (fun hP hD hg544 ht545 hs546 hq547 hz548 hn549 hf550 ho551 => ?_)))
  clear hE91 hE90
  have hn554 : ∀ a, a ∈ L → a ≠ q543 := fun a ha => hn549 a (hH.1 a ha)
  have ne555 : h0 ≠ q543 := hn549 _ hl513
  have ne556 : q64 ≠ q543 := hn549 _ hl516
  have ne557 : q87 ≠ q543 := hn549 _ hl519
  have ne558 : q9 ≠ q543 := hn549 _ (tp_in hG ht520 (by decide))
  have ne559 : q35 ≠ q543 := hn549 _ (tp_in hG ht522 (by decide))
  have ne560 : q114 ≠ q543 := hn549 _ (tp_in hG ht524 (by decide))
  have ne561 : q156 ≠ q543 := hn549 _ (tp_in hG ht525 (by decide))
  have ne562 : q212 ≠ q543 := hn549 _ (tp_in hG ht526 (by decide))
  have ne563 : q271 ≠ q543 := hn549 _ (tp_in hG ht527 (by decide))
  have ne564 : q333 ≠ q543 := hn549 _ (tp_in hG ht528 (by decide))
  have ne565 : q399 ≠ q543 := hn549 _ (tp_in hG ht530 (by decide))
  have ne566 : q469 ≠ q543 := hn549 _ (tp_in hG ht535 (by decide))
  have hG := hg544
  have hT := ht545
  have hH := hH.gr hs546 hn549 ho551
  have hf567 : f552 h0 = .inr (10, [.int 0, .int 10, .int 700, .int 0, .int 0, .int 0, .int 0, .ref q9, .ref q35, .ref q64, .ref q87, .ref q114, .ref q156, .ref q212, .ref q271, .ref q333, .ref q399, .ref q469, .null]) := (ho551 _ ne555).trans g540
  have hl568 : h0 ∈ L553 := hs546 _ hl513
  have hf569 : f552 q64 = .inl (κ 4, 6, .inr (.inr (.inr (.inr (fun _ => none))))) := (ho551 _ ne556).trans hf541
  have hl570 : q64 ∈ L553 := hs546 _ hl516
  have hf571 : f552 q87 = .inl (κ 5, 6, .inr (.inr (.inr (.inr (fun _ => none))))) := (ho551 _ ne557).trans hf542
  have hl572 : q87 ∈ L553 := hs546 _ hl519
  clear g540 hl513 hf541 hl516 hf542 hl519
  refine lv_dup hx hb dX10_init_146 rfl ?_
  refine lv_bipush (v := 6) hx hb dX10_init_147 (by decide) ?_
  refine lv_bipush (v := 8) hx hb dX10_init_149 (by decide) ?_
  have hFc := tp_fr hD hS hA
  refine va_callv (va_runI (As := [.int 6, .int 8]) (rest := [.ref q543, .ref h0]) ⟨hx, hb, hml, hown, hts⟩ (t_X4_init_6_8 l dC dI _ Ω κ τ_502 ν_502 ρ_502 L553 f552 hG hT q543 hq547 hz548 hf550) (cwI 2 hts ggX10_init_X4_init rfl rfl rfl (hts (.initialized RX4) wa_56) (hts (.methodLink RX10 60 yX4_init) wa_76) (hts (.instanceMethod yX4_init) wa_77) rfl pd_X4_init ⟨Nat.le_of_ble_eq_true rfl, Nat.le_of_ble_eq_true rfl⟩) ⟨pz_blind, pz_pre hP hK hD hN⟩ rfl rfl hl.1 rfl (lv_room (Nat.le_of_ble_eq_true rfl)) dX10_init_151 ⟨Nat.le_of_ble_eq_true rfl, Nat.le_of_ble_eq_true rfl⟩) hS (fun q _ h => hFc q h) hFc (fun x573 t H1 locs ht hvm hw575 hB hz1 hk1 hS => ?_)
  obtain ⟨τ_577, ν_577, ρ_577, L_577, f576⟩ := x573
  obtain ⟨⟨hG9, hT9, hH9⟩, hw575p⟩ := hw575
  have hc578 := hH9.2 _ (tp_in hG ht520 (by decide)) (fun z => ne558 (Option.some.inj z))
  have hc579 := hH9.2 _ (tp_in hG ht522 (by decide)) (fun z => ne559 (Option.some.inj z))
  have hc580 := hH9.2 _ (tp_in hG ht524 (by decide)) (fun z => ne560 (Option.some.inj z))
  have hc581 := hH9.2 _ (tp_in hG ht525 (by decide)) (fun z => ne561 (Option.some.inj z))
  have hc582 := hH9.2 _ (tp_in hG ht526 (by decide)) (fun z => ne562 (Option.some.inj z))
  have hc583 := hH9.2 _ (tp_in hG ht527 (by decide)) (fun z => ne563 (Option.some.inj z))
  have hc584 := hH9.2 _ (tp_in hG ht528 (by decide)) (fun z => ne564 (Option.some.inj z))
  have hc585 := hH9.2 _ (tp_in hG ht530 (by decide)) (fun z => ne565 (Option.some.inj z))
  have hc586 := hH9.2 _ (tp_in hG ht535 (by decide)) (fun z => ne566 (Option.some.inj z))
  have hc587 := hH9.2 _ hl568 (fun z => ne555 (Option.some.inj z))
  have hf588 : f576 h0 = .inr (10, [.int 0, .int 10, .int 700, .int 0, .int 0, .int 0, .int 0, .ref q9, .ref q35, .ref q64, .ref q87, .ref q114, .ref q156, .ref q212, .ref q271, .ref q333, .ref q399, .ref q469, .null]) := (hc587.2.2.2 (by rw [hz532]; decide)).trans hf567
  have hl589 := hH9.1 _ hl568
  have hc590 := hH9.2 _ hl570 (fun z => ne556 (Option.some.inj z))
  have hf591 : f576 q64 = .inl (κ 4, 6, .inr (.inr (.inr (.inr (fun _ => none))))) := (hc590.2.2.2 (by rw [hz533]; decide)).trans hf569
  have hl592 := hH9.1 _ hl570
  have hc593 := hH9.2 _ hl572 (fun z => ne557 (Option.some.inj z))
  have hf594 : f576 q87 = .inl (κ 5, 6, .inr (.inr (.inr (.inr (fun _ => none))))) := (hc593.2.2.2 (by rw [hz534]; decide)).trans hf571
  have hl595 := hH9.1 _ hl572
  have hH := hH.call hH9 (by decide) (fun a ha _ z => hn554 a ha (Option.some.inj z))
  have hG : tp_G τ_577 ν_577 ρ_577 L_577 := hG9; have hT : tp_T Ω κ τ_577 ν_577 ρ_577 f576 := hT9
  have hH : tp_H τ ν ρ L f [] (some h0) τ_577 ν_577 ρ_577 L_577 f576 := hH
  have hP := hB.1; rw [ht] at hP; have hD := tp_Dw hB.2.2 hFc; clear hB hFc hz1 hk1; subst ht; generalize t.heap = H at hP hS ⊢
  have hP : va_P (dC, dI) vwCl (va_pl L_577 f576) H := hP
  have hD : va_D A (va_pl L_577 f576) := hD
  have ht596 : τ_577 q9 = 20 := hc578.1.trans ht520
  have hn597 : ν_577 q9 = 25 := hc578.2.1.trans hn521
  have ht598 : τ_577 q35 = 20 := hc579.1.trans ht522
  have hn599 : ν_577 q35 = 100 := hc579.2.1.trans hn523
  have ht600 : τ_577 q114 = 26 := hc580.1.trans ht524
  have ht601 : τ_577 q156 = 7 := hc581.1.trans ht525
  have ht602 : τ_577 q212 = 7 := hc582.1.trans ht526
  have ht603 : τ_577 q271 = 7 := hc583.1.trans ht527
  have ht604 : τ_577 q333 = 5 := hc584.1.trans ht528
  have hx605 : ρ_577 q333 10 = 3 ∧ ρ_577 q333 11 = 60 := by have q9 : ρ_577 q333 = _ := hc584.2.2.1; rw [q9]; exact hx529
  have ht606 : τ_577 q399 = 5 := hc585.1.trans ht530
  have hx607 : ρ_577 q399 10 = 5 ∧ ρ_577 q399 11 = 60 := by have q9 : ρ_577 q399 = _ := hc585.2.2.1; rw [q9]; exact hx531
  have ht608 : τ_577 q469 = 5 := hc586.1.trans ht535
  have hx609 : ρ_577 q469 10 = 15 ∧ ρ_577 q469 11 = 60 := by have q9 : ρ_577 q469 = _ := hc586.2.2.1; rw [q9]; exact hx536
  have hz610 : τ_577 h0 = 0 := hc587.1.trans hz532
  have hz611 : τ_577 q64 = 0 := hc590.1.trans hz533
  have hz612 : τ_577 q87 = 0 := hc593.1.trans hz534
  clear ht520 hn521 ht522 hn523 ht524 ht525 ht526 ht527 ht528 hx529 ht530 hx531 ht535 hx536 hz532 hz533 hz534 ne555 ne556 ne557 ne558 ne559 ne560 ne561 ne562 ne563 ne564 ne565 ne566 hc578 hc579 hc580 hc581 hc582 hc583 hc584 hc585 hc586 hc587 hc590 hc593 hG9 hT9 hH9
  have ht613 : τ_577 q543 = 5 := hw575p.1
  have hx614 : ρ_577 q543 10 = 8 ∧ ρ_577 q543 11 = 6 := hw575p.2
  refine tpk_pos hl589 hf588 (fun q615 eq615 => ?_)
  refine va_putF (D := (dC, dI)) (ci := 10) (v := .ref q543) (ty := (.object "ColdShips$Rows")) (C := RX10) (T := TX10) (N := 19) hx hb hts hfX10 tyX10 tyX10_ok nmX10 hown hK hP hD hS q615 eq615 rfl 18 (by decide) (hts (.fieldLink RX10 73 "ColdShips$World" "cargoes" "LColdShips$Rows;") wa_60) (fun _ h9 => h9) rfl hin rfl (tyX10_ok 18 (by decide)) rfl rfl (Nat.le_of_ble_eq_true rfl) dX10_init_154 (tp_k (.inr (10, [.int 0, .int 10, .int 700, .int 0, .int 0, .int 0, .int 0, .ref q9, .ref q35, .ref q64, .ref q87, .ref q114, .ref q156, .ref q212, .ref q271, .ref q333, .ref q399, .ref q469, .ref q543])) hD hl589 eq615 (fun f616 H locs hP hD hS g618 k617 => ?_))
  have hT := hT.raw hz610 k617
  have hH := hH.wo k617
  have hf619 : f616 q64 = .inl (κ 4, 6, .inr (.inr (.inr (.inr (fun _ => none))))) := (k617 _ (Ne.symm ne77)).trans hf591
  have hf620 : f616 q87 = .inl (κ 5, 6, .inr (.inr (.inr (.inr (fun _ => none))))) := (k617 _ (Ne.symm ne100)).trans hf594
  clear hf591 hf594
  refine lv_iconst (v := 0) hx hb dX10_init_157 (by decide) ?_
  refine lv_istore_n (lv' := [(1, .int 0), (0, .ref h0)]) hx hb dX10_init_158 rfl hl (by decide) rfl (fun ls hl => ?_)
  refine lv_iload_n hx hb dX10_init_159 rfl (lv_at hl 0 rfl) ?_
  refine lv_bipush (v := 6) hx hb dX10_init_160 (by decide) ?_
  refine lv_icmp_ge (tgt := 184) hx hb dX10_init_162 (by decide) (fun c9 => absurd c9 (by decide)) (fun _ => ?_)
  refine lv_aload_n hx hb dX10_init_165 rfl (lv_at hl 1 rfl) ?_
  refine tpk_pos hl589 g618 (fun q621 eq621 => ?_)
  refine va_get (D := (dC, dI)) (ci := 10) (v := .ref q64) (C := RX10) (T := TX10) (N := 19) hx hb hts hfX10 hown hK hP q621 eq621 rfl 9 (by decide) (hts (.fieldLink RX10 27 "ColdShips$World" "terminals" "[LColdShips$Terminal;") wa_43) (fun _ h9 => h9) rfl dX10_init_166 ?_
  refine lv_iload_n hx hb dX10_init_169 rfl (lv_at hl 0 rfl) ?_
  refine va_new (ci := 8) (fs := [.int 0, .int 0, .int 0, .int 0, .int 0, .null, .null]) (C := RX8) (T := TX8) (N := 7) hx hb hts hfX8 tyX8 tyX8_ok hown (hts (.classLink RX10 25 RX8) wa_42) (hts (.instantiable RX8 7) wa_61) (hts (.initialized RX8) wa_62) hK hP hD hS hA rfl (fun j hj => by rcases tpj_7 j hj with rfl | rfl | rfl | rfl | rfl | rfl | rfl <;> rfl) (Nat.le_of_ble_eq_true rfl) (Nat.le_of_ble_eq_true rfl) dX10_init_170 (fun q622 H hP hD hS => ?_)
  refine Exists.elim (tp_grow hG hT hP hD) (fun L632 hE90 => Exists.elim hE90 (fun f631 hE91 => tn_10 hE91 (fun hP hD hg623 ht624 hs625 hq626 hz627 hn628 hf629 ho630 => ?_)))
  clear hE91 hE90
  have hn633 : ∀ a, a ∈ L → a ≠ q622 := fun a ha => hn628 a (hH.1 a ha)
  have ne634 : h0 ≠ q622 := hn628 _ hl589
  have ne635 : q64 ≠ q622 := hn628 _ hl592
  have ne636 : q87 ≠ q622 := hn628 _ hl595
  have ne637 : q9 ≠ q622 := hn628 _ (tp_in hG ht596 (by decide))
  have ne638 : q35 ≠ q622 := hn628 _ (tp_in hG ht598 (by decide))
  have ne639 : q114 ≠ q622 := hn628 _ (tp_in hG ht600 (by decide))
  have ne640 : q156 ≠ q622 := hn628 _ (tp_in hG ht601 (by decide))
  have ne641 : q212 ≠ q622 := hn628 _ (tp_in hG ht602 (by decide))
  have ne642 : q271 ≠ q622 := hn628 _ (tp_in hG ht603 (by decide))
  have ne643 : q333 ≠ q622 := hn628 _ (tp_in hG ht604 (by decide))
  have ne644 : q399 ≠ q622 := hn628 _ (tp_in hG ht606 (by decide))
  have ne645 : q469 ≠ q622 := hn628 _ (tp_in hG ht608 (by decide))
  have ne646 : q543 ≠ q622 := hn628 _ (tp_in hG ht613 (by decide))
  have hG := hg623
  have hT := ht624
  have hH := hH.gr hs625 hn628 ho630
  have hf647 : f631 h0 = .inr (10, [.int 0, .int 10, .int 700, .int 0, .int 0, .int 0, .int 0, .ref q9, .ref q35, .ref q64, .ref q87, .ref q114, .ref q156, .ref q212, .ref q271, .ref q333, .ref q399, .ref q469, .ref q543]) := (ho630 _ ne634).trans g618
  have hl648 : h0 ∈ L632 := hs625 _ hl589
  have hf649 : f631 q64 = .inl (κ 4, 6, .inr (.inr (.inr (.inr (fun _ => none))))) := (ho630 _ ne635).trans hf619
  have hl650 : q64 ∈ L632 := hs625 _ hl592
  have hf651 : f631 q87 = .inl (κ 5, 6, .inr (.inr (.inr (.inr (fun _ => none))))) := (ho630 _ ne636).trans hf620
  have hl652 : q87 ∈ L632 := hs625 _ hl595
  clear g618 hl589 hf619 hl592 hf620 hl595
  refine lv_dup hx hb dX10_init_173 rfl ?_
  have hFc := tp_fr hD hS hA
  refine va_callv (va_runIN (As := []) (rest := [.ref q622, .int 0, .ref q64]) ⟨hx, hb, hml, hown, hts⟩ (t_X8_init l dC dI _ Ω κ τ_577 ν_577 ρ_577 L632 f631 hG hT q622 hq626 hz627 hf629) ⟨(va_cnB (host := "ColdShips") 0 hts ggX10_init_X8_init rfl rfl rfl (hN.1 (.methodLinkNest RX10 76 yX8_init "ColdShips") nzw_104) (hts (.initialized RX8) wa_62) pd_X8_init ⟨Nat.le_of_ble_eq_true rfl, Nat.le_of_ble_eq_true rfl⟩), rfl, (hts (.instanceMethod yX8_init) wa_84)⟩ ⟨pz_blind, pz_pre hP hK hD hN⟩ rfl rfl hl.1 rfl (lv_room (Nat.le_of_ble_eq_true rfl)) dX10_init_174 ⟨Nat.le_of_ble_eq_true rfl, Nat.le_of_ble_eq_true rfl⟩) hS (fun q _ h => hFc q h) hFc (fun x653 t H1 locs ht hvm hw655 hB hz1 hk1 hS => ?_)
  obtain ⟨τ_657, ν_657, ρ_657, L_657, f656⟩ := x653
  obtain ⟨⟨hG9, hT9, hH9⟩, hw655p⟩ := hw655
  have hc658 := hH9.2 _ (tp_in hG ht596 (by decide)) (fun z => ne637 (Option.some.inj z))
  have hc659 := hH9.2 _ (tp_in hG ht598 (by decide)) (fun z => ne638 (Option.some.inj z))
  have hc660 := hH9.2 _ (tp_in hG ht600 (by decide)) (fun z => ne639 (Option.some.inj z))
  have hc661 := hH9.2 _ (tp_in hG ht601 (by decide)) (fun z => ne640 (Option.some.inj z))
  have hc662 := hH9.2 _ (tp_in hG ht602 (by decide)) (fun z => ne641 (Option.some.inj z))
  have hc663 := hH9.2 _ (tp_in hG ht603 (by decide)) (fun z => ne642 (Option.some.inj z))
  have hc664 := hH9.2 _ (tp_in hG ht604 (by decide)) (fun z => ne643 (Option.some.inj z))
  have hc665 := hH9.2 _ (tp_in hG ht606 (by decide)) (fun z => ne644 (Option.some.inj z))
  have hc666 := hH9.2 _ (tp_in hG ht608 (by decide)) (fun z => ne645 (Option.some.inj z))
  have hc667 := hH9.2 _ (tp_in hG ht613 (by decide)) (fun z => ne646 (Option.some.inj z))
  have hc668 := hH9.2 _ hl648 (fun z => ne634 (Option.some.inj z))
  have hf669 : f656 h0 = .inr (10, [.int 0, .int 10, .int 700, .int 0, .int 0, .int 0, .int 0, .ref q9, .ref q35, .ref q64, .ref q87, .ref q114, .ref q156, .ref q212, .ref q271, .ref q333, .ref q399, .ref q469, .ref q543]) := (hc668.2.2.2 (by rw [hz610]; decide)).trans hf647
  have hl670 := hH9.1 _ hl648
  have hc671 := hH9.2 _ hl650 (fun z => ne635 (Option.some.inj z))
  have hf672 : f656 q64 = .inl (κ 4, 6, .inr (.inr (.inr (.inr (fun _ => none))))) := (hc671.2.2.2 (by rw [hz611]; decide)).trans hf649
  have hl673 := hH9.1 _ hl650
  have hc674 := hH9.2 _ hl652 (fun z => ne636 (Option.some.inj z))
  have hf675 : f656 q87 = .inl (κ 5, 6, .inr (.inr (.inr (.inr (fun _ => none))))) := (hc674.2.2.2 (by rw [hz612]; decide)).trans hf651
  have hl676 := hH9.1 _ hl652
  have hH := hH.call hH9 (by decide) (fun a ha _ z => hn633 a ha (Option.some.inj z))
  have hG : tp_G τ_657 ν_657 ρ_657 L_657 := hG9; have hT : tp_T Ω κ τ_657 ν_657 ρ_657 f656 := hT9
  have hH : tp_H τ ν ρ L f [] (some h0) τ_657 ν_657 ρ_657 L_657 f656 := hH
  have hP := hB.1; rw [ht] at hP; have hD := tp_Dw hB.2.2 hFc; clear hB hFc hz1 hk1; subst ht; generalize t.heap = H at hP hS ⊢
  have hP : va_P (dC, dI) vwCl (va_pl L_657 f656) H := hP
  have hD : va_D A (va_pl L_657 f656) := hD
  have ht677 : τ_657 q9 = 20 := hc658.1.trans ht596
  have hn678 : ν_657 q9 = 25 := hc658.2.1.trans hn597
  have ht679 : τ_657 q35 = 20 := hc659.1.trans ht598
  have hn680 : ν_657 q35 = 100 := hc659.2.1.trans hn599
  have ht681 : τ_657 q114 = 26 := hc660.1.trans ht600
  have ht682 : τ_657 q156 = 7 := hc661.1.trans ht601
  have ht683 : τ_657 q212 = 7 := hc662.1.trans ht602
  have ht684 : τ_657 q271 = 7 := hc663.1.trans ht603
  have ht685 : τ_657 q333 = 5 := hc664.1.trans ht604
  have hx686 : ρ_657 q333 10 = 3 ∧ ρ_657 q333 11 = 60 := by have q9 : ρ_657 q333 = _ := hc664.2.2.1; rw [q9]; exact hx605
  have ht687 : τ_657 q399 = 5 := hc665.1.trans ht606
  have hx688 : ρ_657 q399 10 = 5 ∧ ρ_657 q399 11 = 60 := by have q9 : ρ_657 q399 = _ := hc665.2.2.1; rw [q9]; exact hx607
  have ht689 : τ_657 q469 = 5 := hc666.1.trans ht608
  have hx690 : ρ_657 q469 10 = 15 ∧ ρ_657 q469 11 = 60 := by have q9 : ρ_657 q469 = _ := hc666.2.2.1; rw [q9]; exact hx609
  have ht691 : τ_657 q543 = 5 := hc667.1.trans ht613
  have hx692 : ρ_657 q543 10 = 8 ∧ ρ_657 q543 11 = 6 := by have q9 : ρ_657 q543 = _ := hc667.2.2.1; rw [q9]; exact hx614
  have hz693 : τ_657 h0 = 0 := hc668.1.trans hz610
  have hz694 : τ_657 q64 = 0 := hc671.1.trans hz611
  have hz695 : τ_657 q87 = 0 := hc674.1.trans hz612
  clear ht596 hn597 ht598 hn599 ht600 ht601 ht602 ht603 ht604 hx605 ht606 hx607 ht608 hx609 ht613 hx614 hz610 hz611 hz612 ne634 ne635 ne636 ne637 ne638 ne639 ne640 ne641 ne642 ne643 ne644 ne645 ne646 hc658 hc659 hc660 hc661 hc662 hc663 hc664 hc665 hc666 hc667 hc668 hc671 hc674 hG9 hT9 hH9
  have ht696 : τ_657 q622 = 9 := hw655p
  refine tpk_pos hl673 hf672 (fun q697 eq697 => ?_)
  refine tgk_9 hG ht696 (fun y699 y699n y700 y700n => ?_)
  refine tpk_9 hT ht696 (fun o701_x0 o701_x1 o701_x2 o701_x3 o701_x4 hf_o701 ro701_0 => ?_)
  refine tpk_pos (tp_in hG ht696 (by decide)) hf_o701 (fun q702 eq702 => ?_)
  refine va_astq hx hb hK hP hD hS q697 4 q702 8 eq697 rfl eq702 rfl (vp_in_iff.mpr ⟨by decide, by decide⟩) dX10_init_177 (tp_k (.inl (κ 4, 6, .inr (.inr (.inr (.inr (va_up (fun _ => none) (0 : Int32).toNatClampNeg (some q622))))))) hD hl673 eq697 (fun f703 H locs hP hD hS g705 k704 => ?_))
  have hT := hT.raw hz694 k704
  have hH := hH.wn hn76 k704
  have hf706 : f703 h0 = .inr (10, [.int 0, .int 10, .int 700, .int 0, .int 0, .int 0, .int 0, .ref q9, .ref q35, .ref q64, .ref q87, .ref q114, .ref q156, .ref q212, .ref q271, .ref q333, .ref q399, .ref q469, .ref q543]) := (k704 _ ne77).trans hf669
  have hf707 : f703 q87 = .inl (κ 5, 6, .inr (.inr (.inr (.inr (fun _ => none))))) := (k704 _ (Ne.symm ne101)).trans hf675
  clear hf669 hf675
  refine lv_iinc (v := 1) (lv' := [(1, .int 1), (0, .ref h0)]) hx hb dX10_init_178 hl (k := 0) rfl (by decide) (by decide) rfl (fun ls hl => ?_)
  refine lv_goto (tgt := 159) hx hb dX10_init_181 (by decide) ?_
  refine lv_iload_n hx hb dX10_init_159 rfl (lv_at hl 0 rfl) ?_
  refine lv_bipush (v := 6) hx hb dX10_init_160 (by decide) ?_
  refine lv_icmp_ge (tgt := 184) hx hb dX10_init_162 (by decide) (fun c9 => absurd c9 (by decide)) (fun _ => ?_)
  refine lv_aload_n hx hb dX10_init_165 rfl (lv_at hl 1 rfl) ?_
  refine tpk_pos hl670 hf706 (fun q708 eq708 => ?_)
  refine va_get (D := (dC, dI)) (ci := 10) (v := .ref q64) (C := RX10) (T := TX10) (N := 19) hx hb hts hfX10 hown hK hP q708 eq708 rfl 9 (by decide) (hts (.fieldLink RX10 27 "ColdShips$World" "terminals" "[LColdShips$Terminal;") wa_43) (fun _ h9 => h9) rfl dX10_init_166 ?_
  refine lv_iload_n hx hb dX10_init_169 rfl (lv_at hl 0 rfl) ?_
  refine va_new (ci := 8) (fs := [.int 0, .int 0, .int 0, .int 0, .int 0, .null, .null]) (C := RX8) (T := TX8) (N := 7) hx hb hts hfX8 tyX8 tyX8_ok hown (hts (.classLink RX10 25 RX8) wa_42) (hts (.instantiable RX8 7) wa_61) (hts (.initialized RX8) wa_62) hK hP hD hS hA rfl (fun j hj => by rcases tpj_7 j hj with rfl | rfl | rfl | rfl | rfl | rfl | rfl <;> rfl) (Nat.le_of_ble_eq_true rfl) (Nat.le_of_ble_eq_true rfl) dX10_init_170 (fun q709 H hP hD hS => ?_)
  refine Exists.elim (tp_grow hG hT hP hD) (fun L719 hE90 => Exists.elim hE90 (fun f718 hE91 => tn_10 hE91 (fun hP hD hg710 ht711 hs712 hq713 hz714 hn715 hf716 ho717 => ?_)))
  clear hE91 hE90
  have hn720 : ∀ a, a ∈ L → a ≠ q709 := fun a ha => hn715 a (hH.1 a ha)
  have ne721 : h0 ≠ q709 := hn715 _ hl670
  have ne722 : q64 ≠ q709 := hn715 _ hl673
  have ne723 : q87 ≠ q709 := hn715 _ hl676
  have ne724 : q9 ≠ q709 := hn715 _ (tp_in hG ht677 (by decide))
  have ne725 : q35 ≠ q709 := hn715 _ (tp_in hG ht679 (by decide))
  have ne726 : q114 ≠ q709 := hn715 _ (tp_in hG ht681 (by decide))
  have ne727 : q156 ≠ q709 := hn715 _ (tp_in hG ht682 (by decide))
  have ne728 : q212 ≠ q709 := hn715 _ (tp_in hG ht683 (by decide))
  have ne729 : q271 ≠ q709 := hn715 _ (tp_in hG ht684 (by decide))
  have ne730 : q333 ≠ q709 := hn715 _ (tp_in hG ht685 (by decide))
  have ne731 : q399 ≠ q709 := hn715 _ (tp_in hG ht687 (by decide))
  have ne732 : q469 ≠ q709 := hn715 _ (tp_in hG ht689 (by decide))
  have ne733 : q543 ≠ q709 := hn715 _ (tp_in hG ht691 (by decide))
  have ne734 : q622 ≠ q709 := hn715 _ (tp_in hG ht696 (by decide))
  have hG := hg710
  have hT := ht711
  have hH := hH.gr hs712 hn715 ho717
  have hf735 : f718 h0 = .inr (10, [.int 0, .int 10, .int 700, .int 0, .int 0, .int 0, .int 0, .ref q9, .ref q35, .ref q64, .ref q87, .ref q114, .ref q156, .ref q212, .ref q271, .ref q333, .ref q399, .ref q469, .ref q543]) := (ho717 _ ne721).trans hf706
  have hl736 : h0 ∈ L719 := hs712 _ hl670
  have hf737 : f718 q64 = .inl (κ 4, 6, .inr (.inr (.inr (.inr (va_up (fun _ => none) (0 : Int32).toNatClampNeg (some q622)))))) := (ho717 _ ne722).trans g705
  have hl738 : q64 ∈ L719 := hs712 _ hl673
  have hf739 : f718 q87 = .inl (κ 5, 6, .inr (.inr (.inr (.inr (fun _ => none))))) := (ho717 _ ne723).trans hf707
  have hl740 : q87 ∈ L719 := hs712 _ hl676
  clear hf706 hl670 g705 hl673 hf707 hl676
  refine lv_dup hx hb dX10_init_173 rfl ?_
  have hFc := tp_fr hD hS hA
  refine va_callv (va_runIN (As := []) (rest := [.ref q709, .int 1, .ref q64]) ⟨hx, hb, hml, hown, hts⟩ (t_X8_init l dC dI _ Ω κ τ_657 ν_657 ρ_657 L719 f718 hG hT q709 hq713 hz714 hf716) ⟨(va_cnB (host := "ColdShips") 0 hts ggX10_init_X8_init rfl rfl rfl (hN.1 (.methodLinkNest RX10 76 yX8_init "ColdShips") nzw_104) (hts (.initialized RX8) wa_62) pd_X8_init ⟨Nat.le_of_ble_eq_true rfl, Nat.le_of_ble_eq_true rfl⟩), rfl, (hts (.instanceMethod yX8_init) wa_84)⟩ ⟨pz_blind, pz_pre hP hK hD hN⟩ rfl rfl hl.1 rfl (lv_room (Nat.le_of_ble_eq_true rfl)) dX10_init_174 ⟨Nat.le_of_ble_eq_true rfl, Nat.le_of_ble_eq_true rfl⟩) hS (fun q _ h => hFc q h) hFc (fun x741 t H1 locs ht hvm hw743 hB hz1 hk1 hS => ?_)
  obtain ⟨τ_745, ν_745, ρ_745, L_745, f744⟩ := x741
  obtain ⟨⟨hG9, hT9, hH9⟩, hw743p⟩ := hw743
  have hc746 := hH9.2 _ (tp_in hG ht677 (by decide)) (fun z => ne724 (Option.some.inj z))
  have hc747 := hH9.2 _ (tp_in hG ht679 (by decide)) (fun z => ne725 (Option.some.inj z))
  have hc748 := hH9.2 _ (tp_in hG ht681 (by decide)) (fun z => ne726 (Option.some.inj z))
  have hc749 := hH9.2 _ (tp_in hG ht682 (by decide)) (fun z => ne727 (Option.some.inj z))
  have hc750 := hH9.2 _ (tp_in hG ht683 (by decide)) (fun z => ne728 (Option.some.inj z))
  have hc751 := hH9.2 _ (tp_in hG ht684 (by decide)) (fun z => ne729 (Option.some.inj z))
  have hc752 := hH9.2 _ (tp_in hG ht685 (by decide)) (fun z => ne730 (Option.some.inj z))
  have hc753 := hH9.2 _ (tp_in hG ht687 (by decide)) (fun z => ne731 (Option.some.inj z))
  have hc754 := hH9.2 _ (tp_in hG ht689 (by decide)) (fun z => ne732 (Option.some.inj z))
  have hc755 := hH9.2 _ (tp_in hG ht691 (by decide)) (fun z => ne733 (Option.some.inj z))
  have hc756 := hH9.2 _ (tp_in hG ht696 (by decide)) (fun z => ne734 (Option.some.inj z))
  have hc757 := hH9.2 _ hl736 (fun z => ne721 (Option.some.inj z))
  have hf758 : f744 h0 = .inr (10, [.int 0, .int 10, .int 700, .int 0, .int 0, .int 0, .int 0, .ref q9, .ref q35, .ref q64, .ref q87, .ref q114, .ref q156, .ref q212, .ref q271, .ref q333, .ref q399, .ref q469, .ref q543]) := (hc757.2.2.2 (by rw [hz693]; decide)).trans hf735
  have hl759 := hH9.1 _ hl736
  have hc760 := hH9.2 _ hl738 (fun z => ne722 (Option.some.inj z))
  have hf761 : f744 q64 = .inl (κ 4, 6, .inr (.inr (.inr (.inr (va_up (fun _ => none) (0 : Int32).toNatClampNeg (some q622)))))) := (hc760.2.2.2 (by rw [hz694]; decide)).trans hf737
  have hl762 := hH9.1 _ hl738
  have hc763 := hH9.2 _ hl740 (fun z => ne723 (Option.some.inj z))
  have hf764 : f744 q87 = .inl (κ 5, 6, .inr (.inr (.inr (.inr (fun _ => none))))) := (hc763.2.2.2 (by rw [hz695]; decide)).trans hf739
  have hl765 := hH9.1 _ hl740
  have hH := hH.call hH9 (by decide) (fun a ha _ z => hn720 a ha (Option.some.inj z))
  have hG : tp_G τ_745 ν_745 ρ_745 L_745 := hG9; have hT : tp_T Ω κ τ_745 ν_745 ρ_745 f744 := hT9
  have hH : tp_H τ ν ρ L f [] (some h0) τ_745 ν_745 ρ_745 L_745 f744 := hH
  have hP := hB.1; rw [ht] at hP; have hD := tp_Dw hB.2.2 hFc; clear hB hFc hz1 hk1; subst ht; generalize t.heap = H at hP hS ⊢
  have hP : va_P (dC, dI) vwCl (va_pl L_745 f744) H := hP
  have hD : va_D A (va_pl L_745 f744) := hD
  have ht766 : τ_745 q9 = 20 := hc746.1.trans ht677
  have hn767 : ν_745 q9 = 25 := hc746.2.1.trans hn678
  have ht768 : τ_745 q35 = 20 := hc747.1.trans ht679
  have hn769 : ν_745 q35 = 100 := hc747.2.1.trans hn680
  have ht770 : τ_745 q114 = 26 := hc748.1.trans ht681
  have ht771 : τ_745 q156 = 7 := hc749.1.trans ht682
  have ht772 : τ_745 q212 = 7 := hc750.1.trans ht683
  have ht773 : τ_745 q271 = 7 := hc751.1.trans ht684
  have ht774 : τ_745 q333 = 5 := hc752.1.trans ht685
  have hx775 : ρ_745 q333 10 = 3 ∧ ρ_745 q333 11 = 60 := by have q9 : ρ_745 q333 = _ := hc752.2.2.1; rw [q9]; exact hx686
  have ht776 : τ_745 q399 = 5 := hc753.1.trans ht687
  have hx777 : ρ_745 q399 10 = 5 ∧ ρ_745 q399 11 = 60 := by have q9 : ρ_745 q399 = _ := hc753.2.2.1; rw [q9]; exact hx688
  have ht778 : τ_745 q469 = 5 := hc754.1.trans ht689
  have hx779 : ρ_745 q469 10 = 15 ∧ ρ_745 q469 11 = 60 := by have q9 : ρ_745 q469 = _ := hc754.2.2.1; rw [q9]; exact hx690
  have ht780 : τ_745 q543 = 5 := hc755.1.trans ht691
  have hx781 : ρ_745 q543 10 = 8 ∧ ρ_745 q543 11 = 6 := by have q9 : ρ_745 q543 = _ := hc755.2.2.1; rw [q9]; exact hx692
  have ht782 : τ_745 q622 = 9 := hc756.1.trans ht696
  have hz783 : τ_745 h0 = 0 := hc757.1.trans hz693
  have hz784 : τ_745 q64 = 0 := hc760.1.trans hz694
  have hz785 : τ_745 q87 = 0 := hc763.1.trans hz695
  clear ht677 hn678 ht679 hn680 ht681 ht682 ht683 ht684 ht685 hx686 ht687 hx688 ht689 hx690 ht691 hx692 ht696 hz693 hz694 hz695 ne721 ne722 ne723 ne724 ne725 ne726 ne727 ne728 ne729 ne730 ne731 ne732 ne733 ne734 hc746 hc747 hc748 hc749 hc750 hc751 hc752 hc753 hc754 hc755 hc756 hc757 hc760 hc763 hG9 hT9 hH9
  have ht786 : τ_745 q709 = 9 := hw743p
  refine tpk_pos hl762 hf761 (fun q787 eq787 => ?_)
  refine tgk_9 hG ht786 (fun y789 y789n y790 y790n => ?_)
  refine tpk_9 hT ht786 (fun o791_x0 o791_x1 o791_x2 o791_x3 o791_x4 hf_o791 ro791_0 => ?_)
  refine tpk_pos (tp_in hG ht786 (by decide)) hf_o791 (fun q792 eq792 => ?_)
  refine va_astq hx hb hK hP hD hS q787 4 q792 8 eq787 rfl eq792 rfl (vp_in_iff.mpr ⟨by decide, by decide⟩) dX10_init_177 (tp_k (.inl (κ 4, 6, .inr (.inr (.inr (.inr (va_up (va_up (fun _ => none) (0 : Int32).toNatClampNeg (some q622)) (1 : Int32).toNatClampNeg (some q709))))))) hD hl762 eq787 (fun f793 H locs hP hD hS g795 k794 => ?_))
  have hT := hT.raw hz784 k794
  have hH := hH.wn hn76 k794
  have hf796 : f793 h0 = .inr (10, [.int 0, .int 10, .int 700, .int 0, .int 0, .int 0, .int 0, .ref q9, .ref q35, .ref q64, .ref q87, .ref q114, .ref q156, .ref q212, .ref q271, .ref q333, .ref q399, .ref q469, .ref q543]) := (k794 _ ne77).trans hf758
  have hf797 : f793 q87 = .inl (κ 5, 6, .inr (.inr (.inr (.inr (fun _ => none))))) := (k794 _ (Ne.symm ne101)).trans hf764
  clear hf758 hf764
  refine lv_iinc (v := 2) (lv' := [(1, .int 2), (0, .ref h0)]) hx hb dX10_init_178 hl (k := 0) rfl (by decide) (by decide) rfl (fun ls hl => ?_)
  refine lv_goto (tgt := 159) hx hb dX10_init_181 (by decide) ?_
  refine lv_iload_n hx hb dX10_init_159 rfl (lv_at hl 0 rfl) ?_
  refine lv_bipush (v := 6) hx hb dX10_init_160 (by decide) ?_
  refine lv_icmp_ge (tgt := 184) hx hb dX10_init_162 (by decide) (fun c9 => absurd c9 (by decide)) (fun _ => ?_)
  refine lv_aload_n hx hb dX10_init_165 rfl (lv_at hl 1 rfl) ?_
  refine tpk_pos hl759 hf796 (fun q798 eq798 => ?_)
  refine va_get (D := (dC, dI)) (ci := 10) (v := .ref q64) (C := RX10) (T := TX10) (N := 19) hx hb hts hfX10 hown hK hP q798 eq798 rfl 9 (by decide) (hts (.fieldLink RX10 27 "ColdShips$World" "terminals" "[LColdShips$Terminal;") wa_43) (fun _ h9 => h9) rfl dX10_init_166 ?_
  refine lv_iload_n hx hb dX10_init_169 rfl (lv_at hl 0 rfl) ?_
  refine va_new (ci := 8) (fs := [.int 0, .int 0, .int 0, .int 0, .int 0, .null, .null]) (C := RX8) (T := TX8) (N := 7) hx hb hts hfX8 tyX8 tyX8_ok hown (hts (.classLink RX10 25 RX8) wa_42) (hts (.instantiable RX8 7) wa_61) (hts (.initialized RX8) wa_62) hK hP hD hS hA rfl (fun j hj => by rcases tpj_7 j hj with rfl | rfl | rfl | rfl | rfl | rfl | rfl <;> rfl) (Nat.le_of_ble_eq_true rfl) (Nat.le_of_ble_eq_true rfl) dX10_init_170 (fun q799 H hP hD hS => ?_)
  refine Exists.elim (tp_grow hG hT hP hD) (fun L809 hE90 => Exists.elim hE90 (fun f808 hE91 => tn_10 hE91 (fun hP hD hg800 ht801 hs802 hq803 hz804 hn805 hf806 ho807 => ?_)))
  clear hE91 hE90
  have hn810 : ∀ a, a ∈ L → a ≠ q799 := fun a ha => hn805 a (hH.1 a ha)
  have ne811 : h0 ≠ q799 := hn805 _ hl759
  have ne812 : q64 ≠ q799 := hn805 _ hl762
  have ne813 : q87 ≠ q799 := hn805 _ hl765
  have ne814 : q9 ≠ q799 := hn805 _ (tp_in hG ht766 (by decide))
  have ne815 : q35 ≠ q799 := hn805 _ (tp_in hG ht768 (by decide))
  have ne816 : q114 ≠ q799 := hn805 _ (tp_in hG ht770 (by decide))
  have ne817 : q156 ≠ q799 := hn805 _ (tp_in hG ht771 (by decide))
  have ne818 : q212 ≠ q799 := hn805 _ (tp_in hG ht772 (by decide))
  have ne819 : q271 ≠ q799 := hn805 _ (tp_in hG ht773 (by decide))
  have ne820 : q333 ≠ q799 := hn805 _ (tp_in hG ht774 (by decide))
  have ne821 : q399 ≠ q799 := hn805 _ (tp_in hG ht776 (by decide))
  have ne822 : q469 ≠ q799 := hn805 _ (tp_in hG ht778 (by decide))
  have ne823 : q543 ≠ q799 := hn805 _ (tp_in hG ht780 (by decide))
  have ne824 : q622 ≠ q799 := hn805 _ (tp_in hG ht782 (by decide))
  have ne825 : q709 ≠ q799 := hn805 _ (tp_in hG ht786 (by decide))
  have hG := hg800
  have hT := ht801
  have hH := hH.gr hs802 hn805 ho807
  have hf826 : f808 h0 = .inr (10, [.int 0, .int 10, .int 700, .int 0, .int 0, .int 0, .int 0, .ref q9, .ref q35, .ref q64, .ref q87, .ref q114, .ref q156, .ref q212, .ref q271, .ref q333, .ref q399, .ref q469, .ref q543]) := (ho807 _ ne811).trans hf796
  have hl827 : h0 ∈ L809 := hs802 _ hl759
  have hf828 : f808 q64 = .inl (κ 4, 6, .inr (.inr (.inr (.inr (va_up (va_up (fun _ => none) (0 : Int32).toNatClampNeg (some q622)) (1 : Int32).toNatClampNeg (some q709)))))) := (ho807 _ ne812).trans g795
  have hl829 : q64 ∈ L809 := hs802 _ hl762
  have hf830 : f808 q87 = .inl (κ 5, 6, .inr (.inr (.inr (.inr (fun _ => none))))) := (ho807 _ ne813).trans hf797
  have hl831 : q87 ∈ L809 := hs802 _ hl765
  clear hf796 hl759 g795 hl762 hf797 hl765
  refine lv_dup hx hb dX10_init_173 rfl ?_
  have hFc := tp_fr hD hS hA
  refine va_callv (va_runIN (As := []) (rest := [.ref q799, .int 2, .ref q64]) ⟨hx, hb, hml, hown, hts⟩ (t_X8_init l dC dI _ Ω κ τ_745 ν_745 ρ_745 L809 f808 hG hT q799 hq803 hz804 hf806) ⟨(va_cnB (host := "ColdShips") 0 hts ggX10_init_X8_init rfl rfl rfl (hN.1 (.methodLinkNest RX10 76 yX8_init "ColdShips") nzw_104) (hts (.initialized RX8) wa_62) pd_X8_init ⟨Nat.le_of_ble_eq_true rfl, Nat.le_of_ble_eq_true rfl⟩), rfl, (hts (.instanceMethod yX8_init) wa_84)⟩ ⟨pz_blind, pz_pre hP hK hD hN⟩ rfl rfl hl.1 rfl (lv_room (Nat.le_of_ble_eq_true rfl)) dX10_init_174 ⟨Nat.le_of_ble_eq_true rfl, Nat.le_of_ble_eq_true rfl⟩) hS (fun q _ h => hFc q h) hFc (fun x832 t H1 locs ht hvm hw834 hB hz1 hk1 hS => ?_)
  obtain ⟨τ_836, ν_836, ρ_836, L_836, f835⟩ := x832
  obtain ⟨⟨hG9, hT9, hH9⟩, hw834p⟩ := hw834
  have hc837 := hH9.2 _ (tp_in hG ht766 (by decide)) (fun z => ne814 (Option.some.inj z))
  have hc838 := hH9.2 _ (tp_in hG ht768 (by decide)) (fun z => ne815 (Option.some.inj z))
  have hc839 := hH9.2 _ (tp_in hG ht770 (by decide)) (fun z => ne816 (Option.some.inj z))
  have hc840 := hH9.2 _ (tp_in hG ht771 (by decide)) (fun z => ne817 (Option.some.inj z))
  have hc841 := hH9.2 _ (tp_in hG ht772 (by decide)) (fun z => ne818 (Option.some.inj z))
  have hc842 := hH9.2 _ (tp_in hG ht773 (by decide)) (fun z => ne819 (Option.some.inj z))
  have hc843 := hH9.2 _ (tp_in hG ht774 (by decide)) (fun z => ne820 (Option.some.inj z))
  have hc844 := hH9.2 _ (tp_in hG ht776 (by decide)) (fun z => ne821 (Option.some.inj z))
  have hc845 := hH9.2 _ (tp_in hG ht778 (by decide)) (fun z => ne822 (Option.some.inj z))
  have hc846 := hH9.2 _ (tp_in hG ht780 (by decide)) (fun z => ne823 (Option.some.inj z))
  have hc847 := hH9.2 _ (tp_in hG ht782 (by decide)) (fun z => ne824 (Option.some.inj z))
  have hc848 := hH9.2 _ (tp_in hG ht786 (by decide)) (fun z => ne825 (Option.some.inj z))
  have hc849 := hH9.2 _ hl827 (fun z => ne811 (Option.some.inj z))
  have hf850 : f835 h0 = .inr (10, [.int 0, .int 10, .int 700, .int 0, .int 0, .int 0, .int 0, .ref q9, .ref q35, .ref q64, .ref q87, .ref q114, .ref q156, .ref q212, .ref q271, .ref q333, .ref q399, .ref q469, .ref q543]) := (hc849.2.2.2 (by rw [hz783]; decide)).trans hf826
  have hl851 := hH9.1 _ hl827
  have hc852 := hH9.2 _ hl829 (fun z => ne812 (Option.some.inj z))
  have hf853 : f835 q64 = .inl (κ 4, 6, .inr (.inr (.inr (.inr (va_up (va_up (fun _ => none) (0 : Int32).toNatClampNeg (some q622)) (1 : Int32).toNatClampNeg (some q709)))))) := (hc852.2.2.2 (by rw [hz784]; decide)).trans hf828
  have hl854 := hH9.1 _ hl829
  have hc855 := hH9.2 _ hl831 (fun z => ne813 (Option.some.inj z))
  have hf856 : f835 q87 = .inl (κ 5, 6, .inr (.inr (.inr (.inr (fun _ => none))))) := (hc855.2.2.2 (by rw [hz785]; decide)).trans hf830
  have hl857 := hH9.1 _ hl831
  have hH := hH.call hH9 (by decide) (fun a ha _ z => hn810 a ha (Option.some.inj z))
  have hG : tp_G τ_836 ν_836 ρ_836 L_836 := hG9; have hT : tp_T Ω κ τ_836 ν_836 ρ_836 f835 := hT9
  have hH : tp_H τ ν ρ L f [] (some h0) τ_836 ν_836 ρ_836 L_836 f835 := hH
  have hP := hB.1; rw [ht] at hP; have hD := tp_Dw hB.2.2 hFc; clear hB hFc hz1 hk1; subst ht; generalize t.heap = H at hP hS ⊢
  have hP : va_P (dC, dI) vwCl (va_pl L_836 f835) H := hP
  have hD : va_D A (va_pl L_836 f835) := hD
  have ht858 : τ_836 q9 = 20 := hc837.1.trans ht766
  have hn859 : ν_836 q9 = 25 := hc837.2.1.trans hn767
  have ht860 : τ_836 q35 = 20 := hc838.1.trans ht768
  have hn861 : ν_836 q35 = 100 := hc838.2.1.trans hn769
  have ht862 : τ_836 q114 = 26 := hc839.1.trans ht770
  have ht863 : τ_836 q156 = 7 := hc840.1.trans ht771
  have ht864 : τ_836 q212 = 7 := hc841.1.trans ht772
  have ht865 : τ_836 q271 = 7 := hc842.1.trans ht773
  have ht866 : τ_836 q333 = 5 := hc843.1.trans ht774
  have hx867 : ρ_836 q333 10 = 3 ∧ ρ_836 q333 11 = 60 := by have q9 : ρ_836 q333 = _ := hc843.2.2.1; rw [q9]; exact hx775
  have ht868 : τ_836 q399 = 5 := hc844.1.trans ht776
  have hx869 : ρ_836 q399 10 = 5 ∧ ρ_836 q399 11 = 60 := by have q9 : ρ_836 q399 = _ := hc844.2.2.1; rw [q9]; exact hx777
  have ht870 : τ_836 q469 = 5 := hc845.1.trans ht778
  have hx871 : ρ_836 q469 10 = 15 ∧ ρ_836 q469 11 = 60 := by have q9 : ρ_836 q469 = _ := hc845.2.2.1; rw [q9]; exact hx779
  have ht872 : τ_836 q543 = 5 := hc846.1.trans ht780
  have hx873 : ρ_836 q543 10 = 8 ∧ ρ_836 q543 11 = 6 := by have q9 : ρ_836 q543 = _ := hc846.2.2.1; rw [q9]; exact hx781
  have ht874 : τ_836 q622 = 9 := hc847.1.trans ht782
  have ht875 : τ_836 q709 = 9 := hc848.1.trans ht786
  have hz876 : τ_836 h0 = 0 := hc849.1.trans hz783
  have hz877 : τ_836 q64 = 0 := hc852.1.trans hz784
  have hz878 : τ_836 q87 = 0 := hc855.1.trans hz785
  clear ht766 hn767 ht768 hn769 ht770 ht771 ht772 ht773 ht774 hx775 ht776 hx777 ht778 hx779 ht780 hx781 ht782 ht786 hz783 hz784 hz785 ne811 ne812 ne813 ne814 ne815 ne816 ne817 ne818 ne819 ne820 ne821 ne822 ne823 ne824 ne825 hc837 hc838 hc839 hc840 hc841 hc842 hc843 hc844 hc845 hc846 hc847 hc848 hc849 hc852 hc855 hG9 hT9 hH9
  have ht879 : τ_836 q799 = 9 := hw834p
  refine tpk_pos hl854 hf853 (fun q880 eq880 => ?_)
  refine tgk_9 hG ht879 (fun y882 y882n y883 y883n => ?_)
  refine tpk_9 hT ht879 (fun o884_x0 o884_x1 o884_x2 o884_x3 o884_x4 hf_o884 ro884_0 => ?_)
  refine tpk_pos (tp_in hG ht879 (by decide)) hf_o884 (fun q885 eq885 => ?_)
  refine va_astq hx hb hK hP hD hS q880 4 q885 8 eq880 rfl eq885 rfl (vp_in_iff.mpr ⟨by decide, by decide⟩) dX10_init_177 (tp_k (.inl (κ 4, 6, .inr (.inr (.inr (.inr (va_up (va_up (va_up (fun _ => none) (0 : Int32).toNatClampNeg (some q622)) (1 : Int32).toNatClampNeg (some q709)) (2 : Int32).toNatClampNeg (some q799))))))) hD hl854 eq880 (fun f886 H locs hP hD hS g888 k887 => ?_))
  have hT := hT.raw hz877 k887
  have hH := hH.wn hn76 k887
  have hf889 : f886 h0 = .inr (10, [.int 0, .int 10, .int 700, .int 0, .int 0, .int 0, .int 0, .ref q9, .ref q35, .ref q64, .ref q87, .ref q114, .ref q156, .ref q212, .ref q271, .ref q333, .ref q399, .ref q469, .ref q543]) := (k887 _ ne77).trans hf850
  have hf890 : f886 q87 = .inl (κ 5, 6, .inr (.inr (.inr (.inr (fun _ => none))))) := (k887 _ (Ne.symm ne101)).trans hf856
  clear hf850 hf856
  refine lv_iinc (v := 3) (lv' := [(1, .int 3), (0, .ref h0)]) hx hb dX10_init_178 hl (k := 0) rfl (by decide) (by decide) rfl (fun ls hl => ?_)
  refine lv_goto (tgt := 159) hx hb dX10_init_181 (by decide) ?_
  refine lv_iload_n hx hb dX10_init_159 rfl (lv_at hl 0 rfl) ?_
  refine lv_bipush (v := 6) hx hb dX10_init_160 (by decide) ?_
  refine lv_icmp_ge (tgt := 184) hx hb dX10_init_162 (by decide) (fun c9 => absurd c9 (by decide)) (fun _ => ?_)
  refine lv_aload_n hx hb dX10_init_165 rfl (lv_at hl 1 rfl) ?_
  refine tpk_pos hl851 hf889 (fun q891 eq891 => ?_)
  refine va_get (D := (dC, dI)) (ci := 10) (v := .ref q64) (C := RX10) (T := TX10) (N := 19) hx hb hts hfX10 hown hK hP q891 eq891 rfl 9 (by decide) (hts (.fieldLink RX10 27 "ColdShips$World" "terminals" "[LColdShips$Terminal;") wa_43) (fun _ h9 => h9) rfl dX10_init_166 ?_
  refine lv_iload_n hx hb dX10_init_169 rfl (lv_at hl 0 rfl) ?_
  refine va_new (ci := 8) (fs := [.int 0, .int 0, .int 0, .int 0, .int 0, .null, .null]) (C := RX8) (T := TX8) (N := 7) hx hb hts hfX8 tyX8 tyX8_ok hown (hts (.classLink RX10 25 RX8) wa_42) (hts (.instantiable RX8 7) wa_61) (hts (.initialized RX8) wa_62) hK hP hD hS hA rfl (fun j hj => by rcases tpj_7 j hj with rfl | rfl | rfl | rfl | rfl | rfl | rfl <;> rfl) (Nat.le_of_ble_eq_true rfl) (Nat.le_of_ble_eq_true rfl) dX10_init_170 (fun q892 H hP hD hS => ?_)
  refine Exists.elim (tp_grow hG hT hP hD) (fun L902 hE90 => Exists.elim hE90 (fun f901 hE91 => tn_10 hE91 (fun hP hD hg893 ht894 hs895 hq896 hz897 hn898 hf899 ho900 => ?_)))
  clear hE91 hE90
  have hn903 : ∀ a, a ∈ L → a ≠ q892 := fun a ha => hn898 a (hH.1 a ha)
  have ne904 : h0 ≠ q892 := hn898 _ hl851
  have ne905 : q64 ≠ q892 := hn898 _ hl854
  have ne906 : q87 ≠ q892 := hn898 _ hl857
  have ne907 : q9 ≠ q892 := hn898 _ (tp_in hG ht858 (by decide))
  have ne908 : q35 ≠ q892 := hn898 _ (tp_in hG ht860 (by decide))
  have ne909 : q114 ≠ q892 := hn898 _ (tp_in hG ht862 (by decide))
  have ne910 : q156 ≠ q892 := hn898 _ (tp_in hG ht863 (by decide))
  have ne911 : q212 ≠ q892 := hn898 _ (tp_in hG ht864 (by decide))
  have ne912 : q271 ≠ q892 := hn898 _ (tp_in hG ht865 (by decide))
  have ne913 : q333 ≠ q892 := hn898 _ (tp_in hG ht866 (by decide))
  have ne914 : q399 ≠ q892 := hn898 _ (tp_in hG ht868 (by decide))
  have ne915 : q469 ≠ q892 := hn898 _ (tp_in hG ht870 (by decide))
  have ne916 : q543 ≠ q892 := hn898 _ (tp_in hG ht872 (by decide))
  have ne917 : q622 ≠ q892 := hn898 _ (tp_in hG ht874 (by decide))
  have ne918 : q709 ≠ q892 := hn898 _ (tp_in hG ht875 (by decide))
  have ne919 : q799 ≠ q892 := hn898 _ (tp_in hG ht879 (by decide))
  have hG := hg893
  have hT := ht894
  have hH := hH.gr hs895 hn898 ho900
  have hf920 : f901 h0 = .inr (10, [.int 0, .int 10, .int 700, .int 0, .int 0, .int 0, .int 0, .ref q9, .ref q35, .ref q64, .ref q87, .ref q114, .ref q156, .ref q212, .ref q271, .ref q333, .ref q399, .ref q469, .ref q543]) := (ho900 _ ne904).trans hf889
  have hl921 : h0 ∈ L902 := hs895 _ hl851
  have hf922 : f901 q64 = .inl (κ 4, 6, .inr (.inr (.inr (.inr (va_up (va_up (va_up (fun _ => none) (0 : Int32).toNatClampNeg (some q622)) (1 : Int32).toNatClampNeg (some q709)) (2 : Int32).toNatClampNeg (some q799)))))) := (ho900 _ ne905).trans g888
  have hl923 : q64 ∈ L902 := hs895 _ hl854
  have hf924 : f901 q87 = .inl (κ 5, 6, .inr (.inr (.inr (.inr (fun _ => none))))) := (ho900 _ ne906).trans hf890
  have hl925 : q87 ∈ L902 := hs895 _ hl857
  clear hf889 hl851 g888 hl854 hf890 hl857
  refine lv_dup hx hb dX10_init_173 rfl ?_
  have hFc := tp_fr hD hS hA
  refine va_callv (va_runIN (As := []) (rest := [.ref q892, .int 3, .ref q64]) ⟨hx, hb, hml, hown, hts⟩ (t_X8_init l dC dI _ Ω κ τ_836 ν_836 ρ_836 L902 f901 hG hT q892 hq896 hz897 hf899) ⟨(va_cnB (host := "ColdShips") 0 hts ggX10_init_X8_init rfl rfl rfl (hN.1 (.methodLinkNest RX10 76 yX8_init "ColdShips") nzw_104) (hts (.initialized RX8) wa_62) pd_X8_init ⟨Nat.le_of_ble_eq_true rfl, Nat.le_of_ble_eq_true rfl⟩), rfl, (hts (.instanceMethod yX8_init) wa_84)⟩ ⟨pz_blind, pz_pre hP hK hD hN⟩ rfl rfl hl.1 rfl (lv_room (Nat.le_of_ble_eq_true rfl)) dX10_init_174 ⟨Nat.le_of_ble_eq_true rfl, Nat.le_of_ble_eq_true rfl⟩) hS (fun q _ h => hFc q h) hFc (fun x926 t H1 locs ht hvm hw928 hB hz1 hk1 hS => ?_)
  obtain ⟨τ_930, ν_930, ρ_930, L_930, f929⟩ := x926
  obtain ⟨⟨hG9, hT9, hH9⟩, hw928p⟩ := hw928
  have hc931 := hH9.2 _ (tp_in hG ht858 (by decide)) (fun z => ne907 (Option.some.inj z))
  have hc932 := hH9.2 _ (tp_in hG ht860 (by decide)) (fun z => ne908 (Option.some.inj z))
  have hc933 := hH9.2 _ (tp_in hG ht862 (by decide)) (fun z => ne909 (Option.some.inj z))
  have hc934 := hH9.2 _ (tp_in hG ht863 (by decide)) (fun z => ne910 (Option.some.inj z))
  have hc935 := hH9.2 _ (tp_in hG ht864 (by decide)) (fun z => ne911 (Option.some.inj z))
  have hc936 := hH9.2 _ (tp_in hG ht865 (by decide)) (fun z => ne912 (Option.some.inj z))
  have hc937 := hH9.2 _ (tp_in hG ht866 (by decide)) (fun z => ne913 (Option.some.inj z))
  have hc938 := hH9.2 _ (tp_in hG ht868 (by decide)) (fun z => ne914 (Option.some.inj z))
  have hc939 := hH9.2 _ (tp_in hG ht870 (by decide)) (fun z => ne915 (Option.some.inj z))
  have hc940 := hH9.2 _ (tp_in hG ht872 (by decide)) (fun z => ne916 (Option.some.inj z))
  have hc941 := hH9.2 _ (tp_in hG ht874 (by decide)) (fun z => ne917 (Option.some.inj z))
  have hc942 := hH9.2 _ (tp_in hG ht875 (by decide)) (fun z => ne918 (Option.some.inj z))
  have hc943 := hH9.2 _ (tp_in hG ht879 (by decide)) (fun z => ne919 (Option.some.inj z))
  have hc944 := hH9.2 _ hl921 (fun z => ne904 (Option.some.inj z))
  have hf945 : f929 h0 = .inr (10, [.int 0, .int 10, .int 700, .int 0, .int 0, .int 0, .int 0, .ref q9, .ref q35, .ref q64, .ref q87, .ref q114, .ref q156, .ref q212, .ref q271, .ref q333, .ref q399, .ref q469, .ref q543]) := (hc944.2.2.2 (by rw [hz876]; decide)).trans hf920
  have hl946 := hH9.1 _ hl921
  have hc947 := hH9.2 _ hl923 (fun z => ne905 (Option.some.inj z))
  have hf948 : f929 q64 = .inl (κ 4, 6, .inr (.inr (.inr (.inr (va_up (va_up (va_up (fun _ => none) (0 : Int32).toNatClampNeg (some q622)) (1 : Int32).toNatClampNeg (some q709)) (2 : Int32).toNatClampNeg (some q799)))))) := (hc947.2.2.2 (by rw [hz877]; decide)).trans hf922
  have hl949 := hH9.1 _ hl923
  have hc950 := hH9.2 _ hl925 (fun z => ne906 (Option.some.inj z))
  have hf951 : f929 q87 = .inl (κ 5, 6, .inr (.inr (.inr (.inr (fun _ => none))))) := (hc950.2.2.2 (by rw [hz878]; decide)).trans hf924
  have hl952 := hH9.1 _ hl925
  have hH := hH.call hH9 (by decide) (fun a ha _ z => hn903 a ha (Option.some.inj z))
  have hG : tp_G τ_930 ν_930 ρ_930 L_930 := hG9; have hT : tp_T Ω κ τ_930 ν_930 ρ_930 f929 := hT9
  have hH : tp_H τ ν ρ L f [] (some h0) τ_930 ν_930 ρ_930 L_930 f929 := hH
  have hP := hB.1; rw [ht] at hP; have hD := tp_Dw hB.2.2 hFc; clear hB hFc hz1 hk1; subst ht; generalize t.heap = H at hP hS ⊢
  have hP : va_P (dC, dI) vwCl (va_pl L_930 f929) H := hP
  have hD : va_D A (va_pl L_930 f929) := hD
  have ht953 : τ_930 q9 = 20 := hc931.1.trans ht858
  have hn954 : ν_930 q9 = 25 := hc931.2.1.trans hn859
  have ht955 : τ_930 q35 = 20 := hc932.1.trans ht860
  have hn956 : ν_930 q35 = 100 := hc932.2.1.trans hn861
  have ht957 : τ_930 q114 = 26 := hc933.1.trans ht862
  have ht958 : τ_930 q156 = 7 := hc934.1.trans ht863
  have ht959 : τ_930 q212 = 7 := hc935.1.trans ht864
  have ht960 : τ_930 q271 = 7 := hc936.1.trans ht865
  have ht961 : τ_930 q333 = 5 := hc937.1.trans ht866
  have hx962 : ρ_930 q333 10 = 3 ∧ ρ_930 q333 11 = 60 := by have q9 : ρ_930 q333 = _ := hc937.2.2.1; rw [q9]; exact hx867
  have ht963 : τ_930 q399 = 5 := hc938.1.trans ht868
  have hx964 : ρ_930 q399 10 = 5 ∧ ρ_930 q399 11 = 60 := by have q9 : ρ_930 q399 = _ := hc938.2.2.1; rw [q9]; exact hx869
  have ht965 : τ_930 q469 = 5 := hc939.1.trans ht870
  have hx966 : ρ_930 q469 10 = 15 ∧ ρ_930 q469 11 = 60 := by have q9 : ρ_930 q469 = _ := hc939.2.2.1; rw [q9]; exact hx871
  have ht967 : τ_930 q543 = 5 := hc940.1.trans ht872
  have hx968 : ρ_930 q543 10 = 8 ∧ ρ_930 q543 11 = 6 := by have q9 : ρ_930 q543 = _ := hc940.2.2.1; rw [q9]; exact hx873
  have ht969 : τ_930 q622 = 9 := hc941.1.trans ht874
  have ht970 : τ_930 q709 = 9 := hc942.1.trans ht875
  have ht971 : τ_930 q799 = 9 := hc943.1.trans ht879
  have hz972 : τ_930 h0 = 0 := hc944.1.trans hz876
  have hz973 : τ_930 q64 = 0 := hc947.1.trans hz877
  have hz974 : τ_930 q87 = 0 := hc950.1.trans hz878
  clear ht858 hn859 ht860 hn861 ht862 ht863 ht864 ht865 ht866 hx867 ht868 hx869 ht870 hx871 ht872 hx873 ht874 ht875 ht879 hz876 hz877 hz878 ne904 ne905 ne906 ne907 ne908 ne909 ne910 ne911 ne912 ne913 ne914 ne915 ne916 ne917 ne918 ne919 hc931 hc932 hc933 hc934 hc935 hc936 hc937 hc938 hc939 hc940 hc941 hc942 hc943 hc944 hc947 hc950 hG9 hT9 hH9
  have ht975 : τ_930 q892 = 9 := hw928p
  refine tpk_pos hl949 hf948 (fun q976 eq976 => ?_)
  refine tgk_9 hG ht975 (fun y978 y978n y979 y979n => ?_)
  refine tpk_9 hT ht975 (fun o980_x0 o980_x1 o980_x2 o980_x3 o980_x4 hf_o980 ro980_0 => ?_)
  refine tpk_pos (tp_in hG ht975 (by decide)) hf_o980 (fun q981 eq981 => ?_)
  refine va_astq hx hb hK hP hD hS q976 4 q981 8 eq976 rfl eq981 rfl (vp_in_iff.mpr ⟨by decide, by decide⟩) dX10_init_177 (tp_k (.inl (κ 4, 6, .inr (.inr (.inr (.inr (va_up (va_up (va_up (va_up (fun _ => none) (0 : Int32).toNatClampNeg (some q622)) (1 : Int32).toNatClampNeg (some q709)) (2 : Int32).toNatClampNeg (some q799)) (3 : Int32).toNatClampNeg (some q892))))))) hD hl949 eq976 (fun f982 H locs hP hD hS g984 k983 => ?_))
  have hT := hT.raw hz973 k983
  have hH := hH.wn hn76 k983
  have hf985 : f982 h0 = .inr (10, [.int 0, .int 10, .int 700, .int 0, .int 0, .int 0, .int 0, .ref q9, .ref q35, .ref q64, .ref q87, .ref q114, .ref q156, .ref q212, .ref q271, .ref q333, .ref q399, .ref q469, .ref q543]) := (k983 _ ne77).trans hf945
  have hf986 : f982 q87 = .inl (κ 5, 6, .inr (.inr (.inr (.inr (fun _ => none))))) := (k983 _ (Ne.symm ne101)).trans hf951
  clear hf945 hf951
  refine lv_iinc (v := 4) (lv' := [(1, .int 4), (0, .ref h0)]) hx hb dX10_init_178 hl (k := 0) rfl (by decide) (by decide) rfl (fun ls hl => ?_)
  refine lv_goto (tgt := 159) hx hb dX10_init_181 (by decide) ?_
  refine lv_iload_n hx hb dX10_init_159 rfl (lv_at hl 0 rfl) ?_
  refine lv_bipush (v := 6) hx hb dX10_init_160 (by decide) ?_
  refine lv_icmp_ge (tgt := 184) hx hb dX10_init_162 (by decide) (fun c9 => absurd c9 (by decide)) (fun _ => ?_)
  refine lv_aload_n hx hb dX10_init_165 rfl (lv_at hl 1 rfl) ?_
  refine tpk_pos hl946 hf985 (fun q987 eq987 => ?_)
  refine va_get (D := (dC, dI)) (ci := 10) (v := .ref q64) (C := RX10) (T := TX10) (N := 19) hx hb hts hfX10 hown hK hP q987 eq987 rfl 9 (by decide) (hts (.fieldLink RX10 27 "ColdShips$World" "terminals" "[LColdShips$Terminal;") wa_43) (fun _ h9 => h9) rfl dX10_init_166 ?_
  refine lv_iload_n hx hb dX10_init_169 rfl (lv_at hl 0 rfl) ?_
  refine va_new (ci := 8) (fs := [.int 0, .int 0, .int 0, .int 0, .int 0, .null, .null]) (C := RX8) (T := TX8) (N := 7) hx hb hts hfX8 tyX8 tyX8_ok hown (hts (.classLink RX10 25 RX8) wa_42) (hts (.instantiable RX8 7) wa_61) (hts (.initialized RX8) wa_62) hK hP hD hS hA rfl (fun j hj => by rcases tpj_7 j hj with rfl | rfl | rfl | rfl | rfl | rfl | rfl <;> rfl) (Nat.le_of_ble_eq_true rfl) (Nat.le_of_ble_eq_true rfl) dX10_init_170 (fun q988 H hP hD hS => ?_)
  refine Exists.elim (tp_grow hG hT hP hD) (fun L998 hE90 => Exists.elim hE90 (fun f997 hE91 => tn_10 hE91 (fun hP hD hg989 ht990 hs991 hq992 hz993 hn994 hf995 ho996 => ?_)))
  clear hE91 hE90
  have hn999 : ∀ a, a ∈ L → a ≠ q988 := fun a ha => hn994 a (hH.1 a ha)
  have ne1000 : h0 ≠ q988 := hn994 _ hl946
  have ne1001 : q64 ≠ q988 := hn994 _ hl949
  have ne1002 : q87 ≠ q988 := hn994 _ hl952
  have ne1003 : q9 ≠ q988 := hn994 _ (tp_in hG ht953 (by decide))
  have ne1004 : q35 ≠ q988 := hn994 _ (tp_in hG ht955 (by decide))
  have ne1005 : q114 ≠ q988 := hn994 _ (tp_in hG ht957 (by decide))
  have ne1006 : q156 ≠ q988 := hn994 _ (tp_in hG ht958 (by decide))
  have ne1007 : q212 ≠ q988 := hn994 _ (tp_in hG ht959 (by decide))
  have ne1008 : q271 ≠ q988 := hn994 _ (tp_in hG ht960 (by decide))
  have ne1009 : q333 ≠ q988 := hn994 _ (tp_in hG ht961 (by decide))
  have ne1010 : q399 ≠ q988 := hn994 _ (tp_in hG ht963 (by decide))
  have ne1011 : q469 ≠ q988 := hn994 _ (tp_in hG ht965 (by decide))
  have ne1012 : q543 ≠ q988 := hn994 _ (tp_in hG ht967 (by decide))
  have ne1013 : q622 ≠ q988 := hn994 _ (tp_in hG ht969 (by decide))
  have ne1014 : q709 ≠ q988 := hn994 _ (tp_in hG ht970 (by decide))
  have ne1015 : q799 ≠ q988 := hn994 _ (tp_in hG ht971 (by decide))
  have ne1016 : q892 ≠ q988 := hn994 _ (tp_in hG ht975 (by decide))
  have hG := hg989
  have hT := ht990
  have hH := hH.gr hs991 hn994 ho996
  have hf1017 : f997 h0 = .inr (10, [.int 0, .int 10, .int 700, .int 0, .int 0, .int 0, .int 0, .ref q9, .ref q35, .ref q64, .ref q87, .ref q114, .ref q156, .ref q212, .ref q271, .ref q333, .ref q399, .ref q469, .ref q543]) := (ho996 _ ne1000).trans hf985
  have hl1018 : h0 ∈ L998 := hs991 _ hl946
  have hf1019 : f997 q64 = .inl (κ 4, 6, .inr (.inr (.inr (.inr (va_up (va_up (va_up (va_up (fun _ => none) (0 : Int32).toNatClampNeg (some q622)) (1 : Int32).toNatClampNeg (some q709)) (2 : Int32).toNatClampNeg (some q799)) (3 : Int32).toNatClampNeg (some q892)))))) := (ho996 _ ne1001).trans g984
  have hl1020 : q64 ∈ L998 := hs991 _ hl949
  have hf1021 : f997 q87 = .inl (κ 5, 6, .inr (.inr (.inr (.inr (fun _ => none))))) := (ho996 _ ne1002).trans hf986
  have hl1022 : q87 ∈ L998 := hs991 _ hl952
  clear hf985 hl946 g984 hl949 hf986 hl952
  refine lv_dup hx hb dX10_init_173 rfl ?_
  have hFc := tp_fr hD hS hA
  refine va_callv (va_runIN (As := []) (rest := [.ref q988, .int 4, .ref q64]) ⟨hx, hb, hml, hown, hts⟩ (t_X8_init l dC dI _ Ω κ τ_930 ν_930 ρ_930 L998 f997 hG hT q988 hq992 hz993 hf995) ⟨(va_cnB (host := "ColdShips") 0 hts ggX10_init_X8_init rfl rfl rfl (hN.1 (.methodLinkNest RX10 76 yX8_init "ColdShips") nzw_104) (hts (.initialized RX8) wa_62) pd_X8_init ⟨Nat.le_of_ble_eq_true rfl, Nat.le_of_ble_eq_true rfl⟩), rfl, (hts (.instanceMethod yX8_init) wa_84)⟩ ⟨pz_blind, pz_pre hP hK hD hN⟩ rfl rfl hl.1 rfl (lv_room (Nat.le_of_ble_eq_true rfl)) dX10_init_174 ⟨Nat.le_of_ble_eq_true rfl, Nat.le_of_ble_eq_true rfl⟩) hS (fun q _ h => hFc q h) hFc (fun x1023 t H1 locs ht hvm hw1025 hB hz1 hk1 hS => ?_)
  obtain ⟨τ_1027, ν_1027, ρ_1027, L_1027, f1026⟩ := x1023
  obtain ⟨⟨hG9, hT9, hH9⟩, hw1025p⟩ := hw1025
  have hc1028 := hH9.2 _ (tp_in hG ht953 (by decide)) (fun z => ne1003 (Option.some.inj z))
  have hc1029 := hH9.2 _ (tp_in hG ht955 (by decide)) (fun z => ne1004 (Option.some.inj z))
  have hc1030 := hH9.2 _ (tp_in hG ht957 (by decide)) (fun z => ne1005 (Option.some.inj z))
  have hc1031 := hH9.2 _ (tp_in hG ht958 (by decide)) (fun z => ne1006 (Option.some.inj z))
  have hc1032 := hH9.2 _ (tp_in hG ht959 (by decide)) (fun z => ne1007 (Option.some.inj z))
  have hc1033 := hH9.2 _ (tp_in hG ht960 (by decide)) (fun z => ne1008 (Option.some.inj z))
  have hc1034 := hH9.2 _ (tp_in hG ht961 (by decide)) (fun z => ne1009 (Option.some.inj z))
  have hc1035 := hH9.2 _ (tp_in hG ht963 (by decide)) (fun z => ne1010 (Option.some.inj z))
  have hc1036 := hH9.2 _ (tp_in hG ht965 (by decide)) (fun z => ne1011 (Option.some.inj z))
  have hc1037 := hH9.2 _ (tp_in hG ht967 (by decide)) (fun z => ne1012 (Option.some.inj z))
  have hc1038 := hH9.2 _ (tp_in hG ht969 (by decide)) (fun z => ne1013 (Option.some.inj z))
  have hc1039 := hH9.2 _ (tp_in hG ht970 (by decide)) (fun z => ne1014 (Option.some.inj z))
  have hc1040 := hH9.2 _ (tp_in hG ht971 (by decide)) (fun z => ne1015 (Option.some.inj z))
  have hc1041 := hH9.2 _ (tp_in hG ht975 (by decide)) (fun z => ne1016 (Option.some.inj z))
  have hc1042 := hH9.2 _ hl1018 (fun z => ne1000 (Option.some.inj z))
  have hf1043 : f1026 h0 = .inr (10, [.int 0, .int 10, .int 700, .int 0, .int 0, .int 0, .int 0, .ref q9, .ref q35, .ref q64, .ref q87, .ref q114, .ref q156, .ref q212, .ref q271, .ref q333, .ref q399, .ref q469, .ref q543]) := (hc1042.2.2.2 (by rw [hz972]; decide)).trans hf1017
  have hl1044 := hH9.1 _ hl1018
  have hc1045 := hH9.2 _ hl1020 (fun z => ne1001 (Option.some.inj z))
  have hf1046 : f1026 q64 = .inl (κ 4, 6, .inr (.inr (.inr (.inr (va_up (va_up (va_up (va_up (fun _ => none) (0 : Int32).toNatClampNeg (some q622)) (1 : Int32).toNatClampNeg (some q709)) (2 : Int32).toNatClampNeg (some q799)) (3 : Int32).toNatClampNeg (some q892)))))) := (hc1045.2.2.2 (by rw [hz973]; decide)).trans hf1019
  have hl1047 := hH9.1 _ hl1020
  have hc1048 := hH9.2 _ hl1022 (fun z => ne1002 (Option.some.inj z))
  have hf1049 : f1026 q87 = .inl (κ 5, 6, .inr (.inr (.inr (.inr (fun _ => none))))) := (hc1048.2.2.2 (by rw [hz974]; decide)).trans hf1021
  have hl1050 := hH9.1 _ hl1022
  have hH := hH.call hH9 (by decide) (fun a ha _ z => hn999 a ha (Option.some.inj z))
  have hG : tp_G τ_1027 ν_1027 ρ_1027 L_1027 := hG9; have hT : tp_T Ω κ τ_1027 ν_1027 ρ_1027 f1026 := hT9
  have hH : tp_H τ ν ρ L f [] (some h0) τ_1027 ν_1027 ρ_1027 L_1027 f1026 := hH
  have hP := hB.1; rw [ht] at hP; have hD := tp_Dw hB.2.2 hFc; clear hB hFc hz1 hk1; subst ht; generalize t.heap = H at hP hS ⊢
  have hP : va_P (dC, dI) vwCl (va_pl L_1027 f1026) H := hP
  have hD : va_D A (va_pl L_1027 f1026) := hD
  have ht1051 : τ_1027 q9 = 20 := hc1028.1.trans ht953
  have hn1052 : ν_1027 q9 = 25 := hc1028.2.1.trans hn954
  have ht1053 : τ_1027 q35 = 20 := hc1029.1.trans ht955
  have hn1054 : ν_1027 q35 = 100 := hc1029.2.1.trans hn956
  have ht1055 : τ_1027 q114 = 26 := hc1030.1.trans ht957
  have ht1056 : τ_1027 q156 = 7 := hc1031.1.trans ht958
  have ht1057 : τ_1027 q212 = 7 := hc1032.1.trans ht959
  have ht1058 : τ_1027 q271 = 7 := hc1033.1.trans ht960
  have ht1059 : τ_1027 q333 = 5 := hc1034.1.trans ht961
  have hx1060 : ρ_1027 q333 10 = 3 ∧ ρ_1027 q333 11 = 60 := by have q9 : ρ_1027 q333 = _ := hc1034.2.2.1; rw [q9]; exact hx962
  have ht1061 : τ_1027 q399 = 5 := hc1035.1.trans ht963
  have hx1062 : ρ_1027 q399 10 = 5 ∧ ρ_1027 q399 11 = 60 := by have q9 : ρ_1027 q399 = _ := hc1035.2.2.1; rw [q9]; exact hx964
  have ht1063 : τ_1027 q469 = 5 := hc1036.1.trans ht965
  have hx1064 : ρ_1027 q469 10 = 15 ∧ ρ_1027 q469 11 = 60 := by have q9 : ρ_1027 q469 = _ := hc1036.2.2.1; rw [q9]; exact hx966
  have ht1065 : τ_1027 q543 = 5 := hc1037.1.trans ht967
  have hx1066 : ρ_1027 q543 10 = 8 ∧ ρ_1027 q543 11 = 6 := by have q9 : ρ_1027 q543 = _ := hc1037.2.2.1; rw [q9]; exact hx968
  have ht1067 : τ_1027 q622 = 9 := hc1038.1.trans ht969
  have ht1068 : τ_1027 q709 = 9 := hc1039.1.trans ht970
  have ht1069 : τ_1027 q799 = 9 := hc1040.1.trans ht971
  have ht1070 : τ_1027 q892 = 9 := hc1041.1.trans ht975
  have hz1071 : τ_1027 h0 = 0 := hc1042.1.trans hz972
  have hz1072 : τ_1027 q64 = 0 := hc1045.1.trans hz973
  have hz1073 : τ_1027 q87 = 0 := hc1048.1.trans hz974
  clear ht953 hn954 ht955 hn956 ht957 ht958 ht959 ht960 ht961 hx962 ht963 hx964 ht965 hx966 ht967 hx968 ht969 ht970 ht971 ht975 hz972 hz973 hz974 ne1000 ne1001 ne1002 ne1003 ne1004 ne1005 ne1006 ne1007 ne1008 ne1009 ne1010 ne1011 ne1012 ne1013 ne1014 ne1015 ne1016 hc1028 hc1029 hc1030 hc1031 hc1032 hc1033 hc1034 hc1035 hc1036 hc1037 hc1038 hc1039 hc1040 hc1041 hc1042 hc1045 hc1048 hG9 hT9 hH9
  have ht1074 : τ_1027 q988 = 9 := hw1025p
  refine tpk_pos hl1047 hf1046 (fun q1075 eq1075 => ?_)
  refine tgk_9 hG ht1074 (fun y1077 y1077n y1078 y1078n => ?_)
  refine tpk_9 hT ht1074 (fun o1079_x0 o1079_x1 o1079_x2 o1079_x3 o1079_x4 hf_o1079 ro1079_0 => ?_)
  refine tpk_pos (tp_in hG ht1074 (by decide)) hf_o1079 (fun q1080 eq1080 => ?_)
  refine va_astq hx hb hK hP hD hS q1075 4 q1080 8 eq1075 rfl eq1080 rfl (vp_in_iff.mpr ⟨by decide, by decide⟩) dX10_init_177 (tp_k (.inl (κ 4, 6, .inr (.inr (.inr (.inr (va_up (va_up (va_up (va_up (va_up (fun _ => none) (0 : Int32).toNatClampNeg (some q622)) (1 : Int32).toNatClampNeg (some q709)) (2 : Int32).toNatClampNeg (some q799)) (3 : Int32).toNatClampNeg (some q892)) (4 : Int32).toNatClampNeg (some q988))))))) hD hl1047 eq1075 (fun f1081 H locs hP hD hS g1083 k1082 => ?_))
  have hT := hT.raw hz1072 k1082
  have hH := hH.wn hn76 k1082
  have hf1084 : f1081 h0 = .inr (10, [.int 0, .int 10, .int 700, .int 0, .int 0, .int 0, .int 0, .ref q9, .ref q35, .ref q64, .ref q87, .ref q114, .ref q156, .ref q212, .ref q271, .ref q333, .ref q399, .ref q469, .ref q543]) := (k1082 _ ne77).trans hf1043
  have hf1085 : f1081 q87 = .inl (κ 5, 6, .inr (.inr (.inr (.inr (fun _ => none))))) := (k1082 _ (Ne.symm ne101)).trans hf1049
  clear hf1043 hf1049
  refine lv_iinc (v := 5) (lv' := [(1, .int 5), (0, .ref h0)]) hx hb dX10_init_178 hl (k := 0) rfl (by decide) (by decide) rfl (fun ls hl => ?_)
  refine lv_goto (tgt := 159) hx hb dX10_init_181 (by decide) ?_
  refine lv_iload_n hx hb dX10_init_159 rfl (lv_at hl 0 rfl) ?_
  refine lv_bipush (v := 6) hx hb dX10_init_160 (by decide) ?_
  refine lv_icmp_ge (tgt := 184) hx hb dX10_init_162 (by decide) (fun c9 => absurd c9 (by decide)) (fun _ => ?_)
  refine lv_aload_n hx hb dX10_init_165 rfl (lv_at hl 1 rfl) ?_
  refine tpk_pos hl1044 hf1084 (fun q1086 eq1086 => ?_)
  refine va_get (D := (dC, dI)) (ci := 10) (v := .ref q64) (C := RX10) (T := TX10) (N := 19) hx hb hts hfX10 hown hK hP q1086 eq1086 rfl 9 (by decide) (hts (.fieldLink RX10 27 "ColdShips$World" "terminals" "[LColdShips$Terminal;") wa_43) (fun _ h9 => h9) rfl dX10_init_166 ?_
  refine lv_iload_n hx hb dX10_init_169 rfl (lv_at hl 0 rfl) ?_
  refine va_new (ci := 8) (fs := [.int 0, .int 0, .int 0, .int 0, .int 0, .null, .null]) (C := RX8) (T := TX8) (N := 7) hx hb hts hfX8 tyX8 tyX8_ok hown (hts (.classLink RX10 25 RX8) wa_42) (hts (.instantiable RX8 7) wa_61) (hts (.initialized RX8) wa_62) hK hP hD hS hA rfl (fun j hj => by rcases tpj_7 j hj with rfl | rfl | rfl | rfl | rfl | rfl | rfl <;> rfl) (Nat.le_of_ble_eq_true rfl) (Nat.le_of_ble_eq_true rfl) dX10_init_170 (fun q1087 H hP hD hS => ?_)
  refine Exists.elim (tp_grow hG hT hP hD) (fun L1097 hE90 => Exists.elim hE90 (fun f1096 hE91 => tn_10 hE91 (fun hP hD hg1088 ht1089 hs1090 hq1091 hz1092 hn1093 hf1094 ho1095 => ?_)))
  clear hE91 hE90
  have hn1098 : ∀ a, a ∈ L → a ≠ q1087 := fun a ha => hn1093 a (hH.1 a ha)
  have ne1099 : h0 ≠ q1087 := hn1093 _ hl1044
  have ne1100 : q64 ≠ q1087 := hn1093 _ hl1047
  have ne1101 : q87 ≠ q1087 := hn1093 _ hl1050
  have ne1102 : q9 ≠ q1087 := hn1093 _ (tp_in hG ht1051 (by decide))
  have ne1103 : q35 ≠ q1087 := hn1093 _ (tp_in hG ht1053 (by decide))
  have ne1104 : q114 ≠ q1087 := hn1093 _ (tp_in hG ht1055 (by decide))
  have ne1105 : q156 ≠ q1087 := hn1093 _ (tp_in hG ht1056 (by decide))
  have ne1106 : q212 ≠ q1087 := hn1093 _ (tp_in hG ht1057 (by decide))
  have ne1107 : q271 ≠ q1087 := hn1093 _ (tp_in hG ht1058 (by decide))
  have ne1108 : q333 ≠ q1087 := hn1093 _ (tp_in hG ht1059 (by decide))
  have ne1109 : q399 ≠ q1087 := hn1093 _ (tp_in hG ht1061 (by decide))
  have ne1110 : q469 ≠ q1087 := hn1093 _ (tp_in hG ht1063 (by decide))
  have ne1111 : q543 ≠ q1087 := hn1093 _ (tp_in hG ht1065 (by decide))
  have ne1112 : q622 ≠ q1087 := hn1093 _ (tp_in hG ht1067 (by decide))
  have ne1113 : q709 ≠ q1087 := hn1093 _ (tp_in hG ht1068 (by decide))
  have ne1114 : q799 ≠ q1087 := hn1093 _ (tp_in hG ht1069 (by decide))
  have ne1115 : q892 ≠ q1087 := hn1093 _ (tp_in hG ht1070 (by decide))
  have ne1116 : q988 ≠ q1087 := hn1093 _ (tp_in hG ht1074 (by decide))
  have hG := hg1088
  have hT := ht1089
  have hH := hH.gr hs1090 hn1093 ho1095
  have hf1117 : f1096 h0 = .inr (10, [.int 0, .int 10, .int 700, .int 0, .int 0, .int 0, .int 0, .ref q9, .ref q35, .ref q64, .ref q87, .ref q114, .ref q156, .ref q212, .ref q271, .ref q333, .ref q399, .ref q469, .ref q543]) := (ho1095 _ ne1099).trans hf1084
  have hl1118 : h0 ∈ L1097 := hs1090 _ hl1044
  have hf1119 : f1096 q64 = .inl (κ 4, 6, .inr (.inr (.inr (.inr (va_up (va_up (va_up (va_up (va_up (fun _ => none) (0 : Int32).toNatClampNeg (some q622)) (1 : Int32).toNatClampNeg (some q709)) (2 : Int32).toNatClampNeg (some q799)) (3 : Int32).toNatClampNeg (some q892)) (4 : Int32).toNatClampNeg (some q988)))))) := (ho1095 _ ne1100).trans g1083
  have hl1120 : q64 ∈ L1097 := hs1090 _ hl1047
  have hf1121 : f1096 q87 = .inl (κ 5, 6, .inr (.inr (.inr (.inr (fun _ => none))))) := (ho1095 _ ne1101).trans hf1085
  have hl1122 : q87 ∈ L1097 := hs1090 _ hl1050
  clear hf1084 hl1044 g1083 hl1047 hf1085 hl1050
  refine lv_dup hx hb dX10_init_173 rfl ?_
  have hFc := tp_fr hD hS hA
  refine va_callv (va_runIN (As := []) (rest := [.ref q1087, .int 5, .ref q64]) ⟨hx, hb, hml, hown, hts⟩ (t_X8_init l dC dI _ Ω κ τ_1027 ν_1027 ρ_1027 L1097 f1096 hG hT q1087 hq1091 hz1092 hf1094) ⟨(va_cnB (host := "ColdShips") 0 hts ggX10_init_X8_init rfl rfl rfl (hN.1 (.methodLinkNest RX10 76 yX8_init "ColdShips") nzw_104) (hts (.initialized RX8) wa_62) pd_X8_init ⟨Nat.le_of_ble_eq_true rfl, Nat.le_of_ble_eq_true rfl⟩), rfl, (hts (.instanceMethod yX8_init) wa_84)⟩ ⟨pz_blind, pz_pre hP hK hD hN⟩ rfl rfl hl.1 rfl (lv_room (Nat.le_of_ble_eq_true rfl)) dX10_init_174 ⟨Nat.le_of_ble_eq_true rfl, Nat.le_of_ble_eq_true rfl⟩) hS (fun q _ h => hFc q h) hFc (fun x1123 t H1 locs ht hvm hw1125 hB hz1 hk1 hS => ?_)
  obtain ⟨τ_1127, ν_1127, ρ_1127, L_1127, f1126⟩ := x1123
  obtain ⟨⟨hG9, hT9, hH9⟩, hw1125p⟩ := hw1125
  have hc1128 := hH9.2 _ (tp_in hG ht1051 (by decide)) (fun z => ne1102 (Option.some.inj z))
  have hc1129 := hH9.2 _ (tp_in hG ht1053 (by decide)) (fun z => ne1103 (Option.some.inj z))
  have hc1130 := hH9.2 _ (tp_in hG ht1055 (by decide)) (fun z => ne1104 (Option.some.inj z))
  have hc1131 := hH9.2 _ (tp_in hG ht1056 (by decide)) (fun z => ne1105 (Option.some.inj z))
  have hc1132 := hH9.2 _ (tp_in hG ht1057 (by decide)) (fun z => ne1106 (Option.some.inj z))
  have hc1133 := hH9.2 _ (tp_in hG ht1058 (by decide)) (fun z => ne1107 (Option.some.inj z))
  have hc1134 := hH9.2 _ (tp_in hG ht1059 (by decide)) (fun z => ne1108 (Option.some.inj z))
  have hc1135 := hH9.2 _ (tp_in hG ht1061 (by decide)) (fun z => ne1109 (Option.some.inj z))
  have hc1136 := hH9.2 _ (tp_in hG ht1063 (by decide)) (fun z => ne1110 (Option.some.inj z))
  have hc1137 := hH9.2 _ (tp_in hG ht1065 (by decide)) (fun z => ne1111 (Option.some.inj z))
  have hc1138 := hH9.2 _ (tp_in hG ht1067 (by decide)) (fun z => ne1112 (Option.some.inj z))
  have hc1139 := hH9.2 _ (tp_in hG ht1068 (by decide)) (fun z => ne1113 (Option.some.inj z))
  have hc1140 := hH9.2 _ (tp_in hG ht1069 (by decide)) (fun z => ne1114 (Option.some.inj z))
  have hc1141 := hH9.2 _ (tp_in hG ht1070 (by decide)) (fun z => ne1115 (Option.some.inj z))
  have hc1142 := hH9.2 _ (tp_in hG ht1074 (by decide)) (fun z => ne1116 (Option.some.inj z))
  have hc1143 := hH9.2 _ hl1118 (fun z => ne1099 (Option.some.inj z))
  have hf1144 : f1126 h0 = .inr (10, [.int 0, .int 10, .int 700, .int 0, .int 0, .int 0, .int 0, .ref q9, .ref q35, .ref q64, .ref q87, .ref q114, .ref q156, .ref q212, .ref q271, .ref q333, .ref q399, .ref q469, .ref q543]) := (hc1143.2.2.2 (by rw [hz1071]; decide)).trans hf1117
  have hl1145 := hH9.1 _ hl1118
  have hc1146 := hH9.2 _ hl1120 (fun z => ne1100 (Option.some.inj z))
  have hf1147 : f1126 q64 = .inl (κ 4, 6, .inr (.inr (.inr (.inr (va_up (va_up (va_up (va_up (va_up (fun _ => none) (0 : Int32).toNatClampNeg (some q622)) (1 : Int32).toNatClampNeg (some q709)) (2 : Int32).toNatClampNeg (some q799)) (3 : Int32).toNatClampNeg (some q892)) (4 : Int32).toNatClampNeg (some q988)))))) := (hc1146.2.2.2 (by rw [hz1072]; decide)).trans hf1119
  have hl1148 := hH9.1 _ hl1120
  have hc1149 := hH9.2 _ hl1122 (fun z => ne1101 (Option.some.inj z))
  have hf1150 : f1126 q87 = .inl (κ 5, 6, .inr (.inr (.inr (.inr (fun _ => none))))) := (hc1149.2.2.2 (by rw [hz1073]; decide)).trans hf1121
  have hl1151 := hH9.1 _ hl1122
  have hH := hH.call hH9 (by decide) (fun a ha _ z => hn1098 a ha (Option.some.inj z))
  have hG : tp_G τ_1127 ν_1127 ρ_1127 L_1127 := hG9; have hT : tp_T Ω κ τ_1127 ν_1127 ρ_1127 f1126 := hT9
  have hH : tp_H τ ν ρ L f [] (some h0) τ_1127 ν_1127 ρ_1127 L_1127 f1126 := hH
  have hP := hB.1; rw [ht] at hP; have hD := tp_Dw hB.2.2 hFc; clear hB hFc hz1 hk1; subst ht; generalize t.heap = H at hP hS ⊢
  have hP : va_P (dC, dI) vwCl (va_pl L_1127 f1126) H := hP
  have hD : va_D A (va_pl L_1127 f1126) := hD
  have ht1152 : τ_1127 q9 = 20 := hc1128.1.trans ht1051
  have hn1153 : ν_1127 q9 = 25 := hc1128.2.1.trans hn1052
  have ht1154 : τ_1127 q35 = 20 := hc1129.1.trans ht1053
  have hn1155 : ν_1127 q35 = 100 := hc1129.2.1.trans hn1054
  have ht1156 : τ_1127 q114 = 26 := hc1130.1.trans ht1055
  have ht1157 : τ_1127 q156 = 7 := hc1131.1.trans ht1056
  have ht1158 : τ_1127 q212 = 7 := hc1132.1.trans ht1057
  have ht1159 : τ_1127 q271 = 7 := hc1133.1.trans ht1058
  have ht1160 : τ_1127 q333 = 5 := hc1134.1.trans ht1059
  have hx1161 : ρ_1127 q333 10 = 3 ∧ ρ_1127 q333 11 = 60 := by have q9 : ρ_1127 q333 = _ := hc1134.2.2.1; rw [q9]; exact hx1060
  have ht1162 : τ_1127 q399 = 5 := hc1135.1.trans ht1061
  have hx1163 : ρ_1127 q399 10 = 5 ∧ ρ_1127 q399 11 = 60 := by have q9 : ρ_1127 q399 = _ := hc1135.2.2.1; rw [q9]; exact hx1062
  have ht1164 : τ_1127 q469 = 5 := hc1136.1.trans ht1063
  have hx1165 : ρ_1127 q469 10 = 15 ∧ ρ_1127 q469 11 = 60 := by have q9 : ρ_1127 q469 = _ := hc1136.2.2.1; rw [q9]; exact hx1064
  have ht1166 : τ_1127 q543 = 5 := hc1137.1.trans ht1065
  have hx1167 : ρ_1127 q543 10 = 8 ∧ ρ_1127 q543 11 = 6 := by have q9 : ρ_1127 q543 = _ := hc1137.2.2.1; rw [q9]; exact hx1066
  have ht1168 : τ_1127 q622 = 9 := hc1138.1.trans ht1067
  have ht1169 : τ_1127 q709 = 9 := hc1139.1.trans ht1068
  have ht1170 : τ_1127 q799 = 9 := hc1140.1.trans ht1069
  have ht1171 : τ_1127 q892 = 9 := hc1141.1.trans ht1070
  have ht1172 : τ_1127 q988 = 9 := hc1142.1.trans ht1074
  have hz1173 : τ_1127 h0 = 0 := hc1143.1.trans hz1071
  have hz1174 : τ_1127 q64 = 0 := hc1146.1.trans hz1072
  have hz1175 : τ_1127 q87 = 0 := hc1149.1.trans hz1073
  clear ht1051 hn1052 ht1053 hn1054 ht1055 ht1056 ht1057 ht1058 ht1059 hx1060 ht1061 hx1062 ht1063 hx1064 ht1065 hx1066 ht1067 ht1068 ht1069 ht1070 ht1074 hz1071 hz1072 hz1073 ne1099 ne1100 ne1101 ne1102 ne1103 ne1104 ne1105 ne1106 ne1107 ne1108 ne1109 ne1110 ne1111 ne1112 ne1113 ne1114 ne1115 ne1116 hc1128 hc1129 hc1130 hc1131 hc1132 hc1133 hc1134 hc1135 hc1136 hc1137 hc1138 hc1139 hc1140 hc1141 hc1142 hc1143 hc1146 hc1149 hG9 hT9 hH9
  have ht1176 : τ_1127 q1087 = 9 := hw1125p
  refine tpk_pos hl1148 hf1147 (fun q1177 eq1177 => ?_)
  refine tgk_9 hG ht1176 (fun y1179 y1179n y1180 y1180n => ?_)
  refine tpk_9 hT ht1176 (fun o1181_x0 o1181_x1 o1181_x2 o1181_x3 o1181_x4 hf_o1181 ro1181_0 => ?_)
  refine tpk_pos (tp_in hG ht1176 (by decide)) hf_o1181 (fun q1182 eq1182 => ?_)
  refine va_astq hx hb hK hP hD hS q1177 4 q1182 8 eq1177 rfl eq1182 rfl (vp_in_iff.mpr ⟨by decide, by decide⟩) dX10_init_177 (tp_k (.inl (κ 4, 6, .inr (.inr (.inr (.inr (va_up (va_up (va_up (va_up (va_up (va_up (fun _ => none) (0 : Int32).toNatClampNeg (some q622)) (1 : Int32).toNatClampNeg (some q709)) (2 : Int32).toNatClampNeg (some q799)) (3 : Int32).toNatClampNeg (some q892)) (4 : Int32).toNatClampNeg (some q988)) (5 : Int32).toNatClampNeg (some q1087))))))) hD hl1148 eq1177 (fun f1183 H locs hP hD hS g1185 k1184 => ?_))
  have hT := hT.raw hz1174 k1184
  have hH := hH.wn hn76 k1184
  have hf1186 : f1183 h0 = .inr (10, [.int 0, .int 10, .int 700, .int 0, .int 0, .int 0, .int 0, .ref q9, .ref q35, .ref q64, .ref q87, .ref q114, .ref q156, .ref q212, .ref q271, .ref q333, .ref q399, .ref q469, .ref q543]) := (k1184 _ ne77).trans hf1144
  have hf1187 : f1183 q87 = .inl (κ 5, 6, .inr (.inr (.inr (.inr (fun _ => none))))) := (k1184 _ (Ne.symm ne101)).trans hf1150
  clear hf1144 hf1150
  refine lv_iinc (v := 6) (lv' := [(1, .int 6), (0, .ref h0)]) hx hb dX10_init_178 hl (k := 0) rfl (by decide) (by decide) rfl (fun ls hl => ?_)
  refine lv_goto (tgt := 159) hx hb dX10_init_181 (by decide) ?_
  refine lv_iload_n hx hb dX10_init_159 rfl (lv_at hl 0 rfl) ?_
  refine lv_bipush (v := 6) hx hb dX10_init_160 (by decide) ?_
  refine lv_icmp_ge (tgt := 184) hx hb dX10_init_162 (by decide) (fun _ => ?_) (fun c9 => absurd c9 (by decide))
  refine lv_iconst (v := 0) hx hb dX10_init_184 (by decide) ?_
  refine lv_istore_n (lv' := [(1, .int 0), (0, .ref h0)]) hx hb dX10_init_185 rfl hl (by decide) rfl (fun ls hl => ?_)
  refine lv_iload_n hx hb dX10_init_186 rfl (lv_at hl 0 rfl) ?_
  refine lv_bipush (v := 6) hx hb dX10_init_187 (by decide) ?_
  refine lv_icmp_ge (tgt := 211) hx hb dX10_init_189 (by decide) (fun c9 => absurd c9 (by decide)) (fun _ => ?_)
  refine lv_aload_n hx hb dX10_init_192 rfl (lv_at hl 1 rfl) ?_
  refine tpk_pos hl1145 hf1186 (fun q1188 eq1188 => ?_)
  refine va_get (D := (dC, dI)) (ci := 10) (v := .ref q87) (C := RX10) (T := TX10) (N := 19) hx hb hts hfX10 hown hK hP q1188 eq1188 rfl 10 (by decide) (hts (.fieldLink RX10 33 "ColdShips$World" "ships" "[LColdShips$Ship;") wa_45) (fun _ h9 => h9) rfl dX10_init_193 ?_
  refine lv_iload_n hx hb dX10_init_196 rfl (lv_at hl 0 rfl) ?_
  refine va_new (ci := 5) (fs := [.null, .int 0, .int 0, .int 0, .int 0, .int 0, .int 0, .null, .null, .null, .int 0, .int 0, .int 0, .null, .int 0, .null, .null]) (C := RX5) (T := TX5) (N := 17) hx hb hts hfX5 tyX5 tyX5_ok hown (hts (.classLink RX10 31 RX5) wa_44) (hts (.instantiable RX5 17) wa_63) (hts (.initialized RX5) wa_64) hK hP hD hS hA rfl (fun j hj => by rcases tpj_17 j hj with rfl | rfl | rfl | rfl | rfl | rfl | rfl | rfl | rfl | rfl | rfl | rfl | rfl | rfl | rfl | rfl | rfl <;> rfl) (Nat.le_of_ble_eq_true rfl) (Nat.le_of_ble_eq_true rfl) dX10_init_197 (fun q1189 H hP hD hS => ?_)
  refine Exists.elim (tp_grow hG hT hP hD) (fun L1199 hE90 => Exists.elim hE90 (fun f1198 hE91 => tn_10 hE91 (fun hP hD hg1190 ht1191 hs1192 hq1193 hz1194 hn1195 hf1196 ho1197 => ?_)))
  clear hE91 hE90
  have hn1200 : ∀ a, a ∈ L → a ≠ q1189 := fun a ha => hn1195 a (hH.1 a ha)
  have ne1201 : h0 ≠ q1189 := hn1195 _ hl1145
  have ne1202 : q64 ≠ q1189 := hn1195 _ hl1148
  have ne1203 : q87 ≠ q1189 := hn1195 _ hl1151
  have ne1204 : q9 ≠ q1189 := hn1195 _ (tp_in hG ht1152 (by decide))
  have ne1205 : q35 ≠ q1189 := hn1195 _ (tp_in hG ht1154 (by decide))
  have ne1206 : q114 ≠ q1189 := hn1195 _ (tp_in hG ht1156 (by decide))
  have ne1207 : q156 ≠ q1189 := hn1195 _ (tp_in hG ht1157 (by decide))
  have ne1208 : q212 ≠ q1189 := hn1195 _ (tp_in hG ht1158 (by decide))
  have ne1209 : q271 ≠ q1189 := hn1195 _ (tp_in hG ht1159 (by decide))
  have ne1210 : q333 ≠ q1189 := hn1195 _ (tp_in hG ht1160 (by decide))
  have ne1211 : q399 ≠ q1189 := hn1195 _ (tp_in hG ht1162 (by decide))
  have ne1212 : q469 ≠ q1189 := hn1195 _ (tp_in hG ht1164 (by decide))
  have ne1213 : q543 ≠ q1189 := hn1195 _ (tp_in hG ht1166 (by decide))
  have ne1214 : q622 ≠ q1189 := hn1195 _ (tp_in hG ht1168 (by decide))
  have ne1215 : q709 ≠ q1189 := hn1195 _ (tp_in hG ht1169 (by decide))
  have ne1216 : q799 ≠ q1189 := hn1195 _ (tp_in hG ht1170 (by decide))
  have ne1217 : q892 ≠ q1189 := hn1195 _ (tp_in hG ht1171 (by decide))
  have ne1218 : q988 ≠ q1189 := hn1195 _ (tp_in hG ht1172 (by decide))
  have ne1219 : q1087 ≠ q1189 := hn1195 _ (tp_in hG ht1176 (by decide))
  have hG := hg1190
  have hT := ht1191
  have hH := hH.gr hs1192 hn1195 ho1197
  have hf1220 : f1198 h0 = .inr (10, [.int 0, .int 10, .int 700, .int 0, .int 0, .int 0, .int 0, .ref q9, .ref q35, .ref q64, .ref q87, .ref q114, .ref q156, .ref q212, .ref q271, .ref q333, .ref q399, .ref q469, .ref q543]) := (ho1197 _ ne1201).trans hf1186
  have hl1221 : h0 ∈ L1199 := hs1192 _ hl1145
  have hf1222 : f1198 q64 = .inl (κ 4, 6, .inr (.inr (.inr (.inr (va_up (va_up (va_up (va_up (va_up (va_up (fun _ => none) (0 : Int32).toNatClampNeg (some q622)) (1 : Int32).toNatClampNeg (some q709)) (2 : Int32).toNatClampNeg (some q799)) (3 : Int32).toNatClampNeg (some q892)) (4 : Int32).toNatClampNeg (some q988)) (5 : Int32).toNatClampNeg (some q1087)))))) := (ho1197 _ ne1202).trans g1185
  have hl1223 : q64 ∈ L1199 := hs1192 _ hl1148
  have hf1224 : f1198 q87 = .inl (κ 5, 6, .inr (.inr (.inr (.inr (fun _ => none))))) := (ho1197 _ ne1203).trans hf1187
  have hl1225 : q87 ∈ L1199 := hs1192 _ hl1151
  clear hf1186 hl1145 g1185 hl1148 hf1187 hl1151
  refine lv_dup hx hb dX10_init_200 rfl ?_
  have hFc := tp_fr hD hS hA
  refine va_callv (va_runIN (As := []) (rest := [.ref q1189, .int 0, .ref q87]) ⟨hx, hb, hml, hown, hts⟩ (t_X5_init l dC dI _ Ω κ τ_1127 ν_1127 ρ_1127 L1199 f1198 hG hT q1189 hq1193 hz1194 hf1196) ⟨(va_cnB (host := "ColdShips") 0 hts ggX10_init_X5_init rfl rfl rfl (hN.1 (.methodLinkNest RX10 77 yX5_init "ColdShips") nzw_105) (hts (.initialized RX5) wa_64) pd_X5_init ⟨Nat.le_of_ble_eq_true rfl, Nat.le_of_ble_eq_true rfl⟩), rfl, (hts (.instanceMethod yX5_init) wa_90)⟩ ⟨pz_blind, pz_pre hP hK hD hN⟩ rfl rfl hl.1 rfl (lv_room (Nat.le_of_ble_eq_true rfl)) dX10_init_201 ⟨Nat.le_of_ble_eq_true rfl, Nat.le_of_ble_eq_true rfl⟩) hS (fun q _ h => hFc q h) hFc (fun x1226 t H1 locs ht hvm hw1228 hB hz1 hk1 hS => ?_)
  obtain ⟨τ_1230, ν_1230, ρ_1230, L_1230, f1229⟩ := x1226
  obtain ⟨⟨hG9, hT9, hH9⟩, hw1228p⟩ := hw1228
  have hc1231 := hH9.2 _ (tp_in hG ht1152 (by decide)) (fun z => ne1204 (Option.some.inj z))
  have hc1232 := hH9.2 _ (tp_in hG ht1154 (by decide)) (fun z => ne1205 (Option.some.inj z))
  have hc1233 := hH9.2 _ (tp_in hG ht1156 (by decide)) (fun z => ne1206 (Option.some.inj z))
  have hc1234 := hH9.2 _ (tp_in hG ht1157 (by decide)) (fun z => ne1207 (Option.some.inj z))
  have hc1235 := hH9.2 _ (tp_in hG ht1158 (by decide)) (fun z => ne1208 (Option.some.inj z))
  have hc1236 := hH9.2 _ (tp_in hG ht1159 (by decide)) (fun z => ne1209 (Option.some.inj z))
  have hc1237 := hH9.2 _ (tp_in hG ht1160 (by decide)) (fun z => ne1210 (Option.some.inj z))
  have hc1238 := hH9.2 _ (tp_in hG ht1162 (by decide)) (fun z => ne1211 (Option.some.inj z))
  have hc1239 := hH9.2 _ (tp_in hG ht1164 (by decide)) (fun z => ne1212 (Option.some.inj z))
  have hc1240 := hH9.2 _ (tp_in hG ht1166 (by decide)) (fun z => ne1213 (Option.some.inj z))
  have hc1241 := hH9.2 _ (tp_in hG ht1168 (by decide)) (fun z => ne1214 (Option.some.inj z))
  have hc1242 := hH9.2 _ (tp_in hG ht1169 (by decide)) (fun z => ne1215 (Option.some.inj z))
  have hc1243 := hH9.2 _ (tp_in hG ht1170 (by decide)) (fun z => ne1216 (Option.some.inj z))
  have hc1244 := hH9.2 _ (tp_in hG ht1171 (by decide)) (fun z => ne1217 (Option.some.inj z))
  have hc1245 := hH9.2 _ (tp_in hG ht1172 (by decide)) (fun z => ne1218 (Option.some.inj z))
  have hc1246 := hH9.2 _ (tp_in hG ht1176 (by decide)) (fun z => ne1219 (Option.some.inj z))
  have hc1247 := hH9.2 _ hl1221 (fun z => ne1201 (Option.some.inj z))
  have hf1248 : f1229 h0 = .inr (10, [.int 0, .int 10, .int 700, .int 0, .int 0, .int 0, .int 0, .ref q9, .ref q35, .ref q64, .ref q87, .ref q114, .ref q156, .ref q212, .ref q271, .ref q333, .ref q399, .ref q469, .ref q543]) := (hc1247.2.2.2 (by rw [hz1173]; decide)).trans hf1220
  have hl1249 := hH9.1 _ hl1221
  have hc1250 := hH9.2 _ hl1223 (fun z => ne1202 (Option.some.inj z))
  have hf1251 : f1229 q64 = .inl (κ 4, 6, .inr (.inr (.inr (.inr (va_up (va_up (va_up (va_up (va_up (va_up (fun _ => none) (0 : Int32).toNatClampNeg (some q622)) (1 : Int32).toNatClampNeg (some q709)) (2 : Int32).toNatClampNeg (some q799)) (3 : Int32).toNatClampNeg (some q892)) (4 : Int32).toNatClampNeg (some q988)) (5 : Int32).toNatClampNeg (some q1087)))))) := (hc1250.2.2.2 (by rw [hz1174]; decide)).trans hf1222
  have hl1252 := hH9.1 _ hl1223
  have hc1253 := hH9.2 _ hl1225 (fun z => ne1203 (Option.some.inj z))
  have hf1254 : f1229 q87 = .inl (κ 5, 6, .inr (.inr (.inr (.inr (fun _ => none))))) := (hc1253.2.2.2 (by rw [hz1175]; decide)).trans hf1224
  have hl1255 := hH9.1 _ hl1225
  have hH := hH.call hH9 (by decide) (fun a ha _ z => hn1200 a ha (Option.some.inj z))
  have hG : tp_G τ_1230 ν_1230 ρ_1230 L_1230 := hG9; have hT : tp_T Ω κ τ_1230 ν_1230 ρ_1230 f1229 := hT9
  have hH : tp_H τ ν ρ L f [] (some h0) τ_1230 ν_1230 ρ_1230 L_1230 f1229 := hH
  have hP := hB.1; rw [ht] at hP; have hD := tp_Dw hB.2.2 hFc; clear hB hFc hz1 hk1; subst ht; generalize t.heap = H at hP hS ⊢
  have hP : va_P (dC, dI) vwCl (va_pl L_1230 f1229) H := hP
  have hD : va_D A (va_pl L_1230 f1229) := hD
  have ht1256 : τ_1230 q9 = 20 := hc1231.1.trans ht1152
  have hn1257 : ν_1230 q9 = 25 := hc1231.2.1.trans hn1153
  have ht1258 : τ_1230 q35 = 20 := hc1232.1.trans ht1154
  have hn1259 : ν_1230 q35 = 100 := hc1232.2.1.trans hn1155
  have ht1260 : τ_1230 q114 = 26 := hc1233.1.trans ht1156
  have ht1261 : τ_1230 q156 = 7 := hc1234.1.trans ht1157
  have ht1262 : τ_1230 q212 = 7 := hc1235.1.trans ht1158
  have ht1263 : τ_1230 q271 = 7 := hc1236.1.trans ht1159
  have ht1264 : τ_1230 q333 = 5 := hc1237.1.trans ht1160
  have hx1265 : ρ_1230 q333 10 = 3 ∧ ρ_1230 q333 11 = 60 := by have q9 : ρ_1230 q333 = _ := hc1237.2.2.1; rw [q9]; exact hx1161
  have ht1266 : τ_1230 q399 = 5 := hc1238.1.trans ht1162
  have hx1267 : ρ_1230 q399 10 = 5 ∧ ρ_1230 q399 11 = 60 := by have q9 : ρ_1230 q399 = _ := hc1238.2.2.1; rw [q9]; exact hx1163
  have ht1268 : τ_1230 q469 = 5 := hc1239.1.trans ht1164
  have hx1269 : ρ_1230 q469 10 = 15 ∧ ρ_1230 q469 11 = 60 := by have q9 : ρ_1230 q469 = _ := hc1239.2.2.1; rw [q9]; exact hx1165
  have ht1270 : τ_1230 q543 = 5 := hc1240.1.trans ht1166
  have hx1271 : ρ_1230 q543 10 = 8 ∧ ρ_1230 q543 11 = 6 := by have q9 : ρ_1230 q543 = _ := hc1240.2.2.1; rw [q9]; exact hx1167
  have ht1272 : τ_1230 q622 = 9 := hc1241.1.trans ht1168
  have ht1273 : τ_1230 q709 = 9 := hc1242.1.trans ht1169
  have ht1274 : τ_1230 q799 = 9 := hc1243.1.trans ht1170
  have ht1275 : τ_1230 q892 = 9 := hc1244.1.trans ht1171
  have ht1276 : τ_1230 q988 = 9 := hc1245.1.trans ht1172
  have ht1277 : τ_1230 q1087 = 9 := hc1246.1.trans ht1176
  have hz1278 : τ_1230 h0 = 0 := hc1247.1.trans hz1173
  have hz1279 : τ_1230 q64 = 0 := hc1250.1.trans hz1174
  have hz1280 : τ_1230 q87 = 0 := hc1253.1.trans hz1175
  clear ht1152 hn1153 ht1154 hn1155 ht1156 ht1157 ht1158 ht1159 ht1160 hx1161 ht1162 hx1163 ht1164 hx1165 ht1166 hx1167 ht1168 ht1169 ht1170 ht1171 ht1172 ht1176 hz1173 hz1174 hz1175 ne1201 ne1202 ne1203 ne1204 ne1205 ne1206 ne1207 ne1208 ne1209 ne1210 ne1211 ne1212 ne1213 ne1214 ne1215 ne1216 ne1217 ne1218 ne1219 hc1231 hc1232 hc1233 hc1234 hc1235 hc1236 hc1237 hc1238 hc1239 hc1240 hc1241 hc1242 hc1243 hc1244 hc1245 hc1246 hc1247 hc1250 hc1253 hG9 hT9 hH9
  have ht1281 : τ_1230 q1189 = 6 := hw1228p
  refine tpk_pos hl1255 hf1254 (fun q1282 eq1282 => ?_)
  refine tgk_6 hG ht1281 (fun y1284 y1285 y1285n y1286 y1286n y1287 y1287n y1288 y1288n y1289 y1289n y1290 y1290n => ?_)
  refine tpk_6 hT ht1281 (fun o1291_x1 o1291_x2 o1291_x3 o1291_x4 o1291_x5 o1291_x6 o1291_x10 o1291_x11 o1291_x12 o1291_x14 hf_o1291 ro1291_0 ro1291_1 ro1291_2 => ?_)
  refine tpk_pos (tp_in hG ht1281 (by decide)) hf_o1291 (fun q1292 eq1292 => ?_)
  refine va_astq hx hb hK hP hD hS q1282 5 q1292 5 eq1282 rfl eq1292 rfl (vp_in_iff.mpr ⟨by decide, by decide⟩) dX10_init_204 (tp_k (.inl (κ 5, 6, .inr (.inr (.inr (.inr (va_up (fun _ => none) (0 : Int32).toNatClampNeg (some q1189))))))) hD hl1255 eq1282 (fun f1293 H locs hP hD hS g1295 k1294 => ?_))
  have hT := hT.raw hz1280 k1294
  have hH := hH.wn hn99 k1294
  have hf1296 : f1293 h0 = .inr (10, [.int 0, .int 10, .int 700, .int 0, .int 0, .int 0, .int 0, .ref q9, .ref q35, .ref q64, .ref q87, .ref q114, .ref q156, .ref q212, .ref q271, .ref q333, .ref q399, .ref q469, .ref q543]) := (k1294 _ ne100).trans hf1248
  have hf1297 : f1293 q64 = .inl (κ 4, 6, .inr (.inr (.inr (.inr (va_up (va_up (va_up (va_up (va_up (va_up (fun _ => none) (0 : Int32).toNatClampNeg (some q622)) (1 : Int32).toNatClampNeg (some q709)) (2 : Int32).toNatClampNeg (some q799)) (3 : Int32).toNatClampNeg (some q892)) (4 : Int32).toNatClampNeg (some q988)) (5 : Int32).toNatClampNeg (some q1087)))))) := (k1294 _ ne101).trans hf1251
  clear hf1248 hf1251
  refine lv_iinc (v := 1) (lv' := [(1, .int 1), (0, .ref h0)]) hx hb dX10_init_205 hl (k := 0) rfl (by decide) (by decide) rfl (fun ls hl => ?_)
  refine lv_goto (tgt := 186) hx hb dX10_init_208 (by decide) ?_
  refine lv_iload_n hx hb dX10_init_186 rfl (lv_at hl 0 rfl) ?_
  refine lv_bipush (v := 6) hx hb dX10_init_187 (by decide) ?_
  refine lv_icmp_ge (tgt := 211) hx hb dX10_init_189 (by decide) (fun c9 => absurd c9 (by decide)) (fun _ => ?_)
  refine lv_aload_n hx hb dX10_init_192 rfl (lv_at hl 1 rfl) ?_
  refine tpk_pos hl1249 hf1296 (fun q1298 eq1298 => ?_)
  refine va_get (D := (dC, dI)) (ci := 10) (v := .ref q87) (C := RX10) (T := TX10) (N := 19) hx hb hts hfX10 hown hK hP q1298 eq1298 rfl 10 (by decide) (hts (.fieldLink RX10 33 "ColdShips$World" "ships" "[LColdShips$Ship;") wa_45) (fun _ h9 => h9) rfl dX10_init_193 ?_
  refine lv_iload_n hx hb dX10_init_196 rfl (lv_at hl 0 rfl) ?_
  refine va_new (ci := 5) (fs := [.null, .int 0, .int 0, .int 0, .int 0, .int 0, .int 0, .null, .null, .null, .int 0, .int 0, .int 0, .null, .int 0, .null, .null]) (C := RX5) (T := TX5) (N := 17) hx hb hts hfX5 tyX5 tyX5_ok hown (hts (.classLink RX10 31 RX5) wa_44) (hts (.instantiable RX5 17) wa_63) (hts (.initialized RX5) wa_64) hK hP hD hS hA rfl (fun j hj => by rcases tpj_17 j hj with rfl | rfl | rfl | rfl | rfl | rfl | rfl | rfl | rfl | rfl | rfl | rfl | rfl | rfl | rfl | rfl | rfl <;> rfl) (Nat.le_of_ble_eq_true rfl) (Nat.le_of_ble_eq_true rfl) dX10_init_197 (fun q1299 H hP hD hS => ?_)
  refine Exists.elim (tp_grow hG hT hP hD) (fun L1309 hE90 => Exists.elim hE90 (fun f1308 hE91 => tn_10 hE91 (fun hP hD hg1300 ht1301 hs1302 hq1303 hz1304 hn1305 hf1306 ho1307 => ?_)))
  clear hE91 hE90
  have hn1310 : ∀ a, a ∈ L → a ≠ q1299 := fun a ha => hn1305 a (hH.1 a ha)
  have ne1311 : h0 ≠ q1299 := hn1305 _ hl1249
  have ne1312 : q64 ≠ q1299 := hn1305 _ hl1252
  have ne1313 : q87 ≠ q1299 := hn1305 _ hl1255
  have ne1314 : q9 ≠ q1299 := hn1305 _ (tp_in hG ht1256 (by decide))
  have ne1315 : q35 ≠ q1299 := hn1305 _ (tp_in hG ht1258 (by decide))
  have ne1316 : q114 ≠ q1299 := hn1305 _ (tp_in hG ht1260 (by decide))
  have ne1317 : q156 ≠ q1299 := hn1305 _ (tp_in hG ht1261 (by decide))
  have ne1318 : q212 ≠ q1299 := hn1305 _ (tp_in hG ht1262 (by decide))
  have ne1319 : q271 ≠ q1299 := hn1305 _ (tp_in hG ht1263 (by decide))
  have ne1320 : q333 ≠ q1299 := hn1305 _ (tp_in hG ht1264 (by decide))
  have ne1321 : q399 ≠ q1299 := hn1305 _ (tp_in hG ht1266 (by decide))
  have ne1322 : q469 ≠ q1299 := hn1305 _ (tp_in hG ht1268 (by decide))
  have ne1323 : q543 ≠ q1299 := hn1305 _ (tp_in hG ht1270 (by decide))
  have ne1324 : q622 ≠ q1299 := hn1305 _ (tp_in hG ht1272 (by decide))
  have ne1325 : q709 ≠ q1299 := hn1305 _ (tp_in hG ht1273 (by decide))
  have ne1326 : q799 ≠ q1299 := hn1305 _ (tp_in hG ht1274 (by decide))
  have ne1327 : q892 ≠ q1299 := hn1305 _ (tp_in hG ht1275 (by decide))
  have ne1328 : q988 ≠ q1299 := hn1305 _ (tp_in hG ht1276 (by decide))
  have ne1329 : q1087 ≠ q1299 := hn1305 _ (tp_in hG ht1277 (by decide))
  have ne1330 : q1189 ≠ q1299 := hn1305 _ (tp_in hG ht1281 (by decide))
  have hG := hg1300
  have hT := ht1301
  have hH := hH.gr hs1302 hn1305 ho1307
  have hf1331 : f1308 h0 = .inr (10, [.int 0, .int 10, .int 700, .int 0, .int 0, .int 0, .int 0, .ref q9, .ref q35, .ref q64, .ref q87, .ref q114, .ref q156, .ref q212, .ref q271, .ref q333, .ref q399, .ref q469, .ref q543]) := (ho1307 _ ne1311).trans hf1296
  have hl1332 : h0 ∈ L1309 := hs1302 _ hl1249
  have hf1333 : f1308 q64 = .inl (κ 4, 6, .inr (.inr (.inr (.inr (va_up (va_up (va_up (va_up (va_up (va_up (fun _ => none) (0 : Int32).toNatClampNeg (some q622)) (1 : Int32).toNatClampNeg (some q709)) (2 : Int32).toNatClampNeg (some q799)) (3 : Int32).toNatClampNeg (some q892)) (4 : Int32).toNatClampNeg (some q988)) (5 : Int32).toNatClampNeg (some q1087)))))) := (ho1307 _ ne1312).trans hf1297
  have hl1334 : q64 ∈ L1309 := hs1302 _ hl1252
  have hf1335 : f1308 q87 = .inl (κ 5, 6, .inr (.inr (.inr (.inr (va_up (fun _ => none) (0 : Int32).toNatClampNeg (some q1189)))))) := (ho1307 _ ne1313).trans g1295
  have hl1336 : q87 ∈ L1309 := hs1302 _ hl1255
  clear hf1296 hl1249 hf1297 hl1252 g1295 hl1255
  refine lv_dup hx hb dX10_init_200 rfl ?_
  have hFc := tp_fr hD hS hA
  refine va_callv (va_runIN (As := []) (rest := [.ref q1299, .int 1, .ref q87]) ⟨hx, hb, hml, hown, hts⟩ (t_X5_init l dC dI _ Ω κ τ_1230 ν_1230 ρ_1230 L1309 f1308 hG hT q1299 hq1303 hz1304 hf1306) ⟨(va_cnB (host := "ColdShips") 0 hts ggX10_init_X5_init rfl rfl rfl (hN.1 (.methodLinkNest RX10 77 yX5_init "ColdShips") nzw_105) (hts (.initialized RX5) wa_64) pd_X5_init ⟨Nat.le_of_ble_eq_true rfl, Nat.le_of_ble_eq_true rfl⟩), rfl, (hts (.instanceMethod yX5_init) wa_90)⟩ ⟨pz_blind, pz_pre hP hK hD hN⟩ rfl rfl hl.1 rfl (lv_room (Nat.le_of_ble_eq_true rfl)) dX10_init_201 ⟨Nat.le_of_ble_eq_true rfl, Nat.le_of_ble_eq_true rfl⟩) hS (fun q _ h => hFc q h) hFc (fun x1337 t H1 locs ht hvm hw1339 hB hz1 hk1 hS => ?_)
  obtain ⟨τ_1341, ν_1341, ρ_1341, L_1341, f1340⟩ := x1337
  obtain ⟨⟨hG9, hT9, hH9⟩, hw1339p⟩ := hw1339
  have hc1342 := hH9.2 _ (tp_in hG ht1256 (by decide)) (fun z => ne1314 (Option.some.inj z))
  have hc1343 := hH9.2 _ (tp_in hG ht1258 (by decide)) (fun z => ne1315 (Option.some.inj z))
  have hc1344 := hH9.2 _ (tp_in hG ht1260 (by decide)) (fun z => ne1316 (Option.some.inj z))
  have hc1345 := hH9.2 _ (tp_in hG ht1261 (by decide)) (fun z => ne1317 (Option.some.inj z))
  have hc1346 := hH9.2 _ (tp_in hG ht1262 (by decide)) (fun z => ne1318 (Option.some.inj z))
  have hc1347 := hH9.2 _ (tp_in hG ht1263 (by decide)) (fun z => ne1319 (Option.some.inj z))
  have hc1348 := hH9.2 _ (tp_in hG ht1264 (by decide)) (fun z => ne1320 (Option.some.inj z))
  have hc1349 := hH9.2 _ (tp_in hG ht1266 (by decide)) (fun z => ne1321 (Option.some.inj z))
  have hc1350 := hH9.2 _ (tp_in hG ht1268 (by decide)) (fun z => ne1322 (Option.some.inj z))
  have hc1351 := hH9.2 _ (tp_in hG ht1270 (by decide)) (fun z => ne1323 (Option.some.inj z))
  have hc1352 := hH9.2 _ (tp_in hG ht1272 (by decide)) (fun z => ne1324 (Option.some.inj z))
  have hc1353 := hH9.2 _ (tp_in hG ht1273 (by decide)) (fun z => ne1325 (Option.some.inj z))
  have hc1354 := hH9.2 _ (tp_in hG ht1274 (by decide)) (fun z => ne1326 (Option.some.inj z))
  have hc1355 := hH9.2 _ (tp_in hG ht1275 (by decide)) (fun z => ne1327 (Option.some.inj z))
  have hc1356 := hH9.2 _ (tp_in hG ht1276 (by decide)) (fun z => ne1328 (Option.some.inj z))
  have hc1357 := hH9.2 _ (tp_in hG ht1277 (by decide)) (fun z => ne1329 (Option.some.inj z))
  have hc1358 := hH9.2 _ (tp_in hG ht1281 (by decide)) (fun z => ne1330 (Option.some.inj z))
  have hc1359 := hH9.2 _ hl1332 (fun z => ne1311 (Option.some.inj z))
  have hf1360 : f1340 h0 = .inr (10, [.int 0, .int 10, .int 700, .int 0, .int 0, .int 0, .int 0, .ref q9, .ref q35, .ref q64, .ref q87, .ref q114, .ref q156, .ref q212, .ref q271, .ref q333, .ref q399, .ref q469, .ref q543]) := (hc1359.2.2.2 (by rw [hz1278]; decide)).trans hf1331
  have hl1361 := hH9.1 _ hl1332
  have hc1362 := hH9.2 _ hl1334 (fun z => ne1312 (Option.some.inj z))
  have hf1363 : f1340 q64 = .inl (κ 4, 6, .inr (.inr (.inr (.inr (va_up (va_up (va_up (va_up (va_up (va_up (fun _ => none) (0 : Int32).toNatClampNeg (some q622)) (1 : Int32).toNatClampNeg (some q709)) (2 : Int32).toNatClampNeg (some q799)) (3 : Int32).toNatClampNeg (some q892)) (4 : Int32).toNatClampNeg (some q988)) (5 : Int32).toNatClampNeg (some q1087)))))) := (hc1362.2.2.2 (by rw [hz1279]; decide)).trans hf1333
  have hl1364 := hH9.1 _ hl1334
  have hc1365 := hH9.2 _ hl1336 (fun z => ne1313 (Option.some.inj z))
  have hf1366 : f1340 q87 = .inl (κ 5, 6, .inr (.inr (.inr (.inr (va_up (fun _ => none) (0 : Int32).toNatClampNeg (some q1189)))))) := (hc1365.2.2.2 (by rw [hz1280]; decide)).trans hf1335
  have hl1367 := hH9.1 _ hl1336
  have hH := hH.call hH9 (by decide) (fun a ha _ z => hn1310 a ha (Option.some.inj z))
  have hG : tp_G τ_1341 ν_1341 ρ_1341 L_1341 := hG9; have hT : tp_T Ω κ τ_1341 ν_1341 ρ_1341 f1340 := hT9
  have hH : tp_H τ ν ρ L f [] (some h0) τ_1341 ν_1341 ρ_1341 L_1341 f1340 := hH
  have hP := hB.1; rw [ht] at hP; have hD := tp_Dw hB.2.2 hFc; clear hB hFc hz1 hk1; subst ht; generalize t.heap = H at hP hS ⊢
  have hP : va_P (dC, dI) vwCl (va_pl L_1341 f1340) H := hP
  have hD : va_D A (va_pl L_1341 f1340) := hD
  have ht1368 : τ_1341 q9 = 20 := hc1342.1.trans ht1256
  have hn1369 : ν_1341 q9 = 25 := hc1342.2.1.trans hn1257
  have ht1370 : τ_1341 q35 = 20 := hc1343.1.trans ht1258
  have hn1371 : ν_1341 q35 = 100 := hc1343.2.1.trans hn1259
  have ht1372 : τ_1341 q114 = 26 := hc1344.1.trans ht1260
  have ht1373 : τ_1341 q156 = 7 := hc1345.1.trans ht1261
  have ht1374 : τ_1341 q212 = 7 := hc1346.1.trans ht1262
  have ht1375 : τ_1341 q271 = 7 := hc1347.1.trans ht1263
  have ht1376 : τ_1341 q333 = 5 := hc1348.1.trans ht1264
  have hx1377 : ρ_1341 q333 10 = 3 ∧ ρ_1341 q333 11 = 60 := by have q9 : ρ_1341 q333 = _ := hc1348.2.2.1; rw [q9]; exact hx1265
  have ht1378 : τ_1341 q399 = 5 := hc1349.1.trans ht1266
  have hx1379 : ρ_1341 q399 10 = 5 ∧ ρ_1341 q399 11 = 60 := by have q9 : ρ_1341 q399 = _ := hc1349.2.2.1; rw [q9]; exact hx1267
  have ht1380 : τ_1341 q469 = 5 := hc1350.1.trans ht1268
  have hx1381 : ρ_1341 q469 10 = 15 ∧ ρ_1341 q469 11 = 60 := by have q9 : ρ_1341 q469 = _ := hc1350.2.2.1; rw [q9]; exact hx1269
  have ht1382 : τ_1341 q543 = 5 := hc1351.1.trans ht1270
  have hx1383 : ρ_1341 q543 10 = 8 ∧ ρ_1341 q543 11 = 6 := by have q9 : ρ_1341 q543 = _ := hc1351.2.2.1; rw [q9]; exact hx1271
  have ht1384 : τ_1341 q622 = 9 := hc1352.1.trans ht1272
  have ht1385 : τ_1341 q709 = 9 := hc1353.1.trans ht1273
  have ht1386 : τ_1341 q799 = 9 := hc1354.1.trans ht1274
  have ht1387 : τ_1341 q892 = 9 := hc1355.1.trans ht1275
  have ht1388 : τ_1341 q988 = 9 := hc1356.1.trans ht1276
  have ht1389 : τ_1341 q1087 = 9 := hc1357.1.trans ht1277
  have ht1390 : τ_1341 q1189 = 6 := hc1358.1.trans ht1281
  have hz1391 : τ_1341 h0 = 0 := hc1359.1.trans hz1278
  have hz1392 : τ_1341 q64 = 0 := hc1362.1.trans hz1279
  have hz1393 : τ_1341 q87 = 0 := hc1365.1.trans hz1280
  clear ht1256 hn1257 ht1258 hn1259 ht1260 ht1261 ht1262 ht1263 ht1264 hx1265 ht1266 hx1267 ht1268 hx1269 ht1270 hx1271 ht1272 ht1273 ht1274 ht1275 ht1276 ht1277 ht1281 hz1278 hz1279 hz1280 ne1311 ne1312 ne1313 ne1314 ne1315 ne1316 ne1317 ne1318 ne1319 ne1320 ne1321 ne1322 ne1323 ne1324 ne1325 ne1326 ne1327 ne1328 ne1329 ne1330 hc1342 hc1343 hc1344 hc1345 hc1346 hc1347 hc1348 hc1349 hc1350 hc1351 hc1352 hc1353 hc1354 hc1355 hc1356 hc1357 hc1358 hc1359 hc1362 hc1365 hG9 hT9 hH9
  have ht1394 : τ_1341 q1299 = 6 := hw1339p
  refine tpk_pos hl1367 hf1366 (fun q1395 eq1395 => ?_)
  refine tgk_6 hG ht1394 (fun y1397 y1398 y1398n y1399 y1399n y1400 y1400n y1401 y1401n y1402 y1402n y1403 y1403n => ?_)
  refine tpk_6 hT ht1394 (fun o1404_x1 o1404_x2 o1404_x3 o1404_x4 o1404_x5 o1404_x6 o1404_x10 o1404_x11 o1404_x12 o1404_x14 hf_o1404 ro1404_0 ro1404_1 ro1404_2 => ?_)
  refine tpk_pos (tp_in hG ht1394 (by decide)) hf_o1404 (fun q1405 eq1405 => ?_)
  refine va_astq hx hb hK hP hD hS q1395 5 q1405 5 eq1395 rfl eq1405 rfl (vp_in_iff.mpr ⟨by decide, by decide⟩) dX10_init_204 (tp_k (.inl (κ 5, 6, .inr (.inr (.inr (.inr (va_up (va_up (fun _ => none) (0 : Int32).toNatClampNeg (some q1189)) (1 : Int32).toNatClampNeg (some q1299))))))) hD hl1367 eq1395 (fun f1406 H locs hP hD hS g1408 k1407 => ?_))
  have hT := hT.raw hz1393 k1407
  have hH := hH.wn hn99 k1407
  have hf1409 : f1406 h0 = .inr (10, [.int 0, .int 10, .int 700, .int 0, .int 0, .int 0, .int 0, .ref q9, .ref q35, .ref q64, .ref q87, .ref q114, .ref q156, .ref q212, .ref q271, .ref q333, .ref q399, .ref q469, .ref q543]) := (k1407 _ ne100).trans hf1360
  have hf1410 : f1406 q64 = .inl (κ 4, 6, .inr (.inr (.inr (.inr (va_up (va_up (va_up (va_up (va_up (va_up (fun _ => none) (0 : Int32).toNatClampNeg (some q622)) (1 : Int32).toNatClampNeg (some q709)) (2 : Int32).toNatClampNeg (some q799)) (3 : Int32).toNatClampNeg (some q892)) (4 : Int32).toNatClampNeg (some q988)) (5 : Int32).toNatClampNeg (some q1087)))))) := (k1407 _ ne101).trans hf1363
  clear hf1360 hf1363
  refine lv_iinc (v := 2) (lv' := [(1, .int 2), (0, .ref h0)]) hx hb dX10_init_205 hl (k := 0) rfl (by decide) (by decide) rfl (fun ls hl => ?_)
  refine lv_goto (tgt := 186) hx hb dX10_init_208 (by decide) ?_
  refine lv_iload_n hx hb dX10_init_186 rfl (lv_at hl 0 rfl) ?_
  refine lv_bipush (v := 6) hx hb dX10_init_187 (by decide) ?_
  refine lv_icmp_ge (tgt := 211) hx hb dX10_init_189 (by decide) (fun c9 => absurd c9 (by decide)) (fun _ => ?_)
  refine lv_aload_n hx hb dX10_init_192 rfl (lv_at hl 1 rfl) ?_
  refine tpk_pos hl1361 hf1409 (fun q1411 eq1411 => ?_)
  refine va_get (D := (dC, dI)) (ci := 10) (v := .ref q87) (C := RX10) (T := TX10) (N := 19) hx hb hts hfX10 hown hK hP q1411 eq1411 rfl 10 (by decide) (hts (.fieldLink RX10 33 "ColdShips$World" "ships" "[LColdShips$Ship;") wa_45) (fun _ h9 => h9) rfl dX10_init_193 ?_
  refine lv_iload_n hx hb dX10_init_196 rfl (lv_at hl 0 rfl) ?_
  refine va_new (ci := 5) (fs := [.null, .int 0, .int 0, .int 0, .int 0, .int 0, .int 0, .null, .null, .null, .int 0, .int 0, .int 0, .null, .int 0, .null, .null]) (C := RX5) (T := TX5) (N := 17) hx hb hts hfX5 tyX5 tyX5_ok hown (hts (.classLink RX10 31 RX5) wa_44) (hts (.instantiable RX5 17) wa_63) (hts (.initialized RX5) wa_64) hK hP hD hS hA rfl (fun j hj => by rcases tpj_17 j hj with rfl | rfl | rfl | rfl | rfl | rfl | rfl | rfl | rfl | rfl | rfl | rfl | rfl | rfl | rfl | rfl | rfl <;> rfl) (Nat.le_of_ble_eq_true rfl) (Nat.le_of_ble_eq_true rfl) dX10_init_197 (fun q1412 H hP hD hS => ?_)
  refine Exists.elim (tp_grow hG hT hP hD) (fun L1422 hE90 => Exists.elim hE90 (fun f1421 hE91 => tn_10 hE91 (fun hP hD hg1413 ht1414 hs1415 hq1416 hz1417 hn1418 hf1419 ho1420 => ?_)))
  clear hE91 hE90
  have hn1423 : ∀ a, a ∈ L → a ≠ q1412 := fun a ha => hn1418 a (hH.1 a ha)
  have ne1424 : h0 ≠ q1412 := hn1418 _ hl1361
  have ne1425 : q64 ≠ q1412 := hn1418 _ hl1364
  have ne1426 : q87 ≠ q1412 := hn1418 _ hl1367
  have ne1427 : q9 ≠ q1412 := hn1418 _ (tp_in hG ht1368 (by decide))
  have ne1428 : q35 ≠ q1412 := hn1418 _ (tp_in hG ht1370 (by decide))
  have ne1429 : q114 ≠ q1412 := hn1418 _ (tp_in hG ht1372 (by decide))
  have ne1430 : q156 ≠ q1412 := hn1418 _ (tp_in hG ht1373 (by decide))
  have ne1431 : q212 ≠ q1412 := hn1418 _ (tp_in hG ht1374 (by decide))
  have ne1432 : q271 ≠ q1412 := hn1418 _ (tp_in hG ht1375 (by decide))
  have ne1433 : q333 ≠ q1412 := hn1418 _ (tp_in hG ht1376 (by decide))
  have ne1434 : q399 ≠ q1412 := hn1418 _ (tp_in hG ht1378 (by decide))
  have ne1435 : q469 ≠ q1412 := hn1418 _ (tp_in hG ht1380 (by decide))
  have ne1436 : q543 ≠ q1412 := hn1418 _ (tp_in hG ht1382 (by decide))
  have ne1437 : q622 ≠ q1412 := hn1418 _ (tp_in hG ht1384 (by decide))
  have ne1438 : q709 ≠ q1412 := hn1418 _ (tp_in hG ht1385 (by decide))
  have ne1439 : q799 ≠ q1412 := hn1418 _ (tp_in hG ht1386 (by decide))
  have ne1440 : q892 ≠ q1412 := hn1418 _ (tp_in hG ht1387 (by decide))
  have ne1441 : q988 ≠ q1412 := hn1418 _ (tp_in hG ht1388 (by decide))
  have ne1442 : q1087 ≠ q1412 := hn1418 _ (tp_in hG ht1389 (by decide))
  have ne1443 : q1189 ≠ q1412 := hn1418 _ (tp_in hG ht1390 (by decide))
  have ne1444 : q1299 ≠ q1412 := hn1418 _ (tp_in hG ht1394 (by decide))
  have hG := hg1413
  have hT := ht1414
  have hH := hH.gr hs1415 hn1418 ho1420
  have hf1445 : f1421 h0 = .inr (10, [.int 0, .int 10, .int 700, .int 0, .int 0, .int 0, .int 0, .ref q9, .ref q35, .ref q64, .ref q87, .ref q114, .ref q156, .ref q212, .ref q271, .ref q333, .ref q399, .ref q469, .ref q543]) := (ho1420 _ ne1424).trans hf1409
  have hl1446 : h0 ∈ L1422 := hs1415 _ hl1361
  have hf1447 : f1421 q64 = .inl (κ 4, 6, .inr (.inr (.inr (.inr (va_up (va_up (va_up (va_up (va_up (va_up (fun _ => none) (0 : Int32).toNatClampNeg (some q622)) (1 : Int32).toNatClampNeg (some q709)) (2 : Int32).toNatClampNeg (some q799)) (3 : Int32).toNatClampNeg (some q892)) (4 : Int32).toNatClampNeg (some q988)) (5 : Int32).toNatClampNeg (some q1087)))))) := (ho1420 _ ne1425).trans hf1410
  have hl1448 : q64 ∈ L1422 := hs1415 _ hl1364
  have hf1449 : f1421 q87 = .inl (κ 5, 6, .inr (.inr (.inr (.inr (va_up (va_up (fun _ => none) (0 : Int32).toNatClampNeg (some q1189)) (1 : Int32).toNatClampNeg (some q1299)))))) := (ho1420 _ ne1426).trans g1408
  have hl1450 : q87 ∈ L1422 := hs1415 _ hl1367
  clear hf1409 hl1361 hf1410 hl1364 g1408 hl1367
  refine lv_dup hx hb dX10_init_200 rfl ?_
  have hFc := tp_fr hD hS hA
  refine va_callv (va_runIN (As := []) (rest := [.ref q1412, .int 2, .ref q87]) ⟨hx, hb, hml, hown, hts⟩ (t_X5_init l dC dI _ Ω κ τ_1341 ν_1341 ρ_1341 L1422 f1421 hG hT q1412 hq1416 hz1417 hf1419) ⟨(va_cnB (host := "ColdShips") 0 hts ggX10_init_X5_init rfl rfl rfl (hN.1 (.methodLinkNest RX10 77 yX5_init "ColdShips") nzw_105) (hts (.initialized RX5) wa_64) pd_X5_init ⟨Nat.le_of_ble_eq_true rfl, Nat.le_of_ble_eq_true rfl⟩), rfl, (hts (.instanceMethod yX5_init) wa_90)⟩ ⟨pz_blind, pz_pre hP hK hD hN⟩ rfl rfl hl.1 rfl (lv_room (Nat.le_of_ble_eq_true rfl)) dX10_init_201 ⟨Nat.le_of_ble_eq_true rfl, Nat.le_of_ble_eq_true rfl⟩) hS (fun q _ h => hFc q h) hFc (fun x1451 t H1 locs ht hvm hw1453 hB hz1 hk1 hS => ?_)
  obtain ⟨τ_1455, ν_1455, ρ_1455, L_1455, f1454⟩ := x1451
  obtain ⟨⟨hG9, hT9, hH9⟩, hw1453p⟩ := hw1453
  have hc1456 := hH9.2 _ (tp_in hG ht1368 (by decide)) (fun z => ne1427 (Option.some.inj z))
  have hc1457 := hH9.2 _ (tp_in hG ht1370 (by decide)) (fun z => ne1428 (Option.some.inj z))
  have hc1458 := hH9.2 _ (tp_in hG ht1372 (by decide)) (fun z => ne1429 (Option.some.inj z))
  have hc1459 := hH9.2 _ (tp_in hG ht1373 (by decide)) (fun z => ne1430 (Option.some.inj z))
  have hc1460 := hH9.2 _ (tp_in hG ht1374 (by decide)) (fun z => ne1431 (Option.some.inj z))
  have hc1461 := hH9.2 _ (tp_in hG ht1375 (by decide)) (fun z => ne1432 (Option.some.inj z))
  have hc1462 := hH9.2 _ (tp_in hG ht1376 (by decide)) (fun z => ne1433 (Option.some.inj z))
  have hc1463 := hH9.2 _ (tp_in hG ht1378 (by decide)) (fun z => ne1434 (Option.some.inj z))
  have hc1464 := hH9.2 _ (tp_in hG ht1380 (by decide)) (fun z => ne1435 (Option.some.inj z))
  have hc1465 := hH9.2 _ (tp_in hG ht1382 (by decide)) (fun z => ne1436 (Option.some.inj z))
  have hc1466 := hH9.2 _ (tp_in hG ht1384 (by decide)) (fun z => ne1437 (Option.some.inj z))
  have hc1467 := hH9.2 _ (tp_in hG ht1385 (by decide)) (fun z => ne1438 (Option.some.inj z))
  have hc1468 := hH9.2 _ (tp_in hG ht1386 (by decide)) (fun z => ne1439 (Option.some.inj z))
  have hc1469 := hH9.2 _ (tp_in hG ht1387 (by decide)) (fun z => ne1440 (Option.some.inj z))
  have hc1470 := hH9.2 _ (tp_in hG ht1388 (by decide)) (fun z => ne1441 (Option.some.inj z))
  have hc1471 := hH9.2 _ (tp_in hG ht1389 (by decide)) (fun z => ne1442 (Option.some.inj z))
  have hc1472 := hH9.2 _ (tp_in hG ht1390 (by decide)) (fun z => ne1443 (Option.some.inj z))
  have hc1473 := hH9.2 _ (tp_in hG ht1394 (by decide)) (fun z => ne1444 (Option.some.inj z))
  have hc1474 := hH9.2 _ hl1446 (fun z => ne1424 (Option.some.inj z))
  have hf1475 : f1454 h0 = .inr (10, [.int 0, .int 10, .int 700, .int 0, .int 0, .int 0, .int 0, .ref q9, .ref q35, .ref q64, .ref q87, .ref q114, .ref q156, .ref q212, .ref q271, .ref q333, .ref q399, .ref q469, .ref q543]) := (hc1474.2.2.2 (by rw [hz1391]; decide)).trans hf1445
  have hl1476 := hH9.1 _ hl1446
  have hc1477 := hH9.2 _ hl1448 (fun z => ne1425 (Option.some.inj z))
  have hf1478 : f1454 q64 = .inl (κ 4, 6, .inr (.inr (.inr (.inr (va_up (va_up (va_up (va_up (va_up (va_up (fun _ => none) (0 : Int32).toNatClampNeg (some q622)) (1 : Int32).toNatClampNeg (some q709)) (2 : Int32).toNatClampNeg (some q799)) (3 : Int32).toNatClampNeg (some q892)) (4 : Int32).toNatClampNeg (some q988)) (5 : Int32).toNatClampNeg (some q1087)))))) := (hc1477.2.2.2 (by rw [hz1392]; decide)).trans hf1447
  have hl1479 := hH9.1 _ hl1448
  have hc1480 := hH9.2 _ hl1450 (fun z => ne1426 (Option.some.inj z))
  have hf1481 : f1454 q87 = .inl (κ 5, 6, .inr (.inr (.inr (.inr (va_up (va_up (fun _ => none) (0 : Int32).toNatClampNeg (some q1189)) (1 : Int32).toNatClampNeg (some q1299)))))) := (hc1480.2.2.2 (by rw [hz1393]; decide)).trans hf1449
  have hl1482 := hH9.1 _ hl1450
  have hH := hH.call hH9 (by decide) (fun a ha _ z => hn1423 a ha (Option.some.inj z))
  have hG : tp_G τ_1455 ν_1455 ρ_1455 L_1455 := hG9; have hT : tp_T Ω κ τ_1455 ν_1455 ρ_1455 f1454 := hT9
  have hH : tp_H τ ν ρ L f [] (some h0) τ_1455 ν_1455 ρ_1455 L_1455 f1454 := hH
  have hP := hB.1; rw [ht] at hP; have hD := tp_Dw hB.2.2 hFc; clear hB hFc hz1 hk1; subst ht; generalize t.heap = H at hP hS ⊢
  have hP : va_P (dC, dI) vwCl (va_pl L_1455 f1454) H := hP
  have hD : va_D A (va_pl L_1455 f1454) := hD
  have ht1483 : τ_1455 q9 = 20 := hc1456.1.trans ht1368
  have hn1484 : ν_1455 q9 = 25 := hc1456.2.1.trans hn1369
  have ht1485 : τ_1455 q35 = 20 := hc1457.1.trans ht1370
  have hn1486 : ν_1455 q35 = 100 := hc1457.2.1.trans hn1371
  have ht1487 : τ_1455 q114 = 26 := hc1458.1.trans ht1372
  have ht1488 : τ_1455 q156 = 7 := hc1459.1.trans ht1373
  have ht1489 : τ_1455 q212 = 7 := hc1460.1.trans ht1374
  have ht1490 : τ_1455 q271 = 7 := hc1461.1.trans ht1375
  have ht1491 : τ_1455 q333 = 5 := hc1462.1.trans ht1376
  have hx1492 : ρ_1455 q333 10 = 3 ∧ ρ_1455 q333 11 = 60 := by have q9 : ρ_1455 q333 = _ := hc1462.2.2.1; rw [q9]; exact hx1377
  have ht1493 : τ_1455 q399 = 5 := hc1463.1.trans ht1378
  have hx1494 : ρ_1455 q399 10 = 5 ∧ ρ_1455 q399 11 = 60 := by have q9 : ρ_1455 q399 = _ := hc1463.2.2.1; rw [q9]; exact hx1379
  have ht1495 : τ_1455 q469 = 5 := hc1464.1.trans ht1380
  have hx1496 : ρ_1455 q469 10 = 15 ∧ ρ_1455 q469 11 = 60 := by have q9 : ρ_1455 q469 = _ := hc1464.2.2.1; rw [q9]; exact hx1381
  have ht1497 : τ_1455 q543 = 5 := hc1465.1.trans ht1382
  have hx1498 : ρ_1455 q543 10 = 8 ∧ ρ_1455 q543 11 = 6 := by have q9 : ρ_1455 q543 = _ := hc1465.2.2.1; rw [q9]; exact hx1383
  have ht1499 : τ_1455 q622 = 9 := hc1466.1.trans ht1384
  have ht1500 : τ_1455 q709 = 9 := hc1467.1.trans ht1385
  have ht1501 : τ_1455 q799 = 9 := hc1468.1.trans ht1386
  have ht1502 : τ_1455 q892 = 9 := hc1469.1.trans ht1387
  have ht1503 : τ_1455 q988 = 9 := hc1470.1.trans ht1388
  have ht1504 : τ_1455 q1087 = 9 := hc1471.1.trans ht1389
  have ht1505 : τ_1455 q1189 = 6 := hc1472.1.trans ht1390
  have ht1506 : τ_1455 q1299 = 6 := hc1473.1.trans ht1394
  have hz1507 : τ_1455 h0 = 0 := hc1474.1.trans hz1391
  have hz1508 : τ_1455 q64 = 0 := hc1477.1.trans hz1392
  have hz1509 : τ_1455 q87 = 0 := hc1480.1.trans hz1393
  clear ht1368 hn1369 ht1370 hn1371 ht1372 ht1373 ht1374 ht1375 ht1376 hx1377 ht1378 hx1379 ht1380 hx1381 ht1382 hx1383 ht1384 ht1385 ht1386 ht1387 ht1388 ht1389 ht1390 ht1394 hz1391 hz1392 hz1393 ne1424 ne1425 ne1426 ne1427 ne1428 ne1429 ne1430 ne1431 ne1432 ne1433 ne1434 ne1435 ne1436 ne1437 ne1438 ne1439 ne1440 ne1441 ne1442 ne1443 ne1444 hc1456 hc1457 hc1458 hc1459 hc1460 hc1461 hc1462 hc1463 hc1464 hc1465 hc1466 hc1467 hc1468 hc1469 hc1470 hc1471 hc1472 hc1473 hc1474 hc1477 hc1480 hG9 hT9 hH9
  have ht1510 : τ_1455 q1412 = 6 := hw1453p
  refine tpk_pos hl1482 hf1481 (fun q1511 eq1511 => ?_)
  refine tgk_6 hG ht1510 (fun y1513 y1514 y1514n y1515 y1515n y1516 y1516n y1517 y1517n y1518 y1518n y1519 y1519n => ?_)
  refine tpk_6 hT ht1510 (fun o1520_x1 o1520_x2 o1520_x3 o1520_x4 o1520_x5 o1520_x6 o1520_x10 o1520_x11 o1520_x12 o1520_x14 hf_o1520 ro1520_0 ro1520_1 ro1520_2 => ?_)
  refine tpk_pos (tp_in hG ht1510 (by decide)) hf_o1520 (fun q1521 eq1521 => ?_)
  refine va_astq hx hb hK hP hD hS q1511 5 q1521 5 eq1511 rfl eq1521 rfl (vp_in_iff.mpr ⟨by decide, by decide⟩) dX10_init_204 (tp_k (.inl (κ 5, 6, .inr (.inr (.inr (.inr (va_up (va_up (va_up (fun _ => none) (0 : Int32).toNatClampNeg (some q1189)) (1 : Int32).toNatClampNeg (some q1299)) (2 : Int32).toNatClampNeg (some q1412))))))) hD hl1482 eq1511 (fun f1522 H locs hP hD hS g1524 k1523 => ?_))
  have hT := hT.raw hz1509 k1523
  have hH := hH.wn hn99 k1523
  have hf1525 : f1522 h0 = .inr (10, [.int 0, .int 10, .int 700, .int 0, .int 0, .int 0, .int 0, .ref q9, .ref q35, .ref q64, .ref q87, .ref q114, .ref q156, .ref q212, .ref q271, .ref q333, .ref q399, .ref q469, .ref q543]) := (k1523 _ ne100).trans hf1475
  have hf1526 : f1522 q64 = .inl (κ 4, 6, .inr (.inr (.inr (.inr (va_up (va_up (va_up (va_up (va_up (va_up (fun _ => none) (0 : Int32).toNatClampNeg (some q622)) (1 : Int32).toNatClampNeg (some q709)) (2 : Int32).toNatClampNeg (some q799)) (3 : Int32).toNatClampNeg (some q892)) (4 : Int32).toNatClampNeg (some q988)) (5 : Int32).toNatClampNeg (some q1087)))))) := (k1523 _ ne101).trans hf1478
  clear hf1475 hf1478
  refine lv_iinc (v := 3) (lv' := [(1, .int 3), (0, .ref h0)]) hx hb dX10_init_205 hl (k := 0) rfl (by decide) (by decide) rfl (fun ls hl => ?_)
  refine lv_goto (tgt := 186) hx hb dX10_init_208 (by decide) ?_
  refine lv_iload_n hx hb dX10_init_186 rfl (lv_at hl 0 rfl) ?_
  refine lv_bipush (v := 6) hx hb dX10_init_187 (by decide) ?_
  refine lv_icmp_ge (tgt := 211) hx hb dX10_init_189 (by decide) (fun c9 => absurd c9 (by decide)) (fun _ => ?_)
  refine lv_aload_n hx hb dX10_init_192 rfl (lv_at hl 1 rfl) ?_
  refine tpk_pos hl1476 hf1525 (fun q1527 eq1527 => ?_)
  refine va_get (D := (dC, dI)) (ci := 10) (v := .ref q87) (C := RX10) (T := TX10) (N := 19) hx hb hts hfX10 hown hK hP q1527 eq1527 rfl 10 (by decide) (hts (.fieldLink RX10 33 "ColdShips$World" "ships" "[LColdShips$Ship;") wa_45) (fun _ h9 => h9) rfl dX10_init_193 ?_
  refine lv_iload_n hx hb dX10_init_196 rfl (lv_at hl 0 rfl) ?_
  refine va_new (ci := 5) (fs := [.null, .int 0, .int 0, .int 0, .int 0, .int 0, .int 0, .null, .null, .null, .int 0, .int 0, .int 0, .null, .int 0, .null, .null]) (C := RX5) (T := TX5) (N := 17) hx hb hts hfX5 tyX5 tyX5_ok hown (hts (.classLink RX10 31 RX5) wa_44) (hts (.instantiable RX5 17) wa_63) (hts (.initialized RX5) wa_64) hK hP hD hS hA rfl (fun j hj => by rcases tpj_17 j hj with rfl | rfl | rfl | rfl | rfl | rfl | rfl | rfl | rfl | rfl | rfl | rfl | rfl | rfl | rfl | rfl | rfl <;> rfl) (Nat.le_of_ble_eq_true rfl) (Nat.le_of_ble_eq_true rfl) dX10_init_197 (fun q1528 H hP hD hS => ?_)
  refine Exists.elim (tp_grow hG hT hP hD) (fun L1538 hE90 => Exists.elim hE90 (fun f1537 hE91 => tn_10 hE91 (fun hP hD hg1529 ht1530 hs1531 hq1532 hz1533 hn1534 hf1535 ho1536 => ?_)))
  clear hE91 hE90
  have hn1539 : ∀ a, a ∈ L → a ≠ q1528 := fun a ha => hn1534 a (hH.1 a ha)
  have ne1540 : h0 ≠ q1528 := hn1534 _ hl1476
  have ne1541 : q64 ≠ q1528 := hn1534 _ hl1479
  have ne1542 : q87 ≠ q1528 := hn1534 _ hl1482
  have ne1543 : q9 ≠ q1528 := hn1534 _ (tp_in hG ht1483 (by decide))
  have ne1544 : q35 ≠ q1528 := hn1534 _ (tp_in hG ht1485 (by decide))
  have ne1545 : q114 ≠ q1528 := hn1534 _ (tp_in hG ht1487 (by decide))
  have ne1546 : q156 ≠ q1528 := hn1534 _ (tp_in hG ht1488 (by decide))
  have ne1547 : q212 ≠ q1528 := hn1534 _ (tp_in hG ht1489 (by decide))
  have ne1548 : q271 ≠ q1528 := hn1534 _ (tp_in hG ht1490 (by decide))
  have ne1549 : q333 ≠ q1528 := hn1534 _ (tp_in hG ht1491 (by decide))
  have ne1550 : q399 ≠ q1528 := hn1534 _ (tp_in hG ht1493 (by decide))
  have ne1551 : q469 ≠ q1528 := hn1534 _ (tp_in hG ht1495 (by decide))
  have ne1552 : q543 ≠ q1528 := hn1534 _ (tp_in hG ht1497 (by decide))
  have ne1553 : q622 ≠ q1528 := hn1534 _ (tp_in hG ht1499 (by decide))
  have ne1554 : q709 ≠ q1528 := hn1534 _ (tp_in hG ht1500 (by decide))
  have ne1555 : q799 ≠ q1528 := hn1534 _ (tp_in hG ht1501 (by decide))
  have ne1556 : q892 ≠ q1528 := hn1534 _ (tp_in hG ht1502 (by decide))
  have ne1557 : q988 ≠ q1528 := hn1534 _ (tp_in hG ht1503 (by decide))
  have ne1558 : q1087 ≠ q1528 := hn1534 _ (tp_in hG ht1504 (by decide))
  have ne1559 : q1189 ≠ q1528 := hn1534 _ (tp_in hG ht1505 (by decide))
  have ne1560 : q1299 ≠ q1528 := hn1534 _ (tp_in hG ht1506 (by decide))
  have ne1561 : q1412 ≠ q1528 := hn1534 _ (tp_in hG ht1510 (by decide))
  have hG := hg1529
  have hT := ht1530
  have hH := hH.gr hs1531 hn1534 ho1536
  have hf1562 : f1537 h0 = .inr (10, [.int 0, .int 10, .int 700, .int 0, .int 0, .int 0, .int 0, .ref q9, .ref q35, .ref q64, .ref q87, .ref q114, .ref q156, .ref q212, .ref q271, .ref q333, .ref q399, .ref q469, .ref q543]) := (ho1536 _ ne1540).trans hf1525
  have hl1563 : h0 ∈ L1538 := hs1531 _ hl1476
  have hf1564 : f1537 q64 = .inl (κ 4, 6, .inr (.inr (.inr (.inr (va_up (va_up (va_up (va_up (va_up (va_up (fun _ => none) (0 : Int32).toNatClampNeg (some q622)) (1 : Int32).toNatClampNeg (some q709)) (2 : Int32).toNatClampNeg (some q799)) (3 : Int32).toNatClampNeg (some q892)) (4 : Int32).toNatClampNeg (some q988)) (5 : Int32).toNatClampNeg (some q1087)))))) := (ho1536 _ ne1541).trans hf1526
  have hl1565 : q64 ∈ L1538 := hs1531 _ hl1479
  have hf1566 : f1537 q87 = .inl (κ 5, 6, .inr (.inr (.inr (.inr (va_up (va_up (va_up (fun _ => none) (0 : Int32).toNatClampNeg (some q1189)) (1 : Int32).toNatClampNeg (some q1299)) (2 : Int32).toNatClampNeg (some q1412)))))) := (ho1536 _ ne1542).trans g1524
  have hl1567 : q87 ∈ L1538 := hs1531 _ hl1482
  clear hf1525 hl1476 hf1526 hl1479 g1524 hl1482
  refine lv_dup hx hb dX10_init_200 rfl ?_
  have hFc := tp_fr hD hS hA
  refine va_callv (va_runIN (As := []) (rest := [.ref q1528, .int 3, .ref q87]) ⟨hx, hb, hml, hown, hts⟩ (t_X5_init l dC dI _ Ω κ τ_1455 ν_1455 ρ_1455 L1538 f1537 hG hT q1528 hq1532 hz1533 hf1535) ⟨(va_cnB (host := "ColdShips") 0 hts ggX10_init_X5_init rfl rfl rfl (hN.1 (.methodLinkNest RX10 77 yX5_init "ColdShips") nzw_105) (hts (.initialized RX5) wa_64) pd_X5_init ⟨Nat.le_of_ble_eq_true rfl, Nat.le_of_ble_eq_true rfl⟩), rfl, (hts (.instanceMethod yX5_init) wa_90)⟩ ⟨pz_blind, pz_pre hP hK hD hN⟩ rfl rfl hl.1 rfl (lv_room (Nat.le_of_ble_eq_true rfl)) dX10_init_201 ⟨Nat.le_of_ble_eq_true rfl, Nat.le_of_ble_eq_true rfl⟩) hS (fun q _ h => hFc q h) hFc (fun x1568 t H1 locs ht hvm hw1570 hB hz1 hk1 hS => ?_)
  obtain ⟨τ_1572, ν_1572, ρ_1572, L_1572, f1571⟩ := x1568
  obtain ⟨⟨hG9, hT9, hH9⟩, hw1570p⟩ := hw1570
  have hc1573 := hH9.2 _ (tp_in hG ht1483 (by decide)) (fun z => ne1543 (Option.some.inj z))
  have hc1574 := hH9.2 _ (tp_in hG ht1485 (by decide)) (fun z => ne1544 (Option.some.inj z))
  have hc1575 := hH9.2 _ (tp_in hG ht1487 (by decide)) (fun z => ne1545 (Option.some.inj z))
  have hc1576 := hH9.2 _ (tp_in hG ht1488 (by decide)) (fun z => ne1546 (Option.some.inj z))
  have hc1577 := hH9.2 _ (tp_in hG ht1489 (by decide)) (fun z => ne1547 (Option.some.inj z))
  have hc1578 := hH9.2 _ (tp_in hG ht1490 (by decide)) (fun z => ne1548 (Option.some.inj z))
  have hc1579 := hH9.2 _ (tp_in hG ht1491 (by decide)) (fun z => ne1549 (Option.some.inj z))
  have hc1580 := hH9.2 _ (tp_in hG ht1493 (by decide)) (fun z => ne1550 (Option.some.inj z))
  have hc1581 := hH9.2 _ (tp_in hG ht1495 (by decide)) (fun z => ne1551 (Option.some.inj z))
  have hc1582 := hH9.2 _ (tp_in hG ht1497 (by decide)) (fun z => ne1552 (Option.some.inj z))
  have hc1583 := hH9.2 _ (tp_in hG ht1499 (by decide)) (fun z => ne1553 (Option.some.inj z))
  have hc1584 := hH9.2 _ (tp_in hG ht1500 (by decide)) (fun z => ne1554 (Option.some.inj z))
  have hc1585 := hH9.2 _ (tp_in hG ht1501 (by decide)) (fun z => ne1555 (Option.some.inj z))
  have hc1586 := hH9.2 _ (tp_in hG ht1502 (by decide)) (fun z => ne1556 (Option.some.inj z))
  have hc1587 := hH9.2 _ (tp_in hG ht1503 (by decide)) (fun z => ne1557 (Option.some.inj z))
  have hc1588 := hH9.2 _ (tp_in hG ht1504 (by decide)) (fun z => ne1558 (Option.some.inj z))
  have hc1589 := hH9.2 _ (tp_in hG ht1505 (by decide)) (fun z => ne1559 (Option.some.inj z))
  have hc1590 := hH9.2 _ (tp_in hG ht1506 (by decide)) (fun z => ne1560 (Option.some.inj z))
  have hc1591 := hH9.2 _ (tp_in hG ht1510 (by decide)) (fun z => ne1561 (Option.some.inj z))
  have hc1592 := hH9.2 _ hl1563 (fun z => ne1540 (Option.some.inj z))
  have hf1593 : f1571 h0 = .inr (10, [.int 0, .int 10, .int 700, .int 0, .int 0, .int 0, .int 0, .ref q9, .ref q35, .ref q64, .ref q87, .ref q114, .ref q156, .ref q212, .ref q271, .ref q333, .ref q399, .ref q469, .ref q543]) := (hc1592.2.2.2 (by rw [hz1507]; decide)).trans hf1562
  have hl1594 := hH9.1 _ hl1563
  have hc1595 := hH9.2 _ hl1565 (fun z => ne1541 (Option.some.inj z))
  have hf1596 : f1571 q64 = .inl (κ 4, 6, .inr (.inr (.inr (.inr (va_up (va_up (va_up (va_up (va_up (va_up (fun _ => none) (0 : Int32).toNatClampNeg (some q622)) (1 : Int32).toNatClampNeg (some q709)) (2 : Int32).toNatClampNeg (some q799)) (3 : Int32).toNatClampNeg (some q892)) (4 : Int32).toNatClampNeg (some q988)) (5 : Int32).toNatClampNeg (some q1087)))))) := (hc1595.2.2.2 (by rw [hz1508]; decide)).trans hf1564
  have hl1597 := hH9.1 _ hl1565
  have hc1598 := hH9.2 _ hl1567 (fun z => ne1542 (Option.some.inj z))
  have hf1599 : f1571 q87 = .inl (κ 5, 6, .inr (.inr (.inr (.inr (va_up (va_up (va_up (fun _ => none) (0 : Int32).toNatClampNeg (some q1189)) (1 : Int32).toNatClampNeg (some q1299)) (2 : Int32).toNatClampNeg (some q1412)))))) := (hc1598.2.2.2 (by rw [hz1509]; decide)).trans hf1566
  have hl1600 := hH9.1 _ hl1567
  have hH := hH.call hH9 (by decide) (fun a ha _ z => hn1539 a ha (Option.some.inj z))
  have hG : tp_G τ_1572 ν_1572 ρ_1572 L_1572 := hG9; have hT : tp_T Ω κ τ_1572 ν_1572 ρ_1572 f1571 := hT9
  have hH : tp_H τ ν ρ L f [] (some h0) τ_1572 ν_1572 ρ_1572 L_1572 f1571 := hH
  have hP := hB.1; rw [ht] at hP; have hD := tp_Dw hB.2.2 hFc; clear hB hFc hz1 hk1; subst ht; generalize t.heap = H at hP hS ⊢
  have hP : va_P (dC, dI) vwCl (va_pl L_1572 f1571) H := hP
  have hD : va_D A (va_pl L_1572 f1571) := hD
  have ht1601 : τ_1572 q9 = 20 := hc1573.1.trans ht1483
  have hn1602 : ν_1572 q9 = 25 := hc1573.2.1.trans hn1484
  have ht1603 : τ_1572 q35 = 20 := hc1574.1.trans ht1485
  have hn1604 : ν_1572 q35 = 100 := hc1574.2.1.trans hn1486
  have ht1605 : τ_1572 q114 = 26 := hc1575.1.trans ht1487
  have ht1606 : τ_1572 q156 = 7 := hc1576.1.trans ht1488
  have ht1607 : τ_1572 q212 = 7 := hc1577.1.trans ht1489
  have ht1608 : τ_1572 q271 = 7 := hc1578.1.trans ht1490
  have ht1609 : τ_1572 q333 = 5 := hc1579.1.trans ht1491
  have hx1610 : ρ_1572 q333 10 = 3 ∧ ρ_1572 q333 11 = 60 := by have q9 : ρ_1572 q333 = _ := hc1579.2.2.1; rw [q9]; exact hx1492
  have ht1611 : τ_1572 q399 = 5 := hc1580.1.trans ht1493
  have hx1612 : ρ_1572 q399 10 = 5 ∧ ρ_1572 q399 11 = 60 := by have q9 : ρ_1572 q399 = _ := hc1580.2.2.1; rw [q9]; exact hx1494
  have ht1613 : τ_1572 q469 = 5 := hc1581.1.trans ht1495
  have hx1614 : ρ_1572 q469 10 = 15 ∧ ρ_1572 q469 11 = 60 := by have q9 : ρ_1572 q469 = _ := hc1581.2.2.1; rw [q9]; exact hx1496
  have ht1615 : τ_1572 q543 = 5 := hc1582.1.trans ht1497
  have hx1616 : ρ_1572 q543 10 = 8 ∧ ρ_1572 q543 11 = 6 := by have q9 : ρ_1572 q543 = _ := hc1582.2.2.1; rw [q9]; exact hx1498
  have ht1617 : τ_1572 q622 = 9 := hc1583.1.trans ht1499
  have ht1618 : τ_1572 q709 = 9 := hc1584.1.trans ht1500
  have ht1619 : τ_1572 q799 = 9 := hc1585.1.trans ht1501
  have ht1620 : τ_1572 q892 = 9 := hc1586.1.trans ht1502
  have ht1621 : τ_1572 q988 = 9 := hc1587.1.trans ht1503
  have ht1622 : τ_1572 q1087 = 9 := hc1588.1.trans ht1504
  have ht1623 : τ_1572 q1189 = 6 := hc1589.1.trans ht1505
  have ht1624 : τ_1572 q1299 = 6 := hc1590.1.trans ht1506
  have ht1625 : τ_1572 q1412 = 6 := hc1591.1.trans ht1510
  have hz1626 : τ_1572 h0 = 0 := hc1592.1.trans hz1507
  have hz1627 : τ_1572 q64 = 0 := hc1595.1.trans hz1508
  have hz1628 : τ_1572 q87 = 0 := hc1598.1.trans hz1509
  clear ht1483 hn1484 ht1485 hn1486 ht1487 ht1488 ht1489 ht1490 ht1491 hx1492 ht1493 hx1494 ht1495 hx1496 ht1497 hx1498 ht1499 ht1500 ht1501 ht1502 ht1503 ht1504 ht1505 ht1506 ht1510 hz1507 hz1508 hz1509 ne1540 ne1541 ne1542 ne1543 ne1544 ne1545 ne1546 ne1547 ne1548 ne1549 ne1550 ne1551 ne1552 ne1553 ne1554 ne1555 ne1556 ne1557 ne1558 ne1559 ne1560 ne1561 hc1573 hc1574 hc1575 hc1576 hc1577 hc1578 hc1579 hc1580 hc1581 hc1582 hc1583 hc1584 hc1585 hc1586 hc1587 hc1588 hc1589 hc1590 hc1591 hc1592 hc1595 hc1598 hG9 hT9 hH9
  have ht1629 : τ_1572 q1528 = 6 := hw1570p
  refine tpk_pos hl1600 hf1599 (fun q1630 eq1630 => ?_)
  refine tgk_6 hG ht1629 (fun y1632 y1633 y1633n y1634 y1634n y1635 y1635n y1636 y1636n y1637 y1637n y1638 y1638n => ?_)
  refine tpk_6 hT ht1629 (fun o1639_x1 o1639_x2 o1639_x3 o1639_x4 o1639_x5 o1639_x6 o1639_x10 o1639_x11 o1639_x12 o1639_x14 hf_o1639 ro1639_0 ro1639_1 ro1639_2 => ?_)
  refine tpk_pos (tp_in hG ht1629 (by decide)) hf_o1639 (fun q1640 eq1640 => ?_)
  refine va_astq hx hb hK hP hD hS q1630 5 q1640 5 eq1630 rfl eq1640 rfl (vp_in_iff.mpr ⟨by decide, by decide⟩) dX10_init_204 (tp_k (.inl (κ 5, 6, .inr (.inr (.inr (.inr (va_up (va_up (va_up (va_up (fun _ => none) (0 : Int32).toNatClampNeg (some q1189)) (1 : Int32).toNatClampNeg (some q1299)) (2 : Int32).toNatClampNeg (some q1412)) (3 : Int32).toNatClampNeg (some q1528))))))) hD hl1600 eq1630 (fun f1641 H locs hP hD hS g1643 k1642 => ?_))
  have hT := hT.raw hz1628 k1642
  have hH := hH.wn hn99 k1642
  have hf1644 : f1641 h0 = .inr (10, [.int 0, .int 10, .int 700, .int 0, .int 0, .int 0, .int 0, .ref q9, .ref q35, .ref q64, .ref q87, .ref q114, .ref q156, .ref q212, .ref q271, .ref q333, .ref q399, .ref q469, .ref q543]) := (k1642 _ ne100).trans hf1593
  have hf1645 : f1641 q64 = .inl (κ 4, 6, .inr (.inr (.inr (.inr (va_up (va_up (va_up (va_up (va_up (va_up (fun _ => none) (0 : Int32).toNatClampNeg (some q622)) (1 : Int32).toNatClampNeg (some q709)) (2 : Int32).toNatClampNeg (some q799)) (3 : Int32).toNatClampNeg (some q892)) (4 : Int32).toNatClampNeg (some q988)) (5 : Int32).toNatClampNeg (some q1087)))))) := (k1642 _ ne101).trans hf1596
  clear hf1593 hf1596
  refine lv_iinc (v := 4) (lv' := [(1, .int 4), (0, .ref h0)]) hx hb dX10_init_205 hl (k := 0) rfl (by decide) (by decide) rfl (fun ls hl => ?_)
  refine lv_goto (tgt := 186) hx hb dX10_init_208 (by decide) ?_
  refine lv_iload_n hx hb dX10_init_186 rfl (lv_at hl 0 rfl) ?_
  refine lv_bipush (v := 6) hx hb dX10_init_187 (by decide) ?_
  refine lv_icmp_ge (tgt := 211) hx hb dX10_init_189 (by decide) (fun c9 => absurd c9 (by decide)) (fun _ => ?_)
  refine lv_aload_n hx hb dX10_init_192 rfl (lv_at hl 1 rfl) ?_
  refine tpk_pos hl1594 hf1644 (fun q1646 eq1646 => ?_)
  refine va_get (D := (dC, dI)) (ci := 10) (v := .ref q87) (C := RX10) (T := TX10) (N := 19) hx hb hts hfX10 hown hK hP q1646 eq1646 rfl 10 (by decide) (hts (.fieldLink RX10 33 "ColdShips$World" "ships" "[LColdShips$Ship;") wa_45) (fun _ h9 => h9) rfl dX10_init_193 ?_
  refine lv_iload_n hx hb dX10_init_196 rfl (lv_at hl 0 rfl) ?_
  refine va_new (ci := 5) (fs := [.null, .int 0, .int 0, .int 0, .int 0, .int 0, .int 0, .null, .null, .null, .int 0, .int 0, .int 0, .null, .int 0, .null, .null]) (C := RX5) (T := TX5) (N := 17) hx hb hts hfX5 tyX5 tyX5_ok hown (hts (.classLink RX10 31 RX5) wa_44) (hts (.instantiable RX5 17) wa_63) (hts (.initialized RX5) wa_64) hK hP hD hS hA rfl (fun j hj => by rcases tpj_17 j hj with rfl | rfl | rfl | rfl | rfl | rfl | rfl | rfl | rfl | rfl | rfl | rfl | rfl | rfl | rfl | rfl | rfl <;> rfl) (Nat.le_of_ble_eq_true rfl) (Nat.le_of_ble_eq_true rfl) dX10_init_197 (fun q1647 H hP hD hS => ?_)
  refine Exists.elim (tp_grow hG hT hP hD) (fun L1657 hE90 => Exists.elim hE90 (fun f1656 hE91 => tn_10 hE91 (fun hP hD hg1648 ht1649 hs1650 hq1651 hz1652 hn1653 hf1654 ho1655 => ?_)))
  clear hE91 hE90
  have hn1658 : ∀ a, a ∈ L → a ≠ q1647 := fun a ha => hn1653 a (hH.1 a ha)
  have ne1659 : h0 ≠ q1647 := hn1653 _ hl1594
  have ne1660 : q64 ≠ q1647 := hn1653 _ hl1597
  have ne1661 : q87 ≠ q1647 := hn1653 _ hl1600
  have ne1662 : q9 ≠ q1647 := hn1653 _ (tp_in hG ht1601 (by decide))
  have ne1663 : q35 ≠ q1647 := hn1653 _ (tp_in hG ht1603 (by decide))
  have ne1664 : q114 ≠ q1647 := hn1653 _ (tp_in hG ht1605 (by decide))
  have ne1665 : q156 ≠ q1647 := hn1653 _ (tp_in hG ht1606 (by decide))
  have ne1666 : q212 ≠ q1647 := hn1653 _ (tp_in hG ht1607 (by decide))
  have ne1667 : q271 ≠ q1647 := hn1653 _ (tp_in hG ht1608 (by decide))
  have ne1668 : q333 ≠ q1647 := hn1653 _ (tp_in hG ht1609 (by decide))
  have ne1669 : q399 ≠ q1647 := hn1653 _ (tp_in hG ht1611 (by decide))
  have ne1670 : q469 ≠ q1647 := hn1653 _ (tp_in hG ht1613 (by decide))
  have ne1671 : q543 ≠ q1647 := hn1653 _ (tp_in hG ht1615 (by decide))
  have ne1672 : q622 ≠ q1647 := hn1653 _ (tp_in hG ht1617 (by decide))
  have ne1673 : q709 ≠ q1647 := hn1653 _ (tp_in hG ht1618 (by decide))
  have ne1674 : q799 ≠ q1647 := hn1653 _ (tp_in hG ht1619 (by decide))
  have ne1675 : q892 ≠ q1647 := hn1653 _ (tp_in hG ht1620 (by decide))
  have ne1676 : q988 ≠ q1647 := hn1653 _ (tp_in hG ht1621 (by decide))
  have ne1677 : q1087 ≠ q1647 := hn1653 _ (tp_in hG ht1622 (by decide))
  have ne1678 : q1189 ≠ q1647 := hn1653 _ (tp_in hG ht1623 (by decide))
  have ne1679 : q1299 ≠ q1647 := hn1653 _ (tp_in hG ht1624 (by decide))
  have ne1680 : q1412 ≠ q1647 := hn1653 _ (tp_in hG ht1625 (by decide))
  have ne1681 : q1528 ≠ q1647 := hn1653 _ (tp_in hG ht1629 (by decide))
  have hG := hg1648
  have hT := ht1649
  have hH := hH.gr hs1650 hn1653 ho1655
  have hf1682 : f1656 h0 = .inr (10, [.int 0, .int 10, .int 700, .int 0, .int 0, .int 0, .int 0, .ref q9, .ref q35, .ref q64, .ref q87, .ref q114, .ref q156, .ref q212, .ref q271, .ref q333, .ref q399, .ref q469, .ref q543]) := (ho1655 _ ne1659).trans hf1644
  have hl1683 : h0 ∈ L1657 := hs1650 _ hl1594
  have hf1684 : f1656 q64 = .inl (κ 4, 6, .inr (.inr (.inr (.inr (va_up (va_up (va_up (va_up (va_up (va_up (fun _ => none) (0 : Int32).toNatClampNeg (some q622)) (1 : Int32).toNatClampNeg (some q709)) (2 : Int32).toNatClampNeg (some q799)) (3 : Int32).toNatClampNeg (some q892)) (4 : Int32).toNatClampNeg (some q988)) (5 : Int32).toNatClampNeg (some q1087)))))) := (ho1655 _ ne1660).trans hf1645
  have hl1685 : q64 ∈ L1657 := hs1650 _ hl1597
  have hf1686 : f1656 q87 = .inl (κ 5, 6, .inr (.inr (.inr (.inr (va_up (va_up (va_up (va_up (fun _ => none) (0 : Int32).toNatClampNeg (some q1189)) (1 : Int32).toNatClampNeg (some q1299)) (2 : Int32).toNatClampNeg (some q1412)) (3 : Int32).toNatClampNeg (some q1528)))))) := (ho1655 _ ne1661).trans g1643
  have hl1687 : q87 ∈ L1657 := hs1650 _ hl1600
  clear hf1644 hl1594 hf1645 hl1597 g1643 hl1600
  refine lv_dup hx hb dX10_init_200 rfl ?_
  have hFc := tp_fr hD hS hA
  refine va_callv (va_runIN (As := []) (rest := [.ref q1647, .int 4, .ref q87]) ⟨hx, hb, hml, hown, hts⟩ (t_X5_init l dC dI _ Ω κ τ_1572 ν_1572 ρ_1572 L1657 f1656 hG hT q1647 hq1651 hz1652 hf1654) ⟨(va_cnB (host := "ColdShips") 0 hts ggX10_init_X5_init rfl rfl rfl (hN.1 (.methodLinkNest RX10 77 yX5_init "ColdShips") nzw_105) (hts (.initialized RX5) wa_64) pd_X5_init ⟨Nat.le_of_ble_eq_true rfl, Nat.le_of_ble_eq_true rfl⟩), rfl, (hts (.instanceMethod yX5_init) wa_90)⟩ ⟨pz_blind, pz_pre hP hK hD hN⟩ rfl rfl hl.1 rfl (lv_room (Nat.le_of_ble_eq_true rfl)) dX10_init_201 ⟨Nat.le_of_ble_eq_true rfl, Nat.le_of_ble_eq_true rfl⟩) hS (fun q _ h => hFc q h) hFc (fun x1688 t H1 locs ht hvm hw1690 hB hz1 hk1 hS => ?_)
  obtain ⟨τ_1692, ν_1692, ρ_1692, L_1692, f1691⟩ := x1688
  obtain ⟨⟨hG9, hT9, hH9⟩, hw1690p⟩ := hw1690
  have hc1693 := hH9.2 _ (tp_in hG ht1601 (by decide)) (fun z => ne1662 (Option.some.inj z))
  have hc1694 := hH9.2 _ (tp_in hG ht1603 (by decide)) (fun z => ne1663 (Option.some.inj z))
  have hc1695 := hH9.2 _ (tp_in hG ht1605 (by decide)) (fun z => ne1664 (Option.some.inj z))
  have hc1696 := hH9.2 _ (tp_in hG ht1606 (by decide)) (fun z => ne1665 (Option.some.inj z))
  have hc1697 := hH9.2 _ (tp_in hG ht1607 (by decide)) (fun z => ne1666 (Option.some.inj z))
  have hc1698 := hH9.2 _ (tp_in hG ht1608 (by decide)) (fun z => ne1667 (Option.some.inj z))
  have hc1699 := hH9.2 _ (tp_in hG ht1609 (by decide)) (fun z => ne1668 (Option.some.inj z))
  have hc1700 := hH9.2 _ (tp_in hG ht1611 (by decide)) (fun z => ne1669 (Option.some.inj z))
  have hc1701 := hH9.2 _ (tp_in hG ht1613 (by decide)) (fun z => ne1670 (Option.some.inj z))
  have hc1702 := hH9.2 _ (tp_in hG ht1615 (by decide)) (fun z => ne1671 (Option.some.inj z))
  have hc1703 := hH9.2 _ (tp_in hG ht1617 (by decide)) (fun z => ne1672 (Option.some.inj z))
  have hc1704 := hH9.2 _ (tp_in hG ht1618 (by decide)) (fun z => ne1673 (Option.some.inj z))
  have hc1705 := hH9.2 _ (tp_in hG ht1619 (by decide)) (fun z => ne1674 (Option.some.inj z))
  have hc1706 := hH9.2 _ (tp_in hG ht1620 (by decide)) (fun z => ne1675 (Option.some.inj z))
  have hc1707 := hH9.2 _ (tp_in hG ht1621 (by decide)) (fun z => ne1676 (Option.some.inj z))
  have hc1708 := hH9.2 _ (tp_in hG ht1622 (by decide)) (fun z => ne1677 (Option.some.inj z))
  have hc1709 := hH9.2 _ (tp_in hG ht1623 (by decide)) (fun z => ne1678 (Option.some.inj z))
  have hc1710 := hH9.2 _ (tp_in hG ht1624 (by decide)) (fun z => ne1679 (Option.some.inj z))
  have hc1711 := hH9.2 _ (tp_in hG ht1625 (by decide)) (fun z => ne1680 (Option.some.inj z))
  have hc1712 := hH9.2 _ (tp_in hG ht1629 (by decide)) (fun z => ne1681 (Option.some.inj z))
  have hc1713 := hH9.2 _ hl1683 (fun z => ne1659 (Option.some.inj z))
  have hf1714 : f1691 h0 = .inr (10, [.int 0, .int 10, .int 700, .int 0, .int 0, .int 0, .int 0, .ref q9, .ref q35, .ref q64, .ref q87, .ref q114, .ref q156, .ref q212, .ref q271, .ref q333, .ref q399, .ref q469, .ref q543]) := (hc1713.2.2.2 (by rw [hz1626]; decide)).trans hf1682
  have hl1715 := hH9.1 _ hl1683
  have hc1716 := hH9.2 _ hl1685 (fun z => ne1660 (Option.some.inj z))
  have hf1717 : f1691 q64 = .inl (κ 4, 6, .inr (.inr (.inr (.inr (va_up (va_up (va_up (va_up (va_up (va_up (fun _ => none) (0 : Int32).toNatClampNeg (some q622)) (1 : Int32).toNatClampNeg (some q709)) (2 : Int32).toNatClampNeg (some q799)) (3 : Int32).toNatClampNeg (some q892)) (4 : Int32).toNatClampNeg (some q988)) (5 : Int32).toNatClampNeg (some q1087)))))) := (hc1716.2.2.2 (by rw [hz1627]; decide)).trans hf1684
  have hl1718 := hH9.1 _ hl1685
  have hc1719 := hH9.2 _ hl1687 (fun z => ne1661 (Option.some.inj z))
  have hf1720 : f1691 q87 = .inl (κ 5, 6, .inr (.inr (.inr (.inr (va_up (va_up (va_up (va_up (fun _ => none) (0 : Int32).toNatClampNeg (some q1189)) (1 : Int32).toNatClampNeg (some q1299)) (2 : Int32).toNatClampNeg (some q1412)) (3 : Int32).toNatClampNeg (some q1528)))))) := (hc1719.2.2.2 (by rw [hz1628]; decide)).trans hf1686
  have hl1721 := hH9.1 _ hl1687
  have hH := hH.call hH9 (by decide) (fun a ha _ z => hn1658 a ha (Option.some.inj z))
  have hG : tp_G τ_1692 ν_1692 ρ_1692 L_1692 := hG9; have hT : tp_T Ω κ τ_1692 ν_1692 ρ_1692 f1691 := hT9
  have hH : tp_H τ ν ρ L f [] (some h0) τ_1692 ν_1692 ρ_1692 L_1692 f1691 := hH
  have hP := hB.1; rw [ht] at hP; have hD := tp_Dw hB.2.2 hFc; clear hB hFc hz1 hk1; subst ht; generalize t.heap = H at hP hS ⊢
  have hP : va_P (dC, dI) vwCl (va_pl L_1692 f1691) H := hP
  have hD : va_D A (va_pl L_1692 f1691) := hD
  have ht1722 : τ_1692 q9 = 20 := hc1693.1.trans ht1601
  have hn1723 : ν_1692 q9 = 25 := hc1693.2.1.trans hn1602
  have ht1724 : τ_1692 q35 = 20 := hc1694.1.trans ht1603
  have hn1725 : ν_1692 q35 = 100 := hc1694.2.1.trans hn1604
  have ht1726 : τ_1692 q114 = 26 := hc1695.1.trans ht1605
  have ht1727 : τ_1692 q156 = 7 := hc1696.1.trans ht1606
  have ht1728 : τ_1692 q212 = 7 := hc1697.1.trans ht1607
  have ht1729 : τ_1692 q271 = 7 := hc1698.1.trans ht1608
  have ht1730 : τ_1692 q333 = 5 := hc1699.1.trans ht1609
  have hx1731 : ρ_1692 q333 10 = 3 ∧ ρ_1692 q333 11 = 60 := by have q9 : ρ_1692 q333 = _ := hc1699.2.2.1; rw [q9]; exact hx1610
  have ht1732 : τ_1692 q399 = 5 := hc1700.1.trans ht1611
  have hx1733 : ρ_1692 q399 10 = 5 ∧ ρ_1692 q399 11 = 60 := by have q9 : ρ_1692 q399 = _ := hc1700.2.2.1; rw [q9]; exact hx1612
  have ht1734 : τ_1692 q469 = 5 := hc1701.1.trans ht1613
  have hx1735 : ρ_1692 q469 10 = 15 ∧ ρ_1692 q469 11 = 60 := by have q9 : ρ_1692 q469 = _ := hc1701.2.2.1; rw [q9]; exact hx1614
  have ht1736 : τ_1692 q543 = 5 := hc1702.1.trans ht1615
  have hx1737 : ρ_1692 q543 10 = 8 ∧ ρ_1692 q543 11 = 6 := by have q9 : ρ_1692 q543 = _ := hc1702.2.2.1; rw [q9]; exact hx1616
  have ht1738 : τ_1692 q622 = 9 := hc1703.1.trans ht1617
  have ht1739 : τ_1692 q709 = 9 := hc1704.1.trans ht1618
  have ht1740 : τ_1692 q799 = 9 := hc1705.1.trans ht1619
  have ht1741 : τ_1692 q892 = 9 := hc1706.1.trans ht1620
  have ht1742 : τ_1692 q988 = 9 := hc1707.1.trans ht1621
  have ht1743 : τ_1692 q1087 = 9 := hc1708.1.trans ht1622
  have ht1744 : τ_1692 q1189 = 6 := hc1709.1.trans ht1623
  have ht1745 : τ_1692 q1299 = 6 := hc1710.1.trans ht1624
  have ht1746 : τ_1692 q1412 = 6 := hc1711.1.trans ht1625
  have ht1747 : τ_1692 q1528 = 6 := hc1712.1.trans ht1629
  have hz1748 : τ_1692 h0 = 0 := hc1713.1.trans hz1626
  have hz1749 : τ_1692 q64 = 0 := hc1716.1.trans hz1627
  have hz1750 : τ_1692 q87 = 0 := hc1719.1.trans hz1628
  clear ht1601 hn1602 ht1603 hn1604 ht1605 ht1606 ht1607 ht1608 ht1609 hx1610 ht1611 hx1612 ht1613 hx1614 ht1615 hx1616 ht1617 ht1618 ht1619 ht1620 ht1621 ht1622 ht1623 ht1624 ht1625 ht1629 hz1626 hz1627 hz1628 ne1659 ne1660 ne1661 ne1662 ne1663 ne1664 ne1665 ne1666 ne1667 ne1668 ne1669 ne1670 ne1671 ne1672 ne1673 ne1674 ne1675 ne1676 ne1677 ne1678 ne1679 ne1680 ne1681 hc1693 hc1694 hc1695 hc1696 hc1697 hc1698 hc1699 hc1700 hc1701 hc1702 hc1703 hc1704 hc1705 hc1706 hc1707 hc1708 hc1709 hc1710 hc1711 hc1712 hc1713 hc1716 hc1719 hG9 hT9 hH9
  have ht1751 : τ_1692 q1647 = 6 := hw1690p
  refine tpk_pos hl1721 hf1720 (fun q1752 eq1752 => ?_)
  refine tgk_6 hG ht1751 (fun y1754 y1755 y1755n y1756 y1756n y1757 y1757n y1758 y1758n y1759 y1759n y1760 y1760n => ?_)
  refine tpk_6 hT ht1751 (fun o1761_x1 o1761_x2 o1761_x3 o1761_x4 o1761_x5 o1761_x6 o1761_x10 o1761_x11 o1761_x12 o1761_x14 hf_o1761 ro1761_0 ro1761_1 ro1761_2 => ?_)
  refine tpk_pos (tp_in hG ht1751 (by decide)) hf_o1761 (fun q1762 eq1762 => ?_)
  refine va_astq hx hb hK hP hD hS q1752 5 q1762 5 eq1752 rfl eq1762 rfl (vp_in_iff.mpr ⟨by decide, by decide⟩) dX10_init_204 (tp_k (.inl (κ 5, 6, .inr (.inr (.inr (.inr (va_up (va_up (va_up (va_up (va_up (fun _ => none) (0 : Int32).toNatClampNeg (some q1189)) (1 : Int32).toNatClampNeg (some q1299)) (2 : Int32).toNatClampNeg (some q1412)) (3 : Int32).toNatClampNeg (some q1528)) (4 : Int32).toNatClampNeg (some q1647))))))) hD hl1721 eq1752 (fun f1763 H locs hP hD hS g1765 k1764 => ?_))
  have hT := hT.raw hz1750 k1764
  have hH := hH.wn hn99 k1764
  have hf1766 : f1763 h0 = .inr (10, [.int 0, .int 10, .int 700, .int 0, .int 0, .int 0, .int 0, .ref q9, .ref q35, .ref q64, .ref q87, .ref q114, .ref q156, .ref q212, .ref q271, .ref q333, .ref q399, .ref q469, .ref q543]) := (k1764 _ ne100).trans hf1714
  have hf1767 : f1763 q64 = .inl (κ 4, 6, .inr (.inr (.inr (.inr (va_up (va_up (va_up (va_up (va_up (va_up (fun _ => none) (0 : Int32).toNatClampNeg (some q622)) (1 : Int32).toNatClampNeg (some q709)) (2 : Int32).toNatClampNeg (some q799)) (3 : Int32).toNatClampNeg (some q892)) (4 : Int32).toNatClampNeg (some q988)) (5 : Int32).toNatClampNeg (some q1087)))))) := (k1764 _ ne101).trans hf1717
  clear hf1714 hf1717
  refine lv_iinc (v := 5) (lv' := [(1, .int 5), (0, .ref h0)]) hx hb dX10_init_205 hl (k := 0) rfl (by decide) (by decide) rfl (fun ls hl => ?_)
  refine lv_goto (tgt := 186) hx hb dX10_init_208 (by decide) ?_
  refine lv_iload_n hx hb dX10_init_186 rfl (lv_at hl 0 rfl) ?_
  refine lv_bipush (v := 6) hx hb dX10_init_187 (by decide) ?_
  refine lv_icmp_ge (tgt := 211) hx hb dX10_init_189 (by decide) (fun c9 => absurd c9 (by decide)) (fun _ => ?_)
  refine lv_aload_n hx hb dX10_init_192 rfl (lv_at hl 1 rfl) ?_
  refine tpk_pos hl1715 hf1766 (fun q1768 eq1768 => ?_)
  refine va_get (D := (dC, dI)) (ci := 10) (v := .ref q87) (C := RX10) (T := TX10) (N := 19) hx hb hts hfX10 hown hK hP q1768 eq1768 rfl 10 (by decide) (hts (.fieldLink RX10 33 "ColdShips$World" "ships" "[LColdShips$Ship;") wa_45) (fun _ h9 => h9) rfl dX10_init_193 ?_
  refine lv_iload_n hx hb dX10_init_196 rfl (lv_at hl 0 rfl) ?_
  refine va_new (ci := 5) (fs := [.null, .int 0, .int 0, .int 0, .int 0, .int 0, .int 0, .null, .null, .null, .int 0, .int 0, .int 0, .null, .int 0, .null, .null]) (C := RX5) (T := TX5) (N := 17) hx hb hts hfX5 tyX5 tyX5_ok hown (hts (.classLink RX10 31 RX5) wa_44) (hts (.instantiable RX5 17) wa_63) (hts (.initialized RX5) wa_64) hK hP hD hS hA rfl (fun j hj => by rcases tpj_17 j hj with rfl | rfl | rfl | rfl | rfl | rfl | rfl | rfl | rfl | rfl | rfl | rfl | rfl | rfl | rfl | rfl | rfl <;> rfl) (Nat.le_of_ble_eq_true rfl) (Nat.le_of_ble_eq_true rfl) dX10_init_197 (fun q1769 H hP hD hS => ?_)
  refine Exists.elim (tp_grow hG hT hP hD) (fun L1779 hE90 => Exists.elim hE90 (fun f1778 hE91 => tn_10 hE91 (fun hP hD hg1770 ht1771 hs1772 hq1773 hz1774 hn1775 hf1776 ho1777 => ?_)))
  clear hE91 hE90
  have hn1780 : ∀ a, a ∈ L → a ≠ q1769 := fun a ha => hn1775 a (hH.1 a ha)
  have ne1781 : h0 ≠ q1769 := hn1775 _ hl1715
  have ne1782 : q64 ≠ q1769 := hn1775 _ hl1718
  have ne1783 : q87 ≠ q1769 := hn1775 _ hl1721
  have ne1784 : q9 ≠ q1769 := hn1775 _ (tp_in hG ht1722 (by decide))
  have ne1785 : q35 ≠ q1769 := hn1775 _ (tp_in hG ht1724 (by decide))
  have ne1786 : q114 ≠ q1769 := hn1775 _ (tp_in hG ht1726 (by decide))
  have ne1787 : q156 ≠ q1769 := hn1775 _ (tp_in hG ht1727 (by decide))
  have ne1788 : q212 ≠ q1769 := hn1775 _ (tp_in hG ht1728 (by decide))
  have ne1789 : q271 ≠ q1769 := hn1775 _ (tp_in hG ht1729 (by decide))
  have ne1790 : q333 ≠ q1769 := hn1775 _ (tp_in hG ht1730 (by decide))
  have ne1791 : q399 ≠ q1769 := hn1775 _ (tp_in hG ht1732 (by decide))
  have ne1792 : q469 ≠ q1769 := hn1775 _ (tp_in hG ht1734 (by decide))
  have ne1793 : q543 ≠ q1769 := hn1775 _ (tp_in hG ht1736 (by decide))
  have ne1794 : q622 ≠ q1769 := hn1775 _ (tp_in hG ht1738 (by decide))
  have ne1795 : q709 ≠ q1769 := hn1775 _ (tp_in hG ht1739 (by decide))
  have ne1796 : q799 ≠ q1769 := hn1775 _ (tp_in hG ht1740 (by decide))
  have ne1797 : q892 ≠ q1769 := hn1775 _ (tp_in hG ht1741 (by decide))
  have ne1798 : q988 ≠ q1769 := hn1775 _ (tp_in hG ht1742 (by decide))
  have ne1799 : q1087 ≠ q1769 := hn1775 _ (tp_in hG ht1743 (by decide))
  have ne1800 : q1189 ≠ q1769 := hn1775 _ (tp_in hG ht1744 (by decide))
  have ne1801 : q1299 ≠ q1769 := hn1775 _ (tp_in hG ht1745 (by decide))
  have ne1802 : q1412 ≠ q1769 := hn1775 _ (tp_in hG ht1746 (by decide))
  have ne1803 : q1528 ≠ q1769 := hn1775 _ (tp_in hG ht1747 (by decide))
  have ne1804 : q1647 ≠ q1769 := hn1775 _ (tp_in hG ht1751 (by decide))
  have hG := hg1770
  have hT := ht1771
  have hH := hH.gr hs1772 hn1775 ho1777
  have hf1805 : f1778 h0 = .inr (10, [.int 0, .int 10, .int 700, .int 0, .int 0, .int 0, .int 0, .ref q9, .ref q35, .ref q64, .ref q87, .ref q114, .ref q156, .ref q212, .ref q271, .ref q333, .ref q399, .ref q469, .ref q543]) := (ho1777 _ ne1781).trans hf1766
  have hl1806 : h0 ∈ L1779 := hs1772 _ hl1715
  have hf1807 : f1778 q64 = .inl (κ 4, 6, .inr (.inr (.inr (.inr (va_up (va_up (va_up (va_up (va_up (va_up (fun _ => none) (0 : Int32).toNatClampNeg (some q622)) (1 : Int32).toNatClampNeg (some q709)) (2 : Int32).toNatClampNeg (some q799)) (3 : Int32).toNatClampNeg (some q892)) (4 : Int32).toNatClampNeg (some q988)) (5 : Int32).toNatClampNeg (some q1087)))))) := (ho1777 _ ne1782).trans hf1767
  have hl1808 : q64 ∈ L1779 := hs1772 _ hl1718
  have hf1809 : f1778 q87 = .inl (κ 5, 6, .inr (.inr (.inr (.inr (va_up (va_up (va_up (va_up (va_up (fun _ => none) (0 : Int32).toNatClampNeg (some q1189)) (1 : Int32).toNatClampNeg (some q1299)) (2 : Int32).toNatClampNeg (some q1412)) (3 : Int32).toNatClampNeg (some q1528)) (4 : Int32).toNatClampNeg (some q1647)))))) := (ho1777 _ ne1783).trans g1765
  have hl1810 : q87 ∈ L1779 := hs1772 _ hl1721
  clear hf1766 hl1715 hf1767 hl1718 g1765 hl1721
  refine lv_dup hx hb dX10_init_200 rfl ?_
  have hFc := tp_fr hD hS hA
  refine va_callv (va_runIN (As := []) (rest := [.ref q1769, .int 5, .ref q87]) ⟨hx, hb, hml, hown, hts⟩ (t_X5_init l dC dI _ Ω κ τ_1692 ν_1692 ρ_1692 L1779 f1778 hG hT q1769 hq1773 hz1774 hf1776) ⟨(va_cnB (host := "ColdShips") 0 hts ggX10_init_X5_init rfl rfl rfl (hN.1 (.methodLinkNest RX10 77 yX5_init "ColdShips") nzw_105) (hts (.initialized RX5) wa_64) pd_X5_init ⟨Nat.le_of_ble_eq_true rfl, Nat.le_of_ble_eq_true rfl⟩), rfl, (hts (.instanceMethod yX5_init) wa_90)⟩ ⟨pz_blind, pz_pre hP hK hD hN⟩ rfl rfl hl.1 rfl (lv_room (Nat.le_of_ble_eq_true rfl)) dX10_init_201 ⟨Nat.le_of_ble_eq_true rfl, Nat.le_of_ble_eq_true rfl⟩) hS (fun q _ h => hFc q h) hFc (fun x1811 t H1 locs ht hvm hw1813 hB hz1 hk1 hS => ?_)
  obtain ⟨τ_1815, ν_1815, ρ_1815, L_1815, f1814⟩ := x1811
  obtain ⟨⟨hG9, hT9, hH9⟩, hw1813p⟩ := hw1813
  have hc1816 := hH9.2 _ (tp_in hG ht1722 (by decide)) (fun z => ne1784 (Option.some.inj z))
  have hc1817 := hH9.2 _ (tp_in hG ht1724 (by decide)) (fun z => ne1785 (Option.some.inj z))
  have hc1818 := hH9.2 _ (tp_in hG ht1726 (by decide)) (fun z => ne1786 (Option.some.inj z))
  have hc1819 := hH9.2 _ (tp_in hG ht1727 (by decide)) (fun z => ne1787 (Option.some.inj z))
  have hc1820 := hH9.2 _ (tp_in hG ht1728 (by decide)) (fun z => ne1788 (Option.some.inj z))
  have hc1821 := hH9.2 _ (tp_in hG ht1729 (by decide)) (fun z => ne1789 (Option.some.inj z))
  have hc1822 := hH9.2 _ (tp_in hG ht1730 (by decide)) (fun z => ne1790 (Option.some.inj z))
  have hc1823 := hH9.2 _ (tp_in hG ht1732 (by decide)) (fun z => ne1791 (Option.some.inj z))
  have hc1824 := hH9.2 _ (tp_in hG ht1734 (by decide)) (fun z => ne1792 (Option.some.inj z))
  have hc1825 := hH9.2 _ (tp_in hG ht1736 (by decide)) (fun z => ne1793 (Option.some.inj z))
  have hc1826 := hH9.2 _ (tp_in hG ht1738 (by decide)) (fun z => ne1794 (Option.some.inj z))
  have hc1827 := hH9.2 _ (tp_in hG ht1739 (by decide)) (fun z => ne1795 (Option.some.inj z))
  have hc1828 := hH9.2 _ (tp_in hG ht1740 (by decide)) (fun z => ne1796 (Option.some.inj z))
  have hc1829 := hH9.2 _ (tp_in hG ht1741 (by decide)) (fun z => ne1797 (Option.some.inj z))
  have hc1830 := hH9.2 _ (tp_in hG ht1742 (by decide)) (fun z => ne1798 (Option.some.inj z))
  have hc1831 := hH9.2 _ (tp_in hG ht1743 (by decide)) (fun z => ne1799 (Option.some.inj z))
  have hc1832 := hH9.2 _ (tp_in hG ht1744 (by decide)) (fun z => ne1800 (Option.some.inj z))
  have hc1833 := hH9.2 _ (tp_in hG ht1745 (by decide)) (fun z => ne1801 (Option.some.inj z))
  have hc1834 := hH9.2 _ (tp_in hG ht1746 (by decide)) (fun z => ne1802 (Option.some.inj z))
  have hc1835 := hH9.2 _ (tp_in hG ht1747 (by decide)) (fun z => ne1803 (Option.some.inj z))
  have hc1836 := hH9.2 _ (tp_in hG ht1751 (by decide)) (fun z => ne1804 (Option.some.inj z))
  have hc1837 := hH9.2 _ hl1806 (fun z => ne1781 (Option.some.inj z))
  have hf1838 : f1814 h0 = .inr (10, [.int 0, .int 10, .int 700, .int 0, .int 0, .int 0, .int 0, .ref q9, .ref q35, .ref q64, .ref q87, .ref q114, .ref q156, .ref q212, .ref q271, .ref q333, .ref q399, .ref q469, .ref q543]) := (hc1837.2.2.2 (by rw [hz1748]; decide)).trans hf1805
  have hl1839 := hH9.1 _ hl1806
  have hc1840 := hH9.2 _ hl1808 (fun z => ne1782 (Option.some.inj z))
  have hf1841 : f1814 q64 = .inl (κ 4, 6, .inr (.inr (.inr (.inr (va_up (va_up (va_up (va_up (va_up (va_up (fun _ => none) (0 : Int32).toNatClampNeg (some q622)) (1 : Int32).toNatClampNeg (some q709)) (2 : Int32).toNatClampNeg (some q799)) (3 : Int32).toNatClampNeg (some q892)) (4 : Int32).toNatClampNeg (some q988)) (5 : Int32).toNatClampNeg (some q1087)))))) := (hc1840.2.2.2 (by rw [hz1749]; decide)).trans hf1807
  have hl1842 := hH9.1 _ hl1808
  have hc1843 := hH9.2 _ hl1810 (fun z => ne1783 (Option.some.inj z))
  have hf1844 : f1814 q87 = .inl (κ 5, 6, .inr (.inr (.inr (.inr (va_up (va_up (va_up (va_up (va_up (fun _ => none) (0 : Int32).toNatClampNeg (some q1189)) (1 : Int32).toNatClampNeg (some q1299)) (2 : Int32).toNatClampNeg (some q1412)) (3 : Int32).toNatClampNeg (some q1528)) (4 : Int32).toNatClampNeg (some q1647)))))) := (hc1843.2.2.2 (by rw [hz1750]; decide)).trans hf1809
  have hl1845 := hH9.1 _ hl1810
  have hH := hH.call hH9 (by decide) (fun a ha _ z => hn1780 a ha (Option.some.inj z))
  have hG : tp_G τ_1815 ν_1815 ρ_1815 L_1815 := hG9; have hT : tp_T Ω κ τ_1815 ν_1815 ρ_1815 f1814 := hT9
  have hH : tp_H τ ν ρ L f [] (some h0) τ_1815 ν_1815 ρ_1815 L_1815 f1814 := hH
  have hP := hB.1; rw [ht] at hP; have hD := tp_Dw hB.2.2 hFc; clear hB hFc hz1 hk1; subst ht; generalize t.heap = H at hP hS ⊢
  have hP : va_P (dC, dI) vwCl (va_pl L_1815 f1814) H := hP
  have hD : va_D A (va_pl L_1815 f1814) := hD
  have ht1846 : τ_1815 q9 = 20 := hc1816.1.trans ht1722
  have hn1847 : ν_1815 q9 = 25 := hc1816.2.1.trans hn1723
  have ht1848 : τ_1815 q35 = 20 := hc1817.1.trans ht1724
  have hn1849 : ν_1815 q35 = 100 := hc1817.2.1.trans hn1725
  have ht1850 : τ_1815 q114 = 26 := hc1818.1.trans ht1726
  have ht1851 : τ_1815 q156 = 7 := hc1819.1.trans ht1727
  have ht1852 : τ_1815 q212 = 7 := hc1820.1.trans ht1728
  have ht1853 : τ_1815 q271 = 7 := hc1821.1.trans ht1729
  have ht1854 : τ_1815 q333 = 5 := hc1822.1.trans ht1730
  have hx1855 : ρ_1815 q333 10 = 3 ∧ ρ_1815 q333 11 = 60 := by have q9 : ρ_1815 q333 = _ := hc1822.2.2.1; rw [q9]; exact hx1731
  have ht1856 : τ_1815 q399 = 5 := hc1823.1.trans ht1732
  have hx1857 : ρ_1815 q399 10 = 5 ∧ ρ_1815 q399 11 = 60 := by have q9 : ρ_1815 q399 = _ := hc1823.2.2.1; rw [q9]; exact hx1733
  have ht1858 : τ_1815 q469 = 5 := hc1824.1.trans ht1734
  have hx1859 : ρ_1815 q469 10 = 15 ∧ ρ_1815 q469 11 = 60 := by have q9 : ρ_1815 q469 = _ := hc1824.2.2.1; rw [q9]; exact hx1735
  have ht1860 : τ_1815 q543 = 5 := hc1825.1.trans ht1736
  have hx1861 : ρ_1815 q543 10 = 8 ∧ ρ_1815 q543 11 = 6 := by have q9 : ρ_1815 q543 = _ := hc1825.2.2.1; rw [q9]; exact hx1737
  have ht1862 : τ_1815 q622 = 9 := hc1826.1.trans ht1738
  have ht1863 : τ_1815 q709 = 9 := hc1827.1.trans ht1739
  have ht1864 : τ_1815 q799 = 9 := hc1828.1.trans ht1740
  have ht1865 : τ_1815 q892 = 9 := hc1829.1.trans ht1741
  have ht1866 : τ_1815 q988 = 9 := hc1830.1.trans ht1742
  have ht1867 : τ_1815 q1087 = 9 := hc1831.1.trans ht1743
  have ht1868 : τ_1815 q1189 = 6 := hc1832.1.trans ht1744
  have ht1869 : τ_1815 q1299 = 6 := hc1833.1.trans ht1745
  have ht1870 : τ_1815 q1412 = 6 := hc1834.1.trans ht1746
  have ht1871 : τ_1815 q1528 = 6 := hc1835.1.trans ht1747
  have ht1872 : τ_1815 q1647 = 6 := hc1836.1.trans ht1751
  have hz1873 : τ_1815 h0 = 0 := hc1837.1.trans hz1748
  have hz1874 : τ_1815 q64 = 0 := hc1840.1.trans hz1749
  have hz1875 : τ_1815 q87 = 0 := hc1843.1.trans hz1750
  clear ht1722 hn1723 ht1724 hn1725 ht1726 ht1727 ht1728 ht1729 ht1730 hx1731 ht1732 hx1733 ht1734 hx1735 ht1736 hx1737 ht1738 ht1739 ht1740 ht1741 ht1742 ht1743 ht1744 ht1745 ht1746 ht1747 ht1751 hz1748 hz1749 hz1750 ne1781 ne1782 ne1783 ne1784 ne1785 ne1786 ne1787 ne1788 ne1789 ne1790 ne1791 ne1792 ne1793 ne1794 ne1795 ne1796 ne1797 ne1798 ne1799 ne1800 ne1801 ne1802 ne1803 ne1804 hc1816 hc1817 hc1818 hc1819 hc1820 hc1821 hc1822 hc1823 hc1824 hc1825 hc1826 hc1827 hc1828 hc1829 hc1830 hc1831 hc1832 hc1833 hc1834 hc1835 hc1836 hc1837 hc1840 hc1843 hG9 hT9 hH9
  have ht1876 : τ_1815 q1769 = 6 := hw1813p
  refine tpk_pos hl1845 hf1844 (fun q1877 eq1877 => ?_)
  refine tgk_6 hG ht1876 (fun y1879 y1880 y1880n y1881 y1881n y1882 y1882n y1883 y1883n y1884 y1884n y1885 y1885n => ?_)
  refine tpk_6 hT ht1876 (fun o1886_x1 o1886_x2 o1886_x3 o1886_x4 o1886_x5 o1886_x6 o1886_x10 o1886_x11 o1886_x12 o1886_x14 hf_o1886 ro1886_0 ro1886_1 ro1886_2 => ?_)
  refine tpk_pos (tp_in hG ht1876 (by decide)) hf_o1886 (fun q1887 eq1887 => ?_)
  refine va_astq hx hb hK hP hD hS q1877 5 q1887 5 eq1877 rfl eq1887 rfl (vp_in_iff.mpr ⟨by decide, by decide⟩) dX10_init_204 (tp_k (.inl (κ 5, 6, .inr (.inr (.inr (.inr (va_up (va_up (va_up (va_up (va_up (va_up (fun _ => none) (0 : Int32).toNatClampNeg (some q1189)) (1 : Int32).toNatClampNeg (some q1299)) (2 : Int32).toNatClampNeg (some q1412)) (3 : Int32).toNatClampNeg (some q1528)) (4 : Int32).toNatClampNeg (some q1647)) (5 : Int32).toNatClampNeg (some q1769))))))) hD hl1845 eq1877 (fun f1888 H locs hP hD hS g1890 k1889 => ?_))
  have hT := hT.raw hz1875 k1889
  have hH := hH.wn hn99 k1889
  have hf1891 : f1888 h0 = .inr (10, [.int 0, .int 10, .int 700, .int 0, .int 0, .int 0, .int 0, .ref q9, .ref q35, .ref q64, .ref q87, .ref q114, .ref q156, .ref q212, .ref q271, .ref q333, .ref q399, .ref q469, .ref q543]) := (k1889 _ ne100).trans hf1838
  have hf1892 : f1888 q64 = .inl (κ 4, 6, .inr (.inr (.inr (.inr (va_up (va_up (va_up (va_up (va_up (va_up (fun _ => none) (0 : Int32).toNatClampNeg (some q622)) (1 : Int32).toNatClampNeg (some q709)) (2 : Int32).toNatClampNeg (some q799)) (3 : Int32).toNatClampNeg (some q892)) (4 : Int32).toNatClampNeg (some q988)) (5 : Int32).toNatClampNeg (some q1087)))))) := (k1889 _ ne101).trans hf1841
  clear hf1838 hf1841
  refine lv_iinc (v := 6) (lv' := [(1, .int 6), (0, .ref h0)]) hx hb dX10_init_205 hl (k := 0) rfl (by decide) (by decide) rfl (fun ls hl => ?_)
  refine lv_goto (tgt := 186) hx hb dX10_init_208 (by decide) ?_
  refine lv_iload_n hx hb dX10_init_186 rfl (lv_at hl 0 rfl) ?_
  refine lv_bipush (v := 6) hx hb dX10_init_187 (by decide) ?_
  refine lv_icmp_ge (tgt := 211) hx hb dX10_init_189 (by decide) (fun _ => ?_) (fun c9 => absurd c9 (by decide))
  obtain ⟨τ_1893, ν_1893, ρ_1893, hG, hT, hb1894, ht1895, hn1896, hr1897⟩ := tp_type hG hT hl1842 hz1874 24 (0) (fun k => [q622, q709, q799, q892, q988, q1087].getD k 0) (by decide) (fun τ9 ν9 ρ9 hE h2 h3 => ⟨fun j hj => (by rw [h3]; rcases tpj_6 j hj with rfl | rfl | rfl | rfl | rfl | rfl <;> first | exact (hE q622 (by rw [ht1862]; decide)).1.trans ht1862 | exact (hE q709 (by rw [ht1863]; decide)).1.trans ht1863 | exact (hE q799 (by rw [ht1864]; decide)).1.trans ht1864 | exact (hE q892 (by rw [ht1865]; decide)).1.trans ht1865 | exact (hE q988 (by rw [ht1866]; decide)).1.trans ht1866 | exact (hE q1087 (by rw [ht1867]; decide)).1.trans ht1867), by rw [hf1892]; exact ⟨_, rfl, fun j hj => by rw [h3]; rcases tpj_6 j hj with rfl | rfl | rfl | rfl | rfl | rfl <;> rfl⟩⟩)
  have hH := hH.ty (fun a ha _ => hn76 a ha) hb1894
  have ht1898 : τ_1893 q9 = 20 := (hb1894 _ ne78).1.trans ht1846
  have hn1899 : ν_1893 q9 = 25 := (hb1894 _ ne78).2.1.trans hn1847
  have ht1900 : τ_1893 q35 = 20 := (hb1894 _ ne79).1.trans ht1848
  have hn1901 : ν_1893 q35 = 100 := (hb1894 _ ne79).2.1.trans hn1849
  have ht1902 : τ_1893 q114 = 26 := (hb1894 _ (Ne.symm (tp_ne0 hz1874 ht1850 (by decide)))).1.trans ht1850
  have ht1903 : τ_1893 q156 = 7 := (hb1894 _ (Ne.symm (tp_ne0 hz1874 ht1851 (by decide)))).1.trans ht1851
  have ht1904 : τ_1893 q212 = 7 := (hb1894 _ (Ne.symm (tp_ne0 hz1874 ht1852 (by decide)))).1.trans ht1852
  have ht1905 : τ_1893 q271 = 7 := (hb1894 _ (Ne.symm (tp_ne0 hz1874 ht1853 (by decide)))).1.trans ht1853
  have ht1906 : τ_1893 q333 = 5 := (hb1894 _ (Ne.symm (tp_ne0 hz1874 ht1854 (by decide)))).1.trans ht1854
  have hx1907 : ρ_1893 q333 10 = 3 ∧ ρ_1893 q333 11 = 60 := by rw [(hb1894 _ (Ne.symm (tp_ne0 hz1874 ht1854 (by decide)))).2.2]; exact hx1855
  have ht1908 : τ_1893 q399 = 5 := (hb1894 _ (Ne.symm (tp_ne0 hz1874 ht1856 (by decide)))).1.trans ht1856
  have hx1909 : ρ_1893 q399 10 = 5 ∧ ρ_1893 q399 11 = 60 := by rw [(hb1894 _ (Ne.symm (tp_ne0 hz1874 ht1856 (by decide)))).2.2]; exact hx1857
  have ht1910 : τ_1893 q469 = 5 := (hb1894 _ (Ne.symm (tp_ne0 hz1874 ht1858 (by decide)))).1.trans ht1858
  have hx1911 : ρ_1893 q469 10 = 15 ∧ ρ_1893 q469 11 = 60 := by rw [(hb1894 _ (Ne.symm (tp_ne0 hz1874 ht1858 (by decide)))).2.2]; exact hx1859
  have ht1912 : τ_1893 q543 = 5 := (hb1894 _ (Ne.symm (tp_ne0 hz1874 ht1860 (by decide)))).1.trans ht1860
  have hx1913 : ρ_1893 q543 10 = 8 ∧ ρ_1893 q543 11 = 6 := by rw [(hb1894 _ (Ne.symm (tp_ne0 hz1874 ht1860 (by decide)))).2.2]; exact hx1861
  have ht1914 : τ_1893 q622 = 9 := (hb1894 _ (Ne.symm (tp_ne0 hz1874 ht1862 (by decide)))).1.trans ht1862
  have ht1915 : τ_1893 q709 = 9 := (hb1894 _ (Ne.symm (tp_ne0 hz1874 ht1863 (by decide)))).1.trans ht1863
  have ht1916 : τ_1893 q799 = 9 := (hb1894 _ (Ne.symm (tp_ne0 hz1874 ht1864 (by decide)))).1.trans ht1864
  have ht1917 : τ_1893 q892 = 9 := (hb1894 _ (Ne.symm (tp_ne0 hz1874 ht1865 (by decide)))).1.trans ht1865
  have ht1918 : τ_1893 q988 = 9 := (hb1894 _ (Ne.symm (tp_ne0 hz1874 ht1866 (by decide)))).1.trans ht1866
  have ht1919 : τ_1893 q1087 = 9 := (hb1894 _ (Ne.symm (tp_ne0 hz1874 ht1867 (by decide)))).1.trans ht1867
  have ht1920 : τ_1893 q1189 = 6 := (hb1894 _ (Ne.symm (tp_ne0 hz1874 ht1868 (by decide)))).1.trans ht1868
  have ht1921 : τ_1893 q1299 = 6 := (hb1894 _ (Ne.symm (tp_ne0 hz1874 ht1869 (by decide)))).1.trans ht1869
  have ht1922 : τ_1893 q1412 = 6 := (hb1894 _ (Ne.symm (tp_ne0 hz1874 ht1870 (by decide)))).1.trans ht1870
  have ht1923 : τ_1893 q1528 = 6 := (hb1894 _ (Ne.symm (tp_ne0 hz1874 ht1871 (by decide)))).1.trans ht1871
  have ht1924 : τ_1893 q1647 = 6 := (hb1894 _ (Ne.symm (tp_ne0 hz1874 ht1872 (by decide)))).1.trans ht1872
  have ht1925 : τ_1893 q1769 = 6 := (hb1894 _ (Ne.symm (tp_ne0 hz1874 ht1876 (by decide)))).1.trans ht1876
  have hz1926 : τ_1893 h0 = 0 := (hb1894 _ ne77).1.trans hz1873
  have hz1927 : τ_1893 q87 = 0 := (hb1894 _ (Ne.symm ne101)).1.trans hz1875
  clear ht1846 hn1847 ht1848 hn1849 ht1850 ht1851 ht1852 ht1853 ht1854 hx1855 ht1856 hx1857 ht1858 hx1859 ht1860 hx1861 ht1862 ht1863 ht1864 ht1865 ht1866 ht1867 ht1868 ht1869 ht1870 ht1871 ht1872 ht1876 hz1873 hz1875 hb1894 ne77 ne78 ne79
  obtain ⟨τ_1928, ν_1928, ρ_1928, hG, hT, hb1929, ht1930, hn1931, hr1932⟩ := tp_type hG hT hl1845 hz1927 25 (0) (fun k => [q1189, q1299, q1412, q1528, q1647, q1769].getD k 0) (by decide) (fun τ9 ν9 ρ9 hE h2 h3 => ⟨fun j hj => (by rw [h3]; rcases tpj_6 j hj with rfl | rfl | rfl | rfl | rfl | rfl <;> first | exact (hE q1189 (by rw [ht1920]; decide)).1.trans ht1920 | exact (hE q1299 (by rw [ht1921]; decide)).1.trans ht1921 | exact (hE q1412 (by rw [ht1922]; decide)).1.trans ht1922 | exact (hE q1528 (by rw [ht1923]; decide)).1.trans ht1923 | exact (hE q1647 (by rw [ht1924]; decide)).1.trans ht1924 | exact (hE q1769 (by rw [ht1925]; decide)).1.trans ht1925), by rw [g1890]; exact ⟨_, rfl, fun j hj => by rw [h3]; rcases tpj_6 j hj with rfl | rfl | rfl | rfl | rfl | rfl <;> rfl⟩⟩)
  have hH := hH.ty (fun a ha _ => hn99 a ha) hb1929
  have ht1933 : τ_1928 q9 = 20 := (hb1929 _ ne102).1.trans ht1898
  have hn1934 : ν_1928 q9 = 25 := (hb1929 _ ne102).2.1.trans hn1899
  have ht1935 : τ_1928 q35 = 20 := (hb1929 _ ne103).1.trans ht1900
  have hn1936 : ν_1928 q35 = 100 := (hb1929 _ ne103).2.1.trans hn1901
  have ht1937 : τ_1928 q114 = 26 := (hb1929 _ (Ne.symm (tp_ne0 hz1927 ht1902 (by decide)))).1.trans ht1902
  have ht1938 : τ_1928 q156 = 7 := (hb1929 _ (Ne.symm (tp_ne0 hz1927 ht1903 (by decide)))).1.trans ht1903
  have ht1939 : τ_1928 q212 = 7 := (hb1929 _ (Ne.symm (tp_ne0 hz1927 ht1904 (by decide)))).1.trans ht1904
  have ht1940 : τ_1928 q271 = 7 := (hb1929 _ (Ne.symm (tp_ne0 hz1927 ht1905 (by decide)))).1.trans ht1905
  have ht1941 : τ_1928 q333 = 5 := (hb1929 _ (Ne.symm (tp_ne0 hz1927 ht1906 (by decide)))).1.trans ht1906
  have hx1942 : ρ_1928 q333 10 = 3 ∧ ρ_1928 q333 11 = 60 := by rw [(hb1929 _ (Ne.symm (tp_ne0 hz1927 ht1906 (by decide)))).2.2]; exact hx1907
  have ht1943 : τ_1928 q399 = 5 := (hb1929 _ (Ne.symm (tp_ne0 hz1927 ht1908 (by decide)))).1.trans ht1908
  have hx1944 : ρ_1928 q399 10 = 5 ∧ ρ_1928 q399 11 = 60 := by rw [(hb1929 _ (Ne.symm (tp_ne0 hz1927 ht1908 (by decide)))).2.2]; exact hx1909
  have ht1945 : τ_1928 q469 = 5 := (hb1929 _ (Ne.symm (tp_ne0 hz1927 ht1910 (by decide)))).1.trans ht1910
  have hx1946 : ρ_1928 q469 10 = 15 ∧ ρ_1928 q469 11 = 60 := by rw [(hb1929 _ (Ne.symm (tp_ne0 hz1927 ht1910 (by decide)))).2.2]; exact hx1911
  have ht1947 : τ_1928 q543 = 5 := (hb1929 _ (Ne.symm (tp_ne0 hz1927 ht1912 (by decide)))).1.trans ht1912
  have hx1948 : ρ_1928 q543 10 = 8 ∧ ρ_1928 q543 11 = 6 := by rw [(hb1929 _ (Ne.symm (tp_ne0 hz1927 ht1912 (by decide)))).2.2]; exact hx1913
  have ht1949 : τ_1928 q622 = 9 := (hb1929 _ (Ne.symm (tp_ne0 hz1927 ht1914 (by decide)))).1.trans ht1914
  have ht1950 : τ_1928 q709 = 9 := (hb1929 _ (Ne.symm (tp_ne0 hz1927 ht1915 (by decide)))).1.trans ht1915
  have ht1951 : τ_1928 q799 = 9 := (hb1929 _ (Ne.symm (tp_ne0 hz1927 ht1916 (by decide)))).1.trans ht1916
  have ht1952 : τ_1928 q892 = 9 := (hb1929 _ (Ne.symm (tp_ne0 hz1927 ht1917 (by decide)))).1.trans ht1917
  have ht1953 : τ_1928 q988 = 9 := (hb1929 _ (Ne.symm (tp_ne0 hz1927 ht1918 (by decide)))).1.trans ht1918
  have ht1954 : τ_1928 q1087 = 9 := (hb1929 _ (Ne.symm (tp_ne0 hz1927 ht1919 (by decide)))).1.trans ht1919
  have ht1955 : τ_1928 q1189 = 6 := (hb1929 _ (Ne.symm (tp_ne0 hz1927 ht1920 (by decide)))).1.trans ht1920
  have ht1956 : τ_1928 q1299 = 6 := (hb1929 _ (Ne.symm (tp_ne0 hz1927 ht1921 (by decide)))).1.trans ht1921
  have ht1957 : τ_1928 q1412 = 6 := (hb1929 _ (Ne.symm (tp_ne0 hz1927 ht1922 (by decide)))).1.trans ht1922
  have ht1958 : τ_1928 q1528 = 6 := (hb1929 _ (Ne.symm (tp_ne0 hz1927 ht1923 (by decide)))).1.trans ht1923
  have ht1959 : τ_1928 q1647 = 6 := (hb1929 _ (Ne.symm (tp_ne0 hz1927 ht1924 (by decide)))).1.trans ht1924
  have ht1960 : τ_1928 q1769 = 6 := (hb1929 _ (Ne.symm (tp_ne0 hz1927 ht1925 (by decide)))).1.trans ht1925
  have ht1961 : τ_1928 q64 = 24 := (hb1929 _ ne101).1.trans ht1895
  have hz1962 : τ_1928 h0 = 0 := (hb1929 _ ne100).1.trans hz1926
  clear ht1898 hn1899 ht1900 hn1901 ht1902 ht1903 ht1904 ht1905 ht1906 hx1907 ht1908 hx1909 ht1910 hx1911 ht1912 hx1913 ht1914 ht1915 ht1916 ht1917 ht1918 ht1919 ht1920 ht1921 ht1922 ht1923 ht1924 ht1925 ht1895 hz1926 hb1929 ne100 ne101 ne102 ne103
  obtain ⟨τ_1963, ν_1963, ρ_1963, hG, hT, hb1964, ht1965, hn1966, hr1967⟩ := tp_type hG hT hl1839 hz1962 11 (0) (fun k => [0, 0, 0, 0, 0, 0, 0, q9, q35, q64, q87, q114, q156, q212, q271, q333, q399, q469, q543].getD k 0) (by decide) (fun τ9 ν9 ρ9 hE h2 h3 => ⟨(by show (τ9 (ρ9 h0 7) = 20 ∧ ν9 (ρ9 h0 7) = 25) ∧ (τ9 (ρ9 h0 8) = 20 ∧ ν9 (ρ9 h0 8) = 100) ∧ (τ9 (ρ9 h0 9) = 24) ∧ (τ9 (ρ9 h0 10) = 25) ∧ (τ9 (ρ9 h0 11) = 26) ∧ (τ9 (ρ9 h0 12) = 7) ∧ (τ9 (ρ9 h0 13) = 7) ∧ (τ9 (ρ9 h0 14) = 7) ∧ (τ9 (ρ9 h0 15) = 5 ∧ ρ9 (ρ9 h0 15) 10 = 3 ∧ ρ9 (ρ9 h0 15) 11 = 60) ∧ (τ9 (ρ9 h0 16) = 5 ∧ ρ9 (ρ9 h0 16) 10 = 5 ∧ ρ9 (ρ9 h0 16) 11 = 60) ∧ (τ9 (ρ9 h0 17) = 5 ∧ ρ9 (ρ9 h0 17) 10 = 15 ∧ ρ9 (ρ9 h0 17) 11 = 60) ∧ (τ9 (ρ9 h0 18) = 5 ∧ ρ9 (ρ9 h0 18) 10 = 8 ∧ ρ9 (ρ9 h0 18) 11 = 6); rw [h3]; exact ⟨⟨(hE q9 (by rw [ht1933]; decide)).1.trans ht1933, (hE q9 (by rw [ht1933]; decide)).2.1.trans hn1934⟩, ⟨(hE q35 (by rw [ht1935]; decide)).1.trans ht1935, (hE q35 (by rw [ht1935]; decide)).2.1.trans hn1936⟩, (hE q64 (by rw [ht1961]; decide)).1.trans ht1961, (hE q87 (by rw [ht1930]; decide)).1.trans ht1930, (hE q114 (by rw [ht1937]; decide)).1.trans ht1937, (hE q156 (by rw [ht1938]; decide)).1.trans ht1938, (hE q212 (by rw [ht1939]; decide)).1.trans ht1939, (hE q271 (by rw [ht1940]; decide)).1.trans ht1940, ⟨(hE q333 (by rw [ht1941]; decide)).1.trans ht1941, by show ρ9 q333 10 = _ ∧ ρ9 q333 11 = _; rw [(hE q333 (by rw [ht1941]; decide)).2.2]; exact hx1942⟩, ⟨(hE q399 (by rw [ht1943]; decide)).1.trans ht1943, by show ρ9 q399 10 = _ ∧ ρ9 q399 11 = _; rw [(hE q399 (by rw [ht1943]; decide)).2.2]; exact hx1944⟩, ⟨(hE q469 (by rw [ht1945]; decide)).1.trans ht1945, by show ρ9 q469 10 = _ ∧ ρ9 q469 11 = _; rw [(hE q469 (by rw [ht1945]; decide)).2.2]; exact hx1946⟩, ⟨(hE q543 (by rw [ht1947]; decide)).1.trans ht1947, by show ρ9 q543 10 = _ ∧ ρ9 q543 11 = _; rw [(hE q543 (by rw [ht1947]; decide)).2.2]; exact hx1948⟩⟩), by rw [hf1891]; exact ⟨_, _, _, _, _, _, _, (by rw [h3]; rfl), (by first | decide | (rw [h3]; decide) | (have : (0 : Int32).toInt = 0 := rfl; have : (10 : Int32).toInt = 10 := rfl; have : (700 : Int32).toInt = 700 := rfl; have : (0 : Int32).toInt = 0 := rfl; have : (0 : Int32).toInt = 0 := rfl; have : (0 : Int32).toInt = 0 := rfl; have : (0 : Int32).toInt = 0 := rfl; omega) | (rw [h3]; have : (0 : Int32).toInt = 0 := rfl; have : (10 : Int32).toInt = 10 := rfl; have : (700 : Int32).toInt = 700 := rfl; have : (0 : Int32).toInt = 0 := rfl; have : (0 : Int32).toInt = 0 := rfl; have : (0 : Int32).toInt = 0 := rfl; have : (0 : Int32).toInt = 0 := rfl; omega)), (by first | decide | (rw [h3]; decide) | (have : (0 : Int32).toInt = 0 := rfl; have : (10 : Int32).toInt = 10 := rfl; have : (700 : Int32).toInt = 700 := rfl; have : (0 : Int32).toInt = 0 := rfl; have : (0 : Int32).toInt = 0 := rfl; have : (0 : Int32).toInt = 0 := rfl; have : (0 : Int32).toInt = 0 := rfl; omega) | (rw [h3]; have : (0 : Int32).toInt = 0 := rfl; have : (10 : Int32).toInt = 10 := rfl; have : (700 : Int32).toInt = 700 := rfl; have : (0 : Int32).toInt = 0 := rfl; have : (0 : Int32).toInt = 0 := rfl; have : (0 : Int32).toInt = 0 := rfl; have : (0 : Int32).toInt = 0 := rfl; omega)), (by first | decide | (rw [h3]; decide) | (have : (0 : Int32).toInt = 0 := rfl; have : (10 : Int32).toInt = 10 := rfl; have : (700 : Int32).toInt = 700 := rfl; have : (0 : Int32).toInt = 0 := rfl; have : (0 : Int32).toInt = 0 := rfl; have : (0 : Int32).toInt = 0 := rfl; have : (0 : Int32).toInt = 0 := rfl; omega) | (rw [h3]; have : (0 : Int32).toInt = 0 := rfl; have : (10 : Int32).toInt = 10 := rfl; have : (700 : Int32).toInt = 700 := rfl; have : (0 : Int32).toInt = 0 := rfl; have : (0 : Int32).toInt = 0 := rfl; have : (0 : Int32).toInt = 0 := rfl; have : (0 : Int32).toInt = 0 := rfl; omega)), (by first | decide | (rw [h3]; decide) | (have : (0 : Int32).toInt = 0 := rfl; have : (10 : Int32).toInt = 10 := rfl; have : (700 : Int32).toInt = 700 := rfl; have : (0 : Int32).toInt = 0 := rfl; have : (0 : Int32).toInt = 0 := rfl; have : (0 : Int32).toInt = 0 := rfl; have : (0 : Int32).toInt = 0 := rfl; omega) | (rw [h3]; have : (0 : Int32).toInt = 0 := rfl; have : (10 : Int32).toInt = 10 := rfl; have : (700 : Int32).toInt = 700 := rfl; have : (0 : Int32).toInt = 0 := rfl; have : (0 : Int32).toInt = 0 := rfl; have : (0 : Int32).toInt = 0 := rfl; have : (0 : Int32).toInt = 0 := rfl; omega))⟩⟩)
  have hH := hH.ty (fun a _ ho z => ho (by rw [z])) hb1964
  have ht1968 : τ_1963 q9 = 20 := (hb1964 _ (Ne.symm (tp_ne0 hz1962 ht1933 (by decide)))).1.trans ht1933
  have hn1969 : ν_1963 q9 = 25 := (hb1964 _ (Ne.symm (tp_ne0 hz1962 ht1933 (by decide)))).2.1.trans hn1934
  have ht1970 : τ_1963 q35 = 20 := (hb1964 _ (Ne.symm (tp_ne0 hz1962 ht1935 (by decide)))).1.trans ht1935
  have hn1971 : ν_1963 q35 = 100 := (hb1964 _ (Ne.symm (tp_ne0 hz1962 ht1935 (by decide)))).2.1.trans hn1936
  have ht1972 : τ_1963 q114 = 26 := (hb1964 _ (Ne.symm (tp_ne0 hz1962 ht1937 (by decide)))).1.trans ht1937
  have ht1973 : τ_1963 q156 = 7 := (hb1964 _ (Ne.symm (tp_ne0 hz1962 ht1938 (by decide)))).1.trans ht1938
  have ht1974 : τ_1963 q212 = 7 := (hb1964 _ (Ne.symm (tp_ne0 hz1962 ht1939 (by decide)))).1.trans ht1939
  have ht1975 : τ_1963 q271 = 7 := (hb1964 _ (Ne.symm (tp_ne0 hz1962 ht1940 (by decide)))).1.trans ht1940
  have ht1976 : τ_1963 q333 = 5 := (hb1964 _ (Ne.symm (tp_ne0 hz1962 ht1941 (by decide)))).1.trans ht1941
  have hx1977 : ρ_1963 q333 10 = 3 ∧ ρ_1963 q333 11 = 60 := by rw [(hb1964 _ (Ne.symm (tp_ne0 hz1962 ht1941 (by decide)))).2.2]; exact hx1942
  have ht1978 : τ_1963 q399 = 5 := (hb1964 _ (Ne.symm (tp_ne0 hz1962 ht1943 (by decide)))).1.trans ht1943
  have hx1979 : ρ_1963 q399 10 = 5 ∧ ρ_1963 q399 11 = 60 := by rw [(hb1964 _ (Ne.symm (tp_ne0 hz1962 ht1943 (by decide)))).2.2]; exact hx1944
  have ht1980 : τ_1963 q469 = 5 := (hb1964 _ (Ne.symm (tp_ne0 hz1962 ht1945 (by decide)))).1.trans ht1945
  have hx1981 : ρ_1963 q469 10 = 15 ∧ ρ_1963 q469 11 = 60 := by rw [(hb1964 _ (Ne.symm (tp_ne0 hz1962 ht1945 (by decide)))).2.2]; exact hx1946
  have ht1982 : τ_1963 q543 = 5 := (hb1964 _ (Ne.symm (tp_ne0 hz1962 ht1947 (by decide)))).1.trans ht1947
  have hx1983 : ρ_1963 q543 10 = 8 ∧ ρ_1963 q543 11 = 6 := by rw [(hb1964 _ (Ne.symm (tp_ne0 hz1962 ht1947 (by decide)))).2.2]; exact hx1948
  have ht1984 : τ_1963 q622 = 9 := (hb1964 _ (Ne.symm (tp_ne0 hz1962 ht1949 (by decide)))).1.trans ht1949
  have ht1985 : τ_1963 q709 = 9 := (hb1964 _ (Ne.symm (tp_ne0 hz1962 ht1950 (by decide)))).1.trans ht1950
  have ht1986 : τ_1963 q799 = 9 := (hb1964 _ (Ne.symm (tp_ne0 hz1962 ht1951 (by decide)))).1.trans ht1951
  have ht1987 : τ_1963 q892 = 9 := (hb1964 _ (Ne.symm (tp_ne0 hz1962 ht1952 (by decide)))).1.trans ht1952
  have ht1988 : τ_1963 q988 = 9 := (hb1964 _ (Ne.symm (tp_ne0 hz1962 ht1953 (by decide)))).1.trans ht1953
  have ht1989 : τ_1963 q1087 = 9 := (hb1964 _ (Ne.symm (tp_ne0 hz1962 ht1954 (by decide)))).1.trans ht1954
  have ht1990 : τ_1963 q1189 = 6 := (hb1964 _ (Ne.symm (tp_ne0 hz1962 ht1955 (by decide)))).1.trans ht1955
  have ht1991 : τ_1963 q1299 = 6 := (hb1964 _ (Ne.symm (tp_ne0 hz1962 ht1956 (by decide)))).1.trans ht1956
  have ht1992 : τ_1963 q1412 = 6 := (hb1964 _ (Ne.symm (tp_ne0 hz1962 ht1957 (by decide)))).1.trans ht1957
  have ht1993 : τ_1963 q1528 = 6 := (hb1964 _ (Ne.symm (tp_ne0 hz1962 ht1958 (by decide)))).1.trans ht1958
  have ht1994 : τ_1963 q1647 = 6 := (hb1964 _ (Ne.symm (tp_ne0 hz1962 ht1959 (by decide)))).1.trans ht1959
  have ht1995 : τ_1963 q1769 = 6 := (hb1964 _ (Ne.symm (tp_ne0 hz1962 ht1960 (by decide)))).1.trans ht1960
  have ht1996 : τ_1963 q64 = 24 := (hb1964 _ (Ne.symm (tp_ne0 hz1962 ht1961 (by decide)))).1.trans ht1961
  have ht1997 : τ_1963 q87 = 25 := (hb1964 _ (Ne.symm (tp_ne0 hz1962 ht1930 (by decide)))).1.trans ht1930
  clear ht1933 hn1934 ht1935 hn1936 ht1937 ht1938 ht1939 ht1940 ht1941 hx1942 ht1943 hx1944 ht1945 hx1946 ht1947 hx1948 ht1949 ht1950 ht1951 ht1952 ht1953 ht1954 ht1955 ht1956 ht1957 ht1958 ht1959 ht1960 ht1961 ht1930 hb1964
  refine tp_widen 109 2615 (Nat.le_of_ble_eq_true rfl) (Nat.le_of_ble_eq_true rfl) ?_
  exact W.vret hx hb hr (fun t ht hW => ⟨⟨(τ_1963, ν_1963, ρ_1963, L_1815, f1888), rfl, ⟨⟨hG, hT, hH⟩, ht1965⟩, by rw [ht]; exact hP, va_K.moved hW.alike hK, hD⟩, hS.F ht⟩) hS.2.2 dX10_init_211
