section
set_option maxHeartbeats 4000000 in
set_option maxRecDepth 100000 in
theorem t_X10_init (l : Launch) (dC : Nat → ClassId) (dI : Nat → Nat → Nat) (sz : Nat) (Ω : Nat → Nat → (Nat → Nat) → va_E → Prop) (κ : Nat → ClassId) (τ ν : Nat → Nat) (ρ : Nat → Nat → Nat) (L : List Nat) (f : Nat → va_E) (hG : tp_G τ ν ρ L) (hT : tp_T Ω κ τ ν ρ f) (h0 : Nat) (lb : Nat) (Zb : Prop) (hl_h0 : h0 ∈ L) (hz_h0 : τ h0 = 0) (hf_h0 : f h0 = .inr (10, [.int 0, .int 0, .int 0, .int 0, .int 0, .int 0, .int 0, .null, .null, .null, .null, .null, .null, .null, .null, .null, .null, .null, .null])) (hz : Zb → tp_Z0 τ f) : Met l yX10_init wqX10_init ({ frames := 4, cells := 109, slots := 2615, locals := 1200 }) (va_Pc [.ref h0] (pz_B dC dI (tp_K κ) (va_pl L f) sz)) (va_Qv (fun (x : tp_S) => tp_PX Ω κ τ ν ρ L f [] (some h0) x ∧ (x.1 h0 = 11 ∧ x.2.2.1 h0 30 = lb) ∧ (Zb → tp_Z0 x.1 x.2.2.2.2)) (fun (x : tp_S) (t : State) => pz_E dC dI (tp_K κ) (va_A (va_pl L f) sz) (va_pl x.2.2.2.1 x.2.2.2.2) t) (va_A (va_pl L f) sz)) 109 2615 (va_A (va_pl L f) sz) := by
  refine Met.ofW (cc := cX10_init) (maxL := 2) (ret := none) (by decide) rfl ?_
  intro p e s m args below meth c s₁ B hml hv
  obtain ⟨rfl, hsz, hP, hK, hD0, hN⟩ := hv
  have hx := B.exec
  have hb := B.bytes
  have hr := B.returns
  have hts := fun (w : Cond) (h : w ∈ WALL) => atoms_spec (ws := wqX10_init) B.pre w (List.mem_cons_of_mem _ h)
  have hown : s.vm.findClass RX10 = some m.cls := findClass_of_methodNamed B.named
  have hlocks := B.notSynchronized
  have hin : meth.name = "<init>" := (name_of_methodNamed B.named B.method).1
  subst hsz
  have hD := hD0.self (sz := s.heap.size)
  generalize hAe : va_A (va_pl L f) s.heap.size = A at hD ⊢
  have hA : ∀ q : Nat, s.heap.size ≤ q → A q := fun q h => by rw [← hAe]; exact Or.inr h
  have hS : va_S A s.heap s.heap [] := va_S.rf
  have hH : tp_H τ ν ρ L f [] (some h0) τ ν ρ L f := tp_H.rf
  have hl := lv_entry ([.ref h0]) (n := 2) (Nat.le_of_ble_eq_true rfl)
  rw [lg_entry_eq]
  generalize (lg_sl ([.ref h0]) ++ List.replicate (2 - (lg_sl ([.ref h0])).length) Slot.unset).toArray = ls at hl ⊢
  have hl : lv_has ls 2 [(0, .ref h0)] := hl
  refine lv_aload_n hx hb dX10_init_0 rfl (lv_at hl 0 rfl) ?_
  refine W.objInit hx hb hown (hts (.methodLink RX10 3 objectInit) wa_36) (hts (.instanceMethod objectInit) wa_10) (hts (.code objectInit ⟨#[0xb1]⟩ 1 none) wa_11) rfl (by rw [hml]; exact hl.1) rfl dX10_init_1 (Nat.le_of_ble_eq_true rfl) (Nat.le_of_ble_eq_true rfl) ?_
  refine W.eq (g2 := F0 m 4 ls []) rfl ?_
  refine lv_aload_n hx hb dX10_init_4 rfl (lv_at hl 0 rfl) ?_
  refine lv_bipush (v := 10) hx hb dX10_init_5 (by decide) ?_
  refine tpk_pos hl_h0 hf_h0 (fun q1 eq1 => ?_)
  refine va_put (D := (dC, dI)) (ci := 10) (v := .int 10) (ty := .int) (C := RX10) (T := TX10) (N := 19) hx hb hts hfX10 tyX10 tyX10_ok nmX10 hown hK hP hD hS q1 eq1 rfl 1 (by decide) (hts (.fieldLink RX10 9 "ColdShips$World" "boils" "I") wa_37) (fun _ h9 => h9) rfl (tyX10_ok 1 (by decide)) rfl rfl (Nat.le_of_ble_eq_true rfl) dX10_init_7 (tp_k (.inr (10, [.int 0, .int 10, .int 0, .int 0, .int 0, .int 0, .int 0, .null, .null, .null, .null, .null, .null, .null, .null, .null, .null, .null, .null])) hD hl_h0 eq1 (fun f2 H locs hP hD hS g4 k3 => ?_))
  have hT := hT.raw hz_h0 k3
  have hz := tp_Z0.wt hz hz_h0 (by decide) k3
  have hH := hH.wo k3
  refine lv_aload_n hx hb dX10_init_10 rfl (lv_at hl 0 rfl) ?_
  refine lv_sipush (v := 700) hx hb dX10_init_11 (by decide) ?_
  refine tpk_pos hl_h0 g4 (fun q5 eq5 => ?_)
  refine va_put (D := (dC, dI)) (ci := 10) (v := .int 700) (ty := .int) (C := RX10) (T := TX10) (N := 19) hx hb hts hfX10 tyX10 tyX10_ok nmX10 hown hK hP hD hS q5 eq5 rfl 2 (by decide) (hts (.fieldLink RX10 15 "ColdShips$World" "limit" "I") wa_38) (fun _ h9 => h9) rfl (tyX10_ok 2 (by decide)) rfl rfl (Nat.le_of_ble_eq_true rfl) dX10_init_14 (tp_k (.inr (10, [.int 0, .int 10, .int 700, .int 0, .int 0, .int 0, .int 0, .null, .null, .null, .null, .null, .null, .null, .null, .null, .null, .null, .null])) hD hl_h0 eq5 (fun f6 H locs hP hD hS g8 k7 => ?_))
  have hT := hT.raw hz_h0 k7
  have hz := tp_Z0.wt hz hz_h0 (by decide) k7
  have hH := hH.wo k7
  refine lv_aload_n hx hb dX10_init_17 rfl (lv_at hl 0 rfl) ?_
  refine lv_bipush (v := 25) hx hb dX10_init_18 (by decide) ?_
  refine va_newa (atype := .int) hx hb (hts (.arrayClass .int) wa_39) (ty := .int) rfl hK hP hD hS hA (a0 := (25, .inl (fun _ => 0))) (fun cA => pz_na_int cA 25) (by decide +kernel : ¬ (25 : Int32) < 0) (by decide +kernel : (25 : Int32).toNatClampNeg = 25) (by decide +kernel) (Nat.le_of_ble_eq_true rfl) (Nat.le_of_ble_eq_true rfl) dX10_init_20 (fun q9 k10 H hK hP hD hS => ?_)
  obtain ⟨e9, hK9⟩ := tp_kid 0 rfl hK; subst e9; have hK := hK9
  refine Exists.elim (tp_grow hG hT hP hD) (fun L20 hE90 => Exists.elim hE90 (fun f19 hE91 => tn_10 hE91 (fun hP hD hg11 ht12 hs13 hq14 hz15 hn16 hf17 ho18 => ?_)))
  clear hE91 hE90
  have hn21 : ∀ a, a ∈ L → a ≠ q9 := fun a ha => hn16 a (hH.1 a ha)
  have ne22 : h0 ≠ q9 := hn16 _ hl_h0
  have hG := hg11
  have hT := ht12
  have hH := hH.gr hs13 hn16 ho18
  have hz := tp_Z0.wt hz hz15 (by decide) ho18
  have hf23 : f19 h0 = .inr (10, [.int 0, .int 10, .int 700, .int 0, .int 0, .int 0, .int 0, .null, .null, .null, .null, .null, .null, .null, .null, .null, .null, .null, .null]) := (ho18 _ ne22).trans g8
  have hl24 : h0 ∈ L20 := hs13 _ hl_h0
  clear g8 hl_h0
  obtain ⟨τ_25, ν_25, ρ_25, hG, hT, hb26, ht27, hn28, hr29⟩ := tp_type hG hT hq14 hz15 20 (25) (fun _ => 0) (by decide) (fun τ9 ν9 ρ9 hE h2 h3 => ⟨trivial, by rw [hf17]; exact tp_o20 h2⟩)
  have hH := hH.ty (fun a ha _ => hn21 a ha) hb26
  have hz := tp_Z0.ty hz (fun b q9 => (hb26 b q9).1) ht27 ⟨fun z => (by cases z), fun z => (by cases z), fun z => (by cases z), fun z => (by cases z), fun z => (by cases z)⟩
  have hz30 : τ_25 h0 = 0 := (hb26 _ ne22).1.trans hz_h0
  clear hz_h0 hb26 ne22
  refine tpk_pos hl24 hf23 (fun q31 eq31 => ?_)
  refine va_putF (D := (dC, dI)) (ci := 10) (v := .ref q9) (ty := (.array .int)) (C := RX10) (T := TX10) (N := 19) hx hb hts hfX10 tyX10 tyX10_ok nmX10 hown hK hP hD hS q31 eq31 rfl 7 (by decide) (hts (.fieldLink RX10 18 "ColdShips$World" "tides" "[I") wa_40) (fun _ h9 => h9) rfl hin rfl (tyX10_ok 7 (by decide)) rfl rfl (Nat.le_of_ble_eq_true rfl) dX10_init_22 (tp_k (.inr (10, [.int 0, .int 10, .int 700, .int 0, .int 0, .int 0, .int 0, .ref q9, .null, .null, .null, .null, .null, .null, .null, .null, .null, .null, .null])) hD hl24 eq31 (fun f32 H locs hP hD hS g34 k33 => ?_))
  have hT := hT.raw hz30 k33
  have hz := tp_Z0.wt hz hz30 (by decide) k33
  have hH := hH.wo k33
  refine lv_aload_n hx hb dX10_init_25 rfl (lv_at hl 0 rfl) ?_
  refine lv_bipush (v := 100) hx hb dX10_init_26 (by decide) ?_
  refine va_newa (atype := .int) hx hb (hts (.arrayClass .int) wa_39) (ty := .int) rfl hK hP hD hS hA (a0 := (100, .inl (fun _ => 0))) (fun cA => pz_na_int cA 100) (by decide +kernel : ¬ (100 : Int32) < 0) (by decide +kernel : (100 : Int32).toNatClampNeg = 100) (by decide +kernel) (Nat.le_of_ble_eq_true rfl) (Nat.le_of_ble_eq_true rfl) dX10_init_28 (fun q35 k36 H hK hP hD hS => ?_)
  obtain ⟨e9, hK9⟩ := tp_kid 0 rfl hK; subst e9; have hK := hK9
  refine Exists.elim (tp_grow hG hT hP hD) (fun L46 hE90 => Exists.elim hE90 (fun f45 hE91 => tn_10 hE91 (fun hP hD hg37 ht38 hs39 hq40 hz41 hn42 hf43 ho44 => ?_)))
  clear hE91 hE90
  have hn47 : ∀ a, a ∈ L → a ≠ q35 := fun a ha => hn42 a (hH.1 a ha)
  have ne48 : h0 ≠ q35 := hn42 _ hl24
  have ne49 : q9 ≠ q35 := hn42 _ (tp_in hG ht27 (by decide))
  have hG := hg37
  have hT := ht38
  have hH := hH.gr hs39 hn42 ho44
  have hz := tp_Z0.wt hz hz41 (by decide) ho44
  have hf50 : f45 h0 = .inr (10, [.int 0, .int 10, .int 700, .int 0, .int 0, .int 0, .int 0, .ref q9, .null, .null, .null, .null, .null, .null, .null, .null, .null, .null, .null]) := (ho44 _ ne48).trans g34
  have hl51 : h0 ∈ L46 := hs39 _ hl24
  clear g34 hl24
  obtain ⟨τ_52, ν_52, ρ_52, hG, hT, hb53, ht54, hn55, hr56⟩ := tp_type hG hT hq40 hz41 20 (100) (fun _ => 0) (by decide) (fun τ9 ν9 ρ9 hE h2 h3 => ⟨trivial, by rw [hf43]; exact tp_o20 h2⟩)
  have hH := hH.ty (fun a ha _ => hn47 a ha) hb53
  have hz := tp_Z0.ty hz (fun b q9 => (hb53 b q9).1) ht54 ⟨fun z => (by cases z), fun z => (by cases z), fun z => (by cases z), fun z => (by cases z), fun z => (by cases z)⟩
  have ht57 : τ_52 q9 = 20 := (hb53 _ ne49).1.trans ht27
  have hn58 : ν_52 q9 = 25 := (hb53 _ ne49).2.1.trans hn28
  have hz59 : τ_52 h0 = 0 := (hb53 _ ne48).1.trans hz30
  clear ht27 hn28 hz30 hb53 ne48 ne49
  refine tpk_pos hl51 hf50 (fun q60 eq60 => ?_)
  refine va_putF (D := (dC, dI)) (ci := 10) (v := .ref q35) (ty := (.array .int)) (C := RX10) (T := TX10) (N := 19) hx hb hts hfX10 tyX10 tyX10_ok nmX10 hown hK hP hD hS q60 eq60 rfl 8 (by decide) (hts (.fieldLink RX10 22 "ColdShips$World" "seas" "[I") wa_41) (fun _ h9 => h9) rfl hin rfl (tyX10_ok 8 (by decide)) rfl rfl (Nat.le_of_ble_eq_true rfl) dX10_init_30 (tp_k (.inr (10, [.int 0, .int 10, .int 700, .int 0, .int 0, .int 0, .int 0, .ref q9, .ref q35, .null, .null, .null, .null, .null, .null, .null, .null, .null, .null])) hD hl51 eq60 (fun f61 H locs hP hD hS g63 k62 => ?_))
  have hT := hT.raw hz59 k62
  have hz := tp_Z0.wt hz hz59 (by decide) k62
  have hH := hH.wo k62
  refine lv_aload_n hx hb dX10_init_33 rfl (lv_at hl 0 rfl) ?_
  refine lv_bipush (v := 6) hx hb dX10_init_34 (by decide) ?_
  refine va_newq hx hb hown (hts (.classLink RX10 25 RX8) wa_42) hN.2.2.1 hK hP hD hS hA (by decide +kernel : ¬ (6 : Int32) < 0) (by decide +kernel : (6 : Int32).toNatClampNeg = 6) (by decide +kernel) (Nat.le_of_ble_eq_true rfl) (Nat.le_of_ble_eq_true rfl) dX10_init_36 (fun q64 k65 H hK hP hD hS => ?_)
  obtain ⟨e9, hK9⟩ := tp_kid 4 rfl hK; subst e9; have hK := hK9
  refine Exists.elim (tp_grow hG hT hP hD) (fun L75 hE90 => Exists.elim hE90 (fun f74 hE91 => tn_10 hE91 (fun hP hD hg66 ht67 hs68 hq69 hz70 hn71 hf72 ho73 => ?_)))
  clear hE91 hE90
  have hn76 : ∀ a, a ∈ L → a ≠ q64 := fun a ha => hn71 a (hH.1 a ha)
  have ne77 : h0 ≠ q64 := hn71 _ hl51
  have ne78 : q9 ≠ q64 := hn71 _ (tp_in hG ht57 (by decide))
  have ne79 : q35 ≠ q64 := hn71 _ (tp_in hG ht54 (by decide))
  have hG := hg66
  have hT := ht67
  have hH := hH.gr hs68 hn71 ho73
  have hz := tp_Z0.wt hz hz70 (by decide) ho73
  have hf80 : f74 h0 = .inr (10, [.int 0, .int 10, .int 700, .int 0, .int 0, .int 0, .int 0, .ref q9, .ref q35, .null, .null, .null, .null, .null, .null, .null, .null, .null, .null]) := (ho73 _ ne77).trans g63
  have hl81 : h0 ∈ L75 := hs68 _ hl51
  clear g63 hl51
  refine tpk_pos hl81 hf80 (fun q82 eq82 => ?_)
  refine va_putF (D := (dC, dI)) (ci := 10) (v := .ref q64) (ty := (.array (.object "ColdShips$Terminal"))) (C := RX10) (T := TX10) (N := 19) hx hb hts hfX10 tyX10 tyX10_ok nmX10 hown hK hP hD hS q82 eq82 rfl 9 (by decide) (hts (.fieldLink RX10 27 "ColdShips$World" "terminals" "[LColdShips$Terminal;") wa_43) (fun _ h9 => h9) rfl hin rfl (tyX10_ok 9 (by decide)) rfl rfl (Nat.le_of_ble_eq_true rfl) dX10_init_39 (tp_k (.inr (10, [.int 0, .int 10, .int 700, .int 0, .int 0, .int 0, .int 0, .ref q9, .ref q35, .ref q64, .null, .null, .null, .null, .null, .null, .null, .null, .null])) hD hl81 eq82 (fun f83 H locs hP hD hS g85 k84 => ?_))
  have hT := hT.raw hz59 k84
  have hz := tp_Z0.wt hz hz59 (by decide) k84
  have hH := hH.wo k84
  have hf86 : f83 q64 = .inl (κ 4, 6, .inr (.inr (.inr (.inr (fun _ => none))))) := (k84 _ (Ne.symm ne77)).trans hf72
  clear hf72
  refine lv_aload_n hx hb dX10_init_42 rfl (lv_at hl 0 rfl) ?_
  refine lv_bipush (v := 6) hx hb dX10_init_43 (by decide) ?_
  refine va_newq hx hb hown (hts (.classLink RX10 31 RX5) wa_44) hN.2.2.2.1 hK hP hD hS hA (by decide +kernel : ¬ (6 : Int32) < 0) (by decide +kernel : (6 : Int32).toNatClampNeg = 6) (by decide +kernel) (Nat.le_of_ble_eq_true rfl) (Nat.le_of_ble_eq_true rfl) dX10_init_45 (fun q87 k88 H hK hP hD hS => ?_)
  obtain ⟨e9, hK9⟩ := tp_kid 5 rfl hK; subst e9; have hK := hK9
  refine Exists.elim (tp_grow hG hT hP hD) (fun L98 hE90 => Exists.elim hE90 (fun f97 hE91 => tn_10 hE91 (fun hP hD hg89 ht90 hs91 hq92 hz93 hn94 hf95 ho96 => ?_)))
  clear hE91 hE90
  have hn99 : ∀ a, a ∈ L → a ≠ q87 := fun a ha => hn94 a (hH.1 a ha)
  have ne100 : h0 ≠ q87 := hn94 _ hl81
  have ne101 : q64 ≠ q87 := hn94 _ hq69
  have ne102 : q9 ≠ q87 := hn94 _ (tp_in hG ht57 (by decide))
  have ne103 : q35 ≠ q87 := hn94 _ (tp_in hG ht54 (by decide))
  have hG := hg89
  have hT := ht90
  have hH := hH.gr hs91 hn94 ho96
  have hz := tp_Z0.wt hz hz93 (by decide) ho96
  have hf104 : f97 h0 = .inr (10, [.int 0, .int 10, .int 700, .int 0, .int 0, .int 0, .int 0, .ref q9, .ref q35, .ref q64, .null, .null, .null, .null, .null, .null, .null, .null, .null]) := (ho96 _ ne100).trans g85
  have hl105 : h0 ∈ L98 := hs91 _ hl81
  have hf106 : f97 q64 = .inl (κ 4, 6, .inr (.inr (.inr (.inr (fun _ => none))))) := (ho96 _ ne101).trans hf86
  have hl107 : q64 ∈ L98 := hs91 _ hq69
  clear g85 hl81 hf86 hq69
  refine tpk_pos hl105 hf104 (fun q108 eq108 => ?_)
  refine va_putF (D := (dC, dI)) (ci := 10) (v := .ref q87) (ty := (.array (.object "ColdShips$Ship"))) (C := RX10) (T := TX10) (N := 19) hx hb hts hfX10 tyX10 tyX10_ok nmX10 hown hK hP hD hS q108 eq108 rfl 10 (by decide) (hts (.fieldLink RX10 33 "ColdShips$World" "ships" "[LColdShips$Ship;") wa_45) (fun _ h9 => h9) rfl hin rfl (tyX10_ok 10 (by decide)) rfl rfl (Nat.le_of_ble_eq_true rfl) dX10_init_48 (tp_k (.inr (10, [.int 0, .int 10, .int 700, .int 0, .int 0, .int 0, .int 0, .ref q9, .ref q35, .ref q64, .ref q87, .null, .null, .null, .null, .null, .null, .null, .null])) hD hl105 eq108 (fun f109 H locs hP hD hS g111 k110 => ?_))
  have hT := hT.raw hz59 k110
  have hz := tp_Z0.wt hz hz59 (by decide) k110
  have hH := hH.wo k110
  have hf112 : f109 q64 = .inl (κ 4, 6, .inr (.inr (.inr (.inr (fun _ => none))))) := (k110 _ (Ne.symm ne77)).trans hf106
  have hf113 : f109 q87 = .inl (κ 5, 6, .inr (.inr (.inr (.inr (fun _ => none))))) := (k110 _ (Ne.symm ne100)).trans hf95
  clear hf106 hf95
  refine lv_aload_n hx hb dX10_init_51 rfl (lv_at hl 0 rfl) ?_
  refine lv_bipush (v := 12) hx hb dX10_init_52 (by decide) ?_
  refine va_newq hx hb hown (hts (.classLink RX10 37 RX0) wa_46) hN.2.2.2.2.1 hK hP hD hS hA (by decide +kernel : ¬ (12 : Int32) < 0) (by decide +kernel : (12 : Int32).toNatClampNeg = 12) (by decide +kernel) (Nat.le_of_ble_eq_true rfl) (Nat.le_of_ble_eq_true rfl) dX10_init_54 (fun q114 k115 H hK hP hD hS => ?_)
  obtain ⟨e9, hK9⟩ := tp_kid 6 rfl hK; subst e9; have hK := hK9
  refine Exists.elim (tp_grow hG hT hP hD) (fun L125 hE90 => Exists.elim hE90 (fun f124 hE91 => tn_10 hE91 (fun hP hD hg116 ht117 hs118 hq119 hz120 hn121 hf122 ho123 => ?_)))
  clear hE91 hE90
  have hn126 : ∀ a, a ∈ L → a ≠ q114 := fun a ha => hn121 a (hH.1 a ha)
  have ne127 : h0 ≠ q114 := hn121 _ hl105
  have ne128 : q64 ≠ q114 := hn121 _ hl107
  have ne129 : q87 ≠ q114 := hn121 _ hq92
  have ne130 : q9 ≠ q114 := hn121 _ (tp_in hG ht57 (by decide))
  have ne131 : q35 ≠ q114 := hn121 _ (tp_in hG ht54 (by decide))
  have hG := hg116
  have hT := ht117
  have hH := hH.gr hs118 hn121 ho123
  have hz := tp_Z0.wt hz hz120 (by decide) ho123
  have hf132 : f124 h0 = .inr (10, [.int 0, .int 10, .int 700, .int 0, .int 0, .int 0, .int 0, .ref q9, .ref q35, .ref q64, .ref q87, .null, .null, .null, .null, .null, .null, .null, .null]) := (ho123 _ ne127).trans g111
  have hl133 : h0 ∈ L125 := hs118 _ hl105
  have hf134 : f124 q64 = .inl (κ 4, 6, .inr (.inr (.inr (.inr (fun _ => none))))) := (ho123 _ ne128).trans hf112
  have hl135 : q64 ∈ L125 := hs118 _ hl107
  have hf136 : f124 q87 = .inl (κ 5, 6, .inr (.inr (.inr (.inr (fun _ => none))))) := (ho123 _ ne129).trans hf113
  have hl137 : q87 ∈ L125 := hs118 _ hq92
  clear g111 hl105 hf112 hl107 hf113 hq92
  obtain ⟨τ_138, ν_138, ρ_138, hG, hT, hb139, ht140, hn141, hr142⟩ := tp_type hG hT hq119 hz120 26 (0) (fun _ => 0) (by decide) (fun τ9 ν9 ρ9 hE h2 h3 => ⟨trivial, by rw [hf122]; exact ⟨_, rfl, fun j _ => Or.inl rfl⟩⟩)
  have hH := hH.ty (fun a ha _ => hn126 a ha) hb139
  have hz := tp_Z0.ty hz (fun b q9 => (hb139 b q9).1) ht140 ⟨fun z => (by cases z), fun z => (by cases z), fun z => (by cases z), fun z => (by cases z), fun z => (by cases z)⟩
  have ht143 : τ_138 q9 = 20 := (hb139 _ ne130).1.trans ht57
  have hn144 : ν_138 q9 = 25 := (hb139 _ ne130).2.1.trans hn58
  have ht145 : τ_138 q35 = 20 := (hb139 _ ne131).1.trans ht54
  have hn146 : ν_138 q35 = 100 := (hb139 _ ne131).2.1.trans hn55
  have hz147 : τ_138 h0 = 0 := (hb139 _ ne127).1.trans hz59
  have hz148 : τ_138 q64 = 0 := (hb139 _ ne128).1.trans hz70
  have hz149 : τ_138 q87 = 0 := (hb139 _ ne129).1.trans hz93
  clear ht57 hn58 ht54 hn55 hz59 hz70 hz93 hb139 ne127 ne128 ne129 ne130 ne131
  refine tpk_pos hl133 hf132 (fun q150 eq150 => ?_)
  refine va_putF (D := (dC, dI)) (ci := 10) (v := .ref q114) (ty := (.array (.object "ColdShips$Contract"))) (C := RX10) (T := TX10) (N := 19) hx hb hts hfX10 tyX10 tyX10_ok nmX10 hown hK hP hD hS q150 eq150 rfl 11 (by decide) (hts (.fieldLink RX10 39 "ColdShips$World" "contracts" "[LColdShips$Contract;") wa_47) (fun _ h9 => h9) rfl hin rfl (tyX10_ok 11 (by decide)) rfl rfl (Nat.le_of_ble_eq_true rfl) dX10_init_57 (tp_k (.inr (10, [.int 0, .int 10, .int 700, .int 0, .int 0, .int 0, .int 0, .ref q9, .ref q35, .ref q64, .ref q87, .ref q114, .null, .null, .null, .null, .null, .null, .null])) hD hl133 eq150 (fun f151 H locs hP hD hS g153 k152 => ?_))
  have hT := hT.raw hz147 k152
  have hz := tp_Z0.wt hz hz147 (by decide) k152
  have hH := hH.wo k152
  have hf154 : f151 q64 = .inl (κ 4, 6, .inr (.inr (.inr (.inr (fun _ => none))))) := (k152 _ (Ne.symm ne77)).trans hf134
  have hf155 : f151 q87 = .inl (κ 5, 6, .inr (.inr (.inr (.inr (fun _ => none))))) := (k152 _ (Ne.symm ne100)).trans hf136
  clear hf134 hf136
  refine lv_aload_n hx hb dX10_init_60 rfl (lv_at hl 0 rfl) ?_
  refine va_new (ci := 6) (fs := [.null, .null, .null, .int 0]) (C := RX6) (T := TX6) (N := 4) hx hb hts hfX6 tyX6 tyX6_ok hown (hts (.classLink RX10 43 RX6) wa_48) (hts (.instantiable RX6 4) wa_49) (hts (.initialized RX6) wa_50) hK hP hD hS hA rfl (fun j hj => by rcases tpj_4 j hj with rfl | rfl | rfl | rfl <;> rfl) (Nat.le_of_ble_eq_true rfl) (Nat.le_of_ble_eq_true rfl) dX10_init_61 (fun q156 H hP hD hS => ?_)
  refine Exists.elim (tp_grow hG hT hP hD) (fun L166 hE90 => Exists.elim hE90 (fun f165 hE91 => tn_10 hE91 (fun hP hD hg157 ht158 hs159 hq160 hz161 hn162 hf163 ho164 => ?_)))
  clear hE91 hE90
  have hn167 : ∀ a, a ∈ L → a ≠ q156 := fun a ha => hn162 a (hH.1 a ha)
  have ne168 : h0 ≠ q156 := hn162 _ hl133
  have ne169 : q64 ≠ q156 := hn162 _ hl135
  have ne170 : q87 ≠ q156 := hn162 _ hl137
  have ne171 : q9 ≠ q156 := hn162 _ (tp_in hG ht143 (by decide))
  have ne172 : q35 ≠ q156 := hn162 _ (tp_in hG ht145 (by decide))
  have ne173 : q114 ≠ q156 := hn162 _ (tp_in hG ht140 (by decide))
  have hG := hg157
  have hT := ht158
  have hH := hH.gr hs159 hn162 ho164
  have hz := tp_Z0.wt hz hz161 (by decide) ho164
  have hf174 : f165 h0 = .inr (10, [.int 0, .int 10, .int 700, .int 0, .int 0, .int 0, .int 0, .ref q9, .ref q35, .ref q64, .ref q87, .ref q114, .null, .null, .null, .null, .null, .null, .null]) := (ho164 _ ne168).trans g153
  have hl175 : h0 ∈ L166 := hs159 _ hl133
  have hf176 : f165 q64 = .inl (κ 4, 6, .inr (.inr (.inr (.inr (fun _ => none))))) := (ho164 _ ne169).trans hf154
  have hl177 : q64 ∈ L166 := hs159 _ hl135
  have hf178 : f165 q87 = .inl (κ 5, 6, .inr (.inr (.inr (.inr (fun _ => none))))) := (ho164 _ ne170).trans hf155
  have hl179 : q87 ∈ L166 := hs159 _ hl137
  clear g153 hl133 hf154 hl135 hf155 hl137
  refine lv_dup hx hb dX10_init_64 rfl ?_
  refine lv_bipush (v := 60) hx hb dX10_init_65 (by decide) ?_
  have hFc := tp_fr hD hS hA
  refine va_callv (va_runI (As := [.int 60]) (rest := [.ref q156, .ref h0]) ⟨hx, hb, hml, hown, hts⟩ (t_X6_init_60 l dC dI _ Ω κ τ_138 ν_138 ρ_138 L166 f165 hG hT q156 (lb + 12) Zb hq160 hz161 hf163 hz) (cwI 1 hts ggX10_init_X6_init rfl rfl rfl (hts (.initialized RX6) wa_50) (hts (.methodLink RX10 45 yX6_init) wa_65) (hts (.instanceMethod yX6_init) wa_66) rfl pd_X6_init ⟨Nat.le_of_ble_eq_true rfl, Nat.le_of_ble_eq_true rfl⟩) ⟨pz_blind, pz_pre hP hK hD hN⟩ rfl rfl hl.1 rfl (lv_room (Nat.le_of_ble_eq_true rfl)) dX10_init_67 ⟨Nat.le_of_ble_eq_true rfl, Nat.le_of_ble_eq_true rfl⟩) hS (fun q _ h => hFc q h) hFc (fun x180 t H1 locs ht hvm hw182 hB hz1 hk1 hS => ?_)
  obtain ⟨τ_184, ν_184, ρ_184, L_184, f183⟩ := x180
  obtain ⟨⟨hG9, hT9, hH9⟩, hw182p⟩ := hw182
  have hc185 := hH9.2 _ (tp_in hG ht143 (by decide)) (fun z => ne171 (Option.some.inj z))
  have hc186 := hH9.2 _ (tp_in hG ht145 (by decide)) (fun z => ne172 (Option.some.inj z))
  have hc187 := hH9.2 _ (tp_in hG ht140 (by decide)) (fun z => ne173 (Option.some.inj z))
  have hc188 := hH9.2 _ hl175 (fun z => ne168 (Option.some.inj z))
  have hf189 : f183 h0 = .inr (10, [.int 0, .int 10, .int 700, .int 0, .int 0, .int 0, .int 0, .ref q9, .ref q35, .ref q64, .ref q87, .ref q114, .null, .null, .null, .null, .null, .null, .null]) := (hc188.2.2.2 (by rw [hz147]; decide)).trans hf174
  have hl190 := hH9.1 _ hl175
  have hc191 := hH9.2 _ hl177 (fun z => ne169 (Option.some.inj z))
  have hf192 : f183 q64 = .inl (κ 4, 6, .inr (.inr (.inr (.inr (fun _ => none))))) := (hc191.2.2.2 (by rw [hz148]; decide)).trans hf176
  have hl193 := hH9.1 _ hl177
  have hc194 := hH9.2 _ hl179 (fun z => ne170 (Option.some.inj z))
  have hf195 : f183 q87 = .inl (κ 5, 6, .inr (.inr (.inr (.inr (fun _ => none))))) := (hc194.2.2.2 (by rw [hz149]; decide)).trans hf178
  have hl196 := hH9.1 _ hl179
  have hH := hH.call hH9 (by decide) (fun a ha _ z => hn167 a ha (Option.some.inj z))
  have hG : tp_G τ_184 ν_184 ρ_184 L_184 := hG9; have hT : tp_T Ω κ τ_184 ν_184 ρ_184 f183 := hT9
  have hH : tp_H τ ν ρ L f [] (some h0) τ_184 ν_184 ρ_184 L_184 f183 := hH
  have hz := hw182p.2
  have hw182p := hw182p.1
  have hP := hB.1; rw [ht] at hP; have hD := tp_Dw hB.2.2 hFc; clear hB hFc hz1 hk1; subst ht; generalize t.heap = H at hP hS ⊢
  have hP : va_P (dC, dI) vwCl (va_pl L_184 f183) H := hP
  have hD : va_D A (va_pl L_184 f183) := hD
  have ht197 : τ_184 q9 = 20 := hc185.1.trans ht143
  have hn198 : ν_184 q9 = 25 := hc185.2.1.trans hn144
  have ht199 : τ_184 q35 = 20 := hc186.1.trans ht145
  have hn200 : ν_184 q35 = 100 := hc186.2.1.trans hn146
  have ht201 : τ_184 q114 = 26 := hc187.1.trans ht140
  have hz202 : τ_184 h0 = 0 := hc188.1.trans hz147
  have hz203 : τ_184 q64 = 0 := hc191.1.trans hz148
  have hz204 : τ_184 q87 = 0 := hc194.1.trans hz149
  clear ht143 hn144 ht145 hn146 ht140 hz147 hz148 hz149 ne168 ne169 ne170 ne171 ne172 ne173 hc185 hc186 hc187 hc188 hc191 hc194 hG9 hT9 hH9
  have ht205 : τ_184 q156 = 7 := hw182p.1
  have hx206 : ρ_184 q156 11 = 60 ∧ ρ_184 q156 30 = (lb + 12) := hw182p.2
  refine tpk_pos hl190 hf189 (fun q207 eq207 => ?_)
  refine va_putF (D := (dC, dI)) (ci := 10) (v := .ref q156) (ty := (.object "ColdShips$Spans")) (C := RX10) (T := TX10) (N := 19) hx hb hts hfX10 tyX10 tyX10_ok nmX10 hown hK hP hD hS q207 eq207 rfl 12 (by decide) (hts (.fieldLink RX10 48 "ColdShips$World" "slots" "LColdShips$Spans;") wa_51) (fun _ h9 => h9) rfl hin rfl (tyX10_ok 12 (by decide)) rfl rfl (Nat.le_of_ble_eq_true rfl) dX10_init_70 (tp_k (.inr (10, [.int 0, .int 10, .int 700, .int 0, .int 0, .int 0, .int 0, .ref q9, .ref q35, .ref q64, .ref q87, .ref q114, .ref q156, .null, .null, .null, .null, .null, .null])) hD hl190 eq207 (fun f208 H locs hP hD hS g210 k209 => ?_))
  have hT := hT.raw hz202 k209
  have hz := tp_Z0.wt hz hz202 (by decide) k209
  have hH := hH.wo k209
  have hf211 : f208 q64 = .inl (κ 4, 6, .inr (.inr (.inr (.inr (fun _ => none))))) := (k209 _ (Ne.symm ne77)).trans hf192
  have hf212 : f208 q87 = .inl (κ 5, 6, .inr (.inr (.inr (.inr (fun _ => none))))) := (k209 _ (Ne.symm ne100)).trans hf195
  clear hf192 hf195
  refine lv_aload_n hx hb dX10_init_73 rfl (lv_at hl 0 rfl) ?_
  refine va_new (ci := 6) (fs := [.null, .null, .null, .int 0]) (C := RX6) (T := TX6) (N := 4) hx hb hts hfX6 tyX6 tyX6_ok hown (hts (.classLink RX10 43 RX6) wa_48) (hts (.instantiable RX6 4) wa_49) (hts (.initialized RX6) wa_50) hK hP hD hS hA rfl (fun j hj => by rcases tpj_4 j hj with rfl | rfl | rfl | rfl <;> rfl) (Nat.le_of_ble_eq_true rfl) (Nat.le_of_ble_eq_true rfl) dX10_init_74 (fun q213 H hP hD hS => ?_)
  refine Exists.elim (tp_grow hG hT hP hD) (fun L223 hE90 => Exists.elim hE90 (fun f222 hE91 => tn_10 hE91 (fun hP hD hg214 ht215 hs216 hq217 hz218 hn219 hf220 ho221 => ?_)))
  clear hE91 hE90
  have hn224 : ∀ a, a ∈ L → a ≠ q213 := fun a ha => hn219 a (hH.1 a ha)
  have ne225 : h0 ≠ q213 := hn219 _ hl190
  have ne226 : q64 ≠ q213 := hn219 _ hl193
  have ne227 : q87 ≠ q213 := hn219 _ hl196
  have ne228 : q9 ≠ q213 := hn219 _ (tp_in hG ht197 (by decide))
  have ne229 : q35 ≠ q213 := hn219 _ (tp_in hG ht199 (by decide))
  have ne230 : q114 ≠ q213 := hn219 _ (tp_in hG ht201 (by decide))
  have ne231 : q156 ≠ q213 := hn219 _ (tp_in hG ht205 (by decide))
  have hG := hg214
  have hT := ht215
  have hH := hH.gr hs216 hn219 ho221
  have hz := tp_Z0.wt hz hz218 (by decide) ho221
  have hf232 : f222 h0 = .inr (10, [.int 0, .int 10, .int 700, .int 0, .int 0, .int 0, .int 0, .ref q9, .ref q35, .ref q64, .ref q87, .ref q114, .ref q156, .null, .null, .null, .null, .null, .null]) := (ho221 _ ne225).trans g210
  have hl233 : h0 ∈ L223 := hs216 _ hl190
  have hf234 : f222 q64 = .inl (κ 4, 6, .inr (.inr (.inr (.inr (fun _ => none))))) := (ho221 _ ne226).trans hf211
  have hl235 : q64 ∈ L223 := hs216 _ hl193
  have hf236 : f222 q87 = .inl (κ 5, 6, .inr (.inr (.inr (.inr (fun _ => none))))) := (ho221 _ ne227).trans hf212
  have hl237 : q87 ∈ L223 := hs216 _ hl196
  clear g210 hl190 hf211 hl193 hf212 hl196
  refine lv_dup hx hb dX10_init_77 rfl ?_
  refine lv_bipush (v := 20) hx hb dX10_init_78 (by decide) ?_
  have hFc := tp_fr hD hS hA
  refine va_callv (va_runI (As := [.int 20]) (rest := [.ref q213, .ref h0]) ⟨hx, hb, hml, hown, hts⟩ (t_X6_init_20 l dC dI _ Ω κ τ_184 ν_184 ρ_184 L223 f222 hG hT q213 (lb + 13) Zb hq217 hz218 hf220 hz) (cwI 1 hts ggX10_init_X6_init rfl rfl rfl (hts (.initialized RX6) wa_50) (hts (.methodLink RX10 45 yX6_init) wa_65) (hts (.instanceMethod yX6_init) wa_66) rfl pd_X6_init ⟨Nat.le_of_ble_eq_true rfl, Nat.le_of_ble_eq_true rfl⟩) ⟨pz_blind, pz_pre hP hK hD hN⟩ rfl rfl hl.1 rfl (lv_room (Nat.le_of_ble_eq_true rfl)) dX10_init_80 ⟨Nat.le_of_ble_eq_true rfl, Nat.le_of_ble_eq_true rfl⟩) hS (fun q _ h => hFc q h) hFc (fun x238 t H1 locs ht hvm hw240 hB hz1 hk1 hS => ?_)
  obtain ⟨τ_242, ν_242, ρ_242, L_242, f241⟩ := x238
  obtain ⟨⟨hG9, hT9, hH9⟩, hw240p⟩ := hw240
  have hc243 := hH9.2 _ (tp_in hG ht197 (by decide)) (fun z => ne228 (Option.some.inj z))
  have hc244 := hH9.2 _ (tp_in hG ht199 (by decide)) (fun z => ne229 (Option.some.inj z))
  have hc245 := hH9.2 _ (tp_in hG ht201 (by decide)) (fun z => ne230 (Option.some.inj z))
  have hc246 := hH9.2 _ (tp_in hG ht205 (by decide)) (fun z => ne231 (Option.some.inj z))
  have hc247 := hH9.2 _ hl233 (fun z => ne225 (Option.some.inj z))
  have hf248 : f241 h0 = .inr (10, [.int 0, .int 10, .int 700, .int 0, .int 0, .int 0, .int 0, .ref q9, .ref q35, .ref q64, .ref q87, .ref q114, .ref q156, .null, .null, .null, .null, .null, .null]) := (hc247.2.2.2 (by rw [hz202]; decide)).trans hf232
  have hl249 := hH9.1 _ hl233
  have hc250 := hH9.2 _ hl235 (fun z => ne226 (Option.some.inj z))
  have hf251 : f241 q64 = .inl (κ 4, 6, .inr (.inr (.inr (.inr (fun _ => none))))) := (hc250.2.2.2 (by rw [hz203]; decide)).trans hf234
  have hl252 := hH9.1 _ hl235
  have hc253 := hH9.2 _ hl237 (fun z => ne227 (Option.some.inj z))
  have hf254 : f241 q87 = .inl (κ 5, 6, .inr (.inr (.inr (.inr (fun _ => none))))) := (hc253.2.2.2 (by rw [hz204]; decide)).trans hf236
  have hl255 := hH9.1 _ hl237
  have hH := hH.call hH9 (by decide) (fun a ha _ z => hn224 a ha (Option.some.inj z))
  have hG : tp_G τ_242 ν_242 ρ_242 L_242 := hG9; have hT : tp_T Ω κ τ_242 ν_242 ρ_242 f241 := hT9
  have hH : tp_H τ ν ρ L f [] (some h0) τ_242 ν_242 ρ_242 L_242 f241 := hH
  have hz := hw240p.2
  have hw240p := hw240p.1
  have hP := hB.1; rw [ht] at hP; have hD := tp_Dw hB.2.2 hFc; clear hB hFc hz1 hk1; subst ht; generalize t.heap = H at hP hS ⊢
  have hP : va_P (dC, dI) vwCl (va_pl L_242 f241) H := hP
  have hD : va_D A (va_pl L_242 f241) := hD
  have ht256 : τ_242 q9 = 20 := hc243.1.trans ht197
  have hn257 : ν_242 q9 = 25 := hc243.2.1.trans hn198
  have ht258 : τ_242 q35 = 20 := hc244.1.trans ht199
  have hn259 : ν_242 q35 = 100 := hc244.2.1.trans hn200
  have ht260 : τ_242 q114 = 26 := hc245.1.trans ht201
  have ht261 : τ_242 q156 = 7 := hc246.1.trans ht205
  have hx262 : ρ_242 q156 11 = 60 ∧ ρ_242 q156 30 = (lb + 12) := by have q9 : ρ_242 q156 = _ := hc246.2.2.1; rw [q9]; exact hx206
  have hz263 : τ_242 h0 = 0 := hc247.1.trans hz202
  have hz264 : τ_242 q64 = 0 := hc250.1.trans hz203
  have hz265 : τ_242 q87 = 0 := hc253.1.trans hz204
  clear ht197 hn198 ht199 hn200 ht201 ht205 hx206 hz202 hz203 hz204 ne225 ne226 ne227 ne228 ne229 ne230 ne231 hc243 hc244 hc245 hc246 hc247 hc250 hc253 hG9 hT9 hH9
  have ht266 : τ_242 q213 = 7 := hw240p.1
  have hx267 : ρ_242 q213 11 = 20 ∧ ρ_242 q213 30 = (lb + 13) := hw240p.2
  refine tpk_pos hl249 hf248 (fun q268 eq268 => ?_)
  refine va_putF (D := (dC, dI)) (ci := 10) (v := .ref q213) (ty := (.object "ColdShips$Spans")) (C := RX10) (T := TX10) (N := 19) hx hb hts hfX10 tyX10 tyX10_ok nmX10 hown hK hP hD hS q268 eq268 rfl 13 (by decide) (hts (.fieldLink RX10 52 "ColdShips$World" "breaks" "LColdShips$Spans;") wa_52) (fun _ h9 => h9) rfl hin rfl (tyX10_ok 13 (by decide)) rfl rfl (Nat.le_of_ble_eq_true rfl) dX10_init_83 (tp_k (.inr (10, [.int 0, .int 10, .int 700, .int 0, .int 0, .int 0, .int 0, .ref q9, .ref q35, .ref q64, .ref q87, .ref q114, .ref q156, .ref q213, .null, .null, .null, .null, .null])) hD hl249 eq268 (fun f269 H locs hP hD hS g271 k270 => ?_))
  have hT := hT.raw hz263 k270
  have hz := tp_Z0.wt hz hz263 (by decide) k270
  have hH := hH.wo k270
  have hf272 : f269 q64 = .inl (κ 4, 6, .inr (.inr (.inr (.inr (fun _ => none))))) := (k270 _ (Ne.symm ne77)).trans hf251
  have hf273 : f269 q87 = .inl (κ 5, 6, .inr (.inr (.inr (.inr (fun _ => none))))) := (k270 _ (Ne.symm ne100)).trans hf254
  clear hf251 hf254
  refine lv_aload_n hx hb dX10_init_86 rfl (lv_at hl 0 rfl) ?_
  refine va_new (ci := 6) (fs := [.null, .null, .null, .int 0]) (C := RX6) (T := TX6) (N := 4) hx hb hts hfX6 tyX6 tyX6_ok hown (hts (.classLink RX10 43 RX6) wa_48) (hts (.instantiable RX6 4) wa_49) (hts (.initialized RX6) wa_50) hK hP hD hS hA rfl (fun j hj => by rcases tpj_4 j hj with rfl | rfl | rfl | rfl <;> rfl) (Nat.le_of_ble_eq_true rfl) (Nat.le_of_ble_eq_true rfl) dX10_init_87 (fun q274 H hP hD hS => ?_)
  refine Exists.elim (tp_grow hG hT hP hD) (fun L284 hE90 => Exists.elim hE90 (fun f283 hE91 => tn_10 hE91 (fun hP hD hg275 ht276 hs277 hq278 hz279 hn280 hf281 ho282 => ?_)))
  clear hE91 hE90
  have hn285 : ∀ a, a ∈ L → a ≠ q274 := fun a ha => hn280 a (hH.1 a ha)
  have ne286 : h0 ≠ q274 := hn280 _ hl249
  have ne287 : q64 ≠ q274 := hn280 _ hl252
  have ne288 : q87 ≠ q274 := hn280 _ hl255
  have ne289 : q9 ≠ q274 := hn280 _ (tp_in hG ht256 (by decide))
  have ne290 : q35 ≠ q274 := hn280 _ (tp_in hG ht258 (by decide))
  have ne291 : q114 ≠ q274 := hn280 _ (tp_in hG ht260 (by decide))
  have ne292 : q156 ≠ q274 := hn280 _ (tp_in hG ht261 (by decide))
  have ne293 : q213 ≠ q274 := hn280 _ (tp_in hG ht266 (by decide))
  have hG := hg275
  have hT := ht276
  have hH := hH.gr hs277 hn280 ho282
  have hz := tp_Z0.wt hz hz279 (by decide) ho282
  have hf294 : f283 h0 = .inr (10, [.int 0, .int 10, .int 700, .int 0, .int 0, .int 0, .int 0, .ref q9, .ref q35, .ref q64, .ref q87, .ref q114, .ref q156, .ref q213, .null, .null, .null, .null, .null]) := (ho282 _ ne286).trans g271
  have hl295 : h0 ∈ L284 := hs277 _ hl249
  have hf296 : f283 q64 = .inl (κ 4, 6, .inr (.inr (.inr (.inr (fun _ => none))))) := (ho282 _ ne287).trans hf272
  have hl297 : q64 ∈ L284 := hs277 _ hl252
  have hf298 : f283 q87 = .inl (κ 5, 6, .inr (.inr (.inr (.inr (fun _ => none))))) := (ho282 _ ne288).trans hf273
  have hl299 : q87 ∈ L284 := hs277 _ hl255
  clear g271 hl249 hf272 hl252 hf273 hl255
  refine lv_dup hx hb dX10_init_90 rfl ?_
  refine lv_bipush (v := 20) hx hb dX10_init_91 (by decide) ?_
  have hFc := tp_fr hD hS hA
  refine va_callv (va_runI (As := [.int 20]) (rest := [.ref q274, .ref h0]) ⟨hx, hb, hml, hown, hts⟩ (t_X6_init_20 l dC dI _ Ω κ τ_242 ν_242 ρ_242 L284 f283 hG hT q274 (lb + 14) Zb hq278 hz279 hf281 hz) (cwI 1 hts ggX10_init_X6_init rfl rfl rfl (hts (.initialized RX6) wa_50) (hts (.methodLink RX10 45 yX6_init) wa_65) (hts (.instanceMethod yX6_init) wa_66) rfl pd_X6_init ⟨Nat.le_of_ble_eq_true rfl, Nat.le_of_ble_eq_true rfl⟩) ⟨pz_blind, pz_pre hP hK hD hN⟩ rfl rfl hl.1 rfl (lv_room (Nat.le_of_ble_eq_true rfl)) dX10_init_93 ⟨Nat.le_of_ble_eq_true rfl, Nat.le_of_ble_eq_true rfl⟩) hS (fun q _ h => hFc q h) hFc (fun x300 t H1 locs ht hvm hw302 hB hz1 hk1 hS => ?_)
  obtain ⟨τ_304, ν_304, ρ_304, L_304, f303⟩ := x300
  obtain ⟨⟨hG9, hT9, hH9⟩, hw302p⟩ := hw302
  have hc305 := hH9.2 _ (tp_in hG ht256 (by decide)) (fun z => ne289 (Option.some.inj z))
  have hc306 := hH9.2 _ (tp_in hG ht258 (by decide)) (fun z => ne290 (Option.some.inj z))
  have hc307 := hH9.2 _ (tp_in hG ht260 (by decide)) (fun z => ne291 (Option.some.inj z))
  have hc308 := hH9.2 _ (tp_in hG ht261 (by decide)) (fun z => ne292 (Option.some.inj z))
  have hc309 := hH9.2 _ (tp_in hG ht266 (by decide)) (fun z => ne293 (Option.some.inj z))
  have hc310 := hH9.2 _ hl295 (fun z => ne286 (Option.some.inj z))
  have hf311 : f303 h0 = .inr (10, [.int 0, .int 10, .int 700, .int 0, .int 0, .int 0, .int 0, .ref q9, .ref q35, .ref q64, .ref q87, .ref q114, .ref q156, .ref q213, .null, .null, .null, .null, .null]) := (hc310.2.2.2 (by rw [hz263]; decide)).trans hf294
  have hl312 := hH9.1 _ hl295
  have hc313 := hH9.2 _ hl297 (fun z => ne287 (Option.some.inj z))
  have hf314 : f303 q64 = .inl (κ 4, 6, .inr (.inr (.inr (.inr (fun _ => none))))) := (hc313.2.2.2 (by rw [hz264]; decide)).trans hf296
  have hl315 := hH9.1 _ hl297
  have hc316 := hH9.2 _ hl299 (fun z => ne288 (Option.some.inj z))
  have hf317 : f303 q87 = .inl (κ 5, 6, .inr (.inr (.inr (.inr (fun _ => none))))) := (hc316.2.2.2 (by rw [hz265]; decide)).trans hf298
  have hl318 := hH9.1 _ hl299
  have hH := hH.call hH9 (by decide) (fun a ha _ z => hn285 a ha (Option.some.inj z))
  have hG : tp_G τ_304 ν_304 ρ_304 L_304 := hG9; have hT : tp_T Ω κ τ_304 ν_304 ρ_304 f303 := hT9
  have hH : tp_H τ ν ρ L f [] (some h0) τ_304 ν_304 ρ_304 L_304 f303 := hH
  have hz := hw302p.2
  have hw302p := hw302p.1
  have hP := hB.1; rw [ht] at hP; have hD := tp_Dw hB.2.2 hFc; clear hB hFc hz1 hk1; subst ht; generalize t.heap = H at hP hS ⊢
  have hP : va_P (dC, dI) vwCl (va_pl L_304 f303) H := hP
  have hD : va_D A (va_pl L_304 f303) := hD
  have ht319 : τ_304 q9 = 20 := hc305.1.trans ht256
  have hn320 : ν_304 q9 = 25 := hc305.2.1.trans hn257
  have ht321 : τ_304 q35 = 20 := hc306.1.trans ht258
  have hn322 : ν_304 q35 = 100 := hc306.2.1.trans hn259
  have ht323 : τ_304 q114 = 26 := hc307.1.trans ht260
  have ht324 : τ_304 q156 = 7 := hc308.1.trans ht261
  have hx325 : ρ_304 q156 11 = 60 ∧ ρ_304 q156 30 = (lb + 12) := by have q9 : ρ_304 q156 = _ := hc308.2.2.1; rw [q9]; exact hx262
  have ht326 : τ_304 q213 = 7 := hc309.1.trans ht266
  have hx327 : ρ_304 q213 11 = 20 ∧ ρ_304 q213 30 = (lb + 13) := by have q9 : ρ_304 q213 = _ := hc309.2.2.1; rw [q9]; exact hx267
  have hz328 : τ_304 h0 = 0 := hc310.1.trans hz263
  have hz329 : τ_304 q64 = 0 := hc313.1.trans hz264
  have hz330 : τ_304 q87 = 0 := hc316.1.trans hz265
  clear ht256 hn257 ht258 hn259 ht260 ht261 hx262 ht266 hx267 hz263 hz264 hz265 ne286 ne287 ne288 ne289 ne290 ne291 ne292 ne293 hc305 hc306 hc307 hc308 hc309 hc310 hc313 hc316 hG9 hT9 hH9
  have ht331 : τ_304 q274 = 7 := hw302p.1
  have hx332 : ρ_304 q274 11 = 20 ∧ ρ_304 q274 30 = (lb + 14) := hw302p.2
  refine tpk_pos hl312 hf311 (fun q333 eq333 => ?_)
  refine va_putF (D := (dC, dI)) (ci := 10) (v := .ref q274) (ty := (.object "ColdShips$Spans")) (C := RX10) (T := TX10) (N := 19) hx hb hts hfX10 tyX10 tyX10_ok nmX10 hown hK hP hD hS q333 eq333 rfl 14 (by decide) (hts (.fieldLink RX10 55 "ColdShips$World" "forces" "LColdShips$Spans;") wa_53) (fun _ h9 => h9) rfl hin rfl (tyX10_ok 14 (by decide)) rfl rfl (Nat.le_of_ble_eq_true rfl) dX10_init_96 (tp_k (.inr (10, [.int 0, .int 10, .int 700, .int 0, .int 0, .int 0, .int 0, .ref q9, .ref q35, .ref q64, .ref q87, .ref q114, .ref q156, .ref q213, .ref q274, .null, .null, .null, .null])) hD hl312 eq333 (fun f334 H locs hP hD hS g336 k335 => ?_))
  have hT := hT.raw hz328 k335
  have hz := tp_Z0.wt hz hz328 (by decide) k335
  have hH := hH.wo k335
  have hf337 : f334 q64 = .inl (κ 4, 6, .inr (.inr (.inr (.inr (fun _ => none))))) := (k335 _ (Ne.symm ne77)).trans hf314
  have hf338 : f334 q87 = .inl (κ 5, 6, .inr (.inr (.inr (.inr (fun _ => none))))) := (k335 _ (Ne.symm ne100)).trans hf317
  clear hf314 hf317
  refine lv_aload_n hx hb dX10_init_99 rfl (lv_at hl 0 rfl) ?_
  refine va_new (ci := 4) (fs := [.int 0, .null, .int 0]) (C := RX4) (T := TX4) (N := 3) hx hb hts hfX4 tyX4 tyX4_ok hown (hts (.classLink RX10 58 RX4) wa_54) (hts (.instantiable RX4 3) wa_55) (hts (.initialized RX4) wa_56) hK hP hD hS hA rfl (fun j hj => by rcases tpj_3 j hj with rfl | rfl | rfl <;> rfl) (Nat.le_of_ble_eq_true rfl) (Nat.le_of_ble_eq_true rfl) dX10_init_100 (fun q339 H hP hD hS => ?_)
  refine Exists.elim (tp_grow hG hT hP hD) (fun L349 hE90 => Exists.elim hE90 (fun f348 hE91 => tn_10 hE91 (fun hP hD hg340 ht341 hs342 hq343 hz344 hn345 hf346 ho347 => ?_)))
  clear hE91 hE90
  have hn350 : ∀ a, a ∈ L → a ≠ q339 := fun a ha => hn345 a (hH.1 a ha)
  have ne351 : h0 ≠ q339 := hn345 _ hl312
  have ne352 : q64 ≠ q339 := hn345 _ hl315
  have ne353 : q87 ≠ q339 := hn345 _ hl318
  have ne354 : q9 ≠ q339 := hn345 _ (tp_in hG ht319 (by decide))
  have ne355 : q35 ≠ q339 := hn345 _ (tp_in hG ht321 (by decide))
  have ne356 : q114 ≠ q339 := hn345 _ (tp_in hG ht323 (by decide))
  have ne357 : q156 ≠ q339 := hn345 _ (tp_in hG ht324 (by decide))
  have ne358 : q213 ≠ q339 := hn345 _ (tp_in hG ht326 (by decide))
  have ne359 : q274 ≠ q339 := hn345 _ (tp_in hG ht331 (by decide))
  have hG := hg340
  have hT := ht341
  have hH := hH.gr hs342 hn345 ho347
  have hz := tp_Z0.wt hz hz344 (by decide) ho347
  have hf360 : f348 h0 = .inr (10, [.int 0, .int 10, .int 700, .int 0, .int 0, .int 0, .int 0, .ref q9, .ref q35, .ref q64, .ref q87, .ref q114, .ref q156, .ref q213, .ref q274, .null, .null, .null, .null]) := (ho347 _ ne351).trans g336
  have hl361 : h0 ∈ L349 := hs342 _ hl312
  have hf362 : f348 q64 = .inl (κ 4, 6, .inr (.inr (.inr (.inr (fun _ => none))))) := (ho347 _ ne352).trans hf337
  have hl363 : q64 ∈ L349 := hs342 _ hl315
  have hf364 : f348 q87 = .inl (κ 5, 6, .inr (.inr (.inr (.inr (fun _ => none))))) := (ho347 _ ne353).trans hf338
  have hl365 : q87 ∈ L349 := hs342 _ hl318
  clear g336 hl312 hf337 hl315 hf338 hl318
  refine lv_dup hx hb dX10_init_103 rfl ?_
  refine lv_bipush (v := 60) hx hb dX10_init_104 (by decide) ?_
  refine lv_iconst (v := 3) hx hb dX10_init_106 (by decide) ?_
  have hFc := tp_fr hD hS hA
  refine va_callv (va_runI (As := [.int 60, .int 3]) (rest := [.ref q339, .ref h0]) ⟨hx, hb, hml, hown, hts⟩ (t_X4_init_60_3 l dC dI _ Ω κ τ_304 ν_304 ρ_304 L349 f348 hG hT q339 (lb + 15) Zb hq343 hz344 hf346 hz) (cwI 2 hts ggX10_init_X4_init rfl rfl rfl (hts (.initialized RX4) wa_56) (hts (.methodLink RX10 60 yX4_init) wa_76) (hts (.instanceMethod yX4_init) wa_77) rfl pd_X4_init ⟨Nat.le_of_ble_eq_true rfl, Nat.le_of_ble_eq_true rfl⟩) ⟨pz_blind, pz_pre hP hK hD hN⟩ rfl rfl hl.1 rfl (lv_room (Nat.le_of_ble_eq_true rfl)) dX10_init_107 ⟨Nat.le_of_ble_eq_true rfl, Nat.le_of_ble_eq_true rfl⟩) hS (fun q _ h => hFc q h) hFc (fun x366 t H1 locs ht hvm hw368 hB hz1 hk1 hS => ?_)
  obtain ⟨τ_370, ν_370, ρ_370, L_370, f369⟩ := x366
  obtain ⟨⟨hG9, hT9, hH9⟩, hw368p⟩ := hw368
  have hc371 := hH9.2 _ (tp_in hG ht319 (by decide)) (fun z => ne354 (Option.some.inj z))
  have hc372 := hH9.2 _ (tp_in hG ht321 (by decide)) (fun z => ne355 (Option.some.inj z))
  have hc373 := hH9.2 _ (tp_in hG ht323 (by decide)) (fun z => ne356 (Option.some.inj z))
  have hc374 := hH9.2 _ (tp_in hG ht324 (by decide)) (fun z => ne357 (Option.some.inj z))
  have hc375 := hH9.2 _ (tp_in hG ht326 (by decide)) (fun z => ne358 (Option.some.inj z))
  have hc376 := hH9.2 _ (tp_in hG ht331 (by decide)) (fun z => ne359 (Option.some.inj z))
  have hc377 := hH9.2 _ hl361 (fun z => ne351 (Option.some.inj z))
  have hf378 : f369 h0 = .inr (10, [.int 0, .int 10, .int 700, .int 0, .int 0, .int 0, .int 0, .ref q9, .ref q35, .ref q64, .ref q87, .ref q114, .ref q156, .ref q213, .ref q274, .null, .null, .null, .null]) := (hc377.2.2.2 (by rw [hz328]; decide)).trans hf360
  have hl379 := hH9.1 _ hl361
  have hc380 := hH9.2 _ hl363 (fun z => ne352 (Option.some.inj z))
  have hf381 : f369 q64 = .inl (κ 4, 6, .inr (.inr (.inr (.inr (fun _ => none))))) := (hc380.2.2.2 (by rw [hz329]; decide)).trans hf362
  have hl382 := hH9.1 _ hl363
  have hc383 := hH9.2 _ hl365 (fun z => ne353 (Option.some.inj z))
  have hf384 : f369 q87 = .inl (κ 5, 6, .inr (.inr (.inr (.inr (fun _ => none))))) := (hc383.2.2.2 (by rw [hz330]; decide)).trans hf364
  have hl385 := hH9.1 _ hl365
  have hH := hH.call hH9 (by decide) (fun a ha _ z => hn350 a ha (Option.some.inj z))
  have hG : tp_G τ_370 ν_370 ρ_370 L_370 := hG9; have hT : tp_T Ω κ τ_370 ν_370 ρ_370 f369 := hT9
  have hH : tp_H τ ν ρ L f [] (some h0) τ_370 ν_370 ρ_370 L_370 f369 := hH
  have hz := hw368p.2
  have hw368p := hw368p.1
  have hP := hB.1; rw [ht] at hP; have hD := tp_Dw hB.2.2 hFc; clear hB hFc hz1 hk1; subst ht; generalize t.heap = H at hP hS ⊢
  have hP : va_P (dC, dI) vwCl (va_pl L_370 f369) H := hP
  have hD : va_D A (va_pl L_370 f369) := hD
  have ht386 : τ_370 q9 = 20 := hc371.1.trans ht319
  have hn387 : ν_370 q9 = 25 := hc371.2.1.trans hn320
  have ht388 : τ_370 q35 = 20 := hc372.1.trans ht321
  have hn389 : ν_370 q35 = 100 := hc372.2.1.trans hn322
  have ht390 : τ_370 q114 = 26 := hc373.1.trans ht323
  have ht391 : τ_370 q156 = 7 := hc374.1.trans ht324
  have hx392 : ρ_370 q156 11 = 60 ∧ ρ_370 q156 30 = (lb + 12) := by have q9 : ρ_370 q156 = _ := hc374.2.2.1; rw [q9]; exact hx325
  have ht393 : τ_370 q213 = 7 := hc375.1.trans ht326
  have hx394 : ρ_370 q213 11 = 20 ∧ ρ_370 q213 30 = (lb + 13) := by have q9 : ρ_370 q213 = _ := hc375.2.2.1; rw [q9]; exact hx327
  have ht395 : τ_370 q274 = 7 := hc376.1.trans ht331
  have hx396 : ρ_370 q274 11 = 20 ∧ ρ_370 q274 30 = (lb + 14) := by have q9 : ρ_370 q274 = _ := hc376.2.2.1; rw [q9]; exact hx332
  have hz397 : τ_370 h0 = 0 := hc377.1.trans hz328
  have hz398 : τ_370 q64 = 0 := hc380.1.trans hz329
  have hz399 : τ_370 q87 = 0 := hc383.1.trans hz330
  clear ht319 hn320 ht321 hn322 ht323 ht324 hx325 ht326 hx327 ht331 hx332 hz328 hz329 hz330 ne351 ne352 ne353 ne354 ne355 ne356 ne357 ne358 ne359 hc371 hc372 hc373 hc374 hc375 hc376 hc377 hc380 hc383 hG9 hT9 hH9
  have ht400 : τ_370 q339 = 5 := hw368p.1
  have hx401 : ρ_370 q339 10 = 3 ∧ ρ_370 q339 11 = 60 ∧ ρ_370 q339 30 = (lb + 15) := hw368p.2
  refine tpk_pos hl379 hf378 (fun q402 eq402 => ?_)
  refine va_putF (D := (dC, dI)) (ci := 10) (v := .ref q339) (ty := (.object "ColdShips$Rows")) (C := RX10) (T := TX10) (N := 19) hx hb hts hfX10 tyX10 tyX10_ok nmX10 hown hK hP hD hS q402 eq402 rfl 15 (by decide) (hts (.fieldLink RX10 63 "ColdShips$World" "prices" "LColdShips$Rows;") wa_57) (fun _ h9 => h9) rfl hin rfl (tyX10_ok 15 (by decide)) rfl rfl (Nat.le_of_ble_eq_true rfl) dX10_init_110 (tp_k (.inr (10, [.int 0, .int 10, .int 700, .int 0, .int 0, .int 0, .int 0, .ref q9, .ref q35, .ref q64, .ref q87, .ref q114, .ref q156, .ref q213, .ref q274, .ref q339, .null, .null, .null])) hD hl379 eq402 (fun f403 H locs hP hD hS g405 k404 => ?_))
  have hT := hT.raw hz397 k404
  have hz := tp_Z0.wt hz hz397 (by decide) k404
  have hH := hH.wo k404
  have hf406 : f403 q64 = .inl (κ 4, 6, .inr (.inr (.inr (.inr (fun _ => none))))) := (k404 _ (Ne.symm ne77)).trans hf381
  have hf407 : f403 q87 = .inl (κ 5, 6, .inr (.inr (.inr (.inr (fun _ => none))))) := (k404 _ (Ne.symm ne100)).trans hf384
  clear hf381 hf384
  refine lv_aload_n hx hb dX10_init_113 rfl (lv_at hl 0 rfl) ?_
  refine va_new (ci := 4) (fs := [.int 0, .null, .int 0]) (C := RX4) (T := TX4) (N := 3) hx hb hts hfX4 tyX4 tyX4_ok hown (hts (.classLink RX10 58 RX4) wa_54) (hts (.instantiable RX4 3) wa_55) (hts (.initialized RX4) wa_56) hK hP hD hS hA rfl (fun j hj => by rcases tpj_3 j hj with rfl | rfl | rfl <;> rfl) (Nat.le_of_ble_eq_true rfl) (Nat.le_of_ble_eq_true rfl) dX10_init_114 (fun q408 H hP hD hS => ?_)
  refine Exists.elim (tp_grow hG hT hP hD) (fun L418 hE90 => Exists.elim hE90 (fun f417 hE91 => tn_10 hE91 (fun hP hD hg409 ht410 hs411 hq412 hz413 hn414 hf415 ho416 => ?_)))
  clear hE91 hE90
  have hn419 : ∀ a, a ∈ L → a ≠ q408 := fun a ha => hn414 a (hH.1 a ha)
  have ne420 : h0 ≠ q408 := hn414 _ hl379
  have ne421 : q64 ≠ q408 := hn414 _ hl382
  have ne422 : q87 ≠ q408 := hn414 _ hl385
  have ne423 : q9 ≠ q408 := hn414 _ (tp_in hG ht386 (by decide))
  have ne424 : q35 ≠ q408 := hn414 _ (tp_in hG ht388 (by decide))
  have ne425 : q114 ≠ q408 := hn414 _ (tp_in hG ht390 (by decide))
  have ne426 : q156 ≠ q408 := hn414 _ (tp_in hG ht391 (by decide))
  have ne427 : q213 ≠ q408 := hn414 _ (tp_in hG ht393 (by decide))
  have ne428 : q274 ≠ q408 := hn414 _ (tp_in hG ht395 (by decide))
  have ne429 : q339 ≠ q408 := hn414 _ (tp_in hG ht400 (by decide))
  have hG := hg409
  have hT := ht410
  have hH := hH.gr hs411 hn414 ho416
  have hz := tp_Z0.wt hz hz413 (by decide) ho416
  have hf430 : f417 h0 = .inr (10, [.int 0, .int 10, .int 700, .int 0, .int 0, .int 0, .int 0, .ref q9, .ref q35, .ref q64, .ref q87, .ref q114, .ref q156, .ref q213, .ref q274, .ref q339, .null, .null, .null]) := (ho416 _ ne420).trans g405
  have hl431 : h0 ∈ L418 := hs411 _ hl379
  have hf432 : f417 q64 = .inl (κ 4, 6, .inr (.inr (.inr (.inr (fun _ => none))))) := (ho416 _ ne421).trans hf406
  have hl433 : q64 ∈ L418 := hs411 _ hl382
  have hf434 : f417 q87 = .inl (κ 5, 6, .inr (.inr (.inr (.inr (fun _ => none))))) := (ho416 _ ne422).trans hf407
  have hl435 : q87 ∈ L418 := hs411 _ hl385
  clear g405 hl379 hf406 hl382 hf407 hl385
  refine lv_dup hx hb dX10_init_117 rfl ?_
  refine lv_bipush (v := 60) hx hb dX10_init_118 (by decide) ?_
  refine lv_iconst (v := 5) hx hb dX10_init_120 (by decide) ?_
  have hFc := tp_fr hD hS hA
  refine va_callv (va_runI (As := [.int 60, .int 5]) (rest := [.ref q408, .ref h0]) ⟨hx, hb, hml, hown, hts⟩ (t_X4_init_60_5 l dC dI _ Ω κ τ_370 ν_370 ρ_370 L418 f417 hG hT q408 (lb + 16) Zb hq412 hz413 hf415 hz) (cwI 2 hts ggX10_init_X4_init rfl rfl rfl (hts (.initialized RX4) wa_56) (hts (.methodLink RX10 60 yX4_init) wa_76) (hts (.instanceMethod yX4_init) wa_77) rfl pd_X4_init ⟨Nat.le_of_ble_eq_true rfl, Nat.le_of_ble_eq_true rfl⟩) ⟨pz_blind, pz_pre hP hK hD hN⟩ rfl rfl hl.1 rfl (lv_room (Nat.le_of_ble_eq_true rfl)) dX10_init_121 ⟨Nat.le_of_ble_eq_true rfl, Nat.le_of_ble_eq_true rfl⟩) hS (fun q _ h => hFc q h) hFc (fun x436 t H1 locs ht hvm hw438 hB hz1 hk1 hS => ?_)
  obtain ⟨τ_440, ν_440, ρ_440, L_440, f439⟩ := x436
  obtain ⟨⟨hG9, hT9, hH9⟩, hw438p⟩ := hw438
  have hc441 := hH9.2 _ (tp_in hG ht386 (by decide)) (fun z => ne423 (Option.some.inj z))
  have hc442 := hH9.2 _ (tp_in hG ht388 (by decide)) (fun z => ne424 (Option.some.inj z))
  have hc443 := hH9.2 _ (tp_in hG ht390 (by decide)) (fun z => ne425 (Option.some.inj z))
  have hc444 := hH9.2 _ (tp_in hG ht391 (by decide)) (fun z => ne426 (Option.some.inj z))
  have hc445 := hH9.2 _ (tp_in hG ht393 (by decide)) (fun z => ne427 (Option.some.inj z))
  have hc446 := hH9.2 _ (tp_in hG ht395 (by decide)) (fun z => ne428 (Option.some.inj z))
  have hc447 := hH9.2 _ (tp_in hG ht400 (by decide)) (fun z => ne429 (Option.some.inj z))
  have hc448 := hH9.2 _ hl431 (fun z => ne420 (Option.some.inj z))
  have hf449 : f439 h0 = .inr (10, [.int 0, .int 10, .int 700, .int 0, .int 0, .int 0, .int 0, .ref q9, .ref q35, .ref q64, .ref q87, .ref q114, .ref q156, .ref q213, .ref q274, .ref q339, .null, .null, .null]) := (hc448.2.2.2 (by rw [hz397]; decide)).trans hf430
  have hl450 := hH9.1 _ hl431
  have hc451 := hH9.2 _ hl433 (fun z => ne421 (Option.some.inj z))
  have hf452 : f439 q64 = .inl (κ 4, 6, .inr (.inr (.inr (.inr (fun _ => none))))) := (hc451.2.2.2 (by rw [hz398]; decide)).trans hf432
  have hl453 := hH9.1 _ hl433
  have hc454 := hH9.2 _ hl435 (fun z => ne422 (Option.some.inj z))
  have hf455 : f439 q87 = .inl (κ 5, 6, .inr (.inr (.inr (.inr (fun _ => none))))) := (hc454.2.2.2 (by rw [hz399]; decide)).trans hf434
  have hl456 := hH9.1 _ hl435
  have hH := hH.call hH9 (by decide) (fun a ha _ z => hn419 a ha (Option.some.inj z))
  have hG : tp_G τ_440 ν_440 ρ_440 L_440 := hG9; have hT : tp_T Ω κ τ_440 ν_440 ρ_440 f439 := hT9
  have hH : tp_H τ ν ρ L f [] (some h0) τ_440 ν_440 ρ_440 L_440 f439 := hH
  have hz := hw438p.2
  have hw438p := hw438p.1
  have hP := hB.1; rw [ht] at hP; have hD := tp_Dw hB.2.2 hFc; clear hB hFc hz1 hk1; subst ht; generalize t.heap = H at hP hS ⊢
  have hP : va_P (dC, dI) vwCl (va_pl L_440 f439) H := hP
  have hD : va_D A (va_pl L_440 f439) := hD
  have ht457 : τ_440 q9 = 20 := hc441.1.trans ht386
  have hn458 : ν_440 q9 = 25 := hc441.2.1.trans hn387
  have ht459 : τ_440 q35 = 20 := hc442.1.trans ht388
  have hn460 : ν_440 q35 = 100 := hc442.2.1.trans hn389
  have ht461 : τ_440 q114 = 26 := hc443.1.trans ht390
  have ht462 : τ_440 q156 = 7 := hc444.1.trans ht391
  have hx463 : ρ_440 q156 11 = 60 ∧ ρ_440 q156 30 = (lb + 12) := by have q9 : ρ_440 q156 = _ := hc444.2.2.1; rw [q9]; exact hx392
  have ht464 : τ_440 q213 = 7 := hc445.1.trans ht393
  have hx465 : ρ_440 q213 11 = 20 ∧ ρ_440 q213 30 = (lb + 13) := by have q9 : ρ_440 q213 = _ := hc445.2.2.1; rw [q9]; exact hx394
  have ht466 : τ_440 q274 = 7 := hc446.1.trans ht395
  have hx467 : ρ_440 q274 11 = 20 ∧ ρ_440 q274 30 = (lb + 14) := by have q9 : ρ_440 q274 = _ := hc446.2.2.1; rw [q9]; exact hx396
  have ht468 : τ_440 q339 = 5 := hc447.1.trans ht400
  have hx469 : ρ_440 q339 10 = 3 ∧ ρ_440 q339 11 = 60 ∧ ρ_440 q339 30 = (lb + 15) := by have q9 : ρ_440 q339 = _ := hc447.2.2.1; rw [q9]; exact hx401
  have hz470 : τ_440 h0 = 0 := hc448.1.trans hz397
  have hz471 : τ_440 q64 = 0 := hc451.1.trans hz398
  have hz472 : τ_440 q87 = 0 := hc454.1.trans hz399
  clear ht386 hn387 ht388 hn389 ht390 ht391 hx392 ht393 hx394 ht395 hx396 ht400 hx401 hz397 hz398 hz399 ne420 ne421 ne422 ne423 ne424 ne425 ne426 ne427 ne428 ne429 hc441 hc442 hc443 hc444 hc445 hc446 hc447 hc448 hc451 hc454 hG9 hT9 hH9
  have ht473 : τ_440 q408 = 5 := hw438p.1
  have hx474 : ρ_440 q408 10 = 5 ∧ ρ_440 q408 11 = 60 ∧ ρ_440 q408 30 = (lb + 16) := hw438p.2
  refine tpk_pos hl450 hf449 (fun q475 eq475 => ?_)
  refine va_putF (D := (dC, dI)) (ci := 10) (v := .ref q408) (ty := (.object "ColdShips$Rows")) (C := RX10) (T := TX10) (N := 19) hx hb hts hfX10 tyX10 tyX10_ok nmX10 hown hK hP hD hS q475 eq475 rfl 16 (by decide) (hts (.fieldLink RX10 67 "ColdShips$World" "readings" "LColdShips$Rows;") wa_58) (fun _ h9 => h9) rfl hin rfl (tyX10_ok 16 (by decide)) rfl rfl (Nat.le_of_ble_eq_true rfl) dX10_init_124 (tp_k (.inr (10, [.int 0, .int 10, .int 700, .int 0, .int 0, .int 0, .int 0, .ref q9, .ref q35, .ref q64, .ref q87, .ref q114, .ref q156, .ref q213, .ref q274, .ref q339, .ref q408, .null, .null])) hD hl450 eq475 (fun f476 H locs hP hD hS g478 k477 => ?_))
  have hT := hT.raw hz470 k477
  have hz := tp_Z0.wt hz hz470 (by decide) k477
  have hH := hH.wo k477
  have hf479 : f476 q64 = .inl (κ 4, 6, .inr (.inr (.inr (.inr (fun _ => none))))) := (k477 _ (Ne.symm ne77)).trans hf452
  have hf480 : f476 q87 = .inl (κ 5, 6, .inr (.inr (.inr (.inr (fun _ => none))))) := (k477 _ (Ne.symm ne100)).trans hf455
  clear hf452 hf455
  refine lv_aload_n hx hb dX10_init_127 rfl (lv_at hl 0 rfl) ?_
  refine va_new (ci := 4) (fs := [.int 0, .null, .int 0]) (C := RX4) (T := TX4) (N := 3) hx hb hts hfX4 tyX4 tyX4_ok hown (hts (.classLink RX10 58 RX4) wa_54) (hts (.instantiable RX4 3) wa_55) (hts (.initialized RX4) wa_56) hK hP hD hS hA rfl (fun j hj => by rcases tpj_3 j hj with rfl | rfl | rfl <;> rfl) (Nat.le_of_ble_eq_true rfl) (Nat.le_of_ble_eq_true rfl) dX10_init_128 (fun q481 H hP hD hS => ?_)
  refine Exists.elim (tp_grow hG hT hP hD) (fun L491 hE90 => Exists.elim hE90 (fun f490 hE91 => tn_10 hE91 (fun hP hD hg482 ht483 hs484 hq485 hz486 hn487 hf488 ho489 => ?_)))
  clear hE91 hE90
  have hn492 : ∀ a, a ∈ L → a ≠ q481 := fun a ha => hn487 a (hH.1 a ha)
  have ne493 : h0 ≠ q481 := hn487 _ hl450
  have ne494 : q64 ≠ q481 := hn487 _ hl453
  have ne495 : q87 ≠ q481 := hn487 _ hl456
  have ne496 : q9 ≠ q481 := hn487 _ (tp_in hG ht457 (by decide))
  have ne497 : q35 ≠ q481 := hn487 _ (tp_in hG ht459 (by decide))
  have ne498 : q114 ≠ q481 := hn487 _ (tp_in hG ht461 (by decide))
  have ne499 : q156 ≠ q481 := hn487 _ (tp_in hG ht462 (by decide))
  have ne500 : q213 ≠ q481 := hn487 _ (tp_in hG ht464 (by decide))
  have ne501 : q274 ≠ q481 := hn487 _ (tp_in hG ht466 (by decide))
  have ne502 : q339 ≠ q481 := hn487 _ (tp_in hG ht468 (by decide))
  have ne503 : q408 ≠ q481 := hn487 _ (tp_in hG ht473 (by decide))
  have hG := hg482
  have hT := ht483
  have hH := hH.gr hs484 hn487 ho489
  have hz := tp_Z0.wt hz hz486 (by decide) ho489
  have hf504 : f490 h0 = .inr (10, [.int 0, .int 10, .int 700, .int 0, .int 0, .int 0, .int 0, .ref q9, .ref q35, .ref q64, .ref q87, .ref q114, .ref q156, .ref q213, .ref q274, .ref q339, .ref q408, .null, .null]) := (ho489 _ ne493).trans g478
  have hl505 : h0 ∈ L491 := hs484 _ hl450
  have hf506 : f490 q64 = .inl (κ 4, 6, .inr (.inr (.inr (.inr (fun _ => none))))) := (ho489 _ ne494).trans hf479
  have hl507 : q64 ∈ L491 := hs484 _ hl453
  have hf508 : f490 q87 = .inl (κ 5, 6, .inr (.inr (.inr (.inr (fun _ => none))))) := (ho489 _ ne495).trans hf480
  have hl509 : q87 ∈ L491 := hs484 _ hl456
  clear g478 hl450 hf479 hl453 hf480 hl456
  refine lv_dup hx hb dX10_init_131 rfl ?_
  refine lv_bipush (v := 60) hx hb dX10_init_132 (by decide) ?_
  refine lv_bipush (v := 15) hx hb dX10_init_134 (by decide) ?_
  have hFc := tp_fr hD hS hA
  refine va_callv (va_runI (As := [.int 60, .int 15]) (rest := [.ref q481, .ref h0]) ⟨hx, hb, hml, hown, hts⟩ (t_X4_init_60_15 l dC dI _ Ω κ τ_440 ν_440 ρ_440 L491 f490 hG hT q481 (lb + 17) Zb hq485 hz486 hf488 hz) (cwI 2 hts ggX10_init_X4_init rfl rfl rfl (hts (.initialized RX4) wa_56) (hts (.methodLink RX10 60 yX4_init) wa_76) (hts (.instanceMethod yX4_init) wa_77) rfl pd_X4_init ⟨Nat.le_of_ble_eq_true rfl, Nat.le_of_ble_eq_true rfl⟩) ⟨pz_blind, pz_pre hP hK hD hN⟩ rfl rfl hl.1 rfl (lv_room (Nat.le_of_ble_eq_true rfl)) dX10_init_136 ⟨Nat.le_of_ble_eq_true rfl, Nat.le_of_ble_eq_true rfl⟩) hS (fun q _ h => hFc q h) hFc (fun x510 t H1 locs ht hvm hw512 hB hz1 hk1 hS => ?_)
  obtain ⟨τ_514, ν_514, ρ_514, L_514, f513⟩ := x510
  obtain ⟨⟨hG9, hT9, hH9⟩, hw512p⟩ := hw512
  have hc515 := hH9.2 _ (tp_in hG ht457 (by decide)) (fun z => ne496 (Option.some.inj z))
  have hc516 := hH9.2 _ (tp_in hG ht459 (by decide)) (fun z => ne497 (Option.some.inj z))
  have hc517 := hH9.2 _ (tp_in hG ht461 (by decide)) (fun z => ne498 (Option.some.inj z))
  have hc518 := hH9.2 _ (tp_in hG ht462 (by decide)) (fun z => ne499 (Option.some.inj z))
  have hc519 := hH9.2 _ (tp_in hG ht464 (by decide)) (fun z => ne500 (Option.some.inj z))
  have hc520 := hH9.2 _ (tp_in hG ht466 (by decide)) (fun z => ne501 (Option.some.inj z))
  have hc521 := hH9.2 _ (tp_in hG ht468 (by decide)) (fun z => ne502 (Option.some.inj z))
  have hc522 := hH9.2 _ (tp_in hG ht473 (by decide)) (fun z => ne503 (Option.some.inj z))
  have hc523 := hH9.2 _ hl505 (fun z => ne493 (Option.some.inj z))
  have hf524 : f513 h0 = .inr (10, [.int 0, .int 10, .int 700, .int 0, .int 0, .int 0, .int 0, .ref q9, .ref q35, .ref q64, .ref q87, .ref q114, .ref q156, .ref q213, .ref q274, .ref q339, .ref q408, .null, .null]) := (hc523.2.2.2 (by rw [hz470]; decide)).trans hf504
  have hl525 := hH9.1 _ hl505
  have hc526 := hH9.2 _ hl507 (fun z => ne494 (Option.some.inj z))
  have hf527 : f513 q64 = .inl (κ 4, 6, .inr (.inr (.inr (.inr (fun _ => none))))) := (hc526.2.2.2 (by rw [hz471]; decide)).trans hf506
  have hl528 := hH9.1 _ hl507
  have hc529 := hH9.2 _ hl509 (fun z => ne495 (Option.some.inj z))
  have hf530 : f513 q87 = .inl (κ 5, 6, .inr (.inr (.inr (.inr (fun _ => none))))) := (hc529.2.2.2 (by rw [hz472]; decide)).trans hf508
  have hl531 := hH9.1 _ hl509
  have hH := hH.call hH9 (by decide) (fun a ha _ z => hn492 a ha (Option.some.inj z))
  have hG : tp_G τ_514 ν_514 ρ_514 L_514 := hG9; have hT : tp_T Ω κ τ_514 ν_514 ρ_514 f513 := hT9
  have hH : tp_H τ ν ρ L f [] (some h0) τ_514 ν_514 ρ_514 L_514 f513 := hH
  have hz := hw512p.2
  have hw512p := hw512p.1
  have hP := hB.1; rw [ht] at hP; have hD := tp_Dw hB.2.2 hFc; clear hB hFc hz1 hk1; subst ht; generalize t.heap = H at hP hS ⊢
  have hP : va_P (dC, dI) vwCl (va_pl L_514 f513) H := hP
  have hD : va_D A (va_pl L_514 f513) := hD
  have ht532 : τ_514 q9 = 20 := hc515.1.trans ht457
  have hn533 : ν_514 q9 = 25 := hc515.2.1.trans hn458
  have ht534 : τ_514 q35 = 20 := hc516.1.trans ht459
  have hn535 : ν_514 q35 = 100 := hc516.2.1.trans hn460
  have ht536 : τ_514 q114 = 26 := hc517.1.trans ht461
  have ht537 : τ_514 q156 = 7 := hc518.1.trans ht462
  have hx538 : ρ_514 q156 11 = 60 ∧ ρ_514 q156 30 = (lb + 12) := by have q9 : ρ_514 q156 = _ := hc518.2.2.1; rw [q9]; exact hx463
  have ht539 : τ_514 q213 = 7 := hc519.1.trans ht464
  have hx540 : ρ_514 q213 11 = 20 ∧ ρ_514 q213 30 = (lb + 13) := by have q9 : ρ_514 q213 = _ := hc519.2.2.1; rw [q9]; exact hx465
  have ht541 : τ_514 q274 = 7 := hc520.1.trans ht466
  have hx542 : ρ_514 q274 11 = 20 ∧ ρ_514 q274 30 = (lb + 14) := by have q9 : ρ_514 q274 = _ := hc520.2.2.1; rw [q9]; exact hx467
  have ht543 : τ_514 q339 = 5 := hc521.1.trans ht468
  have hx544 : ρ_514 q339 10 = 3 ∧ ρ_514 q339 11 = 60 ∧ ρ_514 q339 30 = (lb + 15) := by have q9 : ρ_514 q339 = _ := hc521.2.2.1; rw [q9]; exact hx469
  have ht545 : τ_514 q408 = 5 := hc522.1.trans ht473
  have hx546 : ρ_514 q408 10 = 5 ∧ ρ_514 q408 11 = 60 ∧ ρ_514 q408 30 = (lb + 16) := by have q9 : ρ_514 q408 = _ := hc522.2.2.1; rw [q9]; exact hx474
  have hz547 : τ_514 h0 = 0 := hc523.1.trans hz470
  have hz548 : τ_514 q64 = 0 := hc526.1.trans hz471
  have hz549 : τ_514 q87 = 0 := hc529.1.trans hz472
  clear ht457 hn458 ht459 hn460 ht461 ht462 hx463 ht464 hx465 ht466 hx467 ht468 hx469 ht473 hx474 hz470 hz471 hz472 ne493 ne494 ne495 ne496 ne497 ne498 ne499 ne500 ne501 ne502 ne503 hc515 hc516 hc517 hc518 hc519 hc520 hc521 hc522 hc523 hc526 hc529 hG9 hT9 hH9
  have ht550 : τ_514 q481 = 5 := hw512p.1
  have hx551 : ρ_514 q481 10 = 15 ∧ ρ_514 q481 11 = 60 ∧ ρ_514 q481 30 = (lb + 17) := hw512p.2
  refine tpk_pos hl525 hf524 (fun q552 eq552 => ?_)
  refine va_putF (D := (dC, dI)) (ci := 10) (v := .ref q481) (ty := (.object "ColdShips$Rows")) (C := RX10) (T := TX10) (N := 19) hx hb hts hfX10 tyX10 tyX10_ok nmX10 hown hK hP hD hS q552 eq552 rfl 17 (by decide) (hts (.fieldLink RX10 70 "ColdShips$World" "landings" "LColdShips$Rows;") wa_59) (fun _ h9 => h9) rfl hin rfl (tyX10_ok 17 (by decide)) rfl rfl (Nat.le_of_ble_eq_true rfl) dX10_init_139 (tp_k (.inr (10, [.int 0, .int 10, .int 700, .int 0, .int 0, .int 0, .int 0, .ref q9, .ref q35, .ref q64, .ref q87, .ref q114, .ref q156, .ref q213, .ref q274, .ref q339, .ref q408, .ref q481, .null])) hD hl525 eq552 (fun f553 H locs hP hD hS g555 k554 => ?_))
  have hT := hT.raw hz547 k554
  have hz := tp_Z0.wt hz hz547 (by decide) k554
  have hH := hH.wo k554
  have hf556 : f553 q64 = .inl (κ 4, 6, .inr (.inr (.inr (.inr (fun _ => none))))) := (k554 _ (Ne.symm ne77)).trans hf527
  have hf557 : f553 q87 = .inl (κ 5, 6, .inr (.inr (.inr (.inr (fun _ => none))))) := (k554 _ (Ne.symm ne100)).trans hf530
  clear hf527 hf530
  refine lv_aload_n hx hb dX10_init_142 rfl (lv_at hl 0 rfl) ?_
  refine va_new (ci := 4) (fs := [.int 0, .null, .int 0]) (C := RX4) (T := TX4) (N := 3) hx hb hts hfX4 tyX4 tyX4_ok hown (hts (.classLink RX10 58 RX4) wa_54) (hts (.instantiable RX4 3) wa_55) (hts (.initialized RX4) wa_56) hK hP hD hS hA rfl (fun j hj => by rcases tpj_3 j hj with rfl | rfl | rfl <;> rfl) (Nat.le_of_ble_eq_true rfl) (Nat.le_of_ble_eq_true rfl) dX10_init_143 (fun q558 H hP hD hS => ?_)
  refine Exists.elim (tp_grow hG hT hP hD) (fun L568 hE90 => Exists.elim hE90 (fun f567 hE91 => tn_10 hE91 (fun hP hD hg559 ht560 hs561 hq562 hz563 hn564 hf565 ho566 => ?_)))
  clear hE91 hE90
  have hn569 : ∀ a, a ∈ L → a ≠ q558 := fun a ha => hn564 a (hH.1 a ha)
  have ne570 : h0 ≠ q558 := hn564 _ hl525
  have ne571 : q64 ≠ q558 := hn564 _ hl528
  have ne572 : q87 ≠ q558 := hn564 _ hl531
  have ne573 : q9 ≠ q558 := hn564 _ (tp_in hG ht532 (by decide))
  have ne574 : q35 ≠ q558 := hn564 _ (tp_in hG ht534 (by decide))
  have ne575 : q114 ≠ q558 := hn564 _ (tp_in hG ht536 (by decide))
  have ne576 : q156 ≠ q558 := hn564 _ (tp_in hG ht537 (by decide))
  have ne577 : q213 ≠ q558 := hn564 _ (tp_in hG ht539 (by decide))
  have ne578 : q274 ≠ q558 := hn564 _ (tp_in hG ht541 (by decide))
  have ne579 : q339 ≠ q558 := hn564 _ (tp_in hG ht543 (by decide))
  have ne580 : q408 ≠ q558 := hn564 _ (tp_in hG ht545 (by decide))
  have ne581 : q481 ≠ q558 := hn564 _ (tp_in hG ht550 (by decide))
  have hG := hg559
  have hT := ht560
  have hH := hH.gr hs561 hn564 ho566
  have hz := tp_Z0.wt hz hz563 (by decide) ho566
  have hf582 : f567 h0 = .inr (10, [.int 0, .int 10, .int 700, .int 0, .int 0, .int 0, .int 0, .ref q9, .ref q35, .ref q64, .ref q87, .ref q114, .ref q156, .ref q213, .ref q274, .ref q339, .ref q408, .ref q481, .null]) := (ho566 _ ne570).trans g555
  have hl583 : h0 ∈ L568 := hs561 _ hl525
  have hf584 : f567 q64 = .inl (κ 4, 6, .inr (.inr (.inr (.inr (fun _ => none))))) := (ho566 _ ne571).trans hf556
  have hl585 : q64 ∈ L568 := hs561 _ hl528
  have hf586 : f567 q87 = .inl (κ 5, 6, .inr (.inr (.inr (.inr (fun _ => none))))) := (ho566 _ ne572).trans hf557
  have hl587 : q87 ∈ L568 := hs561 _ hl531
  clear g555 hl525 hf556 hl528 hf557 hl531
  refine lv_dup hx hb dX10_init_146 rfl ?_
  refine lv_bipush (v := 6) hx hb dX10_init_147 (by decide) ?_
  refine lv_bipush (v := 8) hx hb dX10_init_149 (by decide) ?_
  have hFc := tp_fr hD hS hA
  refine va_callv (va_runI (As := [.int 6, .int 8]) (rest := [.ref q558, .ref h0]) ⟨hx, hb, hml, hown, hts⟩ (t_X4_init_6_8 l dC dI _ Ω κ τ_514 ν_514 ρ_514 L568 f567 hG hT q558 (lb + 18) Zb hq562 hz563 hf565 hz) (cwI 2 hts ggX10_init_X4_init rfl rfl rfl (hts (.initialized RX4) wa_56) (hts (.methodLink RX10 60 yX4_init) wa_76) (hts (.instanceMethod yX4_init) wa_77) rfl pd_X4_init ⟨Nat.le_of_ble_eq_true rfl, Nat.le_of_ble_eq_true rfl⟩) ⟨pz_blind, pz_pre hP hK hD hN⟩ rfl rfl hl.1 rfl (lv_room (Nat.le_of_ble_eq_true rfl)) dX10_init_151 ⟨Nat.le_of_ble_eq_true rfl, Nat.le_of_ble_eq_true rfl⟩) hS (fun q _ h => hFc q h) hFc (fun x588 t H1 locs ht hvm hw590 hB hz1 hk1 hS => ?_)
  obtain ⟨τ_592, ν_592, ρ_592, L_592, f591⟩ := x588
  obtain ⟨⟨hG9, hT9, hH9⟩, hw590p⟩ := hw590
  have hc593 := hH9.2 _ (tp_in hG ht532 (by decide)) (fun z => ne573 (Option.some.inj z))
  have hc594 := hH9.2 _ (tp_in hG ht534 (by decide)) (fun z => ne574 (Option.some.inj z))
  have hc595 := hH9.2 _ (tp_in hG ht536 (by decide)) (fun z => ne575 (Option.some.inj z))
  have hc596 := hH9.2 _ (tp_in hG ht537 (by decide)) (fun z => ne576 (Option.some.inj z))
  have hc597 := hH9.2 _ (tp_in hG ht539 (by decide)) (fun z => ne577 (Option.some.inj z))
  have hc598 := hH9.2 _ (tp_in hG ht541 (by decide)) (fun z => ne578 (Option.some.inj z))
  have hc599 := hH9.2 _ (tp_in hG ht543 (by decide)) (fun z => ne579 (Option.some.inj z))
  have hc600 := hH9.2 _ (tp_in hG ht545 (by decide)) (fun z => ne580 (Option.some.inj z))
  have hc601 := hH9.2 _ (tp_in hG ht550 (by decide)) (fun z => ne581 (Option.some.inj z))
  have hc602 := hH9.2 _ hl583 (fun z => ne570 (Option.some.inj z))
  have hf603 : f591 h0 = .inr (10, [.int 0, .int 10, .int 700, .int 0, .int 0, .int 0, .int 0, .ref q9, .ref q35, .ref q64, .ref q87, .ref q114, .ref q156, .ref q213, .ref q274, .ref q339, .ref q408, .ref q481, .null]) := (hc602.2.2.2 (by rw [hz547]; decide)).trans hf582
  have hl604 := hH9.1 _ hl583
  have hc605 := hH9.2 _ hl585 (fun z => ne571 (Option.some.inj z))
  have hf606 : f591 q64 = .inl (κ 4, 6, .inr (.inr (.inr (.inr (fun _ => none))))) := (hc605.2.2.2 (by rw [hz548]; decide)).trans hf584
  have hl607 := hH9.1 _ hl585
  have hc608 := hH9.2 _ hl587 (fun z => ne572 (Option.some.inj z))
  have hf609 : f591 q87 = .inl (κ 5, 6, .inr (.inr (.inr (.inr (fun _ => none))))) := (hc608.2.2.2 (by rw [hz549]; decide)).trans hf586
  have hl610 := hH9.1 _ hl587
  have hH := hH.call hH9 (by decide) (fun a ha _ z => hn569 a ha (Option.some.inj z))
  have hG : tp_G τ_592 ν_592 ρ_592 L_592 := hG9; have hT : tp_T Ω κ τ_592 ν_592 ρ_592 f591 := hT9
  have hH : tp_H τ ν ρ L f [] (some h0) τ_592 ν_592 ρ_592 L_592 f591 := hH
  have hz := hw590p.2
  have hw590p := hw590p.1
  have hP := hB.1; rw [ht] at hP; have hD := tp_Dw hB.2.2 hFc; clear hB hFc hz1 hk1; subst ht; generalize t.heap = H at hP hS ⊢
  have hP : va_P (dC, dI) vwCl (va_pl L_592 f591) H := hP
  have hD : va_D A (va_pl L_592 f591) := hD
  have ht611 : τ_592 q9 = 20 := hc593.1.trans ht532
  have hn612 : ν_592 q9 = 25 := hc593.2.1.trans hn533
  have ht613 : τ_592 q35 = 20 := hc594.1.trans ht534
  have hn614 : ν_592 q35 = 100 := hc594.2.1.trans hn535
  have ht615 : τ_592 q114 = 26 := hc595.1.trans ht536
  have ht616 : τ_592 q156 = 7 := hc596.1.trans ht537
  have hx617 : ρ_592 q156 11 = 60 ∧ ρ_592 q156 30 = (lb + 12) := by have q9 : ρ_592 q156 = _ := hc596.2.2.1; rw [q9]; exact hx538
  have ht618 : τ_592 q213 = 7 := hc597.1.trans ht539
  have hx619 : ρ_592 q213 11 = 20 ∧ ρ_592 q213 30 = (lb + 13) := by have q9 : ρ_592 q213 = _ := hc597.2.2.1; rw [q9]; exact hx540
  have ht620 : τ_592 q274 = 7 := hc598.1.trans ht541
  have hx621 : ρ_592 q274 11 = 20 ∧ ρ_592 q274 30 = (lb + 14) := by have q9 : ρ_592 q274 = _ := hc598.2.2.1; rw [q9]; exact hx542
  have ht622 : τ_592 q339 = 5 := hc599.1.trans ht543
  have hx623 : ρ_592 q339 10 = 3 ∧ ρ_592 q339 11 = 60 ∧ ρ_592 q339 30 = (lb + 15) := by have q9 : ρ_592 q339 = _ := hc599.2.2.1; rw [q9]; exact hx544
  have ht624 : τ_592 q408 = 5 := hc600.1.trans ht545
  have hx625 : ρ_592 q408 10 = 5 ∧ ρ_592 q408 11 = 60 ∧ ρ_592 q408 30 = (lb + 16) := by have q9 : ρ_592 q408 = _ := hc600.2.2.1; rw [q9]; exact hx546
  have ht626 : τ_592 q481 = 5 := hc601.1.trans ht550
  have hx627 : ρ_592 q481 10 = 15 ∧ ρ_592 q481 11 = 60 ∧ ρ_592 q481 30 = (lb + 17) := by have q9 : ρ_592 q481 = _ := hc601.2.2.1; rw [q9]; exact hx551
  have hz628 : τ_592 h0 = 0 := hc602.1.trans hz547
  have hz629 : τ_592 q64 = 0 := hc605.1.trans hz548
  have hz630 : τ_592 q87 = 0 := hc608.1.trans hz549
  clear ht532 hn533 ht534 hn535 ht536 ht537 hx538 ht539 hx540 ht541 hx542 ht543 hx544 ht545 hx546 ht550 hx551 hz547 hz548 hz549 ne570 ne571 ne572 ne573 ne574 ne575 ne576 ne577 ne578 ne579 ne580 ne581 hc593 hc594 hc595 hc596 hc597 hc598 hc599 hc600 hc601 hc602 hc605 hc608 hG9 hT9 hH9
  have ht631 : τ_592 q558 = 5 := hw590p.1
  have hx632 : ρ_592 q558 10 = 8 ∧ ρ_592 q558 11 = 6 ∧ ρ_592 q558 30 = (lb + 18) := hw590p.2
  refine tpk_pos hl604 hf603 (fun q633 eq633 => ?_)
  refine va_putF (D := (dC, dI)) (ci := 10) (v := .ref q558) (ty := (.object "ColdShips$Rows")) (C := RX10) (T := TX10) (N := 19) hx hb hts hfX10 tyX10 tyX10_ok nmX10 hown hK hP hD hS q633 eq633 rfl 18 (by decide) (hts (.fieldLink RX10 73 "ColdShips$World" "cargoes" "LColdShips$Rows;") wa_60) (fun _ h9 => h9) rfl hin rfl (tyX10_ok 18 (by decide)) rfl rfl (Nat.le_of_ble_eq_true rfl) dX10_init_154 (tp_k (.inr (10, [.int 0, .int 10, .int 700, .int 0, .int 0, .int 0, .int 0, .ref q9, .ref q35, .ref q64, .ref q87, .ref q114, .ref q156, .ref q213, .ref q274, .ref q339, .ref q408, .ref q481, .ref q558])) hD hl604 eq633 (fun f634 H locs hP hD hS g636 k635 => ?_))
  have hT := hT.raw hz628 k635
  have hz := tp_Z0.wt hz hz628 (by decide) k635
  have hH := hH.wo k635
  have hf637 : f634 q64 = .inl (κ 4, 6, .inr (.inr (.inr (.inr (fun _ => none))))) := (k635 _ (Ne.symm ne77)).trans hf606
  have hf638 : f634 q87 = .inl (κ 5, 6, .inr (.inr (.inr (.inr (fun _ => none))))) := (k635 _ (Ne.symm ne100)).trans hf609
  clear hf606 hf609
  refine lv_iconst (v := 0) hx hb dX10_init_157 (by decide) ?_
  refine lv_istore_n (lv' := [(1, .int 0), (0, .ref h0)]) hx hb dX10_init_158 rfl hl (by decide) rfl (fun ls hl => ?_)
  refine lv_iload_n hx hb dX10_init_159 rfl (lv_at hl 0 rfl) ?_
  refine lv_bipush (v := 6) hx hb dX10_init_160 (by decide) ?_
  refine lv_icmp_ge (tgt := 184) hx hb dX10_init_162 (by decide) (fun c9 => absurd c9 (by decide)) (fun _ => ?_)
  refine lv_aload_n hx hb dX10_init_165 rfl (lv_at hl 1 rfl) ?_
  refine tpk_pos hl604 g636 (fun q639 eq639 => ?_)
  refine va_get (D := (dC, dI)) (ci := 10) (v := .ref q64) (C := RX10) (T := TX10) (N := 19) hx hb hts hfX10 hown hK hP q639 eq639 rfl 9 (by decide) (hts (.fieldLink RX10 27 "ColdShips$World" "terminals" "[LColdShips$Terminal;") wa_43) (fun _ h9 => h9) rfl dX10_init_166 ?_
  refine lv_iload_n hx hb dX10_init_169 rfl (lv_at hl 0 rfl) ?_
  refine va_new (ci := 8) (fs := [.int 0, .int 0, .int 0, .int 0, .int 0, .null, .null]) (C := RX8) (T := TX8) (N := 7) hx hb hts hfX8 tyX8 tyX8_ok hown (hts (.classLink RX10 25 RX8) wa_42) (hts (.instantiable RX8 7) wa_61) (hts (.initialized RX8) wa_62) hK hP hD hS hA rfl (fun j hj => by rcases tpj_7 j hj with rfl | rfl | rfl | rfl | rfl | rfl | rfl <;> rfl) (Nat.le_of_ble_eq_true rfl) (Nat.le_of_ble_eq_true rfl) dX10_init_170 (fun q640 H hP hD hS => ?_)
  refine Exists.elim (tp_grow hG hT hP hD) (fun L650 hE90 => Exists.elim hE90 (fun f649 hE91 => tn_10 hE91 (fun hP hD hg641 ht642 hs643 hq644 hz645 hn646 hf647 ho648 => ?_)))
  clear hE91 hE90
  have hn651 : ∀ a, a ∈ L → a ≠ q640 := fun a ha => hn646 a (hH.1 a ha)
  have ne652 : h0 ≠ q640 := hn646 _ hl604
  have ne653 : q64 ≠ q640 := hn646 _ hl607
  have ne654 : q87 ≠ q640 := hn646 _ hl610
  have ne655 : q9 ≠ q640 := hn646 _ (tp_in hG ht611 (by decide))
  have ne656 : q35 ≠ q640 := hn646 _ (tp_in hG ht613 (by decide))
  have ne657 : q114 ≠ q640 := hn646 _ (tp_in hG ht615 (by decide))
  have ne658 : q156 ≠ q640 := hn646 _ (tp_in hG ht616 (by decide))
  have ne659 : q213 ≠ q640 := hn646 _ (tp_in hG ht618 (by decide))
  have ne660 : q274 ≠ q640 := hn646 _ (tp_in hG ht620 (by decide))
  have ne661 : q339 ≠ q640 := hn646 _ (tp_in hG ht622 (by decide))
  have ne662 : q408 ≠ q640 := hn646 _ (tp_in hG ht624 (by decide))
  have ne663 : q481 ≠ q640 := hn646 _ (tp_in hG ht626 (by decide))
  have ne664 : q558 ≠ q640 := hn646 _ (tp_in hG ht631 (by decide))
  have hG := hg641
  have hT := ht642
  have hH := hH.gr hs643 hn646 ho648
  have hz := tp_Z0.wt hz hz645 (by decide) ho648
  have hf665 : f649 h0 = .inr (10, [.int 0, .int 10, .int 700, .int 0, .int 0, .int 0, .int 0, .ref q9, .ref q35, .ref q64, .ref q87, .ref q114, .ref q156, .ref q213, .ref q274, .ref q339, .ref q408, .ref q481, .ref q558]) := (ho648 _ ne652).trans g636
  have hl666 : h0 ∈ L650 := hs643 _ hl604
  have hf667 : f649 q64 = .inl (κ 4, 6, .inr (.inr (.inr (.inr (fun _ => none))))) := (ho648 _ ne653).trans hf637
  have hl668 : q64 ∈ L650 := hs643 _ hl607
  have hf669 : f649 q87 = .inl (κ 5, 6, .inr (.inr (.inr (.inr (fun _ => none))))) := (ho648 _ ne654).trans hf638
  have hl670 : q87 ∈ L650 := hs643 _ hl610
  clear g636 hl604 hf637 hl607 hf638 hl610
  refine lv_dup hx hb dX10_init_173 rfl ?_
  have hFc := tp_fr hD hS hA
  refine va_callv (va_runIN (As := []) (rest := [.ref q640, .int 0, .ref q64]) ⟨hx, hb, hml, hown, hts⟩ (t_X8_init l dC dI _ Ω κ τ_592 ν_592 ρ_592 L650 f649 hG hT q640 Zb hq644 hz645 hf647 hz) ⟨(va_cnB (host := "ColdShips") 0 hts ggX10_init_X8_init rfl rfl rfl (hN.1 (.methodLinkNest RX10 76 yX8_init "ColdShips") nzw_104) (hts (.initialized RX8) wa_62) pd_X8_init ⟨Nat.le_of_ble_eq_true rfl, Nat.le_of_ble_eq_true rfl⟩), rfl, (hts (.instanceMethod yX8_init) wa_84)⟩ ⟨pz_blind, pz_pre hP hK hD hN⟩ rfl rfl hl.1 rfl (lv_room (Nat.le_of_ble_eq_true rfl)) dX10_init_174 ⟨Nat.le_of_ble_eq_true rfl, Nat.le_of_ble_eq_true rfl⟩) hS (fun q _ h => hFc q h) hFc (fun x671 t H1 locs ht hvm hw673 hB hz1 hk1 hS => ?_)
  obtain ⟨τ_675, ν_675, ρ_675, L_675, f674⟩ := x671
  obtain ⟨⟨hG9, hT9, hH9⟩, hw673p⟩ := hw673
  have hc676 := hH9.2 _ (tp_in hG ht611 (by decide)) (fun z => ne655 (Option.some.inj z))
  have hc677 := hH9.2 _ (tp_in hG ht613 (by decide)) (fun z => ne656 (Option.some.inj z))
  have hc678 := hH9.2 _ (tp_in hG ht615 (by decide)) (fun z => ne657 (Option.some.inj z))
  have hc679 := hH9.2 _ (tp_in hG ht616 (by decide)) (fun z => ne658 (Option.some.inj z))
  have hc680 := hH9.2 _ (tp_in hG ht618 (by decide)) (fun z => ne659 (Option.some.inj z))
  have hc681 := hH9.2 _ (tp_in hG ht620 (by decide)) (fun z => ne660 (Option.some.inj z))
  have hc682 := hH9.2 _ (tp_in hG ht622 (by decide)) (fun z => ne661 (Option.some.inj z))
  have hc683 := hH9.2 _ (tp_in hG ht624 (by decide)) (fun z => ne662 (Option.some.inj z))
  have hc684 := hH9.2 _ (tp_in hG ht626 (by decide)) (fun z => ne663 (Option.some.inj z))
  have hc685 := hH9.2 _ (tp_in hG ht631 (by decide)) (fun z => ne664 (Option.some.inj z))
  have hc686 := hH9.2 _ hl666 (fun z => ne652 (Option.some.inj z))
  have hf687 : f674 h0 = .inr (10, [.int 0, .int 10, .int 700, .int 0, .int 0, .int 0, .int 0, .ref q9, .ref q35, .ref q64, .ref q87, .ref q114, .ref q156, .ref q213, .ref q274, .ref q339, .ref q408, .ref q481, .ref q558]) := (hc686.2.2.2 (by rw [hz628]; decide)).trans hf665
  have hl688 := hH9.1 _ hl666
  have hc689 := hH9.2 _ hl668 (fun z => ne653 (Option.some.inj z))
  have hf690 : f674 q64 = .inl (κ 4, 6, .inr (.inr (.inr (.inr (fun _ => none))))) := (hc689.2.2.2 (by rw [hz629]; decide)).trans hf667
  have hl691 := hH9.1 _ hl668
  have hc692 := hH9.2 _ hl670 (fun z => ne654 (Option.some.inj z))
  have hf693 : f674 q87 = .inl (κ 5, 6, .inr (.inr (.inr (.inr (fun _ => none))))) := (hc692.2.2.2 (by rw [hz630]; decide)).trans hf669
  have hl694 := hH9.1 _ hl670
  have hH := hH.call hH9 (by decide) (fun a ha _ z => hn651 a ha (Option.some.inj z))
  have hG : tp_G τ_675 ν_675 ρ_675 L_675 := hG9; have hT : tp_T Ω κ τ_675 ν_675 ρ_675 f674 := hT9
  have hH : tp_H τ ν ρ L f [] (some h0) τ_675 ν_675 ρ_675 L_675 f674 := hH
  have hz := hw673p.2
  have hw673p := hw673p.1
  have hP := hB.1; rw [ht] at hP; have hD := tp_Dw hB.2.2 hFc; clear hB hFc hz1 hk1; subst ht; generalize t.heap = H at hP hS ⊢
  have hP : va_P (dC, dI) vwCl (va_pl L_675 f674) H := hP
  have hD : va_D A (va_pl L_675 f674) := hD
  have ht695 : τ_675 q9 = 20 := hc676.1.trans ht611
  have hn696 : ν_675 q9 = 25 := hc676.2.1.trans hn612
  have ht697 : τ_675 q35 = 20 := hc677.1.trans ht613
  have hn698 : ν_675 q35 = 100 := hc677.2.1.trans hn614
  have ht699 : τ_675 q114 = 26 := hc678.1.trans ht615
  have ht700 : τ_675 q156 = 7 := hc679.1.trans ht616
  have hx701 : ρ_675 q156 11 = 60 ∧ ρ_675 q156 30 = (lb + 12) := by have q9 : ρ_675 q156 = _ := hc679.2.2.1; rw [q9]; exact hx617
  have ht702 : τ_675 q213 = 7 := hc680.1.trans ht618
  have hx703 : ρ_675 q213 11 = 20 ∧ ρ_675 q213 30 = (lb + 13) := by have q9 : ρ_675 q213 = _ := hc680.2.2.1; rw [q9]; exact hx619
  have ht704 : τ_675 q274 = 7 := hc681.1.trans ht620
  have hx705 : ρ_675 q274 11 = 20 ∧ ρ_675 q274 30 = (lb + 14) := by have q9 : ρ_675 q274 = _ := hc681.2.2.1; rw [q9]; exact hx621
  have ht706 : τ_675 q339 = 5 := hc682.1.trans ht622
  have hx707 : ρ_675 q339 10 = 3 ∧ ρ_675 q339 11 = 60 ∧ ρ_675 q339 30 = (lb + 15) := by have q9 : ρ_675 q339 = _ := hc682.2.2.1; rw [q9]; exact hx623
  have ht708 : τ_675 q408 = 5 := hc683.1.trans ht624
  have hx709 : ρ_675 q408 10 = 5 ∧ ρ_675 q408 11 = 60 ∧ ρ_675 q408 30 = (lb + 16) := by have q9 : ρ_675 q408 = _ := hc683.2.2.1; rw [q9]; exact hx625
  have ht710 : τ_675 q481 = 5 := hc684.1.trans ht626
  have hx711 : ρ_675 q481 10 = 15 ∧ ρ_675 q481 11 = 60 ∧ ρ_675 q481 30 = (lb + 17) := by have q9 : ρ_675 q481 = _ := hc684.2.2.1; rw [q9]; exact hx627
  have ht712 : τ_675 q558 = 5 := hc685.1.trans ht631
  have hx713 : ρ_675 q558 10 = 8 ∧ ρ_675 q558 11 = 6 ∧ ρ_675 q558 30 = (lb + 18) := by have q9 : ρ_675 q558 = _ := hc685.2.2.1; rw [q9]; exact hx632
  have hz714 : τ_675 h0 = 0 := hc686.1.trans hz628
  have hz715 : τ_675 q64 = 0 := hc689.1.trans hz629
  have hz716 : τ_675 q87 = 0 := hc692.1.trans hz630
  clear ht611 hn612 ht613 hn614 ht615 ht616 hx617 ht618 hx619 ht620 hx621 ht622 hx623 ht624 hx625 ht626 hx627 ht631 hx632 hz628 hz629 hz630 ne652 ne653 ne654 ne655 ne656 ne657 ne658 ne659 ne660 ne661 ne662 ne663 ne664 hc676 hc677 hc678 hc679 hc680 hc681 hc682 hc683 hc684 hc685 hc686 hc689 hc692 hG9 hT9 hH9
  have ht717 : τ_675 q640 = 9 := hw673p
  refine tpk_pos hl691 hf690 (fun q718 eq718 => ?_)
  refine tgk_9 hG ht717 (fun y720 y720n y721 y721n => ?_)
  refine tpk_9 hT ht717 (fun o722_x0 o722_x1 o722_x2 o722_x3 o722_x4 hf_o722 ro722_0 => ?_)
  refine tpk_pos (tp_in hG ht717 (by decide)) hf_o722 (fun q723 eq723 => ?_)
  refine va_astq hx hb hK hP hD hS q718 4 q723 8 eq718 rfl eq723 rfl (vp_in_iff.mpr ⟨by decide, by decide⟩) dX10_init_177 (tp_k (.inl (κ 4, 6, .inr (.inr (.inr (.inr (va_up (fun _ => none) (0 : Int32).toNatClampNeg (some q640))))))) hD hl691 eq718 (fun f724 H locs hP hD hS g726 k725 => ?_))
  have hT := hT.raw hz715 k725
  have hz := tp_Z0.wt hz hz715 (by decide) k725
  have hH := hH.wn hn76 k725
  have hf727 : f724 h0 = .inr (10, [.int 0, .int 10, .int 700, .int 0, .int 0, .int 0, .int 0, .ref q9, .ref q35, .ref q64, .ref q87, .ref q114, .ref q156, .ref q213, .ref q274, .ref q339, .ref q408, .ref q481, .ref q558]) := (k725 _ ne77).trans hf687
  have hf728 : f724 q87 = .inl (κ 5, 6, .inr (.inr (.inr (.inr (fun _ => none))))) := (k725 _ (Ne.symm ne101)).trans hf693
  clear hf687 hf693
  refine lv_iinc (v := 1) (lv' := [(1, .int 1), (0, .ref h0)]) hx hb dX10_init_178 hl (k := 0) rfl (by decide) (by decide) rfl (fun ls hl => ?_)
  refine lv_goto (tgt := 159) hx hb dX10_init_181 (by decide) ?_
  refine lv_iload_n hx hb dX10_init_159 rfl (lv_at hl 0 rfl) ?_
  refine lv_bipush (v := 6) hx hb dX10_init_160 (by decide) ?_
  refine lv_icmp_ge (tgt := 184) hx hb dX10_init_162 (by decide) (fun c9 => absurd c9 (by decide)) (fun _ => ?_)
  refine lv_aload_n hx hb dX10_init_165 rfl (lv_at hl 1 rfl) ?_
  refine tpk_pos hl688 hf727 (fun q729 eq729 => ?_)
  refine va_get (D := (dC, dI)) (ci := 10) (v := .ref q64) (C := RX10) (T := TX10) (N := 19) hx hb hts hfX10 hown hK hP q729 eq729 rfl 9 (by decide) (hts (.fieldLink RX10 27 "ColdShips$World" "terminals" "[LColdShips$Terminal;") wa_43) (fun _ h9 => h9) rfl dX10_init_166 ?_
  refine lv_iload_n hx hb dX10_init_169 rfl (lv_at hl 0 rfl) ?_
  refine va_new (ci := 8) (fs := [.int 0, .int 0, .int 0, .int 0, .int 0, .null, .null]) (C := RX8) (T := TX8) (N := 7) hx hb hts hfX8 tyX8 tyX8_ok hown (hts (.classLink RX10 25 RX8) wa_42) (hts (.instantiable RX8 7) wa_61) (hts (.initialized RX8) wa_62) hK hP hD hS hA rfl (fun j hj => by rcases tpj_7 j hj with rfl | rfl | rfl | rfl | rfl | rfl | rfl <;> rfl) (Nat.le_of_ble_eq_true rfl) (Nat.le_of_ble_eq_true rfl) dX10_init_170 (fun q730 H hP hD hS => ?_)
  refine Exists.elim (tp_grow hG hT hP hD) (fun L740 hE90 => Exists.elim hE90 (fun f739 hE91 => tn_10 hE91 (fun hP hD hg731 ht732 hs733 hq734 hz735 hn736 hf737 ho738 => ?_)))
  clear hE91 hE90
  have hn741 : ∀ a, a ∈ L → a ≠ q730 := fun a ha => hn736 a (hH.1 a ha)
  have ne742 : h0 ≠ q730 := hn736 _ hl688
  have ne743 : q64 ≠ q730 := hn736 _ hl691
  have ne744 : q87 ≠ q730 := hn736 _ hl694
  have ne745 : q9 ≠ q730 := hn736 _ (tp_in hG ht695 (by decide))
  have ne746 : q35 ≠ q730 := hn736 _ (tp_in hG ht697 (by decide))
  have ne747 : q114 ≠ q730 := hn736 _ (tp_in hG ht699 (by decide))
  have ne748 : q156 ≠ q730 := hn736 _ (tp_in hG ht700 (by decide))
  have ne749 : q213 ≠ q730 := hn736 _ (tp_in hG ht702 (by decide))
  have ne750 : q274 ≠ q730 := hn736 _ (tp_in hG ht704 (by decide))
  have ne751 : q339 ≠ q730 := hn736 _ (tp_in hG ht706 (by decide))
  have ne752 : q408 ≠ q730 := hn736 _ (tp_in hG ht708 (by decide))
  have ne753 : q481 ≠ q730 := hn736 _ (tp_in hG ht710 (by decide))
  have ne754 : q558 ≠ q730 := hn736 _ (tp_in hG ht712 (by decide))
  have ne755 : q640 ≠ q730 := hn736 _ (tp_in hG ht717 (by decide))
  have hG := hg731
  have hT := ht732
  have hH := hH.gr hs733 hn736 ho738
  have hz := tp_Z0.wt hz hz735 (by decide) ho738
  have hf756 : f739 h0 = .inr (10, [.int 0, .int 10, .int 700, .int 0, .int 0, .int 0, .int 0, .ref q9, .ref q35, .ref q64, .ref q87, .ref q114, .ref q156, .ref q213, .ref q274, .ref q339, .ref q408, .ref q481, .ref q558]) := (ho738 _ ne742).trans hf727
  have hl757 : h0 ∈ L740 := hs733 _ hl688
  have hf758 : f739 q64 = .inl (κ 4, 6, .inr (.inr (.inr (.inr (va_up (fun _ => none) (0 : Int32).toNatClampNeg (some q640)))))) := (ho738 _ ne743).trans g726
  have hl759 : q64 ∈ L740 := hs733 _ hl691
  have hf760 : f739 q87 = .inl (κ 5, 6, .inr (.inr (.inr (.inr (fun _ => none))))) := (ho738 _ ne744).trans hf728
  have hl761 : q87 ∈ L740 := hs733 _ hl694
  clear hf727 hl688 g726 hl691 hf728 hl694
  refine lv_dup hx hb dX10_init_173 rfl ?_
  have hFc := tp_fr hD hS hA
  refine va_callv (va_runIN (As := []) (rest := [.ref q730, .int 1, .ref q64]) ⟨hx, hb, hml, hown, hts⟩ (t_X8_init l dC dI _ Ω κ τ_675 ν_675 ρ_675 L740 f739 hG hT q730 Zb hq734 hz735 hf737 hz) ⟨(va_cnB (host := "ColdShips") 0 hts ggX10_init_X8_init rfl rfl rfl (hN.1 (.methodLinkNest RX10 76 yX8_init "ColdShips") nzw_104) (hts (.initialized RX8) wa_62) pd_X8_init ⟨Nat.le_of_ble_eq_true rfl, Nat.le_of_ble_eq_true rfl⟩), rfl, (hts (.instanceMethod yX8_init) wa_84)⟩ ⟨pz_blind, pz_pre hP hK hD hN⟩ rfl rfl hl.1 rfl (lv_room (Nat.le_of_ble_eq_true rfl)) dX10_init_174 ⟨Nat.le_of_ble_eq_true rfl, Nat.le_of_ble_eq_true rfl⟩) hS (fun q _ h => hFc q h) hFc (fun x762 t H1 locs ht hvm hw764 hB hz1 hk1 hS => ?_)
  obtain ⟨τ_766, ν_766, ρ_766, L_766, f765⟩ := x762
  obtain ⟨⟨hG9, hT9, hH9⟩, hw764p⟩ := hw764
  have hc767 := hH9.2 _ (tp_in hG ht695 (by decide)) (fun z => ne745 (Option.some.inj z))
  have hc768 := hH9.2 _ (tp_in hG ht697 (by decide)) (fun z => ne746 (Option.some.inj z))
  have hc769 := hH9.2 _ (tp_in hG ht699 (by decide)) (fun z => ne747 (Option.some.inj z))
  have hc770 := hH9.2 _ (tp_in hG ht700 (by decide)) (fun z => ne748 (Option.some.inj z))
  have hc771 := hH9.2 _ (tp_in hG ht702 (by decide)) (fun z => ne749 (Option.some.inj z))
  have hc772 := hH9.2 _ (tp_in hG ht704 (by decide)) (fun z => ne750 (Option.some.inj z))
  have hc773 := hH9.2 _ (tp_in hG ht706 (by decide)) (fun z => ne751 (Option.some.inj z))
  have hc774 := hH9.2 _ (tp_in hG ht708 (by decide)) (fun z => ne752 (Option.some.inj z))
  have hc775 := hH9.2 _ (tp_in hG ht710 (by decide)) (fun z => ne753 (Option.some.inj z))
  have hc776 := hH9.2 _ (tp_in hG ht712 (by decide)) (fun z => ne754 (Option.some.inj z))
  have hc777 := hH9.2 _ (tp_in hG ht717 (by decide)) (fun z => ne755 (Option.some.inj z))
  have hc778 := hH9.2 _ hl757 (fun z => ne742 (Option.some.inj z))
  have hf779 : f765 h0 = .inr (10, [.int 0, .int 10, .int 700, .int 0, .int 0, .int 0, .int 0, .ref q9, .ref q35, .ref q64, .ref q87, .ref q114, .ref q156, .ref q213, .ref q274, .ref q339, .ref q408, .ref q481, .ref q558]) := (hc778.2.2.2 (by rw [hz714]; decide)).trans hf756
  have hl780 := hH9.1 _ hl757
  have hc781 := hH9.2 _ hl759 (fun z => ne743 (Option.some.inj z))
  have hf782 : f765 q64 = .inl (κ 4, 6, .inr (.inr (.inr (.inr (va_up (fun _ => none) (0 : Int32).toNatClampNeg (some q640)))))) := (hc781.2.2.2 (by rw [hz715]; decide)).trans hf758
  have hl783 := hH9.1 _ hl759
  have hc784 := hH9.2 _ hl761 (fun z => ne744 (Option.some.inj z))
  have hf785 : f765 q87 = .inl (κ 5, 6, .inr (.inr (.inr (.inr (fun _ => none))))) := (hc784.2.2.2 (by rw [hz716]; decide)).trans hf760
  have hl786 := hH9.1 _ hl761
  have hH := hH.call hH9 (by decide) (fun a ha _ z => hn741 a ha (Option.some.inj z))
  have hG : tp_G τ_766 ν_766 ρ_766 L_766 := hG9; have hT : tp_T Ω κ τ_766 ν_766 ρ_766 f765 := hT9
  have hH : tp_H τ ν ρ L f [] (some h0) τ_766 ν_766 ρ_766 L_766 f765 := hH
  have hz := hw764p.2
  have hw764p := hw764p.1
  have hP := hB.1; rw [ht] at hP; have hD := tp_Dw hB.2.2 hFc; clear hB hFc hz1 hk1; subst ht; generalize t.heap = H at hP hS ⊢
  have hP : va_P (dC, dI) vwCl (va_pl L_766 f765) H := hP
  have hD : va_D A (va_pl L_766 f765) := hD
  have ht787 : τ_766 q9 = 20 := hc767.1.trans ht695
  have hn788 : ν_766 q9 = 25 := hc767.2.1.trans hn696
  have ht789 : τ_766 q35 = 20 := hc768.1.trans ht697
  have hn790 : ν_766 q35 = 100 := hc768.2.1.trans hn698
  have ht791 : τ_766 q114 = 26 := hc769.1.trans ht699
  have ht792 : τ_766 q156 = 7 := hc770.1.trans ht700
  have hx793 : ρ_766 q156 11 = 60 ∧ ρ_766 q156 30 = (lb + 12) := by have q9 : ρ_766 q156 = _ := hc770.2.2.1; rw [q9]; exact hx701
  have ht794 : τ_766 q213 = 7 := hc771.1.trans ht702
  have hx795 : ρ_766 q213 11 = 20 ∧ ρ_766 q213 30 = (lb + 13) := by have q9 : ρ_766 q213 = _ := hc771.2.2.1; rw [q9]; exact hx703
  have ht796 : τ_766 q274 = 7 := hc772.1.trans ht704
  have hx797 : ρ_766 q274 11 = 20 ∧ ρ_766 q274 30 = (lb + 14) := by have q9 : ρ_766 q274 = _ := hc772.2.2.1; rw [q9]; exact hx705
  have ht798 : τ_766 q339 = 5 := hc773.1.trans ht706
  have hx799 : ρ_766 q339 10 = 3 ∧ ρ_766 q339 11 = 60 ∧ ρ_766 q339 30 = (lb + 15) := by have q9 : ρ_766 q339 = _ := hc773.2.2.1; rw [q9]; exact hx707
  have ht800 : τ_766 q408 = 5 := hc774.1.trans ht708
  have hx801 : ρ_766 q408 10 = 5 ∧ ρ_766 q408 11 = 60 ∧ ρ_766 q408 30 = (lb + 16) := by have q9 : ρ_766 q408 = _ := hc774.2.2.1; rw [q9]; exact hx709
  have ht802 : τ_766 q481 = 5 := hc775.1.trans ht710
  have hx803 : ρ_766 q481 10 = 15 ∧ ρ_766 q481 11 = 60 ∧ ρ_766 q481 30 = (lb + 17) := by have q9 : ρ_766 q481 = _ := hc775.2.2.1; rw [q9]; exact hx711
  have ht804 : τ_766 q558 = 5 := hc776.1.trans ht712
  have hx805 : ρ_766 q558 10 = 8 ∧ ρ_766 q558 11 = 6 ∧ ρ_766 q558 30 = (lb + 18) := by have q9 : ρ_766 q558 = _ := hc776.2.2.1; rw [q9]; exact hx713
  have ht806 : τ_766 q640 = 9 := hc777.1.trans ht717
  have hz807 : τ_766 h0 = 0 := hc778.1.trans hz714
  have hz808 : τ_766 q64 = 0 := hc781.1.trans hz715
  have hz809 : τ_766 q87 = 0 := hc784.1.trans hz716
  clear ht695 hn696 ht697 hn698 ht699 ht700 hx701 ht702 hx703 ht704 hx705 ht706 hx707 ht708 hx709 ht710 hx711 ht712 hx713 ht717 hz714 hz715 hz716 ne742 ne743 ne744 ne745 ne746 ne747 ne748 ne749 ne750 ne751 ne752 ne753 ne754 ne755 hc767 hc768 hc769 hc770 hc771 hc772 hc773 hc774 hc775 hc776 hc777 hc778 hc781 hc784 hG9 hT9 hH9
  have ht810 : τ_766 q730 = 9 := hw764p
  refine tpk_pos hl783 hf782 (fun q811 eq811 => ?_)
  refine tgk_9 hG ht810 (fun y813 y813n y814 y814n => ?_)
  refine tpk_9 hT ht810 (fun o815_x0 o815_x1 o815_x2 o815_x3 o815_x4 hf_o815 ro815_0 => ?_)
  refine tpk_pos (tp_in hG ht810 (by decide)) hf_o815 (fun q816 eq816 => ?_)
  refine va_astq hx hb hK hP hD hS q811 4 q816 8 eq811 rfl eq816 rfl (vp_in_iff.mpr ⟨by decide, by decide⟩) dX10_init_177 (tp_k (.inl (κ 4, 6, .inr (.inr (.inr (.inr (va_up (va_up (fun _ => none) (0 : Int32).toNatClampNeg (some q640)) (1 : Int32).toNatClampNeg (some q730))))))) hD hl783 eq811 (fun f817 H locs hP hD hS g819 k818 => ?_))
  have hT := hT.raw hz808 k818
  have hz := tp_Z0.wt hz hz808 (by decide) k818
  have hH := hH.wn hn76 k818
  have hf820 : f817 h0 = .inr (10, [.int 0, .int 10, .int 700, .int 0, .int 0, .int 0, .int 0, .ref q9, .ref q35, .ref q64, .ref q87, .ref q114, .ref q156, .ref q213, .ref q274, .ref q339, .ref q408, .ref q481, .ref q558]) := (k818 _ ne77).trans hf779
  have hf821 : f817 q87 = .inl (κ 5, 6, .inr (.inr (.inr (.inr (fun _ => none))))) := (k818 _ (Ne.symm ne101)).trans hf785
  clear hf779 hf785
  refine lv_iinc (v := 2) (lv' := [(1, .int 2), (0, .ref h0)]) hx hb dX10_init_178 hl (k := 0) rfl (by decide) (by decide) rfl (fun ls hl => ?_)
  refine lv_goto (tgt := 159) hx hb dX10_init_181 (by decide) ?_
  refine lv_iload_n hx hb dX10_init_159 rfl (lv_at hl 0 rfl) ?_
  refine lv_bipush (v := 6) hx hb dX10_init_160 (by decide) ?_
  refine lv_icmp_ge (tgt := 184) hx hb dX10_init_162 (by decide) (fun c9 => absurd c9 (by decide)) (fun _ => ?_)
  refine lv_aload_n hx hb dX10_init_165 rfl (lv_at hl 1 rfl) ?_
  refine tpk_pos hl780 hf820 (fun q822 eq822 => ?_)
  refine va_get (D := (dC, dI)) (ci := 10) (v := .ref q64) (C := RX10) (T := TX10) (N := 19) hx hb hts hfX10 hown hK hP q822 eq822 rfl 9 (by decide) (hts (.fieldLink RX10 27 "ColdShips$World" "terminals" "[LColdShips$Terminal;") wa_43) (fun _ h9 => h9) rfl dX10_init_166 ?_
  refine lv_iload_n hx hb dX10_init_169 rfl (lv_at hl 0 rfl) ?_
  refine va_new (ci := 8) (fs := [.int 0, .int 0, .int 0, .int 0, .int 0, .null, .null]) (C := RX8) (T := TX8) (N := 7) hx hb hts hfX8 tyX8 tyX8_ok hown (hts (.classLink RX10 25 RX8) wa_42) (hts (.instantiable RX8 7) wa_61) (hts (.initialized RX8) wa_62) hK hP hD hS hA rfl (fun j hj => by rcases tpj_7 j hj with rfl | rfl | rfl | rfl | rfl | rfl | rfl <;> rfl) (Nat.le_of_ble_eq_true rfl) (Nat.le_of_ble_eq_true rfl) dX10_init_170 (fun q823 H hP hD hS => ?_)
  refine Exists.elim (tp_grow hG hT hP hD) (fun L833 hE90 => Exists.elim hE90 (fun f832 hE91 => tn_10 hE91 (fun hP hD hg824 ht825 hs826 hq827 hz828 hn829 hf830 ho831 => ?_)))
  clear hE91 hE90
  have hn834 : ∀ a, a ∈ L → a ≠ q823 := fun a ha => hn829 a (hH.1 a ha)
  have ne835 : h0 ≠ q823 := hn829 _ hl780
  have ne836 : q64 ≠ q823 := hn829 _ hl783
  have ne837 : q87 ≠ q823 := hn829 _ hl786
  have ne838 : q9 ≠ q823 := hn829 _ (tp_in hG ht787 (by decide))
  have ne839 : q35 ≠ q823 := hn829 _ (tp_in hG ht789 (by decide))
  have ne840 : q114 ≠ q823 := hn829 _ (tp_in hG ht791 (by decide))
  have ne841 : q156 ≠ q823 := hn829 _ (tp_in hG ht792 (by decide))
  have ne842 : q213 ≠ q823 := hn829 _ (tp_in hG ht794 (by decide))
  have ne843 : q274 ≠ q823 := hn829 _ (tp_in hG ht796 (by decide))
  have ne844 : q339 ≠ q823 := hn829 _ (tp_in hG ht798 (by decide))
  have ne845 : q408 ≠ q823 := hn829 _ (tp_in hG ht800 (by decide))
  have ne846 : q481 ≠ q823 := hn829 _ (tp_in hG ht802 (by decide))
  have ne847 : q558 ≠ q823 := hn829 _ (tp_in hG ht804 (by decide))
  have ne848 : q640 ≠ q823 := hn829 _ (tp_in hG ht806 (by decide))
  have ne849 : q730 ≠ q823 := hn829 _ (tp_in hG ht810 (by decide))
  have hG := hg824
  have hT := ht825
  have hH := hH.gr hs826 hn829 ho831
  have hz := tp_Z0.wt hz hz828 (by decide) ho831
  have hf850 : f832 h0 = .inr (10, [.int 0, .int 10, .int 700, .int 0, .int 0, .int 0, .int 0, .ref q9, .ref q35, .ref q64, .ref q87, .ref q114, .ref q156, .ref q213, .ref q274, .ref q339, .ref q408, .ref q481, .ref q558]) := (ho831 _ ne835).trans hf820
  have hl851 : h0 ∈ L833 := hs826 _ hl780
  have hf852 : f832 q64 = .inl (κ 4, 6, .inr (.inr (.inr (.inr (va_up (va_up (fun _ => none) (0 : Int32).toNatClampNeg (some q640)) (1 : Int32).toNatClampNeg (some q730)))))) := (ho831 _ ne836).trans g819
  have hl853 : q64 ∈ L833 := hs826 _ hl783
  have hf854 : f832 q87 = .inl (κ 5, 6, .inr (.inr (.inr (.inr (fun _ => none))))) := (ho831 _ ne837).trans hf821
  have hl855 : q87 ∈ L833 := hs826 _ hl786
  clear hf820 hl780 g819 hl783 hf821 hl786
  refine lv_dup hx hb dX10_init_173 rfl ?_
  have hFc := tp_fr hD hS hA
  refine va_callv (va_runIN (As := []) (rest := [.ref q823, .int 2, .ref q64]) ⟨hx, hb, hml, hown, hts⟩ (t_X8_init l dC dI _ Ω κ τ_766 ν_766 ρ_766 L833 f832 hG hT q823 Zb hq827 hz828 hf830 hz) ⟨(va_cnB (host := "ColdShips") 0 hts ggX10_init_X8_init rfl rfl rfl (hN.1 (.methodLinkNest RX10 76 yX8_init "ColdShips") nzw_104) (hts (.initialized RX8) wa_62) pd_X8_init ⟨Nat.le_of_ble_eq_true rfl, Nat.le_of_ble_eq_true rfl⟩), rfl, (hts (.instanceMethod yX8_init) wa_84)⟩ ⟨pz_blind, pz_pre hP hK hD hN⟩ rfl rfl hl.1 rfl (lv_room (Nat.le_of_ble_eq_true rfl)) dX10_init_174 ⟨Nat.le_of_ble_eq_true rfl, Nat.le_of_ble_eq_true rfl⟩) hS (fun q _ h => hFc q h) hFc (fun x856 t H1 locs ht hvm hw858 hB hz1 hk1 hS => ?_)
  obtain ⟨τ_860, ν_860, ρ_860, L_860, f859⟩ := x856
  obtain ⟨⟨hG9, hT9, hH9⟩, hw858p⟩ := hw858
  have hc861 := hH9.2 _ (tp_in hG ht787 (by decide)) (fun z => ne838 (Option.some.inj z))
  have hc862 := hH9.2 _ (tp_in hG ht789 (by decide)) (fun z => ne839 (Option.some.inj z))
  have hc863 := hH9.2 _ (tp_in hG ht791 (by decide)) (fun z => ne840 (Option.some.inj z))
  have hc864 := hH9.2 _ (tp_in hG ht792 (by decide)) (fun z => ne841 (Option.some.inj z))
  have hc865 := hH9.2 _ (tp_in hG ht794 (by decide)) (fun z => ne842 (Option.some.inj z))
  have hc866 := hH9.2 _ (tp_in hG ht796 (by decide)) (fun z => ne843 (Option.some.inj z))
  have hc867 := hH9.2 _ (tp_in hG ht798 (by decide)) (fun z => ne844 (Option.some.inj z))
  have hc868 := hH9.2 _ (tp_in hG ht800 (by decide)) (fun z => ne845 (Option.some.inj z))
  have hc869 := hH9.2 _ (tp_in hG ht802 (by decide)) (fun z => ne846 (Option.some.inj z))
  have hc870 := hH9.2 _ (tp_in hG ht804 (by decide)) (fun z => ne847 (Option.some.inj z))
  have hc871 := hH9.2 _ (tp_in hG ht806 (by decide)) (fun z => ne848 (Option.some.inj z))
  have hc872 := hH9.2 _ (tp_in hG ht810 (by decide)) (fun z => ne849 (Option.some.inj z))
  have hc873 := hH9.2 _ hl851 (fun z => ne835 (Option.some.inj z))
  have hf874 : f859 h0 = .inr (10, [.int 0, .int 10, .int 700, .int 0, .int 0, .int 0, .int 0, .ref q9, .ref q35, .ref q64, .ref q87, .ref q114, .ref q156, .ref q213, .ref q274, .ref q339, .ref q408, .ref q481, .ref q558]) := (hc873.2.2.2 (by rw [hz807]; decide)).trans hf850
  have hl875 := hH9.1 _ hl851
  have hc876 := hH9.2 _ hl853 (fun z => ne836 (Option.some.inj z))
  have hf877 : f859 q64 = .inl (κ 4, 6, .inr (.inr (.inr (.inr (va_up (va_up (fun _ => none) (0 : Int32).toNatClampNeg (some q640)) (1 : Int32).toNatClampNeg (some q730)))))) := (hc876.2.2.2 (by rw [hz808]; decide)).trans hf852
  have hl878 := hH9.1 _ hl853
  have hc879 := hH9.2 _ hl855 (fun z => ne837 (Option.some.inj z))
  have hf880 : f859 q87 = .inl (κ 5, 6, .inr (.inr (.inr (.inr (fun _ => none))))) := (hc879.2.2.2 (by rw [hz809]; decide)).trans hf854
  have hl881 := hH9.1 _ hl855
  have hH := hH.call hH9 (by decide) (fun a ha _ z => hn834 a ha (Option.some.inj z))
  have hG : tp_G τ_860 ν_860 ρ_860 L_860 := hG9; have hT : tp_T Ω κ τ_860 ν_860 ρ_860 f859 := hT9
  have hH : tp_H τ ν ρ L f [] (some h0) τ_860 ν_860 ρ_860 L_860 f859 := hH
  have hz := hw858p.2
  have hw858p := hw858p.1
  have hP := hB.1; rw [ht] at hP; have hD := tp_Dw hB.2.2 hFc; clear hB hFc hz1 hk1; subst ht; generalize t.heap = H at hP hS ⊢
  have hP : va_P (dC, dI) vwCl (va_pl L_860 f859) H := hP
  have hD : va_D A (va_pl L_860 f859) := hD
  have ht882 : τ_860 q9 = 20 := hc861.1.trans ht787
  have hn883 : ν_860 q9 = 25 := hc861.2.1.trans hn788
  have ht884 : τ_860 q35 = 20 := hc862.1.trans ht789
  have hn885 : ν_860 q35 = 100 := hc862.2.1.trans hn790
  have ht886 : τ_860 q114 = 26 := hc863.1.trans ht791
  have ht887 : τ_860 q156 = 7 := hc864.1.trans ht792
  have hx888 : ρ_860 q156 11 = 60 ∧ ρ_860 q156 30 = (lb + 12) := by have q9 : ρ_860 q156 = _ := hc864.2.2.1; rw [q9]; exact hx793
  have ht889 : τ_860 q213 = 7 := hc865.1.trans ht794
  have hx890 : ρ_860 q213 11 = 20 ∧ ρ_860 q213 30 = (lb + 13) := by have q9 : ρ_860 q213 = _ := hc865.2.2.1; rw [q9]; exact hx795
  have ht891 : τ_860 q274 = 7 := hc866.1.trans ht796
  have hx892 : ρ_860 q274 11 = 20 ∧ ρ_860 q274 30 = (lb + 14) := by have q9 : ρ_860 q274 = _ := hc866.2.2.1; rw [q9]; exact hx797
  have ht893 : τ_860 q339 = 5 := hc867.1.trans ht798
  have hx894 : ρ_860 q339 10 = 3 ∧ ρ_860 q339 11 = 60 ∧ ρ_860 q339 30 = (lb + 15) := by have q9 : ρ_860 q339 = _ := hc867.2.2.1; rw [q9]; exact hx799
  have ht895 : τ_860 q408 = 5 := hc868.1.trans ht800
  have hx896 : ρ_860 q408 10 = 5 ∧ ρ_860 q408 11 = 60 ∧ ρ_860 q408 30 = (lb + 16) := by have q9 : ρ_860 q408 = _ := hc868.2.2.1; rw [q9]; exact hx801
  have ht897 : τ_860 q481 = 5 := hc869.1.trans ht802
  have hx898 : ρ_860 q481 10 = 15 ∧ ρ_860 q481 11 = 60 ∧ ρ_860 q481 30 = (lb + 17) := by have q9 : ρ_860 q481 = _ := hc869.2.2.1; rw [q9]; exact hx803
  have ht899 : τ_860 q558 = 5 := hc870.1.trans ht804
  have hx900 : ρ_860 q558 10 = 8 ∧ ρ_860 q558 11 = 6 ∧ ρ_860 q558 30 = (lb + 18) := by have q9 : ρ_860 q558 = _ := hc870.2.2.1; rw [q9]; exact hx805
  have ht901 : τ_860 q640 = 9 := hc871.1.trans ht806
  have ht902 : τ_860 q730 = 9 := hc872.1.trans ht810
  have hz903 : τ_860 h0 = 0 := hc873.1.trans hz807
  have hz904 : τ_860 q64 = 0 := hc876.1.trans hz808
  have hz905 : τ_860 q87 = 0 := hc879.1.trans hz809
  clear ht787 hn788 ht789 hn790 ht791 ht792 hx793 ht794 hx795 ht796 hx797 ht798 hx799 ht800 hx801 ht802 hx803 ht804 hx805 ht806 ht810 hz807 hz808 hz809 ne835 ne836 ne837 ne838 ne839 ne840 ne841 ne842 ne843 ne844 ne845 ne846 ne847 ne848 ne849 hc861 hc862 hc863 hc864 hc865 hc866 hc867 hc868 hc869 hc870 hc871 hc872 hc873 hc876 hc879 hG9 hT9 hH9
  have ht906 : τ_860 q823 = 9 := hw858p
  refine tpk_pos hl878 hf877 (fun q907 eq907 => ?_)
  refine tgk_9 hG ht906 (fun y909 y909n y910 y910n => ?_)
  refine tpk_9 hT ht906 (fun o911_x0 o911_x1 o911_x2 o911_x3 o911_x4 hf_o911 ro911_0 => ?_)
  refine tpk_pos (tp_in hG ht906 (by decide)) hf_o911 (fun q912 eq912 => ?_)
  refine va_astq hx hb hK hP hD hS q907 4 q912 8 eq907 rfl eq912 rfl (vp_in_iff.mpr ⟨by decide, by decide⟩) dX10_init_177 (tp_k (.inl (κ 4, 6, .inr (.inr (.inr (.inr (va_up (va_up (va_up (fun _ => none) (0 : Int32).toNatClampNeg (some q640)) (1 : Int32).toNatClampNeg (some q730)) (2 : Int32).toNatClampNeg (some q823))))))) hD hl878 eq907 (fun f913 H locs hP hD hS g915 k914 => ?_))
  have hT := hT.raw hz904 k914
  have hz := tp_Z0.wt hz hz904 (by decide) k914
  have hH := hH.wn hn76 k914
  have hf916 : f913 h0 = .inr (10, [.int 0, .int 10, .int 700, .int 0, .int 0, .int 0, .int 0, .ref q9, .ref q35, .ref q64, .ref q87, .ref q114, .ref q156, .ref q213, .ref q274, .ref q339, .ref q408, .ref q481, .ref q558]) := (k914 _ ne77).trans hf874
  have hf917 : f913 q87 = .inl (κ 5, 6, .inr (.inr (.inr (.inr (fun _ => none))))) := (k914 _ (Ne.symm ne101)).trans hf880
  clear hf874 hf880
  refine lv_iinc (v := 3) (lv' := [(1, .int 3), (0, .ref h0)]) hx hb dX10_init_178 hl (k := 0) rfl (by decide) (by decide) rfl (fun ls hl => ?_)
  refine lv_goto (tgt := 159) hx hb dX10_init_181 (by decide) ?_
  refine lv_iload_n hx hb dX10_init_159 rfl (lv_at hl 0 rfl) ?_
  refine lv_bipush (v := 6) hx hb dX10_init_160 (by decide) ?_
  refine lv_icmp_ge (tgt := 184) hx hb dX10_init_162 (by decide) (fun c9 => absurd c9 (by decide)) (fun _ => ?_)
  refine lv_aload_n hx hb dX10_init_165 rfl (lv_at hl 1 rfl) ?_
  refine tpk_pos hl875 hf916 (fun q918 eq918 => ?_)
  refine va_get (D := (dC, dI)) (ci := 10) (v := .ref q64) (C := RX10) (T := TX10) (N := 19) hx hb hts hfX10 hown hK hP q918 eq918 rfl 9 (by decide) (hts (.fieldLink RX10 27 "ColdShips$World" "terminals" "[LColdShips$Terminal;") wa_43) (fun _ h9 => h9) rfl dX10_init_166 ?_
  refine lv_iload_n hx hb dX10_init_169 rfl (lv_at hl 0 rfl) ?_
  refine va_new (ci := 8) (fs := [.int 0, .int 0, .int 0, .int 0, .int 0, .null, .null]) (C := RX8) (T := TX8) (N := 7) hx hb hts hfX8 tyX8 tyX8_ok hown (hts (.classLink RX10 25 RX8) wa_42) (hts (.instantiable RX8 7) wa_61) (hts (.initialized RX8) wa_62) hK hP hD hS hA rfl (fun j hj => by rcases tpj_7 j hj with rfl | rfl | rfl | rfl | rfl | rfl | rfl <;> rfl) (Nat.le_of_ble_eq_true rfl) (Nat.le_of_ble_eq_true rfl) dX10_init_170 (fun q919 H hP hD hS => ?_)
  refine Exists.elim (tp_grow hG hT hP hD) (fun L929 hE90 => Exists.elim hE90 (fun f928 hE91 => tn_10 hE91 (fun hP hD hg920 ht921 hs922 hq923 hz924 hn925 hf926 ho927 => ?_)))
  clear hE91 hE90
  have hn930 : ∀ a, a ∈ L → a ≠ q919 := fun a ha => hn925 a (hH.1 a ha)
  have ne931 : h0 ≠ q919 := hn925 _ hl875
  have ne932 : q64 ≠ q919 := hn925 _ hl878
  have ne933 : q87 ≠ q919 := hn925 _ hl881
  have ne934 : q9 ≠ q919 := hn925 _ (tp_in hG ht882 (by decide))
  have ne935 : q35 ≠ q919 := hn925 _ (tp_in hG ht884 (by decide))
  have ne936 : q114 ≠ q919 := hn925 _ (tp_in hG ht886 (by decide))
  have ne937 : q156 ≠ q919 := hn925 _ (tp_in hG ht887 (by decide))
  have ne938 : q213 ≠ q919 := hn925 _ (tp_in hG ht889 (by decide))
  have ne939 : q274 ≠ q919 := hn925 _ (tp_in hG ht891 (by decide))
  have ne940 : q339 ≠ q919 := hn925 _ (tp_in hG ht893 (by decide))
  have ne941 : q408 ≠ q919 := hn925 _ (tp_in hG ht895 (by decide))
  have ne942 : q481 ≠ q919 := hn925 _ (tp_in hG ht897 (by decide))
  have ne943 : q558 ≠ q919 := hn925 _ (tp_in hG ht899 (by decide))
  have ne944 : q640 ≠ q919 := hn925 _ (tp_in hG ht901 (by decide))
  have ne945 : q730 ≠ q919 := hn925 _ (tp_in hG ht902 (by decide))
  have ne946 : q823 ≠ q919 := hn925 _ (tp_in hG ht906 (by decide))
  have hG := hg920
  have hT := ht921
  have hH := hH.gr hs922 hn925 ho927
  have hz := tp_Z0.wt hz hz924 (by decide) ho927
  have hf947 : f928 h0 = .inr (10, [.int 0, .int 10, .int 700, .int 0, .int 0, .int 0, .int 0, .ref q9, .ref q35, .ref q64, .ref q87, .ref q114, .ref q156, .ref q213, .ref q274, .ref q339, .ref q408, .ref q481, .ref q558]) := (ho927 _ ne931).trans hf916
  have hl948 : h0 ∈ L929 := hs922 _ hl875
  have hf949 : f928 q64 = .inl (κ 4, 6, .inr (.inr (.inr (.inr (va_up (va_up (va_up (fun _ => none) (0 : Int32).toNatClampNeg (some q640)) (1 : Int32).toNatClampNeg (some q730)) (2 : Int32).toNatClampNeg (some q823)))))) := (ho927 _ ne932).trans g915
  have hl950 : q64 ∈ L929 := hs922 _ hl878
  have hf951 : f928 q87 = .inl (κ 5, 6, .inr (.inr (.inr (.inr (fun _ => none))))) := (ho927 _ ne933).trans hf917
  have hl952 : q87 ∈ L929 := hs922 _ hl881
  clear hf916 hl875 g915 hl878 hf917 hl881
  refine lv_dup hx hb dX10_init_173 rfl ?_
  have hFc := tp_fr hD hS hA
  refine va_callv (va_runIN (As := []) (rest := [.ref q919, .int 3, .ref q64]) ⟨hx, hb, hml, hown, hts⟩ (t_X8_init l dC dI _ Ω κ τ_860 ν_860 ρ_860 L929 f928 hG hT q919 Zb hq923 hz924 hf926 hz) ⟨(va_cnB (host := "ColdShips") 0 hts ggX10_init_X8_init rfl rfl rfl (hN.1 (.methodLinkNest RX10 76 yX8_init "ColdShips") nzw_104) (hts (.initialized RX8) wa_62) pd_X8_init ⟨Nat.le_of_ble_eq_true rfl, Nat.le_of_ble_eq_true rfl⟩), rfl, (hts (.instanceMethod yX8_init) wa_84)⟩ ⟨pz_blind, pz_pre hP hK hD hN⟩ rfl rfl hl.1 rfl (lv_room (Nat.le_of_ble_eq_true rfl)) dX10_init_174 ⟨Nat.le_of_ble_eq_true rfl, Nat.le_of_ble_eq_true rfl⟩) hS (fun q _ h => hFc q h) hFc (fun x953 t H1 locs ht hvm hw955 hB hz1 hk1 hS => ?_)
  obtain ⟨τ_957, ν_957, ρ_957, L_957, f956⟩ := x953
  obtain ⟨⟨hG9, hT9, hH9⟩, hw955p⟩ := hw955
  have hc958 := hH9.2 _ (tp_in hG ht882 (by decide)) (fun z => ne934 (Option.some.inj z))
  have hc959 := hH9.2 _ (tp_in hG ht884 (by decide)) (fun z => ne935 (Option.some.inj z))
  have hc960 := hH9.2 _ (tp_in hG ht886 (by decide)) (fun z => ne936 (Option.some.inj z))
  have hc961 := hH9.2 _ (tp_in hG ht887 (by decide)) (fun z => ne937 (Option.some.inj z))
  have hc962 := hH9.2 _ (tp_in hG ht889 (by decide)) (fun z => ne938 (Option.some.inj z))
  have hc963 := hH9.2 _ (tp_in hG ht891 (by decide)) (fun z => ne939 (Option.some.inj z))
  have hc964 := hH9.2 _ (tp_in hG ht893 (by decide)) (fun z => ne940 (Option.some.inj z))
  have hc965 := hH9.2 _ (tp_in hG ht895 (by decide)) (fun z => ne941 (Option.some.inj z))
  have hc966 := hH9.2 _ (tp_in hG ht897 (by decide)) (fun z => ne942 (Option.some.inj z))
  have hc967 := hH9.2 _ (tp_in hG ht899 (by decide)) (fun z => ne943 (Option.some.inj z))
  have hc968 := hH9.2 _ (tp_in hG ht901 (by decide)) (fun z => ne944 (Option.some.inj z))
  have hc969 := hH9.2 _ (tp_in hG ht902 (by decide)) (fun z => ne945 (Option.some.inj z))
  have hc970 := hH9.2 _ (tp_in hG ht906 (by decide)) (fun z => ne946 (Option.some.inj z))
  have hc971 := hH9.2 _ hl948 (fun z => ne931 (Option.some.inj z))
  have hf972 : f956 h0 = .inr (10, [.int 0, .int 10, .int 700, .int 0, .int 0, .int 0, .int 0, .ref q9, .ref q35, .ref q64, .ref q87, .ref q114, .ref q156, .ref q213, .ref q274, .ref q339, .ref q408, .ref q481, .ref q558]) := (hc971.2.2.2 (by rw [hz903]; decide)).trans hf947
  have hl973 := hH9.1 _ hl948
  have hc974 := hH9.2 _ hl950 (fun z => ne932 (Option.some.inj z))
  have hf975 : f956 q64 = .inl (κ 4, 6, .inr (.inr (.inr (.inr (va_up (va_up (va_up (fun _ => none) (0 : Int32).toNatClampNeg (some q640)) (1 : Int32).toNatClampNeg (some q730)) (2 : Int32).toNatClampNeg (some q823)))))) := (hc974.2.2.2 (by rw [hz904]; decide)).trans hf949
  have hl976 := hH9.1 _ hl950
  have hc977 := hH9.2 _ hl952 (fun z => ne933 (Option.some.inj z))
  have hf978 : f956 q87 = .inl (κ 5, 6, .inr (.inr (.inr (.inr (fun _ => none))))) := (hc977.2.2.2 (by rw [hz905]; decide)).trans hf951
  have hl979 := hH9.1 _ hl952
  have hH := hH.call hH9 (by decide) (fun a ha _ z => hn930 a ha (Option.some.inj z))
  have hG : tp_G τ_957 ν_957 ρ_957 L_957 := hG9; have hT : tp_T Ω κ τ_957 ν_957 ρ_957 f956 := hT9
  have hH : tp_H τ ν ρ L f [] (some h0) τ_957 ν_957 ρ_957 L_957 f956 := hH
  have hz := hw955p.2
  have hw955p := hw955p.1
  have hP := hB.1; rw [ht] at hP; have hD := tp_Dw hB.2.2 hFc; clear hB hFc hz1 hk1; subst ht; generalize t.heap = H at hP hS ⊢
  have hP : va_P (dC, dI) vwCl (va_pl L_957 f956) H := hP
  have hD : va_D A (va_pl L_957 f956) := hD
  have ht980 : τ_957 q9 = 20 := hc958.1.trans ht882
  have hn981 : ν_957 q9 = 25 := hc958.2.1.trans hn883
  have ht982 : τ_957 q35 = 20 := hc959.1.trans ht884
  have hn983 : ν_957 q35 = 100 := hc959.2.1.trans hn885
  have ht984 : τ_957 q114 = 26 := hc960.1.trans ht886
  have ht985 : τ_957 q156 = 7 := hc961.1.trans ht887
  have hx986 : ρ_957 q156 11 = 60 ∧ ρ_957 q156 30 = (lb + 12) := by have q9 : ρ_957 q156 = _ := hc961.2.2.1; rw [q9]; exact hx888
  have ht987 : τ_957 q213 = 7 := hc962.1.trans ht889
  have hx988 : ρ_957 q213 11 = 20 ∧ ρ_957 q213 30 = (lb + 13) := by have q9 : ρ_957 q213 = _ := hc962.2.2.1; rw [q9]; exact hx890
  have ht989 : τ_957 q274 = 7 := hc963.1.trans ht891
  have hx990 : ρ_957 q274 11 = 20 ∧ ρ_957 q274 30 = (lb + 14) := by have q9 : ρ_957 q274 = _ := hc963.2.2.1; rw [q9]; exact hx892
  have ht991 : τ_957 q339 = 5 := hc964.1.trans ht893
  have hx992 : ρ_957 q339 10 = 3 ∧ ρ_957 q339 11 = 60 ∧ ρ_957 q339 30 = (lb + 15) := by have q9 : ρ_957 q339 = _ := hc964.2.2.1; rw [q9]; exact hx894
  have ht993 : τ_957 q408 = 5 := hc965.1.trans ht895
  have hx994 : ρ_957 q408 10 = 5 ∧ ρ_957 q408 11 = 60 ∧ ρ_957 q408 30 = (lb + 16) := by have q9 : ρ_957 q408 = _ := hc965.2.2.1; rw [q9]; exact hx896
  have ht995 : τ_957 q481 = 5 := hc966.1.trans ht897
  have hx996 : ρ_957 q481 10 = 15 ∧ ρ_957 q481 11 = 60 ∧ ρ_957 q481 30 = (lb + 17) := by have q9 : ρ_957 q481 = _ := hc966.2.2.1; rw [q9]; exact hx898
  have ht997 : τ_957 q558 = 5 := hc967.1.trans ht899
  have hx998 : ρ_957 q558 10 = 8 ∧ ρ_957 q558 11 = 6 ∧ ρ_957 q558 30 = (lb + 18) := by have q9 : ρ_957 q558 = _ := hc967.2.2.1; rw [q9]; exact hx900
  have ht999 : τ_957 q640 = 9 := hc968.1.trans ht901
  have ht1000 : τ_957 q730 = 9 := hc969.1.trans ht902
  have ht1001 : τ_957 q823 = 9 := hc970.1.trans ht906
  have hz1002 : τ_957 h0 = 0 := hc971.1.trans hz903
  have hz1003 : τ_957 q64 = 0 := hc974.1.trans hz904
  have hz1004 : τ_957 q87 = 0 := hc977.1.trans hz905
  clear ht882 hn883 ht884 hn885 ht886 ht887 hx888 ht889 hx890 ht891 hx892 ht893 hx894 ht895 hx896 ht897 hx898 ht899 hx900 ht901 ht902 ht906 hz903 hz904 hz905 ne931 ne932 ne933 ne934 ne935 ne936 ne937 ne938 ne939 ne940 ne941 ne942 ne943 ne944 ne945 ne946 hc958 hc959 hc960 hc961 hc962 hc963 hc964 hc965 hc966 hc967 hc968 hc969 hc970 hc971 hc974 hc977 hG9 hT9 hH9
  have ht1005 : τ_957 q919 = 9 := hw955p
  refine tpk_pos hl976 hf975 (fun q1006 eq1006 => ?_)
  refine tgk_9 hG ht1005 (fun y1008 y1008n y1009 y1009n => ?_)
  refine tpk_9 hT ht1005 (fun o1010_x0 o1010_x1 o1010_x2 o1010_x3 o1010_x4 hf_o1010 ro1010_0 => ?_)
  refine tpk_pos (tp_in hG ht1005 (by decide)) hf_o1010 (fun q1011 eq1011 => ?_)
  refine va_astq hx hb hK hP hD hS q1006 4 q1011 8 eq1006 rfl eq1011 rfl (vp_in_iff.mpr ⟨by decide, by decide⟩) dX10_init_177 (tp_k (.inl (κ 4, 6, .inr (.inr (.inr (.inr (va_up (va_up (va_up (va_up (fun _ => none) (0 : Int32).toNatClampNeg (some q640)) (1 : Int32).toNatClampNeg (some q730)) (2 : Int32).toNatClampNeg (some q823)) (3 : Int32).toNatClampNeg (some q919))))))) hD hl976 eq1006 (fun f1012 H locs hP hD hS g1014 k1013 => ?_))
  have hT := hT.raw hz1003 k1013
  have hz := tp_Z0.wt hz hz1003 (by decide) k1013
  have hH := hH.wn hn76 k1013
  have hf1015 : f1012 h0 = .inr (10, [.int 0, .int 10, .int 700, .int 0, .int 0, .int 0, .int 0, .ref q9, .ref q35, .ref q64, .ref q87, .ref q114, .ref q156, .ref q213, .ref q274, .ref q339, .ref q408, .ref q481, .ref q558]) := (k1013 _ ne77).trans hf972
  have hf1016 : f1012 q87 = .inl (κ 5, 6, .inr (.inr (.inr (.inr (fun _ => none))))) := (k1013 _ (Ne.symm ne101)).trans hf978
  clear hf972 hf978
  refine lv_iinc (v := 4) (lv' := [(1, .int 4), (0, .ref h0)]) hx hb dX10_init_178 hl (k := 0) rfl (by decide) (by decide) rfl (fun ls hl => ?_)
  refine lv_goto (tgt := 159) hx hb dX10_init_181 (by decide) ?_
  refine lv_iload_n hx hb dX10_init_159 rfl (lv_at hl 0 rfl) ?_
  refine lv_bipush (v := 6) hx hb dX10_init_160 (by decide) ?_
  refine lv_icmp_ge (tgt := 184) hx hb dX10_init_162 (by decide) (fun c9 => absurd c9 (by decide)) (fun _ => ?_)
  refine lv_aload_n hx hb dX10_init_165 rfl (lv_at hl 1 rfl) ?_
  refine tpk_pos hl973 hf1015 (fun q1017 eq1017 => ?_)
  refine va_get (D := (dC, dI)) (ci := 10) (v := .ref q64) (C := RX10) (T := TX10) (N := 19) hx hb hts hfX10 hown hK hP q1017 eq1017 rfl 9 (by decide) (hts (.fieldLink RX10 27 "ColdShips$World" "terminals" "[LColdShips$Terminal;") wa_43) (fun _ h9 => h9) rfl dX10_init_166 ?_
  refine lv_iload_n hx hb dX10_init_169 rfl (lv_at hl 0 rfl) ?_
  refine va_new (ci := 8) (fs := [.int 0, .int 0, .int 0, .int 0, .int 0, .null, .null]) (C := RX8) (T := TX8) (N := 7) hx hb hts hfX8 tyX8 tyX8_ok hown (hts (.classLink RX10 25 RX8) wa_42) (hts (.instantiable RX8 7) wa_61) (hts (.initialized RX8) wa_62) hK hP hD hS hA rfl (fun j hj => by rcases tpj_7 j hj with rfl | rfl | rfl | rfl | rfl | rfl | rfl <;> rfl) (Nat.le_of_ble_eq_true rfl) (Nat.le_of_ble_eq_true rfl) dX10_init_170 (fun q1018 H hP hD hS => ?_)
  refine Exists.elim (tp_grow hG hT hP hD) (fun L1028 hE90 => Exists.elim hE90 (fun f1027 hE91 => tn_10 hE91 (fun hP hD hg1019 ht1020 hs1021 hq1022 hz1023 hn1024 hf1025 ho1026 => ?_)))
  clear hE91 hE90
  have hn1029 : ∀ a, a ∈ L → a ≠ q1018 := fun a ha => hn1024 a (hH.1 a ha)
  have ne1030 : h0 ≠ q1018 := hn1024 _ hl973
  have ne1031 : q64 ≠ q1018 := hn1024 _ hl976
  have ne1032 : q87 ≠ q1018 := hn1024 _ hl979
  have ne1033 : q9 ≠ q1018 := hn1024 _ (tp_in hG ht980 (by decide))
  have ne1034 : q35 ≠ q1018 := hn1024 _ (tp_in hG ht982 (by decide))
  have ne1035 : q114 ≠ q1018 := hn1024 _ (tp_in hG ht984 (by decide))
  have ne1036 : q156 ≠ q1018 := hn1024 _ (tp_in hG ht985 (by decide))
  have ne1037 : q213 ≠ q1018 := hn1024 _ (tp_in hG ht987 (by decide))
  have ne1038 : q274 ≠ q1018 := hn1024 _ (tp_in hG ht989 (by decide))
  have ne1039 : q339 ≠ q1018 := hn1024 _ (tp_in hG ht991 (by decide))
  have ne1040 : q408 ≠ q1018 := hn1024 _ (tp_in hG ht993 (by decide))
  have ne1041 : q481 ≠ q1018 := hn1024 _ (tp_in hG ht995 (by decide))
  have ne1042 : q558 ≠ q1018 := hn1024 _ (tp_in hG ht997 (by decide))
  have ne1043 : q640 ≠ q1018 := hn1024 _ (tp_in hG ht999 (by decide))
  have ne1044 : q730 ≠ q1018 := hn1024 _ (tp_in hG ht1000 (by decide))
  have ne1045 : q823 ≠ q1018 := hn1024 _ (tp_in hG ht1001 (by decide))
  have ne1046 : q919 ≠ q1018 := hn1024 _ (tp_in hG ht1005 (by decide))
  have hG := hg1019
  have hT := ht1020
  have hH := hH.gr hs1021 hn1024 ho1026
  have hz := tp_Z0.wt hz hz1023 (by decide) ho1026
  have hf1047 : f1027 h0 = .inr (10, [.int 0, .int 10, .int 700, .int 0, .int 0, .int 0, .int 0, .ref q9, .ref q35, .ref q64, .ref q87, .ref q114, .ref q156, .ref q213, .ref q274, .ref q339, .ref q408, .ref q481, .ref q558]) := (ho1026 _ ne1030).trans hf1015
  have hl1048 : h0 ∈ L1028 := hs1021 _ hl973
  have hf1049 : f1027 q64 = .inl (κ 4, 6, .inr (.inr (.inr (.inr (va_up (va_up (va_up (va_up (fun _ => none) (0 : Int32).toNatClampNeg (some q640)) (1 : Int32).toNatClampNeg (some q730)) (2 : Int32).toNatClampNeg (some q823)) (3 : Int32).toNatClampNeg (some q919)))))) := (ho1026 _ ne1031).trans g1014
  have hl1050 : q64 ∈ L1028 := hs1021 _ hl976
  have hf1051 : f1027 q87 = .inl (κ 5, 6, .inr (.inr (.inr (.inr (fun _ => none))))) := (ho1026 _ ne1032).trans hf1016
  have hl1052 : q87 ∈ L1028 := hs1021 _ hl979
  clear hf1015 hl973 g1014 hl976 hf1016 hl979
  refine lv_dup hx hb dX10_init_173 rfl ?_
  have hFc := tp_fr hD hS hA
  refine va_callv (va_runIN (As := []) (rest := [.ref q1018, .int 4, .ref q64]) ⟨hx, hb, hml, hown, hts⟩ (t_X8_init l dC dI _ Ω κ τ_957 ν_957 ρ_957 L1028 f1027 hG hT q1018 Zb hq1022 hz1023 hf1025 hz) ⟨(va_cnB (host := "ColdShips") 0 hts ggX10_init_X8_init rfl rfl rfl (hN.1 (.methodLinkNest RX10 76 yX8_init "ColdShips") nzw_104) (hts (.initialized RX8) wa_62) pd_X8_init ⟨Nat.le_of_ble_eq_true rfl, Nat.le_of_ble_eq_true rfl⟩), rfl, (hts (.instanceMethod yX8_init) wa_84)⟩ ⟨pz_blind, pz_pre hP hK hD hN⟩ rfl rfl hl.1 rfl (lv_room (Nat.le_of_ble_eq_true rfl)) dX10_init_174 ⟨Nat.le_of_ble_eq_true rfl, Nat.le_of_ble_eq_true rfl⟩) hS (fun q _ h => hFc q h) hFc (fun x1053 t H1 locs ht hvm hw1055 hB hz1 hk1 hS => ?_)
  obtain ⟨τ_1057, ν_1057, ρ_1057, L_1057, f1056⟩ := x1053
  obtain ⟨⟨hG9, hT9, hH9⟩, hw1055p⟩ := hw1055
  have hc1058 := hH9.2 _ (tp_in hG ht980 (by decide)) (fun z => ne1033 (Option.some.inj z))
  have hc1059 := hH9.2 _ (tp_in hG ht982 (by decide)) (fun z => ne1034 (Option.some.inj z))
  have hc1060 := hH9.2 _ (tp_in hG ht984 (by decide)) (fun z => ne1035 (Option.some.inj z))
  have hc1061 := hH9.2 _ (tp_in hG ht985 (by decide)) (fun z => ne1036 (Option.some.inj z))
  have hc1062 := hH9.2 _ (tp_in hG ht987 (by decide)) (fun z => ne1037 (Option.some.inj z))
  have hc1063 := hH9.2 _ (tp_in hG ht989 (by decide)) (fun z => ne1038 (Option.some.inj z))
  have hc1064 := hH9.2 _ (tp_in hG ht991 (by decide)) (fun z => ne1039 (Option.some.inj z))
  have hc1065 := hH9.2 _ (tp_in hG ht993 (by decide)) (fun z => ne1040 (Option.some.inj z))
  have hc1066 := hH9.2 _ (tp_in hG ht995 (by decide)) (fun z => ne1041 (Option.some.inj z))
  have hc1067 := hH9.2 _ (tp_in hG ht997 (by decide)) (fun z => ne1042 (Option.some.inj z))
  have hc1068 := hH9.2 _ (tp_in hG ht999 (by decide)) (fun z => ne1043 (Option.some.inj z))
  have hc1069 := hH9.2 _ (tp_in hG ht1000 (by decide)) (fun z => ne1044 (Option.some.inj z))
  have hc1070 := hH9.2 _ (tp_in hG ht1001 (by decide)) (fun z => ne1045 (Option.some.inj z))
  have hc1071 := hH9.2 _ (tp_in hG ht1005 (by decide)) (fun z => ne1046 (Option.some.inj z))
  have hc1072 := hH9.2 _ hl1048 (fun z => ne1030 (Option.some.inj z))
  have hf1073 : f1056 h0 = .inr (10, [.int 0, .int 10, .int 700, .int 0, .int 0, .int 0, .int 0, .ref q9, .ref q35, .ref q64, .ref q87, .ref q114, .ref q156, .ref q213, .ref q274, .ref q339, .ref q408, .ref q481, .ref q558]) := (hc1072.2.2.2 (by rw [hz1002]; decide)).trans hf1047
  have hl1074 := hH9.1 _ hl1048
  have hc1075 := hH9.2 _ hl1050 (fun z => ne1031 (Option.some.inj z))
  have hf1076 : f1056 q64 = .inl (κ 4, 6, .inr (.inr (.inr (.inr (va_up (va_up (va_up (va_up (fun _ => none) (0 : Int32).toNatClampNeg (some q640)) (1 : Int32).toNatClampNeg (some q730)) (2 : Int32).toNatClampNeg (some q823)) (3 : Int32).toNatClampNeg (some q919)))))) := (hc1075.2.2.2 (by rw [hz1003]; decide)).trans hf1049
  have hl1077 := hH9.1 _ hl1050
  have hc1078 := hH9.2 _ hl1052 (fun z => ne1032 (Option.some.inj z))
  have hf1079 : f1056 q87 = .inl (κ 5, 6, .inr (.inr (.inr (.inr (fun _ => none))))) := (hc1078.2.2.2 (by rw [hz1004]; decide)).trans hf1051
  have hl1080 := hH9.1 _ hl1052
  have hH := hH.call hH9 (by decide) (fun a ha _ z => hn1029 a ha (Option.some.inj z))
  have hG : tp_G τ_1057 ν_1057 ρ_1057 L_1057 := hG9; have hT : tp_T Ω κ τ_1057 ν_1057 ρ_1057 f1056 := hT9
  have hH : tp_H τ ν ρ L f [] (some h0) τ_1057 ν_1057 ρ_1057 L_1057 f1056 := hH
  have hz := hw1055p.2
  have hw1055p := hw1055p.1
  have hP := hB.1; rw [ht] at hP; have hD := tp_Dw hB.2.2 hFc; clear hB hFc hz1 hk1; subst ht; generalize t.heap = H at hP hS ⊢
  have hP : va_P (dC, dI) vwCl (va_pl L_1057 f1056) H := hP
  have hD : va_D A (va_pl L_1057 f1056) := hD
  have ht1081 : τ_1057 q9 = 20 := hc1058.1.trans ht980
  have hn1082 : ν_1057 q9 = 25 := hc1058.2.1.trans hn981
  have ht1083 : τ_1057 q35 = 20 := hc1059.1.trans ht982
  have hn1084 : ν_1057 q35 = 100 := hc1059.2.1.trans hn983
  have ht1085 : τ_1057 q114 = 26 := hc1060.1.trans ht984
  have ht1086 : τ_1057 q156 = 7 := hc1061.1.trans ht985
  have hx1087 : ρ_1057 q156 11 = 60 ∧ ρ_1057 q156 30 = (lb + 12) := by have q9 : ρ_1057 q156 = _ := hc1061.2.2.1; rw [q9]; exact hx986
  have ht1088 : τ_1057 q213 = 7 := hc1062.1.trans ht987
  have hx1089 : ρ_1057 q213 11 = 20 ∧ ρ_1057 q213 30 = (lb + 13) := by have q9 : ρ_1057 q213 = _ := hc1062.2.2.1; rw [q9]; exact hx988
  have ht1090 : τ_1057 q274 = 7 := hc1063.1.trans ht989
  have hx1091 : ρ_1057 q274 11 = 20 ∧ ρ_1057 q274 30 = (lb + 14) := by have q9 : ρ_1057 q274 = _ := hc1063.2.2.1; rw [q9]; exact hx990
  have ht1092 : τ_1057 q339 = 5 := hc1064.1.trans ht991
  have hx1093 : ρ_1057 q339 10 = 3 ∧ ρ_1057 q339 11 = 60 ∧ ρ_1057 q339 30 = (lb + 15) := by have q9 : ρ_1057 q339 = _ := hc1064.2.2.1; rw [q9]; exact hx992
  have ht1094 : τ_1057 q408 = 5 := hc1065.1.trans ht993
  have hx1095 : ρ_1057 q408 10 = 5 ∧ ρ_1057 q408 11 = 60 ∧ ρ_1057 q408 30 = (lb + 16) := by have q9 : ρ_1057 q408 = _ := hc1065.2.2.1; rw [q9]; exact hx994
  have ht1096 : τ_1057 q481 = 5 := hc1066.1.trans ht995
  have hx1097 : ρ_1057 q481 10 = 15 ∧ ρ_1057 q481 11 = 60 ∧ ρ_1057 q481 30 = (lb + 17) := by have q9 : ρ_1057 q481 = _ := hc1066.2.2.1; rw [q9]; exact hx996
  have ht1098 : τ_1057 q558 = 5 := hc1067.1.trans ht997
  have hx1099 : ρ_1057 q558 10 = 8 ∧ ρ_1057 q558 11 = 6 ∧ ρ_1057 q558 30 = (lb + 18) := by have q9 : ρ_1057 q558 = _ := hc1067.2.2.1; rw [q9]; exact hx998
  have ht1100 : τ_1057 q640 = 9 := hc1068.1.trans ht999
  have ht1101 : τ_1057 q730 = 9 := hc1069.1.trans ht1000
  have ht1102 : τ_1057 q823 = 9 := hc1070.1.trans ht1001
  have ht1103 : τ_1057 q919 = 9 := hc1071.1.trans ht1005
  have hz1104 : τ_1057 h0 = 0 := hc1072.1.trans hz1002
  have hz1105 : τ_1057 q64 = 0 := hc1075.1.trans hz1003
  have hz1106 : τ_1057 q87 = 0 := hc1078.1.trans hz1004
  clear ht980 hn981 ht982 hn983 ht984 ht985 hx986 ht987 hx988 ht989 hx990 ht991 hx992 ht993 hx994 ht995 hx996 ht997 hx998 ht999 ht1000 ht1001 ht1005 hz1002 hz1003 hz1004 ne1030 ne1031 ne1032 ne1033 ne1034 ne1035 ne1036 ne1037 ne1038 ne1039 ne1040 ne1041 ne1042 ne1043 ne1044 ne1045 ne1046 hc1058 hc1059 hc1060 hc1061 hc1062 hc1063 hc1064 hc1065 hc1066 hc1067 hc1068 hc1069 hc1070 hc1071 hc1072 hc1075 hc1078 hG9 hT9 hH9
  have ht1107 : τ_1057 q1018 = 9 := hw1055p
  refine tpk_pos hl1077 hf1076 (fun q1108 eq1108 => ?_)
  refine tgk_9 hG ht1107 (fun y1110 y1110n y1111 y1111n => ?_)
  refine tpk_9 hT ht1107 (fun o1112_x0 o1112_x1 o1112_x2 o1112_x3 o1112_x4 hf_o1112 ro1112_0 => ?_)
  refine tpk_pos (tp_in hG ht1107 (by decide)) hf_o1112 (fun q1113 eq1113 => ?_)
  refine va_astq hx hb hK hP hD hS q1108 4 q1113 8 eq1108 rfl eq1113 rfl (vp_in_iff.mpr ⟨by decide, by decide⟩) dX10_init_177 (tp_k (.inl (κ 4, 6, .inr (.inr (.inr (.inr (va_up (va_up (va_up (va_up (va_up (fun _ => none) (0 : Int32).toNatClampNeg (some q640)) (1 : Int32).toNatClampNeg (some q730)) (2 : Int32).toNatClampNeg (some q823)) (3 : Int32).toNatClampNeg (some q919)) (4 : Int32).toNatClampNeg (some q1018))))))) hD hl1077 eq1108 (fun f1114 H locs hP hD hS g1116 k1115 => ?_))
  have hT := hT.raw hz1105 k1115
  have hz := tp_Z0.wt hz hz1105 (by decide) k1115
  have hH := hH.wn hn76 k1115
  have hf1117 : f1114 h0 = .inr (10, [.int 0, .int 10, .int 700, .int 0, .int 0, .int 0, .int 0, .ref q9, .ref q35, .ref q64, .ref q87, .ref q114, .ref q156, .ref q213, .ref q274, .ref q339, .ref q408, .ref q481, .ref q558]) := (k1115 _ ne77).trans hf1073
  have hf1118 : f1114 q87 = .inl (κ 5, 6, .inr (.inr (.inr (.inr (fun _ => none))))) := (k1115 _ (Ne.symm ne101)).trans hf1079
  clear hf1073 hf1079
  refine lv_iinc (v := 5) (lv' := [(1, .int 5), (0, .ref h0)]) hx hb dX10_init_178 hl (k := 0) rfl (by decide) (by decide) rfl (fun ls hl => ?_)
  refine lv_goto (tgt := 159) hx hb dX10_init_181 (by decide) ?_
  refine lv_iload_n hx hb dX10_init_159 rfl (lv_at hl 0 rfl) ?_
  refine lv_bipush (v := 6) hx hb dX10_init_160 (by decide) ?_
  refine lv_icmp_ge (tgt := 184) hx hb dX10_init_162 (by decide) (fun c9 => absurd c9 (by decide)) (fun _ => ?_)
  refine lv_aload_n hx hb dX10_init_165 rfl (lv_at hl 1 rfl) ?_
  refine tpk_pos hl1074 hf1117 (fun q1119 eq1119 => ?_)
  refine va_get (D := (dC, dI)) (ci := 10) (v := .ref q64) (C := RX10) (T := TX10) (N := 19) hx hb hts hfX10 hown hK hP q1119 eq1119 rfl 9 (by decide) (hts (.fieldLink RX10 27 "ColdShips$World" "terminals" "[LColdShips$Terminal;") wa_43) (fun _ h9 => h9) rfl dX10_init_166 ?_
  refine lv_iload_n hx hb dX10_init_169 rfl (lv_at hl 0 rfl) ?_
  refine va_new (ci := 8) (fs := [.int 0, .int 0, .int 0, .int 0, .int 0, .null, .null]) (C := RX8) (T := TX8) (N := 7) hx hb hts hfX8 tyX8 tyX8_ok hown (hts (.classLink RX10 25 RX8) wa_42) (hts (.instantiable RX8 7) wa_61) (hts (.initialized RX8) wa_62) hK hP hD hS hA rfl (fun j hj => by rcases tpj_7 j hj with rfl | rfl | rfl | rfl | rfl | rfl | rfl <;> rfl) (Nat.le_of_ble_eq_true rfl) (Nat.le_of_ble_eq_true rfl) dX10_init_170 (fun q1120 H hP hD hS => ?_)
  refine Exists.elim (tp_grow hG hT hP hD) (fun L1130 hE90 => Exists.elim hE90 (fun f1129 hE91 => tn_10 hE91 (fun hP hD hg1121 ht1122 hs1123 hq1124 hz1125 hn1126 hf1127 ho1128 => ?_)))
  clear hE91 hE90
  have hn1131 : ∀ a, a ∈ L → a ≠ q1120 := fun a ha => hn1126 a (hH.1 a ha)
  have ne1132 : h0 ≠ q1120 := hn1126 _ hl1074
  have ne1133 : q64 ≠ q1120 := hn1126 _ hl1077
  have ne1134 : q87 ≠ q1120 := hn1126 _ hl1080
  have ne1135 : q9 ≠ q1120 := hn1126 _ (tp_in hG ht1081 (by decide))
  have ne1136 : q35 ≠ q1120 := hn1126 _ (tp_in hG ht1083 (by decide))
  have ne1137 : q114 ≠ q1120 := hn1126 _ (tp_in hG ht1085 (by decide))
  have ne1138 : q156 ≠ q1120 := hn1126 _ (tp_in hG ht1086 (by decide))
  have ne1139 : q213 ≠ q1120 := hn1126 _ (tp_in hG ht1088 (by decide))
  have ne1140 : q274 ≠ q1120 := hn1126 _ (tp_in hG ht1090 (by decide))
  have ne1141 : q339 ≠ q1120 := hn1126 _ (tp_in hG ht1092 (by decide))
  have ne1142 : q408 ≠ q1120 := hn1126 _ (tp_in hG ht1094 (by decide))
  have ne1143 : q481 ≠ q1120 := hn1126 _ (tp_in hG ht1096 (by decide))
  have ne1144 : q558 ≠ q1120 := hn1126 _ (tp_in hG ht1098 (by decide))
  have ne1145 : q640 ≠ q1120 := hn1126 _ (tp_in hG ht1100 (by decide))
  have ne1146 : q730 ≠ q1120 := hn1126 _ (tp_in hG ht1101 (by decide))
  have ne1147 : q823 ≠ q1120 := hn1126 _ (tp_in hG ht1102 (by decide))
  have ne1148 : q919 ≠ q1120 := hn1126 _ (tp_in hG ht1103 (by decide))
  have ne1149 : q1018 ≠ q1120 := hn1126 _ (tp_in hG ht1107 (by decide))
  have hG := hg1121
  have hT := ht1122
  have hH := hH.gr hs1123 hn1126 ho1128
  have hz := tp_Z0.wt hz hz1125 (by decide) ho1128
  have hf1150 : f1129 h0 = .inr (10, [.int 0, .int 10, .int 700, .int 0, .int 0, .int 0, .int 0, .ref q9, .ref q35, .ref q64, .ref q87, .ref q114, .ref q156, .ref q213, .ref q274, .ref q339, .ref q408, .ref q481, .ref q558]) := (ho1128 _ ne1132).trans hf1117
  have hl1151 : h0 ∈ L1130 := hs1123 _ hl1074
  have hf1152 : f1129 q64 = .inl (κ 4, 6, .inr (.inr (.inr (.inr (va_up (va_up (va_up (va_up (va_up (fun _ => none) (0 : Int32).toNatClampNeg (some q640)) (1 : Int32).toNatClampNeg (some q730)) (2 : Int32).toNatClampNeg (some q823)) (3 : Int32).toNatClampNeg (some q919)) (4 : Int32).toNatClampNeg (some q1018)))))) := (ho1128 _ ne1133).trans g1116
  have hl1153 : q64 ∈ L1130 := hs1123 _ hl1077
  have hf1154 : f1129 q87 = .inl (κ 5, 6, .inr (.inr (.inr (.inr (fun _ => none))))) := (ho1128 _ ne1134).trans hf1118
  have hl1155 : q87 ∈ L1130 := hs1123 _ hl1080
  clear hf1117 hl1074 g1116 hl1077 hf1118 hl1080
  refine lv_dup hx hb dX10_init_173 rfl ?_
  have hFc := tp_fr hD hS hA
  refine va_callv (va_runIN (As := []) (rest := [.ref q1120, .int 5, .ref q64]) ⟨hx, hb, hml, hown, hts⟩ (t_X8_init l dC dI _ Ω κ τ_1057 ν_1057 ρ_1057 L1130 f1129 hG hT q1120 Zb hq1124 hz1125 hf1127 hz) ⟨(va_cnB (host := "ColdShips") 0 hts ggX10_init_X8_init rfl rfl rfl (hN.1 (.methodLinkNest RX10 76 yX8_init "ColdShips") nzw_104) (hts (.initialized RX8) wa_62) pd_X8_init ⟨Nat.le_of_ble_eq_true rfl, Nat.le_of_ble_eq_true rfl⟩), rfl, (hts (.instanceMethod yX8_init) wa_84)⟩ ⟨pz_blind, pz_pre hP hK hD hN⟩ rfl rfl hl.1 rfl (lv_room (Nat.le_of_ble_eq_true rfl)) dX10_init_174 ⟨Nat.le_of_ble_eq_true rfl, Nat.le_of_ble_eq_true rfl⟩) hS (fun q _ h => hFc q h) hFc (fun x1156 t H1 locs ht hvm hw1158 hB hz1 hk1 hS => ?_)
  obtain ⟨τ_1160, ν_1160, ρ_1160, L_1160, f1159⟩ := x1156
  obtain ⟨⟨hG9, hT9, hH9⟩, hw1158p⟩ := hw1158
  have hc1161 := hH9.2 _ (tp_in hG ht1081 (by decide)) (fun z => ne1135 (Option.some.inj z))
  have hc1162 := hH9.2 _ (tp_in hG ht1083 (by decide)) (fun z => ne1136 (Option.some.inj z))
  have hc1163 := hH9.2 _ (tp_in hG ht1085 (by decide)) (fun z => ne1137 (Option.some.inj z))
  have hc1164 := hH9.2 _ (tp_in hG ht1086 (by decide)) (fun z => ne1138 (Option.some.inj z))
  have hc1165 := hH9.2 _ (tp_in hG ht1088 (by decide)) (fun z => ne1139 (Option.some.inj z))
  have hc1166 := hH9.2 _ (tp_in hG ht1090 (by decide)) (fun z => ne1140 (Option.some.inj z))
  have hc1167 := hH9.2 _ (tp_in hG ht1092 (by decide)) (fun z => ne1141 (Option.some.inj z))
  have hc1168 := hH9.2 _ (tp_in hG ht1094 (by decide)) (fun z => ne1142 (Option.some.inj z))
  have hc1169 := hH9.2 _ (tp_in hG ht1096 (by decide)) (fun z => ne1143 (Option.some.inj z))
  have hc1170 := hH9.2 _ (tp_in hG ht1098 (by decide)) (fun z => ne1144 (Option.some.inj z))
  have hc1171 := hH9.2 _ (tp_in hG ht1100 (by decide)) (fun z => ne1145 (Option.some.inj z))
  have hc1172 := hH9.2 _ (tp_in hG ht1101 (by decide)) (fun z => ne1146 (Option.some.inj z))
  have hc1173 := hH9.2 _ (tp_in hG ht1102 (by decide)) (fun z => ne1147 (Option.some.inj z))
  have hc1174 := hH9.2 _ (tp_in hG ht1103 (by decide)) (fun z => ne1148 (Option.some.inj z))
  have hc1175 := hH9.2 _ (tp_in hG ht1107 (by decide)) (fun z => ne1149 (Option.some.inj z))
  have hc1176 := hH9.2 _ hl1151 (fun z => ne1132 (Option.some.inj z))
  have hf1177 : f1159 h0 = .inr (10, [.int 0, .int 10, .int 700, .int 0, .int 0, .int 0, .int 0, .ref q9, .ref q35, .ref q64, .ref q87, .ref q114, .ref q156, .ref q213, .ref q274, .ref q339, .ref q408, .ref q481, .ref q558]) := (hc1176.2.2.2 (by rw [hz1104]; decide)).trans hf1150
  have hl1178 := hH9.1 _ hl1151
  have hc1179 := hH9.2 _ hl1153 (fun z => ne1133 (Option.some.inj z))
  have hf1180 : f1159 q64 = .inl (κ 4, 6, .inr (.inr (.inr (.inr (va_up (va_up (va_up (va_up (va_up (fun _ => none) (0 : Int32).toNatClampNeg (some q640)) (1 : Int32).toNatClampNeg (some q730)) (2 : Int32).toNatClampNeg (some q823)) (3 : Int32).toNatClampNeg (some q919)) (4 : Int32).toNatClampNeg (some q1018)))))) := (hc1179.2.2.2 (by rw [hz1105]; decide)).trans hf1152
  have hl1181 := hH9.1 _ hl1153
  have hc1182 := hH9.2 _ hl1155 (fun z => ne1134 (Option.some.inj z))
  have hf1183 : f1159 q87 = .inl (κ 5, 6, .inr (.inr (.inr (.inr (fun _ => none))))) := (hc1182.2.2.2 (by rw [hz1106]; decide)).trans hf1154
  have hl1184 := hH9.1 _ hl1155
  have hH := hH.call hH9 (by decide) (fun a ha _ z => hn1131 a ha (Option.some.inj z))
  have hG : tp_G τ_1160 ν_1160 ρ_1160 L_1160 := hG9; have hT : tp_T Ω κ τ_1160 ν_1160 ρ_1160 f1159 := hT9
  have hH : tp_H τ ν ρ L f [] (some h0) τ_1160 ν_1160 ρ_1160 L_1160 f1159 := hH
  have hz := hw1158p.2
  have hw1158p := hw1158p.1
  have hP := hB.1; rw [ht] at hP; have hD := tp_Dw hB.2.2 hFc; clear hB hFc hz1 hk1; subst ht; generalize t.heap = H at hP hS ⊢
  have hP : va_P (dC, dI) vwCl (va_pl L_1160 f1159) H := hP
  have hD : va_D A (va_pl L_1160 f1159) := hD
  have ht1185 : τ_1160 q9 = 20 := hc1161.1.trans ht1081
  have hn1186 : ν_1160 q9 = 25 := hc1161.2.1.trans hn1082
  have ht1187 : τ_1160 q35 = 20 := hc1162.1.trans ht1083
  have hn1188 : ν_1160 q35 = 100 := hc1162.2.1.trans hn1084
  have ht1189 : τ_1160 q114 = 26 := hc1163.1.trans ht1085
  have ht1190 : τ_1160 q156 = 7 := hc1164.1.trans ht1086
  have hx1191 : ρ_1160 q156 11 = 60 ∧ ρ_1160 q156 30 = (lb + 12) := by have q9 : ρ_1160 q156 = _ := hc1164.2.2.1; rw [q9]; exact hx1087
  have ht1192 : τ_1160 q213 = 7 := hc1165.1.trans ht1088
  have hx1193 : ρ_1160 q213 11 = 20 ∧ ρ_1160 q213 30 = (lb + 13) := by have q9 : ρ_1160 q213 = _ := hc1165.2.2.1; rw [q9]; exact hx1089
  have ht1194 : τ_1160 q274 = 7 := hc1166.1.trans ht1090
  have hx1195 : ρ_1160 q274 11 = 20 ∧ ρ_1160 q274 30 = (lb + 14) := by have q9 : ρ_1160 q274 = _ := hc1166.2.2.1; rw [q9]; exact hx1091
  have ht1196 : τ_1160 q339 = 5 := hc1167.1.trans ht1092
  have hx1197 : ρ_1160 q339 10 = 3 ∧ ρ_1160 q339 11 = 60 ∧ ρ_1160 q339 30 = (lb + 15) := by have q9 : ρ_1160 q339 = _ := hc1167.2.2.1; rw [q9]; exact hx1093
  have ht1198 : τ_1160 q408 = 5 := hc1168.1.trans ht1094
  have hx1199 : ρ_1160 q408 10 = 5 ∧ ρ_1160 q408 11 = 60 ∧ ρ_1160 q408 30 = (lb + 16) := by have q9 : ρ_1160 q408 = _ := hc1168.2.2.1; rw [q9]; exact hx1095
  have ht1200 : τ_1160 q481 = 5 := hc1169.1.trans ht1096
  have hx1201 : ρ_1160 q481 10 = 15 ∧ ρ_1160 q481 11 = 60 ∧ ρ_1160 q481 30 = (lb + 17) := by have q9 : ρ_1160 q481 = _ := hc1169.2.2.1; rw [q9]; exact hx1097
  have ht1202 : τ_1160 q558 = 5 := hc1170.1.trans ht1098
  have hx1203 : ρ_1160 q558 10 = 8 ∧ ρ_1160 q558 11 = 6 ∧ ρ_1160 q558 30 = (lb + 18) := by have q9 : ρ_1160 q558 = _ := hc1170.2.2.1; rw [q9]; exact hx1099
  have ht1204 : τ_1160 q640 = 9 := hc1171.1.trans ht1100
  have ht1205 : τ_1160 q730 = 9 := hc1172.1.trans ht1101
  have ht1206 : τ_1160 q823 = 9 := hc1173.1.trans ht1102
  have ht1207 : τ_1160 q919 = 9 := hc1174.1.trans ht1103
  have ht1208 : τ_1160 q1018 = 9 := hc1175.1.trans ht1107
  have hz1209 : τ_1160 h0 = 0 := hc1176.1.trans hz1104
  have hz1210 : τ_1160 q64 = 0 := hc1179.1.trans hz1105
  have hz1211 : τ_1160 q87 = 0 := hc1182.1.trans hz1106
  clear ht1081 hn1082 ht1083 hn1084 ht1085 ht1086 hx1087 ht1088 hx1089 ht1090 hx1091 ht1092 hx1093 ht1094 hx1095 ht1096 hx1097 ht1098 hx1099 ht1100 ht1101 ht1102 ht1103 ht1107 hz1104 hz1105 hz1106 ne1132 ne1133 ne1134 ne1135 ne1136 ne1137 ne1138 ne1139 ne1140 ne1141 ne1142 ne1143 ne1144 ne1145 ne1146 ne1147 ne1148 ne1149 hc1161 hc1162 hc1163 hc1164 hc1165 hc1166 hc1167 hc1168 hc1169 hc1170 hc1171 hc1172 hc1173 hc1174 hc1175 hc1176 hc1179 hc1182 hG9 hT9 hH9
  have ht1212 : τ_1160 q1120 = 9 := hw1158p
  refine tpk_pos hl1181 hf1180 (fun q1213 eq1213 => ?_)
  refine tgk_9 hG ht1212 (fun y1215 y1215n y1216 y1216n => ?_)
  refine tpk_9 hT ht1212 (fun o1217_x0 o1217_x1 o1217_x2 o1217_x3 o1217_x4 hf_o1217 ro1217_0 => ?_)
  refine tpk_pos (tp_in hG ht1212 (by decide)) hf_o1217 (fun q1218 eq1218 => ?_)
  refine va_astq hx hb hK hP hD hS q1213 4 q1218 8 eq1213 rfl eq1218 rfl (vp_in_iff.mpr ⟨by decide, by decide⟩) dX10_init_177 (tp_k (.inl (κ 4, 6, .inr (.inr (.inr (.inr (va_up (va_up (va_up (va_up (va_up (va_up (fun _ => none) (0 : Int32).toNatClampNeg (some q640)) (1 : Int32).toNatClampNeg (some q730)) (2 : Int32).toNatClampNeg (some q823)) (3 : Int32).toNatClampNeg (some q919)) (4 : Int32).toNatClampNeg (some q1018)) (5 : Int32).toNatClampNeg (some q1120))))))) hD hl1181 eq1213 (fun f1219 H locs hP hD hS g1221 k1220 => ?_))
  have hT := hT.raw hz1210 k1220
  have hz := tp_Z0.wt hz hz1210 (by decide) k1220
  have hH := hH.wn hn76 k1220
  have hf1222 : f1219 h0 = .inr (10, [.int 0, .int 10, .int 700, .int 0, .int 0, .int 0, .int 0, .ref q9, .ref q35, .ref q64, .ref q87, .ref q114, .ref q156, .ref q213, .ref q274, .ref q339, .ref q408, .ref q481, .ref q558]) := (k1220 _ ne77).trans hf1177
  have hf1223 : f1219 q87 = .inl (κ 5, 6, .inr (.inr (.inr (.inr (fun _ => none))))) := (k1220 _ (Ne.symm ne101)).trans hf1183
  clear hf1177 hf1183
  refine lv_iinc (v := 6) (lv' := [(1, .int 6), (0, .ref h0)]) hx hb dX10_init_178 hl (k := 0) rfl (by decide) (by decide) rfl (fun ls hl => ?_)
  refine lv_goto (tgt := 159) hx hb dX10_init_181 (by decide) ?_
  refine lv_iload_n hx hb dX10_init_159 rfl (lv_at hl 0 rfl) ?_
  refine lv_bipush (v := 6) hx hb dX10_init_160 (by decide) ?_
  refine lv_icmp_ge (tgt := 184) hx hb dX10_init_162 (by decide) (fun _ => ?_) (fun c9 => absurd c9 (by decide))
  refine lv_iconst (v := 0) hx hb dX10_init_184 (by decide) ?_
  refine lv_istore_n (lv' := [(1, .int 0), (0, .ref h0)]) hx hb dX10_init_185 rfl hl (by decide) rfl (fun ls hl => ?_)
  refine lv_iload_n hx hb dX10_init_186 rfl (lv_at hl 0 rfl) ?_
  refine lv_bipush (v := 6) hx hb dX10_init_187 (by decide) ?_
  refine lv_icmp_ge (tgt := 211) hx hb dX10_init_189 (by decide) (fun c9 => absurd c9 (by decide)) (fun _ => ?_)
  refine lv_aload_n hx hb dX10_init_192 rfl (lv_at hl 1 rfl) ?_
  refine tpk_pos hl1178 hf1222 (fun q1224 eq1224 => ?_)
  refine va_get (D := (dC, dI)) (ci := 10) (v := .ref q87) (C := RX10) (T := TX10) (N := 19) hx hb hts hfX10 hown hK hP q1224 eq1224 rfl 10 (by decide) (hts (.fieldLink RX10 33 "ColdShips$World" "ships" "[LColdShips$Ship;") wa_45) (fun _ h9 => h9) rfl dX10_init_193 ?_
  refine lv_iload_n hx hb dX10_init_196 rfl (lv_at hl 0 rfl) ?_
  refine va_new (ci := 5) (fs := [.null, .int 0, .int 0, .int 0, .int 0, .int 0, .int 0, .null, .null, .null, .int 0, .int 0, .int 0, .null, .int 0, .null, .null]) (C := RX5) (T := TX5) (N := 17) hx hb hts hfX5 tyX5 tyX5_ok hown (hts (.classLink RX10 31 RX5) wa_44) (hts (.instantiable RX5 17) wa_63) (hts (.initialized RX5) wa_64) hK hP hD hS hA rfl (fun j hj => by rcases tpj_17 j hj with rfl | rfl | rfl | rfl | rfl | rfl | rfl | rfl | rfl | rfl | rfl | rfl | rfl | rfl | rfl | rfl | rfl <;> rfl) (Nat.le_of_ble_eq_true rfl) (Nat.le_of_ble_eq_true rfl) dX10_init_197 (fun q1225 H hP hD hS => ?_)
  refine Exists.elim (tp_grow hG hT hP hD) (fun L1235 hE90 => Exists.elim hE90 (fun f1234 hE91 => tn_10 hE91 (fun hP hD hg1226 ht1227 hs1228 hq1229 hz1230 hn1231 hf1232 ho1233 => ?_)))
  clear hE91 hE90
  have hn1236 : ∀ a, a ∈ L → a ≠ q1225 := fun a ha => hn1231 a (hH.1 a ha)
  have ne1237 : h0 ≠ q1225 := hn1231 _ hl1178
  have ne1238 : q64 ≠ q1225 := hn1231 _ hl1181
  have ne1239 : q87 ≠ q1225 := hn1231 _ hl1184
  have ne1240 : q9 ≠ q1225 := hn1231 _ (tp_in hG ht1185 (by decide))
  have ne1241 : q35 ≠ q1225 := hn1231 _ (tp_in hG ht1187 (by decide))
  have ne1242 : q114 ≠ q1225 := hn1231 _ (tp_in hG ht1189 (by decide))
  have ne1243 : q156 ≠ q1225 := hn1231 _ (tp_in hG ht1190 (by decide))
  have ne1244 : q213 ≠ q1225 := hn1231 _ (tp_in hG ht1192 (by decide))
  have ne1245 : q274 ≠ q1225 := hn1231 _ (tp_in hG ht1194 (by decide))
  have ne1246 : q339 ≠ q1225 := hn1231 _ (tp_in hG ht1196 (by decide))
  have ne1247 : q408 ≠ q1225 := hn1231 _ (tp_in hG ht1198 (by decide))
  have ne1248 : q481 ≠ q1225 := hn1231 _ (tp_in hG ht1200 (by decide))
  have ne1249 : q558 ≠ q1225 := hn1231 _ (tp_in hG ht1202 (by decide))
  have ne1250 : q640 ≠ q1225 := hn1231 _ (tp_in hG ht1204 (by decide))
  have ne1251 : q730 ≠ q1225 := hn1231 _ (tp_in hG ht1205 (by decide))
  have ne1252 : q823 ≠ q1225 := hn1231 _ (tp_in hG ht1206 (by decide))
  have ne1253 : q919 ≠ q1225 := hn1231 _ (tp_in hG ht1207 (by decide))
  have ne1254 : q1018 ≠ q1225 := hn1231 _ (tp_in hG ht1208 (by decide))
  have ne1255 : q1120 ≠ q1225 := hn1231 _ (tp_in hG ht1212 (by decide))
  have hG := hg1226
  have hT := ht1227
  have hH := hH.gr hs1228 hn1231 ho1233
  have hz := tp_Z0.wt hz hz1230 (by decide) ho1233
  have hf1256 : f1234 h0 = .inr (10, [.int 0, .int 10, .int 700, .int 0, .int 0, .int 0, .int 0, .ref q9, .ref q35, .ref q64, .ref q87, .ref q114, .ref q156, .ref q213, .ref q274, .ref q339, .ref q408, .ref q481, .ref q558]) := (ho1233 _ ne1237).trans hf1222
  have hl1257 : h0 ∈ L1235 := hs1228 _ hl1178
  have hf1258 : f1234 q64 = .inl (κ 4, 6, .inr (.inr (.inr (.inr (va_up (va_up (va_up (va_up (va_up (va_up (fun _ => none) (0 : Int32).toNatClampNeg (some q640)) (1 : Int32).toNatClampNeg (some q730)) (2 : Int32).toNatClampNeg (some q823)) (3 : Int32).toNatClampNeg (some q919)) (4 : Int32).toNatClampNeg (some q1018)) (5 : Int32).toNatClampNeg (some q1120)))))) := (ho1233 _ ne1238).trans g1221
  have hl1259 : q64 ∈ L1235 := hs1228 _ hl1181
  have hf1260 : f1234 q87 = .inl (κ 5, 6, .inr (.inr (.inr (.inr (fun _ => none))))) := (ho1233 _ ne1239).trans hf1223
  have hl1261 : q87 ∈ L1235 := hs1228 _ hl1184
  clear hf1222 hl1178 g1221 hl1181 hf1223 hl1184
  refine lv_dup hx hb dX10_init_200 rfl ?_
  have hFc := tp_fr hD hS hA
  refine va_callv (va_runIN (As := []) (rest := [.ref q1225, .int 0, .ref q87]) ⟨hx, hb, hml, hown, hts⟩ (t_X5_init l dC dI _ Ω κ τ_1160 ν_1160 ρ_1160 L1235 f1234 hG hT q1225 Zb hq1229 hz1230 hf1232 hz) ⟨(va_cnB (host := "ColdShips") 0 hts ggX10_init_X5_init rfl rfl rfl (hN.1 (.methodLinkNest RX10 77 yX5_init "ColdShips") nzw_105) (hts (.initialized RX5) wa_64) pd_X5_init ⟨Nat.le_of_ble_eq_true rfl, Nat.le_of_ble_eq_true rfl⟩), rfl, (hts (.instanceMethod yX5_init) wa_90)⟩ ⟨pz_blind, pz_pre hP hK hD hN⟩ rfl rfl hl.1 rfl (lv_room (Nat.le_of_ble_eq_true rfl)) dX10_init_201 ⟨Nat.le_of_ble_eq_true rfl, Nat.le_of_ble_eq_true rfl⟩) hS (fun q _ h => hFc q h) hFc (fun x1262 t H1 locs ht hvm hw1264 hB hz1 hk1 hS => ?_)
  obtain ⟨τ_1266, ν_1266, ρ_1266, L_1266, f1265⟩ := x1262
  obtain ⟨⟨hG9, hT9, hH9⟩, hw1264p⟩ := hw1264
  have hc1267 := hH9.2 _ (tp_in hG ht1185 (by decide)) (fun z => ne1240 (Option.some.inj z))
  have hc1268 := hH9.2 _ (tp_in hG ht1187 (by decide)) (fun z => ne1241 (Option.some.inj z))
  have hc1269 := hH9.2 _ (tp_in hG ht1189 (by decide)) (fun z => ne1242 (Option.some.inj z))
  have hc1270 := hH9.2 _ (tp_in hG ht1190 (by decide)) (fun z => ne1243 (Option.some.inj z))
  have hc1271 := hH9.2 _ (tp_in hG ht1192 (by decide)) (fun z => ne1244 (Option.some.inj z))
  have hc1272 := hH9.2 _ (tp_in hG ht1194 (by decide)) (fun z => ne1245 (Option.some.inj z))
  have hc1273 := hH9.2 _ (tp_in hG ht1196 (by decide)) (fun z => ne1246 (Option.some.inj z))
  have hc1274 := hH9.2 _ (tp_in hG ht1198 (by decide)) (fun z => ne1247 (Option.some.inj z))
  have hc1275 := hH9.2 _ (tp_in hG ht1200 (by decide)) (fun z => ne1248 (Option.some.inj z))
  have hc1276 := hH9.2 _ (tp_in hG ht1202 (by decide)) (fun z => ne1249 (Option.some.inj z))
  have hc1277 := hH9.2 _ (tp_in hG ht1204 (by decide)) (fun z => ne1250 (Option.some.inj z))
  have hc1278 := hH9.2 _ (tp_in hG ht1205 (by decide)) (fun z => ne1251 (Option.some.inj z))
  have hc1279 := hH9.2 _ (tp_in hG ht1206 (by decide)) (fun z => ne1252 (Option.some.inj z))
  have hc1280 := hH9.2 _ (tp_in hG ht1207 (by decide)) (fun z => ne1253 (Option.some.inj z))
  have hc1281 := hH9.2 _ (tp_in hG ht1208 (by decide)) (fun z => ne1254 (Option.some.inj z))
  have hc1282 := hH9.2 _ (tp_in hG ht1212 (by decide)) (fun z => ne1255 (Option.some.inj z))
  have hc1283 := hH9.2 _ hl1257 (fun z => ne1237 (Option.some.inj z))
  have hf1284 : f1265 h0 = .inr (10, [.int 0, .int 10, .int 700, .int 0, .int 0, .int 0, .int 0, .ref q9, .ref q35, .ref q64, .ref q87, .ref q114, .ref q156, .ref q213, .ref q274, .ref q339, .ref q408, .ref q481, .ref q558]) := (hc1283.2.2.2 (by rw [hz1209]; decide)).trans hf1256
  have hl1285 := hH9.1 _ hl1257
  have hc1286 := hH9.2 _ hl1259 (fun z => ne1238 (Option.some.inj z))
  have hf1287 : f1265 q64 = .inl (κ 4, 6, .inr (.inr (.inr (.inr (va_up (va_up (va_up (va_up (va_up (va_up (fun _ => none) (0 : Int32).toNatClampNeg (some q640)) (1 : Int32).toNatClampNeg (some q730)) (2 : Int32).toNatClampNeg (some q823)) (3 : Int32).toNatClampNeg (some q919)) (4 : Int32).toNatClampNeg (some q1018)) (5 : Int32).toNatClampNeg (some q1120)))))) := (hc1286.2.2.2 (by rw [hz1210]; decide)).trans hf1258
  have hl1288 := hH9.1 _ hl1259
  have hc1289 := hH9.2 _ hl1261 (fun z => ne1239 (Option.some.inj z))
  have hf1290 : f1265 q87 = .inl (κ 5, 6, .inr (.inr (.inr (.inr (fun _ => none))))) := (hc1289.2.2.2 (by rw [hz1211]; decide)).trans hf1260
  have hl1291 := hH9.1 _ hl1261
  have hH := hH.call hH9 (by decide) (fun a ha _ z => hn1236 a ha (Option.some.inj z))
  have hG : tp_G τ_1266 ν_1266 ρ_1266 L_1266 := hG9; have hT : tp_T Ω κ τ_1266 ν_1266 ρ_1266 f1265 := hT9
  have hH : tp_H τ ν ρ L f [] (some h0) τ_1266 ν_1266 ρ_1266 L_1266 f1265 := hH
  have hz := hw1264p.2
  have hw1264p := hw1264p.1
  have hP := hB.1; rw [ht] at hP; have hD := tp_Dw hB.2.2 hFc; clear hB hFc hz1 hk1; subst ht; generalize t.heap = H at hP hS ⊢
  have hP : va_P (dC, dI) vwCl (va_pl L_1266 f1265) H := hP
  have hD : va_D A (va_pl L_1266 f1265) := hD
  have ht1292 : τ_1266 q9 = 20 := hc1267.1.trans ht1185
  have hn1293 : ν_1266 q9 = 25 := hc1267.2.1.trans hn1186
  have ht1294 : τ_1266 q35 = 20 := hc1268.1.trans ht1187
  have hn1295 : ν_1266 q35 = 100 := hc1268.2.1.trans hn1188
  have ht1296 : τ_1266 q114 = 26 := hc1269.1.trans ht1189
  have ht1297 : τ_1266 q156 = 7 := hc1270.1.trans ht1190
  have hx1298 : ρ_1266 q156 11 = 60 ∧ ρ_1266 q156 30 = (lb + 12) := by have q9 : ρ_1266 q156 = _ := hc1270.2.2.1; rw [q9]; exact hx1191
  have ht1299 : τ_1266 q213 = 7 := hc1271.1.trans ht1192
  have hx1300 : ρ_1266 q213 11 = 20 ∧ ρ_1266 q213 30 = (lb + 13) := by have q9 : ρ_1266 q213 = _ := hc1271.2.2.1; rw [q9]; exact hx1193
  have ht1301 : τ_1266 q274 = 7 := hc1272.1.trans ht1194
  have hx1302 : ρ_1266 q274 11 = 20 ∧ ρ_1266 q274 30 = (lb + 14) := by have q9 : ρ_1266 q274 = _ := hc1272.2.2.1; rw [q9]; exact hx1195
  have ht1303 : τ_1266 q339 = 5 := hc1273.1.trans ht1196
  have hx1304 : ρ_1266 q339 10 = 3 ∧ ρ_1266 q339 11 = 60 ∧ ρ_1266 q339 30 = (lb + 15) := by have q9 : ρ_1266 q339 = _ := hc1273.2.2.1; rw [q9]; exact hx1197
  have ht1305 : τ_1266 q408 = 5 := hc1274.1.trans ht1198
  have hx1306 : ρ_1266 q408 10 = 5 ∧ ρ_1266 q408 11 = 60 ∧ ρ_1266 q408 30 = (lb + 16) := by have q9 : ρ_1266 q408 = _ := hc1274.2.2.1; rw [q9]; exact hx1199
  have ht1307 : τ_1266 q481 = 5 := hc1275.1.trans ht1200
  have hx1308 : ρ_1266 q481 10 = 15 ∧ ρ_1266 q481 11 = 60 ∧ ρ_1266 q481 30 = (lb + 17) := by have q9 : ρ_1266 q481 = _ := hc1275.2.2.1; rw [q9]; exact hx1201
  have ht1309 : τ_1266 q558 = 5 := hc1276.1.trans ht1202
  have hx1310 : ρ_1266 q558 10 = 8 ∧ ρ_1266 q558 11 = 6 ∧ ρ_1266 q558 30 = (lb + 18) := by have q9 : ρ_1266 q558 = _ := hc1276.2.2.1; rw [q9]; exact hx1203
  have ht1311 : τ_1266 q640 = 9 := hc1277.1.trans ht1204
  have ht1312 : τ_1266 q730 = 9 := hc1278.1.trans ht1205
  have ht1313 : τ_1266 q823 = 9 := hc1279.1.trans ht1206
  have ht1314 : τ_1266 q919 = 9 := hc1280.1.trans ht1207
  have ht1315 : τ_1266 q1018 = 9 := hc1281.1.trans ht1208
  have ht1316 : τ_1266 q1120 = 9 := hc1282.1.trans ht1212
  have hz1317 : τ_1266 h0 = 0 := hc1283.1.trans hz1209
  have hz1318 : τ_1266 q64 = 0 := hc1286.1.trans hz1210
  have hz1319 : τ_1266 q87 = 0 := hc1289.1.trans hz1211
  clear ht1185 hn1186 ht1187 hn1188 ht1189 ht1190 hx1191 ht1192 hx1193 ht1194 hx1195 ht1196 hx1197 ht1198 hx1199 ht1200 hx1201 ht1202 hx1203 ht1204 ht1205 ht1206 ht1207 ht1208 ht1212 hz1209 hz1210 hz1211 ne1237 ne1238 ne1239 ne1240 ne1241 ne1242 ne1243 ne1244 ne1245 ne1246 ne1247 ne1248 ne1249 ne1250 ne1251 ne1252 ne1253 ne1254 ne1255 hc1267 hc1268 hc1269 hc1270 hc1271 hc1272 hc1273 hc1274 hc1275 hc1276 hc1277 hc1278 hc1279 hc1280 hc1281 hc1282 hc1283 hc1286 hc1289 hG9 hT9 hH9
  have ht1320 : τ_1266 q1225 = 6 := hw1264p
  refine tpk_pos hl1291 hf1290 (fun q1321 eq1321 => ?_)
  refine tgk_6 hG ht1320 (fun y1323 y1324 y1324n y1325 y1325n y1326 y1326n y1327 y1327n y1328 y1328n y1329 y1329n => ?_)
  refine tpk_6 hT ht1320 (fun o1330_x1 o1330_x2 o1330_x3 o1330_x4 o1330_x5 o1330_x6 o1330_x10 o1330_x11 o1330_x12 o1330_x14 hf_o1330 ro1330_0 ro1330_1 ro1330_2 => ?_)
  refine tpk_pos (tp_in hG ht1320 (by decide)) hf_o1330 (fun q1331 eq1331 => ?_)
  refine va_astq hx hb hK hP hD hS q1321 5 q1331 5 eq1321 rfl eq1331 rfl (vp_in_iff.mpr ⟨by decide, by decide⟩) dX10_init_204 (tp_k (.inl (κ 5, 6, .inr (.inr (.inr (.inr (va_up (fun _ => none) (0 : Int32).toNatClampNeg (some q1225))))))) hD hl1291 eq1321 (fun f1332 H locs hP hD hS g1334 k1333 => ?_))
  have hT := hT.raw hz1319 k1333
  have hz := tp_Z0.wt hz hz1319 (by decide) k1333
  have hH := hH.wn hn99 k1333
  have hf1335 : f1332 h0 = .inr (10, [.int 0, .int 10, .int 700, .int 0, .int 0, .int 0, .int 0, .ref q9, .ref q35, .ref q64, .ref q87, .ref q114, .ref q156, .ref q213, .ref q274, .ref q339, .ref q408, .ref q481, .ref q558]) := (k1333 _ ne100).trans hf1284
  have hf1336 : f1332 q64 = .inl (κ 4, 6, .inr (.inr (.inr (.inr (va_up (va_up (va_up (va_up (va_up (va_up (fun _ => none) (0 : Int32).toNatClampNeg (some q640)) (1 : Int32).toNatClampNeg (some q730)) (2 : Int32).toNatClampNeg (some q823)) (3 : Int32).toNatClampNeg (some q919)) (4 : Int32).toNatClampNeg (some q1018)) (5 : Int32).toNatClampNeg (some q1120)))))) := (k1333 _ ne101).trans hf1287
  clear hf1284 hf1287
  refine lv_iinc (v := 1) (lv' := [(1, .int 1), (0, .ref h0)]) hx hb dX10_init_205 hl (k := 0) rfl (by decide) (by decide) rfl (fun ls hl => ?_)
  refine lv_goto (tgt := 186) hx hb dX10_init_208 (by decide) ?_
  refine lv_iload_n hx hb dX10_init_186 rfl (lv_at hl 0 rfl) ?_
  refine lv_bipush (v := 6) hx hb dX10_init_187 (by decide) ?_
  refine lv_icmp_ge (tgt := 211) hx hb dX10_init_189 (by decide) (fun c9 => absurd c9 (by decide)) (fun _ => ?_)
  refine lv_aload_n hx hb dX10_init_192 rfl (lv_at hl 1 rfl) ?_
  refine tpk_pos hl1285 hf1335 (fun q1337 eq1337 => ?_)
  refine va_get (D := (dC, dI)) (ci := 10) (v := .ref q87) (C := RX10) (T := TX10) (N := 19) hx hb hts hfX10 hown hK hP q1337 eq1337 rfl 10 (by decide) (hts (.fieldLink RX10 33 "ColdShips$World" "ships" "[LColdShips$Ship;") wa_45) (fun _ h9 => h9) rfl dX10_init_193 ?_
  refine lv_iload_n hx hb dX10_init_196 rfl (lv_at hl 0 rfl) ?_
  refine va_new (ci := 5) (fs := [.null, .int 0, .int 0, .int 0, .int 0, .int 0, .int 0, .null, .null, .null, .int 0, .int 0, .int 0, .null, .int 0, .null, .null]) (C := RX5) (T := TX5) (N := 17) hx hb hts hfX5 tyX5 tyX5_ok hown (hts (.classLink RX10 31 RX5) wa_44) (hts (.instantiable RX5 17) wa_63) (hts (.initialized RX5) wa_64) hK hP hD hS hA rfl (fun j hj => by rcases tpj_17 j hj with rfl | rfl | rfl | rfl | rfl | rfl | rfl | rfl | rfl | rfl | rfl | rfl | rfl | rfl | rfl | rfl | rfl <;> rfl) (Nat.le_of_ble_eq_true rfl) (Nat.le_of_ble_eq_true rfl) dX10_init_197 (fun q1338 H hP hD hS => ?_)
  refine Exists.elim (tp_grow hG hT hP hD) (fun L1348 hE90 => Exists.elim hE90 (fun f1347 hE91 => tn_10 hE91 (fun hP hD hg1339 ht1340 hs1341 hq1342 hz1343 hn1344 hf1345 ho1346 => ?_)))
  clear hE91 hE90
  have hn1349 : ∀ a, a ∈ L → a ≠ q1338 := fun a ha => hn1344 a (hH.1 a ha)
  have ne1350 : h0 ≠ q1338 := hn1344 _ hl1285
  have ne1351 : q64 ≠ q1338 := hn1344 _ hl1288
  have ne1352 : q87 ≠ q1338 := hn1344 _ hl1291
  have ne1353 : q9 ≠ q1338 := hn1344 _ (tp_in hG ht1292 (by decide))
  have ne1354 : q35 ≠ q1338 := hn1344 _ (tp_in hG ht1294 (by decide))
  have ne1355 : q114 ≠ q1338 := hn1344 _ (tp_in hG ht1296 (by decide))
  have ne1356 : q156 ≠ q1338 := hn1344 _ (tp_in hG ht1297 (by decide))
  have ne1357 : q213 ≠ q1338 := hn1344 _ (tp_in hG ht1299 (by decide))
  have ne1358 : q274 ≠ q1338 := hn1344 _ (tp_in hG ht1301 (by decide))
  have ne1359 : q339 ≠ q1338 := hn1344 _ (tp_in hG ht1303 (by decide))
  have ne1360 : q408 ≠ q1338 := hn1344 _ (tp_in hG ht1305 (by decide))
  have ne1361 : q481 ≠ q1338 := hn1344 _ (tp_in hG ht1307 (by decide))
  have ne1362 : q558 ≠ q1338 := hn1344 _ (tp_in hG ht1309 (by decide))
  have ne1363 : q640 ≠ q1338 := hn1344 _ (tp_in hG ht1311 (by decide))
  have ne1364 : q730 ≠ q1338 := hn1344 _ (tp_in hG ht1312 (by decide))
  have ne1365 : q823 ≠ q1338 := hn1344 _ (tp_in hG ht1313 (by decide))
  have ne1366 : q919 ≠ q1338 := hn1344 _ (tp_in hG ht1314 (by decide))
  have ne1367 : q1018 ≠ q1338 := hn1344 _ (tp_in hG ht1315 (by decide))
  have ne1368 : q1120 ≠ q1338 := hn1344 _ (tp_in hG ht1316 (by decide))
  have ne1369 : q1225 ≠ q1338 := hn1344 _ (tp_in hG ht1320 (by decide))
  have hG := hg1339
  have hT := ht1340
  have hH := hH.gr hs1341 hn1344 ho1346
  have hz := tp_Z0.wt hz hz1343 (by decide) ho1346
  have hf1370 : f1347 h0 = .inr (10, [.int 0, .int 10, .int 700, .int 0, .int 0, .int 0, .int 0, .ref q9, .ref q35, .ref q64, .ref q87, .ref q114, .ref q156, .ref q213, .ref q274, .ref q339, .ref q408, .ref q481, .ref q558]) := (ho1346 _ ne1350).trans hf1335
  have hl1371 : h0 ∈ L1348 := hs1341 _ hl1285
  have hf1372 : f1347 q64 = .inl (κ 4, 6, .inr (.inr (.inr (.inr (va_up (va_up (va_up (va_up (va_up (va_up (fun _ => none) (0 : Int32).toNatClampNeg (some q640)) (1 : Int32).toNatClampNeg (some q730)) (2 : Int32).toNatClampNeg (some q823)) (3 : Int32).toNatClampNeg (some q919)) (4 : Int32).toNatClampNeg (some q1018)) (5 : Int32).toNatClampNeg (some q1120)))))) := (ho1346 _ ne1351).trans hf1336
  have hl1373 : q64 ∈ L1348 := hs1341 _ hl1288
  have hf1374 : f1347 q87 = .inl (κ 5, 6, .inr (.inr (.inr (.inr (va_up (fun _ => none) (0 : Int32).toNatClampNeg (some q1225)))))) := (ho1346 _ ne1352).trans g1334
  have hl1375 : q87 ∈ L1348 := hs1341 _ hl1291
  clear hf1335 hl1285 hf1336 hl1288 g1334 hl1291
  refine lv_dup hx hb dX10_init_200 rfl ?_
  have hFc := tp_fr hD hS hA
  refine va_callv (va_runIN (As := []) (rest := [.ref q1338, .int 1, .ref q87]) ⟨hx, hb, hml, hown, hts⟩ (t_X5_init l dC dI _ Ω κ τ_1266 ν_1266 ρ_1266 L1348 f1347 hG hT q1338 Zb hq1342 hz1343 hf1345 hz) ⟨(va_cnB (host := "ColdShips") 0 hts ggX10_init_X5_init rfl rfl rfl (hN.1 (.methodLinkNest RX10 77 yX5_init "ColdShips") nzw_105) (hts (.initialized RX5) wa_64) pd_X5_init ⟨Nat.le_of_ble_eq_true rfl, Nat.le_of_ble_eq_true rfl⟩), rfl, (hts (.instanceMethod yX5_init) wa_90)⟩ ⟨pz_blind, pz_pre hP hK hD hN⟩ rfl rfl hl.1 rfl (lv_room (Nat.le_of_ble_eq_true rfl)) dX10_init_201 ⟨Nat.le_of_ble_eq_true rfl, Nat.le_of_ble_eq_true rfl⟩) hS (fun q _ h => hFc q h) hFc (fun x1376 t H1 locs ht hvm hw1378 hB hz1 hk1 hS => ?_)
  obtain ⟨τ_1380, ν_1380, ρ_1380, L_1380, f1379⟩ := x1376
  obtain ⟨⟨hG9, hT9, hH9⟩, hw1378p⟩ := hw1378
  have hc1381 := hH9.2 _ (tp_in hG ht1292 (by decide)) (fun z => ne1353 (Option.some.inj z))
  have hc1382 := hH9.2 _ (tp_in hG ht1294 (by decide)) (fun z => ne1354 (Option.some.inj z))
  have hc1383 := hH9.2 _ (tp_in hG ht1296 (by decide)) (fun z => ne1355 (Option.some.inj z))
  have hc1384 := hH9.2 _ (tp_in hG ht1297 (by decide)) (fun z => ne1356 (Option.some.inj z))
  have hc1385 := hH9.2 _ (tp_in hG ht1299 (by decide)) (fun z => ne1357 (Option.some.inj z))
  have hc1386 := hH9.2 _ (tp_in hG ht1301 (by decide)) (fun z => ne1358 (Option.some.inj z))
  have hc1387 := hH9.2 _ (tp_in hG ht1303 (by decide)) (fun z => ne1359 (Option.some.inj z))
  have hc1388 := hH9.2 _ (tp_in hG ht1305 (by decide)) (fun z => ne1360 (Option.some.inj z))
  have hc1389 := hH9.2 _ (tp_in hG ht1307 (by decide)) (fun z => ne1361 (Option.some.inj z))
  have hc1390 := hH9.2 _ (tp_in hG ht1309 (by decide)) (fun z => ne1362 (Option.some.inj z))
  have hc1391 := hH9.2 _ (tp_in hG ht1311 (by decide)) (fun z => ne1363 (Option.some.inj z))
  have hc1392 := hH9.2 _ (tp_in hG ht1312 (by decide)) (fun z => ne1364 (Option.some.inj z))
  have hc1393 := hH9.2 _ (tp_in hG ht1313 (by decide)) (fun z => ne1365 (Option.some.inj z))
  have hc1394 := hH9.2 _ (tp_in hG ht1314 (by decide)) (fun z => ne1366 (Option.some.inj z))
  have hc1395 := hH9.2 _ (tp_in hG ht1315 (by decide)) (fun z => ne1367 (Option.some.inj z))
  have hc1396 := hH9.2 _ (tp_in hG ht1316 (by decide)) (fun z => ne1368 (Option.some.inj z))
  have hc1397 := hH9.2 _ (tp_in hG ht1320 (by decide)) (fun z => ne1369 (Option.some.inj z))
  have hc1398 := hH9.2 _ hl1371 (fun z => ne1350 (Option.some.inj z))
  have hf1399 : f1379 h0 = .inr (10, [.int 0, .int 10, .int 700, .int 0, .int 0, .int 0, .int 0, .ref q9, .ref q35, .ref q64, .ref q87, .ref q114, .ref q156, .ref q213, .ref q274, .ref q339, .ref q408, .ref q481, .ref q558]) := (hc1398.2.2.2 (by rw [hz1317]; decide)).trans hf1370
  have hl1400 := hH9.1 _ hl1371
  have hc1401 := hH9.2 _ hl1373 (fun z => ne1351 (Option.some.inj z))
  have hf1402 : f1379 q64 = .inl (κ 4, 6, .inr (.inr (.inr (.inr (va_up (va_up (va_up (va_up (va_up (va_up (fun _ => none) (0 : Int32).toNatClampNeg (some q640)) (1 : Int32).toNatClampNeg (some q730)) (2 : Int32).toNatClampNeg (some q823)) (3 : Int32).toNatClampNeg (some q919)) (4 : Int32).toNatClampNeg (some q1018)) (5 : Int32).toNatClampNeg (some q1120)))))) := (hc1401.2.2.2 (by rw [hz1318]; decide)).trans hf1372
  have hl1403 := hH9.1 _ hl1373
  have hc1404 := hH9.2 _ hl1375 (fun z => ne1352 (Option.some.inj z))
  have hf1405 : f1379 q87 = .inl (κ 5, 6, .inr (.inr (.inr (.inr (va_up (fun _ => none) (0 : Int32).toNatClampNeg (some q1225)))))) := (hc1404.2.2.2 (by rw [hz1319]; decide)).trans hf1374
  have hl1406 := hH9.1 _ hl1375
  have hH := hH.call hH9 (by decide) (fun a ha _ z => hn1349 a ha (Option.some.inj z))
  have hG : tp_G τ_1380 ν_1380 ρ_1380 L_1380 := hG9; have hT : tp_T Ω κ τ_1380 ν_1380 ρ_1380 f1379 := hT9
  have hH : tp_H τ ν ρ L f [] (some h0) τ_1380 ν_1380 ρ_1380 L_1380 f1379 := hH
  have hz := hw1378p.2
  have hw1378p := hw1378p.1
  have hP := hB.1; rw [ht] at hP; have hD := tp_Dw hB.2.2 hFc; clear hB hFc hz1 hk1; subst ht; generalize t.heap = H at hP hS ⊢
  have hP : va_P (dC, dI) vwCl (va_pl L_1380 f1379) H := hP
  have hD : va_D A (va_pl L_1380 f1379) := hD
  have ht1407 : τ_1380 q9 = 20 := hc1381.1.trans ht1292
  have hn1408 : ν_1380 q9 = 25 := hc1381.2.1.trans hn1293
  have ht1409 : τ_1380 q35 = 20 := hc1382.1.trans ht1294
  have hn1410 : ν_1380 q35 = 100 := hc1382.2.1.trans hn1295
  have ht1411 : τ_1380 q114 = 26 := hc1383.1.trans ht1296
  have ht1412 : τ_1380 q156 = 7 := hc1384.1.trans ht1297
  have hx1413 : ρ_1380 q156 11 = 60 ∧ ρ_1380 q156 30 = (lb + 12) := by have q9 : ρ_1380 q156 = _ := hc1384.2.2.1; rw [q9]; exact hx1298
  have ht1414 : τ_1380 q213 = 7 := hc1385.1.trans ht1299
  have hx1415 : ρ_1380 q213 11 = 20 ∧ ρ_1380 q213 30 = (lb + 13) := by have q9 : ρ_1380 q213 = _ := hc1385.2.2.1; rw [q9]; exact hx1300
  have ht1416 : τ_1380 q274 = 7 := hc1386.1.trans ht1301
  have hx1417 : ρ_1380 q274 11 = 20 ∧ ρ_1380 q274 30 = (lb + 14) := by have q9 : ρ_1380 q274 = _ := hc1386.2.2.1; rw [q9]; exact hx1302
  have ht1418 : τ_1380 q339 = 5 := hc1387.1.trans ht1303
  have hx1419 : ρ_1380 q339 10 = 3 ∧ ρ_1380 q339 11 = 60 ∧ ρ_1380 q339 30 = (lb + 15) := by have q9 : ρ_1380 q339 = _ := hc1387.2.2.1; rw [q9]; exact hx1304
  have ht1420 : τ_1380 q408 = 5 := hc1388.1.trans ht1305
  have hx1421 : ρ_1380 q408 10 = 5 ∧ ρ_1380 q408 11 = 60 ∧ ρ_1380 q408 30 = (lb + 16) := by have q9 : ρ_1380 q408 = _ := hc1388.2.2.1; rw [q9]; exact hx1306
  have ht1422 : τ_1380 q481 = 5 := hc1389.1.trans ht1307
  have hx1423 : ρ_1380 q481 10 = 15 ∧ ρ_1380 q481 11 = 60 ∧ ρ_1380 q481 30 = (lb + 17) := by have q9 : ρ_1380 q481 = _ := hc1389.2.2.1; rw [q9]; exact hx1308
  have ht1424 : τ_1380 q558 = 5 := hc1390.1.trans ht1309
  have hx1425 : ρ_1380 q558 10 = 8 ∧ ρ_1380 q558 11 = 6 ∧ ρ_1380 q558 30 = (lb + 18) := by have q9 : ρ_1380 q558 = _ := hc1390.2.2.1; rw [q9]; exact hx1310
  have ht1426 : τ_1380 q640 = 9 := hc1391.1.trans ht1311
  have ht1427 : τ_1380 q730 = 9 := hc1392.1.trans ht1312
  have ht1428 : τ_1380 q823 = 9 := hc1393.1.trans ht1313
  have ht1429 : τ_1380 q919 = 9 := hc1394.1.trans ht1314
  have ht1430 : τ_1380 q1018 = 9 := hc1395.1.trans ht1315
  have ht1431 : τ_1380 q1120 = 9 := hc1396.1.trans ht1316
  have ht1432 : τ_1380 q1225 = 6 := hc1397.1.trans ht1320
  have hz1433 : τ_1380 h0 = 0 := hc1398.1.trans hz1317
  have hz1434 : τ_1380 q64 = 0 := hc1401.1.trans hz1318
  have hz1435 : τ_1380 q87 = 0 := hc1404.1.trans hz1319
  clear ht1292 hn1293 ht1294 hn1295 ht1296 ht1297 hx1298 ht1299 hx1300 ht1301 hx1302 ht1303 hx1304 ht1305 hx1306 ht1307 hx1308 ht1309 hx1310 ht1311 ht1312 ht1313 ht1314 ht1315 ht1316 ht1320 hz1317 hz1318 hz1319 ne1350 ne1351 ne1352 ne1353 ne1354 ne1355 ne1356 ne1357 ne1358 ne1359 ne1360 ne1361 ne1362 ne1363 ne1364 ne1365 ne1366 ne1367 ne1368 ne1369 hc1381 hc1382 hc1383 hc1384 hc1385 hc1386 hc1387 hc1388 hc1389 hc1390 hc1391 hc1392 hc1393 hc1394 hc1395 hc1396 hc1397 hc1398 hc1401 hc1404 hG9 hT9 hH9
  have ht1436 : τ_1380 q1338 = 6 := hw1378p
  refine tpk_pos hl1406 hf1405 (fun q1437 eq1437 => ?_)
  refine tgk_6 hG ht1436 (fun y1439 y1440 y1440n y1441 y1441n y1442 y1442n y1443 y1443n y1444 y1444n y1445 y1445n => ?_)
  refine tpk_6 hT ht1436 (fun o1446_x1 o1446_x2 o1446_x3 o1446_x4 o1446_x5 o1446_x6 o1446_x10 o1446_x11 o1446_x12 o1446_x14 hf_o1446 ro1446_0 ro1446_1 ro1446_2 => ?_)
  refine tpk_pos (tp_in hG ht1436 (by decide)) hf_o1446 (fun q1447 eq1447 => ?_)
  refine va_astq hx hb hK hP hD hS q1437 5 q1447 5 eq1437 rfl eq1447 rfl (vp_in_iff.mpr ⟨by decide, by decide⟩) dX10_init_204 (tp_k (.inl (κ 5, 6, .inr (.inr (.inr (.inr (va_up (va_up (fun _ => none) (0 : Int32).toNatClampNeg (some q1225)) (1 : Int32).toNatClampNeg (some q1338))))))) hD hl1406 eq1437 (fun f1448 H locs hP hD hS g1450 k1449 => ?_))
  have hT := hT.raw hz1435 k1449
  have hz := tp_Z0.wt hz hz1435 (by decide) k1449
  have hH := hH.wn hn99 k1449
  have hf1451 : f1448 h0 = .inr (10, [.int 0, .int 10, .int 700, .int 0, .int 0, .int 0, .int 0, .ref q9, .ref q35, .ref q64, .ref q87, .ref q114, .ref q156, .ref q213, .ref q274, .ref q339, .ref q408, .ref q481, .ref q558]) := (k1449 _ ne100).trans hf1399
  have hf1452 : f1448 q64 = .inl (κ 4, 6, .inr (.inr (.inr (.inr (va_up (va_up (va_up (va_up (va_up (va_up (fun _ => none) (0 : Int32).toNatClampNeg (some q640)) (1 : Int32).toNatClampNeg (some q730)) (2 : Int32).toNatClampNeg (some q823)) (3 : Int32).toNatClampNeg (some q919)) (4 : Int32).toNatClampNeg (some q1018)) (5 : Int32).toNatClampNeg (some q1120)))))) := (k1449 _ ne101).trans hf1402
  clear hf1399 hf1402
  refine lv_iinc (v := 2) (lv' := [(1, .int 2), (0, .ref h0)]) hx hb dX10_init_205 hl (k := 0) rfl (by decide) (by decide) rfl (fun ls hl => ?_)
  refine lv_goto (tgt := 186) hx hb dX10_init_208 (by decide) ?_
  refine lv_iload_n hx hb dX10_init_186 rfl (lv_at hl 0 rfl) ?_
  refine lv_bipush (v := 6) hx hb dX10_init_187 (by decide) ?_
  refine lv_icmp_ge (tgt := 211) hx hb dX10_init_189 (by decide) (fun c9 => absurd c9 (by decide)) (fun _ => ?_)
  refine lv_aload_n hx hb dX10_init_192 rfl (lv_at hl 1 rfl) ?_
  refine tpk_pos hl1400 hf1451 (fun q1453 eq1453 => ?_)
  refine va_get (D := (dC, dI)) (ci := 10) (v := .ref q87) (C := RX10) (T := TX10) (N := 19) hx hb hts hfX10 hown hK hP q1453 eq1453 rfl 10 (by decide) (hts (.fieldLink RX10 33 "ColdShips$World" "ships" "[LColdShips$Ship;") wa_45) (fun _ h9 => h9) rfl dX10_init_193 ?_
  refine lv_iload_n hx hb dX10_init_196 rfl (lv_at hl 0 rfl) ?_
  refine va_new (ci := 5) (fs := [.null, .int 0, .int 0, .int 0, .int 0, .int 0, .int 0, .null, .null, .null, .int 0, .int 0, .int 0, .null, .int 0, .null, .null]) (C := RX5) (T := TX5) (N := 17) hx hb hts hfX5 tyX5 tyX5_ok hown (hts (.classLink RX10 31 RX5) wa_44) (hts (.instantiable RX5 17) wa_63) (hts (.initialized RX5) wa_64) hK hP hD hS hA rfl (fun j hj => by rcases tpj_17 j hj with rfl | rfl | rfl | rfl | rfl | rfl | rfl | rfl | rfl | rfl | rfl | rfl | rfl | rfl | rfl | rfl | rfl <;> rfl) (Nat.le_of_ble_eq_true rfl) (Nat.le_of_ble_eq_true rfl) dX10_init_197 (fun q1454 H hP hD hS => ?_)
  refine Exists.elim (tp_grow hG hT hP hD) (fun L1464 hE90 => Exists.elim hE90 (fun f1463 hE91 => tn_10 hE91 (fun hP hD hg1455 ht1456 hs1457 hq1458 hz1459 hn1460 hf1461 ho1462 => ?_)))
  clear hE91 hE90
  have hn1465 : ∀ a, a ∈ L → a ≠ q1454 := fun a ha => hn1460 a (hH.1 a ha)
  have ne1466 : h0 ≠ q1454 := hn1460 _ hl1400
  have ne1467 : q64 ≠ q1454 := hn1460 _ hl1403
  have ne1468 : q87 ≠ q1454 := hn1460 _ hl1406
  have ne1469 : q9 ≠ q1454 := hn1460 _ (tp_in hG ht1407 (by decide))
  have ne1470 : q35 ≠ q1454 := hn1460 _ (tp_in hG ht1409 (by decide))
  have ne1471 : q114 ≠ q1454 := hn1460 _ (tp_in hG ht1411 (by decide))
  have ne1472 : q156 ≠ q1454 := hn1460 _ (tp_in hG ht1412 (by decide))
  have ne1473 : q213 ≠ q1454 := hn1460 _ (tp_in hG ht1414 (by decide))
  have ne1474 : q274 ≠ q1454 := hn1460 _ (tp_in hG ht1416 (by decide))
  have ne1475 : q339 ≠ q1454 := hn1460 _ (tp_in hG ht1418 (by decide))
  have ne1476 : q408 ≠ q1454 := hn1460 _ (tp_in hG ht1420 (by decide))
  have ne1477 : q481 ≠ q1454 := hn1460 _ (tp_in hG ht1422 (by decide))
  have ne1478 : q558 ≠ q1454 := hn1460 _ (tp_in hG ht1424 (by decide))
  have ne1479 : q640 ≠ q1454 := hn1460 _ (tp_in hG ht1426 (by decide))
  have ne1480 : q730 ≠ q1454 := hn1460 _ (tp_in hG ht1427 (by decide))
  have ne1481 : q823 ≠ q1454 := hn1460 _ (tp_in hG ht1428 (by decide))
  have ne1482 : q919 ≠ q1454 := hn1460 _ (tp_in hG ht1429 (by decide))
  have ne1483 : q1018 ≠ q1454 := hn1460 _ (tp_in hG ht1430 (by decide))
  have ne1484 : q1120 ≠ q1454 := hn1460 _ (tp_in hG ht1431 (by decide))
  have ne1485 : q1225 ≠ q1454 := hn1460 _ (tp_in hG ht1432 (by decide))
  have ne1486 : q1338 ≠ q1454 := hn1460 _ (tp_in hG ht1436 (by decide))
  have hG := hg1455
  have hT := ht1456
  have hH := hH.gr hs1457 hn1460 ho1462
  have hz := tp_Z0.wt hz hz1459 (by decide) ho1462
  have hf1487 : f1463 h0 = .inr (10, [.int 0, .int 10, .int 700, .int 0, .int 0, .int 0, .int 0, .ref q9, .ref q35, .ref q64, .ref q87, .ref q114, .ref q156, .ref q213, .ref q274, .ref q339, .ref q408, .ref q481, .ref q558]) := (ho1462 _ ne1466).trans hf1451
  have hl1488 : h0 ∈ L1464 := hs1457 _ hl1400
  have hf1489 : f1463 q64 = .inl (κ 4, 6, .inr (.inr (.inr (.inr (va_up (va_up (va_up (va_up (va_up (va_up (fun _ => none) (0 : Int32).toNatClampNeg (some q640)) (1 : Int32).toNatClampNeg (some q730)) (2 : Int32).toNatClampNeg (some q823)) (3 : Int32).toNatClampNeg (some q919)) (4 : Int32).toNatClampNeg (some q1018)) (5 : Int32).toNatClampNeg (some q1120)))))) := (ho1462 _ ne1467).trans hf1452
  have hl1490 : q64 ∈ L1464 := hs1457 _ hl1403
  have hf1491 : f1463 q87 = .inl (κ 5, 6, .inr (.inr (.inr (.inr (va_up (va_up (fun _ => none) (0 : Int32).toNatClampNeg (some q1225)) (1 : Int32).toNatClampNeg (some q1338)))))) := (ho1462 _ ne1468).trans g1450
  have hl1492 : q87 ∈ L1464 := hs1457 _ hl1406
  clear hf1451 hl1400 hf1452 hl1403 g1450 hl1406
  refine lv_dup hx hb dX10_init_200 rfl ?_
  have hFc := tp_fr hD hS hA
  refine va_callv (va_runIN (As := []) (rest := [.ref q1454, .int 2, .ref q87]) ⟨hx, hb, hml, hown, hts⟩ (t_X5_init l dC dI _ Ω κ τ_1380 ν_1380 ρ_1380 L1464 f1463 hG hT q1454 Zb hq1458 hz1459 hf1461 hz) ⟨(va_cnB (host := "ColdShips") 0 hts ggX10_init_X5_init rfl rfl rfl (hN.1 (.methodLinkNest RX10 77 yX5_init "ColdShips") nzw_105) (hts (.initialized RX5) wa_64) pd_X5_init ⟨Nat.le_of_ble_eq_true rfl, Nat.le_of_ble_eq_true rfl⟩), rfl, (hts (.instanceMethod yX5_init) wa_90)⟩ ⟨pz_blind, pz_pre hP hK hD hN⟩ rfl rfl hl.1 rfl (lv_room (Nat.le_of_ble_eq_true rfl)) dX10_init_201 ⟨Nat.le_of_ble_eq_true rfl, Nat.le_of_ble_eq_true rfl⟩) hS (fun q _ h => hFc q h) hFc (fun x1493 t H1 locs ht hvm hw1495 hB hz1 hk1 hS => ?_)
  obtain ⟨τ_1497, ν_1497, ρ_1497, L_1497, f1496⟩ := x1493
  obtain ⟨⟨hG9, hT9, hH9⟩, hw1495p⟩ := hw1495
  have hc1498 := hH9.2 _ (tp_in hG ht1407 (by decide)) (fun z => ne1469 (Option.some.inj z))
  have hc1499 := hH9.2 _ (tp_in hG ht1409 (by decide)) (fun z => ne1470 (Option.some.inj z))
  have hc1500 := hH9.2 _ (tp_in hG ht1411 (by decide)) (fun z => ne1471 (Option.some.inj z))
  have hc1501 := hH9.2 _ (tp_in hG ht1412 (by decide)) (fun z => ne1472 (Option.some.inj z))
  have hc1502 := hH9.2 _ (tp_in hG ht1414 (by decide)) (fun z => ne1473 (Option.some.inj z))
  have hc1503 := hH9.2 _ (tp_in hG ht1416 (by decide)) (fun z => ne1474 (Option.some.inj z))
  have hc1504 := hH9.2 _ (tp_in hG ht1418 (by decide)) (fun z => ne1475 (Option.some.inj z))
  have hc1505 := hH9.2 _ (tp_in hG ht1420 (by decide)) (fun z => ne1476 (Option.some.inj z))
  have hc1506 := hH9.2 _ (tp_in hG ht1422 (by decide)) (fun z => ne1477 (Option.some.inj z))
  have hc1507 := hH9.2 _ (tp_in hG ht1424 (by decide)) (fun z => ne1478 (Option.some.inj z))
  have hc1508 := hH9.2 _ (tp_in hG ht1426 (by decide)) (fun z => ne1479 (Option.some.inj z))
  have hc1509 := hH9.2 _ (tp_in hG ht1427 (by decide)) (fun z => ne1480 (Option.some.inj z))
  have hc1510 := hH9.2 _ (tp_in hG ht1428 (by decide)) (fun z => ne1481 (Option.some.inj z))
  have hc1511 := hH9.2 _ (tp_in hG ht1429 (by decide)) (fun z => ne1482 (Option.some.inj z))
  have hc1512 := hH9.2 _ (tp_in hG ht1430 (by decide)) (fun z => ne1483 (Option.some.inj z))
  have hc1513 := hH9.2 _ (tp_in hG ht1431 (by decide)) (fun z => ne1484 (Option.some.inj z))
  have hc1514 := hH9.2 _ (tp_in hG ht1432 (by decide)) (fun z => ne1485 (Option.some.inj z))
  have hc1515 := hH9.2 _ (tp_in hG ht1436 (by decide)) (fun z => ne1486 (Option.some.inj z))
  have hc1516 := hH9.2 _ hl1488 (fun z => ne1466 (Option.some.inj z))
  have hf1517 : f1496 h0 = .inr (10, [.int 0, .int 10, .int 700, .int 0, .int 0, .int 0, .int 0, .ref q9, .ref q35, .ref q64, .ref q87, .ref q114, .ref q156, .ref q213, .ref q274, .ref q339, .ref q408, .ref q481, .ref q558]) := (hc1516.2.2.2 (by rw [hz1433]; decide)).trans hf1487
  have hl1518 := hH9.1 _ hl1488
  have hc1519 := hH9.2 _ hl1490 (fun z => ne1467 (Option.some.inj z))
  have hf1520 : f1496 q64 = .inl (κ 4, 6, .inr (.inr (.inr (.inr (va_up (va_up (va_up (va_up (va_up (va_up (fun _ => none) (0 : Int32).toNatClampNeg (some q640)) (1 : Int32).toNatClampNeg (some q730)) (2 : Int32).toNatClampNeg (some q823)) (3 : Int32).toNatClampNeg (some q919)) (4 : Int32).toNatClampNeg (some q1018)) (5 : Int32).toNatClampNeg (some q1120)))))) := (hc1519.2.2.2 (by rw [hz1434]; decide)).trans hf1489
  have hl1521 := hH9.1 _ hl1490
  have hc1522 := hH9.2 _ hl1492 (fun z => ne1468 (Option.some.inj z))
  have hf1523 : f1496 q87 = .inl (κ 5, 6, .inr (.inr (.inr (.inr (va_up (va_up (fun _ => none) (0 : Int32).toNatClampNeg (some q1225)) (1 : Int32).toNatClampNeg (some q1338)))))) := (hc1522.2.2.2 (by rw [hz1435]; decide)).trans hf1491
  have hl1524 := hH9.1 _ hl1492
  have hH := hH.call hH9 (by decide) (fun a ha _ z => hn1465 a ha (Option.some.inj z))
  have hG : tp_G τ_1497 ν_1497 ρ_1497 L_1497 := hG9; have hT : tp_T Ω κ τ_1497 ν_1497 ρ_1497 f1496 := hT9
  have hH : tp_H τ ν ρ L f [] (some h0) τ_1497 ν_1497 ρ_1497 L_1497 f1496 := hH
  have hz := hw1495p.2
  have hw1495p := hw1495p.1
  have hP := hB.1; rw [ht] at hP; have hD := tp_Dw hB.2.2 hFc; clear hB hFc hz1 hk1; subst ht; generalize t.heap = H at hP hS ⊢
  have hP : va_P (dC, dI) vwCl (va_pl L_1497 f1496) H := hP
  have hD : va_D A (va_pl L_1497 f1496) := hD
  have ht1525 : τ_1497 q9 = 20 := hc1498.1.trans ht1407
  have hn1526 : ν_1497 q9 = 25 := hc1498.2.1.trans hn1408
  have ht1527 : τ_1497 q35 = 20 := hc1499.1.trans ht1409
  have hn1528 : ν_1497 q35 = 100 := hc1499.2.1.trans hn1410
  have ht1529 : τ_1497 q114 = 26 := hc1500.1.trans ht1411
  have ht1530 : τ_1497 q156 = 7 := hc1501.1.trans ht1412
  have hx1531 : ρ_1497 q156 11 = 60 ∧ ρ_1497 q156 30 = (lb + 12) := by have q9 : ρ_1497 q156 = _ := hc1501.2.2.1; rw [q9]; exact hx1413
  have ht1532 : τ_1497 q213 = 7 := hc1502.1.trans ht1414
  have hx1533 : ρ_1497 q213 11 = 20 ∧ ρ_1497 q213 30 = (lb + 13) := by have q9 : ρ_1497 q213 = _ := hc1502.2.2.1; rw [q9]; exact hx1415
  have ht1534 : τ_1497 q274 = 7 := hc1503.1.trans ht1416
  have hx1535 : ρ_1497 q274 11 = 20 ∧ ρ_1497 q274 30 = (lb + 14) := by have q9 : ρ_1497 q274 = _ := hc1503.2.2.1; rw [q9]; exact hx1417
  have ht1536 : τ_1497 q339 = 5 := hc1504.1.trans ht1418
  have hx1537 : ρ_1497 q339 10 = 3 ∧ ρ_1497 q339 11 = 60 ∧ ρ_1497 q339 30 = (lb + 15) := by have q9 : ρ_1497 q339 = _ := hc1504.2.2.1; rw [q9]; exact hx1419
  have ht1538 : τ_1497 q408 = 5 := hc1505.1.trans ht1420
  have hx1539 : ρ_1497 q408 10 = 5 ∧ ρ_1497 q408 11 = 60 ∧ ρ_1497 q408 30 = (lb + 16) := by have q9 : ρ_1497 q408 = _ := hc1505.2.2.1; rw [q9]; exact hx1421
  have ht1540 : τ_1497 q481 = 5 := hc1506.1.trans ht1422
  have hx1541 : ρ_1497 q481 10 = 15 ∧ ρ_1497 q481 11 = 60 ∧ ρ_1497 q481 30 = (lb + 17) := by have q9 : ρ_1497 q481 = _ := hc1506.2.2.1; rw [q9]; exact hx1423
  have ht1542 : τ_1497 q558 = 5 := hc1507.1.trans ht1424
  have hx1543 : ρ_1497 q558 10 = 8 ∧ ρ_1497 q558 11 = 6 ∧ ρ_1497 q558 30 = (lb + 18) := by have q9 : ρ_1497 q558 = _ := hc1507.2.2.1; rw [q9]; exact hx1425
  have ht1544 : τ_1497 q640 = 9 := hc1508.1.trans ht1426
  have ht1545 : τ_1497 q730 = 9 := hc1509.1.trans ht1427
  have ht1546 : τ_1497 q823 = 9 := hc1510.1.trans ht1428
  have ht1547 : τ_1497 q919 = 9 := hc1511.1.trans ht1429
  have ht1548 : τ_1497 q1018 = 9 := hc1512.1.trans ht1430
  have ht1549 : τ_1497 q1120 = 9 := hc1513.1.trans ht1431
  have ht1550 : τ_1497 q1225 = 6 := hc1514.1.trans ht1432
  have ht1551 : τ_1497 q1338 = 6 := hc1515.1.trans ht1436
  have hz1552 : τ_1497 h0 = 0 := hc1516.1.trans hz1433
  have hz1553 : τ_1497 q64 = 0 := hc1519.1.trans hz1434
  have hz1554 : τ_1497 q87 = 0 := hc1522.1.trans hz1435
  clear ht1407 hn1408 ht1409 hn1410 ht1411 ht1412 hx1413 ht1414 hx1415 ht1416 hx1417 ht1418 hx1419 ht1420 hx1421 ht1422 hx1423 ht1424 hx1425 ht1426 ht1427 ht1428 ht1429 ht1430 ht1431 ht1432 ht1436 hz1433 hz1434 hz1435 ne1466 ne1467 ne1468 ne1469 ne1470 ne1471 ne1472 ne1473 ne1474 ne1475 ne1476 ne1477 ne1478 ne1479 ne1480 ne1481 ne1482 ne1483 ne1484 ne1485 ne1486 hc1498 hc1499 hc1500 hc1501 hc1502 hc1503 hc1504 hc1505 hc1506 hc1507 hc1508 hc1509 hc1510 hc1511 hc1512 hc1513 hc1514 hc1515 hc1516 hc1519 hc1522 hG9 hT9 hH9
  have ht1555 : τ_1497 q1454 = 6 := hw1495p
  refine tpk_pos hl1524 hf1523 (fun q1556 eq1556 => ?_)
  refine tgk_6 hG ht1555 (fun y1558 y1559 y1559n y1560 y1560n y1561 y1561n y1562 y1562n y1563 y1563n y1564 y1564n => ?_)
  refine tpk_6 hT ht1555 (fun o1565_x1 o1565_x2 o1565_x3 o1565_x4 o1565_x5 o1565_x6 o1565_x10 o1565_x11 o1565_x12 o1565_x14 hf_o1565 ro1565_0 ro1565_1 ro1565_2 => ?_)
  refine tpk_pos (tp_in hG ht1555 (by decide)) hf_o1565 (fun q1566 eq1566 => ?_)
  refine va_astq hx hb hK hP hD hS q1556 5 q1566 5 eq1556 rfl eq1566 rfl (vp_in_iff.mpr ⟨by decide, by decide⟩) dX10_init_204 (tp_k (.inl (κ 5, 6, .inr (.inr (.inr (.inr (va_up (va_up (va_up (fun _ => none) (0 : Int32).toNatClampNeg (some q1225)) (1 : Int32).toNatClampNeg (some q1338)) (2 : Int32).toNatClampNeg (some q1454))))))) hD hl1524 eq1556 (fun f1567 H locs hP hD hS g1569 k1568 => ?_))
  have hT := hT.raw hz1554 k1568
  have hz := tp_Z0.wt hz hz1554 (by decide) k1568
  have hH := hH.wn hn99 k1568
  have hf1570 : f1567 h0 = .inr (10, [.int 0, .int 10, .int 700, .int 0, .int 0, .int 0, .int 0, .ref q9, .ref q35, .ref q64, .ref q87, .ref q114, .ref q156, .ref q213, .ref q274, .ref q339, .ref q408, .ref q481, .ref q558]) := (k1568 _ ne100).trans hf1517
  have hf1571 : f1567 q64 = .inl (κ 4, 6, .inr (.inr (.inr (.inr (va_up (va_up (va_up (va_up (va_up (va_up (fun _ => none) (0 : Int32).toNatClampNeg (some q640)) (1 : Int32).toNatClampNeg (some q730)) (2 : Int32).toNatClampNeg (some q823)) (3 : Int32).toNatClampNeg (some q919)) (4 : Int32).toNatClampNeg (some q1018)) (5 : Int32).toNatClampNeg (some q1120)))))) := (k1568 _ ne101).trans hf1520
  clear hf1517 hf1520
  refine lv_iinc (v := 3) (lv' := [(1, .int 3), (0, .ref h0)]) hx hb dX10_init_205 hl (k := 0) rfl (by decide) (by decide) rfl (fun ls hl => ?_)
  refine lv_goto (tgt := 186) hx hb dX10_init_208 (by decide) ?_
  refine lv_iload_n hx hb dX10_init_186 rfl (lv_at hl 0 rfl) ?_
  refine lv_bipush (v := 6) hx hb dX10_init_187 (by decide) ?_
  refine lv_icmp_ge (tgt := 211) hx hb dX10_init_189 (by decide) (fun c9 => absurd c9 (by decide)) (fun _ => ?_)
  refine lv_aload_n hx hb dX10_init_192 rfl (lv_at hl 1 rfl) ?_
  refine tpk_pos hl1518 hf1570 (fun q1572 eq1572 => ?_)
  refine va_get (D := (dC, dI)) (ci := 10) (v := .ref q87) (C := RX10) (T := TX10) (N := 19) hx hb hts hfX10 hown hK hP q1572 eq1572 rfl 10 (by decide) (hts (.fieldLink RX10 33 "ColdShips$World" "ships" "[LColdShips$Ship;") wa_45) (fun _ h9 => h9) rfl dX10_init_193 ?_
  refine lv_iload_n hx hb dX10_init_196 rfl (lv_at hl 0 rfl) ?_
  refine va_new (ci := 5) (fs := [.null, .int 0, .int 0, .int 0, .int 0, .int 0, .int 0, .null, .null, .null, .int 0, .int 0, .int 0, .null, .int 0, .null, .null]) (C := RX5) (T := TX5) (N := 17) hx hb hts hfX5 tyX5 tyX5_ok hown (hts (.classLink RX10 31 RX5) wa_44) (hts (.instantiable RX5 17) wa_63) (hts (.initialized RX5) wa_64) hK hP hD hS hA rfl (fun j hj => by rcases tpj_17 j hj with rfl | rfl | rfl | rfl | rfl | rfl | rfl | rfl | rfl | rfl | rfl | rfl | rfl | rfl | rfl | rfl | rfl <;> rfl) (Nat.le_of_ble_eq_true rfl) (Nat.le_of_ble_eq_true rfl) dX10_init_197 (fun q1573 H hP hD hS => ?_)
  refine Exists.elim (tp_grow hG hT hP hD) (fun L1583 hE90 => Exists.elim hE90 (fun f1582 hE91 => tn_10 hE91 (fun hP hD hg1574 ht1575 hs1576 hq1577 hz1578 hn1579 hf1580 ho1581 => ?_)))
  clear hE91 hE90
  have hn1584 : ∀ a, a ∈ L → a ≠ q1573 := fun a ha => hn1579 a (hH.1 a ha)
  have ne1585 : h0 ≠ q1573 := hn1579 _ hl1518
  have ne1586 : q64 ≠ q1573 := hn1579 _ hl1521
  have ne1587 : q87 ≠ q1573 := hn1579 _ hl1524
  have ne1588 : q9 ≠ q1573 := hn1579 _ (tp_in hG ht1525 (by decide))
  have ne1589 : q35 ≠ q1573 := hn1579 _ (tp_in hG ht1527 (by decide))
  have ne1590 : q114 ≠ q1573 := hn1579 _ (tp_in hG ht1529 (by decide))
  have ne1591 : q156 ≠ q1573 := hn1579 _ (tp_in hG ht1530 (by decide))
  have ne1592 : q213 ≠ q1573 := hn1579 _ (tp_in hG ht1532 (by decide))
  have ne1593 : q274 ≠ q1573 := hn1579 _ (tp_in hG ht1534 (by decide))
  have ne1594 : q339 ≠ q1573 := hn1579 _ (tp_in hG ht1536 (by decide))
  have ne1595 : q408 ≠ q1573 := hn1579 _ (tp_in hG ht1538 (by decide))
  have ne1596 : q481 ≠ q1573 := hn1579 _ (tp_in hG ht1540 (by decide))
  have ne1597 : q558 ≠ q1573 := hn1579 _ (tp_in hG ht1542 (by decide))
  have ne1598 : q640 ≠ q1573 := hn1579 _ (tp_in hG ht1544 (by decide))
  have ne1599 : q730 ≠ q1573 := hn1579 _ (tp_in hG ht1545 (by decide))
  have ne1600 : q823 ≠ q1573 := hn1579 _ (tp_in hG ht1546 (by decide))
  have ne1601 : q919 ≠ q1573 := hn1579 _ (tp_in hG ht1547 (by decide))
  have ne1602 : q1018 ≠ q1573 := hn1579 _ (tp_in hG ht1548 (by decide))
  have ne1603 : q1120 ≠ q1573 := hn1579 _ (tp_in hG ht1549 (by decide))
  have ne1604 : q1225 ≠ q1573 := hn1579 _ (tp_in hG ht1550 (by decide))
  have ne1605 : q1338 ≠ q1573 := hn1579 _ (tp_in hG ht1551 (by decide))
  have ne1606 : q1454 ≠ q1573 := hn1579 _ (tp_in hG ht1555 (by decide))
  have hG := hg1574
  have hT := ht1575
  have hH := hH.gr hs1576 hn1579 ho1581
  have hz := tp_Z0.wt hz hz1578 (by decide) ho1581
  have hf1607 : f1582 h0 = .inr (10, [.int 0, .int 10, .int 700, .int 0, .int 0, .int 0, .int 0, .ref q9, .ref q35, .ref q64, .ref q87, .ref q114, .ref q156, .ref q213, .ref q274, .ref q339, .ref q408, .ref q481, .ref q558]) := (ho1581 _ ne1585).trans hf1570
  have hl1608 : h0 ∈ L1583 := hs1576 _ hl1518
  have hf1609 : f1582 q64 = .inl (κ 4, 6, .inr (.inr (.inr (.inr (va_up (va_up (va_up (va_up (va_up (va_up (fun _ => none) (0 : Int32).toNatClampNeg (some q640)) (1 : Int32).toNatClampNeg (some q730)) (2 : Int32).toNatClampNeg (some q823)) (3 : Int32).toNatClampNeg (some q919)) (4 : Int32).toNatClampNeg (some q1018)) (5 : Int32).toNatClampNeg (some q1120)))))) := (ho1581 _ ne1586).trans hf1571
  have hl1610 : q64 ∈ L1583 := hs1576 _ hl1521
  have hf1611 : f1582 q87 = .inl (κ 5, 6, .inr (.inr (.inr (.inr (va_up (va_up (va_up (fun _ => none) (0 : Int32).toNatClampNeg (some q1225)) (1 : Int32).toNatClampNeg (some q1338)) (2 : Int32).toNatClampNeg (some q1454)))))) := (ho1581 _ ne1587).trans g1569
  have hl1612 : q87 ∈ L1583 := hs1576 _ hl1524
  clear hf1570 hl1518 hf1571 hl1521 g1569 hl1524
  refine lv_dup hx hb dX10_init_200 rfl ?_
  have hFc := tp_fr hD hS hA
  refine va_callv (va_runIN (As := []) (rest := [.ref q1573, .int 3, .ref q87]) ⟨hx, hb, hml, hown, hts⟩ (t_X5_init l dC dI _ Ω κ τ_1497 ν_1497 ρ_1497 L1583 f1582 hG hT q1573 Zb hq1577 hz1578 hf1580 hz) ⟨(va_cnB (host := "ColdShips") 0 hts ggX10_init_X5_init rfl rfl rfl (hN.1 (.methodLinkNest RX10 77 yX5_init "ColdShips") nzw_105) (hts (.initialized RX5) wa_64) pd_X5_init ⟨Nat.le_of_ble_eq_true rfl, Nat.le_of_ble_eq_true rfl⟩), rfl, (hts (.instanceMethod yX5_init) wa_90)⟩ ⟨pz_blind, pz_pre hP hK hD hN⟩ rfl rfl hl.1 rfl (lv_room (Nat.le_of_ble_eq_true rfl)) dX10_init_201 ⟨Nat.le_of_ble_eq_true rfl, Nat.le_of_ble_eq_true rfl⟩) hS (fun q _ h => hFc q h) hFc (fun x1613 t H1 locs ht hvm hw1615 hB hz1 hk1 hS => ?_)
  obtain ⟨τ_1617, ν_1617, ρ_1617, L_1617, f1616⟩ := x1613
  obtain ⟨⟨hG9, hT9, hH9⟩, hw1615p⟩ := hw1615
  have hc1618 := hH9.2 _ (tp_in hG ht1525 (by decide)) (fun z => ne1588 (Option.some.inj z))
  have hc1619 := hH9.2 _ (tp_in hG ht1527 (by decide)) (fun z => ne1589 (Option.some.inj z))
  have hc1620 := hH9.2 _ (tp_in hG ht1529 (by decide)) (fun z => ne1590 (Option.some.inj z))
  have hc1621 := hH9.2 _ (tp_in hG ht1530 (by decide)) (fun z => ne1591 (Option.some.inj z))
  have hc1622 := hH9.2 _ (tp_in hG ht1532 (by decide)) (fun z => ne1592 (Option.some.inj z))
  have hc1623 := hH9.2 _ (tp_in hG ht1534 (by decide)) (fun z => ne1593 (Option.some.inj z))
  have hc1624 := hH9.2 _ (tp_in hG ht1536 (by decide)) (fun z => ne1594 (Option.some.inj z))
  have hc1625 := hH9.2 _ (tp_in hG ht1538 (by decide)) (fun z => ne1595 (Option.some.inj z))
  have hc1626 := hH9.2 _ (tp_in hG ht1540 (by decide)) (fun z => ne1596 (Option.some.inj z))
  have hc1627 := hH9.2 _ (tp_in hG ht1542 (by decide)) (fun z => ne1597 (Option.some.inj z))
  have hc1628 := hH9.2 _ (tp_in hG ht1544 (by decide)) (fun z => ne1598 (Option.some.inj z))
  have hc1629 := hH9.2 _ (tp_in hG ht1545 (by decide)) (fun z => ne1599 (Option.some.inj z))
  have hc1630 := hH9.2 _ (tp_in hG ht1546 (by decide)) (fun z => ne1600 (Option.some.inj z))
  have hc1631 := hH9.2 _ (tp_in hG ht1547 (by decide)) (fun z => ne1601 (Option.some.inj z))
  have hc1632 := hH9.2 _ (tp_in hG ht1548 (by decide)) (fun z => ne1602 (Option.some.inj z))
  have hc1633 := hH9.2 _ (tp_in hG ht1549 (by decide)) (fun z => ne1603 (Option.some.inj z))
  have hc1634 := hH9.2 _ (tp_in hG ht1550 (by decide)) (fun z => ne1604 (Option.some.inj z))
  have hc1635 := hH9.2 _ (tp_in hG ht1551 (by decide)) (fun z => ne1605 (Option.some.inj z))
  have hc1636 := hH9.2 _ (tp_in hG ht1555 (by decide)) (fun z => ne1606 (Option.some.inj z))
  have hc1637 := hH9.2 _ hl1608 (fun z => ne1585 (Option.some.inj z))
  have hf1638 : f1616 h0 = .inr (10, [.int 0, .int 10, .int 700, .int 0, .int 0, .int 0, .int 0, .ref q9, .ref q35, .ref q64, .ref q87, .ref q114, .ref q156, .ref q213, .ref q274, .ref q339, .ref q408, .ref q481, .ref q558]) := (hc1637.2.2.2 (by rw [hz1552]; decide)).trans hf1607
  have hl1639 := hH9.1 _ hl1608
  have hc1640 := hH9.2 _ hl1610 (fun z => ne1586 (Option.some.inj z))
  have hf1641 : f1616 q64 = .inl (κ 4, 6, .inr (.inr (.inr (.inr (va_up (va_up (va_up (va_up (va_up (va_up (fun _ => none) (0 : Int32).toNatClampNeg (some q640)) (1 : Int32).toNatClampNeg (some q730)) (2 : Int32).toNatClampNeg (some q823)) (3 : Int32).toNatClampNeg (some q919)) (4 : Int32).toNatClampNeg (some q1018)) (5 : Int32).toNatClampNeg (some q1120)))))) := (hc1640.2.2.2 (by rw [hz1553]; decide)).trans hf1609
  have hl1642 := hH9.1 _ hl1610
  have hc1643 := hH9.2 _ hl1612 (fun z => ne1587 (Option.some.inj z))
  have hf1644 : f1616 q87 = .inl (κ 5, 6, .inr (.inr (.inr (.inr (va_up (va_up (va_up (fun _ => none) (0 : Int32).toNatClampNeg (some q1225)) (1 : Int32).toNatClampNeg (some q1338)) (2 : Int32).toNatClampNeg (some q1454)))))) := (hc1643.2.2.2 (by rw [hz1554]; decide)).trans hf1611
  have hl1645 := hH9.1 _ hl1612
  have hH := hH.call hH9 (by decide) (fun a ha _ z => hn1584 a ha (Option.some.inj z))
  have hG : tp_G τ_1617 ν_1617 ρ_1617 L_1617 := hG9; have hT : tp_T Ω κ τ_1617 ν_1617 ρ_1617 f1616 := hT9
  have hH : tp_H τ ν ρ L f [] (some h0) τ_1617 ν_1617 ρ_1617 L_1617 f1616 := hH
  have hz := hw1615p.2
  have hw1615p := hw1615p.1
  have hP := hB.1; rw [ht] at hP; have hD := tp_Dw hB.2.2 hFc; clear hB hFc hz1 hk1; subst ht; generalize t.heap = H at hP hS ⊢
  have hP : va_P (dC, dI) vwCl (va_pl L_1617 f1616) H := hP
  have hD : va_D A (va_pl L_1617 f1616) := hD
  have ht1646 : τ_1617 q9 = 20 := hc1618.1.trans ht1525
  have hn1647 : ν_1617 q9 = 25 := hc1618.2.1.trans hn1526
  have ht1648 : τ_1617 q35 = 20 := hc1619.1.trans ht1527
  have hn1649 : ν_1617 q35 = 100 := hc1619.2.1.trans hn1528
  have ht1650 : τ_1617 q114 = 26 := hc1620.1.trans ht1529
  have ht1651 : τ_1617 q156 = 7 := hc1621.1.trans ht1530
  have hx1652 : ρ_1617 q156 11 = 60 ∧ ρ_1617 q156 30 = (lb + 12) := by have q9 : ρ_1617 q156 = _ := hc1621.2.2.1; rw [q9]; exact hx1531
  have ht1653 : τ_1617 q213 = 7 := hc1622.1.trans ht1532
  have hx1654 : ρ_1617 q213 11 = 20 ∧ ρ_1617 q213 30 = (lb + 13) := by have q9 : ρ_1617 q213 = _ := hc1622.2.2.1; rw [q9]; exact hx1533
  have ht1655 : τ_1617 q274 = 7 := hc1623.1.trans ht1534
  have hx1656 : ρ_1617 q274 11 = 20 ∧ ρ_1617 q274 30 = (lb + 14) := by have q9 : ρ_1617 q274 = _ := hc1623.2.2.1; rw [q9]; exact hx1535
  have ht1657 : τ_1617 q339 = 5 := hc1624.1.trans ht1536
  have hx1658 : ρ_1617 q339 10 = 3 ∧ ρ_1617 q339 11 = 60 ∧ ρ_1617 q339 30 = (lb + 15) := by have q9 : ρ_1617 q339 = _ := hc1624.2.2.1; rw [q9]; exact hx1537
  have ht1659 : τ_1617 q408 = 5 := hc1625.1.trans ht1538
  have hx1660 : ρ_1617 q408 10 = 5 ∧ ρ_1617 q408 11 = 60 ∧ ρ_1617 q408 30 = (lb + 16) := by have q9 : ρ_1617 q408 = _ := hc1625.2.2.1; rw [q9]; exact hx1539
  have ht1661 : τ_1617 q481 = 5 := hc1626.1.trans ht1540
  have hx1662 : ρ_1617 q481 10 = 15 ∧ ρ_1617 q481 11 = 60 ∧ ρ_1617 q481 30 = (lb + 17) := by have q9 : ρ_1617 q481 = _ := hc1626.2.2.1; rw [q9]; exact hx1541
  have ht1663 : τ_1617 q558 = 5 := hc1627.1.trans ht1542
  have hx1664 : ρ_1617 q558 10 = 8 ∧ ρ_1617 q558 11 = 6 ∧ ρ_1617 q558 30 = (lb + 18) := by have q9 : ρ_1617 q558 = _ := hc1627.2.2.1; rw [q9]; exact hx1543
  have ht1665 : τ_1617 q640 = 9 := hc1628.1.trans ht1544
  have ht1666 : τ_1617 q730 = 9 := hc1629.1.trans ht1545
  have ht1667 : τ_1617 q823 = 9 := hc1630.1.trans ht1546
  have ht1668 : τ_1617 q919 = 9 := hc1631.1.trans ht1547
  have ht1669 : τ_1617 q1018 = 9 := hc1632.1.trans ht1548
  have ht1670 : τ_1617 q1120 = 9 := hc1633.1.trans ht1549
  have ht1671 : τ_1617 q1225 = 6 := hc1634.1.trans ht1550
  have ht1672 : τ_1617 q1338 = 6 := hc1635.1.trans ht1551
  have ht1673 : τ_1617 q1454 = 6 := hc1636.1.trans ht1555
  have hz1674 : τ_1617 h0 = 0 := hc1637.1.trans hz1552
  have hz1675 : τ_1617 q64 = 0 := hc1640.1.trans hz1553
  have hz1676 : τ_1617 q87 = 0 := hc1643.1.trans hz1554
  clear ht1525 hn1526 ht1527 hn1528 ht1529 ht1530 hx1531 ht1532 hx1533 ht1534 hx1535 ht1536 hx1537 ht1538 hx1539 ht1540 hx1541 ht1542 hx1543 ht1544 ht1545 ht1546 ht1547 ht1548 ht1549 ht1550 ht1551 ht1555 hz1552 hz1553 hz1554 ne1585 ne1586 ne1587 ne1588 ne1589 ne1590 ne1591 ne1592 ne1593 ne1594 ne1595 ne1596 ne1597 ne1598 ne1599 ne1600 ne1601 ne1602 ne1603 ne1604 ne1605 ne1606 hc1618 hc1619 hc1620 hc1621 hc1622 hc1623 hc1624 hc1625 hc1626 hc1627 hc1628 hc1629 hc1630 hc1631 hc1632 hc1633 hc1634 hc1635 hc1636 hc1637 hc1640 hc1643 hG9 hT9 hH9
  have ht1677 : τ_1617 q1573 = 6 := hw1615p
  refine tpk_pos hl1645 hf1644 (fun q1678 eq1678 => ?_)
  refine tgk_6 hG ht1677 (fun y1680 y1681 y1681n y1682 y1682n y1683 y1683n y1684 y1684n y1685 y1685n y1686 y1686n => ?_)
  refine tpk_6 hT ht1677 (fun o1687_x1 o1687_x2 o1687_x3 o1687_x4 o1687_x5 o1687_x6 o1687_x10 o1687_x11 o1687_x12 o1687_x14 hf_o1687 ro1687_0 ro1687_1 ro1687_2 => ?_)
  refine tpk_pos (tp_in hG ht1677 (by decide)) hf_o1687 (fun q1688 eq1688 => ?_)
  refine va_astq hx hb hK hP hD hS q1678 5 q1688 5 eq1678 rfl eq1688 rfl (vp_in_iff.mpr ⟨by decide, by decide⟩) dX10_init_204 (tp_k (.inl (κ 5, 6, .inr (.inr (.inr (.inr (va_up (va_up (va_up (va_up (fun _ => none) (0 : Int32).toNatClampNeg (some q1225)) (1 : Int32).toNatClampNeg (some q1338)) (2 : Int32).toNatClampNeg (some q1454)) (3 : Int32).toNatClampNeg (some q1573))))))) hD hl1645 eq1678 (fun f1689 H locs hP hD hS g1691 k1690 => ?_))
  have hT := hT.raw hz1676 k1690
  have hz := tp_Z0.wt hz hz1676 (by decide) k1690
  have hH := hH.wn hn99 k1690
  have hf1692 : f1689 h0 = .inr (10, [.int 0, .int 10, .int 700, .int 0, .int 0, .int 0, .int 0, .ref q9, .ref q35, .ref q64, .ref q87, .ref q114, .ref q156, .ref q213, .ref q274, .ref q339, .ref q408, .ref q481, .ref q558]) := (k1690 _ ne100).trans hf1638
  have hf1693 : f1689 q64 = .inl (κ 4, 6, .inr (.inr (.inr (.inr (va_up (va_up (va_up (va_up (va_up (va_up (fun _ => none) (0 : Int32).toNatClampNeg (some q640)) (1 : Int32).toNatClampNeg (some q730)) (2 : Int32).toNatClampNeg (some q823)) (3 : Int32).toNatClampNeg (some q919)) (4 : Int32).toNatClampNeg (some q1018)) (5 : Int32).toNatClampNeg (some q1120)))))) := (k1690 _ ne101).trans hf1641
  clear hf1638 hf1641
  refine lv_iinc (v := 4) (lv' := [(1, .int 4), (0, .ref h0)]) hx hb dX10_init_205 hl (k := 0) rfl (by decide) (by decide) rfl (fun ls hl => ?_)
  refine lv_goto (tgt := 186) hx hb dX10_init_208 (by decide) ?_
  refine lv_iload_n hx hb dX10_init_186 rfl (lv_at hl 0 rfl) ?_
  refine lv_bipush (v := 6) hx hb dX10_init_187 (by decide) ?_
  refine lv_icmp_ge (tgt := 211) hx hb dX10_init_189 (by decide) (fun c9 => absurd c9 (by decide)) (fun _ => ?_)
  refine lv_aload_n hx hb dX10_init_192 rfl (lv_at hl 1 rfl) ?_
  refine tpk_pos hl1639 hf1692 (fun q1694 eq1694 => ?_)
  refine va_get (D := (dC, dI)) (ci := 10) (v := .ref q87) (C := RX10) (T := TX10) (N := 19) hx hb hts hfX10 hown hK hP q1694 eq1694 rfl 10 (by decide) (hts (.fieldLink RX10 33 "ColdShips$World" "ships" "[LColdShips$Ship;") wa_45) (fun _ h9 => h9) rfl dX10_init_193 ?_
  refine lv_iload_n hx hb dX10_init_196 rfl (lv_at hl 0 rfl) ?_
  refine va_new (ci := 5) (fs := [.null, .int 0, .int 0, .int 0, .int 0, .int 0, .int 0, .null, .null, .null, .int 0, .int 0, .int 0, .null, .int 0, .null, .null]) (C := RX5) (T := TX5) (N := 17) hx hb hts hfX5 tyX5 tyX5_ok hown (hts (.classLink RX10 31 RX5) wa_44) (hts (.instantiable RX5 17) wa_63) (hts (.initialized RX5) wa_64) hK hP hD hS hA rfl (fun j hj => by rcases tpj_17 j hj with rfl | rfl | rfl | rfl | rfl | rfl | rfl | rfl | rfl | rfl | rfl | rfl | rfl | rfl | rfl | rfl | rfl <;> rfl) (Nat.le_of_ble_eq_true rfl) (Nat.le_of_ble_eq_true rfl) dX10_init_197 (fun q1695 H hP hD hS => ?_)
  refine Exists.elim (tp_grow hG hT hP hD) (fun L1705 hE90 => Exists.elim hE90 (fun f1704 hE91 => tn_10 hE91 (fun hP hD hg1696 ht1697 hs1698 hq1699 hz1700 hn1701 hf1702 ho1703 => ?_)))
  clear hE91 hE90
  have hn1706 : ∀ a, a ∈ L → a ≠ q1695 := fun a ha => hn1701 a (hH.1 a ha)
  have ne1707 : h0 ≠ q1695 := hn1701 _ hl1639
  have ne1708 : q64 ≠ q1695 := hn1701 _ hl1642
  have ne1709 : q87 ≠ q1695 := hn1701 _ hl1645
  have ne1710 : q9 ≠ q1695 := hn1701 _ (tp_in hG ht1646 (by decide))
  have ne1711 : q35 ≠ q1695 := hn1701 _ (tp_in hG ht1648 (by decide))
  have ne1712 : q114 ≠ q1695 := hn1701 _ (tp_in hG ht1650 (by decide))
  have ne1713 : q156 ≠ q1695 := hn1701 _ (tp_in hG ht1651 (by decide))
  have ne1714 : q213 ≠ q1695 := hn1701 _ (tp_in hG ht1653 (by decide))
  have ne1715 : q274 ≠ q1695 := hn1701 _ (tp_in hG ht1655 (by decide))
  have ne1716 : q339 ≠ q1695 := hn1701 _ (tp_in hG ht1657 (by decide))
  have ne1717 : q408 ≠ q1695 := hn1701 _ (tp_in hG ht1659 (by decide))
  have ne1718 : q481 ≠ q1695 := hn1701 _ (tp_in hG ht1661 (by decide))
  have ne1719 : q558 ≠ q1695 := hn1701 _ (tp_in hG ht1663 (by decide))
  have ne1720 : q640 ≠ q1695 := hn1701 _ (tp_in hG ht1665 (by decide))
  have ne1721 : q730 ≠ q1695 := hn1701 _ (tp_in hG ht1666 (by decide))
  have ne1722 : q823 ≠ q1695 := hn1701 _ (tp_in hG ht1667 (by decide))
  have ne1723 : q919 ≠ q1695 := hn1701 _ (tp_in hG ht1668 (by decide))
  have ne1724 : q1018 ≠ q1695 := hn1701 _ (tp_in hG ht1669 (by decide))
  have ne1725 : q1120 ≠ q1695 := hn1701 _ (tp_in hG ht1670 (by decide))
  have ne1726 : q1225 ≠ q1695 := hn1701 _ (tp_in hG ht1671 (by decide))
  have ne1727 : q1338 ≠ q1695 := hn1701 _ (tp_in hG ht1672 (by decide))
  have ne1728 : q1454 ≠ q1695 := hn1701 _ (tp_in hG ht1673 (by decide))
  have ne1729 : q1573 ≠ q1695 := hn1701 _ (tp_in hG ht1677 (by decide))
  have hG := hg1696
  have hT := ht1697
  have hH := hH.gr hs1698 hn1701 ho1703
  have hz := tp_Z0.wt hz hz1700 (by decide) ho1703
  have hf1730 : f1704 h0 = .inr (10, [.int 0, .int 10, .int 700, .int 0, .int 0, .int 0, .int 0, .ref q9, .ref q35, .ref q64, .ref q87, .ref q114, .ref q156, .ref q213, .ref q274, .ref q339, .ref q408, .ref q481, .ref q558]) := (ho1703 _ ne1707).trans hf1692
  have hl1731 : h0 ∈ L1705 := hs1698 _ hl1639
  have hf1732 : f1704 q64 = .inl (κ 4, 6, .inr (.inr (.inr (.inr (va_up (va_up (va_up (va_up (va_up (va_up (fun _ => none) (0 : Int32).toNatClampNeg (some q640)) (1 : Int32).toNatClampNeg (some q730)) (2 : Int32).toNatClampNeg (some q823)) (3 : Int32).toNatClampNeg (some q919)) (4 : Int32).toNatClampNeg (some q1018)) (5 : Int32).toNatClampNeg (some q1120)))))) := (ho1703 _ ne1708).trans hf1693
  have hl1733 : q64 ∈ L1705 := hs1698 _ hl1642
  have hf1734 : f1704 q87 = .inl (κ 5, 6, .inr (.inr (.inr (.inr (va_up (va_up (va_up (va_up (fun _ => none) (0 : Int32).toNatClampNeg (some q1225)) (1 : Int32).toNatClampNeg (some q1338)) (2 : Int32).toNatClampNeg (some q1454)) (3 : Int32).toNatClampNeg (some q1573)))))) := (ho1703 _ ne1709).trans g1691
  have hl1735 : q87 ∈ L1705 := hs1698 _ hl1645
  clear hf1692 hl1639 hf1693 hl1642 g1691 hl1645
  refine lv_dup hx hb dX10_init_200 rfl ?_
  have hFc := tp_fr hD hS hA
  refine va_callv (va_runIN (As := []) (rest := [.ref q1695, .int 4, .ref q87]) ⟨hx, hb, hml, hown, hts⟩ (t_X5_init l dC dI _ Ω κ τ_1617 ν_1617 ρ_1617 L1705 f1704 hG hT q1695 Zb hq1699 hz1700 hf1702 hz) ⟨(va_cnB (host := "ColdShips") 0 hts ggX10_init_X5_init rfl rfl rfl (hN.1 (.methodLinkNest RX10 77 yX5_init "ColdShips") nzw_105) (hts (.initialized RX5) wa_64) pd_X5_init ⟨Nat.le_of_ble_eq_true rfl, Nat.le_of_ble_eq_true rfl⟩), rfl, (hts (.instanceMethod yX5_init) wa_90)⟩ ⟨pz_blind, pz_pre hP hK hD hN⟩ rfl rfl hl.1 rfl (lv_room (Nat.le_of_ble_eq_true rfl)) dX10_init_201 ⟨Nat.le_of_ble_eq_true rfl, Nat.le_of_ble_eq_true rfl⟩) hS (fun q _ h => hFc q h) hFc (fun x1736 t H1 locs ht hvm hw1738 hB hz1 hk1 hS => ?_)
  obtain ⟨τ_1740, ν_1740, ρ_1740, L_1740, f1739⟩ := x1736
  obtain ⟨⟨hG9, hT9, hH9⟩, hw1738p⟩ := hw1738
  have hc1741 := hH9.2 _ (tp_in hG ht1646 (by decide)) (fun z => ne1710 (Option.some.inj z))
  have hc1742 := hH9.2 _ (tp_in hG ht1648 (by decide)) (fun z => ne1711 (Option.some.inj z))
  have hc1743 := hH9.2 _ (tp_in hG ht1650 (by decide)) (fun z => ne1712 (Option.some.inj z))
  have hc1744 := hH9.2 _ (tp_in hG ht1651 (by decide)) (fun z => ne1713 (Option.some.inj z))
  have hc1745 := hH9.2 _ (tp_in hG ht1653 (by decide)) (fun z => ne1714 (Option.some.inj z))
  have hc1746 := hH9.2 _ (tp_in hG ht1655 (by decide)) (fun z => ne1715 (Option.some.inj z))
  have hc1747 := hH9.2 _ (tp_in hG ht1657 (by decide)) (fun z => ne1716 (Option.some.inj z))
  have hc1748 := hH9.2 _ (tp_in hG ht1659 (by decide)) (fun z => ne1717 (Option.some.inj z))
  have hc1749 := hH9.2 _ (tp_in hG ht1661 (by decide)) (fun z => ne1718 (Option.some.inj z))
  have hc1750 := hH9.2 _ (tp_in hG ht1663 (by decide)) (fun z => ne1719 (Option.some.inj z))
  have hc1751 := hH9.2 _ (tp_in hG ht1665 (by decide)) (fun z => ne1720 (Option.some.inj z))
  have hc1752 := hH9.2 _ (tp_in hG ht1666 (by decide)) (fun z => ne1721 (Option.some.inj z))
  have hc1753 := hH9.2 _ (tp_in hG ht1667 (by decide)) (fun z => ne1722 (Option.some.inj z))
  have hc1754 := hH9.2 _ (tp_in hG ht1668 (by decide)) (fun z => ne1723 (Option.some.inj z))
  have hc1755 := hH9.2 _ (tp_in hG ht1669 (by decide)) (fun z => ne1724 (Option.some.inj z))
  have hc1756 := hH9.2 _ (tp_in hG ht1670 (by decide)) (fun z => ne1725 (Option.some.inj z))
  have hc1757 := hH9.2 _ (tp_in hG ht1671 (by decide)) (fun z => ne1726 (Option.some.inj z))
  have hc1758 := hH9.2 _ (tp_in hG ht1672 (by decide)) (fun z => ne1727 (Option.some.inj z))
  have hc1759 := hH9.2 _ (tp_in hG ht1673 (by decide)) (fun z => ne1728 (Option.some.inj z))
  have hc1760 := hH9.2 _ (tp_in hG ht1677 (by decide)) (fun z => ne1729 (Option.some.inj z))
  have hc1761 := hH9.2 _ hl1731 (fun z => ne1707 (Option.some.inj z))
  have hf1762 : f1739 h0 = .inr (10, [.int 0, .int 10, .int 700, .int 0, .int 0, .int 0, .int 0, .ref q9, .ref q35, .ref q64, .ref q87, .ref q114, .ref q156, .ref q213, .ref q274, .ref q339, .ref q408, .ref q481, .ref q558]) := (hc1761.2.2.2 (by rw [hz1674]; decide)).trans hf1730
  have hl1763 := hH9.1 _ hl1731
  have hc1764 := hH9.2 _ hl1733 (fun z => ne1708 (Option.some.inj z))
  have hf1765 : f1739 q64 = .inl (κ 4, 6, .inr (.inr (.inr (.inr (va_up (va_up (va_up (va_up (va_up (va_up (fun _ => none) (0 : Int32).toNatClampNeg (some q640)) (1 : Int32).toNatClampNeg (some q730)) (2 : Int32).toNatClampNeg (some q823)) (3 : Int32).toNatClampNeg (some q919)) (4 : Int32).toNatClampNeg (some q1018)) (5 : Int32).toNatClampNeg (some q1120)))))) := (hc1764.2.2.2 (by rw [hz1675]; decide)).trans hf1732
  have hl1766 := hH9.1 _ hl1733
  have hc1767 := hH9.2 _ hl1735 (fun z => ne1709 (Option.some.inj z))
  have hf1768 : f1739 q87 = .inl (κ 5, 6, .inr (.inr (.inr (.inr (va_up (va_up (va_up (va_up (fun _ => none) (0 : Int32).toNatClampNeg (some q1225)) (1 : Int32).toNatClampNeg (some q1338)) (2 : Int32).toNatClampNeg (some q1454)) (3 : Int32).toNatClampNeg (some q1573)))))) := (hc1767.2.2.2 (by rw [hz1676]; decide)).trans hf1734
  have hl1769 := hH9.1 _ hl1735
  have hH := hH.call hH9 (by decide) (fun a ha _ z => hn1706 a ha (Option.some.inj z))
  have hG : tp_G τ_1740 ν_1740 ρ_1740 L_1740 := hG9; have hT : tp_T Ω κ τ_1740 ν_1740 ρ_1740 f1739 := hT9
  have hH : tp_H τ ν ρ L f [] (some h0) τ_1740 ν_1740 ρ_1740 L_1740 f1739 := hH
  have hz := hw1738p.2
  have hw1738p := hw1738p.1
  have hP := hB.1; rw [ht] at hP; have hD := tp_Dw hB.2.2 hFc; clear hB hFc hz1 hk1; subst ht; generalize t.heap = H at hP hS ⊢
  have hP : va_P (dC, dI) vwCl (va_pl L_1740 f1739) H := hP
  have hD : va_D A (va_pl L_1740 f1739) := hD
  have ht1770 : τ_1740 q9 = 20 := hc1741.1.trans ht1646
  have hn1771 : ν_1740 q9 = 25 := hc1741.2.1.trans hn1647
  have ht1772 : τ_1740 q35 = 20 := hc1742.1.trans ht1648
  have hn1773 : ν_1740 q35 = 100 := hc1742.2.1.trans hn1649
  have ht1774 : τ_1740 q114 = 26 := hc1743.1.trans ht1650
  have ht1775 : τ_1740 q156 = 7 := hc1744.1.trans ht1651
  have hx1776 : ρ_1740 q156 11 = 60 ∧ ρ_1740 q156 30 = (lb + 12) := by have q9 : ρ_1740 q156 = _ := hc1744.2.2.1; rw [q9]; exact hx1652
  have ht1777 : τ_1740 q213 = 7 := hc1745.1.trans ht1653
  have hx1778 : ρ_1740 q213 11 = 20 ∧ ρ_1740 q213 30 = (lb + 13) := by have q9 : ρ_1740 q213 = _ := hc1745.2.2.1; rw [q9]; exact hx1654
  have ht1779 : τ_1740 q274 = 7 := hc1746.1.trans ht1655
  have hx1780 : ρ_1740 q274 11 = 20 ∧ ρ_1740 q274 30 = (lb + 14) := by have q9 : ρ_1740 q274 = _ := hc1746.2.2.1; rw [q9]; exact hx1656
  have ht1781 : τ_1740 q339 = 5 := hc1747.1.trans ht1657
  have hx1782 : ρ_1740 q339 10 = 3 ∧ ρ_1740 q339 11 = 60 ∧ ρ_1740 q339 30 = (lb + 15) := by have q9 : ρ_1740 q339 = _ := hc1747.2.2.1; rw [q9]; exact hx1658
  have ht1783 : τ_1740 q408 = 5 := hc1748.1.trans ht1659
  have hx1784 : ρ_1740 q408 10 = 5 ∧ ρ_1740 q408 11 = 60 ∧ ρ_1740 q408 30 = (lb + 16) := by have q9 : ρ_1740 q408 = _ := hc1748.2.2.1; rw [q9]; exact hx1660
  have ht1785 : τ_1740 q481 = 5 := hc1749.1.trans ht1661
  have hx1786 : ρ_1740 q481 10 = 15 ∧ ρ_1740 q481 11 = 60 ∧ ρ_1740 q481 30 = (lb + 17) := by have q9 : ρ_1740 q481 = _ := hc1749.2.2.1; rw [q9]; exact hx1662
  have ht1787 : τ_1740 q558 = 5 := hc1750.1.trans ht1663
  have hx1788 : ρ_1740 q558 10 = 8 ∧ ρ_1740 q558 11 = 6 ∧ ρ_1740 q558 30 = (lb + 18) := by have q9 : ρ_1740 q558 = _ := hc1750.2.2.1; rw [q9]; exact hx1664
  have ht1789 : τ_1740 q640 = 9 := hc1751.1.trans ht1665
  have ht1790 : τ_1740 q730 = 9 := hc1752.1.trans ht1666
  have ht1791 : τ_1740 q823 = 9 := hc1753.1.trans ht1667
  have ht1792 : τ_1740 q919 = 9 := hc1754.1.trans ht1668
  have ht1793 : τ_1740 q1018 = 9 := hc1755.1.trans ht1669
  have ht1794 : τ_1740 q1120 = 9 := hc1756.1.trans ht1670
  have ht1795 : τ_1740 q1225 = 6 := hc1757.1.trans ht1671
  have ht1796 : τ_1740 q1338 = 6 := hc1758.1.trans ht1672
  have ht1797 : τ_1740 q1454 = 6 := hc1759.1.trans ht1673
  have ht1798 : τ_1740 q1573 = 6 := hc1760.1.trans ht1677
  have hz1799 : τ_1740 h0 = 0 := hc1761.1.trans hz1674
  have hz1800 : τ_1740 q64 = 0 := hc1764.1.trans hz1675
  have hz1801 : τ_1740 q87 = 0 := hc1767.1.trans hz1676
  clear ht1646 hn1647 ht1648 hn1649 ht1650 ht1651 hx1652 ht1653 hx1654 ht1655 hx1656 ht1657 hx1658 ht1659 hx1660 ht1661 hx1662 ht1663 hx1664 ht1665 ht1666 ht1667 ht1668 ht1669 ht1670 ht1671 ht1672 ht1673 ht1677 hz1674 hz1675 hz1676 ne1707 ne1708 ne1709 ne1710 ne1711 ne1712 ne1713 ne1714 ne1715 ne1716 ne1717 ne1718 ne1719 ne1720 ne1721 ne1722 ne1723 ne1724 ne1725 ne1726 ne1727 ne1728 ne1729 hc1741 hc1742 hc1743 hc1744 hc1745 hc1746 hc1747 hc1748 hc1749 hc1750 hc1751 hc1752 hc1753 hc1754 hc1755 hc1756 hc1757 hc1758 hc1759 hc1760 hc1761 hc1764 hc1767 hG9 hT9 hH9
  have ht1802 : τ_1740 q1695 = 6 := hw1738p
  refine tpk_pos hl1769 hf1768 (fun q1803 eq1803 => ?_)
  refine tgk_6 hG ht1802 (fun y1805 y1806 y1806n y1807 y1807n y1808 y1808n y1809 y1809n y1810 y1810n y1811 y1811n => ?_)
  refine tpk_6 hT ht1802 (fun o1812_x1 o1812_x2 o1812_x3 o1812_x4 o1812_x5 o1812_x6 o1812_x10 o1812_x11 o1812_x12 o1812_x14 hf_o1812 ro1812_0 ro1812_1 ro1812_2 => ?_)
  refine tpk_pos (tp_in hG ht1802 (by decide)) hf_o1812 (fun q1813 eq1813 => ?_)
  refine va_astq hx hb hK hP hD hS q1803 5 q1813 5 eq1803 rfl eq1813 rfl (vp_in_iff.mpr ⟨by decide, by decide⟩) dX10_init_204 (tp_k (.inl (κ 5, 6, .inr (.inr (.inr (.inr (va_up (va_up (va_up (va_up (va_up (fun _ => none) (0 : Int32).toNatClampNeg (some q1225)) (1 : Int32).toNatClampNeg (some q1338)) (2 : Int32).toNatClampNeg (some q1454)) (3 : Int32).toNatClampNeg (some q1573)) (4 : Int32).toNatClampNeg (some q1695))))))) hD hl1769 eq1803 (fun f1814 H locs hP hD hS g1816 k1815 => ?_))
  have hT := hT.raw hz1801 k1815
  have hz := tp_Z0.wt hz hz1801 (by decide) k1815
  have hH := hH.wn hn99 k1815
  have hf1817 : f1814 h0 = .inr (10, [.int 0, .int 10, .int 700, .int 0, .int 0, .int 0, .int 0, .ref q9, .ref q35, .ref q64, .ref q87, .ref q114, .ref q156, .ref q213, .ref q274, .ref q339, .ref q408, .ref q481, .ref q558]) := (k1815 _ ne100).trans hf1762
  have hf1818 : f1814 q64 = .inl (κ 4, 6, .inr (.inr (.inr (.inr (va_up (va_up (va_up (va_up (va_up (va_up (fun _ => none) (0 : Int32).toNatClampNeg (some q640)) (1 : Int32).toNatClampNeg (some q730)) (2 : Int32).toNatClampNeg (some q823)) (3 : Int32).toNatClampNeg (some q919)) (4 : Int32).toNatClampNeg (some q1018)) (5 : Int32).toNatClampNeg (some q1120)))))) := (k1815 _ ne101).trans hf1765
  clear hf1762 hf1765
  refine lv_iinc (v := 5) (lv' := [(1, .int 5), (0, .ref h0)]) hx hb dX10_init_205 hl (k := 0) rfl (by decide) (by decide) rfl (fun ls hl => ?_)
  refine lv_goto (tgt := 186) hx hb dX10_init_208 (by decide) ?_
  refine lv_iload_n hx hb dX10_init_186 rfl (lv_at hl 0 rfl) ?_
  refine lv_bipush (v := 6) hx hb dX10_init_187 (by decide) ?_
  refine lv_icmp_ge (tgt := 211) hx hb dX10_init_189 (by decide) (fun c9 => absurd c9 (by decide)) (fun _ => ?_)
  refine lv_aload_n hx hb dX10_init_192 rfl (lv_at hl 1 rfl) ?_
  refine tpk_pos hl1763 hf1817 (fun q1819 eq1819 => ?_)
  refine va_get (D := (dC, dI)) (ci := 10) (v := .ref q87) (C := RX10) (T := TX10) (N := 19) hx hb hts hfX10 hown hK hP q1819 eq1819 rfl 10 (by decide) (hts (.fieldLink RX10 33 "ColdShips$World" "ships" "[LColdShips$Ship;") wa_45) (fun _ h9 => h9) rfl dX10_init_193 ?_
  refine lv_iload_n hx hb dX10_init_196 rfl (lv_at hl 0 rfl) ?_
  refine va_new (ci := 5) (fs := [.null, .int 0, .int 0, .int 0, .int 0, .int 0, .int 0, .null, .null, .null, .int 0, .int 0, .int 0, .null, .int 0, .null, .null]) (C := RX5) (T := TX5) (N := 17) hx hb hts hfX5 tyX5 tyX5_ok hown (hts (.classLink RX10 31 RX5) wa_44) (hts (.instantiable RX5 17) wa_63) (hts (.initialized RX5) wa_64) hK hP hD hS hA rfl (fun j hj => by rcases tpj_17 j hj with rfl | rfl | rfl | rfl | rfl | rfl | rfl | rfl | rfl | rfl | rfl | rfl | rfl | rfl | rfl | rfl | rfl <;> rfl) (Nat.le_of_ble_eq_true rfl) (Nat.le_of_ble_eq_true rfl) dX10_init_197 (fun q1820 H hP hD hS => ?_)
  refine Exists.elim (tp_grow hG hT hP hD) (fun L1830 hE90 => Exists.elim hE90 (fun f1829 hE91 => tn_10 hE91 (fun hP hD hg1821 ht1822 hs1823 hq1824 hz1825 hn1826 hf1827 ho1828 => ?_)))
  clear hE91 hE90
  have hn1831 : ∀ a, a ∈ L → a ≠ q1820 := fun a ha => hn1826 a (hH.1 a ha)
  have ne1832 : h0 ≠ q1820 := hn1826 _ hl1763
  have ne1833 : q64 ≠ q1820 := hn1826 _ hl1766
  have ne1834 : q87 ≠ q1820 := hn1826 _ hl1769
  have ne1835 : q9 ≠ q1820 := hn1826 _ (tp_in hG ht1770 (by decide))
  have ne1836 : q35 ≠ q1820 := hn1826 _ (tp_in hG ht1772 (by decide))
  have ne1837 : q114 ≠ q1820 := hn1826 _ (tp_in hG ht1774 (by decide))
  have ne1838 : q156 ≠ q1820 := hn1826 _ (tp_in hG ht1775 (by decide))
  have ne1839 : q213 ≠ q1820 := hn1826 _ (tp_in hG ht1777 (by decide))
  have ne1840 : q274 ≠ q1820 := hn1826 _ (tp_in hG ht1779 (by decide))
  have ne1841 : q339 ≠ q1820 := hn1826 _ (tp_in hG ht1781 (by decide))
  have ne1842 : q408 ≠ q1820 := hn1826 _ (tp_in hG ht1783 (by decide))
  have ne1843 : q481 ≠ q1820 := hn1826 _ (tp_in hG ht1785 (by decide))
  have ne1844 : q558 ≠ q1820 := hn1826 _ (tp_in hG ht1787 (by decide))
  have ne1845 : q640 ≠ q1820 := hn1826 _ (tp_in hG ht1789 (by decide))
  have ne1846 : q730 ≠ q1820 := hn1826 _ (tp_in hG ht1790 (by decide))
  have ne1847 : q823 ≠ q1820 := hn1826 _ (tp_in hG ht1791 (by decide))
  have ne1848 : q919 ≠ q1820 := hn1826 _ (tp_in hG ht1792 (by decide))
  have ne1849 : q1018 ≠ q1820 := hn1826 _ (tp_in hG ht1793 (by decide))
  have ne1850 : q1120 ≠ q1820 := hn1826 _ (tp_in hG ht1794 (by decide))
  have ne1851 : q1225 ≠ q1820 := hn1826 _ (tp_in hG ht1795 (by decide))
  have ne1852 : q1338 ≠ q1820 := hn1826 _ (tp_in hG ht1796 (by decide))
  have ne1853 : q1454 ≠ q1820 := hn1826 _ (tp_in hG ht1797 (by decide))
  have ne1854 : q1573 ≠ q1820 := hn1826 _ (tp_in hG ht1798 (by decide))
  have ne1855 : q1695 ≠ q1820 := hn1826 _ (tp_in hG ht1802 (by decide))
  have hG := hg1821
  have hT := ht1822
  have hH := hH.gr hs1823 hn1826 ho1828
  have hz := tp_Z0.wt hz hz1825 (by decide) ho1828
  have hf1856 : f1829 h0 = .inr (10, [.int 0, .int 10, .int 700, .int 0, .int 0, .int 0, .int 0, .ref q9, .ref q35, .ref q64, .ref q87, .ref q114, .ref q156, .ref q213, .ref q274, .ref q339, .ref q408, .ref q481, .ref q558]) := (ho1828 _ ne1832).trans hf1817
  have hl1857 : h0 ∈ L1830 := hs1823 _ hl1763
  have hf1858 : f1829 q64 = .inl (κ 4, 6, .inr (.inr (.inr (.inr (va_up (va_up (va_up (va_up (va_up (va_up (fun _ => none) (0 : Int32).toNatClampNeg (some q640)) (1 : Int32).toNatClampNeg (some q730)) (2 : Int32).toNatClampNeg (some q823)) (3 : Int32).toNatClampNeg (some q919)) (4 : Int32).toNatClampNeg (some q1018)) (5 : Int32).toNatClampNeg (some q1120)))))) := (ho1828 _ ne1833).trans hf1818
  have hl1859 : q64 ∈ L1830 := hs1823 _ hl1766
  have hf1860 : f1829 q87 = .inl (κ 5, 6, .inr (.inr (.inr (.inr (va_up (va_up (va_up (va_up (va_up (fun _ => none) (0 : Int32).toNatClampNeg (some q1225)) (1 : Int32).toNatClampNeg (some q1338)) (2 : Int32).toNatClampNeg (some q1454)) (3 : Int32).toNatClampNeg (some q1573)) (4 : Int32).toNatClampNeg (some q1695)))))) := (ho1828 _ ne1834).trans g1816
  have hl1861 : q87 ∈ L1830 := hs1823 _ hl1769
  clear hf1817 hl1763 hf1818 hl1766 g1816 hl1769
  refine lv_dup hx hb dX10_init_200 rfl ?_
  have hFc := tp_fr hD hS hA
  refine va_callv (va_runIN (As := []) (rest := [.ref q1820, .int 5, .ref q87]) ⟨hx, hb, hml, hown, hts⟩ (t_X5_init l dC dI _ Ω κ τ_1740 ν_1740 ρ_1740 L1830 f1829 hG hT q1820 Zb hq1824 hz1825 hf1827 hz) ⟨(va_cnB (host := "ColdShips") 0 hts ggX10_init_X5_init rfl rfl rfl (hN.1 (.methodLinkNest RX10 77 yX5_init "ColdShips") nzw_105) (hts (.initialized RX5) wa_64) pd_X5_init ⟨Nat.le_of_ble_eq_true rfl, Nat.le_of_ble_eq_true rfl⟩), rfl, (hts (.instanceMethod yX5_init) wa_90)⟩ ⟨pz_blind, pz_pre hP hK hD hN⟩ rfl rfl hl.1 rfl (lv_room (Nat.le_of_ble_eq_true rfl)) dX10_init_201 ⟨Nat.le_of_ble_eq_true rfl, Nat.le_of_ble_eq_true rfl⟩) hS (fun q _ h => hFc q h) hFc (fun x1862 t H1 locs ht hvm hw1864 hB hz1 hk1 hS => ?_)
  obtain ⟨τ_1866, ν_1866, ρ_1866, L_1866, f1865⟩ := x1862
  obtain ⟨⟨hG9, hT9, hH9⟩, hw1864p⟩ := hw1864
  have hc1867 := hH9.2 _ (tp_in hG ht1770 (by decide)) (fun z => ne1835 (Option.some.inj z))
  have hc1868 := hH9.2 _ (tp_in hG ht1772 (by decide)) (fun z => ne1836 (Option.some.inj z))
  have hc1869 := hH9.2 _ (tp_in hG ht1774 (by decide)) (fun z => ne1837 (Option.some.inj z))
  have hc1870 := hH9.2 _ (tp_in hG ht1775 (by decide)) (fun z => ne1838 (Option.some.inj z))
  have hc1871 := hH9.2 _ (tp_in hG ht1777 (by decide)) (fun z => ne1839 (Option.some.inj z))
  have hc1872 := hH9.2 _ (tp_in hG ht1779 (by decide)) (fun z => ne1840 (Option.some.inj z))
  have hc1873 := hH9.2 _ (tp_in hG ht1781 (by decide)) (fun z => ne1841 (Option.some.inj z))
  have hc1874 := hH9.2 _ (tp_in hG ht1783 (by decide)) (fun z => ne1842 (Option.some.inj z))
  have hc1875 := hH9.2 _ (tp_in hG ht1785 (by decide)) (fun z => ne1843 (Option.some.inj z))
  have hc1876 := hH9.2 _ (tp_in hG ht1787 (by decide)) (fun z => ne1844 (Option.some.inj z))
  have hc1877 := hH9.2 _ (tp_in hG ht1789 (by decide)) (fun z => ne1845 (Option.some.inj z))
  have hc1878 := hH9.2 _ (tp_in hG ht1790 (by decide)) (fun z => ne1846 (Option.some.inj z))
  have hc1879 := hH9.2 _ (tp_in hG ht1791 (by decide)) (fun z => ne1847 (Option.some.inj z))
  have hc1880 := hH9.2 _ (tp_in hG ht1792 (by decide)) (fun z => ne1848 (Option.some.inj z))
  have hc1881 := hH9.2 _ (tp_in hG ht1793 (by decide)) (fun z => ne1849 (Option.some.inj z))
  have hc1882 := hH9.2 _ (tp_in hG ht1794 (by decide)) (fun z => ne1850 (Option.some.inj z))
  have hc1883 := hH9.2 _ (tp_in hG ht1795 (by decide)) (fun z => ne1851 (Option.some.inj z))
  have hc1884 := hH9.2 _ (tp_in hG ht1796 (by decide)) (fun z => ne1852 (Option.some.inj z))
  have hc1885 := hH9.2 _ (tp_in hG ht1797 (by decide)) (fun z => ne1853 (Option.some.inj z))
  have hc1886 := hH9.2 _ (tp_in hG ht1798 (by decide)) (fun z => ne1854 (Option.some.inj z))
  have hc1887 := hH9.2 _ (tp_in hG ht1802 (by decide)) (fun z => ne1855 (Option.some.inj z))
  have hc1888 := hH9.2 _ hl1857 (fun z => ne1832 (Option.some.inj z))
  have hf1889 : f1865 h0 = .inr (10, [.int 0, .int 10, .int 700, .int 0, .int 0, .int 0, .int 0, .ref q9, .ref q35, .ref q64, .ref q87, .ref q114, .ref q156, .ref q213, .ref q274, .ref q339, .ref q408, .ref q481, .ref q558]) := (hc1888.2.2.2 (by rw [hz1799]; decide)).trans hf1856
  have hl1890 := hH9.1 _ hl1857
  have hc1891 := hH9.2 _ hl1859 (fun z => ne1833 (Option.some.inj z))
  have hf1892 : f1865 q64 = .inl (κ 4, 6, .inr (.inr (.inr (.inr (va_up (va_up (va_up (va_up (va_up (va_up (fun _ => none) (0 : Int32).toNatClampNeg (some q640)) (1 : Int32).toNatClampNeg (some q730)) (2 : Int32).toNatClampNeg (some q823)) (3 : Int32).toNatClampNeg (some q919)) (4 : Int32).toNatClampNeg (some q1018)) (5 : Int32).toNatClampNeg (some q1120)))))) := (hc1891.2.2.2 (by rw [hz1800]; decide)).trans hf1858
  have hl1893 := hH9.1 _ hl1859
  have hc1894 := hH9.2 _ hl1861 (fun z => ne1834 (Option.some.inj z))
  have hf1895 : f1865 q87 = .inl (κ 5, 6, .inr (.inr (.inr (.inr (va_up (va_up (va_up (va_up (va_up (fun _ => none) (0 : Int32).toNatClampNeg (some q1225)) (1 : Int32).toNatClampNeg (some q1338)) (2 : Int32).toNatClampNeg (some q1454)) (3 : Int32).toNatClampNeg (some q1573)) (4 : Int32).toNatClampNeg (some q1695)))))) := (hc1894.2.2.2 (by rw [hz1801]; decide)).trans hf1860
  have hl1896 := hH9.1 _ hl1861
  have hH := hH.call hH9 (by decide) (fun a ha _ z => hn1831 a ha (Option.some.inj z))
  have hG : tp_G τ_1866 ν_1866 ρ_1866 L_1866 := hG9; have hT : tp_T Ω κ τ_1866 ν_1866 ρ_1866 f1865 := hT9
  have hH : tp_H τ ν ρ L f [] (some h0) τ_1866 ν_1866 ρ_1866 L_1866 f1865 := hH
  have hz := hw1864p.2
  have hw1864p := hw1864p.1
  have hP := hB.1; rw [ht] at hP; have hD := tp_Dw hB.2.2 hFc; clear hB hFc hz1 hk1; subst ht; generalize t.heap = H at hP hS ⊢
  have hP : va_P (dC, dI) vwCl (va_pl L_1866 f1865) H := hP
  have hD : va_D A (va_pl L_1866 f1865) := hD
  have ht1897 : τ_1866 q9 = 20 := hc1867.1.trans ht1770
  have hn1898 : ν_1866 q9 = 25 := hc1867.2.1.trans hn1771
  have ht1899 : τ_1866 q35 = 20 := hc1868.1.trans ht1772
  have hn1900 : ν_1866 q35 = 100 := hc1868.2.1.trans hn1773
  have ht1901 : τ_1866 q114 = 26 := hc1869.1.trans ht1774
  have ht1902 : τ_1866 q156 = 7 := hc1870.1.trans ht1775
  have hx1903 : ρ_1866 q156 11 = 60 ∧ ρ_1866 q156 30 = (lb + 12) := by have q9 : ρ_1866 q156 = _ := hc1870.2.2.1; rw [q9]; exact hx1776
  have ht1904 : τ_1866 q213 = 7 := hc1871.1.trans ht1777
  have hx1905 : ρ_1866 q213 11 = 20 ∧ ρ_1866 q213 30 = (lb + 13) := by have q9 : ρ_1866 q213 = _ := hc1871.2.2.1; rw [q9]; exact hx1778
  have ht1906 : τ_1866 q274 = 7 := hc1872.1.trans ht1779
  have hx1907 : ρ_1866 q274 11 = 20 ∧ ρ_1866 q274 30 = (lb + 14) := by have q9 : ρ_1866 q274 = _ := hc1872.2.2.1; rw [q9]; exact hx1780
  have ht1908 : τ_1866 q339 = 5 := hc1873.1.trans ht1781
  have hx1909 : ρ_1866 q339 10 = 3 ∧ ρ_1866 q339 11 = 60 ∧ ρ_1866 q339 30 = (lb + 15) := by have q9 : ρ_1866 q339 = _ := hc1873.2.2.1; rw [q9]; exact hx1782
  have ht1910 : τ_1866 q408 = 5 := hc1874.1.trans ht1783
  have hx1911 : ρ_1866 q408 10 = 5 ∧ ρ_1866 q408 11 = 60 ∧ ρ_1866 q408 30 = (lb + 16) := by have q9 : ρ_1866 q408 = _ := hc1874.2.2.1; rw [q9]; exact hx1784
  have ht1912 : τ_1866 q481 = 5 := hc1875.1.trans ht1785
  have hx1913 : ρ_1866 q481 10 = 15 ∧ ρ_1866 q481 11 = 60 ∧ ρ_1866 q481 30 = (lb + 17) := by have q9 : ρ_1866 q481 = _ := hc1875.2.2.1; rw [q9]; exact hx1786
  have ht1914 : τ_1866 q558 = 5 := hc1876.1.trans ht1787
  have hx1915 : ρ_1866 q558 10 = 8 ∧ ρ_1866 q558 11 = 6 ∧ ρ_1866 q558 30 = (lb + 18) := by have q9 : ρ_1866 q558 = _ := hc1876.2.2.1; rw [q9]; exact hx1788
  have ht1916 : τ_1866 q640 = 9 := hc1877.1.trans ht1789
  have ht1917 : τ_1866 q730 = 9 := hc1878.1.trans ht1790
  have ht1918 : τ_1866 q823 = 9 := hc1879.1.trans ht1791
  have ht1919 : τ_1866 q919 = 9 := hc1880.1.trans ht1792
  have ht1920 : τ_1866 q1018 = 9 := hc1881.1.trans ht1793
  have ht1921 : τ_1866 q1120 = 9 := hc1882.1.trans ht1794
  have ht1922 : τ_1866 q1225 = 6 := hc1883.1.trans ht1795
  have ht1923 : τ_1866 q1338 = 6 := hc1884.1.trans ht1796
  have ht1924 : τ_1866 q1454 = 6 := hc1885.1.trans ht1797
  have ht1925 : τ_1866 q1573 = 6 := hc1886.1.trans ht1798
  have ht1926 : τ_1866 q1695 = 6 := hc1887.1.trans ht1802
  have hz1927 : τ_1866 h0 = 0 := hc1888.1.trans hz1799
  have hz1928 : τ_1866 q64 = 0 := hc1891.1.trans hz1800
  have hz1929 : τ_1866 q87 = 0 := hc1894.1.trans hz1801
  clear ht1770 hn1771 ht1772 hn1773 ht1774 ht1775 hx1776 ht1777 hx1778 ht1779 hx1780 ht1781 hx1782 ht1783 hx1784 ht1785 hx1786 ht1787 hx1788 ht1789 ht1790 ht1791 ht1792 ht1793 ht1794 ht1795 ht1796 ht1797 ht1798 ht1802 hz1799 hz1800 hz1801 ne1832 ne1833 ne1834 ne1835 ne1836 ne1837 ne1838 ne1839 ne1840 ne1841 ne1842 ne1843 ne1844 ne1845 ne1846 ne1847 ne1848 ne1849 ne1850 ne1851 ne1852 ne1853 ne1854 ne1855 hc1867 hc1868 hc1869 hc1870 hc1871 hc1872 hc1873 hc1874 hc1875 hc1876 hc1877 hc1878 hc1879 hc1880 hc1881 hc1882 hc1883 hc1884 hc1885 hc1886 hc1887 hc1888 hc1891 hc1894 hG9 hT9 hH9
  have ht1930 : τ_1866 q1820 = 6 := hw1864p
  refine tpk_pos hl1896 hf1895 (fun q1931 eq1931 => ?_)
  refine tgk_6 hG ht1930 (fun y1933 y1934 y1934n y1935 y1935n y1936 y1936n y1937 y1937n y1938 y1938n y1939 y1939n => ?_)
  refine tpk_6 hT ht1930 (fun o1940_x1 o1940_x2 o1940_x3 o1940_x4 o1940_x5 o1940_x6 o1940_x10 o1940_x11 o1940_x12 o1940_x14 hf_o1940 ro1940_0 ro1940_1 ro1940_2 => ?_)
  refine tpk_pos (tp_in hG ht1930 (by decide)) hf_o1940 (fun q1941 eq1941 => ?_)
  refine va_astq hx hb hK hP hD hS q1931 5 q1941 5 eq1931 rfl eq1941 rfl (vp_in_iff.mpr ⟨by decide, by decide⟩) dX10_init_204 (tp_k (.inl (κ 5, 6, .inr (.inr (.inr (.inr (va_up (va_up (va_up (va_up (va_up (va_up (fun _ => none) (0 : Int32).toNatClampNeg (some q1225)) (1 : Int32).toNatClampNeg (some q1338)) (2 : Int32).toNatClampNeg (some q1454)) (3 : Int32).toNatClampNeg (some q1573)) (4 : Int32).toNatClampNeg (some q1695)) (5 : Int32).toNatClampNeg (some q1820))))))) hD hl1896 eq1931 (fun f1942 H locs hP hD hS g1944 k1943 => ?_))
  have hT := hT.raw hz1929 k1943
  have hz := tp_Z0.wt hz hz1929 (by decide) k1943
  have hH := hH.wn hn99 k1943
  have hf1945 : f1942 h0 = .inr (10, [.int 0, .int 10, .int 700, .int 0, .int 0, .int 0, .int 0, .ref q9, .ref q35, .ref q64, .ref q87, .ref q114, .ref q156, .ref q213, .ref q274, .ref q339, .ref q408, .ref q481, .ref q558]) := (k1943 _ ne100).trans hf1889
  have hf1946 : f1942 q64 = .inl (κ 4, 6, .inr (.inr (.inr (.inr (va_up (va_up (va_up (va_up (va_up (va_up (fun _ => none) (0 : Int32).toNatClampNeg (some q640)) (1 : Int32).toNatClampNeg (some q730)) (2 : Int32).toNatClampNeg (some q823)) (3 : Int32).toNatClampNeg (some q919)) (4 : Int32).toNatClampNeg (some q1018)) (5 : Int32).toNatClampNeg (some q1120)))))) := (k1943 _ ne101).trans hf1892
  clear hf1889 hf1892
  refine lv_iinc (v := 6) (lv' := [(1, .int 6), (0, .ref h0)]) hx hb dX10_init_205 hl (k := 0) rfl (by decide) (by decide) rfl (fun ls hl => ?_)
  refine lv_goto (tgt := 186) hx hb dX10_init_208 (by decide) ?_
  refine lv_iload_n hx hb dX10_init_186 rfl (lv_at hl 0 rfl) ?_
  refine lv_bipush (v := 6) hx hb dX10_init_187 (by decide) ?_
  refine lv_icmp_ge (tgt := 211) hx hb dX10_init_189 (by decide) (fun _ => ?_) (fun c9 => absurd c9 (by decide))
  obtain ⟨τ_1947, ν_1947, ρ_1947, hG, hT, hb1948, ht1949, hn1950, hr1951⟩ := tp_type hG hT hl1893 hz1928 24 (0) (fun k => [q640, q730, q823, q919, q1018, q1120].getD k 0) (by decide) (fun τ9 ν9 ρ9 hE h2 h3 => ⟨fun j hj => (by rw [h3]; rcases tpj_6 j hj with rfl | rfl | rfl | rfl | rfl | rfl <;> first | exact (hE q640 (by rw [ht1916]; decide)).1.trans ht1916 | exact (hE q730 (by rw [ht1917]; decide)).1.trans ht1917 | exact (hE q823 (by rw [ht1918]; decide)).1.trans ht1918 | exact (hE q919 (by rw [ht1919]; decide)).1.trans ht1919 | exact (hE q1018 (by rw [ht1920]; decide)).1.trans ht1920 | exact (hE q1120 (by rw [ht1921]; decide)).1.trans ht1921), by rw [hf1946]; exact ⟨_, rfl, fun j hj => by rw [h3]; rcases tpj_6 j hj with rfl | rfl | rfl | rfl | rfl | rfl <;> rfl⟩⟩)
  have hH := hH.ty (fun a ha _ => hn76 a ha) hb1948
  have hz := tp_Z0.ty hz (fun b q9 => (hb1948 b q9).1) ht1949 ⟨fun z => (by cases z), fun z => (by cases z), fun z => (by cases z), fun z => (by cases z), fun z => (by cases z)⟩
  have ht1952 : τ_1947 q9 = 20 := (hb1948 _ ne78).1.trans ht1897
  have hn1953 : ν_1947 q9 = 25 := (hb1948 _ ne78).2.1.trans hn1898
  have ht1954 : τ_1947 q35 = 20 := (hb1948 _ ne79).1.trans ht1899
  have hn1955 : ν_1947 q35 = 100 := (hb1948 _ ne79).2.1.trans hn1900
  have ht1956 : τ_1947 q114 = 26 := (hb1948 _ (Ne.symm (tp_ne0 hz1928 ht1901 (by decide)))).1.trans ht1901
  have ht1957 : τ_1947 q156 = 7 := (hb1948 _ (Ne.symm (tp_ne0 hz1928 ht1902 (by decide)))).1.trans ht1902
  have hx1958 : ρ_1947 q156 11 = 60 ∧ ρ_1947 q156 30 = (lb + 12) := by rw [(hb1948 _ (Ne.symm (tp_ne0 hz1928 ht1902 (by decide)))).2.2]; exact hx1903
  have ht1959 : τ_1947 q213 = 7 := (hb1948 _ (Ne.symm (tp_ne0 hz1928 ht1904 (by decide)))).1.trans ht1904
  have hx1960 : ρ_1947 q213 11 = 20 ∧ ρ_1947 q213 30 = (lb + 13) := by rw [(hb1948 _ (Ne.symm (tp_ne0 hz1928 ht1904 (by decide)))).2.2]; exact hx1905
  have ht1961 : τ_1947 q274 = 7 := (hb1948 _ (Ne.symm (tp_ne0 hz1928 ht1906 (by decide)))).1.trans ht1906
  have hx1962 : ρ_1947 q274 11 = 20 ∧ ρ_1947 q274 30 = (lb + 14) := by rw [(hb1948 _ (Ne.symm (tp_ne0 hz1928 ht1906 (by decide)))).2.2]; exact hx1907
  have ht1963 : τ_1947 q339 = 5 := (hb1948 _ (Ne.symm (tp_ne0 hz1928 ht1908 (by decide)))).1.trans ht1908
  have hx1964 : ρ_1947 q339 10 = 3 ∧ ρ_1947 q339 11 = 60 ∧ ρ_1947 q339 30 = (lb + 15) := by rw [(hb1948 _ (Ne.symm (tp_ne0 hz1928 ht1908 (by decide)))).2.2]; exact hx1909
  have ht1965 : τ_1947 q408 = 5 := (hb1948 _ (Ne.symm (tp_ne0 hz1928 ht1910 (by decide)))).1.trans ht1910
  have hx1966 : ρ_1947 q408 10 = 5 ∧ ρ_1947 q408 11 = 60 ∧ ρ_1947 q408 30 = (lb + 16) := by rw [(hb1948 _ (Ne.symm (tp_ne0 hz1928 ht1910 (by decide)))).2.2]; exact hx1911
  have ht1967 : τ_1947 q481 = 5 := (hb1948 _ (Ne.symm (tp_ne0 hz1928 ht1912 (by decide)))).1.trans ht1912
  have hx1968 : ρ_1947 q481 10 = 15 ∧ ρ_1947 q481 11 = 60 ∧ ρ_1947 q481 30 = (lb + 17) := by rw [(hb1948 _ (Ne.symm (tp_ne0 hz1928 ht1912 (by decide)))).2.2]; exact hx1913
  have ht1969 : τ_1947 q558 = 5 := (hb1948 _ (Ne.symm (tp_ne0 hz1928 ht1914 (by decide)))).1.trans ht1914
  have hx1970 : ρ_1947 q558 10 = 8 ∧ ρ_1947 q558 11 = 6 ∧ ρ_1947 q558 30 = (lb + 18) := by rw [(hb1948 _ (Ne.symm (tp_ne0 hz1928 ht1914 (by decide)))).2.2]; exact hx1915
  have ht1971 : τ_1947 q640 = 9 := (hb1948 _ (Ne.symm (tp_ne0 hz1928 ht1916 (by decide)))).1.trans ht1916
  have ht1972 : τ_1947 q730 = 9 := (hb1948 _ (Ne.symm (tp_ne0 hz1928 ht1917 (by decide)))).1.trans ht1917
  have ht1973 : τ_1947 q823 = 9 := (hb1948 _ (Ne.symm (tp_ne0 hz1928 ht1918 (by decide)))).1.trans ht1918
  have ht1974 : τ_1947 q919 = 9 := (hb1948 _ (Ne.symm (tp_ne0 hz1928 ht1919 (by decide)))).1.trans ht1919
  have ht1975 : τ_1947 q1018 = 9 := (hb1948 _ (Ne.symm (tp_ne0 hz1928 ht1920 (by decide)))).1.trans ht1920
  have ht1976 : τ_1947 q1120 = 9 := (hb1948 _ (Ne.symm (tp_ne0 hz1928 ht1921 (by decide)))).1.trans ht1921
  have ht1977 : τ_1947 q1225 = 6 := (hb1948 _ (Ne.symm (tp_ne0 hz1928 ht1922 (by decide)))).1.trans ht1922
  have ht1978 : τ_1947 q1338 = 6 := (hb1948 _ (Ne.symm (tp_ne0 hz1928 ht1923 (by decide)))).1.trans ht1923
  have ht1979 : τ_1947 q1454 = 6 := (hb1948 _ (Ne.symm (tp_ne0 hz1928 ht1924 (by decide)))).1.trans ht1924
  have ht1980 : τ_1947 q1573 = 6 := (hb1948 _ (Ne.symm (tp_ne0 hz1928 ht1925 (by decide)))).1.trans ht1925
  have ht1981 : τ_1947 q1695 = 6 := (hb1948 _ (Ne.symm (tp_ne0 hz1928 ht1926 (by decide)))).1.trans ht1926
  have ht1982 : τ_1947 q1820 = 6 := (hb1948 _ (Ne.symm (tp_ne0 hz1928 ht1930 (by decide)))).1.trans ht1930
  have hz1983 : τ_1947 h0 = 0 := (hb1948 _ ne77).1.trans hz1927
  have hz1984 : τ_1947 q87 = 0 := (hb1948 _ (Ne.symm ne101)).1.trans hz1929
  clear ht1897 hn1898 ht1899 hn1900 ht1901 ht1902 hx1903 ht1904 hx1905 ht1906 hx1907 ht1908 hx1909 ht1910 hx1911 ht1912 hx1913 ht1914 hx1915 ht1916 ht1917 ht1918 ht1919 ht1920 ht1921 ht1922 ht1923 ht1924 ht1925 ht1926 ht1930 hz1927 hz1929 hb1948 ne77 ne78 ne79
  obtain ⟨τ_1985, ν_1985, ρ_1985, hG, hT, hb1986, ht1987, hn1988, hr1989⟩ := tp_type hG hT hl1896 hz1984 25 (0) (fun k => [q1225, q1338, q1454, q1573, q1695, q1820].getD k 0) (by decide) (fun τ9 ν9 ρ9 hE h2 h3 => ⟨fun j hj => (by rw [h3]; rcases tpj_6 j hj with rfl | rfl | rfl | rfl | rfl | rfl <;> first | exact (hE q1225 (by rw [ht1977]; decide)).1.trans ht1977 | exact (hE q1338 (by rw [ht1978]; decide)).1.trans ht1978 | exact (hE q1454 (by rw [ht1979]; decide)).1.trans ht1979 | exact (hE q1573 (by rw [ht1980]; decide)).1.trans ht1980 | exact (hE q1695 (by rw [ht1981]; decide)).1.trans ht1981 | exact (hE q1820 (by rw [ht1982]; decide)).1.trans ht1982), by rw [g1944]; exact ⟨_, rfl, fun j hj => by rw [h3]; rcases tpj_6 j hj with rfl | rfl | rfl | rfl | rfl | rfl <;> rfl⟩⟩)
  have hH := hH.ty (fun a ha _ => hn99 a ha) hb1986
  have hz := tp_Z0.ty hz (fun b q9 => (hb1986 b q9).1) ht1987 ⟨fun z => (by cases z), fun z => (by cases z), fun z => (by cases z), fun z => (by cases z), fun z => (by cases z)⟩
  have ht1990 : τ_1985 q9 = 20 := (hb1986 _ ne102).1.trans ht1952
  have hn1991 : ν_1985 q9 = 25 := (hb1986 _ ne102).2.1.trans hn1953
  have ht1992 : τ_1985 q35 = 20 := (hb1986 _ ne103).1.trans ht1954
  have hn1993 : ν_1985 q35 = 100 := (hb1986 _ ne103).2.1.trans hn1955
  have ht1994 : τ_1985 q114 = 26 := (hb1986 _ (Ne.symm (tp_ne0 hz1984 ht1956 (by decide)))).1.trans ht1956
  have ht1995 : τ_1985 q156 = 7 := (hb1986 _ (Ne.symm (tp_ne0 hz1984 ht1957 (by decide)))).1.trans ht1957
  have hx1996 : ρ_1985 q156 11 = 60 ∧ ρ_1985 q156 30 = (lb + 12) := by rw [(hb1986 _ (Ne.symm (tp_ne0 hz1984 ht1957 (by decide)))).2.2]; exact hx1958
  have ht1997 : τ_1985 q213 = 7 := (hb1986 _ (Ne.symm (tp_ne0 hz1984 ht1959 (by decide)))).1.trans ht1959
  have hx1998 : ρ_1985 q213 11 = 20 ∧ ρ_1985 q213 30 = (lb + 13) := by rw [(hb1986 _ (Ne.symm (tp_ne0 hz1984 ht1959 (by decide)))).2.2]; exact hx1960
  have ht1999 : τ_1985 q274 = 7 := (hb1986 _ (Ne.symm (tp_ne0 hz1984 ht1961 (by decide)))).1.trans ht1961
  have hx2000 : ρ_1985 q274 11 = 20 ∧ ρ_1985 q274 30 = (lb + 14) := by rw [(hb1986 _ (Ne.symm (tp_ne0 hz1984 ht1961 (by decide)))).2.2]; exact hx1962
  have ht2001 : τ_1985 q339 = 5 := (hb1986 _ (Ne.symm (tp_ne0 hz1984 ht1963 (by decide)))).1.trans ht1963
  have hx2002 : ρ_1985 q339 10 = 3 ∧ ρ_1985 q339 11 = 60 ∧ ρ_1985 q339 30 = (lb + 15) := by rw [(hb1986 _ (Ne.symm (tp_ne0 hz1984 ht1963 (by decide)))).2.2]; exact hx1964
  have ht2003 : τ_1985 q408 = 5 := (hb1986 _ (Ne.symm (tp_ne0 hz1984 ht1965 (by decide)))).1.trans ht1965
  have hx2004 : ρ_1985 q408 10 = 5 ∧ ρ_1985 q408 11 = 60 ∧ ρ_1985 q408 30 = (lb + 16) := by rw [(hb1986 _ (Ne.symm (tp_ne0 hz1984 ht1965 (by decide)))).2.2]; exact hx1966
  have ht2005 : τ_1985 q481 = 5 := (hb1986 _ (Ne.symm (tp_ne0 hz1984 ht1967 (by decide)))).1.trans ht1967
  have hx2006 : ρ_1985 q481 10 = 15 ∧ ρ_1985 q481 11 = 60 ∧ ρ_1985 q481 30 = (lb + 17) := by rw [(hb1986 _ (Ne.symm (tp_ne0 hz1984 ht1967 (by decide)))).2.2]; exact hx1968
  have ht2007 : τ_1985 q558 = 5 := (hb1986 _ (Ne.symm (tp_ne0 hz1984 ht1969 (by decide)))).1.trans ht1969
  have hx2008 : ρ_1985 q558 10 = 8 ∧ ρ_1985 q558 11 = 6 ∧ ρ_1985 q558 30 = (lb + 18) := by rw [(hb1986 _ (Ne.symm (tp_ne0 hz1984 ht1969 (by decide)))).2.2]; exact hx1970
  have ht2009 : τ_1985 q640 = 9 := (hb1986 _ (Ne.symm (tp_ne0 hz1984 ht1971 (by decide)))).1.trans ht1971
  have ht2010 : τ_1985 q730 = 9 := (hb1986 _ (Ne.symm (tp_ne0 hz1984 ht1972 (by decide)))).1.trans ht1972
  have ht2011 : τ_1985 q823 = 9 := (hb1986 _ (Ne.symm (tp_ne0 hz1984 ht1973 (by decide)))).1.trans ht1973
  have ht2012 : τ_1985 q919 = 9 := (hb1986 _ (Ne.symm (tp_ne0 hz1984 ht1974 (by decide)))).1.trans ht1974
  have ht2013 : τ_1985 q1018 = 9 := (hb1986 _ (Ne.symm (tp_ne0 hz1984 ht1975 (by decide)))).1.trans ht1975
  have ht2014 : τ_1985 q1120 = 9 := (hb1986 _ (Ne.symm (tp_ne0 hz1984 ht1976 (by decide)))).1.trans ht1976
  have ht2015 : τ_1985 q1225 = 6 := (hb1986 _ (Ne.symm (tp_ne0 hz1984 ht1977 (by decide)))).1.trans ht1977
  have ht2016 : τ_1985 q1338 = 6 := (hb1986 _ (Ne.symm (tp_ne0 hz1984 ht1978 (by decide)))).1.trans ht1978
  have ht2017 : τ_1985 q1454 = 6 := (hb1986 _ (Ne.symm (tp_ne0 hz1984 ht1979 (by decide)))).1.trans ht1979
  have ht2018 : τ_1985 q1573 = 6 := (hb1986 _ (Ne.symm (tp_ne0 hz1984 ht1980 (by decide)))).1.trans ht1980
  have ht2019 : τ_1985 q1695 = 6 := (hb1986 _ (Ne.symm (tp_ne0 hz1984 ht1981 (by decide)))).1.trans ht1981
  have ht2020 : τ_1985 q1820 = 6 := (hb1986 _ (Ne.symm (tp_ne0 hz1984 ht1982 (by decide)))).1.trans ht1982
  have ht2021 : τ_1985 q64 = 24 := (hb1986 _ ne101).1.trans ht1949
  have hz2022 : τ_1985 h0 = 0 := (hb1986 _ ne100).1.trans hz1983
  clear ht1952 hn1953 ht1954 hn1955 ht1956 ht1957 hx1958 ht1959 hx1960 ht1961 hx1962 ht1963 hx1964 ht1965 hx1966 ht1967 hx1968 ht1969 hx1970 ht1971 ht1972 ht1973 ht1974 ht1975 ht1976 ht1977 ht1978 ht1979 ht1980 ht1981 ht1982 ht1949 hz1983 hb1986 ne100 ne101 ne102 ne103
  obtain ⟨τ_2023, ν_2023, ρ_2023, hG, hT, hb2024, ht2025, hn2026, hr2027⟩ := tp_type hG hT hl1890 hz2022 11 (0) (fun k => [0, 0, 0, 0, 0, 0, 0, q9, q35, q64, q87, q114, q156, q213, q274, q339, q408, q481, q558, 0, 0, 0, 0, 0, 0, 0, 0, 0, 0, 0, lb].getD k 0) (by decide) (fun τ9 ν9 ρ9 hE h2 h3 => ⟨(by show (τ9 (ρ9 h0 7) = 20 ∧ ν9 (ρ9 h0 7) = 25) ∧ (τ9 (ρ9 h0 8) = 20 ∧ ν9 (ρ9 h0 8) = 100) ∧ (τ9 (ρ9 h0 9) = 24) ∧ (τ9 (ρ9 h0 10) = 25) ∧ (τ9 (ρ9 h0 11) = 26) ∧ (τ9 (ρ9 h0 12) = 7 ∧ ρ9 (ρ9 h0 12) 11 = 60 ∧ ρ9 (ρ9 h0 12) 30 = ρ9 h0 30 + 12) ∧ (τ9 (ρ9 h0 13) = 7 ∧ ρ9 (ρ9 h0 13) 11 = 20 ∧ ρ9 (ρ9 h0 13) 30 = ρ9 h0 30 + 13) ∧ (τ9 (ρ9 h0 14) = 7 ∧ ρ9 (ρ9 h0 14) 11 = 20 ∧ ρ9 (ρ9 h0 14) 30 = ρ9 h0 30 + 14) ∧ (τ9 (ρ9 h0 15) = 5 ∧ ρ9 (ρ9 h0 15) 10 = 3 ∧ ρ9 (ρ9 h0 15) 11 = 60 ∧ ρ9 (ρ9 h0 15) 30 = ρ9 h0 30 + 15) ∧ (τ9 (ρ9 h0 16) = 5 ∧ ρ9 (ρ9 h0 16) 10 = 5 ∧ ρ9 (ρ9 h0 16) 11 = 60 ∧ ρ9 (ρ9 h0 16) 30 = ρ9 h0 30 + 16) ∧ (τ9 (ρ9 h0 17) = 5 ∧ ρ9 (ρ9 h0 17) 10 = 15 ∧ ρ9 (ρ9 h0 17) 11 = 60 ∧ ρ9 (ρ9 h0 17) 30 = ρ9 h0 30 + 17) ∧ (τ9 (ρ9 h0 18) = 5 ∧ ρ9 (ρ9 h0 18) 10 = 8 ∧ ρ9 (ρ9 h0 18) 11 = 6 ∧ ρ9 (ρ9 h0 18) 30 = ρ9 h0 30 + 18); rw [h3]; exact ⟨⟨(hE q9 (by rw [ht1990]; decide)).1.trans ht1990, (hE q9 (by rw [ht1990]; decide)).2.1.trans hn1991⟩, ⟨(hE q35 (by rw [ht1992]; decide)).1.trans ht1992, (hE q35 (by rw [ht1992]; decide)).2.1.trans hn1993⟩, (hE q64 (by rw [ht2021]; decide)).1.trans ht2021, (hE q87 (by rw [ht1987]; decide)).1.trans ht1987, (hE q114 (by rw [ht1994]; decide)).1.trans ht1994, ⟨(hE q156 (by rw [ht1995]; decide)).1.trans ht1995, by show ρ9 q156 11 = _ ∧ ρ9 q156 30 = _; rw [(hE q156 (by rw [ht1995]; decide)).2.2]; exact hx1996⟩, ⟨(hE q213 (by rw [ht1997]; decide)).1.trans ht1997, by show ρ9 q213 11 = _ ∧ ρ9 q213 30 = _; rw [(hE q213 (by rw [ht1997]; decide)).2.2]; exact hx1998⟩, ⟨(hE q274 (by rw [ht1999]; decide)).1.trans ht1999, by show ρ9 q274 11 = _ ∧ ρ9 q274 30 = _; rw [(hE q274 (by rw [ht1999]; decide)).2.2]; exact hx2000⟩, ⟨(hE q339 (by rw [ht2001]; decide)).1.trans ht2001, by show ρ9 q339 10 = _ ∧ ρ9 q339 11 = _ ∧ ρ9 q339 30 = _; rw [(hE q339 (by rw [ht2001]; decide)).2.2]; exact hx2002⟩, ⟨(hE q408 (by rw [ht2003]; decide)).1.trans ht2003, by show ρ9 q408 10 = _ ∧ ρ9 q408 11 = _ ∧ ρ9 q408 30 = _; rw [(hE q408 (by rw [ht2003]; decide)).2.2]; exact hx2004⟩, ⟨(hE q481 (by rw [ht2005]; decide)).1.trans ht2005, by show ρ9 q481 10 = _ ∧ ρ9 q481 11 = _ ∧ ρ9 q481 30 = _; rw [(hE q481 (by rw [ht2005]; decide)).2.2]; exact hx2006⟩, ⟨(hE q558 (by rw [ht2007]; decide)).1.trans ht2007, by show ρ9 q558 10 = _ ∧ ρ9 q558 11 = _ ∧ ρ9 q558 30 = _; rw [(hE q558 (by rw [ht2007]; decide)).2.2]; exact hx2008⟩⟩), by rw [hf1945]; exact ⟨_, _, _, _, _, _, _, (by rw [h3]; rfl), (by first | decide | (rw [h3]; decide) | (have : (0 : Int32).toInt = 0 := rfl; have : (10 : Int32).toInt = 10 := rfl; have : (700 : Int32).toInt = 700 := rfl; have : (0 : Int32).toInt = 0 := rfl; have : (0 : Int32).toInt = 0 := rfl; have : (0 : Int32).toInt = 0 := rfl; have : (0 : Int32).toInt = 0 := rfl; omega) | (rw [h3]; have : (0 : Int32).toInt = 0 := rfl; have : (10 : Int32).toInt = 10 := rfl; have : (700 : Int32).toInt = 700 := rfl; have : (0 : Int32).toInt = 0 := rfl; have : (0 : Int32).toInt = 0 := rfl; have : (0 : Int32).toInt = 0 := rfl; have : (0 : Int32).toInt = 0 := rfl; omega)), (by first | decide | (rw [h3]; decide) | (have : (0 : Int32).toInt = 0 := rfl; have : (10 : Int32).toInt = 10 := rfl; have : (700 : Int32).toInt = 700 := rfl; have : (0 : Int32).toInt = 0 := rfl; have : (0 : Int32).toInt = 0 := rfl; have : (0 : Int32).toInt = 0 := rfl; have : (0 : Int32).toInt = 0 := rfl; omega) | (rw [h3]; have : (0 : Int32).toInt = 0 := rfl; have : (10 : Int32).toInt = 10 := rfl; have : (700 : Int32).toInt = 700 := rfl; have : (0 : Int32).toInt = 0 := rfl; have : (0 : Int32).toInt = 0 := rfl; have : (0 : Int32).toInt = 0 := rfl; have : (0 : Int32).toInt = 0 := rfl; omega)), (by first | decide | (rw [h3]; decide) | (have : (0 : Int32).toInt = 0 := rfl; have : (10 : Int32).toInt = 10 := rfl; have : (700 : Int32).toInt = 700 := rfl; have : (0 : Int32).toInt = 0 := rfl; have : (0 : Int32).toInt = 0 := rfl; have : (0 : Int32).toInt = 0 := rfl; have : (0 : Int32).toInt = 0 := rfl; omega) | (rw [h3]; have : (0 : Int32).toInt = 0 := rfl; have : (10 : Int32).toInt = 10 := rfl; have : (700 : Int32).toInt = 700 := rfl; have : (0 : Int32).toInt = 0 := rfl; have : (0 : Int32).toInt = 0 := rfl; have : (0 : Int32).toInt = 0 := rfl; have : (0 : Int32).toInt = 0 := rfl; omega)), (by first | decide | (rw [h3]; decide) | (have : (0 : Int32).toInt = 0 := rfl; have : (10 : Int32).toInt = 10 := rfl; have : (700 : Int32).toInt = 700 := rfl; have : (0 : Int32).toInt = 0 := rfl; have : (0 : Int32).toInt = 0 := rfl; have : (0 : Int32).toInt = 0 := rfl; have : (0 : Int32).toInt = 0 := rfl; omega) | (rw [h3]; have : (0 : Int32).toInt = 0 := rfl; have : (10 : Int32).toInt = 10 := rfl; have : (700 : Int32).toInt = 700 := rfl; have : (0 : Int32).toInt = 0 := rfl; have : (0 : Int32).toInt = 0 := rfl; have : (0 : Int32).toInt = 0 := rfl; have : (0 : Int32).toInt = 0 := rfl; omega))⟩⟩)
  have hH := hH.ty (fun a _ ho z => ho (by rw [z])) hb2024
  have hz := tp_Z0.ty hz (fun b q9 => (hb2024 b q9).1) ht2025 ⟨fun z => (by cases z), fun z => (by cases z), fun _ => ⟨by rw [hf1945]; rfl, by rw [hf1945]; rfl, by rw [hf1945]; rfl⟩, fun z => (by cases z), fun z => (by cases z)⟩
  have ht2028 : τ_2023 q9 = 20 := (hb2024 _ (Ne.symm (tp_ne0 hz2022 ht1990 (by decide)))).1.trans ht1990
  have hn2029 : ν_2023 q9 = 25 := (hb2024 _ (Ne.symm (tp_ne0 hz2022 ht1990 (by decide)))).2.1.trans hn1991
  have ht2030 : τ_2023 q35 = 20 := (hb2024 _ (Ne.symm (tp_ne0 hz2022 ht1992 (by decide)))).1.trans ht1992
  have hn2031 : ν_2023 q35 = 100 := (hb2024 _ (Ne.symm (tp_ne0 hz2022 ht1992 (by decide)))).2.1.trans hn1993
  have ht2032 : τ_2023 q114 = 26 := (hb2024 _ (Ne.symm (tp_ne0 hz2022 ht1994 (by decide)))).1.trans ht1994
  have ht2033 : τ_2023 q156 = 7 := (hb2024 _ (Ne.symm (tp_ne0 hz2022 ht1995 (by decide)))).1.trans ht1995
  have hx2034 : ρ_2023 q156 11 = 60 ∧ ρ_2023 q156 30 = (lb + 12) := by rw [(hb2024 _ (Ne.symm (tp_ne0 hz2022 ht1995 (by decide)))).2.2]; exact hx1996
  have ht2035 : τ_2023 q213 = 7 := (hb2024 _ (Ne.symm (tp_ne0 hz2022 ht1997 (by decide)))).1.trans ht1997
  have hx2036 : ρ_2023 q213 11 = 20 ∧ ρ_2023 q213 30 = (lb + 13) := by rw [(hb2024 _ (Ne.symm (tp_ne0 hz2022 ht1997 (by decide)))).2.2]; exact hx1998
  have ht2037 : τ_2023 q274 = 7 := (hb2024 _ (Ne.symm (tp_ne0 hz2022 ht1999 (by decide)))).1.trans ht1999
  have hx2038 : ρ_2023 q274 11 = 20 ∧ ρ_2023 q274 30 = (lb + 14) := by rw [(hb2024 _ (Ne.symm (tp_ne0 hz2022 ht1999 (by decide)))).2.2]; exact hx2000
  have ht2039 : τ_2023 q339 = 5 := (hb2024 _ (Ne.symm (tp_ne0 hz2022 ht2001 (by decide)))).1.trans ht2001
  have hx2040 : ρ_2023 q339 10 = 3 ∧ ρ_2023 q339 11 = 60 ∧ ρ_2023 q339 30 = (lb + 15) := by rw [(hb2024 _ (Ne.symm (tp_ne0 hz2022 ht2001 (by decide)))).2.2]; exact hx2002
  have ht2041 : τ_2023 q408 = 5 := (hb2024 _ (Ne.symm (tp_ne0 hz2022 ht2003 (by decide)))).1.trans ht2003
  have hx2042 : ρ_2023 q408 10 = 5 ∧ ρ_2023 q408 11 = 60 ∧ ρ_2023 q408 30 = (lb + 16) := by rw [(hb2024 _ (Ne.symm (tp_ne0 hz2022 ht2003 (by decide)))).2.2]; exact hx2004
  have ht2043 : τ_2023 q481 = 5 := (hb2024 _ (Ne.symm (tp_ne0 hz2022 ht2005 (by decide)))).1.trans ht2005
  have hx2044 : ρ_2023 q481 10 = 15 ∧ ρ_2023 q481 11 = 60 ∧ ρ_2023 q481 30 = (lb + 17) := by rw [(hb2024 _ (Ne.symm (tp_ne0 hz2022 ht2005 (by decide)))).2.2]; exact hx2006
  have ht2045 : τ_2023 q558 = 5 := (hb2024 _ (Ne.symm (tp_ne0 hz2022 ht2007 (by decide)))).1.trans ht2007
  have hx2046 : ρ_2023 q558 10 = 8 ∧ ρ_2023 q558 11 = 6 ∧ ρ_2023 q558 30 = (lb + 18) := by rw [(hb2024 _ (Ne.symm (tp_ne0 hz2022 ht2007 (by decide)))).2.2]; exact hx2008
  have ht2047 : τ_2023 q640 = 9 := (hb2024 _ (Ne.symm (tp_ne0 hz2022 ht2009 (by decide)))).1.trans ht2009
  have ht2048 : τ_2023 q730 = 9 := (hb2024 _ (Ne.symm (tp_ne0 hz2022 ht2010 (by decide)))).1.trans ht2010
  have ht2049 : τ_2023 q823 = 9 := (hb2024 _ (Ne.symm (tp_ne0 hz2022 ht2011 (by decide)))).1.trans ht2011
  have ht2050 : τ_2023 q919 = 9 := (hb2024 _ (Ne.symm (tp_ne0 hz2022 ht2012 (by decide)))).1.trans ht2012
  have ht2051 : τ_2023 q1018 = 9 := (hb2024 _ (Ne.symm (tp_ne0 hz2022 ht2013 (by decide)))).1.trans ht2013
  have ht2052 : τ_2023 q1120 = 9 := (hb2024 _ (Ne.symm (tp_ne0 hz2022 ht2014 (by decide)))).1.trans ht2014
  have ht2053 : τ_2023 q1225 = 6 := (hb2024 _ (Ne.symm (tp_ne0 hz2022 ht2015 (by decide)))).1.trans ht2015
  have ht2054 : τ_2023 q1338 = 6 := (hb2024 _ (Ne.symm (tp_ne0 hz2022 ht2016 (by decide)))).1.trans ht2016
  have ht2055 : τ_2023 q1454 = 6 := (hb2024 _ (Ne.symm (tp_ne0 hz2022 ht2017 (by decide)))).1.trans ht2017
  have ht2056 : τ_2023 q1573 = 6 := (hb2024 _ (Ne.symm (tp_ne0 hz2022 ht2018 (by decide)))).1.trans ht2018
  have ht2057 : τ_2023 q1695 = 6 := (hb2024 _ (Ne.symm (tp_ne0 hz2022 ht2019 (by decide)))).1.trans ht2019
  have ht2058 : τ_2023 q1820 = 6 := (hb2024 _ (Ne.symm (tp_ne0 hz2022 ht2020 (by decide)))).1.trans ht2020
  have ht2059 : τ_2023 q64 = 24 := (hb2024 _ (Ne.symm (tp_ne0 hz2022 ht2021 (by decide)))).1.trans ht2021
  have ht2060 : τ_2023 q87 = 25 := (hb2024 _ (Ne.symm (tp_ne0 hz2022 ht1987 (by decide)))).1.trans ht1987
  clear ht1990 hn1991 ht1992 hn1993 ht1994 ht1995 hx1996 ht1997 hx1998 ht1999 hx2000 ht2001 hx2002 ht2003 hx2004 ht2005 hx2006 ht2007 hx2008 ht2009 ht2010 ht2011 ht2012 ht2013 ht2014 ht2015 ht2016 ht2017 ht2018 ht2019 ht2020 ht2021 ht1987 hb2024
  refine tp_widen 109 2615 (Nat.le_of_ble_eq_true rfl) (Nat.le_of_ble_eq_true rfl) ?_
  exact W.vret hx hb hr (fun t ht hW => ⟨⟨(τ_2023, ν_2023, ρ_2023, L_1866, f1942), rfl, ⟨⟨hG, hT, hH⟩, ⟨⟨ht2025, congrFun hr2027 30⟩, hz⟩⟩, by rw [ht]; exact hP, va_K.moved hW.alike hK, hD⟩, hS.F ht⟩) hS.2.2 dX10_init_211
end
section
def tyX11 : Nat → FieldType := fun k => match k with
  | 0 => .object "ColdShips$World"
  | 1 => .array (.object "ColdShips$World")
  | 2 => .object "ColdShips$Watch"
  | 3 => .object "ColdShips$Reader"
  | 4 => .object "ColdShips$Reckoner"
  | 5 => .object "ColdShips$Planner"
  | _ => .int
theorem nmX11 : ∀ a, a < 7 → ∀ b, b < 7 → a ≠ b → (TX11 a).2.1 ≠ (TX11 b).2.1 := by decide +kernel
theorem tyX11_ok : ∀ k, k < 7 → parseFieldDescriptor (TX11 k).2.2.1 = some (tyX11 k) := by decide +kernel
theorem ggX11_init_X10_init : GoodIn WALL wqX10_init := wg_c wa_35
theorem ggX11_init_X9_init : GoodIn WALL wqX9_init := wg_c wa_112
theorem ggX11_init_X2_init : GoodIn WALL wqX2_init := wg_c wa_116
theorem ggX11_init_X3_init : GoodIn WALL wqX3_init := wg_c wa_125
theorem ggX11_init_X1_init : GoodIn WALL wqX1_init := wg_c wa_132
theorem dX11_init_0 : decode cX11_init 0 = .ok (.aload_n 0, 1) := od_42  (by decide +kernel)
theorem dX11_init_1 : decode cX11_init 1 = .ok (.invokespecial 1, 3) := od_183 (a := 0) (b := 1) (by decide +kernel) (by decide)
theorem dX11_init_4 : decode cX11_init 4 = .ok (.aload_n 0, 1) := od_42  (by decide +kernel)
theorem dX11_init_5 : decode cX11_init 5 = .ok (.new 7, 3) := od_187 (a := 0) (b := 7) (by decide +kernel) (by decide)
theorem dX11_init_8 : decode cX11_init 8 = .ok (.dup, 1) := od_89  (by decide +kernel)
theorem dX11_init_9 : decode cX11_init 9 = .ok (.invokespecial 9, 3) := od_183 (a := 0) (b := 9) (by decide +kernel) (by decide)
theorem dX11_init_12 : decode cX11_init 12 = .ok (.putfield 10, 3) := od_181 (a := 0) (b := 10) (by decide +kernel) (by decide)
theorem dX11_init_15 : decode cX11_init 15 = .ok (.aload_n 0, 1) := od_42  (by decide +kernel)
theorem dX11_init_16 : decode cX11_init 16 = .ok (.iconst 2, 1) := od_5  (by decide +kernel)
theorem dX11_init_17 : decode cX11_init 17 = .ok (.anewarray 7, 3) := od_189 (a := 0) (b := 7) (by decide +kernel) (by decide)
theorem dX11_init_20 : decode cX11_init 20 = .ok (.putfield 16, 3) := od_181 (a := 0) (b := 16) (by decide +kernel) (by decide)
theorem dX11_init_23 : decode cX11_init 23 = .ok (.aload_n 0, 1) := od_42  (by decide +kernel)
theorem dX11_init_24 : decode cX11_init 24 = .ok (.new 20, 3) := od_187 (a := 0) (b := 20) (by decide +kernel) (by decide)
theorem dX11_init_27 : decode cX11_init 27 = .ok (.dup, 1) := od_89  (by decide +kernel)
theorem dX11_init_28 : decode cX11_init 28 = .ok (.aload_n 0, 1) := od_42  (by decide +kernel)
theorem dX11_init_29 : decode cX11_init 29 = .ok (.getfield 10, 3) := od_180 (a := 0) (b := 10) (by decide +kernel) (by decide)
theorem dX11_init_32 : decode cX11_init 32 = .ok (.invokespecial 22, 3) := od_183 (a := 0) (b := 22) (by decide +kernel) (by decide)
theorem dX11_init_35 : decode cX11_init 35 = .ok (.putfield 25, 3) := od_181 (a := 0) (b := 25) (by decide +kernel) (by decide)
theorem dX11_init_38 : decode cX11_init 38 = .ok (.aload_n 0, 1) := od_42  (by decide +kernel)
theorem dX11_init_39 : decode cX11_init 39 = .ok (.new 29, 3) := od_187 (a := 0) (b := 29) (by decide +kernel) (by decide)
theorem dX11_init_42 : decode cX11_init 42 = .ok (.dup, 1) := od_89  (by decide +kernel)
theorem dX11_init_43 : decode cX11_init 43 = .ok (.invokespecial 31, 3) := od_183 (a := 0) (b := 31) (by decide +kernel) (by decide)
theorem dX11_init_46 : decode cX11_init 46 = .ok (.putfield 32, 3) := od_181 (a := 0) (b := 32) (by decide +kernel) (by decide)
theorem dX11_init_49 : decode cX11_init 49 = .ok (.aload_n 0, 1) := od_42  (by decide +kernel)
theorem dX11_init_50 : decode cX11_init 50 = .ok (.new 36, 3) := od_187 (a := 0) (b := 36) (by decide +kernel) (by decide)
theorem dX11_init_53 : decode cX11_init 53 = .ok (.dup, 1) := od_89  (by decide +kernel)
theorem dX11_init_54 : decode cX11_init 54 = .ok (.aload_n 0, 1) := od_42  (by decide +kernel)
theorem dX11_init_55 : decode cX11_init 55 = .ok (.getfield 10, 3) := od_180 (a := 0) (b := 10) (by decide +kernel) (by decide)
theorem dX11_init_58 : decode cX11_init 58 = .ok (.invokespecial 38, 3) := od_183 (a := 0) (b := 38) (by decide +kernel) (by decide)
theorem dX11_init_61 : decode cX11_init 61 = .ok (.putfield 39, 3) := od_181 (a := 0) (b := 39) (by decide +kernel) (by decide)
theorem dX11_init_64 : decode cX11_init 64 = .ok (.aload_n 0, 1) := od_42  (by decide +kernel)
theorem dX11_init_65 : decode cX11_init 65 = .ok (.new 43, 3) := od_187 (a := 0) (b := 43) (by decide +kernel) (by decide)
theorem dX11_init_68 : decode cX11_init 68 = .ok (.dup, 1) := od_89  (by decide +kernel)
theorem dX11_init_69 : decode cX11_init 69 = .ok (.aload_n 0, 1) := od_42  (by decide +kernel)
theorem dX11_init_70 : decode cX11_init 70 = .ok (.getfield 10, 3) := od_180 (a := 0) (b := 10) (by decide +kernel) (by decide)
theorem dX11_init_73 : decode cX11_init 73 = .ok (.invokespecial 45, 3) := od_183 (a := 0) (b := 45) (by decide +kernel) (by decide)
theorem dX11_init_76 : decode cX11_init 76 = .ok (.putfield 46, 3) := od_181 (a := 0) (b := 46) (by decide +kernel) (by decide)
theorem dX11_init_79 : decode cX11_init 79 = .ok (.return_, 1) := od_177  (by decide +kernel)
end
section
set_option maxHeartbeats 4000000 in
set_option maxRecDepth 100000 in
theorem t_X11_init (l : Launch) (dC : Nat → ClassId) (dI : Nat → Nat → Nat) (sz : Nat) (Ω : Nat → Nat → (Nat → Nat) → va_E → Prop) (κ : Nat → ClassId) (τ ν : Nat → Nat) (ρ : Nat → Nat → Nat) (L : List Nat) (f : Nat → va_E) (hG : tp_G τ ν ρ L) (hT : tp_T Ω κ τ ν ρ f) (h0 : Nat) (Zb : Prop) (hl_h0 : h0 ∈ L) (hz_h0 : τ h0 = 0) (hf_h0 : f h0 = .inr (11, [.null, .null, .null, .null, .null, .null, .int 0])) (hz : Zb → tp_Z0 τ f) : Met l yX11_init wqX11_init ({ frames := 5, cells := 129, slots := 4104, locals := 1600 }) (va_Pc [.ref h0] (pz_B dC dI (tp_K κ) (va_pl L f) sz)) (va_Qv (fun (x : tp_S) => tp_PX Ω κ τ ν ρ L f [] (some h0) x ∧ (x.1 h0 = 12) ∧ (Zb → tp_Z0 x.1 x.2.2.2.2)) (fun (x : tp_S) (t : State) => pz_E dC dI (tp_K κ) (va_A (va_pl L f) sz) (va_pl x.2.2.2.1 x.2.2.2.2) t) (va_A (va_pl L f) sz)) 129 4104 (va_A (va_pl L f) sz) := by
  refine Met.ofW (cc := cX11_init) (maxL := 1) (ret := none) (by decide) rfl ?_
  intro p e s m args below meth c s₁ B hml hv
  obtain ⟨rfl, hsz, hP, hK, hD0, hN⟩ := hv
  have hx := B.exec
  have hb := B.bytes
  have hr := B.returns
  have hts := fun (w : Cond) (h : w ∈ WALL) => atoms_spec (ws := wqX11_init) B.pre w (List.mem_cons_of_mem _ h)
  have hown : s.vm.findClass RX11 = some m.cls := findClass_of_methodNamed B.named
  have hlocks := B.notSynchronized
  have hin : meth.name = "<init>" := (name_of_methodNamed B.named B.method).1
  subst hsz
  have hD := hD0.self (sz := s.heap.size)
  generalize hAe : va_A (va_pl L f) s.heap.size = A at hD ⊢
  have hA : ∀ q : Nat, s.heap.size ≤ q → A q := fun q h => by rw [← hAe]; exact Or.inr h
  have hS : va_S A s.heap s.heap [] := va_S.rf
  have hH : tp_H τ ν ρ L f [] (some h0) τ ν ρ L f := tp_H.rf
  have hl := lv_entry ([.ref h0]) (n := 1) (Nat.le_of_ble_eq_true rfl)
  rw [lg_entry_eq]
  generalize (lg_sl ([.ref h0]) ++ List.replicate (1 - (lg_sl ([.ref h0])).length) Slot.unset).toArray = ls at hl ⊢
  have hl : lv_has ls 1 [(0, .ref h0)] := hl
  refine lv_aload_n hx hb dX11_init_0 rfl (lv_at hl 0 rfl) ?_
  refine W.objInit hx hb hown (hts (.methodLink RX11 1 objectInit) wa_9) (hts (.instanceMethod objectInit) wa_10) (hts (.code objectInit ⟨#[0xb1]⟩ 1 none) wa_11) rfl (by rw [hml]; exact hl.1) rfl dX11_init_1 (Nat.le_of_ble_eq_true rfl) (Nat.le_of_ble_eq_true rfl) ?_
  refine W.eq (g2 := F0 m 4 ls []) rfl ?_
  refine lv_aload_n hx hb dX11_init_4 rfl (lv_at hl 0 rfl) ?_
  refine va_new (ci := 10) (fs := [.int 0, .int 0, .int 0, .int 0, .int 0, .int 0, .int 0, .null, .null, .null, .null, .null, .null, .null, .null, .null, .null, .null, .null]) (C := RX10) (T := TX10) (N := 19) hx hb hts hfX10 tyX10 tyX10_ok hown (hts (.classLink RX11 7 RX10) wa_12) (hts (.instantiable RX10 19) wa_13) (hts (.initialized RX10) wa_14) hK hP hD hS hA rfl (fun j hj => by rcases tpj_19 j hj with rfl | rfl | rfl | rfl | rfl | rfl | rfl | rfl | rfl | rfl | rfl | rfl | rfl | rfl | rfl | rfl | rfl | rfl | rfl <;> rfl) (Nat.le_of_ble_eq_true rfl) (Nat.le_of_ble_eq_true rfl) dX11_init_5 (fun q1 H hP hD hS => ?_)
  refine Exists.elim (tp_grow hG hT hP hD) (fun L11 hE90 => Exists.elim hE90 (fun f10 hE91 => tn_10 hE91 (fun hP hD hg2 ht3 hs4 hq5 hz6 hn7 hf8 ho9 => ?_)))
  clear hE91 hE90
  have hn12 : ∀ a, a ∈ L → a ≠ q1 := fun a ha => hn7 a (hH.1 a ha)
  have ne13 : h0 ≠ q1 := hn7 _ hl_h0
  have hG := hg2
  have hT := ht3
  have hH := hH.gr hs4 hn7 ho9
  have hz := tp_Z0.wt hz hz6 (by decide) ho9
  have hf14 : f10 h0 = .inr (11, [.null, .null, .null, .null, .null, .null, .int 0]) := (ho9 _ ne13).trans hf_h0
  have hl15 : h0 ∈ L11 := hs4 _ hl_h0
  clear hf_h0 hl_h0
  refine lv_dup hx hb dX11_init_8 rfl ?_
  have hFc := tp_fr hD hS hA
  refine va_callv (va_runI (As := []) (rest := [.ref q1, .ref h0]) ⟨hx, hb, hml, hown, hts⟩ (t_X10_init l dC dI _ Ω κ τ ν ρ L11 f10 hG hT q1 0 Zb hq5 hz6 hf8 hz) (cwI 0 hts ggX11_init_X10_init rfl rfl rfl (hts (.initialized RX10) wa_14) (hts (.methodLink RX11 9 yX10_init) wa_33) (hts (.instanceMethod yX10_init) wa_34) rfl pd_X10_init ⟨Nat.le_of_ble_eq_true rfl, Nat.le_of_ble_eq_true rfl⟩) ⟨pz_blind, pz_pre hP hK hD hN⟩ rfl rfl hl.1 rfl (lv_room (Nat.le_of_ble_eq_true rfl)) dX11_init_9 ⟨Nat.le_of_ble_eq_true rfl, Nat.le_of_ble_eq_true rfl⟩) hS (fun q _ h => hFc q h) hFc (fun x16 t H1 locs ht hvm hw18 hB hz1 hk1 hS => ?_)
  obtain ⟨τ_20, ν_20, ρ_20, L_20, f19⟩ := x16
  obtain ⟨⟨hG9, hT9, hH9⟩, hw18p⟩ := hw18
  have hc21 := hH9.2 _ hl15 (fun z => ne13 (Option.some.inj z))
  have hf22 : f19 h0 = .inr (11, [.null, .null, .null, .null, .null, .null, .int 0]) := (hc21.2.2.2 (by rw [hz_h0]; decide)).trans hf14
  have hl23 := hH9.1 _ hl15
  have hH := hH.call hH9 (by decide) (fun a ha _ z => hn12 a ha (Option.some.inj z))
  have hG : tp_G τ_20 ν_20 ρ_20 L_20 := hG9; have hT : tp_T Ω κ τ_20 ν_20 ρ_20 f19 := hT9
  have hH : tp_H τ ν ρ L f [] (some h0) τ_20 ν_20 ρ_20 L_20 f19 := hH
  have hz := hw18p.2
  have hw18p := hw18p.1
  have hP := hB.1; rw [ht] at hP; have hD := tp_Dw hB.2.2 hFc; clear hB hFc hz1 hk1; subst ht; generalize t.heap = H at hP hS ⊢
  have hP : va_P (dC, dI) vwCl (va_pl L_20 f19) H := hP
  have hD : va_D A (va_pl L_20 f19) := hD
  have hz24 : τ_20 h0 = 0 := hc21.1.trans hz_h0
  clear hz_h0 ne13 hc21 hG9 hT9 hH9
  have ht25 : τ_20 q1 = 11 := hw18p.1
  have hx26 : ρ_20 q1 30 = 0 := hw18p.2
  refine tpk_pos hl23 hf22 (fun q27 eq27 => ?_)
  refine va_putF (D := (dC, dI)) (ci := 11) (v := .ref q1) (ty := (.object "ColdShips$World")) (C := RX11) (T := TX11) (N := 7) hx hb hts hfX11 tyX11 tyX11_ok nmX11 hown hK hP hD hS q27 eq27 rfl 0 (by decide) (hts (.fieldLink RX11 10 "ColdShips" "world" "LColdShips$World;") wa_15) (fun _ h9 => h9) rfl hin rfl (tyX11_ok 0 (by decide)) rfl rfl (Nat.le_of_ble_eq_true rfl) dX11_init_12 (tp_k (.inr (11, [.ref q1, .null, .null, .null, .null, .null, .int 0])) hD hl23 eq27 (fun f28 H locs hP hD hS g30 k29 => ?_))
  have hT := hT.raw hz24 k29
  have hz := tp_Z0.wt hz hz24 (by decide) k29
  have hH := hH.wo k29
  refine lv_aload_n hx hb dX11_init_15 rfl (lv_at hl 0 rfl) ?_
  refine lv_iconst (v := 2) hx hb dX11_init_16 (by decide) ?_
  refine va_newq hx hb hown (hts (.classLink RX11 7 RX10) wa_12) hN.2.1 hK hP hD hS hA (by decide +kernel : ¬ (2 : Int32) < 0) (by decide +kernel : (2 : Int32).toNatClampNeg = 2) (by decide +kernel) (Nat.le_of_ble_eq_true rfl) (Nat.le_of_ble_eq_true rfl) dX11_init_17 (fun q31 k32 H hK hP hD hS => ?_)
  obtain ⟨e9, hK9⟩ := tp_kid 7 rfl hK; subst e9; have hK := hK9
  refine Exists.elim (tp_grow hG hT hP hD) (fun L42 hE90 => Exists.elim hE90 (fun f41 hE91 => tn_10 hE91 (fun hP hD hg33 ht34 hs35 hq36 hz37 hn38 hf39 ho40 => ?_)))
  clear hE91 hE90
  have hn43 : ∀ a, a ∈ L → a ≠ q31 := fun a ha => hn38 a (hH.1 a ha)
  have ne44 : h0 ≠ q31 := hn38 _ hl23
  have ne45 : q1 ≠ q31 := hn38 _ (tp_in hG ht25 (by decide))
  have hG := hg33
  have hT := ht34
  have hH := hH.gr hs35 hn38 ho40
  have hz := tp_Z0.wt hz hz37 (by decide) ho40
  have hf46 : f41 h0 = .inr (11, [.ref q1, .null, .null, .null, .null, .null, .int 0]) := (ho40 _ ne44).trans g30
  have hl47 : h0 ∈ L42 := hs35 _ hl23
  clear g30 hl23
  obtain ⟨τ_48, ν_48, ρ_48, hG, hT, hb49, ht50, hn51, hr52⟩ := tp_type hG hT hq36 hz37 27 (0) (fun _ => 0) (by decide) (fun τ9 ν9 ρ9 hE h2 h3 => ⟨trivial, by rw [hf39]; exact ⟨_, rfl, fun j _ => Or.inl rfl⟩⟩)
  have hH := hH.ty (fun a ha _ => hn43 a ha) hb49
  have hz := tp_Z0.ty hz (fun b q9 => (hb49 b q9).1) ht50 ⟨fun z => (by cases z), fun z => (by cases z), fun z => (by cases z), fun _ j => (by rw [hf39]; rfl), fun z => (by cases z)⟩
  have ht53 : τ_48 q1 = 11 := (hb49 _ ne45).1.trans ht25
  have hx54 : ρ_48 q1 30 = 0 := by rw [(hb49 _ ne45).2.2]; exact hx26
  have hz55 : τ_48 h0 = 0 := (hb49 _ ne44).1.trans hz24
  clear ht25 hx26 hz24 hb49 ne44 ne45
  refine tpk_pos hl47 hf46 (fun q56 eq56 => ?_)
  refine va_putF (D := (dC, dI)) (ci := 11) (v := .ref q31) (ty := (.array (.object "ColdShips$World"))) (C := RX11) (T := TX11) (N := 7) hx hb hts hfX11 tyX11 tyX11_ok nmX11 hown hK hP hD hS q56 eq56 rfl 1 (by decide) (hts (.fieldLink RX11 16 "ColdShips" "images" "[LColdShips$World;") wa_16) (fun _ h9 => h9) rfl hin rfl (tyX11_ok 1 (by decide)) rfl rfl (Nat.le_of_ble_eq_true rfl) dX11_init_20 (tp_k (.inr (11, [.ref q1, .ref q31, .null, .null, .null, .null, .int 0])) hD hl47 eq56 (fun f57 H locs hP hD hS g59 k58 => ?_))
  have hT := hT.raw hz55 k58
  have hz := tp_Z0.wt hz hz55 (by decide) k58
  have hH := hH.wo k58
  refine lv_aload_n hx hb dX11_init_23 rfl (lv_at hl 0 rfl) ?_
  refine va_new (ci := 9) (fs := [.null, .int 0, .int 0, .int 0]) (C := RX9) (T := TX9) (N := 4) hx hb hts hfX9 tyX9 tyX9_ok hown (hts (.classLink RX11 20 RX9) wa_17) (hts (.instantiable RX9 4) wa_18) (hts (.initialized RX9) wa_19) hK hP hD hS hA rfl (fun j hj => by rcases tpj_4 j hj with rfl | rfl | rfl | rfl <;> rfl) (Nat.le_of_ble_eq_true rfl) (Nat.le_of_ble_eq_true rfl) dX11_init_24 (fun q60 H hP hD hS => ?_)
  refine Exists.elim (tp_grow hG hT hP hD) (fun L70 hE90 => Exists.elim hE90 (fun f69 hE91 => tn_10 hE91 (fun hP hD hg61 ht62 hs63 hq64 hz65 hn66 hf67 ho68 => ?_)))
  clear hE91 hE90
  have hn71 : ∀ a, a ∈ L → a ≠ q60 := fun a ha => hn66 a (hH.1 a ha)
  have ne72 : h0 ≠ q60 := hn66 _ hl47
  have ne73 : q1 ≠ q60 := hn66 _ (tp_in hG ht53 (by decide))
  have ne74 : q31 ≠ q60 := hn66 _ (tp_in hG ht50 (by decide))
  have hG := hg61
  have hT := ht62
  have hH := hH.gr hs63 hn66 ho68
  have hz := tp_Z0.wt hz hz65 (by decide) ho68
  have hf75 : f69 h0 = .inr (11, [.ref q1, .ref q31, .null, .null, .null, .null, .int 0]) := (ho68 _ ne72).trans g59
  have hl76 : h0 ∈ L70 := hs63 _ hl47
  clear g59 hl47
  refine lv_dup hx hb dX11_init_27 rfl ?_
  refine lv_aload_n hx hb dX11_init_28 rfl (lv_at hl 0 rfl) ?_
  refine tpk_pos hl76 hf75 (fun q77 eq77 => ?_)
  refine va_get (D := (dC, dI)) (ci := 11) (v := .ref q1) (C := RX11) (T := TX11) (N := 7) hx hb hts hfX11 hown hK hP q77 eq77 rfl 0 (by decide) (hts (.fieldLink RX11 10 "ColdShips" "world" "LColdShips$World;") wa_15) (fun _ h9 => h9) rfl dX11_init_29 ?_
  have hFc := tp_fr hD hS hA
  refine va_callv (va_runI (As := [.ref q1]) (rest := [.ref q60, .ref h0]) ⟨hx, hb, hml, hown, hts⟩ (t_X9_init l dC dI _ Ω κ τ_48 ν_48 ρ_48 L70 f69 hG hT q60 q1 Zb hq64 hz65 hf67 ht53 hx54 hz) (cwI 1 hts ggX11_init_X9_init rfl rfl rfl (hts (.initialized RX9) wa_19) (hts (.methodLink RX11 22 yX9_init) wa_110) (hts (.instanceMethod yX9_init) wa_111) rfl pd_X9_init ⟨Nat.le_of_ble_eq_true rfl, Nat.le_of_ble_eq_true rfl⟩) ⟨pz_blind, pz_pre hP hK hD hN⟩ rfl rfl hl.1 rfl (lv_room (Nat.le_of_ble_eq_true rfl)) dX11_init_32 ⟨Nat.le_of_ble_eq_true rfl, Nat.le_of_ble_eq_true rfl⟩) hS (fun q _ h => hFc q h) hFc (fun x78 t H1 locs ht hvm hw80 hB hz1 hk1 hS => ?_)
  obtain ⟨τ_82, ν_82, ρ_82, L_82, f81⟩ := x78
  obtain ⟨⟨hG9, hT9, hH9⟩, hw80p⟩ := hw80
  have hc83 := hH9.2 _ (tp_in hG ht53 (by decide)) (fun z => ne73 (Option.some.inj z))
  have hc84 := hH9.2 _ (tp_in hG ht50 (by decide)) (fun z => ne74 (Option.some.inj z))
  have hc85 := hH9.2 _ hl76 (fun z => ne72 (Option.some.inj z))
  have hf86 : f81 h0 = .inr (11, [.ref q1, .ref q31, .null, .null, .null, .null, .int 0]) := (hc85.2.2.2 (by rw [hz55]; decide)).trans hf75
  have hl87 := hH9.1 _ hl76
  have hH := hH.call hH9 (by decide) (fun a ha _ z => hn71 a ha (Option.some.inj z))
  have hG : tp_G τ_82 ν_82 ρ_82 L_82 := hG9; have hT : tp_T Ω κ τ_82 ν_82 ρ_82 f81 := hT9
  have hH : tp_H τ ν ρ L f [] (some h0) τ_82 ν_82 ρ_82 L_82 f81 := hH
  have hz := hw80p.2
  have hw80p := hw80p.1
  have hP := hB.1; rw [ht] at hP; have hD := tp_Dw hB.2.2 hFc; clear hB hFc hz1 hk1; subst ht; generalize t.heap = H at hP hS ⊢
  have hP : va_P (dC, dI) vwCl (va_pl L_82 f81) H := hP
  have hD : va_D A (va_pl L_82 f81) := hD
  have ht88 : τ_82 q1 = 11 := hc83.1.trans ht53
  have hx89 : ρ_82 q1 30 = 0 := by have q9 : ρ_82 q1 = _ := hc83.2.2.1; rw [q9]; exact hx54
  have ht90 : τ_82 q31 = 27 := hc84.1.trans ht50
  have hz91 : τ_82 h0 = 0 := hc85.1.trans hz55
  clear ht53 hx54 ht50 hz55 ne72 ne73 ne74 hc83 hc84 hc85 hG9 hT9 hH9
  have ht92 : τ_82 q60 = 10 := hw80p.1
  have hx93 : ρ_82 q60 0 = q1 := hw80p.2
  refine tpk_pos hl87 hf86 (fun q94 eq94 => ?_)
  refine va_putF (D := (dC, dI)) (ci := 11) (v := .ref q60) (ty := (.object "ColdShips$Watch")) (C := RX11) (T := TX11) (N := 7) hx hb hts hfX11 tyX11 tyX11_ok nmX11 hown hK hP hD hS q94 eq94 rfl 2 (by decide) (hts (.fieldLink RX11 25 "ColdShips" "watch" "LColdShips$Watch;") wa_20) (fun _ h9 => h9) rfl hin rfl (tyX11_ok 2 (by decide)) rfl rfl (Nat.le_of_ble_eq_true rfl) dX11_init_35 (tp_k (.inr (11, [.ref q1, .ref q31, .ref q60, .null, .null, .null, .int 0])) hD hl87 eq94 (fun f95 H locs hP hD hS g97 k96 => ?_))
  have hT := hT.raw hz91 k96
  have hz := tp_Z0.wt hz hz91 (by decide) k96
  have hH := hH.wo k96
  refine lv_aload_n hx hb dX11_init_38 rfl (lv_at hl 0 rfl) ?_
  refine va_new (ci := 2) (fs := [.null, .int 0, .int 0, .int 0, .int 0, .int 0, .int 0, .null, .int 0, .null, .int 0, .int 0, .int 0, .int 0, .int 0, .int 0]) (C := RX2) (T := TX2) (N := 16) hx hb hts hfX2 tyX2 tyX2_ok hown (hts (.classLink RX11 29 RX2) wa_21) (hts (.instantiable RX2 16) wa_22) (hts (.initialized RX2) wa_23) hK hP hD hS hA rfl (fun j hj => by rcases tpj_16 j hj with rfl | rfl | rfl | rfl | rfl | rfl | rfl | rfl | rfl | rfl | rfl | rfl | rfl | rfl | rfl | rfl <;> rfl) (Nat.le_of_ble_eq_true rfl) (Nat.le_of_ble_eq_true rfl) dX11_init_39 (fun q98 H hP hD hS => ?_)
  refine Exists.elim (tp_grow hG hT hP hD) (fun L108 hE90 => Exists.elim hE90 (fun f107 hE91 => tn_10 hE91 (fun hP hD hg99 ht100 hs101 hq102 hz103 hn104 hf105 ho106 => ?_)))
  clear hE91 hE90
  have hn109 : ∀ a, a ∈ L → a ≠ q98 := fun a ha => hn104 a (hH.1 a ha)
  have ne110 : h0 ≠ q98 := hn104 _ hl87
  have ne111 : q1 ≠ q98 := hn104 _ (tp_in hG ht88 (by decide))
  have ne112 : q31 ≠ q98 := hn104 _ (tp_in hG ht90 (by decide))
  have ne113 : q60 ≠ q98 := hn104 _ (tp_in hG ht92 (by decide))
  have hG := hg99
  have hT := ht100
  have hH := hH.gr hs101 hn104 ho106
  have hz := tp_Z0.wt hz hz103 (by decide) ho106
  have hf114 : f107 h0 = .inr (11, [.ref q1, .ref q31, .ref q60, .null, .null, .null, .int 0]) := (ho106 _ ne110).trans g97
  have hl115 : h0 ∈ L108 := hs101 _ hl87
  clear g97 hl87
  refine lv_dup hx hb dX11_init_42 rfl ?_
  have hFc := tp_fr hD hS hA
  refine va_callv (va_runIN (As := []) (rest := [.ref q98, .ref h0]) ⟨hx, hb, hml, hown, hts⟩ (t_X2_init l dC dI _ Ω κ τ_82 ν_82 ρ_82 L108 f107 hG hT q98 Zb hq102 hz103 hf105 hz) ⟨(va_cnB (host := "ColdShips") 0 hts ggX11_init_X2_init rfl rfl rfl (hN.1 (.methodLinkNest RX11 31 yX2_init "ColdShips") nzw_107) (hts (.initialized RX2) wa_23) pd_X2_init ⟨Nat.le_of_ble_eq_true rfl, Nat.le_of_ble_eq_true rfl⟩), rfl, (hts (.instanceMethod yX2_init) wa_115)⟩ ⟨pz_blind, pz_pre hP hK hD hN⟩ rfl rfl hl.1 rfl (lv_room (Nat.le_of_ble_eq_true rfl)) dX11_init_43 ⟨Nat.le_of_ble_eq_true rfl, Nat.le_of_ble_eq_true rfl⟩) hS (fun q _ h => hFc q h) hFc (fun x116 t H1 locs ht hvm hw118 hB hz1 hk1 hS => ?_)
  obtain ⟨τ_120, ν_120, ρ_120, L_120, f119⟩ := x116
  obtain ⟨⟨hG9, hT9, hH9⟩, hw118p⟩ := hw118
  have hc121 := hH9.2 _ (tp_in hG ht88 (by decide)) (fun z => ne111 (Option.some.inj z))
  have hc122 := hH9.2 _ (tp_in hG ht90 (by decide)) (fun z => ne112 (Option.some.inj z))
  have hc123 := hH9.2 _ (tp_in hG ht92 (by decide)) (fun z => ne113 (Option.some.inj z))
  have hc124 := hH9.2 _ hl115 (fun z => ne110 (Option.some.inj z))
  have hf125 : f119 h0 = .inr (11, [.ref q1, .ref q31, .ref q60, .null, .null, .null, .int 0]) := (hc124.2.2.2 (by rw [hz91]; decide)).trans hf114
  have hl126 := hH9.1 _ hl115
  have hH := hH.call hH9 (by decide) (fun a ha _ z => hn109 a ha (Option.some.inj z))
  have hG : tp_G τ_120 ν_120 ρ_120 L_120 := hG9; have hT : tp_T Ω κ τ_120 ν_120 ρ_120 f119 := hT9
  have hH : tp_H τ ν ρ L f [] (some h0) τ_120 ν_120 ρ_120 L_120 f119 := hH
  have hz := hw118p.2
  have hw118p := hw118p.1
  have hP := hB.1; rw [ht] at hP; have hD := tp_Dw hB.2.2 hFc; clear hB hFc hz1 hk1; subst ht; generalize t.heap = H at hP hS ⊢
  have hP : va_P (dC, dI) vwCl (va_pl L_120 f119) H := hP
  have hD : va_D A (va_pl L_120 f119) := hD
  have ht127 : τ_120 q1 = 11 := hc121.1.trans ht88
  have hx128 : ρ_120 q1 30 = 0 := by have q9 : ρ_120 q1 = _ := hc121.2.2.1; rw [q9]; exact hx89
  have ht129 : τ_120 q31 = 27 := hc122.1.trans ht90
  have ht130 : τ_120 q60 = 10 := hc123.1.trans ht92
  have hx131 : ρ_120 q60 0 = q1 := by have q9 : ρ_120 q60 = _ := hc123.2.2.1; rw [q9]; exact hx93
  have hz132 : τ_120 h0 = 0 := hc124.1.trans hz91
  clear ht88 hx89 ht90 ht92 hx93 hz91 ne110 ne111 ne112 ne113 hc121 hc122 hc123 hc124 hG9 hT9 hH9
  have ht133 : τ_120 q98 = 3 := hw118p
  refine tpk_pos hl126 hf125 (fun q134 eq134 => ?_)
  refine va_putF (D := (dC, dI)) (ci := 11) (v := .ref q98) (ty := (.object "ColdShips$Reader")) (C := RX11) (T := TX11) (N := 7) hx hb hts hfX11 tyX11 tyX11_ok nmX11 hown hK hP hD hS q134 eq134 rfl 3 (by decide) (hts (.fieldLink RX11 32 "ColdShips" "reader" "LColdShips$Reader;") wa_24) (fun _ h9 => h9) rfl hin rfl (tyX11_ok 3 (by decide)) rfl rfl (Nat.le_of_ble_eq_true rfl) dX11_init_46 (tp_k (.inr (11, [.ref q1, .ref q31, .ref q60, .ref q98, .null, .null, .int 0])) hD hl126 eq134 (fun f135 H locs hP hD hS g137 k136 => ?_))
  have hT := hT.raw hz132 k136
  have hz := tp_Z0.wt hz hz132 (by decide) k136
  have hH := hH.wo k136
  refine lv_aload_n hx hb dX11_init_49 rfl (lv_at hl 0 rfl) ?_
  refine va_new (ci := 3) (fs := [.null, .null, .null, .int 0, .long 0, .long 0]) (C := RX3) (T := TX3) (N := 6) hx hb hts hfX3 tyX3 tyX3_ok hown (hts (.classLink RX11 36 RX3) wa_25) (hts (.instantiable RX3 6) wa_26) (hts (.initialized RX3) wa_27) hK hP hD hS hA rfl (fun j hj => by rcases tpj_6 j hj with rfl | rfl | rfl | rfl | rfl | rfl <;> rfl) (Nat.le_of_ble_eq_true rfl) (Nat.le_of_ble_eq_true rfl) dX11_init_50 (fun q138 H hP hD hS => ?_)
  refine Exists.elim (tp_grow hG hT hP hD) (fun L148 hE90 => Exists.elim hE90 (fun f147 hE91 => tn_10 hE91 (fun hP hD hg139 ht140 hs141 hq142 hz143 hn144 hf145 ho146 => ?_)))
  clear hE91 hE90
  have hn149 : ∀ a, a ∈ L → a ≠ q138 := fun a ha => hn144 a (hH.1 a ha)
  have ne150 : h0 ≠ q138 := hn144 _ hl126
  have ne151 : q1 ≠ q138 := hn144 _ (tp_in hG ht127 (by decide))
  have ne152 : q31 ≠ q138 := hn144 _ (tp_in hG ht129 (by decide))
  have ne153 : q60 ≠ q138 := hn144 _ (tp_in hG ht130 (by decide))
  have ne154 : q98 ≠ q138 := hn144 _ (tp_in hG ht133 (by decide))
  have hG := hg139
  have hT := ht140
  have hH := hH.gr hs141 hn144 ho146
  have hz := tp_Z0.wt hz hz143 (by decide) ho146
  have hf155 : f147 h0 = .inr (11, [.ref q1, .ref q31, .ref q60, .ref q98, .null, .null, .int 0]) := (ho146 _ ne150).trans g137
  have hl156 : h0 ∈ L148 := hs141 _ hl126
  clear g137 hl126
  refine lv_dup hx hb dX11_init_53 rfl ?_
  refine lv_aload_n hx hb dX11_init_54 rfl (lv_at hl 0 rfl) ?_
  refine tpk_pos hl156 hf155 (fun q157 eq157 => ?_)
  refine va_get (D := (dC, dI)) (ci := 11) (v := .ref q1) (C := RX11) (T := TX11) (N := 7) hx hb hts hfX11 hown hK hP q157 eq157 rfl 0 (by decide) (hts (.fieldLink RX11 10 "ColdShips" "world" "LColdShips$World;") wa_15) (fun _ h9 => h9) rfl dX11_init_55 ?_
  have hFc := tp_fr hD hS hA
  refine va_callv (va_runI (As := [.ref q1]) (rest := [.ref q138, .ref h0]) ⟨hx, hb, hml, hown, hts⟩ (t_X3_init l dC dI _ Ω κ τ_120 ν_120 ρ_120 L148 f147 hG hT q138 q1 Zb hq142 hz143 hf145 ht127 hx128 hz) (cwI 1 hts ggX11_init_X3_init rfl rfl rfl (hts (.initialized RX3) wa_27) (hts (.methodLink RX11 38 yX3_init) wa_123) (hts (.instanceMethod yX3_init) wa_124) rfl pd_X3_init ⟨Nat.le_of_ble_eq_true rfl, Nat.le_of_ble_eq_true rfl⟩) ⟨pz_blind, pz_pre hP hK hD hN⟩ rfl rfl hl.1 rfl (lv_room (Nat.le_of_ble_eq_true rfl)) dX11_init_58 ⟨Nat.le_of_ble_eq_true rfl, Nat.le_of_ble_eq_true rfl⟩) hS (fun q _ h => hFc q h) hFc (fun x158 t H1 locs ht hvm hw160 hB hz1 hk1 hS => ?_)
  obtain ⟨τ_162, ν_162, ρ_162, L_162, f161⟩ := x158
  obtain ⟨⟨hG9, hT9, hH9⟩, hw160p⟩ := hw160
  have hc163 := hH9.2 _ (tp_in hG ht127 (by decide)) (fun z => ne151 (Option.some.inj z))
  have hc164 := hH9.2 _ (tp_in hG ht129 (by decide)) (fun z => ne152 (Option.some.inj z))
  have hc165 := hH9.2 _ (tp_in hG ht130 (by decide)) (fun z => ne153 (Option.some.inj z))
  have hc166 := hH9.2 _ (tp_in hG ht133 (by decide)) (fun z => ne154 (Option.some.inj z))
  have hc167 := hH9.2 _ hl156 (fun z => ne150 (Option.some.inj z))
  have hf168 : f161 h0 = .inr (11, [.ref q1, .ref q31, .ref q60, .ref q98, .null, .null, .int 0]) := (hc167.2.2.2 (by rw [hz132]; decide)).trans hf155
  have hl169 := hH9.1 _ hl156
  have hH := hH.call hH9 (by decide) (fun a ha _ z => hn149 a ha (Option.some.inj z))
  have hG : tp_G τ_162 ν_162 ρ_162 L_162 := hG9; have hT : tp_T Ω κ τ_162 ν_162 ρ_162 f161 := hT9
  have hH : tp_H τ ν ρ L f [] (some h0) τ_162 ν_162 ρ_162 L_162 f161 := hH
  have hz := hw160p.2
  have hw160p := hw160p.1
  have hP := hB.1; rw [ht] at hP; have hD := tp_Dw hB.2.2 hFc; clear hB hFc hz1 hk1; subst ht; generalize t.heap = H at hP hS ⊢
  have hP : va_P (dC, dI) vwCl (va_pl L_162 f161) H := hP
  have hD : va_D A (va_pl L_162 f161) := hD
  have ht170 : τ_162 q1 = 11 := hc163.1.trans ht127
  have hx171 : ρ_162 q1 30 = 0 := by have q9 : ρ_162 q1 = _ := hc163.2.2.1; rw [q9]; exact hx128
  have ht172 : τ_162 q31 = 27 := hc164.1.trans ht129
  have ht173 : τ_162 q60 = 10 := hc165.1.trans ht130
  have hx174 : ρ_162 q60 0 = q1 := by have q9 : ρ_162 q60 = _ := hc165.2.2.1; rw [q9]; exact hx131
  have ht175 : τ_162 q98 = 3 := hc166.1.trans ht133
  have hz176 : τ_162 h0 = 0 := hc167.1.trans hz132
  clear ht127 hx128 ht129 ht130 hx131 ht133 hz132 ne150 ne151 ne152 ne153 ne154 hc163 hc164 hc165 hc166 hc167 hG9 hT9 hH9
  have ht177 : τ_162 q138 = 4 := hw160p.1
  have hx178 : ρ_162 q138 0 = q1 := hw160p.2
  refine tpk_pos hl169 hf168 (fun q179 eq179 => ?_)
  refine va_putF (D := (dC, dI)) (ci := 11) (v := .ref q138) (ty := (.object "ColdShips$Reckoner")) (C := RX11) (T := TX11) (N := 7) hx hb hts hfX11 tyX11 tyX11_ok nmX11 hown hK hP hD hS q179 eq179 rfl 4 (by decide) (hts (.fieldLink RX11 39 "ColdShips" "reckoner" "LColdShips$Reckoner;") wa_28) (fun _ h9 => h9) rfl hin rfl (tyX11_ok 4 (by decide)) rfl rfl (Nat.le_of_ble_eq_true rfl) dX11_init_61 (tp_k (.inr (11, [.ref q1, .ref q31, .ref q60, .ref q98, .ref q138, .null, .int 0])) hD hl169 eq179 (fun f180 H locs hP hD hS g182 k181 => ?_))
  have hT := hT.raw hz176 k181
  have hz := tp_Z0.wt hz hz176 (by decide) k181
  have hH := hH.wo k181
  refine lv_aload_n hx hb dX11_init_64 rfl (lv_at hl 0 rfl) ?_
  refine va_new (ci := 1) (fs := [.null, .null, .null, .null, .null, .int 0, .int 0, .int 0, .long 0, .int 0, .null, .null, .null, .null, .null]) (C := RX1) (T := TX1) (N := 15) hx hb hts hfX1 tyX1 tyX1_ok hown (hts (.classLink RX11 43 RX1) wa_29) (hts (.instantiable RX1 15) wa_30) (hts (.initialized RX1) wa_31) hK hP hD hS hA rfl (fun j hj => by rcases tpj_15 j hj with rfl | rfl | rfl | rfl | rfl | rfl | rfl | rfl | rfl | rfl | rfl | rfl | rfl | rfl | rfl <;> rfl) (Nat.le_of_ble_eq_true rfl) (Nat.le_of_ble_eq_true rfl) dX11_init_65 (fun q183 H hP hD hS => ?_)
  refine Exists.elim (tp_grow hG hT hP hD) (fun L193 hE90 => Exists.elim hE90 (fun f192 hE91 => tn_10 hE91 (fun hP hD hg184 ht185 hs186 hq187 hz188 hn189 hf190 ho191 => ?_)))
  clear hE91 hE90
  have hn194 : ∀ a, a ∈ L → a ≠ q183 := fun a ha => hn189 a (hH.1 a ha)
  have ne195 : h0 ≠ q183 := hn189 _ hl169
  have ne196 : q1 ≠ q183 := hn189 _ (tp_in hG ht170 (by decide))
  have ne197 : q31 ≠ q183 := hn189 _ (tp_in hG ht172 (by decide))
  have ne198 : q60 ≠ q183 := hn189 _ (tp_in hG ht173 (by decide))
  have ne199 : q98 ≠ q183 := hn189 _ (tp_in hG ht175 (by decide))
  have ne200 : q138 ≠ q183 := hn189 _ (tp_in hG ht177 (by decide))
  have hG := hg184
  have hT := ht185
  have hH := hH.gr hs186 hn189 ho191
  have hz := tp_Z0.wt hz hz188 (by decide) ho191
  have hf201 : f192 h0 = .inr (11, [.ref q1, .ref q31, .ref q60, .ref q98, .ref q138, .null, .int 0]) := (ho191 _ ne195).trans g182
  have hl202 : h0 ∈ L193 := hs186 _ hl169
  clear g182 hl169
  refine lv_dup hx hb dX11_init_68 rfl ?_
  refine lv_aload_n hx hb dX11_init_69 rfl (lv_at hl 0 rfl) ?_
  refine tpk_pos hl202 hf201 (fun q203 eq203 => ?_)
  refine va_get (D := (dC, dI)) (ci := 11) (v := .ref q1) (C := RX11) (T := TX11) (N := 7) hx hb hts hfX11 hown hK hP q203 eq203 rfl 0 (by decide) (hts (.fieldLink RX11 10 "ColdShips" "world" "LColdShips$World;") wa_15) (fun _ h9 => h9) rfl dX11_init_70 ?_
  have hFc := tp_fr hD hS hA
  refine va_callv (va_runI (As := [.ref q1]) (rest := [.ref q183, .ref h0]) ⟨hx, hb, hml, hown, hts⟩ (t_X1_init l dC dI _ Ω κ τ_162 ν_162 ρ_162 L193 f192 hG hT q183 q1 Zb hq187 hz188 hf190 ht170 hx171 hz) (cwI 1 hts ggX11_init_X1_init rfl rfl rfl (hts (.initialized RX1) wa_31) (hts (.methodLink RX11 45 yX1_init) wa_130) (hts (.instanceMethod yX1_init) wa_131) rfl pd_X1_init ⟨Nat.le_of_ble_eq_true rfl, Nat.le_of_ble_eq_true rfl⟩) ⟨pz_blind, pz_pre hP hK hD hN⟩ rfl rfl hl.1 rfl (lv_room (Nat.le_of_ble_eq_true rfl)) dX11_init_73 ⟨Nat.le_of_ble_eq_true rfl, Nat.le_of_ble_eq_true rfl⟩) hS (fun q _ h => hFc q h) hFc (fun x204 t H1 locs ht hvm hw206 hB hz1 hk1 hS => ?_)
  obtain ⟨τ_208, ν_208, ρ_208, L_208, f207⟩ := x204
  obtain ⟨⟨hG9, hT9, hH9⟩, hw206p⟩ := hw206
  have hc209 := hH9.2 _ (tp_in hG ht170 (by decide)) (fun z => ne196 (Option.some.inj z))
  have hc210 := hH9.2 _ (tp_in hG ht172 (by decide)) (fun z => ne197 (Option.some.inj z))
  have hc211 := hH9.2 _ (tp_in hG ht173 (by decide)) (fun z => ne198 (Option.some.inj z))
  have hc212 := hH9.2 _ (tp_in hG ht175 (by decide)) (fun z => ne199 (Option.some.inj z))
  have hc213 := hH9.2 _ (tp_in hG ht177 (by decide)) (fun z => ne200 (Option.some.inj z))
  have hc214 := hH9.2 _ hl202 (fun z => ne195 (Option.some.inj z))
  have hf215 : f207 h0 = .inr (11, [.ref q1, .ref q31, .ref q60, .ref q98, .ref q138, .null, .int 0]) := (hc214.2.2.2 (by rw [hz176]; decide)).trans hf201
  have hl216 := hH9.1 _ hl202
  have hH := hH.call hH9 (by decide) (fun a ha _ z => hn194 a ha (Option.some.inj z))
  have hG : tp_G τ_208 ν_208 ρ_208 L_208 := hG9; have hT : tp_T Ω κ τ_208 ν_208 ρ_208 f207 := hT9
  have hH : tp_H τ ν ρ L f [] (some h0) τ_208 ν_208 ρ_208 L_208 f207 := hH
  have hz := hw206p.2
  have hw206p := hw206p.1
  have hP := hB.1; rw [ht] at hP; have hD := tp_Dw hB.2.2 hFc; clear hB hFc hz1 hk1; subst ht; generalize t.heap = H at hP hS ⊢
  have hP : va_P (dC, dI) vwCl (va_pl L_208 f207) H := hP
  have hD : va_D A (va_pl L_208 f207) := hD
  have ht217 : τ_208 q1 = 11 := hc209.1.trans ht170
  have hx218 : ρ_208 q1 30 = 0 := by have q9 : ρ_208 q1 = _ := hc209.2.2.1; rw [q9]; exact hx171
  have ht219 : τ_208 q31 = 27 := hc210.1.trans ht172
  have ht220 : τ_208 q60 = 10 := hc211.1.trans ht173
  have hx221 : ρ_208 q60 0 = q1 := by have q9 : ρ_208 q60 = _ := hc211.2.2.1; rw [q9]; exact hx174
  have ht222 : τ_208 q98 = 3 := hc212.1.trans ht175
  have ht223 : τ_208 q138 = 4 := hc213.1.trans ht177
  have hx224 : ρ_208 q138 0 = q1 := by have q9 : ρ_208 q138 = _ := hc213.2.2.1; rw [q9]; exact hx178
  have hz225 : τ_208 h0 = 0 := hc214.1.trans hz176
  clear ht170 hx171 ht172 ht173 hx174 ht175 ht177 hx178 hz176 ne195 ne196 ne197 ne198 ne199 ne200 hc209 hc210 hc211 hc212 hc213 hc214 hG9 hT9 hH9
  have ht226 : τ_208 q183 = 2 := hw206p.1
  have hx227 : ρ_208 q183 0 = q1 := hw206p.2
  refine tpk_pos hl216 hf215 (fun q228 eq228 => ?_)
  refine va_putF (D := (dC, dI)) (ci := 11) (v := .ref q183) (ty := (.object "ColdShips$Planner")) (C := RX11) (T := TX11) (N := 7) hx hb hts hfX11 tyX11 tyX11_ok nmX11 hown hK hP hD hS q228 eq228 rfl 5 (by decide) (hts (.fieldLink RX11 46 "ColdShips" "planner" "LColdShips$Planner;") wa_32) (fun _ h9 => h9) rfl hin rfl (tyX11_ok 5 (by decide)) rfl rfl (Nat.le_of_ble_eq_true rfl) dX11_init_76 (tp_k (.inr (11, [.ref q1, .ref q31, .ref q60, .ref q98, .ref q138, .ref q183, .int 0])) hD hl216 eq228 (fun f229 H locs hP hD hS g231 k230 => ?_))
  have hT := hT.raw hz225 k230
  have hz := tp_Z0.wt hz hz225 (by decide) k230
  have hH := hH.wo k230
  obtain ⟨τ_232, ν_232, ρ_232, hG, hT, hb233, ht234, hn235, hr236⟩ := tp_type hG hT hl216 hz225 12 (0) (fun k => [q1, q31, q60, q98, q138, q183, 0].getD k 0) (by decide) (fun τ9 ν9 ρ9 hE h2 h3 => ⟨(by show (τ9 (ρ9 h0 0) = 11 ∧ ρ9 (ρ9 h0 0) 30 = 0) ∧ (τ9 (ρ9 h0 1) = 27) ∧ (τ9 (ρ9 h0 2) = 10) ∧ (τ9 (ρ9 h0 3) = 3) ∧ (τ9 (ρ9 h0 4) = 4) ∧ (τ9 (ρ9 h0 5) = 2) ∧ (ρ9 (ρ9 h0 2) 0 = ρ9 h0 0 ∧ ρ9 (ρ9 h0 4) 0 = ρ9 h0 0 ∧ ρ9 (ρ9 h0 5) 0 = ρ9 h0 0); rw [h3]; exact ⟨⟨(hE q1 (by rw [ht217]; decide)).1.trans ht217, by show ρ9 q1 30 = _; rw [(hE q1 (by rw [ht217]; decide)).2.2]; exact hx218⟩, (hE q31 (by rw [ht219]; decide)).1.trans ht219, (hE q60 (by rw [ht220]; decide)).1.trans ht220, (hE q98 (by rw [ht222]; decide)).1.trans ht222, (hE q138 (by rw [ht223]; decide)).1.trans ht223, (hE q183 (by rw [ht226]; decide)).1.trans ht226, ⟨by show ρ9 q60 0 = _; rw [(hE q60 (by rw [ht220]; decide)).2.2]; exact hx221, by show ρ9 q138 0 = _; rw [(hE q138 (by rw [ht223]; decide)).2.2]; exact hx224, by show ρ9 q183 0 = _; rw [(hE q183 (by rw [ht226]; decide)).2.2]; exact hx227⟩⟩), by rw [g231]; exact ⟨_, (by rw [h3]; rfl)⟩⟩)
  have hH := hH.ty (fun a _ ho z => ho (by rw [z])) hb233
  have hz := tp_Z0.ty hz (fun b q9 => (hb233 b q9).1) ht234 ⟨fun z => (by cases z), fun z => (by cases z), fun z => (by cases z), fun z => (by cases z), fun z => (by cases z)⟩
  have ht237 : τ_232 q1 = 11 := (hb233 _ (Ne.symm (tp_ne0 hz225 ht217 (by decide)))).1.trans ht217
  have hx238 : ρ_232 q1 30 = 0 := by rw [(hb233 _ (Ne.symm (tp_ne0 hz225 ht217 (by decide)))).2.2]; exact hx218
  have ht239 : τ_232 q31 = 27 := (hb233 _ (Ne.symm (tp_ne0 hz225 ht219 (by decide)))).1.trans ht219
  have ht240 : τ_232 q60 = 10 := (hb233 _ (Ne.symm (tp_ne0 hz225 ht220 (by decide)))).1.trans ht220
  have hx241 : ρ_232 q60 0 = q1 := by rw [(hb233 _ (Ne.symm (tp_ne0 hz225 ht220 (by decide)))).2.2]; exact hx221
  have ht242 : τ_232 q98 = 3 := (hb233 _ (Ne.symm (tp_ne0 hz225 ht222 (by decide)))).1.trans ht222
  have ht243 : τ_232 q138 = 4 := (hb233 _ (Ne.symm (tp_ne0 hz225 ht223 (by decide)))).1.trans ht223
  have hx244 : ρ_232 q138 0 = q1 := by rw [(hb233 _ (Ne.symm (tp_ne0 hz225 ht223 (by decide)))).2.2]; exact hx224
  have ht245 : τ_232 q183 = 2 := (hb233 _ (Ne.symm (tp_ne0 hz225 ht226 (by decide)))).1.trans ht226
  have hx246 : ρ_232 q183 0 = q1 := by rw [(hb233 _ (Ne.symm (tp_ne0 hz225 ht226 (by decide)))).2.2]; exact hx227
  clear ht217 hx218 ht219 ht220 hx221 ht222 ht223 hx224 ht226 hx227 hb233
  refine tp_widen 129 4104 (Nat.le_of_ble_eq_true rfl) (Nat.le_of_ble_eq_true rfl) ?_
  exact W.vret hx hb hr (fun t ht hW => ⟨⟨(τ_232, ν_232, ρ_232, L_208, f229), rfl, ⟨⟨hG, hT, hH⟩, ⟨ht234, hz⟩⟩, by rw [ht]; exact hP, va_K.moved hW.alike hK, hD⟩, hS.F ht⟩) hS.2.2 dX11_init_79
end
section
theorem gX7_begin_J7_fill_53178 : GoodIn WALL (va_wsS RX7 41 yJ7_fill_53178 wqJ7_fill_53178) := wg_S wa_257 wa_198 wa_199 wa_200
theorem dX7_begin_0 : decode cX7_begin 0 = .ok (.aload_n 0, 1) := od_42  (by decide +kernel)
theorem dX7_begin_1 : decode cX7_begin 1 = .ok (.sipush 1000, 3) := od_17 (a := 3) (b := 232) (by decide +kernel) (by decide +kernel)
theorem dX7_begin_4 : decode cX7_begin 4 = .ok (.iload_n 1, 1) := od_27  (by decide +kernel)
theorem dX7_begin_5 : decode cX7_begin 5 = .ok (.invokestatic 26, 3) := od_184 (a := 0) (b := 26) (by decide +kernel) (by decide)
theorem dX7_begin_8 : decode cX7_begin 8 = .ok (.putfield 9, 3) := od_181 (a := 0) (b := 9) (by decide +kernel) (by decide)
theorem dX7_begin_11 : decode cX7_begin 11 = .ok (.aload_n 0, 1) := od_42  (by decide +kernel)
theorem dX7_begin_12 : decode cX7_begin 12 = .ok (.iconst 0, 1) := od_3  (by decide +kernel)
theorem dX7_begin_13 : decode cX7_begin 13 = .ok (.putfield 32, 3) := od_181 (a := 0) (b := 32) (by decide +kernel) (by decide)
theorem dX7_begin_16 : decode cX7_begin 16 = .ok (.aload_n 0, 1) := od_42  (by decide +kernel)
theorem dX7_begin_17 : decode cX7_begin 17 = .ok (.iconst 0, 1) := od_3  (by decide +kernel)
theorem dX7_begin_18 : decode cX7_begin 18 = .ok (.putfield 35, 3) := od_181 (a := 0) (b := 35) (by decide +kernel) (by decide)
theorem dX7_begin_21 : decode cX7_begin 21 = .ok (.aload_n 0, 1) := od_42  (by decide +kernel)
theorem dX7_begin_22 : decode cX7_begin 22 = .ok (.sipush 1800, 3) := od_17 (a := 7) (b := 8) (by decide +kernel) (by decide +kernel)
theorem dX7_begin_25 : decode cX7_begin 25 = .ok (.putfield 38, 3) := od_181 (a := 0) (b := 38) (by decide +kernel) (by decide)
theorem dX7_begin_28 : decode cX7_begin 28 = .ok (.aload_n 0, 1) := od_42  (by decide +kernel)
theorem dX7_begin_29 : decode cX7_begin 29 = .ok (.getfield 15, 3) := od_180 (a := 0) (b := 15) (by decide +kernel) (by decide)
theorem dX7_begin_32 : decode cX7_begin 32 = .ok (.iconst 0, 1) := od_3  (by decide +kernel)
theorem dX7_begin_33 : decode cX7_begin 33 = .ok (.invokestatic 41, 3) := od_184 (a := 0) (b := 41) (by decide +kernel) (by decide)
theorem dX7_begin_36 : decode cX7_begin 36 = .ok (.return_, 1) := od_177  (by decide +kernel)
theorem dX7_heel_0 : decode cX7_heel 0 = .ok (.aload_n 0, 1) := od_42  (by decide +kernel)
theorem dX7_heel_1 : decode cX7_heel 1 = .ok (.getfield 9, 3) := od_180 (a := 0) (b := 9) (by decide +kernel) (by decide)
theorem dX7_heel_4 : decode cX7_heel 4 = .ok (.iconst 2, 1) := od_5  (by decide +kernel)
theorem dX7_heel_5 : decode cX7_heel 5 = .ok (.imul, 1) := od_104  (by decide +kernel)
theorem dX7_heel_6 : decode cX7_heel 6 = .ok (.bipush 100, 2) := od_16 (a := 100) (by decide +kernel) (by decide +kernel)
theorem dX7_heel_8 : decode cX7_heel 8 = .ok (.idiv, 1) := od_108  (by decide +kernel)
theorem dX7_heel_9 : decode cX7_heel 9 = .ok (.ireturn, 1) := od_172  (by decide +kernel)
theorem dX7_top_0 : decode cX7_top 0 = .ok (.aload_n 0, 1) := od_42  (by decide +kernel)
theorem dX7_top_1 : decode cX7_top 1 = .ok (.getfield 9, 3) := od_180 (a := 0) (b := 9) (by decide +kernel) (by decide)
theorem dX7_top_4 : decode cX7_top 4 = .ok (.bipush 98, 2) := od_16 (a := 98) (by decide +kernel) (by decide +kernel)
theorem dX7_top_6 : decode cX7_top 6 = .ok (.imul, 1) := od_104  (by decide +kernel)
theorem dX7_top_7 : decode cX7_top 7 = .ok (.bipush 100, 2) := od_16 (a := 100) (by decide +kernel) (by decide +kernel)
theorem dX7_top_9 : decode cX7_top 9 = .ok (.idiv, 1) := od_108  (by decide +kernel)
theorem dX7_top_10 : decode cX7_top 10 = .ok (.ireturn, 1) := od_172  (by decide +kernel)
theorem dX7_draft_0 : decode cX7_draft 0 = .ok (.bipush 8, 2) := od_16 (a := 8) (by decide +kernel) (by decide +kernel)
theorem dX7_draft_2 : decode cX7_draft 2 = .ok (.bipush 8, 2) := od_16 (a := 8) (by decide +kernel) (by decide +kernel)
theorem dX7_draft_4 : decode cX7_draft 4 = .ok (.aload_n 0, 1) := od_42  (by decide +kernel)
theorem dX7_draft_5 : decode cX7_draft 5 = .ok (.getfield 32, 3) := od_180 (a := 0) (b := 32) (by decide +kernel) (by decide)
theorem dX7_draft_8 : decode cX7_draft 8 = .ok (.imul, 1) := od_104  (by decide +kernel)
theorem dX7_draft_9 : decode cX7_draft 9 = .ok (.aload_n 0, 1) := od_42  (by decide +kernel)
theorem dX7_draft_10 : decode cX7_draft 10 = .ok (.getfield 9, 3) := od_180 (a := 0) (b := 9) (by decide +kernel) (by decide)
theorem dX7_draft_13 : decode cX7_draft 13 = .ok (.idiv, 1) := od_108  (by decide +kernel)
theorem dX7_draft_14 : decode cX7_draft 14 = .ok (.iadd, 1) := od_96  (by decide +kernel)
theorem dX7_draft_15 : decode cX7_draft 15 = .ok (.ireturn, 1) := od_172  (by decide +kernel)
theorem gX7_press_X7_space : GoodIn WALL (wsV RX7 49 RX7 yX7_space wqX7_space) := wg_V wa_538 wa_539 wa_540 wa_95 wa_541
theorem dX7_press_0 : decode cX7_press 0 = .ok (.aload_n 0, 1) := od_42  (by decide +kernel)
theorem dX7_press_1 : decode cX7_press 1 = .ok (.getfield 35, 3) := od_180 (a := 0) (b := 35) (by decide +kernel) (by decide)
theorem dX7_press_4 : decode cX7_press 4 = .ok (.i2l, 1) := od_133  (by decide +kernel)
theorem dX7_press_5 : decode cX7_press 5 = .ok (.ldc2_w 47, 3) := od_20 (a := 0) (b := 47) (by decide +kernel) (by decide)
theorem dX7_press_8 : decode cX7_press 8 = .ok (.lmul, 1) := od_105  (by decide +kernel)
theorem dX7_press_9 : decode cX7_press 9 = .ok (.aload_n 0, 1) := od_42  (by decide +kernel)
theorem dX7_press_10 : decode cX7_press 10 = .ok (.invokevirtual 49, 3) := od_182 (a := 0) (b := 49) (by decide +kernel) (by decide)
theorem dX7_press_13 : decode cX7_press 13 = .ok (.i2l, 1) := od_133  (by decide +kernel)
theorem dX7_press_14 : decode cX7_press 14 = .ok (.ldiv, 1) := od_109  (by decide +kernel)
theorem dX7_press_15 : decode cX7_press 15 = .ok (.l2i, 1) := od_136  (by decide +kernel)
theorem dX7_press_16 : decode cX7_press 16 = .ok (.ireturn, 1) := od_172  (by decide +kernel)
theorem gX7_boil_X7_evaporate : GoodIn WALL (wsV RX7 55 RX7 yX7_evaporate wqX7_evaporate) := wg_V wa_416 wa_417 wa_418 wa_95 wa_419
theorem dX7_boil_0 : decode cX7_boil 0 = .ok (.aload_n 0, 1) := od_42  (by decide +kernel)
theorem dX7_boil_1 : decode cX7_boil 1 = .ok (.aload_n 0, 1) := od_42  (by decide +kernel)
theorem dX7_boil_2 : decode cX7_boil 2 = .ok (.getfield 32, 3) := od_180 (a := 0) (b := 32) (by decide +kernel) (by decide)
theorem dX7_boil_5 : decode cX7_boil 5 = .ok (.i2l, 1) := od_133  (by decide +kernel)
theorem dX7_boil_6 : decode cX7_boil 6 = .ok (.iload_n 1, 1) := od_27  (by decide +kernel)
theorem dX7_boil_7 : decode cX7_boil 7 = .ok (.i2l, 1) := od_133  (by decide +kernel)
theorem dX7_boil_8 : decode cX7_boil 8 = .ok (.lmul, 1) := od_105  (by decide +kernel)
theorem dX7_boil_9 : decode cX7_boil 9 = .ok (.ldc2_w 53, 3) := od_20 (a := 0) (b := 53) (by decide +kernel) (by decide)
theorem dX7_boil_12 : decode cX7_boil 12 = .ok (.ldiv, 1) := od_109  (by decide +kernel)
theorem dX7_boil_13 : decode cX7_boil 13 = .ok (.l2i, 1) := od_136  (by decide +kernel)
theorem dX7_boil_14 : decode cX7_boil 14 = .ok (.invokevirtual 55, 3) := od_182 (a := 0) (b := 55) (by decide +kernel) (by decide)
theorem dX7_boil_17 : decode cX7_boil 17 = .ok (.return_, 1) := od_177  (by decide +kernel)
theorem gX7_warmOrCool_X7_heel : GoodIn WALL (wsV RX7 59 RX7 yX7_heel wqX7_heel) := wg_V wa_439 wa_440 wa_441 wa_95 wa_442
theorem gX7_warmOrCool_X7_evaporate : GoodIn WALL (wsV RX7 55 RX7 yX7_evaporate wqX7_evaporate) := wg_V wa_416 wa_417 wa_418 wa_95 wa_419
theorem dX7_warmOrCool_0 : decode cX7_warmOrCool 0 = .ok (.aload_n 0, 1) := od_42  (by decide +kernel)
theorem dX7_warmOrCool_1 : decode cX7_warmOrCool 1 = .ok (.getfield 32, 3) := od_180 (a := 0) (b := 32) (by decide +kernel) (by decide)
theorem dX7_warmOrCool_4 : decode cX7_warmOrCool 4 = .ok (.aload_n 0, 1) := od_42  (by decide +kernel)
theorem dX7_warmOrCool_5 : decode cX7_warmOrCool 5 = .ok (.invokevirtual 59, 3) := od_182 (a := 0) (b := 59) (by decide +kernel) (by decide)
theorem dX7_warmOrCool_8 : decode cX7_warmOrCool 8 = .ok (.if_icmp .ge 22, 3) := od_162 (a := 0) (b := 22) (by decide +kernel) (by decide +kernel)
theorem dX7_warmOrCool_11 : decode cX7_warmOrCool 11 = .ok (.aload_n 0, 1) := od_42  (by decide +kernel)
theorem dX7_warmOrCool_12 : decode cX7_warmOrCool 12 = .ok (.sipush 1800, 3) := od_17 (a := 7) (b := 8) (by decide +kernel) (by decide +kernel)
theorem dX7_warmOrCool_15 : decode cX7_warmOrCool 15 = .ok (.aload_n 0, 1) := od_42  (by decide +kernel)
theorem dX7_warmOrCool_16 : decode cX7_warmOrCool 16 = .ok (.getfield 38, 3) := od_180 (a := 0) (b := 38) (by decide +kernel) (by decide)
theorem dX7_warmOrCool_19 : decode cX7_warmOrCool 19 = .ok (.iconst 5, 1) := od_8  (by decide +kernel)
theorem dX7_warmOrCool_20 : decode cX7_warmOrCool 20 = .ok (.iadd, 1) := od_96  (by decide +kernel)
theorem dX7_warmOrCool_21 : decode cX7_warmOrCool 21 = .ok (.invokestatic 62, 3) := od_184 (a := 0) (b := 62) (by decide +kernel) (by decide)
theorem dX7_warmOrCool_24 : decode cX7_warmOrCool 24 = .ok (.putfield 38, 3) := od_181 (a := 0) (b := 38) (by decide +kernel) (by decide)
theorem dX7_warmOrCool_27 : decode cX7_warmOrCool 27 = .ok (.goto 55, 3) := od_167 (a := 0) (b := 55) (by decide +kernel) (by decide +kernel)
theorem dX7_warmOrCool_30 : decode cX7_warmOrCool 30 = .ok (.aload_n 0, 1) := od_42  (by decide +kernel)
theorem dX7_warmOrCool_31 : decode cX7_warmOrCool 31 = .ok (.getfield 38, 3) := od_180 (a := 0) (b := 38) (by decide +kernel) (by decide)
theorem dX7_warmOrCool_34 : decode cX7_warmOrCool 34 = .ok (.ifCond .le 48, 3) := od_158 (a := 0) (b := 48) (by decide +kernel) (by decide +kernel)
theorem dX7_warmOrCool_37 : decode cX7_warmOrCool 37 = .ok (.bipush 20, 2) := od_16 (a := 20) (by decide +kernel) (by decide +kernel)
theorem dX7_warmOrCool_39 : decode cX7_warmOrCool 39 = .ok (.aload_n 0, 1) := od_42  (by decide +kernel)
theorem dX7_warmOrCool_40 : decode cX7_warmOrCool 40 = .ok (.getfield 38, 3) := od_180 (a := 0) (b := 38) (by decide +kernel) (by decide)
theorem dX7_warmOrCool_43 : decode cX7_warmOrCool 43 = .ok (.invokestatic 62, 3) := od_184 (a := 0) (b := 62) (by decide +kernel) (by decide)
theorem dX7_warmOrCool_46 : decode cX7_warmOrCool 46 = .ok (.istore_n 1, 1) := od_60  (by decide +kernel)
theorem dX7_warmOrCool_47 : decode cX7_warmOrCool 47 = .ok (.aload_n 0, 1) := od_42  (by decide +kernel)
theorem dX7_warmOrCool_48 : decode cX7_warmOrCool 48 = .ok (.dup, 1) := od_89  (by decide +kernel)
theorem dX7_warmOrCool_49 : decode cX7_warmOrCool 49 = .ok (.getfield 38, 3) := od_180 (a := 0) (b := 38) (by decide +kernel) (by decide)
theorem dX7_warmOrCool_52 : decode cX7_warmOrCool 52 = .ok (.iload_n 1, 1) := od_27  (by decide +kernel)
theorem dX7_warmOrCool_53 : decode cX7_warmOrCool 53 = .ok (.isub, 1) := od_100  (by decide +kernel)
theorem dX7_warmOrCool_54 : decode cX7_warmOrCool 54 = .ok (.putfield 38, 3) := od_181 (a := 0) (b := 38) (by decide +kernel) (by decide)
theorem dX7_warmOrCool_57 : decode cX7_warmOrCool 57 = .ok (.aload_n 0, 1) := od_42  (by decide +kernel)
theorem dX7_warmOrCool_58 : decode cX7_warmOrCool 58 = .ok (.aload_n 0, 1) := od_42  (by decide +kernel)
theorem dX7_warmOrCool_59 : decode cX7_warmOrCool 59 = .ok (.getfield 32, 3) := od_180 (a := 0) (b := 32) (by decide +kernel) (by decide)
theorem dX7_warmOrCool_62 : decode cX7_warmOrCool 62 = .ok (.i2l, 1) := od_133  (by decide +kernel)
theorem dX7_warmOrCool_63 : decode cX7_warmOrCool 63 = .ok (.iload_n 1, 1) := od_27  (by decide +kernel)
theorem dX7_warmOrCool_64 : decode cX7_warmOrCool 64 = .ok (.i2l, 1) := od_133  (by decide +kernel)
theorem dX7_warmOrCool_65 : decode cX7_warmOrCool 65 = .ok (.aload_n 0, 1) := od_42  (by decide +kernel)
theorem dX7_warmOrCool_66 : decode cX7_warmOrCool 66 = .ok (.getfield 9, 3) := od_180 (a := 0) (b := 9) (by decide +kernel) (by decide)
theorem dX7_warmOrCool_69 : decode cX7_warmOrCool 69 = .ok (.i2l, 1) := od_133  (by decide +kernel)
theorem dX7_warmOrCool_70 : decode cX7_warmOrCool 70 = .ok (.lmul, 1) := od_105  (by decide +kernel)
theorem dX7_warmOrCool_71 : decode cX7_warmOrCool 71 = .ok (.ldc2_w 53, 3) := od_20 (a := 0) (b := 53) (by decide +kernel) (by decide)
theorem dX7_warmOrCool_74 : decode cX7_warmOrCool 74 = .ok (.ldiv, 1) := od_109  (by decide +kernel)
theorem dX7_warmOrCool_75 : decode cX7_warmOrCool 75 = .ok (.invokestatic 65, 3) := od_184 (a := 0) (b := 65) (by decide +kernel) (by decide)
theorem dX7_warmOrCool_78 : decode cX7_warmOrCool 78 = .ok (.l2i, 1) := od_136  (by decide +kernel)
theorem dX7_warmOrCool_79 : decode cX7_warmOrCool 79 = .ok (.invokevirtual 55, 3) := od_182 (a := 0) (b := 55) (by decide +kernel) (by decide)
theorem dX7_warmOrCool_82 : decode cX7_warmOrCool 82 = .ok (.return_, 1) := od_177  (by decide +kernel)
theorem gX7_burn_X7_takeGas : GoodIn WALL (wsV RX7 68 RX7 yX7_takeGas wqX7_takeGas) := wg_V wa_420 wa_421 wa_422 wa_95 wa_423
theorem dX7_burn_0 : decode cX7_burn 0 = .ok (.iload_n 1, 1) := od_27  (by decide +kernel)
theorem dX7_burn_1 : decode cX7_burn 1 = .ok (.aload_n 0, 1) := od_42  (by decide +kernel)
theorem dX7_burn_2 : decode cX7_burn 2 = .ok (.getfield 35, 3) := od_180 (a := 0) (b := 35) (by decide +kernel) (by decide)
theorem dX7_burn_5 : decode cX7_burn 5 = .ok (.invokestatic 62, 3) := od_184 (a := 0) (b := 62) (by decide +kernel) (by decide)
theorem dX7_burn_8 : decode cX7_burn 8 = .ok (.istore_n 2, 1) := od_61  (by decide +kernel)
theorem dX7_burn_9 : decode cX7_burn 9 = .ok (.aload_n 0, 1) := od_42  (by decide +kernel)
theorem dX7_burn_10 : decode cX7_burn 10 = .ok (.dup, 1) := od_89  (by decide +kernel)
theorem dX7_burn_11 : decode cX7_burn 11 = .ok (.getfield 35, 3) := od_180 (a := 0) (b := 35) (by decide +kernel) (by decide)
theorem dX7_burn_14 : decode cX7_burn 14 = .ok (.iload_n 2, 1) := od_28  (by decide +kernel)
theorem dX7_burn_15 : decode cX7_burn 15 = .ok (.isub, 1) := od_100  (by decide +kernel)
theorem dX7_burn_16 : decode cX7_burn 16 = .ok (.putfield 35, 3) := od_181 (a := 0) (b := 35) (by decide +kernel) (by decide)
theorem dX7_burn_19 : decode cX7_burn 19 = .ok (.iload_n 1, 1) := od_27  (by decide +kernel)
theorem dX7_burn_20 : decode cX7_burn 20 = .ok (.iload_n 2, 1) := od_28  (by decide +kernel)
theorem dX7_burn_21 : decode cX7_burn 21 = .ok (.isub, 1) := od_100  (by decide +kernel)
theorem dX7_burn_22 : decode cX7_burn 22 = .ok (.aload_n 0, 1) := od_42  (by decide +kernel)
theorem dX7_burn_23 : decode cX7_burn 23 = .ok (.getfield 32, 3) := od_180 (a := 0) (b := 32) (by decide +kernel) (by decide)
theorem dX7_burn_26 : decode cX7_burn 26 = .ok (.invokestatic 62, 3) := od_184 (a := 0) (b := 62) (by decide +kernel) (by decide)
theorem dX7_burn_29 : decode cX7_burn 29 = .ok (.istore_n 3, 1) := od_62  (by decide +kernel)
theorem dX7_burn_30 : decode cX7_burn 30 = .ok (.aload_n 0, 1) := od_42  (by decide +kernel)
theorem dX7_burn_31 : decode cX7_burn 31 = .ok (.iload_n 3, 1) := od_29  (by decide +kernel)
theorem dX7_burn_32 : decode cX7_burn 32 = .ok (.invokevirtual 68, 3) := od_182 (a := 0) (b := 68) (by decide +kernel) (by decide)
theorem dX7_burn_35 : decode cX7_burn 35 = .ok (.iload_n 2, 1) := od_28  (by decide +kernel)
theorem dX7_burn_36 : decode cX7_burn 36 = .ok (.iload_n 3, 1) := od_29  (by decide +kernel)
theorem dX7_burn_37 : decode cX7_burn 37 = .ok (.iadd, 1) := od_96  (by decide +kernel)
theorem dX7_burn_38 : decode cX7_burn 38 = .ok (.ireturn, 1) := od_172  (by decide +kernel)
theorem dX7_fill_0 : decode cX7_fill 0 = .ok (.aload_n 0, 1) := od_42  (by decide +kernel)
theorem dX7_fill_1 : decode cX7_fill 1 = .ok (.dup, 1) := od_89  (by decide +kernel)
theorem dX7_fill_2 : decode cX7_fill 2 = .ok (.getfield 32, 3) := od_180 (a := 0) (b := 32) (by decide +kernel) (by decide)
theorem dX7_fill_5 : decode cX7_fill 5 = .ok (.iload_n 2, 1) := od_28  (by decide +kernel)
theorem dX7_fill_6 : decode cX7_fill 6 = .ok (.iadd, 1) := od_96  (by decide +kernel)
theorem dX7_fill_7 : decode cX7_fill 7 = .ok (.putfield 32, 3) := od_181 (a := 0) (b := 32) (by decide +kernel) (by decide)
theorem dX7_fill_10 : decode cX7_fill 10 = .ok (.aload_n 0, 1) := od_42  (by decide +kernel)
theorem dX7_fill_11 : decode cX7_fill 11 = .ok (.getfield 15, 3) := od_180 (a := 0) (b := 15) (by decide +kernel) (by decide)
theorem dX7_fill_14 : decode cX7_fill 14 = .ok (.iload_n 1, 1) := od_27  (by decide +kernel)
theorem dX7_fill_15 : decode cX7_fill 15 = .ok (.dup2, 1) := od_92  (by decide +kernel)
theorem dX7_fill_16 : decode cX7_fill 16 = .ok (.iaload, 1) := od_46  (by decide +kernel)
theorem dX7_fill_17 : decode cX7_fill 17 = .ok (.iload_n 2, 1) := od_28  (by decide +kernel)
theorem dX7_fill_18 : decode cX7_fill 18 = .ok (.iadd, 1) := od_96  (by decide +kernel)
theorem dX7_fill_19 : decode cX7_fill 19 = .ok (.iastore, 1) := od_79  (by decide +kernel)
theorem dX7_fill_20 : decode cX7_fill 20 = .ok (.return_, 1) := od_177  (by decide +kernel)
theorem gX7_vent_X7_space : GoodIn WALL (wsV RX7 49 RX7 yX7_space wqX7_space) := wg_V wa_538 wa_539 wa_540 wa_95 wa_541
theorem dX7_vent_0 : decode cX7_vent 0 = .ok (.iload_n 1, 1) := od_27  (by decide +kernel)
theorem dX7_vent_1 : decode cX7_vent 1 = .ok (.i2l, 1) := od_133  (by decide +kernel)
theorem dX7_vent_2 : decode cX7_vent 2 = .ok (.lconst 1, 1) := od_10  (by decide +kernel)
theorem dX7_vent_3 : decode cX7_vent 3 = .ok (.ladd, 1) := od_97  (by decide +kernel)
theorem dX7_vent_4 : decode cX7_vent 4 = .ok (.aload_n 0, 1) := od_42  (by decide +kernel)
theorem dX7_vent_5 : decode cX7_vent 5 = .ok (.invokevirtual 49, 3) := od_182 (a := 0) (b := 49) (by decide +kernel) (by decide)
theorem dX7_vent_8 : decode cX7_vent 8 = .ok (.i2l, 1) := od_133  (by decide +kernel)
theorem dX7_vent_9 : decode cX7_vent 9 = .ok (.lmul, 1) := od_105  (by decide +kernel)
theorem dX7_vent_10 : decode cX7_vent 10 = .ok (.lconst 1, 1) := od_10  (by decide +kernel)
theorem dX7_vent_11 : decode cX7_vent 11 = .ok (.lsub, 1) := od_101  (by decide +kernel)
theorem dX7_vent_12 : decode cX7_vent 12 = .ok (.ldc2_w 47, 3) := od_20 (a := 0) (b := 47) (by decide +kernel) (by decide)
theorem dX7_vent_15 : decode cX7_vent 15 = .ok (.ldiv, 1) := od_109  (by decide +kernel)
theorem dX7_vent_16 : decode cX7_vent 16 = .ok (.l2i, 1) := od_136  (by decide +kernel)
theorem dX7_vent_17 : decode cX7_vent 17 = .ok (.istore_n 2, 1) := od_61  (by decide +kernel)
theorem dX7_vent_18 : decode cX7_vent 18 = .ok (.iconst 0, 1) := od_3  (by decide +kernel)
theorem dX7_vent_19 : decode cX7_vent 19 = .ok (.aload_n 0, 1) := od_42  (by decide +kernel)
theorem dX7_vent_20 : decode cX7_vent 20 = .ok (.getfield 35, 3) := od_180 (a := 0) (b := 35) (by decide +kernel) (by decide)
theorem dX7_vent_23 : decode cX7_vent 23 = .ok (.iload_n 2, 1) := od_28  (by decide +kernel)
theorem dX7_vent_24 : decode cX7_vent 24 = .ok (.isub, 1) := od_100  (by decide +kernel)
theorem dX7_vent_25 : decode cX7_vent 25 = .ok (.invokestatic 26, 3) := od_184 (a := 0) (b := 26) (by decide +kernel) (by decide)
theorem dX7_vent_28 : decode cX7_vent 28 = .ok (.istore_n 3, 1) := od_62  (by decide +kernel)
theorem dX7_vent_29 : decode cX7_vent 29 = .ok (.aload_n 0, 1) := od_42  (by decide +kernel)
theorem dX7_vent_30 : decode cX7_vent 30 = .ok (.dup, 1) := od_89  (by decide +kernel)
theorem dX7_vent_31 : decode cX7_vent 31 = .ok (.getfield 35, 3) := od_180 (a := 0) (b := 35) (by decide +kernel) (by decide)
theorem dX7_vent_34 : decode cX7_vent 34 = .ok (.iload_n 3, 1) := od_29  (by decide +kernel)
theorem dX7_vent_35 : decode cX7_vent 35 = .ok (.isub, 1) := od_100  (by decide +kernel)
theorem dX7_vent_36 : decode cX7_vent 36 = .ok (.putfield 35, 3) := od_181 (a := 0) (b := 35) (by decide +kernel) (by decide)
theorem dX7_vent_39 : decode cX7_vent 39 = .ok (.iload_n 3, 1) := od_29  (by decide +kernel)
theorem dX7_vent_40 : decode cX7_vent 40 = .ok (.ireturn, 1) := od_172  (by decide +kernel)
theorem gX7_takeGas_X7_giveByRests : GoodIn WALL (wsV RX7 71 RX7 yX7_giveByRests wqX7_giveByRests) := wg_V wa_424 wa_425 wa_426 wa_95 wa_427
theorem dX7_takeGas_0 : decode cX7_takeGas 0 = .ok (.iload_n 1, 1) := od_27  (by decide +kernel)
theorem dX7_takeGas_1 : decode cX7_takeGas 1 = .ok (.ifCond .le 11, 3) := od_158 (a := 0) (b := 11) (by decide +kernel) (by decide +kernel)
theorem dX7_takeGas_4 : decode cX7_takeGas 4 = .ok (.iload_n 1, 1) := od_27  (by decide +kernel)
theorem dX7_takeGas_5 : decode cX7_takeGas 5 = .ok (.aload_n 0, 1) := od_42  (by decide +kernel)
theorem dX7_takeGas_6 : decode cX7_takeGas 6 = .ok (.getfield 32, 3) := od_180 (a := 0) (b := 32) (by decide +kernel) (by decide)
theorem dX7_takeGas_9 : decode cX7_takeGas 9 = .ok (.if_icmp .le 4, 3) := od_164 (a := 0) (b := 4) (by decide +kernel) (by decide +kernel)
theorem dX7_takeGas_12 : decode cX7_takeGas 12 = .ok (.return_, 1) := od_177  (by decide +kernel)
theorem dX7_takeGas_13 : decode cX7_takeGas 13 = .ok (.iload_n 1, 1) := od_27  (by decide +kernel)
theorem dX7_takeGas_14 : decode cX7_takeGas 14 = .ok (.istore_n 2, 1) := od_61  (by decide +kernel)
theorem dX7_takeGas_15 : decode cX7_takeGas 15 = .ok (.iconst 0, 1) := od_3  (by decide +kernel)
theorem dX7_takeGas_16 : decode cX7_takeGas 16 = .ok (.istore_n 3, 1) := od_62  (by decide +kernel)
theorem dX7_takeGas_17 : decode cX7_takeGas 17 = .ok (.iload_n 3, 1) := od_29  (by decide +kernel)
theorem dX7_takeGas_18 : decode cX7_takeGas 18 = .ok (.bipush 6, 2) := od_16 (a := 6) (by decide +kernel) (by decide +kernel)
theorem dX7_takeGas_20 : decode cX7_takeGas 20 = .ok (.if_icmp .ge 59, 3) := od_162 (a := 0) (b := 59) (by decide +kernel) (by decide +kernel)
theorem dX7_takeGas_23 : decode cX7_takeGas 23 = .ok (.iload_n 1, 1) := od_27  (by decide +kernel)
theorem dX7_takeGas_24 : decode cX7_takeGas 24 = .ok (.i2l, 1) := od_133  (by decide +kernel)
theorem dX7_takeGas_25 : decode cX7_takeGas 25 = .ok (.aload_n 0, 1) := od_42  (by decide +kernel)
theorem dX7_takeGas_26 : decode cX7_takeGas 26 = .ok (.getfield 15, 3) := od_180 (a := 0) (b := 15) (by decide +kernel) (by decide)
theorem dX7_takeGas_29 : decode cX7_takeGas 29 = .ok (.iload_n 3, 1) := od_29  (by decide +kernel)
theorem dX7_takeGas_30 : decode cX7_takeGas 30 = .ok (.iaload, 1) := od_46  (by decide +kernel)
theorem dX7_takeGas_31 : decode cX7_takeGas 31 = .ok (.i2l, 1) := od_133  (by decide +kernel)
theorem dX7_takeGas_32 : decode cX7_takeGas 32 = .ok (.lmul, 1) := od_105  (by decide +kernel)
theorem dX7_takeGas_33 : decode cX7_takeGas 33 = .ok (.lstore 4, 2) := od_55 (n := 4) (by decide +kernel)
theorem dX7_takeGas_35 : decode cX7_takeGas 35 = .ok (.aload_n 0, 1) := od_42  (by decide +kernel)
theorem dX7_takeGas_36 : decode cX7_takeGas 36 = .ok (.getfield 19, 3) := od_180 (a := 0) (b := 19) (by decide +kernel) (by decide)
theorem dX7_takeGas_39 : decode cX7_takeGas 39 = .ok (.iload_n 3, 1) := od_29  (by decide +kernel)
theorem dX7_takeGas_40 : decode cX7_takeGas 40 = .ok (.lload 4, 2) := od_22 (n := 4) (by decide +kernel)
theorem dX7_takeGas_42 : decode cX7_takeGas 42 = .ok (.aload_n 0, 1) := od_42  (by decide +kernel)
theorem dX7_takeGas_43 : decode cX7_takeGas 43 = .ok (.getfield 32, 3) := od_180 (a := 0) (b := 32) (by decide +kernel) (by decide)
theorem dX7_takeGas_46 : decode cX7_takeGas 46 = .ok (.i2l, 1) := od_133  (by decide +kernel)
theorem dX7_takeGas_47 : decode cX7_takeGas 47 = .ok (.ldiv, 1) := od_109  (by decide +kernel)
theorem dX7_takeGas_48 : decode cX7_takeGas 48 = .ok (.l2i, 1) := od_136  (by decide +kernel)
theorem dX7_takeGas_49 : decode cX7_takeGas 49 = .ok (.iastore, 1) := od_79  (by decide +kernel)
theorem dX7_takeGas_50 : decode cX7_takeGas 50 = .ok (.aload_n 0, 1) := od_42  (by decide +kernel)
theorem dX7_takeGas_51 : decode cX7_takeGas 51 = .ok (.getfield 22, 3) := od_180 (a := 0) (b := 22) (by decide +kernel) (by decide)
theorem dX7_takeGas_54 : decode cX7_takeGas 54 = .ok (.iload_n 3, 1) := od_29  (by decide +kernel)
theorem dX7_takeGas_55 : decode cX7_takeGas 55 = .ok (.lload 4, 2) := od_22 (n := 4) (by decide +kernel)
theorem dX7_takeGas_57 : decode cX7_takeGas 57 = .ok (.aload_n 0, 1) := od_42  (by decide +kernel)
theorem dX7_takeGas_58 : decode cX7_takeGas 58 = .ok (.getfield 32, 3) := od_180 (a := 0) (b := 32) (by decide +kernel) (by decide)
theorem dX7_takeGas_61 : decode cX7_takeGas 61 = .ok (.i2l, 1) := od_133  (by decide +kernel)
theorem dX7_takeGas_62 : decode cX7_takeGas 62 = .ok (.lrem, 1) := od_113  (by decide +kernel)
theorem dX7_takeGas_63 : decode cX7_takeGas 63 = .ok (.lastore, 1) := od_80  (by decide +kernel)
theorem dX7_takeGas_64 : decode cX7_takeGas 64 = .ok (.iload_n 2, 1) := od_28  (by decide +kernel)
theorem dX7_takeGas_65 : decode cX7_takeGas 65 = .ok (.aload_n 0, 1) := od_42  (by decide +kernel)
theorem dX7_takeGas_66 : decode cX7_takeGas 66 = .ok (.getfield 19, 3) := od_180 (a := 0) (b := 19) (by decide +kernel) (by decide)
theorem dX7_takeGas_69 : decode cX7_takeGas 69 = .ok (.iload_n 3, 1) := od_29  (by decide +kernel)
theorem dX7_takeGas_70 : decode cX7_takeGas 70 = .ok (.iaload, 1) := od_46  (by decide +kernel)
theorem dX7_takeGas_71 : decode cX7_takeGas 71 = .ok (.isub, 1) := od_100  (by decide +kernel)
theorem dX7_takeGas_72 : decode cX7_takeGas 72 = .ok (.istore_n 2, 1) := od_61  (by decide +kernel)
theorem dX7_takeGas_73 : decode cX7_takeGas 73 = .ok (.iinc 3 1, 3) := od_132 (a := 3) (b := 1) (by decide +kernel) (by decide +kernel)
theorem dX7_takeGas_76 : decode cX7_takeGas 76 = .ok (.goto (-59), 3) := od_167 (a := 255) (b := 197) (by decide +kernel) (by decide +kernel)
theorem dX7_takeGas_79 : decode cX7_takeGas 79 = .ok (.aload_n 0, 1) := od_42  (by decide +kernel)
theorem dX7_takeGas_80 : decode cX7_takeGas 80 = .ok (.iload_n 2, 1) := od_28  (by decide +kernel)
theorem dX7_takeGas_81 : decode cX7_takeGas 81 = .ok (.invokevirtual 71, 3) := od_182 (a := 0) (b := 71) (by decide +kernel) (by decide)
theorem dX7_takeGas_84 : decode cX7_takeGas 84 = .ok (.iconst 0, 1) := od_3  (by decide +kernel)
theorem dX7_takeGas_85 : decode cX7_takeGas 85 = .ok (.istore_n 3, 1) := od_62  (by decide +kernel)
theorem dX7_takeGas_86 : decode cX7_takeGas 86 = .ok (.iload_n 3, 1) := od_29  (by decide +kernel)
theorem dX7_takeGas_87 : decode cX7_takeGas 87 = .ok (.bipush 6, 2) := od_16 (a := 6) (by decide +kernel) (by decide +kernel)
theorem dX7_takeGas_89 : decode cX7_takeGas 89 = .ok (.if_icmp .ge 24, 3) := od_162 (a := 0) (b := 24) (by decide +kernel) (by decide +kernel)
theorem dX7_takeGas_92 : decode cX7_takeGas 92 = .ok (.aload_n 0, 1) := od_42  (by decide +kernel)
theorem dX7_takeGas_93 : decode cX7_takeGas 93 = .ok (.getfield 15, 3) := od_180 (a := 0) (b := 15) (by decide +kernel) (by decide)
theorem dX7_takeGas_96 : decode cX7_takeGas 96 = .ok (.iload_n 3, 1) := od_29  (by decide +kernel)
theorem dX7_takeGas_97 : decode cX7_takeGas 97 = .ok (.dup2, 1) := od_92  (by decide +kernel)
theorem dX7_takeGas_98 : decode cX7_takeGas 98 = .ok (.iaload, 1) := od_46  (by decide +kernel)
theorem dX7_takeGas_99 : decode cX7_takeGas 99 = .ok (.aload_n 0, 1) := od_42  (by decide +kernel)
theorem dX7_takeGas_100 : decode cX7_takeGas 100 = .ok (.getfield 19, 3) := od_180 (a := 0) (b := 19) (by decide +kernel) (by decide)
theorem dX7_takeGas_103 : decode cX7_takeGas 103 = .ok (.iload_n 3, 1) := od_29  (by decide +kernel)
theorem dX7_takeGas_104 : decode cX7_takeGas 104 = .ok (.iaload, 1) := od_46  (by decide +kernel)
theorem dX7_takeGas_105 : decode cX7_takeGas 105 = .ok (.isub, 1) := od_100  (by decide +kernel)
theorem dX7_takeGas_106 : decode cX7_takeGas 106 = .ok (.iastore, 1) := od_79  (by decide +kernel)
theorem dX7_takeGas_107 : decode cX7_takeGas 107 = .ok (.iinc 3 1, 3) := od_132 (a := 3) (b := 1) (by decide +kernel) (by decide +kernel)
theorem dX7_takeGas_110 : decode cX7_takeGas 110 = .ok (.goto (-24), 3) := od_167 (a := 255) (b := 232) (by decide +kernel) (by decide +kernel)
theorem dX7_takeGas_113 : decode cX7_takeGas 113 = .ok (.aload_n 0, 1) := od_42  (by decide +kernel)
theorem dX7_takeGas_114 : decode cX7_takeGas 114 = .ok (.dup, 1) := od_89  (by decide +kernel)
theorem dX7_takeGas_115 : decode cX7_takeGas 115 = .ok (.getfield 32, 3) := od_180 (a := 0) (b := 32) (by decide +kernel) (by decide)
theorem dX7_takeGas_118 : decode cX7_takeGas 118 = .ok (.iload_n 1, 1) := od_27  (by decide +kernel)
theorem dX7_takeGas_119 : decode cX7_takeGas 119 = .ok (.isub, 1) := od_100  (by decide +kernel)
theorem dX7_takeGas_120 : decode cX7_takeGas 120 = .ok (.putfield 32, 3) := od_181 (a := 0) (b := 32) (by decide +kernel) (by decide)
theorem dX7_takeGas_123 : decode cX7_takeGas 123 = .ok (.return_, 1) := od_177  (by decide +kernel)
theorem dX7_copyFrom_0 : decode cX7_copyFrom 0 = .ok (.aload_n 0, 1) := od_42  (by decide +kernel)
theorem dX7_copyFrom_1 : decode cX7_copyFrom 1 = .ok (.aload_n 1, 1) := od_43  (by decide +kernel)
theorem dX7_copyFrom_2 : decode cX7_copyFrom 2 = .ok (.getfield 9, 3) := od_180 (a := 0) (b := 9) (by decide +kernel) (by decide)
theorem dX7_copyFrom_5 : decode cX7_copyFrom 5 = .ok (.putfield 9, 3) := od_181 (a := 0) (b := 9) (by decide +kernel) (by decide)
theorem dX7_copyFrom_8 : decode cX7_copyFrom 8 = .ok (.aload_n 0, 1) := od_42  (by decide +kernel)
theorem dX7_copyFrom_9 : decode cX7_copyFrom 9 = .ok (.aload_n 1, 1) := od_43  (by decide +kernel)
theorem dX7_copyFrom_10 : decode cX7_copyFrom 10 = .ok (.getfield 32, 3) := od_180 (a := 0) (b := 32) (by decide +kernel) (by decide)
theorem dX7_copyFrom_13 : decode cX7_copyFrom 13 = .ok (.putfield 32, 3) := od_181 (a := 0) (b := 32) (by decide +kernel) (by decide)
theorem dX7_copyFrom_16 : decode cX7_copyFrom 16 = .ok (.aload_n 0, 1) := od_42  (by decide +kernel)
theorem dX7_copyFrom_17 : decode cX7_copyFrom 17 = .ok (.aload_n 1, 1) := od_43  (by decide +kernel)
theorem dX7_copyFrom_18 : decode cX7_copyFrom 18 = .ok (.getfield 35, 3) := od_180 (a := 0) (b := 35) (by decide +kernel) (by decide)
theorem dX7_copyFrom_21 : decode cX7_copyFrom 21 = .ok (.putfield 35, 3) := od_181 (a := 0) (b := 35) (by decide +kernel) (by decide)
theorem dX7_copyFrom_24 : decode cX7_copyFrom 24 = .ok (.aload_n 0, 1) := od_42  (by decide +kernel)
theorem dX7_copyFrom_25 : decode cX7_copyFrom 25 = .ok (.aload_n 1, 1) := od_43  (by decide +kernel)
theorem dX7_copyFrom_26 : decode cX7_copyFrom 26 = .ok (.getfield 38, 3) := od_180 (a := 0) (b := 38) (by decide +kernel) (by decide)
theorem dX7_copyFrom_29 : decode cX7_copyFrom 29 = .ok (.putfield 38, 3) := od_181 (a := 0) (b := 38) (by decide +kernel) (by decide)
theorem dX7_copyFrom_32 : decode cX7_copyFrom 32 = .ok (.aload_n 1, 1) := od_43  (by decide +kernel)
theorem dX7_copyFrom_33 : decode cX7_copyFrom 33 = .ok (.getfield 15, 3) := od_180 (a := 0) (b := 15) (by decide +kernel) (by decide)
theorem dX7_copyFrom_36 : decode cX7_copyFrom 36 = .ok (.iconst 0, 1) := od_3  (by decide +kernel)
theorem dX7_copyFrom_37 : decode cX7_copyFrom 37 = .ok (.aload_n 0, 1) := od_42  (by decide +kernel)
theorem dX7_copyFrom_38 : decode cX7_copyFrom 38 = .ok (.getfield 15, 3) := od_180 (a := 0) (b := 15) (by decide +kernel) (by decide)
theorem dX7_copyFrom_41 : decode cX7_copyFrom 41 = .ok (.iconst 0, 1) := od_3  (by decide +kernel)
theorem dX7_copyFrom_42 : decode cX7_copyFrom 42 = .ok (.bipush 6, 2) := od_16 (a := 6) (by decide +kernel) (by decide +kernel)
theorem dX7_copyFrom_44 : decode cX7_copyFrom 44 = .ok (.invokestatic 74, 3) := od_184 (a := 0) (b := 74) (by decide +kernel) (by decide)
theorem dX7_copyFrom_47 : decode cX7_copyFrom 47 = .ok (.return_, 1) := od_177  (by decide +kernel)
theorem dX7_giveByRests_0 : decode cX7_giveByRests 0 = .ok (.iconst 0, 1) := od_3  (by decide +kernel)
theorem dX7_giveByRests_1 : decode cX7_giveByRests 1 = .ok (.istore_n 2, 1) := od_61  (by decide +kernel)
theorem dX7_giveByRests_2 : decode cX7_giveByRests 2 = .ok (.iload_n 2, 1) := od_28  (by decide +kernel)
theorem dX7_giveByRests_3 : decode cX7_giveByRests 3 = .ok (.iload_n 1, 1) := od_27  (by decide +kernel)
theorem dX7_giveByRests_4 : decode cX7_giveByRests 4 = .ok (.if_icmp .ge 72, 3) := od_162 (a := 0) (b := 72) (by decide +kernel) (by decide +kernel)
theorem dX7_giveByRests_7 : decode cX7_giveByRests 7 = .ok (.iload_n 2, 1) := od_28  (by decide +kernel)
theorem dX7_giveByRests_8 : decode cX7_giveByRests 8 = .ok (.bipush 6, 2) := od_16 (a := 6) (by decide +kernel) (by decide +kernel)
theorem dX7_giveByRests_10 : decode cX7_giveByRests 10 = .ok (.if_icmp .ge 66, 3) := od_162 (a := 0) (b := 66) (by decide +kernel) (by decide +kernel)
theorem dX7_giveByRests_13 : decode cX7_giveByRests 13 = .ok (.iconst 0, 1) := od_3  (by decide +kernel)
theorem dX7_giveByRests_14 : decode cX7_giveByRests 14 = .ok (.istore_n 3, 1) := od_62  (by decide +kernel)
theorem dX7_giveByRests_15 : decode cX7_giveByRests 15 = .ok (.iconst 1, 1) := od_4  (by decide +kernel)
theorem dX7_giveByRests_16 : decode cX7_giveByRests 16 = .ok (.istore 4, 2) := od_54 (n := 4) (by decide +kernel)
theorem dX7_giveByRests_18 : decode cX7_giveByRests 18 = .ok (.iload 4, 2) := od_21 (n := 4) (by decide +kernel)
theorem dX7_giveByRests_20 : decode cX7_giveByRests 20 = .ok (.bipush 6, 2) := od_16 (a := 6) (by decide +kernel) (by decide +kernel)
theorem dX7_giveByRests_22 : decode cX7_giveByRests 22 = .ok (.if_icmp .ge 29, 3) := od_162 (a := 0) (b := 29) (by decide +kernel) (by decide +kernel)
theorem dX7_giveByRests_25 : decode cX7_giveByRests 25 = .ok (.aload_n 0, 1) := od_42  (by decide +kernel)
theorem dX7_giveByRests_26 : decode cX7_giveByRests 26 = .ok (.getfield 22, 3) := od_180 (a := 0) (b := 22) (by decide +kernel) (by decide)
theorem dX7_giveByRests_29 : decode cX7_giveByRests 29 = .ok (.iload 4, 2) := od_21 (n := 4) (by decide +kernel)
theorem dX7_giveByRests_31 : decode cX7_giveByRests 31 = .ok (.laload, 1) := od_47  (by decide +kernel)
theorem dX7_giveByRests_32 : decode cX7_giveByRests 32 = .ok (.aload_n 0, 1) := od_42  (by decide +kernel)
theorem dX7_giveByRests_33 : decode cX7_giveByRests 33 = .ok (.getfield 22, 3) := od_180 (a := 0) (b := 22) (by decide +kernel) (by decide)
theorem dX7_giveByRests_36 : decode cX7_giveByRests 36 = .ok (.iload_n 3, 1) := od_29  (by decide +kernel)
theorem dX7_giveByRests_37 : decode cX7_giveByRests 37 = .ok (.laload, 1) := od_47  (by decide +kernel)
theorem dX7_giveByRests_38 : decode cX7_giveByRests 38 = .ok (.lcmp, 1) := od_148  (by decide +kernel)
theorem dX7_giveByRests_39 : decode cX7_giveByRests 39 = .ok (.ifCond .le 6, 3) := od_158 (a := 0) (b := 6) (by decide +kernel) (by decide +kernel)
theorem dX7_giveByRests_42 : decode cX7_giveByRests 42 = .ok (.iload 4, 2) := od_21 (n := 4) (by decide +kernel)
theorem dX7_giveByRests_44 : decode cX7_giveByRests 44 = .ok (.istore_n 3, 1) := od_62  (by decide +kernel)
theorem dX7_giveByRests_45 : decode cX7_giveByRests 45 = .ok (.iinc 4 1, 3) := od_132 (a := 4) (b := 1) (by decide +kernel) (by decide +kernel)
theorem dX7_giveByRests_48 : decode cX7_giveByRests 48 = .ok (.goto (-30), 3) := od_167 (a := 255) (b := 226) (by decide +kernel) (by decide +kernel)
theorem dX7_giveByRests_51 : decode cX7_giveByRests 51 = .ok (.aload_n 0, 1) := od_42  (by decide +kernel)
theorem dX7_giveByRests_52 : decode cX7_giveByRests 52 = .ok (.getfield 19, 3) := od_180 (a := 0) (b := 19) (by decide +kernel) (by decide)
theorem dX7_giveByRests_55 : decode cX7_giveByRests 55 = .ok (.iload_n 3, 1) := od_29  (by decide +kernel)
theorem dX7_giveByRests_56 : decode cX7_giveByRests 56 = .ok (.dup2, 1) := od_92  (by decide +kernel)
theorem dX7_giveByRests_57 : decode cX7_giveByRests 57 = .ok (.iaload, 1) := od_46  (by decide +kernel)
theorem dX7_giveByRests_58 : decode cX7_giveByRests 58 = .ok (.iconst 1, 1) := od_4  (by decide +kernel)
theorem dX7_giveByRests_59 : decode cX7_giveByRests 59 = .ok (.iadd, 1) := od_96  (by decide +kernel)
theorem dX7_giveByRests_60 : decode cX7_giveByRests 60 = .ok (.iastore, 1) := od_79  (by decide +kernel)
theorem dX7_giveByRests_61 : decode cX7_giveByRests 61 = .ok (.aload_n 0, 1) := od_42  (by decide +kernel)
theorem dX7_giveByRests_62 : decode cX7_giveByRests 62 = .ok (.getfield 22, 3) := od_180 (a := 0) (b := 22) (by decide +kernel) (by decide)
theorem dX7_giveByRests_65 : decode cX7_giveByRests 65 = .ok (.iload_n 3, 1) := od_29  (by decide +kernel)
theorem dX7_giveByRests_66 : decode cX7_giveByRests 66 = .ok (.ldc2_w 80, 3) := od_20 (a := 0) (b := 80) (by decide +kernel) (by decide)
theorem dX7_giveByRests_69 : decode cX7_giveByRests 69 = .ok (.lastore, 1) := od_80  (by decide +kernel)
theorem dX7_giveByRests_70 : decode cX7_giveByRests 70 = .ok (.iinc 2 1, 3) := od_132 (a := 2) (b := 1) (by decide +kernel) (by decide +kernel)
theorem dX7_giveByRests_73 : decode cX7_giveByRests 73 = .ok (.goto (-71), 3) := od_167 (a := 255) (b := 185) (by decide +kernel) (by decide +kernel)
theorem dX7_giveByRests_76 : decode cX7_giveByRests 76 = .ok (.return_, 1) := od_177  (by decide +kernel)
theorem gX7_evaporate_X7_takeGas : GoodIn WALL (wsV RX7 68 RX7 yX7_takeGas wqX7_takeGas) := wg_V wa_420 wa_421 wa_422 wa_95 wa_423
theorem dX7_evaporate_0 : decode cX7_evaporate 0 = .ok (.aload_n 0, 1) := od_42  (by decide +kernel)
theorem dX7_evaporate_1 : decode cX7_evaporate 1 = .ok (.iload_n 1, 1) := od_27  (by decide +kernel)
theorem dX7_evaporate_2 : decode cX7_evaporate 2 = .ok (.invokevirtual 68, 3) := od_182 (a := 0) (b := 68) (by decide +kernel) (by decide)
theorem dX7_evaporate_5 : decode cX7_evaporate 5 = .ok (.aload_n 0, 1) := od_42  (by decide +kernel)
theorem dX7_evaporate_6 : decode cX7_evaporate 6 = .ok (.dup, 1) := od_89  (by decide +kernel)
theorem dX7_evaporate_7 : decode cX7_evaporate 7 = .ok (.getfield 35, 3) := od_180 (a := 0) (b := 35) (by decide +kernel) (by decide)
theorem dX7_evaporate_10 : decode cX7_evaporate 10 = .ok (.iload_n 1, 1) := od_27  (by decide +kernel)
theorem dX7_evaporate_11 : decode cX7_evaporate 11 = .ok (.iadd, 1) := od_96  (by decide +kernel)
theorem dX7_evaporate_12 : decode cX7_evaporate 12 = .ok (.putfield 35, 3) := od_181 (a := 0) (b := 35) (by decide +kernel) (by decide)
theorem dX7_evaporate_15 : decode cX7_evaporate 15 = .ok (.return_, 1) := od_177  (by decide +kernel)
theorem dX7_space_0 : decode cX7_space 0 = .ok (.iconst 1, 1) := od_4  (by decide +kernel)
theorem dX7_space_1 : decode cX7_space 1 = .ok (.aload_n 0, 1) := od_42  (by decide +kernel)
theorem dX7_space_2 : decode cX7_space 2 = .ok (.getfield 9, 3) := od_180 (a := 0) (b := 9) (by decide +kernel) (by decide)
theorem dX7_space_5 : decode cX7_space 5 = .ok (.aload_n 0, 1) := od_42  (by decide +kernel)
theorem dX7_space_6 : decode cX7_space 6 = .ok (.getfield 32, 3) := od_180 (a := 0) (b := 32) (by decide +kernel) (by decide)
theorem dX7_space_9 : decode cX7_space 9 = .ok (.isub, 1) := od_100  (by decide +kernel)
theorem dX7_space_10 : decode cX7_space 10 = .ok (.aload_n 0, 1) := od_42  (by decide +kernel)
theorem dX7_space_11 : decode cX7_space 11 = .ok (.getfield 9, 3) := od_180 (a := 0) (b := 9) (by decide +kernel) (by decide)
theorem dX7_space_14 : decode cX7_space 14 = .ok (.bipush 100, 2) := od_16 (a := 100) (by decide +kernel) (by decide +kernel)
theorem dX7_space_16 : decode cX7_space 16 = .ok (.idiv, 1) := od_108  (by decide +kernel)
theorem dX7_space_17 : decode cX7_space 17 = .ok (.iadd, 1) := od_96  (by decide +kernel)
theorem dX7_space_18 : decode cX7_space 18 = .ok (.invokestatic 26, 3) := od_184 (a := 0) (b := 26) (by decide +kernel) (by decide)
theorem dX7_space_21 : decode cX7_space 21 = .ok (.ireturn, 1) := od_172  (by decide +kernel)
theorem dJ7_fill_d0a16_0 : decode cJ7_fill_d0a16 0 = .ok (.iconst 0, 1) := od_3  (by decide +kernel)
theorem dJ7_fill_d0a16_1 : decode cJ7_fill_d0a16 1 = .ok (.istore_n 3, 1) := od_62  (by decide +kernel)
theorem dJ7_fill_d0a16_2 : decode cJ7_fill_d0a16 2 = .ok (.aload_n 0, 1) := od_42  (by decide +kernel)
theorem dJ7_fill_d0a16_3 : decode cJ7_fill_d0a16 3 = .ok (.arraylength, 1) := od_190  (by decide +kernel)
theorem dJ7_fill_d0a16_4 : decode cJ7_fill_d0a16 4 = .ok (.istore 4, 2) := od_54 (n := 4) (by decide +kernel)
theorem dJ7_fill_d0a16_6 : decode cJ7_fill_d0a16 6 = .ok (.iload_n 3, 1) := od_29  (by decide +kernel)
theorem dJ7_fill_d0a16_7 : decode cJ7_fill_d0a16 7 = .ok (.iload 4, 2) := od_21 (n := 4) (by decide +kernel)
theorem dJ7_fill_d0a16_9 : decode cJ7_fill_d0a16 9 = .ok (.if_icmp .ge 13, 3) := od_162 (a := 0) (b := 13) (by decide +kernel) (by decide +kernel)
theorem dJ7_fill_d0a16_12 : decode cJ7_fill_d0a16 12 = .ok (.aload_n 0, 1) := od_42  (by decide +kernel)
theorem dJ7_fill_d0a16_13 : decode cJ7_fill_d0a16 13 = .ok (.iload_n 3, 1) := od_29  (by decide +kernel)
theorem dJ7_fill_d0a16_14 : decode cJ7_fill_d0a16 14 = .ok (.lload_n 1, 1) := od_31  (by decide +kernel)
theorem dJ7_fill_d0a16_15 : decode cJ7_fill_d0a16 15 = .ok (.lastore, 1) := od_80  (by decide +kernel)
theorem dJ7_fill_d0a16_16 : decode cJ7_fill_d0a16 16 = .ok (.iinc 3 1, 3) := od_132 (a := 3) (b := 1) (by decide +kernel) (by decide +kernel)
theorem dJ7_fill_d0a16_19 : decode cJ7_fill_d0a16 19 = .ok (.goto (-13), 3) := od_167 (a := 255) (b := 243) (by decide +kernel) (by decide +kernel)
theorem dJ7_fill_d0a16_22 : decode cJ7_fill_d0a16 22 = .ok (.return_, 1) := od_177  (by decide +kernel)
theorem dJ7_fill_53178_0 : decode cJ7_fill_53178 0 = .ok (.iconst 0, 1) := od_3  (by decide +kernel)
theorem dJ7_fill_53178_1 : decode cJ7_fill_53178 1 = .ok (.istore_n 2, 1) := od_61  (by decide +kernel)
theorem dJ7_fill_53178_2 : decode cJ7_fill_53178 2 = .ok (.aload_n 0, 1) := od_42  (by decide +kernel)
theorem dJ7_fill_53178_3 : decode cJ7_fill_53178 3 = .ok (.arraylength, 1) := od_190  (by decide +kernel)
theorem dJ7_fill_53178_4 : decode cJ7_fill_53178 4 = .ok (.istore_n 3, 1) := od_62  (by decide +kernel)
theorem dJ7_fill_53178_5 : decode cJ7_fill_53178 5 = .ok (.iload_n 2, 1) := od_28  (by decide +kernel)
theorem dJ7_fill_53178_6 : decode cJ7_fill_53178 6 = .ok (.iload_n 3, 1) := od_29  (by decide +kernel)
theorem dJ7_fill_53178_7 : decode cJ7_fill_53178 7 = .ok (.if_icmp .ge 13, 3) := od_162 (a := 0) (b := 13) (by decide +kernel) (by decide +kernel)
theorem dJ7_fill_53178_10 : decode cJ7_fill_53178 10 = .ok (.aload_n 0, 1) := od_42  (by decide +kernel)
theorem dJ7_fill_53178_11 : decode cJ7_fill_53178 11 = .ok (.iload_n 2, 1) := od_28  (by decide +kernel)
theorem dJ7_fill_53178_12 : decode cJ7_fill_53178 12 = .ok (.iload_n 1, 1) := od_27  (by decide +kernel)
theorem dJ7_fill_53178_13 : decode cJ7_fill_53178 13 = .ok (.iastore, 1) := od_79  (by decide +kernel)
theorem dJ7_fill_53178_14 : decode cJ7_fill_53178 14 = .ok (.iinc 2 1, 3) := od_132 (a := 2) (b := 1) (by decide +kernel) (by decide +kernel)
theorem dJ7_fill_53178_17 : decode cJ7_fill_53178 17 = .ok (.goto (-12), 3) := od_167 (a := 255) (b := 244) (by decide +kernel) (by decide +kernel)
theorem dJ7_fill_53178_20 : decode cJ7_fill_53178 20 = .ok (.return_, 1) := od_177  (by decide +kernel)
end
section
set_option maxHeartbeats 4000000 in
set_option maxRecDepth 100000 in
theorem t_J7_fill_53178 (l : Launch) (dC : Nat → ClassId) (dI : Nat → Nat → Nat) (sz : Nat) (Ω : Nat → Nat → (Nat → Nat) → va_E → Prop) (κ : Nat → ClassId) (τ ν : Nat → Nat) (ρ : Nat → Nat → Nat) (L : List Nat) (f : Nat → va_E) (hG : tp_G τ ν ρ L) (hT : tp_T Ω κ τ ν ρ f) (h0 : Nat) (v : Int32) (ht_h0 : τ h0 = 20) (hn : ν h0 ≤ 1000) : Met l yJ7_fill_53178 wqJ7_fill_53178 ({ frames := 2, cells := 0, slots := 0, locals := 400 }) (va_Pc [.ref h0, .int v] (pz_B dC dI (tp_K κ) (va_pl L f) sz)) (va_Qv (fun (f1 : Nat → va_E) => tp_T Ω κ τ ν ρ f1 ∧ tp_F τ [20] f f1 ∧ True) (fun (f1 : Nat → va_E) (t : State) => pz_E dC dI (tp_K κ) (va_A (va_pl L f) sz) (va_pl L f1) t) (va_A (va_pl L f) sz)) 0 0 (va_A (va_pl L f) sz) := by
  refine Met.ofW (cc := cJ7_fill_53178) (maxL := 4) (ret := none) (by decide) rfl ?_
  intro p e s m args below meth c s₁ B hml hv
  obtain ⟨rfl, hsz, hP, hK, hD0, hN⟩ := hv
  have hx := B.exec
  have hb := B.bytes
  have hr := B.returns
  have hts := fun (w : Cond) (h : w ∈ WALL) => atoms_spec (ws := wqJ7_fill_53178) B.pre w (List.mem_cons_of_mem _ h)
  have hown : s.vm.findClass RJ7 = some m.cls := findClass_of_methodNamed B.named
  have hlocks := B.notSynchronized
  subst hsz
  have hD := hD0.self (sz := s.heap.size)
  generalize hAe : va_A (va_pl L f) s.heap.size = A at hD ⊢
  have hA : ∀ q : Nat, s.heap.size ≤ q → A q := fun q h => by rw [← hAe]; exact Or.inr h
  have hS : va_S A s.heap s.heap [] := va_S.rf
  have hR : tp_F τ [20] f f := tp_F.rf
  have hl := lv_entry ([.ref h0, .int v]) (n := 4) (Nat.le_of_ble_eq_true rfl)
  rw [lg_entry_eq]
  generalize (lg_sl ([.ref h0, .int v]) ++ List.replicate (4 - (lg_sl ([.ref h0, .int v])).length) Slot.unset).toArray = ls at hl ⊢
  have hl : lv_has ls 4 [(0, .ref h0), (1, .int v)] := hl
  refine lv_iconst (v := 0) hx hb dJ7_fill_53178_0 (by decide) ?_
  refine lv_istore_n (lv' := [(2, .int 0), (0, .ref h0), (1, .int v)]) hx hb dJ7_fill_53178_1 rfl hl (by decide) rfl (fun ls hl => ?_)
  refine lv_aload_n hx hb dJ7_fill_53178_2 rfl (lv_at hl 1 rfl) ?_
  refine tpk_20 hT ht_h0 rfl (fun g2 hf_o1 => ?_)
  refine tpk_pos (tp_in hG ht_h0 (by decide)) hf_o1 (fun q3 eq3 => ?_)
  obtain ⟨z4, ez4⟩ : ∃ y : Int32, y = Int32.ofNat (ν h0) := ⟨_, rfl⟩
  have iz4 : z4.toInt = ((ν h0) : Int) := zi_ofNat ez4 (by omega)
  refine va_alen hx hb hK hP q3 0 eq3 rfl ez4.symm dJ7_fill_53178_3 ?_
  refine lv_istore_n (lv' := [(3, .int z4), (2, .int 0), (0, .ref h0), (1, .int v)]) hx hb dJ7_fill_53178_4 rfl hl (by decide) rfl (fun ls hl => ?_)
  refine pz_loop (fun n0 H locs ls => ∃ f7 : Nat → va_E, ∃ w5 : Int32, n0 = ((z4.toInt) - (w5.toInt)).toNat ∧ tp_T Ω κ τ ν ρ f7 ∧ tp_F τ [20] f f7 ∧ (0 ≤ w5.toInt ∧ w5.toInt ≤ 1000) ∧ ((w5.toInt) ≤ (z4.toInt)) ∧ va_P (dC, dI) vwCl (va_pl L f7) H ∧ va_D A (va_pl L f7) ∧ va_S A s.heap H locs ∧ lv_has ls 4 [(3, .int z4), (2, .int w5), (0, .ref h0), (1, .int v)]) ?_ _ _ _ _ ⟨f, 0, rfl, hT, hR, (by have : (0 : Int32).toInt = 0 := rfl; omega), (by have : (0 : Int32).toInt = 0 := rfl; omega), hP, hD, hS, lv_sub hl [0, 1, 2, 3] rfl⟩
  intro n0 H locs ls hI ih8
  refine Exists.elim hI (fun f7 hE90 => Exists.elim hE90 (fun w5 hE91 => tn_9 hE91 (fun hn9 hT hR rw5 k6 hP hD hS hl => ?_)))
  clear hE91 hE90 hI
  refine lv_iload_n hx hb dJ7_fill_53178_5 rfl (lv_at hl 1 rfl) ?_
  refine lv_iload_n hx hb dJ7_fill_53178_6 rfl (lv_at hl 0 rfl) ?_
  refine lv_icmp_ge (tgt := 20) hx hb dJ7_fill_53178_7 (by decide) (fun c10 => ?_) (fun c10 => ?_)
  · have ic10 : w5.toInt ≥ z4.toInt := zi_ge rfl rfl c10
    exact W.vret hx hb hr (fun t ht hW => ⟨⟨f7, rfl, ⟨hT, hR, trivial⟩, by rw [ht]; exact hP, va_K.moved hW.alike hK, hD⟩, hS.F ht⟩) hS.2.2 dJ7_fill_53178_20
  · have ic10 : w5.toInt < z4.toInt := zi_gef rfl rfl c10
    refine lv_aload_n hx hb dJ7_fill_53178_10 rfl (lv_at hl 2 rfl) ?_
    refine lv_iload_n hx hb dJ7_fill_53178_11 rfl (lv_at hl 1 rfl) ?_
    refine lv_iload_n hx hb dJ7_fill_53178_12 rfl (lv_at hl 3 rfl) ?_
    refine tpk_20 hT ht_h0 rfl (fun g12 hf_o11 => ?_)
    refine tpk_pos (tp_in hG ht_h0 (by decide)) hf_o11 (fun q13 eq13 => ?_)
    refine va_iast hx hb hK hP hD hS q13 0 eq13 rfl (vp_in_iff.mpr ⟨by omega, by omega⟩) dJ7_fill_53178_13 (tp_k (.inl (κ 0, (ν h0), .inl (upd g12 w5.toNatClampNeg v))) hD (tp_in hG ht_h0 (by decide)) eq13 (fun f14 H locs hP hD hS g16 k15 => ?_))
    have hT := hT.up ht_h0 g16 k15 (tp_o20 rfl)
    have hR := hR.up ht_h0 (by decide) k15
    generalize (upd g12 w5.toNatClampNeg v) = g17 at g16
    obtain ⟨z18, ez18⟩ : ∃ y : Int32, y = w5 + 1 := ⟨_, rfl⟩
    refine lv_iinc (v := z18) (lv' := [(2, .int z18), (3, .int z4), (0, .ref h0), (1, .int v)]) hx hb dJ7_fill_53178_14 hl (k := 1) rfl (by rw [ez18]; rfl) (by decide) rfl (fun ls hl => ?_)
    have iz18 : z18.toInt = w5.toInt + 1 := zi_add ez18 rfl rfl (by omega) (by omega)
    refine lv_goto (tgt := 5) hx hb dJ7_fill_53178_17 (by decide) ?_
    exact ih8 _ _ _ _ (by rw [hn9]; omega) ⟨f14, z18, rfl, hT, hR, (by omega), (by omega), hP, hD, hS, lv_sub hl [1, 0, 2, 3] rfl⟩
set_option maxHeartbeats 4000000 in
set_option maxRecDepth 100000 in
theorem t_J7_fill_d0a16 (l : Launch) (dC : Nat → ClassId) (dI : Nat → Nat → Nat) (sz : Nat) (Ω : Nat → Nat → (Nat → Nat) → va_E → Prop) (κ : Nat → ClassId) (τ ν : Nat → Nat) (ρ : Nat → Nat → Nat) (L : List Nat) (f : Nat → va_E) (hG : tp_G τ ν ρ L) (hT : tp_T Ω κ τ ν ρ f) (h0 : Nat) (v : Int64) (ht_h0 : τ h0 = 21) (hn : ν h0 ≤ 1000) : Met l yJ7_fill_d0a16 wqJ7_fill_d0a16 ({ frames := 2, cells := 0, slots := 0, locals := 400 }) (va_Pc [.ref h0, .long v] (pz_B dC dI (tp_K κ) (va_pl L f) sz)) (va_Qv (fun (f1 : Nat → va_E) => tp_T Ω κ τ ν ρ f1 ∧ tp_F τ [21] f f1 ∧ True) (fun (f1 : Nat → va_E) (t : State) => pz_E dC dI (tp_K κ) (va_A (va_pl L f) sz) (va_pl L f1) t) (va_A (va_pl L f) sz)) 0 0 (va_A (va_pl L f) sz) := by
  refine Met.ofW (cc := cJ7_fill_d0a16) (maxL := 5) (ret := none) (by decide) rfl ?_
  intro p e s m args below meth c s₁ B hml hv
  obtain ⟨rfl, hsz, hP, hK, hD0, hN⟩ := hv
  have hx := B.exec
  have hb := B.bytes
  have hr := B.returns
  have hts := fun (w : Cond) (h : w ∈ WALL) => atoms_spec (ws := wqJ7_fill_d0a16) B.pre w (List.mem_cons_of_mem _ h)
  have hown : s.vm.findClass RJ7 = some m.cls := findClass_of_methodNamed B.named
  have hlocks := B.notSynchronized
  subst hsz
  have hD := hD0.self (sz := s.heap.size)
  generalize hAe : va_A (va_pl L f) s.heap.size = A at hD ⊢
  have hA : ∀ q : Nat, s.heap.size ≤ q → A q := fun q h => by rw [← hAe]; exact Or.inr h
  have hS : va_S A s.heap s.heap [] := va_S.rf
  have hR : tp_F τ [21] f f := tp_F.rf
  have hl := lv_entry ([.ref h0, .long v]) (n := 5) (Nat.le_of_ble_eq_true rfl)
  rw [lg_entry_eq]
  generalize (lg_sl ([.ref h0, .long v]) ++ List.replicate (5 - (lg_sl ([.ref h0, .long v])).length) Slot.unset).toArray = ls at hl ⊢
  have hl : lv_has ls 5 [(0, .ref h0), (1, .long v)] := hl
  refine lv_iconst (v := 0) hx hb dJ7_fill_d0a16_0 (by decide) ?_
  refine lv_istore_n (lv' := [(3, .int 0), (0, .ref h0), (1, .long v)]) hx hb dJ7_fill_d0a16_1 rfl hl (by decide) rfl (fun ls hl => ?_)
  refine lv_aload_n hx hb dJ7_fill_d0a16_2 rfl (lv_at hl 1 rfl) ?_
  refine tpk_21 hT ht_h0 rfl (fun g2 hf_o1 => ?_)
  refine tpk_pos (tp_in hG ht_h0 (by decide)) hf_o1 (fun q3 eq3 => ?_)
  obtain ⟨z4, ez4⟩ : ∃ y : Int32, y = Int32.ofNat (ν h0) := ⟨_, rfl⟩
  have iz4 : z4.toInt = ((ν h0) : Int) := zi_ofNat ez4 (by omega)
  refine va_alen hx hb hK hP q3 1 eq3 rfl ez4.symm dJ7_fill_d0a16_3 ?_
  refine lv_istore (lv' := [(4, .int z4), (3, .int 0), (0, .ref h0), (1, .long v)]) hx hb dJ7_fill_d0a16_4 hl (by decide) rfl (fun ls hl => ?_)
  refine pz_loop (fun n0 H locs ls => ∃ f7 : Nat → va_E, ∃ w5 : Int32, n0 = ((z4.toInt) - (w5.toInt)).toNat ∧ tp_T Ω κ τ ν ρ f7 ∧ tp_F τ [21] f f7 ∧ (0 ≤ w5.toInt ∧ w5.toInt ≤ 1000) ∧ ((w5.toInt) ≤ (z4.toInt)) ∧ va_P (dC, dI) vwCl (va_pl L f7) H ∧ va_D A (va_pl L f7) ∧ va_S A s.heap H locs ∧ lv_has ls 5 [(4, .int z4), (3, .int w5), (0, .ref h0), (1, .long v)]) ?_ _ _ _ _ ⟨f, 0, rfl, hT, hR, (by have : (0 : Int32).toInt = 0 := rfl; omega), (by have : (0 : Int32).toInt = 0 := rfl; omega), hP, hD, hS, lv_sub hl [0, 1, 2, 3] rfl⟩
  intro n0 H locs ls hI ih8
  refine Exists.elim hI (fun f7 hE90 => Exists.elim hE90 (fun w5 hE91 => tn_9 hE91 (fun hn9 hT hR rw5 k6 hP hD hS hl => ?_)))
  clear hE91 hE90 hI
  refine lv_iload_n hx hb dJ7_fill_d0a16_6 rfl (lv_at hl 1 rfl) ?_
  refine lv_iload hx hb dJ7_fill_d0a16_7 (lv_at hl 0 rfl) ?_
  refine lv_icmp_ge (tgt := 22) hx hb dJ7_fill_d0a16_9 (by decide) (fun c10 => ?_) (fun c10 => ?_)
  · have ic10 : w5.toInt ≥ z4.toInt := zi_ge rfl rfl c10
    exact W.vret hx hb hr (fun t ht hW => ⟨⟨f7, rfl, ⟨hT, hR, trivial⟩, by rw [ht]; exact hP, va_K.moved hW.alike hK, hD⟩, hS.F ht⟩) hS.2.2 dJ7_fill_d0a16_22
  · have ic10 : w5.toInt < z4.toInt := zi_gef rfl rfl c10
    refine lv_aload_n hx hb dJ7_fill_d0a16_12 rfl (lv_at hl 2 rfl) ?_
    refine lv_iload_n hx hb dJ7_fill_d0a16_13 rfl (lv_at hl 1 rfl) ?_
    refine lv_lload_n hx hb dJ7_fill_d0a16_14 rfl (lv_at hl 3 rfl) ?_
    refine tpk_21 hT ht_h0 rfl (fun g12 hf_o11 => ?_)
    refine tpk_pos (tp_in hG ht_h0 (by decide)) hf_o11 (fun q13 eq13 => ?_)
    refine va_last hx hb hK hP hD hS q13 1 eq13 rfl (vp_in_iff.mpr ⟨by omega, by omega⟩) dJ7_fill_d0a16_15 (tp_k (.inl (κ 1, (ν h0), .inr (.inl (vp_updL g12 w5.toNatClampNeg v)))) hD (tp_in hG ht_h0 (by decide)) eq13 (fun f14 H locs hP hD hS g16 k15 => ?_))
    have hT := hT.up ht_h0 g16 k15 (tp_o21 rfl)
    have hR := hR.up ht_h0 (by decide) k15
    generalize (vp_updL g12 w5.toNatClampNeg v) = g17 at g16
    obtain ⟨z18, ez18⟩ : ∃ y : Int32, y = w5 + 1 := ⟨_, rfl⟩
    refine lv_iinc (v := z18) (lv' := [(3, .int z18), (4, .int z4), (0, .ref h0), (1, .long v)]) hx hb dJ7_fill_d0a16_16 hl (k := 1) rfl (by rw [ez18]; rfl) (by decide) rfl (fun ls hl => ?_)
    have iz18 : z18.toInt = w5.toInt + 1 := zi_add ez18 rfl rfl (by omega) (by omega)
    refine lv_goto (tgt := 6) hx hb dJ7_fill_d0a16_19 (by decide) ?_
    exact ih8 _ _ _ _ (by rw [hn9]; omega) ⟨f14, z18, rfl, hT, hR, (by omega), (by omega), hP, hD, hS, lv_sub hl [1, 0, 2, 3] rfl⟩
set_option maxHeartbeats 4000000 in
set_option maxRecDepth 100000 in
theorem t_X7_heel (l : Launch) (dC : Nat → ClassId) (dI : Nat → Nat → Nat) (sz : Nat) (Ω : Nat → Nat → (Nat → Nat) → va_E → Prop) (κ : Nat → ClassId) (τ ν : Nat → Nat) (ρ : Nat → Nat → Nat) (L : List Nat) (f : Nat → va_E) (hG : tp_G τ ν ρ L) (hT : tp_T Ω κ τ ν ρ f) (h0 : Nat) (ht_h0 : τ h0 = 8) : Met l yX7_heel wqX7_heel ({ frames := 2, cells := 0, slots := 0, locals := 400 }) (va_Pc [.ref h0] (pz_B dC dI (tp_K κ) (va_pl L f) sz)) (vp_Si (fun r => True ∧ True)) 0 0 (fun _ => False) := by
  refine Met.ofW (cc := cX7_heel) (maxL := 1) (ret := some .int) (by decide) rfl ?_
  intro p e s m args below meth c s₁ B hml hv
  obtain ⟨rfl, hsz, hP, hK, hD0, hN⟩ := hv
  have hx := B.exec
  have hb := B.bytes
  have hr := B.returns
  have hts := fun (w : Cond) (h : w ∈ WALL) => atoms_spec (ws := wqX7_heel) B.pre w (List.mem_cons_of_mem _ h)
  have hown : s.vm.findClass RX7 = some m.cls := findClass_of_methodNamed B.named
  have hlocks := B.notSynchronized
  subst hsz
  have hD := hD0
  have hS : va_S (fun _ => True) s.heap s.heap [] := va_S.rf
  have hl := lv_entry ([.ref h0]) (n := 1) (Nat.le_of_ble_eq_true rfl)
  rw [lg_entry_eq]
  generalize (lg_sl ([.ref h0]) ++ List.replicate (1 - (lg_sl ([.ref h0])).length) Slot.unset).toArray = ls at hl ⊢
  have hl : lv_has ls 1 [(0, .ref h0)] := hl
  refine lv_aload_n hx hb dX7_heel_0 rfl (lv_at hl 0 rfl) ?_
  refine tgk_8 hG ht_h0 (fun y1 y1n y2 y2n y3 y3n => ?_)
  refine tpk_8 hT ht_h0 (fun o4_x0 o4_x1 o4_x2 o4_x3 hf_o4 ro4_0 => ?_)
  refine tpk_pos (tp_in hG ht_h0 (by decide)) hf_o4 (fun q5 eq5 => ?_)
  have ro4_0 := tp_hu ro4_0
  refine va_get (D := (dC, dI)) (ci := 7) (v := .int o4_x0) (C := RX7) (T := TX7) (N := 7) hx hb hts hfX7 hown hK hP q5 eq5 rfl 0 (by decide) (hts (.fieldLink RX7 9 "ColdShips$Tank" "cap" "I") wa_106) (fun _ h9 => h9) rfl dX7_heel_1 ?_
  refine lv_iconst (v := 2) hx hb dX7_heel_4 (by decide) ?_
  refine lv_imul hx hb dX7_heel_5 ?_
  refine lv_topi (fun z6 ez6 => ?_)
  refine lv_bipush (v := 100) hx hb dX7_heel_6 (by decide) ?_
  refine lv_idiv hx hb dX7_heel_8 (by decide) ?_
  refine lv_topi (fun z7 ez7 => ?_)
  exact W.iret (v := z7) hx hb hr (fun t ht hW => ⟨z7, rfl, ⟨trivial, trivial⟩, ht⟩) (fun _ h => by cases h) dX7_heel_9
set_option maxHeartbeats 4000000 in
set_option maxRecDepth 100000 in
theorem t_X7_top (l : Launch) (dC : Nat → ClassId) (dI : Nat → Nat → Nat) (sz : Nat) (Ω : Nat → Nat → (Nat → Nat) → va_E → Prop) (κ : Nat → ClassId) (τ ν : Nat → Nat) (ρ : Nat → Nat → Nat) (L : List Nat) (f : Nat → va_E) (hG : tp_G τ ν ρ L) (hT : tp_T Ω κ τ ν ρ f) (h0 : Nat) (ht_h0 : τ h0 = 8) : Met l yX7_top wqX7_top ({ frames := 2, cells := 0, slots := 0, locals := 400 }) (va_Pc [.ref h0] (pz_B dC dI (tp_K κ) (va_pl L f) sz)) (vp_Si (fun r => True ∧ True)) 0 0 (fun _ => False) := by
  refine Met.ofW (cc := cX7_top) (maxL := 1) (ret := some .int) (by decide) rfl ?_
  intro p e s m args below meth c s₁ B hml hv
  obtain ⟨rfl, hsz, hP, hK, hD0, hN⟩ := hv
  have hx := B.exec
  have hb := B.bytes
  have hr := B.returns
  have hts := fun (w : Cond) (h : w ∈ WALL) => atoms_spec (ws := wqX7_top) B.pre w (List.mem_cons_of_mem _ h)
  have hown : s.vm.findClass RX7 = some m.cls := findClass_of_methodNamed B.named
  have hlocks := B.notSynchronized
  subst hsz
  have hD := hD0
  have hS : va_S (fun _ => True) s.heap s.heap [] := va_S.rf
  have hl := lv_entry ([.ref h0]) (n := 1) (Nat.le_of_ble_eq_true rfl)
  rw [lg_entry_eq]
  generalize (lg_sl ([.ref h0]) ++ List.replicate (1 - (lg_sl ([.ref h0])).length) Slot.unset).toArray = ls at hl ⊢
  have hl : lv_has ls 1 [(0, .ref h0)] := hl
  refine lv_aload_n hx hb dX7_top_0 rfl (lv_at hl 0 rfl) ?_
  refine tgk_8 hG ht_h0 (fun y1 y1n y2 y2n y3 y3n => ?_)
  refine tpk_8 hT ht_h0 (fun o4_x0 o4_x1 o4_x2 o4_x3 hf_o4 ro4_0 => ?_)
  refine tpk_pos (tp_in hG ht_h0 (by decide)) hf_o4 (fun q5 eq5 => ?_)
  have ro4_0 := tp_hu ro4_0
  refine va_get (D := (dC, dI)) (ci := 7) (v := .int o4_x0) (C := RX7) (T := TX7) (N := 7) hx hb hts hfX7 hown hK hP q5 eq5 rfl 0 (by decide) (hts (.fieldLink RX7 9 "ColdShips$Tank" "cap" "I") wa_106) (fun _ h9 => h9) rfl dX7_top_1 ?_
  refine lv_bipush (v := 98) hx hb dX7_top_4 (by decide) ?_
  refine lv_imul hx hb dX7_top_6 ?_
  refine lv_topi (fun z6 ez6 => ?_)
  refine lv_bipush (v := 100) hx hb dX7_top_7 (by decide) ?_
  refine lv_idiv hx hb dX7_top_9 (by decide) ?_
  refine lv_topi (fun z7 ez7 => ?_)
  exact W.iret (v := z7) hx hb hr (fun t ht hW => ⟨z7, rfl, ⟨trivial, trivial⟩, ht⟩) (fun _ h => by cases h) dX7_top_10
set_option maxHeartbeats 4000000 in
set_option maxRecDepth 100000 in
theorem t_X7_draft (l : Launch) (dC : Nat → ClassId) (dI : Nat → Nat → Nat) (sz : Nat) (Ω : Nat → Nat → (Nat → Nat) → va_E → Prop) (κ : Nat → ClassId) (τ ν : Nat → Nat) (ρ : Nat → Nat → Nat) (L : List Nat) (f : Nat → va_E) (hG : tp_G τ ν ρ L) (hT : tp_T Ω κ τ ν ρ f) (h0 : Nat) (ht_h0 : τ h0 = 8) : Met l yX7_draft wqX7_draft ({ frames := 2, cells := 0, slots := 0, locals := 400 }) (va_Pc [.ref h0] (pz_B dC dI (tp_K κ) (va_pl L f) sz)) (vp_Si (fun r => True ∧ True)) 0 0 (fun _ => False) := by
  refine Met.ofW (cc := cX7_draft) (maxL := 1) (ret := some .int) (by decide) rfl ?_
  intro p e s m args below meth c s₁ B hml hv
  obtain ⟨rfl, hsz, hP, hK, hD0, hN⟩ := hv
  have hx := B.exec
  have hb := B.bytes
  have hr := B.returns
  have hts := fun (w : Cond) (h : w ∈ WALL) => atoms_spec (ws := wqX7_draft) B.pre w (List.mem_cons_of_mem _ h)
  have hown : s.vm.findClass RX7 = some m.cls := findClass_of_methodNamed B.named
  have hlocks := B.notSynchronized
  subst hsz
  have hD := hD0
  have hS : va_S (fun _ => True) s.heap s.heap [] := va_S.rf
  have hl := lv_entry ([.ref h0]) (n := 1) (Nat.le_of_ble_eq_true rfl)
  rw [lg_entry_eq]
  generalize (lg_sl ([.ref h0]) ++ List.replicate (1 - (lg_sl ([.ref h0])).length) Slot.unset).toArray = ls at hl ⊢
  have hl : lv_has ls 1 [(0, .ref h0)] := hl
  refine lv_bipush (v := 8) hx hb dX7_draft_0 (by decide) ?_
  refine lv_bipush (v := 8) hx hb dX7_draft_2 (by decide) ?_
  refine lv_aload_n hx hb dX7_draft_4 rfl (lv_at hl 0 rfl) ?_
  refine tgk_8 hG ht_h0 (fun y1 y1n y2 y2n y3 y3n => ?_)
  refine tpk_8 hT ht_h0 (fun o4_x0 o4_x1 o4_x2 o4_x3 hf_o4 ro4_0 => ?_)
  refine tpk_pos (tp_in hG ht_h0 (by decide)) hf_o4 (fun q5 eq5 => ?_)
  refine va_get (D := (dC, dI)) (ci := 7) (v := .int o4_x1) (C := RX7) (T := TX7) (N := 7) hx hb hts hfX7 hown hK hP q5 eq5 rfl 1 (by decide) (hts (.fieldLink RX7 32 "ColdShips$Tank" "gas" "I") wa_254) (fun _ h9 => h9) rfl dX7_draft_5 ?_
  refine lv_imul hx hb dX7_draft_8 ?_
  refine lv_topi (fun z6 ez6 => ?_)
  refine lv_aload_n hx hb dX7_draft_9 rfl (lv_at hl 0 rfl) ?_
  have ro4_0 := tp_hu ro4_0
  refine va_get (D := (dC, dI)) (ci := 7) (v := .int o4_x0) (C := RX7) (T := TX7) (N := 7) hx hb hts hfX7 hown hK hP q5 eq5 rfl 0 (by decide) (hts (.fieldLink RX7 9 "ColdShips$Tank" "cap" "I") wa_106) (fun _ h9 => h9) rfl dX7_draft_10 ?_
  refine lv_idiv hx hb dX7_draft_13 (zi_nz (by omega) rfl) ?_
  refine lv_topi (fun z7 ez7 => ?_)
  refine lv_iadd hx hb dX7_draft_14 ?_
  refine lv_topi (fun z8 ez8 => ?_)
  exact W.iret (v := z8) hx hb hr (fun t ht hW => ⟨z8, rfl, ⟨trivial, trivial⟩, ht⟩) (fun _ h => by cases h) dX7_draft_15
set_option maxHeartbeats 4000000 in
set_option maxRecDepth 100000 in
theorem t_X7_space (l : Launch) (dC : Nat → ClassId) (dI : Nat → Nat → Nat) (sz : Nat) (Ω : Nat → Nat → (Nat → Nat) → va_E → Prop) (κ : Nat → ClassId) (τ ν : Nat → Nat) (ρ : Nat → Nat → Nat) (L : List Nat) (f : Nat → va_E) (hG : tp_G τ ν ρ L) (hT : tp_T Ω κ τ ν ρ f) (h0 : Nat) (ht_h0 : τ h0 = 8) : Met l yX7_space wqX7_space ({ frames := 2, cells := 0, slots := 0, locals := 400 }) (va_Pc [.ref h0] (pz_B dC dI (tp_K κ) (va_pl L f) sz)) (vp_Si (fun r => (1 ≤ r.toInt) ∧ True)) 0 0 (fun _ => False) := by
  refine Met.ofW (cc := cX7_space) (maxL := 1) (ret := some .int) (by decide) rfl ?_
  intro p e s m args below meth c s₁ B hml hv
  obtain ⟨rfl, hsz, hP, hK, hD0, hN⟩ := hv
  have hx := B.exec
  have hb := B.bytes
  have hr := B.returns
  have hts := fun (w : Cond) (h : w ∈ WALL) => atoms_spec (ws := wqX7_space) B.pre w (List.mem_cons_of_mem _ h)
  have hown : s.vm.findClass RX7 = some m.cls := findClass_of_methodNamed B.named
  have hlocks := B.notSynchronized
  subst hsz
  have hD := hD0
  have hS : va_S (fun _ => True) s.heap s.heap [] := va_S.rf
  have hl := lv_entry ([.ref h0]) (n := 1) (Nat.le_of_ble_eq_true rfl)
  rw [lg_entry_eq]
  generalize (lg_sl ([.ref h0]) ++ List.replicate (1 - (lg_sl ([.ref h0])).length) Slot.unset).toArray = ls at hl ⊢
  have hl : lv_has ls 1 [(0, .ref h0)] := hl
  refine lv_iconst (v := 1) hx hb dX7_space_0 (by decide) ?_
  refine lv_aload_n hx hb dX7_space_1 rfl (lv_at hl 0 rfl) ?_
  refine tgk_8 hG ht_h0 (fun y1 y1n y2 y2n y3 y3n => ?_)
  refine tpk_8 hT ht_h0 (fun o4_x0 o4_x1 o4_x2 o4_x3 hf_o4 ro4_0 => ?_)
  refine tpk_pos (tp_in hG ht_h0 (by decide)) hf_o4 (fun q5 eq5 => ?_)
  have ro4_0 := tp_hu ro4_0
  refine va_get (D := (dC, dI)) (ci := 7) (v := .int o4_x0) (C := RX7) (T := TX7) (N := 7) hx hb hts hfX7 hown hK hP q5 eq5 rfl 0 (by decide) (hts (.fieldLink RX7 9 "ColdShips$Tank" "cap" "I") wa_106) (fun _ h9 => h9) rfl dX7_space_2 ?_
  refine lv_aload_n hx hb dX7_space_5 rfl (lv_at hl 0 rfl) ?_
  refine va_get (D := (dC, dI)) (ci := 7) (v := .int o4_x1) (C := RX7) (T := TX7) (N := 7) hx hb hts hfX7 hown hK hP q5 eq5 rfl 1 (by decide) (hts (.fieldLink RX7 32 "ColdShips$Tank" "gas" "I") wa_254) (fun _ h9 => h9) rfl dX7_space_6 ?_
  refine lv_isub hx hb dX7_space_9 ?_
  refine lv_topi (fun z6 ez6 => ?_)
  refine lv_aload_n hx hb dX7_space_10 rfl (lv_at hl 0 rfl) ?_
  refine va_get (D := (dC, dI)) (ci := 7) (v := .int o4_x0) (C := RX7) (T := TX7) (N := 7) hx hb hts hfX7 hown hK hP q5 eq5 rfl 0 (by decide) (hts (.fieldLink RX7 9 "ColdShips$Tank" "cap" "I") wa_106) (fun _ h9 => h9) rfl dX7_space_11 ?_
  refine lv_bipush (v := 100) hx hb dX7_space_14 (by decide) ?_
  refine lv_idiv hx hb dX7_space_16 (by decide) ?_
  refine lv_topi (fun z7 ez7 => ?_)
  have iz7 : z7.toInt = o4_x0.toInt / 100 := zi_div ez7 rfl (show (100 : Int32).toInt = 100 from rfl) (by omega) (by omega)
  refine lv_iadd hx hb dX7_space_17 ?_
  refine lv_topi (fun z8 ez8 => ?_)
  refine va_mmax hx hb (by rw [hml]; exact hl.1.symm) hown (hts (.methodLink RX7 26 Lib.Math.max.name) wa_253) (hts (.static Lib.Math.max.name) wa_70) (hts (.initialized "java/lang/Math") wa_71) (hts (.code Lib.Math.max.name Lib.Math.max.code 2 (some .int)) wa_72) (Nat.le_of_ble_eq_true rfl) (Nat.le_of_ble_eq_true rfl) (Nat.le_of_ble_eq_true rfl) (Nat.le_of_ble_eq_true rfl) dX7_space_18 ?_
  refine lv_topi (fun z9 ez9 => ?_)
  have iz9 := zi_max ez9 (show (1 : Int32).toInt = 1 from rfl) (rfl : z8.toInt = _)
  exact W.iret (v := z9) hx hb hr (fun t ht hW => ⟨z9, rfl, ⟨(by first | decide | omega), trivial⟩, ht⟩) (fun _ h => by cases h) dX7_space_21
set_option maxHeartbeats 4000000 in
set_option maxRecDepth 100000 in
theorem t_X7_press (l : Launch) (dC : Nat → ClassId) (dI : Nat → Nat → Nat) (sz : Nat) (Ω : Nat → Nat → (Nat → Nat) → va_E → Prop) (κ : Nat → ClassId) (τ ν : Nat → Nat) (ρ : Nat → Nat → Nat) (L : List Nat) (f : Nat → va_E) (hG : tp_G τ ν ρ L) (hT : tp_T Ω κ τ ν ρ f) (h0 : Nat) (ht_h0 : τ h0 = 8) : Met l yX7_press wqX7_press ({ frames := 3, cells := 0, slots := 0, locals := 800 }) (va_Pc [.ref h0] (pz_B dC dI (tp_K κ) (va_pl L f) sz)) (vp_Si (fun r => True ∧ True)) 0 0 (fun _ => False) := by
  refine Met.ofW (cc := cX7_press) (maxL := 1) (ret := some .int) (by decide) rfl ?_
  intro p e s m args below meth c s₁ B hml hv
  obtain ⟨rfl, hsz, hP, hK, hD0, hN⟩ := hv
  have hx := B.exec
  have hb := B.bytes
  have hr := B.returns
  have hts := fun (w : Cond) (h : w ∈ WALL) => atoms_spec (ws := wqX7_press) B.pre w (List.mem_cons_of_mem _ h)
  have hown : s.vm.findClass RX7 = some m.cls := findClass_of_methodNamed B.named
  have hlocks := B.notSynchronized
  subst hsz
  have hD := hD0
  have hS : va_S (fun _ => True) s.heap s.heap [] := va_S.rf
  have hl := lv_entry ([.ref h0]) (n := 1) (Nat.le_of_ble_eq_true rfl)
  rw [lg_entry_eq]
  generalize (lg_sl ([.ref h0]) ++ List.replicate (1 - (lg_sl ([.ref h0])).length) Slot.unset).toArray = ls at hl ⊢
  have hl : lv_has ls 1 [(0, .ref h0)] := hl
  refine lv_aload_n hx hb dX7_press_0 rfl (lv_at hl 0 rfl) ?_
  refine tgk_8 hG ht_h0 (fun y1 y1n y2 y2n y3 y3n => ?_)
  refine tpk_8 hT ht_h0 (fun o4_x0 o4_x1 o4_x2 o4_x3 hf_o4 ro4_0 => ?_)
  refine tpk_pos (tp_in hG ht_h0 (by decide)) hf_o4 (fun q5 eq5 => ?_)
  refine va_get (D := (dC, dI)) (ci := 7) (v := .int o4_x2) (C := RX7) (T := TX7) (N := 7) hx hb hts hfX7 hown hK hP q5 eq5 rfl 2 (by decide) (hts (.fieldLink RX7 35 "ColdShips$Tank" "vapor" "I") wa_255) (fun _ h9 => h9) rfl dX7_press_1 ?_
  refine lv_i2l hx hb dX7_press_4 rfl ?_
  refine lv_ldc2 (own := RX7) (v := 1000) hx hb hown (hts (.constantLong RX7 47 (1000)) wa_537) dX7_press_5 ?_
  refine lv_lmul hx hb dX7_press_8 ?_
  refine lv_topl (fun z6 ez6 => ?_)
  refine lv_aload_n hx hb dX7_press_9 rfl (lv_at hl 0 rfl) ?_
  refine pz_calli (va_runV (As := []) (rest := [.long z6]) ⟨hx, hb, hml, hown, hts⟩ (t_X7_space l dC dI _ Ω κ τ ν ρ L f hG hT h0 ht_h0) (cwV 0 hts gX7_press_X7_space rfl rfl rfl ⟨rfl, pd_X7_space⟩ ⟨Nat.le_of_ble_eq_true rfl, Nat.le_of_ble_eq_true rfl⟩) ⟨pz_blind, va_recv hK hP (ci := 7) (q0 := q5) rfl eq5, pz_pre hP hK hD hN⟩ rfl rfl hl.1 rfl (lv_room (Nat.le_of_ble_eq_true rfl)) dX7_press_10 ⟨Nat.le_of_ble_eq_true rfl, Nat.le_of_ble_eq_true rfl⟩) (fun r7 hw8 => ?_)
  obtain ⟨hw8r, hw8p⟩ := hw8
  refine lv_i2l hx hb dX7_press_13 rfl ?_
  refine lv_ldiv hx hb dX7_press_14 (zl_nz (by omega) (Int32.toInt_toInt64 r7)) ?_
  refine lv_topl (fun z9 ez9 => ?_)
  refine lv_l2i hx hb dX7_press_15 rfl ?_
  refine lv_topi (fun z10 ez10 => ?_)
  exact W.iret (v := z10) hx hb hr (fun t ht hW => ⟨z10, rfl, ⟨trivial, trivial⟩, ht⟩) (fun _ h => by cases h) dX7_press_16
set_option maxHeartbeats 4000000 in
set_option maxRecDepth 100000 in
theorem t_X7_begin (l : Launch) (dC : Nat → ClassId) (dI : Nat → Nat → Nat) (sz : Nat) (Ω : Nat → Nat → (Nat → Nat) → va_E → Prop) (κ : Nat → ClassId) (τ ν : Nat → Nat) (ρ : Nat → Nat → Nat) (L : List Nat) (f : Nat → va_E) (hG : tp_G τ ν ρ L) (hT : tp_T Ω κ τ ν ρ f) (h0 : Nat) (v : Int32) (ht_h0 : τ h0 = 8) : Met l yX7_begin wqX7_begin ({ frames := 3, cells := 0, slots := 0, locals := 800 }) (va_Pc [.ref h0, .int v] (pz_B dC dI (tp_K κ) (va_pl L f) sz)) (va_Qv (fun (f1 : Nat → va_E) => tp_T Ω κ τ ν ρ f1 ∧ tp_F τ [8, 20] f f1 ∧ True) (fun (f1 : Nat → va_E) (t : State) => pz_E dC dI (tp_K κ) (va_A (va_pl L f) sz) (va_pl L f1) t) (va_A (va_pl L f) sz)) 0 0 (va_A (va_pl L f) sz) := by
  refine Met.ofW (cc := cX7_begin) (maxL := 2) (ret := none) (by decide) rfl ?_
  intro p e s m args below meth c s₁ B hml hv
  obtain ⟨rfl, hsz, hP, hK, hD0, hN⟩ := hv
  have hx := B.exec
  have hb := B.bytes
  have hr := B.returns
  have hts := fun (w : Cond) (h : w ∈ WALL) => atoms_spec (ws := wqX7_begin) B.pre w (List.mem_cons_of_mem _ h)
  have hown : s.vm.findClass RX7 = some m.cls := findClass_of_methodNamed B.named
  have hlocks := B.notSynchronized
  subst hsz
  have hD := hD0.self (sz := s.heap.size)
  generalize hAe : va_A (va_pl L f) s.heap.size = A at hD ⊢
  have hA : ∀ q : Nat, s.heap.size ≤ q → A q := fun q h => by rw [← hAe]; exact Or.inr h
  have hS : va_S A s.heap s.heap [] := va_S.rf
  have hR : tp_F τ [8, 20] f f := tp_F.rf
  have hl := lv_entry ([.ref h0, .int v]) (n := 2) (Nat.le_of_ble_eq_true rfl)
  rw [lg_entry_eq]
  generalize (lg_sl ([.ref h0, .int v]) ++ List.replicate (2 - (lg_sl ([.ref h0, .int v])).length) Slot.unset).toArray = ls at hl ⊢
  have hl : lv_has ls 2 [(0, .ref h0), (1, .int v)] := hl
  refine lv_aload_n hx hb dX7_begin_0 rfl (lv_at hl 0 rfl) ?_
  refine lv_sipush (v := 1000) hx hb dX7_begin_1 (by decide) ?_
  refine lv_iload_n hx hb dX7_begin_4 rfl (lv_at hl 1 rfl) ?_
  refine va_mmax hx hb (by rw [hml]; exact hl.1.symm) hown (hts (.methodLink RX7 26 Lib.Math.max.name) wa_253) (hts (.static Lib.Math.max.name) wa_70) (hts (.initialized "java/lang/Math") wa_71) (hts (.code Lib.Math.max.name Lib.Math.max.code 2 (some .int)) wa_72) (Nat.le_of_ble_eq_true rfl) (Nat.le_of_ble_eq_true rfl) (Nat.le_of_ble_eq_true rfl) (Nat.le_of_ble_eq_true rfl) dX7_begin_5 ?_
  refine lv_topi (fun z1 ez1 => ?_)
  have iz1 := zi_max ez1 (show (1000 : Int32).toInt = 1000 from rfl) (rfl : v.toInt = _)
  refine tgk_8 hG ht_h0 (fun y2 y2n y3 y3n y4 y4n => ?_)
  refine tpk_8 hT ht_h0 (fun o5_x0 o5_x1 o5_x2 o5_x3 hf_o5 ro5_0 => ?_)
  refine tpk_pos (tp_in hG ht_h0 (by decide)) hf_o5 (fun q6 eq6 => ?_)
  refine va_put (D := (dC, dI)) (ci := 7) (v := .int z1) (ty := .int) (C := RX7) (T := TX7) (N := 7) hx hb hts hfX7 tyX7 tyX7_ok nmX7 hown hK hP hD hS q6 eq6 rfl 0 (by decide) (hts (.fieldLink RX7 9 "ColdShips$Tank" "cap" "I") wa_106) (fun _ h9 => h9) rfl (tyX7_ok 0 (by decide)) rfl rfl (Nat.le_of_ble_eq_true rfl) dX7_begin_8 (tp_k (.inr (7, [.int z1, .int o5_x1, .int o5_x2, .int o5_x3, .ref (ρ h0 4), .ref (ρ h0 5), .ref (ρ h0 6)])) hD (tp_in hG ht_h0 (by decide)) eq6 (fun f7 H locs hP hD hS g9 k8 => ?_))
  have hT := hT.up ht_h0 g9 k8 ⟨_, _, _, _, rfl, (by first | decide | omega | (omega))⟩
  have hR := hR.up ht_h0 (by decide) k8
  refine lv_aload_n hx hb dX7_begin_11 rfl (lv_at hl 0 rfl) ?_
  refine lv_iconst (v := 0) hx hb dX7_begin_12 (by decide) ?_
  refine tpk_pos (tp_in hG ht_h0 (by decide)) g9 (fun q10 eq10 => ?_)
  refine va_put (D := (dC, dI)) (ci := 7) (v := .int 0) (ty := .int) (C := RX7) (T := TX7) (N := 7) hx hb hts hfX7 tyX7 tyX7_ok nmX7 hown hK hP hD hS q10 eq10 rfl 1 (by decide) (hts (.fieldLink RX7 32 "ColdShips$Tank" "gas" "I") wa_254) (fun _ h9 => h9) rfl (tyX7_ok 1 (by decide)) rfl rfl (Nat.le_of_ble_eq_true rfl) dX7_begin_13 (tp_k (.inr (7, [.int z1, .int 0, .int o5_x2, .int o5_x3, .ref (ρ h0 4), .ref (ρ h0 5), .ref (ρ h0 6)])) hD (tp_in hG ht_h0 (by decide)) eq10 (fun f11 H locs hP hD hS g13 k12 => ?_))
  have hT := hT.up ht_h0 g13 k12 ⟨_, _, _, _, rfl, (by first | decide | omega | (have : (0 : Int32).toInt = 0 := rfl; omega))⟩
  have hR := hR.up ht_h0 (by decide) k12
  refine lv_aload_n hx hb dX7_begin_16 rfl (lv_at hl 0 rfl) ?_
  refine lv_iconst (v := 0) hx hb dX7_begin_17 (by decide) ?_
  refine tpk_pos (tp_in hG ht_h0 (by decide)) g13 (fun q14 eq14 => ?_)
  refine va_put (D := (dC, dI)) (ci := 7) (v := .int 0) (ty := .int) (C := RX7) (T := TX7) (N := 7) hx hb hts hfX7 tyX7 tyX7_ok nmX7 hown hK hP hD hS q14 eq14 rfl 2 (by decide) (hts (.fieldLink RX7 35 "ColdShips$Tank" "vapor" "I") wa_255) (fun _ h9 => h9) rfl (tyX7_ok 2 (by decide)) rfl rfl (Nat.le_of_ble_eq_true rfl) dX7_begin_18 (tp_k (.inr (7, [.int z1, .int 0, .int 0, .int o5_x3, .ref (ρ h0 4), .ref (ρ h0 5), .ref (ρ h0 6)])) hD (tp_in hG ht_h0 (by decide)) eq14 (fun f15 H locs hP hD hS g17 k16 => ?_))
  have hT := hT.up ht_h0 g17 k16 ⟨_, _, _, _, rfl, (by first | decide | omega | (have : (0 : Int32).toInt = 0 := rfl; have : (0 : Int32).toInt = 0 := rfl; omega))⟩
  have hR := hR.up ht_h0 (by decide) k16
  refine lv_aload_n hx hb dX7_begin_21 rfl (lv_at hl 0 rfl) ?_
  refine lv_sipush (v := 1800) hx hb dX7_begin_22 (by decide) ?_
  refine tpk_pos (tp_in hG ht_h0 (by decide)) g17 (fun q18 eq18 => ?_)
  refine va_put (D := (dC, dI)) (ci := 7) (v := .int 1800) (ty := .int) (C := RX7) (T := TX7) (N := 7) hx hb hts hfX7 tyX7 tyX7_ok nmX7 hown hK hP hD hS q18 eq18 rfl 3 (by decide) (hts (.fieldLink RX7 38 "ColdShips$Tank" "warm" "I") wa_256) (fun _ h9 => h9) rfl (tyX7_ok 3 (by decide)) rfl rfl (Nat.le_of_ble_eq_true rfl) dX7_begin_25 (tp_k (.inr (7, [.int z1, .int 0, .int 0, .int 1800, .ref (ρ h0 4), .ref (ρ h0 5), .ref (ρ h0 6)])) hD (tp_in hG ht_h0 (by decide)) eq18 (fun f19 H locs hP hD hS g21 k20 => ?_))
  have hT := hT.up ht_h0 g21 k20 ⟨_, _, _, _, rfl, (by first | decide | omega | (have : (0 : Int32).toInt = 0 := rfl; have : (0 : Int32).toInt = 0 := rfl; have : (1800 : Int32).toInt = 1800 := rfl; omega))⟩
  have hR := hR.up ht_h0 (by decide) k20
  refine lv_aload_n hx hb dX7_begin_28 rfl (lv_at hl 0 rfl) ?_
  refine tpk_pos (tp_in hG ht_h0 (by decide)) g21 (fun q22 eq22 => ?_)
  refine va_get (D := (dC, dI)) (ci := 7) (v := .ref (ρ h0 4)) (C := RX7) (T := TX7) (N := 7) hx hb hts hfX7 hown hK hP q22 eq22 rfl 4 (by decide) (hts (.fieldLink RX7 15 "ColdShips$Tank" "parts" "[I") wa_107) (fun _ h9 => h9) rfl dX7_begin_29 ?_
  refine lv_iconst (v := 0) hx hb dX7_begin_32 (by decide) ?_
  have hFc := tp_fr hD hS hA
  refine va_callv (va_runS (As := [.ref (ρ h0 4), .int 0]) (rest := []) ⟨hx, hb, hml, hown, hts⟩ (t_J7_fill_53178 l dC dI _ Ω κ τ ν ρ L f19 hG hT (ρ h0 4) (0) y2 (by first | omega | (have : (0 : Int32).toInt = 0 := rfl; omega))) (va_cwS 2 hts gX7_begin_J7_fill_53178 rfl rfl rfl pd_J7_fill_53178 ⟨Nat.le_of_ble_eq_true rfl, Nat.le_of_ble_eq_true rfl⟩) ⟨pz_blind, pz_pre hP hK hD hN⟩ rfl rfl hl.1 rfl (lv_room (Nat.le_of_ble_eq_true rfl)) dX7_begin_33 ⟨Nat.le_of_ble_eq_true rfl, Nat.le_of_ble_eq_true rfl⟩) hS (fun q _ h => hFc q h) hFc (fun f25 t H1 locs ht hvm hw24 hB hz1 hk1 hS => ?_)
  refine tn_3 hw24 (fun hT hF26 hw24p => ?_); clear hw24
  have hR := hR.then hF26 (by decide)
  have hP := hB.1; rw [ht] at hP; have hD := tp_ad f25 hD; clear hB hFc hz1 hk1; subst ht; generalize t.heap = H at hP hS ⊢
  exact W.vret hx hb hr (fun t ht hW => ⟨⟨f25, rfl, ⟨hT, hR, trivial⟩, by rw [ht]; exact hP, va_K.moved hW.alike hK, hD⟩, hS.F ht⟩) hS.2.2 dX7_begin_36
set_option maxHeartbeats 4000000 in
set_option maxRecDepth 100000 in
theorem t_X7_giveByRests (l : Launch) (dC : Nat → ClassId) (dI : Nat → Nat → Nat) (sz : Nat) (Ω : Nat → Nat → (Nat → Nat) → va_E → Prop) (κ : Nat → ClassId) (τ ν : Nat → Nat) (ρ : Nat → Nat → Nat) (L : List Nat) (f : Nat → va_E) (hG : tp_G τ ν ρ L) (hT : tp_T Ω κ τ ν ρ f) (h0 : Nat) (v : Int32) (ht_h0 : τ h0 = 8) : Met l yX7_giveByRests wqX7_giveByRests ({ frames := 2, cells := 0, slots := 0, locals := 400 }) (va_Pc [.ref h0, .int v] (pz_B dC dI (tp_K κ) (va_pl L f) sz)) (va_Qv (fun (f1 : Nat → va_E) => tp_T Ω κ τ ν ρ f1 ∧ tp_F τ [20, 21] f f1 ∧ True) (fun (f1 : Nat → va_E) (t : State) => pz_E dC dI (tp_K κ) (va_A (va_pl L f) sz) (va_pl L f1) t) (va_A (va_pl L f) sz)) 0 0 (va_A (va_pl L f) sz) := by
  refine Met.ofW (cc := cX7_giveByRests) (maxL := 5) (ret := none) (by decide) rfl ?_
  intro p e s m args below meth c s₁ B hml hv
  obtain ⟨rfl, hsz, hP, hK, hD0, hN⟩ := hv
  have hx := B.exec
  have hb := B.bytes
  have hr := B.returns
  have hts := fun (w : Cond) (h : w ∈ WALL) => atoms_spec (ws := wqX7_giveByRests) B.pre w (List.mem_cons_of_mem _ h)
  have hown : s.vm.findClass RX7 = some m.cls := findClass_of_methodNamed B.named
  have hlocks := B.notSynchronized
  subst hsz
  have hD := hD0.self (sz := s.heap.size)
  generalize hAe : va_A (va_pl L f) s.heap.size = A at hD ⊢
  have hA : ∀ q : Nat, s.heap.size ≤ q → A q := fun q h => by rw [← hAe]; exact Or.inr h
  have hS : va_S A s.heap s.heap [] := va_S.rf
  have hR : tp_F τ [20, 21] f f := tp_F.rf
  have hl := lv_entry ([.ref h0, .int v]) (n := 5) (Nat.le_of_ble_eq_true rfl)
  rw [lg_entry_eq]
  generalize (lg_sl ([.ref h0, .int v]) ++ List.replicate (5 - (lg_sl ([.ref h0, .int v])).length) Slot.unset).toArray = ls at hl ⊢
  have hl : lv_has ls 5 [(0, .ref h0), (1, .int v)] := hl
  refine lv_iconst (v := 0) hx hb dX7_giveByRests_0 (by decide) ?_
  refine lv_istore_n (lv' := [(2, .int 0), (0, .ref h0), (1, .int v)]) hx hb dX7_giveByRests_1 rfl hl (by decide) rfl (fun ls hl => ?_)
  refine pz_loop (fun n0 H locs ls => ∃ f2 : Nat → va_E, ∃ w1 : Int32, n0 = (6 - (w1.toInt)).toNat ∧ tp_T Ω κ τ ν ρ f2 ∧ tp_F τ [20, 21] f f2 ∧ (0 ≤ w1.toInt ∧ w1.toInt ≤ 6) ∧ va_P (dC, dI) vwCl (va_pl L f2) H ∧ va_D A (va_pl L f2) ∧ va_S A s.heap H locs ∧ lv_has ls 5 [(2, .int w1), (0, .ref h0), (1, .int v)]) ?_ _ _ _ _ ⟨f, 0, rfl, hT, hR, (by have : (0 : Int32).toInt = 0 := rfl; omega), hP, hD, hS, lv_sub hl [0, 1, 2] rfl⟩
  intro n0 H locs ls hI ih3
  refine Exists.elim hI (fun f2 hE90 => Exists.elim hE90 (fun w1 hE91 => tn_8 hE91 (fun hn4 hT hR rw1 hP hD hS hl => ?_)))
  clear hE91 hE90 hI
  refine lv_iload_n hx hb dX7_giveByRests_2 rfl (lv_at hl 0 rfl) ?_
  refine lv_iload_n hx hb dX7_giveByRests_3 rfl (lv_at hl 2 rfl) ?_
  refine lv_icmp_ge (tgt := 76) hx hb dX7_giveByRests_4 (by decide) (fun c5 => ?_) (fun c5 => ?_)
  · have ic5 : w1.toInt ≥ v.toInt := zi_ge rfl rfl c5
    exact W.vret hx hb hr (fun t ht hW => ⟨⟨f2, rfl, ⟨hT, hR, trivial⟩, by rw [ht]; exact hP, va_K.moved hW.alike hK, hD⟩, hS.F ht⟩) hS.2.2 dX7_giveByRests_76
  · have ic5 : w1.toInt < v.toInt := zi_gef rfl rfl c5
    refine lv_iload_n hx hb dX7_giveByRests_7 rfl (lv_at hl 0 rfl) ?_
    refine lv_bipush (v := 6) hx hb dX7_giveByRests_8 (by decide) ?_
    refine lv_icmp_ge (tgt := 76) hx hb dX7_giveByRests_10 (by decide) (fun c6 => ?_) (fun c6 => ?_)
    · have ic6 : w1.toInt ≥ 6 := zi_ge rfl rfl c6
      exact W.vret hx hb hr (fun t ht hW => ⟨⟨f2, rfl, ⟨hT, hR, trivial⟩, by rw [ht]; exact hP, va_K.moved hW.alike hK, hD⟩, hS.F ht⟩) hS.2.2 dX7_giveByRests_76
    · have ic6 : w1.toInt < 6 := zi_gef rfl rfl c6
      refine lv_iconst (v := 0) hx hb dX7_giveByRests_13 (by decide) ?_
      refine lv_istore_n (lv' := [(3, .int 0), (2, .int w1), (0, .ref h0), (1, .int v)]) hx hb dX7_giveByRests_14 rfl hl (by decide) rfl (fun ls hl => ?_)
      refine lv_iconst (v := 1) hx hb dX7_giveByRests_15 (by decide) ?_
      refine lv_istore (lv' := [(4, .int 1), (3, .int 0), (2, .int w1), (0, .ref h0), (1, .int v)]) hx hb dX7_giveByRests_16 hl (by decide) rfl (fun ls hl => ?_)
      refine pz_loop (fun n0 H locs ls => ∃ w7 : Int32, ∃ w8 : Int32, n0 = (6 - (w7.toInt)).toNat ∧ (1 ≤ w7.toInt ∧ w7.toInt ≤ 6) ∧ (0 ≤ w8.toInt ∧ w8.toInt ≤ 5) ∧ va_P (dC, dI) vwCl (va_pl L f2) H ∧ va_D A (va_pl L f2) ∧ va_S A s.heap H locs ∧ lv_has ls 5 [(4, .int w7), (3, .int w8), (2, .int w1), (0, .ref h0), (1, .int v)]) ?_ _ _ _ _ ⟨1, 0, rfl, (by have : (1 : Int32).toInt = 1 := rfl; have : (0 : Int32).toInt = 0 := rfl; omega), (by have : (1 : Int32).toInt = 1 := rfl; have : (0 : Int32).toInt = 0 := rfl; omega), hP, hD, hS, lv_sub hl [0, 1, 2, 3, 4] rfl⟩
      intro n0 H locs ls hI ih9
      refine Exists.elim hI (fun w7 hE90 => Exists.elim hE90 (fun w8 hE91 => tn_7 hE91 (fun hn10 rw7 rw8 hP hD hS hl => ?_)))
      clear hE91 hE90 hI
      refine lv_iload hx hb dX7_giveByRests_18 (lv_at hl 0 rfl) ?_
      refine lv_bipush (v := 6) hx hb dX7_giveByRests_20 (by decide) ?_
      refine lv_icmp_ge (tgt := 51) hx hb dX7_giveByRests_22 (by decide) (fun c11 => ?_) (fun c11 => ?_)
      · have ic11 : w7.toInt ≥ 6 := zi_ge rfl rfl c11
        refine lv_aload_n hx hb dX7_giveByRests_51 rfl (lv_at hl 3 rfl) ?_
        refine tgk_8 hG ht_h0 (fun y12 y12n y13 y13n y14 y14n => ?_)
        refine tpk_8 hT ht_h0 (fun o15_x0 o15_x1 o15_x2 o15_x3 hf_o15 ro15_0 => ?_)
        refine tpk_pos (tp_in hG ht_h0 (by decide)) hf_o15 (fun q16 eq16 => ?_)
        refine va_get (D := (dC, dI)) (ci := 7) (v := .ref (ρ h0 5)) (C := RX7) (T := TX7) (N := 7) hx hb hts hfX7 hown hK hP q16 eq16 rfl 5 (by decide) (hts (.fieldLink RX7 19 "ColdShips$Tank" "given" "[I") wa_108) (fun _ h9 => h9) rfl dX7_giveByRests_52 ?_
        refine lv_iload_n hx hb dX7_giveByRests_55 rfl (lv_at hl 1 rfl) ?_
        refine lv_dup2_11 hx hb dX7_giveByRests_56 rfl rfl ?_
        refine tpk_20 hT y13 y13n (fun g18 hf_o17 => ?_)
        refine tpk_pos (tp_in hG y13 (by decide)) hf_o17 (fun q19 eq19 => ?_)
        refine va_iald hx hb hK hP q19 0 eq19 rfl (vp_in_iff.mpr ⟨by omega, by omega⟩) dX7_giveByRests_57 ?_
        refine lv_topi (fun z20 ez20 => ?_)
        refine lv_iconst (v := 1) hx hb dX7_giveByRests_58 (by decide) ?_
        refine lv_iadd hx hb dX7_giveByRests_59 ?_
        refine lv_topi (fun z21 ez21 => ?_)
        refine va_iast hx hb hK hP hD hS q19 0 eq19 rfl (vp_in_iff.mpr ⟨by omega, by omega⟩) dX7_giveByRests_60 (tp_k (.inl (κ 0, 6, .inl (upd g18 w8.toNatClampNeg z21))) hD (tp_in hG y13 (by decide)) eq19 (fun f22 H locs hP hD hS g24 k23 => ?_))
        have hT := hT.up y13 g24 k23 (tp_o20 y13n)
        have hR := hR.up y13 (by decide) k23
        generalize (upd g18 w8.toNatClampNeg z21) = g25 at g24
        refine lv_aload_n hx hb dX7_giveByRests_61 rfl (lv_at hl 3 rfl) ?_
        have hf_26 : f22 h0 = .inr (7, [.int o15_x0, .int o15_x1, .int o15_x2, .int o15_x3, .ref (ρ h0 4), .ref (ρ h0 5), .ref (ρ h0 6)]) := (k23 _ (tp_ne ht_h0 y13 (by decide))).trans hf_o15
        refine tpk_pos (tp_in hG ht_h0 (by decide)) hf_26 (fun q27 eq27 => ?_)
        refine va_get (D := (dC, dI)) (ci := 7) (v := .ref (ρ h0 6)) (C := RX7) (T := TX7) (N := 7) hx hb hts hfX7 hown hK hP q27 eq27 rfl 6 (by decide) (hts (.fieldLink RX7 22 "ColdShips$Tank" "rests" "[J") wa_109) (fun _ h9 => h9) rfl dX7_giveByRests_62 ?_
        refine lv_iload_n hx hb dX7_giveByRests_65 rfl (lv_at hl 1 rfl) ?_
        refine lv_ldc2 (own := RX7) (v := (-1)) hx hb hown (hts (.constantLong RX7 80 (-1)) wa_428) dX7_giveByRests_66 ?_
        refine tpk_21 hT y14 y14n (fun g29 hf_o28 => ?_)
        refine tpk_pos (tp_in hG y14 (by decide)) hf_o28 (fun q30 eq30 => ?_)
        refine va_last hx hb hK hP hD hS q30 1 eq30 rfl (vp_in_iff.mpr ⟨by omega, by omega⟩) dX7_giveByRests_69 (tp_k (.inl (κ 1, 6, .inr (.inl (vp_updL g29 w8.toNatClampNeg ((-1) : Int64))))) hD (tp_in hG y14 (by decide)) eq30 (fun f31 H locs hP hD hS g33 k32 => ?_))
        have hT := hT.up y14 g33 k32 (tp_o21 y14n)
        have hR := hR.up y14 (by decide) k32
        generalize (vp_updL g29 w8.toNatClampNeg ((-1) : Int64)) = g34 at g33
        obtain ⟨z35, ez35⟩ : ∃ y : Int32, y = w1 + 1 := ⟨_, rfl⟩
        refine lv_iinc (v := z35) (lv' := [(2, .int z35), (4, .int w7), (3, .int w8), (0, .ref h0), (1, .int v)]) hx hb dX7_giveByRests_70 hl (k := 2) rfl (by rw [ez35]; rfl) (by decide) rfl (fun ls hl => ?_)
        have iz35 : z35.toInt = w1.toInt + 1 := zi_add ez35 rfl rfl (by omega) (by omega)
        refine lv_goto (tgt := 2) hx hb dX7_giveByRests_73 (by decide) ?_
        exact ih3 _ _ _ _ (by rw [hn4]; omega) ⟨f31, z35, rfl, hT, hR, (by omega), hP, hD, hS, lv_sub hl [0, 3, 4] rfl⟩
      · have ic11 : w7.toInt < 6 := zi_gef rfl rfl c11
        refine lv_aload_n hx hb dX7_giveByRests_25 rfl (lv_at hl 3 rfl) ?_
        refine tgk_8 hG ht_h0 (fun y36 y36n y37 y37n y38 y38n => ?_)
        refine tpk_8 hT ht_h0 (fun o39_x0 o39_x1 o39_x2 o39_x3 hf_o39 ro39_0 => ?_)
        refine tpk_pos (tp_in hG ht_h0 (by decide)) hf_o39 (fun q40 eq40 => ?_)
        refine va_get (D := (dC, dI)) (ci := 7) (v := .ref (ρ h0 6)) (C := RX7) (T := TX7) (N := 7) hx hb hts hfX7 hown hK hP q40 eq40 rfl 6 (by decide) (hts (.fieldLink RX7 22 "ColdShips$Tank" "rests" "[J") wa_109) (fun _ h9 => h9) rfl dX7_giveByRests_26 ?_
        refine lv_iload hx hb dX7_giveByRests_29 (lv_at hl 0 rfl) ?_
        refine tpk_21 hT y38 y38n (fun g42 hf_o41 => ?_)
        refine tpk_pos (tp_in hG y38 (by decide)) hf_o41 (fun q43 eq43 => ?_)
        refine va_lald hx hb hK hP q43 1 eq43 rfl (vp_in_iff.mpr ⟨by omega, by omega⟩) dX7_giveByRests_31 ?_
        refine lv_topl (fun z44 ez44 => ?_)
        refine lv_aload_n hx hb dX7_giveByRests_32 rfl (lv_at hl 3 rfl) ?_
        refine va_get (D := (dC, dI)) (ci := 7) (v := .ref (ρ h0 6)) (C := RX7) (T := TX7) (N := 7) hx hb hts hfX7 hown hK hP q40 eq40 rfl 6 (by decide) (hts (.fieldLink RX7 22 "ColdShips$Tank" "rests" "[J") wa_109) (fun _ h9 => h9) rfl dX7_giveByRests_33 ?_
        refine lv_iload_n hx hb dX7_giveByRests_36 rfl (lv_at hl 1 rfl) ?_
        refine va_lald hx hb hK hP q43 1 eq43 rfl (vp_in_iff.mpr ⟨by omega, by omega⟩) dX7_giveByRests_37 ?_
        refine lv_topl (fun z45 ez45 => ?_)
        refine W.lcmp hx hb dX7_giveByRests_38 ?_
        refine lv_if_le (tgt := 45) hx hb dX7_giveByRests_39 (by decide) (fun c46 => ?_) (fun c46 => ?_)
        · have ic46 : z44.toInt ≤ z45.toInt := zl_le rfl rfl c46
          obtain ⟨z47, ez47⟩ : ∃ y : Int32, y = w7 + 1 := ⟨_, rfl⟩
          refine lv_iinc (v := z47) (lv' := [(4, .int z47), (3, .int w8), (2, .int w1), (0, .ref h0), (1, .int v)]) hx hb dX7_giveByRests_45 hl (k := 0) rfl (by rw [ez47]; rfl) (by decide) rfl (fun ls hl => ?_)
          have iz47 : z47.toInt = w7.toInt + 1 := zi_add ez47 rfl rfl (by omega) (by omega)
          refine lv_goto (tgt := 18) hx hb dX7_giveByRests_48 (by decide) ?_
          exact ih9 _ _ _ _ (by rw [hn10]; omega) ⟨z47, w8, rfl, (by omega), (by omega), hP, hD, hS, lv_sub hl [0, 1, 2, 3, 4] rfl⟩
        · have ic46 : z44.toInt > z45.toInt := zl_lef rfl rfl c46
          refine lv_iload hx hb dX7_giveByRests_42 (lv_at hl 0 rfl) ?_
          refine lv_istore_n (lv' := [(3, .int w7), (4, .int w7), (2, .int w1), (0, .ref h0), (1, .int v)]) hx hb dX7_giveByRests_44 rfl hl (by decide) rfl (fun ls hl => ?_)
          obtain ⟨z48, ez48⟩ : ∃ y : Int32, y = w7 + 1 := ⟨_, rfl⟩
          refine lv_iinc (v := z48) (lv' := [(4, .int z48), (3, .int w7), (2, .int w1), (0, .ref h0), (1, .int v)]) hx hb dX7_giveByRests_45 hl (k := 1) rfl (by rw [ez48]; rfl) (by decide) rfl (fun ls hl => ?_)
          have iz48 : z48.toInt = w7.toInt + 1 := zi_add ez48 rfl rfl (by omega) (by omega)
          refine lv_goto (tgt := 18) hx hb dX7_giveByRests_48 (by decide) ?_
          exact ih9 _ _ _ _ (by rw [hn10]; omega) ⟨z48, w7, rfl, (by omega), (by omega), hP, hD, hS, lv_sub hl [0, 1, 2, 3, 4] rfl⟩
set_option maxHeartbeats 4000000 in
set_option maxRecDepth 100000 in
theorem t_X7_takeGas (l : Launch) (dC : Nat → ClassId) (dI : Nat → Nat → Nat) (sz : Nat) (Ω : Nat → Nat → (Nat → Nat) → va_E → Prop) (κ : Nat → ClassId) (τ ν : Nat → Nat) (ρ : Nat → Nat → Nat) (L : List Nat) (f : Nat → va_E) (hG : tp_G τ ν ρ L) (hT : tp_T Ω κ τ ν ρ f) (h0 : Nat) (v : Int32) (ht_h0 : τ h0 = 8) : Met l yX7_takeGas wqX7_takeGas ({ frames := 3, cells := 0, slots := 0, locals := 800 }) (va_Pc [.ref h0, .int v] (pz_B dC dI (tp_K κ) (va_pl L f) sz)) (va_Qv (fun (f1 : Nat → va_E) => tp_T Ω κ τ ν ρ f1 ∧ tp_F τ [8, 20, 21] f f1 ∧ True) (fun (f1 : Nat → va_E) (t : State) => pz_E dC dI (tp_K κ) (va_A (va_pl L f) sz) (va_pl L f1) t) (va_A (va_pl L f) sz)) 0 0 (va_A (va_pl L f) sz) := by
  refine Met.ofW (cc := cX7_takeGas) (maxL := 6) (ret := none) (by decide) rfl ?_
  intro p e s m args below meth c s₁ B hml hv
  obtain ⟨rfl, hsz, hP, hK, hD0, hN⟩ := hv
  have hx := B.exec
  have hb := B.bytes
  have hr := B.returns
  have hts := fun (w : Cond) (h : w ∈ WALL) => atoms_spec (ws := wqX7_takeGas) B.pre w (List.mem_cons_of_mem _ h)
  have hown : s.vm.findClass RX7 = some m.cls := findClass_of_methodNamed B.named
  have hlocks := B.notSynchronized
  subst hsz
  have hD := hD0.self (sz := s.heap.size)
  generalize hAe : va_A (va_pl L f) s.heap.size = A at hD ⊢
  have hA : ∀ q : Nat, s.heap.size ≤ q → A q := fun q h => by rw [← hAe]; exact Or.inr h
  have hS : va_S A s.heap s.heap [] := va_S.rf
  have hR : tp_F τ [8, 20, 21] f f := tp_F.rf
  have hl := lv_entry ([.ref h0, .int v]) (n := 6) (Nat.le_of_ble_eq_true rfl)
  rw [lg_entry_eq]
  generalize (lg_sl ([.ref h0, .int v]) ++ List.replicate (6 - (lg_sl ([.ref h0, .int v])).length) Slot.unset).toArray = ls at hl ⊢
  have hl : lv_has ls 6 [(0, .ref h0), (1, .int v)] := hl
  refine lv_iload_n hx hb dX7_takeGas_0 rfl (lv_at hl 1 rfl) ?_
  refine lv_if_le (tgt := 12) hx hb dX7_takeGas_1 (by decide) (fun c1 => ?_) (fun c1 => ?_)
  · have ic1 : v.toInt ≤ 0 := zi_le rfl rfl c1
    exact W.vret hx hb hr (fun t ht hW => ⟨⟨f, rfl, ⟨hT, hR, trivial⟩, by rw [ht]; exact hP, va_K.moved hW.alike hK, hD⟩, hS.F ht⟩) hS.2.2 dX7_takeGas_12
  · have ic1 : v.toInt > 0 := zi_lef rfl rfl c1
    refine lv_iload_n hx hb dX7_takeGas_4 rfl (lv_at hl 1 rfl) ?_
    refine lv_aload_n hx hb dX7_takeGas_5 rfl (lv_at hl 0 rfl) ?_
    refine tgk_8 hG ht_h0 (fun y2 y2n y3 y3n y4 y4n => ?_)
    refine tpk_8 hT ht_h0 (fun o5_x0 o5_x1 o5_x2 o5_x3 hf_o5 ro5_0 => ?_)
    refine tpk_pos (tp_in hG ht_h0 (by decide)) hf_o5 (fun q6 eq6 => ?_)
    refine va_get (D := (dC, dI)) (ci := 7) (v := .int o5_x1) (C := RX7) (T := TX7) (N := 7) hx hb hts hfX7 hown hK hP q6 eq6 rfl 1 (by decide) (hts (.fieldLink RX7 32 "ColdShips$Tank" "gas" "I") wa_254) (fun _ h9 => h9) rfl dX7_takeGas_6 ?_
    refine lv_icmp_le (tgt := 13) hx hb dX7_takeGas_9 (by decide) (fun c7 => ?_) (fun c7 => ?_)
    · have ic7 : v.toInt ≤ o5_x1.toInt := zi_le rfl rfl c7
      refine lv_iload_n hx hb dX7_takeGas_13 rfl (lv_at hl 1 rfl) ?_
      refine lv_istore_n (lv' := [(2, .int v), (0, .ref h0), (1, .int v)]) hx hb dX7_takeGas_14 rfl hl (by decide) rfl (fun ls hl => ?_)
      refine lv_iconst (v := 0) hx hb dX7_takeGas_15 (by decide) ?_
      refine lv_istore_n (lv' := [(3, .int 0), (2, .int v), (0, .ref h0), (1, .int v)]) hx hb dX7_takeGas_16 rfl hl (by decide) rfl (fun ls hl => ?_)
      refine pz_loop (fun n0 H locs ls => ∃ f11 : Nat → va_E, ∃ w8 : Int32, ∃ w9 : Int32, n0 = (6 - (w8.toInt)).toNat ∧ tp_T Ω κ τ ν ρ f11 ∧ tp_F τ [8, 20, 21] f f11 ∧ f11 h0 = .inr (7, [.int o5_x0, .int o5_x1, .int o5_x2, .int o5_x3, .ref (ρ h0 4), .ref (ρ h0 5), .ref (ρ h0 6)]) ∧ (0 ≤ w8.toInt ∧ w8.toInt ≤ 6) ∧ va_P (dC, dI) vwCl (va_pl L f11) H ∧ va_D A (va_pl L f11) ∧ va_S A s.heap H locs ∧ lv_has ls 6 [(3, .int w8), (2, .int w9), (0, .ref h0), (1, .int v)]) ?_ _ _ _ _ ⟨f, 0, v, rfl, hT, hR, hf_o5, (by have : (0 : Int32).toInt = 0 := rfl; omega), hP, hD, hS, lv_sub hl [0, 1, 2, 3] rfl⟩
      intro n0 H locs ls hI ih12
      refine Exists.elim hI (fun f11 hE90 => Exists.elim hE90 (fun w8 hE91 => Exists.elim hE91 (fun w9 hE92 => tn_9 hE92 (fun hn13 hT hR hk10k rw8 hP hD hS hl => ?_))))
      clear hE92 hE91 hE90 hI
      refine lv_iload_n hx hb dX7_takeGas_17 rfl (lv_at hl 0 rfl) ?_
      refine lv_bipush (v := 6) hx hb dX7_takeGas_18 (by decide) ?_
      refine lv_icmp_ge (tgt := 79) hx hb dX7_takeGas_20 (by decide) (fun c14 => ?_) (fun c14 => ?_)
      · have ic14 : w8.toInt ≥ 6 := zi_ge rfl rfl c14
        refine lv_aload_n hx hb dX7_takeGas_79 rfl (lv_at hl 2 rfl) ?_
        refine lv_iload_n hx hb dX7_takeGas_80 rfl (lv_at hl 1 rfl) ?_
        refine tpk_pos (tp_in hG ht_h0 (by decide)) hk10k (fun q15 eq15 => ?_)
        have hFc := tp_fr hD hS hA
        refine va_callv (va_runV (As := [.int w9]) (rest := []) ⟨hx, hb, hml, hown, hts⟩ (t_X7_giveByRests l dC dI _ Ω κ τ ν ρ L f11 hG hT h0 w9 ht_h0) (cwV 1 hts gX7_takeGas_X7_giveByRests rfl rfl rfl ⟨rfl, pd_X7_giveByRests⟩ ⟨Nat.le_of_ble_eq_true rfl, Nat.le_of_ble_eq_true rfl⟩) ⟨pz_blind, va_recv hK hP (ci := 7) (q0 := q15) rfl eq15, pz_pre hP hK hD hN⟩ rfl rfl hl.1 rfl (lv_room (Nat.le_of_ble_eq_true rfl)) dX7_takeGas_81 ⟨Nat.le_of_ble_eq_true rfl, Nat.le_of_ble_eq_true rfl⟩) hS (fun q _ h => hFc q h) hFc (fun f18 t H1 locs ht hvm hw17 hB hz1 hk1 hS => ?_)
        refine tn_3 hw17 (fun hT hF19 hw17p => ?_); clear hw17
        have hR := hR.then hF19 (by decide)
        have hP := hB.1; rw [ht] at hP; have hD := tp_ad f18 hD; clear hB hFc hz1 hk1; subst ht; generalize t.heap = H at hP hS ⊢
        refine lv_iconst (v := 0) hx hb dX7_takeGas_84 (by decide) ?_
        refine lv_istore_n (lv' := [(3, .int 0), (2, .int w9), (0, .ref h0), (1, .int v)]) hx hb dX7_takeGas_85 rfl hl (by decide) rfl (fun ls hl => ?_)
        refine pz_loop (fun n0 H locs ls => ∃ f21 : Nat → va_E, ∃ w20 : Int32, n0 = (6 - (w20.toInt)).toNat ∧ tp_T Ω κ τ ν ρ f21 ∧ tp_F τ [8, 20, 21] f f21 ∧ (0 ≤ w20.toInt ∧ w20.toInt ≤ 6) ∧ va_P (dC, dI) vwCl (va_pl L f21) H ∧ va_D A (va_pl L f21) ∧ va_S A s.heap H locs ∧ lv_has ls 6 [(3, .int w20), (2, .int w9), (0, .ref h0), (1, .int v)]) ?_ _ _ _ _ ⟨f18, 0, rfl, hT, hR, (by have : (0 : Int32).toInt = 0 := rfl; omega), hP, hD, hS, lv_sub hl [0, 1, 2, 3] rfl⟩
        intro n0 H locs ls hI ih22
        refine Exists.elim hI (fun f21 hE90 => Exists.elim hE90 (fun w20 hE91 => tn_8 hE91 (fun hn23 hT hR rw20 hP hD hS hl => ?_)))
        clear hE91 hE90 hI
        refine lv_iload_n hx hb dX7_takeGas_86 rfl (lv_at hl 0 rfl) ?_
        refine lv_bipush (v := 6) hx hb dX7_takeGas_87 (by decide) ?_
        refine lv_icmp_ge (tgt := 113) hx hb dX7_takeGas_89 (by decide) (fun c24 => ?_) (fun c24 => ?_)
        · have ic24 : w20.toInt ≥ 6 := zi_ge rfl rfl c24
          refine lv_aload_n hx hb dX7_takeGas_113 rfl (lv_at hl 2 rfl) ?_
          refine lv_dup hx hb dX7_takeGas_114 rfl ?_
          refine tpk_8 hT ht_h0 (fun o25_x0 o25_x1 o25_x2 o25_x3 hf_o25 ro25_0 => ?_)
          refine tpk_pos (tp_in hG ht_h0 (by decide)) hf_o25 (fun q26 eq26 => ?_)
          refine va_get (D := (dC, dI)) (ci := 7) (v := .int o25_x1) (C := RX7) (T := TX7) (N := 7) hx hb hts hfX7 hown hK hP q26 eq26 rfl 1 (by decide) (hts (.fieldLink RX7 32 "ColdShips$Tank" "gas" "I") wa_254) (fun _ h9 => h9) rfl dX7_takeGas_115 ?_
          refine lv_iload_n hx hb dX7_takeGas_118 rfl (lv_at hl 3 rfl) ?_
          refine lv_isub hx hb dX7_takeGas_119 ?_
          refine lv_topi (fun z27 ez27 => ?_)
          refine va_put (D := (dC, dI)) (ci := 7) (v := .int z27) (ty := .int) (C := RX7) (T := TX7) (N := 7) hx hb hts hfX7 tyX7 tyX7_ok nmX7 hown hK hP hD hS q26 eq26 rfl 1 (by decide) (hts (.fieldLink RX7 32 "ColdShips$Tank" "gas" "I") wa_254) (fun _ h9 => h9) rfl (tyX7_ok 1 (by decide)) rfl rfl (Nat.le_of_ble_eq_true rfl) dX7_takeGas_120 (tp_k (.inr (7, [.int o25_x0, .int z27, .int o25_x2, .int o25_x3, .ref (ρ h0 4), .ref (ρ h0 5), .ref (ρ h0 6)])) hD (tp_in hG ht_h0 (by decide)) eq26 (fun f28 H locs hP hD hS g30 k29 => ?_))
          have hT := hT.up ht_h0 g30 k29 ⟨_, _, _, _, rfl, ro25_0⟩
          have hR := hR.up ht_h0 (by decide) k29
          exact W.vret hx hb hr (fun t ht hW => ⟨⟨f28, rfl, ⟨hT, hR, trivial⟩, by rw [ht]; exact hP, va_K.moved hW.alike hK, hD⟩, hS.F ht⟩) hS.2.2 dX7_takeGas_123
        · have ic24 : w20.toInt < 6 := zi_gef rfl rfl c24
          refine lv_aload_n hx hb dX7_takeGas_92 rfl (lv_at hl 2 rfl) ?_
          refine tpk_8 hT ht_h0 (fun o31_x0 o31_x1 o31_x2 o31_x3 hf_o31 ro31_0 => ?_)
          refine tpk_pos (tp_in hG ht_h0 (by decide)) hf_o31 (fun q32 eq32 => ?_)
          refine va_get (D := (dC, dI)) (ci := 7) (v := .ref (ρ h0 4)) (C := RX7) (T := TX7) (N := 7) hx hb hts hfX7 hown hK hP q32 eq32 rfl 4 (by decide) (hts (.fieldLink RX7 15 "ColdShips$Tank" "parts" "[I") wa_107) (fun _ h9 => h9) rfl dX7_takeGas_93 ?_
          refine lv_iload_n hx hb dX7_takeGas_96 rfl (lv_at hl 0 rfl) ?_
          refine lv_dup2_11 hx hb dX7_takeGas_97 rfl rfl ?_
          refine tpk_20 hT y2 y2n (fun g34 hf_o33 => ?_)
          refine tpk_pos (tp_in hG y2 (by decide)) hf_o33 (fun q35 eq35 => ?_)
          refine va_iald hx hb hK hP q35 0 eq35 rfl (vp_in_iff.mpr ⟨by omega, by omega⟩) dX7_takeGas_98 ?_
          refine lv_topi (fun z36 ez36 => ?_)
          refine lv_aload_n hx hb dX7_takeGas_99 rfl (lv_at hl 2 rfl) ?_
          refine va_get (D := (dC, dI)) (ci := 7) (v := .ref (ρ h0 5)) (C := RX7) (T := TX7) (N := 7) hx hb hts hfX7 hown hK hP q32 eq32 rfl 5 (by decide) (hts (.fieldLink RX7 19 "ColdShips$Tank" "given" "[I") wa_108) (fun _ h9 => h9) rfl dX7_takeGas_100 ?_
          refine lv_iload_n hx hb dX7_takeGas_103 rfl (lv_at hl 0 rfl) ?_
          refine tpk_20 hT y3 y3n (fun g38 hf_o37 => ?_)
          refine tpk_pos (tp_in hG y3 (by decide)) hf_o37 (fun q39 eq39 => ?_)
          refine va_iald hx hb hK hP q39 0 eq39 rfl (vp_in_iff.mpr ⟨by omega, by omega⟩) dX7_takeGas_104 ?_
          refine lv_topi (fun z40 ez40 => ?_)
          refine lv_isub hx hb dX7_takeGas_105 ?_
          refine lv_topi (fun z41 ez41 => ?_)
          refine va_iast hx hb hK hP hD hS q35 0 eq35 rfl (vp_in_iff.mpr ⟨by omega, by omega⟩) dX7_takeGas_106 (tp_k (.inl (κ 0, 6, .inl (upd g34 w20.toNatClampNeg z41))) hD (tp_in hG y2 (by decide)) eq35 (fun f42 H locs hP hD hS g44 k43 => ?_))
          have hT := hT.up y2 g44 k43 (tp_o20 y2n)
          have hR := hR.up y2 (by decide) k43
          generalize (upd g34 w20.toNatClampNeg z41) = g45 at g44
          obtain ⟨z46, ez46⟩ : ∃ y : Int32, y = w20 + 1 := ⟨_, rfl⟩
          refine lv_iinc (v := z46) (lv' := [(3, .int z46), (2, .int w9), (0, .ref h0), (1, .int v)]) hx hb dX7_takeGas_107 hl (k := 0) rfl (by rw [ez46]; rfl) (by decide) rfl (fun ls hl => ?_)
          have iz46 : z46.toInt = w20.toInt + 1 := zi_add ez46 rfl rfl (by omega) (by omega)
          refine lv_goto (tgt := 86) hx hb dX7_takeGas_110 (by decide) ?_
          exact ih22 _ _ _ _ (by rw [hn23]; omega) ⟨f42, z46, rfl, hT, hR, (by omega), hP, hD, hS, lv_sub hl [0, 1, 2, 3] rfl⟩
      · have ic14 : w8.toInt < 6 := zi_gef rfl rfl c14
        refine lv_iload_n hx hb dX7_takeGas_23 rfl (lv_at hl 3 rfl) ?_
        refine lv_i2l hx hb dX7_takeGas_24 rfl ?_
        refine lv_aload_n hx hb dX7_takeGas_25 rfl (lv_at hl 2 rfl) ?_
        refine tpk_pos (tp_in hG ht_h0 (by decide)) hk10k (fun q47 eq47 => ?_)
        refine va_get (D := (dC, dI)) (ci := 7) (v := .ref (ρ h0 4)) (C := RX7) (T := TX7) (N := 7) hx hb hts hfX7 hown hK hP q47 eq47 rfl 4 (by decide) (hts (.fieldLink RX7 15 "ColdShips$Tank" "parts" "[I") wa_107) (fun _ h9 => h9) rfl dX7_takeGas_26 ?_
        refine lv_iload_n hx hb dX7_takeGas_29 rfl (lv_at hl 0 rfl) ?_
        refine tpk_20 hT y2 y2n (fun g49 hf_o48 => ?_)
        refine tpk_pos (tp_in hG y2 (by decide)) hf_o48 (fun q50 eq50 => ?_)
        refine va_iald hx hb hK hP q50 0 eq50 rfl (vp_in_iff.mpr ⟨by omega, by omega⟩) dX7_takeGas_30 ?_
        refine lv_topi (fun z51 ez51 => ?_)
        refine lv_i2l hx hb dX7_takeGas_31 rfl ?_
        refine lv_lmul hx hb dX7_takeGas_32 ?_
        refine lv_topl (fun z52 ez52 => ?_)
        refine lv_lstore (lv' := [(4, .long z52), (3, .int w8), (2, .int w9), (0, .ref h0), (1, .int v)]) hx hb dX7_takeGas_33 hl (by decide) rfl (fun ls hl => ?_)
        refine lv_aload_n hx hb dX7_takeGas_35 rfl (lv_at hl 3 rfl) ?_
        refine va_get (D := (dC, dI)) (ci := 7) (v := .ref (ρ h0 5)) (C := RX7) (T := TX7) (N := 7) hx hb hts hfX7 hown hK hP q47 eq47 rfl 5 (by decide) (hts (.fieldLink RX7 19 "ColdShips$Tank" "given" "[I") wa_108) (fun _ h9 => h9) rfl dX7_takeGas_36 ?_
        refine lv_iload_n hx hb dX7_takeGas_39 rfl (lv_at hl 1 rfl) ?_
        refine lv_lload hx hb dX7_takeGas_40 (lv_at hl 0 rfl) ?_
        refine lv_aload_n hx hb dX7_takeGas_42 rfl (lv_at hl 3 rfl) ?_
        refine va_get (D := (dC, dI)) (ci := 7) (v := .int o5_x1) (C := RX7) (T := TX7) (N := 7) hx hb hts hfX7 hown hK hP q47 eq47 rfl 1 (by decide) (hts (.fieldLink RX7 32 "ColdShips$Tank" "gas" "I") wa_254) (fun _ h9 => h9) rfl dX7_takeGas_43 ?_
        refine lv_i2l hx hb dX7_takeGas_46 rfl ?_
        refine lv_ldiv hx hb dX7_takeGas_47 (zl_nz (by omega) (Int32.toInt_toInt64 o5_x1)) ?_
        refine lv_topl (fun z53 ez53 => ?_)
        refine lv_l2i hx hb dX7_takeGas_48 rfl ?_
        refine lv_topi (fun z54 ez54 => ?_)
        refine tpk_20 hT y3 y3n (fun g56 hf_o55 => ?_)
        refine tpk_pos (tp_in hG y3 (by decide)) hf_o55 (fun q57 eq57 => ?_)
        refine va_iast hx hb hK hP hD hS q57 0 eq57 rfl (vp_in_iff.mpr ⟨by omega, by omega⟩) dX7_takeGas_49 (tp_k (.inl (κ 0, 6, .inl (upd g56 w8.toNatClampNeg z54))) hD (tp_in hG y3 (by decide)) eq57 (fun f58 H locs hP hD hS g60 k59 => ?_))
        have hT := hT.up y3 g60 k59 (tp_o20 y3n)
        have hR := hR.up y3 (by decide) k59
        generalize (upd g56 w8.toNatClampNeg z54) = g61 at g60
        refine lv_aload_n hx hb dX7_takeGas_50 rfl (lv_at hl 3 rfl) ?_
        have hf_62 : f58 h0 = .inr (7, [.int o5_x0, .int o5_x1, .int o5_x2, .int o5_x3, .ref (ρ h0 4), .ref (ρ h0 5), .ref (ρ h0 6)]) := (k59 _ (tp_ne ht_h0 y3 (by decide))).trans hk10k
        refine tpk_pos (tp_in hG ht_h0 (by decide)) hf_62 (fun q63 eq63 => ?_)
        refine va_get (D := (dC, dI)) (ci := 7) (v := .ref (ρ h0 6)) (C := RX7) (T := TX7) (N := 7) hx hb hts hfX7 hown hK hP q63 eq63 rfl 6 (by decide) (hts (.fieldLink RX7 22 "ColdShips$Tank" "rests" "[J") wa_109) (fun _ h9 => h9) rfl dX7_takeGas_51 ?_
        refine lv_iload_n hx hb dX7_takeGas_54 rfl (lv_at hl 1 rfl) ?_
        refine lv_lload hx hb dX7_takeGas_55 (lv_at hl 0 rfl) ?_
        refine lv_aload_n hx hb dX7_takeGas_57 rfl (lv_at hl 3 rfl) ?_
        refine va_get (D := (dC, dI)) (ci := 7) (v := .int o5_x1) (C := RX7) (T := TX7) (N := 7) hx hb hts hfX7 hown hK hP q63 eq63 rfl 1 (by decide) (hts (.fieldLink RX7 32 "ColdShips$Tank" "gas" "I") wa_254) (fun _ h9 => h9) rfl dX7_takeGas_58 ?_
        refine lv_i2l hx hb dX7_takeGas_61 rfl ?_
        refine lv_lrem hx hb dX7_takeGas_62 (zl_nz (by omega) (Int32.toInt_toInt64 o5_x1)) ?_
        refine lv_topl (fun z64 ez64 => ?_)
        refine tpk_21 hT y4 y4n (fun g66 hf_o65 => ?_)
        refine tpk_pos (tp_in hG y4 (by decide)) hf_o65 (fun q67 eq67 => ?_)
        refine va_last hx hb hK hP hD hS q67 1 eq67 rfl (vp_in_iff.mpr ⟨by omega, by omega⟩) dX7_takeGas_63 (tp_k (.inl (κ 1, 6, .inr (.inl (vp_updL g66 w8.toNatClampNeg z64)))) hD (tp_in hG y4 (by decide)) eq67 (fun f68 H locs hP hD hS g70 k69 => ?_))
        have hT := hT.up y4 g70 k69 (tp_o21 y4n)
        have hR := hR.up y4 (by decide) k69
        generalize (vp_updL g66 w8.toNatClampNeg z64) = g71 at g70
        refine lv_iload_n hx hb dX7_takeGas_64 rfl (lv_at hl 2 rfl) ?_
        refine lv_aload_n hx hb dX7_takeGas_65 rfl (lv_at hl 3 rfl) ?_
        have hf_72 : f68 h0 = .inr (7, [.int o5_x0, .int o5_x1, .int o5_x2, .int o5_x3, .ref (ρ h0 4), .ref (ρ h0 5), .ref (ρ h0 6)]) := (k69 _ (tp_ne ht_h0 y4 (by decide))).trans hf_62
        refine tpk_pos (tp_in hG ht_h0 (by decide)) hf_72 (fun q73 eq73 => ?_)
        refine va_get (D := (dC, dI)) (ci := 7) (v := .ref (ρ h0 5)) (C := RX7) (T := TX7) (N := 7) hx hb hts hfX7 hown hK hP q73 eq73 rfl 5 (by decide) (hts (.fieldLink RX7 19 "ColdShips$Tank" "given" "[I") wa_108) (fun _ h9 => h9) rfl dX7_takeGas_66 ?_
        refine lv_iload_n hx hb dX7_takeGas_69 rfl (lv_at hl 1 rfl) ?_
        have hf_74 : f68 (ρ h0 5) = .inl (κ 0, 6, .inl g61) := (k69 _ (tp_ne y3 y4 (by decide))).trans g60
        refine tpk_pos (tp_in hG y3 (by decide)) hf_74 (fun q75 eq75 => ?_)
        refine va_iald hx hb hK hP q75 0 eq75 rfl (vp_in_iff.mpr ⟨by omega, by omega⟩) dX7_takeGas_70 ?_
        refine lv_topi (fun z76 ez76 => ?_)
        refine lv_isub hx hb dX7_takeGas_71 ?_
        refine lv_topi (fun z77 ez77 => ?_)
        refine lv_istore_n (lv' := [(2, .int z77), (4, .long z52), (3, .int w8), (0, .ref h0), (1, .int v)]) hx hb dX7_takeGas_72 rfl hl (by decide) rfl (fun ls hl => ?_)
        obtain ⟨z78, ez78⟩ : ∃ y : Int32, y = w8 + 1 := ⟨_, rfl⟩
        refine lv_iinc (v := z78) (lv' := [(3, .int z78), (2, .int z77), (4, .long z52), (0, .ref h0), (1, .int v)]) hx hb dX7_takeGas_73 hl (k := 2) rfl (by rw [ez78]; rfl) (by decide) rfl (fun ls hl => ?_)
        have iz78 : z78.toInt = w8.toInt + 1 := zi_add ez78 rfl rfl (by omega) (by omega)
        refine lv_goto (tgt := 17) hx hb dX7_takeGas_76 (by decide) ?_
        exact ih12 _ _ _ _ (by rw [hn13]; omega) ⟨f68, z78, z77, rfl, hT, hR, hf_72, (by omega), hP, hD, hS, lv_sub hl [0, 1, 3, 4] rfl⟩
    · have ic7 : v.toInt > o5_x1.toInt := zi_lef rfl rfl c7
      exact W.vret hx hb hr (fun t ht hW => ⟨⟨f, rfl, ⟨hT, hR, trivial⟩, by rw [ht]; exact hP, va_K.moved hW.alike hK, hD⟩, hS.F ht⟩) hS.2.2 dX7_takeGas_12
set_option maxHeartbeats 4000000 in
set_option maxRecDepth 100000 in
theorem t_X7_evaporate (l : Launch) (dC : Nat → ClassId) (dI : Nat → Nat → Nat) (sz : Nat) (Ω : Nat → Nat → (Nat → Nat) → va_E → Prop) (κ : Nat → ClassId) (τ ν : Nat → Nat) (ρ : Nat → Nat → Nat) (L : List Nat) (f : Nat → va_E) (hG : tp_G τ ν ρ L) (hT : tp_T Ω κ τ ν ρ f) (h0 : Nat) (v : Int32) (ht_h0 : τ h0 = 8) : Met l yX7_evaporate wqX7_evaporate ({ frames := 4, cells := 0, slots := 0, locals := 1200 }) (va_Pc [.ref h0, .int v] (pz_B dC dI (tp_K κ) (va_pl L f) sz)) (va_Qv (fun (f1 : Nat → va_E) => tp_T Ω κ τ ν ρ f1 ∧ tp_F τ [8, 20, 21] f f1 ∧ True) (fun (f1 : Nat → va_E) (t : State) => pz_E dC dI (tp_K κ) (va_A (va_pl L f) sz) (va_pl L f1) t) (va_A (va_pl L f) sz)) 0 0 (va_A (va_pl L f) sz) := by
  refine Met.ofW (cc := cX7_evaporate) (maxL := 2) (ret := none) (by decide) rfl ?_
  intro p e s m args below meth c s₁ B hml hv
  obtain ⟨rfl, hsz, hP, hK, hD0, hN⟩ := hv
  have hx := B.exec
  have hb := B.bytes
  have hr := B.returns
  have hts := fun (w : Cond) (h : w ∈ WALL) => atoms_spec (ws := wqX7_evaporate) B.pre w (List.mem_cons_of_mem _ h)
  have hown : s.vm.findClass RX7 = some m.cls := findClass_of_methodNamed B.named
  have hlocks := B.notSynchronized
  subst hsz
  have hD := hD0.self (sz := s.heap.size)
  generalize hAe : va_A (va_pl L f) s.heap.size = A at hD ⊢
  have hA : ∀ q : Nat, s.heap.size ≤ q → A q := fun q h => by rw [← hAe]; exact Or.inr h
  have hS : va_S A s.heap s.heap [] := va_S.rf
  have hR : tp_F τ [8, 20, 21] f f := tp_F.rf
  have hl := lv_entry ([.ref h0, .int v]) (n := 2) (Nat.le_of_ble_eq_true rfl)
  rw [lg_entry_eq]
  generalize (lg_sl ([.ref h0, .int v]) ++ List.replicate (2 - (lg_sl ([.ref h0, .int v])).length) Slot.unset).toArray = ls at hl ⊢
  have hl : lv_has ls 2 [(0, .ref h0), (1, .int v)] := hl
  refine lv_aload_n hx hb dX7_evaporate_0 rfl (lv_at hl 0 rfl) ?_
  refine lv_iload_n hx hb dX7_evaporate_1 rfl (lv_at hl 1 rfl) ?_
  refine tgk_8 hG ht_h0 (fun y1 y1n y2 y2n y3 y3n => ?_)
  refine tpk_8 hT ht_h0 (fun o4_x0 o4_x1 o4_x2 o4_x3 hf_o4 ro4_0 => ?_)
  refine tpk_pos (tp_in hG ht_h0 (by decide)) hf_o4 (fun q5 eq5 => ?_)
  have hFc := tp_fr hD hS hA
  refine va_callv (va_runV (As := [.int v]) (rest := []) ⟨hx, hb, hml, hown, hts⟩ (t_X7_takeGas l dC dI _ Ω κ τ ν ρ L f hG hT h0 v ht_h0) (cwV 1 hts gX7_evaporate_X7_takeGas rfl rfl rfl ⟨rfl, pd_X7_takeGas⟩ ⟨Nat.le_of_ble_eq_true rfl, Nat.le_of_ble_eq_true rfl⟩) ⟨pz_blind, va_recv hK hP (ci := 7) (q0 := q5) rfl eq5, pz_pre hP hK hD hN⟩ rfl rfl hl.1 rfl (lv_room (Nat.le_of_ble_eq_true rfl)) dX7_evaporate_2 ⟨Nat.le_of_ble_eq_true rfl, Nat.le_of_ble_eq_true rfl⟩) hS (fun q _ h => hFc q h) hFc (fun f8 t H1 locs ht hvm hw7 hB hz1 hk1 hS => ?_)
  refine tn_3 hw7 (fun hT hF9 hw7p => ?_); clear hw7
  have hR := hR.then hF9 (by decide)
  have hP := hB.1; rw [ht] at hP; have hD := tp_ad f8 hD; clear hB hFc hz1 hk1; subst ht; generalize t.heap = H at hP hS ⊢
  refine lv_aload_n hx hb dX7_evaporate_5 rfl (lv_at hl 0 rfl) ?_
  refine lv_dup hx hb dX7_evaporate_6 rfl ?_
  refine tpk_8 hT ht_h0 (fun o10_x0 o10_x1 o10_x2 o10_x3 hf_o10 ro10_0 => ?_)
  refine tpk_pos (tp_in hG ht_h0 (by decide)) hf_o10 (fun q11 eq11 => ?_)
  refine va_get (D := (dC, dI)) (ci := 7) (v := .int o10_x2) (C := RX7) (T := TX7) (N := 7) hx hb hts hfX7 hown hK hP q11 eq11 rfl 2 (by decide) (hts (.fieldLink RX7 35 "ColdShips$Tank" "vapor" "I") wa_255) (fun _ h9 => h9) rfl dX7_evaporate_7 ?_
  refine lv_iload_n hx hb dX7_evaporate_10 rfl (lv_at hl 1 rfl) ?_
  refine lv_iadd hx hb dX7_evaporate_11 ?_
  refine lv_topi (fun z12 ez12 => ?_)
  refine va_put (D := (dC, dI)) (ci := 7) (v := .int z12) (ty := .int) (C := RX7) (T := TX7) (N := 7) hx hb hts hfX7 tyX7 tyX7_ok nmX7 hown hK hP hD hS q11 eq11 rfl 2 (by decide) (hts (.fieldLink RX7 35 "ColdShips$Tank" "vapor" "I") wa_255) (fun _ h9 => h9) rfl (tyX7_ok 2 (by decide)) rfl rfl (Nat.le_of_ble_eq_true rfl) dX7_evaporate_12 (tp_k (.inr (7, [.int o10_x0, .int o10_x1, .int z12, .int o10_x3, .ref (ρ h0 4), .ref (ρ h0 5), .ref (ρ h0 6)])) hD (tp_in hG ht_h0 (by decide)) eq11 (fun f13 H locs hP hD hS g15 k14 => ?_))
  have hT := hT.up ht_h0 g15 k14 ⟨_, _, _, _, rfl, ro10_0⟩
  have hR := hR.up ht_h0 (by decide) k14
  exact W.vret hx hb hr (fun t ht hW => ⟨⟨f13, rfl, ⟨hT, hR, trivial⟩, by rw [ht]; exact hP, va_K.moved hW.alike hK, hD⟩, hS.F ht⟩) hS.2.2 dX7_evaporate_15
set_option maxHeartbeats 4000000 in
set_option maxRecDepth 100000 in
theorem t_X7_boil (l : Launch) (dC : Nat → ClassId) (dI : Nat → Nat → Nat) (sz : Nat) (Ω : Nat → Nat → (Nat → Nat) → va_E → Prop) (κ : Nat → ClassId) (τ ν : Nat → Nat) (ρ : Nat → Nat → Nat) (L : List Nat) (f : Nat → va_E) (hG : tp_G τ ν ρ L) (hT : tp_T Ω κ τ ν ρ f) (h0 : Nat) (v : Int32) (ht_h0 : τ h0 = 8) : Met l yX7_boil wqX7_boil ({ frames := 5, cells := 0, slots := 0, locals := 1600 }) (va_Pc [.ref h0, .int v] (pz_B dC dI (tp_K κ) (va_pl L f) sz)) (va_Qv (fun (f1 : Nat → va_E) => tp_T Ω κ τ ν ρ f1 ∧ tp_F τ [8, 20, 21] f f1 ∧ True) (fun (f1 : Nat → va_E) (t : State) => pz_E dC dI (tp_K κ) (va_A (va_pl L f) sz) (va_pl L f1) t) (va_A (va_pl L f) sz)) 0 0 (va_A (va_pl L f) sz) := by
  refine Met.ofW (cc := cX7_boil) (maxL := 2) (ret := none) (by decide) rfl ?_
  intro p e s m args below meth c s₁ B hml hv
  obtain ⟨rfl, hsz, hP, hK, hD0, hN⟩ := hv
  have hx := B.exec
  have hb := B.bytes
  have hr := B.returns
  have hts := fun (w : Cond) (h : w ∈ WALL) => atoms_spec (ws := wqX7_boil) B.pre w (List.mem_cons_of_mem _ h)
  have hown : s.vm.findClass RX7 = some m.cls := findClass_of_methodNamed B.named
  have hlocks := B.notSynchronized
  subst hsz
  have hD := hD0.self (sz := s.heap.size)
  generalize hAe : va_A (va_pl L f) s.heap.size = A at hD ⊢
  have hA : ∀ q : Nat, s.heap.size ≤ q → A q := fun q h => by rw [← hAe]; exact Or.inr h
  have hS : va_S A s.heap s.heap [] := va_S.rf
  have hR : tp_F τ [8, 20, 21] f f := tp_F.rf
  have hl := lv_entry ([.ref h0, .int v]) (n := 2) (Nat.le_of_ble_eq_true rfl)
  rw [lg_entry_eq]
  generalize (lg_sl ([.ref h0, .int v]) ++ List.replicate (2 - (lg_sl ([.ref h0, .int v])).length) Slot.unset).toArray = ls at hl ⊢
  have hl : lv_has ls 2 [(0, .ref h0), (1, .int v)] := hl
  refine lv_aload_n hx hb dX7_boil_0 rfl (lv_at hl 0 rfl) ?_
  refine lv_aload_n hx hb dX7_boil_1 rfl (lv_at hl 0 rfl) ?_
  refine tgk_8 hG ht_h0 (fun y1 y1n y2 y2n y3 y3n => ?_)
  refine tpk_8 hT ht_h0 (fun o4_x0 o4_x1 o4_x2 o4_x3 hf_o4 ro4_0 => ?_)
  refine tpk_pos (tp_in hG ht_h0 (by decide)) hf_o4 (fun q5 eq5 => ?_)
  refine va_get (D := (dC, dI)) (ci := 7) (v := .int o4_x1) (C := RX7) (T := TX7) (N := 7) hx hb hts hfX7 hown hK hP q5 eq5 rfl 1 (by decide) (hts (.fieldLink RX7 32 "ColdShips$Tank" "gas" "I") wa_254) (fun _ h9 => h9) rfl dX7_boil_2 ?_
  refine lv_i2l hx hb dX7_boil_5 rfl ?_
  refine lv_iload_n hx hb dX7_boil_6 rfl (lv_at hl 1 rfl) ?_
  refine lv_i2l hx hb dX7_boil_7 rfl ?_
  refine lv_lmul hx hb dX7_boil_8 ?_
  refine lv_topl (fun z6 ez6 => ?_)
  refine lv_ldc2 (own := RX7) (v := 100000) hx hb hown (hts (.constantLong RX7 53 (100000)) wa_415) dX7_boil_9 ?_
  refine lv_ldiv hx hb dX7_boil_12 (by decide) ?_
  refine lv_topl (fun z7 ez7 => ?_)
  refine lv_l2i hx hb dX7_boil_13 rfl ?_
  refine lv_topi (fun z8 ez8 => ?_)
  have hFc := tp_fr hD hS hA
  refine va_callv (va_runV (As := [.int z8]) (rest := []) ⟨hx, hb, hml, hown, hts⟩ (t_X7_evaporate l dC dI _ Ω κ τ ν ρ L f hG hT h0 z8 ht_h0) (cwV 1 hts gX7_boil_X7_evaporate rfl rfl rfl ⟨rfl, pd_X7_evaporate⟩ ⟨Nat.le_of_ble_eq_true rfl, Nat.le_of_ble_eq_true rfl⟩) ⟨pz_blind, va_recv hK hP (ci := 7) (q0 := q5) rfl eq5, pz_pre hP hK hD hN⟩ rfl rfl hl.1 rfl (lv_room (Nat.le_of_ble_eq_true rfl)) dX7_boil_14 ⟨Nat.le_of_ble_eq_true rfl, Nat.le_of_ble_eq_true rfl⟩) hS (fun q _ h => hFc q h) hFc (fun f11 t H1 locs ht hvm hw10 hB hz1 hk1 hS => ?_)
  refine tn_3 hw10 (fun hT hF12 hw10p => ?_); clear hw10
  have hR := hR.then hF12 (by decide)
  have hP := hB.1; rw [ht] at hP; have hD := tp_ad f11 hD; clear hB hFc hz1 hk1; subst ht; generalize t.heap = H at hP hS ⊢
  exact W.vret hx hb hr (fun t ht hW => ⟨⟨f11, rfl, ⟨hT, hR, trivial⟩, by rw [ht]; exact hP, va_K.moved hW.alike hK, hD⟩, hS.F ht⟩) hS.2.2 dX7_boil_17
set_option maxHeartbeats 4000000 in
set_option maxRecDepth 100000 in
theorem t_X7_warmOrCool (l : Launch) (dC : Nat → ClassId) (dI : Nat → Nat → Nat) (sz : Nat) (Ω : Nat → Nat → (Nat → Nat) → va_E → Prop) (κ : Nat → ClassId) (τ ν : Nat → Nat) (ρ : Nat → Nat → Nat) (L : List Nat) (f : Nat → va_E) (hG : tp_G τ ν ρ L) (hT : tp_T Ω κ τ ν ρ f) (h0 : Nat) (ht_h0 : τ h0 = 8) : Met l yX7_warmOrCool wqX7_warmOrCool ({ frames := 5, cells := 0, slots := 0, locals := 1600 }) (va_Pc [.ref h0] (pz_B dC dI (tp_K κ) (va_pl L f) sz)) (va_Qv (fun (f1 : Nat → va_E) => tp_T Ω κ τ ν ρ f1 ∧ tp_F τ [8, 20, 21] f f1 ∧ True) (fun (f1 : Nat → va_E) (t : State) => pz_E dC dI (tp_K κ) (va_A (va_pl L f) sz) (va_pl L f1) t) (va_A (va_pl L f) sz)) 0 0 (va_A (va_pl L f) sz) := by
  refine Met.ofW (cc := cX7_warmOrCool) (maxL := 2) (ret := none) (by decide) rfl ?_
  intro p e s m args below meth c s₁ B hml hv
  obtain ⟨rfl, hsz, hP, hK, hD0, hN⟩ := hv
  have hx := B.exec
  have hb := B.bytes
  have hr := B.returns
  have hts := fun (w : Cond) (h : w ∈ WALL) => atoms_spec (ws := wqX7_warmOrCool) B.pre w (List.mem_cons_of_mem _ h)
  have hown : s.vm.findClass RX7 = some m.cls := findClass_of_methodNamed B.named
  have hlocks := B.notSynchronized
  subst hsz
  have hD := hD0.self (sz := s.heap.size)
  generalize hAe : va_A (va_pl L f) s.heap.size = A at hD ⊢
  have hA : ∀ q : Nat, s.heap.size ≤ q → A q := fun q h => by rw [← hAe]; exact Or.inr h
  have hS : va_S A s.heap s.heap [] := va_S.rf
  have hR : tp_F τ [8, 20, 21] f f := tp_F.rf
  have hl := lv_entry ([.ref h0]) (n := 2) (Nat.le_of_ble_eq_true rfl)
  rw [lg_entry_eq]
  generalize (lg_sl ([.ref h0]) ++ List.replicate (2 - (lg_sl ([.ref h0])).length) Slot.unset).toArray = ls at hl ⊢
  have hl : lv_has ls 2 [(0, .ref h0)] := hl
  refine lv_aload_n hx hb dX7_warmOrCool_0 rfl (lv_at hl 0 rfl) ?_
  refine tgk_8 hG ht_h0 (fun y1 y1n y2 y2n y3 y3n => ?_)
  refine tpk_8 hT ht_h0 (fun o4_x0 o4_x1 o4_x2 o4_x3 hf_o4 ro4_0 => ?_)
  refine tpk_pos (tp_in hG ht_h0 (by decide)) hf_o4 (fun q5 eq5 => ?_)
  refine va_get (D := (dC, dI)) (ci := 7) (v := .int o4_x1) (C := RX7) (T := TX7) (N := 7) hx hb hts hfX7 hown hK hP q5 eq5 rfl 1 (by decide) (hts (.fieldLink RX7 32 "ColdShips$Tank" "gas" "I") wa_254) (fun _ h9 => h9) rfl dX7_warmOrCool_1 ?_
  refine lv_aload_n hx hb dX7_warmOrCool_4 rfl (lv_at hl 0 rfl) ?_
  refine pz_calli (va_runV (As := []) (rest := [.int o4_x1]) ⟨hx, hb, hml, hown, hts⟩ (t_X7_heel l dC dI _ Ω κ τ ν ρ L f hG hT h0 ht_h0) (cwV 0 hts gX7_warmOrCool_X7_heel rfl rfl rfl ⟨rfl, pd_X7_heel⟩ ⟨Nat.le_of_ble_eq_true rfl, Nat.le_of_ble_eq_true rfl⟩) ⟨pz_blind, va_recv hK hP (ci := 7) (q0 := q5) rfl eq5, pz_pre hP hK hD hN⟩ rfl rfl hl.1 rfl (lv_room (Nat.le_of_ble_eq_true rfl)) dX7_warmOrCool_5 ⟨Nat.le_of_ble_eq_true rfl, Nat.le_of_ble_eq_true rfl⟩) (fun r6 hw7 => ?_)
  obtain ⟨hw7r, hw7p⟩ := hw7
  refine lv_icmp_ge (tgt := 30) hx hb dX7_warmOrCool_8 (by decide) (fun c8 => ?_) (fun c8 => ?_)
  · have ic8 : o4_x1.toInt ≥ r6.toInt := zi_ge rfl rfl c8
    refine lv_aload_n hx hb dX7_warmOrCool_30 rfl (lv_at hl 0 rfl) ?_
    refine va_get (D := (dC, dI)) (ci := 7) (v := .int o4_x3) (C := RX7) (T := TX7) (N := 7) hx hb hts hfX7 hown hK hP q5 eq5 rfl 3 (by decide) (hts (.fieldLink RX7 38 "ColdShips$Tank" "warm" "I") wa_256) (fun _ h9 => h9) rfl dX7_warmOrCool_31 ?_
    refine lv_if_le (tgt := 82) hx hb dX7_warmOrCool_34 (by decide) (fun c9 => ?_) (fun c9 => ?_)
    · have ic9 : o4_x3.toInt ≤ 0 := zi_le rfl rfl c9
      exact W.vret hx hb hr (fun t ht hW => ⟨⟨f, rfl, ⟨hT, hR, trivial⟩, by rw [ht]; exact hP, va_K.moved hW.alike hK, hD⟩, hS.F ht⟩) hS.2.2 dX7_warmOrCool_82
    · have ic9 : o4_x3.toInt > 0 := zi_lef rfl rfl c9
      refine lv_bipush (v := 20) hx hb dX7_warmOrCool_37 (by decide) ?_
      refine lv_aload_n hx hb dX7_warmOrCool_39 rfl (lv_at hl 0 rfl) ?_
      refine va_get (D := (dC, dI)) (ci := 7) (v := .int o4_x3) (C := RX7) (T := TX7) (N := 7) hx hb hts hfX7 hown hK hP q5 eq5 rfl 3 (by decide) (hts (.fieldLink RX7 38 "ColdShips$Tank" "warm" "I") wa_256) (fun _ h9 => h9) rfl dX7_warmOrCool_40 ?_
      refine va_mmin hx hb (by rw [hml]; exact hl.1.symm) hown (hts (.methodLink RX7 62 Lib.Math.min.name) wa_433) (hts (.static Lib.Math.min.name) wa_434) (hts (.initialized "java/lang/Math") wa_71) (hts (.code Lib.Math.min.name Lib.Math.min.code 2 (some .int)) wa_435) (Nat.le_of_ble_eq_true rfl) (Nat.le_of_ble_eq_true rfl) (Nat.le_of_ble_eq_true rfl) (Nat.le_of_ble_eq_true rfl) dX7_warmOrCool_43 ?_
      refine lv_topi (fun z10 ez10 => ?_)
      have iz10 := zi_min ez10 (show (20 : Int32).toInt = 20 from rfl) (rfl : o4_x3.toInt = _)
      refine lv_istore_n (lv' := [(1, .int z10), (0, .ref h0)]) hx hb dX7_warmOrCool_46 rfl hl (by decide) rfl (fun ls hl => ?_)
      refine lv_aload_n hx hb dX7_warmOrCool_47 rfl (lv_at hl 1 rfl) ?_
      refine lv_dup hx hb dX7_warmOrCool_48 rfl ?_
      refine va_get (D := (dC, dI)) (ci := 7) (v := .int o4_x3) (C := RX7) (T := TX7) (N := 7) hx hb hts hfX7 hown hK hP q5 eq5 rfl 3 (by decide) (hts (.fieldLink RX7 38 "ColdShips$Tank" "warm" "I") wa_256) (fun _ h9 => h9) rfl dX7_warmOrCool_49 ?_
      refine lv_iload_n hx hb dX7_warmOrCool_52 rfl (lv_at hl 0 rfl) ?_
      refine lv_isub hx hb dX7_warmOrCool_53 ?_
      refine lv_topi (fun z11 ez11 => ?_)
      have := zi_bd o4_x3
      have iz11 : z11.toInt = o4_x3.toInt - z10.toInt := zi_sub ez11 rfl rfl (by omega) (by omega)
      refine va_put (D := (dC, dI)) (ci := 7) (v := .int z11) (ty := .int) (C := RX7) (T := TX7) (N := 7) hx hb hts hfX7 tyX7 tyX7_ok nmX7 hown hK hP hD hS q5 eq5 rfl 3 (by decide) (hts (.fieldLink RX7 38 "ColdShips$Tank" "warm" "I") wa_256) (fun _ h9 => h9) rfl (tyX7_ok 3 (by decide)) rfl rfl (Nat.le_of_ble_eq_true rfl) dX7_warmOrCool_54 (tp_k (.inr (7, [.int o4_x0, .int o4_x1, .int o4_x2, .int z11, .ref (ρ h0 4), .ref (ρ h0 5), .ref (ρ h0 6)])) hD (tp_in hG ht_h0 (by decide)) eq5 (fun f12 H locs hP hD hS g14 k13 => ?_))
      have hT := hT.up ht_h0 g14 k13 ⟨_, _, _, _, rfl, ro4_0⟩
      have hR := hR.up ht_h0 (by decide) k13
      refine lv_aload_n hx hb dX7_warmOrCool_57 rfl (lv_at hl 1 rfl) ?_
      refine lv_aload_n hx hb dX7_warmOrCool_58 rfl (lv_at hl 1 rfl) ?_
      refine tpk_pos (tp_in hG ht_h0 (by decide)) g14 (fun q15 eq15 => ?_)
      refine va_get (D := (dC, dI)) (ci := 7) (v := .int o4_x1) (C := RX7) (T := TX7) (N := 7) hx hb hts hfX7 hown hK hP q15 eq15 rfl 1 (by decide) (hts (.fieldLink RX7 32 "ColdShips$Tank" "gas" "I") wa_254) (fun _ h9 => h9) rfl dX7_warmOrCool_59 ?_
      refine lv_i2l hx hb dX7_warmOrCool_62 rfl ?_
      refine lv_iload_n hx hb dX7_warmOrCool_63 rfl (lv_at hl 0 rfl) ?_
      refine lv_i2l hx hb dX7_warmOrCool_64 rfl ?_
      refine lv_aload_n hx hb dX7_warmOrCool_65 rfl (lv_at hl 1 rfl) ?_
      have ro4_0 := tp_hu ro4_0
      refine va_get (D := (dC, dI)) (ci := 7) (v := .int o4_x0) (C := RX7) (T := TX7) (N := 7) hx hb hts hfX7 hown hK hP q15 eq15 rfl 0 (by decide) (hts (.fieldLink RX7 9 "ColdShips$Tank" "cap" "I") wa_106) (fun _ h9 => h9) rfl dX7_warmOrCool_66 ?_
      refine lv_i2l hx hb dX7_warmOrCool_69 rfl ?_
      refine lv_lmul hx hb dX7_warmOrCool_70 ?_
      refine lv_topl (fun z16 ez16 => ?_)
      refine lv_ldc2 (own := RX7) (v := 100000) hx hb hown (hts (.constantLong RX7 53 (100000)) wa_415) dX7_warmOrCool_71 ?_
      refine lv_ldiv hx hb dX7_warmOrCool_74 (by decide) ?_
      refine lv_topl (fun z17 ez17 => ?_)
      refine va_mmin_long hx hb (by rw [hml]; exact hl.1.symm) hown (hts (.methodLink RX7 65 Lib.MathLoose.min_long.x) wa_436) (hts (.static Lib.MathLoose.min_long.x) wa_437) (hts (.initialized "java/lang/Math") wa_71) (hts (.code Lib.MathLoose.min_long.x Lib.MathLoose.min_long.code 4 (some .long)) wa_438) (Nat.le_of_ble_eq_true rfl) (Nat.le_of_ble_eq_true rfl) (Nat.le_of_ble_eq_true rfl) (Nat.le_of_ble_eq_true rfl) dX7_warmOrCool_75 ?_
      refine lv_topl (fun z18 ez18 => ?_)
      refine lv_l2i hx hb dX7_warmOrCool_78 rfl ?_
      refine lv_topi (fun z19 ez19 => ?_)
      have hFc := tp_fr hD hS hA
      refine va_callv (va_runV (As := [.int z19]) (rest := []) ⟨hx, hb, hml, hown, hts⟩ (t_X7_evaporate l dC dI _ Ω κ τ ν ρ L f12 hG hT h0 z19 ht_h0) (cwV 1 hts gX7_warmOrCool_X7_evaporate rfl rfl rfl ⟨rfl, pd_X7_evaporate⟩ ⟨Nat.le_of_ble_eq_true rfl, Nat.le_of_ble_eq_true rfl⟩) ⟨pz_blind, va_recv hK hP (ci := 7) (q0 := q15) rfl eq15, pz_pre hP hK hD hN⟩ rfl rfl hl.1 rfl (lv_room (Nat.le_of_ble_eq_true rfl)) dX7_warmOrCool_79 ⟨Nat.le_of_ble_eq_true rfl, Nat.le_of_ble_eq_true rfl⟩) hS (fun q _ h => hFc q h) hFc (fun f22 t H1 locs ht hvm hw21 hB hz1 hk1 hS => ?_)
      refine tn_3 hw21 (fun hT hF23 hw21p => ?_); clear hw21
      have hR := hR.then hF23 (by decide)
      have hP := hB.1; rw [ht] at hP; have hD := tp_ad f22 hD; clear hB hFc hz1 hk1; subst ht; generalize t.heap = H at hP hS ⊢
      exact W.vret hx hb hr (fun t ht hW => ⟨⟨f22, rfl, ⟨hT, hR, trivial⟩, by rw [ht]; exact hP, va_K.moved hW.alike hK, hD⟩, hS.F ht⟩) hS.2.2 dX7_warmOrCool_82
  · have ic8 : o4_x1.toInt < r6.toInt := zi_gef rfl rfl c8
    refine lv_aload_n hx hb dX7_warmOrCool_11 rfl (lv_at hl 0 rfl) ?_
    refine lv_sipush (v := 1800) hx hb dX7_warmOrCool_12 (by decide) ?_
    refine lv_aload_n hx hb dX7_warmOrCool_15 rfl (lv_at hl 0 rfl) ?_
    refine va_get (D := (dC, dI)) (ci := 7) (v := .int o4_x3) (C := RX7) (T := TX7) (N := 7) hx hb hts hfX7 hown hK hP q5 eq5 rfl 3 (by decide) (hts (.fieldLink RX7 38 "ColdShips$Tank" "warm" "I") wa_256) (fun _ h9 => h9) rfl dX7_warmOrCool_16 ?_
    refine lv_iconst (v := 5) hx hb dX7_warmOrCool_19 (by decide) ?_
    refine lv_iadd hx hb dX7_warmOrCool_20 ?_
    refine lv_topi (fun z24 ez24 => ?_)
    refine va_mmin hx hb (by rw [hml]; exact hl.1.symm) hown (hts (.methodLink RX7 62 Lib.Math.min.name) wa_433) (hts (.static Lib.Math.min.name) wa_434) (hts (.initialized "java/lang/Math") wa_71) (hts (.code Lib.Math.min.name Lib.Math.min.code 2 (some .int)) wa_435) (Nat.le_of_ble_eq_true rfl) (Nat.le_of_ble_eq_true rfl) (Nat.le_of_ble_eq_true rfl) (Nat.le_of_ble_eq_true rfl) dX7_warmOrCool_21 ?_
    refine lv_topi (fun z25 ez25 => ?_)
    have iz25 := zi_min ez25 (show (1800 : Int32).toInt = 1800 from rfl) (rfl : z24.toInt = _)
    refine va_put (D := (dC, dI)) (ci := 7) (v := .int z25) (ty := .int) (C := RX7) (T := TX7) (N := 7) hx hb hts hfX7 tyX7 tyX7_ok nmX7 hown hK hP hD hS q5 eq5 rfl 3 (by decide) (hts (.fieldLink RX7 38 "ColdShips$Tank" "warm" "I") wa_256) (fun _ h9 => h9) rfl (tyX7_ok 3 (by decide)) rfl rfl (Nat.le_of_ble_eq_true rfl) dX7_warmOrCool_24 (tp_k (.inr (7, [.int o4_x0, .int o4_x1, .int o4_x2, .int z25, .ref (ρ h0 4), .ref (ρ h0 5), .ref (ρ h0 6)])) hD (tp_in hG ht_h0 (by decide)) eq5 (fun f26 H locs hP hD hS g28 k27 => ?_))
    have hT := hT.up ht_h0 g28 k27 ⟨_, _, _, _, rfl, ro4_0⟩
    have hR := hR.up ht_h0 (by decide) k27
    refine lv_goto (tgt := 82) hx hb dX7_warmOrCool_27 (by decide) ?_
    exact W.vret hx hb hr (fun t ht hW => ⟨⟨f26, rfl, ⟨hT, hR, trivial⟩, by rw [ht]; exact hP, va_K.moved hW.alike hK, hD⟩, hS.F ht⟩) hS.2.2 dX7_warmOrCool_82
set_option maxHeartbeats 4000000 in
set_option maxRecDepth 100000 in
theorem t_X7_burn (l : Launch) (dC : Nat → ClassId) (dI : Nat → Nat → Nat) (sz : Nat) (Ω : Nat → Nat → (Nat → Nat) → va_E → Prop) (κ : Nat → ClassId) (τ ν : Nat → Nat) (ρ : Nat → Nat → Nat) (L : List Nat) (f : Nat → va_E) (hG : tp_G τ ν ρ L) (hT : tp_T Ω κ τ ν ρ f) (h0 : Nat) (v : Int32) (ht_h0 : τ h0 = 8) : Met l yX7_burn wqX7_burn ({ frames := 4, cells := 0, slots := 0, locals := 1200 }) (va_Pc [.ref h0, .int v] (pz_B dC dI (tp_K κ) (va_pl L f) sz)) (va_Qi (fun (r : Int32) (f1 : Nat → va_E) => tp_T Ω κ τ ν ρ f1 ∧ tp_F τ [8, 20, 21] f f1 ∧ True ∧ True) (fun (f1 : Nat → va_E) (t : State) => pz_E dC dI (tp_K κ) (va_A (va_pl L f) sz) (va_pl L f1) t) (va_A (va_pl L f) sz)) 0 0 (va_A (va_pl L f) sz) := by
  refine Met.ofW (cc := cX7_burn) (maxL := 4) (ret := some .int) (by decide) rfl ?_
  intro p e s m args below meth c s₁ B hml hv
  obtain ⟨rfl, hsz, hP, hK, hD0, hN⟩ := hv
  have hx := B.exec
  have hb := B.bytes
  have hr := B.returns
  have hts := fun (w : Cond) (h : w ∈ WALL) => atoms_spec (ws := wqX7_burn) B.pre w (List.mem_cons_of_mem _ h)
  have hown : s.vm.findClass RX7 = some m.cls := findClass_of_methodNamed B.named
  have hlocks := B.notSynchronized
  subst hsz
  have hD := hD0.self (sz := s.heap.size)
  generalize hAe : va_A (va_pl L f) s.heap.size = A at hD ⊢
  have hA : ∀ q : Nat, s.heap.size ≤ q → A q := fun q h => by rw [← hAe]; exact Or.inr h
  have hS : va_S A s.heap s.heap [] := va_S.rf
  have hR : tp_F τ [8, 20, 21] f f := tp_F.rf
  have hl := lv_entry ([.ref h0, .int v]) (n := 4) (Nat.le_of_ble_eq_true rfl)
  rw [lg_entry_eq]
  generalize (lg_sl ([.ref h0, .int v]) ++ List.replicate (4 - (lg_sl ([.ref h0, .int v])).length) Slot.unset).toArray = ls at hl ⊢
  have hl : lv_has ls 4 [(0, .ref h0), (1, .int v)] := hl
  refine lv_iload_n hx hb dX7_burn_0 rfl (lv_at hl 1 rfl) ?_
  refine lv_aload_n hx hb dX7_burn_1 rfl (lv_at hl 0 rfl) ?_
  refine tgk_8 hG ht_h0 (fun y1 y1n y2 y2n y3 y3n => ?_)
  refine tpk_8 hT ht_h0 (fun o4_x0 o4_x1 o4_x2 o4_x3 hf_o4 ro4_0 => ?_)
  refine tpk_pos (tp_in hG ht_h0 (by decide)) hf_o4 (fun q5 eq5 => ?_)
  refine va_get (D := (dC, dI)) (ci := 7) (v := .int o4_x2) (C := RX7) (T := TX7) (N := 7) hx hb hts hfX7 hown hK hP q5 eq5 rfl 2 (by decide) (hts (.fieldLink RX7 35 "ColdShips$Tank" "vapor" "I") wa_255) (fun _ h9 => h9) rfl dX7_burn_2 ?_
  refine va_mmin hx hb (by rw [hml]; exact hl.1.symm) hown (hts (.methodLink RX7 62 Lib.Math.min.name) wa_433) (hts (.static Lib.Math.min.name) wa_434) (hts (.initialized "java/lang/Math") wa_71) (hts (.code Lib.Math.min.name Lib.Math.min.code 2 (some .int)) wa_435) (Nat.le_of_ble_eq_true rfl) (Nat.le_of_ble_eq_true rfl) (Nat.le_of_ble_eq_true rfl) (Nat.le_of_ble_eq_true rfl) dX7_burn_5 ?_
  refine lv_topi (fun z6 ez6 => ?_)
  have iz6 := zi_min ez6 (rfl : v.toInt = _) (rfl : o4_x2.toInt = _)
  refine lv_istore_n (lv' := [(2, .int z6), (0, .ref h0), (1, .int v)]) hx hb dX7_burn_8 rfl hl (by decide) rfl (fun ls hl => ?_)
  refine lv_aload_n hx hb dX7_burn_9 rfl (lv_at hl 1 rfl) ?_
  refine lv_dup hx hb dX7_burn_10 rfl ?_
  refine va_get (D := (dC, dI)) (ci := 7) (v := .int o4_x2) (C := RX7) (T := TX7) (N := 7) hx hb hts hfX7 hown hK hP q5 eq5 rfl 2 (by decide) (hts (.fieldLink RX7 35 "ColdShips$Tank" "vapor" "I") wa_255) (fun _ h9 => h9) rfl dX7_burn_11 ?_
  refine lv_iload_n hx hb dX7_burn_14 rfl (lv_at hl 0 rfl) ?_
  refine lv_isub hx hb dX7_burn_15 ?_
  refine lv_topi (fun z7 ez7 => ?_)
  refine va_put (D := (dC, dI)) (ci := 7) (v := .int z7) (ty := .int) (C := RX7) (T := TX7) (N := 7) hx hb hts hfX7 tyX7 tyX7_ok nmX7 hown hK hP hD hS q5 eq5 rfl 2 (by decide) (hts (.fieldLink RX7 35 "ColdShips$Tank" "vapor" "I") wa_255) (fun _ h9 => h9) rfl (tyX7_ok 2 (by decide)) rfl rfl (Nat.le_of_ble_eq_true rfl) dX7_burn_16 (tp_k (.inr (7, [.int o4_x0, .int o4_x1, .int z7, .int o4_x3, .ref (ρ h0 4), .ref (ρ h0 5), .ref (ρ h0 6)])) hD (tp_in hG ht_h0 (by decide)) eq5 (fun f8 H locs hP hD hS g10 k9 => ?_))
  have hT := hT.up ht_h0 g10 k9 ⟨_, _, _, _, rfl, ro4_0⟩
  have hR := hR.up ht_h0 (by decide) k9
  refine lv_iload_n hx hb dX7_burn_19 rfl (lv_at hl 2 rfl) ?_
  refine lv_iload_n hx hb dX7_burn_20 rfl (lv_at hl 0 rfl) ?_
  refine lv_isub hx hb dX7_burn_21 ?_
  refine lv_topi (fun z11 ez11 => ?_)
  refine lv_aload_n hx hb dX7_burn_22 rfl (lv_at hl 1 rfl) ?_
  refine tpk_pos (tp_in hG ht_h0 (by decide)) g10 (fun q12 eq12 => ?_)
  refine va_get (D := (dC, dI)) (ci := 7) (v := .int o4_x1) (C := RX7) (T := TX7) (N := 7) hx hb hts hfX7 hown hK hP q12 eq12 rfl 1 (by decide) (hts (.fieldLink RX7 32 "ColdShips$Tank" "gas" "I") wa_254) (fun _ h9 => h9) rfl dX7_burn_23 ?_
  refine va_mmin hx hb (by rw [hml]; exact hl.1.symm) hown (hts (.methodLink RX7 62 Lib.Math.min.name) wa_433) (hts (.static Lib.Math.min.name) wa_434) (hts (.initialized "java/lang/Math") wa_71) (hts (.code Lib.Math.min.name Lib.Math.min.code 2 (some .int)) wa_435) (Nat.le_of_ble_eq_true rfl) (Nat.le_of_ble_eq_true rfl) (Nat.le_of_ble_eq_true rfl) (Nat.le_of_ble_eq_true rfl) dX7_burn_26 ?_
  refine lv_topi (fun z13 ez13 => ?_)
  have iz13 := zi_min ez13 (rfl : z11.toInt = _) (rfl : o4_x1.toInt = _)
  refine lv_istore_n (lv' := [(3, .int z13), (2, .int z6), (0, .ref h0), (1, .int v)]) hx hb dX7_burn_29 rfl hl (by decide) rfl (fun ls hl => ?_)
  refine lv_aload_n hx hb dX7_burn_30 rfl (lv_at hl 2 rfl) ?_
  refine lv_iload_n hx hb dX7_burn_31 rfl (lv_at hl 0 rfl) ?_
  have hFc := tp_fr hD hS hA
  refine va_callv (va_runV (As := [.int z13]) (rest := []) ⟨hx, hb, hml, hown, hts⟩ (t_X7_takeGas l dC dI _ Ω κ τ ν ρ L f8 hG hT h0 z13 ht_h0) (cwV 1 hts gX7_burn_X7_takeGas rfl rfl rfl ⟨rfl, pd_X7_takeGas⟩ ⟨Nat.le_of_ble_eq_true rfl, Nat.le_of_ble_eq_true rfl⟩) ⟨pz_blind, va_recv hK hP (ci := 7) (q0 := q12) rfl eq12, pz_pre hP hK hD hN⟩ rfl rfl hl.1 rfl (lv_room (Nat.le_of_ble_eq_true rfl)) dX7_burn_32 ⟨Nat.le_of_ble_eq_true rfl, Nat.le_of_ble_eq_true rfl⟩) hS (fun q _ h => hFc q h) hFc (fun f16 t H1 locs ht hvm hw15 hB hz1 hk1 hS => ?_)
  refine tn_3 hw15 (fun hT hF17 hw15p => ?_); clear hw15
  have hR := hR.then hF17 (by decide)
  have hP := hB.1; rw [ht] at hP; have hD := tp_ad f16 hD; clear hB hFc hz1 hk1; subst ht; generalize t.heap = H at hP hS ⊢
  refine lv_iload_n hx hb dX7_burn_35 rfl (lv_at hl 1 rfl) ?_
  refine lv_iload_n hx hb dX7_burn_36 rfl (lv_at hl 0 rfl) ?_
  refine lv_iadd hx hb dX7_burn_37 ?_
  refine lv_topi (fun z18 ez18 => ?_)
  exact W.iret (v := z18) hx hb hr (fun t ht hW => ⟨⟨z18, f16, rfl, ⟨hT, hR, trivial, trivial⟩, by rw [ht]; exact hP, va_K.moved hW.alike hK, hD⟩, hS.F ht⟩) hS.2.2 dX7_burn_38
set_option maxHeartbeats 4000000 in
set_option maxRecDepth 100000 in
theorem t_X7_fill (l : Launch) (dC : Nat → ClassId) (dI : Nat → Nat → Nat) (sz : Nat) (Ω : Nat → Nat → (Nat → Nat) → va_E → Prop) (κ : Nat → ClassId) (τ ν : Nat → Nat) (ρ : Nat → Nat → Nat) (L : List Nat) (f : Nat → va_E) (hG : tp_G τ ν ρ L) (hT : tp_T Ω κ τ ν ρ f) (h0 : Nat) (t : Int32) (v : Int32) (ht_h0 : τ h0 = 8) (hr_t : 0 ≤ t.toInt ∧ t.toInt ≤ 5) : Met l yX7_fill wqX7_fill ({ frames := 2, cells := 0, slots := 0, locals := 400 }) (va_Pc [.ref h0, .int t, .int v] (pz_B dC dI (tp_K κ) (va_pl L f) sz)) (va_Qv (fun (f1 : Nat → va_E) => tp_T Ω κ τ ν ρ f1 ∧ tp_F τ [8, 20] f f1 ∧ True) (fun (f1 : Nat → va_E) (t : State) => pz_E dC dI (tp_K κ) (va_A (va_pl L f) sz) (va_pl L f1) t) (va_A (va_pl L f) sz)) 0 0 (va_A (va_pl L f) sz) := by
  refine Met.ofW (cc := cX7_fill) (maxL := 3) (ret := none) (by decide) rfl ?_
  intro p e s m args below meth c s₁ B hml hv
  obtain ⟨rfl, hsz, hP, hK, hD0, hN⟩ := hv
  have hx := B.exec
  have hb := B.bytes
  have hr := B.returns
  have hts := fun (w : Cond) (h : w ∈ WALL) => atoms_spec (ws := wqX7_fill) B.pre w (List.mem_cons_of_mem _ h)
  have hown : s.vm.findClass RX7 = some m.cls := findClass_of_methodNamed B.named
  have hlocks := B.notSynchronized
  subst hsz
  have hD := hD0.self (sz := s.heap.size)
  generalize hAe : va_A (va_pl L f) s.heap.size = A at hD ⊢
  have hA : ∀ q : Nat, s.heap.size ≤ q → A q := fun q h => by rw [← hAe]; exact Or.inr h
  have hS : va_S A s.heap s.heap [] := va_S.rf
  have hR : tp_F τ [8, 20] f f := tp_F.rf
  have hl := lv_entry ([.ref h0, .int t, .int v]) (n := 3) (Nat.le_of_ble_eq_true rfl)
  rw [lg_entry_eq]
  generalize (lg_sl ([.ref h0, .int t, .int v]) ++ List.replicate (3 - (lg_sl ([.ref h0, .int t, .int v])).length) Slot.unset).toArray = ls at hl ⊢
  have hl : lv_has ls 3 [(0, .ref h0), (1, .int t), (2, .int v)] := hl
  refine lv_aload_n hx hb dX7_fill_0 rfl (lv_at hl 0 rfl) ?_
  refine lv_dup hx hb dX7_fill_1 rfl ?_
  refine tgk_8 hG ht_h0 (fun y1 y1n y2 y2n y3 y3n => ?_)
  refine tpk_8 hT ht_h0 (fun o4_x0 o4_x1 o4_x2 o4_x3 hf_o4 ro4_0 => ?_)
  refine tpk_pos (tp_in hG ht_h0 (by decide)) hf_o4 (fun q5 eq5 => ?_)
  refine va_get (D := (dC, dI)) (ci := 7) (v := .int o4_x1) (C := RX7) (T := TX7) (N := 7) hx hb hts hfX7 hown hK hP q5 eq5 rfl 1 (by decide) (hts (.fieldLink RX7 32 "ColdShips$Tank" "gas" "I") wa_254) (fun _ h9 => h9) rfl dX7_fill_2 ?_
  refine lv_iload_n hx hb dX7_fill_5 rfl (lv_at hl 2 rfl) ?_
  refine lv_iadd hx hb dX7_fill_6 ?_
  refine lv_topi (fun z6 ez6 => ?_)
  refine va_put (D := (dC, dI)) (ci := 7) (v := .int z6) (ty := .int) (C := RX7) (T := TX7) (N := 7) hx hb hts hfX7 tyX7 tyX7_ok nmX7 hown hK hP hD hS q5 eq5 rfl 1 (by decide) (hts (.fieldLink RX7 32 "ColdShips$Tank" "gas" "I") wa_254) (fun _ h9 => h9) rfl (tyX7_ok 1 (by decide)) rfl rfl (Nat.le_of_ble_eq_true rfl) dX7_fill_7 (tp_k (.inr (7, [.int o4_x0, .int z6, .int o4_x2, .int o4_x3, .ref (ρ h0 4), .ref (ρ h0 5), .ref (ρ h0 6)])) hD (tp_in hG ht_h0 (by decide)) eq5 (fun f7 H locs hP hD hS g9 k8 => ?_))
  have hT := hT.up ht_h0 g9 k8 ⟨_, _, _, _, rfl, ro4_0⟩
  have hR := hR.up ht_h0 (by decide) k8
  refine lv_aload_n hx hb dX7_fill_10 rfl (lv_at hl 0 rfl) ?_
  refine tpk_pos (tp_in hG ht_h0 (by decide)) g9 (fun q10 eq10 => ?_)
  refine va_get (D := (dC, dI)) (ci := 7) (v := .ref (ρ h0 4)) (C := RX7) (T := TX7) (N := 7) hx hb hts hfX7 hown hK hP q10 eq10 rfl 4 (by decide) (hts (.fieldLink RX7 15 "ColdShips$Tank" "parts" "[I") wa_107) (fun _ h9 => h9) rfl dX7_fill_11 ?_
  refine lv_iload_n hx hb dX7_fill_14 rfl (lv_at hl 1 rfl) ?_
  refine lv_dup2_11 hx hb dX7_fill_15 rfl rfl ?_
  refine tpk_20 hT y1 y1n (fun g12 hf_o11 => ?_)
  refine tpk_pos (tp_in hG y1 (by decide)) hf_o11 (fun q13 eq13 => ?_)
  refine va_iald hx hb hK hP q13 0 eq13 rfl (vp_in_iff.mpr ⟨by omega, by omega⟩) dX7_fill_16 ?_
  refine lv_topi (fun z14 ez14 => ?_)
  refine lv_iload_n hx hb dX7_fill_17 rfl (lv_at hl 2 rfl) ?_
  refine lv_iadd hx hb dX7_fill_18 ?_
  refine lv_topi (fun z15 ez15 => ?_)
  refine va_iast hx hb hK hP hD hS q13 0 eq13 rfl (vp_in_iff.mpr ⟨by omega, by omega⟩) dX7_fill_19 (tp_k (.inl (κ 0, 6, .inl (upd g12 t.toNatClampNeg z15))) hD (tp_in hG y1 (by decide)) eq13 (fun f16 H locs hP hD hS g18 k17 => ?_))
  have hT := hT.up y1 g18 k17 (tp_o20 y1n)
  have hR := hR.up y1 (by decide) k17
  generalize (upd g12 t.toNatClampNeg z15) = g19 at g18
  exact W.vret hx hb hr (fun t ht hW => ⟨⟨f16, rfl, ⟨hT, hR, trivial⟩, by rw [ht]; exact hP, va_K.moved hW.alike hK, hD⟩, hS.F ht⟩) hS.2.2 dX7_fill_20
set_option maxHeartbeats 4000000 in
set_option maxRecDepth 100000 in
theorem t_X7_vent (l : Launch) (dC : Nat → ClassId) (dI : Nat → Nat → Nat) (sz : Nat) (Ω : Nat → Nat → (Nat → Nat) → va_E → Prop) (κ : Nat → ClassId) (τ ν : Nat → Nat) (ρ : Nat → Nat → Nat) (L : List Nat) (f : Nat → va_E) (hG : tp_G τ ν ρ L) (hT : tp_T Ω κ τ ν ρ f) (h0 : Nat) (v : Int32) (ht_h0 : τ h0 = 8) : Met l yX7_vent wqX7_vent ({ frames := 3, cells := 0, slots := 0, locals := 800 }) (va_Pc [.ref h0, .int v] (pz_B dC dI (tp_K κ) (va_pl L f) sz)) (va_Qi (fun (r : Int32) (f1 : Nat → va_E) => tp_T Ω κ τ ν ρ f1 ∧ tp_F τ [8] f f1 ∧ True ∧ True) (fun (f1 : Nat → va_E) (t : State) => pz_E dC dI (tp_K κ) (va_A (va_pl L f) sz) (va_pl L f1) t) (va_A (va_pl L f) sz)) 0 0 (va_A (va_pl L f) sz) := by
  refine Met.ofW (cc := cX7_vent) (maxL := 4) (ret := some .int) (by decide) rfl ?_
  intro p e s m args below meth c s₁ B hml hv
  obtain ⟨rfl, hsz, hP, hK, hD0, hN⟩ := hv
  have hx := B.exec
  have hb := B.bytes
  have hr := B.returns
  have hts := fun (w : Cond) (h : w ∈ WALL) => atoms_spec (ws := wqX7_vent) B.pre w (List.mem_cons_of_mem _ h)
  have hown : s.vm.findClass RX7 = some m.cls := findClass_of_methodNamed B.named
  have hlocks := B.notSynchronized
  subst hsz
  have hD := hD0.self (sz := s.heap.size)
  generalize hAe : va_A (va_pl L f) s.heap.size = A at hD ⊢
  have hA : ∀ q : Nat, s.heap.size ≤ q → A q := fun q h => by rw [← hAe]; exact Or.inr h
  have hS : va_S A s.heap s.heap [] := va_S.rf
  have hR : tp_F τ [8] f f := tp_F.rf
  have hl := lv_entry ([.ref h0, .int v]) (n := 4) (Nat.le_of_ble_eq_true rfl)
  rw [lg_entry_eq]
  generalize (lg_sl ([.ref h0, .int v]) ++ List.replicate (4 - (lg_sl ([.ref h0, .int v])).length) Slot.unset).toArray = ls at hl ⊢
  have hl : lv_has ls 4 [(0, .ref h0), (1, .int v)] := hl
  refine lv_iload_n hx hb dX7_vent_0 rfl (lv_at hl 1 rfl) ?_
  refine lv_i2l hx hb dX7_vent_1 rfl ?_
  refine lv_lconst (v := 1) hx hb dX7_vent_2 (by decide) ?_
  refine lv_ladd hx hb dX7_vent_3 ?_
  refine lv_topl (fun z1 ez1 => ?_)
  refine lv_aload_n hx hb dX7_vent_4 rfl (lv_at hl 0 rfl) ?_
  refine tgk_8 hG ht_h0 (fun y2 y2n y3 y3n y4 y4n => ?_)
  refine tpk_8 hT ht_h0 (fun o5_x0 o5_x1 o5_x2 o5_x3 hf_o5 ro5_0 => ?_)
  refine tpk_pos (tp_in hG ht_h0 (by decide)) hf_o5 (fun q6 eq6 => ?_)
  refine pz_calli (va_runV (As := []) (rest := [.long z1]) ⟨hx, hb, hml, hown, hts⟩ (t_X7_space l dC dI _ Ω κ τ ν ρ L f hG hT h0 ht_h0) (cwV 0 hts gX7_vent_X7_space rfl rfl rfl ⟨rfl, pd_X7_space⟩ ⟨Nat.le_of_ble_eq_true rfl, Nat.le_of_ble_eq_true rfl⟩) ⟨pz_blind, va_recv hK hP (ci := 7) (q0 := q6) rfl eq6, pz_pre hP hK hD hN⟩ rfl rfl hl.1 rfl (lv_room (Nat.le_of_ble_eq_true rfl)) dX7_vent_5 ⟨Nat.le_of_ble_eq_true rfl, Nat.le_of_ble_eq_true rfl⟩) (fun r7 hw8 => ?_)
  obtain ⟨hw8r, hw8p⟩ := hw8
  refine lv_i2l hx hb dX7_vent_8 rfl ?_
  refine lv_lmul hx hb dX7_vent_9 ?_
  refine lv_topl (fun z9 ez9 => ?_)
  refine lv_lconst (v := 1) hx hb dX7_vent_10 (by decide) ?_
  refine lv_lsub hx hb dX7_vent_11 ?_
  refine lv_topl (fun z10 ez10 => ?_)
  refine lv_ldc2 (own := RX7) (v := 1000) hx hb hown (hts (.constantLong RX7 47 (1000)) wa_537) dX7_vent_12 ?_
  refine lv_ldiv hx hb dX7_vent_15 (by decide) ?_
  refine lv_topl (fun z11 ez11 => ?_)
  refine lv_l2i hx hb dX7_vent_16 rfl ?_
  refine lv_topi (fun z12 ez12 => ?_)
  refine lv_istore_n (lv' := [(2, .int z12), (0, .ref h0), (1, .int v)]) hx hb dX7_vent_17 rfl hl (by decide) rfl (fun ls hl => ?_)
  refine lv_iconst (v := 0) hx hb dX7_vent_18 (by decide) ?_
  refine lv_aload_n hx hb dX7_vent_19 rfl (lv_at hl 1 rfl) ?_
  refine va_get (D := (dC, dI)) (ci := 7) (v := .int o5_x2) (C := RX7) (T := TX7) (N := 7) hx hb hts hfX7 hown hK hP q6 eq6 rfl 2 (by decide) (hts (.fieldLink RX7 35 "ColdShips$Tank" "vapor" "I") wa_255) (fun _ h9 => h9) rfl dX7_vent_20 ?_
  refine lv_iload_n hx hb dX7_vent_23 rfl (lv_at hl 0 rfl) ?_
  refine lv_isub hx hb dX7_vent_24 ?_
  refine lv_topi (fun z13 ez13 => ?_)
  refine va_mmax hx hb (by rw [hml]; exact hl.1.symm) hown (hts (.methodLink RX7 26 Lib.Math.max.name) wa_253) (hts (.static Lib.Math.max.name) wa_70) (hts (.initialized "java/lang/Math") wa_71) (hts (.code Lib.Math.max.name Lib.Math.max.code 2 (some .int)) wa_72) (Nat.le_of_ble_eq_true rfl) (Nat.le_of_ble_eq_true rfl) (Nat.le_of_ble_eq_true rfl) (Nat.le_of_ble_eq_true rfl) dX7_vent_25 ?_
  refine lv_topi (fun z14 ez14 => ?_)
  have iz14 := zi_max ez14 (show (0 : Int32).toInt = 0 from rfl) (rfl : z13.toInt = _)
  refine lv_istore_n (lv' := [(3, .int z14), (2, .int z12), (0, .ref h0), (1, .int v)]) hx hb dX7_vent_28 rfl hl (by decide) rfl (fun ls hl => ?_)
  refine lv_aload_n hx hb dX7_vent_29 rfl (lv_at hl 2 rfl) ?_
  refine lv_dup hx hb dX7_vent_30 rfl ?_
  refine va_get (D := (dC, dI)) (ci := 7) (v := .int o5_x2) (C := RX7) (T := TX7) (N := 7) hx hb hts hfX7 hown hK hP q6 eq6 rfl 2 (by decide) (hts (.fieldLink RX7 35 "ColdShips$Tank" "vapor" "I") wa_255) (fun _ h9 => h9) rfl dX7_vent_31 ?_
  refine lv_iload_n hx hb dX7_vent_34 rfl (lv_at hl 0 rfl) ?_
  refine lv_isub hx hb dX7_vent_35 ?_
  refine lv_topi (fun z15 ez15 => ?_)
  refine va_put (D := (dC, dI)) (ci := 7) (v := .int z15) (ty := .int) (C := RX7) (T := TX7) (N := 7) hx hb hts hfX7 tyX7 tyX7_ok nmX7 hown hK hP hD hS q6 eq6 rfl 2 (by decide) (hts (.fieldLink RX7 35 "ColdShips$Tank" "vapor" "I") wa_255) (fun _ h9 => h9) rfl (tyX7_ok 2 (by decide)) rfl rfl (Nat.le_of_ble_eq_true rfl) dX7_vent_36 (tp_k (.inr (7, [.int o5_x0, .int o5_x1, .int z15, .int o5_x3, .ref (ρ h0 4), .ref (ρ h0 5), .ref (ρ h0 6)])) hD (tp_in hG ht_h0 (by decide)) eq6 (fun f16 H locs hP hD hS g18 k17 => ?_))
  have hT := hT.up ht_h0 g18 k17 ⟨_, _, _, _, rfl, ro5_0⟩
  have hR := hR.up ht_h0 (by decide) k17
  refine lv_iload_n hx hb dX7_vent_39 rfl (lv_at hl 0 rfl) ?_
  exact W.iret (v := z14) hx hb hr (fun t ht hW => ⟨⟨z14, f16, rfl, ⟨hT, hR, trivial, trivial⟩, by rw [ht]; exact hP, va_K.moved hW.alike hK, hD⟩, hS.F ht⟩) hS.2.2 dX7_vent_40
set_option maxHeartbeats 4000000 in
set_option maxRecDepth 100000 in
theorem t_X7_copyFrom (l : Launch) (dC : Nat → ClassId) (dI : Nat → Nat → Nat) (sz : Nat) (Ω : Nat → Nat → (Nat → Nat) → va_E → Prop) (κ : Nat → ClassId) (τ ν : Nat → Nat) (ρ : Nat → Nat → Nat) (L : List Nat) (f : Nat → va_E) (hG : tp_G τ ν ρ L) (hT : tp_T Ω κ τ ν ρ f) (h0 : Nat) (h1 : Nat) (ht_h0 : τ h0 = 8) (ht_h1 : τ h1 = 8) : Met l yX7_copyFrom wqX7_copyFrom ({ frames := 2, cells := 0, slots := 0, locals := 400 }) (va_Pc [.ref h0, .ref h1] (pz_B dC dI (tp_K κ) (va_pl L f) sz)) (va_Qv (fun (f1 : Nat → va_E) => tp_T Ω κ τ ν ρ f1 ∧ tp_F τ [8, 20] f f1 ∧ True) (fun (f1 : Nat → va_E) (t : State) => pz_E dC dI (tp_K κ) (va_A (va_pl L f) sz) (va_pl L f1) t) (va_A (va_pl L f) sz)) 0 0 (va_A (va_pl L f) sz) := by
  refine Met.ofW (cc := cX7_copyFrom) (maxL := 2) (ret := none) (by decide) rfl ?_
  intro p e s m args below meth c s₁ B hml hv
  obtain ⟨rfl, hsz, hP, hK, hD0, hN⟩ := hv
  have hx := B.exec
  have hb := B.bytes
  have hr := B.returns
  have hts := fun (w : Cond) (h : w ∈ WALL) => atoms_spec (ws := wqX7_copyFrom) B.pre w (List.mem_cons_of_mem _ h)
  have hown : s.vm.findClass RX7 = some m.cls := findClass_of_methodNamed B.named
  have hlocks := B.notSynchronized
  subst hsz
  have hD := hD0.self (sz := s.heap.size)
  generalize hAe : va_A (va_pl L f) s.heap.size = A at hD ⊢
  have hA : ∀ q : Nat, s.heap.size ≤ q → A q := fun q h => by rw [← hAe]; exact Or.inr h
  have hS : va_S A s.heap s.heap [] := va_S.rf
  have hR : tp_F τ [8, 20] f f := tp_F.rf
  have hl := lv_entry ([.ref h0, .ref h1]) (n := 2) (Nat.le_of_ble_eq_true rfl)
  rw [lg_entry_eq]
  generalize (lg_sl ([.ref h0, .ref h1]) ++ List.replicate (2 - (lg_sl ([.ref h0, .ref h1])).length) Slot.unset).toArray = ls at hl ⊢
  have hl : lv_has ls 2 [(0, .ref h0), (1, .ref h1)] := hl
  refine lv_aload_n hx hb dX7_copyFrom_0 rfl (lv_at hl 0 rfl) ?_
  refine lv_aload_n hx hb dX7_copyFrom_1 rfl (lv_at hl 1 rfl) ?_
  refine tgk_8 hG ht_h1 (fun y1 y1n y2 y2n y3 y3n => ?_)
  refine tpk_8 hT ht_h1 (fun o4_x0 o4_x1 o4_x2 o4_x3 hf_o4 ro4_0 => ?_)
  refine tpk_pos (tp_in hG ht_h1 (by decide)) hf_o4 (fun q5 eq5 => ?_)
  have ro4_0 := tp_hu ro4_0
  refine va_get (D := (dC, dI)) (ci := 7) (v := .int o4_x0) (C := RX7) (T := TX7) (N := 7) hx hb hts hfX7 hown hK hP q5 eq5 rfl 0 (by decide) (hts (.fieldLink RX7 9 "ColdShips$Tank" "cap" "I") wa_106) (fun _ h9 => h9) rfl dX7_copyFrom_2 ?_
  refine tgk_8 hG ht_h0 (fun y6 y6n y7 y7n y8 y8n => ?_)
  refine tpk_8 hT ht_h0 (fun o9_x0 o9_x1 o9_x2 o9_x3 hf_o9 ro9_0 => ?_)
  refine tpk_pos (tp_in hG ht_h0 (by decide)) hf_o9 (fun q10 eq10 => ?_)
  refine va_put (D := (dC, dI)) (ci := 7) (v := .int o4_x0) (ty := .int) (C := RX7) (T := TX7) (N := 7) hx hb hts hfX7 tyX7 tyX7_ok nmX7 hown hK hP hD hS q10 eq10 rfl 0 (by decide) (hts (.fieldLink RX7 9 "ColdShips$Tank" "cap" "I") wa_106) (fun _ h9 => h9) rfl (tyX7_ok 0 (by decide)) rfl rfl (Nat.le_of_ble_eq_true rfl) dX7_copyFrom_5 (tp_k (.inr (7, [.int o4_x0, .int o9_x1, .int o9_x2, .int o9_x3, .ref (ρ h0 4), .ref (ρ h0 5), .ref (ρ h0 6)])) hD (tp_in hG ht_h0 (by decide)) eq10 (fun f11 H locs hP hD hS g13 k12 => ?_))
  have hT := hT.up ht_h0 g13 k12 ⟨_, _, _, _, rfl, ro4_0⟩
  have hR := hR.up ht_h0 (by decide) k12
  refine lv_aload_n hx hb dX7_copyFrom_8 rfl (lv_at hl 0 rfl) ?_
  refine lv_aload_n hx hb dX7_copyFrom_9 rfl (lv_at hl 1 rfl) ?_
  refine tpk_8 hT ht_h1 (fun o14_x0 o14_x1 o14_x2 o14_x3 hf_o14 ro14_0 => ?_)
  refine tpk_pos (tp_in hG ht_h1 (by decide)) hf_o14 (fun q15 eq15 => ?_)
  refine va_get (D := (dC, dI)) (ci := 7) (v := .int o14_x1) (C := RX7) (T := TX7) (N := 7) hx hb hts hfX7 hown hK hP q15 eq15 rfl 1 (by decide) (hts (.fieldLink RX7 32 "ColdShips$Tank" "gas" "I") wa_254) (fun _ h9 => h9) rfl dX7_copyFrom_10 ?_
  refine tpk_pos (tp_in hG ht_h0 (by decide)) g13 (fun q16 eq16 => ?_)
  refine va_put (D := (dC, dI)) (ci := 7) (v := .int o14_x1) (ty := .int) (C := RX7) (T := TX7) (N := 7) hx hb hts hfX7 tyX7 tyX7_ok nmX7 hown hK hP hD hS q16 eq16 rfl 1 (by decide) (hts (.fieldLink RX7 32 "ColdShips$Tank" "gas" "I") wa_254) (fun _ h9 => h9) rfl (tyX7_ok 1 (by decide)) rfl rfl (Nat.le_of_ble_eq_true rfl) dX7_copyFrom_13 (tp_k (.inr (7, [.int o4_x0, .int o14_x1, .int o9_x2, .int o9_x3, .ref (ρ h0 4), .ref (ρ h0 5), .ref (ρ h0 6)])) hD (tp_in hG ht_h0 (by decide)) eq16 (fun f17 H locs hP hD hS g19 k18 => ?_))
  have hT := hT.up ht_h0 g19 k18 ⟨_, _, _, _, rfl, ro4_0⟩
  have hR := hR.up ht_h0 (by decide) k18
  refine lv_aload_n hx hb dX7_copyFrom_16 rfl (lv_at hl 0 rfl) ?_
  refine lv_aload_n hx hb dX7_copyFrom_17 rfl (lv_at hl 1 rfl) ?_
  refine tpk_8 hT ht_h1 (fun o20_x0 o20_x1 o20_x2 o20_x3 hf_o20 ro20_0 => ?_)
  refine tpk_pos (tp_in hG ht_h1 (by decide)) hf_o20 (fun q21 eq21 => ?_)
  refine va_get (D := (dC, dI)) (ci := 7) (v := .int o20_x2) (C := RX7) (T := TX7) (N := 7) hx hb hts hfX7 hown hK hP q21 eq21 rfl 2 (by decide) (hts (.fieldLink RX7 35 "ColdShips$Tank" "vapor" "I") wa_255) (fun _ h9 => h9) rfl dX7_copyFrom_18 ?_
  refine tpk_pos (tp_in hG ht_h0 (by decide)) g19 (fun q22 eq22 => ?_)
  refine va_put (D := (dC, dI)) (ci := 7) (v := .int o20_x2) (ty := .int) (C := RX7) (T := TX7) (N := 7) hx hb hts hfX7 tyX7 tyX7_ok nmX7 hown hK hP hD hS q22 eq22 rfl 2 (by decide) (hts (.fieldLink RX7 35 "ColdShips$Tank" "vapor" "I") wa_255) (fun _ h9 => h9) rfl (tyX7_ok 2 (by decide)) rfl rfl (Nat.le_of_ble_eq_true rfl) dX7_copyFrom_21 (tp_k (.inr (7, [.int o4_x0, .int o14_x1, .int o20_x2, .int o9_x3, .ref (ρ h0 4), .ref (ρ h0 5), .ref (ρ h0 6)])) hD (tp_in hG ht_h0 (by decide)) eq22 (fun f23 H locs hP hD hS g25 k24 => ?_))
  have hT := hT.up ht_h0 g25 k24 ⟨_, _, _, _, rfl, ro4_0⟩
  have hR := hR.up ht_h0 (by decide) k24
  refine lv_aload_n hx hb dX7_copyFrom_24 rfl (lv_at hl 0 rfl) ?_
  refine lv_aload_n hx hb dX7_copyFrom_25 rfl (lv_at hl 1 rfl) ?_
  refine tpk_8 hT ht_h1 (fun o26_x0 o26_x1 o26_x2 o26_x3 hf_o26 ro26_0 => ?_)
  refine tpk_pos (tp_in hG ht_h1 (by decide)) hf_o26 (fun q27 eq27 => ?_)
  refine va_get (D := (dC, dI)) (ci := 7) (v := .int o26_x3) (C := RX7) (T := TX7) (N := 7) hx hb hts hfX7 hown hK hP q27 eq27 rfl 3 (by decide) (hts (.fieldLink RX7 38 "ColdShips$Tank" "warm" "I") wa_256) (fun _ h9 => h9) rfl dX7_copyFrom_26 ?_
  refine tpk_pos (tp_in hG ht_h0 (by decide)) g25 (fun q28 eq28 => ?_)
  refine va_put (D := (dC, dI)) (ci := 7) (v := .int o26_x3) (ty := .int) (C := RX7) (T := TX7) (N := 7) hx hb hts hfX7 tyX7 tyX7_ok nmX7 hown hK hP hD hS q28 eq28 rfl 3 (by decide) (hts (.fieldLink RX7 38 "ColdShips$Tank" "warm" "I") wa_256) (fun _ h9 => h9) rfl (tyX7_ok 3 (by decide)) rfl rfl (Nat.le_of_ble_eq_true rfl) dX7_copyFrom_29 (tp_k (.inr (7, [.int o4_x0, .int o14_x1, .int o20_x2, .int o26_x3, .ref (ρ h0 4), .ref (ρ h0 5), .ref (ρ h0 6)])) hD (tp_in hG ht_h0 (by decide)) eq28 (fun f29 H locs hP hD hS g31 k30 => ?_))
  have hT := hT.up ht_h0 g31 k30 ⟨_, _, _, _, rfl, ro4_0⟩
  have hR := hR.up ht_h0 (by decide) k30
  refine lv_aload_n hx hb dX7_copyFrom_32 rfl (lv_at hl 1 rfl) ?_
  refine tpk_8 hT ht_h1 (fun o32_x0 o32_x1 o32_x2 o32_x3 hf_o32 ro32_0 => ?_)
  refine tpk_pos (tp_in hG ht_h1 (by decide)) hf_o32 (fun q33 eq33 => ?_)
  refine va_get (D := (dC, dI)) (ci := 7) (v := .ref (ρ h1 4)) (C := RX7) (T := TX7) (N := 7) hx hb hts hfX7 hown hK hP q33 eq33 rfl 4 (by decide) (hts (.fieldLink RX7 15 "ColdShips$Tank" "parts" "[I") wa_107) (fun _ h9 => h9) rfl dX7_copyFrom_33 ?_
  refine lv_iconst (v := 0) hx hb dX7_copyFrom_36 (by decide) ?_
  refine lv_aload_n hx hb dX7_copyFrom_37 rfl (lv_at hl 0 rfl) ?_
  refine tpk_pos (tp_in hG ht_h0 (by decide)) g31 (fun q34 eq34 => ?_)
  refine va_get (D := (dC, dI)) (ci := 7) (v := .ref (ρ h0 4)) (C := RX7) (T := TX7) (N := 7) hx hb hts hfX7 hown hK hP q34 eq34 rfl 4 (by decide) (hts (.fieldLink RX7 15 "ColdShips$Tank" "parts" "[I") wa_107) (fun _ h9 => h9) rfl dX7_copyFrom_38 ?_
  refine lv_iconst (v := 0) hx hb dX7_copyFrom_41 (by decide) ?_
  refine lv_bipush (v := 6) hx hb dX7_copyFrom_42 (by decide) ?_
  refine tpk_20 hT y1 y1n (fun g36 hf_o35 => ?_)
  refine tpk_20 hT y6 y6n (fun g38 hf_o37 => ?_)
  refine tpk_pos (tp_in hG y1 (by decide)) hf_o35 (fun q39 eq39 => ?_)
  refine tpk_pos (tp_in hG y6 (by decide)) hf_o37 (fun q40 eq40 => ?_)
  refine va_copyi hx hb (by rw [hml]; exact hl.1.symm) hown (hts (.methodLink RX7 74 arraycopyName) wa_1511) (hts (.native arraycopyName) wa_465) (hts (.static arraycopyName) wa_466) (hts (.initialized "java/lang/System") wa_467) hK hP hD hS q39 q40 0 0 eq39 eq40 rfl rfl rfl (by decide) (by decide) (by decide) (by decide) (by decide) (fun _ _ => rfl) (Nat.le_of_ble_eq_true rfl) (Nat.le_of_ble_eq_true rfl) dX7_copyFrom_44 (tp_k (.inl (κ 0, 6, .inl (va_cpy g36 g38 (0 : Int32).toNatClampNeg (0 : Int32).toNatClampNeg (6 : Int32).toNatClampNeg))) hD (tp_in hG y6 (by decide)) eq40 (fun f41 H locs hP hD hS g43 k42 => ?_))
  have hT := hT.up y6 g43 k42 (tp_o20 y6n)
  have hR := hR.up y6 (by decide) k42
  generalize (va_cpy g36 g38 (0 : Int32).toNatClampNeg (0 : Int32).toNatClampNeg (6 : Int32).toNatClampNeg) = g44 at g43
  exact W.vret hx hb hr (fun t ht hW => ⟨⟨f41, rfl, ⟨hT, hR, trivial⟩, by rw [ht]; exact hP, va_K.moved hW.alike hK, hD⟩, hS.F ht⟩) hS.2.2 dX7_copyFrom_47
end
section
theorem dX4_has_0 : decode cX4_has 0 = .ok (.iload_n 1, 1) := od_27  (by decide +kernel)
theorem dX4_has_1 : decode cX4_has 1 = .ok (.ifCond .lt 15, 3) := od_155 (a := 0) (b := 15) (by decide +kernel) (by decide +kernel)
theorem dX4_has_4 : decode cX4_has 4 = .ok (.iload_n 1, 1) := od_27  (by decide +kernel)
theorem dX4_has_5 : decode cX4_has 5 = .ok (.aload_n 0, 1) := od_42  (by decide +kernel)
theorem dX4_has_6 : decode cX4_has 6 = .ok (.getfield 25, 3) := od_180 (a := 0) (b := 25) (by decide +kernel) (by decide)
theorem dX4_has_9 : decode cX4_has 9 = .ok (.if_icmp .ge 7, 3) := od_162 (a := 0) (b := 7) (by decide +kernel) (by decide +kernel)
theorem dX4_has_12 : decode cX4_has 12 = .ok (.iconst 1, 1) := od_4  (by decide +kernel)
theorem dX4_has_13 : decode cX4_has 13 = .ok (.goto 4, 3) := od_167 (a := 0) (b := 4) (by decide +kernel) (by decide +kernel)
theorem dX4_has_16 : decode cX4_has 16 = .ok (.iconst 0, 1) := od_3  (by decide +kernel)
theorem dX4_has_17 : decode cX4_has 17 = .ok (.ireturn, 1) := od_172  (by decide +kernel)
theorem dX4_at_0 : decode cX4_at 0 = .ok (.iload_n 1, 1) := od_27  (by decide +kernel)
theorem dX4_at_1 : decode cX4_at 1 = .ok (.ifCond .lt 27, 3) := od_155 (a := 0) (b := 27) (by decide +kernel) (by decide +kernel)
theorem dX4_at_4 : decode cX4_at 4 = .ok (.iload_n 1, 1) := od_27  (by decide +kernel)
theorem dX4_at_5 : decode cX4_at 5 = .ok (.aload_n 0, 1) := od_42  (by decide +kernel)
theorem dX4_at_6 : decode cX4_at 6 = .ok (.getfield 25, 3) := od_180 (a := 0) (b := 25) (by decide +kernel) (by decide)
theorem dX4_at_9 : decode cX4_at 9 = .ok (.if_icmp .ge 19, 3) := od_162 (a := 0) (b := 19) (by decide +kernel) (by decide +kernel)
theorem dX4_at_12 : decode cX4_at 12 = .ok (.iload_n 2, 1) := od_28  (by decide +kernel)
theorem dX4_at_13 : decode cX4_at 13 = .ok (.ifCond .lt 15, 3) := od_155 (a := 0) (b := 15) (by decide +kernel) (by decide +kernel)
theorem dX4_at_16 : decode cX4_at 16 = .ok (.iload_n 2, 1) := od_28  (by decide +kernel)
theorem dX4_at_17 : decode cX4_at 17 = .ok (.aload_n 0, 1) := od_42  (by decide +kernel)
theorem dX4_at_18 : decode cX4_at 18 = .ok (.getfield 15, 3) := od_180 (a := 0) (b := 15) (by decide +kernel) (by decide)
theorem dX4_at_21 : decode cX4_at 21 = .ok (.if_icmp .ge 7, 3) := od_162 (a := 0) (b := 7) (by decide +kernel) (by decide +kernel)
theorem dX4_at_24 : decode cX4_at 24 = .ok (.iconst 1, 1) := od_4  (by decide +kernel)
theorem dX4_at_25 : decode cX4_at 25 = .ok (.goto 4, 3) := od_167 (a := 0) (b := 4) (by decide +kernel) (by decide +kernel)
theorem dX4_at_28 : decode cX4_at 28 = .ok (.iconst 0, 1) := od_3  (by decide +kernel)
theorem dX4_at_29 : decode cX4_at 29 = .ok (.istore_n 3, 1) := od_62  (by decide +kernel)
theorem dX4_at_30 : decode cX4_at 30 = .ok (.iload_n 3, 1) := od_29  (by decide +kernel)
theorem dX4_at_31 : decode cX4_at 31 = .ok (.ifCond .eq 19, 3) := od_153 (a := 0) (b := 19) (by decide +kernel) (by decide +kernel)
theorem dX4_at_34 : decode cX4_at 34 = .ok (.aload_n 0, 1) := od_42  (by decide +kernel)
theorem dX4_at_35 : decode cX4_at 35 = .ok (.getfield 21, 3) := od_180 (a := 0) (b := 21) (by decide +kernel) (by decide)
theorem dX4_at_38 : decode cX4_at 38 = .ok (.iload_n 1, 1) := od_27  (by decide +kernel)
theorem dX4_at_39 : decode cX4_at 39 = .ok (.aload_n 0, 1) := od_42  (by decide +kernel)
theorem dX4_at_40 : decode cX4_at 40 = .ok (.getfield 15, 3) := od_180 (a := 0) (b := 15) (by decide +kernel) (by decide)
theorem dX4_at_43 : decode cX4_at 43 = .ok (.imul, 1) := od_104  (by decide +kernel)
theorem dX4_at_44 : decode cX4_at 44 = .ok (.iload_n 2, 1) := od_28  (by decide +kernel)
theorem dX4_at_45 : decode cX4_at 45 = .ok (.iadd, 1) := od_96  (by decide +kernel)
theorem dX4_at_46 : decode cX4_at 46 = .ok (.laload, 1) := od_47  (by decide +kernel)
theorem dX4_at_47 : decode cX4_at 47 = .ok (.goto 4, 3) := od_167 (a := 0) (b := 4) (by decide +kernel) (by decide +kernel)
theorem dX4_at_50 : decode cX4_at 50 = .ok (.lconst 0, 1) := od_9  (by decide +kernel)
theorem dX4_at_51 : decode cX4_at 51 = .ok (.lreturn, 1) := od_173  (by decide +kernel)
theorem gX4_number_X4_at : GoodIn WALL (wsV RX4 34 RX4 yX4_at wqX4_at) := wg_V wa_682 wa_683 wa_684 wa_56 wa_685
theorem dX4_number_0 : decode cX4_number 0 = .ok (.aload_n 0, 1) := od_42  (by decide +kernel)
theorem dX4_number_1 : decode cX4_number 1 = .ok (.iload_n 1, 1) := od_27  (by decide +kernel)
theorem dX4_number_2 : decode cX4_number 2 = .ok (.iload_n 2, 1) := od_28  (by decide +kernel)
theorem dX4_number_3 : decode cX4_number 3 = .ok (.invokevirtual 34, 3) := od_182 (a := 0) (b := 34) (by decide +kernel) (by decide)
theorem dX4_number_6 : decode cX4_number 6 = .ok (.l2i, 1) := od_136  (by decide +kernel)
theorem dX4_number_7 : decode cX4_number 7 = .ok (.ireturn, 1) := od_172  (by decide +kernel)
theorem gX4_set_X4_has : GoodIn WALL (wsV RX4 38 RX4 yX4_has wqX4_has) := wg_V wa_528 wa_529 wa_530 wa_56 wa_531
theorem dX4_set_0 : decode cX4_set 0 = .ok (.aload_n 0, 1) := od_42  (by decide +kernel)
theorem dX4_set_1 : decode cX4_set 1 = .ok (.iload_n 1, 1) := od_27  (by decide +kernel)
theorem dX4_set_2 : decode cX4_set 2 = .ok (.invokevirtual 38, 3) := od_182 (a := 0) (b := 38) (by decide +kernel) (by decide)
theorem dX4_set_5 : decode cX4_set 5 = .ok (.ifCond .eq 29, 3) := od_153 (a := 0) (b := 29) (by decide +kernel) (by decide +kernel)
theorem dX4_set_8 : decode cX4_set 8 = .ok (.iload_n 2, 1) := od_28  (by decide +kernel)
theorem dX4_set_9 : decode cX4_set 9 = .ok (.ifCond .lt 25, 3) := od_155 (a := 0) (b := 25) (by decide +kernel) (by decide +kernel)
theorem dX4_set_12 : decode cX4_set 12 = .ok (.iload_n 2, 1) := od_28  (by decide +kernel)
theorem dX4_set_13 : decode cX4_set 13 = .ok (.aload_n 0, 1) := od_42  (by decide +kernel)
theorem dX4_set_14 : decode cX4_set 14 = .ok (.getfield 15, 3) := od_180 (a := 0) (b := 15) (by decide +kernel) (by decide)
theorem dX4_set_17 : decode cX4_set 17 = .ok (.if_icmp .ge 17, 3) := od_162 (a := 0) (b := 17) (by decide +kernel) (by decide +kernel)
theorem dX4_set_20 : decode cX4_set 20 = .ok (.aload_n 0, 1) := od_42  (by decide +kernel)
theorem dX4_set_21 : decode cX4_set 21 = .ok (.getfield 21, 3) := od_180 (a := 0) (b := 21) (by decide +kernel) (by decide)
theorem dX4_set_24 : decode cX4_set 24 = .ok (.iload_n 1, 1) := od_27  (by decide +kernel)
theorem dX4_set_25 : decode cX4_set 25 = .ok (.aload_n 0, 1) := od_42  (by decide +kernel)
theorem dX4_set_26 : decode cX4_set 26 = .ok (.getfield 15, 3) := od_180 (a := 0) (b := 15) (by decide +kernel) (by decide)
theorem dX4_set_29 : decode cX4_set 29 = .ok (.imul, 1) := od_104  (by decide +kernel)
theorem dX4_set_30 : decode cX4_set 30 = .ok (.iload_n 2, 1) := od_28  (by decide +kernel)
theorem dX4_set_31 : decode cX4_set 31 = .ok (.iadd, 1) := od_96  (by decide +kernel)
theorem dX4_set_32 : decode cX4_set 32 = .ok (.lload_n 3, 1) := od_33  (by decide +kernel)
theorem dX4_set_33 : decode cX4_set 33 = .ok (.lastore, 1) := od_80  (by decide +kernel)
theorem dX4_set_34 : decode cX4_set 34 = .ok (.return_, 1) := od_177  (by decide +kernel)
theorem dX6_add_0 : decode cX6_add 0 = .ok (.aload_n 0, 1) := od_42  (by decide +kernel)
theorem dX6_add_1 : decode cX6_add 1 = .ok (.getfield 27, 3) := od_180 (a := 0) (b := 27) (by decide +kernel) (by decide)
theorem dX6_add_4 : decode cX6_add 4 = .ok (.aload_n 0, 1) := od_42  (by decide +kernel)
theorem dX6_add_5 : decode cX6_add 5 = .ok (.getfield 15, 3) := od_180 (a := 0) (b := 15) (by decide +kernel) (by decide)
theorem dX6_add_8 : decode cX6_add 8 = .ok (.arraylength, 1) := od_190  (by decide +kernel)
theorem dX6_add_9 : decode cX6_add 9 = .ok (.if_icmp .lt 5, 3) := od_161 (a := 0) (b := 5) (by decide +kernel) (by decide +kernel)
theorem dX6_add_12 : decode cX6_add 12 = .ok (.iconst (-1), 1) := od_2  (by decide +kernel)
theorem dX6_add_13 : decode cX6_add 13 = .ok (.ireturn, 1) := od_172  (by decide +kernel)
theorem dX6_add_14 : decode cX6_add 14 = .ok (.aload_n 0, 1) := od_42  (by decide +kernel)
theorem dX6_add_15 : decode cX6_add 15 = .ok (.getfield 27, 3) := od_180 (a := 0) (b := 27) (by decide +kernel) (by decide)
theorem dX6_add_18 : decode cX6_add 18 = .ok (.istore 4, 2) := od_54 (n := 4) (by decide +kernel)
theorem dX6_add_20 : decode cX6_add 20 = .ok (.iload 4, 2) := od_21 (n := 4) (by decide +kernel)
theorem dX6_add_22 : decode cX6_add 22 = .ok (.ifCond .le 70, 3) := od_158 (a := 0) (b := 70) (by decide +kernel) (by decide +kernel)
theorem dX6_add_25 : decode cX6_add 25 = .ok (.aload_n 0, 1) := od_42  (by decide +kernel)
theorem dX6_add_26 : decode cX6_add 26 = .ok (.getfield 21, 3) := od_180 (a := 0) (b := 21) (by decide +kernel) (by decide)
theorem dX6_add_29 : decode cX6_add 29 = .ok (.iload 4, 2) := od_21 (n := 4) (by decide +kernel)
theorem dX6_add_31 : decode cX6_add 31 = .ok (.iconst 1, 1) := od_4  (by decide +kernel)
theorem dX6_add_32 : decode cX6_add 32 = .ok (.isub, 1) := od_100  (by decide +kernel)
theorem dX6_add_33 : decode cX6_add 33 = .ok (.iaload, 1) := od_46  (by decide +kernel)
theorem dX6_add_34 : decode cX6_add 34 = .ok (.iload_n 2, 1) := od_28  (by decide +kernel)
theorem dX6_add_35 : decode cX6_add 35 = .ok (.if_icmp .le 57, 3) := od_164 (a := 0) (b := 57) (by decide +kernel) (by decide +kernel)
theorem dX6_add_38 : decode cX6_add 38 = .ok (.aload_n 0, 1) := od_42  (by decide +kernel)
theorem dX6_add_39 : decode cX6_add 39 = .ok (.getfield 15, 3) := od_180 (a := 0) (b := 15) (by decide +kernel) (by decide)
theorem dX6_add_42 : decode cX6_add 42 = .ok (.iload 4, 2) := od_21 (n := 4) (by decide +kernel)
theorem dX6_add_44 : decode cX6_add 44 = .ok (.aload_n 0, 1) := od_42  (by decide +kernel)
theorem dX6_add_45 : decode cX6_add 45 = .ok (.getfield 15, 3) := od_180 (a := 0) (b := 15) (by decide +kernel) (by decide)
theorem dX6_add_48 : decode cX6_add 48 = .ok (.iload 4, 2) := od_21 (n := 4) (by decide +kernel)
theorem dX6_add_50 : decode cX6_add 50 = .ok (.iconst 1, 1) := od_4  (by decide +kernel)
theorem dX6_add_51 : decode cX6_add 51 = .ok (.isub, 1) := od_100  (by decide +kernel)
theorem dX6_add_52 : decode cX6_add 52 = .ok (.iaload, 1) := od_46  (by decide +kernel)
theorem dX6_add_53 : decode cX6_add 53 = .ok (.iastore, 1) := od_79  (by decide +kernel)
theorem dX6_add_54 : decode cX6_add 54 = .ok (.aload_n 0, 1) := od_42  (by decide +kernel)
theorem dX6_add_55 : decode cX6_add 55 = .ok (.getfield 21, 3) := od_180 (a := 0) (b := 21) (by decide +kernel) (by decide)
theorem dX6_add_58 : decode cX6_add 58 = .ok (.iload 4, 2) := od_21 (n := 4) (by decide +kernel)
theorem dX6_add_60 : decode cX6_add 60 = .ok (.aload_n 0, 1) := od_42  (by decide +kernel)
theorem dX6_add_61 : decode cX6_add 61 = .ok (.getfield 21, 3) := od_180 (a := 0) (b := 21) (by decide +kernel) (by decide)
theorem dX6_add_64 : decode cX6_add 64 = .ok (.iload 4, 2) := od_21 (n := 4) (by decide +kernel)
theorem dX6_add_66 : decode cX6_add 66 = .ok (.iconst 1, 1) := od_4  (by decide +kernel)
theorem dX6_add_67 : decode cX6_add 67 = .ok (.isub, 1) := od_100  (by decide +kernel)
theorem dX6_add_68 : decode cX6_add 68 = .ok (.iaload, 1) := od_46  (by decide +kernel)
theorem dX6_add_69 : decode cX6_add 69 = .ok (.iastore, 1) := od_79  (by decide +kernel)
theorem dX6_add_70 : decode cX6_add 70 = .ok (.aload_n 0, 1) := od_42  (by decide +kernel)
theorem dX6_add_71 : decode cX6_add 71 = .ok (.getfield 24, 3) := od_180 (a := 0) (b := 24) (by decide +kernel) (by decide)
theorem dX6_add_74 : decode cX6_add 74 = .ok (.iload 4, 2) := od_21 (n := 4) (by decide +kernel)
theorem dX6_add_76 : decode cX6_add 76 = .ok (.aload_n 0, 1) := od_42  (by decide +kernel)
theorem dX6_add_77 : decode cX6_add 77 = .ok (.getfield 24, 3) := od_180 (a := 0) (b := 24) (by decide +kernel) (by decide)
theorem dX6_add_80 : decode cX6_add 80 = .ok (.iload 4, 2) := od_21 (n := 4) (by decide +kernel)
theorem dX6_add_82 : decode cX6_add 82 = .ok (.iconst 1, 1) := od_4  (by decide +kernel)
theorem dX6_add_83 : decode cX6_add 83 = .ok (.isub, 1) := od_100  (by decide +kernel)
theorem dX6_add_84 : decode cX6_add 84 = .ok (.iaload, 1) := od_46  (by decide +kernel)
theorem dX6_add_85 : decode cX6_add 85 = .ok (.iastore, 1) := od_79  (by decide +kernel)
theorem dX6_add_86 : decode cX6_add 86 = .ok (.iinc 4 (-1), 3) := od_132 (a := 4) (b := 255) (by decide +kernel) (by decide +kernel)
theorem dX6_add_89 : decode cX6_add 89 = .ok (.goto (-69), 3) := od_167 (a := 255) (b := 187) (by decide +kernel) (by decide +kernel)
theorem dX6_add_92 : decode cX6_add 92 = .ok (.aload_n 0, 1) := od_42  (by decide +kernel)
theorem dX6_add_93 : decode cX6_add 93 = .ok (.getfield 15, 3) := od_180 (a := 0) (b := 15) (by decide +kernel) (by decide)
theorem dX6_add_96 : decode cX6_add 96 = .ok (.iload 4, 2) := od_21 (n := 4) (by decide +kernel)
theorem dX6_add_98 : decode cX6_add 98 = .ok (.iload_n 1, 1) := od_27  (by decide +kernel)
theorem dX6_add_99 : decode cX6_add 99 = .ok (.iastore, 1) := od_79  (by decide +kernel)
theorem dX6_add_100 : decode cX6_add 100 = .ok (.aload_n 0, 1) := od_42  (by decide +kernel)
theorem dX6_add_101 : decode cX6_add 101 = .ok (.getfield 21, 3) := od_180 (a := 0) (b := 21) (by decide +kernel) (by decide)
theorem dX6_add_104 : decode cX6_add 104 = .ok (.iload 4, 2) := od_21 (n := 4) (by decide +kernel)
theorem dX6_add_106 : decode cX6_add 106 = .ok (.iload_n 2, 1) := od_28  (by decide +kernel)
theorem dX6_add_107 : decode cX6_add 107 = .ok (.iastore, 1) := od_79  (by decide +kernel)
theorem dX6_add_108 : decode cX6_add 108 = .ok (.aload_n 0, 1) := od_42  (by decide +kernel)
theorem dX6_add_109 : decode cX6_add 109 = .ok (.getfield 24, 3) := od_180 (a := 0) (b := 24) (by decide +kernel) (by decide)
theorem dX6_add_112 : decode cX6_add 112 = .ok (.iload 4, 2) := od_21 (n := 4) (by decide +kernel)
theorem dX6_add_114 : decode cX6_add 114 = .ok (.iload_n 3, 1) := od_29  (by decide +kernel)
theorem dX6_add_115 : decode cX6_add 115 = .ok (.iastore, 1) := od_79  (by decide +kernel)
theorem dX6_add_116 : decode cX6_add 116 = .ok (.aload_n 0, 1) := od_42  (by decide +kernel)
theorem dX6_add_117 : decode cX6_add 117 = .ok (.dup, 1) := od_89  (by decide +kernel)
theorem dX6_add_118 : decode cX6_add 118 = .ok (.getfield 27, 3) := od_180 (a := 0) (b := 27) (by decide +kernel) (by decide)
theorem dX6_add_121 : decode cX6_add 121 = .ok (.iconst 1, 1) := od_4  (by decide +kernel)
theorem dX6_add_122 : decode cX6_add 122 = .ok (.iadd, 1) := od_96  (by decide +kernel)
theorem dX6_add_123 : decode cX6_add 123 = .ok (.putfield 27, 3) := od_181 (a := 0) (b := 27) (by decide +kernel) (by decide)
theorem dX6_add_126 : decode cX6_add 126 = .ok (.aload_n 0, 1) := od_42  (by decide +kernel)
theorem dX6_add_127 : decode cX6_add 127 = .ok (.getfield 27, 3) := od_180 (a := 0) (b := 27) (by decide +kernel) (by decide)
theorem dX6_add_130 : decode cX6_add 130 = .ok (.ireturn, 1) := od_172  (by decide +kernel)
theorem dX6_meets_0 : decode cX6_meets 0 = .ok (.iconst 0, 1) := od_3  (by decide +kernel)
theorem dX6_meets_1 : decode cX6_meets 1 = .ok (.istore 5, 2) := od_54 (n := 5) (by decide +kernel)
theorem dX6_meets_3 : decode cX6_meets 3 = .ok (.iload 5, 2) := od_21 (n := 5) (by decide +kernel)
theorem dX6_meets_5 : decode cX6_meets 5 = .ok (.aload_n 0, 1) := od_42  (by decide +kernel)
theorem dX6_meets_6 : decode cX6_meets 6 = .ok (.getfield 27, 3) := od_180 (a := 0) (b := 27) (by decide +kernel) (by decide)
theorem dX6_meets_9 : decode cX6_meets 9 = .ok (.if_icmp .ge 56, 3) := od_162 (a := 0) (b := 56) (by decide +kernel) (by decide +kernel)
theorem dX6_meets_12 : decode cX6_meets 12 = .ok (.aload_n 0, 1) := od_42  (by decide +kernel)
theorem dX6_meets_13 : decode cX6_meets 13 = .ok (.getfield 21, 3) := od_180 (a := 0) (b := 21) (by decide +kernel) (by decide)
theorem dX6_meets_16 : decode cX6_meets 16 = .ok (.iload 5, 2) := od_21 (n := 5) (by decide +kernel)
theorem dX6_meets_18 : decode cX6_meets 18 = .ok (.iaload, 1) := od_46  (by decide +kernel)
theorem dX6_meets_19 : decode cX6_meets 19 = .ok (.iload 4, 2) := od_21 (n := 4) (by decide +kernel)
theorem dX6_meets_21 : decode cX6_meets 21 = .ok (.if_icmp .gt 44, 3) := od_163 (a := 0) (b := 44) (by decide +kernel) (by decide +kernel)
theorem dX6_meets_24 : decode cX6_meets 24 = .ok (.aload_n 0, 1) := od_42  (by decide +kernel)
theorem dX6_meets_25 : decode cX6_meets 25 = .ok (.getfield 15, 3) := od_180 (a := 0) (b := 15) (by decide +kernel) (by decide)
theorem dX6_meets_28 : decode cX6_meets 28 = .ok (.iload 5, 2) := od_21 (n := 5) (by decide +kernel)
theorem dX6_meets_30 : decode cX6_meets 30 = .ok (.iaload, 1) := od_46  (by decide +kernel)
theorem dX6_meets_31 : decode cX6_meets 31 = .ok (.iload_n 1, 1) := od_27  (by decide +kernel)
theorem dX6_meets_32 : decode cX6_meets 32 = .ok (.if_icmp .lt 27, 3) := od_161 (a := 0) (b := 27) (by decide +kernel) (by decide +kernel)
theorem dX6_meets_35 : decode cX6_meets 35 = .ok (.aload_n 0, 1) := od_42  (by decide +kernel)
theorem dX6_meets_36 : decode cX6_meets 36 = .ok (.getfield 15, 3) := od_180 (a := 0) (b := 15) (by decide +kernel) (by decide)
theorem dX6_meets_39 : decode cX6_meets 39 = .ok (.iload 5, 2) := od_21 (n := 5) (by decide +kernel)
theorem dX6_meets_41 : decode cX6_meets 41 = .ok (.iaload, 1) := od_46  (by decide +kernel)
theorem dX6_meets_42 : decode cX6_meets 42 = .ok (.iload_n 2, 1) := od_28  (by decide +kernel)
theorem dX6_meets_43 : decode cX6_meets 43 = .ok (.if_icmp .gt 16, 3) := od_163 (a := 0) (b := 16) (by decide +kernel) (by decide +kernel)
theorem dX6_meets_46 : decode cX6_meets 46 = .ok (.aload_n 0, 1) := od_42  (by decide +kernel)
theorem dX6_meets_47 : decode cX6_meets 47 = .ok (.getfield 24, 3) := od_180 (a := 0) (b := 24) (by decide +kernel) (by decide)
theorem dX6_meets_50 : decode cX6_meets 50 = .ok (.iload 5, 2) := od_21 (n := 5) (by decide +kernel)
theorem dX6_meets_52 : decode cX6_meets 52 = .ok (.iaload, 1) := od_46  (by decide +kernel)
theorem dX6_meets_53 : decode cX6_meets 53 = .ok (.iload_n 3, 1) := od_29  (by decide +kernel)
theorem dX6_meets_54 : decode cX6_meets 54 = .ok (.if_icmp .lt 5, 3) := od_161 (a := 0) (b := 5) (by decide +kernel) (by decide +kernel)
theorem dX6_meets_57 : decode cX6_meets 57 = .ok (.iconst 1, 1) := od_4  (by decide +kernel)
theorem dX6_meets_58 : decode cX6_meets 58 = .ok (.ireturn, 1) := od_172  (by decide +kernel)
theorem dX6_meets_59 : decode cX6_meets 59 = .ok (.iinc 5 1, 3) := od_132 (a := 5) (b := 1) (by decide +kernel) (by decide +kernel)
theorem dX6_meets_62 : decode cX6_meets 62 = .ok (.goto (-59), 3) := od_167 (a := 255) (b := 197) (by decide +kernel) (by decide +kernel)
theorem dX6_meets_65 : decode cX6_meets 65 = .ok (.iconst 0, 1) := od_3  (by decide +kernel)
theorem dX6_meets_66 : decode cX6_meets 66 = .ok (.ireturn, 1) := od_172  (by decide +kernel)
theorem dX6_freeHours_0 : decode cX6_freeHours 0 = .ok (.iconst 0, 1) := od_3  (by decide +kernel)
theorem dX6_freeHours_1 : decode cX6_freeHours 1 = .ok (.iload 4, 2) := od_21 (n := 4) (by decide +kernel)
theorem dX6_freeHours_3 : decode cX6_freeHours 3 = .ok (.iload_n 3, 1) := od_29  (by decide +kernel)
theorem dX6_freeHours_4 : decode cX6_freeHours 4 = .ok (.isub, 1) := od_100  (by decide +kernel)
theorem dX6_freeHours_5 : decode cX6_freeHours 5 = .ok (.iconst 1, 1) := od_4  (by decide +kernel)
theorem dX6_freeHours_6 : decode cX6_freeHours 6 = .ok (.iadd, 1) := od_96  (by decide +kernel)
theorem dX6_freeHours_7 : decode cX6_freeHours 7 = .ok (.invokestatic 9, 3) := od_184 (a := 0) (b := 9) (by decide +kernel) (by decide)
theorem dX6_freeHours_10 : decode cX6_freeHours 10 = .ok (.istore 5, 2) := od_54 (n := 5) (by decide +kernel)
theorem dX6_freeHours_12 : decode cX6_freeHours 12 = .ok (.iload_n 3, 1) := od_29  (by decide +kernel)
theorem dX6_freeHours_13 : decode cX6_freeHours 13 = .ok (.istore 6, 2) := od_54 (n := 6) (by decide +kernel)
theorem dX6_freeHours_15 : decode cX6_freeHours 15 = .ok (.iconst 0, 1) := od_3  (by decide +kernel)
theorem dX6_freeHours_16 : decode cX6_freeHours 16 = .ok (.istore 7, 2) := od_54 (n := 7) (by decide +kernel)
theorem dX6_freeHours_18 : decode cX6_freeHours 18 = .ok (.iload 7, 2) := od_21 (n := 7) (by decide +kernel)
theorem dX6_freeHours_20 : decode cX6_freeHours 20 = .ok (.aload_n 0, 1) := od_42  (by decide +kernel)
theorem dX6_freeHours_21 : decode cX6_freeHours 21 = .ok (.getfield 27, 3) := od_180 (a := 0) (b := 27) (by decide +kernel) (by decide)
theorem dX6_freeHours_24 : decode cX6_freeHours 24 = .ok (.if_icmp .ge 104, 3) := od_162 (a := 0) (b := 104) (by decide +kernel) (by decide +kernel)
theorem dX6_freeHours_27 : decode cX6_freeHours 27 = .ok (.aload_n 0, 1) := od_42  (by decide +kernel)
theorem dX6_freeHours_28 : decode cX6_freeHours 28 = .ok (.getfield 21, 3) := od_180 (a := 0) (b := 21) (by decide +kernel) (by decide)
theorem dX6_freeHours_31 : decode cX6_freeHours 31 = .ok (.iload 7, 2) := od_21 (n := 7) (by decide +kernel)
theorem dX6_freeHours_33 : decode cX6_freeHours 33 = .ok (.iaload, 1) := od_46  (by decide +kernel)
theorem dX6_freeHours_34 : decode cX6_freeHours 34 = .ok (.iload 4, 2) := od_21 (n := 4) (by decide +kernel)
theorem dX6_freeHours_36 : decode cX6_freeHours 36 = .ok (.if_icmp .gt 92, 3) := od_163 (a := 0) (b := 92) (by decide +kernel) (by decide +kernel)
theorem dX6_freeHours_39 : decode cX6_freeHours 39 = .ok (.aload_n 0, 1) := od_42  (by decide +kernel)
theorem dX6_freeHours_40 : decode cX6_freeHours 40 = .ok (.getfield 15, 3) := od_180 (a := 0) (b := 15) (by decide +kernel) (by decide)
theorem dX6_freeHours_43 : decode cX6_freeHours 43 = .ok (.iload 7, 2) := od_21 (n := 7) (by decide +kernel)
theorem dX6_freeHours_45 : decode cX6_freeHours 45 = .ok (.iaload, 1) := od_46  (by decide +kernel)
theorem dX6_freeHours_46 : decode cX6_freeHours 46 = .ok (.iload_n 1, 1) := od_27  (by decide +kernel)
theorem dX6_freeHours_47 : decode cX6_freeHours 47 = .ok (.if_icmp .lt 75, 3) := od_161 (a := 0) (b := 75) (by decide +kernel) (by decide +kernel)
theorem dX6_freeHours_50 : decode cX6_freeHours 50 = .ok (.aload_n 0, 1) := od_42  (by decide +kernel)
theorem dX6_freeHours_51 : decode cX6_freeHours 51 = .ok (.getfield 15, 3) := od_180 (a := 0) (b := 15) (by decide +kernel) (by decide)
theorem dX6_freeHours_54 : decode cX6_freeHours 54 = .ok (.iload 7, 2) := od_21 (n := 7) (by decide +kernel)
theorem dX6_freeHours_56 : decode cX6_freeHours 56 = .ok (.iaload, 1) := od_46  (by decide +kernel)
theorem dX6_freeHours_57 : decode cX6_freeHours 57 = .ok (.iload_n 2, 1) := od_28  (by decide +kernel)
theorem dX6_freeHours_58 : decode cX6_freeHours 58 = .ok (.if_icmp .gt 64, 3) := od_163 (a := 0) (b := 64) (by decide +kernel) (by decide +kernel)
theorem dX6_freeHours_61 : decode cX6_freeHours 61 = .ok (.aload_n 0, 1) := od_42  (by decide +kernel)
theorem dX6_freeHours_62 : decode cX6_freeHours 62 = .ok (.getfield 24, 3) := od_180 (a := 0) (b := 24) (by decide +kernel) (by decide)
theorem dX6_freeHours_65 : decode cX6_freeHours 65 = .ok (.iload 7, 2) := od_21 (n := 7) (by decide +kernel)
theorem dX6_freeHours_67 : decode cX6_freeHours 67 = .ok (.iaload, 1) := od_46  (by decide +kernel)
theorem dX6_freeHours_68 : decode cX6_freeHours 68 = .ok (.iload 6, 2) := od_21 (n := 6) (by decide +kernel)
theorem dX6_freeHours_70 : decode cX6_freeHours 70 = .ok (.if_icmp .lt 52, 3) := od_161 (a := 0) (b := 52) (by decide +kernel) (by decide +kernel)
theorem dX6_freeHours_73 : decode cX6_freeHours 73 = .ok (.iload 6, 2) := od_21 (n := 6) (by decide +kernel)
theorem dX6_freeHours_75 : decode cX6_freeHours 75 = .ok (.iload 4, 2) := od_21 (n := 4) (by decide +kernel)
theorem dX6_freeHours_77 : decode cX6_freeHours 77 = .ok (.if_icmp .gt 45, 3) := od_163 (a := 0) (b := 45) (by decide +kernel) (by decide +kernel)
theorem dX6_freeHours_80 : decode cX6_freeHours 80 = .ok (.aload_n 0, 1) := od_42  (by decide +kernel)
theorem dX6_freeHours_81 : decode cX6_freeHours 81 = .ok (.getfield 24, 3) := od_180 (a := 0) (b := 24) (by decide +kernel) (by decide)
theorem dX6_freeHours_84 : decode cX6_freeHours 84 = .ok (.iload 7, 2) := od_21 (n := 7) (by decide +kernel)
theorem dX6_freeHours_86 : decode cX6_freeHours 86 = .ok (.iaload, 1) := od_46  (by decide +kernel)
theorem dX6_freeHours_87 : decode cX6_freeHours 87 = .ok (.iload 4, 2) := od_21 (n := 4) (by decide +kernel)
theorem dX6_freeHours_89 : decode cX6_freeHours 89 = .ok (.invokestatic 31, 3) := od_184 (a := 0) (b := 31) (by decide +kernel) (by decide)
theorem dX6_freeHours_92 : decode cX6_freeHours 92 = .ok (.istore 8, 2) := od_54 (n := 8) (by decide +kernel)
theorem dX6_freeHours_94 : decode cX6_freeHours 94 = .ok (.iload 5, 2) := od_21 (n := 5) (by decide +kernel)
theorem dX6_freeHours_96 : decode cX6_freeHours 96 = .ok (.iload 8, 2) := od_21 (n := 8) (by decide +kernel)
theorem dX6_freeHours_98 : decode cX6_freeHours 98 = .ok (.aload_n 0, 1) := od_42  (by decide +kernel)
theorem dX6_freeHours_99 : decode cX6_freeHours 99 = .ok (.getfield 21, 3) := od_180 (a := 0) (b := 21) (by decide +kernel) (by decide)
theorem dX6_freeHours_102 : decode cX6_freeHours 102 = .ok (.iload 7, 2) := od_21 (n := 7) (by decide +kernel)
theorem dX6_freeHours_104 : decode cX6_freeHours 104 = .ok (.iaload, 1) := od_46  (by decide +kernel)
theorem dX6_freeHours_105 : decode cX6_freeHours 105 = .ok (.iload 6, 2) := od_21 (n := 6) (by decide +kernel)
theorem dX6_freeHours_107 : decode cX6_freeHours 107 = .ok (.invokestatic 9, 3) := od_184 (a := 0) (b := 9) (by decide +kernel) (by decide)
theorem dX6_freeHours_110 : decode cX6_freeHours 110 = .ok (.isub, 1) := od_100  (by decide +kernel)
theorem dX6_freeHours_111 : decode cX6_freeHours 111 = .ok (.iconst 1, 1) := od_4  (by decide +kernel)
theorem dX6_freeHours_112 : decode cX6_freeHours 112 = .ok (.iadd, 1) := od_96  (by decide +kernel)
theorem dX6_freeHours_113 : decode cX6_freeHours 113 = .ok (.isub, 1) := od_100  (by decide +kernel)
theorem dX6_freeHours_114 : decode cX6_freeHours 114 = .ok (.istore 5, 2) := od_54 (n := 5) (by decide +kernel)
theorem dX6_freeHours_116 : decode cX6_freeHours 116 = .ok (.iload 8, 2) := od_21 (n := 8) (by decide +kernel)
theorem dX6_freeHours_118 : decode cX6_freeHours 118 = .ok (.iconst 1, 1) := od_4  (by decide +kernel)
theorem dX6_freeHours_119 : decode cX6_freeHours 119 = .ok (.iadd, 1) := od_96  (by decide +kernel)
theorem dX6_freeHours_120 : decode cX6_freeHours 120 = .ok (.istore 6, 2) := od_54 (n := 6) (by decide +kernel)
theorem dX6_freeHours_122 : decode cX6_freeHours 122 = .ok (.iinc 7 1, 3) := od_132 (a := 7) (b := 1) (by decide +kernel) (by decide +kernel)
theorem dX6_freeHours_125 : decode cX6_freeHours 125 = .ok (.goto (-107), 3) := od_167 (a := 255) (b := 149) (by decide +kernel) (by decide +kernel)
theorem dX6_freeHours_128 : decode cX6_freeHours 128 = .ok (.iload 5, 2) := od_21 (n := 5) (by decide +kernel)
theorem dX6_freeHours_130 : decode cX6_freeHours 130 = .ok (.ireturn, 1) := od_172  (by decide +kernel)
theorem dX6_hourBehind_0 : decode cX6_hourBehind 0 = .ok (.iload 4, 2) := od_21 (n := 4) (by decide +kernel)
theorem dX6_hourBehind_2 : decode cX6_hourBehind 2 = .ok (.istore 5, 2) := od_54 (n := 5) (by decide +kernel)
theorem dX6_hourBehind_4 : decode cX6_hourBehind 4 = .ok (.iload_n 3, 1) := od_29  (by decide +kernel)
theorem dX6_hourBehind_5 : decode cX6_hourBehind 5 = .ok (.istore 6, 2) := od_54 (n := 6) (by decide +kernel)
theorem dX6_hourBehind_7 : decode cX6_hourBehind 7 = .ok (.iconst 0, 1) := od_3  (by decide +kernel)
theorem dX6_hourBehind_8 : decode cX6_hourBehind 8 = .ok (.istore 7, 2) := od_54 (n := 7) (by decide +kernel)
theorem dX6_hourBehind_10 : decode cX6_hourBehind 10 = .ok (.iload 7, 2) := od_21 (n := 7) (by decide +kernel)
theorem dX6_hourBehind_12 : decode cX6_hourBehind 12 = .ok (.aload_n 0, 1) := od_42  (by decide +kernel)
theorem dX6_hourBehind_13 : decode cX6_hourBehind 13 = .ok (.getfield 27, 3) := od_180 (a := 0) (b := 27) (by decide +kernel) (by decide)
theorem dX6_hourBehind_16 : decode cX6_hourBehind 16 = .ok (.if_icmp .ge 88, 3) := od_162 (a := 0) (b := 88) (by decide +kernel) (by decide +kernel)
theorem dX6_hourBehind_19 : decode cX6_hourBehind 19 = .ok (.aload_n 0, 1) := od_42  (by decide +kernel)
theorem dX6_hourBehind_20 : decode cX6_hourBehind 20 = .ok (.getfield 21, 3) := od_180 (a := 0) (b := 21) (by decide +kernel) (by decide)
theorem dX6_hourBehind_23 : decode cX6_hourBehind 23 = .ok (.iload 7, 2) := od_21 (n := 7) (by decide +kernel)
theorem dX6_hourBehind_25 : decode cX6_hourBehind 25 = .ok (.iaload, 1) := od_46  (by decide +kernel)
theorem dX6_hourBehind_26 : decode cX6_hourBehind 26 = .ok (.iload 6, 2) := od_21 (n := 6) (by decide +kernel)
theorem dX6_hourBehind_28 : decode cX6_hourBehind 28 = .ok (.isub, 1) := od_100  (by decide +kernel)
theorem dX6_hourBehind_29 : decode cX6_hourBehind 29 = .ok (.iload 5, 2) := od_21 (n := 5) (by decide +kernel)
theorem dX6_hourBehind_31 : decode cX6_hourBehind 31 = .ok (.if_icmp .ge 73, 3) := od_162 (a := 0) (b := 73) (by decide +kernel) (by decide +kernel)
theorem dX6_hourBehind_34 : decode cX6_hourBehind 34 = .ok (.aload_n 0, 1) := od_42  (by decide +kernel)
theorem dX6_hourBehind_35 : decode cX6_hourBehind 35 = .ok (.getfield 15, 3) := od_180 (a := 0) (b := 15) (by decide +kernel) (by decide)
theorem dX6_hourBehind_38 : decode cX6_hourBehind 38 = .ok (.iload 7, 2) := od_21 (n := 7) (by decide +kernel)
theorem dX6_hourBehind_40 : decode cX6_hourBehind 40 = .ok (.iaload, 1) := od_46  (by decide +kernel)
theorem dX6_hourBehind_41 : decode cX6_hourBehind 41 = .ok (.iload_n 1, 1) := od_27  (by decide +kernel)
theorem dX6_hourBehind_42 : decode cX6_hourBehind 42 = .ok (.if_icmp .lt 56, 3) := od_161 (a := 0) (b := 56) (by decide +kernel) (by decide +kernel)
theorem dX6_hourBehind_45 : decode cX6_hourBehind 45 = .ok (.aload_n 0, 1) := od_42  (by decide +kernel)
theorem dX6_hourBehind_46 : decode cX6_hourBehind 46 = .ok (.getfield 15, 3) := od_180 (a := 0) (b := 15) (by decide +kernel) (by decide)
theorem dX6_hourBehind_49 : decode cX6_hourBehind 49 = .ok (.iload 7, 2) := od_21 (n := 7) (by decide +kernel)
theorem dX6_hourBehind_51 : decode cX6_hourBehind 51 = .ok (.iaload, 1) := od_46  (by decide +kernel)
theorem dX6_hourBehind_52 : decode cX6_hourBehind 52 = .ok (.iload_n 2, 1) := od_28  (by decide +kernel)
theorem dX6_hourBehind_53 : decode cX6_hourBehind 53 = .ok (.if_icmp .gt 45, 3) := od_163 (a := 0) (b := 45) (by decide +kernel) (by decide +kernel)
theorem dX6_hourBehind_56 : decode cX6_hourBehind 56 = .ok (.aload_n 0, 1) := od_42  (by decide +kernel)
theorem dX6_hourBehind_57 : decode cX6_hourBehind 57 = .ok (.getfield 24, 3) := od_180 (a := 0) (b := 24) (by decide +kernel) (by decide)
theorem dX6_hourBehind_60 : decode cX6_hourBehind 60 = .ok (.iload 7, 2) := od_21 (n := 7) (by decide +kernel)
theorem dX6_hourBehind_62 : decode cX6_hourBehind 62 = .ok (.iaload, 1) := od_46  (by decide +kernel)
theorem dX6_hourBehind_63 : decode cX6_hourBehind 63 = .ok (.iload 6, 2) := od_21 (n := 6) (by decide +kernel)
theorem dX6_hourBehind_65 : decode cX6_hourBehind 65 = .ok (.if_icmp .lt 33, 3) := od_161 (a := 0) (b := 33) (by decide +kernel) (by decide +kernel)
theorem dX6_hourBehind_68 : decode cX6_hourBehind 68 = .ok (.iload 5, 2) := od_21 (n := 5) (by decide +kernel)
theorem dX6_hourBehind_70 : decode cX6_hourBehind 70 = .ok (.iconst 0, 1) := od_3  (by decide +kernel)
theorem dX6_hourBehind_71 : decode cX6_hourBehind 71 = .ok (.aload_n 0, 1) := od_42  (by decide +kernel)
theorem dX6_hourBehind_72 : decode cX6_hourBehind 72 = .ok (.getfield 21, 3) := od_180 (a := 0) (b := 21) (by decide +kernel) (by decide)
theorem dX6_hourBehind_75 : decode cX6_hourBehind 75 = .ok (.iload 7, 2) := od_21 (n := 7) (by decide +kernel)
theorem dX6_hourBehind_77 : decode cX6_hourBehind 77 = .ok (.iaload, 1) := od_46  (by decide +kernel)
theorem dX6_hourBehind_78 : decode cX6_hourBehind 78 = .ok (.iload 6, 2) := od_21 (n := 6) (by decide +kernel)
theorem dX6_hourBehind_80 : decode cX6_hourBehind 80 = .ok (.isub, 1) := od_100  (by decide +kernel)
theorem dX6_hourBehind_81 : decode cX6_hourBehind 81 = .ok (.invokestatic 9, 3) := od_184 (a := 0) (b := 9) (by decide +kernel) (by decide)
theorem dX6_hourBehind_84 : decode cX6_hourBehind 84 = .ok (.isub, 1) := od_100  (by decide +kernel)
theorem dX6_hourBehind_85 : decode cX6_hourBehind 85 = .ok (.istore 5, 2) := od_54 (n := 5) (by decide +kernel)
theorem dX6_hourBehind_87 : decode cX6_hourBehind 87 = .ok (.aload_n 0, 1) := od_42  (by decide +kernel)
theorem dX6_hourBehind_88 : decode cX6_hourBehind 88 = .ok (.getfield 24, 3) := od_180 (a := 0) (b := 24) (by decide +kernel) (by decide)
theorem dX6_hourBehind_91 : decode cX6_hourBehind 91 = .ok (.iload 7, 2) := od_21 (n := 7) (by decide +kernel)
theorem dX6_hourBehind_93 : decode cX6_hourBehind 93 = .ok (.iaload, 1) := od_46  (by decide +kernel)
theorem dX6_hourBehind_94 : decode cX6_hourBehind 94 = .ok (.iconst 1, 1) := od_4  (by decide +kernel)
theorem dX6_hourBehind_95 : decode cX6_hourBehind 95 = .ok (.iadd, 1) := od_96  (by decide +kernel)
theorem dX6_hourBehind_96 : decode cX6_hourBehind 96 = .ok (.istore 6, 2) := od_54 (n := 6) (by decide +kernel)
theorem dX6_hourBehind_98 : decode cX6_hourBehind 98 = .ok (.iinc 7 1, 3) := od_132 (a := 7) (b := 1) (by decide +kernel) (by decide +kernel)
theorem dX6_hourBehind_101 : decode cX6_hourBehind 101 = .ok (.goto (-91), 3) := od_167 (a := 255) (b := 165) (by decide +kernel) (by decide +kernel)
theorem dX6_hourBehind_104 : decode cX6_hourBehind 104 = .ok (.iload 6, 2) := od_21 (n := 6) (by decide +kernel)
theorem dX6_hourBehind_106 : decode cX6_hourBehind 106 = .ok (.iload 5, 2) := od_21 (n := 5) (by decide +kernel)
theorem dX6_hourBehind_108 : decode cX6_hourBehind 108 = .ok (.iadd, 1) := od_96  (by decide +kernel)
theorem dX6_hourBehind_109 : decode cX6_hourBehind 109 = .ok (.sipush 2400, 3) := od_17 (a := 9) (b := 96) (by decide +kernel) (by decide +kernel)
theorem dX6_hourBehind_112 : decode cX6_hourBehind 112 = .ok (.if_icmp .gt 11, 3) := od_163 (a := 0) (b := 11) (by decide +kernel) (by decide +kernel)
theorem dX6_hourBehind_115 : decode cX6_hourBehind 115 = .ok (.iload 6, 2) := od_21 (n := 6) (by decide +kernel)
theorem dX6_hourBehind_117 : decode cX6_hourBehind 117 = .ok (.iload 5, 2) := od_21 (n := 5) (by decide +kernel)
theorem dX6_hourBehind_119 : decode cX6_hourBehind 119 = .ok (.iadd, 1) := od_96  (by decide +kernel)
theorem dX6_hourBehind_120 : decode cX6_hourBehind 120 = .ok (.goto 4, 3) := od_167 (a := 0) (b := 4) (by decide +kernel) (by decide +kernel)
theorem dX6_hourBehind_123 : decode cX6_hourBehind 123 = .ok (.iconst (-1), 1) := od_2  (by decide +kernel)
theorem dX6_hourBehind_124 : decode cX6_hourBehind 124 = .ok (.ireturn, 1) := od_172  (by decide +kernel)
theorem dX6_copyFrom_0 : decode cX6_copyFrom 0 = .ok (.aload_n 1, 1) := od_43  (by decide +kernel)
theorem dX6_copyFrom_1 : decode cX6_copyFrom 1 = .ok (.getfield 27, 3) := od_180 (a := 0) (b := 27) (by decide +kernel) (by decide)
theorem dX6_copyFrom_4 : decode cX6_copyFrom 4 = .ok (.aload_n 0, 1) := od_42  (by decide +kernel)
theorem dX6_copyFrom_5 : decode cX6_copyFrom 5 = .ok (.getfield 15, 3) := od_180 (a := 0) (b := 15) (by decide +kernel) (by decide)
theorem dX6_copyFrom_8 : decode cX6_copyFrom 8 = .ok (.arraylength, 1) := od_190  (by decide +kernel)
theorem dX6_copyFrom_9 : decode cX6_copyFrom 9 = .ok (.if_icmp .gt 62, 3) := od_163 (a := 0) (b := 62) (by decide +kernel) (by decide +kernel)
theorem dX6_copyFrom_12 : decode cX6_copyFrom 12 = .ok (.aload_n 1, 1) := od_43  (by decide +kernel)
theorem dX6_copyFrom_13 : decode cX6_copyFrom 13 = .ok (.getfield 15, 3) := od_180 (a := 0) (b := 15) (by decide +kernel) (by decide)
theorem dX6_copyFrom_16 : decode cX6_copyFrom 16 = .ok (.iconst 0, 1) := od_3  (by decide +kernel)
theorem dX6_copyFrom_17 : decode cX6_copyFrom 17 = .ok (.aload_n 0, 1) := od_42  (by decide +kernel)
theorem dX6_copyFrom_18 : decode cX6_copyFrom 18 = .ok (.getfield 15, 3) := od_180 (a := 0) (b := 15) (by decide +kernel) (by decide)
theorem dX6_copyFrom_21 : decode cX6_copyFrom 21 = .ok (.iconst 0, 1) := od_3  (by decide +kernel)
theorem dX6_copyFrom_22 : decode cX6_copyFrom 22 = .ok (.aload_n 1, 1) := od_43  (by decide +kernel)
theorem dX6_copyFrom_23 : decode cX6_copyFrom 23 = .ok (.getfield 27, 3) := od_180 (a := 0) (b := 27) (by decide +kernel) (by decide)
theorem dX6_copyFrom_26 : decode cX6_copyFrom 26 = .ok (.invokestatic 34, 3) := od_184 (a := 0) (b := 34) (by decide +kernel) (by decide)
theorem dX6_copyFrom_29 : decode cX6_copyFrom 29 = .ok (.aload_n 1, 1) := od_43  (by decide +kernel)
theorem dX6_copyFrom_30 : decode cX6_copyFrom 30 = .ok (.getfield 21, 3) := od_180 (a := 0) (b := 21) (by decide +kernel) (by decide)
theorem dX6_copyFrom_33 : decode cX6_copyFrom 33 = .ok (.iconst 0, 1) := od_3  (by decide +kernel)
theorem dX6_copyFrom_34 : decode cX6_copyFrom 34 = .ok (.aload_n 0, 1) := od_42  (by decide +kernel)
theorem dX6_copyFrom_35 : decode cX6_copyFrom 35 = .ok (.getfield 21, 3) := od_180 (a := 0) (b := 21) (by decide +kernel) (by decide)
theorem dX6_copyFrom_38 : decode cX6_copyFrom 38 = .ok (.iconst 0, 1) := od_3  (by decide +kernel)
theorem dX6_copyFrom_39 : decode cX6_copyFrom 39 = .ok (.aload_n 1, 1) := od_43  (by decide +kernel)
theorem dX6_copyFrom_40 : decode cX6_copyFrom 40 = .ok (.getfield 27, 3) := od_180 (a := 0) (b := 27) (by decide +kernel) (by decide)
theorem dX6_copyFrom_43 : decode cX6_copyFrom 43 = .ok (.invokestatic 34, 3) := od_184 (a := 0) (b := 34) (by decide +kernel) (by decide)
theorem dX6_copyFrom_46 : decode cX6_copyFrom 46 = .ok (.aload_n 1, 1) := od_43  (by decide +kernel)
theorem dX6_copyFrom_47 : decode cX6_copyFrom 47 = .ok (.getfield 24, 3) := od_180 (a := 0) (b := 24) (by decide +kernel) (by decide)
theorem dX6_copyFrom_50 : decode cX6_copyFrom 50 = .ok (.iconst 0, 1) := od_3  (by decide +kernel)
theorem dX6_copyFrom_51 : decode cX6_copyFrom 51 = .ok (.aload_n 0, 1) := od_42  (by decide +kernel)
theorem dX6_copyFrom_52 : decode cX6_copyFrom 52 = .ok (.getfield 24, 3) := od_180 (a := 0) (b := 24) (by decide +kernel) (by decide)
theorem dX6_copyFrom_55 : decode cX6_copyFrom 55 = .ok (.iconst 0, 1) := od_3  (by decide +kernel)
theorem dX6_copyFrom_56 : decode cX6_copyFrom 56 = .ok (.aload_n 1, 1) := od_43  (by decide +kernel)
theorem dX6_copyFrom_57 : decode cX6_copyFrom 57 = .ok (.getfield 27, 3) := od_180 (a := 0) (b := 27) (by decide +kernel) (by decide)
theorem dX6_copyFrom_60 : decode cX6_copyFrom 60 = .ok (.invokestatic 34, 3) := od_184 (a := 0) (b := 34) (by decide +kernel) (by decide)
theorem dX6_copyFrom_63 : decode cX6_copyFrom 63 = .ok (.aload_n 0, 1) := od_42  (by decide +kernel)
theorem dX6_copyFrom_64 : decode cX6_copyFrom 64 = .ok (.aload_n 1, 1) := od_43  (by decide +kernel)
theorem dX6_copyFrom_65 : decode cX6_copyFrom 65 = .ok (.getfield 27, 3) := od_180 (a := 0) (b := 27) (by decide +kernel) (by decide)
theorem dX6_copyFrom_68 : decode cX6_copyFrom 68 = .ok (.putfield 27, 3) := od_181 (a := 0) (b := 27) (by decide +kernel) (by decide)
theorem dX6_copyFrom_71 : decode cX6_copyFrom 71 = .ok (.return_, 1) := od_177  (by decide +kernel)
theorem gX8_begin_J7_fill_53178 : GoodIn WALL (va_wsS RX8 40 yJ7_fill_53178 wqJ7_fill_53178) := wg_S wa_197 wa_198 wa_199 wa_200
theorem dX8_begin_0 : decode cX8_begin 0 = .ok (.aload_n 0, 1) := od_42  (by decide +kernel)
theorem dX8_begin_1 : decode cX8_begin 1 = .ok (.iload_n 1, 1) := od_27  (by decide +kernel)
theorem dX8_begin_2 : decode cX8_begin 2 = .ok (.putfield 22, 3) := od_181 (a := 0) (b := 22) (by decide +kernel) (by decide)
theorem dX8_begin_5 : decode cX8_begin 5 = .ok (.aload_n 0, 1) := od_42  (by decide +kernel)
theorem dX8_begin_6 : decode cX8_begin 6 = .ok (.iload_n 2, 1) := od_28  (by decide +kernel)
theorem dX8_begin_7 : decode cX8_begin 7 = .ok (.putfield 25, 3) := od_181 (a := 0) (b := 25) (by decide +kernel) (by decide)
theorem dX8_begin_10 : decode cX8_begin 10 = .ok (.aload_n 0, 1) := od_42  (by decide +kernel)
theorem dX8_begin_11 : decode cX8_begin 11 = .ok (.iconst 1, 1) := od_4  (by decide +kernel)
theorem dX8_begin_12 : decode cX8_begin 12 = .ok (.iload_n 3, 1) := od_29  (by decide +kernel)
theorem dX8_begin_13 : decode cX8_begin 13 = .ok (.invokestatic 28, 3) := od_184 (a := 0) (b := 28) (by decide +kernel) (by decide)
theorem dX8_begin_16 : decode cX8_begin 16 = .ok (.putfield 9, 3) := od_181 (a := 0) (b := 9) (by decide +kernel) (by decide)
theorem dX8_begin_19 : decode cX8_begin 19 = .ok (.aload_n 0, 1) := od_42  (by decide +kernel)
theorem dX8_begin_20 : decode cX8_begin 20 = .ok (.iload 4, 2) := od_21 (n := 4) (by decide +kernel)
theorem dX8_begin_22 : decode cX8_begin 22 = .ok (.putfield 34, 3) := od_181 (a := 0) (b := 34) (by decide +kernel) (by decide)
theorem dX8_begin_25 : decode cX8_begin 25 = .ok (.aload_n 0, 1) := od_42  (by decide +kernel)
theorem dX8_begin_26 : decode cX8_begin 26 = .ok (.sipush 1000, 3) := od_17 (a := 3) (b := 232) (by decide +kernel) (by decide +kernel)
theorem dX8_begin_29 : decode cX8_begin 29 = .ok (.putfield 37, 3) := od_181 (a := 0) (b := 37) (by decide +kernel) (by decide)
theorem dX8_begin_32 : decode cX8_begin 32 = .ok (.aload_n 0, 1) := od_42  (by decide +kernel)
theorem dX8_begin_33 : decode cX8_begin 33 = .ok (.getfield 15, 3) := od_180 (a := 0) (b := 15) (by decide +kernel) (by decide)
theorem dX8_begin_36 : decode cX8_begin 36 = .ok (.iconst 0, 1) := od_3  (by decide +kernel)
theorem dX8_begin_37 : decode cX8_begin 37 = .ok (.invokestatic 40, 3) := od_184 (a := 0) (b := 40) (by decide +kernel) (by decide)
theorem dX8_begin_40 : decode cX8_begin 40 = .ok (.return_, 1) := od_177  (by decide +kernel)
theorem ggX8_tellWay_X11_within : GoodIn WALL wqX11_within := wg_c wa_182
theorem dX8_tellWay_0 : decode cX8_tellWay 0 = .ok (.iload_n 1, 1) := od_27  (by decide +kernel)
theorem dX8_tellWay_1 : decode cX8_tellWay 1 = .ok (.iconst 0, 1) := od_3  (by decide +kernel)
theorem dX8_tellWay_2 : decode cX8_tellWay 2 = .ok (.iconst 5, 1) := od_8  (by decide +kernel)
theorem dX8_tellWay_3 : decode cX8_tellWay 3 = .ok (.invokestatic 46, 3) := od_184 (a := 0) (b := 46) (by decide +kernel) (by decide)
theorem dX8_tellWay_6 : decode cX8_tellWay 6 = .ok (.ifCond .eq 27, 3) := od_153 (a := 0) (b := 27) (by decide +kernel) (by decide +kernel)
theorem dX8_tellWay_9 : decode cX8_tellWay 9 = .ok (.aload_n 0, 1) := od_42  (by decide +kernel)
theorem dX8_tellWay_10 : decode cX8_tellWay 10 = .ok (.getfield 15, 3) := od_180 (a := 0) (b := 15) (by decide +kernel) (by decide)
theorem dX8_tellWay_13 : decode cX8_tellWay 13 = .ok (.iload_n 1, 1) := od_27  (by decide +kernel)
theorem dX8_tellWay_14 : decode cX8_tellWay 14 = .ok (.iload_n 2, 1) := od_28  (by decide +kernel)
theorem dX8_tellWay_15 : decode cX8_tellWay 15 = .ok (.iastore, 1) := od_79  (by decide +kernel)
theorem dX8_tellWay_16 : decode cX8_tellWay 16 = .ok (.aload_n 0, 1) := od_42  (by decide +kernel)
theorem dX8_tellWay_17 : decode cX8_tellWay 17 = .ok (.getfield 19, 3) := od_180 (a := 0) (b := 19) (by decide +kernel) (by decide)
theorem dX8_tellWay_20 : decode cX8_tellWay 20 = .ok (.iload_n 1, 1) := od_27  (by decide +kernel)
theorem dX8_tellWay_21 : decode cX8_tellWay 21 = .ok (.iload_n 3, 1) := od_29  (by decide +kernel)
theorem dX8_tellWay_22 : decode cX8_tellWay 22 = .ok (.ifCond .eq 9, 3) := od_153 (a := 0) (b := 9) (by decide +kernel) (by decide +kernel)
theorem dX8_tellWay_25 : decode cX8_tellWay 25 = .ok (.iload_n 2, 1) := od_28  (by decide +kernel)
theorem dX8_tellWay_26 : decode cX8_tellWay 26 = .ok (.iconst 2, 1) := od_5  (by decide +kernel)
theorem dX8_tellWay_27 : decode cX8_tellWay 27 = .ok (.idiv, 1) := od_108  (by decide +kernel)
theorem dX8_tellWay_28 : decode cX8_tellWay 28 = .ok (.goto 4, 3) := od_167 (a := 0) (b := 4) (by decide +kernel) (by decide +kernel)
theorem dX8_tellWay_31 : decode cX8_tellWay 31 = .ok (.iconst 0, 1) := od_3  (by decide +kernel)
theorem dX8_tellWay_32 : decode cX8_tellWay 32 = .ok (.iastore, 1) := od_79  (by decide +kernel)
theorem dX8_tellWay_33 : decode cX8_tellWay 33 = .ok (.return_, 1) := od_177  (by decide +kernel)
theorem dX8_hoursFor_0 : decode cX8_hoursFor 0 = .ok (.iload_n 1, 1) := od_27  (by decide +kernel)
theorem dX8_hoursFor_1 : decode cX8_hoursFor 1 = .ok (.aload_n 0, 1) := od_42  (by decide +kernel)
theorem dX8_hoursFor_2 : decode cX8_hoursFor 2 = .ok (.getfield 9, 3) := od_180 (a := 0) (b := 9) (by decide +kernel) (by decide)
theorem dX8_hoursFor_5 : decode cX8_hoursFor 5 = .ok (.iadd, 1) := od_96  (by decide +kernel)
theorem dX8_hoursFor_6 : decode cX8_hoursFor 6 = .ok (.iconst 1, 1) := od_4  (by decide +kernel)
theorem dX8_hoursFor_7 : decode cX8_hoursFor 7 = .ok (.isub, 1) := od_100  (by decide +kernel)
theorem dX8_hoursFor_8 : decode cX8_hoursFor 8 = .ok (.aload_n 0, 1) := od_42  (by decide +kernel)
theorem dX8_hoursFor_9 : decode cX8_hoursFor 9 = .ok (.getfield 9, 3) := od_180 (a := 0) (b := 9) (by decide +kernel) (by decide)
theorem dX8_hoursFor_12 : decode cX8_hoursFor 12 = .ok (.idiv, 1) := od_108  (by decide +kernel)
theorem dX8_hoursFor_13 : decode cX8_hoursFor 13 = .ok (.ireturn, 1) := od_172  (by decide +kernel)
theorem dX8_copyFrom_0 : decode cX8_copyFrom 0 = .ok (.aload_n 0, 1) := od_42  (by decide +kernel)
theorem dX8_copyFrom_1 : decode cX8_copyFrom 1 = .ok (.aload_n 1, 1) := od_43  (by decide +kernel)
theorem dX8_copyFrom_2 : decode cX8_copyFrom 2 = .ok (.getfield 22, 3) := od_180 (a := 0) (b := 22) (by decide +kernel) (by decide)
theorem dX8_copyFrom_5 : decode cX8_copyFrom 5 = .ok (.putfield 22, 3) := od_181 (a := 0) (b := 22) (by decide +kernel) (by decide)
theorem dX8_copyFrom_8 : decode cX8_copyFrom 8 = .ok (.aload_n 0, 1) := od_42  (by decide +kernel)
theorem dX8_copyFrom_9 : decode cX8_copyFrom 9 = .ok (.aload_n 1, 1) := od_43  (by decide +kernel)
theorem dX8_copyFrom_10 : decode cX8_copyFrom 10 = .ok (.getfield 25, 3) := od_180 (a := 0) (b := 25) (by decide +kernel) (by decide)
theorem dX8_copyFrom_13 : decode cX8_copyFrom 13 = .ok (.putfield 25, 3) := od_181 (a := 0) (b := 25) (by decide +kernel) (by decide)
theorem dX8_copyFrom_16 : decode cX8_copyFrom 16 = .ok (.aload_n 0, 1) := od_42  (by decide +kernel)
theorem dX8_copyFrom_17 : decode cX8_copyFrom 17 = .ok (.aload_n 1, 1) := od_43  (by decide +kernel)
theorem dX8_copyFrom_18 : decode cX8_copyFrom 18 = .ok (.getfield 9, 3) := od_180 (a := 0) (b := 9) (by decide +kernel) (by decide)
theorem dX8_copyFrom_21 : decode cX8_copyFrom 21 = .ok (.putfield 9, 3) := od_181 (a := 0) (b := 9) (by decide +kernel) (by decide)
theorem dX8_copyFrom_24 : decode cX8_copyFrom 24 = .ok (.aload_n 0, 1) := od_42  (by decide +kernel)
theorem dX8_copyFrom_25 : decode cX8_copyFrom 25 = .ok (.aload_n 1, 1) := od_43  (by decide +kernel)
theorem dX8_copyFrom_26 : decode cX8_copyFrom 26 = .ok (.getfield 34, 3) := od_180 (a := 0) (b := 34) (by decide +kernel) (by decide)
theorem dX8_copyFrom_29 : decode cX8_copyFrom 29 = .ok (.putfield 34, 3) := od_181 (a := 0) (b := 34) (by decide +kernel) (by decide)
theorem dX8_copyFrom_32 : decode cX8_copyFrom 32 = .ok (.aload_n 0, 1) := od_42  (by decide +kernel)
theorem dX8_copyFrom_33 : decode cX8_copyFrom 33 = .ok (.aload_n 1, 1) := od_43  (by decide +kernel)
theorem dX8_copyFrom_34 : decode cX8_copyFrom 34 = .ok (.getfield 37, 3) := od_180 (a := 0) (b := 37) (by decide +kernel) (by decide)
theorem dX8_copyFrom_37 : decode cX8_copyFrom 37 = .ok (.putfield 37, 3) := od_181 (a := 0) (b := 37) (by decide +kernel) (by decide)
theorem dX8_copyFrom_40 : decode cX8_copyFrom 40 = .ok (.aload_n 1, 1) := od_43  (by decide +kernel)
theorem dX8_copyFrom_41 : decode cX8_copyFrom 41 = .ok (.getfield 15, 3) := od_180 (a := 0) (b := 15) (by decide +kernel) (by decide)
theorem dX8_copyFrom_44 : decode cX8_copyFrom 44 = .ok (.iconst 0, 1) := od_3  (by decide +kernel)
theorem dX8_copyFrom_45 : decode cX8_copyFrom 45 = .ok (.aload_n 0, 1) := od_42  (by decide +kernel)
theorem dX8_copyFrom_46 : decode cX8_copyFrom 46 = .ok (.getfield 15, 3) := od_180 (a := 0) (b := 15) (by decide +kernel) (by decide)
theorem dX8_copyFrom_49 : decode cX8_copyFrom 49 = .ok (.iconst 0, 1) := od_3  (by decide +kernel)
theorem dX8_copyFrom_50 : decode cX8_copyFrom 50 = .ok (.bipush 6, 2) := od_16 (a := 6) (by decide +kernel) (by decide +kernel)
theorem dX8_copyFrom_52 : decode cX8_copyFrom 52 = .ok (.invokestatic 50, 3) := od_184 (a := 0) (b := 50) (by decide +kernel) (by decide)
theorem dX8_copyFrom_55 : decode cX8_copyFrom 55 = .ok (.aload_n 1, 1) := od_43  (by decide +kernel)
theorem dX8_copyFrom_56 : decode cX8_copyFrom 56 = .ok (.getfield 19, 3) := od_180 (a := 0) (b := 19) (by decide +kernel) (by decide)
theorem dX8_copyFrom_59 : decode cX8_copyFrom 59 = .ok (.iconst 0, 1) := od_3  (by decide +kernel)
theorem dX8_copyFrom_60 : decode cX8_copyFrom 60 = .ok (.aload_n 0, 1) := od_42  (by decide +kernel)
theorem dX8_copyFrom_61 : decode cX8_copyFrom 61 = .ok (.getfield 19, 3) := od_180 (a := 0) (b := 19) (by decide +kernel) (by decide)
theorem dX8_copyFrom_64 : decode cX8_copyFrom 64 = .ok (.iconst 0, 1) := od_3  (by decide +kernel)
theorem dX8_copyFrom_65 : decode cX8_copyFrom 65 = .ok (.bipush 6, 2) := od_16 (a := 6) (by decide +kernel) (by decide +kernel)
theorem dX8_copyFrom_67 : decode cX8_copyFrom 67 = .ok (.invokestatic 50, 3) := od_184 (a := 0) (b := 50) (by decide +kernel) (by decide)
theorem dX8_copyFrom_70 : decode cX8_copyFrom 70 = .ok (.return_, 1) := od_177  (by decide +kernel)
theorem dX11_within_0 : decode cX11_within 0 = .ok (.iload_n 0, 1) := od_26  (by decide +kernel)
theorem dX11_within_1 : decode cX11_within 1 = .ok (.iload_n 1, 1) := od_27  (by decide +kernel)
theorem dX11_within_2 : decode cX11_within 2 = .ok (.if_icmp .lt 12, 3) := od_161 (a := 0) (b := 12) (by decide +kernel) (by decide +kernel)
theorem dX11_within_5 : decode cX11_within 5 = .ok (.iload_n 0, 1) := od_26  (by decide +kernel)
theorem dX11_within_6 : decode cX11_within 6 = .ok (.iload_n 2, 1) := od_28  (by decide +kernel)
theorem dX11_within_7 : decode cX11_within 7 = .ok (.if_icmp .gt 7, 3) := od_163 (a := 0) (b := 7) (by decide +kernel) (by decide +kernel)
theorem dX11_within_10 : decode cX11_within 10 = .ok (.iconst 1, 1) := od_4  (by decide +kernel)
theorem dX11_within_11 : decode cX11_within 11 = .ok (.goto 4, 3) := od_167 (a := 0) (b := 4) (by decide +kernel) (by decide +kernel)
theorem dX11_within_14 : decode cX11_within 14 = .ok (.iconst 0, 1) := od_3  (by decide +kernel)
theorem dX11_within_15 : decode cX11_within 15 = .ok (.ireturn, 1) := od_172  (by decide +kernel)
theorem gX11_isHour_X11_within : GoodIn WALL (va_wsS RX11 51 yX11_within wqX11_within) := wg_S wa_180 wa_181 wa_2 wa_182
theorem dX11_isHour_0 : decode cX11_isHour 0 = .ok (.iload_n 0, 1) := od_26  (by decide +kernel)
theorem dX11_isHour_1 : decode cX11_isHour 1 = .ok (.iconst 0, 1) := od_3  (by decide +kernel)
theorem dX11_isHour_2 : decode cX11_isHour 2 = .ok (.sipush 2399, 3) := od_17 (a := 9) (b := 95) (by decide +kernel) (by decide +kernel)
theorem dX11_isHour_5 : decode cX11_isHour 5 = .ok (.invokestatic 51, 3) := od_184 (a := 0) (b := 51) (by decide +kernel) (by decide)
theorem dX11_isHour_8 : decode cX11_isHour 8 = .ok (.ireturn, 1) := od_172  (by decide +kernel)
theorem gX11_isSpan_X11_isHour : GoodIn WALL (va_wsS RX11 229 yX11_isHour wqX11_isHour) := wg_S wa_323 wa_324 wa_2 wa_325
theorem dX11_isSpan_0 : decode cX11_isSpan 0 = .ok (.iload_n 0, 1) := od_26  (by decide +kernel)
theorem dX11_isSpan_1 : decode cX11_isSpan 1 = .ok (.invokestatic 229, 3) := od_184 (a := 0) (b := 229) (by decide +kernel) (by decide)
theorem dX11_isSpan_4 : decode cX11_isSpan 4 = .ok (.ifCond .eq 19, 3) := od_153 (a := 0) (b := 19) (by decide +kernel) (by decide +kernel)
theorem dX11_isSpan_7 : decode cX11_isSpan 7 = .ok (.iload_n 1, 1) := od_27  (by decide +kernel)
theorem dX11_isSpan_8 : decode cX11_isSpan 8 = .ok (.invokestatic 229, 3) := od_184 (a := 0) (b := 229) (by decide +kernel) (by decide)
theorem dX11_isSpan_11 : decode cX11_isSpan 11 = .ok (.ifCond .eq 12, 3) := od_153 (a := 0) (b := 12) (by decide +kernel) (by decide +kernel)
theorem dX11_isSpan_14 : decode cX11_isSpan 14 = .ok (.iload_n 0, 1) := od_26  (by decide +kernel)
theorem dX11_isSpan_15 : decode cX11_isSpan 15 = .ok (.iload_n 1, 1) := od_27  (by decide +kernel)
theorem dX11_isSpan_16 : decode cX11_isSpan 16 = .ok (.if_icmp .gt 7, 3) := od_163 (a := 0) (b := 7) (by decide +kernel) (by decide +kernel)
theorem dX11_isSpan_19 : decode cX11_isSpan 19 = .ok (.iconst 1, 1) := od_4  (by decide +kernel)
theorem dX11_isSpan_20 : decode cX11_isSpan 20 = .ok (.goto 4, 3) := od_167 (a := 0) (b := 4) (by decide +kernel) (by decide +kernel)
theorem dX11_isSpan_23 : decode cX11_isSpan 23 = .ok (.iconst 0, 1) := od_3  (by decide +kernel)
theorem dX11_isSpan_24 : decode cX11_isSpan 24 = .ok (.ireturn, 1) := od_172  (by decide +kernel)
theorem dX11_slotOwner_0 : decode cX11_slotOwner 0 = .ok (.iload_n 0, 1) := od_26  (by decide +kernel)
theorem dX11_slotOwner_1 : decode cX11_slotOwner 1 = .ok (.bipush 6, 2) := od_16 (a := 6) (by decide +kernel) (by decide +kernel)
theorem dX11_slotOwner_3 : decode cX11_slotOwner 3 = .ok (.imul, 1) := od_104  (by decide +kernel)
theorem dX11_slotOwner_4 : decode cX11_slotOwner 4 = .ok (.iload_n 1, 1) := od_27  (by decide +kernel)
theorem dX11_slotOwner_5 : decode cX11_slotOwner 5 = .ok (.iadd, 1) := od_96  (by decide +kernel)
theorem dX11_slotOwner_6 : decode cX11_slotOwner 6 = .ok (.ireturn, 1) := od_172  (by decide +kernel)
end
section
set_option maxHeartbeats 4000000 in
set_option maxRecDepth 100000 in
theorem t_X11_within (l : Launch) (dC : Nat → ClassId) (dI : Nat → Nat → Nat) (sz : Nat) (v : Int32) (lo : Int32) (hi : Int32) (Z_v : Int) (Z_lo : Int) (Z_hi : Int) (hZ_v : v.toInt = Z_v) (hZ_lo : lo.toInt = Z_lo) (hZ_hi : hi.toInt = Z_hi) : Met l yX11_within wqX11_within ({ frames := 2, cells := 0, slots := 0, locals := 400 }) (va_Pc [.int v, .int lo, .int hi] (pz_B dC dI [] [] sz)) (vp_Si (fun r => (0 ≤ r.toInt ∧ r.toInt ≤ 1) ∧ tp_cond r (Z_lo ≤ Z_v ∧ Z_v ≤ Z_hi))) 0 0 (fun _ => False) := by
  refine Met.ofW (cc := cX11_within) (maxL := 3) (ret := some .boolean) (by decide) rfl ?_
  intro p e s m args below meth c s₁ B hml hv
  obtain ⟨rfl, hsz, hP, hK, hD0, hN⟩ := hv
  have hx := B.exec
  have hb := B.bytes
  have hr := B.returns
  have hts := fun (w : Cond) (h : w ∈ WALL) => atoms_spec (ws := wqX11_within) B.pre w (List.mem_cons_of_mem _ h)
  have hown : s.vm.findClass RX11 = some m.cls := findClass_of_methodNamed B.named
  have hlocks := B.notSynchronized
  subst hsz
  have hD := hD0
  have hS : va_S (fun _ => True) s.heap s.heap [] := va_S.rf
  have hl := lv_entry ([.int v, .int lo, .int hi]) (n := 3) (Nat.le_of_ble_eq_true rfl)
  rw [lg_entry_eq]
  generalize (lg_sl ([.int v, .int lo, .int hi]) ++ List.replicate (3 - (lg_sl ([.int v, .int lo, .int hi])).length) Slot.unset).toArray = ls at hl ⊢
  have hl : lv_has ls 3 [(0, .int v), (1, .int lo), (2, .int hi)] := hl
  refine lv_iload_n hx hb dX11_within_0 rfl (lv_at hl 0 rfl) ?_
  refine lv_iload_n hx hb dX11_within_1 rfl (lv_at hl 1 rfl) ?_
  refine lv_icmp_lt (tgt := 14) hx hb dX11_within_2 (by decide) (fun c1 => ?_) (fun c1 => ?_)
  · have ic1 : Z_v < Z_lo := zi_lt hZ_v hZ_lo c1
    refine lv_iconst (v := 0) hx hb dX11_within_14 (by decide) ?_
    exact W.zret (v := 0) hx hb hr rfl (fun t ht hW => ⟨0, rfl, ⟨(by first | decide | omega), (Or.inr ⟨rfl, by omega⟩)⟩, ht⟩) (fun _ h => by cases h) dX11_within_15
  · have ic1 : Z_v ≥ Z_lo := zi_ltf hZ_v hZ_lo c1
    refine lv_iload_n hx hb dX11_within_5 rfl (lv_at hl 0 rfl) ?_
    refine lv_iload_n hx hb dX11_within_6 rfl (lv_at hl 2 rfl) ?_
    refine lv_icmp_gt (tgt := 14) hx hb dX11_within_7 (by decide) (fun c2 => ?_) (fun c2 => ?_)
    · have ic2 : Z_v > Z_hi := zi_gt hZ_v hZ_hi c2
      refine lv_iconst (v := 0) hx hb dX11_within_14 (by decide) ?_
      exact W.zret (v := 0) hx hb hr rfl (fun t ht hW => ⟨0, rfl, ⟨(by first | decide | omega), (Or.inr ⟨rfl, by omega⟩)⟩, ht⟩) (fun _ h => by cases h) dX11_within_15
    · have ic2 : Z_v ≤ Z_hi := zi_gtf hZ_v hZ_hi c2
      refine lv_iconst (v := 1) hx hb dX11_within_10 (by decide) ?_
      refine lv_goto (tgt := 15) hx hb dX11_within_11 (by decide) ?_
      exact W.zret (v := 1) hx hb hr rfl (fun t ht hW => ⟨1, rfl, ⟨(by first | decide | omega), (Or.inl ⟨rfl, by omega⟩)⟩, ht⟩) (fun _ h => by cases h) dX11_within_15
set_option maxHeartbeats 4000000 in
set_option maxRecDepth 100000 in
theorem t_X11_isHour (l : Launch) (dC : Nat → ClassId) (dI : Nat → Nat → Nat) (sz : Nat) (v : Int32) (Z_v : Int) (hZ_v : v.toInt = Z_v) : Met l yX11_isHour wqX11_isHour ({ frames := 3, cells := 0, slots := 0, locals := 800 }) (va_Pc [.int v] (pz_B dC dI [] [] sz)) (vp_Si (fun r => (0 ≤ r.toInt ∧ r.toInt ≤ 1) ∧ tp_cond r (0 ≤ Z_v ∧ Z_v ≤ 2399))) 0 0 (fun _ => False) := by
  refine Met.ofW (cc := cX11_isHour) (maxL := 1) (ret := some .boolean) (by decide) rfl ?_
  intro p e s m args below meth c s₁ B hml hv
  obtain ⟨rfl, hsz, hP, hK, hD0, hN⟩ := hv
  have hx := B.exec
  have hb := B.bytes
  have hr := B.returns
  have hts := fun (w : Cond) (h : w ∈ WALL) => atoms_spec (ws := wqX11_isHour) B.pre w (List.mem_cons_of_mem _ h)
  have hown : s.vm.findClass RX11 = some m.cls := findClass_of_methodNamed B.named
  have hlocks := B.notSynchronized
  subst hsz
  have hD := hD0
  have hS : va_S (fun _ => True) s.heap s.heap [] := va_S.rf
  have hl := lv_entry ([.int v]) (n := 1) (Nat.le_of_ble_eq_true rfl)
  rw [lg_entry_eq]
  generalize (lg_sl ([.int v]) ++ List.replicate (1 - (lg_sl ([.int v])).length) Slot.unset).toArray = ls at hl ⊢
  have hl : lv_has ls 1 [(0, .int v)] := hl
  refine lv_iload_n hx hb dX11_isHour_0 rfl (lv_at hl 0 rfl) ?_
  refine lv_iconst (v := 0) hx hb dX11_isHour_1 (by decide) ?_
  refine lv_sipush (v := 2399) hx hb dX11_isHour_2 (by decide) ?_
  refine pz_calli (va_runS (As := [.int v, .int 0, .int 2399]) (rest := []) ⟨hx, hb, hml, hown, hts⟩ (t_X11_within l dC dI _ v (0) (2399) (Z_v) (0) (2399) hZ_v rfl rfl) (va_cwS 3 hts gX11_isHour_X11_within rfl rfl rfl pd_X11_within ⟨Nat.le_of_ble_eq_true rfl, Nat.le_of_ble_eq_true rfl⟩) ⟨pz_blind, pz_pre pz_P0 (hK.sub (tys' := []) [] rfl) (pz_D0 (A := fun _ => True)) hN⟩ rfl rfl hl.1 rfl (lv_room (Nat.le_of_ble_eq_true rfl)) dX11_isHour_5 ⟨Nat.le_of_ble_eq_true rfl, Nat.le_of_ble_eq_true rfl⟩) (fun r1 hw2 => ?_)
  obtain ⟨hw2r, hw2p⟩ := hw2
  exact W.zret (v := r1) hx hb hr (zi_narZ (by omega) (by omega)) (fun t ht hW => ⟨r1, rfl, ⟨(by first | decide | omega), (tp_cond.of hw2p (by omega))⟩, ht⟩) (fun _ h => by cases h) dX11_isHour_8
set_option maxHeartbeats 4000000 in
set_option maxRecDepth 100000 in
theorem t_X11_isSpan (l : Launch) (dC : Nat → ClassId) (dI : Nat → Nat → Nat) (sz : Nat) (v : Int32) (u : Int32) (Z_v : Int) (Z_u : Int) (hZ_v : v.toInt = Z_v) (hZ_u : u.toInt = Z_u) : Met l yX11_isSpan wqX11_isSpan ({ frames := 4, cells := 0, slots := 0, locals := 1200 }) (va_Pc [.int v, .int u] (pz_B dC dI [] [] sz)) (vp_Si (fun r => (0 ≤ r.toInt ∧ r.toInt ≤ 1) ∧ tp_cond r ((0 ≤ Z_v ∧ Z_v ≤ 2399) ∧ (0 ≤ Z_u ∧ Z_u ≤ 2399) ∧ Z_v ≤ Z_u))) 0 0 (fun _ => False) := by
  refine Met.ofW (cc := cX11_isSpan) (maxL := 2) (ret := some .boolean) (by decide) rfl ?_
  intro p e s m args below meth c s₁ B hml hv
  obtain ⟨rfl, hsz, hP, hK, hD0, hN⟩ := hv
  have hx := B.exec
  have hb := B.bytes
  have hr := B.returns
  have hts := fun (w : Cond) (h : w ∈ WALL) => atoms_spec (ws := wqX11_isSpan) B.pre w (List.mem_cons_of_mem _ h)
  have hown : s.vm.findClass RX11 = some m.cls := findClass_of_methodNamed B.named
  have hlocks := B.notSynchronized
  subst hsz
  have hD := hD0
  have hS : va_S (fun _ => True) s.heap s.heap [] := va_S.rf
  have hl := lv_entry ([.int v, .int u]) (n := 2) (Nat.le_of_ble_eq_true rfl)
  rw [lg_entry_eq]
  generalize (lg_sl ([.int v, .int u]) ++ List.replicate (2 - (lg_sl ([.int v, .int u])).length) Slot.unset).toArray = ls at hl ⊢
  have hl : lv_has ls 2 [(0, .int v), (1, .int u)] := hl
  refine lv_iload_n hx hb dX11_isSpan_0 rfl (lv_at hl 0 rfl) ?_
  refine pz_calli (va_runS (As := [.int v]) (rest := []) ⟨hx, hb, hml, hown, hts⟩ (t_X11_isHour l dC dI _ v (Z_v) hZ_v) (va_cwS 1 hts gX11_isSpan_X11_isHour rfl rfl rfl pd_X11_isHour ⟨Nat.le_of_ble_eq_true rfl, Nat.le_of_ble_eq_true rfl⟩) ⟨pz_blind, pz_pre pz_P0 (hK.sub (tys' := []) [] rfl) (pz_D0 (A := fun _ => True)) hN⟩ rfl rfl hl.1 rfl (lv_room (Nat.le_of_ble_eq_true rfl)) dX11_isSpan_1 ⟨Nat.le_of_ble_eq_true rfl, Nat.le_of_ble_eq_true rfl⟩) (fun r1 hw2 => ?_)
  obtain ⟨hw2r, hw2p⟩ := hw2
  refine lv_if_eq (tgt := 23) hx hb dX11_isSpan_4 (by decide) (fun c3 => ?_) (fun c3 => ?_)
  · have ic3 : r1.toInt = 0 := zi_eq rfl rfl c3
    have p4 : ¬ (0 ≤ (Z_v) ∧ (Z_v) ≤ 2399) := (tp_cond.no hw2p) (by omega)
    clear hw2r ic3
    refine lv_iconst (v := 0) hx hb dX11_isSpan_23 (by decide) ?_
    exact W.zret (v := 0) hx hb hr rfl (fun t ht hW => ⟨0, rfl, ⟨(by first | decide | omega), (Or.inr ⟨rfl, by omega⟩)⟩, ht⟩) (fun _ h => by cases h) dX11_isSpan_24
  · have ic3 : r1.toInt ≠ 0 := zi_eqf rfl rfl c3
    have p5 : 0 ≤ (Z_v) ∧ (Z_v) ≤ 2399 := (tp_cond.yes hw2p) (by omega)
    clear hw2r ic3
    refine lv_iload_n hx hb dX11_isSpan_7 rfl (lv_at hl 1 rfl) ?_
    refine pz_calli (va_runS (As := [.int u]) (rest := []) ⟨hx, hb, hml, hown, hts⟩ (t_X11_isHour l dC dI _ u (Z_u) hZ_u) (va_cwS 1 hts gX11_isSpan_X11_isHour rfl rfl rfl pd_X11_isHour ⟨Nat.le_of_ble_eq_true rfl, Nat.le_of_ble_eq_true rfl⟩) ⟨pz_blind, pz_pre pz_P0 (hK.sub (tys' := []) [] rfl) (pz_D0 (A := fun _ => True)) hN⟩ rfl rfl hl.1 rfl (lv_room (Nat.le_of_ble_eq_true rfl)) dX11_isSpan_8 ⟨Nat.le_of_ble_eq_true rfl, Nat.le_of_ble_eq_true rfl⟩) (fun r6 hw7 => ?_)
    obtain ⟨hw7r, hw7p⟩ := hw7
    refine lv_if_eq (tgt := 23) hx hb dX11_isSpan_11 (by decide) (fun c8 => ?_) (fun c8 => ?_)
    · have ic8 : r6.toInt = 0 := zi_eq rfl rfl c8
      have p9 : ¬ (0 ≤ (Z_u) ∧ (Z_u) ≤ 2399) := (tp_cond.no hw7p) (by omega)
      clear hw7r ic8
      refine lv_iconst (v := 0) hx hb dX11_isSpan_23 (by decide) ?_
      exact W.zret (v := 0) hx hb hr rfl (fun t ht hW => ⟨0, rfl, ⟨(by first | decide | omega), (Or.inr ⟨rfl, by omega⟩)⟩, ht⟩) (fun _ h => by cases h) dX11_isSpan_24
    · have ic8 : r6.toInt ≠ 0 := zi_eqf rfl rfl c8
      have p10 : 0 ≤ (Z_u) ∧ (Z_u) ≤ 2399 := (tp_cond.yes hw7p) (by omega)
      clear hw7r ic8
      refine lv_iload_n hx hb dX11_isSpan_14 rfl (lv_at hl 0 rfl) ?_
      refine lv_iload_n hx hb dX11_isSpan_15 rfl (lv_at hl 1 rfl) ?_
      refine lv_icmp_gt (tgt := 23) hx hb dX11_isSpan_16 (by decide) (fun c11 => ?_) (fun c11 => ?_)
      · have ic11 : Z_v > Z_u := zi_gt hZ_v hZ_u c11
        refine lv_iconst (v := 0) hx hb dX11_isSpan_23 (by decide) ?_
        exact W.zret (v := 0) hx hb hr rfl (fun t ht hW => ⟨0, rfl, ⟨(by first | decide | omega), (Or.inr ⟨rfl, by omega⟩)⟩, ht⟩) (fun _ h => by cases h) dX11_isSpan_24
      · have ic11 : Z_v ≤ Z_u := zi_gtf hZ_v hZ_u c11
        refine lv_iconst (v := 1) hx hb dX11_isSpan_19 (by decide) ?_
        refine lv_goto (tgt := 24) hx hb dX11_isSpan_20 (by decide) ?_
        exact W.zret (v := 1) hx hb hr rfl (fun t ht hW => ⟨1, rfl, ⟨(by first | decide | omega), (Or.inl ⟨rfl, by omega⟩)⟩, ht⟩) (fun _ h => by cases h) dX11_isSpan_24
set_option maxHeartbeats 4000000 in
set_option maxRecDepth 100000 in
theorem t_X11_slotOwner (l : Launch) (dC : Nat → ClassId) (dI : Nat → Nat → Nat) (sz : Nat) (v : Int32) (u : Int32) : Met l yX11_slotOwner wqX11_slotOwner ({ frames := 2, cells := 0, slots := 0, locals := 400 }) (va_Pc [.int v, .int u] (pz_B dC dI [] [] sz)) (vp_Si (fun r => True ∧ True)) 0 0 (fun _ => False) := by
  refine Met.ofW (cc := cX11_slotOwner) (maxL := 2) (ret := some .int) (by decide) rfl ?_
  intro p e s m args below meth c s₁ B hml hv
  obtain ⟨rfl, hsz, hP, hK, hD0, hN⟩ := hv
  have hx := B.exec
  have hb := B.bytes
  have hr := B.returns
  have hts := fun (w : Cond) (h : w ∈ WALL) => atoms_spec (ws := wqX11_slotOwner) B.pre w (List.mem_cons_of_mem _ h)
  have hown : s.vm.findClass RX11 = some m.cls := findClass_of_methodNamed B.named
  have hlocks := B.notSynchronized
  subst hsz
  have hD := hD0
  have hS : va_S (fun _ => True) s.heap s.heap [] := va_S.rf
  have hl := lv_entry ([.int v, .int u]) (n := 2) (Nat.le_of_ble_eq_true rfl)
  rw [lg_entry_eq]
  generalize (lg_sl ([.int v, .int u]) ++ List.replicate (2 - (lg_sl ([.int v, .int u])).length) Slot.unset).toArray = ls at hl ⊢
  have hl : lv_has ls 2 [(0, .int v), (1, .int u)] := hl
  refine lv_iload_n hx hb dX11_slotOwner_0 rfl (lv_at hl 0 rfl) ?_
  refine lv_bipush (v := 6) hx hb dX11_slotOwner_1 (by decide) ?_
  refine lv_imul hx hb dX11_slotOwner_3 ?_
  refine lv_topi (fun z1 ez1 => ?_)
  refine lv_iload_n hx hb dX11_slotOwner_4 rfl (lv_at hl 1 rfl) ?_
  refine lv_iadd hx hb dX11_slotOwner_5 ?_
  refine lv_topi (fun z2 ez2 => ?_)
  exact W.iret (v := z2) hx hb hr (fun t ht hW => ⟨z2, rfl, ⟨trivial, trivial⟩, ht⟩) (fun _ h => by cases h) dX11_slotOwner_6
set_option maxHeartbeats 4000000 in
set_option maxRecDepth 100000 in
theorem t_X4_has (l : Launch) (dC : Nat → ClassId) (dI : Nat → Nat → Nat) (sz : Nat) (Ω : Nat → Nat → (Nat → Nat) → va_E → Prop) (κ : Nat → ClassId) (τ ν : Nat → Nat) (ρ : Nat → Nat → Nat) (L : List Nat) (f : Nat → va_E) (hG : tp_G τ ν ρ L) (hT : tp_T Ω κ τ ν ρ f) (h0 : Nat) (v : Int32) (ht_h0 : τ h0 = 5) (h0_x0 : Int32) (h0_x2 : Int32) (hf_h0 : f h0 = .inr (4, [.int h0_x0, .ref (ρ h0 1), .int h0_x2])) : Met l yX4_has wqX4_has ({ frames := 2, cells := 0, slots := 0, locals := 400 }) (va_Pc [.ref h0, .int v] (pz_B dC dI (tp_K κ) (va_pl L f) sz)) (vp_Si (fun r => (0 ≤ r.toInt ∧ r.toInt ≤ 1) ∧ tp_cond r (0 ≤ v.toInt ∧ v.toInt < h0_x2.toInt))) 0 0 (fun _ => False) := by
  refine Met.ofW (cc := cX4_has) (maxL := 2) (ret := some .boolean) (by decide) rfl ?_
  intro p e s m args below meth c s₁ B hml hv
  obtain ⟨rfl, hsz, hP, hK, hD0, hN⟩ := hv
  have hx := B.exec
  have hb := B.bytes
  have hr := B.returns
  have hts := fun (w : Cond) (h : w ∈ WALL) => atoms_spec (ws := wqX4_has) B.pre w (List.mem_cons_of_mem _ h)
  have hown : s.vm.findClass RX4 = some m.cls := findClass_of_methodNamed B.named
  have hlocks := B.notSynchronized
  subst hsz
  have hD := hD0
  have hS : va_S (fun _ => True) s.heap s.heap [] := va_S.rf
  have hl := lv_entry ([.ref h0, .int v]) (n := 2) (Nat.le_of_ble_eq_true rfl)
  rw [lg_entry_eq]
  generalize (lg_sl ([.ref h0, .int v]) ++ List.replicate (2 - (lg_sl ([.ref h0, .int v])).length) Slot.unset).toArray = ls at hl ⊢
  have hl : lv_has ls 2 [(0, .ref h0), (1, .int v)] := hl
  refine tpk_5 hT ht_h0 (fun h0z_x0 h0z_x2 hfz_h0 rzh0_0 rzh0_1 => ?_)
  obtain ⟨rfl, rfl⟩ := tp_same5 hf_h0 hfz_h0
  refine lv_iload_n hx hb dX4_has_0 rfl (lv_at hl 1 rfl) ?_
  refine lv_if_lt (tgt := 16) hx hb dX4_has_1 (by decide) (fun c1 => ?_) (fun c1 => ?_)
  · have ic1 : v.toInt < 0 := zi_lt rfl rfl c1
    refine lv_iconst (v := 0) hx hb dX4_has_16 (by decide) ?_
    exact W.zret (v := 0) hx hb hr rfl (fun t ht hW => ⟨0, rfl, ⟨(by first | decide | omega), (Or.inr ⟨rfl, by omega⟩)⟩, ht⟩) (fun _ h => by cases h) dX4_has_17
  · have ic1 : v.toInt ≥ 0 := zi_ltf rfl rfl c1
    refine lv_iload_n hx hb dX4_has_4 rfl (lv_at hl 1 rfl) ?_
    refine lv_aload_n hx hb dX4_has_5 rfl (lv_at hl 0 rfl) ?_
    refine tpk_pos (tp_in hG ht_h0 (by decide)) hf_h0 (fun q2 eq2 => ?_)
    have rzh0_1 := tp_hu rzh0_1
    refine va_get (D := (dC, dI)) (ci := 4) (v := .int h0_x2) (C := RX4) (T := TX4) (N := 3) hx hb hts hfX4 hown hK hP q2 eq2 rfl 2 (by decide) (hts (.fieldLink RX4 25 "ColdShips$Rows" "size" "I") wa_517) (fun _ h9 => h9) rfl dX4_has_6 ?_
    refine lv_icmp_ge (tgt := 16) hx hb dX4_has_9 (by decide) (fun c3 => ?_) (fun c3 => ?_)
    · have ic3 : v.toInt ≥ h0_x2.toInt := zi_ge rfl rfl c3
      refine lv_iconst (v := 0) hx hb dX4_has_16 (by decide) ?_
      exact W.zret (v := 0) hx hb hr rfl (fun t ht hW => ⟨0, rfl, ⟨(by first | decide | omega), (Or.inr ⟨rfl, by omega⟩)⟩, ht⟩) (fun _ h => by cases h) dX4_has_17
    · have ic3 : v.toInt < h0_x2.toInt := zi_gef rfl rfl c3
      refine lv_iconst (v := 1) hx hb dX4_has_12 (by decide) ?_
      refine lv_goto (tgt := 17) hx hb dX4_has_13 (by decide) ?_
      exact W.zret (v := 1) hx hb hr rfl (fun t ht hW => ⟨1, rfl, ⟨(by first | decide | omega), (Or.inl ⟨rfl, by omega⟩)⟩, ht⟩) (fun _ h => by cases h) dX4_has_17
set_option maxHeartbeats 4000000 in
set_option maxRecDepth 100000 in
theorem t_X4_at (l : Launch) (dC : Nat → ClassId) (dI : Nat → Nat → Nat) (sz : Nat) (Ω : Nat → Nat → (Nat → Nat) → va_E → Prop) (κ : Nat → ClassId) (τ ν : Nat → Nat) (ρ : Nat → Nat → Nat) (L : List Nat) (f : Nat → va_E) (hG : tp_G τ ν ρ L) (hT : tp_T Ω κ τ ν ρ f) (h0 : Nat) (v : Int32) (u : Int32) (ht_h0 : τ h0 = 5) (h0_x0 : Int32) (h0_x2 : Int32) (hf_h0 : f h0 = .inr (4, [.int h0_x0, .ref (ρ h0 1), .int h0_x2])) : Met l yX4_at wqX4_at ({ frames := 2, cells := 0, slots := 0, locals := 400 }) (va_Pc [.ref h0, .int v, .int u] (pz_B dC dI (tp_K κ) (va_pl L f) sz)) (vp_Sl (fun r => True ∧ True)) 0 0 (fun _ => False) := by
  refine Met.ofW (cc := cX4_at) (maxL := 4) (ret := some .long) (by decide) rfl ?_
  intro p e s m args below meth c s₁ B hml hv
  obtain ⟨rfl, hsz, hP, hK, hD0, hN⟩ := hv
  have hx := B.exec
  have hb := B.bytes
  have hr := B.returns
  have hts := fun (w : Cond) (h : w ∈ WALL) => atoms_spec (ws := wqX4_at) B.pre w (List.mem_cons_of_mem _ h)
  have hown : s.vm.findClass RX4 = some m.cls := findClass_of_methodNamed B.named
  have hlocks := B.notSynchronized
  subst hsz
  have hD := hD0
  have hS : va_S (fun _ => True) s.heap s.heap [] := va_S.rf
  have hl := lv_entry ([.ref h0, .int v, .int u]) (n := 4) (Nat.le_of_ble_eq_true rfl)
  rw [lg_entry_eq]
  generalize (lg_sl ([.ref h0, .int v, .int u]) ++ List.replicate (4 - (lg_sl ([.ref h0, .int v, .int u])).length) Slot.unset).toArray = ls at hl ⊢
  have hl : lv_has ls 4 [(0, .ref h0), (1, .int v), (2, .int u)] := hl
  refine tpk_5 hT ht_h0 (fun h0z_x0 h0z_x2 hfz_h0 rzh0_0 rzh0_1 => ?_)
  obtain ⟨rfl, rfl⟩ := tp_same5 hf_h0 hfz_h0
  refine lv_iload_n hx hb dX4_at_0 rfl (lv_at hl 1 rfl) ?_
  refine lv_if_lt (tgt := 28) hx hb dX4_at_1 (by decide) (fun c1 => ?_) (fun c1 => ?_)
  · have ic1 : v.toInt < 0 := zi_lt rfl rfl c1
    refine lv_iconst (v := 0) hx hb dX4_at_28 (by decide) ?_
    refine lv_istore_n (lv' := [(3, .int 0), (0, .ref h0), (1, .int v), (2, .int u)]) hx hb dX4_at_29 rfl hl (by decide) rfl (fun ls hl => ?_)
    refine lv_iload_n hx hb dX4_at_30 rfl (lv_at hl 0 rfl) ?_
    refine lv_if_eq (tgt := 50) hx hb dX4_at_31 (by decide) (fun _ => ?_) (fun c9 => absurd c9 (by decide))
    refine lv_lconst (v := 0) hx hb dX4_at_50 (by decide) ?_
    exact W.lret (v := 0) hx hb hr (fun t ht hW => ⟨0, rfl, ⟨trivial, trivial⟩, ht⟩) (fun _ h => by cases h) dX4_at_51
  · have ic1 : v.toInt ≥ 0 := zi_ltf rfl rfl c1
    refine lv_iload_n hx hb dX4_at_4 rfl (lv_at hl 1 rfl) ?_
    refine lv_aload_n hx hb dX4_at_5 rfl (lv_at hl 0 rfl) ?_
    refine tpk_pos (tp_in hG ht_h0 (by decide)) hf_h0 (fun q2 eq2 => ?_)
    have rzh0_1 := tp_hu rzh0_1
    refine va_get (D := (dC, dI)) (ci := 4) (v := .int h0_x2) (C := RX4) (T := TX4) (N := 3) hx hb hts hfX4 hown hK hP q2 eq2 rfl 2 (by decide) (hts (.fieldLink RX4 25 "ColdShips$Rows" "size" "I") wa_517) (fun _ h9 => h9) rfl dX4_at_6 ?_
    refine lv_icmp_ge (tgt := 28) hx hb dX4_at_9 (by decide) (fun c3 => ?_) (fun c3 => ?_)
    · have ic3 : v.toInt ≥ h0_x2.toInt := zi_ge rfl rfl c3
      refine lv_iconst (v := 0) hx hb dX4_at_28 (by decide) ?_
      refine lv_istore_n (lv' := [(3, .int 0), (0, .ref h0), (1, .int v), (2, .int u)]) hx hb dX4_at_29 rfl hl (by decide) rfl (fun ls hl => ?_)
      refine lv_iload_n hx hb dX4_at_30 rfl (lv_at hl 0 rfl) ?_
      refine lv_if_eq (tgt := 50) hx hb dX4_at_31 (by decide) (fun _ => ?_) (fun c9 => absurd c9 (by decide))
      refine lv_lconst (v := 0) hx hb dX4_at_50 (by decide) ?_
      exact W.lret (v := 0) hx hb hr (fun t ht hW => ⟨0, rfl, ⟨trivial, trivial⟩, ht⟩) (fun _ h => by cases h) dX4_at_51
    · have ic3 : v.toInt < h0_x2.toInt := zi_gef rfl rfl c3
      refine lv_iload_n hx hb dX4_at_12 rfl (lv_at hl 2 rfl) ?_
      refine lv_if_lt (tgt := 28) hx hb dX4_at_13 (by decide) (fun c4 => ?_) (fun c4 => ?_)
      · have ic4 : u.toInt < 0 := zi_lt rfl rfl c4
        refine lv_iconst (v := 0) hx hb dX4_at_28 (by decide) ?_
        refine lv_istore_n (lv' := [(3, .int 0), (0, .ref h0), (1, .int v), (2, .int u)]) hx hb dX4_at_29 rfl hl (by decide) rfl (fun ls hl => ?_)
        refine lv_iload_n hx hb dX4_at_30 rfl (lv_at hl 0 rfl) ?_
        refine lv_if_eq (tgt := 50) hx hb dX4_at_31 (by decide) (fun _ => ?_) (fun c9 => absurd c9 (by decide))
        refine lv_lconst (v := 0) hx hb dX4_at_50 (by decide) ?_
        exact W.lret (v := 0) hx hb hr (fun t ht hW => ⟨0, rfl, ⟨trivial, trivial⟩, ht⟩) (fun _ h => by cases h) dX4_at_51
      · have ic4 : u.toInt ≥ 0 := zi_ltf rfl rfl c4
        refine lv_iload_n hx hb dX4_at_16 rfl (lv_at hl 2 rfl) ?_
        refine lv_aload_n hx hb dX4_at_17 rfl (lv_at hl 0 rfl) ?_
        have rzh0_0 := tp_hu rzh0_0
        refine va_get (D := (dC, dI)) (ci := 4) (v := .int h0_x0) (C := RX4) (T := TX4) (N := 3) hx hb hts hfX4 hown hK hP q2 eq2 rfl 0 (by decide) (hts (.fieldLink RX4 15 "ColdShips$Rows" "width" "I") wa_81) (fun _ h9 => h9) rfl dX4_at_18 ?_
        refine lv_icmp_ge (tgt := 28) hx hb dX4_at_21 (by decide) (fun c5 => ?_) (fun c5 => ?_)
        · have ic5 : u.toInt ≥ h0_x0.toInt := zi_ge rfl rfl c5
          refine lv_iconst (v := 0) hx hb dX4_at_28 (by decide) ?_
          refine lv_istore_n (lv' := [(3, .int 0), (0, .ref h0), (1, .int v), (2, .int u)]) hx hb dX4_at_29 rfl hl (by decide) rfl (fun ls hl => ?_)
          refine lv_iload_n hx hb dX4_at_30 rfl (lv_at hl 0 rfl) ?_
          refine lv_if_eq (tgt := 50) hx hb dX4_at_31 (by decide) (fun _ => ?_) (fun c9 => absurd c9 (by decide))
          refine lv_lconst (v := 0) hx hb dX4_at_50 (by decide) ?_
          exact W.lret (v := 0) hx hb hr (fun t ht hW => ⟨0, rfl, ⟨trivial, trivial⟩, ht⟩) (fun _ h => by cases h) dX4_at_51
        · have ic5 : u.toInt < h0_x0.toInt := zi_gef rfl rfl c5
          refine lv_iconst (v := 1) hx hb dX4_at_24 (by decide) ?_
          refine lv_goto (tgt := 29) hx hb dX4_at_25 (by decide) ?_
          refine lv_istore_n (lv' := [(3, .int 1), (0, .ref h0), (1, .int v), (2, .int u)]) hx hb dX4_at_29 rfl hl (by decide) rfl (fun ls hl => ?_)
          refine lv_iload_n hx hb dX4_at_30 rfl (lv_at hl 0 rfl) ?_
          refine lv_if_eq (tgt := 50) hx hb dX4_at_31 (by decide) (fun c9 => absurd c9 (by decide)) (fun _ => ?_)
          refine lv_aload_n hx hb dX4_at_34 rfl (lv_at hl 1 rfl) ?_
          refine va_get (D := (dC, dI)) (ci := 4) (v := .ref (ρ h0 1)) (C := RX4) (T := TX4) (N := 3) hx hb hts hfX4 hown hK hP q2 eq2 rfl 1 (by decide) (hts (.fieldLink RX4 21 "ColdShips$Rows" "cells" "[J") wa_83) (fun _ h9 => h9) rfl dX4_at_35 ?_
          refine lv_iload_n hx hb dX4_at_38 rfl (lv_at hl 2 rfl) ?_
          refine lv_aload_n hx hb dX4_at_39 rfl (lv_at hl 1 rfl) ?_
          refine va_get (D := (dC, dI)) (ci := 4) (v := .int h0_x0) (C := RX4) (T := TX4) (N := 3) hx hb hts hfX4 hown hK hP q2 eq2 rfl 0 (by decide) (hts (.fieldLink RX4 15 "ColdShips$Rows" "width" "I") wa_81) (fun _ h9 => h9) rfl dX4_at_40 ?_
          refine lv_imul hx hb dX4_at_43 ?_
          refine lv_topi (fun z6 ez6 => ?_)
          refine tgk_5 hG ht_h0 (fun y7 y7n y8a y8b y8c => ?_)
          have jz6 := tp_rowN y7n y8b y8c (r := v.toInt) (c := u.toInt) (by omega) (by omega) (by omega) (by omega)
          have iz6 : z6.toInt = v.toInt * (ρ h0 10 : Int) := zi_mul ez6 rfl rzh0_0 (by omega) (by omega)
          refine lv_iload_n hx hb dX4_at_44 rfl (lv_at hl 3 rfl) ?_
          refine lv_iadd hx hb dX4_at_45 ?_
          refine lv_topi (fun z9 ez9 => ?_)
          have iz9 : z9.toInt = z6.toInt + u.toInt := zi_add ez9 rfl rfl (by omega) (by omega)
          refine tpk_21 hT y7 rfl (fun g11 hf_o10 => ?_)
          refine tpk_pos (tp_in hG y7 (by decide)) hf_o10 (fun q12 eq12 => ?_)
          refine va_lald hx hb hK hP q12 1 eq12 rfl (vp_in_iff.mpr ⟨by omega, by omega⟩) dX4_at_46 ?_
          refine lv_topl (fun z13 ez13 => ?_)
          refine lv_goto (tgt := 51) hx hb dX4_at_47 (by decide) ?_
          exact W.lret (v := z13) hx hb hr (fun t ht hW => ⟨z13, rfl, ⟨trivial, trivial⟩, ht⟩) (fun _ h => by cases h) dX4_at_51
set_option maxHeartbeats 4000000 in
set_option maxRecDepth 100000 in
theorem t_X4_number (l : Launch) (dC : Nat → ClassId) (dI : Nat → Nat → Nat) (sz : Nat) (Ω : Nat → Nat → (Nat → Nat) → va_E → Prop) (κ : Nat → ClassId) (τ ν : Nat → Nat) (ρ : Nat → Nat → Nat) (L : List Nat) (f : Nat → va_E) (hG : tp_G τ ν ρ L) (hT : tp_T Ω κ τ ν ρ f) (h0 : Nat) (v : Int32) (u : Int32) (ht_h0 : τ h0 = 5) : Met l yX4_number wqX4_number ({ frames := 3, cells := 0, slots := 0, locals := 800 }) (va_Pc [.ref h0, .int v, .int u] (pz_B dC dI (tp_K κ) (va_pl L f) sz)) (vp_Si (fun r => True ∧ True)) 0 0 (fun _ => False) := by
  refine Met.ofW (cc := cX4_number) (maxL := 3) (ret := some .int) (by decide) rfl ?_
  intro p e s m args below meth c s₁ B hml hv
  obtain ⟨rfl, hsz, hP, hK, hD0, hN⟩ := hv
  have hx := B.exec
  have hb := B.bytes
  have hr := B.returns
  have hts := fun (w : Cond) (h : w ∈ WALL) => atoms_spec (ws := wqX4_number) B.pre w (List.mem_cons_of_mem _ h)
  have hown : s.vm.findClass RX4 = some m.cls := findClass_of_methodNamed B.named
  have hlocks := B.notSynchronized
  subst hsz
  have hD := hD0
  have hS : va_S (fun _ => True) s.heap s.heap [] := va_S.rf
  have hl := lv_entry ([.ref h0, .int v, .int u]) (n := 3) (Nat.le_of_ble_eq_true rfl)
  rw [lg_entry_eq]
  generalize (lg_sl ([.ref h0, .int v, .int u]) ++ List.replicate (3 - (lg_sl ([.ref h0, .int v, .int u])).length) Slot.unset).toArray = ls at hl ⊢
  have hl : lv_has ls 3 [(0, .ref h0), (1, .int v), (2, .int u)] := hl
  refine lv_aload_n hx hb dX4_number_0 rfl (lv_at hl 0 rfl) ?_
  refine lv_iload_n hx hb dX4_number_1 rfl (lv_at hl 1 rfl) ?_
  refine lv_iload_n hx hb dX4_number_2 rfl (lv_at hl 2 rfl) ?_
  refine tgk_5 hG ht_h0 (fun y1 y1n y2a y2b y2c => ?_)
  refine tpk_5 hT ht_h0 (fun o3_x0 o3_x2 hf_o3 ro3_0 ro3_1 => ?_)
  refine tpk_pos (tp_in hG ht_h0 (by decide)) hf_o3 (fun q4 eq4 => ?_)
  have ro3_0 := tp_hu ro3_0; have ro3_1 := tp_hu ro3_1
  refine pz_calll (va_runV (As := [.int v, .int u]) (rest := []) ⟨hx, hb, hml, hown, hts⟩ (t_X4_at l dC dI _ Ω κ τ ν ρ L f hG hT h0 v u ht_h0 o3_x0 o3_x2 hf_o3) (cwV 2 hts gX4_number_X4_at rfl rfl rfl ⟨rfl, pd_X4_at⟩ ⟨Nat.le_of_ble_eq_true rfl, Nat.le_of_ble_eq_true rfl⟩) ⟨pz_blind, va_recv hK hP (ci := 4) (q0 := q4) rfl eq4, pz_pre hP hK hD hN⟩ rfl rfl hl.1 rfl (lv_room (Nat.le_of_ble_eq_true rfl)) dX4_number_3 ⟨Nat.le_of_ble_eq_true rfl, Nat.le_of_ble_eq_true rfl⟩) (fun r5 hw6 => ?_)
  obtain ⟨hw6r, hw6p⟩ := hw6
  refine lv_l2i hx hb dX4_number_6 rfl ?_
  refine lv_topi (fun z7 ez7 => ?_)
  exact W.iret (v := z7) hx hb hr (fun t ht hW => ⟨z7, rfl, ⟨trivial, trivial⟩, ht⟩) (fun _ h => by cases h) dX4_number_7
set_option maxHeartbeats 4000000 in
set_option maxRecDepth 100000 in
theorem t_X4_set (l : Launch) (dC : Nat → ClassId) (dI : Nat → Nat → Nat) (sz : Nat) (Ω : Nat → Nat → (Nat → Nat) → va_E → Prop) (κ : Nat → ClassId) (τ ν : Nat → Nat) (ρ : Nat → Nat → Nat) (L : List Nat) (f : Nat → va_E) (hG : tp_G τ ν ρ L) (hT : tp_T Ω κ τ ν ρ f) (h0 : Nat) (v : Int32) (u : Int32) (x : Int64) (ht_h0 : τ h0 = 5) (h0_x0 : Int32) (h0_x2 : Int32) (hf_h0 : f h0 = .inr (4, [.int h0_x0, .ref (ρ h0 1), .int h0_x2])) : Met l yX4_set wqX4_set ({ frames := 3, cells := 0, slots := 0, locals := 800 }) (va_Pc [.ref h0, .int v, .int u, .long x] (pz_B dC dI (tp_K κ) (va_pl L f) sz)) (va_Qv (fun (f1 : Nat → va_E) => tp_T Ω κ τ ν ρ f1 ∧ tp_F τ [21] f f1 ∧ True) (fun (f1 : Nat → va_E) (t : State) => pz_E dC dI (tp_K κ) (va_A (va_pl L f) sz) (va_pl L f1) t) (va_A (va_pl L f) sz)) 0 0 (va_A (va_pl L f) sz) := by
  refine Met.ofW (cc := cX4_set) (maxL := 5) (ret := none) (by decide) rfl ?_
  intro p e s m args below meth c s₁ B hml hv
  obtain ⟨rfl, hsz, hP, hK, hD0, hN⟩ := hv
  have hx := B.exec
  have hb := B.bytes
  have hr := B.returns
  have hts := fun (w : Cond) (h : w ∈ WALL) => atoms_spec (ws := wqX4_set) B.pre w (List.mem_cons_of_mem _ h)
  have hown : s.vm.findClass RX4 = some m.cls := findClass_of_methodNamed B.named
  have hlocks := B.notSynchronized
  subst hsz
  have hD := hD0.self (sz := s.heap.size)
  generalize hAe : va_A (va_pl L f) s.heap.size = A at hD ⊢
  have hA : ∀ q : Nat, s.heap.size ≤ q → A q := fun q h => by rw [← hAe]; exact Or.inr h
  have hS : va_S A s.heap s.heap [] := va_S.rf
  have hR : tp_F τ [21] f f := tp_F.rf
  have hl := lv_entry ([.ref h0, .int v, .int u, .long x]) (n := 5) (Nat.le_of_ble_eq_true rfl)
  rw [lg_entry_eq]
  generalize (lg_sl ([.ref h0, .int v, .int u, .long x]) ++ List.replicate (5 - (lg_sl ([.ref h0, .int v, .int u, .long x])).length) Slot.unset).toArray = ls at hl ⊢
  have hl : lv_has ls 5 [(0, .ref h0), (1, .int v), (2, .int u), (3, .long x)] := hl
  refine tpk_5 hT ht_h0 (fun h0z_x0 h0z_x2 hfz_h0 rzh0_0 rzh0_1 => ?_)
  obtain ⟨rfl, rfl⟩ := tp_same5 hf_h0 hfz_h0
  refine lv_aload_n hx hb dX4_set_0 rfl (lv_at hl 0 rfl) ?_
  refine lv_iload_n hx hb dX4_set_1 rfl (lv_at hl 1 rfl) ?_
  refine tpk_pos (tp_in hG ht_h0 (by decide)) hf_h0 (fun q1 eq1 => ?_)
  have rzh0_0 := tp_hu rzh0_0; have rzh0_1 := tp_hu rzh0_1
  refine pz_calli (va_runV (As := [.int v]) (rest := []) ⟨hx, hb, hml, hown, hts⟩ (t_X4_has l dC dI _ Ω κ τ ν ρ L f hG hT h0 v ht_h0 h0_x0 h0_x2 hf_h0) (cwV 1 hts gX4_set_X4_has rfl rfl rfl ⟨rfl, pd_X4_has⟩ ⟨Nat.le_of_ble_eq_true rfl, Nat.le_of_ble_eq_true rfl⟩) ⟨pz_blind, va_recv hK hP (ci := 4) (q0 := q1) rfl eq1, pz_pre hP hK hD hN⟩ rfl rfl hl.1 rfl (lv_room (Nat.le_of_ble_eq_true rfl)) dX4_set_2 ⟨Nat.le_of_ble_eq_true rfl, Nat.le_of_ble_eq_true rfl⟩) (fun r2 hw3 => ?_)
  obtain ⟨hw3r, hw3p⟩ := hw3
  refine lv_if_eq (tgt := 34) hx hb dX4_set_5 (by decide) (fun c4 => ?_) (fun c4 => ?_)
  · have ic4 : r2.toInt = 0 := zi_eq rfl rfl c4
    clear hw3r ic4
    exact W.vret hx hb hr (fun t ht hW => ⟨⟨f, rfl, ⟨hT, hR, trivial⟩, by rw [ht]; exact hP, va_K.moved hW.alike hK, hD⟩, hS.F ht⟩) hS.2.2 dX4_set_34
  · have ic4 : r2.toInt ≠ 0 := zi_eqf rfl rfl c4
    have p5 : 0 ≤ v.toInt ∧ v.toInt < h0_x2.toInt := (tp_cond.yes hw3p) (by omega)
    clear hw3r ic4
    refine lv_iload_n hx hb dX4_set_8 rfl (lv_at hl 2 rfl) ?_
    refine lv_if_lt (tgt := 34) hx hb dX4_set_9 (by decide) (fun c6 => ?_) (fun c6 => ?_)
    · have ic6 : u.toInt < 0 := zi_lt rfl rfl c6
      exact W.vret hx hb hr (fun t ht hW => ⟨⟨f, rfl, ⟨hT, hR, trivial⟩, by rw [ht]; exact hP, va_K.moved hW.alike hK, hD⟩, hS.F ht⟩) hS.2.2 dX4_set_34
    · have ic6 : u.toInt ≥ 0 := zi_ltf rfl rfl c6
      refine lv_iload_n hx hb dX4_set_12 rfl (lv_at hl 2 rfl) ?_
      refine lv_aload_n hx hb dX4_set_13 rfl (lv_at hl 0 rfl) ?_
      refine va_get (D := (dC, dI)) (ci := 4) (v := .int h0_x0) (C := RX4) (T := TX4) (N := 3) hx hb hts hfX4 hown hK hP q1 eq1 rfl 0 (by decide) (hts (.fieldLink RX4 15 "ColdShips$Rows" "width" "I") wa_81) (fun _ h9 => h9) rfl dX4_set_14 ?_
      refine lv_icmp_ge (tgt := 34) hx hb dX4_set_17 (by decide) (fun c7 => ?_) (fun c7 => ?_)
      · have ic7 : u.toInt ≥ h0_x0.toInt := zi_ge rfl rfl c7
        exact W.vret hx hb hr (fun t ht hW => ⟨⟨f, rfl, ⟨hT, hR, trivial⟩, by rw [ht]; exact hP, va_K.moved hW.alike hK, hD⟩, hS.F ht⟩) hS.2.2 dX4_set_34
      · have ic7 : u.toInt < h0_x0.toInt := zi_gef rfl rfl c7
        refine lv_aload_n hx hb dX4_set_20 rfl (lv_at hl 0 rfl) ?_
        refine va_get (D := (dC, dI)) (ci := 4) (v := .ref (ρ h0 1)) (C := RX4) (T := TX4) (N := 3) hx hb hts hfX4 hown hK hP q1 eq1 rfl 1 (by decide) (hts (.fieldLink RX4 21 "ColdShips$Rows" "cells" "[J") wa_83) (fun _ h9 => h9) rfl dX4_set_21 ?_
        refine lv_iload_n hx hb dX4_set_24 rfl (lv_at hl 1 rfl) ?_
        refine lv_aload_n hx hb dX4_set_25 rfl (lv_at hl 0 rfl) ?_
        refine va_get (D := (dC, dI)) (ci := 4) (v := .int h0_x0) (C := RX4) (T := TX4) (N := 3) hx hb hts hfX4 hown hK hP q1 eq1 rfl 0 (by decide) (hts (.fieldLink RX4 15 "ColdShips$Rows" "width" "I") wa_81) (fun _ h9 => h9) rfl dX4_set_26 ?_
        refine lv_imul hx hb dX4_set_29 ?_
        refine lv_topi (fun z8 ez8 => ?_)
        refine tgk_5 hG ht_h0 (fun y9 y9n y10a y10b y10c => ?_)
        have jz8 := tp_rowN y9n y10b y10c (r := v.toInt) (c := u.toInt) (by omega) (by omega) (by omega) (by omega)
        have iz8 : z8.toInt = v.toInt * (ρ h0 10 : Int) := zi_mul ez8 rfl rzh0_0 (by omega) (by omega)
        refine lv_iload_n hx hb dX4_set_30 rfl (lv_at hl 2 rfl) ?_
        refine lv_iadd hx hb dX4_set_31 ?_
        refine lv_topi (fun z11 ez11 => ?_)
        have iz11 : z11.toInt = z8.toInt + u.toInt := zi_add ez11 rfl rfl (by omega) (by omega)
        refine lv_lload_n hx hb dX4_set_32 rfl (lv_at hl 3 rfl) ?_
        refine tpk_21 hT y9 rfl (fun g13 hf_o12 => ?_)
        refine tpk_pos (tp_in hG y9 (by decide)) hf_o12 (fun q14 eq14 => ?_)
        refine va_last hx hb hK hP hD hS q14 1 eq14 rfl (vp_in_iff.mpr ⟨by omega, by omega⟩) dX4_set_33 (tp_k (.inl (κ 1, (ν (ρ h0 1)), .inr (.inl (vp_updL g13 z11.toNatClampNeg x)))) hD (tp_in hG y9 (by decide)) eq14 (fun f15 H locs hP hD hS g17 k16 => ?_))
        have hT := hT.up y9 g17 k16 (tp_o21 rfl)
        have hR := hR.up y9 (by decide) k16
        generalize (vp_updL g13 z11.toNatClampNeg x) = g18 at g17
        exact W.vret hx hb hr (fun t ht hW => ⟨⟨f15, rfl, ⟨hT, hR, trivial⟩, by rw [ht]; exact hP, va_K.moved hW.alike hK, hD⟩, hS.F ht⟩) hS.2.2 dX4_set_34
set_option maxHeartbeats 4000000 in
set_option maxRecDepth 100000 in
theorem t_X6_add (l : Launch) (dC : Nat → ClassId) (dI : Nat → Nat → Nat) (sz : Nat) (Ω : Nat → Nat → (Nat → Nat) → va_E → Prop) (κ : Nat → ClassId) (τ ν : Nat → Nat) (ρ : Nat → Nat → Nat) (L : List Nat) (f : Nat → va_E) (hG : tp_G τ ν ρ L) (hT : tp_T Ω κ τ ν ρ f) (h0 : Nat) (v : Int32) (a : Int32) (b : Int32) (ht_h0 : τ h0 = 7) (h0_x3 : Int32) (hf_h0 : f h0 = .inr (6, [.ref (ρ h0 0), .ref (ρ h0 1), .ref (ρ h0 2), .int h0_x3])) : Met l yX6_add wqX6_add ({ frames := 2, cells := 0, slots := 0, locals := 400 }) (va_Pc [.ref h0, .int v, .int a, .int b] (pz_B dC dI (tp_K κ) (va_pl L f) sz)) (va_Qi (fun (r : Int32) (f1 : Nat → va_E) => tp_T Ω κ τ ν ρ f1 ∧ tp_F τ [7, 20] f f1 ∧ True ∧ tp_X τ ρ (fun n => n = ρ h0 30) f f1 ∧ ((((h0_x3.toInt = (ρ h0 11 : Int)) → r.toInt = -1) ∧ (¬ (h0_x3.toInt = (ρ h0 11 : Int)) → r.toInt = h0_x3.toInt + 1))) ∧ ((((h0_x3.toInt = (ρ h0 11 : Int)) → (tp_fld (f1 h0) 3) = h0_x3.toInt) ∧ (¬ (h0_x3.toInt = (ρ h0 11 : Int)) → (tp_fld (f1 h0) 3) = h0_x3.toInt + 1)))) (fun (f1 : Nat → va_E) (t : State) => pz_E dC dI (tp_K κ) (va_A (va_pl L f) sz) (va_pl L f1) t) (va_A (va_pl L f) sz)) 0 0 (va_A (va_pl L f) sz) := by
  refine Met.ofW (cc := cX6_add) (maxL := 5) (ret := some .int) (by decide) rfl ?_
  intro p e s m args below meth c s₁ B hml hv
  obtain ⟨rfl, hsz, hP, hK, hD0, hN⟩ := hv
  have hx := B.exec
  have hb := B.bytes
  have hr := B.returns
  have hts := fun (w : Cond) (h : w ∈ WALL) => atoms_spec (ws := wqX6_add) B.pre w (List.mem_cons_of_mem _ h)
  have hown : s.vm.findClass RX6 = some m.cls := findClass_of_methodNamed B.named
  have hlocks := B.notSynchronized
  subst hsz
  have hD := hD0.self (sz := s.heap.size)
  generalize hAe : va_A (va_pl L f) s.heap.size = A at hD ⊢
  have hA : ∀ q : Nat, s.heap.size ≤ q → A q := fun q h => by rw [← hAe]; exact Or.inr h
  have hS : va_S A s.heap s.heap [] := va_S.rf
  have hR : tp_F τ [7, 20] f f := tp_F.rf
  have hX : tp_X τ ρ (fun n => n = ρ h0 30) f f := tp_X.rf
  have hl := lv_entry ([.ref h0, .int v, .int a, .int b]) (n := 5) (Nat.le_of_ble_eq_true rfl)
  rw [lg_entry_eq]
  generalize (lg_sl ([.ref h0, .int v, .int a, .int b]) ++ List.replicate (5 - (lg_sl ([.ref h0, .int v, .int a, .int b])).length) Slot.unset).toArray = ls at hl ⊢
  have hl : lv_has ls 5 [(0, .ref h0), (1, .int v), (2, .int a), (3, .int b)] := hl
  refine tpk_7 hT ht_h0 (fun h0z_x3 hfz_h0 rzh0_0 => ?_)
  obtain ⟨rfl⟩ := tp_same7 hf_h0 hfz_h0
  refine lv_aload_n hx hb dX6_add_0 rfl (lv_at hl 0 rfl) ?_
  refine tpk_pos (tp_in hG ht_h0 (by decide)) hf_h0 (fun q1 eq1 => ?_)
  have rzh0_0 := tp_hu rzh0_0
  refine va_get (D := (dC, dI)) (ci := 6) (v := .int h0_x3) (C := RX6) (T := TX6) (N := 4) hx hb hts hfX6 hown hK hP q1 eq1 rfl 3 (by decide) (hts (.fieldLink RX6 27 "ColdShips$Spans" "size" "I") wa_338) (fun _ h9 => h9) rfl dX6_add_1 ?_
  refine lv_aload_n hx hb dX6_add_4 rfl (lv_at hl 0 rfl) ?_
  refine va_get (D := (dC, dI)) (ci := 6) (v := .ref (ρ h0 0)) (C := RX6) (T := TX6) (N := 4) hx hb hts hfX6 hown hK hP q1 eq1 rfl 0 (by decide) (hts (.fieldLink RX6 15 "ColdShips$Spans" "owners" "[I") wa_73) (fun _ h9 => h9) rfl dX6_add_5 ?_
  refine tgk_7 hG ht_h0 (fun y2 y2n y3 y3n y4 y4n y5a y5b => ?_)
  refine tpk_20 hT y2 rfl (fun g7 hf_o6 => ?_)
  refine tpk_pos (tp_in hG y2 (by decide)) hf_o6 (fun q8 eq8 => ?_)
  obtain ⟨z9, ez9⟩ : ∃ y : Int32, y = Int32.ofNat (ν (ρ h0 0)) := ⟨_, rfl⟩
  have iz9 : z9.toInt = ((ν (ρ h0 0)) : Int) := zi_ofNat ez9 (by omega)
  refine va_alen hx hb hK hP q8 0 eq8 rfl ez9.symm dX6_add_8 ?_
  refine lv_icmp_lt (tgt := 14) hx hb dX6_add_9 (by decide) (fun c10 => ?_) (fun c10 => ?_)
  · have ic10 : h0_x3.toInt < z9.toInt := zi_lt rfl rfl c10
    refine lv_aload_n hx hb dX6_add_14 rfl (lv_at hl 0 rfl) ?_
    refine va_get (D := (dC, dI)) (ci := 6) (v := .int h0_x3) (C := RX6) (T := TX6) (N := 4) hx hb hts hfX6 hown hK hP q1 eq1 rfl 3 (by decide) (hts (.fieldLink RX6 27 "ColdShips$Spans" "size" "I") wa_338) (fun _ h9 => h9) rfl dX6_add_15 ?_
    refine lv_istore (lv' := [(4, .int h0_x3), (0, .ref h0), (1, .int v), (2, .int a), (3, .int b)]) hx hb dX6_add_18 hl (by decide) rfl (fun ls hl => ?_)
    refine pz_loop (fun n0 H locs ls => ∃ f14 : Nat → va_E, ∃ w11 : Int32, n0 = ((w11.toInt)).toNat ∧ tp_T Ω κ τ ν ρ f14 ∧ tp_F τ [7, 20] f f14 ∧ tp_X τ ρ (fun n => n = ρ h0 30) f f14 ∧ f14 h0 = .inr (6, [.ref (ρ h0 0), .ref (ρ h0 1), .ref (ρ h0 2), .int h0_x3]) ∧ (0 ≤ w11.toInt ∧ w11.toInt ≤ 60) ∧ ((w11.toInt) ≤ h0_x3.toInt) ∧ va_P (dC, dI) vwCl (va_pl L f14) H ∧ va_D A (va_pl L f14) ∧ va_S A s.heap H locs ∧ lv_has ls 5 [(4, .int w11), (0, .ref h0), (1, .int v), (2, .int a), (3, .int b)]) ?_ _ _ _ _ ⟨f, h0_x3, rfl, hT, hR, hX, hf_h0, (by omega), (by omega), hP, hD, hS, lv_sub hl [0, 1, 2, 3, 4] rfl⟩
    intro n0 H locs ls hI ih15
    refine Exists.elim hI (fun f14 hE90 => Exists.elim hE90 (fun w11 hE91 => tn_11 hE91 (fun hn16 hT hR hX hk13k rw11 k12 hP hD hS hl => ?_)))
    clear hE91 hE90 hI
    refine lv_iload hx hb dX6_add_20 (lv_at hl 0 rfl) ?_
    refine lv_if_le (tgt := 92) hx hb dX6_add_22 (by decide) (fun c17 => ?_) (fun c17 => ?_)
    · have ic17 : w11.toInt ≤ 0 := zi_le rfl rfl c17
      refine lv_aload_n hx hb dX6_add_92 rfl (lv_at hl 1 rfl) ?_
      refine tpk_pos (tp_in hG ht_h0 (by decide)) hk13k (fun q18 eq18 => ?_)
      refine va_get (D := (dC, dI)) (ci := 6) (v := .ref (ρ h0 0)) (C := RX6) (T := TX6) (N := 4) hx hb hts hfX6 hown hK hP q18 eq18 rfl 0 (by decide) (hts (.fieldLink RX6 15 "ColdShips$Spans" "owners" "[I") wa_73) (fun _ h9 => h9) rfl dX6_add_93 ?_
      refine lv_iload hx hb dX6_add_96 (lv_at hl 0 rfl) ?_
      refine lv_iload_n hx hb dX6_add_98 rfl (lv_at hl 2 rfl) ?_
      refine tpk_20 hT y2 rfl (fun g20 hf_o19 => ?_)
      refine tpk_pos (tp_in hG y2 (by decide)) hf_o19 (fun q21 eq21 => ?_)
      refine va_iast hx hb hK hP hD hS q21 0 eq21 rfl (vp_in_iff.mpr ⟨by omega, by omega⟩) dX6_add_99 (tp_k (.inl (κ 0, (ν (ρ h0 0)), .inl (upd g20 w11.toNatClampNeg v))) hD (tp_in hG y2 (by decide)) eq21 (fun f22 H locs hP hD hS g24 k23 => ?_))
      have hT := hT.up y2 g24 k23 (tp_o20 rfl)
      have hR := hR.up y2 (by decide) k23
      have hX := hX.up k23 (Or.inl (by rw [tp_iu y2]; decide))
      generalize (upd g20 w11.toNatClampNeg v) = g25 at g24
      refine lv_aload_n hx hb dX6_add_100 rfl (lv_at hl 1 rfl) ?_
      have hf_26 : f22 h0 = .inr (6, [.ref (ρ h0 0), .ref (ρ h0 1), .ref (ρ h0 2), .int h0_x3]) := (k23 _ (tp_ne ht_h0 y2 (by decide))).trans hk13k
      refine tpk_pos (tp_in hG ht_h0 (by decide)) hf_26 (fun q27 eq27 => ?_)
      refine va_get (D := (dC, dI)) (ci := 6) (v := .ref (ρ h0 1)) (C := RX6) (T := TX6) (N := 4) hx hb hts hfX6 hown hK hP q27 eq27 rfl 1 (by decide) (hts (.fieldLink RX6 21 "ColdShips$Spans" "begins" "[I") wa_74) (fun _ h9 => h9) rfl dX6_add_101 ?_
      refine lv_iload hx hb dX6_add_104 (lv_at hl 0 rfl) ?_
      refine lv_iload_n hx hb dX6_add_106 rfl (lv_at hl 3 rfl) ?_
      refine tpk_20 hT y3 y3n (fun g29 hf_o28 => ?_)
      refine tpk_pos (tp_in hG y3 (by decide)) hf_o28 (fun q30 eq30 => ?_)
      refine va_iast hx hb hK hP hD hS q30 0 eq30 rfl (vp_in_iff.mpr ⟨by omega, by omega⟩) dX6_add_107 (tp_k (.inl (κ 0, (ν (ρ h0 0)), .inl (upd g29 w11.toNatClampNeg a))) hD (tp_in hG y3 (by decide)) eq30 (fun f31 H locs hP hD hS g33 k32 => ?_))
      have hT := hT.up y3 g33 k32 (tp_o20 y3n)
      have hR := hR.up y3 (by decide) k32
      have hX := hX.up k32 (Or.inl (by rw [tp_iu y3]; decide))
      generalize (upd g29 w11.toNatClampNeg a) = g34 at g33
      refine lv_aload_n hx hb dX6_add_108 rfl (lv_at hl 1 rfl) ?_
      have hf_35 : f31 h0 = .inr (6, [.ref (ρ h0 0), .ref (ρ h0 1), .ref (ρ h0 2), .int h0_x3]) := (k32 _ (tp_ne ht_h0 y3 (by decide))).trans hf_26
      refine tpk_pos (tp_in hG ht_h0 (by decide)) hf_35 (fun q36 eq36 => ?_)
      refine va_get (D := (dC, dI)) (ci := 6) (v := .ref (ρ h0 2)) (C := RX6) (T := TX6) (N := 4) hx hb hts hfX6 hown hK hP q36 eq36 rfl 2 (by decide) (hts (.fieldLink RX6 24 "ColdShips$Spans" "ends" "[I") wa_75) (fun _ h9 => h9) rfl dX6_add_109 ?_
      refine lv_iload hx hb dX6_add_112 (lv_at hl 0 rfl) ?_
      refine lv_iload_n hx hb dX6_add_114 rfl (lv_at hl 4 rfl) ?_
      refine tpk_20 hT y4 y4n (fun g38 hf_o37 => ?_)
      refine tpk_pos (tp_in hG y4 (by decide)) hf_o37 (fun q39 eq39 => ?_)
      refine va_iast hx hb hK hP hD hS q39 0 eq39 rfl (vp_in_iff.mpr ⟨by omega, by omega⟩) dX6_add_115 (tp_k (.inl (κ 0, (ν (ρ h0 0)), .inl (upd g38 w11.toNatClampNeg b))) hD (tp_in hG y4 (by decide)) eq39 (fun f40 H locs hP hD hS g42 k41 => ?_))
      have hT := hT.up y4 g42 k41 (tp_o20 y4n)
      have hR := hR.up y4 (by decide) k41
      have hX := hX.up k41 (Or.inl (by rw [tp_iu y4]; decide))
      generalize (upd g38 w11.toNatClampNeg b) = g43 at g42
      refine lv_aload_n hx hb dX6_add_116 rfl (lv_at hl 1 rfl) ?_
      refine lv_dup hx hb dX6_add_117 rfl ?_
      have hf_44 : f40 h0 = .inr (6, [.ref (ρ h0 0), .ref (ρ h0 1), .ref (ρ h0 2), .int h0_x3]) := (k41 _ (tp_ne ht_h0 y4 (by decide))).trans hf_35
      refine tpk_pos (tp_in hG ht_h0 (by decide)) hf_44 (fun q45 eq45 => ?_)
      refine va_get (D := (dC, dI)) (ci := 6) (v := .int h0_x3) (C := RX6) (T := TX6) (N := 4) hx hb hts hfX6 hown hK hP q45 eq45 rfl 3 (by decide) (hts (.fieldLink RX6 27 "ColdShips$Spans" "size" "I") wa_338) (fun _ h9 => h9) rfl dX6_add_118 ?_
      refine lv_iconst (v := 1) hx hb dX6_add_121 (by decide) ?_
      refine lv_iadd hx hb dX6_add_122 ?_
      refine lv_topi (fun z46 ez46 => ?_)
      have iz46 : z46.toInt = h0_x3.toInt + 1 := zi_add ez46 rfl rfl (by omega) (by omega)
      refine va_put (D := (dC, dI)) (ci := 6) (v := .int z46) (ty := .int) (C := RX6) (T := TX6) (N := 4) hx hb hts hfX6 tyX6 tyX6_ok nmX6 hown hK hP hD hS q45 eq45 rfl 3 (by decide) (hts (.fieldLink RX6 27 "ColdShips$Spans" "size" "I") wa_338) (fun _ h9 => h9) rfl (tyX6_ok 3 (by decide)) rfl rfl (Nat.le_of_ble_eq_true rfl) dX6_add_123 (tp_k (.inr (6, [.ref (ρ h0 0), .ref (ρ h0 1), .ref (ρ h0 2), .int z46])) hD (tp_in hG ht_h0 (by decide)) eq45 (fun f47 H locs hP hD hS g49 k48 => ?_))
      have hT := hT.up ht_h0 g49 k48 ⟨_, rfl, (by first | decide | omega | (omega))⟩
      have hR := hR.up ht_h0 (by decide) k48
      have hX := hX.up k48 (Or.inr (by show (ρ h0 30) = ρ h0 30; omega))
      refine lv_aload_n hx hb dX6_add_126 rfl (lv_at hl 1 rfl) ?_
      refine tpk_pos (tp_in hG ht_h0 (by decide)) g49 (fun q50 eq50 => ?_)
      refine va_get (D := (dC, dI)) (ci := 6) (v := .int z46) (C := RX6) (T := TX6) (N := 4) hx hb hts hfX6 hown hK hP q50 eq50 rfl 3 (by decide) (hts (.fieldLink RX6 27 "ColdShips$Spans" "size" "I") wa_338) (fun _ h9 => h9) rfl dX6_add_127 ?_
      have tv51 : tp_fld (f47 h0) 3 = z46.toInt := by rw [g49]; rfl
      exact W.iret (v := z46) hx hb hr (fun t ht hW => ⟨⟨z46, f47, rfl, ⟨hT, hR, trivial, ⟨hX, (by rw [tv51]; exact ⟨⟨fun q0 => by omega, fun q0 => (by omega)⟩, ⟨fun q0 => by omega, fun q0 => (by omega)⟩⟩)⟩⟩, by rw [ht]; exact hP, va_K.moved hW.alike hK, hD⟩, hS.F ht⟩) hS.2.2 dX6_add_130
    · have ic17 : w11.toInt > 0 := zi_lef rfl rfl c17
      refine lv_aload_n hx hb dX6_add_25 rfl (lv_at hl 1 rfl) ?_
      refine tpk_pos (tp_in hG ht_h0 (by decide)) hk13k (fun q52 eq52 => ?_)
      refine va_get (D := (dC, dI)) (ci := 6) (v := .ref (ρ h0 1)) (C := RX6) (T := TX6) (N := 4) hx hb hts hfX6 hown hK hP q52 eq52 rfl 1 (by decide) (hts (.fieldLink RX6 21 "ColdShips$Spans" "begins" "[I") wa_74) (fun _ h9 => h9) rfl dX6_add_26 ?_
      refine lv_iload hx hb dX6_add_29 (lv_at hl 0 rfl) ?_
      refine lv_iconst (v := 1) hx hb dX6_add_31 (by decide) ?_
      refine lv_isub hx hb dX6_add_32 ?_
      refine lv_topi (fun z53 ez53 => ?_)
      have iz53 : z53.toInt = w11.toInt - 1 := zi_sub ez53 rfl rfl (by omega) (by omega)
      refine tpk_20 hT y3 y3n (fun g55 hf_o54 => ?_)
      refine tpk_pos (tp_in hG y3 (by decide)) hf_o54 (fun q56 eq56 => ?_)
      refine va_iald hx hb hK hP q56 0 eq56 rfl (vp_in_iff.mpr ⟨by omega, by omega⟩) dX6_add_33 ?_
      refine lv_topi (fun z57 ez57 => ?_)
      refine lv_iload_n hx hb dX6_add_34 rfl (lv_at hl 3 rfl) ?_
      refine lv_icmp_le (tgt := 92) hx hb dX6_add_35 (by decide) (fun c58 => ?_) (fun c58 => ?_)
      · have ic58 : z57.toInt ≤ a.toInt := zi_le rfl rfl c58
        refine lv_aload_n hx hb dX6_add_92 rfl (lv_at hl 1 rfl) ?_
        refine va_get (D := (dC, dI)) (ci := 6) (v := .ref (ρ h0 0)) (C := RX6) (T := TX6) (N := 4) hx hb hts hfX6 hown hK hP q52 eq52 rfl 0 (by decide) (hts (.fieldLink RX6 15 "ColdShips$Spans" "owners" "[I") wa_73) (fun _ h9 => h9) rfl dX6_add_93 ?_
        refine lv_iload hx hb dX6_add_96 (lv_at hl 0 rfl) ?_
        refine lv_iload_n hx hb dX6_add_98 rfl (lv_at hl 2 rfl) ?_
        refine tpk_20 hT y2 rfl (fun g60 hf_o59 => ?_)
        refine tpk_pos (tp_in hG y2 (by decide)) hf_o59 (fun q61 eq61 => ?_)
        refine va_iast hx hb hK hP hD hS q61 0 eq61 rfl (vp_in_iff.mpr ⟨by omega, by omega⟩) dX6_add_99 (tp_k (.inl (κ 0, (ν (ρ h0 0)), .inl (upd g60 w11.toNatClampNeg v))) hD (tp_in hG y2 (by decide)) eq61 (fun f62 H locs hP hD hS g64 k63 => ?_))
        have hT := hT.up y2 g64 k63 (tp_o20 rfl)
        have hR := hR.up y2 (by decide) k63
        have hX := hX.up k63 (Or.inl (by rw [tp_iu y2]; decide))
        generalize (upd g60 w11.toNatClampNeg v) = g65 at g64
        refine lv_aload_n hx hb dX6_add_100 rfl (lv_at hl 1 rfl) ?_
        have hf_66 : f62 h0 = .inr (6, [.ref (ρ h0 0), .ref (ρ h0 1), .ref (ρ h0 2), .int h0_x3]) := (k63 _ (tp_ne ht_h0 y2 (by decide))).trans hk13k
        refine tpk_pos (tp_in hG ht_h0 (by decide)) hf_66 (fun q67 eq67 => ?_)
        refine va_get (D := (dC, dI)) (ci := 6) (v := .ref (ρ h0 1)) (C := RX6) (T := TX6) (N := 4) hx hb hts hfX6 hown hK hP q67 eq67 rfl 1 (by decide) (hts (.fieldLink RX6 21 "ColdShips$Spans" "begins" "[I") wa_74) (fun _ h9 => h9) rfl dX6_add_101 ?_
        refine lv_iload hx hb dX6_add_104 (lv_at hl 0 rfl) ?_
        refine lv_iload_n hx hb dX6_add_106 rfl (lv_at hl 3 rfl) ?_
        refine tpk_20 hT y3 y3n (fun g69 hf_o68 => ?_)
        refine tpk_pos (tp_in hG y3 (by decide)) hf_o68 (fun q70 eq70 => ?_)
        refine va_iast hx hb hK hP hD hS q70 0 eq70 rfl (vp_in_iff.mpr ⟨by omega, by omega⟩) dX6_add_107 (tp_k (.inl (κ 0, (ν (ρ h0 0)), .inl (upd g69 w11.toNatClampNeg a))) hD (tp_in hG y3 (by decide)) eq70 (fun f71 H locs hP hD hS g73 k72 => ?_))
        have hT := hT.up y3 g73 k72 (tp_o20 y3n)
        have hR := hR.up y3 (by decide) k72
        have hX := hX.up k72 (Or.inl (by rw [tp_iu y3]; decide))
        generalize (upd g69 w11.toNatClampNeg a) = g74 at g73
        refine lv_aload_n hx hb dX6_add_108 rfl (lv_at hl 1 rfl) ?_
        have hf_75 : f71 h0 = .inr (6, [.ref (ρ h0 0), .ref (ρ h0 1), .ref (ρ h0 2), .int h0_x3]) := (k72 _ (tp_ne ht_h0 y3 (by decide))).trans hf_66
        refine tpk_pos (tp_in hG ht_h0 (by decide)) hf_75 (fun q76 eq76 => ?_)
        refine va_get (D := (dC, dI)) (ci := 6) (v := .ref (ρ h0 2)) (C := RX6) (T := TX6) (N := 4) hx hb hts hfX6 hown hK hP q76 eq76 rfl 2 (by decide) (hts (.fieldLink RX6 24 "ColdShips$Spans" "ends" "[I") wa_75) (fun _ h9 => h9) rfl dX6_add_109 ?_
        refine lv_iload hx hb dX6_add_112 (lv_at hl 0 rfl) ?_
        refine lv_iload_n hx hb dX6_add_114 rfl (lv_at hl 4 rfl) ?_
        refine tpk_20 hT y4 y4n (fun g78 hf_o77 => ?_)
        refine tpk_pos (tp_in hG y4 (by decide)) hf_o77 (fun q79 eq79 => ?_)
        refine va_iast hx hb hK hP hD hS q79 0 eq79 rfl (vp_in_iff.mpr ⟨by omega, by omega⟩) dX6_add_115 (tp_k (.inl (κ 0, (ν (ρ h0 0)), .inl (upd g78 w11.toNatClampNeg b))) hD (tp_in hG y4 (by decide)) eq79 (fun f80 H locs hP hD hS g82 k81 => ?_))
        have hT := hT.up y4 g82 k81 (tp_o20 y4n)
        have hR := hR.up y4 (by decide) k81
        have hX := hX.up k81 (Or.inl (by rw [tp_iu y4]; decide))
        generalize (upd g78 w11.toNatClampNeg b) = g83 at g82
        refine lv_aload_n hx hb dX6_add_116 rfl (lv_at hl 1 rfl) ?_
        refine lv_dup hx hb dX6_add_117 rfl ?_
        have hf_84 : f80 h0 = .inr (6, [.ref (ρ h0 0), .ref (ρ h0 1), .ref (ρ h0 2), .int h0_x3]) := (k81 _ (tp_ne ht_h0 y4 (by decide))).trans hf_75
        refine tpk_pos (tp_in hG ht_h0 (by decide)) hf_84 (fun q85 eq85 => ?_)
        refine va_get (D := (dC, dI)) (ci := 6) (v := .int h0_x3) (C := RX6) (T := TX6) (N := 4) hx hb hts hfX6 hown hK hP q85 eq85 rfl 3 (by decide) (hts (.fieldLink RX6 27 "ColdShips$Spans" "size" "I") wa_338) (fun _ h9 => h9) rfl dX6_add_118 ?_
        refine lv_iconst (v := 1) hx hb dX6_add_121 (by decide) ?_
        refine lv_iadd hx hb dX6_add_122 ?_
        refine lv_topi (fun z86 ez86 => ?_)
        have iz86 : z86.toInt = h0_x3.toInt + 1 := zi_add ez86 rfl rfl (by omega) (by omega)
        refine va_put (D := (dC, dI)) (ci := 6) (v := .int z86) (ty := .int) (C := RX6) (T := TX6) (N := 4) hx hb hts hfX6 tyX6 tyX6_ok nmX6 hown hK hP hD hS q85 eq85 rfl 3 (by decide) (hts (.fieldLink RX6 27 "ColdShips$Spans" "size" "I") wa_338) (fun _ h9 => h9) rfl (tyX6_ok 3 (by decide)) rfl rfl (Nat.le_of_ble_eq_true rfl) dX6_add_123 (tp_k (.inr (6, [.ref (ρ h0 0), .ref (ρ h0 1), .ref (ρ h0 2), .int z86])) hD (tp_in hG ht_h0 (by decide)) eq85 (fun f87 H locs hP hD hS g89 k88 => ?_))
        have hT := hT.up ht_h0 g89 k88 ⟨_, rfl, (by first | decide | omega | (omega))⟩
        have hR := hR.up ht_h0 (by decide) k88
        have hX := hX.up k88 (Or.inr (by show (ρ h0 30) = ρ h0 30; omega))
        refine lv_aload_n hx hb dX6_add_126 rfl (lv_at hl 1 rfl) ?_
        refine tpk_pos (tp_in hG ht_h0 (by decide)) g89 (fun q90 eq90 => ?_)
        refine va_get (D := (dC, dI)) (ci := 6) (v := .int z86) (C := RX6) (T := TX6) (N := 4) hx hb hts hfX6 hown hK hP q90 eq90 rfl 3 (by decide) (hts (.fieldLink RX6 27 "ColdShips$Spans" "size" "I") wa_338) (fun _ h9 => h9) rfl dX6_add_127 ?_
        have tv91 : tp_fld (f87 h0) 3 = z86.toInt := by rw [g89]; rfl
        exact W.iret (v := z86) hx hb hr (fun t ht hW => ⟨⟨z86, f87, rfl, ⟨hT, hR, trivial, ⟨hX, (by rw [tv91]; exact ⟨⟨fun q0 => by omega, fun q0 => (by omega)⟩, ⟨fun q0 => by omega, fun q0 => (by omega)⟩⟩)⟩⟩, by rw [ht]; exact hP, va_K.moved hW.alike hK, hD⟩, hS.F ht⟩) hS.2.2 dX6_add_130
      · have ic58 : z57.toInt > a.toInt := zi_lef rfl rfl c58
        refine lv_aload_n hx hb dX6_add_38 rfl (lv_at hl 1 rfl) ?_
        refine va_get (D := (dC, dI)) (ci := 6) (v := .ref (ρ h0 0)) (C := RX6) (T := TX6) (N := 4) hx hb hts hfX6 hown hK hP q52 eq52 rfl 0 (by decide) (hts (.fieldLink RX6 15 "ColdShips$Spans" "owners" "[I") wa_73) (fun _ h9 => h9) rfl dX6_add_39 ?_
        refine lv_iload hx hb dX6_add_42 (lv_at hl 0 rfl) ?_
        refine lv_aload_n hx hb dX6_add_44 rfl (lv_at hl 1 rfl) ?_
        refine va_get (D := (dC, dI)) (ci := 6) (v := .ref (ρ h0 0)) (C := RX6) (T := TX6) (N := 4) hx hb hts hfX6 hown hK hP q52 eq52 rfl 0 (by decide) (hts (.fieldLink RX6 15 "ColdShips$Spans" "owners" "[I") wa_73) (fun _ h9 => h9) rfl dX6_add_45 ?_
        refine lv_iload hx hb dX6_add_48 (lv_at hl 0 rfl) ?_
        refine lv_iconst (v := 1) hx hb dX6_add_50 (by decide) ?_
        refine lv_isub hx hb dX6_add_51 ?_
        refine lv_topi (fun z92 ez92 => ?_)
        have iz92 : z92.toInt = w11.toInt - 1 := zi_sub ez92 rfl rfl (by omega) (by omega)
        refine tpk_20 hT y2 rfl (fun g94 hf_o93 => ?_)
        refine tpk_pos (tp_in hG y2 (by decide)) hf_o93 (fun q95 eq95 => ?_)
        refine va_iald hx hb hK hP q95 0 eq95 rfl (vp_in_iff.mpr ⟨by omega, by omega⟩) dX6_add_52 ?_
        refine lv_topi (fun z96 ez96 => ?_)
        refine va_iast hx hb hK hP hD hS q95 0 eq95 rfl (vp_in_iff.mpr ⟨by omega, by omega⟩) dX6_add_53 (tp_k (.inl (κ 0, (ν (ρ h0 0)), .inl (upd g94 w11.toNatClampNeg z96))) hD (tp_in hG y2 (by decide)) eq95 (fun f97 H locs hP hD hS g99 k98 => ?_))
        have hT := hT.up y2 g99 k98 (tp_o20 rfl)
        have hR := hR.up y2 (by decide) k98
        have hX := hX.up k98 (Or.inl (by rw [tp_iu y2]; decide))
        generalize (upd g94 w11.toNatClampNeg z96) = g100 at g99
        refine lv_aload_n hx hb dX6_add_54 rfl (lv_at hl 1 rfl) ?_
        have hf_101 : f97 h0 = .inr (6, [.ref (ρ h0 0), .ref (ρ h0 1), .ref (ρ h0 2), .int h0_x3]) := (k98 _ (tp_ne ht_h0 y2 (by decide))).trans hk13k
        refine tpk_pos (tp_in hG ht_h0 (by decide)) hf_101 (fun q102 eq102 => ?_)
        refine va_get (D := (dC, dI)) (ci := 6) (v := .ref (ρ h0 1)) (C := RX6) (T := TX6) (N := 4) hx hb hts hfX6 hown hK hP q102 eq102 rfl 1 (by decide) (hts (.fieldLink RX6 21 "ColdShips$Spans" "begins" "[I") wa_74) (fun _ h9 => h9) rfl dX6_add_55 ?_
        refine lv_iload hx hb dX6_add_58 (lv_at hl 0 rfl) ?_
        refine lv_aload_n hx hb dX6_add_60 rfl (lv_at hl 1 rfl) ?_
        refine va_get (D := (dC, dI)) (ci := 6) (v := .ref (ρ h0 1)) (C := RX6) (T := TX6) (N := 4) hx hb hts hfX6 hown hK hP q102 eq102 rfl 1 (by decide) (hts (.fieldLink RX6 21 "ColdShips$Spans" "begins" "[I") wa_74) (fun _ h9 => h9) rfl dX6_add_61 ?_
        refine lv_iload hx hb dX6_add_64 (lv_at hl 0 rfl) ?_
        refine lv_iconst (v := 1) hx hb dX6_add_66 (by decide) ?_
        refine lv_isub hx hb dX6_add_67 ?_
        refine lv_topi (fun z103 ez103 => ?_)
        have iz103 : z103.toInt = w11.toInt - 1 := zi_sub ez103 rfl rfl (by omega) (by omega)
        refine tpk_20 hT y3 y3n (fun g105 hf_o104 => ?_)
        refine tpk_pos (tp_in hG y3 (by decide)) hf_o104 (fun q106 eq106 => ?_)
        refine va_iald hx hb hK hP q106 0 eq106 rfl (vp_in_iff.mpr ⟨by omega, by omega⟩) dX6_add_68 ?_
        refine lv_topi (fun z107 ez107 => ?_)
        refine va_iast hx hb hK hP hD hS q106 0 eq106 rfl (vp_in_iff.mpr ⟨by omega, by omega⟩) dX6_add_69 (tp_k (.inl (κ 0, (ν (ρ h0 0)), .inl (upd g105 w11.toNatClampNeg z107))) hD (tp_in hG y3 (by decide)) eq106 (fun f108 H locs hP hD hS g110 k109 => ?_))
        have hT := hT.up y3 g110 k109 (tp_o20 y3n)
        have hR := hR.up y3 (by decide) k109
        have hX := hX.up k109 (Or.inl (by rw [tp_iu y3]; decide))
        generalize (upd g105 w11.toNatClampNeg z107) = g111 at g110
        refine lv_aload_n hx hb dX6_add_70 rfl (lv_at hl 1 rfl) ?_
        have hf_112 : f108 h0 = .inr (6, [.ref (ρ h0 0), .ref (ρ h0 1), .ref (ρ h0 2), .int h0_x3]) := (k109 _ (tp_ne ht_h0 y3 (by decide))).trans hf_101
        refine tpk_pos (tp_in hG ht_h0 (by decide)) hf_112 (fun q113 eq113 => ?_)
        refine va_get (D := (dC, dI)) (ci := 6) (v := .ref (ρ h0 2)) (C := RX6) (T := TX6) (N := 4) hx hb hts hfX6 hown hK hP q113 eq113 rfl 2 (by decide) (hts (.fieldLink RX6 24 "ColdShips$Spans" "ends" "[I") wa_75) (fun _ h9 => h9) rfl dX6_add_71 ?_
        refine lv_iload hx hb dX6_add_74 (lv_at hl 0 rfl) ?_
        refine lv_aload_n hx hb dX6_add_76 rfl (lv_at hl 1 rfl) ?_
        refine va_get (D := (dC, dI)) (ci := 6) (v := .ref (ρ h0 2)) (C := RX6) (T := TX6) (N := 4) hx hb hts hfX6 hown hK hP q113 eq113 rfl 2 (by decide) (hts (.fieldLink RX6 24 "ColdShips$Spans" "ends" "[I") wa_75) (fun _ h9 => h9) rfl dX6_add_77 ?_
        refine lv_iload hx hb dX6_add_80 (lv_at hl 0 rfl) ?_
        refine lv_iconst (v := 1) hx hb dX6_add_82 (by decide) ?_
        refine lv_isub hx hb dX6_add_83 ?_
        refine lv_topi (fun z114 ez114 => ?_)
        have iz114 : z114.toInt = w11.toInt - 1 := zi_sub ez114 rfl rfl (by omega) (by omega)
        refine tpk_20 hT y4 y4n (fun g116 hf_o115 => ?_)
        refine tpk_pos (tp_in hG y4 (by decide)) hf_o115 (fun q117 eq117 => ?_)
        refine va_iald hx hb hK hP q117 0 eq117 rfl (vp_in_iff.mpr ⟨by omega, by omega⟩) dX6_add_84 ?_
        refine lv_topi (fun z118 ez118 => ?_)
        refine va_iast hx hb hK hP hD hS q117 0 eq117 rfl (vp_in_iff.mpr ⟨by omega, by omega⟩) dX6_add_85 (tp_k (.inl (κ 0, (ν (ρ h0 0)), .inl (upd g116 w11.toNatClampNeg z118))) hD (tp_in hG y4 (by decide)) eq117 (fun f119 H locs hP hD hS g121 k120 => ?_))
        have hT := hT.up y4 g121 k120 (tp_o20 y4n)
        have hR := hR.up y4 (by decide) k120
        have hX := hX.up k120 (Or.inl (by rw [tp_iu y4]; decide))
        generalize (upd g116 w11.toNatClampNeg z118) = g122 at g121
        obtain ⟨z123, ez123⟩ : ∃ y : Int32, y = w11 + (-1) := ⟨_, rfl⟩
        refine lv_iinc (v := z123) (lv' := [(4, .int z123), (0, .ref h0), (1, .int v), (2, .int a), (3, .int b)]) hx hb dX6_add_86 hl (k := 0) rfl (by rw [ez123]; rfl) (by decide) rfl (fun ls hl => ?_)
        have iz123 : z123.toInt = w11.toInt + (-1) := zi_add ez123 rfl rfl (by omega) (by omega)
        refine lv_goto (tgt := 20) hx hb dX6_add_89 (by decide) ?_
        have hf_124 : f119 h0 = .inr (6, [.ref (ρ h0 0), .ref (ρ h0 1), .ref (ρ h0 2), .int h0_x3]) := (k120 _ (tp_ne ht_h0 y4 (by decide))).trans hf_112
        exact ih15 _ _ _ _ (by rw [hn16]; omega) ⟨f119, z123, rfl, hT, hR, hX, hf_124, (by omega), (by omega), hP, hD, hS, lv_sub hl [0, 1, 2, 3, 4] rfl⟩
  · have ic10 : h0_x3.toInt ≥ z9.toInt := zi_ltf rfl rfl c10
    refine lv_iconst (v := (-1)) hx hb dX6_add_12 (by decide) ?_
    have tv125 : tp_fld (f h0) 3 = h0_x3.toInt := by rw [hf_h0]; rfl
    exact W.iret (v := (-1)) hx hb hr (fun t ht hW => ⟨⟨(-1), f, rfl, ⟨hT, hR, trivial, ⟨hX, (by rw [tv125]; exact ⟨⟨fun q0 => by have : ((-1) : Int32).toInt = (-1) := rfl; omega, fun q0 => (by have : ((-1) : Int32).toInt = (-1) := rfl; omega)⟩, ⟨fun q0 => by have : ((-1) : Int32).toInt = (-1) := rfl; omega, fun q0 => (by have : ((-1) : Int32).toInt = (-1) := rfl; omega)⟩⟩)⟩⟩, by rw [ht]; exact hP, va_K.moved hW.alike hK, hD⟩, hS.F ht⟩) hS.2.2 dX6_add_13
set_option maxHeartbeats 4000000 in
set_option maxRecDepth 100000 in
theorem t_X6_meets (l : Launch) (dC : Nat → ClassId) (dI : Nat → Nat → Nat) (sz : Nat) (Ω : Nat → Nat → (Nat → Nat) → va_E → Prop) (κ : Nat → ClassId) (τ ν : Nat → Nat) (ρ : Nat → Nat → Nat) (L : List Nat) (f : Nat → va_E) (hG : tp_G τ ν ρ L) (hT : tp_T Ω κ τ ν ρ f) (h0 : Nat) (lo : Int32) (hi : Int32) (a : Int32) (b : Int32) (ht_h0 : τ h0 = 7) (h0_x3 : Int32) (hf_h0 : f h0 = .inr (6, [.ref (ρ h0 0), .ref (ρ h0 1), .ref (ρ h0 2), .int h0_x3])) : Met l yX6_meets wqX6_meets ({ frames := 2, cells := 0, slots := 0, locals := 400 }) (va_Pc [.ref h0, .int lo, .int hi, .int a, .int b] (pz_B dC dI (tp_K κ) (va_pl L f) sz)) (vp_Si (fun r => (0 ≤ r.toInt ∧ r.toInt ≤ 1) ∧ True)) 0 0 (fun _ => False) := by
  refine Met.ofW (cc := cX6_meets) (maxL := 6) (ret := some .boolean) (by decide) rfl ?_
  intro p e s m args below meth c s₁ B hml hv
  obtain ⟨rfl, hsz, hP, hK, hD0, hN⟩ := hv
  have hx := B.exec
  have hb := B.bytes
  have hr := B.returns
  have hts := fun (w : Cond) (h : w ∈ WALL) => atoms_spec (ws := wqX6_meets) B.pre w (List.mem_cons_of_mem _ h)
  have hown : s.vm.findClass RX6 = some m.cls := findClass_of_methodNamed B.named
  have hlocks := B.notSynchronized
  subst hsz
  have hD := hD0
  have hS : va_S (fun _ => True) s.heap s.heap [] := va_S.rf
  have hl := lv_entry ([.ref h0, .int lo, .int hi, .int a, .int b]) (n := 6) (Nat.le_of_ble_eq_true rfl)
  rw [lg_entry_eq]
  generalize (lg_sl ([.ref h0, .int lo, .int hi, .int a, .int b]) ++ List.replicate (6 - (lg_sl ([.ref h0, .int lo, .int hi, .int a, .int b])).length) Slot.unset).toArray = ls at hl ⊢
  have hl : lv_has ls 6 [(0, .ref h0), (1, .int lo), (2, .int hi), (3, .int a), (4, .int b)] := hl
  refine tpk_7 hT ht_h0 (fun h0z_x3 hfz_h0 rzh0_0 => ?_)
  obtain ⟨rfl⟩ := tp_same7 hf_h0 hfz_h0
  refine lv_iconst (v := 0) hx hb dX6_meets_0 (by decide) ?_
  refine lv_istore (lv' := [(5, .int 0), (0, .ref h0), (1, .int lo), (2, .int hi), (3, .int a), (4, .int b)]) hx hb dX6_meets_1 hl (by decide) rfl (fun ls hl => ?_)
  refine pz_loop (fun n0 H locs ls => ∃ w1 : Int32, n0 = (60 - (w1.toInt)).toNat ∧ (0 ≤ w1.toInt ∧ w1.toInt ≤ 60) ∧ H = s.heap ∧ locs = [] ∧ lv_has ls 6 [(5, .int w1), (0, .ref h0), (1, .int lo), (2, .int hi), (3, .int a), (4, .int b)]) ?_ _ _ _ _ ⟨0, rfl, (by have : (0 : Int32).toInt = 0 := rfl; omega), rfl, rfl, lv_sub hl [0, 1, 2, 3, 4, 5] rfl⟩
  intro n0 H locs ls hI ih2
  refine Exists.elim hI (fun w1 hE90 => tn_5 hE90 (fun hn3 rw1 e92 e93 hl => ?_))
  clear hE90 hI; subst e92; subst e93
  refine lv_iload hx hb dX6_meets_3 (lv_at hl 0 rfl) ?_
  refine lv_aload_n hx hb dX6_meets_5 rfl (lv_at hl 1 rfl) ?_
  refine tpk_pos (tp_in hG ht_h0 (by decide)) hf_h0 (fun q4 eq4 => ?_)
  have rzh0_0 := tp_hu rzh0_0
  refine va_get (D := (dC, dI)) (ci := 6) (v := .int h0_x3) (C := RX6) (T := TX6) (N := 4) hx hb hts hfX6 hown hK hP q4 eq4 rfl 3 (by decide) (hts (.fieldLink RX6 27 "ColdShips$Spans" "size" "I") wa_338) (fun _ h9 => h9) rfl dX6_meets_6 ?_
  refine lv_icmp_ge (tgt := 65) hx hb dX6_meets_9 (by decide) (fun c5 => ?_) (fun c5 => ?_)
  · have ic5 : w1.toInt ≥ h0_x3.toInt := zi_ge rfl rfl c5
    refine lv_iconst (v := 0) hx hb dX6_meets_65 (by decide) ?_
    exact W.zret (v := 0) hx hb hr rfl (fun t ht hW => ⟨0, rfl, ⟨(by first | decide | omega), trivial⟩, ht⟩) (fun _ h => by cases h) dX6_meets_66
  · have ic5 : w1.toInt < h0_x3.toInt := zi_gef rfl rfl c5
    refine lv_aload_n hx hb dX6_meets_12 rfl (lv_at hl 1 rfl) ?_
    refine va_get (D := (dC, dI)) (ci := 6) (v := .ref (ρ h0 1)) (C := RX6) (T := TX6) (N := 4) hx hb hts hfX6 hown hK hP q4 eq4 rfl 1 (by decide) (hts (.fieldLink RX6 21 "ColdShips$Spans" "begins" "[I") wa_74) (fun _ h9 => h9) rfl dX6_meets_13 ?_
    refine lv_iload hx hb dX6_meets_16 (lv_at hl 0 rfl) ?_
    refine tgk_7 hG ht_h0 (fun y6 y6n y7 y7n y8 y8n y9a y9b => ?_)
    refine tpk_20 hT y7 y7n (fun g11 hf_o10 => ?_)
    refine tpk_pos (tp_in hG y7 (by decide)) hf_o10 (fun q12 eq12 => ?_)
    refine va_iald hx hb hK hP q12 0 eq12 rfl (vp_in_iff.mpr ⟨by omega, by omega⟩) dX6_meets_18 ?_
    refine lv_topi (fun z13 ez13 => ?_)
    refine lv_iload hx hb dX6_meets_19 (lv_at hl 5 rfl) ?_
    refine lv_icmp_gt (tgt := 65) hx hb dX6_meets_21 (by decide) (fun c14 => ?_) (fun c14 => ?_)
    · have ic14 : z13.toInt > b.toInt := zi_gt rfl rfl c14
      refine lv_iconst (v := 0) hx hb dX6_meets_65 (by decide) ?_
      exact W.zret (v := 0) hx hb hr rfl (fun t ht hW => ⟨0, rfl, ⟨(by first | decide | omega), trivial⟩, ht⟩) (fun _ h => by cases h) dX6_meets_66
    · have ic14 : z13.toInt ≤ b.toInt := zi_gtf rfl rfl c14
      refine lv_aload_n hx hb dX6_meets_24 rfl (lv_at hl 1 rfl) ?_
      refine va_get (D := (dC, dI)) (ci := 6) (v := .ref (ρ h0 0)) (C := RX6) (T := TX6) (N := 4) hx hb hts hfX6 hown hK hP q4 eq4 rfl 0 (by decide) (hts (.fieldLink RX6 15 "ColdShips$Spans" "owners" "[I") wa_73) (fun _ h9 => h9) rfl dX6_meets_25 ?_
      refine lv_iload hx hb dX6_meets_28 (lv_at hl 0 rfl) ?_
      refine tpk_20 hT y6 rfl (fun g16 hf_o15 => ?_)
      refine tpk_pos (tp_in hG y6 (by decide)) hf_o15 (fun q17 eq17 => ?_)
      refine va_iald hx hb hK hP q17 0 eq17 rfl (vp_in_iff.mpr ⟨by omega, by omega⟩) dX6_meets_30 ?_
      refine lv_topi (fun z18 ez18 => ?_)
      refine lv_iload_n hx hb dX6_meets_31 rfl (lv_at hl 2 rfl) ?_
      refine lv_icmp_lt (tgt := 59) hx hb dX6_meets_32 (by decide) (fun c19 => ?_) (fun c19 => ?_)
      · have ic19 : z18.toInt < lo.toInt := zi_lt rfl rfl c19
        obtain ⟨z20, ez20⟩ : ∃ y : Int32, y = w1 + 1 := ⟨_, rfl⟩
        refine lv_iinc (v := z20) (lv' := [(5, .int z20), (0, .ref h0), (1, .int lo), (2, .int hi), (3, .int a), (4, .int b)]) hx hb dX6_meets_59 hl (k := 0) rfl (by rw [ez20]; rfl) (by decide) rfl (fun ls hl => ?_)
        have iz20 : z20.toInt = w1.toInt + 1 := zi_add ez20 rfl rfl (by omega) (by omega)
        refine lv_goto (tgt := 3) hx hb dX6_meets_62 (by decide) ?_
        exact ih2 _ _ _ _ (by rw [hn3]; omega) ⟨z20, rfl, (by omega), rfl, rfl, lv_sub hl [0, 1, 2, 3, 4, 5] rfl⟩
      · have ic19 : z18.toInt ≥ lo.toInt := zi_ltf rfl rfl c19
        refine lv_aload_n hx hb dX6_meets_35 rfl (lv_at hl 1 rfl) ?_
        refine va_get (D := (dC, dI)) (ci := 6) (v := .ref (ρ h0 0)) (C := RX6) (T := TX6) (N := 4) hx hb hts hfX6 hown hK hP q4 eq4 rfl 0 (by decide) (hts (.fieldLink RX6 15 "ColdShips$Spans" "owners" "[I") wa_73) (fun _ h9 => h9) rfl dX6_meets_36 ?_
        refine lv_iload hx hb dX6_meets_39 (lv_at hl 0 rfl) ?_
        refine va_iald hx hb hK hP q17 0 eq17 rfl (vp_in_iff.mpr ⟨by omega, by omega⟩) dX6_meets_41 ?_
        refine lv_topi (fun z21 ez21 => ?_)
        refine lv_iload_n hx hb dX6_meets_42 rfl (lv_at hl 3 rfl) ?_
        refine lv_icmp_gt (tgt := 59) hx hb dX6_meets_43 (by decide) (fun c22 => ?_) (fun c22 => ?_)
        · have ic22 : z21.toInt > hi.toInt := zi_gt rfl rfl c22
          obtain ⟨z23, ez23⟩ : ∃ y : Int32, y = w1 + 1 := ⟨_, rfl⟩
          refine lv_iinc (v := z23) (lv' := [(5, .int z23), (0, .ref h0), (1, .int lo), (2, .int hi), (3, .int a), (4, .int b)]) hx hb dX6_meets_59 hl (k := 0) rfl (by rw [ez23]; rfl) (by decide) rfl (fun ls hl => ?_)
          have iz23 : z23.toInt = w1.toInt + 1 := zi_add ez23 rfl rfl (by omega) (by omega)
          refine lv_goto (tgt := 3) hx hb dX6_meets_62 (by decide) ?_
          exact ih2 _ _ _ _ (by rw [hn3]; omega) ⟨z23, rfl, (by omega), rfl, rfl, lv_sub hl [0, 1, 2, 3, 4, 5] rfl⟩
        · have ic22 : z21.toInt ≤ hi.toInt := zi_gtf rfl rfl c22
          refine lv_aload_n hx hb dX6_meets_46 rfl (lv_at hl 1 rfl) ?_
          refine va_get (D := (dC, dI)) (ci := 6) (v := .ref (ρ h0 2)) (C := RX6) (T := TX6) (N := 4) hx hb hts hfX6 hown hK hP q4 eq4 rfl 2 (by decide) (hts (.fieldLink RX6 24 "ColdShips$Spans" "ends" "[I") wa_75) (fun _ h9 => h9) rfl dX6_meets_47 ?_
          refine lv_iload hx hb dX6_meets_50 (lv_at hl 0 rfl) ?_
          refine tpk_20 hT y8 y8n (fun g25 hf_o24 => ?_)
          refine tpk_pos (tp_in hG y8 (by decide)) hf_o24 (fun q26 eq26 => ?_)
          refine va_iald hx hb hK hP q26 0 eq26 rfl (vp_in_iff.mpr ⟨by omega, by omega⟩) dX6_meets_52 ?_
          refine lv_topi (fun z27 ez27 => ?_)
          refine lv_iload_n hx hb dX6_meets_53 rfl (lv_at hl 4 rfl) ?_
          refine lv_icmp_lt (tgt := 59) hx hb dX6_meets_54 (by decide) (fun c28 => ?_) (fun c28 => ?_)
          · have ic28 : z27.toInt < a.toInt := zi_lt rfl rfl c28
            obtain ⟨z29, ez29⟩ : ∃ y : Int32, y = w1 + 1 := ⟨_, rfl⟩
            refine lv_iinc (v := z29) (lv' := [(5, .int z29), (0, .ref h0), (1, .int lo), (2, .int hi), (3, .int a), (4, .int b)]) hx hb dX6_meets_59 hl (k := 0) rfl (by rw [ez29]; rfl) (by decide) rfl (fun ls hl => ?_)
            have iz29 : z29.toInt = w1.toInt + 1 := zi_add ez29 rfl rfl (by omega) (by omega)
            refine lv_goto (tgt := 3) hx hb dX6_meets_62 (by decide) ?_
            exact ih2 _ _ _ _ (by rw [hn3]; omega) ⟨z29, rfl, (by omega), rfl, rfl, lv_sub hl [0, 1, 2, 3, 4, 5] rfl⟩
          · have ic28 : z27.toInt ≥ a.toInt := zi_ltf rfl rfl c28
            refine lv_iconst (v := 1) hx hb dX6_meets_57 (by decide) ?_
            exact W.zret (v := 1) hx hb hr rfl (fun t ht hW => ⟨1, rfl, ⟨(by first | decide | omega), trivial⟩, ht⟩) (fun _ h => by cases h) dX6_meets_58
set_option maxHeartbeats 4000000 in
set_option maxRecDepth 100000 in
theorem t_X6_freeHours (l : Launch) (dC : Nat → ClassId) (dI : Nat → Nat → Nat) (sz : Nat) (Ω : Nat → Nat → (Nat → Nat) → va_E → Prop) (κ : Nat → ClassId) (τ ν : Nat → Nat) (ρ : Nat → Nat → Nat) (L : List Nat) (f : Nat → va_E) (hG : tp_G τ ν ρ L) (hT : tp_T Ω κ τ ν ρ f) (h0 : Nat) (lo : Int32) (hi : Int32) (a : Int32) (b : Int32) (ht_h0 : τ h0 = 7) (h0_x3 : Int32) (hf_h0 : f h0 = .inr (6, [.ref (ρ h0 0), .ref (ρ h0 1), .ref (ρ h0 2), .int h0_x3])) : Met l yX6_freeHours wqX6_freeHours ({ frames := 2, cells := 0, slots := 0, locals := 400 }) (va_Pc [.ref h0, .int lo, .int hi, .int a, .int b] (pz_B dC dI (tp_K κ) (va_pl L f) sz)) (vp_Si (fun r => True ∧ True)) 0 0 (fun _ => False) := by
  refine Met.ofW (cc := cX6_freeHours) (maxL := 9) (ret := some .int) (by decide) rfl ?_
  intro p e s m args below meth c s₁ B hml hv
  obtain ⟨rfl, hsz, hP, hK, hD0, hN⟩ := hv
  have hx := B.exec
  have hb := B.bytes
  have hr := B.returns
  have hts := fun (w : Cond) (h : w ∈ WALL) => atoms_spec (ws := wqX6_freeHours) B.pre w (List.mem_cons_of_mem _ h)
  have hown : s.vm.findClass RX6 = some m.cls := findClass_of_methodNamed B.named
  have hlocks := B.notSynchronized
  subst hsz
  have hD := hD0
  have hS : va_S (fun _ => True) s.heap s.heap [] := va_S.rf
  have hl := lv_entry ([.ref h0, .int lo, .int hi, .int a, .int b]) (n := 9) (Nat.le_of_ble_eq_true rfl)
  rw [lg_entry_eq]
  generalize (lg_sl ([.ref h0, .int lo, .int hi, .int a, .int b]) ++ List.replicate (9 - (lg_sl ([.ref h0, .int lo, .int hi, .int a, .int b])).length) Slot.unset).toArray = ls at hl ⊢
  have hl : lv_has ls 9 [(0, .ref h0), (1, .int lo), (2, .int hi), (3, .int a), (4, .int b)] := hl
  refine tpk_7 hT ht_h0 (fun h0z_x3 hfz_h0 rzh0_0 => ?_)
  obtain ⟨rfl⟩ := tp_same7 hf_h0 hfz_h0
  refine lv_iconst (v := 0) hx hb dX6_freeHours_0 (by decide) ?_
  refine lv_iload hx hb dX6_freeHours_1 (lv_at hl 4 rfl) ?_
  refine lv_iload_n hx hb dX6_freeHours_3 rfl (lv_at hl 3 rfl) ?_
  refine lv_isub hx hb dX6_freeHours_4 ?_
  refine lv_topi (fun z1 ez1 => ?_)
  refine lv_iconst (v := 1) hx hb dX6_freeHours_5 (by decide) ?_
  refine lv_iadd hx hb dX6_freeHours_6 ?_
  refine lv_topi (fun z2 ez2 => ?_)
  refine va_mmax hx hb (by rw [hml]; exact hl.1.symm) hown (hts (.methodLink RX6 9 Lib.Math.max.name) wa_69) (hts (.static Lib.Math.max.name) wa_70) (hts (.initialized "java/lang/Math") wa_71) (hts (.code Lib.Math.max.name Lib.Math.max.code 2 (some .int)) wa_72) (Nat.le_of_ble_eq_true rfl) (Nat.le_of_ble_eq_true rfl) (Nat.le_of_ble_eq_true rfl) (Nat.le_of_ble_eq_true rfl) dX6_freeHours_7 ?_
  refine lv_topi (fun z3 ez3 => ?_)
  have iz3 := zi_max ez3 (show (0 : Int32).toInt = 0 from rfl) (rfl : z2.toInt = _)
  refine lv_istore (lv' := [(5, .int z3), (0, .ref h0), (1, .int lo), (2, .int hi), (3, .int a), (4, .int b)]) hx hb dX6_freeHours_10 hl (by decide) rfl (fun ls hl => ?_)
  refine lv_iload_n hx hb dX6_freeHours_12 rfl (lv_at hl 4 rfl) ?_
  refine lv_istore (lv' := [(6, .int a), (5, .int z3), (0, .ref h0), (1, .int lo), (2, .int hi), (3, .int a), (4, .int b)]) hx hb dX6_freeHours_13 hl (by decide) rfl (fun ls hl => ?_)
  refine lv_iconst (v := 0) hx hb dX6_freeHours_15 (by decide) ?_
  refine lv_istore (lv' := [(7, .int 0), (6, .int a), (5, .int z3), (0, .ref h0), (1, .int lo), (2, .int hi), (3, .int a), (4, .int b)]) hx hb dX6_freeHours_16 hl (by decide) rfl (fun ls hl => ?_)
  refine pz_loop (fun n0 H locs ls => ∃ w4 : Int32, ∃ w5 : Int32, ∃ w6 : Int32, n0 = (60 - (w4.toInt)).toNat ∧ (0 ≤ w4.toInt ∧ w4.toInt ≤ 60) ∧ H = s.heap ∧ locs = [] ∧ lv_has ls 9 [(7, .int w4), (6, .int w5), (5, .int w6), (0, .ref h0), (1, .int lo), (2, .int hi), (3, .int a), (4, .int b)]) ?_ _ _ _ _ ⟨0, a, z3, rfl, (by have : (0 : Int32).toInt = 0 := rfl; omega), rfl, rfl, lv_sub hl [0, 1, 2, 3, 4, 5, 6, 7] rfl⟩
  intro n0 H locs ls hI ih7
  refine Exists.elim hI (fun w4 hE90 => Exists.elim hE90 (fun w5 hE91 => Exists.elim hE91 (fun w6 hE92 => tn_5 hE92 (fun hn8 rw4 e92 e93 hl => ?_))))
  clear hE92 hE91 hE90 hI; subst e92; subst e93
  refine lv_iload hx hb dX6_freeHours_18 (lv_at hl 0 rfl) ?_
  refine lv_aload_n hx hb dX6_freeHours_20 rfl (lv_at hl 3 rfl) ?_
  refine tpk_pos (tp_in hG ht_h0 (by decide)) hf_h0 (fun q9 eq9 => ?_)
  have rzh0_0 := tp_hu rzh0_0
  refine va_get (D := (dC, dI)) (ci := 6) (v := .int h0_x3) (C := RX6) (T := TX6) (N := 4) hx hb hts hfX6 hown hK hP q9 eq9 rfl 3 (by decide) (hts (.fieldLink RX6 27 "ColdShips$Spans" "size" "I") wa_338) (fun _ h9 => h9) rfl dX6_freeHours_21 ?_
  refine lv_icmp_ge (tgt := 128) hx hb dX6_freeHours_24 (by decide) (fun c10 => ?_) (fun c10 => ?_)
  · have ic10 : w4.toInt ≥ h0_x3.toInt := zi_ge rfl rfl c10
    refine lv_iload hx hb dX6_freeHours_128 (lv_at hl 2 rfl) ?_
    exact W.iret (v := w6) hx hb hr (fun t ht hW => ⟨w6, rfl, ⟨trivial, trivial⟩, ht⟩) (fun _ h => by cases h) dX6_freeHours_130
  · have ic10 : w4.toInt < h0_x3.toInt := zi_gef rfl rfl c10
    refine lv_aload_n hx hb dX6_freeHours_27 rfl (lv_at hl 3 rfl) ?_
    refine va_get (D := (dC, dI)) (ci := 6) (v := .ref (ρ h0 1)) (C := RX6) (T := TX6) (N := 4) hx hb hts hfX6 hown hK hP q9 eq9 rfl 1 (by decide) (hts (.fieldLink RX6 21 "ColdShips$Spans" "begins" "[I") wa_74) (fun _ h9 => h9) rfl dX6_freeHours_28 ?_
    refine lv_iload hx hb dX6_freeHours_31 (lv_at hl 0 rfl) ?_
    refine tgk_7 hG ht_h0 (fun y11 y11n y12 y12n y13 y13n y14a y14b => ?_)
    refine tpk_20 hT y12 y12n (fun g16 hf_o15 => ?_)
    refine tpk_pos (tp_in hG y12 (by decide)) hf_o15 (fun q17 eq17 => ?_)
    refine va_iald hx hb hK hP q17 0 eq17 rfl (vp_in_iff.mpr ⟨by omega, by omega⟩) dX6_freeHours_33 ?_
    refine lv_topi (fun z18 ez18 => ?_)
    refine lv_iload hx hb dX6_freeHours_34 (lv_at hl 7 rfl) ?_
    refine lv_icmp_gt (tgt := 128) hx hb dX6_freeHours_36 (by decide) (fun c19 => ?_) (fun c19 => ?_)
    · have ic19 : z18.toInt > b.toInt := zi_gt rfl rfl c19
      refine lv_iload hx hb dX6_freeHours_128 (lv_at hl 2 rfl) ?_
      exact W.iret (v := w6) hx hb hr (fun t ht hW => ⟨w6, rfl, ⟨trivial, trivial⟩, ht⟩) (fun _ h => by cases h) dX6_freeHours_130
    · have ic19 : z18.toInt ≤ b.toInt := zi_gtf rfl rfl c19
      refine lv_aload_n hx hb dX6_freeHours_39 rfl (lv_at hl 3 rfl) ?_
      refine va_get (D := (dC, dI)) (ci := 6) (v := .ref (ρ h0 0)) (C := RX6) (T := TX6) (N := 4) hx hb hts hfX6 hown hK hP q9 eq9 rfl 0 (by decide) (hts (.fieldLink RX6 15 "ColdShips$Spans" "owners" "[I") wa_73) (fun _ h9 => h9) rfl dX6_freeHours_40 ?_
      refine lv_iload hx hb dX6_freeHours_43 (lv_at hl 0 rfl) ?_
      refine tpk_20 hT y11 rfl (fun g21 hf_o20 => ?_)
      refine tpk_pos (tp_in hG y11 (by decide)) hf_o20 (fun q22 eq22 => ?_)
      refine va_iald hx hb hK hP q22 0 eq22 rfl (vp_in_iff.mpr ⟨by omega, by omega⟩) dX6_freeHours_45 ?_
      refine lv_topi (fun z23 ez23 => ?_)
      refine lv_iload_n hx hb dX6_freeHours_46 rfl (lv_at hl 4 rfl) ?_
      refine lv_icmp_lt (tgt := 122) hx hb dX6_freeHours_47 (by decide) (fun c24 => ?_) (fun c24 => ?_)
      · have ic24 : z23.toInt < lo.toInt := zi_lt rfl rfl c24
        obtain ⟨z25, ez25⟩ : ∃ y : Int32, y = w4 + 1 := ⟨_, rfl⟩
        refine lv_iinc (v := z25) (lv' := [(7, .int z25), (6, .int w5), (5, .int w6), (0, .ref h0), (1, .int lo), (2, .int hi), (3, .int a), (4, .int b)]) hx hb dX6_freeHours_122 hl (k := 0) rfl (by rw [ez25]; rfl) (by decide) rfl (fun ls hl => ?_)
        have iz25 : z25.toInt = w4.toInt + 1 := zi_add ez25 rfl rfl (by omega) (by omega)
        refine lv_goto (tgt := 18) hx hb dX6_freeHours_125 (by decide) ?_
        exact ih7 _ _ _ _ (by rw [hn8]; omega) ⟨z25, w5, w6, rfl, (by omega), rfl, rfl, lv_sub hl [0, 1, 2, 3, 4, 5, 6, 7] rfl⟩
      · have ic24 : z23.toInt ≥ lo.toInt := zi_ltf rfl rfl c24
        refine lv_aload_n hx hb dX6_freeHours_50 rfl (lv_at hl 3 rfl) ?_
        refine va_get (D := (dC, dI)) (ci := 6) (v := .ref (ρ h0 0)) (C := RX6) (T := TX6) (N := 4) hx hb hts hfX6 hown hK hP q9 eq9 rfl 0 (by decide) (hts (.fieldLink RX6 15 "ColdShips$Spans" "owners" "[I") wa_73) (fun _ h9 => h9) rfl dX6_freeHours_51 ?_
        refine lv_iload hx hb dX6_freeHours_54 (lv_at hl 0 rfl) ?_
        refine va_iald hx hb hK hP q22 0 eq22 rfl (vp_in_iff.mpr ⟨by omega, by omega⟩) dX6_freeHours_56 ?_
        refine lv_topi (fun z26 ez26 => ?_)
        refine lv_iload_n hx hb dX6_freeHours_57 rfl (lv_at hl 5 rfl) ?_
        refine lv_icmp_gt (tgt := 122) hx hb dX6_freeHours_58 (by decide) (fun c27 => ?_) (fun c27 => ?_)
        · have ic27 : z26.toInt > hi.toInt := zi_gt rfl rfl c27
          obtain ⟨z28, ez28⟩ : ∃ y : Int32, y = w4 + 1 := ⟨_, rfl⟩
          refine lv_iinc (v := z28) (lv' := [(7, .int z28), (6, .int w5), (5, .int w6), (0, .ref h0), (1, .int lo), (2, .int hi), (3, .int a), (4, .int b)]) hx hb dX6_freeHours_122 hl (k := 0) rfl (by rw [ez28]; rfl) (by decide) rfl (fun ls hl => ?_)
          have iz28 : z28.toInt = w4.toInt + 1 := zi_add ez28 rfl rfl (by omega) (by omega)
          refine lv_goto (tgt := 18) hx hb dX6_freeHours_125 (by decide) ?_
          exact ih7 _ _ _ _ (by rw [hn8]; omega) ⟨z28, w5, w6, rfl, (by omega), rfl, rfl, lv_sub hl [0, 1, 2, 3, 4, 5, 6, 7] rfl⟩
        · have ic27 : z26.toInt ≤ hi.toInt := zi_gtf rfl rfl c27
          refine lv_aload_n hx hb dX6_freeHours_61 rfl (lv_at hl 3 rfl) ?_
          refine va_get (D := (dC, dI)) (ci := 6) (v := .ref (ρ h0 2)) (C := RX6) (T := TX6) (N := 4) hx hb hts hfX6 hown hK hP q9 eq9 rfl 2 (by decide) (hts (.fieldLink RX6 24 "ColdShips$Spans" "ends" "[I") wa_75) (fun _ h9 => h9) rfl dX6_freeHours_62 ?_
          refine lv_iload hx hb dX6_freeHours_65 (lv_at hl 0 rfl) ?_
          refine tpk_20 hT y13 y13n (fun g30 hf_o29 => ?_)
          refine tpk_pos (tp_in hG y13 (by decide)) hf_o29 (fun q31 eq31 => ?_)
          refine va_iald hx hb hK hP q31 0 eq31 rfl (vp_in_iff.mpr ⟨by omega, by omega⟩) dX6_freeHours_67 ?_
          refine lv_topi (fun z32 ez32 => ?_)
          refine lv_iload hx hb dX6_freeHours_68 (lv_at hl 1 rfl) ?_
          refine lv_icmp_lt (tgt := 122) hx hb dX6_freeHours_70 (by decide) (fun c33 => ?_) (fun c33 => ?_)
          · have ic33 : z32.toInt < w5.toInt := zi_lt rfl rfl c33
            obtain ⟨z34, ez34⟩ : ∃ y : Int32, y = w4 + 1 := ⟨_, rfl⟩
            refine lv_iinc (v := z34) (lv' := [(7, .int z34), (6, .int w5), (5, .int w6), (0, .ref h0), (1, .int lo), (2, .int hi), (3, .int a), (4, .int b)]) hx hb dX6_freeHours_122 hl (k := 0) rfl (by rw [ez34]; rfl) (by decide) rfl (fun ls hl => ?_)
            have iz34 : z34.toInt = w4.toInt + 1 := zi_add ez34 rfl rfl (by omega) (by omega)
            refine lv_goto (tgt := 18) hx hb dX6_freeHours_125 (by decide) ?_
            exact ih7 _ _ _ _ (by rw [hn8]; omega) ⟨z34, w5, w6, rfl, (by omega), rfl, rfl, lv_sub hl [0, 1, 2, 3, 4, 5, 6, 7] rfl⟩
          · have ic33 : z32.toInt ≥ w5.toInt := zi_ltf rfl rfl c33
            refine lv_iload hx hb dX6_freeHours_73 (lv_at hl 1 rfl) ?_
            refine lv_iload hx hb dX6_freeHours_75 (lv_at hl 7 rfl) ?_
            refine lv_icmp_gt (tgt := 122) hx hb dX6_freeHours_77 (by decide) (fun c35 => ?_) (fun c35 => ?_)
            · have ic35 : w5.toInt > b.toInt := zi_gt rfl rfl c35
              obtain ⟨z36, ez36⟩ : ∃ y : Int32, y = w4 + 1 := ⟨_, rfl⟩
              refine lv_iinc (v := z36) (lv' := [(7, .int z36), (6, .int w5), (5, .int w6), (0, .ref h0), (1, .int lo), (2, .int hi), (3, .int a), (4, .int b)]) hx hb dX6_freeHours_122 hl (k := 0) rfl (by rw [ez36]; rfl) (by decide) rfl (fun ls hl => ?_)
              have iz36 : z36.toInt = w4.toInt + 1 := zi_add ez36 rfl rfl (by omega) (by omega)
              refine lv_goto (tgt := 18) hx hb dX6_freeHours_125 (by decide) ?_
              exact ih7 _ _ _ _ (by rw [hn8]; omega) ⟨z36, w5, w6, rfl, (by omega), rfl, rfl, lv_sub hl [0, 1, 2, 3, 4, 5, 6, 7] rfl⟩
            · have ic35 : w5.toInt ≤ b.toInt := zi_gtf rfl rfl c35
              refine lv_aload_n hx hb dX6_freeHours_80 rfl (lv_at hl 3 rfl) ?_
              refine va_get (D := (dC, dI)) (ci := 6) (v := .ref (ρ h0 2)) (C := RX6) (T := TX6) (N := 4) hx hb hts hfX6 hown hK hP q9 eq9 rfl 2 (by decide) (hts (.fieldLink RX6 24 "ColdShips$Spans" "ends" "[I") wa_75) (fun _ h9 => h9) rfl dX6_freeHours_81 ?_
              refine lv_iload hx hb dX6_freeHours_84 (lv_at hl 0 rfl) ?_
              refine va_iald hx hb hK hP q31 0 eq31 rfl (vp_in_iff.mpr ⟨by omega, by omega⟩) dX6_freeHours_86 ?_
              refine lv_topi (fun z37 ez37 => ?_)
              refine lv_iload hx hb dX6_freeHours_87 (lv_at hl 7 rfl) ?_
              refine va_mmin hx hb (by rw [hml]; exact hl.1.symm) hown (hts (.methodLink RX6 31 Lib.Math.min.name) wa_1152) (hts (.static Lib.Math.min.name) wa_434) (hts (.initialized "java/lang/Math") wa_71) (hts (.code Lib.Math.min.name Lib.Math.min.code 2 (some .int)) wa_435) (Nat.le_of_ble_eq_true rfl) (Nat.le_of_ble_eq_true rfl) (Nat.le_of_ble_eq_true rfl) (Nat.le_of_ble_eq_true rfl) dX6_freeHours_89 ?_
              refine lv_topi (fun z38 ez38 => ?_)
              have iz38 := zi_min ez38 (rfl : z37.toInt = _) (rfl : b.toInt = _)
              refine lv_istore (lv' := [(8, .int z38), (7, .int w4), (6, .int w5), (5, .int w6), (0, .ref h0), (1, .int lo), (2, .int hi), (3, .int a), (4, .int b)]) hx hb dX6_freeHours_92 hl (by decide) rfl (fun ls hl => ?_)
              refine lv_iload hx hb dX6_freeHours_94 (lv_at hl 3 rfl) ?_
              refine lv_iload hx hb dX6_freeHours_96 (lv_at hl 0 rfl) ?_
              refine lv_aload_n hx hb dX6_freeHours_98 rfl (lv_at hl 4 rfl) ?_
              refine va_get (D := (dC, dI)) (ci := 6) (v := .ref (ρ h0 1)) (C := RX6) (T := TX6) (N := 4) hx hb hts hfX6 hown hK hP q9 eq9 rfl 1 (by decide) (hts (.fieldLink RX6 21 "ColdShips$Spans" "begins" "[I") wa_74) (fun _ h9 => h9) rfl dX6_freeHours_99 ?_
              refine lv_iload hx hb dX6_freeHours_102 (lv_at hl 1 rfl) ?_
              refine va_iald hx hb hK hP q17 0 eq17 rfl (vp_in_iff.mpr ⟨by omega, by omega⟩) dX6_freeHours_104 ?_
              refine lv_topi (fun z39 ez39 => ?_)
              refine lv_iload hx hb dX6_freeHours_105 (lv_at hl 2 rfl) ?_
              refine va_mmax hx hb (by rw [hml]; exact hl.1.symm) hown (hts (.methodLink RX6 9 Lib.Math.max.name) wa_69) (hts (.static Lib.Math.max.name) wa_70) (hts (.initialized "java/lang/Math") wa_71) (hts (.code Lib.Math.max.name Lib.Math.max.code 2 (some .int)) wa_72) (Nat.le_of_ble_eq_true rfl) (Nat.le_of_ble_eq_true rfl) (Nat.le_of_ble_eq_true rfl) (Nat.le_of_ble_eq_true rfl) dX6_freeHours_107 ?_
              refine lv_topi (fun z40 ez40 => ?_)
              have iz40 := zi_max ez40 (rfl : z39.toInt = _) (rfl : w5.toInt = _)
              refine lv_isub hx hb dX6_freeHours_110 ?_
              refine lv_topi (fun z41 ez41 => ?_)
              refine lv_iconst (v := 1) hx hb dX6_freeHours_111 (by decide) ?_
              refine lv_iadd hx hb dX6_freeHours_112 ?_
              refine lv_topi (fun z42 ez42 => ?_)
              refine lv_isub hx hb dX6_freeHours_113 ?_
              refine lv_topi (fun z43 ez43 => ?_)
              refine lv_istore (lv' := [(5, .int z43), (8, .int z38), (7, .int w4), (6, .int w5), (0, .ref h0), (1, .int lo), (2, .int hi), (3, .int a), (4, .int b)]) hx hb dX6_freeHours_114 hl (by decide) rfl (fun ls hl => ?_)
              refine lv_iload hx hb dX6_freeHours_116 (lv_at hl 1 rfl) ?_
              refine lv_iconst (v := 1) hx hb dX6_freeHours_118 (by decide) ?_
              refine lv_iadd hx hb dX6_freeHours_119 ?_
              refine lv_topi (fun z44 ez44 => ?_)
              refine lv_istore (lv' := [(6, .int z44), (5, .int z43), (8, .int z38), (7, .int w4), (0, .ref h0), (1, .int lo), (2, .int hi), (3, .int a), (4, .int b)]) hx hb dX6_freeHours_120 hl (by decide) rfl (fun ls hl => ?_)
              obtain ⟨z45, ez45⟩ : ∃ y : Int32, y = w4 + 1 := ⟨_, rfl⟩
              refine lv_iinc (v := z45) (lv' := [(7, .int z45), (6, .int z44), (5, .int z43), (8, .int z38), (0, .ref h0), (1, .int lo), (2, .int hi), (3, .int a), (4, .int b)]) hx hb dX6_freeHours_122 hl (k := 3) rfl (by rw [ez45]; rfl) (by decide) rfl (fun ls hl => ?_)
              have iz45 : z45.toInt = w4.toInt + 1 := zi_add ez45 rfl rfl (by omega) (by omega)
              refine lv_goto (tgt := 18) hx hb dX6_freeHours_125 (by decide) ?_
              exact ih7 _ _ _ _ (by rw [hn8]; omega) ⟨z45, z44, z43, rfl, (by omega), rfl, rfl, lv_sub hl [0, 1, 2, 4, 5, 6, 7, 8] rfl⟩
set_option maxHeartbeats 4000000 in
set_option maxRecDepth 100000 in
theorem t_X6_hourBehind (l : Launch) (dC : Nat → ClassId) (dI : Nat → Nat → Nat) (sz : Nat) (Ω : Nat → Nat → (Nat → Nat) → va_E → Prop) (κ : Nat → ClassId) (τ ν : Nat → Nat) (ρ : Nat → Nat → Nat) (L : List Nat) (f : Nat → va_E) (hG : tp_G τ ν ρ L) (hT : tp_T Ω κ τ ν ρ f) (h0 : Nat) (lo : Int32) (hi : Int32) (a : Int32) (b : Int32) (ht_h0 : τ h0 = 7) (h0_x3 : Int32) (hf_h0 : f h0 = .inr (6, [.ref (ρ h0 0), .ref (ρ h0 1), .ref (ρ h0 2), .int h0_x3])) : Met l yX6_hourBehind wqX6_hourBehind ({ frames := 2, cells := 0, slots := 0, locals := 400 }) (va_Pc [.ref h0, .int lo, .int hi, .int a, .int b] (pz_B dC dI (tp_K κ) (va_pl L f) sz)) (vp_Si (fun r => True ∧ True)) 0 0 (fun _ => False) := by
  refine Met.ofW (cc := cX6_hourBehind) (maxL := 8) (ret := some .int) (by decide) rfl ?_
  intro p e s m args below meth c s₁ B hml hv
  obtain ⟨rfl, hsz, hP, hK, hD0, hN⟩ := hv
  have hx := B.exec
  have hb := B.bytes
  have hr := B.returns
  have hts := fun (w : Cond) (h : w ∈ WALL) => atoms_spec (ws := wqX6_hourBehind) B.pre w (List.mem_cons_of_mem _ h)
  have hown : s.vm.findClass RX6 = some m.cls := findClass_of_methodNamed B.named
  have hlocks := B.notSynchronized
  subst hsz
  have hD := hD0
  have hS : va_S (fun _ => True) s.heap s.heap [] := va_S.rf
  have hl := lv_entry ([.ref h0, .int lo, .int hi, .int a, .int b]) (n := 8) (Nat.le_of_ble_eq_true rfl)
  rw [lg_entry_eq]
  generalize (lg_sl ([.ref h0, .int lo, .int hi, .int a, .int b]) ++ List.replicate (8 - (lg_sl ([.ref h0, .int lo, .int hi, .int a, .int b])).length) Slot.unset).toArray = ls at hl ⊢
  have hl : lv_has ls 8 [(0, .ref h0), (1, .int lo), (2, .int hi), (3, .int a), (4, .int b)] := hl
  refine tpk_7 hT ht_h0 (fun h0z_x3 hfz_h0 rzh0_0 => ?_)
  obtain ⟨rfl⟩ := tp_same7 hf_h0 hfz_h0
  refine lv_iload hx hb dX6_hourBehind_0 (lv_at hl 4 rfl) ?_
  refine lv_istore (lv' := [(5, .int b), (0, .ref h0), (1, .int lo), (2, .int hi), (3, .int a), (4, .int b)]) hx hb dX6_hourBehind_2 hl (by decide) rfl (fun ls hl => ?_)
  refine lv_iload_n hx hb dX6_hourBehind_4 rfl (lv_at hl 4 rfl) ?_
  refine lv_istore (lv' := [(6, .int a), (5, .int b), (0, .ref h0), (1, .int lo), (2, .int hi), (3, .int a), (4, .int b)]) hx hb dX6_hourBehind_5 hl (by decide) rfl (fun ls hl => ?_)
  refine lv_iconst (v := 0) hx hb dX6_hourBehind_7 (by decide) ?_
  refine lv_istore (lv' := [(7, .int 0), (6, .int a), (5, .int b), (0, .ref h0), (1, .int lo), (2, .int hi), (3, .int a), (4, .int b)]) hx hb dX6_hourBehind_8 hl (by decide) rfl (fun ls hl => ?_)
  refine pz_loop (fun n0 H locs ls => ∃ w1 : Int32, ∃ w2 : Int32, ∃ w3 : Int32, n0 = (60 - (w1.toInt)).toNat ∧ (0 ≤ w1.toInt ∧ w1.toInt ≤ 60) ∧ H = s.heap ∧ locs = [] ∧ lv_has ls 8 [(7, .int w1), (6, .int w2), (5, .int w3), (0, .ref h0), (1, .int lo), (2, .int hi), (3, .int a), (4, .int b)]) ?_ _ _ _ _ ⟨0, a, b, rfl, (by have : (0 : Int32).toInt = 0 := rfl; omega), rfl, rfl, lv_sub hl [0, 1, 2, 3, 4, 5, 6, 7] rfl⟩
  intro n0 H locs ls hI ih4
  refine Exists.elim hI (fun w1 hE90 => Exists.elim hE90 (fun w2 hE91 => Exists.elim hE91 (fun w3 hE92 => tn_5 hE92 (fun hn5 rw1 e92 e93 hl => ?_))))
  clear hE92 hE91 hE90 hI; subst e92; subst e93
  refine lv_iload hx hb dX6_hourBehind_10 (lv_at hl 0 rfl) ?_
  refine lv_aload_n hx hb dX6_hourBehind_12 rfl (lv_at hl 3 rfl) ?_
  refine tpk_pos (tp_in hG ht_h0 (by decide)) hf_h0 (fun q6 eq6 => ?_)
  have rzh0_0 := tp_hu rzh0_0
  refine va_get (D := (dC, dI)) (ci := 6) (v := .int h0_x3) (C := RX6) (T := TX6) (N := 4) hx hb hts hfX6 hown hK hP q6 eq6 rfl 3 (by decide) (hts (.fieldLink RX6 27 "ColdShips$Spans" "size" "I") wa_338) (fun _ h9 => h9) rfl dX6_hourBehind_13 ?_
  refine tp_join 104 (fun H locs ls stk => stk = [] ∧ H = s.heap ∧ locs = [] ∧ lv_has ls 8 [(7, .int w1), (6, .int w2), (5, .int w3), (0, .ref h0), (1, .int lo), (2, .int hi), (3, .int a), (4, .int b)]) ?_ (fun hj7 => ?_)
  · intro H locs ls stk hI
    refine tn_4 hI (fun e90 e91 e92 hl => ?_)
    clear hI; subst e90; subst e91; subst e92
    refine lv_iload hx hb dX6_hourBehind_104 (lv_at hl 1 rfl) ?_
    refine lv_iload hx hb dX6_hourBehind_106 (lv_at hl 2 rfl) ?_
    refine lv_iadd hx hb dX6_hourBehind_108 ?_
    refine lv_topi (fun z8 ez8 => ?_)
    refine lv_sipush (v := 2400) hx hb dX6_hourBehind_109 (by decide) ?_
    refine lv_icmp_gt (tgt := 123) hx hb dX6_hourBehind_112 (by decide) (fun c9 => ?_) (fun c9 => ?_)
    · have ic9 : z8.toInt > 2400 := zi_gt rfl rfl c9
      refine lv_iconst (v := (-1)) hx hb dX6_hourBehind_123 (by decide) ?_
      exact W.iret (v := (-1)) hx hb hr (fun t ht hW => ⟨(-1), rfl, ⟨trivial, trivial⟩, ht⟩) (fun _ h => by cases h) dX6_hourBehind_124
    · have ic9 : z8.toInt ≤ 2400 := zi_gtf rfl rfl c9
      refine lv_iload hx hb dX6_hourBehind_115 (lv_at hl 1 rfl) ?_
      refine lv_iload hx hb dX6_hourBehind_117 (lv_at hl 2 rfl) ?_
      refine lv_iadd hx hb dX6_hourBehind_119 ?_
      refine lv_topi (fun z10 ez10 => ?_)
      refine lv_goto (tgt := 124) hx hb dX6_hourBehind_120 (by decide) ?_
      exact W.iret (v := z10) hx hb hr (fun t ht hW => ⟨z10, rfl, ⟨trivial, trivial⟩, ht⟩) (fun _ h => by cases h) dX6_hourBehind_124
  · refine lv_icmp_ge (tgt := 104) hx hb dX6_hourBehind_16 (by decide) (fun c11 => ?_) (fun c11 => ?_)
    · have ic11 : w1.toInt ≥ h0_x3.toInt := zi_ge rfl rfl c11
      exact hj7 _ _ _ _ ⟨rfl, rfl, rfl, lv_sub hl [0, 1, 2, 3, 4, 5, 6, 7] rfl⟩
    · have ic11 : w1.toInt < h0_x3.toInt := zi_gef rfl rfl c11
      refine lv_aload_n hx hb dX6_hourBehind_19 rfl (lv_at hl 3 rfl) ?_
      refine va_get (D := (dC, dI)) (ci := 6) (v := .ref (ρ h0 1)) (C := RX6) (T := TX6) (N := 4) hx hb hts hfX6 hown hK hP q6 eq6 rfl 1 (by decide) (hts (.fieldLink RX6 21 "ColdShips$Spans" "begins" "[I") wa_74) (fun _ h9 => h9) rfl dX6_hourBehind_20 ?_
      refine lv_iload hx hb dX6_hourBehind_23 (lv_at hl 0 rfl) ?_
      refine tgk_7 hG ht_h0 (fun y12 y12n y13 y13n y14 y14n y15a y15b => ?_)
      refine tpk_20 hT y13 y13n (fun g17 hf_o16 => ?_)
      refine tpk_pos (tp_in hG y13 (by decide)) hf_o16 (fun q18 eq18 => ?_)
      refine va_iald hx hb hK hP q18 0 eq18 rfl (vp_in_iff.mpr ⟨by omega, by omega⟩) dX6_hourBehind_25 ?_
      refine lv_topi (fun z19 ez19 => ?_)
      refine lv_iload hx hb dX6_hourBehind_26 (lv_at hl 1 rfl) ?_
      refine lv_isub hx hb dX6_hourBehind_28 ?_
      refine lv_topi (fun z20 ez20 => ?_)
      refine lv_iload hx hb dX6_hourBehind_29 (lv_at hl 2 rfl) ?_
      refine lv_icmp_ge (tgt := 104) hx hb dX6_hourBehind_31 (by decide) (fun c21 => ?_) (fun c21 => ?_)
      · have ic21 : z20.toInt ≥ w3.toInt := zi_ge rfl rfl c21
        exact hj7 _ _ _ _ ⟨rfl, rfl, rfl, lv_sub hl [0, 1, 2, 3, 4, 5, 6, 7] rfl⟩
      · have ic21 : z20.toInt < w3.toInt := zi_gef rfl rfl c21
        refine lv_aload_n hx hb dX6_hourBehind_34 rfl (lv_at hl 3 rfl) ?_
        refine va_get (D := (dC, dI)) (ci := 6) (v := .ref (ρ h0 0)) (C := RX6) (T := TX6) (N := 4) hx hb hts hfX6 hown hK hP q6 eq6 rfl 0 (by decide) (hts (.fieldLink RX6 15 "ColdShips$Spans" "owners" "[I") wa_73) (fun _ h9 => h9) rfl dX6_hourBehind_35 ?_
        refine lv_iload hx hb dX6_hourBehind_38 (lv_at hl 0 rfl) ?_
        refine tpk_20 hT y12 rfl (fun g23 hf_o22 => ?_)
        refine tpk_pos (tp_in hG y12 (by decide)) hf_o22 (fun q24 eq24 => ?_)
        refine va_iald hx hb hK hP q24 0 eq24 rfl (vp_in_iff.mpr ⟨by omega, by omega⟩) dX6_hourBehind_40 ?_
        refine lv_topi (fun z25 ez25 => ?_)
        refine lv_iload_n hx hb dX6_hourBehind_41 rfl (lv_at hl 4 rfl) ?_
        refine lv_icmp_lt (tgt := 98) hx hb dX6_hourBehind_42 (by decide) (fun c26 => ?_) (fun c26 => ?_)
        · have ic26 : z25.toInt < lo.toInt := zi_lt rfl rfl c26
          obtain ⟨z27, ez27⟩ : ∃ y : Int32, y = w1 + 1 := ⟨_, rfl⟩
          refine lv_iinc (v := z27) (lv' := [(7, .int z27), (6, .int w2), (5, .int w3), (0, .ref h0), (1, .int lo), (2, .int hi), (3, .int a), (4, .int b)]) hx hb dX6_hourBehind_98 hl (k := 0) rfl (by rw [ez27]; rfl) (by decide) rfl (fun ls hl => ?_)
          have iz27 : z27.toInt = w1.toInt + 1 := zi_add ez27 rfl rfl (by omega) (by omega)
          refine lv_goto (tgt := 10) hx hb dX6_hourBehind_101 (by decide) ?_
          exact ih4 _ _ _ _ (by rw [hn5]; omega) ⟨z27, w2, w3, rfl, (by omega), rfl, rfl, lv_sub hl [0, 1, 2, 3, 4, 5, 6, 7] rfl⟩
        · have ic26 : z25.toInt ≥ lo.toInt := zi_ltf rfl rfl c26
          refine lv_aload_n hx hb dX6_hourBehind_45 rfl (lv_at hl 3 rfl) ?_
          refine va_get (D := (dC, dI)) (ci := 6) (v := .ref (ρ h0 0)) (C := RX6) (T := TX6) (N := 4) hx hb hts hfX6 hown hK hP q6 eq6 rfl 0 (by decide) (hts (.fieldLink RX6 15 "ColdShips$Spans" "owners" "[I") wa_73) (fun _ h9 => h9) rfl dX6_hourBehind_46 ?_
          refine lv_iload hx hb dX6_hourBehind_49 (lv_at hl 0 rfl) ?_
          refine va_iald hx hb hK hP q24 0 eq24 rfl (vp_in_iff.mpr ⟨by omega, by omega⟩) dX6_hourBehind_51 ?_
          refine lv_topi (fun z28 ez28 => ?_)
          refine lv_iload_n hx hb dX6_hourBehind_52 rfl (lv_at hl 5 rfl) ?_
          refine lv_icmp_gt (tgt := 98) hx hb dX6_hourBehind_53 (by decide) (fun c29 => ?_) (fun c29 => ?_)
          · have ic29 : z28.toInt > hi.toInt := zi_gt rfl rfl c29
            obtain ⟨z30, ez30⟩ : ∃ y : Int32, y = w1 + 1 := ⟨_, rfl⟩
            refine lv_iinc (v := z30) (lv' := [(7, .int z30), (6, .int w2), (5, .int w3), (0, .ref h0), (1, .int lo), (2, .int hi), (3, .int a), (4, .int b)]) hx hb dX6_hourBehind_98 hl (k := 0) rfl (by rw [ez30]; rfl) (by decide) rfl (fun ls hl => ?_)
            have iz30 : z30.toInt = w1.toInt + 1 := zi_add ez30 rfl rfl (by omega) (by omega)
            refine lv_goto (tgt := 10) hx hb dX6_hourBehind_101 (by decide) ?_
            exact ih4 _ _ _ _ (by rw [hn5]; omega) ⟨z30, w2, w3, rfl, (by omega), rfl, rfl, lv_sub hl [0, 1, 2, 3, 4, 5, 6, 7] rfl⟩
          · have ic29 : z28.toInt ≤ hi.toInt := zi_gtf rfl rfl c29
            refine lv_aload_n hx hb dX6_hourBehind_56 rfl (lv_at hl 3 rfl) ?_
            refine va_get (D := (dC, dI)) (ci := 6) (v := .ref (ρ h0 2)) (C := RX6) (T := TX6) (N := 4) hx hb hts hfX6 hown hK hP q6 eq6 rfl 2 (by decide) (hts (.fieldLink RX6 24 "ColdShips$Spans" "ends" "[I") wa_75) (fun _ h9 => h9) rfl dX6_hourBehind_57 ?_
            refine lv_iload hx hb dX6_hourBehind_60 (lv_at hl 0 rfl) ?_
            refine tpk_20 hT y14 y14n (fun g32 hf_o31 => ?_)
            refine tpk_pos (tp_in hG y14 (by decide)) hf_o31 (fun q33 eq33 => ?_)
            refine va_iald hx hb hK hP q33 0 eq33 rfl (vp_in_iff.mpr ⟨by omega, by omega⟩) dX6_hourBehind_62 ?_
            refine lv_topi (fun z34 ez34 => ?_)
            refine lv_iload hx hb dX6_hourBehind_63 (lv_at hl 1 rfl) ?_
            refine lv_icmp_lt (tgt := 98) hx hb dX6_hourBehind_65 (by decide) (fun c35 => ?_) (fun c35 => ?_)
            · have ic35 : z34.toInt < w2.toInt := zi_lt rfl rfl c35
              obtain ⟨z36, ez36⟩ : ∃ y : Int32, y = w1 + 1 := ⟨_, rfl⟩
              refine lv_iinc (v := z36) (lv' := [(7, .int z36), (6, .int w2), (5, .int w3), (0, .ref h0), (1, .int lo), (2, .int hi), (3, .int a), (4, .int b)]) hx hb dX6_hourBehind_98 hl (k := 0) rfl (by rw [ez36]; rfl) (by decide) rfl (fun ls hl => ?_)
              have iz36 : z36.toInt = w1.toInt + 1 := zi_add ez36 rfl rfl (by omega) (by omega)
              refine lv_goto (tgt := 10) hx hb dX6_hourBehind_101 (by decide) ?_
              exact ih4 _ _ _ _ (by rw [hn5]; omega) ⟨z36, w2, w3, rfl, (by omega), rfl, rfl, lv_sub hl [0, 1, 2, 3, 4, 5, 6, 7] rfl⟩
            · have ic35 : z34.toInt ≥ w2.toInt := zi_ltf rfl rfl c35
              refine lv_iload hx hb dX6_hourBehind_68 (lv_at hl 2 rfl) ?_
              refine lv_iconst (v := 0) hx hb dX6_hourBehind_70 (by decide) ?_
              refine lv_aload_n hx hb dX6_hourBehind_71 rfl (lv_at hl 3 rfl) ?_
              refine va_get (D := (dC, dI)) (ci := 6) (v := .ref (ρ h0 1)) (C := RX6) (T := TX6) (N := 4) hx hb hts hfX6 hown hK hP q6 eq6 rfl 1 (by decide) (hts (.fieldLink RX6 21 "ColdShips$Spans" "begins" "[I") wa_74) (fun _ h9 => h9) rfl dX6_hourBehind_72 ?_
              refine lv_iload hx hb dX6_hourBehind_75 (lv_at hl 0 rfl) ?_
              refine va_iald hx hb hK hP q18 0 eq18 rfl (vp_in_iff.mpr ⟨by omega, by omega⟩) dX6_hourBehind_77 ?_
              refine lv_topi (fun z37 ez37 => ?_)
              refine lv_iload hx hb dX6_hourBehind_78 (lv_at hl 1 rfl) ?_
              refine lv_isub hx hb dX6_hourBehind_80 ?_
              refine lv_topi (fun z38 ez38 => ?_)
              refine va_mmax hx hb (by rw [hml]; exact hl.1.symm) hown (hts (.methodLink RX6 9 Lib.Math.max.name) wa_69) (hts (.static Lib.Math.max.name) wa_70) (hts (.initialized "java/lang/Math") wa_71) (hts (.code Lib.Math.max.name Lib.Math.max.code 2 (some .int)) wa_72) (Nat.le_of_ble_eq_true rfl) (Nat.le_of_ble_eq_true rfl) (Nat.le_of_ble_eq_true rfl) (Nat.le_of_ble_eq_true rfl) dX6_hourBehind_81 ?_
              refine lv_topi (fun z39 ez39 => ?_)
              have iz39 := zi_max ez39 (show (0 : Int32).toInt = 0 from rfl) (rfl : z38.toInt = _)
              refine lv_isub hx hb dX6_hourBehind_84 ?_
              refine lv_topi (fun z40 ez40 => ?_)
              refine lv_istore (lv' := [(5, .int z40), (7, .int w1), (6, .int w2), (0, .ref h0), (1, .int lo), (2, .int hi), (3, .int a), (4, .int b)]) hx hb dX6_hourBehind_85 hl (by decide) rfl (fun ls hl => ?_)
              refine lv_aload_n hx hb dX6_hourBehind_87 rfl (lv_at hl 3 rfl) ?_
              refine va_get (D := (dC, dI)) (ci := 6) (v := .ref (ρ h0 2)) (C := RX6) (T := TX6) (N := 4) hx hb hts hfX6 hown hK hP q6 eq6 rfl 2 (by decide) (hts (.fieldLink RX6 24 "ColdShips$Spans" "ends" "[I") wa_75) (fun _ h9 => h9) rfl dX6_hourBehind_88 ?_
              refine lv_iload hx hb dX6_hourBehind_91 (lv_at hl 1 rfl) ?_
              refine va_iald hx hb hK hP q33 0 eq33 rfl (vp_in_iff.mpr ⟨by omega, by omega⟩) dX6_hourBehind_93 ?_
              refine lv_topi (fun z41 ez41 => ?_)
              refine lv_iconst (v := 1) hx hb dX6_hourBehind_94 (by decide) ?_
              refine lv_iadd hx hb dX6_hourBehind_95 ?_
              refine lv_topi (fun z42 ez42 => ?_)
              refine lv_istore (lv' := [(6, .int z42), (5, .int z40), (7, .int w1), (0, .ref h0), (1, .int lo), (2, .int hi), (3, .int a), (4, .int b)]) hx hb dX6_hourBehind_96 hl (by decide) rfl (fun ls hl => ?_)
              obtain ⟨z43, ez43⟩ : ∃ y : Int32, y = w1 + 1 := ⟨_, rfl⟩
              refine lv_iinc (v := z43) (lv' := [(7, .int z43), (6, .int z42), (5, .int z40), (0, .ref h0), (1, .int lo), (2, .int hi), (3, .int a), (4, .int b)]) hx hb dX6_hourBehind_98 hl (k := 2) rfl (by rw [ez43]; rfl) (by decide) rfl (fun ls hl => ?_)
              have iz43 : z43.toInt = w1.toInt + 1 := zi_add ez43 rfl rfl (by omega) (by omega)
              refine lv_goto (tgt := 10) hx hb dX6_hourBehind_101 (by decide) ?_
              exact ih4 _ _ _ _ (by rw [hn5]; omega) ⟨z43, z42, z40, rfl, (by omega), rfl, rfl, lv_sub hl [0, 1, 2, 3, 4, 5, 6, 7] rfl⟩
set_option maxHeartbeats 4000000 in
set_option maxRecDepth 100000 in
theorem t_X6_copyFrom (l : Launch) (dC : Nat → ClassId) (dI : Nat → Nat → Nat) (sz : Nat) (Ω : Nat → Nat → (Nat → Nat) → va_E → Prop) (κ : Nat → ClassId) (τ ν : Nat → Nat) (ρ : Nat → Nat → Nat) (L : List Nat) (f : Nat → va_E) (hG : tp_G τ ν ρ L) (hT : tp_T Ω κ τ ν ρ f) (h0 : Nat) (h1 : Nat) (ht_h0 : τ h0 = 7) (ht_h1 : τ h1 = 7) (h0_x3 : Int32) (hf_h0 : f h0 = .inr (6, [.ref (ρ h0 0), .ref (ρ h0 1), .ref (ρ h0 2), .int h0_x3])) (h1_x3 : Int32) (hf_h1 : f h1 = .inr (6, [.ref (ρ h1 0), .ref (ρ h1 1), .ref (ρ h1 2), .int h1_x3])) (hcw : ρ h1 11 = ρ h0 11) : Met l yX6_copyFrom wqX6_copyFrom ({ frames := 2, cells := 0, slots := 0, locals := 400 }) (va_Pc [.ref h0, .ref h1] (pz_B dC dI (tp_K κ) (va_pl L f) sz)) (va_Qv (fun (f1 : Nat → va_E) => tp_T Ω κ τ ν ρ f1 ∧ tp_F τ [7, 20] f f1 ∧ tp_X τ ρ (fun n => n = ρ h0 30) f f1 ∧ ((tp_fld (f1 h0) 3) = h1_x3.toInt)) (fun (f1 : Nat → va_E) (t : State) => pz_E dC dI (tp_K κ) (va_A (va_pl L f) sz) (va_pl L f1) t) (va_A (va_pl L f) sz)) 0 0 (va_A (va_pl L f) sz) := by
  refine Met.ofW (cc := cX6_copyFrom) (maxL := 2) (ret := none) (by decide) rfl ?_
  intro p e s m args below meth c s₁ B hml hv
  obtain ⟨rfl, hsz, hP, hK, hD0, hN⟩ := hv
  have hx := B.exec
  have hb := B.bytes
  have hr := B.returns
  have hts := fun (w : Cond) (h : w ∈ WALL) => atoms_spec (ws := wqX6_copyFrom) B.pre w (List.mem_cons_of_mem _ h)
  have hown : s.vm.findClass RX6 = some m.cls := findClass_of_methodNamed B.named
  have hlocks := B.notSynchronized
  subst hsz
  have hD := hD0.self (sz := s.heap.size)
  generalize hAe : va_A (va_pl L f) s.heap.size = A at hD ⊢
  have hA : ∀ q : Nat, s.heap.size ≤ q → A q := fun q h => by rw [← hAe]; exact Or.inr h
  have hS : va_S A s.heap s.heap [] := va_S.rf
  have hR : tp_F τ [7, 20] f f := tp_F.rf
  have hX : tp_X τ ρ (fun n => n = ρ h0 30) f f := tp_X.rf
  have hl := lv_entry ([.ref h0, .ref h1]) (n := 2) (Nat.le_of_ble_eq_true rfl)
  rw [lg_entry_eq]
  generalize (lg_sl ([.ref h0, .ref h1]) ++ List.replicate (2 - (lg_sl ([.ref h0, .ref h1])).length) Slot.unset).toArray = ls at hl ⊢
  have hl : lv_has ls 2 [(0, .ref h0), (1, .ref h1)] := hl
  refine tpk_7 hT ht_h0 (fun h0z_x3 hfz_h0 rzh0_0 => ?_)
  obtain ⟨rfl⟩ := tp_same7 hf_h0 hfz_h0
  refine tpk_7 hT ht_h1 (fun h1z_x3 hfz_h1 rzh1_0 => ?_)
  obtain ⟨rfl⟩ := tp_same7 hf_h1 hfz_h1
  refine tgk_7 hG ht_h0 (fun y1 y1n y2 y2n y3 y3n y4a y4b => ?_)
  refine tgk_7 hG ht_h1 (fun y5 y5n y6 y6n y7 y7n y8a y8b => ?_)
  refine lv_aload_n hx hb dX6_copyFrom_0 rfl (lv_at hl 1 rfl) ?_
  refine tpk_pos (tp_in hG ht_h1 (by decide)) hf_h1 (fun q9 eq9 => ?_)
  have rzh1_0 := tp_hu rzh1_0
  refine va_get (D := (dC, dI)) (ci := 6) (v := .int h1_x3) (C := RX6) (T := TX6) (N := 4) hx hb hts hfX6 hown hK hP q9 eq9 rfl 3 (by decide) (hts (.fieldLink RX6 27 "ColdShips$Spans" "size" "I") wa_338) (fun _ h9 => h9) rfl dX6_copyFrom_1 ?_
  refine lv_aload_n hx hb dX6_copyFrom_4 rfl (lv_at hl 0 rfl) ?_
  refine tpk_pos (tp_in hG ht_h0 (by decide)) hf_h0 (fun q10 eq10 => ?_)
  refine va_get (D := (dC, dI)) (ci := 6) (v := .ref (ρ h0 0)) (C := RX6) (T := TX6) (N := 4) hx hb hts hfX6 hown hK hP q10 eq10 rfl 0 (by decide) (hts (.fieldLink RX6 15 "ColdShips$Spans" "owners" "[I") wa_73) (fun _ h9 => h9) rfl dX6_copyFrom_5 ?_
  refine tpk_20 hT y1 rfl (fun g12 hf_o11 => ?_)
  refine tpk_pos (tp_in hG y1 (by decide)) hf_o11 (fun q13 eq13 => ?_)
  obtain ⟨z14, ez14⟩ : ∃ y : Int32, y = Int32.ofNat (ν (ρ h0 0)) := ⟨_, rfl⟩
  have iz14 : z14.toInt = ((ν (ρ h0 0)) : Int) := zi_ofNat ez14 (by omega)
  refine va_alen hx hb hK hP q13 0 eq13 rfl ez14.symm dX6_copyFrom_8 ?_
  refine lv_icmp_gt (tgt := 71) hx hb dX6_copyFrom_9 (by decide) (fun c15 => ?_) (fun c15 => ?_)
  · have ic15 : h1_x3.toInt > z14.toInt := zi_gt rfl rfl c15
    have rzh0_0 := tp_hu rzh0_0
    have tv16 : tp_fld (f h0) 3 = h0_x3.toInt := by rw [hf_h0]; rfl
    exact W.vret hx hb hr (fun t ht hW => ⟨⟨f, rfl, ⟨hT, hR, ⟨hX, (by first | (rw [tv16]; done) | (rw [tv16]; exact (by omega)))⟩⟩, by rw [ht]; exact hP, va_K.moved hW.alike hK, hD⟩, hS.F ht⟩) hS.2.2 dX6_copyFrom_71
  · have ic15 : h1_x3.toInt ≤ z14.toInt := zi_gtf rfl rfl c15
    refine lv_aload_n hx hb dX6_copyFrom_12 rfl (lv_at hl 1 rfl) ?_
    refine va_get (D := (dC, dI)) (ci := 6) (v := .ref (ρ h1 0)) (C := RX6) (T := TX6) (N := 4) hx hb hts hfX6 hown hK hP q9 eq9 rfl 0 (by decide) (hts (.fieldLink RX6 15 "ColdShips$Spans" "owners" "[I") wa_73) (fun _ h9 => h9) rfl dX6_copyFrom_13 ?_
    refine lv_iconst (v := 0) hx hb dX6_copyFrom_16 (by decide) ?_
    refine lv_aload_n hx hb dX6_copyFrom_17 rfl (lv_at hl 0 rfl) ?_
    refine va_get (D := (dC, dI)) (ci := 6) (v := .ref (ρ h0 0)) (C := RX6) (T := TX6) (N := 4) hx hb hts hfX6 hown hK hP q10 eq10 rfl 0 (by decide) (hts (.fieldLink RX6 15 "ColdShips$Spans" "owners" "[I") wa_73) (fun _ h9 => h9) rfl dX6_copyFrom_18 ?_
    refine lv_iconst (v := 0) hx hb dX6_copyFrom_21 (by decide) ?_
    refine lv_aload_n hx hb dX6_copyFrom_22 rfl (lv_at hl 1 rfl) ?_
    refine va_get (D := (dC, dI)) (ci := 6) (v := .int h1_x3) (C := RX6) (T := TX6) (N := 4) hx hb hts hfX6 hown hK hP q9 eq9 rfl 3 (by decide) (hts (.fieldLink RX6 27 "ColdShips$Spans" "size" "I") wa_338) (fun _ h9 => h9) rfl dX6_copyFrom_23 ?_
    refine tpk_20 hT y5 rfl (fun g18 hf_o17 => ?_)
    refine tpk_pos (tp_in hG y5 (by decide)) hf_o17 (fun q19 eq19 => ?_)
    refine va_copyi hx hb (by rw [hml]; exact hl.1.symm) hown (hts (.methodLink RX6 34 arraycopyName) wa_1516) (hts (.native arraycopyName) wa_465) (hts (.static arraycopyName) wa_466) (hts (.initialized "java/lang/System") wa_467) hK hP hD hS q19 q13 0 0 eq19 eq13 rfl rfl rfl (by decide) (by decide) (zi_nn (by omega)) (zi_cp (show (0 : Int32).toInt = 0 from rfl) (rfl : h1_x3.toInt = _) (by omega)) (zi_cp (show (0 : Int32).toInt = 0 from rfl) (rfl : h1_x3.toInt = _) (by omega)) (fun _ _ => rfl) (Nat.le_of_ble_eq_true rfl) (Nat.le_of_ble_eq_true rfl) dX6_copyFrom_26 (tp_k (.inl (κ 0, (ν (ρ h0 0)), .inl (va_cpy g18 g12 (0 : Int32).toNatClampNeg (0 : Int32).toNatClampNeg h1_x3.toNatClampNeg))) hD (tp_in hG y1 (by decide)) eq13 (fun f20 H locs hP hD hS g22 k21 => ?_))
    have hT := hT.up y1 g22 k21 (tp_o20 rfl)
    have hR := hR.up y1 (by decide) k21
    have hX := hX.up k21 (Or.inl (by rw [tp_iu y1]; decide))
    generalize (va_cpy g18 g12 (0 : Int32).toNatClampNeg (0 : Int32).toNatClampNeg h1_x3.toNatClampNeg) = g23 at g22
    refine lv_aload_n hx hb dX6_copyFrom_29 rfl (lv_at hl 1 rfl) ?_
    have hf_24 : f20 h1 = .inr (6, [.ref (ρ h1 0), .ref (ρ h1 1), .ref (ρ h1 2), .int h1_x3]) := (k21 _ (tp_ne ht_h1 y1 (by decide))).trans hf_h1
    refine tpk_pos (tp_in hG ht_h1 (by decide)) hf_24 (fun q25 eq25 => ?_)
    refine va_get (D := (dC, dI)) (ci := 6) (v := .ref (ρ h1 1)) (C := RX6) (T := TX6) (N := 4) hx hb hts hfX6 hown hK hP q25 eq25 rfl 1 (by decide) (hts (.fieldLink RX6 21 "ColdShips$Spans" "begins" "[I") wa_74) (fun _ h9 => h9) rfl dX6_copyFrom_30 ?_
    refine lv_iconst (v := 0) hx hb dX6_copyFrom_33 (by decide) ?_
    refine lv_aload_n hx hb dX6_copyFrom_34 rfl (lv_at hl 0 rfl) ?_
    have hf_26 : f20 h0 = .inr (6, [.ref (ρ h0 0), .ref (ρ h0 1), .ref (ρ h0 2), .int h0_x3]) := (k21 _ (tp_ne ht_h0 y1 (by decide))).trans hf_h0
    refine tpk_pos (tp_in hG ht_h0 (by decide)) hf_26 (fun q27 eq27 => ?_)
    refine va_get (D := (dC, dI)) (ci := 6) (v := .ref (ρ h0 1)) (C := RX6) (T := TX6) (N := 4) hx hb hts hfX6 hown hK hP q27 eq27 rfl 1 (by decide) (hts (.fieldLink RX6 21 "ColdShips$Spans" "begins" "[I") wa_74) (fun _ h9 => h9) rfl dX6_copyFrom_35 ?_
    refine lv_iconst (v := 0) hx hb dX6_copyFrom_38 (by decide) ?_
    refine lv_aload_n hx hb dX6_copyFrom_39 rfl (lv_at hl 1 rfl) ?_
    refine va_get (D := (dC, dI)) (ci := 6) (v := .int h1_x3) (C := RX6) (T := TX6) (N := 4) hx hb hts hfX6 hown hK hP q25 eq25 rfl 3 (by decide) (hts (.fieldLink RX6 27 "ColdShips$Spans" "size" "I") wa_338) (fun _ h9 => h9) rfl dX6_copyFrom_40 ?_
    refine tpk_20 hT y6 y6n (fun g29 hf_o28 => ?_)
    refine tpk_20 hT y2 y2n (fun g31 hf_o30 => ?_)
    refine tpk_pos (tp_in hG y6 (by decide)) hf_o28 (fun q32 eq32 => ?_)
    refine tpk_pos (tp_in hG y2 (by decide)) hf_o30 (fun q33 eq33 => ?_)
    refine va_copyi hx hb (by rw [hml]; exact hl.1.symm) hown (hts (.methodLink RX6 34 arraycopyName) wa_1516) (hts (.native arraycopyName) wa_465) (hts (.static arraycopyName) wa_466) (hts (.initialized "java/lang/System") wa_467) hK hP hD hS q32 q33 0 0 eq32 eq33 rfl rfl rfl (by decide) (by decide) (zi_nn (by omega)) (zi_cp (show (0 : Int32).toInt = 0 from rfl) (rfl : h1_x3.toInt = _) (by omega)) (zi_cp (show (0 : Int32).toInt = 0 from rfl) (rfl : h1_x3.toInt = _) (by omega)) (fun _ _ => rfl) (Nat.le_of_ble_eq_true rfl) (Nat.le_of_ble_eq_true rfl) dX6_copyFrom_43 (tp_k (.inl (κ 0, (ν (ρ h0 0)), .inl (va_cpy g29 g31 (0 : Int32).toNatClampNeg (0 : Int32).toNatClampNeg h1_x3.toNatClampNeg))) hD (tp_in hG y2 (by decide)) eq33 (fun f34 H locs hP hD hS g36 k35 => ?_))
    have hT := hT.up y2 g36 k35 (tp_o20 y2n)
    have hR := hR.up y2 (by decide) k35
    have hX := hX.up k35 (Or.inl (by rw [tp_iu y2]; decide))
    generalize (va_cpy g29 g31 (0 : Int32).toNatClampNeg (0 : Int32).toNatClampNeg h1_x3.toNatClampNeg) = g37 at g36
    refine lv_aload_n hx hb dX6_copyFrom_46 rfl (lv_at hl 1 rfl) ?_
    have hf_38 : f34 h1 = .inr (6, [.ref (ρ h1 0), .ref (ρ h1 1), .ref (ρ h1 2), .int h1_x3]) := (k35 _ (tp_ne ht_h1 y2 (by decide))).trans hf_24
    refine tpk_pos (tp_in hG ht_h1 (by decide)) hf_38 (fun q39 eq39 => ?_)
    refine va_get (D := (dC, dI)) (ci := 6) (v := .ref (ρ h1 2)) (C := RX6) (T := TX6) (N := 4) hx hb hts hfX6 hown hK hP q39 eq39 rfl 2 (by decide) (hts (.fieldLink RX6 24 "ColdShips$Spans" "ends" "[I") wa_75) (fun _ h9 => h9) rfl dX6_copyFrom_47 ?_
    refine lv_iconst (v := 0) hx hb dX6_copyFrom_50 (by decide) ?_
    refine lv_aload_n hx hb dX6_copyFrom_51 rfl (lv_at hl 0 rfl) ?_
    have hf_40 : f34 h0 = .inr (6, [.ref (ρ h0 0), .ref (ρ h0 1), .ref (ρ h0 2), .int h0_x3]) := (k35 _ (tp_ne ht_h0 y2 (by decide))).trans hf_26
    refine tpk_pos (tp_in hG ht_h0 (by decide)) hf_40 (fun q41 eq41 => ?_)
    refine va_get (D := (dC, dI)) (ci := 6) (v := .ref (ρ h0 2)) (C := RX6) (T := TX6) (N := 4) hx hb hts hfX6 hown hK hP q41 eq41 rfl 2 (by decide) (hts (.fieldLink RX6 24 "ColdShips$Spans" "ends" "[I") wa_75) (fun _ h9 => h9) rfl dX6_copyFrom_52 ?_
    refine lv_iconst (v := 0) hx hb dX6_copyFrom_55 (by decide) ?_
    refine lv_aload_n hx hb dX6_copyFrom_56 rfl (lv_at hl 1 rfl) ?_
    refine va_get (D := (dC, dI)) (ci := 6) (v := .int h1_x3) (C := RX6) (T := TX6) (N := 4) hx hb hts hfX6 hown hK hP q39 eq39 rfl 3 (by decide) (hts (.fieldLink RX6 27 "ColdShips$Spans" "size" "I") wa_338) (fun _ h9 => h9) rfl dX6_copyFrom_57 ?_
    refine tpk_20 hT y7 y7n (fun g43 hf_o42 => ?_)
    refine tpk_20 hT y3 y3n (fun g45 hf_o44 => ?_)
    refine tpk_pos (tp_in hG y7 (by decide)) hf_o42 (fun q46 eq46 => ?_)
    refine tpk_pos (tp_in hG y3 (by decide)) hf_o44 (fun q47 eq47 => ?_)
    refine va_copyi hx hb (by rw [hml]; exact hl.1.symm) hown (hts (.methodLink RX6 34 arraycopyName) wa_1516) (hts (.native arraycopyName) wa_465) (hts (.static arraycopyName) wa_466) (hts (.initialized "java/lang/System") wa_467) hK hP hD hS q46 q47 0 0 eq46 eq47 rfl rfl rfl (by decide) (by decide) (zi_nn (by omega)) (zi_cp (show (0 : Int32).toInt = 0 from rfl) (rfl : h1_x3.toInt = _) (by omega)) (zi_cp (show (0 : Int32).toInt = 0 from rfl) (rfl : h1_x3.toInt = _) (by omega)) (fun _ _ => rfl) (Nat.le_of_ble_eq_true rfl) (Nat.le_of_ble_eq_true rfl) dX6_copyFrom_60 (tp_k (.inl (κ 0, (ν (ρ h0 0)), .inl (va_cpy g43 g45 (0 : Int32).toNatClampNeg (0 : Int32).toNatClampNeg h1_x3.toNatClampNeg))) hD (tp_in hG y3 (by decide)) eq47 (fun f48 H locs hP hD hS g50 k49 => ?_))
    have hT := hT.up y3 g50 k49 (tp_o20 y3n)
    have hR := hR.up y3 (by decide) k49
    have hX := hX.up k49 (Or.inl (by rw [tp_iu y3]; decide))
    generalize (va_cpy g43 g45 (0 : Int32).toNatClampNeg (0 : Int32).toNatClampNeg h1_x3.toNatClampNeg) = g51 at g50
    refine lv_aload_n hx hb dX6_copyFrom_63 rfl (lv_at hl 0 rfl) ?_
    refine lv_aload_n hx hb dX6_copyFrom_64 rfl (lv_at hl 1 rfl) ?_
    have hf_52 : f48 h1 = .inr (6, [.ref (ρ h1 0), .ref (ρ h1 1), .ref (ρ h1 2), .int h1_x3]) := (k49 _ (tp_ne ht_h1 y3 (by decide))).trans hf_38
    refine tpk_pos (tp_in hG ht_h1 (by decide)) hf_52 (fun q53 eq53 => ?_)
    refine va_get (D := (dC, dI)) (ci := 6) (v := .int h1_x3) (C := RX6) (T := TX6) (N := 4) hx hb hts hfX6 hown hK hP q53 eq53 rfl 3 (by decide) (hts (.fieldLink RX6 27 "ColdShips$Spans" "size" "I") wa_338) (fun _ h9 => h9) rfl dX6_copyFrom_65 ?_
    have hf_54 : f48 h0 = .inr (6, [.ref (ρ h0 0), .ref (ρ h0 1), .ref (ρ h0 2), .int h0_x3]) := (k49 _ (tp_ne ht_h0 y3 (by decide))).trans hf_40
    refine tpk_pos (tp_in hG ht_h0 (by decide)) hf_54 (fun q55 eq55 => ?_)
    refine va_put (D := (dC, dI)) (ci := 6) (v := .int h1_x3) (ty := .int) (C := RX6) (T := TX6) (N := 4) hx hb hts hfX6 tyX6 tyX6_ok nmX6 hown hK hP hD hS q55 eq55 rfl 3 (by decide) (hts (.fieldLink RX6 27 "ColdShips$Spans" "size" "I") wa_338) (fun _ h9 => h9) rfl (tyX6_ok 3 (by decide)) rfl rfl (Nat.le_of_ble_eq_true rfl) dX6_copyFrom_68 (tp_k (.inr (6, [.ref (ρ h0 0), .ref (ρ h0 1), .ref (ρ h0 2), .int h1_x3])) hD (tp_in hG ht_h0 (by decide)) eq55 (fun f56 H locs hP hD hS g58 k57 => ?_))
    have hT := hT.up ht_h0 g58 k57 ⟨_, rfl, (by first | decide | omega | (omega))⟩
    have hR := hR.up ht_h0 (by decide) k57
    have hX := hX.up k57 (Or.inr (by show (ρ h0 30) = ρ h0 30; omega))
    have tv59 : tp_fld (f56 h0) 3 = h1_x3.toInt := by rw [g58]; rfl
    exact W.vret hx hb hr (fun t ht hW => ⟨⟨f56, rfl, ⟨hT, hR, ⟨hX, (by first | (rw [tv59]; done) | (rw [tv59]; exact (by omega)))⟩⟩, by rw [ht]; exact hP, va_K.moved hW.alike hK, hD⟩, hS.F ht⟩) hS.2.2 dX6_copyFrom_71
set_option maxHeartbeats 4000000 in
set_option maxRecDepth 100000 in
theorem t_X8_begin (l : Launch) (dC : Nat → ClassId) (dI : Nat → Nat → Nat) (sz : Nat) (Ω : Nat → Nat → (Nat → Nat) → va_E → Prop) (κ : Nat → ClassId) (τ ν : Nat → Nat) (ρ : Nat → Nat → Nat) (L : List Nat) (f : Nat → va_E) (hG : tp_G τ ν ρ L) (hT : tp_T Ω κ τ ν ρ f) (h0 : Nat) (a : Int32) (b : Int32) (a3 : Int32) (a4 : Int32) (ht_h0 : τ h0 = 9) : Met l yX8_begin wqX8_begin ({ frames := 3, cells := 0, slots := 0, locals := 800 }) (va_Pc [.ref h0, .int a, .int b, .int a3, .int a4] (pz_B dC dI (tp_K κ) (va_pl L f) sz)) (va_Qv (fun (f1 : Nat → va_E) => tp_T Ω κ τ ν ρ f1 ∧ tp_F τ [9, 20] f f1 ∧ True) (fun (f1 : Nat → va_E) (t : State) => pz_E dC dI (tp_K κ) (va_A (va_pl L f) sz) (va_pl L f1) t) (va_A (va_pl L f) sz)) 0 0 (va_A (va_pl L f) sz) := by
  refine Met.ofW (cc := cX8_begin) (maxL := 5) (ret := none) (by decide) rfl ?_
  intro p e s m args below meth c s₁ B hml hv
  obtain ⟨rfl, hsz, hP, hK, hD0, hN⟩ := hv
  have hx := B.exec
  have hb := B.bytes
  have hr := B.returns
  have hts := fun (w : Cond) (h : w ∈ WALL) => atoms_spec (ws := wqX8_begin) B.pre w (List.mem_cons_of_mem _ h)
  have hown : s.vm.findClass RX8 = some m.cls := findClass_of_methodNamed B.named
  have hlocks := B.notSynchronized
  subst hsz
  have hD := hD0.self (sz := s.heap.size)
  generalize hAe : va_A (va_pl L f) s.heap.size = A at hD ⊢
  have hA : ∀ q : Nat, s.heap.size ≤ q → A q := fun q h => by rw [← hAe]; exact Or.inr h
  have hS : va_S A s.heap s.heap [] := va_S.rf
  have hR : tp_F τ [9, 20] f f := tp_F.rf
  have hl := lv_entry ([.ref h0, .int a, .int b, .int a3, .int a4]) (n := 5) (Nat.le_of_ble_eq_true rfl)
  rw [lg_entry_eq]
  generalize (lg_sl ([.ref h0, .int a, .int b, .int a3, .int a4]) ++ List.replicate (5 - (lg_sl ([.ref h0, .int a, .int b, .int a3, .int a4])).length) Slot.unset).toArray = ls at hl ⊢
  have hl : lv_has ls 5 [(0, .ref h0), (1, .int a), (2, .int b), (3, .int a3), (4, .int a4)] := hl
  refine lv_aload_n hx hb dX8_begin_0 rfl (lv_at hl 0 rfl) ?_
  refine lv_iload_n hx hb dX8_begin_1 rfl (lv_at hl 1 rfl) ?_
  refine tgk_9 hG ht_h0 (fun y1 y1n y2 y2n => ?_)
  refine tpk_9 hT ht_h0 (fun o3_x0 o3_x1 o3_x2 o3_x3 o3_x4 hf_o3 ro3_0 => ?_)
  refine tpk_pos (tp_in hG ht_h0 (by decide)) hf_o3 (fun q4 eq4 => ?_)
  refine va_put (D := (dC, dI)) (ci := 8) (v := .int a) (ty := .int) (C := RX8) (T := TX8) (N := 7) hx hb hts hfX8 tyX8 tyX8_ok nmX8 hown hK hP hD hS q4 eq4 rfl 0 (by decide) (hts (.fieldLink RX8 22 "ColdShips$Terminal" "store" "I") wa_192) (fun _ h9 => h9) rfl (tyX8_ok 0 (by decide)) rfl rfl (Nat.le_of_ble_eq_true rfl) dX8_begin_2 (tp_k (.inr (8, [.int a, .int o3_x1, .int o3_x2, .int o3_x3, .int o3_x4, .ref (ρ h0 5), .ref (ρ h0 6)])) hD (tp_in hG ht_h0 (by decide)) eq4 (fun f5 H locs hP hD hS g7 k6 => ?_))
  have hT := hT.up ht_h0 g7 k6 ⟨_, _, _, _, _, rfl, ro3_0⟩
  have hR := hR.up ht_h0 (by decide) k6
  refine lv_aload_n hx hb dX8_begin_5 rfl (lv_at hl 0 rfl) ?_
  refine lv_iload_n hx hb dX8_begin_6 rfl (lv_at hl 2 rfl) ?_
  refine tpk_pos (tp_in hG ht_h0 (by decide)) g7 (fun q8 eq8 => ?_)
  refine va_put (D := (dC, dI)) (ci := 8) (v := .int b) (ty := .int) (C := RX8) (T := TX8) (N := 7) hx hb hts hfX8 tyX8 tyX8_ok nmX8 hown hK hP hD hS q8 eq8 rfl 1 (by decide) (hts (.fieldLink RX8 25 "ColdShips$Terminal" "cap" "I") wa_193) (fun _ h9 => h9) rfl (tyX8_ok 1 (by decide)) rfl rfl (Nat.le_of_ble_eq_true rfl) dX8_begin_7 (tp_k (.inr (8, [.int a, .int b, .int o3_x2, .int o3_x3, .int o3_x4, .ref (ρ h0 5), .ref (ρ h0 6)])) hD (tp_in hG ht_h0 (by decide)) eq8 (fun f9 H locs hP hD hS g11 k10 => ?_))
  have hT := hT.up ht_h0 g11 k10 ⟨_, _, _, _, _, rfl, ro3_0⟩
  have hR := hR.up ht_h0 (by decide) k10
  refine lv_aload_n hx hb dX8_begin_10 rfl (lv_at hl 0 rfl) ?_
  refine lv_iconst (v := 1) hx hb dX8_begin_11 (by decide) ?_
  refine lv_iload_n hx hb dX8_begin_12 rfl (lv_at hl 3 rfl) ?_
  refine va_mmax hx hb (by rw [hml]; exact hl.1.symm) hown (hts (.methodLink RX8 28 Lib.Math.max.name) wa_194) (hts (.static Lib.Math.max.name) wa_70) (hts (.initialized "java/lang/Math") wa_71) (hts (.code Lib.Math.max.name Lib.Math.max.code 2 (some .int)) wa_72) (Nat.le_of_ble_eq_true rfl) (Nat.le_of_ble_eq_true rfl) (Nat.le_of_ble_eq_true rfl) (Nat.le_of_ble_eq_true rfl) dX8_begin_13 ?_
  refine lv_topi (fun z12 ez12 => ?_)
  have iz12 := zi_max ez12 (show (1 : Int32).toInt = 1 from rfl) (rfl : a3.toInt = _)
  refine tpk_pos (tp_in hG ht_h0 (by decide)) g11 (fun q13 eq13 => ?_)
  refine va_put (D := (dC, dI)) (ci := 8) (v := .int z12) (ty := .int) (C := RX8) (T := TX8) (N := 7) hx hb hts hfX8 tyX8 tyX8_ok nmX8 hown hK hP hD hS q13 eq13 rfl 2 (by decide) (hts (.fieldLink RX8 9 "ColdShips$Terminal" "rate" "I") wa_87) (fun _ h9 => h9) rfl (tyX8_ok 2 (by decide)) rfl rfl (Nat.le_of_ble_eq_true rfl) dX8_begin_16 (tp_k (.inr (8, [.int a, .int b, .int z12, .int o3_x3, .int o3_x4, .ref (ρ h0 5), .ref (ρ h0 6)])) hD (tp_in hG ht_h0 (by decide)) eq13 (fun f14 H locs hP hD hS g16 k15 => ?_))
  have hT := hT.up ht_h0 g16 k15 ⟨_, _, _, _, _, rfl, (by first | decide | omega | (omega))⟩
  have hR := hR.up ht_h0 (by decide) k15
  refine lv_aload_n hx hb dX8_begin_19 rfl (lv_at hl 0 rfl) ?_
  refine lv_iload hx hb dX8_begin_20 (lv_at hl 4 rfl) ?_
  refine tpk_pos (tp_in hG ht_h0 (by decide)) g16 (fun q17 eq17 => ?_)
  refine va_put (D := (dC, dI)) (ci := 8) (v := .int a4) (ty := .int) (C := RX8) (T := TX8) (N := 7) hx hb hts hfX8 tyX8 tyX8_ok nmX8 hown hK hP hD hS q17 eq17 rfl 3 (by decide) (hts (.fieldLink RX8 34 "ColdShips$Terminal" "depth" "I") wa_195) (fun _ h9 => h9) rfl (tyX8_ok 3 (by decide)) rfl rfl (Nat.le_of_ble_eq_true rfl) dX8_begin_22 (tp_k (.inr (8, [.int a, .int b, .int z12, .int a4, .int o3_x4, .ref (ρ h0 5), .ref (ρ h0 6)])) hD (tp_in hG ht_h0 (by decide)) eq17 (fun f18 H locs hP hD hS g20 k19 => ?_))
  have hT := hT.up ht_h0 g20 k19 ⟨_, _, _, _, _, rfl, (by first | decide | omega | (omega))⟩
  have hR := hR.up ht_h0 (by decide) k19
  refine lv_aload_n hx hb dX8_begin_25 rfl (lv_at hl 0 rfl) ?_
  refine lv_sipush (v := 1000) hx hb dX8_begin_26 (by decide) ?_
  refine tpk_pos (tp_in hG ht_h0 (by decide)) g20 (fun q21 eq21 => ?_)
  refine va_put (D := (dC, dI)) (ci := 8) (v := .int 1000) (ty := .int) (C := RX8) (T := TX8) (N := 7) hx hb hts hfX8 tyX8 tyX8_ok nmX8 hown hK hP hD hS q21 eq21 rfl 4 (by decide) (hts (.fieldLink RX8 37 "ColdShips$Terminal" "heat" "I") wa_196) (fun _ h9 => h9) rfl (tyX8_ok 4 (by decide)) rfl rfl (Nat.le_of_ble_eq_true rfl) dX8_begin_29 (tp_k (.inr (8, [.int a, .int b, .int z12, .int a4, .int 1000, .ref (ρ h0 5), .ref (ρ h0 6)])) hD (tp_in hG ht_h0 (by decide)) eq21 (fun f22 H locs hP hD hS g24 k23 => ?_))
  have hT := hT.up ht_h0 g24 k23 ⟨_, _, _, _, _, rfl, (by first | decide | omega | (have : (1000 : Int32).toInt = 1000 := rfl; omega))⟩
  have hR := hR.up ht_h0 (by decide) k23
  refine lv_aload_n hx hb dX8_begin_32 rfl (lv_at hl 0 rfl) ?_
  refine tpk_pos (tp_in hG ht_h0 (by decide)) g24 (fun q25 eq25 => ?_)
  refine va_get (D := (dC, dI)) (ci := 8) (v := .ref (ρ h0 5)) (C := RX8) (T := TX8) (N := 7) hx hb hts hfX8 hown hK hP q25 eq25 rfl 5 (by decide) (hts (.fieldLink RX8 15 "ColdShips$Terminal" "wayHours" "[I") wa_88) (fun _ h9 => h9) rfl dX8_begin_33 ?_
  refine lv_iconst (v := 0) hx hb dX8_begin_36 (by decide) ?_
  have hFc := tp_fr hD hS hA
  refine va_callv (va_runS (As := [.ref (ρ h0 5), .int 0]) (rest := []) ⟨hx, hb, hml, hown, hts⟩ (t_J7_fill_53178 l dC dI _ Ω κ τ ν ρ L f22 hG hT (ρ h0 5) (0) y1 (by first | omega | (have : (0 : Int32).toInt = 0 := rfl; omega))) (va_cwS 2 hts gX8_begin_J7_fill_53178 rfl rfl rfl pd_J7_fill_53178 ⟨Nat.le_of_ble_eq_true rfl, Nat.le_of_ble_eq_true rfl⟩) ⟨pz_blind, pz_pre hP hK hD hN⟩ rfl rfl hl.1 rfl (lv_room (Nat.le_of_ble_eq_true rfl)) dX8_begin_37 ⟨Nat.le_of_ble_eq_true rfl, Nat.le_of_ble_eq_true rfl⟩) hS (fun q _ h => hFc q h) hFc (fun f28 t H1 locs ht hvm hw27 hB hz1 hk1 hS => ?_)
  refine tn_3 hw27 (fun hT hF29 hw27p => ?_); clear hw27
  have hR := hR.then hF29 (by decide)
  have hP := hB.1; rw [ht] at hP; have hD := tp_ad f28 hD; clear hB hFc hz1 hk1; subst ht; generalize t.heap = H at hP hS ⊢
  exact W.vret hx hb hr (fun t ht hW => ⟨⟨f28, rfl, ⟨hT, hR, trivial⟩, by rw [ht]; exact hP, va_K.moved hW.alike hK, hD⟩, hS.F ht⟩) hS.2.2 dX8_begin_40
set_option maxHeartbeats 4000000 in
set_option maxRecDepth 100000 in
theorem t_X8_tellWay (l : Launch) (dC : Nat → ClassId) (dI : Nat → Nat → Nat) (sz : Nat) (Ω : Nat → Nat → (Nat → Nat) → va_E → Prop) (κ : Nat → ClassId) (τ ν : Nat → Nat) (ρ : Nat → Nat → Nat) (L : List Nat) (f : Nat → va_E) (hG : tp_G τ ν ρ L) (hT : tp_T Ω κ τ ν ρ f) (h0 : Nat) (a : Int32) (b : Int32) (a3 : Int32) (ht_h0 : τ h0 = 9) : Met l yX8_tellWay wqX8_tellWay ({ frames := 3, cells := 0, slots := 0, locals := 800 }) (va_Pc [.ref h0, .int a, .int b, .int a3] (pz_B dC dI (tp_K κ) (va_pl L f) sz)) (va_Qv (fun (f1 : Nat → va_E) => tp_T Ω κ τ ν ρ f1 ∧ tp_F τ [20] f f1 ∧ True) (fun (f1 : Nat → va_E) (t : State) => pz_E dC dI (tp_K κ) (va_A (va_pl L f) sz) (va_pl L f1) t) (va_A (va_pl L f) sz)) 0 0 (va_A (va_pl L f) sz) := by
  refine Met.ofW (cc := cX8_tellWay) (maxL := 4) (ret := none) (by decide) rfl ?_
  intro p e s m args below meth c s₁ B hml hv
  obtain ⟨rfl, hsz, hP, hK, hD0, hN⟩ := hv
  have hx := B.exec
  have hb := B.bytes
  have hr := B.returns
  have hts := fun (w : Cond) (h : w ∈ WALL) => atoms_spec (ws := wqX8_tellWay) B.pre w (List.mem_cons_of_mem _ h)
  have hown : s.vm.findClass RX8 = some m.cls := findClass_of_methodNamed B.named
  have hlocks := B.notSynchronized
  subst hsz
  have hD := hD0.self (sz := s.heap.size)
  generalize hAe : va_A (va_pl L f) s.heap.size = A at hD ⊢
  have hA : ∀ q : Nat, s.heap.size ≤ q → A q := fun q h => by rw [← hAe]; exact Or.inr h
  have hS : va_S A s.heap s.heap [] := va_S.rf
  have hR : tp_F τ [20] f f := tp_F.rf
  have hl := lv_entry ([.ref h0, .int a, .int b, .int a3]) (n := 4) (Nat.le_of_ble_eq_true rfl)
  rw [lg_entry_eq]
  generalize (lg_sl ([.ref h0, .int a, .int b, .int a3]) ++ List.replicate (4 - (lg_sl ([.ref h0, .int a, .int b, .int a3])).length) Slot.unset).toArray = ls at hl ⊢
  have hl : lv_has ls 4 [(0, .ref h0), (1, .int a), (2, .int b), (3, .int a3)] := hl
  refine lv_iload_n hx hb dX8_tellWay_0 rfl (lv_at hl 1 rfl) ?_
  refine lv_iconst (v := 0) hx hb dX8_tellWay_1 (by decide) ?_
  refine lv_iconst (v := 5) hx hb dX8_tellWay_2 (by decide) ?_
  refine pz_calli (va_runSN (As := [.int a, .int 0, .int 5]) (rest := []) ⟨hx, hb, hml, hown, hts⟩ (t_X11_within l dC dI _ a (0) (5) (a.toInt) (0) (5) rfl rfl rfl) ⟨(va_cnB (host := "ColdShips") 3 hts ggX8_tellWay_X11_within rfl rfl rfl (hN.1 (.methodLinkNest RX8 46 yX11_within "ColdShips") nzw_108) (hts (.initialized RX11) wa_2) pd_X11_within ⟨Nat.le_of_ble_eq_true rfl, Nat.le_of_ble_eq_true rfl⟩), (hts (.static yX11_within) wa_181), trivial⟩ ⟨pz_blind, pz_pre pz_P0 (hK.sub (tys' := []) [] rfl) (pz_D0 (A := fun _ => True)) hN⟩ rfl rfl hl.1 rfl (lv_room (Nat.le_of_ble_eq_true rfl)) dX8_tellWay_3 ⟨Nat.le_of_ble_eq_true rfl, Nat.le_of_ble_eq_true rfl⟩) (fun r1 hw2 => ?_)
  obtain ⟨hw2r, hw2p⟩ := hw2
  refine lv_if_eq (tgt := 33) hx hb dX8_tellWay_6 (by decide) (fun c3 => ?_) (fun c3 => ?_)
  · have ic3 : r1.toInt = 0 := zi_eq rfl rfl c3
    clear hw2r ic3
    exact W.vret hx hb hr (fun t ht hW => ⟨⟨f, rfl, ⟨hT, hR, trivial⟩, by rw [ht]; exact hP, va_K.moved hW.alike hK, hD⟩, hS.F ht⟩) hS.2.2 dX8_tellWay_33
  · have ic3 : r1.toInt ≠ 0 := zi_eqf rfl rfl c3
    have p4 : (0) ≤ (a.toInt) ∧ (a.toInt) ≤ (5) := (tp_cond.yes hw2p) (by omega)
    clear hw2r ic3
    refine lv_aload_n hx hb dX8_tellWay_9 rfl (lv_at hl 0 rfl) ?_
    refine tgk_9 hG ht_h0 (fun y5 y5n y6 y6n => ?_)
    refine tpk_9 hT ht_h0 (fun o7_x0 o7_x1 o7_x2 o7_x3 o7_x4 hf_o7 ro7_0 => ?_)
    refine tpk_pos (tp_in hG ht_h0 (by decide)) hf_o7 (fun q8 eq8 => ?_)
    refine va_get (D := (dC, dI)) (ci := 8) (v := .ref (ρ h0 5)) (C := RX8) (T := TX8) (N := 7) hx hb hts hfX8 hown hK hP q8 eq8 rfl 5 (by decide) (hts (.fieldLink RX8 15 "ColdShips$Terminal" "wayHours" "[I") wa_88) (fun _ h9 => h9) rfl dX8_tellWay_10 ?_
    refine lv_iload_n hx hb dX8_tellWay_13 rfl (lv_at hl 1 rfl) ?_
    refine lv_iload_n hx hb dX8_tellWay_14 rfl (lv_at hl 2 rfl) ?_
    refine tpk_20 hT y5 y5n (fun g10 hf_o9 => ?_)
    refine tpk_pos (tp_in hG y5 (by decide)) hf_o9 (fun q11 eq11 => ?_)
    refine va_iast hx hb hK hP hD hS q11 0 eq11 rfl (vp_in_iff.mpr ⟨by omega, by omega⟩) dX8_tellWay_15 (tp_k (.inl (κ 0, 6, .inl (upd g10 a.toNatClampNeg b))) hD (tp_in hG y5 (by decide)) eq11 (fun f12 H locs hP hD hS g14 k13 => ?_))
    have hT := hT.up y5 g14 k13 (tp_o20 y5n)
    have hR := hR.up y5 (by decide) k13
    generalize (upd g10 a.toNatClampNeg b) = g15 at g14
    refine lv_aload_n hx hb dX8_tellWay_16 rfl (lv_at hl 0 rfl) ?_
    have hf_16 : f12 h0 = .inr (8, [.int o7_x0, .int o7_x1, .int o7_x2, .int o7_x3, .int o7_x4, .ref (ρ h0 5), .ref (ρ h0 6)]) := (k13 _ (tp_ne ht_h0 y5 (by decide))).trans hf_o7
    refine tpk_pos (tp_in hG ht_h0 (by decide)) hf_16 (fun q17 eq17 => ?_)
    refine va_get (D := (dC, dI)) (ci := 8) (v := .ref (ρ h0 6)) (C := RX8) (T := TX8) (N := 7) hx hb hts hfX8 hown hK hP q17 eq17 rfl 6 (by decide) (hts (.fieldLink RX8 19 "ColdShips$Terminal" "wayHalf" "[I") wa_89) (fun _ h9 => h9) rfl dX8_tellWay_17 ?_
    refine lv_iload_n hx hb dX8_tellWay_20 rfl (lv_at hl 1 rfl) ?_
    refine lv_iload_n hx hb dX8_tellWay_21 rfl (lv_at hl 3 rfl) ?_
    refine lv_if_eq (tgt := 31) hx hb dX8_tellWay_22 (by decide) (fun c18 => ?_) (fun c18 => ?_)
    · have ic18 : a3.toInt = 0 := zi_eq rfl rfl c18
      refine lv_iconst (v := 0) hx hb dX8_tellWay_31 (by decide) ?_
      refine tpk_20 hT y6 y6n (fun g20 hf_o19 => ?_)
      refine tpk_pos (tp_in hG y6 (by decide)) hf_o19 (fun q21 eq21 => ?_)
      refine va_iast hx hb hK hP hD hS q21 0 eq21 rfl (vp_in_iff.mpr ⟨by omega, by omega⟩) dX8_tellWay_32 (tp_k (.inl (κ 0, 6, .inl (upd g20 a.toNatClampNeg (0 : Int32)))) hD (tp_in hG y6 (by decide)) eq21 (fun f22 H locs hP hD hS g24 k23 => ?_))
      have hT := hT.up y6 g24 k23 (tp_o20 y6n)
      have hR := hR.up y6 (by decide) k23
      generalize (upd g20 a.toNatClampNeg (0 : Int32)) = g25 at g24
      exact W.vret hx hb hr (fun t ht hW => ⟨⟨f22, rfl, ⟨hT, hR, trivial⟩, by rw [ht]; exact hP, va_K.moved hW.alike hK, hD⟩, hS.F ht⟩) hS.2.2 dX8_tellWay_33
    · have ic18 : a3.toInt ≠ 0 := zi_eqf rfl rfl c18
      refine lv_iload_n hx hb dX8_tellWay_25 rfl (lv_at hl 2 rfl) ?_
      refine lv_iconst (v := 2) hx hb dX8_tellWay_26 (by decide) ?_
      refine lv_idiv hx hb dX8_tellWay_27 (by decide) ?_
      refine lv_topi (fun z26 ez26 => ?_)
      refine lv_goto (tgt := 32) hx hb dX8_tellWay_28 (by decide) ?_
      refine tpk_20 hT y6 y6n (fun g28 hf_o27 => ?_)
      refine tpk_pos (tp_in hG y6 (by decide)) hf_o27 (fun q29 eq29 => ?_)
      refine va_iast hx hb hK hP hD hS q29 0 eq29 rfl (vp_in_iff.mpr ⟨by omega, by omega⟩) dX8_tellWay_32 (tp_k (.inl (κ 0, 6, .inl (upd g28 a.toNatClampNeg z26))) hD (tp_in hG y6 (by decide)) eq29 (fun f30 H locs hP hD hS g32 k31 => ?_))
      have hT := hT.up y6 g32 k31 (tp_o20 y6n)
      have hR := hR.up y6 (by decide) k31
      generalize (upd g28 a.toNatClampNeg z26) = g33 at g32
      exact W.vret hx hb hr (fun t ht hW => ⟨⟨f30, rfl, ⟨hT, hR, trivial⟩, by rw [ht]; exact hP, va_K.moved hW.alike hK, hD⟩, hS.F ht⟩) hS.2.2 dX8_tellWay_33
set_option maxHeartbeats 4000000 in
set_option maxRecDepth 100000 in
theorem t_X8_hoursFor (l : Launch) (dC : Nat → ClassId) (dI : Nat → Nat → Nat) (sz : Nat) (Ω : Nat → Nat → (Nat → Nat) → va_E → Prop) (κ : Nat → ClassId) (τ ν : Nat → Nat) (ρ : Nat → Nat → Nat) (L : List Nat) (f : Nat → va_E) (hG : tp_G τ ν ρ L) (hT : tp_T Ω κ τ ν ρ f) (h0 : Nat) (a : Int32) (ht_h0 : τ h0 = 9) : Met l yX8_hoursFor wqX8_hoursFor ({ frames := 2, cells := 0, slots := 0, locals := 400 }) (va_Pc [.ref h0, .int a] (pz_B dC dI (tp_K κ) (va_pl L f) sz)) (vp_Si (fun r => True ∧ True)) 0 0 (fun _ => False) := by
  refine Met.ofW (cc := cX8_hoursFor) (maxL := 2) (ret := some .int) (by decide) rfl ?_
  intro p e s m args below meth c s₁ B hml hv
  obtain ⟨rfl, hsz, hP, hK, hD0, hN⟩ := hv
  have hx := B.exec
  have hb := B.bytes
  have hr := B.returns
  have hts := fun (w : Cond) (h : w ∈ WALL) => atoms_spec (ws := wqX8_hoursFor) B.pre w (List.mem_cons_of_mem _ h)
  have hown : s.vm.findClass RX8 = some m.cls := findClass_of_methodNamed B.named
  have hlocks := B.notSynchronized
  subst hsz
  have hD := hD0
  have hS : va_S (fun _ => True) s.heap s.heap [] := va_S.rf
  have hl := lv_entry ([.ref h0, .int a]) (n := 2) (Nat.le_of_ble_eq_true rfl)
  rw [lg_entry_eq]
  generalize (lg_sl ([.ref h0, .int a]) ++ List.replicate (2 - (lg_sl ([.ref h0, .int a])).length) Slot.unset).toArray = ls at hl ⊢
  have hl : lv_has ls 2 [(0, .ref h0), (1, .int a)] := hl
  refine lv_iload_n hx hb dX8_hoursFor_0 rfl (lv_at hl 1 rfl) ?_
  refine lv_aload_n hx hb dX8_hoursFor_1 rfl (lv_at hl 0 rfl) ?_
  refine tgk_9 hG ht_h0 (fun y1 y1n y2 y2n => ?_)
  refine tpk_9 hT ht_h0 (fun o3_x0 o3_x1 o3_x2 o3_x3 o3_x4 hf_o3 ro3_0 => ?_)
  refine tpk_pos (tp_in hG ht_h0 (by decide)) hf_o3 (fun q4 eq4 => ?_)
  have ro3_0 := tp_hu ro3_0
  refine va_get (D := (dC, dI)) (ci := 8) (v := .int o3_x2) (C := RX8) (T := TX8) (N := 7) hx hb hts hfX8 hown hK hP q4 eq4 rfl 2 (by decide) (hts (.fieldLink RX8 9 "ColdShips$Terminal" "rate" "I") wa_87) (fun _ h9 => h9) rfl dX8_hoursFor_2 ?_
  refine lv_iadd hx hb dX8_hoursFor_5 ?_
  refine lv_topi (fun z5 ez5 => ?_)
  refine lv_iconst (v := 1) hx hb dX8_hoursFor_6 (by decide) ?_
  refine lv_isub hx hb dX8_hoursFor_7 ?_
  refine lv_topi (fun z6 ez6 => ?_)
  refine lv_aload_n hx hb dX8_hoursFor_8 rfl (lv_at hl 0 rfl) ?_
  refine va_get (D := (dC, dI)) (ci := 8) (v := .int o3_x2) (C := RX8) (T := TX8) (N := 7) hx hb hts hfX8 hown hK hP q4 eq4 rfl 2 (by decide) (hts (.fieldLink RX8 9 "ColdShips$Terminal" "rate" "I") wa_87) (fun _ h9 => h9) rfl dX8_hoursFor_9 ?_
  refine lv_idiv hx hb dX8_hoursFor_12 (zi_nz (by omega) rfl) ?_
  refine lv_topi (fun z7 ez7 => ?_)
  exact W.iret (v := z7) hx hb hr (fun t ht hW => ⟨z7, rfl, ⟨trivial, trivial⟩, ht⟩) (fun _ h => by cases h) dX8_hoursFor_13
set_option maxHeartbeats 4000000 in
set_option maxRecDepth 100000 in
theorem t_X8_copyFrom (l : Launch) (dC : Nat → ClassId) (dI : Nat → Nat → Nat) (sz : Nat) (Ω : Nat → Nat → (Nat → Nat) → va_E → Prop) (κ : Nat → ClassId) (τ ν : Nat → Nat) (ρ : Nat → Nat → Nat) (L : List Nat) (f : Nat → va_E) (hG : tp_G τ ν ρ L) (hT : tp_T Ω κ τ ν ρ f) (h0 : Nat) (h1 : Nat) (ht_h0 : τ h0 = 9) (ht_h1 : τ h1 = 9) : Met l yX8_copyFrom wqX8_copyFrom ({ frames := 2, cells := 0, slots := 0, locals := 400 }) (va_Pc [.ref h0, .ref h1] (pz_B dC dI (tp_K κ) (va_pl L f) sz)) (va_Qv (fun (f1 : Nat → va_E) => tp_T Ω κ τ ν ρ f1 ∧ tp_F τ [9, 20] f f1 ∧ True) (fun (f1 : Nat → va_E) (t : State) => pz_E dC dI (tp_K κ) (va_A (va_pl L f) sz) (va_pl L f1) t) (va_A (va_pl L f) sz)) 0 0 (va_A (va_pl L f) sz) := by
  refine Met.ofW (cc := cX8_copyFrom) (maxL := 2) (ret := none) (by decide) rfl ?_
  intro p e s m args below meth c s₁ B hml hv
  obtain ⟨rfl, hsz, hP, hK, hD0, hN⟩ := hv
  have hx := B.exec
  have hb := B.bytes
  have hr := B.returns
  have hts := fun (w : Cond) (h : w ∈ WALL) => atoms_spec (ws := wqX8_copyFrom) B.pre w (List.mem_cons_of_mem _ h)
  have hown : s.vm.findClass RX8 = some m.cls := findClass_of_methodNamed B.named
  have hlocks := B.notSynchronized
  subst hsz
  have hD := hD0.self (sz := s.heap.size)
  generalize hAe : va_A (va_pl L f) s.heap.size = A at hD ⊢
  have hA : ∀ q : Nat, s.heap.size ≤ q → A q := fun q h => by rw [← hAe]; exact Or.inr h
  have hS : va_S A s.heap s.heap [] := va_S.rf
  have hR : tp_F τ [9, 20] f f := tp_F.rf
  have hl := lv_entry ([.ref h0, .ref h1]) (n := 2) (Nat.le_of_ble_eq_true rfl)
  rw [lg_entry_eq]
  generalize (lg_sl ([.ref h0, .ref h1]) ++ List.replicate (2 - (lg_sl ([.ref h0, .ref h1])).length) Slot.unset).toArray = ls at hl ⊢
  have hl : lv_has ls 2 [(0, .ref h0), (1, .ref h1)] := hl
  refine lv_aload_n hx hb dX8_copyFrom_0 rfl (lv_at hl 0 rfl) ?_
  refine lv_aload_n hx hb dX8_copyFrom_1 rfl (lv_at hl 1 rfl) ?_
  refine tgk_9 hG ht_h1 (fun y1 y1n y2 y2n => ?_)
  refine tpk_9 hT ht_h1 (fun o3_x0 o3_x1 o3_x2 o3_x3 o3_x4 hf_o3 ro3_0 => ?_)
  refine tpk_pos (tp_in hG ht_h1 (by decide)) hf_o3 (fun q4 eq4 => ?_)
  refine va_get (D := (dC, dI)) (ci := 8) (v := .int o3_x0) (C := RX8) (T := TX8) (N := 7) hx hb hts hfX8 hown hK hP q4 eq4 rfl 0 (by decide) (hts (.fieldLink RX8 22 "ColdShips$Terminal" "store" "I") wa_192) (fun _ h9 => h9) rfl dX8_copyFrom_2 ?_
  refine tgk_9 hG ht_h0 (fun y5 y5n y6 y6n => ?_)
  refine tpk_9 hT ht_h0 (fun o7_x0 o7_x1 o7_x2 o7_x3 o7_x4 hf_o7 ro7_0 => ?_)
  refine tpk_pos (tp_in hG ht_h0 (by decide)) hf_o7 (fun q8 eq8 => ?_)
  refine va_put (D := (dC, dI)) (ci := 8) (v := .int o3_x0) (ty := .int) (C := RX8) (T := TX8) (N := 7) hx hb hts hfX8 tyX8 tyX8_ok nmX8 hown hK hP hD hS q8 eq8 rfl 0 (by decide) (hts (.fieldLink RX8 22 "ColdShips$Terminal" "store" "I") wa_192) (fun _ h9 => h9) rfl (tyX8_ok 0 (by decide)) rfl rfl (Nat.le_of_ble_eq_true rfl) dX8_copyFrom_5 (tp_k (.inr (8, [.int o3_x0, .int o7_x1, .int o7_x2, .int o7_x3, .int o7_x4, .ref (ρ h0 5), .ref (ρ h0 6)])) hD (tp_in hG ht_h0 (by decide)) eq8 (fun f9 H locs hP hD hS g11 k10 => ?_))
  have hT := hT.up ht_h0 g11 k10 ⟨_, _, _, _, _, rfl, ro7_0⟩
  have hR := hR.up ht_h0 (by decide) k10
  refine lv_aload_n hx hb dX8_copyFrom_8 rfl (lv_at hl 0 rfl) ?_
  refine lv_aload_n hx hb dX8_copyFrom_9 rfl (lv_at hl 1 rfl) ?_
  refine tpk_9 hT ht_h1 (fun o12_x0 o12_x1 o12_x2 o12_x3 o12_x4 hf_o12 ro12_0 => ?_)
  refine tpk_pos (tp_in hG ht_h1 (by decide)) hf_o12 (fun q13 eq13 => ?_)
  refine va_get (D := (dC, dI)) (ci := 8) (v := .int o12_x1) (C := RX8) (T := TX8) (N := 7) hx hb hts hfX8 hown hK hP q13 eq13 rfl 1 (by decide) (hts (.fieldLink RX8 25 "ColdShips$Terminal" "cap" "I") wa_193) (fun _ h9 => h9) rfl dX8_copyFrom_10 ?_
  refine tpk_pos (tp_in hG ht_h0 (by decide)) g11 (fun q14 eq14 => ?_)
  refine va_put (D := (dC, dI)) (ci := 8) (v := .int o12_x1) (ty := .int) (C := RX8) (T := TX8) (N := 7) hx hb hts hfX8 tyX8 tyX8_ok nmX8 hown hK hP hD hS q14 eq14 rfl 1 (by decide) (hts (.fieldLink RX8 25 "ColdShips$Terminal" "cap" "I") wa_193) (fun _ h9 => h9) rfl (tyX8_ok 1 (by decide)) rfl rfl (Nat.le_of_ble_eq_true rfl) dX8_copyFrom_13 (tp_k (.inr (8, [.int o3_x0, .int o12_x1, .int o7_x2, .int o7_x3, .int o7_x4, .ref (ρ h0 5), .ref (ρ h0 6)])) hD (tp_in hG ht_h0 (by decide)) eq14 (fun f15 H locs hP hD hS g17 k16 => ?_))
  have hT := hT.up ht_h0 g17 k16 ⟨_, _, _, _, _, rfl, ro7_0⟩
  have hR := hR.up ht_h0 (by decide) k16
  refine lv_aload_n hx hb dX8_copyFrom_16 rfl (lv_at hl 0 rfl) ?_
  refine lv_aload_n hx hb dX8_copyFrom_17 rfl (lv_at hl 1 rfl) ?_
  refine tpk_9 hT ht_h1 (fun o18_x0 o18_x1 o18_x2 o18_x3 o18_x4 hf_o18 ro18_0 => ?_)
  refine tpk_pos (tp_in hG ht_h1 (by decide)) hf_o18 (fun q19 eq19 => ?_)
  have ro18_0 := tp_hu ro18_0
  refine va_get (D := (dC, dI)) (ci := 8) (v := .int o18_x2) (C := RX8) (T := TX8) (N := 7) hx hb hts hfX8 hown hK hP q19 eq19 rfl 2 (by decide) (hts (.fieldLink RX8 9 "ColdShips$Terminal" "rate" "I") wa_87) (fun _ h9 => h9) rfl dX8_copyFrom_18 ?_
  refine tpk_pos (tp_in hG ht_h0 (by decide)) g17 (fun q20 eq20 => ?_)
  refine va_put (D := (dC, dI)) (ci := 8) (v := .int o18_x2) (ty := .int) (C := RX8) (T := TX8) (N := 7) hx hb hts hfX8 tyX8 tyX8_ok nmX8 hown hK hP hD hS q20 eq20 rfl 2 (by decide) (hts (.fieldLink RX8 9 "ColdShips$Terminal" "rate" "I") wa_87) (fun _ h9 => h9) rfl (tyX8_ok 2 (by decide)) rfl rfl (Nat.le_of_ble_eq_true rfl) dX8_copyFrom_21 (tp_k (.inr (8, [.int o3_x0, .int o12_x1, .int o18_x2, .int o7_x3, .int o7_x4, .ref (ρ h0 5), .ref (ρ h0 6)])) hD (tp_in hG ht_h0 (by decide)) eq20 (fun f21 H locs hP hD hS g23 k22 => ?_))
  have hT := hT.up ht_h0 g23 k22 ⟨_, _, _, _, _, rfl, ro18_0⟩
  have hR := hR.up ht_h0 (by decide) k22
  refine lv_aload_n hx hb dX8_copyFrom_24 rfl (lv_at hl 0 rfl) ?_
  refine lv_aload_n hx hb dX8_copyFrom_25 rfl (lv_at hl 1 rfl) ?_
  refine tpk_9 hT ht_h1 (fun o24_x0 o24_x1 o24_x2 o24_x3 o24_x4 hf_o24 ro24_0 => ?_)
  refine tpk_pos (tp_in hG ht_h1 (by decide)) hf_o24 (fun q25 eq25 => ?_)
  refine va_get (D := (dC, dI)) (ci := 8) (v := .int o24_x3) (C := RX8) (T := TX8) (N := 7) hx hb hts hfX8 hown hK hP q25 eq25 rfl 3 (by decide) (hts (.fieldLink RX8 34 "ColdShips$Terminal" "depth" "I") wa_195) (fun _ h9 => h9) rfl dX8_copyFrom_26 ?_
  refine tpk_pos (tp_in hG ht_h0 (by decide)) g23 (fun q26 eq26 => ?_)
  refine va_put (D := (dC, dI)) (ci := 8) (v := .int o24_x3) (ty := .int) (C := RX8) (T := TX8) (N := 7) hx hb hts hfX8 tyX8 tyX8_ok nmX8 hown hK hP hD hS q26 eq26 rfl 3 (by decide) (hts (.fieldLink RX8 34 "ColdShips$Terminal" "depth" "I") wa_195) (fun _ h9 => h9) rfl (tyX8_ok 3 (by decide)) rfl rfl (Nat.le_of_ble_eq_true rfl) dX8_copyFrom_29 (tp_k (.inr (8, [.int o3_x0, .int o12_x1, .int o18_x2, .int o24_x3, .int o7_x4, .ref (ρ h0 5), .ref (ρ h0 6)])) hD (tp_in hG ht_h0 (by decide)) eq26 (fun f27 H locs hP hD hS g29 k28 => ?_))
  have hT := hT.up ht_h0 g29 k28 ⟨_, _, _, _, _, rfl, ro18_0⟩
  have hR := hR.up ht_h0 (by decide) k28
  refine lv_aload_n hx hb dX8_copyFrom_32 rfl (lv_at hl 0 rfl) ?_
  refine lv_aload_n hx hb dX8_copyFrom_33 rfl (lv_at hl 1 rfl) ?_
  refine tpk_9 hT ht_h1 (fun o30_x0 o30_x1 o30_x2 o30_x3 o30_x4 hf_o30 ro30_0 => ?_)
  refine tpk_pos (tp_in hG ht_h1 (by decide)) hf_o30 (fun q31 eq31 => ?_)
  refine va_get (D := (dC, dI)) (ci := 8) (v := .int o30_x4) (C := RX8) (T := TX8) (N := 7) hx hb hts hfX8 hown hK hP q31 eq31 rfl 4 (by decide) (hts (.fieldLink RX8 37 "ColdShips$Terminal" "heat" "I") wa_196) (fun _ h9 => h9) rfl dX8_copyFrom_34 ?_
  refine tpk_pos (tp_in hG ht_h0 (by decide)) g29 (fun q32 eq32 => ?_)
  refine va_put (D := (dC, dI)) (ci := 8) (v := .int o30_x4) (ty := .int) (C := RX8) (T := TX8) (N := 7) hx hb hts hfX8 tyX8 tyX8_ok nmX8 hown hK hP hD hS q32 eq32 rfl 4 (by decide) (hts (.fieldLink RX8 37 "ColdShips$Terminal" "heat" "I") wa_196) (fun _ h9 => h9) rfl (tyX8_ok 4 (by decide)) rfl rfl (Nat.le_of_ble_eq_true rfl) dX8_copyFrom_37 (tp_k (.inr (8, [.int o3_x0, .int o12_x1, .int o18_x2, .int o24_x3, .int o30_x4, .ref (ρ h0 5), .ref (ρ h0 6)])) hD (tp_in hG ht_h0 (by decide)) eq32 (fun f33 H locs hP hD hS g35 k34 => ?_))
  have hT := hT.up ht_h0 g35 k34 ⟨_, _, _, _, _, rfl, ro18_0⟩
  have hR := hR.up ht_h0 (by decide) k34
  refine lv_aload_n hx hb dX8_copyFrom_40 rfl (lv_at hl 1 rfl) ?_
  refine tpk_9 hT ht_h1 (fun o36_x0 o36_x1 o36_x2 o36_x3 o36_x4 hf_o36 ro36_0 => ?_)
  refine tpk_pos (tp_in hG ht_h1 (by decide)) hf_o36 (fun q37 eq37 => ?_)
  refine va_get (D := (dC, dI)) (ci := 8) (v := .ref (ρ h1 5)) (C := RX8) (T := TX8) (N := 7) hx hb hts hfX8 hown hK hP q37 eq37 rfl 5 (by decide) (hts (.fieldLink RX8 15 "ColdShips$Terminal" "wayHours" "[I") wa_88) (fun _ h9 => h9) rfl dX8_copyFrom_41 ?_
  refine lv_iconst (v := 0) hx hb dX8_copyFrom_44 (by decide) ?_
  refine lv_aload_n hx hb dX8_copyFrom_45 rfl (lv_at hl 0 rfl) ?_
  refine tpk_pos (tp_in hG ht_h0 (by decide)) g35 (fun q38 eq38 => ?_)
  refine va_get (D := (dC, dI)) (ci := 8) (v := .ref (ρ h0 5)) (C := RX8) (T := TX8) (N := 7) hx hb hts hfX8 hown hK hP q38 eq38 rfl 5 (by decide) (hts (.fieldLink RX8 15 "ColdShips$Terminal" "wayHours" "[I") wa_88) (fun _ h9 => h9) rfl dX8_copyFrom_46 ?_
  refine lv_iconst (v := 0) hx hb dX8_copyFrom_49 (by decide) ?_
  refine lv_bipush (v := 6) hx hb dX8_copyFrom_50 (by decide) ?_
  refine tpk_20 hT y1 y1n (fun g40 hf_o39 => ?_)
  refine tpk_20 hT y5 y5n (fun g42 hf_o41 => ?_)
  refine tpk_pos (tp_in hG y1 (by decide)) hf_o39 (fun q43 eq43 => ?_)
  refine tpk_pos (tp_in hG y5 (by decide)) hf_o41 (fun q44 eq44 => ?_)
  refine va_copyi hx hb (by rw [hml]; exact hl.1.symm) hown (hts (.methodLink RX8 50 arraycopyName) wa_1502) (hts (.native arraycopyName) wa_465) (hts (.static arraycopyName) wa_466) (hts (.initialized "java/lang/System") wa_467) hK hP hD hS q43 q44 0 0 eq43 eq44 rfl rfl rfl (by decide) (by decide) (by decide) (by decide) (by decide) (fun _ _ => rfl) (Nat.le_of_ble_eq_true rfl) (Nat.le_of_ble_eq_true rfl) dX8_copyFrom_52 (tp_k (.inl (κ 0, 6, .inl (va_cpy g40 g42 (0 : Int32).toNatClampNeg (0 : Int32).toNatClampNeg (6 : Int32).toNatClampNeg))) hD (tp_in hG y5 (by decide)) eq44 (fun f45 H locs hP hD hS g47 k46 => ?_))
  have hT := hT.up y5 g47 k46 (tp_o20 y5n)
  have hR := hR.up y5 (by decide) k46
  generalize (va_cpy g40 g42 (0 : Int32).toNatClampNeg (0 : Int32).toNatClampNeg (6 : Int32).toNatClampNeg) = g48 at g47
  refine lv_aload_n hx hb dX8_copyFrom_55 rfl (lv_at hl 1 rfl) ?_
  have hf_49 : f45 h1 = .inr (8, [.int o36_x0, .int o36_x1, .int o36_x2, .int o36_x3, .int o36_x4, .ref (ρ h1 5), .ref (ρ h1 6)]) := (k46 _ (tp_ne ht_h1 y5 (by decide))).trans hf_o36
  refine tpk_pos (tp_in hG ht_h1 (by decide)) hf_49 (fun q50 eq50 => ?_)
  refine va_get (D := (dC, dI)) (ci := 8) (v := .ref (ρ h1 6)) (C := RX8) (T := TX8) (N := 7) hx hb hts hfX8 hown hK hP q50 eq50 rfl 6 (by decide) (hts (.fieldLink RX8 19 "ColdShips$Terminal" "wayHalf" "[I") wa_89) (fun _ h9 => h9) rfl dX8_copyFrom_56 ?_
  refine lv_iconst (v := 0) hx hb dX8_copyFrom_59 (by decide) ?_
  refine lv_aload_n hx hb dX8_copyFrom_60 rfl (lv_at hl 0 rfl) ?_
  have hf_51 : f45 h0 = .inr (8, [.int o3_x0, .int o12_x1, .int o18_x2, .int o24_x3, .int o30_x4, .ref (ρ h0 5), .ref (ρ h0 6)]) := (k46 _ (tp_ne ht_h0 y5 (by decide))).trans g35
  refine tpk_pos (tp_in hG ht_h0 (by decide)) hf_51 (fun q52 eq52 => ?_)
  refine va_get (D := (dC, dI)) (ci := 8) (v := .ref (ρ h0 6)) (C := RX8) (T := TX8) (N := 7) hx hb hts hfX8 hown hK hP q52 eq52 rfl 6 (by decide) (hts (.fieldLink RX8 19 "ColdShips$Terminal" "wayHalf" "[I") wa_89) (fun _ h9 => h9) rfl dX8_copyFrom_61 ?_
  refine lv_iconst (v := 0) hx hb dX8_copyFrom_64 (by decide) ?_
  refine lv_bipush (v := 6) hx hb dX8_copyFrom_65 (by decide) ?_
  refine tpk_20 hT y2 y2n (fun g54 hf_o53 => ?_)
  refine tpk_20 hT y6 y6n (fun g56 hf_o55 => ?_)
  refine tpk_pos (tp_in hG y2 (by decide)) hf_o53 (fun q57 eq57 => ?_)
  refine tpk_pos (tp_in hG y6 (by decide)) hf_o55 (fun q58 eq58 => ?_)
  refine va_copyi hx hb (by rw [hml]; exact hl.1.symm) hown (hts (.methodLink RX8 50 arraycopyName) wa_1502) (hts (.native arraycopyName) wa_465) (hts (.static arraycopyName) wa_466) (hts (.initialized "java/lang/System") wa_467) hK hP hD hS q57 q58 0 0 eq57 eq58 rfl rfl rfl (by decide) (by decide) (by decide) (by decide) (by decide) (fun _ _ => rfl) (Nat.le_of_ble_eq_true rfl) (Nat.le_of_ble_eq_true rfl) dX8_copyFrom_67 (tp_k (.inl (κ 0, 6, .inl (va_cpy g54 g56 (0 : Int32).toNatClampNeg (0 : Int32).toNatClampNeg (6 : Int32).toNatClampNeg))) hD (tp_in hG y6 (by decide)) eq58 (fun f59 H locs hP hD hS g61 k60 => ?_))
  have hT := hT.up y6 g61 k60 (tp_o20 y6n)
  have hR := hR.up y6 (by decide) k60
  generalize (va_cpy g54 g56 (0 : Int32).toNatClampNeg (0 : Int32).toNatClampNeg (6 : Int32).toNatClampNeg) = g62 at g61
  exact W.vret hx hb hr (fun t ht hW => ⟨⟨f59, rfl, ⟨hT, hR, trivial⟩, by rw [ht]; exact hP, va_K.moved hW.alike hK, hD⟩, hS.F ht⟩) hS.2.2 dX8_copyFrom_70
end
section
theorem gX5_begin_X7_begin : GoodIn WALL (wsV RX5 38 RX7 yX7_begin wqX7_begin) := wg_V wa_249 wa_250 wa_251 wa_95 wa_252
theorem gX5_begin_J7_fill_d0a16 : GoodIn WALL (va_wsS RX5 65 yJ7_fill_d0a16 wqJ7_fill_d0a16) := wg_S wa_258 wa_259 wa_199 wa_260
theorem gX5_begin_J7_fill_53178 : GoodIn WALL (va_wsS RX5 71 yJ7_fill_53178 wqJ7_fill_53178) := wg_S wa_261 wa_198 wa_199 wa_200
theorem gX5_begin_X5_forgetLanding : GoodIn WALL (wsV RX5 74 RX5 yX5_forgetLanding wqX5_forgetLanding) := wg_V wa_262 wa_263 wa_264 wa_64 wa_265
theorem dX5_begin_0 : decode cX5_begin 0 = .ok (.aload_n 0, 1) := od_42  (by decide +kernel)
theorem dX5_begin_1 : decode cX5_begin 1 = .ok (.getfield 12, 3) := od_180 (a := 0) (b := 12) (by decide +kernel) (by decide)
theorem dX5_begin_4 : decode cX5_begin 4 = .ok (.iload_n 2, 1) := od_28  (by decide +kernel)
theorem dX5_begin_5 : decode cX5_begin 5 = .ok (.invokevirtual 38, 3) := od_182 (a := 0) (b := 38) (by decide +kernel) (by decide)
theorem dX5_begin_8 : decode cX5_begin 8 = .ok (.aload_n 0, 1) := od_42  (by decide +kernel)
theorem dX5_begin_9 : decode cX5_begin 9 = .ok (.iload_n 3, 1) := od_29  (by decide +kernel)
theorem dX5_begin_10 : decode cX5_begin 10 = .ok (.putfield 42, 3) := od_181 (a := 0) (b := 42) (by decide +kernel) (by decide)
theorem dX5_begin_13 : decode cX5_begin 13 = .ok (.aload_n 0, 1) := od_42  (by decide +kernel)
theorem dX5_begin_14 : decode cX5_begin 14 = .ok (.iload_n 1, 1) := od_27  (by decide +kernel)
theorem dX5_begin_15 : decode cX5_begin 15 = .ok (.putfield 46, 3) := od_181 (a := 0) (b := 46) (by decide +kernel) (by decide)
theorem dX5_begin_18 : decode cX5_begin 18 = .ok (.aload_n 0, 1) := od_42  (by decide +kernel)
theorem dX5_begin_19 : decode cX5_begin 19 = .ok (.iconst 0, 1) := od_3  (by decide +kernel)
theorem dX5_begin_20 : decode cX5_begin 20 = .ok (.putfield 49, 3) := od_181 (a := 0) (b := 49) (by decide +kernel) (by decide)
theorem dX5_begin_23 : decode cX5_begin 23 = .ok (.aload_n 0, 1) := od_42  (by decide +kernel)
theorem dX5_begin_24 : decode cX5_begin 24 = .ok (.iconst 0, 1) := od_3  (by decide +kernel)
theorem dX5_begin_25 : decode cX5_begin 25 = .ok (.putfield 52, 3) := od_181 (a := 0) (b := 52) (by decide +kernel) (by decide)
theorem dX5_begin_28 : decode cX5_begin 28 = .ok (.aload_n 0, 1) := od_42  (by decide +kernel)
theorem dX5_begin_29 : decode cX5_begin 29 = .ok (.iconst 0, 1) := od_3  (by decide +kernel)
theorem dX5_begin_30 : decode cX5_begin 30 = .ok (.putfield 55, 3) := od_181 (a := 0) (b := 55) (by decide +kernel) (by decide)
theorem dX5_begin_33 : decode cX5_begin 33 = .ok (.aload_n 0, 1) := od_42  (by decide +kernel)
theorem dX5_begin_34 : decode cX5_begin 34 = .ok (.iconst 0, 1) := od_3  (by decide +kernel)
theorem dX5_begin_35 : decode cX5_begin 35 = .ok (.putfield 59, 3) := od_181 (a := 0) (b := 59) (by decide +kernel) (by decide)
theorem dX5_begin_38 : decode cX5_begin 38 = .ok (.aload_n 0, 1) := od_42  (by decide +kernel)
theorem dX5_begin_39 : decode cX5_begin 39 = .ok (.iconst 0, 1) := od_3  (by decide +kernel)
theorem dX5_begin_40 : decode cX5_begin 40 = .ok (.putfield 62, 3) := od_181 (a := 0) (b := 62) (by decide +kernel) (by decide)
theorem dX5_begin_43 : decode cX5_begin 43 = .ok (.aload_n 0, 1) := od_42  (by decide +kernel)
theorem dX5_begin_44 : decode cX5_begin 44 = .ok (.getfield 25, 3) := od_180 (a := 0) (b := 25) (by decide +kernel) (by decide)
theorem dX5_begin_47 : decode cX5_begin 47 = .ok (.lconst 0, 1) := od_9  (by decide +kernel)
theorem dX5_begin_48 : decode cX5_begin 48 = .ok (.invokestatic 65, 3) := od_184 (a := 0) (b := 65) (by decide +kernel) (by decide)
theorem dX5_begin_51 : decode cX5_begin 51 = .ok (.aload_n 0, 1) := od_42  (by decide +kernel)
theorem dX5_begin_52 : decode cX5_begin 52 = .ok (.getfield 32, 3) := od_180 (a := 0) (b := 32) (by decide +kernel) (by decide)
theorem dX5_begin_55 : decode cX5_begin 55 = .ok (.iconst (-1), 1) := od_2  (by decide +kernel)
theorem dX5_begin_56 : decode cX5_begin 56 = .ok (.invokestatic 71, 3) := od_184 (a := 0) (b := 71) (by decide +kernel) (by decide)
theorem dX5_begin_59 : decode cX5_begin 59 = .ok (.aload_n 0, 1) := od_42  (by decide +kernel)
theorem dX5_begin_60 : decode cX5_begin 60 = .ok (.invokevirtual 74, 3) := od_182 (a := 0) (b := 74) (by decide +kernel) (by decide)
theorem dX5_begin_63 : decode cX5_begin 63 = .ok (.return_, 1) := od_177  (by decide +kernel)
theorem dX5_addOrder_0 : decode cX5_addOrder 0 = .ok (.aload_n 0, 1) := od_42  (by decide +kernel)
theorem dX5_addOrder_1 : decode cX5_addOrder 1 = .ok (.getfield 59, 3) := od_180 (a := 0) (b := 59) (by decide +kernel) (by decide)
theorem dX5_addOrder_4 : decode cX5_addOrder 4 = .ok (.bipush 20, 2) := od_16 (a := 20) (by decide +kernel) (by decide +kernel)
theorem dX5_addOrder_6 : decode cX5_addOrder 6 = .ok (.if_icmp .ge 33, 3) := od_162 (a := 0) (b := 33) (by decide +kernel) (by decide +kernel)
theorem dX5_addOrder_9 : decode cX5_addOrder 9 = .ok (.aload_n 0, 1) := od_42  (by decide +kernel)
theorem dX5_addOrder_10 : decode cX5_addOrder 10 = .ok (.getfield 18, 3) := od_180 (a := 0) (b := 18) (by decide +kernel) (by decide)
theorem dX5_addOrder_13 : decode cX5_addOrder 13 = .ok (.aload_n 0, 1) := od_42  (by decide +kernel)
theorem dX5_addOrder_14 : decode cX5_addOrder 14 = .ok (.getfield 59, 3) := od_180 (a := 0) (b := 59) (by decide +kernel) (by decide)
theorem dX5_addOrder_17 : decode cX5_addOrder 17 = .ok (.iload_n 1, 1) := od_27  (by decide +kernel)
theorem dX5_addOrder_18 : decode cX5_addOrder 18 = .ok (.iastore, 1) := od_79  (by decide +kernel)
theorem dX5_addOrder_19 : decode cX5_addOrder 19 = .ok (.aload_n 0, 1) := od_42  (by decide +kernel)
theorem dX5_addOrder_20 : decode cX5_addOrder 20 = .ok (.getfield 22, 3) := od_180 (a := 0) (b := 22) (by decide +kernel) (by decide)
theorem dX5_addOrder_23 : decode cX5_addOrder 23 = .ok (.aload_n 0, 1) := od_42  (by decide +kernel)
theorem dX5_addOrder_24 : decode cX5_addOrder 24 = .ok (.getfield 59, 3) := od_180 (a := 0) (b := 59) (by decide +kernel) (by decide)
theorem dX5_addOrder_27 : decode cX5_addOrder 27 = .ok (.iload_n 2, 1) := od_28  (by decide +kernel)
theorem dX5_addOrder_28 : decode cX5_addOrder 28 = .ok (.iastore, 1) := od_79  (by decide +kernel)
theorem dX5_addOrder_29 : decode cX5_addOrder 29 = .ok (.aload_n 0, 1) := od_42  (by decide +kernel)
theorem dX5_addOrder_30 : decode cX5_addOrder 30 = .ok (.dup, 1) := od_89  (by decide +kernel)
theorem dX5_addOrder_31 : decode cX5_addOrder 31 = .ok (.getfield 59, 3) := od_180 (a := 0) (b := 59) (by decide +kernel) (by decide)
theorem dX5_addOrder_34 : decode cX5_addOrder 34 = .ok (.iconst 1, 1) := od_4  (by decide +kernel)
theorem dX5_addOrder_35 : decode cX5_addOrder 35 = .ok (.iadd, 1) := od_96  (by decide +kernel)
theorem dX5_addOrder_36 : decode cX5_addOrder 36 = .ok (.putfield 59, 3) := od_181 (a := 0) (b := 59) (by decide +kernel) (by decide)
theorem dX5_addOrder_39 : decode cX5_addOrder 39 = .ok (.return_, 1) := od_177  (by decide +kernel)
theorem dX5_endOrder_0 : decode cX5_endOrder 0 = .ok (.aload_n 0, 1) := od_42  (by decide +kernel)
theorem dX5_endOrder_1 : decode cX5_endOrder 1 = .ok (.getfield 59, 3) := od_180 (a := 0) (b := 59) (by decide +kernel) (by decide)
theorem dX5_endOrder_4 : decode cX5_endOrder 4 = .ok (.ifCond .le 47, 3) := od_158 (a := 0) (b := 47) (by decide +kernel) (by decide +kernel)
theorem dX5_endOrder_7 : decode cX5_endOrder 7 = .ok (.aload_n 0, 1) := od_42  (by decide +kernel)
theorem dX5_endOrder_8 : decode cX5_endOrder 8 = .ok (.dup, 1) := od_89  (by decide +kernel)
theorem dX5_endOrder_9 : decode cX5_endOrder 9 = .ok (.getfield 59, 3) := od_180 (a := 0) (b := 59) (by decide +kernel) (by decide)
theorem dX5_endOrder_12 : decode cX5_endOrder 12 = .ok (.iconst 1, 1) := od_4  (by decide +kernel)
theorem dX5_endOrder_13 : decode cX5_endOrder 13 = .ok (.isub, 1) := od_100  (by decide +kernel)
theorem dX5_endOrder_14 : decode cX5_endOrder 14 = .ok (.putfield 59, 3) := od_181 (a := 0) (b := 59) (by decide +kernel) (by decide)
theorem dX5_endOrder_17 : decode cX5_endOrder 17 = .ok (.aload_n 0, 1) := od_42  (by decide +kernel)
theorem dX5_endOrder_18 : decode cX5_endOrder 18 = .ok (.getfield 18, 3) := od_180 (a := 0) (b := 18) (by decide +kernel) (by decide)
theorem dX5_endOrder_21 : decode cX5_endOrder 21 = .ok (.iconst 1, 1) := od_4  (by decide +kernel)
theorem dX5_endOrder_22 : decode cX5_endOrder 22 = .ok (.aload_n 0, 1) := od_42  (by decide +kernel)
theorem dX5_endOrder_23 : decode cX5_endOrder 23 = .ok (.getfield 18, 3) := od_180 (a := 0) (b := 18) (by decide +kernel) (by decide)
theorem dX5_endOrder_26 : decode cX5_endOrder 26 = .ok (.iconst 0, 1) := od_3  (by decide +kernel)
theorem dX5_endOrder_27 : decode cX5_endOrder 27 = .ok (.aload_n 0, 1) := od_42  (by decide +kernel)
theorem dX5_endOrder_28 : decode cX5_endOrder 28 = .ok (.getfield 59, 3) := od_180 (a := 0) (b := 59) (by decide +kernel) (by decide)
theorem dX5_endOrder_31 : decode cX5_endOrder 31 = .ok (.invokestatic 77, 3) := od_184 (a := 0) (b := 77) (by decide +kernel) (by decide)
theorem dX5_endOrder_34 : decode cX5_endOrder 34 = .ok (.aload_n 0, 1) := od_42  (by decide +kernel)
theorem dX5_endOrder_35 : decode cX5_endOrder 35 = .ok (.getfield 22, 3) := od_180 (a := 0) (b := 22) (by decide +kernel) (by decide)
theorem dX5_endOrder_38 : decode cX5_endOrder 38 = .ok (.iconst 1, 1) := od_4  (by decide +kernel)
theorem dX5_endOrder_39 : decode cX5_endOrder 39 = .ok (.aload_n 0, 1) := od_42  (by decide +kernel)
theorem dX5_endOrder_40 : decode cX5_endOrder 40 = .ok (.getfield 22, 3) := od_180 (a := 0) (b := 22) (by decide +kernel) (by decide)
theorem dX5_endOrder_43 : decode cX5_endOrder 43 = .ok (.iconst 0, 1) := od_3  (by decide +kernel)
theorem dX5_endOrder_44 : decode cX5_endOrder 44 = .ok (.aload_n 0, 1) := od_42  (by decide +kernel)
theorem dX5_endOrder_45 : decode cX5_endOrder 45 = .ok (.getfield 59, 3) := od_180 (a := 0) (b := 59) (by decide +kernel) (by decide)
theorem dX5_endOrder_48 : decode cX5_endOrder 48 = .ok (.invokestatic 77, 3) := od_184 (a := 0) (b := 77) (by decide +kernel) (by decide)
theorem dX5_endOrder_51 : decode cX5_endOrder 51 = .ok (.return_, 1) := od_177  (by decide +kernel)
theorem dX5_tonsLeft_0 : decode cX5_tonsLeft 0 = .ok (.aload_n 0, 1) := od_42  (by decide +kernel)
theorem dX5_tonsLeft_1 : decode cX5_tonsLeft 1 = .ok (.getfield 59, 3) := od_180 (a := 0) (b := 59) (by decide +kernel) (by decide)
theorem dX5_tonsLeft_4 : decode cX5_tonsLeft 4 = .ok (.ifCond .le 27, 3) := od_158 (a := 0) (b := 27) (by decide +kernel) (by decide +kernel)
theorem dX5_tonsLeft_7 : decode cX5_tonsLeft 7 = .ok (.aload_n 0, 1) := od_42  (by decide +kernel)
theorem dX5_tonsLeft_8 : decode cX5_tonsLeft 8 = .ok (.getfield 18, 3) := od_180 (a := 0) (b := 18) (by decide +kernel) (by decide)
theorem dX5_tonsLeft_11 : decode cX5_tonsLeft 11 = .ok (.iconst 0, 1) := od_3  (by decide +kernel)
theorem dX5_tonsLeft_12 : decode cX5_tonsLeft 12 = .ok (.iaload, 1) := od_46  (by decide +kernel)
theorem dX5_tonsLeft_13 : decode cX5_tonsLeft 13 = .ok (.iconst 1, 1) := od_4  (by decide +kernel)
theorem dX5_tonsLeft_14 : decode cX5_tonsLeft 14 = .ok (.if_icmp .eq 13, 3) := od_159 (a := 0) (b := 13) (by decide +kernel) (by decide +kernel)
theorem dX5_tonsLeft_17 : decode cX5_tonsLeft 17 = .ok (.aload_n 0, 1) := od_42  (by decide +kernel)
theorem dX5_tonsLeft_18 : decode cX5_tonsLeft 18 = .ok (.getfield 18, 3) := od_180 (a := 0) (b := 18) (by decide +kernel) (by decide)
theorem dX5_tonsLeft_21 : decode cX5_tonsLeft 21 = .ok (.iconst 0, 1) := od_3  (by decide +kernel)
theorem dX5_tonsLeft_22 : decode cX5_tonsLeft 22 = .ok (.iaload, 1) := od_46  (by decide +kernel)
theorem dX5_tonsLeft_23 : decode cX5_tonsLeft 23 = .ok (.iconst 2, 1) := od_5  (by decide +kernel)
theorem dX5_tonsLeft_24 : decode cX5_tonsLeft 24 = .ok (.if_icmp .ne 7, 3) := od_160 (a := 0) (b := 7) (by decide +kernel) (by decide +kernel)
theorem dX5_tonsLeft_27 : decode cX5_tonsLeft 27 = .ok (.iconst 1, 1) := od_4  (by decide +kernel)
theorem dX5_tonsLeft_28 : decode cX5_tonsLeft 28 = .ok (.goto 4, 3) := od_167 (a := 0) (b := 4) (by decide +kernel) (by decide +kernel)
theorem dX5_tonsLeft_31 : decode cX5_tonsLeft 31 = .ok (.iconst 0, 1) := od_3  (by decide +kernel)
theorem dX5_tonsLeft_32 : decode cX5_tonsLeft 32 = .ok (.istore_n 1, 1) := od_60  (by decide +kernel)
theorem dX5_tonsLeft_33 : decode cX5_tonsLeft 33 = .ok (.iload_n 1, 1) := od_27  (by decide +kernel)
theorem dX5_tonsLeft_34 : decode cX5_tonsLeft 34 = .ok (.ifCond .eq 12, 3) := od_153 (a := 0) (b := 12) (by decide +kernel) (by decide +kernel)
theorem dX5_tonsLeft_37 : decode cX5_tonsLeft 37 = .ok (.aload_n 0, 1) := od_42  (by decide +kernel)
theorem dX5_tonsLeft_38 : decode cX5_tonsLeft 38 = .ok (.getfield 22, 3) := od_180 (a := 0) (b := 22) (by decide +kernel) (by decide)
theorem dX5_tonsLeft_41 : decode cX5_tonsLeft 41 = .ok (.iconst 0, 1) := od_3  (by decide +kernel)
theorem dX5_tonsLeft_42 : decode cX5_tonsLeft 42 = .ok (.iaload, 1) := od_46  (by decide +kernel)
theorem dX5_tonsLeft_43 : decode cX5_tonsLeft 43 = .ok (.goto 4, 3) := od_167 (a := 0) (b := 4) (by decide +kernel) (by decide +kernel)
theorem dX5_tonsLeft_46 : decode cX5_tonsLeft 46 = .ok (.iconst 0, 1) := od_3  (by decide +kernel)
theorem dX5_tonsLeft_47 : decode cX5_tonsLeft 47 = .ok (.ireturn, 1) := od_172  (by decide +kernel)
theorem gX5_burnFuel_X7_burn : GoodIn WALL (wsV RX5 83 RX7 yX7_burn wqX7_burn) := wg_V wa_447 wa_448 wa_449 wa_95 wa_450
theorem dX5_burnFuel_0 : decode cX5_burnFuel 0 = .ok (.aload_n 0, 1) := od_42  (by decide +kernel)
theorem dX5_burnFuel_1 : decode cX5_burnFuel 1 = .ok (.getfield 12, 3) := od_180 (a := 0) (b := 12) (by decide +kernel) (by decide)
theorem dX5_burnFuel_4 : decode cX5_burnFuel 4 = .ok (.iload_n 1, 1) := od_27  (by decide +kernel)
theorem dX5_burnFuel_5 : decode cX5_burnFuel 5 = .ok (.invokevirtual 83, 3) := od_182 (a := 0) (b := 83) (by decide +kernel) (by decide)
theorem dX5_burnFuel_8 : decode cX5_burnFuel 8 = .ok (.istore_n 2, 1) := od_61  (by decide +kernel)
theorem dX5_burnFuel_9 : decode cX5_burnFuel 9 = .ok (.aload_n 0, 1) := od_42  (by decide +kernel)
theorem dX5_burnFuel_10 : decode cX5_burnFuel 10 = .ok (.iload_n 2, 1) := od_28  (by decide +kernel)
theorem dX5_burnFuel_11 : decode cX5_burnFuel 11 = .ok (.iload_n 1, 1) := od_27  (by decide +kernel)
theorem dX5_burnFuel_12 : decode cX5_burnFuel 12 = .ok (.if_icmp .ge 7, 3) := od_162 (a := 0) (b := 7) (by decide +kernel) (by decide +kernel)
theorem dX5_burnFuel_15 : decode cX5_burnFuel 15 = .ok (.iconst 1, 1) := od_4  (by decide +kernel)
theorem dX5_burnFuel_16 : decode cX5_burnFuel 16 = .ok (.goto 4, 3) := od_167 (a := 0) (b := 4) (by decide +kernel) (by decide +kernel)
theorem dX5_burnFuel_19 : decode cX5_burnFuel 19 = .ok (.iconst 0, 1) := od_3  (by decide +kernel)
theorem dX5_burnFuel_20 : decode cX5_burnFuel 20 = .ok (.putfield 55, 3) := od_181 (a := 0) (b := 55) (by decide +kernel) (by decide)
theorem dX5_burnFuel_23 : decode cX5_burnFuel 23 = .ok (.aload_n 0, 1) := od_42  (by decide +kernel)
theorem dX5_burnFuel_24 : decode cX5_burnFuel 24 = .ok (.getfield 25, 3) := od_180 (a := 0) (b := 25) (by decide +kernel) (by decide)
theorem dX5_burnFuel_27 : decode cX5_burnFuel 27 = .ok (.iconst 1, 1) := od_4  (by decide +kernel)
theorem dX5_burnFuel_28 : decode cX5_burnFuel 28 = .ok (.dup2, 1) := od_92  (by decide +kernel)
theorem dX5_burnFuel_29 : decode cX5_burnFuel 29 = .ok (.laload, 1) := od_47  (by decide +kernel)
theorem dX5_burnFuel_30 : decode cX5_burnFuel 30 = .ok (.iload_n 2, 1) := od_28  (by decide +kernel)
theorem dX5_burnFuel_31 : decode cX5_burnFuel 31 = .ok (.i2l, 1) := od_133  (by decide +kernel)
theorem dX5_burnFuel_32 : decode cX5_burnFuel 32 = .ok (.ladd, 1) := od_97  (by decide +kernel)
theorem dX5_burnFuel_33 : decode cX5_burnFuel 33 = .ok (.lastore, 1) := od_80  (by decide +kernel)
theorem dX5_burnFuel_34 : decode cX5_burnFuel 34 = .ok (.return_, 1) := od_177  (by decide +kernel)
theorem gX5_putAshore_X7_takeGas : GoodIn WALL (wsV RX5 87 RX7 yX7_takeGas wqX7_takeGas) := wg_V wa_507 wa_421 wa_422 wa_95 wa_423
theorem dX5_putAshore_0 : decode cX5_putAshore 0 = .ok (.aload_n 0, 1) := od_42  (by decide +kernel)
theorem dX5_putAshore_1 : decode cX5_putAshore 1 = .ok (.getfield 12, 3) := od_180 (a := 0) (b := 12) (by decide +kernel) (by decide)
theorem dX5_putAshore_4 : decode cX5_putAshore 4 = .ok (.iload_n 1, 1) := od_27  (by decide +kernel)
theorem dX5_putAshore_5 : decode cX5_putAshore 5 = .ok (.invokevirtual 87, 3) := od_182 (a := 0) (b := 87) (by decide +kernel) (by decide)
theorem dX5_putAshore_8 : decode cX5_putAshore 8 = .ok (.iconst 0, 1) := od_3  (by decide +kernel)
theorem dX5_putAshore_9 : decode cX5_putAshore 9 = .ok (.istore_n 3, 1) := od_62  (by decide +kernel)
theorem dX5_putAshore_10 : decode cX5_putAshore 10 = .ok (.iload_n 3, 1) := od_29  (by decide +kernel)
theorem dX5_putAshore_11 : decode cX5_putAshore 11 = .ok (.bipush 6, 2) := od_16 (a := 6) (by decide +kernel) (by decide +kernel)
theorem dX5_putAshore_13 : decode cX5_putAshore 13 = .ok (.if_icmp .ge 27, 3) := od_162 (a := 0) (b := 27) (by decide +kernel) (by decide +kernel)
theorem dX5_putAshore_16 : decode cX5_putAshore 16 = .ok (.aload_n 0, 1) := od_42  (by decide +kernel)
theorem dX5_putAshore_17 : decode cX5_putAshore 17 = .ok (.getfield 29, 3) := od_180 (a := 0) (b := 29) (by decide +kernel) (by decide)
theorem dX5_putAshore_20 : decode cX5_putAshore 20 = .ok (.iload_n 3, 1) := od_29  (by decide +kernel)
theorem dX5_putAshore_21 : decode cX5_putAshore 21 = .ok (.dup2, 1) := od_92  (by decide +kernel)
theorem dX5_putAshore_22 : decode cX5_putAshore 22 = .ok (.iaload, 1) := od_46  (by decide +kernel)
theorem dX5_putAshore_23 : decode cX5_putAshore 23 = .ok (.aload_n 0, 1) := od_42  (by decide +kernel)
theorem dX5_putAshore_24 : decode cX5_putAshore 24 = .ok (.getfield 12, 3) := od_180 (a := 0) (b := 12) (by decide +kernel) (by decide)
theorem dX5_putAshore_27 : decode cX5_putAshore 27 = .ok (.getfield 90, 3) := od_180 (a := 0) (b := 90) (by decide +kernel) (by decide)
theorem dX5_putAshore_30 : decode cX5_putAshore 30 = .ok (.iload_n 3, 1) := od_29  (by decide +kernel)
theorem dX5_putAshore_31 : decode cX5_putAshore 31 = .ok (.iaload, 1) := od_46  (by decide +kernel)
theorem dX5_putAshore_32 : decode cX5_putAshore 32 = .ok (.iadd, 1) := od_96  (by decide +kernel)
theorem dX5_putAshore_33 : decode cX5_putAshore 33 = .ok (.iastore, 1) := od_79  (by decide +kernel)
theorem dX5_putAshore_34 : decode cX5_putAshore 34 = .ok (.iinc 3 1, 3) := od_132 (a := 3) (b := 1) (by decide +kernel) (by decide +kernel)
theorem dX5_putAshore_37 : decode cX5_putAshore 37 = .ok (.goto (-27), 3) := od_167 (a := 255) (b := 229) (by decide +kernel) (by decide +kernel)
theorem dX5_putAshore_40 : decode cX5_putAshore 40 = .ok (.aload_n 0, 1) := od_42  (by decide +kernel)
theorem dX5_putAshore_41 : decode cX5_putAshore 41 = .ok (.getfield 93, 3) := od_180 (a := 0) (b := 93) (by decide +kernel) (by decide)
theorem dX5_putAshore_44 : decode cX5_putAshore 44 = .ok (.ifCond .ne 8, 3) := od_154 (a := 0) (b := 8) (by decide +kernel) (by decide +kernel)
theorem dX5_putAshore_47 : decode cX5_putAshore 47 = .ok (.aload_n 0, 1) := od_42  (by decide +kernel)
theorem dX5_putAshore_48 : decode cX5_putAshore 48 = .ok (.iload_n 2, 1) := od_28  (by decide +kernel)
theorem dX5_putAshore_49 : decode cX5_putAshore 49 = .ok (.putfield 96, 3) := od_181 (a := 0) (b := 96) (by decide +kernel) (by decide)
theorem dX5_putAshore_52 : decode cX5_putAshore 52 = .ok (.aload_n 0, 1) := od_42  (by decide +kernel)
theorem dX5_putAshore_53 : decode cX5_putAshore 53 = .ok (.iload_n 2, 1) := od_28  (by decide +kernel)
theorem dX5_putAshore_54 : decode cX5_putAshore 54 = .ok (.putfield 99, 3) := od_181 (a := 0) (b := 99) (by decide +kernel) (by decide)
theorem dX5_putAshore_57 : decode cX5_putAshore 57 = .ok (.aload_n 0, 1) := od_42  (by decide +kernel)
theorem dX5_putAshore_58 : decode cX5_putAshore 58 = .ok (.dup, 1) := od_89  (by decide +kernel)
theorem dX5_putAshore_59 : decode cX5_putAshore 59 = .ok (.getfield 93, 3) := od_180 (a := 0) (b := 93) (by decide +kernel) (by decide)
theorem dX5_putAshore_62 : decode cX5_putAshore 62 = .ok (.iload_n 1, 1) := od_27  (by decide +kernel)
theorem dX5_putAshore_63 : decode cX5_putAshore 63 = .ok (.iadd, 1) := od_96  (by decide +kernel)
theorem dX5_putAshore_64 : decode cX5_putAshore 64 = .ok (.putfield 93, 3) := od_181 (a := 0) (b := 93) (by decide +kernel) (by decide)
theorem dX5_putAshore_67 : decode cX5_putAshore 67 = .ok (.aload_n 0, 1) := od_42  (by decide +kernel)
theorem dX5_putAshore_68 : decode cX5_putAshore 68 = .ok (.getfield 25, 3) := od_180 (a := 0) (b := 25) (by decide +kernel) (by decide)
theorem dX5_putAshore_71 : decode cX5_putAshore 71 = .ok (.iconst 3, 1) := od_6  (by decide +kernel)
theorem dX5_putAshore_72 : decode cX5_putAshore 72 = .ok (.dup2, 1) := od_92  (by decide +kernel)
theorem dX5_putAshore_73 : decode cX5_putAshore 73 = .ok (.laload, 1) := od_47  (by decide +kernel)
theorem dX5_putAshore_74 : decode cX5_putAshore 74 = .ok (.iload_n 1, 1) := od_27  (by decide +kernel)
theorem dX5_putAshore_75 : decode cX5_putAshore 75 = .ok (.i2l, 1) := od_133  (by decide +kernel)
theorem dX5_putAshore_76 : decode cX5_putAshore 76 = .ok (.ladd, 1) := od_97  (by decide +kernel)
theorem dX5_putAshore_77 : decode cX5_putAshore 77 = .ok (.lastore, 1) := od_80  (by decide +kernel)
theorem dX5_putAshore_78 : decode cX5_putAshore 78 = .ok (.return_, 1) := od_177  (by decide +kernel)
theorem gX5_forgetLanding_J7_fill_53178 : GoodIn WALL (va_wsS RX5 71 yJ7_fill_53178 wqJ7_fill_53178) := wg_S wa_261 wa_198 wa_199 wa_200
theorem dX5_forgetLanding_0 : decode cX5_forgetLanding 0 = .ok (.aload_n 0, 1) := od_42  (by decide +kernel)
theorem dX5_forgetLanding_1 : decode cX5_forgetLanding 1 = .ok (.iconst 0, 1) := od_3  (by decide +kernel)
theorem dX5_forgetLanding_2 : decode cX5_forgetLanding 2 = .ok (.putfield 93, 3) := od_181 (a := 0) (b := 93) (by decide +kernel) (by decide)
theorem dX5_forgetLanding_5 : decode cX5_forgetLanding 5 = .ok (.aload_n 0, 1) := od_42  (by decide +kernel)
theorem dX5_forgetLanding_6 : decode cX5_forgetLanding 6 = .ok (.getfield 29, 3) := od_180 (a := 0) (b := 29) (by decide +kernel) (by decide)
theorem dX5_forgetLanding_9 : decode cX5_forgetLanding 9 = .ok (.iconst 0, 1) := od_3  (by decide +kernel)
theorem dX5_forgetLanding_10 : decode cX5_forgetLanding 10 = .ok (.invokestatic 71, 3) := od_184 (a := 0) (b := 71) (by decide +kernel) (by decide)
theorem dX5_forgetLanding_13 : decode cX5_forgetLanding 13 = .ok (.return_, 1) := od_177  (by decide +kernel)
theorem dX5_gaugeCounts_0 : decode cX5_gaugeCounts 0 = .ok (.iconst 0, 1) := od_3  (by decide +kernel)
theorem dX5_gaugeCounts_1 : decode cX5_gaugeCounts 1 = .ok (.istore_n 1, 1) := od_60  (by decide +kernel)
theorem dX5_gaugeCounts_2 : decode cX5_gaugeCounts 2 = .ok (.iload_n 1, 1) := od_27  (by decide +kernel)
theorem dX5_gaugeCounts_3 : decode cX5_gaugeCounts 3 = .ok (.iconst 4, 1) := od_7  (by decide +kernel)
theorem dX5_gaugeCounts_4 : decode cX5_gaugeCounts 4 = .ok (.if_icmp .ge 61, 3) := od_162 (a := 0) (b := 61) (by decide +kernel) (by decide +kernel)
theorem dX5_gaugeCounts_7 : decode cX5_gaugeCounts 7 = .ok (.aload_n 0, 1) := od_42  (by decide +kernel)
theorem dX5_gaugeCounts_8 : decode cX5_gaugeCounts 8 = .ok (.getfield 32, 3) := od_180 (a := 0) (b := 32) (by decide +kernel) (by decide)
theorem dX5_gaugeCounts_11 : decode cX5_gaugeCounts 11 = .ok (.iload_n 1, 1) := od_27  (by decide +kernel)
theorem dX5_gaugeCounts_12 : decode cX5_gaugeCounts 12 = .ok (.iaload, 1) := od_46  (by decide +kernel)
theorem dX5_gaugeCounts_13 : decode cX5_gaugeCounts 13 = .ok (.iconst (-1), 1) := od_2  (by decide +kernel)
theorem dX5_gaugeCounts_14 : decode cX5_gaugeCounts 14 = .ok (.if_icmp .ne 5, 3) := od_160 (a := 0) (b := 5) (by decide +kernel) (by decide +kernel)
theorem dX5_gaugeCounts_17 : decode cX5_gaugeCounts 17 = .ok (.iconst 0, 1) := od_3  (by decide +kernel)
theorem dX5_gaugeCounts_18 : decode cX5_gaugeCounts 18 = .ok (.ireturn, 1) := od_172  (by decide +kernel)
theorem dX5_gaugeCounts_19 : decode cX5_gaugeCounts 19 = .ok (.iload_n 1, 1) := od_27  (by decide +kernel)
theorem dX5_gaugeCounts_20 : decode cX5_gaugeCounts 20 = .ok (.ifCond .le 39, 3) := od_158 (a := 0) (b := 39) (by decide +kernel) (by decide +kernel)
theorem dX5_gaugeCounts_23 : decode cX5_gaugeCounts 23 = .ok (.aload_n 0, 1) := od_42  (by decide +kernel)
theorem dX5_gaugeCounts_24 : decode cX5_gaugeCounts 24 = .ok (.getfield 32, 3) := od_180 (a := 0) (b := 32) (by decide +kernel) (by decide)
theorem dX5_gaugeCounts_27 : decode cX5_gaugeCounts 27 = .ok (.iload_n 1, 1) := od_27  (by decide +kernel)
theorem dX5_gaugeCounts_28 : decode cX5_gaugeCounts 28 = .ok (.iaload, 1) := od_46  (by decide +kernel)
theorem dX5_gaugeCounts_29 : decode cX5_gaugeCounts 29 = .ok (.aload_n 0, 1) := od_42  (by decide +kernel)
theorem dX5_gaugeCounts_30 : decode cX5_gaugeCounts 30 = .ok (.getfield 32, 3) := od_180 (a := 0) (b := 32) (by decide +kernel) (by decide)
theorem dX5_gaugeCounts_33 : decode cX5_gaugeCounts 33 = .ok (.iload_n 1, 1) := od_27  (by decide +kernel)
theorem dX5_gaugeCounts_34 : decode cX5_gaugeCounts 34 = .ok (.iconst 1, 1) := od_4  (by decide +kernel)
theorem dX5_gaugeCounts_35 : decode cX5_gaugeCounts 35 = .ok (.isub, 1) := od_100  (by decide +kernel)
theorem dX5_gaugeCounts_36 : decode cX5_gaugeCounts 36 = .ok (.iaload, 1) := od_46  (by decide +kernel)
theorem dX5_gaugeCounts_37 : decode cX5_gaugeCounts 37 = .ok (.if_icmp .le 20, 3) := od_164 (a := 0) (b := 20) (by decide +kernel) (by decide +kernel)
theorem dX5_gaugeCounts_40 : decode cX5_gaugeCounts 40 = .ok (.aload_n 0, 1) := od_42  (by decide +kernel)
theorem dX5_gaugeCounts_41 : decode cX5_gaugeCounts 41 = .ok (.getfield 35, 3) := od_180 (a := 0) (b := 35) (by decide +kernel) (by decide)
theorem dX5_gaugeCounts_44 : decode cX5_gaugeCounts 44 = .ok (.iload_n 1, 1) := od_27  (by decide +kernel)
theorem dX5_gaugeCounts_45 : decode cX5_gaugeCounts 45 = .ok (.iaload, 1) := od_46  (by decide +kernel)
theorem dX5_gaugeCounts_46 : decode cX5_gaugeCounts 46 = .ok (.aload_n 0, 1) := od_42  (by decide +kernel)
theorem dX5_gaugeCounts_47 : decode cX5_gaugeCounts 47 = .ok (.getfield 35, 3) := od_180 (a := 0) (b := 35) (by decide +kernel) (by decide)
theorem dX5_gaugeCounts_50 : decode cX5_gaugeCounts 50 = .ok (.iload_n 1, 1) := od_27  (by decide +kernel)
theorem dX5_gaugeCounts_51 : decode cX5_gaugeCounts 51 = .ok (.iconst 1, 1) := od_4  (by decide +kernel)
theorem dX5_gaugeCounts_52 : decode cX5_gaugeCounts 52 = .ok (.isub, 1) := od_100  (by decide +kernel)
theorem dX5_gaugeCounts_53 : decode cX5_gaugeCounts 53 = .ok (.iaload, 1) := od_46  (by decide +kernel)
theorem dX5_gaugeCounts_54 : decode cX5_gaugeCounts 54 = .ok (.if_icmp .ge 5, 3) := od_162 (a := 0) (b := 5) (by decide +kernel) (by decide +kernel)
theorem dX5_gaugeCounts_57 : decode cX5_gaugeCounts 57 = .ok (.iconst 0, 1) := od_3  (by decide +kernel)
theorem dX5_gaugeCounts_58 : decode cX5_gaugeCounts 58 = .ok (.ireturn, 1) := od_172  (by decide +kernel)
theorem dX5_gaugeCounts_59 : decode cX5_gaugeCounts 59 = .ok (.iinc 1 1, 3) := od_132 (a := 1) (b := 1) (by decide +kernel) (by decide +kernel)
theorem dX5_gaugeCounts_62 : decode cX5_gaugeCounts 62 = .ok (.goto (-60), 3) := od_167 (a := 255) (b := 196) (by decide +kernel) (by decide +kernel)
theorem dX5_gaugeCounts_65 : decode cX5_gaugeCounts 65 = .ok (.iconst 1, 1) := od_4  (by decide +kernel)
theorem dX5_gaugeCounts_66 : decode cX5_gaugeCounts 66 = .ok (.ireturn, 1) := od_172  (by decide +kernel)
theorem dX5_tonsAt_0 : decode cX5_tonsAt 0 = .ok (.iload_n 1, 1) := od_27  (by decide +kernel)
theorem dX5_tonsAt_1 : decode cX5_tonsAt 1 = .ok (.aload_n 0, 1) := od_42  (by decide +kernel)
theorem dX5_tonsAt_2 : decode cX5_tonsAt 2 = .ok (.getfield 32, 3) := od_180 (a := 0) (b := 32) (by decide +kernel) (by decide)
theorem dX5_tonsAt_5 : decode cX5_tonsAt 5 = .ok (.iconst 0, 1) := od_3  (by decide +kernel)
theorem dX5_tonsAt_6 : decode cX5_tonsAt 6 = .ok (.iaload, 1) := od_46  (by decide +kernel)
theorem dX5_tonsAt_7 : decode cX5_tonsAt 7 = .ok (.if_icmp .gt 11, 3) := od_163 (a := 0) (b := 11) (by decide +kernel) (by decide +kernel)
theorem dX5_tonsAt_10 : decode cX5_tonsAt 10 = .ok (.aload_n 0, 1) := od_42  (by decide +kernel)
theorem dX5_tonsAt_11 : decode cX5_tonsAt 11 = .ok (.getfield 35, 3) := od_180 (a := 0) (b := 35) (by decide +kernel) (by decide)
theorem dX5_tonsAt_14 : decode cX5_tonsAt 14 = .ok (.iconst 0, 1) := od_3  (by decide +kernel)
theorem dX5_tonsAt_15 : decode cX5_tonsAt 15 = .ok (.iaload, 1) := od_46  (by decide +kernel)
theorem dX5_tonsAt_16 : decode cX5_tonsAt 16 = .ok (.i2l, 1) := od_133  (by decide +kernel)
theorem dX5_tonsAt_17 : decode cX5_tonsAt 17 = .ok (.lreturn, 1) := od_173  (by decide +kernel)
theorem dX5_tonsAt_18 : decode cX5_tonsAt 18 = .ok (.iconst 1, 1) := od_4  (by decide +kernel)
theorem dX5_tonsAt_19 : decode cX5_tonsAt 19 = .ok (.istore_n 2, 1) := od_61  (by decide +kernel)
theorem dX5_tonsAt_20 : decode cX5_tonsAt 20 = .ok (.iload_n 2, 1) := od_28  (by decide +kernel)
theorem dX5_tonsAt_21 : decode cX5_tonsAt 21 = .ok (.iconst 4, 1) := od_7  (by decide +kernel)
theorem dX5_tonsAt_22 : decode cX5_tonsAt 22 = .ok (.if_icmp .ge 85, 3) := od_162 (a := 0) (b := 85) (by decide +kernel) (by decide +kernel)
theorem dX5_tonsAt_25 : decode cX5_tonsAt 25 = .ok (.aload_n 0, 1) := od_42  (by decide +kernel)
theorem dX5_tonsAt_26 : decode cX5_tonsAt 26 = .ok (.getfield 32, 3) := od_180 (a := 0) (b := 32) (by decide +kernel) (by decide)
theorem dX5_tonsAt_29 : decode cX5_tonsAt 29 = .ok (.iload_n 2, 1) := od_28  (by decide +kernel)
theorem dX5_tonsAt_30 : decode cX5_tonsAt 30 = .ok (.iaload, 1) := od_46  (by decide +kernel)
theorem dX5_tonsAt_31 : decode cX5_tonsAt 31 = .ok (.aload_n 0, 1) := od_42  (by decide +kernel)
theorem dX5_tonsAt_32 : decode cX5_tonsAt 32 = .ok (.getfield 32, 3) := od_180 (a := 0) (b := 32) (by decide +kernel) (by decide)
theorem dX5_tonsAt_35 : decode cX5_tonsAt 35 = .ok (.iload_n 2, 1) := od_28  (by decide +kernel)
theorem dX5_tonsAt_36 : decode cX5_tonsAt 36 = .ok (.iconst 1, 1) := od_4  (by decide +kernel)
theorem dX5_tonsAt_37 : decode cX5_tonsAt 37 = .ok (.isub, 1) := od_100  (by decide +kernel)
theorem dX5_tonsAt_38 : decode cX5_tonsAt 38 = .ok (.iaload, 1) := od_46  (by decide +kernel)
theorem dX5_tonsAt_39 : decode cX5_tonsAt 39 = .ok (.isub, 1) := od_100  (by decide +kernel)
theorem dX5_tonsAt_40 : decode cX5_tonsAt 40 = .ok (.istore_n 3, 1) := od_62  (by decide +kernel)
theorem dX5_tonsAt_41 : decode cX5_tonsAt 41 = .ok (.iload_n 1, 1) := od_27  (by decide +kernel)
theorem dX5_tonsAt_42 : decode cX5_tonsAt 42 = .ok (.aload_n 0, 1) := od_42  (by decide +kernel)
theorem dX5_tonsAt_43 : decode cX5_tonsAt 43 = .ok (.getfield 32, 3) := od_180 (a := 0) (b := 32) (by decide +kernel) (by decide)
theorem dX5_tonsAt_46 : decode cX5_tonsAt 46 = .ok (.iload_n 2, 1) := od_28  (by decide +kernel)
theorem dX5_tonsAt_47 : decode cX5_tonsAt 47 = .ok (.iaload, 1) := od_46  (by decide +kernel)
theorem dX5_tonsAt_48 : decode cX5_tonsAt 48 = .ok (.if_icmp .ge 53, 3) := od_162 (a := 0) (b := 53) (by decide +kernel) (by decide +kernel)
theorem dX5_tonsAt_51 : decode cX5_tonsAt 51 = .ok (.iload_n 3, 1) := od_29  (by decide +kernel)
theorem dX5_tonsAt_52 : decode cX5_tonsAt 52 = .ok (.ifCond .le 49, 3) := od_158 (a := 0) (b := 49) (by decide +kernel) (by decide +kernel)
theorem dX5_tonsAt_55 : decode cX5_tonsAt 55 = .ok (.aload_n 0, 1) := od_42  (by decide +kernel)
theorem dX5_tonsAt_56 : decode cX5_tonsAt 56 = .ok (.getfield 35, 3) := od_180 (a := 0) (b := 35) (by decide +kernel) (by decide)
theorem dX5_tonsAt_59 : decode cX5_tonsAt 59 = .ok (.iload_n 2, 1) := od_28  (by decide +kernel)
theorem dX5_tonsAt_60 : decode cX5_tonsAt 60 = .ok (.iaload, 1) := od_46  (by decide +kernel)
theorem dX5_tonsAt_61 : decode cX5_tonsAt 61 = .ok (.aload_n 0, 1) := od_42  (by decide +kernel)
theorem dX5_tonsAt_62 : decode cX5_tonsAt 62 = .ok (.getfield 35, 3) := od_180 (a := 0) (b := 35) (by decide +kernel) (by decide)
theorem dX5_tonsAt_65 : decode cX5_tonsAt 65 = .ok (.iload_n 2, 1) := od_28  (by decide +kernel)
theorem dX5_tonsAt_66 : decode cX5_tonsAt 66 = .ok (.iconst 1, 1) := od_4  (by decide +kernel)
theorem dX5_tonsAt_67 : decode cX5_tonsAt 67 = .ok (.isub, 1) := od_100  (by decide +kernel)
theorem dX5_tonsAt_68 : decode cX5_tonsAt 68 = .ok (.iaload, 1) := od_46  (by decide +kernel)
theorem dX5_tonsAt_69 : decode cX5_tonsAt 69 = .ok (.isub, 1) := od_100  (by decide +kernel)
theorem dX5_tonsAt_70 : decode cX5_tonsAt 70 = .ok (.i2l, 1) := od_133  (by decide +kernel)
theorem dX5_tonsAt_71 : decode cX5_tonsAt 71 = .ok (.lstore 4, 2) := od_55 (n := 4) (by decide +kernel)
theorem dX5_tonsAt_73 : decode cX5_tonsAt 73 = .ok (.aload_n 0, 1) := od_42  (by decide +kernel)
theorem dX5_tonsAt_74 : decode cX5_tonsAt 74 = .ok (.getfield 35, 3) := od_180 (a := 0) (b := 35) (by decide +kernel) (by decide)
theorem dX5_tonsAt_77 : decode cX5_tonsAt 77 = .ok (.iload_n 2, 1) := od_28  (by decide +kernel)
theorem dX5_tonsAt_78 : decode cX5_tonsAt 78 = .ok (.iconst 1, 1) := od_4  (by decide +kernel)
theorem dX5_tonsAt_79 : decode cX5_tonsAt 79 = .ok (.isub, 1) := od_100  (by decide +kernel)
theorem dX5_tonsAt_80 : decode cX5_tonsAt 80 = .ok (.iaload, 1) := od_46  (by decide +kernel)
theorem dX5_tonsAt_81 : decode cX5_tonsAt 81 = .ok (.i2l, 1) := od_133  (by decide +kernel)
theorem dX5_tonsAt_82 : decode cX5_tonsAt 82 = .ok (.lload 4, 2) := od_22 (n := 4) (by decide +kernel)
theorem dX5_tonsAt_84 : decode cX5_tonsAt 84 = .ok (.iload_n 1, 1) := od_27  (by decide +kernel)
theorem dX5_tonsAt_85 : decode cX5_tonsAt 85 = .ok (.aload_n 0, 1) := od_42  (by decide +kernel)
theorem dX5_tonsAt_86 : decode cX5_tonsAt 86 = .ok (.getfield 32, 3) := od_180 (a := 0) (b := 32) (by decide +kernel) (by decide)
theorem dX5_tonsAt_89 : decode cX5_tonsAt 89 = .ok (.iload_n 2, 1) := od_28  (by decide +kernel)
theorem dX5_tonsAt_90 : decode cX5_tonsAt 90 = .ok (.iconst 1, 1) := od_4  (by decide +kernel)
theorem dX5_tonsAt_91 : decode cX5_tonsAt 91 = .ok (.isub, 1) := od_100  (by decide +kernel)
theorem dX5_tonsAt_92 : decode cX5_tonsAt 92 = .ok (.iaload, 1) := od_46  (by decide +kernel)
theorem dX5_tonsAt_93 : decode cX5_tonsAt 93 = .ok (.isub, 1) := od_100  (by decide +kernel)
theorem dX5_tonsAt_94 : decode cX5_tonsAt 94 = .ok (.i2l, 1) := od_133  (by decide +kernel)
theorem dX5_tonsAt_95 : decode cX5_tonsAt 95 = .ok (.lmul, 1) := od_105  (by decide +kernel)
theorem dX5_tonsAt_96 : decode cX5_tonsAt 96 = .ok (.iload_n 3, 1) := od_29  (by decide +kernel)
theorem dX5_tonsAt_97 : decode cX5_tonsAt 97 = .ok (.i2l, 1) := od_133  (by decide +kernel)
theorem dX5_tonsAt_98 : decode cX5_tonsAt 98 = .ok (.ldiv, 1) := od_109  (by decide +kernel)
theorem dX5_tonsAt_99 : decode cX5_tonsAt 99 = .ok (.ladd, 1) := od_97  (by decide +kernel)
theorem dX5_tonsAt_100 : decode cX5_tonsAt 100 = .ok (.lreturn, 1) := od_173  (by decide +kernel)
theorem dX5_tonsAt_101 : decode cX5_tonsAt 101 = .ok (.iinc 2 1, 3) := od_132 (a := 2) (b := 1) (by decide +kernel) (by decide +kernel)
theorem dX5_tonsAt_104 : decode cX5_tonsAt 104 = .ok (.goto (-84), 3) := od_167 (a := 255) (b := 172) (by decide +kernel) (by decide +kernel)
theorem dX5_tonsAt_107 : decode cX5_tonsAt 107 = .ok (.aload_n 0, 1) := od_42  (by decide +kernel)
theorem dX5_tonsAt_108 : decode cX5_tonsAt 108 = .ok (.getfield 35, 3) := od_180 (a := 0) (b := 35) (by decide +kernel) (by decide)
theorem dX5_tonsAt_111 : decode cX5_tonsAt 111 = .ok (.iconst 3, 1) := od_6  (by decide +kernel)
theorem dX5_tonsAt_112 : decode cX5_tonsAt 112 = .ok (.iaload, 1) := od_46  (by decide +kernel)
theorem dX5_tonsAt_113 : decode cX5_tonsAt 113 = .ok (.i2l, 1) := od_133  (by decide +kernel)
theorem dX5_tonsAt_114 : decode cX5_tonsAt 114 = .ok (.lreturn, 1) := od_173  (by decide +kernel)
theorem gX5_copyFrom_X7_copyFrom : GoodIn WALL (wsV RX5 102 RX7 yX7_copyFrom wqX7_copyFrom) := wg_V wa_1507 wa_1508 wa_1509 wa_95 wa_1510
theorem dX5_copyFrom_0 : decode cX5_copyFrom 0 = .ok (.aload_n 0, 1) := od_42  (by decide +kernel)
theorem dX5_copyFrom_1 : decode cX5_copyFrom 1 = .ok (.getfield 12, 3) := od_180 (a := 0) (b := 12) (by decide +kernel) (by decide)
theorem dX5_copyFrom_4 : decode cX5_copyFrom 4 = .ok (.aload_n 1, 1) := od_43  (by decide +kernel)
theorem dX5_copyFrom_5 : decode cX5_copyFrom 5 = .ok (.getfield 12, 3) := od_180 (a := 0) (b := 12) (by decide +kernel) (by decide)
theorem dX5_copyFrom_8 : decode cX5_copyFrom 8 = .ok (.invokevirtual 102, 3) := od_182 (a := 0) (b := 102) (by decide +kernel) (by decide)
theorem dX5_copyFrom_11 : decode cX5_copyFrom 11 = .ok (.aload_n 0, 1) := od_42  (by decide +kernel)
theorem dX5_copyFrom_12 : decode cX5_copyFrom 12 = .ok (.aload_n 1, 1) := od_43  (by decide +kernel)
theorem dX5_copyFrom_13 : decode cX5_copyFrom 13 = .ok (.getfield 42, 3) := od_180 (a := 0) (b := 42) (by decide +kernel) (by decide)
theorem dX5_copyFrom_16 : decode cX5_copyFrom 16 = .ok (.putfield 42, 3) := od_181 (a := 0) (b := 42) (by decide +kernel) (by decide)
theorem dX5_copyFrom_19 : decode cX5_copyFrom 19 = .ok (.aload_n 0, 1) := od_42  (by decide +kernel)
theorem dX5_copyFrom_20 : decode cX5_copyFrom 20 = .ok (.aload_n 1, 1) := od_43  (by decide +kernel)
theorem dX5_copyFrom_21 : decode cX5_copyFrom 21 = .ok (.getfield 46, 3) := od_180 (a := 0) (b := 46) (by decide +kernel) (by decide)
theorem dX5_copyFrom_24 : decode cX5_copyFrom 24 = .ok (.putfield 46, 3) := od_181 (a := 0) (b := 46) (by decide +kernel) (by decide)
theorem dX5_copyFrom_27 : decode cX5_copyFrom 27 = .ok (.aload_n 0, 1) := od_42  (by decide +kernel)
theorem dX5_copyFrom_28 : decode cX5_copyFrom 28 = .ok (.aload_n 1, 1) := od_43  (by decide +kernel)
theorem dX5_copyFrom_29 : decode cX5_copyFrom 29 = .ok (.getfield 49, 3) := od_180 (a := 0) (b := 49) (by decide +kernel) (by decide)
theorem dX5_copyFrom_32 : decode cX5_copyFrom 32 = .ok (.putfield 49, 3) := od_181 (a := 0) (b := 49) (by decide +kernel) (by decide)
theorem dX5_copyFrom_35 : decode cX5_copyFrom 35 = .ok (.aload_n 0, 1) := od_42  (by decide +kernel)
theorem dX5_copyFrom_36 : decode cX5_copyFrom 36 = .ok (.aload_n 1, 1) := od_43  (by decide +kernel)
theorem dX5_copyFrom_37 : decode cX5_copyFrom 37 = .ok (.getfield 52, 3) := od_180 (a := 0) (b := 52) (by decide +kernel) (by decide)
theorem dX5_copyFrom_40 : decode cX5_copyFrom 40 = .ok (.putfield 52, 3) := od_181 (a := 0) (b := 52) (by decide +kernel) (by decide)
theorem dX5_copyFrom_43 : decode cX5_copyFrom 43 = .ok (.aload_n 0, 1) := od_42  (by decide +kernel)
theorem dX5_copyFrom_44 : decode cX5_copyFrom 44 = .ok (.aload_n 1, 1) := od_43  (by decide +kernel)
theorem dX5_copyFrom_45 : decode cX5_copyFrom 45 = .ok (.getfield 55, 3) := od_180 (a := 0) (b := 55) (by decide +kernel) (by decide)
theorem dX5_copyFrom_48 : decode cX5_copyFrom 48 = .ok (.putfield 55, 3) := od_181 (a := 0) (b := 55) (by decide +kernel) (by decide)
theorem dX5_copyFrom_51 : decode cX5_copyFrom 51 = .ok (.aload_n 0, 1) := od_42  (by decide +kernel)
theorem dX5_copyFrom_52 : decode cX5_copyFrom 52 = .ok (.aload_n 1, 1) := od_43  (by decide +kernel)
theorem dX5_copyFrom_53 : decode cX5_copyFrom 53 = .ok (.getfield 59, 3) := od_180 (a := 0) (b := 59) (by decide +kernel) (by decide)
theorem dX5_copyFrom_56 : decode cX5_copyFrom 56 = .ok (.putfield 59, 3) := od_181 (a := 0) (b := 59) (by decide +kernel) (by decide)
theorem dX5_copyFrom_59 : decode cX5_copyFrom 59 = .ok (.aload_n 0, 1) := od_42  (by decide +kernel)
theorem dX5_copyFrom_60 : decode cX5_copyFrom 60 = .ok (.aload_n 1, 1) := od_43  (by decide +kernel)
theorem dX5_copyFrom_61 : decode cX5_copyFrom 61 = .ok (.getfield 62, 3) := od_180 (a := 0) (b := 62) (by decide +kernel) (by decide)
theorem dX5_copyFrom_64 : decode cX5_copyFrom 64 = .ok (.putfield 62, 3) := od_181 (a := 0) (b := 62) (by decide +kernel) (by decide)
theorem dX5_copyFrom_67 : decode cX5_copyFrom 67 = .ok (.aload_n 0, 1) := od_42  (by decide +kernel)
theorem dX5_copyFrom_68 : decode cX5_copyFrom 68 = .ok (.aload_n 1, 1) := od_43  (by decide +kernel)
theorem dX5_copyFrom_69 : decode cX5_copyFrom 69 = .ok (.getfield 96, 3) := od_180 (a := 0) (b := 96) (by decide +kernel) (by decide)
theorem dX5_copyFrom_72 : decode cX5_copyFrom 72 = .ok (.putfield 96, 3) := od_181 (a := 0) (b := 96) (by decide +kernel) (by decide)
theorem dX5_copyFrom_75 : decode cX5_copyFrom 75 = .ok (.aload_n 0, 1) := od_42  (by decide +kernel)
theorem dX5_copyFrom_76 : decode cX5_copyFrom 76 = .ok (.aload_n 1, 1) := od_43  (by decide +kernel)
theorem dX5_copyFrom_77 : decode cX5_copyFrom 77 = .ok (.getfield 99, 3) := od_180 (a := 0) (b := 99) (by decide +kernel) (by decide)
theorem dX5_copyFrom_80 : decode cX5_copyFrom 80 = .ok (.putfield 99, 3) := od_181 (a := 0) (b := 99) (by decide +kernel) (by decide)
theorem dX5_copyFrom_83 : decode cX5_copyFrom 83 = .ok (.aload_n 0, 1) := od_42  (by decide +kernel)
theorem dX5_copyFrom_84 : decode cX5_copyFrom 84 = .ok (.aload_n 1, 1) := od_43  (by decide +kernel)
theorem dX5_copyFrom_85 : decode cX5_copyFrom 85 = .ok (.getfield 93, 3) := od_180 (a := 0) (b := 93) (by decide +kernel) (by decide)
theorem dX5_copyFrom_88 : decode cX5_copyFrom 88 = .ok (.putfield 93, 3) := od_181 (a := 0) (b := 93) (by decide +kernel) (by decide)
theorem dX5_copyFrom_91 : decode cX5_copyFrom 91 = .ok (.aload_n 1, 1) := od_43  (by decide +kernel)
theorem dX5_copyFrom_92 : decode cX5_copyFrom 92 = .ok (.getfield 18, 3) := od_180 (a := 0) (b := 18) (by decide +kernel) (by decide)
theorem dX5_copyFrom_95 : decode cX5_copyFrom 95 = .ok (.iconst 0, 1) := od_3  (by decide +kernel)
theorem dX5_copyFrom_96 : decode cX5_copyFrom 96 = .ok (.aload_n 0, 1) := od_42  (by decide +kernel)
theorem dX5_copyFrom_97 : decode cX5_copyFrom 97 = .ok (.getfield 18, 3) := od_180 (a := 0) (b := 18) (by decide +kernel) (by decide)
theorem dX5_copyFrom_100 : decode cX5_copyFrom 100 = .ok (.iconst 0, 1) := od_3  (by decide +kernel)
theorem dX5_copyFrom_101 : decode cX5_copyFrom 101 = .ok (.bipush 20, 2) := od_16 (a := 20) (by decide +kernel) (by decide +kernel)
theorem dX5_copyFrom_103 : decode cX5_copyFrom 103 = .ok (.invokestatic 77, 3) := od_184 (a := 0) (b := 77) (by decide +kernel) (by decide)
theorem dX5_copyFrom_106 : decode cX5_copyFrom 106 = .ok (.aload_n 1, 1) := od_43  (by decide +kernel)
theorem dX5_copyFrom_107 : decode cX5_copyFrom 107 = .ok (.getfield 22, 3) := od_180 (a := 0) (b := 22) (by decide +kernel) (by decide)
theorem dX5_copyFrom_110 : decode cX5_copyFrom 110 = .ok (.iconst 0, 1) := od_3  (by decide +kernel)
theorem dX5_copyFrom_111 : decode cX5_copyFrom 111 = .ok (.aload_n 0, 1) := od_42  (by decide +kernel)
theorem dX5_copyFrom_112 : decode cX5_copyFrom 112 = .ok (.getfield 22, 3) := od_180 (a := 0) (b := 22) (by decide +kernel) (by decide)
theorem dX5_copyFrom_115 : decode cX5_copyFrom 115 = .ok (.iconst 0, 1) := od_3  (by decide +kernel)
theorem dX5_copyFrom_116 : decode cX5_copyFrom 116 = .ok (.bipush 20, 2) := od_16 (a := 20) (by decide +kernel) (by decide +kernel)
theorem dX5_copyFrom_118 : decode cX5_copyFrom 118 = .ok (.invokestatic 77, 3) := od_184 (a := 0) (b := 77) (by decide +kernel) (by decide)
theorem dX5_copyFrom_121 : decode cX5_copyFrom 121 = .ok (.aload_n 1, 1) := od_43  (by decide +kernel)
theorem dX5_copyFrom_122 : decode cX5_copyFrom 122 = .ok (.getfield 25, 3) := od_180 (a := 0) (b := 25) (by decide +kernel) (by decide)
theorem dX5_copyFrom_125 : decode cX5_copyFrom 125 = .ok (.iconst 0, 1) := od_3  (by decide +kernel)
theorem dX5_copyFrom_126 : decode cX5_copyFrom 126 = .ok (.aload_n 0, 1) := od_42  (by decide +kernel)
theorem dX5_copyFrom_127 : decode cX5_copyFrom 127 = .ok (.getfield 25, 3) := od_180 (a := 0) (b := 25) (by decide +kernel) (by decide)
theorem dX5_copyFrom_130 : decode cX5_copyFrom 130 = .ok (.iconst 0, 1) := od_3  (by decide +kernel)
theorem dX5_copyFrom_131 : decode cX5_copyFrom 131 = .ok (.iconst 4, 1) := od_7  (by decide +kernel)
theorem dX5_copyFrom_132 : decode cX5_copyFrom 132 = .ok (.invokestatic 77, 3) := od_184 (a := 0) (b := 77) (by decide +kernel) (by decide)
theorem dX5_copyFrom_135 : decode cX5_copyFrom 135 = .ok (.aload_n 1, 1) := od_43  (by decide +kernel)
theorem dX5_copyFrom_136 : decode cX5_copyFrom 136 = .ok (.getfield 29, 3) := od_180 (a := 0) (b := 29) (by decide +kernel) (by decide)
theorem dX5_copyFrom_139 : decode cX5_copyFrom 139 = .ok (.iconst 0, 1) := od_3  (by decide +kernel)
theorem dX5_copyFrom_140 : decode cX5_copyFrom 140 = .ok (.aload_n 0, 1) := od_42  (by decide +kernel)
theorem dX5_copyFrom_141 : decode cX5_copyFrom 141 = .ok (.getfield 29, 3) := od_180 (a := 0) (b := 29) (by decide +kernel) (by decide)
theorem dX5_copyFrom_144 : decode cX5_copyFrom 144 = .ok (.iconst 0, 1) := od_3  (by decide +kernel)
theorem dX5_copyFrom_145 : decode cX5_copyFrom 145 = .ok (.bipush 6, 2) := od_16 (a := 6) (by decide +kernel) (by decide +kernel)
theorem dX5_copyFrom_147 : decode cX5_copyFrom 147 = .ok (.invokestatic 77, 3) := od_184 (a := 0) (b := 77) (by decide +kernel) (by decide)
theorem dX5_copyFrom_150 : decode cX5_copyFrom 150 = .ok (.aload_n 1, 1) := od_43  (by decide +kernel)
theorem dX5_copyFrom_151 : decode cX5_copyFrom 151 = .ok (.getfield 32, 3) := od_180 (a := 0) (b := 32) (by decide +kernel) (by decide)
theorem dX5_copyFrom_154 : decode cX5_copyFrom 154 = .ok (.iconst 0, 1) := od_3  (by decide +kernel)
theorem dX5_copyFrom_155 : decode cX5_copyFrom 155 = .ok (.aload_n 0, 1) := od_42  (by decide +kernel)
theorem dX5_copyFrom_156 : decode cX5_copyFrom 156 = .ok (.getfield 32, 3) := od_180 (a := 0) (b := 32) (by decide +kernel) (by decide)
theorem dX5_copyFrom_159 : decode cX5_copyFrom 159 = .ok (.iconst 0, 1) := od_3  (by decide +kernel)
theorem dX5_copyFrom_160 : decode cX5_copyFrom 160 = .ok (.iconst 4, 1) := od_7  (by decide +kernel)
theorem dX5_copyFrom_161 : decode cX5_copyFrom 161 = .ok (.invokestatic 77, 3) := od_184 (a := 0) (b := 77) (by decide +kernel) (by decide)
theorem dX5_copyFrom_164 : decode cX5_copyFrom 164 = .ok (.aload_n 1, 1) := od_43  (by decide +kernel)
theorem dX5_copyFrom_165 : decode cX5_copyFrom 165 = .ok (.getfield 35, 3) := od_180 (a := 0) (b := 35) (by decide +kernel) (by decide)
theorem dX5_copyFrom_168 : decode cX5_copyFrom 168 = .ok (.iconst 0, 1) := od_3  (by decide +kernel)
theorem dX5_copyFrom_169 : decode cX5_copyFrom 169 = .ok (.aload_n 0, 1) := od_42  (by decide +kernel)
theorem dX5_copyFrom_170 : decode cX5_copyFrom 170 = .ok (.getfield 35, 3) := od_180 (a := 0) (b := 35) (by decide +kernel) (by decide)
theorem dX5_copyFrom_173 : decode cX5_copyFrom 173 = .ok (.iconst 0, 1) := od_3  (by decide +kernel)
theorem dX5_copyFrom_174 : decode cX5_copyFrom 174 = .ok (.iconst 4, 1) := od_7  (by decide +kernel)
theorem dX5_copyFrom_175 : decode cX5_copyFrom 175 = .ok (.invokestatic 77, 3) := od_184 (a := 0) (b := 77) (by decide +kernel) (by decide)
theorem dX5_copyFrom_178 : decode cX5_copyFrom 178 = .ok (.return_, 1) := od_177  (by decide +kernel)
end
