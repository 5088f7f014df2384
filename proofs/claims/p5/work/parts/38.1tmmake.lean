set_option maxHeartbeats 4000000 in
set_option maxRecDepth 100000 in
theorem t_X12_init (l : Launch) (dC : Nat → ClassId) (dI : Nat → Nat → Nat) (sz : Nat) (κ : Nat → ClassId) (τ ν : Nat → Nat) (ρ : Nat → Nat → Nat) (L : List Nat) (f : Nat → va_E) (hG : tp_G τ ν ρ L) (hT : tp_T (mo_O κ) κ τ ν ρ f) (h0 : Nat) (hl_h0 : h0 ∈ L) (hz_h0 : τ h0 = 0) (hf_h0 : f h0 = .inr (12, [.int 0, .int 0, .null, .null, .null, .null, .null, .int 0, .null, .int 0, .int 0, .int 0, .int 0, .long 0, .int 0, .int 0, .int 0, .int 0, .int 0, .int 0, .int 0, .null, .int 0, .null, .null, .int 0, .null, .null, .int 0, .int 0, .null, .null, .int 0, .long 0, .long 0, .long 0, .int 0, .int 0, .int 0, .null, .null, .null, .null, .null, .null, .null, .null, .int 0, .int 0, .null, .null, .null, .null])) : Met l yX12_init wqX12_init ({ frames := 2, cells := 25, slots := 41849, locals := 400 }) (va_Pc [.ref h0] (pz_B dC dI (tp_K κ) (va_pl L f) sz)) (va_Qv (fun (x : tp_S) => tp_PX (mo_O κ) κ τ ν ρ L f [32] (some h0) x ∧ x.1 h0 = 13 ∧ mo_RI (-1) 0 (mo_R (mo_i (x.2.2.2.2 (x.2.2.1 h0 2)))) ∧ mo_IM (mo_R (mo_i (x.2.2.2.2 (x.2.2.1 h0 3))))) (fun (x : tp_S) (t : State) => pz_E dC dI (tp_K κ) (va_A (va_pl L f) sz) (va_pl x.2.2.2.1 x.2.2.2.2) t) (va_A (va_pl L f) sz)) 25 41849 (va_A (va_pl L f) sz) := by
  refine Met.ofW (cc := cX12_init) (maxL := 1) (ret := none) (by decide) rfl ?_
  intro p e s m args below meth c s₁ B hml hv
  obtain ⟨rfl, hsz, hP, hK, hD0, hN⟩ := hv
  have hx := B.exec
  have hb := B.bytes
  have hr := B.returns
  have hts := fun (w : Cond) (h : w ∈ WALL) => atoms_spec (ws := wqX12_init) B.pre w (List.mem_cons_of_mem _ h)
  have hown : s.vm.findClass RX12 = some m.cls := findClass_of_methodNamed B.named
  have hlocks := B.notSynchronized
  have hin : meth.name = "<init>" := (name_of_methodNamed B.named B.method).1
  subst hsz
  have hD := hD0.self (sz := s.heap.size)
  generalize hAe : va_A (va_pl L f) s.heap.size = A at hD ⊢
  have hA : ∀ q : Nat, s.heap.size ≤ q → A q := fun q h => by rw [← hAe]; exact Or.inr h
  have hS : va_S A s.heap s.heap [] := va_S.rf
  have hH : tp_H τ ν ρ L f [32] (some h0) τ ν ρ L f := tp_H.rf
  have hl := lv_entry ([.ref h0]) (n := 1) (Nat.le_of_ble_eq_true rfl)
  rw [lg_entry_eq]
  generalize (lg_sl ([.ref h0]) ++ List.replicate (1 - (lg_sl ([.ref h0])).length) Slot.unset).toArray = ls at hl ⊢
  have hl : lv_has ls 1 [(0, .ref h0)] := hl
  refine lv_aload_n hx hb dX12_init_0 rfl (lv_at hl 0 rfl) ?_
  refine W.objInit hx hb hown (hts (.methodLink RX12 1 objectInit) wa_147) (hts (.instanceMethod objectInit) wa_10) (hts (.code objectInit ⟨#[0xb1]⟩ 1 none) wa_11) rfl (by rw [hml]; exact hl.1) rfl dX12_init_1 (Nat.le_of_ble_eq_true rfl) (Nat.le_of_ble_eq_true rfl) ?_
  refine W.eq (g2 := F0 m 4 ls []) rfl ?_
  refine lv_aload_n hx hb dX12_init_4 rfl (lv_at hl 0 rfl) ?_
  refine lv_sipush (v := 12967) hx hb dX12_init_5 (by decide) ?_
  refine va_newa (atype := .int) hx hb (hts (.arrayClass .int) wa_39) (ty := .int) rfl hK hP hD hS hA (a0 := (12967, .inl (fun _ => 0))) (fun cA => pz_na_int cA 12967) (by decide +kernel : ¬ (12967 : Int32) < 0) (by decide +kernel : (12967 : Int32).toNatClampNeg = 12967) (by decide +kernel) (Nat.le_of_ble_eq_true rfl) (Nat.le_of_ble_eq_true rfl) dX12_init_8 (fun q1 k2 H hK hP hD hS => ?_)
  obtain ⟨e9, hK9⟩ := tp_kid 0 rfl hK; subst e9; have hK := hK9
  refine Exists.elim (tp_grow hG hT hP hD) (fun L12 hE90 => Exists.elim hE90 (fun f11 hE91 => tn_10 hE91 (fun hP hD hg3 ht4 hs5 hq6 hz7 hn8 hf9 ho10 => ?_)))
  clear hE91 hE90
  have hn13 : ∀ a, a ∈ L → a ≠ q1 := fun a ha => hn8 a (hH.1 a ha)
  have ne14 : h0 ≠ q1 := hn8 _ hl_h0
  have hG := hg3
  have hT := ht4
  have hH := hH.gr hs5 hn8 ho10
  have hf15 : f11 h0 = .inr (12, [.int 0, .int 0, .null, .null, .null, .null, .null, .int 0, .null, .int 0, .int 0, .int 0, .int 0, .long 0, .int 0, .int 0, .int 0, .int 0, .int 0, .int 0, .int 0, .null, .int 0, .null, .null, .int 0, .null, .null, .int 0, .int 0, .null, .null, .int 0, .long 0, .long 0, .long 0, .int 0, .int 0, .int 0, .null, .null, .null, .null, .null, .null, .null, .null, .int 0, .int 0, .null, .null, .null, .null]) := (ho10 _ ne14).trans hf_h0
  have hl16 : h0 ∈ L12 := hs5 _ hl_h0
  clear hf_h0 hl_h0
  refine tpk_pos hl16 hf15 (fun q17 eq17 => ?_)
  refine va_putF (D := (dC, dI)) (ci := 12) (v := .ref q1) (ty := (.array .int)) (C := RX12) (T := TX12) (N := 53) hx hb hts hfX12 tyX12 tyX12_ok nmX12 hown hK hP hD hS q17 eq17 rfl 2 (by decide) (hts (.fieldLink RX12 7 "ColdShipsModel" "row" "[I") wa_148) (fun _ h9 => h9) rfl hin rfl (tyX12_ok 2 (by decide)) rfl rfl (Nat.le_of_ble_eq_true rfl) dX12_init_10 (tp_k (.inr (12, [.int 0, .int 0, .ref q1, .null, .null, .null, .null, .int 0, .null, .int 0, .int 0, .int 0, .int 0, .long 0, .int 0, .int 0, .int 0, .int 0, .int 0, .int 0, .int 0, .null, .int 0, .null, .null, .int 0, .null, .null, .int 0, .int 0, .null, .null, .int 0, .long 0, .long 0, .long 0, .int 0, .int 0, .int 0, .null, .null, .null, .null, .null, .null, .null, .null, .int 0, .int 0, .null, .null, .null, .null])) hD hl16 eq17 (fun f18 H locs hP hD hS g20 k19 => ?_))
  have hT := hT.raw hz_h0 k19
  have hH := hH.wo k19
  have hf21 : f18 q1 = .inl (κ 0, 12967, .inl (fun _ => 0)) := (k19 _ (Ne.symm ne14)).trans hf9
  clear hf9
  refine lv_aload_n hx hb dX12_init_13 rfl (lv_at hl 0 rfl) ?_
  refine lv_sipush (v := 25934) hx hb dX12_init_14 (by decide) ?_
  refine va_newa (atype := .int) hx hb (hts (.arrayClass .int) wa_39) (ty := .int) rfl hK hP hD hS hA (a0 := (25934, .inl (fun _ => 0))) (fun cA => pz_na_int cA 25934) (by decide +kernel : ¬ (25934 : Int32) < 0) (by decide +kernel : (25934 : Int32).toNatClampNeg = 25934) (by decide +kernel) (Nat.le_of_ble_eq_true rfl) (Nat.le_of_ble_eq_true rfl) dX12_init_17 (fun q22 k23 H hK hP hD hS => ?_)
  obtain ⟨e9, hK9⟩ := tp_kid 0 rfl hK; subst e9; have hK := hK9
  refine Exists.elim (tp_grow hG hT hP hD) (fun L33 hE90 => Exists.elim hE90 (fun f32 hE91 => tn_10 hE91 (fun hP hD hg24 ht25 hs26 hq27 hz28 hn29 hf30 ho31 => ?_)))
  clear hE91 hE90
  have hn34 : ∀ a, a ∈ L → a ≠ q22 := fun a ha => hn29 a (hH.1 a ha)
  have ne35 : h0 ≠ q22 := hn29 _ hl16
  have ne36 : q1 ≠ q22 := hn29 _ hq6
  have hG := hg24
  have hT := ht25
  have hH := hH.gr hs26 hn29 ho31
  have hf37 : f32 h0 = .inr (12, [.int 0, .int 0, .ref q1, .null, .null, .null, .null, .int 0, .null, .int 0, .int 0, .int 0, .int 0, .long 0, .int 0, .int 0, .int 0, .int 0, .int 0, .int 0, .int 0, .null, .int 0, .null, .null, .int 0, .null, .null, .int 0, .int 0, .null, .null, .int 0, .long 0, .long 0, .long 0, .int 0, .int 0, .int 0, .null, .null, .null, .null, .null, .null, .null, .null, .int 0, .int 0, .null, .null, .null, .null]) := (ho31 _ ne35).trans g20
  have hl38 : h0 ∈ L33 := hs26 _ hl16
  have hf39 : f32 q1 = .inl (κ 0, 12967, .inl (fun _ => 0)) := (ho31 _ ne36).trans hf21
  have hl40 : q1 ∈ L33 := hs26 _ hq6
  clear g20 hl16 hf21 hq6
  refine tpk_pos hl38 hf37 (fun q41 eq41 => ?_)
  refine va_putF (D := (dC, dI)) (ci := 12) (v := .ref q22) (ty := (.array .int)) (C := RX12) (T := TX12) (N := 53) hx hb hts hfX12 tyX12 tyX12_ok nmX12 hown hK hP hD hS q41 eq41 rfl 3 (by decide) (hts (.fieldLink RX12 13 "ColdShipsModel" "images" "[I") wa_149) (fun _ h9 => h9) rfl hin rfl (tyX12_ok 3 (by decide)) rfl rfl (Nat.le_of_ble_eq_true rfl) dX12_init_19 (tp_k (.inr (12, [.int 0, .int 0, .ref q1, .ref q22, .null, .null, .null, .int 0, .null, .int 0, .int 0, .int 0, .int 0, .long 0, .int 0, .int 0, .int 0, .int 0, .int 0, .int 0, .int 0, .null, .int 0, .null, .null, .int 0, .null, .null, .int 0, .int 0, .null, .null, .int 0, .long 0, .long 0, .long 0, .int 0, .int 0, .int 0, .null, .null, .null, .null, .null, .null, .null, .null, .int 0, .int 0, .null, .null, .null, .null])) hD hl38 eq41 (fun f42 H locs hP hD hS g44 k43 => ?_))
  have hT := hT.raw hz_h0 k43
  have hH := hH.wo k43
  have hf45 : f42 q1 = .inl (κ 0, 12967, .inl (fun _ => 0)) := (k43 _ (Ne.symm ne14)).trans hf39
  have hf46 : f42 q22 = .inl (κ 0, 25934, .inl (fun _ => 0)) := (k43 _ (Ne.symm ne35)).trans hf30
  clear hf39 hf30
  refine lv_aload_n hx hb dX12_init_22 rfl (lv_at hl 0 rfl) ?_
  refine lv_iconst (v := 2) hx hb dX12_init_23 (by decide) ?_
  refine va_newa (atype := .boolean) hx hb (hts (.arrayClass .boolean) wa_150) (ty := .boolean) rfl hK hP hD hS hA (a0 := (2, .inl (fun _ => 0))) (fun cA => pz_na_boolean cA 2) (by decide +kernel : ¬ (2 : Int32) < 0) (by decide +kernel : (2 : Int32).toNatClampNeg = 2) (by decide +kernel) (Nat.le_of_ble_eq_true rfl) (Nat.le_of_ble_eq_true rfl) dX12_init_24 (fun q47 k48 H hK hP hD hS => ?_)
  obtain ⟨e9, hK9⟩ := tp_kid 3 rfl hK; subst e9; have hK := hK9
  refine Exists.elim (tp_grow hG hT hP hD) (fun L58 hE90 => Exists.elim hE90 (fun f57 hE91 => tn_10 hE91 (fun hP hD hg49 ht50 hs51 hq52 hz53 hn54 hf55 ho56 => ?_)))
  clear hE91 hE90
  have hn59 : ∀ a, a ∈ L → a ≠ q47 := fun a ha => hn54 a (hH.1 a ha)
  have ne60 : h0 ≠ q47 := hn54 _ hl38
  have ne61 : q1 ≠ q47 := hn54 _ hl40
  have ne62 : q22 ≠ q47 := hn54 _ hq27
  have hG := hg49
  have hT := ht50
  have hH := hH.gr hs51 hn54 ho56
  have hf63 : f57 h0 = .inr (12, [.int 0, .int 0, .ref q1, .ref q22, .null, .null, .null, .int 0, .null, .int 0, .int 0, .int 0, .int 0, .long 0, .int 0, .int 0, .int 0, .int 0, .int 0, .int 0, .int 0, .null, .int 0, .null, .null, .int 0, .null, .null, .int 0, .int 0, .null, .null, .int 0, .long 0, .long 0, .long 0, .int 0, .int 0, .int 0, .null, .null, .null, .null, .null, .null, .null, .null, .int 0, .int 0, .null, .null, .null, .null]) := (ho56 _ ne60).trans g44
  have hl64 : h0 ∈ L58 := hs51 _ hl38
  have hf65 : f57 q1 = .inl (κ 0, 12967, .inl (fun _ => 0)) := (ho56 _ ne61).trans hf45
  have hl66 : q1 ∈ L58 := hs51 _ hl40
  have hf67 : f57 q22 = .inl (κ 0, 25934, .inl (fun _ => 0)) := (ho56 _ ne62).trans hf46
  have hl68 : q22 ∈ L58 := hs51 _ hq27
  clear g44 hl38 hf45 hl40 hf46 hq27
  obtain ⟨τ_69, ν_69, ρ_69, hG, hT, hb70, ht71, hn72, hr73⟩ := tp_type hG hT hq52 hz53 34 (2) (fun _ => 0) (by decide) (fun τ9 ν9 ρ9 hE h2 h3 => ⟨trivial, by rw [hf55]; exact tp_o34⟩)
  have hH := hH.ty (fun a ha _ => hn59 a ha) hb70
  have hz74 : τ_69 h0 = 0 := (hb70 _ ne60).1.trans hz_h0
  have hz75 : τ_69 q1 = 0 := (hb70 _ ne61).1.trans hz7
  have hz76 : τ_69 q22 = 0 := (hb70 _ ne62).1.trans hz28
  clear hz_h0 hz7 hz28 hb70 ne60 ne61 ne62
  refine tpk_pos hl64 hf63 (fun q77 eq77 => ?_)
  refine va_putF (D := (dC, dI)) (ci := 12) (v := .ref q47) (ty := (.array .boolean)) (C := RX12) (T := TX12) (N := 53) hx hb hts hfX12 tyX12 tyX12_ok nmX12 hown hK hP hD hS q77 eq77 rfl 4 (by decide) (hts (.fieldLink RX12 16 "ColdShipsModel" "isKept" "[Z") wa_151) (fun _ h9 => h9) rfl hin rfl (tyX12_ok 4 (by decide)) rfl rfl (Nat.le_of_ble_eq_true rfl) dX12_init_26 (tp_k (.inr (12, [.int 0, .int 0, .ref q1, .ref q22, .ref q47, .null, .null, .int 0, .null, .int 0, .int 0, .int 0, .int 0, .long 0, .int 0, .int 0, .int 0, .int 0, .int 0, .int 0, .int 0, .null, .int 0, .null, .null, .int 0, .null, .null, .int 0, .int 0, .null, .null, .int 0, .long 0, .long 0, .long 0, .int 0, .int 0, .int 0, .null, .null, .null, .null, .null, .null, .null, .null, .int 0, .int 0, .null, .null, .null, .null])) hD hl64 eq77 (fun f78 H locs hP hD hS g80 k79 => ?_))
  have hT := hT.raw hz74 k79
  have hH := hH.wo k79
  have hf81 : f78 q1 = .inl (κ 0, 12967, .inl (fun _ => 0)) := (k79 _ (Ne.symm ne14)).trans hf65
  have hf82 : f78 q22 = .inl (κ 0, 25934, .inl (fun _ => 0)) := (k79 _ (Ne.symm ne35)).trans hf67
  clear hf65 hf67
  refine lv_aload_n hx hb dX12_init_29 rfl (lv_at hl 0 rfl) ?_
  refine lv_bipush (v := 6) hx hb dX12_init_30 (by decide) ?_
  refine va_newa (atype := .int) hx hb (hts (.arrayClass .int) wa_39) (ty := .int) rfl hK hP hD hS hA (a0 := (6, .inl (fun _ => 0))) (fun cA => pz_na_int cA 6) (by decide +kernel : ¬ (6 : Int32) < 0) (by decide +kernel : (6 : Int32).toNatClampNeg = 6) (by decide +kernel) (Nat.le_of_ble_eq_true rfl) (Nat.le_of_ble_eq_true rfl) dX12_init_32 (fun q83 k84 H hK hP hD hS => ?_)
  obtain ⟨e9, hK9⟩ := tp_kid 0 rfl hK; subst e9; have hK := hK9
  refine Exists.elim (tp_grow hG hT hP hD) (fun L94 hE90 => Exists.elim hE90 (fun f93 hE91 => tn_10 hE91 (fun hP hD hg85 ht86 hs87 hq88 hz89 hn90 hf91 ho92 => ?_)))
  clear hE91 hE90
  have hn95 : ∀ a, a ∈ L → a ≠ q83 := fun a ha => hn90 a (hH.1 a ha)
  have ne96 : h0 ≠ q83 := hn90 _ hl64
  have ne97 : q1 ≠ q83 := hn90 _ hl66
  have ne98 : q22 ≠ q83 := hn90 _ hl68
  have ne99 : q47 ≠ q83 := hn90 _ (tp_in hG ht71 (by decide))
  have hG := hg85
  have hT := ht86
  have hH := hH.gr hs87 hn90 ho92
  have hf100 : f93 h0 = .inr (12, [.int 0, .int 0, .ref q1, .ref q22, .ref q47, .null, .null, .int 0, .null, .int 0, .int 0, .int 0, .int 0, .long 0, .int 0, .int 0, .int 0, .int 0, .int 0, .int 0, .int 0, .null, .int 0, .null, .null, .int 0, .null, .null, .int 0, .int 0, .null, .null, .int 0, .long 0, .long 0, .long 0, .int 0, .int 0, .int 0, .null, .null, .null, .null, .null, .null, .null, .null, .int 0, .int 0, .null, .null, .null, .null]) := (ho92 _ ne96).trans g80
  have hl101 : h0 ∈ L94 := hs87 _ hl64
  have hf102 : f93 q1 = .inl (κ 0, 12967, .inl (fun _ => 0)) := (ho92 _ ne97).trans hf81
  have hl103 : q1 ∈ L94 := hs87 _ hl66
  have hf104 : f93 q22 = .inl (κ 0, 25934, .inl (fun _ => 0)) := (ho92 _ ne98).trans hf82
  have hl105 : q22 ∈ L94 := hs87 _ hl68
  clear g80 hl64 hf81 hl66 hf82 hl68
  obtain ⟨τ_106, ν_106, ρ_106, hG, hT, hb107, ht108, hn109, hr110⟩ := tp_type hG hT hq88 hz89 35 (6) (fun _ => 0) (by decide) (fun τ9 ν9 ρ9 hE h2 h3 => ⟨trivial, by rw [hf91]; exact tp_o35⟩)
  have hH := hH.ty (fun a ha _ => hn95 a ha) hb107
  have ht111 : τ_106 q47 = 34 := (hb107 _ ne99).1.trans ht71
  have hz112 : τ_106 h0 = 0 := (hb107 _ ne96).1.trans hz74
  have hz113 : τ_106 q1 = 0 := (hb107 _ ne97).1.trans hz75
  have hz114 : τ_106 q22 = 0 := (hb107 _ ne98).1.trans hz76
  clear ht71 hz74 hz75 hz76 hb107 ne96 ne97 ne98 ne99
  refine tpk_pos hl101 hf100 (fun q115 eq115 => ?_)
  refine va_putF (D := (dC, dI)) (ci := 12) (v := .ref q83) (ty := (.array .int)) (C := RX12) (T := TX12) (N := 53) hx hb hts hfX12 tyX12 tyX12_ok nmX12 hown hK hP hD hS q115 eq115 rfl 5 (by decide) (hts (.fieldLink RX12 20 "ColdShipsModel" "moved" "[I") wa_152) (fun _ h9 => h9) rfl hin rfl (tyX12_ok 5 (by decide)) rfl rfl (Nat.le_of_ble_eq_true rfl) dX12_init_34 (tp_k (.inr (12, [.int 0, .int 0, .ref q1, .ref q22, .ref q47, .ref q83, .null, .int 0, .null, .int 0, .int 0, .int 0, .int 0, .long 0, .int 0, .int 0, .int 0, .int 0, .int 0, .int 0, .int 0, .null, .int 0, .null, .null, .int 0, .null, .null, .int 0, .int 0, .null, .null, .int 0, .long 0, .long 0, .long 0, .int 0, .int 0, .int 0, .null, .null, .null, .null, .null, .null, .null, .null, .int 0, .int 0, .null, .null, .null, .null])) hD hl101 eq115 (fun f116 H locs hP hD hS g118 k117 => ?_))
  have hT := hT.raw hz112 k117
  have hH := hH.wo k117
  have hf119 : f116 q1 = .inl (κ 0, 12967, .inl (fun _ => 0)) := (k117 _ (Ne.symm ne14)).trans hf102
  have hf120 : f116 q22 = .inl (κ 0, 25934, .inl (fun _ => 0)) := (k117 _ (Ne.symm ne35)).trans hf104
  clear hf102 hf104
  refine lv_aload_n hx hb dX12_init_37 rfl (lv_at hl 0 rfl) ?_
  refine lv_bipush (v := 6) hx hb dX12_init_38 (by decide) ?_
  refine va_newa (atype := .long) hx hb (hts (.arrayClass .long) wa_82) (ty := .long) rfl hK hP hD hS hA (a0 := (6, .inr (.inl (fun _ => 0)))) (fun cA => pz_na_long cA 6) (by decide +kernel : ¬ (6 : Int32) < 0) (by decide +kernel : (6 : Int32).toNatClampNeg = 6) (by decide +kernel) (Nat.le_of_ble_eq_true rfl) (Nat.le_of_ble_eq_true rfl) dX12_init_40 (fun q121 k122 H hK hP hD hS => ?_)
  obtain ⟨e9, hK9⟩ := tp_kid 1 rfl hK; subst e9; have hK := hK9
  refine Exists.elim (tp_grow hG hT hP hD) (fun L132 hE90 => Exists.elim hE90 (fun f131 hE91 => tn_10 hE91 (fun hP hD hg123 ht124 hs125 hq126 hz127 hn128 hf129 ho130 => ?_)))
  clear hE91 hE90
  have hn133 : ∀ a, a ∈ L → a ≠ q121 := fun a ha => hn128 a (hH.1 a ha)
  have ne134 : h0 ≠ q121 := hn128 _ hl101
  have ne135 : q1 ≠ q121 := hn128 _ hl103
  have ne136 : q22 ≠ q121 := hn128 _ hl105
  have ne137 : q47 ≠ q121 := hn128 _ (tp_in hG ht111 (by decide))
  have ne138 : q83 ≠ q121 := hn128 _ (tp_in hG ht108 (by decide))
  have hG := hg123
  have hT := ht124
  have hH := hH.gr hs125 hn128 ho130
  have hf139 : f131 h0 = .inr (12, [.int 0, .int 0, .ref q1, .ref q22, .ref q47, .ref q83, .null, .int 0, .null, .int 0, .int 0, .int 0, .int 0, .long 0, .int 0, .int 0, .int 0, .int 0, .int 0, .int 0, .int 0, .null, .int 0, .null, .null, .int 0, .null, .null, .int 0, .int 0, .null, .null, .int 0, .long 0, .long 0, .long 0, .int 0, .int 0, .int 0, .null, .null, .null, .null, .null, .null, .null, .null, .int 0, .int 0, .null, .null, .null, .null]) := (ho130 _ ne134).trans g118
  have hl140 : h0 ∈ L132 := hs125 _ hl101
  have hf141 : f131 q1 = .inl (κ 0, 12967, .inl (fun _ => 0)) := (ho130 _ ne135).trans hf119
  have hl142 : q1 ∈ L132 := hs125 _ hl103
  have hf143 : f131 q22 = .inl (κ 0, 25934, .inl (fun _ => 0)) := (ho130 _ ne136).trans hf120
  have hl144 : q22 ∈ L132 := hs125 _ hl105
  clear g118 hl101 hf119 hl103 hf120 hl105
  obtain ⟨τ_145, ν_145, ρ_145, hG, hT, hb146, ht147, hn148, hr149⟩ := tp_type hG hT hq126 hz127 36 (6) (fun _ => 0) (by decide) (fun τ9 ν9 ρ9 hE h2 h3 => ⟨trivial, by rw [hf129]; exact tp_o36⟩)
  have hH := hH.ty (fun a ha _ => hn133 a ha) hb146
  have ht150 : τ_145 q47 = 34 := (hb146 _ ne137).1.trans ht111
  have ht151 : τ_145 q83 = 35 := (hb146 _ ne138).1.trans ht108
  have hz152 : τ_145 h0 = 0 := (hb146 _ ne134).1.trans hz112
  have hz153 : τ_145 q1 = 0 := (hb146 _ ne135).1.trans hz113
  have hz154 : τ_145 q22 = 0 := (hb146 _ ne136).1.trans hz114
  clear ht111 ht108 hz112 hz113 hz114 hb146 ne134 ne135 ne136 ne137 ne138
  refine tpk_pos hl140 hf139 (fun q155 eq155 => ?_)
  refine va_putF (D := (dC, dI)) (ci := 12) (v := .ref q121) (ty := (.array .long)) (C := RX12) (T := TX12) (N := 53) hx hb hts hfX12 tyX12 tyX12_ok nmX12 hown hK hP hD hS q155 eq155 rfl 6 (by decide) (hts (.fieldLink RX12 23 "ColdShipsModel" "rests" "[J") wa_153) (fun _ h9 => h9) rfl hin rfl (tyX12_ok 6 (by decide)) rfl rfl (Nat.le_of_ble_eq_true rfl) dX12_init_42 (tp_k (.inr (12, [.int 0, .int 0, .ref q1, .ref q22, .ref q47, .ref q83, .ref q121, .int 0, .null, .int 0, .int 0, .int 0, .int 0, .long 0, .int 0, .int 0, .int 0, .int 0, .int 0, .int 0, .int 0, .null, .int 0, .null, .null, .int 0, .null, .null, .int 0, .int 0, .null, .null, .int 0, .long 0, .long 0, .long 0, .int 0, .int 0, .int 0, .null, .null, .null, .null, .null, .null, .null, .null, .int 0, .int 0, .null, .null, .null, .null])) hD hl140 eq155 (fun f156 H locs hP hD hS g158 k157 => ?_))
  have hT := hT.raw hz152 k157
  have hH := hH.wo k157
  have hf159 : f156 q1 = .inl (κ 0, 12967, .inl (fun _ => 0)) := (k157 _ (Ne.symm ne14)).trans hf141
  have hf160 : f156 q22 = .inl (κ 0, 25934, .inl (fun _ => 0)) := (k157 _ (Ne.symm ne35)).trans hf143
  clear hf141 hf143
  refine lv_aload_n hx hb dX12_init_45 rfl (lv_at hl 0 rfl) ?_
  refine lv_sipush (v := 400) hx hb dX12_init_46 (by decide) ?_
  refine va_newa (atype := .int) hx hb (hts (.arrayClass .int) wa_39) (ty := .int) rfl hK hP hD hS hA (a0 := (400, .inl (fun _ => 0))) (fun cA => pz_na_int cA 400) (by decide +kernel : ¬ (400 : Int32) < 0) (by decide +kernel : (400 : Int32).toNatClampNeg = 400) (by decide +kernel) (Nat.le_of_ble_eq_true rfl) (Nat.le_of_ble_eq_true rfl) dX12_init_49 (fun q161 k162 H hK hP hD hS => ?_)
  obtain ⟨e9, hK9⟩ := tp_kid 0 rfl hK; subst e9; have hK := hK9
  refine Exists.elim (tp_grow hG hT hP hD) (fun L172 hE90 => Exists.elim hE90 (fun f171 hE91 => tn_10 hE91 (fun hP hD hg163 ht164 hs165 hq166 hz167 hn168 hf169 ho170 => ?_)))
  clear hE91 hE90
  have hn173 : ∀ a, a ∈ L → a ≠ q161 := fun a ha => hn168 a (hH.1 a ha)
  have ne174 : h0 ≠ q161 := hn168 _ hl140
  have ne175 : q1 ≠ q161 := hn168 _ hl142
  have ne176 : q22 ≠ q161 := hn168 _ hl144
  have ne177 : q47 ≠ q161 := hn168 _ (tp_in hG ht150 (by decide))
  have ne178 : q83 ≠ q161 := hn168 _ (tp_in hG ht151 (by decide))
  have ne179 : q121 ≠ q161 := hn168 _ (tp_in hG ht147 (by decide))
  have hG := hg163
  have hT := ht164
  have hH := hH.gr hs165 hn168 ho170
  have hf180 : f171 h0 = .inr (12, [.int 0, .int 0, .ref q1, .ref q22, .ref q47, .ref q83, .ref q121, .int 0, .null, .int 0, .int 0, .int 0, .int 0, .long 0, .int 0, .int 0, .int 0, .int 0, .int 0, .int 0, .int 0, .null, .int 0, .null, .null, .int 0, .null, .null, .int 0, .int 0, .null, .null, .int 0, .long 0, .long 0, .long 0, .int 0, .int 0, .int 0, .null, .null, .null, .null, .null, .null, .null, .null, .int 0, .int 0, .null, .null, .null, .null]) := (ho170 _ ne174).trans g158
  have hl181 : h0 ∈ L172 := hs165 _ hl140
  have hf182 : f171 q1 = .inl (κ 0, 12967, .inl (fun _ => 0)) := (ho170 _ ne175).trans hf159
  have hl183 : q1 ∈ L172 := hs165 _ hl142
  have hf184 : f171 q22 = .inl (κ 0, 25934, .inl (fun _ => 0)) := (ho170 _ ne176).trans hf160
  have hl185 : q22 ∈ L172 := hs165 _ hl144
  clear g158 hl140 hf159 hl142 hf160 hl144
  obtain ⟨τ_186, ν_186, ρ_186, hG, hT, hb187, ht188, hn189, hr190⟩ := tp_type hG hT hq166 hz167 38 (400) (fun _ => 0) (by decide) (fun τ9 ν9 ρ9 hE h2 h3 => ⟨trivial, by rw [hf169]; exact tp_o38⟩)
  have hH := hH.ty (fun a ha _ => hn173 a ha) hb187
  have ht191 : τ_186 q47 = 34 := (hb187 _ ne177).1.trans ht150
  have ht192 : τ_186 q83 = 35 := (hb187 _ ne178).1.trans ht151
  have ht193 : τ_186 q121 = 36 := (hb187 _ ne179).1.trans ht147
  have hz194 : τ_186 h0 = 0 := (hb187 _ ne174).1.trans hz152
  have hz195 : τ_186 q1 = 0 := (hb187 _ ne175).1.trans hz153
  have hz196 : τ_186 q22 = 0 := (hb187 _ ne176).1.trans hz154
  clear ht150 ht151 ht147 hz152 hz153 hz154 hb187 ne174 ne175 ne176 ne177 ne178 ne179
  refine tpk_pos hl181 hf180 (fun q197 eq197 => ?_)
  refine va_putF (D := (dC, dI)) (ci := 12) (v := .ref q161) (ty := (.array .int)) (C := RX12) (T := TX12) (N := 53) hx hb hts hfX12 tyX12 tyX12_ok nmX12 hown hK hP hD hS q197 eq197 rfl 8 (by decide) (hts (.fieldLink RX12 27 "ColdShipsModel" "tape" "[I") wa_154) (fun _ h9 => h9) rfl hin rfl (tyX12_ok 8 (by decide)) rfl rfl (Nat.le_of_ble_eq_true rfl) dX12_init_51 (tp_k (.inr (12, [.int 0, .int 0, .ref q1, .ref q22, .ref q47, .ref q83, .ref q121, .int 0, .ref q161, .int 0, .int 0, .int 0, .int 0, .long 0, .int 0, .int 0, .int 0, .int 0, .int 0, .int 0, .int 0, .null, .int 0, .null, .null, .int 0, .null, .null, .int 0, .int 0, .null, .null, .int 0, .long 0, .long 0, .long 0, .int 0, .int 0, .int 0, .null, .null, .null, .null, .null, .null, .null, .null, .int 0, .int 0, .null, .null, .null, .null])) hD hl181 eq197 (fun f198 H locs hP hD hS g200 k199 => ?_))
  have hT := hT.raw hz194 k199
  have hH := hH.wo k199
  have hf201 : f198 q1 = .inl (κ 0, 12967, .inl (fun _ => 0)) := (k199 _ (Ne.symm ne14)).trans hf182
  have hf202 : f198 q22 = .inl (κ 0, 25934, .inl (fun _ => 0)) := (k199 _ (Ne.symm ne35)).trans hf184
  clear hf182 hf184
  refine lv_aload_n hx hb dX12_init_54 rfl (lv_at hl 0 rfl) ?_
  refine lv_iconst (v := (-1)) hx hb dX12_init_55 (by decide) ?_
  refine tpk_pos hl181 g200 (fun q203 eq203 => ?_)
  refine va_put (D := (dC, dI)) (ci := 12) (v := .int (-1)) (ty := .int) (C := RX12) (T := TX12) (N := 53) hx hb hts hfX12 tyX12 tyX12_ok nmX12 hown hK hP hD hS q203 eq203 rfl 14 (by decide) (hts (.fieldLink RX12 30 "ColdShipsModel" "fault" "I") wa_155) (fun _ h9 => h9) rfl (tyX12_ok 14 (by decide)) rfl rfl (Nat.le_of_ble_eq_true rfl) dX12_init_56 (tp_k (.inr (12, [.int 0, .int 0, .ref q1, .ref q22, .ref q47, .ref q83, .ref q121, .int 0, .ref q161, .int 0, .int 0, .int 0, .int 0, .long 0, .int (-1), .int 0, .int 0, .int 0, .int 0, .int 0, .int 0, .null, .int 0, .null, .null, .int 0, .null, .null, .int 0, .int 0, .null, .null, .int 0, .long 0, .long 0, .long 0, .int 0, .int 0, .int 0, .null, .null, .null, .null, .null, .null, .null, .null, .int 0, .int 0, .null, .null, .null, .null])) hD hl181 eq203 (fun f204 H locs hP hD hS g206 k205 => ?_))
  have hT := hT.raw hz194 k205
  have hH := hH.wo k205
  have hf207 : f204 q1 = .inl (κ 0, 12967, .inl (fun _ => 0)) := (k205 _ (Ne.symm ne14)).trans hf201
  have hf208 : f204 q22 = .inl (κ 0, 25934, .inl (fun _ => 0)) := (k205 _ (Ne.symm ne35)).trans hf202
  clear hf201 hf202
  refine lv_aload_n hx hb dX12_init_59 rfl (lv_at hl 0 rfl) ?_
  refine lv_bipush (v := 60) hx hb dX12_init_60 (by decide) ?_
  refine va_newa (atype := .int) hx hb (hts (.arrayClass .int) wa_39) (ty := .int) rfl hK hP hD hS hA (a0 := (60, .inl (fun _ => 0))) (fun cA => pz_na_int cA 60) (by decide +kernel : ¬ (60 : Int32) < 0) (by decide +kernel : (60 : Int32).toNatClampNeg = 60) (by decide +kernel) (Nat.le_of_ble_eq_true rfl) (Nat.le_of_ble_eq_true rfl) dX12_init_62 (fun q209 k210 H hK hP hD hS => ?_)
  obtain ⟨e9, hK9⟩ := tp_kid 0 rfl hK; subst e9; have hK := hK9
  refine Exists.elim (tp_grow hG hT hP hD) (fun L220 hE90 => Exists.elim hE90 (fun f219 hE91 => tn_10 hE91 (fun hP hD hg211 ht212 hs213 hq214 hz215 hn216 hf217 ho218 => ?_)))
  clear hE91 hE90
  have hn221 : ∀ a, a ∈ L → a ≠ q209 := fun a ha => hn216 a (hH.1 a ha)
  have ne222 : h0 ≠ q209 := hn216 _ hl181
  have ne223 : q1 ≠ q209 := hn216 _ hl183
  have ne224 : q22 ≠ q209 := hn216 _ hl185
  have ne225 : q47 ≠ q209 := hn216 _ (tp_in hG ht191 (by decide))
  have ne226 : q83 ≠ q209 := hn216 _ (tp_in hG ht192 (by decide))
  have ne227 : q121 ≠ q209 := hn216 _ (tp_in hG ht193 (by decide))
  have ne228 : q161 ≠ q209 := hn216 _ (tp_in hG ht188 (by decide))
  have hG := hg211
  have hT := ht212
  have hH := hH.gr hs213 hn216 ho218
  have hf229 : f219 h0 = .inr (12, [.int 0, .int 0, .ref q1, .ref q22, .ref q47, .ref q83, .ref q121, .int 0, .ref q161, .int 0, .int 0, .int 0, .int 0, .long 0, .int (-1), .int 0, .int 0, .int 0, .int 0, .int 0, .int 0, .null, .int 0, .null, .null, .int 0, .null, .null, .int 0, .int 0, .null, .null, .int 0, .long 0, .long 0, .long 0, .int 0, .int 0, .int 0, .null, .null, .null, .null, .null, .null, .null, .null, .int 0, .int 0, .null, .null, .null, .null]) := (ho218 _ ne222).trans g206
  have hl230 : h0 ∈ L220 := hs213 _ hl181
  have hf231 : f219 q1 = .inl (κ 0, 12967, .inl (fun _ => 0)) := (ho218 _ ne223).trans hf207
  have hl232 : q1 ∈ L220 := hs213 _ hl183
  have hf233 : f219 q22 = .inl (κ 0, 25934, .inl (fun _ => 0)) := (ho218 _ ne224).trans hf208
  have hl234 : q22 ∈ L220 := hs213 _ hl185
  clear g206 hl181 hf207 hl183 hf208 hl185
  obtain ⟨τ_235, ν_235, ρ_235, hG, hT, hb236, ht237, hn238, hr239⟩ := tp_type hG hT hq214 hz215 51 (60) (fun _ => 0) (by decide) (fun τ9 ν9 ρ9 hE h2 h3 => ⟨trivial, by rw [hf217]; exact tp_o51⟩)
  have hH := hH.ty (fun a ha _ => hn221 a ha) hb236
  have ht240 : τ_235 q47 = 34 := (hb236 _ ne225).1.trans ht191
  have ht241 : τ_235 q83 = 35 := (hb236 _ ne226).1.trans ht192
  have ht242 : τ_235 q121 = 36 := (hb236 _ ne227).1.trans ht193
  have ht243 : τ_235 q161 = 38 := (hb236 _ ne228).1.trans ht188
  have hz244 : τ_235 h0 = 0 := (hb236 _ ne222).1.trans hz194
  have hz245 : τ_235 q1 = 0 := (hb236 _ ne223).1.trans hz195
  have hz246 : τ_235 q22 = 0 := (hb236 _ ne224).1.trans hz196
  clear ht191 ht192 ht193 ht188 hz194 hz195 hz196 hb236 ne222 ne223 ne224 ne225 ne226 ne227 ne228
  refine tpk_pos hl230 hf229 (fun q247 eq247 => ?_)
  refine va_putF (D := (dC, dI)) (ci := 12) (v := .ref q209) (ty := (.array .int)) (C := RX12) (T := TX12) (N := 53) hx hb hts hfX12 tyX12 tyX12_ok nmX12 hown hK hP hD hS q247 eq247 rfl 21 (by decide) (hts (.fieldLink RX12 34 "ColdShipsModel" "nClause" "[I") wa_156) (fun _ h9 => h9) rfl hin rfl (tyX12_ok 21 (by decide)) rfl rfl (Nat.le_of_ble_eq_true rfl) dX12_init_64 (tp_k (.inr (12, [.int 0, .int 0, .ref q1, .ref q22, .ref q47, .ref q83, .ref q121, .int 0, .ref q161, .int 0, .int 0, .int 0, .int 0, .long 0, .int (-1), .int 0, .int 0, .int 0, .int 0, .int 0, .int 0, .ref q209, .int 0, .null, .null, .int 0, .null, .null, .int 0, .int 0, .null, .null, .int 0, .long 0, .long 0, .long 0, .int 0, .int 0, .int 0, .null, .null, .null, .null, .null, .null, .null, .null, .int 0, .int 0, .null, .null, .null, .null])) hD hl230 eq247 (fun f248 H locs hP hD hS g250 k249 => ?_))
  have hT := hT.raw hz244 k249
  have hH := hH.wo k249
  have hf251 : f248 q1 = .inl (κ 0, 12967, .inl (fun _ => 0)) := (k249 _ (Ne.symm ne14)).trans hf231
  have hf252 : f248 q22 = .inl (κ 0, 25934, .inl (fun _ => 0)) := (k249 _ (Ne.symm ne35)).trans hf233
  clear hf231 hf233
  refine lv_aload_n hx hb dX12_init_67 rfl (lv_at hl 0 rfl) ?_
  refine lv_sipush (v := 400) hx hb dX12_init_68 (by decide) ?_
  refine va_newa (atype := .int) hx hb (hts (.arrayClass .int) wa_39) (ty := .int) rfl hK hP hD hS hA (a0 := (400, .inl (fun _ => 0))) (fun cA => pz_na_int cA 400) (by decide +kernel : ¬ (400 : Int32) < 0) (by decide +kernel : (400 : Int32).toNatClampNeg = 400) (by decide +kernel) (Nat.le_of_ble_eq_true rfl) (Nat.le_of_ble_eq_true rfl) dX12_init_71 (fun q253 k254 H hK hP hD hS => ?_)
  obtain ⟨e9, hK9⟩ := tp_kid 0 rfl hK; subst e9; have hK := hK9
  refine Exists.elim (tp_grow hG hT hP hD) (fun L264 hE90 => Exists.elim hE90 (fun f263 hE91 => tn_10 hE91 (fun hP hD hg255 ht256 hs257 hq258 hz259 hn260 hf261 ho262 => ?_)))
  clear hE91 hE90
  have hn265 : ∀ a, a ∈ L → a ≠ q253 := fun a ha => hn260 a (hH.1 a ha)
  have ne266 : h0 ≠ q253 := hn260 _ hl230
  have ne267 : q1 ≠ q253 := hn260 _ hl232
  have ne268 : q22 ≠ q253 := hn260 _ hl234
  have ne269 : q47 ≠ q253 := hn260 _ (tp_in hG ht240 (by decide))
  have ne270 : q83 ≠ q253 := hn260 _ (tp_in hG ht241 (by decide))
  have ne271 : q121 ≠ q253 := hn260 _ (tp_in hG ht242 (by decide))
  have ne272 : q161 ≠ q253 := hn260 _ (tp_in hG ht243 (by decide))
  have ne273 : q209 ≠ q253 := hn260 _ (tp_in hG ht237 (by decide))
  have hG := hg255
  have hT := ht256
  have hH := hH.gr hs257 hn260 ho262
  have hf274 : f263 h0 = .inr (12, [.int 0, .int 0, .ref q1, .ref q22, .ref q47, .ref q83, .ref q121, .int 0, .ref q161, .int 0, .int 0, .int 0, .int 0, .long 0, .int (-1), .int 0, .int 0, .int 0, .int 0, .int 0, .int 0, .ref q209, .int 0, .null, .null, .int 0, .null, .null, .int 0, .int 0, .null, .null, .int 0, .long 0, .long 0, .long 0, .int 0, .int 0, .int 0, .null, .null, .null, .null, .null, .null, .null, .null, .int 0, .int 0, .null, .null, .null, .null]) := (ho262 _ ne266).trans g250
  have hl275 : h0 ∈ L264 := hs257 _ hl230
  have hf276 : f263 q1 = .inl (κ 0, 12967, .inl (fun _ => 0)) := (ho262 _ ne267).trans hf251
  have hl277 : q1 ∈ L264 := hs257 _ hl232
  have hf278 : f263 q22 = .inl (κ 0, 25934, .inl (fun _ => 0)) := (ho262 _ ne268).trans hf252
  have hl279 : q22 ∈ L264 := hs257 _ hl234
  clear g250 hl230 hf251 hl232 hf252 hl234
  obtain ⟨τ_280, ν_280, ρ_280, hG, hT, hb281, ht282, hn283, hr284⟩ := tp_type hG hT hq258 hz259 53 (400) (fun _ => 0) (by decide) (fun τ9 ν9 ρ9 hE h2 h3 => ⟨trivial, by rw [hf261]; exact tp_o53⟩)
  have hH := hH.ty (fun a ha _ => hn265 a ha) hb281
  have ht285 : τ_280 q47 = 34 := (hb281 _ ne269).1.trans ht240
  have ht286 : τ_280 q83 = 35 := (hb281 _ ne270).1.trans ht241
  have ht287 : τ_280 q121 = 36 := (hb281 _ ne271).1.trans ht242
  have ht288 : τ_280 q161 = 38 := (hb281 _ ne272).1.trans ht243
  have ht289 : τ_280 q209 = 51 := (hb281 _ ne273).1.trans ht237
  have hz290 : τ_280 h0 = 0 := (hb281 _ ne266).1.trans hz244
  have hz291 : τ_280 q1 = 0 := (hb281 _ ne267).1.trans hz245
  have hz292 : τ_280 q22 = 0 := (hb281 _ ne268).1.trans hz246
  clear ht240 ht241 ht242 ht243 ht237 hz244 hz245 hz246 hb281 ne266 ne267 ne268 ne269 ne270 ne271 ne272 ne273
  refine tpk_pos hl275 hf274 (fun q293 eq293 => ?_)
  refine va_putF (D := (dC, dI)) (ci := 12) (v := .ref q253) (ty := (.array .int)) (C := RX12) (T := TX12) (N := 53) hx hb hts hfX12 tyX12 tyX12_ok nmX12 hown hK hP hD hS q293 eq293 rfl 23 (by decide) (hts (.fieldLink RX12 37 "ColdShipsModel" "nOp" "[I") wa_157) (fun _ h9 => h9) rfl hin rfl (tyX12_ok 23 (by decide)) rfl rfl (Nat.le_of_ble_eq_true rfl) dX12_init_73 (tp_k (.inr (12, [.int 0, .int 0, .ref q1, .ref q22, .ref q47, .ref q83, .ref q121, .int 0, .ref q161, .int 0, .int 0, .int 0, .int 0, .long 0, .int (-1), .int 0, .int 0, .int 0, .int 0, .int 0, .int 0, .ref q209, .int 0, .ref q253, .null, .int 0, .null, .null, .int 0, .int 0, .null, .null, .int 0, .long 0, .long 0, .long 0, .int 0, .int 0, .int 0, .null, .null, .null, .null, .null, .null, .null, .null, .int 0, .int 0, .null, .null, .null, .null])) hD hl275 eq293 (fun f294 H locs hP hD hS g296 k295 => ?_))
  have hT := hT.raw hz290 k295
  have hH := hH.wo k295
  have hf297 : f294 q1 = .inl (κ 0, 12967, .inl (fun _ => 0)) := (k295 _ (Ne.symm ne14)).trans hf276
  have hf298 : f294 q22 = .inl (κ 0, 25934, .inl (fun _ => 0)) := (k295 _ (Ne.symm ne35)).trans hf278
  clear hf276 hf278
  refine lv_aload_n hx hb dX12_init_76 rfl (lv_at hl 0 rfl) ?_
  refine lv_sipush (v := 400) hx hb dX12_init_77 (by decide) ?_
  refine va_newa (atype := .int) hx hb (hts (.arrayClass .int) wa_39) (ty := .int) rfl hK hP hD hS hA (a0 := (400, .inl (fun _ => 0))) (fun cA => pz_na_int cA 400) (by decide +kernel : ¬ (400 : Int32) < 0) (by decide +kernel : (400 : Int32).toNatClampNeg = 400) (by decide +kernel) (Nat.le_of_ble_eq_true rfl) (Nat.le_of_ble_eq_true rfl) dX12_init_80 (fun q299 k300 H hK hP hD hS => ?_)
  obtain ⟨e9, hK9⟩ := tp_kid 0 rfl hK; subst e9; have hK := hK9
  refine Exists.elim (tp_grow hG hT hP hD) (fun L310 hE90 => Exists.elim hE90 (fun f309 hE91 => tn_10 hE91 (fun hP hD hg301 ht302 hs303 hq304 hz305 hn306 hf307 ho308 => ?_)))
  clear hE91 hE90
  have hn311 : ∀ a, a ∈ L → a ≠ q299 := fun a ha => hn306 a (hH.1 a ha)
  have ne312 : h0 ≠ q299 := hn306 _ hl275
  have ne313 : q1 ≠ q299 := hn306 _ hl277
  have ne314 : q22 ≠ q299 := hn306 _ hl279
  have ne315 : q47 ≠ q299 := hn306 _ (tp_in hG ht285 (by decide))
  have ne316 : q83 ≠ q299 := hn306 _ (tp_in hG ht286 (by decide))
  have ne317 : q121 ≠ q299 := hn306 _ (tp_in hG ht287 (by decide))
  have ne318 : q161 ≠ q299 := hn306 _ (tp_in hG ht288 (by decide))
  have ne319 : q209 ≠ q299 := hn306 _ (tp_in hG ht289 (by decide))
  have ne320 : q253 ≠ q299 := hn306 _ (tp_in hG ht282 (by decide))
  have hG := hg301
  have hT := ht302
  have hH := hH.gr hs303 hn306 ho308
  have hf321 : f309 h0 = .inr (12, [.int 0, .int 0, .ref q1, .ref q22, .ref q47, .ref q83, .ref q121, .int 0, .ref q161, .int 0, .int 0, .int 0, .int 0, .long 0, .int (-1), .int 0, .int 0, .int 0, .int 0, .int 0, .int 0, .ref q209, .int 0, .ref q253, .null, .int 0, .null, .null, .int 0, .int 0, .null, .null, .int 0, .long 0, .long 0, .long 0, .int 0, .int 0, .int 0, .null, .null, .null, .null, .null, .null, .null, .null, .int 0, .int 0, .null, .null, .null, .null]) := (ho308 _ ne312).trans g296
  have hl322 : h0 ∈ L310 := hs303 _ hl275
  have hf323 : f309 q1 = .inl (κ 0, 12967, .inl (fun _ => 0)) := (ho308 _ ne313).trans hf297
  have hl324 : q1 ∈ L310 := hs303 _ hl277
  have hf325 : f309 q22 = .inl (κ 0, 25934, .inl (fun _ => 0)) := (ho308 _ ne314).trans hf298
  have hl326 : q22 ∈ L310 := hs303 _ hl279
  clear g296 hl275 hf297 hl277 hf298 hl279
  obtain ⟨τ_327, ν_327, ρ_327, hG, hT, hb328, ht329, hn330, hr331⟩ := tp_type hG hT hq304 hz305 54 (400) (fun _ => 0) (by decide) (fun τ9 ν9 ρ9 hE h2 h3 => ⟨trivial, by rw [hf307]; exact tp_o54⟩)
  have hH := hH.ty (fun a ha _ => hn311 a ha) hb328
  have ht332 : τ_327 q47 = 34 := (hb328 _ ne315).1.trans ht285
  have ht333 : τ_327 q83 = 35 := (hb328 _ ne316).1.trans ht286
  have ht334 : τ_327 q121 = 36 := (hb328 _ ne317).1.trans ht287
  have ht335 : τ_327 q161 = 38 := (hb328 _ ne318).1.trans ht288
  have ht336 : τ_327 q209 = 51 := (hb328 _ ne319).1.trans ht289
  have ht337 : τ_327 q253 = 53 := (hb328 _ ne320).1.trans ht282
  have hz338 : τ_327 h0 = 0 := (hb328 _ ne312).1.trans hz290
  have hz339 : τ_327 q1 = 0 := (hb328 _ ne313).1.trans hz291
  have hz340 : τ_327 q22 = 0 := (hb328 _ ne314).1.trans hz292
  clear ht285 ht286 ht287 ht288 ht289 ht282 hz290 hz291 hz292 hb328 ne312 ne313 ne314 ne315 ne316 ne317 ne318 ne319 ne320
  refine tpk_pos hl322 hf321 (fun q341 eq341 => ?_)
  refine va_putF (D := (dC, dI)) (ci := 12) (v := .ref q299) (ty := (.array .int)) (C := RX12) (T := TX12) (N := 53) hx hb hts hfX12 tyX12 tyX12_ok nmX12 hown hK hP hD hS q341 eq341 rfl 24 (by decide) (hts (.fieldLink RX12 40 "ColdShipsModel" "nArg" "[I") wa_158) (fun _ h9 => h9) rfl hin rfl (tyX12_ok 24 (by decide)) rfl rfl (Nat.le_of_ble_eq_true rfl) dX12_init_82 (tp_k (.inr (12, [.int 0, .int 0, .ref q1, .ref q22, .ref q47, .ref q83, .ref q121, .int 0, .ref q161, .int 0, .int 0, .int 0, .int 0, .long 0, .int (-1), .int 0, .int 0, .int 0, .int 0, .int 0, .int 0, .ref q209, .int 0, .ref q253, .ref q299, .int 0, .null, .null, .int 0, .int 0, .null, .null, .int 0, .long 0, .long 0, .long 0, .int 0, .int 0, .int 0, .null, .null, .null, .null, .null, .null, .null, .null, .int 0, .int 0, .null, .null, .null, .null])) hD hl322 eq341 (fun f342 H locs hP hD hS g344 k343 => ?_))
  have hT := hT.raw hz338 k343
  have hH := hH.wo k343
  have hf345 : f342 q1 = .inl (κ 0, 12967, .inl (fun _ => 0)) := (k343 _ (Ne.symm ne14)).trans hf323
  have hf346 : f342 q22 = .inl (κ 0, 25934, .inl (fun _ => 0)) := (k343 _ (Ne.symm ne35)).trans hf325
  clear hf323 hf325
  refine lv_aload_n hx hb dX12_init_85 rfl (lv_at hl 0 rfl) ?_
  refine lv_sipush (v := 400) hx hb dX12_init_86 (by decide) ?_
  refine va_newa (atype := .int) hx hb (hts (.arrayClass .int) wa_39) (ty := .int) rfl hK hP hD hS hA (a0 := (400, .inl (fun _ => 0))) (fun cA => pz_na_int cA 400) (by decide +kernel : ¬ (400 : Int32) < 0) (by decide +kernel : (400 : Int32).toNatClampNeg = 400) (by decide +kernel) (Nat.le_of_ble_eq_true rfl) (Nat.le_of_ble_eq_true rfl) dX12_init_89 (fun q347 k348 H hK hP hD hS => ?_)
  obtain ⟨e9, hK9⟩ := tp_kid 0 rfl hK; subst e9; have hK := hK9
  refine Exists.elim (tp_grow hG hT hP hD) (fun L358 hE90 => Exists.elim hE90 (fun f357 hE91 => tn_10 hE91 (fun hP hD hg349 ht350 hs351 hq352 hz353 hn354 hf355 ho356 => ?_)))
  clear hE91 hE90
  have hn359 : ∀ a, a ∈ L → a ≠ q347 := fun a ha => hn354 a (hH.1 a ha)
  have ne360 : h0 ≠ q347 := hn354 _ hl322
  have ne361 : q1 ≠ q347 := hn354 _ hl324
  have ne362 : q22 ≠ q347 := hn354 _ hl326
  have ne363 : q47 ≠ q347 := hn354 _ (tp_in hG ht332 (by decide))
  have ne364 : q83 ≠ q347 := hn354 _ (tp_in hG ht333 (by decide))
  have ne365 : q121 ≠ q347 := hn354 _ (tp_in hG ht334 (by decide))
  have ne366 : q161 ≠ q347 := hn354 _ (tp_in hG ht335 (by decide))
  have ne367 : q209 ≠ q347 := hn354 _ (tp_in hG ht336 (by decide))
  have ne368 : q253 ≠ q347 := hn354 _ (tp_in hG ht337 (by decide))
  have ne369 : q299 ≠ q347 := hn354 _ (tp_in hG ht329 (by decide))
  have hG := hg349
  have hT := ht350
  have hH := hH.gr hs351 hn354 ho356
  have hf370 : f357 h0 = .inr (12, [.int 0, .int 0, .ref q1, .ref q22, .ref q47, .ref q83, .ref q121, .int 0, .ref q161, .int 0, .int 0, .int 0, .int 0, .long 0, .int (-1), .int 0, .int 0, .int 0, .int 0, .int 0, .int 0, .ref q209, .int 0, .ref q253, .ref q299, .int 0, .null, .null, .int 0, .int 0, .null, .null, .int 0, .long 0, .long 0, .long 0, .int 0, .int 0, .int 0, .null, .null, .null, .null, .null, .null, .null, .null, .int 0, .int 0, .null, .null, .null, .null]) := (ho356 _ ne360).trans g344
  have hl371 : h0 ∈ L358 := hs351 _ hl322
  have hf372 : f357 q1 = .inl (κ 0, 12967, .inl (fun _ => 0)) := (ho356 _ ne361).trans hf345
  have hl373 : q1 ∈ L358 := hs351 _ hl324
  have hf374 : f357 q22 = .inl (κ 0, 25934, .inl (fun _ => 0)) := (ho356 _ ne362).trans hf346
  have hl375 : q22 ∈ L358 := hs351 _ hl326
  clear g344 hl322 hf345 hl324 hf346 hl326
  obtain ⟨τ_376, ν_376, ρ_376, hG, hT, hb377, ht378, hn379, hr380⟩ := tp_type hG hT hq352 hz353 56 (400) (fun _ => 0) (by decide) (fun τ9 ν9 ρ9 hE h2 h3 => ⟨trivial, by rw [hf355]; exact tp_o56⟩)
  have hH := hH.ty (fun a ha _ => hn359 a ha) hb377
  have ht381 : τ_376 q47 = 34 := (hb377 _ ne363).1.trans ht332
  have ht382 : τ_376 q83 = 35 := (hb377 _ ne364).1.trans ht333
  have ht383 : τ_376 q121 = 36 := (hb377 _ ne365).1.trans ht334
  have ht384 : τ_376 q161 = 38 := (hb377 _ ne366).1.trans ht335
  have ht385 : τ_376 q209 = 51 := (hb377 _ ne367).1.trans ht336
  have ht386 : τ_376 q253 = 53 := (hb377 _ ne368).1.trans ht337
  have ht387 : τ_376 q299 = 54 := (hb377 _ ne369).1.trans ht329
  have hz388 : τ_376 h0 = 0 := (hb377 _ ne360).1.trans hz338
  have hz389 : τ_376 q1 = 0 := (hb377 _ ne361).1.trans hz339
  have hz390 : τ_376 q22 = 0 := (hb377 _ ne362).1.trans hz340
  clear ht332 ht333 ht334 ht335 ht336 ht337 ht329 hz338 hz339 hz340 hb377 ne360 ne361 ne362 ne363 ne364 ne365 ne366 ne367 ne368 ne369
  refine tpk_pos hl371 hf370 (fun q391 eq391 => ?_)
  refine va_putF (D := (dC, dI)) (ci := 12) (v := .ref q347) (ty := (.array .int)) (C := RX12) (T := TX12) (N := 53) hx hb hts hfX12 tyX12 tyX12_ok nmX12 hown hK hP hD hS q391 eq391 rfl 26 (by decide) (hts (.fieldLink RX12 43 "ColdShipsModel" "pile" "[I") wa_159) (fun _ h9 => h9) rfl hin rfl (tyX12_ok 26 (by decide)) rfl rfl (Nat.le_of_ble_eq_true rfl) dX12_init_91 (tp_k (.inr (12, [.int 0, .int 0, .ref q1, .ref q22, .ref q47, .ref q83, .ref q121, .int 0, .ref q161, .int 0, .int 0, .int 0, .int 0, .long 0, .int (-1), .int 0, .int 0, .int 0, .int 0, .int 0, .int 0, .ref q209, .int 0, .ref q253, .ref q299, .int 0, .ref q347, .null, .int 0, .int 0, .null, .null, .int 0, .long 0, .long 0, .long 0, .int 0, .int 0, .int 0, .null, .null, .null, .null, .null, .null, .null, .null, .int 0, .int 0, .null, .null, .null, .null])) hD hl371 eq391 (fun f392 H locs hP hD hS g394 k393 => ?_))
  have hT := hT.raw hz388 k393
  have hH := hH.wo k393
  have hf395 : f392 q1 = .inl (κ 0, 12967, .inl (fun _ => 0)) := (k393 _ (Ne.symm ne14)).trans hf372
  have hf396 : f392 q22 = .inl (κ 0, 25934, .inl (fun _ => 0)) := (k393 _ (Ne.symm ne35)).trans hf374
  clear hf372 hf374
  refine lv_aload_n hx hb dX12_init_94 rfl (lv_at hl 0 rfl) ?_
  refine lv_sipush (v := 400) hx hb dX12_init_95 (by decide) ?_
  refine va_newa (atype := .int) hx hb (hts (.arrayClass .int) wa_39) (ty := .int) rfl hK hP hD hS hA (a0 := (400, .inl (fun _ => 0))) (fun cA => pz_na_int cA 400) (by decide +kernel : ¬ (400 : Int32) < 0) (by decide +kernel : (400 : Int32).toNatClampNeg = 400) (by decide +kernel) (Nat.le_of_ble_eq_true rfl) (Nat.le_of_ble_eq_true rfl) dX12_init_98 (fun q397 k398 H hK hP hD hS => ?_)
  obtain ⟨e9, hK9⟩ := tp_kid 0 rfl hK; subst e9; have hK := hK9
  refine Exists.elim (tp_grow hG hT hP hD) (fun L408 hE90 => Exists.elim hE90 (fun f407 hE91 => tn_10 hE91 (fun hP hD hg399 ht400 hs401 hq402 hz403 hn404 hf405 ho406 => ?_)))
  clear hE91 hE90
  have hn409 : ∀ a, a ∈ L → a ≠ q397 := fun a ha => hn404 a (hH.1 a ha)
  have ne410 : h0 ≠ q397 := hn404 _ hl371
  have ne411 : q1 ≠ q397 := hn404 _ hl373
  have ne412 : q22 ≠ q397 := hn404 _ hl375
  have ne413 : q47 ≠ q397 := hn404 _ (tp_in hG ht381 (by decide))
  have ne414 : q83 ≠ q397 := hn404 _ (tp_in hG ht382 (by decide))
  have ne415 : q121 ≠ q397 := hn404 _ (tp_in hG ht383 (by decide))
  have ne416 : q161 ≠ q397 := hn404 _ (tp_in hG ht384 (by decide))
  have ne417 : q209 ≠ q397 := hn404 _ (tp_in hG ht385 (by decide))
  have ne418 : q253 ≠ q397 := hn404 _ (tp_in hG ht386 (by decide))
  have ne419 : q299 ≠ q397 := hn404 _ (tp_in hG ht387 (by decide))
  have ne420 : q347 ≠ q397 := hn404 _ (tp_in hG ht378 (by decide))
  have hG := hg399
  have hT := ht400
  have hH := hH.gr hs401 hn404 ho406
  have hf421 : f407 h0 = .inr (12, [.int 0, .int 0, .ref q1, .ref q22, .ref q47, .ref q83, .ref q121, .int 0, .ref q161, .int 0, .int 0, .int 0, .int 0, .long 0, .int (-1), .int 0, .int 0, .int 0, .int 0, .int 0, .int 0, .ref q209, .int 0, .ref q253, .ref q299, .int 0, .ref q347, .null, .int 0, .int 0, .null, .null, .int 0, .long 0, .long 0, .long 0, .int 0, .int 0, .int 0, .null, .null, .null, .null, .null, .null, .null, .null, .int 0, .int 0, .null, .null, .null, .null]) := (ho406 _ ne410).trans g394
  have hl422 : h0 ∈ L408 := hs401 _ hl371
  have hf423 : f407 q1 = .inl (κ 0, 12967, .inl (fun _ => 0)) := (ho406 _ ne411).trans hf395
  have hl424 : q1 ∈ L408 := hs401 _ hl373
  have hf425 : f407 q22 = .inl (κ 0, 25934, .inl (fun _ => 0)) := (ho406 _ ne412).trans hf396
  have hl426 : q22 ∈ L408 := hs401 _ hl375
  clear g394 hl371 hf395 hl373 hf396 hl375
  obtain ⟨τ_427, ν_427, ρ_427, hG, hT, hb428, ht429, hn430, hr431⟩ := tp_type hG hT hq402 hz403 57 (400) (fun _ => 0) (by decide) (fun τ9 ν9 ρ9 hE h2 h3 => ⟨trivial, by rw [hf405]; exact tp_o57⟩)
  have hH := hH.ty (fun a ha _ => hn409 a ha) hb428
  have ht432 : τ_427 q47 = 34 := (hb428 _ ne413).1.trans ht381
  have ht433 : τ_427 q83 = 35 := (hb428 _ ne414).1.trans ht382
  have ht434 : τ_427 q121 = 36 := (hb428 _ ne415).1.trans ht383
  have ht435 : τ_427 q161 = 38 := (hb428 _ ne416).1.trans ht384
  have ht436 : τ_427 q209 = 51 := (hb428 _ ne417).1.trans ht385
  have ht437 : τ_427 q253 = 53 := (hb428 _ ne418).1.trans ht386
  have ht438 : τ_427 q299 = 54 := (hb428 _ ne419).1.trans ht387
  have ht439 : τ_427 q347 = 56 := (hb428 _ ne420).1.trans ht378
  have hz440 : τ_427 h0 = 0 := (hb428 _ ne410).1.trans hz388
  have hz441 : τ_427 q1 = 0 := (hb428 _ ne411).1.trans hz389
  have hz442 : τ_427 q22 = 0 := (hb428 _ ne412).1.trans hz390
  clear ht381 ht382 ht383 ht384 ht385 ht386 ht387 ht378 hz388 hz389 hz390 hb428 ne410 ne411 ne412 ne413 ne414 ne415 ne416 ne417 ne418 ne419 ne420
  refine tpk_pos hl422 hf421 (fun q443 eq443 => ?_)
  refine va_putF (D := (dC, dI)) (ci := 12) (v := .ref q397) (ty := (.array .int)) (C := RX12) (T := TX12) (N := 53) hx hb hts hfX12 tyX12 tyX12_ok nmX12 hown hK hP hD hS q443 eq443 rfl 27 (by decide) (hts (.fieldLink RX12 46 "ColdShipsModel" "pileAt" "[I") wa_160) (fun _ h9 => h9) rfl hin rfl (tyX12_ok 27 (by decide)) rfl rfl (Nat.le_of_ble_eq_true rfl) dX12_init_100 (tp_k (.inr (12, [.int 0, .int 0, .ref q1, .ref q22, .ref q47, .ref q83, .ref q121, .int 0, .ref q161, .int 0, .int 0, .int 0, .int 0, .long 0, .int (-1), .int 0, .int 0, .int 0, .int 0, .int 0, .int 0, .ref q209, .int 0, .ref q253, .ref q299, .int 0, .ref q347, .ref q397, .int 0, .int 0, .null, .null, .int 0, .long 0, .long 0, .long 0, .int 0, .int 0, .int 0, .null, .null, .null, .null, .null, .null, .null, .null, .int 0, .int 0, .null, .null, .null, .null])) hD hl422 eq443 (fun f444 H locs hP hD hS g446 k445 => ?_))
  have hT := hT.raw hz440 k445
  have hH := hH.wo k445
  have hf447 : f444 q1 = .inl (κ 0, 12967, .inl (fun _ => 0)) := (k445 _ (Ne.symm ne14)).trans hf423
  have hf448 : f444 q22 = .inl (κ 0, 25934, .inl (fun _ => 0)) := (k445 _ (Ne.symm ne35)).trans hf425
  clear hf423 hf425
  refine lv_aload_n hx hb dX12_init_103 rfl (lv_at hl 0 rfl) ?_
  refine lv_bipush (v := 9) hx hb dX12_init_104 (by decide) ?_
  refine va_newa (atype := .long) hx hb (hts (.arrayClass .long) wa_82) (ty := .long) rfl hK hP hD hS hA (a0 := (9, .inr (.inl (fun _ => 0)))) (fun cA => pz_na_long cA 9) (by decide +kernel : ¬ (9 : Int32) < 0) (by decide +kernel : (9 : Int32).toNatClampNeg = 9) (by decide +kernel) (Nat.le_of_ble_eq_true rfl) (Nat.le_of_ble_eq_true rfl) dX12_init_106 (fun q449 k450 H hK hP hD hS => ?_)
  obtain ⟨e9, hK9⟩ := tp_kid 1 rfl hK; subst e9; have hK := hK9
  refine Exists.elim (tp_grow hG hT hP hD) (fun L460 hE90 => Exists.elim hE90 (fun f459 hE91 => tn_10 hE91 (fun hP hD hg451 ht452 hs453 hq454 hz455 hn456 hf457 ho458 => ?_)))
  clear hE91 hE90
  have hn461 : ∀ a, a ∈ L → a ≠ q449 := fun a ha => hn456 a (hH.1 a ha)
  have ne462 : h0 ≠ q449 := hn456 _ hl422
  have ne463 : q1 ≠ q449 := hn456 _ hl424
  have ne464 : q22 ≠ q449 := hn456 _ hl426
  have ne465 : q47 ≠ q449 := hn456 _ (tp_in hG ht432 (by decide))
  have ne466 : q83 ≠ q449 := hn456 _ (tp_in hG ht433 (by decide))
  have ne467 : q121 ≠ q449 := hn456 _ (tp_in hG ht434 (by decide))
  have ne468 : q161 ≠ q449 := hn456 _ (tp_in hG ht435 (by decide))
  have ne469 : q209 ≠ q449 := hn456 _ (tp_in hG ht436 (by decide))
  have ne470 : q253 ≠ q449 := hn456 _ (tp_in hG ht437 (by decide))
  have ne471 : q299 ≠ q449 := hn456 _ (tp_in hG ht438 (by decide))
  have ne472 : q347 ≠ q449 := hn456 _ (tp_in hG ht439 (by decide))
  have ne473 : q397 ≠ q449 := hn456 _ (tp_in hG ht429 (by decide))
  have hG := hg451
  have hT := ht452
  have hH := hH.gr hs453 hn456 ho458
  have hf474 : f459 h0 = .inr (12, [.int 0, .int 0, .ref q1, .ref q22, .ref q47, .ref q83, .ref q121, .int 0, .ref q161, .int 0, .int 0, .int 0, .int 0, .long 0, .int (-1), .int 0, .int 0, .int 0, .int 0, .int 0, .int 0, .ref q209, .int 0, .ref q253, .ref q299, .int 0, .ref q347, .ref q397, .int 0, .int 0, .null, .null, .int 0, .long 0, .long 0, .long 0, .int 0, .int 0, .int 0, .null, .null, .null, .null, .null, .null, .null, .null, .int 0, .int 0, .null, .null, .null, .null]) := (ho458 _ ne462).trans g446
  have hl475 : h0 ∈ L460 := hs453 _ hl422
  have hf476 : f459 q1 = .inl (κ 0, 12967, .inl (fun _ => 0)) := (ho458 _ ne463).trans hf447
  have hl477 : q1 ∈ L460 := hs453 _ hl424
  have hf478 : f459 q22 = .inl (κ 0, 25934, .inl (fun _ => 0)) := (ho458 _ ne464).trans hf448
  have hl479 : q22 ∈ L460 := hs453 _ hl426
  clear g446 hl422 hf447 hl424 hf448 hl426
  obtain ⟨τ_480, ν_480, ρ_480, hG, hT, hb481, ht482, hn483, hr484⟩ := tp_type hG hT hq454 hz455 60 (9) (fun _ => 0) (by decide) (fun τ9 ν9 ρ9 hE h2 h3 => ⟨trivial, by rw [hf457]; exact tp_o60⟩)
  have hH := hH.ty (fun a ha _ => hn461 a ha) hb481
  have ht485 : τ_480 q47 = 34 := (hb481 _ ne465).1.trans ht432
  have ht486 : τ_480 q83 = 35 := (hb481 _ ne466).1.trans ht433
  have ht487 : τ_480 q121 = 36 := (hb481 _ ne467).1.trans ht434
  have ht488 : τ_480 q161 = 38 := (hb481 _ ne468).1.trans ht435
  have ht489 : τ_480 q209 = 51 := (hb481 _ ne469).1.trans ht436
  have ht490 : τ_480 q253 = 53 := (hb481 _ ne470).1.trans ht437
  have ht491 : τ_480 q299 = 54 := (hb481 _ ne471).1.trans ht438
  have ht492 : τ_480 q347 = 56 := (hb481 _ ne472).1.trans ht439
  have ht493 : τ_480 q397 = 57 := (hb481 _ ne473).1.trans ht429
  have hz494 : τ_480 h0 = 0 := (hb481 _ ne462).1.trans hz440
  have hz495 : τ_480 q1 = 0 := (hb481 _ ne463).1.trans hz441
  have hz496 : τ_480 q22 = 0 := (hb481 _ ne464).1.trans hz442
  clear ht432 ht433 ht434 ht435 ht436 ht437 ht438 ht439 ht429 hz440 hz441 hz442 hb481 ne462 ne463 ne464 ne465 ne466 ne467 ne468 ne469 ne470 ne471 ne472 ne473
  refine tpk_pos hl475 hf474 (fun q497 eq497 => ?_)
  refine va_putF (D := (dC, dI)) (ci := 12) (v := .ref q449) (ty := (.array .long)) (C := RX12) (T := TX12) (N := 53) hx hb hts hfX12 tyX12 tyX12_ok nmX12 hown hK hP hD hS q497 eq497 rfl 30 (by decide) (hts (.fieldLink RX12 49 "ColdShipsModel" "set" "[J") wa_161) (fun _ h9 => h9) rfl hin rfl (tyX12_ok 30 (by decide)) rfl rfl (Nat.le_of_ble_eq_true rfl) dX12_init_108 (tp_k (.inr (12, [.int 0, .int 0, .ref q1, .ref q22, .ref q47, .ref q83, .ref q121, .int 0, .ref q161, .int 0, .int 0, .int 0, .int 0, .long 0, .int (-1), .int 0, .int 0, .int 0, .int 0, .int 0, .int 0, .ref q209, .int 0, .ref q253, .ref q299, .int 0, .ref q347, .ref q397, .int 0, .int 0, .ref q449, .null, .int 0, .long 0, .long 0, .long 0, .int 0, .int 0, .int 0, .null, .null, .null, .null, .null, .null, .null, .null, .int 0, .int 0, .null, .null, .null, .null])) hD hl475 eq497 (fun f498 H locs hP hD hS g500 k499 => ?_))
  have hT := hT.raw hz494 k499
  have hH := hH.wo k499
  have hf501 : f498 q1 = .inl (κ 0, 12967, .inl (fun _ => 0)) := (k499 _ (Ne.symm ne14)).trans hf476
  have hf502 : f498 q22 = .inl (κ 0, 25934, .inl (fun _ => 0)) := (k499 _ (Ne.symm ne35)).trans hf478
  clear hf476 hf478
  refine lv_aload_n hx hb dX12_init_111 rfl (lv_at hl 0 rfl) ?_
  refine lv_sipush (v := 400) hx hb dX12_init_112 (by decide) ?_
  refine va_newa (atype := .long) hx hb (hts (.arrayClass .long) wa_82) (ty := .long) rfl hK hP hD hS hA (a0 := (400, .inr (.inl (fun _ => 0)))) (fun cA => pz_na_long cA 400) (by decide +kernel : ¬ (400 : Int32) < 0) (by decide +kernel : (400 : Int32).toNatClampNeg = 400) (by decide +kernel) (Nat.le_of_ble_eq_true rfl) (Nat.le_of_ble_eq_true rfl) dX12_init_115 (fun q503 k504 H hK hP hD hS => ?_)
  obtain ⟨e9, hK9⟩ := tp_kid 1 rfl hK; subst e9; have hK := hK9
  refine Exists.elim (tp_grow hG hT hP hD) (fun L514 hE90 => Exists.elim hE90 (fun f513 hE91 => tn_10 hE91 (fun hP hD hg505 ht506 hs507 hq508 hz509 hn510 hf511 ho512 => ?_)))
  clear hE91 hE90
  have hn515 : ∀ a, a ∈ L → a ≠ q503 := fun a ha => hn510 a (hH.1 a ha)
  have ne516 : h0 ≠ q503 := hn510 _ hl475
  have ne517 : q1 ≠ q503 := hn510 _ hl477
  have ne518 : q22 ≠ q503 := hn510 _ hl479
  have ne519 : q47 ≠ q503 := hn510 _ (tp_in hG ht485 (by decide))
  have ne520 : q83 ≠ q503 := hn510 _ (tp_in hG ht486 (by decide))
  have ne521 : q121 ≠ q503 := hn510 _ (tp_in hG ht487 (by decide))
  have ne522 : q161 ≠ q503 := hn510 _ (tp_in hG ht488 (by decide))
  have ne523 : q209 ≠ q503 := hn510 _ (tp_in hG ht489 (by decide))
  have ne524 : q253 ≠ q503 := hn510 _ (tp_in hG ht490 (by decide))
  have ne525 : q299 ≠ q503 := hn510 _ (tp_in hG ht491 (by decide))
  have ne526 : q347 ≠ q503 := hn510 _ (tp_in hG ht492 (by decide))
  have ne527 : q397 ≠ q503 := hn510 _ (tp_in hG ht493 (by decide))
  have ne528 : q449 ≠ q503 := hn510 _ (tp_in hG ht482 (by decide))
  have hG := hg505
  have hT := ht506
  have hH := hH.gr hs507 hn510 ho512
  have hf529 : f513 h0 = .inr (12, [.int 0, .int 0, .ref q1, .ref q22, .ref q47, .ref q83, .ref q121, .int 0, .ref q161, .int 0, .int 0, .int 0, .int 0, .long 0, .int (-1), .int 0, .int 0, .int 0, .int 0, .int 0, .int 0, .ref q209, .int 0, .ref q253, .ref q299, .int 0, .ref q347, .ref q397, .int 0, .int 0, .ref q449, .null, .int 0, .long 0, .long 0, .long 0, .int 0, .int 0, .int 0, .null, .null, .null, .null, .null, .null, .null, .null, .int 0, .int 0, .null, .null, .null, .null]) := (ho512 _ ne516).trans g500
  have hl530 : h0 ∈ L514 := hs507 _ hl475
  have hf531 : f513 q1 = .inl (κ 0, 12967, .inl (fun _ => 0)) := (ho512 _ ne517).trans hf501
  have hl532 : q1 ∈ L514 := hs507 _ hl477
  have hf533 : f513 q22 = .inl (κ 0, 25934, .inl (fun _ => 0)) := (ho512 _ ne518).trans hf502
  have hl534 : q22 ∈ L514 := hs507 _ hl479
  clear g500 hl475 hf501 hl477 hf502 hl479
  obtain ⟨τ_535, ν_535, ρ_535, hG, hT, hb536, ht537, hn538, hr539⟩ := tp_type hG hT hq508 hz509 61 (400) (fun _ => 0) (by decide) (fun τ9 ν9 ρ9 hE h2 h3 => ⟨trivial, by rw [hf511]; exact tp_o61⟩)
  have hH := hH.ty (fun a ha _ => hn515 a ha) hb536
  have ht540 : τ_535 q47 = 34 := (hb536 _ ne519).1.trans ht485
  have ht541 : τ_535 q83 = 35 := (hb536 _ ne520).1.trans ht486
  have ht542 : τ_535 q121 = 36 := (hb536 _ ne521).1.trans ht487
  have ht543 : τ_535 q161 = 38 := (hb536 _ ne522).1.trans ht488
  have ht544 : τ_535 q209 = 51 := (hb536 _ ne523).1.trans ht489
  have ht545 : τ_535 q253 = 53 := (hb536 _ ne524).1.trans ht490
  have ht546 : τ_535 q299 = 54 := (hb536 _ ne525).1.trans ht491
  have ht547 : τ_535 q347 = 56 := (hb536 _ ne526).1.trans ht492
  have ht548 : τ_535 q397 = 57 := (hb536 _ ne527).1.trans ht493
  have ht549 : τ_535 q449 = 60 := (hb536 _ ne528).1.trans ht482
  have hz550 : τ_535 h0 = 0 := (hb536 _ ne516).1.trans hz494
  have hz551 : τ_535 q1 = 0 := (hb536 _ ne517).1.trans hz495
  have hz552 : τ_535 q22 = 0 := (hb536 _ ne518).1.trans hz496
  clear ht485 ht486 ht487 ht488 ht489 ht490 ht491 ht492 ht493 ht482 hz494 hz495 hz496 hb536 ne516 ne517 ne518 ne519 ne520 ne521 ne522 ne523 ne524 ne525 ne526 ne527 ne528
  refine tpk_pos hl530 hf529 (fun q553 eq553 => ?_)
  refine va_putF (D := (dC, dI)) (ci := 12) (v := .ref q503) (ty := (.array .long)) (C := RX12) (T := TX12) (N := 53) hx hb hts hfX12 tyX12 tyX12_ok nmX12 hown hK hP hD hS q553 eq553 rfl 31 (by decide) (hts (.fieldLink RX12 52 "ColdShipsModel" "rest" "[J") wa_162) (fun _ h9 => h9) rfl hin rfl (tyX12_ok 31 (by decide)) rfl rfl (Nat.le_of_ble_eq_true rfl) dX12_init_117 (tp_k (.inr (12, [.int 0, .int 0, .ref q1, .ref q22, .ref q47, .ref q83, .ref q121, .int 0, .ref q161, .int 0, .int 0, .int 0, .int 0, .long 0, .int (-1), .int 0, .int 0, .int 0, .int 0, .int 0, .int 0, .ref q209, .int 0, .ref q253, .ref q299, .int 0, .ref q347, .ref q397, .int 0, .int 0, .ref q449, .ref q503, .int 0, .long 0, .long 0, .long 0, .int 0, .int 0, .int 0, .null, .null, .null, .null, .null, .null, .null, .null, .int 0, .int 0, .null, .null, .null, .null])) hD hl530 eq553 (fun f554 H locs hP hD hS g556 k555 => ?_))
  have hT := hT.raw hz550 k555
  have hH := hH.wo k555
  have hf557 : f554 q1 = .inl (κ 0, 12967, .inl (fun _ => 0)) := (k555 _ (Ne.symm ne14)).trans hf531
  have hf558 : f554 q22 = .inl (κ 0, 25934, .inl (fun _ => 0)) := (k555 _ (Ne.symm ne35)).trans hf533
  clear hf531 hf533
  refine lv_aload_n hx hb dX12_init_120 rfl (lv_at hl 0 rfl) ?_
  refine lv_bipush (v := 6) hx hb dX12_init_121 (by decide) ?_
  refine va_newa (atype := .int) hx hb (hts (.arrayClass .int) wa_39) (ty := .int) rfl hK hP hD hS hA (a0 := (6, .inl (fun _ => 0))) (fun cA => pz_na_int cA 6) (by decide +kernel : ¬ (6 : Int32) < 0) (by decide +kernel : (6 : Int32).toNatClampNeg = 6) (by decide +kernel) (Nat.le_of_ble_eq_true rfl) (Nat.le_of_ble_eq_true rfl) dX12_init_123 (fun q559 k560 H hK hP hD hS => ?_)
  obtain ⟨e9, hK9⟩ := tp_kid 0 rfl hK; subst e9; have hK := hK9
  refine Exists.elim (tp_grow hG hT hP hD) (fun L570 hE90 => Exists.elim hE90 (fun f569 hE91 => tn_10 hE91 (fun hP hD hg561 ht562 hs563 hq564 hz565 hn566 hf567 ho568 => ?_)))
  clear hE91 hE90
  have hn571 : ∀ a, a ∈ L → a ≠ q559 := fun a ha => hn566 a (hH.1 a ha)
  have ne572 : h0 ≠ q559 := hn566 _ hl530
  have ne573 : q1 ≠ q559 := hn566 _ hl532
  have ne574 : q22 ≠ q559 := hn566 _ hl534
  have ne575 : q47 ≠ q559 := hn566 _ (tp_in hG ht540 (by decide))
  have ne576 : q83 ≠ q559 := hn566 _ (tp_in hG ht541 (by decide))
  have ne577 : q121 ≠ q559 := hn566 _ (tp_in hG ht542 (by decide))
  have ne578 : q161 ≠ q559 := hn566 _ (tp_in hG ht543 (by decide))
  have ne579 : q209 ≠ q559 := hn566 _ (tp_in hG ht544 (by decide))
  have ne580 : q253 ≠ q559 := hn566 _ (tp_in hG ht545 (by decide))
  have ne581 : q299 ≠ q559 := hn566 _ (tp_in hG ht546 (by decide))
  have ne582 : q347 ≠ q559 := hn566 _ (tp_in hG ht547 (by decide))
  have ne583 : q397 ≠ q559 := hn566 _ (tp_in hG ht548 (by decide))
  have ne584 : q449 ≠ q559 := hn566 _ (tp_in hG ht549 (by decide))
  have ne585 : q503 ≠ q559 := hn566 _ (tp_in hG ht537 (by decide))
  have hG := hg561
  have hT := ht562
  have hH := hH.gr hs563 hn566 ho568
  have hf586 : f569 h0 = .inr (12, [.int 0, .int 0, .ref q1, .ref q22, .ref q47, .ref q83, .ref q121, .int 0, .ref q161, .int 0, .int 0, .int 0, .int 0, .long 0, .int (-1), .int 0, .int 0, .int 0, .int 0, .int 0, .int 0, .ref q209, .int 0, .ref q253, .ref q299, .int 0, .ref q347, .ref q397, .int 0, .int 0, .ref q449, .ref q503, .int 0, .long 0, .long 0, .long 0, .int 0, .int 0, .int 0, .null, .null, .null, .null, .null, .null, .null, .null, .int 0, .int 0, .null, .null, .null, .null]) := (ho568 _ ne572).trans g556
  have hl587 : h0 ∈ L570 := hs563 _ hl530
  have hf588 : f569 q1 = .inl (κ 0, 12967, .inl (fun _ => 0)) := (ho568 _ ne573).trans hf557
  have hl589 : q1 ∈ L570 := hs563 _ hl532
  have hf590 : f569 q22 = .inl (κ 0, 25934, .inl (fun _ => 0)) := (ho568 _ ne574).trans hf558
  have hl591 : q22 ∈ L570 := hs563 _ hl534
  clear g556 hl530 hf557 hl532 hf558 hl534
  obtain ⟨τ_592, ν_592, ρ_592, hG, hT, hb593, ht594, hn595, hr596⟩ := tp_type hG hT hq564 hz565 69 (6) (fun _ => 0) (by decide) (fun τ9 ν9 ρ9 hE h2 h3 => ⟨trivial, by rw [hf567]; exact tp_o69⟩)
  have hH := hH.ty (fun a ha _ => hn571 a ha) hb593
  have ht597 : τ_592 q47 = 34 := (hb593 _ ne575).1.trans ht540
  have ht598 : τ_592 q83 = 35 := (hb593 _ ne576).1.trans ht541
  have ht599 : τ_592 q121 = 36 := (hb593 _ ne577).1.trans ht542
  have ht600 : τ_592 q161 = 38 := (hb593 _ ne578).1.trans ht543
  have ht601 : τ_592 q209 = 51 := (hb593 _ ne579).1.trans ht544
  have ht602 : τ_592 q253 = 53 := (hb593 _ ne580).1.trans ht545
  have ht603 : τ_592 q299 = 54 := (hb593 _ ne581).1.trans ht546
  have ht604 : τ_592 q347 = 56 := (hb593 _ ne582).1.trans ht547
  have ht605 : τ_592 q397 = 57 := (hb593 _ ne583).1.trans ht548
  have ht606 : τ_592 q449 = 60 := (hb593 _ ne584).1.trans ht549
  have ht607 : τ_592 q503 = 61 := (hb593 _ ne585).1.trans ht537
  have hz608 : τ_592 h0 = 0 := (hb593 _ ne572).1.trans hz550
  have hz609 : τ_592 q1 = 0 := (hb593 _ ne573).1.trans hz551
  have hz610 : τ_592 q22 = 0 := (hb593 _ ne574).1.trans hz552
  clear ht540 ht541 ht542 ht543 ht544 ht545 ht546 ht547 ht548 ht549 ht537 hz550 hz551 hz552 hb593 ne572 ne573 ne574 ne575 ne576 ne577 ne578 ne579 ne580 ne581 ne582 ne583 ne584 ne585
  refine tpk_pos hl587 hf586 (fun q611 eq611 => ?_)
  refine va_putF (D := (dC, dI)) (ci := 12) (v := .ref q559) (ty := (.array .int)) (C := RX12) (T := TX12) (N := 53) hx hb hts hfX12 tyX12 tyX12_ok nmX12 hown hK hP hD hS q611 eq611 rfl 39 (by decide) (hts (.fieldLink RX12 55 "ColdShipsModel" "loads" "[I") wa_163) (fun _ h9 => h9) rfl hin rfl (tyX12_ok 39 (by decide)) rfl rfl (Nat.le_of_ble_eq_true rfl) dX12_init_125 (tp_k (.inr (12, [.int 0, .int 0, .ref q1, .ref q22, .ref q47, .ref q83, .ref q121, .int 0, .ref q161, .int 0, .int 0, .int 0, .int 0, .long 0, .int (-1), .int 0, .int 0, .int 0, .int 0, .int 0, .int 0, .ref q209, .int 0, .ref q253, .ref q299, .int 0, .ref q347, .ref q397, .int 0, .int 0, .ref q449, .ref q503, .int 0, .long 0, .long 0, .long 0, .int 0, .int 0, .int 0, .ref q559, .null, .null, .null, .null, .null, .null, .null, .int 0, .int 0, .null, .null, .null, .null])) hD hl587 eq611 (fun f612 H locs hP hD hS g614 k613 => ?_))
  have hT := hT.raw hz608 k613
  have hH := hH.wo k613
  have hf615 : f612 q1 = .inl (κ 0, 12967, .inl (fun _ => 0)) := (k613 _ (Ne.symm ne14)).trans hf588
  have hf616 : f612 q22 = .inl (κ 0, 25934, .inl (fun _ => 0)) := (k613 _ (Ne.symm ne35)).trans hf590
  clear hf588 hf590
  refine lv_aload_n hx hb dX12_init_128 rfl (lv_at hl 0 rfl) ?_
  refine lv_bipush (v := 6) hx hb dX12_init_129 (by decide) ?_
  refine va_newa (atype := .int) hx hb (hts (.arrayClass .int) wa_39) (ty := .int) rfl hK hP hD hS hA (a0 := (6, .inl (fun _ => 0))) (fun cA => pz_na_int cA 6) (by decide +kernel : ¬ (6 : Int32) < 0) (by decide +kernel : (6 : Int32).toNatClampNeg = 6) (by decide +kernel) (Nat.le_of_ble_eq_true rfl) (Nat.le_of_ble_eq_true rfl) dX12_init_131 (fun q617 k618 H hK hP hD hS => ?_)
  obtain ⟨e9, hK9⟩ := tp_kid 0 rfl hK; subst e9; have hK := hK9
  refine Exists.elim (tp_grow hG hT hP hD) (fun L628 hE90 => Exists.elim hE90 (fun f627 hE91 => tn_10 hE91 (fun hP hD hg619 ht620 hs621 hq622 hz623 hn624 hf625 ho626 => ?_)))
  clear hE91 hE90
  have hn629 : ∀ a, a ∈ L → a ≠ q617 := fun a ha => hn624 a (hH.1 a ha)
  have ne630 : h0 ≠ q617 := hn624 _ hl587
  have ne631 : q1 ≠ q617 := hn624 _ hl589
  have ne632 : q22 ≠ q617 := hn624 _ hl591
  have ne633 : q47 ≠ q617 := hn624 _ (tp_in hG ht597 (by decide))
  have ne634 : q83 ≠ q617 := hn624 _ (tp_in hG ht598 (by decide))
  have ne635 : q121 ≠ q617 := hn624 _ (tp_in hG ht599 (by decide))
  have ne636 : q161 ≠ q617 := hn624 _ (tp_in hG ht600 (by decide))
  have ne637 : q209 ≠ q617 := hn624 _ (tp_in hG ht601 (by decide))
  have ne638 : q253 ≠ q617 := hn624 _ (tp_in hG ht602 (by decide))
  have ne639 : q299 ≠ q617 := hn624 _ (tp_in hG ht603 (by decide))
  have ne640 : q347 ≠ q617 := hn624 _ (tp_in hG ht604 (by decide))
  have ne641 : q397 ≠ q617 := hn624 _ (tp_in hG ht605 (by decide))
  have ne642 : q449 ≠ q617 := hn624 _ (tp_in hG ht606 (by decide))
  have ne643 : q503 ≠ q617 := hn624 _ (tp_in hG ht607 (by decide))
  have ne644 : q559 ≠ q617 := hn624 _ (tp_in hG ht594 (by decide))
  have hG := hg619
  have hT := ht620
  have hH := hH.gr hs621 hn624 ho626
  have hf645 : f627 h0 = .inr (12, [.int 0, .int 0, .ref q1, .ref q22, .ref q47, .ref q83, .ref q121, .int 0, .ref q161, .int 0, .int 0, .int 0, .int 0, .long 0, .int (-1), .int 0, .int 0, .int 0, .int 0, .int 0, .int 0, .ref q209, .int 0, .ref q253, .ref q299, .int 0, .ref q347, .ref q397, .int 0, .int 0, .ref q449, .ref q503, .int 0, .long 0, .long 0, .long 0, .int 0, .int 0, .int 0, .ref q559, .null, .null, .null, .null, .null, .null, .null, .int 0, .int 0, .null, .null, .null, .null]) := (ho626 _ ne630).trans g614
  have hl646 : h0 ∈ L628 := hs621 _ hl587
  have hf647 : f627 q1 = .inl (κ 0, 12967, .inl (fun _ => 0)) := (ho626 _ ne631).trans hf615
  have hl648 : q1 ∈ L628 := hs621 _ hl589
  have hf649 : f627 q22 = .inl (κ 0, 25934, .inl (fun _ => 0)) := (ho626 _ ne632).trans hf616
  have hl650 : q22 ∈ L628 := hs621 _ hl591
  clear g614 hl587 hf615 hl589 hf616 hl591
  obtain ⟨τ_651, ν_651, ρ_651, hG, hT, hb652, ht653, hn654, hr655⟩ := tp_type hG hT hq622 hz623 70 (6) (fun _ => 0) (by decide) (fun τ9 ν9 ρ9 hE h2 h3 => ⟨trivial, by rw [hf625]; exact tp_o70⟩)
  have hH := hH.ty (fun a ha _ => hn629 a ha) hb652
  have ht656 : τ_651 q47 = 34 := (hb652 _ ne633).1.trans ht597
  have ht657 : τ_651 q83 = 35 := (hb652 _ ne634).1.trans ht598
  have ht658 : τ_651 q121 = 36 := (hb652 _ ne635).1.trans ht599
  have ht659 : τ_651 q161 = 38 := (hb652 _ ne636).1.trans ht600
  have ht660 : τ_651 q209 = 51 := (hb652 _ ne637).1.trans ht601
  have ht661 : τ_651 q253 = 53 := (hb652 _ ne638).1.trans ht602
  have ht662 : τ_651 q299 = 54 := (hb652 _ ne639).1.trans ht603
  have ht663 : τ_651 q347 = 56 := (hb652 _ ne640).1.trans ht604
  have ht664 : τ_651 q397 = 57 := (hb652 _ ne641).1.trans ht605
  have ht665 : τ_651 q449 = 60 := (hb652 _ ne642).1.trans ht606
  have ht666 : τ_651 q503 = 61 := (hb652 _ ne643).1.trans ht607
  have ht667 : τ_651 q559 = 69 := (hb652 _ ne644).1.trans ht594
  have hz668 : τ_651 h0 = 0 := (hb652 _ ne630).1.trans hz608
  have hz669 : τ_651 q1 = 0 := (hb652 _ ne631).1.trans hz609
  have hz670 : τ_651 q22 = 0 := (hb652 _ ne632).1.trans hz610
  clear ht597 ht598 ht599 ht600 ht601 ht602 ht603 ht604 ht605 ht606 ht607 ht594 hz608 hz609 hz610 hb652 ne630 ne631 ne632 ne633 ne634 ne635 ne636 ne637 ne638 ne639 ne640 ne641 ne642 ne643 ne644
  refine tpk_pos hl646 hf645 (fun q671 eq671 => ?_)
  refine va_putF (D := (dC, dI)) (ci := 12) (v := .ref q617) (ty := (.array .int)) (C := RX12) (T := TX12) (N := 53) hx hb hts hfX12 tyX12 tyX12_ok nmX12 hown hK hP hD hS q671 eq671 rfl 40 (by decide) (hts (.fieldLink RX12 58 "ColdShipsModel" "lands" "[I") wa_164) (fun _ h9 => h9) rfl hin rfl (tyX12_ok 40 (by decide)) rfl rfl (Nat.le_of_ble_eq_true rfl) dX12_init_133 (tp_k (.inr (12, [.int 0, .int 0, .ref q1, .ref q22, .ref q47, .ref q83, .ref q121, .int 0, .ref q161, .int 0, .int 0, .int 0, .int 0, .long 0, .int (-1), .int 0, .int 0, .int 0, .int 0, .int 0, .int 0, .ref q209, .int 0, .ref q253, .ref q299, .int 0, .ref q347, .ref q397, .int 0, .int 0, .ref q449, .ref q503, .int 0, .long 0, .long 0, .long 0, .int 0, .int 0, .int 0, .ref q559, .ref q617, .null, .null, .null, .null, .null, .null, .int 0, .int 0, .null, .null, .null, .null])) hD hl646 eq671 (fun f672 H locs hP hD hS g674 k673 => ?_))
  have hT := hT.raw hz668 k673
  have hH := hH.wo k673
  have hf675 : f672 q1 = .inl (κ 0, 12967, .inl (fun _ => 0)) := (k673 _ (Ne.symm ne14)).trans hf647
  have hf676 : f672 q22 = .inl (κ 0, 25934, .inl (fun _ => 0)) := (k673 _ (Ne.symm ne35)).trans hf649
  clear hf647 hf649
  refine lv_aload_n hx hb dX12_init_136 rfl (lv_at hl 0 rfl) ?_
  refine lv_bipush (v := 6) hx hb dX12_init_137 (by decide) ?_
  refine va_newa (atype := .long) hx hb (hts (.arrayClass .long) wa_82) (ty := .long) rfl hK hP hD hS hA (a0 := (6, .inr (.inl (fun _ => 0)))) (fun cA => pz_na_long cA 6) (by decide +kernel : ¬ (6 : Int32) < 0) (by decide +kernel : (6 : Int32).toNatClampNeg = 6) (by decide +kernel) (Nat.le_of_ble_eq_true rfl) (Nat.le_of_ble_eq_true rfl) dX12_init_139 (fun q677 k678 H hK hP hD hS => ?_)
  obtain ⟨e9, hK9⟩ := tp_kid 1 rfl hK; subst e9; have hK := hK9
  refine Exists.elim (tp_grow hG hT hP hD) (fun L688 hE90 => Exists.elim hE90 (fun f687 hE91 => tn_10 hE91 (fun hP hD hg679 ht680 hs681 hq682 hz683 hn684 hf685 ho686 => ?_)))
  clear hE91 hE90
  have hn689 : ∀ a, a ∈ L → a ≠ q677 := fun a ha => hn684 a (hH.1 a ha)
  have ne690 : h0 ≠ q677 := hn684 _ hl646
  have ne691 : q1 ≠ q677 := hn684 _ hl648
  have ne692 : q22 ≠ q677 := hn684 _ hl650
  have ne693 : q47 ≠ q677 := hn684 _ (tp_in hG ht656 (by decide))
  have ne694 : q83 ≠ q677 := hn684 _ (tp_in hG ht657 (by decide))
  have ne695 : q121 ≠ q677 := hn684 _ (tp_in hG ht658 (by decide))
  have ne696 : q161 ≠ q677 := hn684 _ (tp_in hG ht659 (by decide))
  have ne697 : q209 ≠ q677 := hn684 _ (tp_in hG ht660 (by decide))
  have ne698 : q253 ≠ q677 := hn684 _ (tp_in hG ht661 (by decide))
  have ne699 : q299 ≠ q677 := hn684 _ (tp_in hG ht662 (by decide))
  have ne700 : q347 ≠ q677 := hn684 _ (tp_in hG ht663 (by decide))
  have ne701 : q397 ≠ q677 := hn684 _ (tp_in hG ht664 (by decide))
  have ne702 : q449 ≠ q677 := hn684 _ (tp_in hG ht665 (by decide))
  have ne703 : q503 ≠ q677 := hn684 _ (tp_in hG ht666 (by decide))
  have ne704 : q559 ≠ q677 := hn684 _ (tp_in hG ht667 (by decide))
  have ne705 : q617 ≠ q677 := hn684 _ (tp_in hG ht653 (by decide))
  have hG := hg679
  have hT := ht680
  have hH := hH.gr hs681 hn684 ho686
  have hf706 : f687 h0 = .inr (12, [.int 0, .int 0, .ref q1, .ref q22, .ref q47, .ref q83, .ref q121, .int 0, .ref q161, .int 0, .int 0, .int 0, .int 0, .long 0, .int (-1), .int 0, .int 0, .int 0, .int 0, .int 0, .int 0, .ref q209, .int 0, .ref q253, .ref q299, .int 0, .ref q347, .ref q397, .int 0, .int 0, .ref q449, .ref q503, .int 0, .long 0, .long 0, .long 0, .int 0, .int 0, .int 0, .ref q559, .ref q617, .null, .null, .null, .null, .null, .null, .int 0, .int 0, .null, .null, .null, .null]) := (ho686 _ ne690).trans g674
  have hl707 : h0 ∈ L688 := hs681 _ hl646
  have hf708 : f687 q1 = .inl (κ 0, 12967, .inl (fun _ => 0)) := (ho686 _ ne691).trans hf675
  have hl709 : q1 ∈ L688 := hs681 _ hl648
  have hf710 : f687 q22 = .inl (κ 0, 25934, .inl (fun _ => 0)) := (ho686 _ ne692).trans hf676
  have hl711 : q22 ∈ L688 := hs681 _ hl650
  clear g674 hl646 hf675 hl648 hf676 hl650
  obtain ⟨τ_712, ν_712, ρ_712, hG, hT, hb713, ht714, hn715, hr716⟩ := tp_type hG hT hq682 hz683 71 (6) (fun _ => 0) (by decide) (fun τ9 ν9 ρ9 hE h2 h3 => ⟨trivial, by rw [hf685]; exact tp_o71⟩)
  have hH := hH.ty (fun a ha _ => hn689 a ha) hb713
  have ht717 : τ_712 q47 = 34 := (hb713 _ ne693).1.trans ht656
  have ht718 : τ_712 q83 = 35 := (hb713 _ ne694).1.trans ht657
  have ht719 : τ_712 q121 = 36 := (hb713 _ ne695).1.trans ht658
  have ht720 : τ_712 q161 = 38 := (hb713 _ ne696).1.trans ht659
  have ht721 : τ_712 q209 = 51 := (hb713 _ ne697).1.trans ht660
  have ht722 : τ_712 q253 = 53 := (hb713 _ ne698).1.trans ht661
  have ht723 : τ_712 q299 = 54 := (hb713 _ ne699).1.trans ht662
  have ht724 : τ_712 q347 = 56 := (hb713 _ ne700).1.trans ht663
  have ht725 : τ_712 q397 = 57 := (hb713 _ ne701).1.trans ht664
  have ht726 : τ_712 q449 = 60 := (hb713 _ ne702).1.trans ht665
  have ht727 : τ_712 q503 = 61 := (hb713 _ ne703).1.trans ht666
  have ht728 : τ_712 q559 = 69 := (hb713 _ ne704).1.trans ht667
  have ht729 : τ_712 q617 = 70 := (hb713 _ ne705).1.trans ht653
  have hz730 : τ_712 h0 = 0 := (hb713 _ ne690).1.trans hz668
  have hz731 : τ_712 q1 = 0 := (hb713 _ ne691).1.trans hz669
  have hz732 : τ_712 q22 = 0 := (hb713 _ ne692).1.trans hz670
  clear ht656 ht657 ht658 ht659 ht660 ht661 ht662 ht663 ht664 ht665 ht666 ht667 ht653 hz668 hz669 hz670 hb713 ne690 ne691 ne692 ne693 ne694 ne695 ne696 ne697 ne698 ne699 ne700 ne701 ne702 ne703 ne704 ne705
  refine tpk_pos hl707 hf706 (fun q733 eq733 => ?_)
  refine va_putF (D := (dC, dI)) (ci := 12) (v := .ref q677) (ty := (.array .long)) (C := RX12) (T := TX12) (N := 53) hx hb hts hfX12 tyX12 tyX12_ok nmX12 hown hK hP hD hS q733 eq733 rfl 41 (by decide) (hts (.fieldLink RX12 61 "ColdShipsModel" "worths" "[J") wa_165) (fun _ h9 => h9) rfl hin rfl (tyX12_ok 41 (by decide)) rfl rfl (Nat.le_of_ble_eq_true rfl) dX12_init_141 (tp_k (.inr (12, [.int 0, .int 0, .ref q1, .ref q22, .ref q47, .ref q83, .ref q121, .int 0, .ref q161, .int 0, .int 0, .int 0, .int 0, .long 0, .int (-1), .int 0, .int 0, .int 0, .int 0, .int 0, .int 0, .ref q209, .int 0, .ref q253, .ref q299, .int 0, .ref q347, .ref q397, .int 0, .int 0, .ref q449, .ref q503, .int 0, .long 0, .long 0, .long 0, .int 0, .int 0, .int 0, .ref q559, .ref q617, .ref q677, .null, .null, .null, .null, .null, .int 0, .int 0, .null, .null, .null, .null])) hD hl707 eq733 (fun f734 H locs hP hD hS g736 k735 => ?_))
  have hT := hT.raw hz730 k735
  have hH := hH.wo k735
  have hf737 : f734 q1 = .inl (κ 0, 12967, .inl (fun _ => 0)) := (k735 _ (Ne.symm ne14)).trans hf708
  have hf738 : f734 q22 = .inl (κ 0, 25934, .inl (fun _ => 0)) := (k735 _ (Ne.symm ne35)).trans hf710
  clear hf708 hf710
  refine lv_aload_n hx hb dX12_init_144 rfl (lv_at hl 0 rfl) ?_
  refine lv_bipush (v := 6) hx hb dX12_init_145 (by decide) ?_
  refine va_newa (atype := .int) hx hb (hts (.arrayClass .int) wa_39) (ty := .int) rfl hK hP hD hS hA (a0 := (6, .inl (fun _ => 0))) (fun cA => pz_na_int cA 6) (by decide +kernel : ¬ (6 : Int32) < 0) (by decide +kernel : (6 : Int32).toNatClampNeg = 6) (by decide +kernel) (Nat.le_of_ble_eq_true rfl) (Nat.le_of_ble_eq_true rfl) dX12_init_147 (fun q739 k740 H hK hP hD hS => ?_)
  obtain ⟨e9, hK9⟩ := tp_kid 0 rfl hK; subst e9; have hK := hK9
  refine Exists.elim (tp_grow hG hT hP hD) (fun L750 hE90 => Exists.elim hE90 (fun f749 hE91 => tn_10 hE91 (fun hP hD hg741 ht742 hs743 hq744 hz745 hn746 hf747 ho748 => ?_)))
  clear hE91 hE90
  have hn751 : ∀ a, a ∈ L → a ≠ q739 := fun a ha => hn746 a (hH.1 a ha)
  have ne752 : h0 ≠ q739 := hn746 _ hl707
  have ne753 : q1 ≠ q739 := hn746 _ hl709
  have ne754 : q22 ≠ q739 := hn746 _ hl711
  have ne755 : q47 ≠ q739 := hn746 _ (tp_in hG ht717 (by decide))
  have ne756 : q83 ≠ q739 := hn746 _ (tp_in hG ht718 (by decide))
  have ne757 : q121 ≠ q739 := hn746 _ (tp_in hG ht719 (by decide))
  have ne758 : q161 ≠ q739 := hn746 _ (tp_in hG ht720 (by decide))
  have ne759 : q209 ≠ q739 := hn746 _ (tp_in hG ht721 (by decide))
  have ne760 : q253 ≠ q739 := hn746 _ (tp_in hG ht722 (by decide))
  have ne761 : q299 ≠ q739 := hn746 _ (tp_in hG ht723 (by decide))
  have ne762 : q347 ≠ q739 := hn746 _ (tp_in hG ht724 (by decide))
  have ne763 : q397 ≠ q739 := hn746 _ (tp_in hG ht725 (by decide))
  have ne764 : q449 ≠ q739 := hn746 _ (tp_in hG ht726 (by decide))
  have ne765 : q503 ≠ q739 := hn746 _ (tp_in hG ht727 (by decide))
  have ne766 : q559 ≠ q739 := hn746 _ (tp_in hG ht728 (by decide))
  have ne767 : q617 ≠ q739 := hn746 _ (tp_in hG ht729 (by decide))
  have ne768 : q677 ≠ q739 := hn746 _ (tp_in hG ht714 (by decide))
  have hG := hg741
  have hT := ht742
  have hH := hH.gr hs743 hn746 ho748
  have hf769 : f749 h0 = .inr (12, [.int 0, .int 0, .ref q1, .ref q22, .ref q47, .ref q83, .ref q121, .int 0, .ref q161, .int 0, .int 0, .int 0, .int 0, .long 0, .int (-1), .int 0, .int 0, .int 0, .int 0, .int 0, .int 0, .ref q209, .int 0, .ref q253, .ref q299, .int 0, .ref q347, .ref q397, .int 0, .int 0, .ref q449, .ref q503, .int 0, .long 0, .long 0, .long 0, .int 0, .int 0, .int 0, .ref q559, .ref q617, .ref q677, .null, .null, .null, .null, .null, .int 0, .int 0, .null, .null, .null, .null]) := (ho748 _ ne752).trans g736
  have hl770 : h0 ∈ L750 := hs743 _ hl707
  have hf771 : f749 q1 = .inl (κ 0, 12967, .inl (fun _ => 0)) := (ho748 _ ne753).trans hf737
  have hl772 : q1 ∈ L750 := hs743 _ hl709
  have hf773 : f749 q22 = .inl (κ 0, 25934, .inl (fun _ => 0)) := (ho748 _ ne754).trans hf738
  have hl774 : q22 ∈ L750 := hs743 _ hl711
  clear g736 hl707 hf737 hl709 hf738 hl711
  obtain ⟨τ_775, ν_775, ρ_775, hG, hT, hb776, ht777, hn778, hr779⟩ := tp_type hG hT hq744 hz745 72 (6) (fun _ => 0) (by decide) (fun τ9 ν9 ρ9 hE h2 h3 => ⟨trivial, by rw [hf747]; exact tp_o72⟩)
  have hH := hH.ty (fun a ha _ => hn751 a ha) hb776
  have ht780 : τ_775 q47 = 34 := (hb776 _ ne755).1.trans ht717
  have ht781 : τ_775 q83 = 35 := (hb776 _ ne756).1.trans ht718
  have ht782 : τ_775 q121 = 36 := (hb776 _ ne757).1.trans ht719
  have ht783 : τ_775 q161 = 38 := (hb776 _ ne758).1.trans ht720
  have ht784 : τ_775 q209 = 51 := (hb776 _ ne759).1.trans ht721
  have ht785 : τ_775 q253 = 53 := (hb776 _ ne760).1.trans ht722
  have ht786 : τ_775 q299 = 54 := (hb776 _ ne761).1.trans ht723
  have ht787 : τ_775 q347 = 56 := (hb776 _ ne762).1.trans ht724
  have ht788 : τ_775 q397 = 57 := (hb776 _ ne763).1.trans ht725
  have ht789 : τ_775 q449 = 60 := (hb776 _ ne764).1.trans ht726
  have ht790 : τ_775 q503 = 61 := (hb776 _ ne765).1.trans ht727
  have ht791 : τ_775 q559 = 69 := (hb776 _ ne766).1.trans ht728
  have ht792 : τ_775 q617 = 70 := (hb776 _ ne767).1.trans ht729
  have ht793 : τ_775 q677 = 71 := (hb776 _ ne768).1.trans ht714
  have hz794 : τ_775 h0 = 0 := (hb776 _ ne752).1.trans hz730
  have hz795 : τ_775 q1 = 0 := (hb776 _ ne753).1.trans hz731
  have hz796 : τ_775 q22 = 0 := (hb776 _ ne754).1.trans hz732
  clear ht717 ht718 ht719 ht720 ht721 ht722 ht723 ht724 ht725 ht726 ht727 ht728 ht729 ht714 hz730 hz731 hz732 hb776 ne752 ne753 ne754 ne755 ne756 ne757 ne758 ne759 ne760 ne761 ne762 ne763 ne764 ne765 ne766 ne767 ne768
  refine tpk_pos hl770 hf769 (fun q797 eq797 => ?_)
  refine va_putF (D := (dC, dI)) (ci := 12) (v := .ref q739) (ty := (.array .int)) (C := RX12) (T := TX12) (N := 53) hx hb hts hfX12 tyX12 tyX12_ok nmX12 hown hK hP hD hS q797 eq797 rfl 42 (by decide) (hts (.fieldLink RX12 64 "ColdShipsModel" "line" "[I") wa_166) (fun _ h9 => h9) rfl hin rfl (tyX12_ok 42 (by decide)) rfl rfl (Nat.le_of_ble_eq_true rfl) dX12_init_149 (tp_k (.inr (12, [.int 0, .int 0, .ref q1, .ref q22, .ref q47, .ref q83, .ref q121, .int 0, .ref q161, .int 0, .int 0, .int 0, .int 0, .long 0, .int (-1), .int 0, .int 0, .int 0, .int 0, .int 0, .int 0, .ref q209, .int 0, .ref q253, .ref q299, .int 0, .ref q347, .ref q397, .int 0, .int 0, .ref q449, .ref q503, .int 0, .long 0, .long 0, .long 0, .int 0, .int 0, .int 0, .ref q559, .ref q617, .ref q677, .ref q739, .null, .null, .null, .null, .int 0, .int 0, .null, .null, .null, .null])) hD hl770 eq797 (fun f798 H locs hP hD hS g800 k799 => ?_))
  have hT := hT.raw hz794 k799
  have hH := hH.wo k799
  have hf801 : f798 q1 = .inl (κ 0, 12967, .inl (fun _ => 0)) := (k799 _ (Ne.symm ne14)).trans hf771
  have hf802 : f798 q22 = .inl (κ 0, 25934, .inl (fun _ => 0)) := (k799 _ (Ne.symm ne35)).trans hf773
  clear hf771 hf773
  refine lv_aload_n hx hb dX12_init_152 rfl (lv_at hl 0 rfl) ?_
  refine lv_sipush (v := 192) hx hb dX12_init_153 (by decide) ?_
  refine va_newa (atype := .long) hx hb (hts (.arrayClass .long) wa_82) (ty := .long) rfl hK hP hD hS hA (a0 := (192, .inr (.inl (fun _ => 0)))) (fun cA => pz_na_long cA 192) (by decide +kernel : ¬ (192 : Int32) < 0) (by decide +kernel : (192 : Int32).toNatClampNeg = 192) (by decide +kernel) (Nat.le_of_ble_eq_true rfl) (Nat.le_of_ble_eq_true rfl) dX12_init_156 (fun q803 k804 H hK hP hD hS => ?_)
  obtain ⟨e9, hK9⟩ := tp_kid 1 rfl hK; subst e9; have hK := hK9
  refine Exists.elim (tp_grow hG hT hP hD) (fun L814 hE90 => Exists.elim hE90 (fun f813 hE91 => tn_10 hE91 (fun hP hD hg805 ht806 hs807 hq808 hz809 hn810 hf811 ho812 => ?_)))
  clear hE91 hE90
  have hn815 : ∀ a, a ∈ L → a ≠ q803 := fun a ha => hn810 a (hH.1 a ha)
  have ne816 : h0 ≠ q803 := hn810 _ hl770
  have ne817 : q1 ≠ q803 := hn810 _ hl772
  have ne818 : q22 ≠ q803 := hn810 _ hl774
  have ne819 : q47 ≠ q803 := hn810 _ (tp_in hG ht780 (by decide))
  have ne820 : q83 ≠ q803 := hn810 _ (tp_in hG ht781 (by decide))
  have ne821 : q121 ≠ q803 := hn810 _ (tp_in hG ht782 (by decide))
  have ne822 : q161 ≠ q803 := hn810 _ (tp_in hG ht783 (by decide))
  have ne823 : q209 ≠ q803 := hn810 _ (tp_in hG ht784 (by decide))
  have ne824 : q253 ≠ q803 := hn810 _ (tp_in hG ht785 (by decide))
  have ne825 : q299 ≠ q803 := hn810 _ (tp_in hG ht786 (by decide))
  have ne826 : q347 ≠ q803 := hn810 _ (tp_in hG ht787 (by decide))
  have ne827 : q397 ≠ q803 := hn810 _ (tp_in hG ht788 (by decide))
  have ne828 : q449 ≠ q803 := hn810 _ (tp_in hG ht789 (by decide))
  have ne829 : q503 ≠ q803 := hn810 _ (tp_in hG ht790 (by decide))
  have ne830 : q559 ≠ q803 := hn810 _ (tp_in hG ht791 (by decide))
  have ne831 : q617 ≠ q803 := hn810 _ (tp_in hG ht792 (by decide))
  have ne832 : q677 ≠ q803 := hn810 _ (tp_in hG ht793 (by decide))
  have ne833 : q739 ≠ q803 := hn810 _ (tp_in hG ht777 (by decide))
  have hG := hg805
  have hT := ht806
  have hH := hH.gr hs807 hn810 ho812
  have hf834 : f813 h0 = .inr (12, [.int 0, .int 0, .ref q1, .ref q22, .ref q47, .ref q83, .ref q121, .int 0, .ref q161, .int 0, .int 0, .int 0, .int 0, .long 0, .int (-1), .int 0, .int 0, .int 0, .int 0, .int 0, .int 0, .ref q209, .int 0, .ref q253, .ref q299, .int 0, .ref q347, .ref q397, .int 0, .int 0, .ref q449, .ref q503, .int 0, .long 0, .long 0, .long 0, .int 0, .int 0, .int 0, .ref q559, .ref q617, .ref q677, .ref q739, .null, .null, .null, .null, .int 0, .int 0, .null, .null, .null, .null]) := (ho812 _ ne816).trans g800
  have hl835 : h0 ∈ L814 := hs807 _ hl770
  have hf836 : f813 q1 = .inl (κ 0, 12967, .inl (fun _ => 0)) := (ho812 _ ne817).trans hf801
  have hl837 : q1 ∈ L814 := hs807 _ hl772
  have hf838 : f813 q22 = .inl (κ 0, 25934, .inl (fun _ => 0)) := (ho812 _ ne818).trans hf802
  have hl839 : q22 ∈ L814 := hs807 _ hl774
  clear g800 hl770 hf801 hl772 hf802 hl774
  obtain ⟨τ_840, ν_840, ρ_840, hG, hT, hb841, ht842, hn843, hr844⟩ := tp_type hG hT hq808 hz809 73 (192) (fun _ => 0) (by decide) (fun τ9 ν9 ρ9 hE h2 h3 => ⟨trivial, by rw [hf811]; exact tp_o73⟩)
  have hH := hH.ty (fun a ha _ => hn815 a ha) hb841
  have ht845 : τ_840 q47 = 34 := (hb841 _ ne819).1.trans ht780
  have ht846 : τ_840 q83 = 35 := (hb841 _ ne820).1.trans ht781
  have ht847 : τ_840 q121 = 36 := (hb841 _ ne821).1.trans ht782
  have ht848 : τ_840 q161 = 38 := (hb841 _ ne822).1.trans ht783
  have ht849 : τ_840 q209 = 51 := (hb841 _ ne823).1.trans ht784
  have ht850 : τ_840 q253 = 53 := (hb841 _ ne824).1.trans ht785
  have ht851 : τ_840 q299 = 54 := (hb841 _ ne825).1.trans ht786
  have ht852 : τ_840 q347 = 56 := (hb841 _ ne826).1.trans ht787
  have ht853 : τ_840 q397 = 57 := (hb841 _ ne827).1.trans ht788
  have ht854 : τ_840 q449 = 60 := (hb841 _ ne828).1.trans ht789
  have ht855 : τ_840 q503 = 61 := (hb841 _ ne829).1.trans ht790
  have ht856 : τ_840 q559 = 69 := (hb841 _ ne830).1.trans ht791
  have ht857 : τ_840 q617 = 70 := (hb841 _ ne831).1.trans ht792
  have ht858 : τ_840 q677 = 71 := (hb841 _ ne832).1.trans ht793
  have ht859 : τ_840 q739 = 72 := (hb841 _ ne833).1.trans ht777
  have hz860 : τ_840 h0 = 0 := (hb841 _ ne816).1.trans hz794
  have hz861 : τ_840 q1 = 0 := (hb841 _ ne817).1.trans hz795
  have hz862 : τ_840 q22 = 0 := (hb841 _ ne818).1.trans hz796
  clear ht780 ht781 ht782 ht783 ht784 ht785 ht786 ht787 ht788 ht789 ht790 ht791 ht792 ht793 ht777 hz794 hz795 hz796 hb841 ne816 ne817 ne818 ne819 ne820 ne821 ne822 ne823 ne824 ne825 ne826 ne827 ne828 ne829 ne830 ne831 ne832 ne833
  refine tpk_pos hl835 hf834 (fun q863 eq863 => ?_)
  refine va_putF (D := (dC, dI)) (ci := 12) (v := .ref q803) (ty := (.array .long)) (C := RX12) (T := TX12) (N := 53) hx hb hts hfX12 tyX12 tyX12_ok nmX12 hown hK hP hD hS q863 eq863 rfl 43 (by decide) (hts (.fieldLink RX12 67 "ColdShipsModel" "bestOf" "[J") wa_167) (fun _ h9 => h9) rfl hin rfl (tyX12_ok 43 (by decide)) rfl rfl (Nat.le_of_ble_eq_true rfl) dX12_init_158 (tp_k (.inr (12, [.int 0, .int 0, .ref q1, .ref q22, .ref q47, .ref q83, .ref q121, .int 0, .ref q161, .int 0, .int 0, .int 0, .int 0, .long 0, .int (-1), .int 0, .int 0, .int 0, .int 0, .int 0, .int 0, .ref q209, .int 0, .ref q253, .ref q299, .int 0, .ref q347, .ref q397, .int 0, .int 0, .ref q449, .ref q503, .int 0, .long 0, .long 0, .long 0, .int 0, .int 0, .int 0, .ref q559, .ref q617, .ref q677, .ref q739, .ref q803, .null, .null, .null, .int 0, .int 0, .null, .null, .null, .null])) hD hl835 eq863 (fun f864 H locs hP hD hS g866 k865 => ?_))
  have hT := hT.raw hz860 k865
  have hH := hH.wo k865
  have hf867 : f864 q1 = .inl (κ 0, 12967, .inl (fun _ => 0)) := (k865 _ (Ne.symm ne14)).trans hf836
  have hf868 : f864 q22 = .inl (κ 0, 25934, .inl (fun _ => 0)) := (k865 _ (Ne.symm ne35)).trans hf838
  clear hf836 hf838
  refine lv_aload_n hx hb dX12_init_161 rfl (lv_at hl 0 rfl) ?_
  refine lv_sipush (v := 192) hx hb dX12_init_162 (by decide) ?_
  refine va_newa (atype := .int) hx hb (hts (.arrayClass .int) wa_39) (ty := .int) rfl hK hP hD hS hA (a0 := (192, .inl (fun _ => 0))) (fun cA => pz_na_int cA 192) (by decide +kernel : ¬ (192 : Int32) < 0) (by decide +kernel : (192 : Int32).toNatClampNeg = 192) (by decide +kernel) (Nat.le_of_ble_eq_true rfl) (Nat.le_of_ble_eq_true rfl) dX12_init_165 (fun q869 k870 H hK hP hD hS => ?_)
  obtain ⟨e9, hK9⟩ := tp_kid 0 rfl hK; subst e9; have hK := hK9
  refine Exists.elim (tp_grow hG hT hP hD) (fun L880 hE90 => Exists.elim hE90 (fun f879 hE91 => tn_10 hE91 (fun hP hD hg871 ht872 hs873 hq874 hz875 hn876 hf877 ho878 => ?_)))
  clear hE91 hE90
  have hn881 : ∀ a, a ∈ L → a ≠ q869 := fun a ha => hn876 a (hH.1 a ha)
  have ne882 : h0 ≠ q869 := hn876 _ hl835
  have ne883 : q1 ≠ q869 := hn876 _ hl837
  have ne884 : q22 ≠ q869 := hn876 _ hl839
  have ne885 : q47 ≠ q869 := hn876 _ (tp_in hG ht845 (by decide))
  have ne886 : q83 ≠ q869 := hn876 _ (tp_in hG ht846 (by decide))
  have ne887 : q121 ≠ q869 := hn876 _ (tp_in hG ht847 (by decide))
  have ne888 : q161 ≠ q869 := hn876 _ (tp_in hG ht848 (by decide))
  have ne889 : q209 ≠ q869 := hn876 _ (tp_in hG ht849 (by decide))
  have ne890 : q253 ≠ q869 := hn876 _ (tp_in hG ht850 (by decide))
  have ne891 : q299 ≠ q869 := hn876 _ (tp_in hG ht851 (by decide))
  have ne892 : q347 ≠ q869 := hn876 _ (tp_in hG ht852 (by decide))
  have ne893 : q397 ≠ q869 := hn876 _ (tp_in hG ht853 (by decide))
  have ne894 : q449 ≠ q869 := hn876 _ (tp_in hG ht854 (by decide))
  have ne895 : q503 ≠ q869 := hn876 _ (tp_in hG ht855 (by decide))
  have ne896 : q559 ≠ q869 := hn876 _ (tp_in hG ht856 (by decide))
  have ne897 : q617 ≠ q869 := hn876 _ (tp_in hG ht857 (by decide))
  have ne898 : q677 ≠ q869 := hn876 _ (tp_in hG ht858 (by decide))
  have ne899 : q739 ≠ q869 := hn876 _ (tp_in hG ht859 (by decide))
  have ne900 : q803 ≠ q869 := hn876 _ (tp_in hG ht842 (by decide))
  have hG := hg871
  have hT := ht872
  have hH := hH.gr hs873 hn876 ho878
  have hf901 : f879 h0 = .inr (12, [.int 0, .int 0, .ref q1, .ref q22, .ref q47, .ref q83, .ref q121, .int 0, .ref q161, .int 0, .int 0, .int 0, .int 0, .long 0, .int (-1), .int 0, .int 0, .int 0, .int 0, .int 0, .int 0, .ref q209, .int 0, .ref q253, .ref q299, .int 0, .ref q347, .ref q397, .int 0, .int 0, .ref q449, .ref q503, .int 0, .long 0, .long 0, .long 0, .int 0, .int 0, .int 0, .ref q559, .ref q617, .ref q677, .ref q739, .ref q803, .null, .null, .null, .int 0, .int 0, .null, .null, .null, .null]) := (ho878 _ ne882).trans g866
  have hl902 : h0 ∈ L880 := hs873 _ hl835
  have hf903 : f879 q1 = .inl (κ 0, 12967, .inl (fun _ => 0)) := (ho878 _ ne883).trans hf867
  have hl904 : q1 ∈ L880 := hs873 _ hl837
  have hf905 : f879 q22 = .inl (κ 0, 25934, .inl (fun _ => 0)) := (ho878 _ ne884).trans hf868
  have hl906 : q22 ∈ L880 := hs873 _ hl839
  clear g866 hl835 hf867 hl837 hf868 hl839
  obtain ⟨τ_907, ν_907, ρ_907, hG, hT, hb908, ht909, hn910, hr911⟩ := tp_type hG hT hq874 hz875 74 (192) (fun _ => 0) (by decide) (fun τ9 ν9 ρ9 hE h2 h3 => ⟨trivial, by rw [hf877]; exact tp_o74⟩)
  have hH := hH.ty (fun a ha _ => hn881 a ha) hb908
  have ht912 : τ_907 q47 = 34 := (hb908 _ ne885).1.trans ht845
  have ht913 : τ_907 q83 = 35 := (hb908 _ ne886).1.trans ht846
  have ht914 : τ_907 q121 = 36 := (hb908 _ ne887).1.trans ht847
  have ht915 : τ_907 q161 = 38 := (hb908 _ ne888).1.trans ht848
  have ht916 : τ_907 q209 = 51 := (hb908 _ ne889).1.trans ht849
  have ht917 : τ_907 q253 = 53 := (hb908 _ ne890).1.trans ht850
  have ht918 : τ_907 q299 = 54 := (hb908 _ ne891).1.trans ht851
  have ht919 : τ_907 q347 = 56 := (hb908 _ ne892).1.trans ht852
  have ht920 : τ_907 q397 = 57 := (hb908 _ ne893).1.trans ht853
  have ht921 : τ_907 q449 = 60 := (hb908 _ ne894).1.trans ht854
  have ht922 : τ_907 q503 = 61 := (hb908 _ ne895).1.trans ht855
  have ht923 : τ_907 q559 = 69 := (hb908 _ ne896).1.trans ht856
  have ht924 : τ_907 q617 = 70 := (hb908 _ ne897).1.trans ht857
  have ht925 : τ_907 q677 = 71 := (hb908 _ ne898).1.trans ht858
  have ht926 : τ_907 q739 = 72 := (hb908 _ ne899).1.trans ht859
  have ht927 : τ_907 q803 = 73 := (hb908 _ ne900).1.trans ht842
  have hz928 : τ_907 h0 = 0 := (hb908 _ ne882).1.trans hz860
  have hz929 : τ_907 q1 = 0 := (hb908 _ ne883).1.trans hz861
  have hz930 : τ_907 q22 = 0 := (hb908 _ ne884).1.trans hz862
  clear ht845 ht846 ht847 ht848 ht849 ht850 ht851 ht852 ht853 ht854 ht855 ht856 ht857 ht858 ht859 ht842 hz860 hz861 hz862 hb908 ne882 ne883 ne884 ne885 ne886 ne887 ne888 ne889 ne890 ne891 ne892 ne893 ne894 ne895 ne896 ne897 ne898 ne899 ne900
  refine tpk_pos hl902 hf901 (fun q931 eq931 => ?_)
  refine va_putF (D := (dC, dI)) (ci := 12) (v := .ref q869) (ty := (.array .int)) (C := RX12) (T := TX12) (N := 53) hx hb hts hfX12 tyX12 tyX12_ok nmX12 hown hK hP hD hS q931 eq931 rfl 44 (by decide) (hts (.fieldLink RX12 70 "ColdShipsModel" "placesOf" "[I") wa_168) (fun _ h9 => h9) rfl hin rfl (tyX12_ok 44 (by decide)) rfl rfl (Nat.le_of_ble_eq_true rfl) dX12_init_167 (tp_k (.inr (12, [.int 0, .int 0, .ref q1, .ref q22, .ref q47, .ref q83, .ref q121, .int 0, .ref q161, .int 0, .int 0, .int 0, .int 0, .long 0, .int (-1), .int 0, .int 0, .int 0, .int 0, .int 0, .int 0, .ref q209, .int 0, .ref q253, .ref q299, .int 0, .ref q347, .ref q397, .int 0, .int 0, .ref q449, .ref q503, .int 0, .long 0, .long 0, .long 0, .int 0, .int 0, .int 0, .ref q559, .ref q617, .ref q677, .ref q739, .ref q803, .ref q869, .null, .null, .int 0, .int 0, .null, .null, .null, .null])) hD hl902 eq931 (fun f932 H locs hP hD hS g934 k933 => ?_))
  have hT := hT.raw hz928 k933
  have hH := hH.wo k933
  have hf935 : f932 q1 = .inl (κ 0, 12967, .inl (fun _ => 0)) := (k933 _ (Ne.symm ne14)).trans hf903
  have hf936 : f932 q22 = .inl (κ 0, 25934, .inl (fun _ => 0)) := (k933 _ (Ne.symm ne35)).trans hf905
  clear hf903 hf905
  refine lv_aload_n hx hb dX12_init_170 rfl (lv_at hl 0 rfl) ?_
  refine lv_bipush (v := 6) hx hb dX12_init_171 (by decide) ?_
  refine va_newa (atype := .int) hx hb (hts (.arrayClass .int) wa_39) (ty := .int) rfl hK hP hD hS hA (a0 := (6, .inl (fun _ => 0))) (fun cA => pz_na_int cA 6) (by decide +kernel : ¬ (6 : Int32) < 0) (by decide +kernel : (6 : Int32).toNatClampNeg = 6) (by decide +kernel) (Nat.le_of_ble_eq_true rfl) (Nat.le_of_ble_eq_true rfl) dX12_init_173 (fun q937 k938 H hK hP hD hS => ?_)
  obtain ⟨e9, hK9⟩ := tp_kid 0 rfl hK; subst e9; have hK := hK9
  refine Exists.elim (tp_grow hG hT hP hD) (fun L948 hE90 => Exists.elim hE90 (fun f947 hE91 => tn_10 hE91 (fun hP hD hg939 ht940 hs941 hq942 hz943 hn944 hf945 ho946 => ?_)))
  clear hE91 hE90
  have hn949 : ∀ a, a ∈ L → a ≠ q937 := fun a ha => hn944 a (hH.1 a ha)
  have ne950 : h0 ≠ q937 := hn944 _ hl902
  have ne951 : q1 ≠ q937 := hn944 _ hl904
  have ne952 : q22 ≠ q937 := hn944 _ hl906
  have ne953 : q47 ≠ q937 := hn944 _ (tp_in hG ht912 (by decide))
  have ne954 : q83 ≠ q937 := hn944 _ (tp_in hG ht913 (by decide))
  have ne955 : q121 ≠ q937 := hn944 _ (tp_in hG ht914 (by decide))
  have ne956 : q161 ≠ q937 := hn944 _ (tp_in hG ht915 (by decide))
  have ne957 : q209 ≠ q937 := hn944 _ (tp_in hG ht916 (by decide))
  have ne958 : q253 ≠ q937 := hn944 _ (tp_in hG ht917 (by decide))
  have ne959 : q299 ≠ q937 := hn944 _ (tp_in hG ht918 (by decide))
  have ne960 : q347 ≠ q937 := hn944 _ (tp_in hG ht919 (by decide))
  have ne961 : q397 ≠ q937 := hn944 _ (tp_in hG ht920 (by decide))
  have ne962 : q449 ≠ q937 := hn944 _ (tp_in hG ht921 (by decide))
  have ne963 : q503 ≠ q937 := hn944 _ (tp_in hG ht922 (by decide))
  have ne964 : q559 ≠ q937 := hn944 _ (tp_in hG ht923 (by decide))
  have ne965 : q617 ≠ q937 := hn944 _ (tp_in hG ht924 (by decide))
  have ne966 : q677 ≠ q937 := hn944 _ (tp_in hG ht925 (by decide))
  have ne967 : q739 ≠ q937 := hn944 _ (tp_in hG ht926 (by decide))
  have ne968 : q803 ≠ q937 := hn944 _ (tp_in hG ht927 (by decide))
  have ne969 : q869 ≠ q937 := hn944 _ (tp_in hG ht909 (by decide))
  have hG := hg939
  have hT := ht940
  have hH := hH.gr hs941 hn944 ho946
  have hf970 : f947 h0 = .inr (12, [.int 0, .int 0, .ref q1, .ref q22, .ref q47, .ref q83, .ref q121, .int 0, .ref q161, .int 0, .int 0, .int 0, .int 0, .long 0, .int (-1), .int 0, .int 0, .int 0, .int 0, .int 0, .int 0, .ref q209, .int 0, .ref q253, .ref q299, .int 0, .ref q347, .ref q397, .int 0, .int 0, .ref q449, .ref q503, .int 0, .long 0, .long 0, .long 0, .int 0, .int 0, .int 0, .ref q559, .ref q617, .ref q677, .ref q739, .ref q803, .ref q869, .null, .null, .int 0, .int 0, .null, .null, .null, .null]) := (ho946 _ ne950).trans g934
  have hl971 : h0 ∈ L948 := hs941 _ hl902
  have hf972 : f947 q1 = .inl (κ 0, 12967, .inl (fun _ => 0)) := (ho946 _ ne951).trans hf935
  have hl973 : q1 ∈ L948 := hs941 _ hl904
  have hf974 : f947 q22 = .inl (κ 0, 25934, .inl (fun _ => 0)) := (ho946 _ ne952).trans hf936
  have hl975 : q22 ∈ L948 := hs941 _ hl906
  clear g934 hl902 hf935 hl904 hf936 hl906
  obtain ⟨τ_976, ν_976, ρ_976, hG, hT, hb977, ht978, hn979, hr980⟩ := tp_type hG hT hq942 hz943 75 (6) (fun _ => 0) (by decide) (fun τ9 ν9 ρ9 hE h2 h3 => ⟨trivial, by rw [hf945]; exact tp_o75⟩)
  have hH := hH.ty (fun a ha _ => hn949 a ha) hb977
  have ht981 : τ_976 q47 = 34 := (hb977 _ ne953).1.trans ht912
  have ht982 : τ_976 q83 = 35 := (hb977 _ ne954).1.trans ht913
  have ht983 : τ_976 q121 = 36 := (hb977 _ ne955).1.trans ht914
  have ht984 : τ_976 q161 = 38 := (hb977 _ ne956).1.trans ht915
  have ht985 : τ_976 q209 = 51 := (hb977 _ ne957).1.trans ht916
  have ht986 : τ_976 q253 = 53 := (hb977 _ ne958).1.trans ht917
  have ht987 : τ_976 q299 = 54 := (hb977 _ ne959).1.trans ht918
  have ht988 : τ_976 q347 = 56 := (hb977 _ ne960).1.trans ht919
  have ht989 : τ_976 q397 = 57 := (hb977 _ ne961).1.trans ht920
  have ht990 : τ_976 q449 = 60 := (hb977 _ ne962).1.trans ht921
  have ht991 : τ_976 q503 = 61 := (hb977 _ ne963).1.trans ht922
  have ht992 : τ_976 q559 = 69 := (hb977 _ ne964).1.trans ht923
  have ht993 : τ_976 q617 = 70 := (hb977 _ ne965).1.trans ht924
  have ht994 : τ_976 q677 = 71 := (hb977 _ ne966).1.trans ht925
  have ht995 : τ_976 q739 = 72 := (hb977 _ ne967).1.trans ht926
  have ht996 : τ_976 q803 = 73 := (hb977 _ ne968).1.trans ht927
  have ht997 : τ_976 q869 = 74 := (hb977 _ ne969).1.trans ht909
  have hz998 : τ_976 h0 = 0 := (hb977 _ ne950).1.trans hz928
  have hz999 : τ_976 q1 = 0 := (hb977 _ ne951).1.trans hz929
  have hz1000 : τ_976 q22 = 0 := (hb977 _ ne952).1.trans hz930
  clear ht912 ht913 ht914 ht915 ht916 ht917 ht918 ht919 ht920 ht921 ht922 ht923 ht924 ht925 ht926 ht927 ht909 hz928 hz929 hz930 hb977 ne950 ne951 ne952 ne953 ne954 ne955 ne956 ne957 ne958 ne959 ne960 ne961 ne962 ne963 ne964 ne965 ne966 ne967 ne968 ne969
  refine tpk_pos hl971 hf970 (fun q1001 eq1001 => ?_)
  refine va_putF (D := (dC, dI)) (ci := 12) (v := .ref q937) (ty := (.array .int)) (C := RX12) (T := TX12) (N := 53) hx hb hts hfX12 tyX12 tyX12_ok nmX12 hown hK hP hD hS q1001 eq1001 rfl 45 (by decide) (hts (.fieldLink RX12 73 "ColdShipsModel" "members" "[I") wa_169) (fun _ h9 => h9) rfl hin rfl (tyX12_ok 45 (by decide)) rfl rfl (Nat.le_of_ble_eq_true rfl) dX12_init_175 (tp_k (.inr (12, [.int 0, .int 0, .ref q1, .ref q22, .ref q47, .ref q83, .ref q121, .int 0, .ref q161, .int 0, .int 0, .int 0, .int 0, .long 0, .int (-1), .int 0, .int 0, .int 0, .int 0, .int 0, .int 0, .ref q209, .int 0, .ref q253, .ref q299, .int 0, .ref q347, .ref q397, .int 0, .int 0, .ref q449, .ref q503, .int 0, .long 0, .long 0, .long 0, .int 0, .int 0, .int 0, .ref q559, .ref q617, .ref q677, .ref q739, .ref q803, .ref q869, .ref q937, .null, .int 0, .int 0, .null, .null, .null, .null])) hD hl971 eq1001 (fun f1002 H locs hP hD hS g1004 k1003 => ?_))
  have hT := hT.raw hz998 k1003
  have hH := hH.wo k1003
  have hf1005 : f1002 q1 = .inl (κ 0, 12967, .inl (fun _ => 0)) := (k1003 _ (Ne.symm ne14)).trans hf972
  have hf1006 : f1002 q22 = .inl (κ 0, 25934, .inl (fun _ => 0)) := (k1003 _ (Ne.symm ne35)).trans hf974
  clear hf972 hf974
  refine lv_aload_n hx hb dX12_init_178 rfl (lv_at hl 0 rfl) ?_
  refine lv_bipush (v := 6) hx hb dX12_init_179 (by decide) ?_
  refine va_newa (atype := .int) hx hb (hts (.arrayClass .int) wa_39) (ty := .int) rfl hK hP hD hS hA (a0 := (6, .inl (fun _ => 0))) (fun cA => pz_na_int cA 6) (by decide +kernel : ¬ (6 : Int32) < 0) (by decide +kernel : (6 : Int32).toNatClampNeg = 6) (by decide +kernel) (Nat.le_of_ble_eq_true rfl) (Nat.le_of_ble_eq_true rfl) dX12_init_181 (fun q1007 k1008 H hK hP hD hS => ?_)
  obtain ⟨e9, hK9⟩ := tp_kid 0 rfl hK; subst e9; have hK := hK9
  refine Exists.elim (tp_grow hG hT hP hD) (fun L1018 hE90 => Exists.elim hE90 (fun f1017 hE91 => tn_10 hE91 (fun hP hD hg1009 ht1010 hs1011 hq1012 hz1013 hn1014 hf1015 ho1016 => ?_)))
  clear hE91 hE90
  have hn1019 : ∀ a, a ∈ L → a ≠ q1007 := fun a ha => hn1014 a (hH.1 a ha)
  have ne1020 : h0 ≠ q1007 := hn1014 _ hl971
  have ne1021 : q1 ≠ q1007 := hn1014 _ hl973
  have ne1022 : q22 ≠ q1007 := hn1014 _ hl975
  have ne1023 : q47 ≠ q1007 := hn1014 _ (tp_in hG ht981 (by decide))
  have ne1024 : q83 ≠ q1007 := hn1014 _ (tp_in hG ht982 (by decide))
  have ne1025 : q121 ≠ q1007 := hn1014 _ (tp_in hG ht983 (by decide))
  have ne1026 : q161 ≠ q1007 := hn1014 _ (tp_in hG ht984 (by decide))
  have ne1027 : q209 ≠ q1007 := hn1014 _ (tp_in hG ht985 (by decide))
  have ne1028 : q253 ≠ q1007 := hn1014 _ (tp_in hG ht986 (by decide))
  have ne1029 : q299 ≠ q1007 := hn1014 _ (tp_in hG ht987 (by decide))
  have ne1030 : q347 ≠ q1007 := hn1014 _ (tp_in hG ht988 (by decide))
  have ne1031 : q397 ≠ q1007 := hn1014 _ (tp_in hG ht989 (by decide))
  have ne1032 : q449 ≠ q1007 := hn1014 _ (tp_in hG ht990 (by decide))
  have ne1033 : q503 ≠ q1007 := hn1014 _ (tp_in hG ht991 (by decide))
  have ne1034 : q559 ≠ q1007 := hn1014 _ (tp_in hG ht992 (by decide))
  have ne1035 : q617 ≠ q1007 := hn1014 _ (tp_in hG ht993 (by decide))
  have ne1036 : q677 ≠ q1007 := hn1014 _ (tp_in hG ht994 (by decide))
  have ne1037 : q739 ≠ q1007 := hn1014 _ (tp_in hG ht995 (by decide))
  have ne1038 : q803 ≠ q1007 := hn1014 _ (tp_in hG ht996 (by decide))
  have ne1039 : q869 ≠ q1007 := hn1014 _ (tp_in hG ht997 (by decide))
  have ne1040 : q937 ≠ q1007 := hn1014 _ (tp_in hG ht978 (by decide))
  have hG := hg1009
  have hT := ht1010
  have hH := hH.gr hs1011 hn1014 ho1016
  have hf1041 : f1017 h0 = .inr (12, [.int 0, .int 0, .ref q1, .ref q22, .ref q47, .ref q83, .ref q121, .int 0, .ref q161, .int 0, .int 0, .int 0, .int 0, .long 0, .int (-1), .int 0, .int 0, .int 0, .int 0, .int 0, .int 0, .ref q209, .int 0, .ref q253, .ref q299, .int 0, .ref q347, .ref q397, .int 0, .int 0, .ref q449, .ref q503, .int 0, .long 0, .long 0, .long 0, .int 0, .int 0, .int 0, .ref q559, .ref q617, .ref q677, .ref q739, .ref q803, .ref q869, .ref q937, .null, .int 0, .int 0, .null, .null, .null, .null]) := (ho1016 _ ne1020).trans g1004
  have hl1042 : h0 ∈ L1018 := hs1011 _ hl971
  have hf1043 : f1017 q1 = .inl (κ 0, 12967, .inl (fun _ => 0)) := (ho1016 _ ne1021).trans hf1005
  have hl1044 : q1 ∈ L1018 := hs1011 _ hl973
  have hf1045 : f1017 q22 = .inl (κ 0, 25934, .inl (fun _ => 0)) := (ho1016 _ ne1022).trans hf1006
  have hl1046 : q22 ∈ L1018 := hs1011 _ hl975
  clear g1004 hl971 hf1005 hl973 hf1006 hl975
  obtain ⟨τ_1047, ν_1047, ρ_1047, hG, hT, hb1048, ht1049, hn1050, hr1051⟩ := tp_type hG hT hq1012 hz1013 76 (6) (fun _ => 0) (by decide) (fun τ9 ν9 ρ9 hE h2 h3 => ⟨trivial, by rw [hf1015]; exact tp_o76⟩)
  have hH := hH.ty (fun a ha _ => hn1019 a ha) hb1048
  have ht1052 : τ_1047 q47 = 34 := (hb1048 _ ne1023).1.trans ht981
  have ht1053 : τ_1047 q83 = 35 := (hb1048 _ ne1024).1.trans ht982
  have ht1054 : τ_1047 q121 = 36 := (hb1048 _ ne1025).1.trans ht983
  have ht1055 : τ_1047 q161 = 38 := (hb1048 _ ne1026).1.trans ht984
  have ht1056 : τ_1047 q209 = 51 := (hb1048 _ ne1027).1.trans ht985
  have ht1057 : τ_1047 q253 = 53 := (hb1048 _ ne1028).1.trans ht986
  have ht1058 : τ_1047 q299 = 54 := (hb1048 _ ne1029).1.trans ht987
  have ht1059 : τ_1047 q347 = 56 := (hb1048 _ ne1030).1.trans ht988
  have ht1060 : τ_1047 q397 = 57 := (hb1048 _ ne1031).1.trans ht989
  have ht1061 : τ_1047 q449 = 60 := (hb1048 _ ne1032).1.trans ht990
  have ht1062 : τ_1047 q503 = 61 := (hb1048 _ ne1033).1.trans ht991
  have ht1063 : τ_1047 q559 = 69 := (hb1048 _ ne1034).1.trans ht992
  have ht1064 : τ_1047 q617 = 70 := (hb1048 _ ne1035).1.trans ht993
  have ht1065 : τ_1047 q677 = 71 := (hb1048 _ ne1036).1.trans ht994
  have ht1066 : τ_1047 q739 = 72 := (hb1048 _ ne1037).1.trans ht995
  have ht1067 : τ_1047 q803 = 73 := (hb1048 _ ne1038).1.trans ht996
  have ht1068 : τ_1047 q869 = 74 := (hb1048 _ ne1039).1.trans ht997
  have ht1069 : τ_1047 q937 = 75 := (hb1048 _ ne1040).1.trans ht978
  have hz1070 : τ_1047 h0 = 0 := (hb1048 _ ne1020).1.trans hz998
  have hz1071 : τ_1047 q1 = 0 := (hb1048 _ ne1021).1.trans hz999
  have hz1072 : τ_1047 q22 = 0 := (hb1048 _ ne1022).1.trans hz1000
  clear ht981 ht982 ht983 ht984 ht985 ht986 ht987 ht988 ht989 ht990 ht991 ht992 ht993 ht994 ht995 ht996 ht997 ht978 hz998 hz999 hz1000 hb1048 ne1020 ne1021 ne1022 ne1023 ne1024 ne1025 ne1026 ne1027 ne1028 ne1029 ne1030 ne1031 ne1032 ne1033 ne1034 ne1035 ne1036 ne1037 ne1038 ne1039 ne1040
  refine tpk_pos hl1042 hf1041 (fun q1073 eq1073 => ?_)
  refine va_putF (D := (dC, dI)) (ci := 12) (v := .ref q1007) (ty := (.array .int)) (C := RX12) (T := TX12) (N := 53) hx hb hts hfX12 tyX12 tyX12_ok nmX12 hown hK hP hD hS q1073 eq1073 rfl 46 (by decide) (hts (.fieldLink RX12 76 "ColdShipsModel" "places" "[I") wa_170) (fun _ h9 => h9) rfl hin rfl (tyX12_ok 46 (by decide)) rfl rfl (Nat.le_of_ble_eq_true rfl) dX12_init_183 (tp_k (.inr (12, [.int 0, .int 0, .ref q1, .ref q22, .ref q47, .ref q83, .ref q121, .int 0, .ref q161, .int 0, .int 0, .int 0, .int 0, .long 0, .int (-1), .int 0, .int 0, .int 0, .int 0, .int 0, .int 0, .ref q209, .int 0, .ref q253, .ref q299, .int 0, .ref q347, .ref q397, .int 0, .int 0, .ref q449, .ref q503, .int 0, .long 0, .long 0, .long 0, .int 0, .int 0, .int 0, .ref q559, .ref q617, .ref q677, .ref q739, .ref q803, .ref q869, .ref q937, .ref q1007, .int 0, .int 0, .null, .null, .null, .null])) hD hl1042 eq1073 (fun f1074 H locs hP hD hS g1076 k1075 => ?_))
  have hT := hT.raw hz1070 k1075
  have hH := hH.wo k1075
  have hf1077 : f1074 q1 = .inl (κ 0, 12967, .inl (fun _ => 0)) := (k1075 _ (Ne.symm ne14)).trans hf1043
  have hf1078 : f1074 q22 = .inl (κ 0, 25934, .inl (fun _ => 0)) := (k1075 _ (Ne.symm ne35)).trans hf1045
  clear hf1043 hf1045
  refine lv_aload_n hx hb dX12_init_186 rfl (lv_at hl 0 rfl) ?_
  refine lv_bipush (v := 6) hx hb dX12_init_187 (by decide) ?_
  refine va_newa (atype := .int) hx hb (hts (.arrayClass .int) wa_39) (ty := .int) rfl hK hP hD hS hA (a0 := (6, .inl (fun _ => 0))) (fun cA => pz_na_int cA 6) (by decide +kernel : ¬ (6 : Int32) < 0) (by decide +kernel : (6 : Int32).toNatClampNeg = 6) (by decide +kernel) (Nat.le_of_ble_eq_true rfl) (Nat.le_of_ble_eq_true rfl) dX12_init_189 (fun q1079 k1080 H hK hP hD hS => ?_)
  obtain ⟨e9, hK9⟩ := tp_kid 0 rfl hK; subst e9; have hK := hK9
  refine Exists.elim (tp_grow hG hT hP hD) (fun L1090 hE90 => Exists.elim hE90 (fun f1089 hE91 => tn_10 hE91 (fun hP hD hg1081 ht1082 hs1083 hq1084 hz1085 hn1086 hf1087 ho1088 => ?_)))
  clear hE91 hE90
  have hn1091 : ∀ a, a ∈ L → a ≠ q1079 := fun a ha => hn1086 a (hH.1 a ha)
  have ne1092 : h0 ≠ q1079 := hn1086 _ hl1042
  have ne1093 : q1 ≠ q1079 := hn1086 _ hl1044
  have ne1094 : q22 ≠ q1079 := hn1086 _ hl1046
  have ne1095 : q47 ≠ q1079 := hn1086 _ (tp_in hG ht1052 (by decide))
  have ne1096 : q83 ≠ q1079 := hn1086 _ (tp_in hG ht1053 (by decide))
  have ne1097 : q121 ≠ q1079 := hn1086 _ (tp_in hG ht1054 (by decide))
  have ne1098 : q161 ≠ q1079 := hn1086 _ (tp_in hG ht1055 (by decide))
  have ne1099 : q209 ≠ q1079 := hn1086 _ (tp_in hG ht1056 (by decide))
  have ne1100 : q253 ≠ q1079 := hn1086 _ (tp_in hG ht1057 (by decide))
  have ne1101 : q299 ≠ q1079 := hn1086 _ (tp_in hG ht1058 (by decide))
  have ne1102 : q347 ≠ q1079 := hn1086 _ (tp_in hG ht1059 (by decide))
  have ne1103 : q397 ≠ q1079 := hn1086 _ (tp_in hG ht1060 (by decide))
  have ne1104 : q449 ≠ q1079 := hn1086 _ (tp_in hG ht1061 (by decide))
  have ne1105 : q503 ≠ q1079 := hn1086 _ (tp_in hG ht1062 (by decide))
  have ne1106 : q559 ≠ q1079 := hn1086 _ (tp_in hG ht1063 (by decide))
  have ne1107 : q617 ≠ q1079 := hn1086 _ (tp_in hG ht1064 (by decide))
  have ne1108 : q677 ≠ q1079 := hn1086 _ (tp_in hG ht1065 (by decide))
  have ne1109 : q739 ≠ q1079 := hn1086 _ (tp_in hG ht1066 (by decide))
  have ne1110 : q803 ≠ q1079 := hn1086 _ (tp_in hG ht1067 (by decide))
  have ne1111 : q869 ≠ q1079 := hn1086 _ (tp_in hG ht1068 (by decide))
  have ne1112 : q937 ≠ q1079 := hn1086 _ (tp_in hG ht1069 (by decide))
  have ne1113 : q1007 ≠ q1079 := hn1086 _ (tp_in hG ht1049 (by decide))
  have hG := hg1081
  have hT := ht1082
  have hH := hH.gr hs1083 hn1086 ho1088
  have hf1114 : f1089 h0 = .inr (12, [.int 0, .int 0, .ref q1, .ref q22, .ref q47, .ref q83, .ref q121, .int 0, .ref q161, .int 0, .int 0, .int 0, .int 0, .long 0, .int (-1), .int 0, .int 0, .int 0, .int 0, .int 0, .int 0, .ref q209, .int 0, .ref q253, .ref q299, .int 0, .ref q347, .ref q397, .int 0, .int 0, .ref q449, .ref q503, .int 0, .long 0, .long 0, .long 0, .int 0, .int 0, .int 0, .ref q559, .ref q617, .ref q677, .ref q739, .ref q803, .ref q869, .ref q937, .ref q1007, .int 0, .int 0, .null, .null, .null, .null]) := (ho1088 _ ne1092).trans g1076
  have hl1115 : h0 ∈ L1090 := hs1083 _ hl1042
  have hf1116 : f1089 q1 = .inl (κ 0, 12967, .inl (fun _ => 0)) := (ho1088 _ ne1093).trans hf1077
  have hl1117 : q1 ∈ L1090 := hs1083 _ hl1044
  have hf1118 : f1089 q22 = .inl (κ 0, 25934, .inl (fun _ => 0)) := (ho1088 _ ne1094).trans hf1078
  have hl1119 : q22 ∈ L1090 := hs1083 _ hl1046
  clear g1076 hl1042 hf1077 hl1044 hf1078 hl1046
  obtain ⟨τ_1120, ν_1120, ρ_1120, hG, hT, hb1121, ht1122, hn1123, hr1124⟩ := tp_type hG hT hq1084 hz1085 79 (6) (fun _ => 0) (by decide) (fun τ9 ν9 ρ9 hE h2 h3 => ⟨trivial, by rw [hf1087]; exact tp_o79⟩)
  have hH := hH.ty (fun a ha _ => hn1091 a ha) hb1121
  have ht1125 : τ_1120 q47 = 34 := (hb1121 _ ne1095).1.trans ht1052
  have ht1126 : τ_1120 q83 = 35 := (hb1121 _ ne1096).1.trans ht1053
  have ht1127 : τ_1120 q121 = 36 := (hb1121 _ ne1097).1.trans ht1054
  have ht1128 : τ_1120 q161 = 38 := (hb1121 _ ne1098).1.trans ht1055
  have ht1129 : τ_1120 q209 = 51 := (hb1121 _ ne1099).1.trans ht1056
  have ht1130 : τ_1120 q253 = 53 := (hb1121 _ ne1100).1.trans ht1057
  have ht1131 : τ_1120 q299 = 54 := (hb1121 _ ne1101).1.trans ht1058
  have ht1132 : τ_1120 q347 = 56 := (hb1121 _ ne1102).1.trans ht1059
  have ht1133 : τ_1120 q397 = 57 := (hb1121 _ ne1103).1.trans ht1060
  have ht1134 : τ_1120 q449 = 60 := (hb1121 _ ne1104).1.trans ht1061
  have ht1135 : τ_1120 q503 = 61 := (hb1121 _ ne1105).1.trans ht1062
  have ht1136 : τ_1120 q559 = 69 := (hb1121 _ ne1106).1.trans ht1063
  have ht1137 : τ_1120 q617 = 70 := (hb1121 _ ne1107).1.trans ht1064
  have ht1138 : τ_1120 q677 = 71 := (hb1121 _ ne1108).1.trans ht1065
  have ht1139 : τ_1120 q739 = 72 := (hb1121 _ ne1109).1.trans ht1066
  have ht1140 : τ_1120 q803 = 73 := (hb1121 _ ne1110).1.trans ht1067
  have ht1141 : τ_1120 q869 = 74 := (hb1121 _ ne1111).1.trans ht1068
  have ht1142 : τ_1120 q937 = 75 := (hb1121 _ ne1112).1.trans ht1069
  have ht1143 : τ_1120 q1007 = 76 := (hb1121 _ ne1113).1.trans ht1049
  have hz1144 : τ_1120 h0 = 0 := (hb1121 _ ne1092).1.trans hz1070
  have hz1145 : τ_1120 q1 = 0 := (hb1121 _ ne1093).1.trans hz1071
  have hz1146 : τ_1120 q22 = 0 := (hb1121 _ ne1094).1.trans hz1072
  clear ht1052 ht1053 ht1054 ht1055 ht1056 ht1057 ht1058 ht1059 ht1060 ht1061 ht1062 ht1063 ht1064 ht1065 ht1066 ht1067 ht1068 ht1069 ht1049 hz1070 hz1071 hz1072 hb1121 ne1092 ne1093 ne1094 ne1095 ne1096 ne1097 ne1098 ne1099 ne1100 ne1101 ne1102 ne1103 ne1104 ne1105 ne1106 ne1107 ne1108 ne1109 ne1110 ne1111 ne1112 ne1113
  refine tpk_pos hl1115 hf1114 (fun q1147 eq1147 => ?_)
  refine va_putF (D := (dC, dI)) (ci := 12) (v := .ref q1079) (ty := (.array .int)) (C := RX12) (T := TX12) (N := 53) hx hb hts hfX12 tyX12 tyX12_ok nmX12 hown hK hP hD hS q1147 eq1147 rfl 49 (by decide) (hts (.fieldLink RX12 79 "ColdShipsModel" "bestShip" "[I") wa_171) (fun _ h9 => h9) rfl hin rfl (tyX12_ok 49 (by decide)) rfl rfl (Nat.le_of_ble_eq_true rfl) dX12_init_191 (tp_k (.inr (12, [.int 0, .int 0, .ref q1, .ref q22, .ref q47, .ref q83, .ref q121, .int 0, .ref q161, .int 0, .int 0, .int 0, .int 0, .long 0, .int (-1), .int 0, .int 0, .int 0, .int 0, .int 0, .int 0, .ref q209, .int 0, .ref q253, .ref q299, .int 0, .ref q347, .ref q397, .int 0, .int 0, .ref q449, .ref q503, .int 0, .long 0, .long 0, .long 0, .int 0, .int 0, .int 0, .ref q559, .ref q617, .ref q677, .ref q739, .ref q803, .ref q869, .ref q937, .ref q1007, .int 0, .int 0, .ref q1079, .null, .null, .null])) hD hl1115 eq1147 (fun f1148 H locs hP hD hS g1150 k1149 => ?_))
  have hT := hT.raw hz1144 k1149
  have hH := hH.wo k1149
  have hf1151 : f1148 q1 = .inl (κ 0, 12967, .inl (fun _ => 0)) := (k1149 _ (Ne.symm ne14)).trans hf1116
  have hf1152 : f1148 q22 = .inl (κ 0, 25934, .inl (fun _ => 0)) := (k1149 _ (Ne.symm ne35)).trans hf1118
  clear hf1116 hf1118
  refine lv_aload_n hx hb dX12_init_194 rfl (lv_at hl 0 rfl) ?_
  refine lv_bipush (v := 30) hx hb dX12_init_195 (by decide) ?_
  refine va_newa (atype := .long) hx hb (hts (.arrayClass .long) wa_82) (ty := .long) rfl hK hP hD hS hA (a0 := (30, .inr (.inl (fun _ => 0)))) (fun cA => pz_na_long cA 30) (by decide +kernel : ¬ (30 : Int32) < 0) (by decide +kernel : (30 : Int32).toNatClampNeg = 30) (by decide +kernel) (Nat.le_of_ble_eq_true rfl) (Nat.le_of_ble_eq_true rfl) dX12_init_197 (fun q1153 k1154 H hK hP hD hS => ?_)
  obtain ⟨e9, hK9⟩ := tp_kid 1 rfl hK; subst e9; have hK := hK9
  refine Exists.elim (tp_grow hG hT hP hD) (fun L1164 hE90 => Exists.elim hE90 (fun f1163 hE91 => tn_10 hE91 (fun hP hD hg1155 ht1156 hs1157 hq1158 hz1159 hn1160 hf1161 ho1162 => ?_)))
  clear hE91 hE90
  have hn1165 : ∀ a, a ∈ L → a ≠ q1153 := fun a ha => hn1160 a (hH.1 a ha)
  have ne1166 : h0 ≠ q1153 := hn1160 _ hl1115
  have ne1167 : q1 ≠ q1153 := hn1160 _ hl1117
  have ne1168 : q22 ≠ q1153 := hn1160 _ hl1119
  have ne1169 : q47 ≠ q1153 := hn1160 _ (tp_in hG ht1125 (by decide))
  have ne1170 : q83 ≠ q1153 := hn1160 _ (tp_in hG ht1126 (by decide))
  have ne1171 : q121 ≠ q1153 := hn1160 _ (tp_in hG ht1127 (by decide))
  have ne1172 : q161 ≠ q1153 := hn1160 _ (tp_in hG ht1128 (by decide))
  have ne1173 : q209 ≠ q1153 := hn1160 _ (tp_in hG ht1129 (by decide))
  have ne1174 : q253 ≠ q1153 := hn1160 _ (tp_in hG ht1130 (by decide))
  have ne1175 : q299 ≠ q1153 := hn1160 _ (tp_in hG ht1131 (by decide))
  have ne1176 : q347 ≠ q1153 := hn1160 _ (tp_in hG ht1132 (by decide))
  have ne1177 : q397 ≠ q1153 := hn1160 _ (tp_in hG ht1133 (by decide))
  have ne1178 : q449 ≠ q1153 := hn1160 _ (tp_in hG ht1134 (by decide))
  have ne1179 : q503 ≠ q1153 := hn1160 _ (tp_in hG ht1135 (by decide))
  have ne1180 : q559 ≠ q1153 := hn1160 _ (tp_in hG ht1136 (by decide))
  have ne1181 : q617 ≠ q1153 := hn1160 _ (tp_in hG ht1137 (by decide))
  have ne1182 : q677 ≠ q1153 := hn1160 _ (tp_in hG ht1138 (by decide))
  have ne1183 : q739 ≠ q1153 := hn1160 _ (tp_in hG ht1139 (by decide))
  have ne1184 : q803 ≠ q1153 := hn1160 _ (tp_in hG ht1140 (by decide))
  have ne1185 : q869 ≠ q1153 := hn1160 _ (tp_in hG ht1141 (by decide))
  have ne1186 : q937 ≠ q1153 := hn1160 _ (tp_in hG ht1142 (by decide))
  have ne1187 : q1007 ≠ q1153 := hn1160 _ (tp_in hG ht1143 (by decide))
  have ne1188 : q1079 ≠ q1153 := hn1160 _ (tp_in hG ht1122 (by decide))
  have hG := hg1155
  have hT := ht1156
  have hH := hH.gr hs1157 hn1160 ho1162
  have hf1189 : f1163 h0 = .inr (12, [.int 0, .int 0, .ref q1, .ref q22, .ref q47, .ref q83, .ref q121, .int 0, .ref q161, .int 0, .int 0, .int 0, .int 0, .long 0, .int (-1), .int 0, .int 0, .int 0, .int 0, .int 0, .int 0, .ref q209, .int 0, .ref q253, .ref q299, .int 0, .ref q347, .ref q397, .int 0, .int 0, .ref q449, .ref q503, .int 0, .long 0, .long 0, .long 0, .int 0, .int 0, .int 0, .ref q559, .ref q617, .ref q677, .ref q739, .ref q803, .ref q869, .ref q937, .ref q1007, .int 0, .int 0, .ref q1079, .null, .null, .null]) := (ho1162 _ ne1166).trans g1150
  have hl1190 : h0 ∈ L1164 := hs1157 _ hl1115
  have hf1191 : f1163 q1 = .inl (κ 0, 12967, .inl (fun _ => 0)) := (ho1162 _ ne1167).trans hf1151
  have hl1192 : q1 ∈ L1164 := hs1157 _ hl1117
  have hf1193 : f1163 q22 = .inl (κ 0, 25934, .inl (fun _ => 0)) := (ho1162 _ ne1168).trans hf1152
  have hl1194 : q22 ∈ L1164 := hs1157 _ hl1119
  clear g1150 hl1115 hf1151 hl1117 hf1152 hl1119
  obtain ⟨τ_1195, ν_1195, ρ_1195, hG, hT, hb1196, ht1197, hn1198, hr1199⟩ := tp_type hG hT hq1158 hz1159 80 (30) (fun _ => 0) (by decide) (fun τ9 ν9 ρ9 hE h2 h3 => ⟨trivial, by rw [hf1161]; exact tp_o80⟩)
  have hH := hH.ty (fun a ha _ => hn1165 a ha) hb1196
  have ht1200 : τ_1195 q47 = 34 := (hb1196 _ ne1169).1.trans ht1125
  have ht1201 : τ_1195 q83 = 35 := (hb1196 _ ne1170).1.trans ht1126
  have ht1202 : τ_1195 q121 = 36 := (hb1196 _ ne1171).1.trans ht1127
  have ht1203 : τ_1195 q161 = 38 := (hb1196 _ ne1172).1.trans ht1128
  have ht1204 : τ_1195 q209 = 51 := (hb1196 _ ne1173).1.trans ht1129
  have ht1205 : τ_1195 q253 = 53 := (hb1196 _ ne1174).1.trans ht1130
  have ht1206 : τ_1195 q299 = 54 := (hb1196 _ ne1175).1.trans ht1131
  have ht1207 : τ_1195 q347 = 56 := (hb1196 _ ne1176).1.trans ht1132
  have ht1208 : τ_1195 q397 = 57 := (hb1196 _ ne1177).1.trans ht1133
  have ht1209 : τ_1195 q449 = 60 := (hb1196 _ ne1178).1.trans ht1134
  have ht1210 : τ_1195 q503 = 61 := (hb1196 _ ne1179).1.trans ht1135
  have ht1211 : τ_1195 q559 = 69 := (hb1196 _ ne1180).1.trans ht1136
  have ht1212 : τ_1195 q617 = 70 := (hb1196 _ ne1181).1.trans ht1137
  have ht1213 : τ_1195 q677 = 71 := (hb1196 _ ne1182).1.trans ht1138
  have ht1214 : τ_1195 q739 = 72 := (hb1196 _ ne1183).1.trans ht1139
  have ht1215 : τ_1195 q803 = 73 := (hb1196 _ ne1184).1.trans ht1140
  have ht1216 : τ_1195 q869 = 74 := (hb1196 _ ne1185).1.trans ht1141
  have ht1217 : τ_1195 q937 = 75 := (hb1196 _ ne1186).1.trans ht1142
  have ht1218 : τ_1195 q1007 = 76 := (hb1196 _ ne1187).1.trans ht1143
  have ht1219 : τ_1195 q1079 = 79 := (hb1196 _ ne1188).1.trans ht1122
  have hz1220 : τ_1195 h0 = 0 := (hb1196 _ ne1166).1.trans hz1144
  have hz1221 : τ_1195 q1 = 0 := (hb1196 _ ne1167).1.trans hz1145
  have hz1222 : τ_1195 q22 = 0 := (hb1196 _ ne1168).1.trans hz1146
  clear ht1125 ht1126 ht1127 ht1128 ht1129 ht1130 ht1131 ht1132 ht1133 ht1134 ht1135 ht1136 ht1137 ht1138 ht1139 ht1140 ht1141 ht1142 ht1143 ht1122 hz1144 hz1145 hz1146 hb1196 ne1166 ne1167 ne1168 ne1169 ne1170 ne1171 ne1172 ne1173 ne1174 ne1175 ne1176 ne1177 ne1178 ne1179 ne1180 ne1181 ne1182 ne1183 ne1184 ne1185 ne1186 ne1187 ne1188
  refine tpk_pos hl1190 hf1189 (fun q1223 eq1223 => ?_)
  refine va_putF (D := (dC, dI)) (ci := 12) (v := .ref q1153) (ty := (.array .long)) (C := RX12) (T := TX12) (N := 53) hx hb hts hfX12 tyX12 tyX12_ok nmX12 hown hK hP hD hS q1223 eq1223 rfl 50 (by decide) (hts (.fieldLink RX12 82 "ColdShipsModel" "bestTold" "[J") wa_172) (fun _ h9 => h9) rfl hin rfl (tyX12_ok 50 (by decide)) rfl rfl (Nat.le_of_ble_eq_true rfl) dX12_init_199 (tp_k (.inr (12, [.int 0, .int 0, .ref q1, .ref q22, .ref q47, .ref q83, .ref q121, .int 0, .ref q161, .int 0, .int 0, .int 0, .int 0, .long 0, .int (-1), .int 0, .int 0, .int 0, .int 0, .int 0, .int 0, .ref q209, .int 0, .ref q253, .ref q299, .int 0, .ref q347, .ref q397, .int 0, .int 0, .ref q449, .ref q503, .int 0, .long 0, .long 0, .long 0, .int 0, .int 0, .int 0, .ref q559, .ref q617, .ref q677, .ref q739, .ref q803, .ref q869, .ref q937, .ref q1007, .int 0, .int 0, .ref q1079, .ref q1153, .null, .null])) hD hl1190 eq1223 (fun f1224 H locs hP hD hS g1226 k1225 => ?_))
  have hT := hT.raw hz1220 k1225
  have hH := hH.wo k1225
  have hf1227 : f1224 q1 = .inl (κ 0, 12967, .inl (fun _ => 0)) := (k1225 _ (Ne.symm ne14)).trans hf1191
  have hf1228 : f1224 q22 = .inl (κ 0, 25934, .inl (fun _ => 0)) := (k1225 _ (Ne.symm ne35)).trans hf1193
  clear hf1191 hf1193
  refine lv_aload_n hx hb dX12_init_202 rfl (lv_at hl 0 rfl) ?_
  refine lv_bipush (v := 6) hx hb dX12_init_203 (by decide) ?_
  refine va_newa (atype := .int) hx hb (hts (.arrayClass .int) wa_39) (ty := .int) rfl hK hP hD hS hA (a0 := (6, .inl (fun _ => 0))) (fun cA => pz_na_int cA 6) (by decide +kernel : ¬ (6 : Int32) < 0) (by decide +kernel : (6 : Int32).toNatClampNeg = 6) (by decide +kernel) (Nat.le_of_ble_eq_true rfl) (Nat.le_of_ble_eq_true rfl) dX12_init_205 (fun q1229 k1230 H hK hP hD hS => ?_)
  obtain ⟨e9, hK9⟩ := tp_kid 0 rfl hK; subst e9; have hK := hK9
  refine Exists.elim (tp_grow hG hT hP hD) (fun L1240 hE90 => Exists.elim hE90 (fun f1239 hE91 => tn_10 hE91 (fun hP hD hg1231 ht1232 hs1233 hq1234 hz1235 hn1236 hf1237 ho1238 => ?_)))
  clear hE91 hE90
  have hn1241 : ∀ a, a ∈ L → a ≠ q1229 := fun a ha => hn1236 a (hH.1 a ha)
  have ne1242 : h0 ≠ q1229 := hn1236 _ hl1190
  have ne1243 : q1 ≠ q1229 := hn1236 _ hl1192
  have ne1244 : q22 ≠ q1229 := hn1236 _ hl1194
  have ne1245 : q47 ≠ q1229 := hn1236 _ (tp_in hG ht1200 (by decide))
  have ne1246 : q83 ≠ q1229 := hn1236 _ (tp_in hG ht1201 (by decide))
  have ne1247 : q121 ≠ q1229 := hn1236 _ (tp_in hG ht1202 (by decide))
  have ne1248 : q161 ≠ q1229 := hn1236 _ (tp_in hG ht1203 (by decide))
  have ne1249 : q209 ≠ q1229 := hn1236 _ (tp_in hG ht1204 (by decide))
  have ne1250 : q253 ≠ q1229 := hn1236 _ (tp_in hG ht1205 (by decide))
  have ne1251 : q299 ≠ q1229 := hn1236 _ (tp_in hG ht1206 (by decide))
  have ne1252 : q347 ≠ q1229 := hn1236 _ (tp_in hG ht1207 (by decide))
  have ne1253 : q397 ≠ q1229 := hn1236 _ (tp_in hG ht1208 (by decide))
  have ne1254 : q449 ≠ q1229 := hn1236 _ (tp_in hG ht1209 (by decide))
  have ne1255 : q503 ≠ q1229 := hn1236 _ (tp_in hG ht1210 (by decide))
  have ne1256 : q559 ≠ q1229 := hn1236 _ (tp_in hG ht1211 (by decide))
  have ne1257 : q617 ≠ q1229 := hn1236 _ (tp_in hG ht1212 (by decide))
  have ne1258 : q677 ≠ q1229 := hn1236 _ (tp_in hG ht1213 (by decide))
  have ne1259 : q739 ≠ q1229 := hn1236 _ (tp_in hG ht1214 (by decide))
  have ne1260 : q803 ≠ q1229 := hn1236 _ (tp_in hG ht1215 (by decide))
  have ne1261 : q869 ≠ q1229 := hn1236 _ (tp_in hG ht1216 (by decide))
  have ne1262 : q937 ≠ q1229 := hn1236 _ (tp_in hG ht1217 (by decide))
  have ne1263 : q1007 ≠ q1229 := hn1236 _ (tp_in hG ht1218 (by decide))
  have ne1264 : q1079 ≠ q1229 := hn1236 _ (tp_in hG ht1219 (by decide))
  have ne1265 : q1153 ≠ q1229 := hn1236 _ (tp_in hG ht1197 (by decide))
  have hG := hg1231
  have hT := ht1232
  have hH := hH.gr hs1233 hn1236 ho1238
  have hf1266 : f1239 h0 = .inr (12, [.int 0, .int 0, .ref q1, .ref q22, .ref q47, .ref q83, .ref q121, .int 0, .ref q161, .int 0, .int 0, .int 0, .int 0, .long 0, .int (-1), .int 0, .int 0, .int 0, .int 0, .int 0, .int 0, .ref q209, .int 0, .ref q253, .ref q299, .int 0, .ref q347, .ref q397, .int 0, .int 0, .ref q449, .ref q503, .int 0, .long 0, .long 0, .long 0, .int 0, .int 0, .int 0, .ref q559, .ref q617, .ref q677, .ref q739, .ref q803, .ref q869, .ref q937, .ref q1007, .int 0, .int 0, .ref q1079, .ref q1153, .null, .null]) := (ho1238 _ ne1242).trans g1226
  have hl1267 : h0 ∈ L1240 := hs1233 _ hl1190
  have hf1268 : f1239 q1 = .inl (κ 0, 12967, .inl (fun _ => 0)) := (ho1238 _ ne1243).trans hf1227
  have hl1269 : q1 ∈ L1240 := hs1233 _ hl1192
  have hf1270 : f1239 q22 = .inl (κ 0, 25934, .inl (fun _ => 0)) := (ho1238 _ ne1244).trans hf1228
  have hl1271 : q22 ∈ L1240 := hs1233 _ hl1194
  clear g1226 hl1190 hf1227 hl1192 hf1228 hl1194
  obtain ⟨τ_1272, ν_1272, ρ_1272, hG, hT, hb1273, ht1274, hn1275, hr1276⟩ := tp_type hG hT hq1234 hz1235 81 (6) (fun _ => 0) (by decide) (fun τ9 ν9 ρ9 hE h2 h3 => ⟨trivial, by rw [hf1237]; exact tp_o81⟩)
  have hH := hH.ty (fun a ha _ => hn1241 a ha) hb1273
  have ht1277 : τ_1272 q47 = 34 := (hb1273 _ ne1245).1.trans ht1200
  have ht1278 : τ_1272 q83 = 35 := (hb1273 _ ne1246).1.trans ht1201
  have ht1279 : τ_1272 q121 = 36 := (hb1273 _ ne1247).1.trans ht1202
  have ht1280 : τ_1272 q161 = 38 := (hb1273 _ ne1248).1.trans ht1203
  have ht1281 : τ_1272 q209 = 51 := (hb1273 _ ne1249).1.trans ht1204
  have ht1282 : τ_1272 q253 = 53 := (hb1273 _ ne1250).1.trans ht1205
  have ht1283 : τ_1272 q299 = 54 := (hb1273 _ ne1251).1.trans ht1206
  have ht1284 : τ_1272 q347 = 56 := (hb1273 _ ne1252).1.trans ht1207
  have ht1285 : τ_1272 q397 = 57 := (hb1273 _ ne1253).1.trans ht1208
  have ht1286 : τ_1272 q449 = 60 := (hb1273 _ ne1254).1.trans ht1209
  have ht1287 : τ_1272 q503 = 61 := (hb1273 _ ne1255).1.trans ht1210
  have ht1288 : τ_1272 q559 = 69 := (hb1273 _ ne1256).1.trans ht1211
  have ht1289 : τ_1272 q617 = 70 := (hb1273 _ ne1257).1.trans ht1212
  have ht1290 : τ_1272 q677 = 71 := (hb1273 _ ne1258).1.trans ht1213
  have ht1291 : τ_1272 q739 = 72 := (hb1273 _ ne1259).1.trans ht1214
  have ht1292 : τ_1272 q803 = 73 := (hb1273 _ ne1260).1.trans ht1215
  have ht1293 : τ_1272 q869 = 74 := (hb1273 _ ne1261).1.trans ht1216
  have ht1294 : τ_1272 q937 = 75 := (hb1273 _ ne1262).1.trans ht1217
  have ht1295 : τ_1272 q1007 = 76 := (hb1273 _ ne1263).1.trans ht1218
  have ht1296 : τ_1272 q1079 = 79 := (hb1273 _ ne1264).1.trans ht1219
  have ht1297 : τ_1272 q1153 = 80 := (hb1273 _ ne1265).1.trans ht1197
  have hz1298 : τ_1272 h0 = 0 := (hb1273 _ ne1242).1.trans hz1220
  have hz1299 : τ_1272 q1 = 0 := (hb1273 _ ne1243).1.trans hz1221
  have hz1300 : τ_1272 q22 = 0 := (hb1273 _ ne1244).1.trans hz1222
  clear ht1200 ht1201 ht1202 ht1203 ht1204 ht1205 ht1206 ht1207 ht1208 ht1209 ht1210 ht1211 ht1212 ht1213 ht1214 ht1215 ht1216 ht1217 ht1218 ht1219 ht1197 hz1220 hz1221 hz1222 hb1273 ne1242 ne1243 ne1244 ne1245 ne1246 ne1247 ne1248 ne1249 ne1250 ne1251 ne1252 ne1253 ne1254 ne1255 ne1256 ne1257 ne1258 ne1259 ne1260 ne1261 ne1262 ne1263 ne1264 ne1265
  refine tpk_pos hl1267 hf1266 (fun q1301 eq1301 => ?_)
  refine va_putF (D := (dC, dI)) (ci := 12) (v := .ref q1229) (ty := (.array .int)) (C := RX12) (T := TX12) (N := 53) hx hb hts hfX12 tyX12 tyX12_ok nmX12 hown hK hP hD hS q1301 eq1301 rfl 51 (by decide) (hts (.fieldLink RX12 85 "ColdShipsModel" "chosen" "[I") wa_173) (fun _ h9 => h9) rfl hin rfl (tyX12_ok 51 (by decide)) rfl rfl (Nat.le_of_ble_eq_true rfl) dX12_init_207 (tp_k (.inr (12, [.int 0, .int 0, .ref q1, .ref q22, .ref q47, .ref q83, .ref q121, .int 0, .ref q161, .int 0, .int 0, .int 0, .int 0, .long 0, .int (-1), .int 0, .int 0, .int 0, .int 0, .int 0, .int 0, .ref q209, .int 0, .ref q253, .ref q299, .int 0, .ref q347, .ref q397, .int 0, .int 0, .ref q449, .ref q503, .int 0, .long 0, .long 0, .long 0, .int 0, .int 0, .int 0, .ref q559, .ref q617, .ref q677, .ref q739, .ref q803, .ref q869, .ref q937, .ref q1007, .int 0, .int 0, .ref q1079, .ref q1153, .ref q1229, .null])) hD hl1267 eq1301 (fun f1302 H locs hP hD hS g1304 k1303 => ?_))
  have hT := hT.raw hz1298 k1303
  have hH := hH.wo k1303
  have hf1305 : f1302 q1 = .inl (κ 0, 12967, .inl (fun _ => 0)) := (k1303 _ (Ne.symm ne14)).trans hf1268
  have hf1306 : f1302 q22 = .inl (κ 0, 25934, .inl (fun _ => 0)) := (k1303 _ (Ne.symm ne35)).trans hf1270
  clear hf1268 hf1270
  refine lv_aload_n hx hb dX12_init_210 rfl (lv_at hl 0 rfl) ?_
  refine lv_iconst (v := 3) hx hb dX12_init_211 (by decide) ?_
  refine va_newa (atype := .int) hx hb (hts (.arrayClass .int) wa_39) (ty := .int) rfl hK hP hD hS hA (a0 := (3, .inl (fun _ => 0))) (fun cA => pz_na_int cA 3) (by decide +kernel : ¬ (3 : Int32) < 0) (by decide +kernel : (3 : Int32).toNatClampNeg = 3) (by decide +kernel) (Nat.le_of_ble_eq_true rfl) (Nat.le_of_ble_eq_true rfl) dX12_init_212 (fun q1307 k1308 H hK hP hD hS => ?_)
  obtain ⟨e9, hK9⟩ := tp_kid 0 rfl hK; subst e9; have hK := hK9
  refine Exists.elim (tp_grow hG hT hP hD) (fun L1318 hE90 => Exists.elim hE90 (fun f1317 hE91 => tn_10 hE91 (fun hP hD hg1309 ht1310 hs1311 hq1312 hz1313 hn1314 hf1315 ho1316 => ?_)))
  clear hE91 hE90
  have hn1319 : ∀ a, a ∈ L → a ≠ q1307 := fun a ha => hn1314 a (hH.1 a ha)
  have ne1320 : h0 ≠ q1307 := hn1314 _ hl1267
  have ne1321 : q1 ≠ q1307 := hn1314 _ hl1269
  have ne1322 : q22 ≠ q1307 := hn1314 _ hl1271
  have ne1323 : q47 ≠ q1307 := hn1314 _ (tp_in hG ht1277 (by decide))
  have ne1324 : q83 ≠ q1307 := hn1314 _ (tp_in hG ht1278 (by decide))
  have ne1325 : q121 ≠ q1307 := hn1314 _ (tp_in hG ht1279 (by decide))
  have ne1326 : q161 ≠ q1307 := hn1314 _ (tp_in hG ht1280 (by decide))
  have ne1327 : q209 ≠ q1307 := hn1314 _ (tp_in hG ht1281 (by decide))
  have ne1328 : q253 ≠ q1307 := hn1314 _ (tp_in hG ht1282 (by decide))
  have ne1329 : q299 ≠ q1307 := hn1314 _ (tp_in hG ht1283 (by decide))
  have ne1330 : q347 ≠ q1307 := hn1314 _ (tp_in hG ht1284 (by decide))
  have ne1331 : q397 ≠ q1307 := hn1314 _ (tp_in hG ht1285 (by decide))
  have ne1332 : q449 ≠ q1307 := hn1314 _ (tp_in hG ht1286 (by decide))
  have ne1333 : q503 ≠ q1307 := hn1314 _ (tp_in hG ht1287 (by decide))
  have ne1334 : q559 ≠ q1307 := hn1314 _ (tp_in hG ht1288 (by decide))
  have ne1335 : q617 ≠ q1307 := hn1314 _ (tp_in hG ht1289 (by decide))
  have ne1336 : q677 ≠ q1307 := hn1314 _ (tp_in hG ht1290 (by decide))
  have ne1337 : q739 ≠ q1307 := hn1314 _ (tp_in hG ht1291 (by decide))
  have ne1338 : q803 ≠ q1307 := hn1314 _ (tp_in hG ht1292 (by decide))
  have ne1339 : q869 ≠ q1307 := hn1314 _ (tp_in hG ht1293 (by decide))
  have ne1340 : q937 ≠ q1307 := hn1314 _ (tp_in hG ht1294 (by decide))
  have ne1341 : q1007 ≠ q1307 := hn1314 _ (tp_in hG ht1295 (by decide))
  have ne1342 : q1079 ≠ q1307 := hn1314 _ (tp_in hG ht1296 (by decide))
  have ne1343 : q1153 ≠ q1307 := hn1314 _ (tp_in hG ht1297 (by decide))
  have ne1344 : q1229 ≠ q1307 := hn1314 _ (tp_in hG ht1274 (by decide))
  have hG := hg1309
  have hT := ht1310
  have hH := hH.gr hs1311 hn1314 ho1316
  have hf1345 : f1317 h0 = .inr (12, [.int 0, .int 0, .ref q1, .ref q22, .ref q47, .ref q83, .ref q121, .int 0, .ref q161, .int 0, .int 0, .int 0, .int 0, .long 0, .int (-1), .int 0, .int 0, .int 0, .int 0, .int 0, .int 0, .ref q209, .int 0, .ref q253, .ref q299, .int 0, .ref q347, .ref q397, .int 0, .int 0, .ref q449, .ref q503, .int 0, .long 0, .long 0, .long 0, .int 0, .int 0, .int 0, .ref q559, .ref q617, .ref q677, .ref q739, .ref q803, .ref q869, .ref q937, .ref q1007, .int 0, .int 0, .ref q1079, .ref q1153, .ref q1229, .null]) := (ho1316 _ ne1320).trans g1304
  have hl1346 : h0 ∈ L1318 := hs1311 _ hl1267
  have hf1347 : f1317 q1 = .inl (κ 0, 12967, .inl (fun _ => 0)) := (ho1316 _ ne1321).trans hf1305
  have hl1348 : q1 ∈ L1318 := hs1311 _ hl1269
  have hf1349 : f1317 q22 = .inl (κ 0, 25934, .inl (fun _ => 0)) := (ho1316 _ ne1322).trans hf1306
  have hl1350 : q22 ∈ L1318 := hs1311 _ hl1271
  clear g1304 hl1267 hf1305 hl1269 hf1306 hl1271
  obtain ⟨τ_1351, ν_1351, ρ_1351, hG, hT, hb1352, ht1353, hn1354, hr1355⟩ := tp_type hG hT hq1312 hz1313 82 (3) (fun _ => 0) (by decide) (fun τ9 ν9 ρ9 hE h2 h3 => ⟨trivial, by rw [hf1315]; exact tp_o82⟩)
  have hH := hH.ty (fun a ha _ => hn1319 a ha) hb1352
  have ht1356 : τ_1351 q47 = 34 := (hb1352 _ ne1323).1.trans ht1277
  have ht1357 : τ_1351 q83 = 35 := (hb1352 _ ne1324).1.trans ht1278
  have ht1358 : τ_1351 q121 = 36 := (hb1352 _ ne1325).1.trans ht1279
  have ht1359 : τ_1351 q161 = 38 := (hb1352 _ ne1326).1.trans ht1280
  have ht1360 : τ_1351 q209 = 51 := (hb1352 _ ne1327).1.trans ht1281
  have ht1361 : τ_1351 q253 = 53 := (hb1352 _ ne1328).1.trans ht1282
  have ht1362 : τ_1351 q299 = 54 := (hb1352 _ ne1329).1.trans ht1283
  have ht1363 : τ_1351 q347 = 56 := (hb1352 _ ne1330).1.trans ht1284
  have ht1364 : τ_1351 q397 = 57 := (hb1352 _ ne1331).1.trans ht1285
  have ht1365 : τ_1351 q449 = 60 := (hb1352 _ ne1332).1.trans ht1286
  have ht1366 : τ_1351 q503 = 61 := (hb1352 _ ne1333).1.trans ht1287
  have ht1367 : τ_1351 q559 = 69 := (hb1352 _ ne1334).1.trans ht1288
  have ht1368 : τ_1351 q617 = 70 := (hb1352 _ ne1335).1.trans ht1289
  have ht1369 : τ_1351 q677 = 71 := (hb1352 _ ne1336).1.trans ht1290
  have ht1370 : τ_1351 q739 = 72 := (hb1352 _ ne1337).1.trans ht1291
  have ht1371 : τ_1351 q803 = 73 := (hb1352 _ ne1338).1.trans ht1292
  have ht1372 : τ_1351 q869 = 74 := (hb1352 _ ne1339).1.trans ht1293
  have ht1373 : τ_1351 q937 = 75 := (hb1352 _ ne1340).1.trans ht1294
  have ht1374 : τ_1351 q1007 = 76 := (hb1352 _ ne1341).1.trans ht1295
  have ht1375 : τ_1351 q1079 = 79 := (hb1352 _ ne1342).1.trans ht1296
  have ht1376 : τ_1351 q1153 = 80 := (hb1352 _ ne1343).1.trans ht1297
  have ht1377 : τ_1351 q1229 = 81 := (hb1352 _ ne1344).1.trans ht1274
  have hz1378 : τ_1351 h0 = 0 := (hb1352 _ ne1320).1.trans hz1298
  have hz1379 : τ_1351 q1 = 0 := (hb1352 _ ne1321).1.trans hz1299
  have hz1380 : τ_1351 q22 = 0 := (hb1352 _ ne1322).1.trans hz1300
  clear ht1277 ht1278 ht1279 ht1280 ht1281 ht1282 ht1283 ht1284 ht1285 ht1286 ht1287 ht1288 ht1289 ht1290 ht1291 ht1292 ht1293 ht1294 ht1295 ht1296 ht1297 ht1274 hz1298 hz1299 hz1300 hb1352 ne1320 ne1321 ne1322 ne1323 ne1324 ne1325 ne1326 ne1327 ne1328 ne1329 ne1330 ne1331 ne1332 ne1333 ne1334 ne1335 ne1336 ne1337 ne1338 ne1339 ne1340 ne1341 ne1342 ne1343 ne1344
  refine tpk_pos hl1346 hf1345 (fun q1381 eq1381 => ?_)
  refine va_putF (D := (dC, dI)) (ci := 12) (v := .ref q1307) (ty := (.array .int)) (C := RX12) (T := TX12) (N := 53) hx hb hts hfX12 tyX12 tyX12_ok nmX12 hown hK hP hD hS q1381 eq1381 rfl 52 (by decide) (hts (.fieldLink RX12 88 "ColdShipsModel" "sets" "[I") wa_174) (fun _ h9 => h9) rfl hin rfl (tyX12_ok 52 (by decide)) rfl rfl (Nat.le_of_ble_eq_true rfl) dX12_init_214 (tp_k (.inr (12, [.int 0, .int 0, .ref q1, .ref q22, .ref q47, .ref q83, .ref q121, .int 0, .ref q161, .int 0, .int 0, .int 0, .int 0, .long 0, .int (-1), .int 0, .int 0, .int 0, .int 0, .int 0, .int 0, .ref q209, .int 0, .ref q253, .ref q299, .int 0, .ref q347, .ref q397, .int 0, .int 0, .ref q449, .ref q503, .int 0, .long 0, .long 0, .long 0, .int 0, .int 0, .int 0, .ref q559, .ref q617, .ref q677, .ref q739, .ref q803, .ref q869, .ref q937, .ref q1007, .int 0, .int 0, .ref q1079, .ref q1153, .ref q1229, .ref q1307])) hD hl1346 eq1381 (fun f1382 H locs hP hD hS g1384 k1383 => ?_))
  have hT := hT.raw hz1378 k1383
  have hH := hH.wo k1383
  have hf1385 : f1382 q1 = .inl (κ 0, 12967, .inl (fun _ => 0)) := (k1383 _ (Ne.symm ne14)).trans hf1347
  have hf1386 : f1382 q22 = .inl (κ 0, 25934, .inl (fun _ => 0)) := (k1383 _ (Ne.symm ne35)).trans hf1349
  clear hf1347 hf1349
  obtain ⟨τ_1387, ν_1387, ρ_1387, hG, hT, hb1388, ht1389, hn1390, hr1391⟩ := tp_type hG hT hl1348 hz1379 32 (12967) (fun _ => 0) (by decide) (fun τ9 ν9 ρ9 hE h2 h3 => ⟨trivial, by rw [hf1385]; exact tp_o32⟩)
  have hH := hH.ty (fun a ha _ => hn13 a ha) hb1388
  have ht1392 : τ_1387 q47 = 34 := (hb1388 _ (Ne.symm (tp_ne0 hz1379 ht1356 (by decide)))).1.trans ht1356
  have ht1393 : τ_1387 q83 = 35 := (hb1388 _ (Ne.symm (tp_ne0 hz1379 ht1357 (by decide)))).1.trans ht1357
  have ht1394 : τ_1387 q121 = 36 := (hb1388 _ (Ne.symm (tp_ne0 hz1379 ht1358 (by decide)))).1.trans ht1358
  have ht1395 : τ_1387 q161 = 38 := (hb1388 _ (Ne.symm (tp_ne0 hz1379 ht1359 (by decide)))).1.trans ht1359
  have ht1396 : τ_1387 q209 = 51 := (hb1388 _ (Ne.symm (tp_ne0 hz1379 ht1360 (by decide)))).1.trans ht1360
  have ht1397 : τ_1387 q253 = 53 := (hb1388 _ (Ne.symm (tp_ne0 hz1379 ht1361 (by decide)))).1.trans ht1361
  have ht1398 : τ_1387 q299 = 54 := (hb1388 _ (Ne.symm (tp_ne0 hz1379 ht1362 (by decide)))).1.trans ht1362
  have ht1399 : τ_1387 q347 = 56 := (hb1388 _ (Ne.symm (tp_ne0 hz1379 ht1363 (by decide)))).1.trans ht1363
  have ht1400 : τ_1387 q397 = 57 := (hb1388 _ (Ne.symm (tp_ne0 hz1379 ht1364 (by decide)))).1.trans ht1364
  have ht1401 : τ_1387 q449 = 60 := (hb1388 _ (Ne.symm (tp_ne0 hz1379 ht1365 (by decide)))).1.trans ht1365
  have ht1402 : τ_1387 q503 = 61 := (hb1388 _ (Ne.symm (tp_ne0 hz1379 ht1366 (by decide)))).1.trans ht1366
  have ht1403 : τ_1387 q559 = 69 := (hb1388 _ (Ne.symm (tp_ne0 hz1379 ht1367 (by decide)))).1.trans ht1367
  have ht1404 : τ_1387 q617 = 70 := (hb1388 _ (Ne.symm (tp_ne0 hz1379 ht1368 (by decide)))).1.trans ht1368
  have ht1405 : τ_1387 q677 = 71 := (hb1388 _ (Ne.symm (tp_ne0 hz1379 ht1369 (by decide)))).1.trans ht1369
  have ht1406 : τ_1387 q739 = 72 := (hb1388 _ (Ne.symm (tp_ne0 hz1379 ht1370 (by decide)))).1.trans ht1370
  have ht1407 : τ_1387 q803 = 73 := (hb1388 _ (Ne.symm (tp_ne0 hz1379 ht1371 (by decide)))).1.trans ht1371
  have ht1408 : τ_1387 q869 = 74 := (hb1388 _ (Ne.symm (tp_ne0 hz1379 ht1372 (by decide)))).1.trans ht1372
  have ht1409 : τ_1387 q937 = 75 := (hb1388 _ (Ne.symm (tp_ne0 hz1379 ht1373 (by decide)))).1.trans ht1373
  have ht1410 : τ_1387 q1007 = 76 := (hb1388 _ (Ne.symm (tp_ne0 hz1379 ht1374 (by decide)))).1.trans ht1374
  have ht1411 : τ_1387 q1079 = 79 := (hb1388 _ (Ne.symm (tp_ne0 hz1379 ht1375 (by decide)))).1.trans ht1375
  have ht1412 : τ_1387 q1153 = 80 := (hb1388 _ (Ne.symm (tp_ne0 hz1379 ht1376 (by decide)))).1.trans ht1376
  have ht1413 : τ_1387 q1229 = 81 := (hb1388 _ (Ne.symm (tp_ne0 hz1379 ht1377 (by decide)))).1.trans ht1377
  have ht1414 : τ_1387 q1307 = 82 := (hb1388 _ (Ne.symm (tp_ne0 hz1379 ht1353 (by decide)))).1.trans ht1353
  have hz1415 : τ_1387 h0 = 0 := (hb1388 _ ne14).1.trans hz1378
  have hz1416 : τ_1387 q22 = 0 := (hb1388 _ (Ne.symm ne36)).1.trans hz1380
  clear ht1356 ht1357 ht1358 ht1359 ht1360 ht1361 ht1362 ht1363 ht1364 ht1365 ht1366 ht1367 ht1368 ht1369 ht1370 ht1371 ht1372 ht1373 ht1374 ht1375 ht1376 ht1377 ht1353 hz1378 hz1380 hb1388 ne14
  obtain ⟨τ_1417, ν_1417, ρ_1417, hG, hT, hb1418, ht1419, hn1420, hr1421⟩ := tp_type hG hT hl1350 hz1416 33 (25934) (fun _ => 0) (by decide) (fun τ9 ν9 ρ9 hE h2 h3 => ⟨trivial, by rw [hf1386]; exact tp_o33⟩)
  have hH := hH.ty (fun a ha _ => hn34 a ha) hb1418
  have ht1422 : τ_1417 q47 = 34 := (hb1418 _ (Ne.symm (tp_ne0 hz1416 ht1392 (by decide)))).1.trans ht1392
  have ht1423 : τ_1417 q83 = 35 := (hb1418 _ (Ne.symm (tp_ne0 hz1416 ht1393 (by decide)))).1.trans ht1393
  have ht1424 : τ_1417 q121 = 36 := (hb1418 _ (Ne.symm (tp_ne0 hz1416 ht1394 (by decide)))).1.trans ht1394
  have ht1425 : τ_1417 q161 = 38 := (hb1418 _ (Ne.symm (tp_ne0 hz1416 ht1395 (by decide)))).1.trans ht1395
  have ht1426 : τ_1417 q209 = 51 := (hb1418 _ (Ne.symm (tp_ne0 hz1416 ht1396 (by decide)))).1.trans ht1396
  have ht1427 : τ_1417 q253 = 53 := (hb1418 _ (Ne.symm (tp_ne0 hz1416 ht1397 (by decide)))).1.trans ht1397
  have ht1428 : τ_1417 q299 = 54 := (hb1418 _ (Ne.symm (tp_ne0 hz1416 ht1398 (by decide)))).1.trans ht1398
  have ht1429 : τ_1417 q347 = 56 := (hb1418 _ (Ne.symm (tp_ne0 hz1416 ht1399 (by decide)))).1.trans ht1399
  have ht1430 : τ_1417 q397 = 57 := (hb1418 _ (Ne.symm (tp_ne0 hz1416 ht1400 (by decide)))).1.trans ht1400
  have ht1431 : τ_1417 q449 = 60 := (hb1418 _ (Ne.symm (tp_ne0 hz1416 ht1401 (by decide)))).1.trans ht1401
  have ht1432 : τ_1417 q503 = 61 := (hb1418 _ (Ne.symm (tp_ne0 hz1416 ht1402 (by decide)))).1.trans ht1402
  have ht1433 : τ_1417 q559 = 69 := (hb1418 _ (Ne.symm (tp_ne0 hz1416 ht1403 (by decide)))).1.trans ht1403
  have ht1434 : τ_1417 q617 = 70 := (hb1418 _ (Ne.symm (tp_ne0 hz1416 ht1404 (by decide)))).1.trans ht1404
  have ht1435 : τ_1417 q677 = 71 := (hb1418 _ (Ne.symm (tp_ne0 hz1416 ht1405 (by decide)))).1.trans ht1405
  have ht1436 : τ_1417 q739 = 72 := (hb1418 _ (Ne.symm (tp_ne0 hz1416 ht1406 (by decide)))).1.trans ht1406
  have ht1437 : τ_1417 q803 = 73 := (hb1418 _ (Ne.symm (tp_ne0 hz1416 ht1407 (by decide)))).1.trans ht1407
  have ht1438 : τ_1417 q869 = 74 := (hb1418 _ (Ne.symm (tp_ne0 hz1416 ht1408 (by decide)))).1.trans ht1408
  have ht1439 : τ_1417 q937 = 75 := (hb1418 _ (Ne.symm (tp_ne0 hz1416 ht1409 (by decide)))).1.trans ht1409
  have ht1440 : τ_1417 q1007 = 76 := (hb1418 _ (Ne.symm (tp_ne0 hz1416 ht1410 (by decide)))).1.trans ht1410
  have ht1441 : τ_1417 q1079 = 79 := (hb1418 _ (Ne.symm (tp_ne0 hz1416 ht1411 (by decide)))).1.trans ht1411
  have ht1442 : τ_1417 q1153 = 80 := (hb1418 _ (Ne.symm (tp_ne0 hz1416 ht1412 (by decide)))).1.trans ht1412
  have ht1443 : τ_1417 q1229 = 81 := (hb1418 _ (Ne.symm (tp_ne0 hz1416 ht1413 (by decide)))).1.trans ht1413
  have ht1444 : τ_1417 q1307 = 82 := (hb1418 _ (Ne.symm (tp_ne0 hz1416 ht1414 (by decide)))).1.trans ht1414
  have ht1445 : τ_1417 q1 = 32 := (hb1418 _ ne36).1.trans ht1389
  have hz1446 : τ_1417 h0 = 0 := (hb1418 _ ne35).1.trans hz1415
  clear ht1392 ht1393 ht1394 ht1395 ht1396 ht1397 ht1398 ht1399 ht1400 ht1401 ht1402 ht1403 ht1404 ht1405 ht1406 ht1407 ht1408 ht1409 ht1410 ht1411 ht1412 ht1413 ht1414 ht1389 hz1415 hb1418 ne35 ne36
  refine lv_aload_n hx hb dX12_init_217 rfl (lv_at hl 0 rfl) ?_
  refine tpk_pos hl1346 g1384 (fun q1447 eq1447 => ?_)
  refine va_get (D := (dC, dI)) (ci := 12) (v := .ref q1) (C := RX12) (T := TX12) (N := 53) hx hb hts hfX12 hown hK hP q1447 eq1447 rfl 2 (by decide) (hts (.fieldLink RX12 7 "ColdShipsModel" "row" "[I") wa_148) (fun _ h9 => h9) rfl dX12_init_218 ?_
  refine lv_bipush (v := 12) hx hb dX12_init_221 (by decide) ?_
  refine lv_bipush (v := 10) hx hb dX12_init_223 (by decide) ?_
  refine tpk_pos (tp_in hG ht1445 (by decide)) hf1385 (fun q1448 eq1448 => ?_)
  refine va_iast hx hb hK hP hD hS q1448 0 eq1448 rfl (vp_in_iff.mpr ⟨by decide, by decide⟩) dX12_init_225 (tp_k (.inl (κ 0, 12967, .inl (upd (fun _ => 0) (12 : Int32).toNatClampNeg (10 : Int32)))) hD (tp_in hG ht1445 (by decide)) eq1448 (fun f1449 H locs hP hD hS g1451 k1450 => ?_))
  have hT := hT.up ht1445 g1451 k1450 tp_o32
  have hH := hH.wt ht1445 (by decide) k1450
  have hf1452 : f1449 h0 = .inr (12, [.int 0, .int 0, .ref q1, .ref q22, .ref q47, .ref q83, .ref q121, .int 0, .ref q161, .int 0, .int 0, .int 0, .int 0, .long 0, .int (-1), .int 0, .int 0, .int 0, .int 0, .int 0, .int 0, .ref q209, .int 0, .ref q253, .ref q299, .int 0, .ref q347, .ref q397, .int 0, .int 0, .ref q449, .ref q503, .int 0, .long 0, .long 0, .long 0, .int 0, .int 0, .int 0, .ref q559, .ref q617, .ref q677, .ref q739, .ref q803, .ref q869, .ref q937, .ref q1007, .int 0, .int 0, .ref q1079, .ref q1153, .ref q1229, .ref q1307]) := (k1450 _ (tp_ne0 hz1446 ht1445 (by decide))).trans g1384
  clear g1384
  refine lv_aload_n hx hb dX12_init_226 rfl (lv_at hl 0 rfl) ?_
  refine tpk_pos hl1346 hf1452 (fun q1454 eq1454 => ?_)
  refine va_get (D := (dC, dI)) (ci := 12) (v := .ref q1) (C := RX12) (T := TX12) (N := 53) hx hb hts hfX12 hown hK hP q1454 eq1454 rfl 2 (by decide) (hts (.fieldLink RX12 7 "ColdShipsModel" "row" "[I") wa_148) (fun _ h9 => h9) rfl dX12_init_227 ?_
  refine lv_bipush (v := 13) hx hb dX12_init_230 (by decide) ?_
  refine lv_sipush (v := 700) hx hb dX12_init_232 (by decide) ?_
  refine tpk_pos (tp_in hG ht1445 (by decide)) g1451 (fun q1455 eq1455 => ?_)
  refine va_iast hx hb hK hP hD hS q1455 0 eq1455 rfl (vp_in_iff.mpr ⟨by decide, by decide⟩) dX12_init_235 (tp_k (.inl (κ 0, 12967, .inl (upd (upd (fun _ => 0) (12 : Int32).toNatClampNeg (10 : Int32)) (13 : Int32).toNatClampNeg (700 : Int32)))) hD (tp_in hG ht1445 (by decide)) eq1455 (fun f1456 H locs hP hD hS g1458 k1457 => ?_))
  have hT := hT.up ht1445 g1458 k1457 tp_o32
  have hH := hH.wt ht1445 (by decide) k1457
  have hf1459 : f1456 h0 = .inr (12, [.int 0, .int 0, .ref q1, .ref q22, .ref q47, .ref q83, .ref q121, .int 0, .ref q161, .int 0, .int 0, .int 0, .int 0, .long 0, .int (-1), .int 0, .int 0, .int 0, .int 0, .int 0, .int 0, .ref q209, .int 0, .ref q253, .ref q299, .int 0, .ref q347, .ref q397, .int 0, .int 0, .ref q449, .ref q503, .int 0, .long 0, .long 0, .long 0, .int 0, .int 0, .int 0, .ref q559, .ref q617, .ref q677, .ref q739, .ref q803, .ref q869, .ref q937, .ref q1007, .int 0, .int 0, .ref q1079, .ref q1153, .ref q1229, .ref q1307]) := (k1457 _ (tp_ne0 hz1446 ht1445 (by decide))).trans hf1452
  clear hf1452
  have hf_1461 : f1449 q22 = .inl (κ 0, 25934, .inl (fun _ => 0)) := (k1450 _ (tp_ne ht1419 ht1445 (by decide))).trans hf1386
  have hf_1462 : f1456 q22 = .inl (κ 0, 25934, .inl (fun _ => 0)) := (k1457 _ (tp_ne ht1419 ht1445 (by decide))).trans hf_1461
  obtain ⟨τ_1463, ν_1463, ρ_1463, hG, hT, hb1464, ht1465, hn1466, hr1467⟩ := tp_type hG hT hl1346 hz1446 13 (0) (fun k => [0, 0, q1, q22, q47, q83, q121, 0, q161, 0, 0, 0, 0, 0, 0, 0, 0, 0, 0, 0, 0, q209, 0, q253, q299, 0, q347, q397, 0, 0, q449, q503, 0, 0, 0, 0, 0, 0, 0, q559, q617, q677, q739, q803, q869, q937, q1007, 0, 0, q1079, q1153, q1229, q1307].getD k 0) (by decide) (fun τ9 ν9 ρ9 hE h2 h3 => ⟨(by show (τ9 (ρ9 h0 2) = 32) ∧ (τ9 (ρ9 h0 3) = 33) ∧ (τ9 (ρ9 h0 4) = 34) ∧ (τ9 (ρ9 h0 5) = 35) ∧ (τ9 (ρ9 h0 6) = 36) ∧ (τ9 (ρ9 h0 8) = 38) ∧ (τ9 (ρ9 h0 21) = 51) ∧ (τ9 (ρ9 h0 23) = 53) ∧ (τ9 (ρ9 h0 24) = 54) ∧ (τ9 (ρ9 h0 26) = 56) ∧ (τ9 (ρ9 h0 27) = 57) ∧ (τ9 (ρ9 h0 30) = 60) ∧ (τ9 (ρ9 h0 31) = 61) ∧ (τ9 (ρ9 h0 39) = 69) ∧ (τ9 (ρ9 h0 40) = 70) ∧ (τ9 (ρ9 h0 41) = 71) ∧ (τ9 (ρ9 h0 42) = 72) ∧ (τ9 (ρ9 h0 43) = 73) ∧ (τ9 (ρ9 h0 44) = 74) ∧ (τ9 (ρ9 h0 45) = 75) ∧ (τ9 (ρ9 h0 46) = 76) ∧ (τ9 (ρ9 h0 49) = 79) ∧ (τ9 (ρ9 h0 50) = 80) ∧ (τ9 (ρ9 h0 51) = 81) ∧ (τ9 (ρ9 h0 52) = 82); rw [h3]; exact ⟨(hE q1 (by rw [ht1445]; decide)).1.trans ht1445, (hE q22 (by rw [ht1419]; decide)).1.trans ht1419, (hE q47 (by rw [ht1422]; decide)).1.trans ht1422, (hE q83 (by rw [ht1423]; decide)).1.trans ht1423, (hE q121 (by rw [ht1424]; decide)).1.trans ht1424, (hE q161 (by rw [ht1425]; decide)).1.trans ht1425, (hE q209 (by rw [ht1426]; decide)).1.trans ht1426, (hE q253 (by rw [ht1427]; decide)).1.trans ht1427, (hE q299 (by rw [ht1428]; decide)).1.trans ht1428, (hE q347 (by rw [ht1429]; decide)).1.trans ht1429, (hE q397 (by rw [ht1430]; decide)).1.trans ht1430, (hE q449 (by rw [ht1431]; decide)).1.trans ht1431, (hE q503 (by rw [ht1432]; decide)).1.trans ht1432, (hE q559 (by rw [ht1433]; decide)).1.trans ht1433, (hE q617 (by rw [ht1434]; decide)).1.trans ht1434, (hE q677 (by rw [ht1435]; decide)).1.trans ht1435, (hE q739 (by rw [ht1436]; decide)).1.trans ht1436, (hE q803 (by rw [ht1437]; decide)).1.trans ht1437, (hE q869 (by rw [ht1438]; decide)).1.trans ht1438, (hE q937 (by rw [ht1439]; decide)).1.trans ht1439, (hE q1007 (by rw [ht1440]; decide)).1.trans ht1440, (hE q1079 (by rw [ht1441]; decide)).1.trans ht1441, (hE q1153 (by rw [ht1442]; decide)).1.trans ht1442, (hE q1229 (by rw [ht1443]; decide)).1.trans ht1443, (hE q1307 (by rw [ht1444]; decide)).1.trans ht1444⟩), by rw [hf1459]; exact ⟨_, _, _, _, _, _, _, _, _, _, _, _, _, _, _, _, _, _, _, _, _, _, _, _, _, _, _, _, (by rw [h3]; rfl), (by first | decide | (rw [h3]; decide) | (have : (0 : Int32).toInt = 0 := rfl; have : (0 : Int32).toInt = 0 := rfl; have : (0 : Int32).toInt = 0 := rfl; have : (0 : Int32).toInt = 0 := rfl; have : (0 : Int32).toInt = 0 := rfl; have : (0 : Int32).toInt = 0 := rfl; have : (0 : Int32).toInt = 0 := rfl; have : ((-1) : Int32).toInt = (-1) := rfl; have : (0 : Int32).toInt = 0 := rfl; have : (0 : Int32).toInt = 0 := rfl; have : (0 : Int32).toInt = 0 := rfl; have : (0 : Int32).toInt = 0 := rfl; have : (0 : Int32).toInt = 0 := rfl; have : (0 : Int32).toInt = 0 := rfl; have : (0 : Int32).toInt = 0 := rfl; have : (0 : Int32).toInt = 0 := rfl; have : (0 : Int32).toInt = 0 := rfl; have : (0 : Int32).toInt = 0 := rfl; have : (0 : Int32).toInt = 0 := rfl; have : (0 : Int32).toInt = 0 := rfl; have : (0 : Int32).toInt = 0 := rfl; have : (0 : Int32).toInt = 0 := rfl; have : (0 : Int32).toInt = 0 := rfl; have : (0 : Int32).toInt = 0 := rfl; omega) | (rw [h3]; have : (0 : Int32).toInt = 0 := rfl; have : (0 : Int32).toInt = 0 := rfl; have : (0 : Int32).toInt = 0 := rfl; have : (0 : Int32).toInt = 0 := rfl; have : (0 : Int32).toInt = 0 := rfl; have : (0 : Int32).toInt = 0 := rfl; have : (0 : Int32).toInt = 0 := rfl; have : ((-1) : Int32).toInt = (-1) := rfl; have : (0 : Int32).toInt = 0 := rfl; have : (0 : Int32).toInt = 0 := rfl; have : (0 : Int32).toInt = 0 := rfl; have : (0 : Int32).toInt = 0 := rfl; have : (0 : Int32).toInt = 0 := rfl; have : (0 : Int32).toInt = 0 := rfl; have : (0 : Int32).toInt = 0 := rfl; have : (0 : Int32).toInt = 0 := rfl; have : (0 : Int32).toInt = 0 := rfl; have : (0 : Int32).toInt = 0 := rfl; have : (0 : Int32).toInt = 0 := rfl; have : (0 : Int32).toInt = 0 := rfl; have : (0 : Int32).toInt = 0 := rfl; have : (0 : Int32).toInt = 0 := rfl; have : (0 : Int32).toInt = 0 := rfl; have : (0 : Int32).toInt = 0 := rfl; omega)), (by first | decide | (rw [h3]; decide) | (have : (0 : Int32).toInt = 0 := rfl; have : (0 : Int32).toInt = 0 := rfl; have : (0 : Int32).toInt = 0 := rfl; have : (0 : Int32).toInt = 0 := rfl; have : (0 : Int32).toInt = 0 := rfl; have : (0 : Int32).toInt = 0 := rfl; have : (0 : Int32).toInt = 0 := rfl; have : ((-1) : Int32).toInt = (-1) := rfl; have : (0 : Int32).toInt = 0 := rfl; have : (0 : Int32).toInt = 0 := rfl; have : (0 : Int32).toInt = 0 := rfl; have : (0 : Int32).toInt = 0 := rfl; have : (0 : Int32).toInt = 0 := rfl; have : (0 : Int32).toInt = 0 := rfl; have : (0 : Int32).toInt = 0 := rfl; have : (0 : Int32).toInt = 0 := rfl; have : (0 : Int32).toInt = 0 := rfl; have : (0 : Int32).toInt = 0 := rfl; have : (0 : Int32).toInt = 0 := rfl; have : (0 : Int32).toInt = 0 := rfl; have : (0 : Int32).toInt = 0 := rfl; have : (0 : Int32).toInt = 0 := rfl; have : (0 : Int32).toInt = 0 := rfl; have : (0 : Int32).toInt = 0 := rfl; omega) | (rw [h3]; have : (0 : Int32).toInt = 0 := rfl; have : (0 : Int32).toInt = 0 := rfl; have : (0 : Int32).toInt = 0 := rfl; have : (0 : Int32).toInt = 0 := rfl; have : (0 : Int32).toInt = 0 := rfl; have : (0 : Int32).toInt = 0 := rfl; have : (0 : Int32).toInt = 0 := rfl; have : ((-1) : Int32).toInt = (-1) := rfl; have : (0 : Int32).toInt = 0 := rfl; have : (0 : Int32).toInt = 0 := rfl; have : (0 : Int32).toInt = 0 := rfl; have : (0 : Int32).toInt = 0 := rfl; have : (0 : Int32).toInt = 0 := rfl; have : (0 : Int32).toInt = 0 := rfl; have : (0 : Int32).toInt = 0 := rfl; have : (0 : Int32).toInt = 0 := rfl; have : (0 : Int32).toInt = 0 := rfl; have : (0 : Int32).toInt = 0 := rfl; have : (0 : Int32).toInt = 0 := rfl; have : (0 : Int32).toInt = 0 := rfl; have : (0 : Int32).toInt = 0 := rfl; have : (0 : Int32).toInt = 0 := rfl; have : (0 : Int32).toInt = 0 := rfl; have : (0 : Int32).toInt = 0 := rfl; omega)), (by first | decide | (rw [h3]; decide) | (have : (0 : Int32).toInt = 0 := rfl; have : (0 : Int32).toInt = 0 := rfl; have : (0 : Int32).toInt = 0 := rfl; have : (0 : Int32).toInt = 0 := rfl; have : (0 : Int32).toInt = 0 := rfl; have : (0 : Int32).toInt = 0 := rfl; have : (0 : Int32).toInt = 0 := rfl; have : ((-1) : Int32).toInt = (-1) := rfl; have : (0 : Int32).toInt = 0 := rfl; have : (0 : Int32).toInt = 0 := rfl; have : (0 : Int32).toInt = 0 := rfl; have : (0 : Int32).toInt = 0 := rfl; have : (0 : Int32).toInt = 0 := rfl; have : (0 : Int32).toInt = 0 := rfl; have : (0 : Int32).toInt = 0 := rfl; have : (0 : Int32).toInt = 0 := rfl; have : (0 : Int32).toInt = 0 := rfl; have : (0 : Int32).toInt = 0 := rfl; have : (0 : Int32).toInt = 0 := rfl; have : (0 : Int32).toInt = 0 := rfl; have : (0 : Int32).toInt = 0 := rfl; have : (0 : Int32).toInt = 0 := rfl; have : (0 : Int32).toInt = 0 := rfl; have : (0 : Int32).toInt = 0 := rfl; omega) | (rw [h3]; have : (0 : Int32).toInt = 0 := rfl; have : (0 : Int32).toInt = 0 := rfl; have : (0 : Int32).toInt = 0 := rfl; have : (0 : Int32).toInt = 0 := rfl; have : (0 : Int32).toInt = 0 := rfl; have : (0 : Int32).toInt = 0 := rfl; have : (0 : Int32).toInt = 0 := rfl; have : ((-1) : Int32).toInt = (-1) := rfl; have : (0 : Int32).toInt = 0 := rfl; have : (0 : Int32).toInt = 0 := rfl; have : (0 : Int32).toInt = 0 := rfl; have : (0 : Int32).toInt = 0 := rfl; have : (0 : Int32).toInt = 0 := rfl; have : (0 : Int32).toInt = 0 := rfl; have : (0 : Int32).toInt = 0 := rfl; have : (0 : Int32).toInt = 0 := rfl; have : (0 : Int32).toInt = 0 := rfl; have : (0 : Int32).toInt = 0 := rfl; have : (0 : Int32).toInt = 0 := rfl; have : (0 : Int32).toInt = 0 := rfl; have : (0 : Int32).toInt = 0 := rfl; have : (0 : Int32).toInt = 0 := rfl; have : (0 : Int32).toInt = 0 := rfl; have : (0 : Int32).toInt = 0 := rfl; omega)), (by first | decide | (rw [h3]; decide) | (have : (0 : Int32).toInt = 0 := rfl; have : (0 : Int32).toInt = 0 := rfl; have : (0 : Int32).toInt = 0 := rfl; have : (0 : Int32).toInt = 0 := rfl; have : (0 : Int32).toInt = 0 := rfl; have : (0 : Int32).toInt = 0 := rfl; have : (0 : Int32).toInt = 0 := rfl; have : ((-1) : Int32).toInt = (-1) := rfl; have : (0 : Int32).toInt = 0 := rfl; have : (0 : Int32).toInt = 0 := rfl; have : (0 : Int32).toInt = 0 := rfl; have : (0 : Int32).toInt = 0 := rfl; have : (0 : Int32).toInt = 0 := rfl; have : (0 : Int32).toInt = 0 := rfl; have : (0 : Int32).toInt = 0 := rfl; have : (0 : Int32).toInt = 0 := rfl; have : (0 : Int32).toInt = 0 := rfl; have : (0 : Int32).toInt = 0 := rfl; have : (0 : Int32).toInt = 0 := rfl; have : (0 : Int32).toInt = 0 := rfl; have : (0 : Int32).toInt = 0 := rfl; have : (0 : Int32).toInt = 0 := rfl; have : (0 : Int32).toInt = 0 := rfl; have : (0 : Int32).toInt = 0 := rfl; omega) | (rw [h3]; have : (0 : Int32).toInt = 0 := rfl; have : (0 : Int32).toInt = 0 := rfl; have : (0 : Int32).toInt = 0 := rfl; have : (0 : Int32).toInt = 0 := rfl; have : (0 : Int32).toInt = 0 := rfl; have : (0 : Int32).toInt = 0 := rfl; have : (0 : Int32).toInt = 0 := rfl; have : ((-1) : Int32).toInt = (-1) := rfl; have : (0 : Int32).toInt = 0 := rfl; have : (0 : Int32).toInt = 0 := rfl; have : (0 : Int32).toInt = 0 := rfl; have : (0 : Int32).toInt = 0 := rfl; have : (0 : Int32).toInt = 0 := rfl; have : (0 : Int32).toInt = 0 := rfl; have : (0 : Int32).toInt = 0 := rfl; have : (0 : Int32).toInt = 0 := rfl; have : (0 : Int32).toInt = 0 := rfl; have : (0 : Int32).toInt = 0 := rfl; have : (0 : Int32).toInt = 0 := rfl; have : (0 : Int32).toInt = 0 := rfl; have : (0 : Int32).toInt = 0 := rfl; have : (0 : Int32).toInt = 0 := rfl; have : (0 : Int32).toInt = 0 := rfl; have : (0 : Int32).toInt = 0 := rfl; omega)), (by first | decide | (rw [h3]; decide) | (have : (0 : Int32).toInt = 0 := rfl; have : (0 : Int32).toInt = 0 := rfl; have : (0 : Int32).toInt = 0 := rfl; have : (0 : Int32).toInt = 0 := rfl; have : (0 : Int32).toInt = 0 := rfl; have : (0 : Int32).toInt = 0 := rfl; have : (0 : Int32).toInt = 0 := rfl; have : ((-1) : Int32).toInt = (-1) := rfl; have : (0 : Int32).toInt = 0 := rfl; have : (0 : Int32).toInt = 0 := rfl; have : (0 : Int32).toInt = 0 := rfl; have : (0 : Int32).toInt = 0 := rfl; have : (0 : Int32).toInt = 0 := rfl; have : (0 : Int32).toInt = 0 := rfl; have : (0 : Int32).toInt = 0 := rfl; have : (0 : Int32).toInt = 0 := rfl; have : (0 : Int32).toInt = 0 := rfl; have : (0 : Int32).toInt = 0 := rfl; have : (0 : Int32).toInt = 0 := rfl; have : (0 : Int32).toInt = 0 := rfl; have : (0 : Int32).toInt = 0 := rfl; have : (0 : Int32).toInt = 0 := rfl; have : (0 : Int32).toInt = 0 := rfl; have : (0 : Int32).toInt = 0 := rfl; omega) | (rw [h3]; have : (0 : Int32).toInt = 0 := rfl; have : (0 : Int32).toInt = 0 := rfl; have : (0 : Int32).toInt = 0 := rfl; have : (0 : Int32).toInt = 0 := rfl; have : (0 : Int32).toInt = 0 := rfl; have : (0 : Int32).toInt = 0 := rfl; have : (0 : Int32).toInt = 0 := rfl; have : ((-1) : Int32).toInt = (-1) := rfl; have : (0 : Int32).toInt = 0 := rfl; have : (0 : Int32).toInt = 0 := rfl; have : (0 : Int32).toInt = 0 := rfl; have : (0 : Int32).toInt = 0 := rfl; have : (0 : Int32).toInt = 0 := rfl; have : (0 : Int32).toInt = 0 := rfl; have : (0 : Int32).toInt = 0 := rfl; have : (0 : Int32).toInt = 0 := rfl; have : (0 : Int32).toInt = 0 := rfl; have : (0 : Int32).toInt = 0 := rfl; have : (0 : Int32).toInt = 0 := rfl; have : (0 : Int32).toInt = 0 := rfl; have : (0 : Int32).toInt = 0 := rfl; have : (0 : Int32).toInt = 0 := rfl; have : (0 : Int32).toInt = 0 := rfl; have : (0 : Int32).toInt = 0 := rfl; omega)), (by first | decide | (rw [h3]; decide) | (have : (0 : Int32).toInt = 0 := rfl; have : (0 : Int32).toInt = 0 := rfl; have : (0 : Int32).toInt = 0 := rfl; have : (0 : Int32).toInt = 0 := rfl; have : (0 : Int32).toInt = 0 := rfl; have : (0 : Int32).toInt = 0 := rfl; have : (0 : Int32).toInt = 0 := rfl; have : ((-1) : Int32).toInt = (-1) := rfl; have : (0 : Int32).toInt = 0 := rfl; have : (0 : Int32).toInt = 0 := rfl; have : (0 : Int32).toInt = 0 := rfl; have : (0 : Int32).toInt = 0 := rfl; have : (0 : Int32).toInt = 0 := rfl; have : (0 : Int32).toInt = 0 := rfl; have : (0 : Int32).toInt = 0 := rfl; have : (0 : Int32).toInt = 0 := rfl; have : (0 : Int32).toInt = 0 := rfl; have : (0 : Int32).toInt = 0 := rfl; have : (0 : Int32).toInt = 0 := rfl; have : (0 : Int32).toInt = 0 := rfl; have : (0 : Int32).toInt = 0 := rfl; have : (0 : Int32).toInt = 0 := rfl; have : (0 : Int32).toInt = 0 := rfl; have : (0 : Int32).toInt = 0 := rfl; omega) | (rw [h3]; have : (0 : Int32).toInt = 0 := rfl; have : (0 : Int32).toInt = 0 := rfl; have : (0 : Int32).toInt = 0 := rfl; have : (0 : Int32).toInt = 0 := rfl; have : (0 : Int32).toInt = 0 := rfl; have : (0 : Int32).toInt = 0 := rfl; have : (0 : Int32).toInt = 0 := rfl; have : ((-1) : Int32).toInt = (-1) := rfl; have : (0 : Int32).toInt = 0 := rfl; have : (0 : Int32).toInt = 0 := rfl; have : (0 : Int32).toInt = 0 := rfl; have : (0 : Int32).toInt = 0 := rfl; have : (0 : Int32).toInt = 0 := rfl; have : (0 : Int32).toInt = 0 := rfl; have : (0 : Int32).toInt = 0 := rfl; have : (0 : Int32).toInt = 0 := rfl; have : (0 : Int32).toInt = 0 := rfl; have : (0 : Int32).toInt = 0 := rfl; have : (0 : Int32).toInt = 0 := rfl; have : (0 : Int32).toInt = 0 := rfl; have : (0 : Int32).toInt = 0 := rfl; have : (0 : Int32).toInt = 0 := rfl; have : (0 : Int32).toInt = 0 := rfl; have : (0 : Int32).toInt = 0 := rfl; omega)), (by first | decide | (rw [h3]; decide) | (have : (0 : Int32).toInt = 0 := rfl; have : (0 : Int32).toInt = 0 := rfl; have : (0 : Int32).toInt = 0 := rfl; have : (0 : Int32).toInt = 0 := rfl; have : (0 : Int32).toInt = 0 := rfl; have : (0 : Int32).toInt = 0 := rfl; have : (0 : Int32).toInt = 0 := rfl; have : ((-1) : Int32).toInt = (-1) := rfl; have : (0 : Int32).toInt = 0 := rfl; have : (0 : Int32).toInt = 0 := rfl; have : (0 : Int32).toInt = 0 := rfl; have : (0 : Int32).toInt = 0 := rfl; have : (0 : Int32).toInt = 0 := rfl; have : (0 : Int32).toInt = 0 := rfl; have : (0 : Int32).toInt = 0 := rfl; have : (0 : Int32).toInt = 0 := rfl; have : (0 : Int32).toInt = 0 := rfl; have : (0 : Int32).toInt = 0 := rfl; have : (0 : Int32).toInt = 0 := rfl; have : (0 : Int32).toInt = 0 := rfl; have : (0 : Int32).toInt = 0 := rfl; have : (0 : Int32).toInt = 0 := rfl; have : (0 : Int32).toInt = 0 := rfl; have : (0 : Int32).toInt = 0 := rfl; omega) | (rw [h3]; have : (0 : Int32).toInt = 0 := rfl; have : (0 : Int32).toInt = 0 := rfl; have : (0 : Int32).toInt = 0 := rfl; have : (0 : Int32).toInt = 0 := rfl; have : (0 : Int32).toInt = 0 := rfl; have : (0 : Int32).toInt = 0 := rfl; have : (0 : Int32).toInt = 0 := rfl; have : ((-1) : Int32).toInt = (-1) := rfl; have : (0 : Int32).toInt = 0 := rfl; have : (0 : Int32).toInt = 0 := rfl; have : (0 : Int32).toInt = 0 := rfl; have : (0 : Int32).toInt = 0 := rfl; have : (0 : Int32).toInt = 0 := rfl; have : (0 : Int32).toInt = 0 := rfl; have : (0 : Int32).toInt = 0 := rfl; have : (0 : Int32).toInt = 0 := rfl; have : (0 : Int32).toInt = 0 := rfl; have : (0 : Int32).toInt = 0 := rfl; have : (0 : Int32).toInt = 0 := rfl; have : (0 : Int32).toInt = 0 := rfl; have : (0 : Int32).toInt = 0 := rfl; have : (0 : Int32).toInt = 0 := rfl; have : (0 : Int32).toInt = 0 := rfl; have : (0 : Int32).toInt = 0 := rfl; omega)), (by first | decide | (rw [h3]; decide) | (have : (0 : Int32).toInt = 0 := rfl; have : (0 : Int32).toInt = 0 := rfl; have : (0 : Int32).toInt = 0 := rfl; have : (0 : Int32).toInt = 0 := rfl; have : (0 : Int32).toInt = 0 := rfl; have : (0 : Int32).toInt = 0 := rfl; have : (0 : Int32).toInt = 0 := rfl; have : ((-1) : Int32).toInt = (-1) := rfl; have : (0 : Int32).toInt = 0 := rfl; have : (0 : Int32).toInt = 0 := rfl; have : (0 : Int32).toInt = 0 := rfl; have : (0 : Int32).toInt = 0 := rfl; have : (0 : Int32).toInt = 0 := rfl; have : (0 : Int32).toInt = 0 := rfl; have : (0 : Int32).toInt = 0 := rfl; have : (0 : Int32).toInt = 0 := rfl; have : (0 : Int32).toInt = 0 := rfl; have : (0 : Int32).toInt = 0 := rfl; have : (0 : Int32).toInt = 0 := rfl; have : (0 : Int32).toInt = 0 := rfl; have : (0 : Int32).toInt = 0 := rfl; have : (0 : Int32).toInt = 0 := rfl; have : (0 : Int32).toInt = 0 := rfl; have : (0 : Int32).toInt = 0 := rfl; omega) | (rw [h3]; have : (0 : Int32).toInt = 0 := rfl; have : (0 : Int32).toInt = 0 := rfl; have : (0 : Int32).toInt = 0 := rfl; have : (0 : Int32).toInt = 0 := rfl; have : (0 : Int32).toInt = 0 := rfl; have : (0 : Int32).toInt = 0 := rfl; have : (0 : Int32).toInt = 0 := rfl; have : ((-1) : Int32).toInt = (-1) := rfl; have : (0 : Int32).toInt = 0 := rfl; have : (0 : Int32).toInt = 0 := rfl; have : (0 : Int32).toInt = 0 := rfl; have : (0 : Int32).toInt = 0 := rfl; have : (0 : Int32).toInt = 0 := rfl; have : (0 : Int32).toInt = 0 := rfl; have : (0 : Int32).toInt = 0 := rfl; have : (0 : Int32).toInt = 0 := rfl; have : (0 : Int32).toInt = 0 := rfl; have : (0 : Int32).toInt = 0 := rfl; have : (0 : Int32).toInt = 0 := rfl; have : (0 : Int32).toInt = 0 := rfl; have : (0 : Int32).toInt = 0 := rfl; have : (0 : Int32).toInt = 0 := rfl; have : (0 : Int32).toInt = 0 := rfl; have : (0 : Int32).toInt = 0 := rfl; omega)), (by first | decide | (rw [h3]; decide) | (have : (0 : Int32).toInt = 0 := rfl; have : (0 : Int32).toInt = 0 := rfl; have : (0 : Int32).toInt = 0 := rfl; have : (0 : Int32).toInt = 0 := rfl; have : (0 : Int32).toInt = 0 := rfl; have : (0 : Int32).toInt = 0 := rfl; have : (0 : Int32).toInt = 0 := rfl; have : ((-1) : Int32).toInt = (-1) := rfl; have : (0 : Int32).toInt = 0 := rfl; have : (0 : Int32).toInt = 0 := rfl; have : (0 : Int32).toInt = 0 := rfl; have : (0 : Int32).toInt = 0 := rfl; have : (0 : Int32).toInt = 0 := rfl; have : (0 : Int32).toInt = 0 := rfl; have : (0 : Int32).toInt = 0 := rfl; have : (0 : Int32).toInt = 0 := rfl; have : (0 : Int32).toInt = 0 := rfl; have : (0 : Int32).toInt = 0 := rfl; have : (0 : Int32).toInt = 0 := rfl; have : (0 : Int32).toInt = 0 := rfl; have : (0 : Int32).toInt = 0 := rfl; have : (0 : Int32).toInt = 0 := rfl; have : (0 : Int32).toInt = 0 := rfl; have : (0 : Int32).toInt = 0 := rfl; omega) | (rw [h3]; have : (0 : Int32).toInt = 0 := rfl; have : (0 : Int32).toInt = 0 := rfl; have : (0 : Int32).toInt = 0 := rfl; have : (0 : Int32).toInt = 0 := rfl; have : (0 : Int32).toInt = 0 := rfl; have : (0 : Int32).toInt = 0 := rfl; have : (0 : Int32).toInt = 0 := rfl; have : ((-1) : Int32).toInt = (-1) := rfl; have : (0 : Int32).toInt = 0 := rfl; have : (0 : Int32).toInt = 0 := rfl; have : (0 : Int32).toInt = 0 := rfl; have : (0 : Int32).toInt = 0 := rfl; have : (0 : Int32).toInt = 0 := rfl; have : (0 : Int32).toInt = 0 := rfl; have : (0 : Int32).toInt = 0 := rfl; have : (0 : Int32).toInt = 0 := rfl; have : (0 : Int32).toInt = 0 := rfl; have : (0 : Int32).toInt = 0 := rfl; have : (0 : Int32).toInt = 0 := rfl; have : (0 : Int32).toInt = 0 := rfl; have : (0 : Int32).toInt = 0 := rfl; have : (0 : Int32).toInt = 0 := rfl; have : (0 : Int32).toInt = 0 := rfl; have : (0 : Int32).toInt = 0 := rfl; omega)), (by first | decide | (rw [h3]; decide) | (have : (0 : Int32).toInt = 0 := rfl; have : (0 : Int32).toInt = 0 := rfl; have : (0 : Int32).toInt = 0 := rfl; have : (0 : Int32).toInt = 0 := rfl; have : (0 : Int32).toInt = 0 := rfl; have : (0 : Int32).toInt = 0 := rfl; have : (0 : Int32).toInt = 0 := rfl; have : ((-1) : Int32).toInt = (-1) := rfl; have : (0 : Int32).toInt = 0 := rfl; have : (0 : Int32).toInt = 0 := rfl; have : (0 : Int32).toInt = 0 := rfl; have : (0 : Int32).toInt = 0 := rfl; have : (0 : Int32).toInt = 0 := rfl; have : (0 : Int32).toInt = 0 := rfl; have : (0 : Int32).toInt = 0 := rfl; have : (0 : Int32).toInt = 0 := rfl; have : (0 : Int32).toInt = 0 := rfl; have : (0 : Int32).toInt = 0 := rfl; have : (0 : Int32).toInt = 0 := rfl; have : (0 : Int32).toInt = 0 := rfl; have : (0 : Int32).toInt = 0 := rfl; have : (0 : Int32).toInt = 0 := rfl; have : (0 : Int32).toInt = 0 := rfl; have : (0 : Int32).toInt = 0 := rfl; omega) | (rw [h3]; have : (0 : Int32).toInt = 0 := rfl; have : (0 : Int32).toInt = 0 := rfl; have : (0 : Int32).toInt = 0 := rfl; have : (0 : Int32).toInt = 0 := rfl; have : (0 : Int32).toInt = 0 := rfl; have : (0 : Int32).toInt = 0 := rfl; have : (0 : Int32).toInt = 0 := rfl; have : ((-1) : Int32).toInt = (-1) := rfl; have : (0 : Int32).toInt = 0 := rfl; have : (0 : Int32).toInt = 0 := rfl; have : (0 : Int32).toInt = 0 := rfl; have : (0 : Int32).toInt = 0 := rfl; have : (0 : Int32).toInt = 0 := rfl; have : (0 : Int32).toInt = 0 := rfl; have : (0 : Int32).toInt = 0 := rfl; have : (0 : Int32).toInt = 0 := rfl; have : (0 : Int32).toInt = 0 := rfl; have : (0 : Int32).toInt = 0 := rfl; have : (0 : Int32).toInt = 0 := rfl; have : (0 : Int32).toInt = 0 := rfl; have : (0 : Int32).toInt = 0 := rfl; have : (0 : Int32).toInt = 0 := rfl; have : (0 : Int32).toInt = 0 := rfl; have : (0 : Int32).toInt = 0 := rfl; omega)), (by first | decide | (rw [h3]; decide) | (have : (0 : Int32).toInt = 0 := rfl; have : (0 : Int32).toInt = 0 := rfl; have : (0 : Int32).toInt = 0 := rfl; have : (0 : Int32).toInt = 0 := rfl; have : (0 : Int32).toInt = 0 := rfl; have : (0 : Int32).toInt = 0 := rfl; have : (0 : Int32).toInt = 0 := rfl; have : ((-1) : Int32).toInt = (-1) := rfl; have : (0 : Int32).toInt = 0 := rfl; have : (0 : Int32).toInt = 0 := rfl; have : (0 : Int32).toInt = 0 := rfl; have : (0 : Int32).toInt = 0 := rfl; have : (0 : Int32).toInt = 0 := rfl; have : (0 : Int32).toInt = 0 := rfl; have : (0 : Int32).toInt = 0 := rfl; have : (0 : Int32).toInt = 0 := rfl; have : (0 : Int32).toInt = 0 := rfl; have : (0 : Int32).toInt = 0 := rfl; have : (0 : Int32).toInt = 0 := rfl; have : (0 : Int32).toInt = 0 := rfl; have : (0 : Int32).toInt = 0 := rfl; have : (0 : Int32).toInt = 0 := rfl; have : (0 : Int32).toInt = 0 := rfl; have : (0 : Int32).toInt = 0 := rfl; omega) | (rw [h3]; have : (0 : Int32).toInt = 0 := rfl; have : (0 : Int32).toInt = 0 := rfl; have : (0 : Int32).toInt = 0 := rfl; have : (0 : Int32).toInt = 0 := rfl; have : (0 : Int32).toInt = 0 := rfl; have : (0 : Int32).toInt = 0 := rfl; have : (0 : Int32).toInt = 0 := rfl; have : ((-1) : Int32).toInt = (-1) := rfl; have : (0 : Int32).toInt = 0 := rfl; have : (0 : Int32).toInt = 0 := rfl; have : (0 : Int32).toInt = 0 := rfl; have : (0 : Int32).toInt = 0 := rfl; have : (0 : Int32).toInt = 0 := rfl; have : (0 : Int32).toInt = 0 := rfl; have : (0 : Int32).toInt = 0 := rfl; have : (0 : Int32).toInt = 0 := rfl; have : (0 : Int32).toInt = 0 := rfl; have : (0 : Int32).toInt = 0 := rfl; have : (0 : Int32).toInt = 0 := rfl; have : (0 : Int32).toInt = 0 := rfl; have : (0 : Int32).toInt = 0 := rfl; have : (0 : Int32).toInt = 0 := rfl; have : (0 : Int32).toInt = 0 := rfl; have : (0 : Int32).toInt = 0 := rfl; omega)), (by first | decide | (rw [h3]; decide) | (have : (0 : Int32).toInt = 0 := rfl; have : (0 : Int32).toInt = 0 := rfl; have : (0 : Int32).toInt = 0 := rfl; have : (0 : Int32).toInt = 0 := rfl; have : (0 : Int32).toInt = 0 := rfl; have : (0 : Int32).toInt = 0 := rfl; have : (0 : Int32).toInt = 0 := rfl; have : ((-1) : Int32).toInt = (-1) := rfl; have : (0 : Int32).toInt = 0 := rfl; have : (0 : Int32).toInt = 0 := rfl; have : (0 : Int32).toInt = 0 := rfl; have : (0 : Int32).toInt = 0 := rfl; have : (0 : Int32).toInt = 0 := rfl; have : (0 : Int32).toInt = 0 := rfl; have : (0 : Int32).toInt = 0 := rfl; have : (0 : Int32).toInt = 0 := rfl; have : (0 : Int32).toInt = 0 := rfl; have : (0 : Int32).toInt = 0 := rfl; have : (0 : Int32).toInt = 0 := rfl; have : (0 : Int32).toInt = 0 := rfl; have : (0 : Int32).toInt = 0 := rfl; have : (0 : Int32).toInt = 0 := rfl; have : (0 : Int32).toInt = 0 := rfl; have : (0 : Int32).toInt = 0 := rfl; omega) | (rw [h3]; have : (0 : Int32).toInt = 0 := rfl; have : (0 : Int32).toInt = 0 := rfl; have : (0 : Int32).toInt = 0 := rfl; have : (0 : Int32).toInt = 0 := rfl; have : (0 : Int32).toInt = 0 := rfl; have : (0 : Int32).toInt = 0 := rfl; have : (0 : Int32).toInt = 0 := rfl; have : ((-1) : Int32).toInt = (-1) := rfl; have : (0 : Int32).toInt = 0 := rfl; have : (0 : Int32).toInt = 0 := rfl; have : (0 : Int32).toInt = 0 := rfl; have : (0 : Int32).toInt = 0 := rfl; have : (0 : Int32).toInt = 0 := rfl; have : (0 : Int32).toInt = 0 := rfl; have : (0 : Int32).toInt = 0 := rfl; have : (0 : Int32).toInt = 0 := rfl; have : (0 : Int32).toInt = 0 := rfl; have : (0 : Int32).toInt = 0 := rfl; have : (0 : Int32).toInt = 0 := rfl; have : (0 : Int32).toInt = 0 := rfl; have : (0 : Int32).toInt = 0 := rfl; have : (0 : Int32).toInt = 0 := rfl; have : (0 : Int32).toInt = 0 := rfl; have : (0 : Int32).toInt = 0 := rfl; omega)), (by first | decide | (rw [h3]; decide) | (have : (0 : Int32).toInt = 0 := rfl; have : (0 : Int32).toInt = 0 := rfl; have : (0 : Int32).toInt = 0 := rfl; have : (0 : Int32).toInt = 0 := rfl; have : (0 : Int32).toInt = 0 := rfl; have : (0 : Int32).toInt = 0 := rfl; have : (0 : Int32).toInt = 0 := rfl; have : ((-1) : Int32).toInt = (-1) := rfl; have : (0 : Int32).toInt = 0 := rfl; have : (0 : Int32).toInt = 0 := rfl; have : (0 : Int32).toInt = 0 := rfl; have : (0 : Int32).toInt = 0 := rfl; have : (0 : Int32).toInt = 0 := rfl; have : (0 : Int32).toInt = 0 := rfl; have : (0 : Int32).toInt = 0 := rfl; have : (0 : Int32).toInt = 0 := rfl; have : (0 : Int32).toInt = 0 := rfl; have : (0 : Int32).toInt = 0 := rfl; have : (0 : Int32).toInt = 0 := rfl; have : (0 : Int32).toInt = 0 := rfl; have : (0 : Int32).toInt = 0 := rfl; have : (0 : Int32).toInt = 0 := rfl; have : (0 : Int32).toInt = 0 := rfl; have : (0 : Int32).toInt = 0 := rfl; omega) | (rw [h3]; have : (0 : Int32).toInt = 0 := rfl; have : (0 : Int32).toInt = 0 := rfl; have : (0 : Int32).toInt = 0 := rfl; have : (0 : Int32).toInt = 0 := rfl; have : (0 : Int32).toInt = 0 := rfl; have : (0 : Int32).toInt = 0 := rfl; have : (0 : Int32).toInt = 0 := rfl; have : ((-1) : Int32).toInt = (-1) := rfl; have : (0 : Int32).toInt = 0 := rfl; have : (0 : Int32).toInt = 0 := rfl; have : (0 : Int32).toInt = 0 := rfl; have : (0 : Int32).toInt = 0 := rfl; have : (0 : Int32).toInt = 0 := rfl; have : (0 : Int32).toInt = 0 := rfl; have : (0 : Int32).toInt = 0 := rfl; have : (0 : Int32).toInt = 0 := rfl; have : (0 : Int32).toInt = 0 := rfl; have : (0 : Int32).toInt = 0 := rfl; have : (0 : Int32).toInt = 0 := rfl; have : (0 : Int32).toInt = 0 := rfl; have : (0 : Int32).toInt = 0 := rfl; have : (0 : Int32).toInt = 0 := rfl; have : (0 : Int32).toInt = 0 := rfl; have : (0 : Int32).toInt = 0 := rfl; omega)), (by first | decide | (rw [h3]; decide) | (have : (0 : Int32).toInt = 0 := rfl; have : (0 : Int32).toInt = 0 := rfl; have : (0 : Int32).toInt = 0 := rfl; have : (0 : Int32).toInt = 0 := rfl; have : (0 : Int32).toInt = 0 := rfl; have : (0 : Int32).toInt = 0 := rfl; have : (0 : Int32).toInt = 0 := rfl; have : ((-1) : Int32).toInt = (-1) := rfl; have : (0 : Int32).toInt = 0 := rfl; have : (0 : Int32).toInt = 0 := rfl; have : (0 : Int32).toInt = 0 := rfl; have : (0 : Int32).toInt = 0 := rfl; have : (0 : Int32).toInt = 0 := rfl; have : (0 : Int32).toInt = 0 := rfl; have : (0 : Int32).toInt = 0 := rfl; have : (0 : Int32).toInt = 0 := rfl; have : (0 : Int32).toInt = 0 := rfl; have : (0 : Int32).toInt = 0 := rfl; have : (0 : Int32).toInt = 0 := rfl; have : (0 : Int32).toInt = 0 := rfl; have : (0 : Int32).toInt = 0 := rfl; have : (0 : Int32).toInt = 0 := rfl; have : (0 : Int32).toInt = 0 := rfl; have : (0 : Int32).toInt = 0 := rfl; omega) | (rw [h3]; have : (0 : Int32).toInt = 0 := rfl; have : (0 : Int32).toInt = 0 := rfl; have : (0 : Int32).toInt = 0 := rfl; have : (0 : Int32).toInt = 0 := rfl; have : (0 : Int32).toInt = 0 := rfl; have : (0 : Int32).toInt = 0 := rfl; have : (0 : Int32).toInt = 0 := rfl; have : ((-1) : Int32).toInt = (-1) := rfl; have : (0 : Int32).toInt = 0 := rfl; have : (0 : Int32).toInt = 0 := rfl; have : (0 : Int32).toInt = 0 := rfl; have : (0 : Int32).toInt = 0 := rfl; have : (0 : Int32).toInt = 0 := rfl; have : (0 : Int32).toInt = 0 := rfl; have : (0 : Int32).toInt = 0 := rfl; have : (0 : Int32).toInt = 0 := rfl; have : (0 : Int32).toInt = 0 := rfl; have : (0 : Int32).toInt = 0 := rfl; have : (0 : Int32).toInt = 0 := rfl; have : (0 : Int32).toInt = 0 := rfl; have : (0 : Int32).toInt = 0 := rfl; have : (0 : Int32).toInt = 0 := rfl; have : (0 : Int32).toInt = 0 := rfl; have : (0 : Int32).toInt = 0 := rfl; omega))⟩⟩)
  have hH := hH.ty (fun a _ ho z => ho (by rw [z])) hb1464
  have ht1468 : τ_1463 q47 = 34 := (hb1464 _ (Ne.symm (tp_ne0 hz1446 ht1422 (by decide)))).1.trans ht1422
  have ht1469 : τ_1463 q83 = 35 := (hb1464 _ (Ne.symm (tp_ne0 hz1446 ht1423 (by decide)))).1.trans ht1423
  have ht1470 : τ_1463 q121 = 36 := (hb1464 _ (Ne.symm (tp_ne0 hz1446 ht1424 (by decide)))).1.trans ht1424
  have ht1471 : τ_1463 q161 = 38 := (hb1464 _ (Ne.symm (tp_ne0 hz1446 ht1425 (by decide)))).1.trans ht1425
  have ht1472 : τ_1463 q209 = 51 := (hb1464 _ (Ne.symm (tp_ne0 hz1446 ht1426 (by decide)))).1.trans ht1426
  have ht1473 : τ_1463 q253 = 53 := (hb1464 _ (Ne.symm (tp_ne0 hz1446 ht1427 (by decide)))).1.trans ht1427
  have ht1474 : τ_1463 q299 = 54 := (hb1464 _ (Ne.symm (tp_ne0 hz1446 ht1428 (by decide)))).1.trans ht1428
  have ht1475 : τ_1463 q347 = 56 := (hb1464 _ (Ne.symm (tp_ne0 hz1446 ht1429 (by decide)))).1.trans ht1429
  have ht1476 : τ_1463 q397 = 57 := (hb1464 _ (Ne.symm (tp_ne0 hz1446 ht1430 (by decide)))).1.trans ht1430
  have ht1477 : τ_1463 q449 = 60 := (hb1464 _ (Ne.symm (tp_ne0 hz1446 ht1431 (by decide)))).1.trans ht1431
  have ht1478 : τ_1463 q503 = 61 := (hb1464 _ (Ne.symm (tp_ne0 hz1446 ht1432 (by decide)))).1.trans ht1432
  have ht1479 : τ_1463 q559 = 69 := (hb1464 _ (Ne.symm (tp_ne0 hz1446 ht1433 (by decide)))).1.trans ht1433
  have ht1480 : τ_1463 q617 = 70 := (hb1464 _ (Ne.symm (tp_ne0 hz1446 ht1434 (by decide)))).1.trans ht1434
  have ht1481 : τ_1463 q677 = 71 := (hb1464 _ (Ne.symm (tp_ne0 hz1446 ht1435 (by decide)))).1.trans ht1435
  have ht1482 : τ_1463 q739 = 72 := (hb1464 _ (Ne.symm (tp_ne0 hz1446 ht1436 (by decide)))).1.trans ht1436
  have ht1483 : τ_1463 q803 = 73 := (hb1464 _ (Ne.symm (tp_ne0 hz1446 ht1437 (by decide)))).1.trans ht1437
  have ht1484 : τ_1463 q869 = 74 := (hb1464 _ (Ne.symm (tp_ne0 hz1446 ht1438 (by decide)))).1.trans ht1438
  have ht1485 : τ_1463 q937 = 75 := (hb1464 _ (Ne.symm (tp_ne0 hz1446 ht1439 (by decide)))).1.trans ht1439
  have ht1486 : τ_1463 q1007 = 76 := (hb1464 _ (Ne.symm (tp_ne0 hz1446 ht1440 (by decide)))).1.trans ht1440
  have ht1487 : τ_1463 q1079 = 79 := (hb1464 _ (Ne.symm (tp_ne0 hz1446 ht1441 (by decide)))).1.trans ht1441
  have ht1488 : τ_1463 q1153 = 80 := (hb1464 _ (Ne.symm (tp_ne0 hz1446 ht1442 (by decide)))).1.trans ht1442
  have ht1489 : τ_1463 q1229 = 81 := (hb1464 _ (Ne.symm (tp_ne0 hz1446 ht1443 (by decide)))).1.trans ht1443
  have ht1490 : τ_1463 q1307 = 82 := (hb1464 _ (Ne.symm (tp_ne0 hz1446 ht1444 (by decide)))).1.trans ht1444
  have ht1491 : τ_1463 q1 = 32 := (hb1464 _ (Ne.symm (tp_ne0 hz1446 ht1445 (by decide)))).1.trans ht1445
  have ht1492 : τ_1463 q22 = 33 := (hb1464 _ (Ne.symm (tp_ne0 hz1446 ht1419 (by decide)))).1.trans ht1419
  clear ht1422 ht1423 ht1424 ht1425 ht1426 ht1427 ht1428 ht1429 ht1430 ht1431 ht1432 ht1433 ht1434 ht1435 ht1436 ht1437 ht1438 ht1439 ht1440 ht1441 ht1442 ht1443 ht1444 ht1445 ht1419 hb1464
  refine tp_widen 25 41849 (Nat.le_of_ble_eq_true rfl) (Nat.le_of_ble_eq_true rfl) ?_
  exact W.vret hx hb hr (fun t ht hW => ⟨⟨(τ_1463, ν_1463, ρ_1463, L1318, f1456), rfl, ⟨⟨hG, hT, hH⟩, ⟨ht1465, by show mo_RI (-1) 0 (mo_R (mo_i (f1456 (ρ_1463 h0 2)))); rw [show ρ_1463 h0 2 = q1 from congrFun hr1467 2, g1458, mo_i1]; exact mo_RI00, by show mo_IM (mo_R (mo_i (f1456 (ρ_1463 h0 3)))); rw [show ρ_1463 h0 3 = q22 from congrFun hr1467 3, hf_1462, mo_i1]; exact mo_IM0⟩⟩, by rw [ht]; exact hP, va_K.moved hW.alike hK, hD⟩, hS.F ht⟩) hS.2.2 dX12_init_236
