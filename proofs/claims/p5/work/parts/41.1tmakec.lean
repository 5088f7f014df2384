set_option maxHeartbeats 4000000 in
set_option maxRecDepth 100000 in
theorem t_X11_init (l : Launch) (dC : Nat → ClassId) (dI : Nat → Nat → Nat) (sz : Nat) (Ω : Nat → (Nat → Nat) → va_E → Prop) (κ : Nat → ClassId) (τ ν : Nat → Nat) (ρ : Nat → Nat → Nat) (L : List Nat) (f : Nat → va_E) (hG : tp_G τ ν ρ L) (hT : tp_T Ω κ τ ν ρ f) (h0 : Nat) (hl_h0 : h0 ∈ L) (hz_h0 : τ h0 = 0) (hf_h0 : f h0 = .inr (11, [.null, .null, .null, .null, .null, .null, .int 0])) : Met l yX11_init wqX11_init ({ frames := 5, cells := 129, slots := 4104, locals := 1600 }) (va_Pc [.ref h0] (pz_B dC dI (tp_K κ) (va_pl L f) sz)) (va_Qv (fun (x : tp_S) => tp_PX Ω κ τ ν ρ L f [] (some h0) x ∧ x.1 h0 = 12) (fun (x : tp_S) (t : State) => pz_E dC dI (tp_K κ) (va_A (va_pl L f) sz) (va_pl x.2.2.2.1 x.2.2.2.2) t) (va_A (va_pl L f) sz)) 129 4104 (va_A (va_pl L f) sz) := by
  refine Met.ofW (cc := cX11_init) (maxL := 1) (ret := none) (by decide) rfl ?_
  intro p e s m args below meth c s₁ B hml hv
  obtain ⟨rfl, hsz, hP, hK, hD0, hN⟩ := hv
  have hx := B.exec
  have hb := B.bytes
  have hr := B.returns
  have hts := fun (w : Cond) (h : w ∈ WALL) => atoms_spec (ws := wqX11_init) B.pre w (List.mem_cons_of_mem _ h)
  have hown : s.vm.findClass RX11 = some m.cls := findClass_of_methodNamed B.named
  have hlocks := B.notSynchronized
  have hin : meth.name = "<init>" := (name_of_methodNamed B.named B.method).1
  subst hsz
  have hD := hD0.self (sz := s.heap.size)
  generalize hAe : va_A (va_pl L f) s.heap.size = A at hD ⊢
  have hA : ∀ q : Nat, s.heap.size ≤ q → A q := fun q h => by rw [← hAe]; exact Or.inr h
  have hS : va_S A s.heap s.heap [] := va_S.rf
  have hH : tp_H τ ν ρ L f [] (some h0) τ ν ρ L f := tp_H.rf
  have hl := lv_entry ([.ref h0]) (n := 1) (Nat.le_of_ble_eq_true rfl)
  rw [lg_entry_eq]
  generalize (lg_sl ([.ref h0]) ++ List.replicate (1 - (lg_sl ([.ref h0])).length) Slot.unset).toArray = ls at hl ⊢
  have hl : lv_has ls 1 [(0, .ref h0)] := hl
  refine lv_aload_n hx hb dX11_init_0 rfl (lv_at hl 0 rfl) ?_
  refine W.objInit hx hb hown (hts (.methodLink RX11 1 objectInit) wa_9) (hts (.instanceMethod objectInit) wa_10) (hts (.code objectInit ⟨#[0xb1]⟩ 1 none) wa_11) rfl (by rw [hml]; exact hl.1) rfl dX11_init_1 (Nat.le_of_ble_eq_true rfl) (Nat.le_of_ble_eq_true rfl) ?_
  refine W.eq (g2 := F0 m 4 ls []) rfl ?_
  refine lv_aload_n hx hb dX11_init_4 rfl (lv_at hl 0 rfl) ?_
  refine va_new (ci := 10) (fs := [.int 0, .int 0, .int 0, .int 0, .int 0, .int 0, .int 0, .null, .null, .null, .null, .null, .null, .null, .null, .null, .null, .null, .null]) (C := RX10) (T := TX10) (N := 19) hx hb hts hfX10 tyX10 tyX10_ok hown (hts (.classLink RX11 7 RX10) wa_12) (hts (.instantiable RX10 19) wa_13) (hts (.initialized RX10) wa_14) hK hP hD hS hA rfl (fun j hj => by rcases tpj_19 j hj with rfl | rfl | rfl | rfl | rfl | rfl | rfl | rfl | rfl | rfl | rfl | rfl | rfl | rfl | rfl | rfl | rfl | rfl | rfl <;> rfl) (Nat.le_of_ble_eq_true rfl) (Nat.le_of_ble_eq_true rfl) dX11_init_5 (fun q1 H hP hD hS => ?_)
  refine Exists.elim (tp_grow hG hT hP hD) (fun L11 hE90 => Exists.elim hE90 (fun f10 hE91 => tn_10 hE91 (fun hP hD hg2 ht3 hs4 hq5 hz6 hn7 hf8 ho9 => ?_)))
  clear hE91 hE90
  have hn12 : ∀ a, a ∈ L → a ≠ q1 := fun a ha => hn7 a (hH.1 a ha)
  have ne13 : h0 ≠ q1 := hn7 _ hl_h0
  have hG := hg2
  have hT := ht3
  have hH := hH.gr hs4 hn7 ho9
  have hf14 : f10 h0 = .inr (11, [.null, .null, .null, .null, .null, .null, .int 0]) := (ho9 _ ne13).trans hf_h0
  have hl15 : h0 ∈ L11 := hs4 _ hl_h0
  clear hf_h0 hl_h0
  refine lv_dup hx hb dX11_init_8 rfl ?_
  have hFc := tp_fr hD hS hA
  refine va_callv (va_runI (As := []) (rest := [.ref q1, .ref h0]) ⟨hx, hb, hml, hown, hts⟩ (t_X10_init l dC dI _ Ω κ τ ν ρ L11 f10 hG hT q1 hq5 hz6 hf8) (cwI 0 hts ggX11_init_X10_init rfl rfl rfl (hts (.initialized RX10) wa_14) (hts (.methodLink RX11 9 yX10_init) wa_33) (hts (.instanceMethod yX10_init) wa_34) rfl pd_X10_init ⟨Nat.le_of_ble_eq_true rfl, Nat.le_of_ble_eq_true rfl⟩) ⟨pz_blind, pz_pre hP hK hD hN⟩ rfl rfl hl.1 rfl (lv_room (Nat.le_of_ble_eq_true rfl)) dX11_init_9 ⟨Nat.le_of_ble_eq_true rfl, Nat.le_of_ble_eq_true rfl⟩) hS (fun q _ h => hFc q h) hFc (fun x16 t H1 locs ht hvm hw18 hB hz1 hk1 hS => ?_)
  obtain ⟨τ_20, ν_20, ρ_20, L_20, f19⟩ := x16
  obtain ⟨⟨hG9, hT9, hH9⟩, hw18p⟩ := hw18
  have hc21 := hH9.2 _ hl15 (fun z => ne13 (Option.some.inj z))
  have hf22 : f19 h0 = .inr (11, [.null, .null, .null, .null, .null, .null, .int 0]) := (hc21.2.2.2 (by rw [hz_h0]; decide)).trans hf14
  have hl23 := hH9.1 _ hl15
  have hH := hH.call hH9 (by decide) (fun a ha _ z => hn12 a ha (Option.some.inj z))
  have hG : tp_G τ_20 ν_20 ρ_20 L_20 := hG9; have hT : tp_T Ω κ τ_20 ν_20 ρ_20 f19 := hT9
  have hH : tp_H τ ν ρ L f [] (some h0) τ_20 ν_20 ρ_20 L_20 f19 := hH
  have hP := hB.1; rw [ht] at hP; have hD := tp_Dw hB.2.2 hFc; clear hB hFc hz1 hk1; subst ht; generalize t.heap = H at hP hS ⊢
  have hP : va_P (dC, dI) vwCl (va_pl L_20 f19) H := hP
  have hD : va_D A (va_pl L_20 f19) := hD
  have hz24 : τ_20 h0 = 0 := hc21.1.trans hz_h0
  clear hz_h0 ne13 hc21 hG9 hT9 hH9
  have ht25 : τ_20 q1 = 11 := hw18p
  refine tpk_pos hl23 hf22 (fun q26 eq26 => ?_)
  refine va_putF (D := (dC, dI)) (ci := 11) (v := .ref q1) (ty := (.object "ColdShips$World")) (C := RX11) (T := TX11) (N := 7) hx hb hts hfX11 tyX11 tyX11_ok nmX11 hown hK hP hD hS q26 eq26 rfl 0 (by decide) (hts (.fieldLink RX11 10 "ColdShips" "world" "LColdShips$World;") wa_15) (fun _ h9 => h9) rfl hin rfl (tyX11_ok 0 (by decide)) rfl rfl (Nat.le_of_ble_eq_true rfl) dX11_init_12 (tp_k (.inr (11, [.ref q1, .null, .null, .null, .null, .null, .int 0])) hD hl23 eq26 (fun f27 H locs hP hD hS g29 k28 => ?_))
  have hT := hT.raw hz24 k28
  have hH := hH.wo k28
  refine lv_aload_n hx hb dX11_init_15 rfl (lv_at hl 0 rfl) ?_
  refine lv_iconst (v := 2) hx hb dX11_init_16 (by decide) ?_
  refine va_newq hx hb hown (hts (.classLink RX11 7 RX10) wa_12) hN.2.1 hK hP hD hS hA (by decide +kernel : ¬ (2 : Int32) < 0) (by decide +kernel : (2 : Int32).toNatClampNeg = 2) (by decide +kernel) (Nat.le_of_ble_eq_true rfl) (Nat.le_of_ble_eq_true rfl) dX11_init_17 (fun q30 k31 H hK hP hD hS => ?_)
  obtain ⟨e9, hK9⟩ := tp_kid 7 rfl hK; subst e9; have hK := hK9
  refine Exists.elim (tp_grow hG hT hP hD) (fun L41 hE90 => Exists.elim hE90 (fun f40 hE91 => tn_10 hE91 (fun hP hD hg32 ht33 hs34 hq35 hz36 hn37 hf38 ho39 => ?_)))
  clear hE91 hE90
  have hn42 : ∀ a, a ∈ L → a ≠ q30 := fun a ha => hn37 a (hH.1 a ha)
  have ne43 : h0 ≠ q30 := hn37 _ hl23
  have ne44 : q1 ≠ q30 := hn37 _ (tp_in hG ht25 (by decide))
  have hG := hg32
  have hT := ht33
  have hH := hH.gr hs34 hn37 ho39
  have hf45 : f40 h0 = .inr (11, [.ref q1, .null, .null, .null, .null, .null, .int 0]) := (ho39 _ ne43).trans g29
  have hl46 : h0 ∈ L41 := hs34 _ hl23
  clear g29 hl23
  obtain ⟨τ_47, ν_47, ρ_47, hG, hT, hb48, ht49, hn50, hr51⟩ := tp_type hG hT hq35 hz36 27 (0) (fun _ => 0) (by decide) (fun τ9 ν9 ρ9 hE h2 h3 => ⟨trivial, by rw [hf38]; exact ⟨_, rfl, fun j _ => Or.inl rfl⟩⟩)
  have hH := hH.ty (fun a ha _ => hn42 a ha) hb48
  have ht52 : τ_47 q1 = 11 := (hb48 _ ne44).1.trans ht25
  have hz53 : τ_47 h0 = 0 := (hb48 _ ne43).1.trans hz24
  clear ht25 hz24 hb48 ne43 ne44
  refine tpk_pos hl46 hf45 (fun q54 eq54 => ?_)
  refine va_putF (D := (dC, dI)) (ci := 11) (v := .ref q30) (ty := (.array (.object "ColdShips$World"))) (C := RX11) (T := TX11) (N := 7) hx hb hts hfX11 tyX11 tyX11_ok nmX11 hown hK hP hD hS q54 eq54 rfl 1 (by decide) (hts (.fieldLink RX11 16 "ColdShips" "images" "[LColdShips$World;") wa_16) (fun _ h9 => h9) rfl hin rfl (tyX11_ok 1 (by decide)) rfl rfl (Nat.le_of_ble_eq_true rfl) dX11_init_20 (tp_k (.inr (11, [.ref q1, .ref q30, .null, .null, .null, .null, .int 0])) hD hl46 eq54 (fun f55 H locs hP hD hS g57 k56 => ?_))
  have hT := hT.raw hz53 k56
  have hH := hH.wo k56
  refine lv_aload_n hx hb dX11_init_23 rfl (lv_at hl 0 rfl) ?_
  refine va_new (ci := 9) (fs := [.null, .int 0, .int 0, .int 0]) (C := RX9) (T := TX9) (N := 4) hx hb hts hfX9 tyX9 tyX9_ok hown (hts (.classLink RX11 20 RX9) wa_17) (hts (.instantiable RX9 4) wa_18) (hts (.initialized RX9) wa_19) hK hP hD hS hA rfl (fun j hj => by rcases tpj_4 j hj with rfl | rfl | rfl | rfl <;> rfl) (Nat.le_of_ble_eq_true rfl) (Nat.le_of_ble_eq_true rfl) dX11_init_24 (fun q58 H hP hD hS => ?_)
  refine Exists.elim (tp_grow hG hT hP hD) (fun L68 hE90 => Exists.elim hE90 (fun f67 hE91 => tn_10 hE91 (fun hP hD hg59 ht60 hs61 hq62 hz63 hn64 hf65 ho66 => ?_)))
  clear hE91 hE90
  have hn69 : ∀ a, a ∈ L → a ≠ q58 := fun a ha => hn64 a (hH.1 a ha)
  have ne70 : h0 ≠ q58 := hn64 _ hl46
  have ne71 : q1 ≠ q58 := hn64 _ (tp_in hG ht52 (by decide))
  have ne72 : q30 ≠ q58 := hn64 _ (tp_in hG ht49 (by decide))
  have hG := hg59
  have hT := ht60
  have hH := hH.gr hs61 hn64 ho66
  have hf73 : f67 h0 = .inr (11, [.ref q1, .ref q30, .null, .null, .null, .null, .int 0]) := (ho66 _ ne70).trans g57
  have hl74 : h0 ∈ L68 := hs61 _ hl46
  clear g57 hl46
  refine lv_dup hx hb dX11_init_27 rfl ?_
  refine lv_aload_n hx hb dX11_init_28 rfl (lv_at hl 0 rfl) ?_
  refine tpk_pos hl74 hf73 (fun q75 eq75 => ?_)
  refine va_get (D := (dC, dI)) (ci := 11) (v := .ref q1) (C := RX11) (T := TX11) (N := 7) hx hb hts hfX11 hown hK hP q75 eq75 rfl 0 (by decide) (hts (.fieldLink RX11 10 "ColdShips" "world" "LColdShips$World;") wa_15) (fun _ h9 => h9) rfl dX11_init_29 ?_
  have hFc := tp_fr hD hS hA
  refine va_callv (va_runI (As := [.ref q1]) (rest := [.ref q58, .ref h0]) ⟨hx, hb, hml, hown, hts⟩ (t_X9_init l dC dI _ Ω κ τ_47 ν_47 ρ_47 L68 f67 hG hT q58 q1 hq62 hz63 hf65 ht52) (cwI 1 hts ggX11_init_X9_init rfl rfl rfl (hts (.initialized RX9) wa_19) (hts (.methodLink RX11 22 yX9_init) wa_110) (hts (.instanceMethod yX9_init) wa_111) rfl pd_X9_init ⟨Nat.le_of_ble_eq_true rfl, Nat.le_of_ble_eq_true rfl⟩) ⟨pz_blind, pz_pre hP hK hD hN⟩ rfl rfl hl.1 rfl (lv_room (Nat.le_of_ble_eq_true rfl)) dX11_init_32 ⟨Nat.le_of_ble_eq_true rfl, Nat.le_of_ble_eq_true rfl⟩) hS (fun q _ h => hFc q h) hFc (fun x76 t H1 locs ht hvm hw78 hB hz1 hk1 hS => ?_)
  obtain ⟨τ_80, ν_80, ρ_80, L_80, f79⟩ := x76
  obtain ⟨⟨hG9, hT9, hH9⟩, hw78p⟩ := hw78
  have hc81 := hH9.2 _ (tp_in hG ht52 (by decide)) (fun z => ne71 (Option.some.inj z))
  have hc82 := hH9.2 _ (tp_in hG ht49 (by decide)) (fun z => ne72 (Option.some.inj z))
  have hc83 := hH9.2 _ hl74 (fun z => ne70 (Option.some.inj z))
  have hf84 : f79 h0 = .inr (11, [.ref q1, .ref q30, .null, .null, .null, .null, .int 0]) := (hc83.2.2.2 (by rw [hz53]; decide)).trans hf73
  have hl85 := hH9.1 _ hl74
  have hH := hH.call hH9 (by decide) (fun a ha _ z => hn69 a ha (Option.some.inj z))
  have hG : tp_G τ_80 ν_80 ρ_80 L_80 := hG9; have hT : tp_T Ω κ τ_80 ν_80 ρ_80 f79 := hT9
  have hH : tp_H τ ν ρ L f [] (some h0) τ_80 ν_80 ρ_80 L_80 f79 := hH
  have hP := hB.1; rw [ht] at hP; have hD := tp_Dw hB.2.2 hFc; clear hB hFc hz1 hk1; subst ht; generalize t.heap = H at hP hS ⊢
  have hP : va_P (dC, dI) vwCl (va_pl L_80 f79) H := hP
  have hD : va_D A (va_pl L_80 f79) := hD
  have ht86 : τ_80 q1 = 11 := hc81.1.trans ht52
  have ht87 : τ_80 q30 = 27 := hc82.1.trans ht49
  have hz88 : τ_80 h0 = 0 := hc83.1.trans hz53
  clear ht52 ht49 hz53 ne70 ne71 ne72 hc81 hc82 hc83 hG9 hT9 hH9
  have ht89 : τ_80 q58 = 10 := hw78p
  refine tpk_pos hl85 hf84 (fun q90 eq90 => ?_)
  refine va_putF (D := (dC, dI)) (ci := 11) (v := .ref q58) (ty := (.object "ColdShips$Watch")) (C := RX11) (T := TX11) (N := 7) hx hb hts hfX11 tyX11 tyX11_ok nmX11 hown hK hP hD hS q90 eq90 rfl 2 (by decide) (hts (.fieldLink RX11 25 "ColdShips" "watch" "LColdShips$Watch;") wa_20) (fun _ h9 => h9) rfl hin rfl (tyX11_ok 2 (by decide)) rfl rfl (Nat.le_of_ble_eq_true rfl) dX11_init_35 (tp_k (.inr (11, [.ref q1, .ref q30, .ref q58, .null, .null, .null, .int 0])) hD hl85 eq90 (fun f91 H locs hP hD hS g93 k92 => ?_))
  have hT := hT.raw hz88 k92
  have hH := hH.wo k92
  refine lv_aload_n hx hb dX11_init_38 rfl (lv_at hl 0 rfl) ?_
  refine va_new (ci := 2) (fs := [.null, .int 0, .int 0, .int 0, .int 0, .int 0, .int 0, .null, .int 0, .null, .int 0, .int 0, .int 0, .int 0, .int 0, .int 0]) (C := RX2) (T := TX2) (N := 16) hx hb hts hfX2 tyX2 tyX2_ok hown (hts (.classLink RX11 29 RX2) wa_21) (hts (.instantiable RX2 16) wa_22) (hts (.initialized RX2) wa_23) hK hP hD hS hA rfl (fun j hj => by rcases tpj_16 j hj with rfl | rfl | rfl | rfl | rfl | rfl | rfl | rfl | rfl | rfl | rfl | rfl | rfl | rfl | rfl | rfl <;> rfl) (Nat.le_of_ble_eq_true rfl) (Nat.le_of_ble_eq_true rfl) dX11_init_39 (fun q94 H hP hD hS => ?_)
  refine Exists.elim (tp_grow hG hT hP hD) (fun L104 hE90 => Exists.elim hE90 (fun f103 hE91 => tn_10 hE91 (fun hP hD hg95 ht96 hs97 hq98 hz99 hn100 hf101 ho102 => ?_)))
  clear hE91 hE90
  have hn105 : ∀ a, a ∈ L → a ≠ q94 := fun a ha => hn100 a (hH.1 a ha)
  have ne106 : h0 ≠ q94 := hn100 _ hl85
  have ne107 : q1 ≠ q94 := hn100 _ (tp_in hG ht86 (by decide))
  have ne108 : q30 ≠ q94 := hn100 _ (tp_in hG ht87 (by decide))
  have ne109 : q58 ≠ q94 := hn100 _ (tp_in hG ht89 (by decide))
  have hG := hg95
  have hT := ht96
  have hH := hH.gr hs97 hn100 ho102
  have hf110 : f103 h0 = .inr (11, [.ref q1, .ref q30, .ref q58, .null, .null, .null, .int 0]) := (ho102 _ ne106).trans g93
  have hl111 : h0 ∈ L104 := hs97 _ hl85
  clear g93 hl85
  refine lv_dup hx hb dX11_init_42 rfl ?_
  have hFc := tp_fr hD hS hA
  refine va_callv (va_runIN (As := []) (rest := [.ref q94, .ref h0]) ⟨hx, hb, hml, hown, hts⟩ (t_X2_init l dC dI _ Ω κ τ_80 ν_80 ρ_80 L104 f103 hG hT q94 hq98 hz99 hf101) ⟨(va_cnB (host := "ColdShips") 0 hts ggX11_init_X2_init rfl rfl rfl (hN.1 (.methodLinkNest RX11 31 yX2_init "ColdShips") nzw_107) (hts (.initialized RX2) wa_23) pd_X2_init ⟨Nat.le_of_ble_eq_true rfl, Nat.le_of_ble_eq_true rfl⟩), rfl, (hts (.instanceMethod yX2_init) wa_115)⟩ ⟨pz_blind, pz_pre hP hK hD hN⟩ rfl rfl hl.1 rfl (lv_room (Nat.le_of_ble_eq_true rfl)) dX11_init_43 ⟨Nat.le_of_ble_eq_true rfl, Nat.le_of_ble_eq_true rfl⟩) hS (fun q _ h => hFc q h) hFc (fun x112 t H1 locs ht hvm hw114 hB hz1 hk1 hS => ?_)
  obtain ⟨τ_116, ν_116, ρ_116, L_116, f115⟩ := x112
  obtain ⟨⟨hG9, hT9, hH9⟩, hw114p⟩ := hw114
  have hc117 := hH9.2 _ (tp_in hG ht86 (by decide)) (fun z => ne107 (Option.some.inj z))
  have hc118 := hH9.2 _ (tp_in hG ht87 (by decide)) (fun z => ne108 (Option.some.inj z))
  have hc119 := hH9.2 _ (tp_in hG ht89 (by decide)) (fun z => ne109 (Option.some.inj z))
  have hc120 := hH9.2 _ hl111 (fun z => ne106 (Option.some.inj z))
  have hf121 : f115 h0 = .inr (11, [.ref q1, .ref q30, .ref q58, .null, .null, .null, .int 0]) := (hc120.2.2.2 (by rw [hz88]; decide)).trans hf110
  have hl122 := hH9.1 _ hl111
  have hH := hH.call hH9 (by decide) (fun a ha _ z => hn105 a ha (Option.some.inj z))
  have hG : tp_G τ_116 ν_116 ρ_116 L_116 := hG9; have hT : tp_T Ω κ τ_116 ν_116 ρ_116 f115 := hT9
  have hH : tp_H τ ν ρ L f [] (some h0) τ_116 ν_116 ρ_116 L_116 f115 := hH
  have hP := hB.1; rw [ht] at hP; have hD := tp_Dw hB.2.2 hFc; clear hB hFc hz1 hk1; subst ht; generalize t.heap = H at hP hS ⊢
  have hP : va_P (dC, dI) vwCl (va_pl L_116 f115) H := hP
  have hD : va_D A (va_pl L_116 f115) := hD
  have ht123 : τ_116 q1 = 11 := hc117.1.trans ht86
  have ht124 : τ_116 q30 = 27 := hc118.1.trans ht87
  have ht125 : τ_116 q58 = 10 := hc119.1.trans ht89
  have hz126 : τ_116 h0 = 0 := hc120.1.trans hz88
  clear ht86 ht87 ht89 hz88 ne106 ne107 ne108 ne109 hc117 hc118 hc119 hc120 hG9 hT9 hH9
  have ht127 : τ_116 q94 = 3 := hw114p
  refine tpk_pos hl122 hf121 (fun q128 eq128 => ?_)
  refine va_putF (D := (dC, dI)) (ci := 11) (v := .ref q94) (ty := (.object "ColdShips$Reader")) (C := RX11) (T := TX11) (N := 7) hx hb hts hfX11 tyX11 tyX11_ok nmX11 hown hK hP hD hS q128 eq128 rfl 3 (by decide) (hts (.fieldLink RX11 32 "ColdShips" "reader" "LColdShips$Reader;") wa_24) (fun _ h9 => h9) rfl hin rfl (tyX11_ok 3 (by decide)) rfl rfl (Nat.le_of_ble_eq_true rfl) dX11_init_46 (tp_k (.inr (11, [.ref q1, .ref q30, .ref q58, .ref q94, .null, .null, .int 0])) hD hl122 eq128 (fun f129 H locs hP hD hS g131 k130 => ?_))
  have hT := hT.raw hz126 k130
  have hH := hH.wo k130
  refine lv_aload_n hx hb dX11_init_49 rfl (lv_at hl 0 rfl) ?_
  refine va_new (ci := 3) (fs := [.null, .null, .null, .int 0, .long 0, .long 0]) (C := RX3) (T := TX3) (N := 6) hx hb hts hfX3 tyX3 tyX3_ok hown (hts (.classLink RX11 36 RX3) wa_25) (hts (.instantiable RX3 6) wa_26) (hts (.initialized RX3) wa_27) hK hP hD hS hA rfl (fun j hj => by rcases tpj_6 j hj with rfl | rfl | rfl | rfl | rfl | rfl <;> rfl) (Nat.le_of_ble_eq_true rfl) (Nat.le_of_ble_eq_true rfl) dX11_init_50 (fun q132 H hP hD hS => ?_)
  refine Exists.elim (tp_grow hG hT hP hD) (fun L142 hE90 => Exists.elim hE90 (fun f141 hE91 => tn_10 hE91 (fun hP hD hg133 ht134 hs135 hq136 hz137 hn138 hf139 ho140 => ?_)))
  clear hE91 hE90
  have hn143 : ∀ a, a ∈ L → a ≠ q132 := fun a ha => hn138 a (hH.1 a ha)
  have ne144 : h0 ≠ q132 := hn138 _ hl122
  have ne145 : q1 ≠ q132 := hn138 _ (tp_in hG ht123 (by decide))
  have ne146 : q30 ≠ q132 := hn138 _ (tp_in hG ht124 (by decide))
  have ne147 : q58 ≠ q132 := hn138 _ (tp_in hG ht125 (by decide))
  have ne148 : q94 ≠ q132 := hn138 _ (tp_in hG ht127 (by decide))
  have hG := hg133
  have hT := ht134
  have hH := hH.gr hs135 hn138 ho140
  have hf149 : f141 h0 = .inr (11, [.ref q1, .ref q30, .ref q58, .ref q94, .null, .null, .int 0]) := (ho140 _ ne144).trans g131
  have hl150 : h0 ∈ L142 := hs135 _ hl122
  clear g131 hl122
  refine lv_dup hx hb dX11_init_53 rfl ?_
  refine lv_aload_n hx hb dX11_init_54 rfl (lv_at hl 0 rfl) ?_
  refine tpk_pos hl150 hf149 (fun q151 eq151 => ?_)
  refine va_get (D := (dC, dI)) (ci := 11) (v := .ref q1) (C := RX11) (T := TX11) (N := 7) hx hb hts hfX11 hown hK hP q151 eq151 rfl 0 (by decide) (hts (.fieldLink RX11 10 "ColdShips" "world" "LColdShips$World;") wa_15) (fun _ h9 => h9) rfl dX11_init_55 ?_
  have hFc := tp_fr hD hS hA
  refine va_callv (va_runI (As := [.ref q1]) (rest := [.ref q132, .ref h0]) ⟨hx, hb, hml, hown, hts⟩ (t_X3_init l dC dI _ Ω κ τ_116 ν_116 ρ_116 L142 f141 hG hT q132 q1 hq136 hz137 hf139 ht123) (cwI 1 hts ggX11_init_X3_init rfl rfl rfl (hts (.initialized RX3) wa_27) (hts (.methodLink RX11 38 yX3_init) wa_123) (hts (.instanceMethod yX3_init) wa_124) rfl pd_X3_init ⟨Nat.le_of_ble_eq_true rfl, Nat.le_of_ble_eq_true rfl⟩) ⟨pz_blind, pz_pre hP hK hD hN⟩ rfl rfl hl.1 rfl (lv_room (Nat.le_of_ble_eq_true rfl)) dX11_init_58 ⟨Nat.le_of_ble_eq_true rfl, Nat.le_of_ble_eq_true rfl⟩) hS (fun q _ h => hFc q h) hFc (fun x152 t H1 locs ht hvm hw154 hB hz1 hk1 hS => ?_)
  obtain ⟨τ_156, ν_156, ρ_156, L_156, f155⟩ := x152
  obtain ⟨⟨hG9, hT9, hH9⟩, hw154p⟩ := hw154
  have hc157 := hH9.2 _ (tp_in hG ht123 (by decide)) (fun z => ne145 (Option.some.inj z))
  have hc158 := hH9.2 _ (tp_in hG ht124 (by decide)) (fun z => ne146 (Option.some.inj z))
  have hc159 := hH9.2 _ (tp_in hG ht125 (by decide)) (fun z => ne147 (Option.some.inj z))
  have hc160 := hH9.2 _ (tp_in hG ht127 (by decide)) (fun z => ne148 (Option.some.inj z))
  have hc161 := hH9.2 _ hl150 (fun z => ne144 (Option.some.inj z))
  have hf162 : f155 h0 = .inr (11, [.ref q1, .ref q30, .ref q58, .ref q94, .null, .null, .int 0]) := (hc161.2.2.2 (by rw [hz126]; decide)).trans hf149
  have hl163 := hH9.1 _ hl150
  have hH := hH.call hH9 (by decide) (fun a ha _ z => hn143 a ha (Option.some.inj z))
  have hG : tp_G τ_156 ν_156 ρ_156 L_156 := hG9; have hT : tp_T Ω κ τ_156 ν_156 ρ_156 f155 := hT9
  have hH : tp_H τ ν ρ L f [] (some h0) τ_156 ν_156 ρ_156 L_156 f155 := hH
  have hP := hB.1; rw [ht] at hP; have hD := tp_Dw hB.2.2 hFc; clear hB hFc hz1 hk1; subst ht; generalize t.heap = H at hP hS ⊢
  have hP : va_P (dC, dI) vwCl (va_pl L_156 f155) H := hP
  have hD : va_D A (va_pl L_156 f155) := hD
  have ht164 : τ_156 q1 = 11 := hc157.1.trans ht123
  have ht165 : τ_156 q30 = 27 := hc158.1.trans ht124
  have ht166 : τ_156 q58 = 10 := hc159.1.trans ht125
  have ht167 : τ_156 q94 = 3 := hc160.1.trans ht127
  have hz168 : τ_156 h0 = 0 := hc161.1.trans hz126
  clear ht123 ht124 ht125 ht127 hz126 ne144 ne145 ne146 ne147 ne148 hc157 hc158 hc159 hc160 hc161 hG9 hT9 hH9
  have ht169 : τ_156 q132 = 4 := hw154p
  refine tpk_pos hl163 hf162 (fun q170 eq170 => ?_)
  refine va_putF (D := (dC, dI)) (ci := 11) (v := .ref q132) (ty := (.object "ColdShips$Reckoner")) (C := RX11) (T := TX11) (N := 7) hx hb hts hfX11 tyX11 tyX11_ok nmX11 hown hK hP hD hS q170 eq170 rfl 4 (by decide) (hts (.fieldLink RX11 39 "ColdShips" "reckoner" "LColdShips$Reckoner;") wa_28) (fun _ h9 => h9) rfl hin rfl (tyX11_ok 4 (by decide)) rfl rfl (Nat.le_of_ble_eq_true rfl) dX11_init_61 (tp_k (.inr (11, [.ref q1, .ref q30, .ref q58, .ref q94, .ref q132, .null, .int 0])) hD hl163 eq170 (fun f171 H locs hP hD hS g173 k172 => ?_))
  have hT := hT.raw hz168 k172
  have hH := hH.wo k172
  refine lv_aload_n hx hb dX11_init_64 rfl (lv_at hl 0 rfl) ?_
  refine va_new (ci := 1) (fs := [.null, .null, .null, .null, .null, .int 0, .int 0, .int 0, .long 0, .int 0, .null, .null, .null, .null, .null]) (C := RX1) (T := TX1) (N := 15) hx hb hts hfX1 tyX1 tyX1_ok hown (hts (.classLink RX11 43 RX1) wa_29) (hts (.instantiable RX1 15) wa_30) (hts (.initialized RX1) wa_31) hK hP hD hS hA rfl (fun j hj => by rcases tpj_15 j hj with rfl | rfl | rfl | rfl | rfl | rfl | rfl | rfl | rfl | rfl | rfl | rfl | rfl | rfl | rfl <;> rfl) (Nat.le_of_ble_eq_true rfl) (Nat.le_of_ble_eq_true rfl) dX11_init_65 (fun q174 H hP hD hS => ?_)
  refine Exists.elim (tp_grow hG hT hP hD) (fun L184 hE90 => Exists.elim hE90 (fun f183 hE91 => tn_10 hE91 (fun hP hD hg175 ht176 hs177 hq178 hz179 hn180 hf181 ho182 => ?_)))
  clear hE91 hE90
  have hn185 : ∀ a, a ∈ L → a ≠ q174 := fun a ha => hn180 a (hH.1 a ha)
  have ne186 : h0 ≠ q174 := hn180 _ hl163
  have ne187 : q1 ≠ q174 := hn180 _ (tp_in hG ht164 (by decide))
  have ne188 : q30 ≠ q174 := hn180 _ (tp_in hG ht165 (by decide))
  have ne189 : q58 ≠ q174 := hn180 _ (tp_in hG ht166 (by decide))
  have ne190 : q94 ≠ q174 := hn180 _ (tp_in hG ht167 (by decide))
  have ne191 : q132 ≠ q174 := hn180 _ (tp_in hG ht169 (by decide))
  have hG := hg175
  have hT := ht176
  have hH := hH.gr hs177 hn180 ho182
  have hf192 : f183 h0 = .inr (11, [.ref q1, .ref q30, .ref q58, .ref q94, .ref q132, .null, .int 0]) := (ho182 _ ne186).trans g173
  have hl193 : h0 ∈ L184 := hs177 _ hl163
  clear g173 hl163
  refine lv_dup hx hb dX11_init_68 rfl ?_
  refine lv_aload_n hx hb dX11_init_69 rfl (lv_at hl 0 rfl) ?_
  refine tpk_pos hl193 hf192 (fun q194 eq194 => ?_)
  refine va_get (D := (dC, dI)) (ci := 11) (v := .ref q1) (C := RX11) (T := TX11) (N := 7) hx hb hts hfX11 hown hK hP q194 eq194 rfl 0 (by decide) (hts (.fieldLink RX11 10 "ColdShips" "world" "LColdShips$World;") wa_15) (fun _ h9 => h9) rfl dX11_init_70 ?_
  have hFc := tp_fr hD hS hA
  refine va_callv (va_runI (As := [.ref q1]) (rest := [.ref q174, .ref h0]) ⟨hx, hb, hml, hown, hts⟩ (t_X1_init l dC dI _ Ω κ τ_156 ν_156 ρ_156 L184 f183 hG hT q174 q1 hq178 hz179 hf181 ht164) (cwI 1 hts ggX11_init_X1_init rfl rfl rfl (hts (.initialized RX1) wa_31) (hts (.methodLink RX11 45 yX1_init) wa_130) (hts (.instanceMethod yX1_init) wa_131) rfl pd_X1_init ⟨Nat.le_of_ble_eq_true rfl, Nat.le_of_ble_eq_true rfl⟩) ⟨pz_blind, pz_pre hP hK hD hN⟩ rfl rfl hl.1 rfl (lv_room (Nat.le_of_ble_eq_true rfl)) dX11_init_73 ⟨Nat.le_of_ble_eq_true rfl, Nat.le_of_ble_eq_true rfl⟩) hS (fun q _ h => hFc q h) hFc (fun x195 t H1 locs ht hvm hw197 hB hz1 hk1 hS => ?_)
  obtain ⟨τ_199, ν_199, ρ_199, L_199, f198⟩ := x195
  obtain ⟨⟨hG9, hT9, hH9⟩, hw197p⟩ := hw197
  have hc200 := hH9.2 _ (tp_in hG ht164 (by decide)) (fun z => ne187 (Option.some.inj z))
  have hc201 := hH9.2 _ (tp_in hG ht165 (by decide)) (fun z => ne188 (Option.some.inj z))
  have hc202 := hH9.2 _ (tp_in hG ht166 (by decide)) (fun z => ne189 (Option.some.inj z))
  have hc203 := hH9.2 _ (tp_in hG ht167 (by decide)) (fun z => ne190 (Option.some.inj z))
  have hc204 := hH9.2 _ (tp_in hG ht169 (by decide)) (fun z => ne191 (Option.some.inj z))
  have hc205 := hH9.2 _ hl193 (fun z => ne186 (Option.some.inj z))
  have hf206 : f198 h0 = .inr (11, [.ref q1, .ref q30, .ref q58, .ref q94, .ref q132, .null, .int 0]) := (hc205.2.2.2 (by rw [hz168]; decide)).trans hf192
  have hl207 := hH9.1 _ hl193
  have hH := hH.call hH9 (by decide) (fun a ha _ z => hn185 a ha (Option.some.inj z))
  have hG : tp_G τ_199 ν_199 ρ_199 L_199 := hG9; have hT : tp_T Ω κ τ_199 ν_199 ρ_199 f198 := hT9
  have hH : tp_H τ ν ρ L f [] (some h0) τ_199 ν_199 ρ_199 L_199 f198 := hH
  have hP := hB.1; rw [ht] at hP; have hD := tp_Dw hB.2.2 hFc; clear hB hFc hz1 hk1; subst ht; generalize t.heap = H at hP hS ⊢
  have hP : va_P (dC, dI) vwCl (va_pl L_199 f198) H := hP
  have hD : va_D A (va_pl L_199 f198) := hD
  have ht208 : τ_199 q1 = 11 := hc200.1.trans ht164
  have ht209 : τ_199 q30 = 27 := hc201.1.trans ht165
  have ht210 : τ_199 q58 = 10 := hc202.1.trans ht166
  have ht211 : τ_199 q94 = 3 := hc203.1.trans ht167
  have ht212 : τ_199 q132 = 4 := hc204.1.trans ht169
  have hz213 : τ_199 h0 = 0 := hc205.1.trans hz168
  clear ht164 ht165 ht166 ht167 ht169 hz168 ne186 ne187 ne188 ne189 ne190 ne191 hc200 hc201 hc202 hc203 hc204 hc205 hG9 hT9 hH9
  have ht214 : τ_199 q174 = 2 := hw197p
  refine tpk_pos hl207 hf206 (fun q215 eq215 => ?_)
  refine va_putF (D := (dC, dI)) (ci := 11) (v := .ref q174) (ty := (.object "ColdShips$Planner")) (C := RX11) (T := TX11) (N := 7) hx hb hts hfX11 tyX11 tyX11_ok nmX11 hown hK hP hD hS q215 eq215 rfl 5 (by decide) (hts (.fieldLink RX11 46 "ColdShips" "planner" "LColdShips$Planner;") wa_32) (fun _ h9 => h9) rfl hin rfl (tyX11_ok 5 (by decide)) rfl rfl (Nat.le_of_ble_eq_true rfl) dX11_init_76 (tp_k (.inr (11, [.ref q1, .ref q30, .ref q58, .ref q94, .ref q132, .ref q174, .int 0])) hD hl207 eq215 (fun f216 H locs hP hD hS g218 k217 => ?_))
  have hT := hT.raw hz213 k217
  have hH := hH.wo k217
  obtain ⟨τ_219, ν_219, ρ_219, hG, hT, hb220, ht221, hn222, hr223⟩ := tp_type hG hT hl207 hz213 12 (0) (fun k => [q1, q30, q58, q94, q132, q174, 0].getD k 0) (by decide) (fun τ9 ν9 ρ9 hE h2 h3 => ⟨(by show (τ9 (ρ9 h0 0) = 11) ∧ (τ9 (ρ9 h0 1) = 27) ∧ (τ9 (ρ9 h0 2) = 10) ∧ (τ9 (ρ9 h0 3) = 3) ∧ (τ9 (ρ9 h0 4) = 4) ∧ (τ9 (ρ9 h0 5) = 2); rw [h3]; exact ⟨(hE q1 (by rw [ht208]; decide)).1.trans ht208, (hE q30 (by rw [ht209]; decide)).1.trans ht209, (hE q58 (by rw [ht210]; decide)).1.trans ht210, (hE q94 (by rw [ht211]; decide)).1.trans ht211, (hE q132 (by rw [ht212]; decide)).1.trans ht212, (hE q174 (by rw [ht214]; decide)).1.trans ht214⟩), by rw [g218]; exact ⟨_, (by rw [h3]; rfl)⟩⟩)
  have hH := hH.ty (fun a _ ho z => ho (by rw [z])) hb220
  have ht224 : τ_219 q1 = 11 := (hb220 _ (Ne.symm (tp_ne0 hz213 ht208 (by decide)))).1.trans ht208
  have ht225 : τ_219 q30 = 27 := (hb220 _ (Ne.symm (tp_ne0 hz213 ht209 (by decide)))).1.trans ht209
  have ht226 : τ_219 q58 = 10 := (hb220 _ (Ne.symm (tp_ne0 hz213 ht210 (by decide)))).1.trans ht210
  have ht227 : τ_219 q94 = 3 := (hb220 _ (Ne.symm (tp_ne0 hz213 ht211 (by decide)))).1.trans ht211
  have ht228 : τ_219 q132 = 4 := (hb220 _ (Ne.symm (tp_ne0 hz213 ht212 (by decide)))).1.trans ht212
  have ht229 : τ_219 q174 = 2 := (hb220 _ (Ne.symm (tp_ne0 hz213 ht214 (by decide)))).1.trans ht214
  clear ht208 ht209 ht210 ht211 ht212 ht214 hb220
  refine tp_widen 129 4104 (Nat.le_of_ble_eq_true rfl) (Nat.le_of_ble_eq_true rfl) ?_
  exact W.vret hx hb hr (fun t ht hW => ⟨⟨(τ_219, ν_219, ρ_219, L_199, f216), rfl, ⟨⟨hG, hT, hH⟩, ht221⟩, by rw [ht]; exact hP, va_K.moved hW.alike hK, hD⟩, hS.F ht⟩) hS.2.2 dX11_init_79
