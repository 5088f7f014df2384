set_option maxHeartbeats 4000000 in
set_option maxRecDepth 100000 in
theorem t_J7_copyOf_28 (l : Launch) (dC : Nat → ClassId) (dI : Nat → Nat → Nat) (sz : Nat) (Ω : Nat → (Nat → Nat) → va_E → Prop) (κ : Nat → ClassId) (τ ν : Nat → Nat) (ρ : Nat → Nat → Nat) (L : List Nat) (f : Nat → va_E) (hG : tp_G τ ν ρ L) (hT : tp_T Ω κ τ ν ρ f) (h0 : Nat) (n : Int32) (ht_h0 : τ h0 = 28) (hr_n : 0 ≤ n.toInt ∧ n.toInt ≤ 400) (hn9 : ν h0 ≤ 400) : Met l yJ7_copyOf_59c91 wqJ7_copyOf_59c91 ({ frames := 2, cells := 1, slots := 400, locals := 400 }) (va_Pc [.ref h0, .int n] (pz_B dC dI (tp_K κ) (va_pl L f) sz)) (va_Qq (fun (r : Option Nat) (x : tp_S) => tp_PX Ω κ τ ν ρ L f [20, 28] none x ∧ ∃ b : Nat, r = some b ∧ x.1 b = 28 ∧ x.2.1 b = n.toNatClampNeg) (fun (x : tp_S) (t : State) => pz_E dC dI (tp_K κ) (va_A (va_pl L f) sz) (va_pl x.2.2.2.1 x.2.2.2.2) t) (va_A (va_pl L f) sz)) 1 400 (va_A (va_pl L f) sz) := by
  refine Met.ofW (cc := cJ7_copyOf_59c91) (maxL := 3) (ret := some (.array .int)) (by decide) rfl ?_
  intro p e s m args below meth c s₁ B hml hv
  obtain ⟨rfl, hsz, hP, hK, hD0, hN⟩ := hv
  have hx := B.exec
  have hb := B.bytes
  have hr := B.returns
  have hts := fun (w : Cond) (h : w ∈ WALL) => atoms_spec (ws := wqJ7_copyOf_59c91) B.pre w (List.mem_cons_of_mem _ h)
  have hown : s.vm.findClass RJ7 = some m.cls := findClass_of_methodNamed B.named
  have hlocks := B.notSynchronized
  subst hsz
  have hD := hD0.self (sz := s.heap.size)
  generalize hAe : va_A (va_pl L f) s.heap.size = A at hD ⊢
  have hA : ∀ q : Nat, s.heap.size ≤ q → A q := fun q h => by rw [← hAe]; exact Or.inr h
  have hS : va_S A s.heap s.heap [] := va_S.rf
  have hH : tp_H τ ν ρ L f [20, 28] none τ ν ρ L f := tp_H.rf
  have hl := lv_entry ([.ref h0, .int n]) (n := 3) (Nat.le_of_ble_eq_true rfl)
  rw [lg_entry_eq]
  generalize (lg_sl ([.ref h0, .int n]) ++ List.replicate (3 - (lg_sl ([.ref h0, .int n])).length) Slot.unset).toArray = ls at hl ⊢
  have hl : lv_has ls 3 [(0, .ref h0), (1, .int n)] := hl
  refine lv_iload_n hx hb dJ7_copyOf_59c91_0 rfl (lv_at hl 1 rfl) ?_
  refine lv_aload_n hx hb dJ7_copyOf_59c91_1 rfl (lv_at hl 0 rfl) ?_
  refine tpk_28 hT ht_h0 rfl (fun g2 hf_o1 hf_o1e => ?_)
  refine tpk_pos (tp_in hG ht_h0 (by decide)) hf_o1 (fun q3 eq3 => ?_)
  obtain ⟨z4, ez4⟩ : ∃ y : Int32, y = Int32.ofNat (ν h0) := ⟨_, rfl⟩
  have iz4 : z4.toInt = ((ν h0) : Int) := zi_ofNat ez4 (by omega)
  refine va_alen hx hb hK hP q3 0 eq3 rfl ez4.symm dJ7_copyOf_59c91_2 ?_
  refine lv_icmp_ne (tgt := 14) hx hb dJ7_copyOf_59c91_3 (by decide) (fun c5 => ?_) (fun c5 => ?_)
  · have ic5 : n.toInt ≠ z4.toInt := zi_ne rfl rfl c5
    refine lv_iload_n hx hb dJ7_copyOf_59c91_14 rfl (lv_at hl 1 rfl) ?_
    refine va_newa (atype := .int) hx hb (hts (.arrayClass .int) wa_39) (ty := .int) rfl hK hP hD hS hA (a0 := (n.toNatClampNeg, .inl (fun _ => 0))) (fun cA => pz_na_int cA (n.toNatClampNeg)) (zi_nn (by omega)) rfl (by have := zi_cn n; have e9 : n.toNatClampNeg * componentBytes FieldType.int = n.toNatClampNeg * 4 := rfl; omega) (Nat.le_of_ble_eq_true rfl) (by have := zi_cn n; show _ ≤ 400; omega) dJ7_copyOf_59c91_15 (fun q6 k7 H hK hP hD hS => ?_)
    obtain ⟨e9, hK9⟩ := tp_kid 0 rfl hK; subst e9; have hK := hK9
    refine Exists.elim (tp_grow hG hT hP hD) (fun L17 hE90 => Exists.elim hE90 (fun f16 hE91 => tn_10 hE91 (fun hP hD hg8 ht9 hs10 hq11 hz12 hn13 hf14 ho15 => ?_)))
    clear hE91 hE90
    have hn18 : ∀ a, a ∈ L → a ≠ q6 := fun a ha => hn13 a (hH.1 a ha)
    have ne19 : h0 ≠ q6 := hn13 _ (tp_in hG ht_h0 (by decide))
    have hG := hg8
    have hT := ht9
    have hH := hH.gr hs10 hn13 ho15
    obtain ⟨τ_20, ν_20, ρ_20, hG, hT, hb21, ht22, hn23, hr24⟩ := tp_type hG hT hq11 hz12 28 (n.toNatClampNeg) (fun _ => 0) (by decide) (fun τ9 ν9 ρ9 hE h2 h3 => ⟨trivial, by rw [hf14]; exact tp_o28 h2 (fun _ => ⟨by decide, by decide⟩)⟩)
    have hH := hH.ty (fun a ha _ => hn18 a ha) hb21
    have ht25 : τ_20 h0 = 28 := (hb21 _ ne19).1.trans ht_h0
    have := (hb21 _ ne19).2.1
    clear ht_h0 hb21 ne19
    refine tp_widen 1 400 (Nat.le_of_ble_eq_true rfl) (by have := zi_cn n; show _ ≤ 400; omega) ?_
    have := zi_cn n
    refine lv_astore_n (lv' := [(2, .ref q6), (0, .ref h0), (1, .int n)]) hx hb dJ7_copyOf_59c91_17 rfl hl (by decide) rfl (fun ls hl => ?_)
    refine lv_aload_n hx hb dJ7_copyOf_59c91_18 rfl (lv_at hl 1 rfl) ?_
    refine lv_iconst (v := 0) hx hb dJ7_copyOf_59c91_19 (by decide) ?_
    refine lv_aload_n hx hb dJ7_copyOf_59c91_20 rfl (lv_at hl 0 rfl) ?_
    refine lv_iconst (v := 0) hx hb dJ7_copyOf_59c91_21 (by decide) ?_
    refine lv_aload_n hx hb dJ7_copyOf_59c91_22 rfl (lv_at hl 1 rfl) ?_
    refine tpk_28 hT ht25 rfl (fun g27 hf_o26 hf_o26e => ?_)
    refine tpk_pos (tp_in hG ht25 (by decide)) hf_o26 (fun q28 eq28 => ?_)
    obtain ⟨z29, ez29⟩ : ∃ y : Int32, y = Int32.ofNat (ν_20 h0) := ⟨_, rfl⟩
    have iz29 : z29.toInt = ((ν_20 h0) : Int) := zi_ofNat ez29 (by omega)
    refine va_alen hx hb hK hP q28 0 eq28 rfl ez29.symm dJ7_copyOf_59c91_23 ?_
    refine lv_iload_n hx hb dJ7_copyOf_59c91_24 rfl (lv_at hl 2 rfl) ?_
    refine va_mmin hx hb (by rw [hml]; exact hl.1.symm) hown (hts (.methodLink RJ7 304 Lib.Math.min.name) wa_968) (hts (.static Lib.Math.min.name) wa_434) (hts (.initialized "java/lang/Math") wa_71) (hts (.code Lib.Math.min.name Lib.Math.min.code 2 (some .int)) wa_435) (Nat.le_of_ble_eq_true rfl) (Nat.le_of_ble_eq_true rfl) (Nat.le_of_ble_eq_true rfl) (Nat.le_of_ble_eq_true rfl) dJ7_copyOf_59c91_25 ?_
    refine lv_topi (fun z30 ez30 => ?_)
    have iz30 := zi_min ez30 (rfl : z29.toInt = _) (rfl : n.toInt = _)
    refine tpk_28 hT ht22 rfl (fun g32 hf_o31 hf_o31e => ?_)
    refine tpk_pos (tp_in hG ht22 (by decide)) hf_o31 (fun q33 eq33 => ?_)
    refine va_copyi hx hb (by rw [hml]; exact hl.1.symm) hown (hts (.methodLink RJ7 150 arraycopyName) wa_969) (hts (.native arraycopyName) wa_465) (hts (.static arraycopyName) wa_466) (hts (.initialized "java/lang/System") wa_467) hK hP hD hS q28 q33 0 0 eq28 eq33 rfl rfl rfl (by decide) (by decide) (zi_nn (by omega)) (zi_cp (show (0 : Int32).toInt = 0 from rfl) (rfl : z30.toInt = _) (by omega)) (zi_cp (show (0 : Int32).toInt = 0 from rfl) (rfl : z30.toInt = _) (by omega)) (fun _ _ => rfl) (Nat.le_of_ble_eq_true rfl) (Nat.le_of_ble_eq_true rfl) dJ7_copyOf_59c91_28 (tp_k (.inl (κ 0, (ν_20 q6), .inl (va_cpy g27 g32 (0 : Int32).toNatClampNeg (0 : Int32).toNatClampNeg z30.toNatClampNeg))) hD (tp_in hG ht22 (by decide)) eq33 (fun f34 H locs hP hD hS g36 k35 => ?_))
    have hT := hT.up ht22 g36 k35 (tp_o28 rfl (tp_cpy28 hf_o26e hf_o31e _ _ _))
    have hH := hH.wt ht22 (by decide) k35
    generalize (va_cpy g27 g32 (0 : Int32).toNatClampNeg (0 : Int32).toNatClampNeg z30.toNatClampNeg) = g37 at g36
    refine lv_aload_n hx hb dJ7_copyOf_59c91_31 rfl (lv_at hl 0 rfl) ?_
    refine tp_widen 1 400 (Nat.le_of_ble_eq_true rfl) (Nat.le_of_ble_eq_true rfl) ?_
    exact W.aret (v := .ref q6) hx hb hr (Or.inr ⟨_, rfl⟩) (Or.inr ⟨_, rfl⟩) (fun t ht hW => ⟨⟨some q6, (τ_20, ν_20, ρ_20, L17, f34), rfl, ⟨⟨hG, hT, hH⟩, ⟨q6, rfl, ht22, hn23⟩⟩, by rw [ht]; exact hP, va_K.moved hW.alike hK, hD⟩, hS.F ht⟩) hS.2.2 dJ7_copyOf_59c91_32
  · have ic5 : n.toInt = z4.toInt := zi_nef rfl rfl c5
    refine lv_aload_n hx hb dJ7_copyOf_59c91_6 rfl (lv_at hl 0 rfl) ?_
    refine va_clone hx hb (by rw [hml]; exact hl.1.symm) hown (hts (.methodLink RJ7 316 ⟨"[I", "clone", "()Ljava/lang/Object;"⟩) wa_962) (hts (.sameMethod "[I" "java/lang/Object" "clone" "()Ljava/lang/Object;") wa_963) (hts (.native ⟨"java/lang/Object", "clone", "()Ljava/lang/Object;"⟩) wa_964) (hts (.instanceMethod ⟨"java/lang/Object", "clone", "()Ljava/lang/Object;"⟩) wa_965) (hts (.selects "[I" ⟨"[I", "clone", "()Ljava/lang/Object;"⟩ ⟨"java/lang/Object", "clone", "()Ljava/lang/Object;"⟩) wa_966) (hN.1 (.castable "[I" "java/lang/Cloneable") nzw_112) hK hP hD hS hA q3 0 (x := ((ν h0), .inl g2)) (ty := .int) eq3 rfl (va_nm_int (hK.2 0 _ rfl).2) (fun i9 v9 h9 => va_fit (n := (ν h0)) (F := fun i9 => .int (g2 i9)) (fun _ _ => rfl) i9 v9 h9) (Nat.le_of_ble_eq_true rfl) (Nat.le_of_ble_eq_true rfl) (Nat.le_of_ble_eq_true rfl) (by show 0 + (ν h0) ≤ 400; omega) dJ7_copyOf_59c91_7 (fun q38 H hK hP hD hS => ?_)
    have hK := (tp_kid 0 rfl hK).2
    refine Exists.elim (tp_grow hG hT hP hD) (fun L48 hE90 => Exists.elim hE90 (fun f47 hE91 => tn_10 hE91 (fun hP hD hg39 ht40 hs41 hq42 hz43 hn44 hf45 ho46 => ?_)))
    clear hE91 hE90
    have hn49 : ∀ a, a ∈ L → a ≠ q38 := fun a ha => hn44 a (hH.1 a ha)
    have ne50 : h0 ≠ q38 := hn44 _ (tp_in hG ht_h0 (by decide))
    have hG := hg39
    have hT := ht40
    have hH := hH.gr hs41 hn44 ho46
    obtain ⟨τ_51, ν_51, ρ_51, hG, hT, hb52, ht53, hn54, hr55⟩ := tp_type hG hT hq42 hz43 28 ((ν h0)) (fun _ => 0) (by decide) (fun τ9 ν9 ρ9 hE h2 h3 => ⟨trivial, by rw [hf45]; exact tp_o28 h2 hf_o1e⟩)
    have hH := hH.ty (fun a ha _ => hn49 a ha) hb52
    have ht56 : τ_51 h0 = 28 := (hb52 _ ne50).1.trans ht_h0
    have := (hb52 _ ne50).2.1
    clear ht_h0 hb52 ne50
    refine tpk_28 hT ht53 rfl (fun g58 hf_o57 hf_o57e => ?_)
    refine tpk_pos (tp_in hG ht53 (by decide)) hf_o57 (fun q59 eq59 => ?_)
    refine va_castA hx hb hown (hts (.classLink RJ7 317 "[I") wa_967) hP q59 eq59 (va_nm_int (hK.2 0 _ rfl).2) dJ7_copyOf_59c91_10 ?_
    refine tp_widen 1 400 (Nat.le_of_ble_eq_true rfl) ((by show 0 + ν h0 ≤ 400; omega)) ?_
    exact W.aret (v := .ref q38) hx hb hr (Or.inr ⟨_, rfl⟩) (Or.inr ⟨_, rfl⟩) (fun t ht hW => ⟨⟨some q38, (τ_51, ν_51, ρ_51, L48, f47), rfl, ⟨⟨hG, hT, hH⟩, ⟨q38, rfl, ht53, hn54.trans (by have := zi_cn n; omega)⟩⟩, by rw [ht]; exact hP, va_K.moved hW.alike hK, hD⟩, hS.F ht⟩) hS.2.2 dJ7_copyOf_59c91_13
set_option maxHeartbeats 4000000 in
set_option maxRecDepth 100000 in
theorem t_J7_copyOf_20 (l : Launch) (dC : Nat → ClassId) (dI : Nat → Nat → Nat) (sz : Nat) (Ω : Nat → (Nat → Nat) → va_E → Prop) (κ : Nat → ClassId) (τ ν : Nat → Nat) (ρ : Nat → Nat → Nat) (L : List Nat) (f : Nat → va_E) (hG : tp_G τ ν ρ L) (hT : tp_T Ω κ τ ν ρ f) (h0 : Nat) (n : Int32) (ht_h0 : τ h0 = 20) (hr_n : 0 ≤ n.toInt ∧ n.toInt ≤ 400) (hn9 : ν h0 ≤ 400) : Met l yJ7_copyOf_59c91 wqJ7_copyOf_59c91 ({ frames := 2, cells := 1, slots := 400, locals := 400 }) (va_Pc [.ref h0, .int n] (pz_B dC dI (tp_K κ) (va_pl L f) sz)) (va_Qq (fun (r : Option Nat) (x : tp_S) => tp_PX Ω κ τ ν ρ L f [20, 28] none x ∧ ∃ b : Nat, r = some b ∧ x.1 b = 20 ∧ x.2.1 b = n.toNatClampNeg) (fun (x : tp_S) (t : State) => pz_E dC dI (tp_K κ) (va_A (va_pl L f) sz) (va_pl x.2.2.2.1 x.2.2.2.2) t) (va_A (va_pl L f) sz)) 1 400 (va_A (va_pl L f) sz) := by
  refine Met.ofW (cc := cJ7_copyOf_59c91) (maxL := 3) (ret := some (.array .int)) (by decide) rfl ?_
  intro p e s m args below meth c s₁ B hml hv
  obtain ⟨rfl, hsz, hP, hK, hD0, hN⟩ := hv
  have hx := B.exec
  have hb := B.bytes
  have hr := B.returns
  have hts := fun (w : Cond) (h : w ∈ WALL) => atoms_spec (ws := wqJ7_copyOf_59c91) B.pre w (List.mem_cons_of_mem _ h)
  have hown : s.vm.findClass RJ7 = some m.cls := findClass_of_methodNamed B.named
  have hlocks := B.notSynchronized
  subst hsz
  have hD := hD0.self (sz := s.heap.size)
  generalize hAe : va_A (va_pl L f) s.heap.size = A at hD ⊢
  have hA : ∀ q : Nat, s.heap.size ≤ q → A q := fun q h => by rw [← hAe]; exact Or.inr h
  have hS : va_S A s.heap s.heap [] := va_S.rf
  have hH : tp_H τ ν ρ L f [20, 28] none τ ν ρ L f := tp_H.rf
  have hl := lv_entry ([.ref h0, .int n]) (n := 3) (Nat.le_of_ble_eq_true rfl)
  rw [lg_entry_eq]
  generalize (lg_sl ([.ref h0, .int n]) ++ List.replicate (3 - (lg_sl ([.ref h0, .int n])).length) Slot.unset).toArray = ls at hl ⊢
  have hl : lv_has ls 3 [(0, .ref h0), (1, .int n)] := hl
  refine lv_iload_n hx hb dJ7_copyOf_59c91_0 rfl (lv_at hl 1 rfl) ?_
  refine lv_aload_n hx hb dJ7_copyOf_59c91_1 rfl (lv_at hl 0 rfl) ?_
  refine tpk_20 hT ht_h0 rfl (fun g2 hf_o1 => ?_)
  refine tpk_pos (tp_in hG ht_h0 (by decide)) hf_o1 (fun q3 eq3 => ?_)
  obtain ⟨z4, ez4⟩ : ∃ y : Int32, y = Int32.ofNat (ν h0) := ⟨_, rfl⟩
  have iz4 : z4.toInt = ((ν h0) : Int) := zi_ofNat ez4 (by omega)
  refine va_alen hx hb hK hP q3 0 eq3 rfl ez4.symm dJ7_copyOf_59c91_2 ?_
  refine lv_icmp_ne (tgt := 14) hx hb dJ7_copyOf_59c91_3 (by decide) (fun c5 => ?_) (fun c5 => ?_)
  · have ic5 : n.toInt ≠ z4.toInt := zi_ne rfl rfl c5
    refine lv_iload_n hx hb dJ7_copyOf_59c91_14 rfl (lv_at hl 1 rfl) ?_
    refine va_newa (atype := .int) hx hb (hts (.arrayClass .int) wa_39) (ty := .int) rfl hK hP hD hS hA (a0 := (n.toNatClampNeg, .inl (fun _ => 0))) (fun cA => pz_na_int cA (n.toNatClampNeg)) (zi_nn (by omega)) rfl (by have := zi_cn n; have e9 : n.toNatClampNeg * componentBytes FieldType.int = n.toNatClampNeg * 4 := rfl; omega) (Nat.le_of_ble_eq_true rfl) (by have := zi_cn n; show _ ≤ 400; omega) dJ7_copyOf_59c91_15 (fun q6 k7 H hK hP hD hS => ?_)
    obtain ⟨e9, hK9⟩ := tp_kid 0 rfl hK; subst e9; have hK := hK9
    refine Exists.elim (tp_grow hG hT hP hD) (fun L17 hE90 => Exists.elim hE90 (fun f16 hE91 => tn_10 hE91 (fun hP hD hg8 ht9 hs10 hq11 hz12 hn13 hf14 ho15 => ?_)))
    clear hE91 hE90
    have hn18 : ∀ a, a ∈ L → a ≠ q6 := fun a ha => hn13 a (hH.1 a ha)
    have ne19 : h0 ≠ q6 := hn13 _ (tp_in hG ht_h0 (by decide))
    have hG := hg8
    have hT := ht9
    have hH := hH.gr hs10 hn13 ho15
    obtain ⟨τ_20, ν_20, ρ_20, hG, hT, hb21, ht22, hn23, hr24⟩ := tp_type hG hT hq11 hz12 20 (n.toNatClampNeg) (fun _ => 0) (by decide) (fun τ9 ν9 ρ9 hE h2 h3 => ⟨trivial, by rw [hf14]; exact tp_o20 h2⟩)
    have hH := hH.ty (fun a ha _ => hn18 a ha) hb21
    have ht25 : τ_20 h0 = 20 := (hb21 _ ne19).1.trans ht_h0
    have := (hb21 _ ne19).2.1
    clear ht_h0 hb21 ne19
    refine tp_widen 1 400 (Nat.le_of_ble_eq_true rfl) (by have := zi_cn n; show _ ≤ 400; omega) ?_
    have := zi_cn n
    refine lv_astore_n (lv' := [(2, .ref q6), (0, .ref h0), (1, .int n)]) hx hb dJ7_copyOf_59c91_17 rfl hl (by decide) rfl (fun ls hl => ?_)
    refine lv_aload_n hx hb dJ7_copyOf_59c91_18 rfl (lv_at hl 1 rfl) ?_
    refine lv_iconst (v := 0) hx hb dJ7_copyOf_59c91_19 (by decide) ?_
    refine lv_aload_n hx hb dJ7_copyOf_59c91_20 rfl (lv_at hl 0 rfl) ?_
    refine lv_iconst (v := 0) hx hb dJ7_copyOf_59c91_21 (by decide) ?_
    refine lv_aload_n hx hb dJ7_copyOf_59c91_22 rfl (lv_at hl 1 rfl) ?_
    refine tpk_20 hT ht25 rfl (fun g27 hf_o26 => ?_)
    refine tpk_pos (tp_in hG ht25 (by decide)) hf_o26 (fun q28 eq28 => ?_)
    obtain ⟨z29, ez29⟩ : ∃ y : Int32, y = Int32.ofNat (ν_20 h0) := ⟨_, rfl⟩
    have iz29 : z29.toInt = ((ν_20 h0) : Int) := zi_ofNat ez29 (by omega)
    refine va_alen hx hb hK hP q28 0 eq28 rfl ez29.symm dJ7_copyOf_59c91_23 ?_
    refine lv_iload_n hx hb dJ7_copyOf_59c91_24 rfl (lv_at hl 2 rfl) ?_
    refine va_mmin hx hb (by rw [hml]; exact hl.1.symm) hown (hts (.methodLink RJ7 304 Lib.Math.min.name) wa_968) (hts (.static Lib.Math.min.name) wa_434) (hts (.initialized "java/lang/Math") wa_71) (hts (.code Lib.Math.min.name Lib.Math.min.code 2 (some .int)) wa_435) (Nat.le_of_ble_eq_true rfl) (Nat.le_of_ble_eq_true rfl) (Nat.le_of_ble_eq_true rfl) (Nat.le_of_ble_eq_true rfl) dJ7_copyOf_59c91_25 ?_
    refine lv_topi (fun z30 ez30 => ?_)
    have iz30 := zi_min ez30 (rfl : z29.toInt = _) (rfl : n.toInt = _)
    refine tpk_20 hT ht22 rfl (fun g32 hf_o31 => ?_)
    refine tpk_pos (tp_in hG ht22 (by decide)) hf_o31 (fun q33 eq33 => ?_)
    refine va_copyi hx hb (by rw [hml]; exact hl.1.symm) hown (hts (.methodLink RJ7 150 arraycopyName) wa_969) (hts (.native arraycopyName) wa_465) (hts (.static arraycopyName) wa_466) (hts (.initialized "java/lang/System") wa_467) hK hP hD hS q28 q33 0 0 eq28 eq33 rfl rfl rfl (by decide) (by decide) (zi_nn (by omega)) (zi_cp (show (0 : Int32).toInt = 0 from rfl) (rfl : z30.toInt = _) (by omega)) (zi_cp (show (0 : Int32).toInt = 0 from rfl) (rfl : z30.toInt = _) (by omega)) (fun _ _ => rfl) (Nat.le_of_ble_eq_true rfl) (Nat.le_of_ble_eq_true rfl) dJ7_copyOf_59c91_28 (tp_k (.inl (κ 0, (ν_20 q6), .inl (va_cpy g27 g32 (0 : Int32).toNatClampNeg (0 : Int32).toNatClampNeg z30.toNatClampNeg))) hD (tp_in hG ht22 (by decide)) eq33 (fun f34 H locs hP hD hS g36 k35 => ?_))
    have hT := hT.up ht22 g36 k35 (tp_o20 rfl)
    have hH := hH.wt ht22 (by decide) k35
    generalize (va_cpy g27 g32 (0 : Int32).toNatClampNeg (0 : Int32).toNatClampNeg z30.toNatClampNeg) = g37 at g36
    refine lv_aload_n hx hb dJ7_copyOf_59c91_31 rfl (lv_at hl 0 rfl) ?_
    refine tp_widen 1 400 (Nat.le_of_ble_eq_true rfl) (Nat.le_of_ble_eq_true rfl) ?_
    exact W.aret (v := .ref q6) hx hb hr (Or.inr ⟨_, rfl⟩) (Or.inr ⟨_, rfl⟩) (fun t ht hW => ⟨⟨some q6, (τ_20, ν_20, ρ_20, L17, f34), rfl, ⟨⟨hG, hT, hH⟩, ⟨q6, rfl, ht22, hn23⟩⟩, by rw [ht]; exact hP, va_K.moved hW.alike hK, hD⟩, hS.F ht⟩) hS.2.2 dJ7_copyOf_59c91_32
  · have ic5 : n.toInt = z4.toInt := zi_nef rfl rfl c5
    refine lv_aload_n hx hb dJ7_copyOf_59c91_6 rfl (lv_at hl 0 rfl) ?_
    refine va_clone hx hb (by rw [hml]; exact hl.1.symm) hown (hts (.methodLink RJ7 316 ⟨"[I", "clone", "()Ljava/lang/Object;"⟩) wa_962) (hts (.sameMethod "[I" "java/lang/Object" "clone" "()Ljava/lang/Object;") wa_963) (hts (.native ⟨"java/lang/Object", "clone", "()Ljava/lang/Object;"⟩) wa_964) (hts (.instanceMethod ⟨"java/lang/Object", "clone", "()Ljava/lang/Object;"⟩) wa_965) (hts (.selects "[I" ⟨"[I", "clone", "()Ljava/lang/Object;"⟩ ⟨"java/lang/Object", "clone", "()Ljava/lang/Object;"⟩) wa_966) (hN.1 (.castable "[I" "java/lang/Cloneable") nzw_112) hK hP hD hS hA q3 0 (x := ((ν h0), .inl g2)) (ty := .int) eq3 rfl (va_nm_int (hK.2 0 _ rfl).2) (fun i9 v9 h9 => va_fit (n := (ν h0)) (F := fun i9 => .int (g2 i9)) (fun _ _ => rfl) i9 v9 h9) (Nat.le_of_ble_eq_true rfl) (Nat.le_of_ble_eq_true rfl) (Nat.le_of_ble_eq_true rfl) (by show 0 + (ν h0) ≤ 400; omega) dJ7_copyOf_59c91_7 (fun q38 H hK hP hD hS => ?_)
    have hK := (tp_kid 0 rfl hK).2
    refine Exists.elim (tp_grow hG hT hP hD) (fun L48 hE90 => Exists.elim hE90 (fun f47 hE91 => tn_10 hE91 (fun hP hD hg39 ht40 hs41 hq42 hz43 hn44 hf45 ho46 => ?_)))
    clear hE91 hE90
    have hn49 : ∀ a, a ∈ L → a ≠ q38 := fun a ha => hn44 a (hH.1 a ha)
    have ne50 : h0 ≠ q38 := hn44 _ (tp_in hG ht_h0 (by decide))
    have hG := hg39
    have hT := ht40
    have hH := hH.gr hs41 hn44 ho46
    obtain ⟨τ_51, ν_51, ρ_51, hG, hT, hb52, ht53, hn54, hr55⟩ := tp_type hG hT hq42 hz43 20 ((ν h0)) (fun _ => 0) (by decide) (fun τ9 ν9 ρ9 hE h2 h3 => ⟨trivial, by rw [hf45]; exact tp_o20 h2⟩)
    have hH := hH.ty (fun a ha _ => hn49 a ha) hb52
    have ht56 : τ_51 h0 = 20 := (hb52 _ ne50).1.trans ht_h0
    have := (hb52 _ ne50).2.1
    clear ht_h0 hb52 ne50
    refine tpk_20 hT ht53 rfl (fun g58 hf_o57 => ?_)
    refine tpk_pos (tp_in hG ht53 (by decide)) hf_o57 (fun q59 eq59 => ?_)
    refine va_castA hx hb hown (hts (.classLink RJ7 317 "[I") wa_967) hP q59 eq59 (va_nm_int (hK.2 0 _ rfl).2) dJ7_copyOf_59c91_10 ?_
    refine tp_widen 1 400 (Nat.le_of_ble_eq_true rfl) ((by show 0 + ν h0 ≤ 400; omega)) ?_
    exact W.aret (v := .ref q38) hx hb hr (Or.inr ⟨_, rfl⟩) (Or.inr ⟨_, rfl⟩) (fun t ht hW => ⟨⟨some q38, (τ_51, ν_51, ρ_51, L48, f47), rfl, ⟨⟨hG, hT, hH⟩, ⟨q38, rfl, ht53, hn54.trans (by have := zi_cn n; omega)⟩⟩, by rw [ht]; exact hP, va_K.moved hW.alike hK, hD⟩, hS.F ht⟩) hS.2.2 dJ7_copyOf_59c91_13
set_option maxHeartbeats 4000000 in
set_option maxRecDepth 100000 in
theorem t_X2_readTape (l : Launch) (dC : Nat → ClassId) (dI : Nat → Nat → Nat) (sz : Nat) (Ω : Nat → (Nat → Nat) → va_E → Prop) (κ : Nat → ClassId) (τ ν : Nat → Nat) (ρ : Nat → Nat → Nat) (L : List Nat) (f : Nat → va_E) (hG : tp_G τ ν ρ L) (hT : tp_T Ω κ τ ν ρ f) (adK adV : Nat → Nat) (zv : Option Nat) (h0 : Nat) (ht_h0 : τ h0 = 3) : Met l yX2_readTape wqX2_readTape ({ frames := 83, cells := 3, slots := 805, locals := 32800 }) (va_Pc [.ref h0] (pw_BZ dC dI (tp_K κ) (va_pl L f) sz adK adV zv)) (va_Qq (fun (r : Option Nat) (x : tp_S) => tp_PX Ω κ τ ν ρ L f [3, 20, 28] none x ∧ (r = none ∨ ∃ b : Nat, r = some b ∧ x.1 b = 1)) (fun (x : tp_S) (t : State) => pz_E dC dI (tp_K κ) (va_A (va_pl L f) sz) (va_pl x.2.2.2.1 x.2.2.2.2) t) (va_A (va_pl L f) sz)) 3 805 (va_A (va_pl L f) sz) := by
  refine Met.ofW (cc := cX2_readTape) (maxL := 2) (ret := some (.object "ColdShips$Contract")) (by decide) rfl ?_
  intro p e s m args below meth c s₁ B hml hv
  obtain ⟨rfl, ⟨hsz, hP, hK, hD0, hN⟩, hZ⟩ := hv
  have hx := B.exec
  have hb := B.bytes
  have hr := B.returns
  have hts := fun (w : Cond) (h : w ∈ WALL) => atoms_spec (ws := wqX2_readTape) B.pre w (List.mem_cons_of_mem _ h)
  have hown : s.vm.findClass RX2 = some m.cls := findClass_of_methodNamed B.named
  have hlocks := B.notSynchronized
  subst hsz
  have hD := hD0.self (sz := s.heap.size)
  generalize hAe : va_A (va_pl L f) s.heap.size = A at hD hZ ⊢
  have hA : ∀ q : Nat, s.heap.size ≤ q → A q := fun q h => by rw [← hAe]; exact Or.inr h
  have hS : va_S A s.heap s.heap [] := va_S.rf
  have hH : tp_H τ ν ρ L f [3, 20, 28] none τ ν ρ L f := tp_H.rf
  have hl := lv_entry ([.ref h0]) (n := 2) (Nat.le_of_ble_eq_true rfl)
  rw [lg_entry_eq]
  generalize (lg_sl ([.ref h0]) ++ List.replicate (2 - (lg_sl ([.ref h0])).length) Slot.unset).toArray = ls at hl ⊢
  have hl : lv_has ls 2 [(0, .ref h0)] := hl
  refine lv_aload_n hx hb dX2_readTape_0 rfl (lv_at hl 0 rfl) ?_
  refine lv_iconst (v := 0) hx hb dX2_readTape_1 (by decide) ?_
  refine tgk_3 hG ht_h0 (fun y1 y1n y2 y2n y3 y3n => ?_)
  refine tpk_3 hT ht_h0 (fun o4_x1 o4_x2 o4_x3 o4_x4 o4_x5 o4_x6 o4_x8 o4_x10 o4_x11 o4_x12 o4_x13 o4_x14 o4_x15 hf_o4 ro4_0 ro4_1 ro4_2 ro4_3 ro4_4 ro4_5 ro4_6 => ?_)
  refine tpk_pos (tp_in hG ht_h0 (by decide)) hf_o4 (fun q5 eq5 => ?_)
  refine va_put (D := (dC, dI)) (ci := 2) (v := .int 0) (ty := .int) (C := RX2) (T := TX2) (N := 16) hx hb hts hfX2 tyX2 tyX2_ok nmX2 hown hK hP hD hS q5 eq5 rfl 5 (by decide) (hts (.fieldLink RX2 29 "ColdShips$Reader" "behind" "I") wa_795) (fun _ h9 => h9) rfl (tyX2_ok 5 (by decide)) rfl rfl (Nat.le_of_ble_eq_true rfl) dX2_readTape_2 (tp_k (.inr (2, [.ref (ρ h0 0), .int o4_x1, .int o4_x2, .int o4_x3, .int o4_x4, .int 0, .int o4_x6, .ref (ρ h0 7), .int o4_x8, .ref (ρ h0 9), .int o4_x10, .int o4_x11, .int o4_x12, .int o4_x13, .int o4_x14, .int o4_x15])) hD (tp_in hG ht_h0 (by decide)) eq5 (fun f6 H locs hP hD hS g8 k7 => ?_))
  have hT := hT.up ht_h0 g8 k7 ⟨_, _, _, _, _, _, _, _, _, _, _, _, _, rfl, (by first | decide | omega | (have : (0 : Int32).toInt = 0 := rfl; omega)), (by first | decide | omega | (have : (0 : Int32).toInt = 0 := rfl; omega)), (by first | decide | omega | (have : (0 : Int32).toInt = 0 := rfl; omega)), (by first | decide | omega | (have : (0 : Int32).toInt = 0 := rfl; omega)), (by first | decide | omega | (have : (0 : Int32).toInt = 0 := rfl; omega)), (by first | decide | omega | (have : (0 : Int32).toInt = 0 := rfl; omega)), (by first | decide | omega | (have : (0 : Int32).toInt = 0 := rfl; omega))⟩
  have hH := hH.wt ht_h0 (by decide) k7
  refine lv_aload_n hx hb dX2_readTape_5 rfl (lv_at hl 0 rfl) ?_
  refine lv_iconst (v := 0) hx hb dX2_readTape_6 (by decide) ?_
  refine tpk_pos (tp_in hG ht_h0 (by decide)) g8 (fun q9 eq9 => ?_)
  refine va_put (D := (dC, dI)) (ci := 2) (v := .int 0) (ty := .int) (C := RX2) (T := TX2) (N := 16) hx hb hts hfX2 tyX2 tyX2_ok nmX2 hown hK hP hD hS q9 eq9 rfl 8 (by decide) (hts (.fieldLink RX2 32 "ColdShips$Reader" "cells" "I") wa_796) (fun _ h9 => h9) rfl (tyX2_ok 8 (by decide)) rfl rfl (Nat.le_of_ble_eq_true rfl) dX2_readTape_7 (tp_k (.inr (2, [.ref (ρ h0 0), .int o4_x1, .int o4_x2, .int o4_x3, .int o4_x4, .int 0, .int o4_x6, .ref (ρ h0 7), .int 0, .ref (ρ h0 9), .int o4_x10, .int o4_x11, .int o4_x12, .int o4_x13, .int o4_x14, .int o4_x15])) hD (tp_in hG ht_h0 (by decide)) eq9 (fun f10 H locs hP hD hS g12 k11 => ?_))
  have hT := hT.up ht_h0 g12 k11 ⟨_, _, _, _, _, _, _, _, _, _, _, _, _, rfl, (by first | decide | omega | (have : (0 : Int32).toInt = 0 := rfl; have : (0 : Int32).toInt = 0 := rfl; omega)), (by first | decide | omega | (have : (0 : Int32).toInt = 0 := rfl; have : (0 : Int32).toInt = 0 := rfl; omega)), (by first | decide | omega | (have : (0 : Int32).toInt = 0 := rfl; have : (0 : Int32).toInt = 0 := rfl; omega)), (by first | decide | omega | (have : (0 : Int32).toInt = 0 := rfl; have : (0 : Int32).toInt = 0 := rfl; omega)), (by first | decide | omega | (have : (0 : Int32).toInt = 0 := rfl; have : (0 : Int32).toInt = 0 := rfl; omega)), (by first | decide | omega | (have : (0 : Int32).toInt = 0 := rfl; have : (0 : Int32).toInt = 0 := rfl; omega)), (by first | decide | omega | (have : (0 : Int32).toInt = 0 := rfl; have : (0 : Int32).toInt = 0 := rfl; omega))⟩
  have hH := hH.wt ht_h0 (by decide) k11
  refine lv_aload_n hx hb dX2_readTape_10 rfl (lv_at hl 0 rfl) ?_
  refine lv_iconst (v := 0) hx hb dX2_readTape_11 (by decide) ?_
  refine tpk_pos (tp_in hG ht_h0 (by decide)) g12 (fun q13 eq13 => ?_)
  refine va_put (D := (dC, dI)) (ci := 2) (v := .int 0) (ty := .int) (C := RX2) (T := TX2) (N := 16) hx hb hts hfX2 tyX2 tyX2_ok nmX2 hown hK hP hD hS q13 eq13 rfl 10 (by decide) (hts (.fieldLink RX2 35 "ColdShips$Reader" "sums" "I") wa_797) (fun _ h9 => h9) rfl (tyX2_ok 10 (by decide)) rfl rfl (Nat.le_of_ble_eq_true rfl) dX2_readTape_12 (tp_k (.inr (2, [.ref (ρ h0 0), .int o4_x1, .int o4_x2, .int o4_x3, .int o4_x4, .int 0, .int o4_x6, .ref (ρ h0 7), .int 0, .ref (ρ h0 9), .int 0, .int o4_x11, .int o4_x12, .int o4_x13, .int o4_x14, .int o4_x15])) hD (tp_in hG ht_h0 (by decide)) eq13 (fun f14 H locs hP hD hS g16 k15 => ?_))
  have hT := hT.up ht_h0 g16 k15 ⟨_, _, _, _, _, _, _, _, _, _, _, _, _, rfl, (by first | decide | omega | (have : (0 : Int32).toInt = 0 := rfl; have : (0 : Int32).toInt = 0 := rfl; have : (0 : Int32).toInt = 0 := rfl; omega)), (by first | decide | omega | (have : (0 : Int32).toInt = 0 := rfl; have : (0 : Int32).toInt = 0 := rfl; have : (0 : Int32).toInt = 0 := rfl; omega)), (by first | decide | omega | (have : (0 : Int32).toInt = 0 := rfl; have : (0 : Int32).toInt = 0 := rfl; have : (0 : Int32).toInt = 0 := rfl; omega)), (by first | decide | omega | (have : (0 : Int32).toInt = 0 := rfl; have : (0 : Int32).toInt = 0 := rfl; have : (0 : Int32).toInt = 0 := rfl; omega)), (by first | decide | omega | (have : (0 : Int32).toInt = 0 := rfl; have : (0 : Int32).toInt = 0 := rfl; have : (0 : Int32).toInt = 0 := rfl; omega)), (by first | decide | omega | (have : (0 : Int32).toInt = 0 := rfl; have : (0 : Int32).toInt = 0 := rfl; have : (0 : Int32).toInt = 0 := rfl; omega)), (by first | decide | omega | (have : (0 : Int32).toInt = 0 := rfl; have : (0 : Int32).toInt = 0 := rfl; have : (0 : Int32).toInt = 0 := rfl; omega))⟩
  have hH := hH.wt ht_h0 (by decide) k15
  refine lv_aload_n hx hb dX2_readTape_15 rfl (lv_at hl 0 rfl) ?_
  refine lv_iconst (v := 0) hx hb dX2_readTape_16 (by decide) ?_
  refine tpk_pos (tp_in hG ht_h0 (by decide)) g16 (fun q17 eq17 => ?_)
  refine va_put (D := (dC, dI)) (ci := 2) (v := .int 0) (ty := .int) (C := RX2) (T := TX2) (N := 16) hx hb hts hfX2 tyX2 tyX2_ok nmX2 hown hK hP hD hS q17 eq17 rfl 11 (by decide) (hts (.fieldLink RX2 38 "ColdShips$Reader" "leaves" "I") wa_798) (fun _ h9 => h9) rfl (tyX2_ok 11 (by decide)) rfl rfl (Nat.le_of_ble_eq_true rfl) dX2_readTape_17 (tp_k (.inr (2, [.ref (ρ h0 0), .int o4_x1, .int o4_x2, .int o4_x3, .int o4_x4, .int 0, .int o4_x6, .ref (ρ h0 7), .int 0, .ref (ρ h0 9), .int 0, .int 0, .int o4_x12, .int o4_x13, .int o4_x14, .int o4_x15])) hD (tp_in hG ht_h0 (by decide)) eq17 (fun f18 H locs hP hD hS g20 k19 => ?_))
  have hT := hT.up ht_h0 g20 k19 ⟨_, _, _, _, _, _, _, _, _, _, _, _, _, rfl, (by first | decide | omega | (have : (0 : Int32).toInt = 0 := rfl; have : (0 : Int32).toInt = 0 := rfl; have : (0 : Int32).toInt = 0 := rfl; have : (0 : Int32).toInt = 0 := rfl; omega)), (by first | decide | omega | (have : (0 : Int32).toInt = 0 := rfl; have : (0 : Int32).toInt = 0 := rfl; have : (0 : Int32).toInt = 0 := rfl; have : (0 : Int32).toInt = 0 := rfl; omega)), (by first | decide | omega | (have : (0 : Int32).toInt = 0 := rfl; have : (0 : Int32).toInt = 0 := rfl; have : (0 : Int32).toInt = 0 := rfl; have : (0 : Int32).toInt = 0 := rfl; omega)), (by first | decide | omega | (have : (0 : Int32).toInt = 0 := rfl; have : (0 : Int32).toInt = 0 := rfl; have : (0 : Int32).toInt = 0 := rfl; have : (0 : Int32).toInt = 0 := rfl; omega)), (by first | decide | omega | (have : (0 : Int32).toInt = 0 := rfl; have : (0 : Int32).toInt = 0 := rfl; have : (0 : Int32).toInt = 0 := rfl; have : (0 : Int32).toInt = 0 := rfl; omega)), (by first | decide | omega | (have : (0 : Int32).toInt = 0 := rfl; have : (0 : Int32).toInt = 0 := rfl; have : (0 : Int32).toInt = 0 := rfl; have : (0 : Int32).toInt = 0 := rfl; omega)), (by first | decide | omega | (have : (0 : Int32).toInt = 0 := rfl; have : (0 : Int32).toInt = 0 := rfl; have : (0 : Int32).toInt = 0 := rfl; have : (0 : Int32).toInt = 0 := rfl; omega))⟩
  have hH := hH.wt ht_h0 (by decide) k19
  refine lv_aload_n hx hb dX2_readTape_20 rfl (lv_at hl 0 rfl) ?_
  refine lv_iconst (v := 0) hx hb dX2_readTape_21 (by decide) ?_
  refine tpk_pos (tp_in hG ht_h0 (by decide)) g20 (fun q21 eq21 => ?_)
  refine va_put (D := (dC, dI)) (ci := 2) (v := .int 0) (ty := .int) (C := RX2) (T := TX2) (N := 16) hx hb hts hfX2 tyX2 tyX2_ok nmX2 hown hK hP hD hS q21 eq21 rfl 12 (by decide) (hts (.fieldLink RX2 41 "ColdShips$Reader" "brackets" "I") wa_799) (fun _ h9 => h9) rfl (tyX2_ok 12 (by decide)) rfl rfl (Nat.le_of_ble_eq_true rfl) dX2_readTape_22 (tp_k (.inr (2, [.ref (ρ h0 0), .int o4_x1, .int o4_x2, .int o4_x3, .int o4_x4, .int 0, .int o4_x6, .ref (ρ h0 7), .int 0, .ref (ρ h0 9), .int 0, .int 0, .int 0, .int o4_x13, .int o4_x14, .int o4_x15])) hD (tp_in hG ht_h0 (by decide)) eq21 (fun f22 H locs hP hD hS g24 k23 => ?_))
  have hT := hT.up ht_h0 g24 k23 ⟨_, _, _, _, _, _, _, _, _, _, _, _, _, rfl, (by first | decide | omega | (have : (0 : Int32).toInt = 0 := rfl; have : (0 : Int32).toInt = 0 := rfl; have : (0 : Int32).toInt = 0 := rfl; have : (0 : Int32).toInt = 0 := rfl; have : (0 : Int32).toInt = 0 := rfl; omega)), (by first | decide | omega | (have : (0 : Int32).toInt = 0 := rfl; have : (0 : Int32).toInt = 0 := rfl; have : (0 : Int32).toInt = 0 := rfl; have : (0 : Int32).toInt = 0 := rfl; have : (0 : Int32).toInt = 0 := rfl; omega)), (by first | decide | omega | (have : (0 : Int32).toInt = 0 := rfl; have : (0 : Int32).toInt = 0 := rfl; have : (0 : Int32).toInt = 0 := rfl; have : (0 : Int32).toInt = 0 := rfl; have : (0 : Int32).toInt = 0 := rfl; omega)), (by first | decide | omega | (have : (0 : Int32).toInt = 0 := rfl; have : (0 : Int32).toInt = 0 := rfl; have : (0 : Int32).toInt = 0 := rfl; have : (0 : Int32).toInt = 0 := rfl; have : (0 : Int32).toInt = 0 := rfl; omega)), (by first | decide | omega | (have : (0 : Int32).toInt = 0 := rfl; have : (0 : Int32).toInt = 0 := rfl; have : (0 : Int32).toInt = 0 := rfl; have : (0 : Int32).toInt = 0 := rfl; have : (0 : Int32).toInt = 0 := rfl; omega)), (by first | decide | omega | (have : (0 : Int32).toInt = 0 := rfl; have : (0 : Int32).toInt = 0 := rfl; have : (0 : Int32).toInt = 0 := rfl; have : (0 : Int32).toInt = 0 := rfl; have : (0 : Int32).toInt = 0 := rfl; omega)), (by first | decide | omega | (have : (0 : Int32).toInt = 0 := rfl; have : (0 : Int32).toInt = 0 := rfl; have : (0 : Int32).toInt = 0 := rfl; have : (0 : Int32).toInt = 0 := rfl; have : (0 : Int32).toInt = 0 := rfl; omega))⟩
  have hH := hH.wt ht_h0 (by decide) k23
  have hB : tp_fld (f22 h0) 12 = 0 := by rw [g24]; show (0 : Int32).toInt = 0; rfl
  refine lv_aload_n hx hb dX2_readTape_25 rfl (lv_at hl 0 rfl) ?_
  refine lv_iconst (v := 0) hx hb dX2_readTape_26 (by decide) ?_
  refine tpk_pos (tp_in hG ht_h0 (by decide)) g24 (fun q25 eq25 => ?_)
  refine va_put (D := (dC, dI)) (ci := 2) (v := .int 0) (ty := .int) (C := RX2) (T := TX2) (N := 16) hx hb hts hfX2 tyX2 tyX2_ok nmX2 hown hK hP hD hS q25 eq25 rfl 13 (by decide) (hts (.fieldLink RX2 44 "ColdShips$Reader" "windowFrom" "I") wa_800) (fun _ h9 => h9) rfl (tyX2_ok 13 (by decide)) rfl rfl (Nat.le_of_ble_eq_true rfl) dX2_readTape_27 (tp_k (.inr (2, [.ref (ρ h0 0), .int o4_x1, .int o4_x2, .int o4_x3, .int o4_x4, .int 0, .int o4_x6, .ref (ρ h0 7), .int 0, .ref (ρ h0 9), .int 0, .int 0, .int 0, .int 0, .int o4_x14, .int o4_x15])) hD (tp_in hG ht_h0 (by decide)) eq25 (fun f26 H locs hP hD hS g28 k27 => ?_))
  have hT := hT.up ht_h0 g28 k27 ⟨_, _, _, _, _, _, _, _, _, _, _, _, _, rfl, (by first | decide | omega | (have : (0 : Int32).toInt = 0 := rfl; have : (0 : Int32).toInt = 0 := rfl; have : (0 : Int32).toInt = 0 := rfl; have : (0 : Int32).toInt = 0 := rfl; have : (0 : Int32).toInt = 0 := rfl; have : (0 : Int32).toInt = 0 := rfl; omega)), (by first | decide | omega | (have : (0 : Int32).toInt = 0 := rfl; have : (0 : Int32).toInt = 0 := rfl; have : (0 : Int32).toInt = 0 := rfl; have : (0 : Int32).toInt = 0 := rfl; have : (0 : Int32).toInt = 0 := rfl; have : (0 : Int32).toInt = 0 := rfl; omega)), (by first | decide | omega | (have : (0 : Int32).toInt = 0 := rfl; have : (0 : Int32).toInt = 0 := rfl; have : (0 : Int32).toInt = 0 := rfl; have : (0 : Int32).toInt = 0 := rfl; have : (0 : Int32).toInt = 0 := rfl; have : (0 : Int32).toInt = 0 := rfl; omega)), (by first | decide | omega | (have : (0 : Int32).toInt = 0 := rfl; have : (0 : Int32).toInt = 0 := rfl; have : (0 : Int32).toInt = 0 := rfl; have : (0 : Int32).toInt = 0 := rfl; have : (0 : Int32).toInt = 0 := rfl; have : (0 : Int32).toInt = 0 := rfl; omega)), (by first | decide | omega | (have : (0 : Int32).toInt = 0 := rfl; have : (0 : Int32).toInt = 0 := rfl; have : (0 : Int32).toInt = 0 := rfl; have : (0 : Int32).toInt = 0 := rfl; have : (0 : Int32).toInt = 0 := rfl; have : (0 : Int32).toInt = 0 := rfl; omega)), (by first | decide | omega | (have : (0 : Int32).toInt = 0 := rfl; have : (0 : Int32).toInt = 0 := rfl; have : (0 : Int32).toInt = 0 := rfl; have : (0 : Int32).toInt = 0 := rfl; have : (0 : Int32).toInt = 0 := rfl; have : (0 : Int32).toInt = 0 := rfl; omega)), (by first | decide | omega | (have : (0 : Int32).toInt = 0 := rfl; have : (0 : Int32).toInt = 0 := rfl; have : (0 : Int32).toInt = 0 := rfl; have : (0 : Int32).toInt = 0 := rfl; have : (0 : Int32).toInt = 0 := rfl; have : (0 : Int32).toInt = 0 := rfl; omega))⟩
  have hH := hH.wt ht_h0 (by decide) k27
  have hB : tp_fld (f26 h0) 12 = 0 := by rw [g28]; show (0 : Int32).toInt = 0; rfl
  refine lv_aload_n hx hb dX2_readTape_30 rfl (lv_at hl 0 rfl) ?_
  refine lv_sipush (v := 2399) hx hb dX2_readTape_31 (by decide) ?_
  refine tpk_pos (tp_in hG ht_h0 (by decide)) g28 (fun q29 eq29 => ?_)
  refine va_put (D := (dC, dI)) (ci := 2) (v := .int 2399) (ty := .int) (C := RX2) (T := TX2) (N := 16) hx hb hts hfX2 tyX2 tyX2_ok nmX2 hown hK hP hD hS q29 eq29 rfl 14 (by decide) (hts (.fieldLink RX2 47 "ColdShips$Reader" "windowTo" "I") wa_801) (fun _ h9 => h9) rfl (tyX2_ok 14 (by decide)) rfl rfl (Nat.le_of_ble_eq_true rfl) dX2_readTape_34 (tp_k (.inr (2, [.ref (ρ h0 0), .int o4_x1, .int o4_x2, .int o4_x3, .int o4_x4, .int 0, .int o4_x6, .ref (ρ h0 7), .int 0, .ref (ρ h0 9), .int 0, .int 0, .int 0, .int 0, .int 2399, .int o4_x15])) hD (tp_in hG ht_h0 (by decide)) eq29 (fun f30 H locs hP hD hS g32 k31 => ?_))
  have hT := hT.up ht_h0 g32 k31 ⟨_, _, _, _, _, _, _, _, _, _, _, _, _, rfl, (by first | decide | omega | (have : (0 : Int32).toInt = 0 := rfl; have : (0 : Int32).toInt = 0 := rfl; have : (0 : Int32).toInt = 0 := rfl; have : (0 : Int32).toInt = 0 := rfl; have : (0 : Int32).toInt = 0 := rfl; have : (0 : Int32).toInt = 0 := rfl; have : (2399 : Int32).toInt = 2399 := rfl; omega)), (by first | decide | omega | (have : (0 : Int32).toInt = 0 := rfl; have : (0 : Int32).toInt = 0 := rfl; have : (0 : Int32).toInt = 0 := rfl; have : (0 : Int32).toInt = 0 := rfl; have : (0 : Int32).toInt = 0 := rfl; have : (0 : Int32).toInt = 0 := rfl; have : (2399 : Int32).toInt = 2399 := rfl; omega)), (by first | decide | omega | (have : (0 : Int32).toInt = 0 := rfl; have : (0 : Int32).toInt = 0 := rfl; have : (0 : Int32).toInt = 0 := rfl; have : (0 : Int32).toInt = 0 := rfl; have : (0 : Int32).toInt = 0 := rfl; have : (0 : Int32).toInt = 0 := rfl; have : (2399 : Int32).toInt = 2399 := rfl; omega)), (by first | decide | omega | (have : (0 : Int32).toInt = 0 := rfl; have : (0 : Int32).toInt = 0 := rfl; have : (0 : Int32).toInt = 0 := rfl; have : (0 : Int32).toInt = 0 := rfl; have : (0 : Int32).toInt = 0 := rfl; have : (0 : Int32).toInt = 0 := rfl; have : (2399 : Int32).toInt = 2399 := rfl; omega)), (by first | decide | omega | (have : (0 : Int32).toInt = 0 := rfl; have : (0 : Int32).toInt = 0 := rfl; have : (0 : Int32).toInt = 0 := rfl; have : (0 : Int32).toInt = 0 := rfl; have : (0 : Int32).toInt = 0 := rfl; have : (0 : Int32).toInt = 0 := rfl; have : (2399 : Int32).toInt = 2399 := rfl; omega)), (by first | decide | omega | (have : (0 : Int32).toInt = 0 := rfl; have : (0 : Int32).toInt = 0 := rfl; have : (0 : Int32).toInt = 0 := rfl; have : (0 : Int32).toInt = 0 := rfl; have : (0 : Int32).toInt = 0 := rfl; have : (0 : Int32).toInt = 0 := rfl; have : (2399 : Int32).toInt = 2399 := rfl; omega)), (by first | decide | omega | (have : (0 : Int32).toInt = 0 := rfl; have : (0 : Int32).toInt = 0 := rfl; have : (0 : Int32).toInt = 0 := rfl; have : (0 : Int32).toInt = 0 := rfl; have : (0 : Int32).toInt = 0 := rfl; have : (0 : Int32).toInt = 0 := rfl; have : (2399 : Int32).toInt = 2399 := rfl; omega))⟩
  have hH := hH.wt ht_h0 (by decide) k31
  have hB : tp_fld (f30 h0) 12 = 0 := by rw [g32]; show (0 : Int32).toInt = 0; rfl
  refine lv_aload_n hx hb dX2_readTape_37 rfl (lv_at hl 0 rfl) ?_
  refine lv_iconst (v := (-1)) hx hb dX2_readTape_38 (by decide) ?_
  refine tpk_pos (tp_in hG ht_h0 (by decide)) g32 (fun q33 eq33 => ?_)
  refine va_put (D := (dC, dI)) (ci := 2) (v := .int (-1)) (ty := .int) (C := RX2) (T := TX2) (N := 16) hx hb hts hfX2 tyX2 tyX2_ok nmX2 hown hK hP hD hS q33 eq33 rfl 15 (by decide) (hts (.fieldLink RX2 50 "ColdShips$Reader" "wantedPlace" "I") wa_802) (fun _ h9 => h9) rfl (tyX2_ok 15 (by decide)) rfl rfl (Nat.le_of_ble_eq_true rfl) dX2_readTape_39 (tp_k (.inr (2, [.ref (ρ h0 0), .int o4_x1, .int o4_x2, .int o4_x3, .int o4_x4, .int 0, .int o4_x6, .ref (ρ h0 7), .int 0, .ref (ρ h0 9), .int 0, .int 0, .int 0, .int 0, .int 2399, .int (-1)])) hD (tp_in hG ht_h0 (by decide)) eq33 (fun f34 H locs hP hD hS g36 k35 => ?_))
  have hT := hT.up ht_h0 g36 k35 ⟨_, _, _, _, _, _, _, _, _, _, _, _, _, rfl, (by first | decide | omega | (have : (0 : Int32).toInt = 0 := rfl; have : (0 : Int32).toInt = 0 := rfl; have : (0 : Int32).toInt = 0 := rfl; have : (0 : Int32).toInt = 0 := rfl; have : (0 : Int32).toInt = 0 := rfl; have : (0 : Int32).toInt = 0 := rfl; have : (2399 : Int32).toInt = 2399 := rfl; have : ((-1) : Int32).toInt = (-1) := rfl; omega)), (by first | decide | omega | (have : (0 : Int32).toInt = 0 := rfl; have : (0 : Int32).toInt = 0 := rfl; have : (0 : Int32).toInt = 0 := rfl; have : (0 : Int32).toInt = 0 := rfl; have : (0 : Int32).toInt = 0 := rfl; have : (0 : Int32).toInt = 0 := rfl; have : (2399 : Int32).toInt = 2399 := rfl; have : ((-1) : Int32).toInt = (-1) := rfl; omega)), (by first | decide | omega | (have : (0 : Int32).toInt = 0 := rfl; have : (0 : Int32).toInt = 0 := rfl; have : (0 : Int32).toInt = 0 := rfl; have : (0 : Int32).toInt = 0 := rfl; have : (0 : Int32).toInt = 0 := rfl; have : (0 : Int32).toInt = 0 := rfl; have : (2399 : Int32).toInt = 2399 := rfl; have : ((-1) : Int32).toInt = (-1) := rfl; omega)), (by first | decide | omega | (have : (0 : Int32).toInt = 0 := rfl; have : (0 : Int32).toInt = 0 := rfl; have : (0 : Int32).toInt = 0 := rfl; have : (0 : Int32).toInt = 0 := rfl; have : (0 : Int32).toInt = 0 := rfl; have : (0 : Int32).toInt = 0 := rfl; have : (2399 : Int32).toInt = 2399 := rfl; have : ((-1) : Int32).toInt = (-1) := rfl; omega)), (by first | decide | omega | (have : (0 : Int32).toInt = 0 := rfl; have : (0 : Int32).toInt = 0 := rfl; have : (0 : Int32).toInt = 0 := rfl; have : (0 : Int32).toInt = 0 := rfl; have : (0 : Int32).toInt = 0 := rfl; have : (0 : Int32).toInt = 0 := rfl; have : (2399 : Int32).toInt = 2399 := rfl; have : ((-1) : Int32).toInt = (-1) := rfl; omega)), (by first | decide | omega | (have : (0 : Int32).toInt = 0 := rfl; have : (0 : Int32).toInt = 0 := rfl; have : (0 : Int32).toInt = 0 := rfl; have : (0 : Int32).toInt = 0 := rfl; have : (0 : Int32).toInt = 0 := rfl; have : (0 : Int32).toInt = 0 := rfl; have : (2399 : Int32).toInt = 2399 := rfl; have : ((-1) : Int32).toInt = (-1) := rfl; omega)), (by first | decide | omega | (have : (0 : Int32).toInt = 0 := rfl; have : (0 : Int32).toInt = 0 := rfl; have : (0 : Int32).toInt = 0 := rfl; have : (0 : Int32).toInt = 0 := rfl; have : (0 : Int32).toInt = 0 := rfl; have : (0 : Int32).toInt = 0 := rfl; have : (2399 : Int32).toInt = 2399 := rfl; have : ((-1) : Int32).toInt = (-1) := rfl; omega))⟩
  have hH := hH.wt ht_h0 (by decide) k35
  have hB : tp_fld (f34 h0) 12 = 0 := by rw [g36]; show (0 : Int32).toInt = 0; rfl
  refine lv_aload_n hx hb dX2_readTape_42 rfl (lv_at hl 0 rfl) ?_
  refine tpk_pos (tp_in hG ht_h0 (by decide)) g36 (fun q37 eq37 => ?_)
  have hFc := tp_fr hD hS hA
  refine va_callv (va_runV (As := []) (rest := []) ⟨hx, hb, hml, hown, hts⟩ (t_X2_advance l dC dI _ Ω κ τ ν ρ L f34 hG hT h0 0 ht_h0 hB) (cwV 0 hts gX2_readTape_X2_advance rfl rfl rfl ⟨rfl, pd_X2_advance⟩ ⟨Nat.le_of_ble_eq_true rfl, Nat.le_of_ble_eq_true rfl⟩) ⟨pz_blind, va_recv hK hP (ci := 2) (q0 := q37) rfl eq37, pz_pre hP hK hD hN⟩ rfl rfl hl.1 rfl (lv_room (Nat.le_of_ble_eq_true rfl)) dX2_readTape_43 ⟨Nat.le_of_ble_eq_true rfl, Nat.le_of_ble_eq_true rfl⟩) hS (fun q _ h => hFc q h) hFc (fun f40 t H1 locs ht hvm hw39 hB hz1 hk1 hS => ?_)
  refine tn_3 hw39 (fun hT hF41 hw39p => ?_); clear hw39
  have hH := hH.pool hF41 (by decide)
  have hP := hB.1; rw [ht] at hP; have hD := tp_ad f40 hD; clear hB hFc hz1 hk1; subst ht; generalize t.heap = H at hP hS ⊢
  have hB := hw39p
  refine lv_aload_n hx hb dX2_readTape_46 rfl (lv_at hl 0 rfl) ?_
  refine tpk_3 hT ht_h0 (fun o42_x1 o42_x2 o42_x3 o42_x4 o42_x5 o42_x6 o42_x8 o42_x10 o42_x11 o42_x12 o42_x13 o42_x14 o42_x15 hf_o42 ro42_0 ro42_1 ro42_2 ro42_3 ro42_4 ro42_5 ro42_6 => ?_)
  have bo42 : o42_x12.toInt = 0 := by have q9 := hB; rw [hf_o42] at q9; exact q9
  refine tpk_pos (tp_in hG ht_h0 (by decide)) hf_o42 (fun q43 eq43 => ?_)
  have hFc := tp_fr hD hS hA
  refine va_calli (va_runV (As := []) (rest := []) ⟨hx, hb, hml, hown, hts⟩ (t_X2_readClauses l dC dI _ Ω κ τ ν ρ L f40 hG hT adK adV zv h0 0 ht_h0 hB (by omega)) (cwV 0 hts gX2_readTape_X2_readClauses rfl rfl rfl ⟨rfl, pd_X2_readClauses⟩ ⟨Nat.le_of_ble_eq_true rfl, Nat.le_of_ble_eq_true rfl⟩) ⟨pw_blindZ, va_recv hK hP (ci := 2) (q0 := q43) rfl eq43, pw_preZ hP hK hD hN hZ hS (tp_fr hD hS hA)⟩ rfl rfl hl.1 rfl (lv_room (Nat.le_of_ble_eq_true rfl)) dX2_readTape_47 ⟨Nat.le_of_ble_eq_true rfl, Nat.le_of_ble_eq_true rfl⟩) hS (fun q _ h => hFc q h) hFc (fun r44 f46 t H1 locs ht hvm hw45 hB hz1 hk1 hS => ?_)
  refine tn_4 hw45 (fun hT hF47 hw45r hw45p => ?_); clear hw45
  have hH := hH.pool hF47 (by decide)
  have hP := hB.1; rw [ht] at hP; have hD := tp_ad f46 hD; clear hB hFc hz1 hk1; subst ht; generalize t.heap = H at hP hS ⊢
  have hB := hw45p
  refine lv_istore_n (lv' := [(1, .int r44), (0, .ref h0)]) hx hb dX2_readTape_50 rfl hl (by decide) rfl (fun ls hl => ?_)
  refine lv_aload_n hx hb dX2_readTape_51 rfl (lv_at hl 1 rfl) ?_
  refine lv_iload_n hx hb dX2_readTape_52 rfl (lv_at hl 0 rfl) ?_
  refine lv_if_eq (tgt := 60) hx hb dX2_readTape_53 (by decide) (fun c48 => ?_) (fun c48 => ?_)
  · have ic48 : r44.toInt = 0 := zi_eq rfl rfl c48
    refine lv_aload_n hx hb dX2_readTape_60 rfl (lv_at hl 1 rfl) ?_
    refine tpk_3 hT ht_h0 (fun o49_x1 o49_x2 o49_x3 o49_x4 o49_x5 o49_x6 o49_x8 o49_x10 o49_x11 o49_x12 o49_x13 o49_x14 o49_x15 hf_o49 ro49_0 ro49_1 ro49_2 ro49_3 ro49_4 ro49_5 ro49_6 => ?_)
    have bo49 : o49_x12.toInt = 0 := by have q9 := hB; rw [hf_o49] at q9; exact q9
    refine tpk_pos (tp_in hG ht_h0 (by decide)) hf_o49 (fun q50 eq50 => ?_)
    refine va_get (D := (dC, dI)) (ci := 2) (v := .int o49_x3) (C := RX2) (T := TX2) (N := 16) hx hb hts hfX2 hown hK hP q50 eq50 rfl 3 (by decide) (hts (.fieldLink RX2 60 "ColdShips$Reader" "place" "I") wa_803) (fun _ h9 => h9) rfl dX2_readTape_61 ?_
    refine va_put (D := (dC, dI)) (ci := 2) (v := .int o49_x3) (ty := .int) (C := RX2) (T := TX2) (N := 16) hx hb hts hfX2 tyX2 tyX2_ok nmX2 hown hK hP hD hS q50 eq50 rfl 2 (by decide) (hts (.fieldLink RX2 15 "ColdShips$Reader" "faultAt" "I") wa_120) (fun _ h9 => h9) rfl (tyX2_ok 2 (by decide)) rfl rfl (Nat.le_of_ble_eq_true rfl) dX2_readTape_64 (tp_k (.inr (2, [.ref (ρ h0 0), .int o49_x1, .int o49_x3, .int o49_x3, .int o49_x4, .int o49_x5, .int o49_x6, .ref (ρ h0 7), .int o49_x8, .ref (ρ h0 9), .int o49_x10, .int o49_x11, .int o49_x12, .int o49_x13, .int o49_x14, .int o49_x15])) hD (tp_in hG ht_h0 (by decide)) eq50 (fun f51 H locs hP hD hS g53 k52 => ?_))
    have hT := hT.up ht_h0 g53 k52 ⟨_, _, _, _, _, _, _, _, _, _, _, _, _, rfl, (by first | decide | omega | (omega)), (by first | decide | omega | (omega)), (by first | decide | omega | (omega)), (by first | decide | omega | (omega)), (by first | decide | omega | (omega)), (by first | decide | omega | (omega)), (by first | decide | omega | (omega))⟩
    have hH := hH.wt ht_h0 (by decide) k52
    have hB : tp_fld (f51 h0) 12 = 0 := by rw [g53]; show (o49_x12 : Int32).toInt = 0; omega
    refine lv_iload_n hx hb dX2_readTape_67 rfl (lv_at hl 0 rfl) ?_
    refine lv_if_ne (tgt := 73) hx hb dX2_readTape_68 (by decide) (fun c54 => ?_) (fun c54 => ?_)
    · have ic54 : r44.toInt ≠ 0 := zi_ne rfl rfl c54
      exfalso; omega
    · have ic54 : r44.toInt = 0 := zi_nef rfl rfl c54
      refine lv_null hx hb dX2_readTape_71 ?_
      refine tp_widen 3 805 (Nat.le_of_ble_eq_true rfl) (Nat.le_of_ble_eq_true rfl) ?_
      exact W.aret (v := .null) hx hb hr (Or.inl ⟨_, rfl⟩) (Or.inl rfl) (fun t ht hW => ⟨⟨none, (τ, ν, ρ, L, f51), rfl, ⟨⟨hG, hT, hH⟩, (Or.inl rfl)⟩, by rw [ht]; exact hP, va_K.moved hW.alike hK, hD⟩, hS.F ht⟩) hS.2.2 dX2_readTape_72
  · have ic48 : r44.toInt ≠ 0 := zi_eqf rfl rfl c48
    refine lv_iconst (v := (-1)) hx hb dX2_readTape_56 (by decide) ?_
    refine lv_goto (tgt := 64) hx hb dX2_readTape_57 (by decide) ?_
    refine tpk_3 hT ht_h0 (fun o55_x1 o55_x2 o55_x3 o55_x4 o55_x5 o55_x6 o55_x8 o55_x10 o55_x11 o55_x12 o55_x13 o55_x14 o55_x15 hf_o55 ro55_0 ro55_1 ro55_2 ro55_3 ro55_4 ro55_5 ro55_6 => ?_)
    have bo55 : o55_x12.toInt = 0 := by have q9 := hB; rw [hf_o55] at q9; exact q9
    refine tpk_pos (tp_in hG ht_h0 (by decide)) hf_o55 (fun q56 eq56 => ?_)
    refine va_put (D := (dC, dI)) (ci := 2) (v := .int (-1)) (ty := .int) (C := RX2) (T := TX2) (N := 16) hx hb hts hfX2 tyX2 tyX2_ok nmX2 hown hK hP hD hS q56 eq56 rfl 2 (by decide) (hts (.fieldLink RX2 15 "ColdShips$Reader" "faultAt" "I") wa_120) (fun _ h9 => h9) rfl (tyX2_ok 2 (by decide)) rfl rfl (Nat.le_of_ble_eq_true rfl) dX2_readTape_64 (tp_k (.inr (2, [.ref (ρ h0 0), .int o55_x1, .int (-1), .int o55_x3, .int o55_x4, .int o55_x5, .int o55_x6, .ref (ρ h0 7), .int o55_x8, .ref (ρ h0 9), .int o55_x10, .int o55_x11, .int o55_x12, .int o55_x13, .int o55_x14, .int o55_x15])) hD (tp_in hG ht_h0 (by decide)) eq56 (fun f57 H locs hP hD hS g59 k58 => ?_))
    have hT := hT.up ht_h0 g59 k58 ⟨_, _, _, _, _, _, _, _, _, _, _, _, _, rfl, (by first | decide | omega | (have : ((-1) : Int32).toInt = (-1) := rfl; omega)), (by first | decide | omega | (have : ((-1) : Int32).toInt = (-1) := rfl; omega)), (by first | decide | omega | (have : ((-1) : Int32).toInt = (-1) := rfl; omega)), (by first | decide | omega | (have : ((-1) : Int32).toInt = (-1) := rfl; omega)), (by first | decide | omega | (have : ((-1) : Int32).toInt = (-1) := rfl; omega)), (by first | decide | omega | (have : ((-1) : Int32).toInt = (-1) := rfl; omega)), (by first | decide | omega | (have : ((-1) : Int32).toInt = (-1) := rfl; omega))⟩
    have hH := hH.wt ht_h0 (by decide) k58
    have hB : tp_fld (f57 h0) 12 = 0 := by rw [g59]; show (o55_x12 : Int32).toInt = 0; omega
    refine lv_iload_n hx hb dX2_readTape_67 rfl (lv_at hl 0 rfl) ?_
    refine lv_if_ne (tgt := 73) hx hb dX2_readTape_68 (by decide) (fun c60 => ?_) (fun c60 => ?_)
    · have ic60 : r44.toInt ≠ 0 := zi_ne rfl rfl c60
      refine lv_aload_n hx hb dX2_readTape_73 rfl (lv_at hl 1 rfl) ?_
      refine tpk_pos (tp_in hG ht_h0 (by decide)) g59 (fun q61 eq61 => ?_)
      refine va_get (D := (dC, dI)) (ci := 2) (v := .ref (ρ h0 9)) (C := RX2) (T := TX2) (N := 16) hx hb hts hfX2 hown hK hP q61 eq61 rfl 9 (by decide) (hts (.fieldLink RX2 23 "ColdShips$Reader" "starts" "[I") wa_122) (fun _ h9 => h9) rfl dX2_readTape_74 ?_
      refine lv_aload_n hx hb dX2_readTape_77 rfl (lv_at hl 1 rfl) ?_
      refine va_get (D := (dC, dI)) (ci := 2) (v := .int o55_x10) (C := RX2) (T := TX2) (N := 16) hx hb hts hfX2 hown hK hP q61 eq61 rfl 10 (by decide) (hts (.fieldLink RX2 35 "ColdShips$Reader" "sums" "I") wa_797) (fun _ h9 => h9) rfl dX2_readTape_78 ?_
      refine lv_aload_n hx hb dX2_readTape_81 rfl (lv_at hl 1 rfl) ?_
      refine va_get (D := (dC, dI)) (ci := 2) (v := .int o55_x8) (C := RX2) (T := TX2) (N := 16) hx hb hts hfX2 hown hK hP q61 eq61 rfl 8 (by decide) (hts (.fieldLink RX2 32 "ColdShips$Reader" "cells" "I") wa_796) (fun _ h9 => h9) rfl dX2_readTape_82 ?_
      refine tpk_20 hT y3 y3n (fun g63 hf_o62 => ?_)
      refine tpk_pos (tp_in hG y3 (by decide)) hf_o62 (fun q64 eq64 => ?_)
      refine va_iast hx hb hK hP hD hS q64 0 eq64 rfl (vp_in_iff.mpr ⟨by omega, by omega⟩) dX2_readTape_85 (tp_k (.inl (κ 0, 13, .inl (upd g63 o55_x10.toNatClampNeg o55_x8))) hD (tp_in hG y3 (by decide)) eq64 (fun f65 H locs hP hD hS g67 k66 => ?_))
      have hT := hT.up y3 g67 k66 (tp_o20 y3n)
      have hH := hH.wt y3 (by decide) k66
      have hB : tp_fld (f65 h0) 12 = 0 := by rw [k66 _ (tp_ne ht_h0 y3 (by decide))]; exact hB
      generalize (upd g63 o55_x10.toNatClampNeg o55_x8) = g68 at g67
      refine va_new (ci := 0) (fs := [.null, .null, .int 0, .int 0, .int 0]) (C := RX0) (T := TX0) (N := 5) hx hb hts hfX0 tyX0 tyX0_ok hown (hts (.classLink RX2 63 RX0) wa_804) (hts (.instantiable RX0 5) wa_805) (hts (.initialized RX0) wa_806) hK hP hD hS hA rfl (fun j hj => by rcases tpj_5 j hj with rfl | rfl | rfl | rfl | rfl <;> rfl) (Nat.le_of_ble_eq_true rfl) (Nat.le_of_ble_eq_true rfl) dX2_readTape_86 (fun q69 H hP hD hS => ?_)
      refine Exists.elim (tp_grow hG hT hP hD) (fun L79 hE90 => Exists.elim hE90 (fun f78 hE91 => tn_10 hE91 (fun hP hD hg70 ht71 hs72 hq73 hz74 hn75 hf76 ho77 => ?_)))
      clear hE91 hE90
      have hn80 : ∀ a, a ∈ L → a ≠ q69 := fun a ha => hn75 a (hH.1 a ha)
      have ne81 : h0 ≠ q69 := hn75 _ (tp_in hG ht_h0 (by decide))
      have hG := hg70
      have hT := ht71
      have hH := hH.gr hs72 hn75 ho77
      refine lv_dup hx hb dX2_readTape_89 rfl ?_
      refine lv_aload_n hx hb dX2_readTape_90 rfl (lv_at hl 1 rfl) ?_
      refine tgk_3 hG ht_h0 (fun y82 y82n y83 y83n y84 y84n => ?_)
      refine tpk_3 hT ht_h0 (fun o85_x1 o85_x2 o85_x3 o85_x4 o85_x5 o85_x6 o85_x8 o85_x10 o85_x11 o85_x12 o85_x13 o85_x14 o85_x15 hf_o85 ro85_0 ro85_1 ro85_2 ro85_3 ro85_4 ro85_5 ro85_6 => ?_)
      refine tpk_pos (tp_in hG ht_h0 (by decide)) hf_o85 (fun q86 eq86 => ?_)
      refine va_get (D := (dC, dI)) (ci := 2) (v := .ref (ρ h0 7)) (C := RX2) (T := TX2) (N := 16) hx hb hts hfX2 hown hK hP q86 eq86 rfl 7 (by decide) (hts (.fieldLink RX2 19 "ColdShips$Reader" "code" "[I") wa_121) (fun _ h9 => h9) rfl dX2_readTape_91 ?_
      refine lv_aload_n hx hb dX2_readTape_94 rfl (lv_at hl 1 rfl) ?_
      refine va_get (D := (dC, dI)) (ci := 2) (v := .int o85_x8) (C := RX2) (T := TX2) (N := 16) hx hb hts hfX2 hown hK hP q86 eq86 rfl 8 (by decide) (hts (.fieldLink RX2 32 "ColdShips$Reader" "cells" "I") wa_796) (fun _ h9 => h9) rfl dX2_readTape_95 ?_
      obtain ⟨b87, eb87⟩ : ∃ b : Nat, b = (ρ h0 7) := ⟨_, rfl⟩
      have tb87 : τ b87 = 28 := by rw [eb87]; exact y83
      rw [← eb87]
      have hFc := tp_fr hD hS hA
      refine va_callq (va_runS (As := [.ref b87, .int o85_x8]) (rest := [.ref q69, .ref q69]) ⟨hx, hb, hml, hown, hts⟩ (t_J7_copyOf_28 l dC dI _ Ω κ τ ν ρ L79 f78 hG hT b87 o85_x8 tb87 (by first | decide | omega) (by rw [eb87]; omega)) (va_cwS 2 hts gX2_readTape_J7_copyOf_59c91 rfl rfl rfl pd_J7_copyOf_59c91 ⟨Nat.le_of_ble_eq_true rfl, Nat.le_of_ble_eq_true rfl⟩) ⟨pz_blind, pz_pre hP hK hD hN⟩ rfl rfl hl.1 rfl (lv_room (Nat.le_of_ble_eq_true rfl)) dX2_readTape_98 ⟨Nat.le_of_ble_eq_true rfl, Nat.le_of_ble_eq_true rfl⟩) hS (fun q _ h => hFc q h) hFc (fun r89 x88 t H1 locs ht hvm hw90 hB hz1 hk1 hS => ?_)
      obtain ⟨τ_92, ν_92, ρ_92, L_92, f91⟩ := x88
      obtain ⟨⟨hG9, hT9, hH9⟩, hw90p⟩ := hw90
      have hc93 := hH9.2 _ (tp_in hG ht_h0 (by decide)) (fun z => by cases z)
      have hc94 := hH9.2 _ (tp_in hG tb87 (by decide)) (fun z => by cases z)
      have hc95 := hH9.2 _ hq73 (fun z => by cases z)
      have hf96 : f91 q69 = .inr (0, [.null, .null, .int 0, .int 0, .int 0]) := (hc95.2.2.2 (by rw [hz74]; decide)).trans hf76
      have hl97 := hH9.1 _ hq73
      have hH := hH.call hH9 (by decide) (fun a _ _ z => by cases z)
      have hG : tp_G τ_92 ν_92 ρ_92 L_92 := hG9; have hT : tp_T Ω κ τ_92 ν_92 ρ_92 f91 := hT9
      have hH : tp_H τ ν ρ L f [3, 20, 28] none τ_92 ν_92 ρ_92 L_92 f91 := hH
      have hP := hB.1; rw [ht] at hP; have hD := tp_Dw hB.2.2 hFc; clear hB hFc hz1 hk1; subst ht; generalize t.heap = H at hP hS ⊢
      have hP : va_P (dC, dI) vwCl (va_pl L_92 f91) H := hP
      have hD : va_D A (va_pl L_92 f91) := hD
      have ht98 : τ_92 h0 = 3 := hc93.1.trans ht_h0
      have ht99 : τ_92 b87 = 28 := hc94.1.trans tb87
      have hz100 : τ_92 q69 = 0 := hc95.1.trans hz74
      clear ht_h0 tb87 hz74 hc93 hc94 hc95 hG9 hT9 hH9
      obtain ⟨b101, h102, h102t, h102n⟩ := hw90p
      rw [h102]
      show W _ _ _ _ _ _ _ _ _ _ _ _ _ _ _ (F0 m 101 ls (.ref b101 :: [.ref q69, .ref q69]))
      have h102t : τ_92 b101 = 28 := h102t; have h102n : ν_92 b101 = o85_x8.toNatClampNeg := h102n
      refine lv_aload_n hx hb dX2_readTape_101 rfl (lv_at hl 1 rfl) ?_
      refine tgk_3 hG ht98 (fun y103 y103n y104 y104n y105 y105n => ?_)
      refine tpk_3 hT ht98 (fun o106_x1 o106_x2 o106_x3 o106_x4 o106_x5 o106_x6 o106_x8 o106_x10 o106_x11 o106_x12 o106_x13 o106_x14 o106_x15 hf_o106 ro106_0 ro106_1 ro106_2 ro106_3 ro106_4 ro106_5 ro106_6 => ?_)
      refine tpk_pos (tp_in hG ht98 (by decide)) hf_o106 (fun q107 eq107 => ?_)
      refine va_get (D := (dC, dI)) (ci := 2) (v := .ref (ρ_92 h0 9)) (C := RX2) (T := TX2) (N := 16) hx hb hts hfX2 hown hK hP q107 eq107 rfl 9 (by decide) (hts (.fieldLink RX2 23 "ColdShips$Reader" "starts" "[I") wa_122) (fun _ h9 => h9) rfl dX2_readTape_102 ?_
      refine lv_aload_n hx hb dX2_readTape_105 rfl (lv_at hl 1 rfl) ?_
      refine va_get (D := (dC, dI)) (ci := 2) (v := .int o106_x10) (C := RX2) (T := TX2) (N := 16) hx hb hts hfX2 hown hK hP q107 eq107 rfl 10 (by decide) (hts (.fieldLink RX2 35 "ColdShips$Reader" "sums" "I") wa_797) (fun _ h9 => h9) rfl dX2_readTape_106 ?_
      refine lv_iconst (v := 1) hx hb dX2_readTape_109 (by decide) ?_
      refine lv_iadd hx hb dX2_readTape_110 ?_
      refine lv_topi (fun z108 ez108 => ?_)
      have iz108 : z108.toInt = o106_x10.toInt + 1 := zi_add ez108 rfl rfl (by omega) (by omega)
      obtain ⟨b109, eb109⟩ : ∃ b : Nat, b = (ρ_92 h0 9) := ⟨_, rfl⟩
      have tb109 : τ_92 b109 = 20 := by rw [eb109]; exact y105
      rw [← eb109]
      have hFc := tp_fr hD hS hA
      refine va_callq (va_runS (As := [.ref b109, .int z108]) (rest := [.ref b101, .ref q69, .ref q69]) ⟨hx, hb, hml, hown, hts⟩ (t_J7_copyOf_20 l dC dI _ Ω κ τ_92 ν_92 ρ_92 L_92 f91 hG hT b109 z108 tb109 (by first | decide | omega) (by rw [eb109]; omega)) (va_cwS 2 hts gX2_readTape_J7_copyOf_59c91 rfl rfl rfl pd_J7_copyOf_59c91 ⟨Nat.le_of_ble_eq_true rfl, Nat.le_of_ble_eq_true rfl⟩) ⟨pz_blind, pz_pre hP hK hD hN⟩ rfl rfl hl.1 rfl (lv_room (Nat.le_of_ble_eq_true rfl)) dX2_readTape_111 ⟨Nat.le_of_ble_eq_true rfl, Nat.le_of_ble_eq_true rfl⟩) hS (fun q _ h => hFc q h) hFc (fun r111 x110 t H1 locs ht hvm hw112 hB hz1 hk1 hS => ?_)
      obtain ⟨τ_114, ν_114, ρ_114, L_114, f113⟩ := x110
      obtain ⟨⟨hG9, hT9, hH9⟩, hw112p⟩ := hw112
      have hc115 := hH9.2 _ (tp_in hG ht98 (by decide)) (fun z => by cases z)
      have hc116 := hH9.2 _ (tp_in hG ht99 (by decide)) (fun z => by cases z)
      have hc117 := hH9.2 _ (tp_in hG h102t (by decide)) (fun z => by cases z)
      have hc118 := hH9.2 _ (tp_in hG tb109 (by decide)) (fun z => by cases z)
      have hc119 := hH9.2 _ hl97 (fun z => by cases z)
      have hf120 : f113 q69 = .inr (0, [.null, .null, .int 0, .int 0, .int 0]) := (hc119.2.2.2 (by rw [hz100]; decide)).trans hf96
      have hl121 := hH9.1 _ hl97
      have hH := hH.call hH9 (by decide) (fun a _ _ z => by cases z)
      have hG : tp_G τ_114 ν_114 ρ_114 L_114 := hG9; have hT : tp_T Ω κ τ_114 ν_114 ρ_114 f113 := hT9
      have hH : tp_H τ ν ρ L f [3, 20, 28] none τ_114 ν_114 ρ_114 L_114 f113 := hH
      have hP := hB.1; rw [ht] at hP; have hD := tp_Dw hB.2.2 hFc; clear hB hFc hz1 hk1; subst ht; generalize t.heap = H at hP hS ⊢
      have hP : va_P (dC, dI) vwCl (va_pl L_114 f113) H := hP
      have hD : va_D A (va_pl L_114 f113) := hD
      have ht122 : τ_114 h0 = 3 := hc115.1.trans ht98
      have ht123 : τ_114 b87 = 28 := hc116.1.trans ht99
      have ht124 : τ_114 b101 = 28 := hc117.1.trans h102t
      have hn125 : ν_114 b101 = o85_x8.toNatClampNeg := hc117.2.1.trans h102n
      have ht126 : τ_114 b109 = 20 := hc118.1.trans tb109
      have hz127 : τ_114 q69 = 0 := hc119.1.trans hz100
      clear ht98 ht99 h102t h102n tb109 hz100 hc115 hc116 hc117 hc118 hc119 hG9 hT9 hH9
      obtain ⟨b128, h129, h129t, h129n⟩ := hw112p
      rw [h129]
      show W _ _ _ _ _ _ _ _ _ _ _ _ _ _ _ (F0 m 114 ls (.ref b128 :: [.ref b101, .ref q69, .ref q69]))
      have h129t : τ_114 b128 = 20 := h129t; have h129n : ν_114 b128 = z108.toNatClampNeg := h129n
      refine lv_aload_n hx hb dX2_readTape_114 rfl (lv_at hl 1 rfl) ?_
      refine tgk_3 hG ht122 (fun y130 y130n y131 y131n y132 y132n => ?_)
      refine tpk_3 hT ht122 (fun o133_x1 o133_x2 o133_x3 o133_x4 o133_x5 o133_x6 o133_x8 o133_x10 o133_x11 o133_x12 o133_x13 o133_x14 o133_x15 hf_o133 ro133_0 ro133_1 ro133_2 ro133_3 ro133_4 ro133_5 ro133_6 => ?_)
      refine tpk_pos (tp_in hG ht122 (by decide)) hf_o133 (fun q134 eq134 => ?_)
      refine va_get (D := (dC, dI)) (ci := 2) (v := .int o133_x13) (C := RX2) (T := TX2) (N := 16) hx hb hts hfX2 hown hK hP q134 eq134 rfl 13 (by decide) (hts (.fieldLink RX2 44 "ColdShips$Reader" "windowFrom" "I") wa_800) (fun _ h9 => h9) rfl dX2_readTape_115 ?_
      refine lv_aload_n hx hb dX2_readTape_118 rfl (lv_at hl 1 rfl) ?_
      refine va_get (D := (dC, dI)) (ci := 2) (v := .int o133_x14) (C := RX2) (T := TX2) (N := 16) hx hb hts hfX2 hown hK hP q134 eq134 rfl 14 (by decide) (hts (.fieldLink RX2 47 "ColdShips$Reader" "windowTo" "I") wa_801) (fun _ h9 => h9) rfl dX2_readTape_119 ?_
      refine lv_aload_n hx hb dX2_readTape_122 rfl (lv_at hl 1 rfl) ?_
      refine va_get (D := (dC, dI)) (ci := 2) (v := .int o133_x15) (C := RX2) (T := TX2) (N := 16) hx hb hts hfX2 hown hK hP q134 eq134 rfl 15 (by decide) (hts (.fieldLink RX2 50 "ColdShips$Reader" "wantedPlace" "I") wa_802) (fun _ h9 => h9) rfl dX2_readTape_123 ?_
      have := zi_cn o85_x8
      have := zi_cn z108
      have hFc := tp_fr hD hS hA
      refine va_callv (va_runI (As := [.ref b101, .ref b128, .int o133_x13, .int o133_x14, .int o133_x15]) (rest := [.ref q69]) ⟨hx, hb, hml, hown, hts⟩ (t_X0_init l dC dI _ Ω κ τ_114 ν_114 ρ_114 L_114 f113 hG hT q69 b101 b128 o133_x13 o133_x14 o133_x15 hl121 hz127 hf120 ht124 h129t (by first | omega | (omega))) (cwI 5 hts ggX2_readTape_X0_init rfl rfl rfl (hts (.initialized RX0) wa_806) (hts (.methodLink RX2 71 yX0_init) wa_970) (hts (.instanceMethod yX0_init) wa_971) rfl pd_X0_init ⟨Nat.le_of_ble_eq_true rfl, Nat.le_of_ble_eq_true rfl⟩) ⟨pz_blind, pz_pre hP hK hD hN⟩ rfl rfl hl.1 rfl (lv_room (Nat.le_of_ble_eq_true rfl)) dX2_readTape_126 ⟨Nat.le_of_ble_eq_true rfl, Nat.le_of_ble_eq_true rfl⟩) hS (fun q _ h => hFc q h) hFc (fun x135 t H1 locs ht hvm hw137 hB hz1 hk1 hS => ?_)
      obtain ⟨τ_139, ν_139, ρ_139, L_139, f138⟩ := x135
      obtain ⟨⟨hG9, hT9, hH9⟩, hw137p⟩ := hw137
      have hc140 := hH9.2 _ (tp_in hG ht122 (by decide)) (fun z => ne81 (Option.some.inj z))
      have hc141 := hH9.2 _ (tp_in hG ht123 (by decide)) (fun z => (Ne.symm (tp_ne0 hz127 ht123 (by decide))) (Option.some.inj z))
      have hc142 := hH9.2 _ (tp_in hG ht124 (by decide)) (fun z => (Ne.symm (tp_ne0 hz127 ht124 (by decide))) (Option.some.inj z))
      have hc143 := hH9.2 _ (tp_in hG ht126 (by decide)) (fun z => (Ne.symm (tp_ne0 hz127 ht126 (by decide))) (Option.some.inj z))
      have hc144 := hH9.2 _ (tp_in hG h129t (by decide)) (fun z => (Ne.symm (tp_ne0 hz127 h129t (by decide))) (Option.some.inj z))
      have hH := hH.call hH9 (by decide) (fun a ha _ z => hn80 a ha (Option.some.inj z))
      have hG : tp_G τ_139 ν_139 ρ_139 L_139 := hG9; have hT : tp_T Ω κ τ_139 ν_139 ρ_139 f138 := hT9
      have hH : tp_H τ ν ρ L f [3, 20, 28] none τ_139 ν_139 ρ_139 L_139 f138 := hH
      have hP := hB.1; rw [ht] at hP; have hD := tp_Dw hB.2.2 hFc; clear hB hFc hz1 hk1; subst ht; generalize t.heap = H at hP hS ⊢
      have hP : va_P (dC, dI) vwCl (va_pl L_139 f138) H := hP
      have hD : va_D A (va_pl L_139 f138) := hD
      have ht145 : τ_139 h0 = 3 := hc140.1.trans ht122
      have ht146 : τ_139 b87 = 28 := hc141.1.trans ht123
      have ht147 : τ_139 b101 = 28 := hc142.1.trans ht124
      have hn148 : ν_139 b101 = o85_x8.toNatClampNeg := hc142.2.1.trans hn125
      have ht149 : τ_139 b109 = 20 := hc143.1.trans ht126
      have ht150 : τ_139 b128 = 20 := hc144.1.trans h129t
      have hn151 : ν_139 b128 = z108.toNatClampNeg := hc144.2.1.trans h129n
      clear ht122 ht123 ht124 hn125 ht126 h129t h129n ne81 hc140 hc141 hc142 hc143 hc144 hG9 hT9 hH9
      have ht152 : τ_139 q69 = 1 := hw137p
      refine tp_widen 3 805 (Nat.le_of_ble_eq_true rfl) (Nat.le_of_ble_eq_true rfl) ?_
      exact W.aret (v := .ref q69) hx hb hr (Or.inl ⟨_, rfl⟩) (Or.inr ⟨_, rfl⟩) (fun t ht hW => ⟨⟨some q69, (τ_139, ν_139, ρ_139, L_139, f138), rfl, ⟨⟨hG, hT, hH⟩, (Or.inr ⟨q69, rfl, ht152⟩)⟩, by rw [ht]; exact hP, va_K.moved hW.alike hK, hD⟩, hS.F ht⟩) hS.2.2 dX2_readTape_129
    · have ic60 : r44.toInt = 0 := zi_nef rfl rfl c60
      exfalso; omega
set_option maxHeartbeats 4000000 in
set_option maxRecDepth 100000 in
theorem t_X11_contract (l : Launch) (dC : Nat → ClassId) (dI : Nat → Nat → Nat) (sz : Nat) (Ω : Nat → (Nat → Nat) → va_E → Prop) (κ : Nat → ClassId) (τ ν : Nat → Nat) (ρ : Nat → Nat → Nat) (L : List Nat) (f : Nat → va_E) (hG : tp_G τ ν ρ L) (hT : tp_T Ω κ τ ν ρ f) (adK adV : Nat → Nat) (zv : Option Nat) (h0 : Nat) (ht_h0 : τ h0 = 12) : Met l yX11_contract wqX11_contract ({ frames := 84, cells := 3, slots := 805, locals := 33200 }) (va_Pc [.ref h0] (pw_BZ dC dI (tp_K κ) (va_pl L f) sz adK adV zv)) (va_Qi (fun (r : Int32) (x : tp_S) => tp_PX Ω κ τ ν ρ L f [2, 3, 4, 5, 6, 7, 8, 9, 10, 11, 12, 20, 21, 22, 26, 27, 28] none x ∧ True) (fun (x : tp_S) (t : State) => pz_E dC dI (tp_K κ) (va_A (va_pl L f) sz) (va_pl x.2.2.2.1 x.2.2.2.2) t) (va_A (va_pl L f) sz)) 3 805 (va_A (va_pl L f) sz) := by
  refine Met.ofW (cc := cX11_contract) (maxL := 4) (ret := some .int) (by decide) rfl ?_
  intro p e s m args below meth c s₁ B hml hv
  obtain ⟨rfl, ⟨hsz, hP, hK, hD0, hN⟩, hZ⟩ := hv
  have hx := B.exec
  have hb := B.bytes
  have hr := B.returns
  have hts := fun (w : Cond) (h : w ∈ WALL) => atoms_spec (ws := wqX11_contract) B.pre w (List.mem_cons_of_mem _ h)
  have hown : s.vm.findClass RX11 = some m.cls := findClass_of_methodNamed B.named
  have hlocks := B.notSynchronized
  subst hsz
  have hD := hD0.self (sz := s.heap.size)
  generalize hAe : va_A (va_pl L f) s.heap.size = A at hD hZ ⊢
  have hA : ∀ q : Nat, s.heap.size ≤ q → A q := fun q h => by rw [← hAe]; exact Or.inr h
  have hS : va_S A s.heap s.heap [] := va_S.rf
  have hH : tp_H τ ν ρ L f [2, 3, 4, 5, 6, 7, 8, 9, 10, 11, 12, 20, 21, 22, 26, 27, 28] none τ ν ρ L f := tp_H.rf
  have hl := lv_entry ([.ref h0]) (n := 4) (Nat.le_of_ble_eq_true rfl)
  rw [lg_entry_eq]
  generalize (lg_sl ([.ref h0]) ++ List.replicate (4 - (lg_sl ([.ref h0])).length) Slot.unset).toArray = ls at hl ⊢
  have hl : lv_has ls 4 [(0, .ref h0)] := hl
  refine lv_aload_n hx hb dX11_contract_0 rfl (lv_at hl 0 rfl) ?_
  refine tgk_12 hG ht_h0 (fun y1 y2 y3 y4 y5 y6 => ?_)
  refine tpk_12 hT ht_h0 (fun o7_x6 hf_o7 => ?_)
  refine tpk_pos (tp_in hG ht_h0 (by decide)) hf_o7 (fun q8 eq8 => ?_)
  refine va_get (D := (dC, dI)) (ci := 11) (v := .ref (ρ h0 0)) (C := RX11) (T := TX11) (N := 7) hx hb hts hfX11 hown hK hP q8 eq8 rfl 0 (by decide) (hts (.fieldLink RX11 10 "ColdShips" "world" "LColdShips$World;") wa_15) (fun _ h9 => h9) rfl dX11_contract_1 ?_
  refine tgk_11 hG y1 (fun y9 y9n y10 y10n y11 y12 y13 y14 y15 y16 y17 y17w y17m y18 y18w y18m y19 y19w y19m y20 y20w y20m => ?_)
  refine tpk_11 hT y1 (fun o21_x0 o21_x1 o21_x2 o21_x3 o21_x4 o21_x5 o21_x6 hf_o21 ro21_0 ro21_1 ro21_2 ro21_3 => ?_)
  refine tpk_pos (tp_in hG y1 (by decide)) hf_o21 (fun q22 eq22 => ?_)
  refine va_getN (D := (dC, dI)) (ci := 10) (v := .int o21_x6) (C := RX10) (T := TX10) (N := 19) hx hb hts hfX10 hown hK hP q22 eq22 rfl 6 (by decide) (va_Nw.use rfl (hN.1 (.fieldLinkNest RX11 261 "ColdShips$World" "contractCount" "I" "ColdShips") nzw_60)) (fun _ h9 => h9) rfl dX11_contract_4 ?_
  refine lv_bipush (v := 12) hx hb dX11_contract_7 (by decide) ?_
  refine lv_icmp_ge (tgt := 16) hx hb dX11_contract_9 (by decide) (fun c23 => ?_) (fun c23 => ?_)
  · have ic23 : o21_x6.toInt ≥ 12 := zi_ge rfl rfl c23
    refine lv_iconst (v := 0) hx hb dX11_contract_16 (by decide) ?_
    refine lv_istore_n (lv' := [(1, .int 0), (0, .ref h0)]) hx hb dX11_contract_17 rfl hl (by decide) rfl (fun ls hl => ?_)
    refine lv_iload_n hx hb dX11_contract_18 rfl (lv_at hl 0 rfl) ?_
    refine lv_if_eq (tgt := 32) hx hb dX11_contract_19 (by decide) (fun _ => ?_) (fun c9 => absurd c9 (by decide))
    refine lv_null hx hb dX11_contract_32 ?_
    refine lv_astore_nN (lv' := [(2, .null), (1, .int 0), (0, .ref h0)]) hx hb dX11_contract_33 rfl hl (by decide) rfl (fun ls hl => ?_)
    refine lv_aload_n hx hb dX11_contract_34 rfl (lv_at hl 2 rfl) ?_
    refine va_get (D := (dC, dI)) (ci := 11) (v := .ref (ρ h0 3)) (C := RX11) (T := TX11) (N := 7) hx hb hts hfX11 hown hK hP q8 eq8 rfl 3 (by decide) (hts (.fieldLink RX11 32 "ColdShips" "reader" "LColdShips$Reader;") wa_24) (fun _ h9 => h9) rfl dX11_contract_35 ?_
    refine tgk_3 hG y4 (fun y24 y24n y25 y25n y26 y26n => ?_)
    refine tpk_3 hT y4 (fun o27_x1 o27_x2 o27_x3 o27_x4 o27_x5 o27_x6 o27_x8 o27_x10 o27_x11 o27_x12 o27_x13 o27_x14 o27_x15 hf_o27 ro27_0 ro27_1 ro27_2 ro27_3 ro27_4 ro27_5 ro27_6 => ?_)
    refine tpk_pos (tp_in hG y4 (by decide)) hf_o27 (fun q28 eq28 => ?_)
    have hFc := tp_fr hD hS hA
    refine va_callv (va_runV (As := []) (rest := []) ⟨hx, hb, hml, hown, hts⟩ (t_X2_emptyTape l dC dI _ Ω κ τ ν ρ L f hG hT (ρ h0 3) y4) (cwV 0 hts gX11_contract_X2_emptyTape rfl rfl rfl ⟨rfl, pd_X2_emptyTape⟩ ⟨Nat.le_of_ble_eq_true rfl, Nat.le_of_ble_eq_true rfl⟩) ⟨pz_blind, va_recv hK hP (ci := 2) (q0 := q28) rfl eq28, pz_pre hP hK hD hN⟩ rfl rfl hl.1 rfl (lv_room (Nat.le_of_ble_eq_true rfl)) dX11_contract_38 ⟨Nat.le_of_ble_eq_true rfl, Nat.le_of_ble_eq_true rfl⟩) hS (fun q _ h => hFc q h) hFc (fun f31 t H1 locs ht hvm hw30 hB hz1 hk1 hS => ?_)
    refine tn_3 hw30 (fun hT hF32 hw30p => ?_); clear hw30
    have hH := hH.pool hF32 (by decide)
    have hP := hB.1; rw [ht] at hP; have hD := tp_ad f31 hD; clear hB hFc hz1 hk1; subst ht; generalize t.heap = H at hP hS ⊢
    refine lv_aload_nN hx hb dX11_contract_41 rfl (lv_at hl 0 rfl) ?_
    refine lv_ifnonnullN hx hb dX11_contract_42 ?_
    refine lv_aload_n hx hb dX11_contract_45 rfl (lv_at hl 2 rfl) ?_
    refine lv_iload_n hx hb dX11_contract_46 rfl (lv_at hl 1 rfl) ?_
    refine lv_if_eq (tgt := 55) hx hb dX11_contract_47 (by decide) (fun _ => ?_) (fun c9 => absurd c9 (by decide))
    refine lv_bipush (v := (-5)) hx hb dX11_contract_55 (by decide) ?_
    have hf_33 : f31 h0 = .inr (11, [.ref (ρ h0 0), .ref (ρ h0 1), .ref (ρ h0 2), .ref (ρ h0 3), .ref (ρ h0 4), .ref (ρ h0 5), .int o7_x6]) := (hF32 _ (by rw [ht_h0]; decide)).trans hf_o7
    refine tpk_pos (tp_in hG ht_h0 (by decide)) hf_33 (fun q34 eq34 => ?_)
    have hFc := tp_fr hD hS hA
    refine va_calli (va_runV (As := [.int (-5)]) (rest := []) ⟨hx, hb, hml, hown, hts⟩ (t_X11_refuse l dC dI _ Ω κ τ ν ρ L f31 hG hT h0 ((-5)) ht_h0) (cwV 1 hts gX11_contract_X11_refuse rfl rfl rfl ⟨rfl, pd_X11_refuse⟩ ⟨Nat.le_of_ble_eq_true rfl, Nat.le_of_ble_eq_true rfl⟩) ⟨pz_blind, va_recv hK hP (ci := 11) (q0 := q34) rfl eq34, pz_pre hP hK hD hN⟩ rfl rfl hl.1 rfl (lv_room (Nat.le_of_ble_eq_true rfl)) dX11_contract_57 ⟨Nat.le_of_ble_eq_true rfl, Nat.le_of_ble_eq_true rfl⟩) hS (fun q _ h => hFc q h) hFc (fun r35 f37 t H1 locs ht hvm hw36 hB hz1 hk1 hS => ?_)
    refine tn_4 hw36 (fun hT hF38 hw36r hw36p => ?_); clear hw36
    have hH := hH.pool hF38 (by decide)
    have hP := hB.1; rw [ht] at hP; have hD := tp_ad f37 hD; clear hB hFc hz1 hk1; subst ht; generalize t.heap = H at hP hS ⊢
    refine tp_widen 3 805 (Nat.le_of_ble_eq_true rfl) (Nat.le_of_ble_eq_true rfl) ?_
    exact W.iret (v := r35) hx hb hr (fun t ht hW => ⟨⟨r35, (τ, ν, ρ, L, f37), rfl, ⟨⟨hG, hT, hH⟩, trivial⟩, by rw [ht]; exact hP, va_K.moved hW.alike hK, hD⟩, hS.F ht⟩) hS.2.2 dX11_contract_60
  · have ic23 : o21_x6.toInt < 12 := zi_gef rfl rfl c23
    refine lv_iconst (v := 1) hx hb dX11_contract_12 (by decide) ?_
    refine lv_goto (tgt := 17) hx hb dX11_contract_13 (by decide) ?_
    refine lv_istore_n (lv' := [(1, .int 1), (0, .ref h0)]) hx hb dX11_contract_17 rfl hl (by decide) rfl (fun ls hl => ?_)
    refine lv_iload_n hx hb dX11_contract_18 rfl (lv_at hl 0 rfl) ?_
    refine lv_if_eq (tgt := 32) hx hb dX11_contract_19 (by decide) (fun c9 => absurd c9 (by decide)) (fun _ => ?_)
    refine lv_aload_n hx hb dX11_contract_22 rfl (lv_at hl 1 rfl) ?_
    refine va_get (D := (dC, dI)) (ci := 11) (v := .ref (ρ h0 3)) (C := RX11) (T := TX11) (N := 7) hx hb hts hfX11 hown hK hP q8 eq8 rfl 3 (by decide) (hts (.fieldLink RX11 32 "ColdShips" "reader" "LColdShips$Reader;") wa_24) (fun _ h9 => h9) rfl dX11_contract_23 ?_
    obtain ⟨b39, eb39⟩ : ∃ b : Nat, b = (ρ h0 3) := ⟨_, rfl⟩
    have tb39 : τ b39 = 3 := by rw [eb39]; exact y4
    rw [← eb39]
    refine tgk_3 hG tb39 (fun y40 y40n y41 y41n y42 y42n => ?_)
    refine tpk_3 hT tb39 (fun o43_x1 o43_x2 o43_x3 o43_x4 o43_x5 o43_x6 o43_x8 o43_x10 o43_x11 o43_x12 o43_x13 o43_x14 o43_x15 hf_o43 ro43_0 ro43_1 ro43_2 ro43_3 ro43_4 ro43_5 ro43_6 => ?_)
    refine tpk_pos (tp_in hG tb39 (by decide)) hf_o43 (fun q44 eq44 => ?_)
    have hFc := tp_fr hD hS hA
    refine va_callq (va_runV (As := []) (rest := []) ⟨hx, hb, hml, hown, hts⟩ (t_X2_readTape l dC dI _ Ω κ τ ν ρ L f hG hT adK adV zv b39 tb39) (cwV 0 hts gX11_contract_X2_readTape rfl rfl rfl ⟨rfl, pd_X2_readTape⟩ ⟨Nat.le_of_ble_eq_true rfl, Nat.le_of_ble_eq_true rfl⟩) ⟨pw_blindZ, va_recv hK hP (ci := 2) (q0 := q44) rfl eq44, pw_preZ hP hK hD hN hZ hS (tp_fr hD hS hA)⟩ rfl rfl hl.1 rfl (lv_room (Nat.le_of_ble_eq_true rfl)) dX11_contract_26 ⟨Nat.le_of_ble_eq_true rfl, Nat.le_of_ble_eq_true rfl⟩) hS (fun q _ h => hFc q h) hFc (fun r46 x45 t H1 locs ht hvm hw47 hB hz1 hk1 hS => ?_)
    obtain ⟨τ_49, ν_49, ρ_49, L_49, f48⟩ := x45
    obtain ⟨⟨hG9, hT9, hH9⟩, hw47p⟩ := hw47
    have hc50 := hH9.2 _ (tp_in hG ht_h0 (by decide)) (fun z => by cases z)
    have hc51 := hH9.2 _ (tp_in hG tb39 (by decide)) (fun z => by cases z)
    have hw9 : ρ_49 h0 0 = ρ h0 0 := congrFun hc50.2.2.1 0
    have cw9 : tp_fld (f48 (ρ_49 h0 0)) 6 = o21_x6.toInt := by rw [hw9, (show f48 (ρ h0 0) = f (ρ h0 0) from (hH9.2 _ (tp_in hG y1 (by decide)) (fun z => by cases z)).2.2.2 (by rw [y1]; decide)), hf_o21]; rfl
    have hH := hH.call hH9 (by decide) (fun a _ _ z => by cases z)
    have hG : tp_G τ_49 ν_49 ρ_49 L_49 := hG9; have hT : tp_T Ω κ τ_49 ν_49 ρ_49 f48 := hT9
    have hH : tp_H τ ν ρ L f [2, 3, 4, 5, 6, 7, 8, 9, 10, 11, 12, 20, 21, 22, 26, 27, 28] none τ_49 ν_49 ρ_49 L_49 f48 := hH
    have hP := hB.1; rw [ht] at hP; have hD := tp_Dw hB.2.2 hFc; clear hB hFc hz1 hk1; subst ht; generalize t.heap = H at hP hS ⊢
    have hP : va_P (dC, dI) vwCl (va_pl L_49 f48) H := hP
    have hD : va_D A (va_pl L_49 f48) := hD
    have ht52 : τ_49 h0 = 12 := hc50.1.trans ht_h0
    have ht53 : τ_49 b39 = 3 := hc51.1.trans tb39
    clear ht_h0 tb39 hc50 hc51 hG9 hT9 hH9
    rcases hw47p with h55 | ⟨b54, h55, h55t⟩
    · rw [h55]
      show W _ _ _ _ _ _ _ _ _ _ _ _ _ _ _ (F0 m 29 ls (.null :: []))
      refine tgk_12 hG ht52 (fun y56 y57 y58 y59 y60 y61 => ?_)
      refine tgk_11 hG y56 (fun y62 y62n y63 y63n y64 y65 y66 y67 y68 y69 y70 y70w y70m y71 y71w y71m y72 y72w y72m y73 y73w y73m => ?_)
      refine tpk_11 hT y56 (fun o74_x0 o74_x1 o74_x2 o74_x3 o74_x4 o74_x5 o74_x6 hf_o74 ro74_0 ro74_1 ro74_2 ro74_3 => ?_)
      have : o74_x6.toInt = o21_x6.toInt := by have q9 := cw9; rw [hf_o74] at q9; exact q9
      refine lv_goto (tgt := 33) hx hb dX11_contract_29 (by decide) ?_
      refine lv_astore_nN (lv' := [(2, .null), (1, .int 1), (0, .ref h0)]) hx hb dX11_contract_33 rfl hl (by decide) rfl (fun ls hl => ?_)
      refine lv_aload_n hx hb dX11_contract_34 rfl (lv_at hl 2 rfl) ?_
      refine tpk_12 hT ht52 (fun o75_x6 hf_o75 => ?_)
      refine tpk_pos (tp_in hG ht52 (by decide)) hf_o75 (fun q76 eq76 => ?_)
      refine va_get (D := (dC, dI)) (ci := 11) (v := .ref (ρ_49 h0 3)) (C := RX11) (T := TX11) (N := 7) hx hb hts hfX11 hown hK hP q76 eq76 rfl 3 (by decide) (hts (.fieldLink RX11 32 "ColdShips" "reader" "LColdShips$Reader;") wa_24) (fun _ h9 => h9) rfl dX11_contract_35 ?_
      refine tgk_3 hG y59 (fun y77 y77n y78 y78n y79 y79n => ?_)
      refine tpk_3 hT y59 (fun o80_x1 o80_x2 o80_x3 o80_x4 o80_x5 o80_x6 o80_x8 o80_x10 o80_x11 o80_x12 o80_x13 o80_x14 o80_x15 hf_o80 ro80_0 ro80_1 ro80_2 ro80_3 ro80_4 ro80_5 ro80_6 => ?_)
      refine tpk_pos (tp_in hG y59 (by decide)) hf_o80 (fun q81 eq81 => ?_)
      have hFc := tp_fr hD hS hA
      refine va_callv (va_runV (As := []) (rest := []) ⟨hx, hb, hml, hown, hts⟩ (t_X2_emptyTape l dC dI _ Ω κ τ_49 ν_49 ρ_49 L_49 f48 hG hT (ρ_49 h0 3) y59) (cwV 0 hts gX11_contract_X2_emptyTape rfl rfl rfl ⟨rfl, pd_X2_emptyTape⟩ ⟨Nat.le_of_ble_eq_true rfl, Nat.le_of_ble_eq_true rfl⟩) ⟨pz_blind, va_recv hK hP (ci := 2) (q0 := q81) rfl eq81, pz_pre hP hK hD hN⟩ rfl rfl hl.1 rfl (lv_room (Nat.le_of_ble_eq_true rfl)) dX11_contract_38 ⟨Nat.le_of_ble_eq_true rfl, Nat.le_of_ble_eq_true rfl⟩) hS (fun q _ h => hFc q h) hFc (fun f84 t H1 locs ht hvm hw83 hB hz1 hk1 hS => ?_)
      refine tn_3 hw83 (fun hT hF85 hw83p => ?_); clear hw83
      have hH := hH.pool hF85 (by decide)
      have hP := hB.1; rw [ht] at hP; have hD := tp_ad f84 hD; clear hB hFc hz1 hk1; subst ht; generalize t.heap = H at hP hS ⊢
      refine lv_aload_nN hx hb dX11_contract_41 rfl (lv_at hl 0 rfl) ?_
      refine lv_ifnonnullN hx hb dX11_contract_42 ?_
      refine lv_aload_n hx hb dX11_contract_45 rfl (lv_at hl 2 rfl) ?_
      refine lv_iload_n hx hb dX11_contract_46 rfl (lv_at hl 1 rfl) ?_
      refine lv_if_eq (tgt := 55) hx hb dX11_contract_47 (by decide) (fun c9 => absurd c9 (by decide)) (fun _ => ?_)
      refine lv_bipush (v := (-6)) hx hb dX11_contract_50 (by decide) ?_
      refine lv_goto (tgt := 57) hx hb dX11_contract_52 (by decide) ?_
      have hf_86 : f84 h0 = .inr (11, [.ref (ρ_49 h0 0), .ref (ρ_49 h0 1), .ref (ρ_49 h0 2), .ref (ρ_49 h0 3), .ref (ρ_49 h0 4), .ref (ρ_49 h0 5), .int o75_x6]) := (hF85 _ (by rw [ht52]; decide)).trans hf_o75
      refine tpk_pos (tp_in hG ht52 (by decide)) hf_86 (fun q87 eq87 => ?_)
      have hFc := tp_fr hD hS hA
      refine va_calli (va_runV (As := [.int (-6)]) (rest := []) ⟨hx, hb, hml, hown, hts⟩ (t_X11_refuse l dC dI _ Ω κ τ_49 ν_49 ρ_49 L_49 f84 hG hT h0 ((-6)) ht52) (cwV 1 hts gX11_contract_X11_refuse rfl rfl rfl ⟨rfl, pd_X11_refuse⟩ ⟨Nat.le_of_ble_eq_true rfl, Nat.le_of_ble_eq_true rfl⟩) ⟨pz_blind, va_recv hK hP (ci := 11) (q0 := q87) rfl eq87, pz_pre hP hK hD hN⟩ rfl rfl hl.1 rfl (lv_room (Nat.le_of_ble_eq_true rfl)) dX11_contract_57 ⟨Nat.le_of_ble_eq_true rfl, Nat.le_of_ble_eq_true rfl⟩) hS (fun q _ h => hFc q h) hFc (fun r88 f90 t H1 locs ht hvm hw89 hB hz1 hk1 hS => ?_)
      refine tn_4 hw89 (fun hT hF91 hw89r hw89p => ?_); clear hw89
      have hH := hH.pool hF91 (by decide)
      have hP := hB.1; rw [ht] at hP; have hD := tp_ad f90 hD; clear hB hFc hz1 hk1; subst ht; generalize t.heap = H at hP hS ⊢
      refine tp_widen 3 805 (Nat.le_of_ble_eq_true rfl) (Nat.le_of_ble_eq_true rfl) ?_
      exact W.iret (v := r88) hx hb hr (fun t ht hW => ⟨⟨r88, (τ_49, ν_49, ρ_49, L_49, f90), rfl, ⟨⟨hG, hT, hH⟩, trivial⟩, by rw [ht]; exact hP, va_K.moved hW.alike hK, hD⟩, hS.F ht⟩) hS.2.2 dX11_contract_60
    · rw [h55]
      show W _ _ _ _ _ _ _ _ _ _ _ _ _ _ _ (F0 m 29 ls (.ref b54 :: []))
      have h55t : τ_49 b54 = 1 := h55t
      refine tgk_12 hG ht52 (fun y92 y93 y94 y95 y96 y97 => ?_)
      refine tgk_11 hG y92 (fun y98 y98n y99 y99n y100 y101 y102 y103 y104 y105 y106 y106w y106m y107 y107w y107m y108 y108w y108m y109 y109w y109m => ?_)
      refine tpk_11 hT y92 (fun o110_x0 o110_x1 o110_x2 o110_x3 o110_x4 o110_x5 o110_x6 hf_o110 ro110_0 ro110_1 ro110_2 ro110_3 => ?_)
      have : o110_x6.toInt = o21_x6.toInt := by have q9 := cw9; rw [hf_o110] at q9; exact q9
      refine lv_goto (tgt := 33) hx hb dX11_contract_29 (by decide) ?_
      refine lv_astore_n (lv' := [(2, .ref b54), (1, .int 1), (0, .ref h0)]) hx hb dX11_contract_33 rfl hl (by decide) rfl (fun ls hl => ?_)
      refine lv_aload_n hx hb dX11_contract_34 rfl (lv_at hl 2 rfl) ?_
      refine tpk_12 hT ht52 (fun o111_x6 hf_o111 => ?_)
      refine tpk_pos (tp_in hG ht52 (by decide)) hf_o111 (fun q112 eq112 => ?_)
      refine va_get (D := (dC, dI)) (ci := 11) (v := .ref (ρ_49 h0 3)) (C := RX11) (T := TX11) (N := 7) hx hb hts hfX11 hown hK hP q112 eq112 rfl 3 (by decide) (hts (.fieldLink RX11 32 "ColdShips" "reader" "LColdShips$Reader;") wa_24) (fun _ h9 => h9) rfl dX11_contract_35 ?_
      refine tgk_3 hG y95 (fun y113 y113n y114 y114n y115 y115n => ?_)
      refine tpk_3 hT y95 (fun o116_x1 o116_x2 o116_x3 o116_x4 o116_x5 o116_x6 o116_x8 o116_x10 o116_x11 o116_x12 o116_x13 o116_x14 o116_x15 hf_o116 ro116_0 ro116_1 ro116_2 ro116_3 ro116_4 ro116_5 ro116_6 => ?_)
      refine tpk_pos (tp_in hG y95 (by decide)) hf_o116 (fun q117 eq117 => ?_)
      have hFc := tp_fr hD hS hA
      refine va_callv (va_runV (As := []) (rest := []) ⟨hx, hb, hml, hown, hts⟩ (t_X2_emptyTape l dC dI _ Ω κ τ_49 ν_49 ρ_49 L_49 f48 hG hT (ρ_49 h0 3) y95) (cwV 0 hts gX11_contract_X2_emptyTape rfl rfl rfl ⟨rfl, pd_X2_emptyTape⟩ ⟨Nat.le_of_ble_eq_true rfl, Nat.le_of_ble_eq_true rfl⟩) ⟨pz_blind, va_recv hK hP (ci := 2) (q0 := q117) rfl eq117, pz_pre hP hK hD hN⟩ rfl rfl hl.1 rfl (lv_room (Nat.le_of_ble_eq_true rfl)) dX11_contract_38 ⟨Nat.le_of_ble_eq_true rfl, Nat.le_of_ble_eq_true rfl⟩) hS (fun q _ h => hFc q h) hFc (fun f120 t H1 locs ht hvm hw119 hB hz1 hk1 hS => ?_)
      refine tn_3 hw119 (fun hT hF121 hw119p => ?_); clear hw119
      have hH := hH.pool hF121 (by decide)
      have hP := hB.1; rw [ht] at hP; have hD := tp_ad f120 hD; clear hB hFc hz1 hk1; subst ht; generalize t.heap = H at hP hS ⊢
      refine lv_aload_n hx hb dX11_contract_41 rfl (lv_at hl 0 rfl) ?_
      refine lv_ifnonnull (tgt := 61) hx hb dX11_contract_42 (by decide) ?_
      refine lv_aload_n hx hb dX11_contract_61 rfl (lv_at hl 2 rfl) ?_
      have hf_122 : f120 h0 = .inr (11, [.ref (ρ_49 h0 0), .ref (ρ_49 h0 1), .ref (ρ_49 h0 2), .ref (ρ_49 h0 3), .ref (ρ_49 h0 4), .ref (ρ_49 h0 5), .int o111_x6]) := (hF121 _ (by rw [ht52]; decide)).trans hf_o111
      refine tpk_pos (tp_in hG ht52 (by decide)) hf_122 (fun q123 eq123 => ?_)
      refine va_get (D := (dC, dI)) (ci := 11) (v := .ref (ρ_49 h0 0)) (C := RX11) (T := TX11) (N := 7) hx hb hts hfX11 hown hK hP q123 eq123 rfl 0 (by decide) (hts (.fieldLink RX11 10 "ColdShips" "world" "LColdShips$World;") wa_15) (fun _ h9 => h9) rfl dX11_contract_62 ?_
      have hf_124 : f120 (ρ_49 h0 0) = .inr (10, [.int o110_x0, .int o110_x1, .int o110_x2, .int o110_x3, .int o110_x4, .int o110_x5, .int o110_x6, .ref (ρ_49 (ρ_49 h0 0) 7), .ref (ρ_49 (ρ_49 h0 0) 8), .ref (ρ_49 (ρ_49 h0 0) 9), .ref (ρ_49 (ρ_49 h0 0) 10), .ref (ρ_49 (ρ_49 h0 0) 11), .ref (ρ_49 (ρ_49 h0 0) 12), .ref (ρ_49 (ρ_49 h0 0) 13), .ref (ρ_49 (ρ_49 h0 0) 14), .ref (ρ_49 (ρ_49 h0 0) 15), .ref (ρ_49 (ρ_49 h0 0) 16), .ref (ρ_49 (ρ_49 h0 0) 17), .ref (ρ_49 (ρ_49 h0 0) 18)]) := (hF121 _ (by rw [y92]; decide)).trans hf_o110
      refine tpk_pos (tp_in hG y92 (by decide)) hf_124 (fun q125 eq125 => ?_)
      refine va_getN (D := (dC, dI)) (ci := 10) (v := .int o110_x6) (C := RX10) (T := TX10) (N := 19) hx hb hts hfX10 hown hK hP q125 eq125 rfl 6 (by decide) (va_Nw.use rfl (hN.1 (.fieldLinkNest RX11 261 "ColdShips$World" "contractCount" "I" "ColdShips") nzw_60)) (fun _ h9 => h9) rfl dX11_contract_65 ?_
      refine lv_istore_n (lv' := [(3, .int o110_x6), (2, .ref b54), (1, .int 1), (0, .ref h0)]) hx hb dX11_contract_68 rfl hl (by decide) rfl (fun ls hl => ?_)
      refine lv_aload_n hx hb dX11_contract_69 rfl (lv_at hl 3 rfl) ?_
      refine va_get (D := (dC, dI)) (ci := 11) (v := .ref (ρ_49 h0 0)) (C := RX11) (T := TX11) (N := 7) hx hb hts hfX11 hown hK hP q123 eq123 rfl 0 (by decide) (hts (.fieldLink RX11 10 "ColdShips" "world" "LColdShips$World;") wa_15) (fun _ h9 => h9) rfl dX11_contract_70 ?_
      refine va_getN (D := (dC, dI)) (ci := 10) (v := .ref (ρ_49 (ρ_49 h0 0) 11)) (C := RX10) (T := TX10) (N := 19) hx hb hts hfX10 hown hK hP q125 eq125 rfl 11 (by decide) (va_Nw.use rfl (hN.1 (.fieldLinkNest RX11 271 "ColdShips$World" "contracts" "[LColdShips$Contract;" "ColdShips") nzw_72)) (fun _ h9 => h9) rfl dX11_contract_73 ?_
      refine lv_iload_n hx hb dX11_contract_76 rfl (lv_at hl 0 rfl) ?_
      refine lv_aload_n hx hb dX11_contract_77 rfl (lv_at hl 1 rfl) ?_
      refine tpk_26 hT y102 (fun g127 hf_o126 hf_o126e => ?_)
      refine tpk_pos (tp_in hG y102 (by decide)) hf_o126 (fun q128 eq128 => ?_)
      refine tgk_1 hG h55t (fun y132 y132n y133 y133n => ?_)
      refine tpk_1 hT h55t (fun o134_x2 o134_x3 o134_x4 hf_o134 => ?_)
      refine tpk_pos (tp_in hG h55t (by decide)) hf_o134 (fun q135 eq135 => ?_)
      refine va_astq hx hb hK hP hD hS q128 6 q135 0 eq128 rfl eq135 rfl (vp_in_iff.mpr ⟨by omega, by omega⟩) dX11_contract_78 (tp_k (.inl (κ 6, 12, .inr (.inr (.inr (.inr (va_up g127 o110_x6.toNatClampNeg (some b54))))))) hD (tp_in hG y102 (by decide)) eq128 (fun f129 H locs hP hD hS g131 k130 => ?_))
      have hT := hT.up y102 g131 k130 ⟨_, rfl, (tp_nu hf_o126e _ h55t)⟩
      have hH := hH.wt y102 (by decide) k130
      refine lv_aload_n hx hb dX11_contract_79 rfl (lv_at hl 3 rfl) ?_
      have hf_136 : f129 h0 = .inr (11, [.ref (ρ_49 h0 0), .ref (ρ_49 h0 1), .ref (ρ_49 h0 2), .ref (ρ_49 h0 3), .ref (ρ_49 h0 4), .ref (ρ_49 h0 5), .int o111_x6]) := (k130 _ (tp_ne ht52 y102 (by decide))).trans hf_122
      refine tpk_pos (tp_in hG ht52 (by decide)) hf_136 (fun q137 eq137 => ?_)
      refine va_get (D := (dC, dI)) (ci := 11) (v := .ref (ρ_49 h0 0)) (C := RX11) (T := TX11) (N := 7) hx hb hts hfX11 hown hK hP q137 eq137 rfl 0 (by decide) (hts (.fieldLink RX11 10 "ColdShips" "world" "LColdShips$World;") wa_15) (fun _ h9 => h9) rfl dX11_contract_80 ?_
      refine lv_dup hx hb dX11_contract_83 rfl ?_
      have hf_138 : f129 (ρ_49 h0 0) = .inr (10, [.int o110_x0, .int o110_x1, .int o110_x2, .int o110_x3, .int o110_x4, .int o110_x5, .int o110_x6, .ref (ρ_49 (ρ_49 h0 0) 7), .ref (ρ_49 (ρ_49 h0 0) 8), .ref (ρ_49 (ρ_49 h0 0) 9), .ref (ρ_49 (ρ_49 h0 0) 10), .ref (ρ_49 (ρ_49 h0 0) 11), .ref (ρ_49 (ρ_49 h0 0) 12), .ref (ρ_49 (ρ_49 h0 0) 13), .ref (ρ_49 (ρ_49 h0 0) 14), .ref (ρ_49 (ρ_49 h0 0) 15), .ref (ρ_49 (ρ_49 h0 0) 16), .ref (ρ_49 (ρ_49 h0 0) 17), .ref (ρ_49 (ρ_49 h0 0) 18)]) := (k130 _ (tp_ne y92 y102 (by decide))).trans hf_124
      refine tpk_pos (tp_in hG y92 (by decide)) hf_138 (fun q139 eq139 => ?_)
      refine va_getN (D := (dC, dI)) (ci := 10) (v := .int o110_x6) (C := RX10) (T := TX10) (N := 19) hx hb hts hfX10 hown hK hP q139 eq139 rfl 6 (by decide) (va_Nw.use rfl (hN.1 (.fieldLinkNest RX11 261 "ColdShips$World" "contractCount" "I" "ColdShips") nzw_60)) (fun _ h9 => h9) rfl dX11_contract_84 ?_
      refine lv_iconst (v := 1) hx hb dX11_contract_87 (by decide) ?_
      refine lv_iadd hx hb dX11_contract_88 ?_
      refine lv_topi (fun z140 ez140 => ?_)
      have iz140 : z140.toInt = o110_x6.toInt + 1 := zi_add ez140 rfl rfl (by omega) (by omega)
      refine va_putN (D := (dC, dI)) (ci := 10) (v := .int z140) (ty := .int) (C := RX10) (T := TX10) (N := 19) hx hb hts hfX10 tyX10 tyX10_ok nmX10 hown hK hP hD hS q139 eq139 rfl 6 (by decide) (va_Nw.use rfl (hN.1 (.fieldLinkNest RX11 261 "ColdShips$World" "contractCount" "I" "ColdShips") nzw_60)) (fun _ h9 => h9) rfl (tyX10_ok 6 (by decide)) rfl rfl (Nat.le_of_ble_eq_true rfl) dX11_contract_89 (tp_k (.inr (10, [.int o110_x0, .int o110_x1, .int o110_x2, .int o110_x3, .int o110_x4, .int o110_x5, .int z140, .ref (ρ_49 (ρ_49 h0 0) 7), .ref (ρ_49 (ρ_49 h0 0) 8), .ref (ρ_49 (ρ_49 h0 0) 9), .ref (ρ_49 (ρ_49 h0 0) 10), .ref (ρ_49 (ρ_49 h0 0) 11), .ref (ρ_49 (ρ_49 h0 0) 12), .ref (ρ_49 (ρ_49 h0 0) 13), .ref (ρ_49 (ρ_49 h0 0) 14), .ref (ρ_49 (ρ_49 h0 0) 15), .ref (ρ_49 (ρ_49 h0 0) 16), .ref (ρ_49 (ρ_49 h0 0) 17), .ref (ρ_49 (ρ_49 h0 0) 18)])) hD (tp_in hG y92 (by decide)) eq139 (fun f141 H locs hP hD hS g143 k142 => ?_))
      have hT := hT.up y92 g143 k142 ⟨_, _, _, _, _, _, _, rfl, (by first | decide | omega | (omega)), (by first | decide | omega | (omega)), (by first | decide | omega | (omega)), (by first | decide | omega | (omega))⟩
      have hH := hH.wt y92 (by decide) k142
      refine lv_aload_n hx hb dX11_contract_92 rfl (lv_at hl 3 rfl) ?_
      refine lv_iload_n hx hb dX11_contract_93 rfl (lv_at hl 0 rfl) ?_
      have hf_144 : f141 h0 = .inr (11, [.ref (ρ_49 h0 0), .ref (ρ_49 h0 1), .ref (ρ_49 h0 2), .ref (ρ_49 h0 3), .ref (ρ_49 h0 4), .ref (ρ_49 h0 5), .int o111_x6]) := (k142 _ (tp_ne ht52 y92 (by decide))).trans hf_136
      refine tpk_pos (tp_in hG ht52 (by decide)) hf_144 (fun q145 eq145 => ?_)
      have hFc := tp_fr hD hS hA
      refine va_calli (va_runV (As := [.int o110_x6]) (rest := []) ⟨hx, hb, hml, hown, hts⟩ (t_X11_accept l dC dI _ Ω κ τ_49 ν_49 ρ_49 L_49 f141 hG hT h0 o110_x6 ht52) (cwV 1 hts gX11_contract_X11_accept rfl rfl rfl ⟨rfl, pd_X11_accept⟩ ⟨Nat.le_of_ble_eq_true rfl, Nat.le_of_ble_eq_true rfl⟩) ⟨pz_blind, va_recv hK hP (ci := 11) (q0 := q145) rfl eq145, pz_pre hP hK hD hN⟩ rfl rfl hl.1 rfl (lv_room (Nat.le_of_ble_eq_true rfl)) dX11_contract_94 ⟨Nat.le_of_ble_eq_true rfl, Nat.le_of_ble_eq_true rfl⟩) hS (fun q _ h => hFc q h) hFc (fun r146 f148 t H1 locs ht hvm hw147 hB hz1 hk1 hS => ?_)
      refine tn_4 hw147 (fun hT hF149 hw147r hw147p => ?_); clear hw147
      have hH := hH.pool hF149 (by decide)
      have hP := hB.1; rw [ht] at hP; have hD := tp_ad f148 hD; clear hB hFc hz1 hk1; subst ht; generalize t.heap = H at hP hS ⊢
      refine tp_widen 3 805 (Nat.le_of_ble_eq_true rfl) (Nat.le_of_ble_eq_true rfl) ?_
      exact W.iret (v := r146) hx hb hr (fun t ht hW => ⟨⟨r146, (τ_49, ν_49, ρ_49, L_49, f148), rfl, ⟨⟨hG, hT, hH⟩, trivial⟩, by rw [ht]; exact hP, va_K.moved hW.alike hK, hD⟩, hS.F ht⟩) hS.2.2 dX11_contract_97
set_option maxHeartbeats 4000000 in
set_option maxRecDepth 100000 in
theorem t_X11_image (l : Launch) (dC : Nat → ClassId) (dI : Nat → Nat → Nat) (sz : Nat) (Ω : Nat → (Nat → Nat) → va_E → Prop) (κ : Nat → ClassId) (τ ν : Nat → Nat) (ρ : Nat → Nat → Nat) (L : List Nat) (f : Nat → va_E) (hG : tp_G τ ν ρ L) (hT : tp_T Ω κ τ ν ρ f) (h0 : Nat) (v : Int32) (ht_h0 : τ h0 = 12) : Met l yX11_image wqX11_image ({ frames := 5, cells := 110, slots := 2634, locals := 1600 }) (va_Pc [.ref h0, .int v] (pz_B dC dI (tp_K κ) (va_pl L f) sz)) (va_Qi (fun (r : Int32) (x : tp_S) => tp_PX Ω κ τ ν ρ L f [2, 3, 4, 5, 6, 7, 8, 9, 10, 11, 12, 20, 21, 22, 26, 27, 28] none x ∧ (tp_pick r (0 ≤ v.toInt ∧ v.toInt ≤ 1) 0 (-1))) (fun (x : tp_S) (t : State) => pz_E dC dI (tp_K κ) (va_A (va_pl L f) sz) (va_pl x.2.2.2.1 x.2.2.2.2) t) (va_A (va_pl L f) sz)) 110 2634 (va_A (va_pl L f) sz) := by
  refine Met.ofW (cc := cX11_image) (maxL := 2) (ret := some .int) (by decide) rfl ?_
  intro p e s m args below meth c s₁ B hml hv
  obtain ⟨rfl, hsz, hP, hK, hD0, hN⟩ := hv
  have hx := B.exec
  have hb := B.bytes
  have hr := B.returns
  have hts := fun (w : Cond) (h : w ∈ WALL) => atoms_spec (ws := wqX11_image) B.pre w (List.mem_cons_of_mem _ h)
  have hown : s.vm.findClass RX11 = some m.cls := findClass_of_methodNamed B.named
  have hlocks := B.notSynchronized
  subst hsz
  have hD := hD0.self (sz := s.heap.size)
  generalize hAe : va_A (va_pl L f) s.heap.size = A at hD ⊢
  have hA : ∀ q : Nat, s.heap.size ≤ q → A q := fun q h => by rw [← hAe]; exact Or.inr h
  have hS : va_S A s.heap s.heap [] := va_S.rf
  have hH : tp_H τ ν ρ L f [2, 3, 4, 5, 6, 7, 8, 9, 10, 11, 12, 20, 21, 22, 26, 27, 28] none τ ν ρ L f := tp_H.rf
  have hl := lv_entry ([.ref h0, .int v]) (n := 2) (Nat.le_of_ble_eq_true rfl)
  rw [lg_entry_eq]
  generalize (lg_sl ([.ref h0, .int v]) ++ List.replicate (2 - (lg_sl ([.ref h0, .int v])).length) Slot.unset).toArray = ls at hl ⊢
  have hl : lv_has ls 2 [(0, .ref h0), (1, .int v)] := hl
  refine lv_iload_n hx hb dX11_image_0 rfl (lv_at hl 1 rfl) ?_
  refine lv_iconst (v := 0) hx hb dX11_image_1 (by decide) ?_
  refine lv_aload_n hx hb dX11_image_2 rfl (lv_at hl 0 rfl) ?_
  refine tgk_12 hG ht_h0 (fun y1 y2 y3 y4 y5 y6 => ?_)
  refine tpk_12 hT ht_h0 (fun o7_x6 hf_o7 => ?_)
  refine tpk_pos (tp_in hG ht_h0 (by decide)) hf_o7 (fun q8 eq8 => ?_)
  refine va_get (D := (dC, dI)) (ci := 11) (v := .ref (ρ h0 1)) (C := RX11) (T := TX11) (N := 7) hx hb hts hfX11 hown hK hP q8 eq8 rfl 1 (by decide) (hts (.fieldLink RX11 16 "ColdShips" "images" "[LColdShips$World;") wa_16) (fun _ h9 => h9) rfl dX11_image_3 ?_
  refine tpk_27 hT y2 (fun g10 hf_o9 hf_o9e => ?_)
  refine tpk_pos (tp_in hG y2 (by decide)) hf_o9 (fun q11 eq11 => ?_)
  refine va_alen hx hb hK hP q11 7 eq11 rfl (rfl : Int32.ofNat 2 = (2 : Int32)) dX11_image_6 ?_
  refine lv_iconst (v := 1) hx hb dX11_image_7 (by decide) ?_
  refine lv_isub hx hb dX11_image_8 ?_
  refine lv_topi (fun z12 ez12 => ?_)
  obtain rfl : z12 = 1 := ez12.trans (by first | rfl | decide)
  refine pz_calli (va_runS (As := [.int v, .int 0, .int 1]) (rest := []) ⟨hx, hb, hml, hown, hts⟩ (t_X11_within l dC dI _ v (0) (1) (v.toInt) (0) (1) rfl rfl rfl) (va_cwS 3 hts gX11_image_X11_within rfl rfl rfl pd_X11_within ⟨Nat.le_of_ble_eq_true rfl, Nat.le_of_ble_eq_true rfl⟩) ⟨pz_blind, pz_pre pz_P0 (hK.sub (tys' := []) [] rfl) (pz_D0 (A := fun _ => True)) hN⟩ rfl rfl hl.1 rfl (lv_room (Nat.le_of_ble_eq_true rfl)) dX11_image_9 ⟨Nat.le_of_ble_eq_true rfl, Nat.le_of_ble_eq_true rfl⟩) (fun r13 hw14 => ?_)
  obtain ⟨hw14r, hw14p⟩ := hw14
  refine lv_if_ne (tgt := 21) hx hb dX11_image_12 (by decide) (fun c15 => ?_) (fun c15 => ?_)
  · have ic15 : r13.toInt ≠ 0 := zi_ne rfl rfl c15
    have p16 : (0) ≤ (v.toInt) ∧ (v.toInt) ≤ (1) := (tp_cond.yes hw14p) (by omega)
    refine lv_aload_n hx hb dX11_image_21 rfl (lv_at hl 0 rfl) ?_
    refine va_get (D := (dC, dI)) (ci := 11) (v := .ref (ρ h0 1)) (C := RX11) (T := TX11) (N := 7) hx hb hts hfX11 hown hK hP q8 eq8 rfl 1 (by decide) (hts (.fieldLink RX11 16 "ColdShips" "images" "[LColdShips$World;") wa_16) (fun _ h9 => h9) rfl dX11_image_22 ?_
    refine lv_iload_n hx hb dX11_image_25 rfl (lv_at hl 1 rfl) ?_
    refine va_aldq hx hb hK hP q11 7 eq11 rfl (vp_in_iff.mpr ⟨by omega, by omega⟩) dX11_image_26 ?_
    have hq17 := hf_o9e v.toNatClampNeg (zi_cl (vp_in_iff.mpr ⟨by omega, by omega⟩))
    rcases hq17 with hq19 | ⟨b18, hq19, hq19t⟩
    · rw [hq19]
      refine lv_ifnonnullN hx hb dX11_image_27 ?_
      refine lv_aload_n hx hb dX11_image_30 rfl (lv_at hl 0 rfl) ?_
      refine va_get (D := (dC, dI)) (ci := 11) (v := .ref (ρ h0 1)) (C := RX11) (T := TX11) (N := 7) hx hb hts hfX11 hown hK hP q8 eq8 rfl 1 (by decide) (hts (.fieldLink RX11 16 "ColdShips" "images" "[LColdShips$World;") wa_16) (fun _ h9 => h9) rfl dX11_image_31 ?_
      refine lv_iload_n hx hb dX11_image_34 rfl (lv_at hl 1 rfl) ?_
      obtain ⟨b20, eb20⟩ : ∃ b : Nat, b = (ρ h0 1) := ⟨_, rfl⟩
      have tb20 : τ b20 = 27 := by rw [eb20]; exact y2
      rw [← eb20]
      refine va_new (ci := 10) (fs := [.int 0, .int 0, .int 0, .int 0, .int 0, .int 0, .int 0, .null, .null, .null, .null, .null, .null, .null, .null, .null, .null, .null, .null]) (C := RX10) (T := TX10) (N := 19) hx hb hts hfX10 tyX10 tyX10_ok hown (hts (.classLink RX11 7 RX10) wa_12) (hts (.instantiable RX10 19) wa_13) (hts (.initialized RX10) wa_14) hK hP hD hS hA rfl (fun j hj => by rcases tpj_19 j hj with rfl | rfl | rfl | rfl | rfl | rfl | rfl | rfl | rfl | rfl | rfl | rfl | rfl | rfl | rfl | rfl | rfl | rfl | rfl <;> rfl) (Nat.le_of_ble_eq_true rfl) (Nat.le_of_ble_eq_true rfl) dX11_image_35 (fun q21 H hP hD hS => ?_)
      refine Exists.elim (tp_grow hG hT hP hD) (fun L31 hE90 => Exists.elim hE90 (fun f30 hE91 => tn_10 hE91 (fun hP hD hg22 ht23 hs24 hq25 hz26 hn27 hf28 ho29 => ?_)))
      clear hE91 hE90
      have hn32 : ∀ a, a ∈ L → a ≠ q21 := fun a ha => hn27 a (hH.1 a ha)
      have ne33 : h0 ≠ q21 := hn27 _ (tp_in hG ht_h0 (by decide))
      have ne34 : b20 ≠ q21 := hn27 _ (tp_in hG tb20 (by decide))
      have hG := hg22
      have hT := ht23
      have hH := hH.gr hs24 hn27 ho29
      refine lv_dup hx hb dX11_image_38 rfl ?_
      have hFc := tp_fr hD hS hA
      refine va_callv (va_runI (As := []) (rest := [.ref q21, .int v, .ref b20]) ⟨hx, hb, hml, hown, hts⟩ (t_X10_init l dC dI _ Ω κ τ ν ρ L31 f30 hG hT q21 hq25 hz26 hf28) (cwI 0 hts ggX11_image_X10_init rfl rfl rfl (hts (.initialized RX10) wa_14) (hts (.methodLink RX11 9 yX10_init) wa_33) (hts (.instanceMethod yX10_init) wa_34) rfl pd_X10_init ⟨Nat.le_of_ble_eq_true rfl, Nat.le_of_ble_eq_true rfl⟩) ⟨pz_blind, pz_pre hP hK hD hN⟩ rfl rfl hl.1 rfl (lv_room (Nat.le_of_ble_eq_true rfl)) dX11_image_39 ⟨Nat.le_of_ble_eq_true rfl, Nat.le_of_ble_eq_true rfl⟩) hS (fun q _ h => hFc q h) hFc (fun x35 t H1 locs ht hvm hw37 hB hz1 hk1 hS => ?_)
      obtain ⟨τ_39, ν_39, ρ_39, L_39, f38⟩ := x35
      obtain ⟨⟨hG9, hT9, hH9⟩, hw37p⟩ := hw37
      have hc40 := hH9.2 _ (tp_in hG ht_h0 (by decide)) (fun z => ne33 (Option.some.inj z))
      have hc41 := hH9.2 _ (tp_in hG tb20 (by decide)) (fun z => ne34 (Option.some.inj z))
      have ri9 : ρ_39 h0 1 = b20 := (congrFun hc40.2.2.1 1).trans eb20.symm
      have hH := hH.call hH9 (by decide) (fun a ha _ z => hn32 a ha (Option.some.inj z))
      have hG : tp_G τ_39 ν_39 ρ_39 L_39 := hG9; have hT : tp_T Ω κ τ_39 ν_39 ρ_39 f38 := hT9
      have hH : tp_H τ ν ρ L f [2, 3, 4, 5, 6, 7, 8, 9, 10, 11, 12, 20, 21, 22, 26, 27, 28] none τ_39 ν_39 ρ_39 L_39 f38 := hH
      have hP := hB.1; rw [ht] at hP; have hD := tp_Dw hB.2.2 hFc; clear hB hFc hz1 hk1; subst ht; generalize t.heap = H at hP hS ⊢
      have hP : va_P (dC, dI) vwCl (va_pl L_39 f38) H := hP
      have hD : va_D A (va_pl L_39 f38) := hD
      have ht42 : τ_39 h0 = 12 := hc40.1.trans ht_h0
      have ht43 : τ_39 b20 = 27 := hc41.1.trans tb20
      clear ht_h0 tb20 ne33 ne34 hc40 hc41 hG9 hT9 hH9
      have ht44 : τ_39 q21 = 11 := hw37p
      refine tpk_27 hT ht43 (fun g46 hf_o45 hf_o45e => ?_)
      refine tpk_pos (tp_in hG ht43 (by decide)) hf_o45 (fun q47 eq47 => ?_)
      refine tgk_11 hG ht44 (fun y51 y51n y52 y52n y53 y54 y55 y56 y57 y58 y59 y59w y59m y60 y60w y60m y61 y61w y61m y62 y62w y62m => ?_)
      refine tpk_11 hT ht44 (fun o63_x0 o63_x1 o63_x2 o63_x3 o63_x4 o63_x5 o63_x6 hf_o63 ro63_0 ro63_1 ro63_2 ro63_3 => ?_)
      refine tpk_pos (tp_in hG ht44 (by decide)) hf_o63 (fun q64 eq64 => ?_)
      refine va_astq hx hb hK hP hD hS q47 7 q64 10 eq47 rfl eq64 rfl (vp_in_iff.mpr ⟨by omega, by omega⟩) dX11_image_42 (tp_k (.inl (κ 7, 2, .inr (.inr (.inr (.inr (va_up g46 v.toNatClampNeg (some q21))))))) hD (tp_in hG ht43 (by decide)) eq47 (fun f48 H locs hP hD hS g50 k49 => ?_))
      have hT := hT.up ht43 g50 k49 ⟨_, rfl, (tp_nu hf_o45e _ ht44)⟩
      have hH := hH.wt ht43 (by decide) k49
      have hq65 : (va_up g46 v.toNatClampNeg (some q21)) v.toNatClampNeg = some q21 := by simp [va_up]
      have hq65t : τ_39 q21 = 11 := ht44
      refine lv_aload_n hx hb dX11_image_43 rfl (lv_at hl 0 rfl) ?_
      refine tgk_12 hG ht42 (fun y66 y67 y68 y69 y70 y71 => ?_)
      refine tpk_12 hT ht42 (fun o72_x6 hf_o72 => ?_)
      refine tpk_pos (tp_in hG ht42 (by decide)) hf_o72 (fun q73 eq73 => ?_)
      refine va_get (D := (dC, dI)) (ci := 11) (v := .ref (ρ_39 h0 1)) (C := RX11) (T := TX11) (N := 7) hx hb hts hfX11 hown hK hP q73 eq73 rfl 1 (by decide) (hts (.fieldLink RX11 16 "ColdShips" "images" "[LColdShips$World;") wa_16) (fun _ h9 => h9) rfl dX11_image_44 ?_
      rw [ri9]
      refine lv_iload_n hx hb dX11_image_47 rfl (lv_at hl 1 rfl) ?_
      refine tpk_pos (tp_in hG ht43 (by decide)) g50 (fun q74 eq74 => ?_)
      refine va_aldq hx hb hK hP q74 7 eq74 rfl (vp_in_iff.mpr ⟨by omega, by omega⟩) dX11_image_48 ?_
      refine W.eq (g2 := F0 m 49 ls (.ref q21 :: [])) (congrArg (fun o => F0 m 49 ls (va_rf o :: [])) hq65) ?_
      refine lv_aload_n hx hb dX11_image_49 rfl (lv_at hl 0 rfl) ?_
      refine va_get (D := (dC, dI)) (ci := 11) (v := .ref (ρ_39 h0 0)) (C := RX11) (T := TX11) (N := 7) hx hb hts hfX11 hown hK hP q73 eq73 rfl 0 (by decide) (hts (.fieldLink RX11 10 "ColdShips" "world" "LColdShips$World;") wa_15) (fun _ h9 => h9) rfl dX11_image_50 ?_
      have hf_75 : f48 q21 = .inr (10, [.int o63_x0, .int o63_x1, .int o63_x2, .int o63_x3, .int o63_x4, .int o63_x5, .int o63_x6, .ref (ρ_39 q21 7), .ref (ρ_39 q21 8), .ref (ρ_39 q21 9), .ref (ρ_39 q21 10), .ref (ρ_39 q21 11), .ref (ρ_39 q21 12), .ref (ρ_39 q21 13), .ref (ρ_39 q21 14), .ref (ρ_39 q21 15), .ref (ρ_39 q21 16), .ref (ρ_39 q21 17), .ref (ρ_39 q21 18)]) := (k49 _ (tp_ne ht44 ht43 (by decide))).trans hf_o63
      refine tpk_pos (tp_in hG ht44 (by decide)) hf_75 (fun q76 eq76 => ?_)
      have hFc := tp_fr hD hS hA
      refine va_callv (va_runV (As := [.ref (ρ_39 h0 0)]) (rest := []) ⟨hx, hb, hml, hown, hts⟩ (t_X10_copyFrom l dC dI _ Ω κ τ_39 ν_39 ρ_39 L_39 f48 hG hT q21 (ρ_39 h0 0) ht44 y66) (cwV 1 hts gX11_image_X10_copyFrom rfl rfl rfl ⟨rfl, pd_X10_copyFrom⟩ ⟨Nat.le_of_ble_eq_true rfl, Nat.le_of_ble_eq_true rfl⟩) ⟨pz_blind, va_recv hK hP (ci := 10) (q0 := q76) rfl eq76, pz_pre hP hK hD hN⟩ rfl rfl hl.1 rfl (lv_room (Nat.le_of_ble_eq_true rfl)) dX11_image_53 ⟨Nat.le_of_ble_eq_true rfl, Nat.le_of_ble_eq_true rfl⟩) hS (fun q _ h => hFc q h) hFc (fun f79 t H1 locs ht hvm hw78 hB hz1 hk1 hS => ?_)
      refine tn_3 hw78 (fun hT hF80 hw78p => ?_); clear hw78
      have hH := hH.pool hF80 (by decide)
      have hP := hB.1; rw [ht] at hP; have hD := tp_ad f79 hD; clear hB hFc hz1 hk1; subst ht; generalize t.heap = H at hP hS ⊢
      refine lv_aload_n hx hb dX11_image_56 rfl (lv_at hl 0 rfl) ?_
      refine lv_iconst (v := 0) hx hb dX11_image_57 (by decide) ?_
      have hf_81 : f79 h0 = .inr (11, [.ref (ρ_39 h0 0), .ref (ρ_39 h0 1), .ref (ρ_39 h0 2), .ref (ρ_39 h0 3), .ref (ρ_39 h0 4), .ref (ρ_39 h0 5), .int o72_x6]) := (hF80 _ (by rw [ht42]; decide)).trans hf_o72
      refine tpk_pos (tp_in hG ht42 (by decide)) hf_81 (fun q82 eq82 => ?_)
      have hFc := tp_fr hD hS hA
      refine va_calli (va_runV (As := [.int 0]) (rest := []) ⟨hx, hb, hml, hown, hts⟩ (t_X11_accept l dC dI _ Ω κ τ_39 ν_39 ρ_39 L_39 f79 hG hT h0 (0) ht42) (cwV 1 hts gX11_image_X11_accept rfl rfl rfl ⟨rfl, pd_X11_accept⟩ ⟨Nat.le_of_ble_eq_true rfl, Nat.le_of_ble_eq_true rfl⟩) ⟨pz_blind, va_recv hK hP (ci := 11) (q0 := q82) rfl eq82, pz_pre hP hK hD hN⟩ rfl rfl hl.1 rfl (lv_room (Nat.le_of_ble_eq_true rfl)) dX11_image_58 ⟨Nat.le_of_ble_eq_true rfl, Nat.le_of_ble_eq_true rfl⟩) hS (fun q _ h => hFc q h) hFc (fun r83 f85 t H1 locs ht hvm hw84 hB hz1 hk1 hS => ?_)
      refine tn_4 hw84 (fun hT hF86 hw84r hw84p => ?_); clear hw84
      have hH := hH.pool hF86 (by decide)
      have hP := hB.1; rw [ht] at hP; have hD := tp_ad f85 hD; clear hB hFc hz1 hk1; subst ht; generalize t.heap = H at hP hS ⊢
      refine tp_widen 110 2634 (Nat.le_of_ble_eq_true rfl) (Nat.le_of_ble_eq_true rfl) ?_
      exact W.iret (v := r83) hx hb hr (fun t ht hW => ⟨⟨r83, (τ_39, ν_39, ρ_39, L_39, f85), rfl, ⟨⟨hG, hT, hH⟩, ⟨fun q => by first | exact hw84p | (exfalso; omega), fun q => by first | exact hw84p | (exfalso; omega)⟩⟩, by rw [ht]; exact hP, va_K.moved hW.alike hK, hD⟩, hS.F ht⟩) hS.2.2 dX11_image_61
    · rw [hq19]
      refine lv_ifnonnull (tgt := 43) hx hb dX11_image_27 (by decide) ?_
      refine lv_aload_n hx hb dX11_image_43 rfl (lv_at hl 0 rfl) ?_
      refine va_get (D := (dC, dI)) (ci := 11) (v := .ref (ρ h0 1)) (C := RX11) (T := TX11) (N := 7) hx hb hts hfX11 hown hK hP q8 eq8 rfl 1 (by decide) (hts (.fieldLink RX11 16 "ColdShips" "images" "[LColdShips$World;") wa_16) (fun _ h9 => h9) rfl dX11_image_44 ?_
      refine lv_iload_n hx hb dX11_image_47 rfl (lv_at hl 1 rfl) ?_
      refine va_aldq hx hb hK hP q11 7 eq11 rfl (vp_in_iff.mpr ⟨by omega, by omega⟩) dX11_image_48 ?_
      refine W.eq (g2 := F0 m 49 ls (.ref b18 :: [])) (congrArg (fun o => F0 m 49 ls (va_rf o :: [])) hq19) ?_
      refine lv_aload_n hx hb dX11_image_49 rfl (lv_at hl 0 rfl) ?_
      refine va_get (D := (dC, dI)) (ci := 11) (v := .ref (ρ h0 0)) (C := RX11) (T := TX11) (N := 7) hx hb hts hfX11 hown hK hP q8 eq8 rfl 0 (by decide) (hts (.fieldLink RX11 10 "ColdShips" "world" "LColdShips$World;") wa_15) (fun _ h9 => h9) rfl dX11_image_50 ?_
      refine tgk_11 hG hq19t (fun y87 y87n y88 y88n y89 y90 y91 y92 y93 y94 y95 y95w y95m y96 y96w y96m y97 y97w y97m y98 y98w y98m => ?_)
      refine tpk_11 hT hq19t (fun o99_x0 o99_x1 o99_x2 o99_x3 o99_x4 o99_x5 o99_x6 hf_o99 ro99_0 ro99_1 ro99_2 ro99_3 => ?_)
      refine tpk_pos (tp_in hG hq19t (by decide)) hf_o99 (fun q100 eq100 => ?_)
      have hFc := tp_fr hD hS hA
      refine va_callv (va_runV (As := [.ref (ρ h0 0)]) (rest := []) ⟨hx, hb, hml, hown, hts⟩ (t_X10_copyFrom l dC dI _ Ω κ τ ν ρ L f hG hT b18 (ρ h0 0) hq19t y1) (cwV 1 hts gX11_image_X10_copyFrom rfl rfl rfl ⟨rfl, pd_X10_copyFrom⟩ ⟨Nat.le_of_ble_eq_true rfl, Nat.le_of_ble_eq_true rfl⟩) ⟨pz_blind, va_recv hK hP (ci := 10) (q0 := q100) rfl eq100, pz_pre hP hK hD hN⟩ rfl rfl hl.1 rfl (lv_room (Nat.le_of_ble_eq_true rfl)) dX11_image_53 ⟨Nat.le_of_ble_eq_true rfl, Nat.le_of_ble_eq_true rfl⟩) hS (fun q _ h => hFc q h) hFc (fun f103 t H1 locs ht hvm hw102 hB hz1 hk1 hS => ?_)
      refine tn_3 hw102 (fun hT hF104 hw102p => ?_); clear hw102
      have hH := hH.pool hF104 (by decide)
      have hP := hB.1; rw [ht] at hP; have hD := tp_ad f103 hD; clear hB hFc hz1 hk1; subst ht; generalize t.heap = H at hP hS ⊢
      refine lv_aload_n hx hb dX11_image_56 rfl (lv_at hl 0 rfl) ?_
      refine lv_iconst (v := 0) hx hb dX11_image_57 (by decide) ?_
      have hf_105 : f103 h0 = .inr (11, [.ref (ρ h0 0), .ref (ρ h0 1), .ref (ρ h0 2), .ref (ρ h0 3), .ref (ρ h0 4), .ref (ρ h0 5), .int o7_x6]) := (hF104 _ (by rw [ht_h0]; decide)).trans hf_o7
      refine tpk_pos (tp_in hG ht_h0 (by decide)) hf_105 (fun q106 eq106 => ?_)
      have hFc := tp_fr hD hS hA
      refine va_calli (va_runV (As := [.int 0]) (rest := []) ⟨hx, hb, hml, hown, hts⟩ (t_X11_accept l dC dI _ Ω κ τ ν ρ L f103 hG hT h0 (0) ht_h0) (cwV 1 hts gX11_image_X11_accept rfl rfl rfl ⟨rfl, pd_X11_accept⟩ ⟨Nat.le_of_ble_eq_true rfl, Nat.le_of_ble_eq_true rfl⟩) ⟨pz_blind, va_recv hK hP (ci := 11) (q0 := q106) rfl eq106, pz_pre hP hK hD hN⟩ rfl rfl hl.1 rfl (lv_room (Nat.le_of_ble_eq_true rfl)) dX11_image_58 ⟨Nat.le_of_ble_eq_true rfl, Nat.le_of_ble_eq_true rfl⟩) hS (fun q _ h => hFc q h) hFc (fun r107 f109 t H1 locs ht hvm hw108 hB hz1 hk1 hS => ?_)
      refine tn_4 hw108 (fun hT hF110 hw108r hw108p => ?_); clear hw108
      have hH := hH.pool hF110 (by decide)
      have hP := hB.1; rw [ht] at hP; have hD := tp_ad f109 hD; clear hB hFc hz1 hk1; subst ht; generalize t.heap = H at hP hS ⊢
      refine tp_widen 110 2634 (Nat.le_of_ble_eq_true rfl) (Nat.le_of_ble_eq_true rfl) ?_
      exact W.iret (v := r107) hx hb hr (fun t ht hW => ⟨⟨r107, (τ, ν, ρ, L, f109), rfl, ⟨⟨hG, hT, hH⟩, ⟨fun q => by first | exact hw108p | (exfalso; omega), fun q => by first | exact hw108p | (exfalso; omega)⟩⟩, by rw [ht]; exact hP, va_K.moved hW.alike hK, hD⟩, hS.F ht⟩) hS.2.2 dX11_image_61
  · have ic15 : r13.toInt = 0 := zi_nef rfl rfl c15
    have p111 : ¬ ((0) ≤ (v.toInt) ∧ (v.toInt) ≤ (1)) := (tp_cond.no hw14p) (by omega)
    refine lv_aload_n hx hb dX11_image_15 rfl (lv_at hl 0 rfl) ?_
    refine lv_iconst (v := (-1)) hx hb dX11_image_16 (by decide) ?_
    have hFc := tp_fr hD hS hA
    refine va_calli (va_runV (As := [.int (-1)]) (rest := []) ⟨hx, hb, hml, hown, hts⟩ (t_X11_refuse l dC dI _ Ω κ τ ν ρ L f hG hT h0 ((-1)) ht_h0) (cwV 1 hts gX11_image_X11_refuse rfl rfl rfl ⟨rfl, pd_X11_refuse⟩ ⟨Nat.le_of_ble_eq_true rfl, Nat.le_of_ble_eq_true rfl⟩) ⟨pz_blind, va_recv hK hP (ci := 11) (q0 := q8) rfl eq8, pz_pre hP hK hD hN⟩ rfl rfl hl.1 rfl (lv_room (Nat.le_of_ble_eq_true rfl)) dX11_image_17 ⟨Nat.le_of_ble_eq_true rfl, Nat.le_of_ble_eq_true rfl⟩) hS (fun q _ h => hFc q h) hFc (fun r112 f114 t H1 locs ht hvm hw113 hB hz1 hk1 hS => ?_)
    refine tn_4 hw113 (fun hT hF115 hw113r hw113p => ?_); clear hw113
    have hH := hH.pool hF115 (by decide)
    have hP := hB.1; rw [ht] at hP; have hD := tp_ad f114 hD; clear hB hFc hz1 hk1; subst ht; generalize t.heap = H at hP hS ⊢
    refine tp_widen 110 2634 (Nat.le_of_ble_eq_true rfl) (Nat.le_of_ble_eq_true rfl) ?_
    exact W.iret (v := r112) hx hb hr (fun t ht hW => ⟨⟨r112, (τ, ν, ρ, L, f114), rfl, ⟨⟨hG, hT, hH⟩, ⟨fun q => by first | exact hw113p | (exfalso; omega), fun q => by first | exact hw113p | (exfalso; omega)⟩⟩, by rw [ht]; exact hP, va_K.moved hW.alike hK, hD⟩, hS.F ht⟩) hS.2.2 dX11_image_20
