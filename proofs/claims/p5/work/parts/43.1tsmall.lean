set_option maxHeartbeats 4000000 in
set_option maxRecDepth 100000 in
theorem t_X11_within (l : Launch) (dC : Nat → ClassId) (dI : Nat → Nat → Nat) (sz : Nat) (v : Int32) (lo : Int32) (hi : Int32) (Z_v : Int) (Z_lo : Int) (Z_hi : Int) (hZ_v : v.toInt = Z_v) (hZ_lo : lo.toInt = Z_lo) (hZ_hi : hi.toInt = Z_hi) : Met l yX11_within wqX11_within ({ frames := 2, cells := 0, slots := 0, locals := 400 }) (va_Pc [.int v, .int lo, .int hi] (pz_B dC dI [] [] sz)) (vp_Si (fun r => (0 ≤ r.toInt ∧ r.toInt ≤ 1) ∧ tp_cond r (Z_lo ≤ Z_v ∧ Z_v ≤ Z_hi))) 0 0 (fun _ => False) := by
  refine Met.ofW (cc := cX11_within) (maxL := 3) (ret := some .boolean) (by decide) rfl ?_
  intro p e s m args below meth c s₁ B hml hv
  obtain ⟨rfl, hsz, hP, hK, hD0, hN⟩ := hv
  have hx := B.exec
  have hb := B.bytes
  have hr := B.returns
  have hts := fun (w : Cond) (h : w ∈ WALL) => atoms_spec (ws := wqX11_within) B.pre w (List.mem_cons_of_mem _ h)
  have hown : s.vm.findClass RX11 = some m.cls := findClass_of_methodNamed B.named
  have hlocks := B.notSynchronized
  subst hsz
  have hD := hD0
  have hS : va_S (fun _ => True) s.heap s.heap [] := va_S.rf
  have hl := lv_entry ([.int v, .int lo, .int hi]) (n := 3) (Nat.le_of_ble_eq_true rfl)
  rw [lg_entry_eq]
  generalize (lg_sl ([.int v, .int lo, .int hi]) ++ List.replicate (3 - (lg_sl ([.int v, .int lo, .int hi])).length) Slot.unset).toArray = ls at hl ⊢
  have hl : lv_has ls 3 [(0, .int v), (1, .int lo), (2, .int hi)] := hl
  refine lv_iload_n hx hb dX11_within_0 rfl (lv_at hl 0 rfl) ?_
  refine lv_iload_n hx hb dX11_within_1 rfl (lv_at hl 1 rfl) ?_
  refine lv_icmp_lt (tgt := 14) hx hb dX11_within_2 (by decide) (fun c1 => ?_) (fun c1 => ?_)
  · have ic1 : Z_v < Z_lo := zi_lt hZ_v hZ_lo c1
    refine lv_iconst (v := 0) hx hb dX11_within_14 (by decide) ?_
    exact W.zret (v := 0) hx hb hr rfl (fun t ht hW => ⟨0, rfl, ⟨(by first | decide | omega), (Or.inr ⟨rfl, by omega⟩)⟩, ht⟩) (fun _ h => by cases h) dX11_within_15
  · have ic1 : Z_v ≥ Z_lo := zi_ltf hZ_v hZ_lo c1
    refine lv_iload_n hx hb dX11_within_5 rfl (lv_at hl 0 rfl) ?_
    refine lv_iload_n hx hb dX11_within_6 rfl (lv_at hl 2 rfl) ?_
    refine lv_icmp_gt (tgt := 14) hx hb dX11_within_7 (by decide) (fun c2 => ?_) (fun c2 => ?_)
    · have ic2 : Z_v > Z_hi := zi_gt hZ_v hZ_hi c2
      refine lv_iconst (v := 0) hx hb dX11_within_14 (by decide) ?_
      exact W.zret (v := 0) hx hb hr rfl (fun t ht hW => ⟨0, rfl, ⟨(by first | decide | omega), (Or.inr ⟨rfl, by omega⟩)⟩, ht⟩) (fun _ h => by cases h) dX11_within_15
    · have ic2 : Z_v ≤ Z_hi := zi_gtf hZ_v hZ_hi c2
      refine lv_iconst (v := 1) hx hb dX11_within_10 (by decide) ?_
      refine lv_goto (tgt := 15) hx hb dX11_within_11 (by decide) ?_
      exact W.zret (v := 1) hx hb hr rfl (fun t ht hW => ⟨1, rfl, ⟨(by first | decide | omega), (Or.inl ⟨rfl, by omega⟩)⟩, ht⟩) (fun _ h => by cases h) dX11_within_15
set_option maxHeartbeats 4000000 in
set_option maxRecDepth 100000 in
theorem t_X11_isHour (l : Launch) (dC : Nat → ClassId) (dI : Nat → Nat → Nat) (sz : Nat) (v : Int32) (Z_v : Int) (hZ_v : v.toInt = Z_v) : Met l yX11_isHour wqX11_isHour ({ frames := 3, cells := 0, slots := 0, locals := 800 }) (va_Pc [.int v] (pz_B dC dI [] [] sz)) (vp_Si (fun r => (0 ≤ r.toInt ∧ r.toInt ≤ 1) ∧ tp_cond r (0 ≤ Z_v ∧ Z_v ≤ 2399))) 0 0 (fun _ => False) := by
  refine Met.ofW (cc := cX11_isHour) (maxL := 1) (ret := some .boolean) (by decide) rfl ?_
  intro p e s m args below meth c s₁ B hml hv
  obtain ⟨rfl, hsz, hP, hK, hD0, hN⟩ := hv
  have hx := B.exec
  have hb := B.bytes
  have hr := B.returns
  have hts := fun (w : Cond) (h : w ∈ WALL) => atoms_spec (ws := wqX11_isHour) B.pre w (List.mem_cons_of_mem _ h)
  have hown : s.vm.findClass RX11 = some m.cls := findClass_of_methodNamed B.named
  have hlocks := B.notSynchronized
  subst hsz
  have hD := hD0
  have hS : va_S (fun _ => True) s.heap s.heap [] := va_S.rf
  have hl := lv_entry ([.int v]) (n := 1) (Nat.le_of_ble_eq_true rfl)
  rw [lg_entry_eq]
  generalize (lg_sl ([.int v]) ++ List.replicate (1 - (lg_sl ([.int v])).length) Slot.unset).toArray = ls at hl ⊢
  have hl : lv_has ls 1 [(0, .int v)] := hl
  refine lv_iload_n hx hb dX11_isHour_0 rfl (lv_at hl 0 rfl) ?_
  refine lv_iconst (v := 0) hx hb dX11_isHour_1 (by decide) ?_
  refine lv_sipush (v := 2399) hx hb dX11_isHour_2 (by decide) ?_
  refine pz_calli (va_runS (As := [.int v, .int 0, .int 2399]) (rest := []) ⟨hx, hb, hml, hown, hts⟩ (t_X11_within l dC dI _ v (0) (2399) (Z_v) (0) (2399) hZ_v rfl rfl) (va_cwS 3 hts gX11_isHour_X11_within rfl rfl rfl pd_X11_within ⟨Nat.le_of_ble_eq_true rfl, Nat.le_of_ble_eq_true rfl⟩) ⟨pz_blind, pz_pre pz_P0 (hK.sub (tys' := []) [] rfl) (pz_D0 (A := fun _ => True)) hN⟩ rfl rfl hl.1 rfl (lv_room (Nat.le_of_ble_eq_true rfl)) dX11_isHour_5 ⟨Nat.le_of_ble_eq_true rfl, Nat.le_of_ble_eq_true rfl⟩) (fun r1 hw2 => ?_)
  obtain ⟨hw2r, hw2p⟩ := hw2
  exact W.zret (v := r1) hx hb hr (zi_narZ (by omega) (by omega)) (fun t ht hW => ⟨r1, rfl, ⟨(by first | decide | omega), (tp_cond.of hw2p (by omega))⟩, ht⟩) (fun _ h => by cases h) dX11_isHour_8
set_option maxHeartbeats 4000000 in
set_option maxRecDepth 100000 in
theorem t_X11_isSpan (l : Launch) (dC : Nat → ClassId) (dI : Nat → Nat → Nat) (sz : Nat) (v : Int32) (u : Int32) (Z_v : Int) (Z_u : Int) (hZ_v : v.toInt = Z_v) (hZ_u : u.toInt = Z_u) : Met l yX11_isSpan wqX11_isSpan ({ frames := 4, cells := 0, slots := 0, locals := 1200 }) (va_Pc [.int v, .int u] (pz_B dC dI [] [] sz)) (vp_Si (fun r => (0 ≤ r.toInt ∧ r.toInt ≤ 1) ∧ tp_cond r ((0 ≤ Z_v ∧ Z_v ≤ 2399) ∧ (0 ≤ Z_u ∧ Z_u ≤ 2399) ∧ Z_v ≤ Z_u))) 0 0 (fun _ => False) := by
  refine Met.ofW (cc := cX11_isSpan) (maxL := 2) (ret := some .boolean) (by decide) rfl ?_
  intro p e s m args below meth c s₁ B hml hv
  obtain ⟨rfl, hsz, hP, hK, hD0, hN⟩ := hv
  have hx := B.exec
  have hb := B.bytes
  have hr := B.returns
  have hts := fun (w : Cond) (h : w ∈ WALL) => atoms_spec (ws := wqX11_isSpan) B.pre w (List.mem_cons_of_mem _ h)
  have hown : s.vm.findClass RX11 = some m.cls := findClass_of_methodNamed B.named
  have hlocks := B.notSynchronized
  subst hsz
  have hD := hD0
  have hS : va_S (fun _ => True) s.heap s.heap [] := va_S.rf
  have hl := lv_entry ([.int v, .int u]) (n := 2) (Nat.le_of_ble_eq_true rfl)
  rw [lg_entry_eq]
  generalize (lg_sl ([.int v, .int u]) ++ List.replicate (2 - (lg_sl ([.int v, .int u])).length) Slot.unset).toArray = ls at hl ⊢
  have hl : lv_has ls 2 [(0, .int v), (1, .int u)] := hl
  refine lv_iload_n hx hb dX11_isSpan_0 rfl (lv_at hl 0 rfl) ?_
  refine pz_calli (va_runS (As := [.int v]) (rest := []) ⟨hx, hb, hml, hown, hts⟩ (t_X11_isHour l dC dI _ v (Z_v) hZ_v) (va_cwS 1 hts gX11_isSpan_X11_isHour rfl rfl rfl pd_X11_isHour ⟨Nat.le_of_ble_eq_true rfl, Nat.le_of_ble_eq_true rfl⟩) ⟨pz_blind, pz_pre pz_P0 (hK.sub (tys' := []) [] rfl) (pz_D0 (A := fun _ => True)) hN⟩ rfl rfl hl.1 rfl (lv_room (Nat.le_of_ble_eq_true rfl)) dX11_isSpan_1 ⟨Nat.le_of_ble_eq_true rfl, Nat.le_of_ble_eq_true rfl⟩) (fun r1 hw2 => ?_)
  obtain ⟨hw2r, hw2p⟩ := hw2
  refine lv_if_eq (tgt := 23) hx hb dX11_isSpan_4 (by decide) (fun c3 => ?_) (fun c3 => ?_)
  · have ic3 : r1.toInt = 0 := zi_eq rfl rfl c3
    have p4 : ¬ (0 ≤ (Z_v) ∧ (Z_v) ≤ 2399) := (tp_cond.no hw2p) (by omega)
    refine lv_iconst (v := 0) hx hb dX11_isSpan_23 (by decide) ?_
    exact W.zret (v := 0) hx hb hr rfl (fun t ht hW => ⟨0, rfl, ⟨(by first | decide | omega), (Or.inr ⟨rfl, by omega⟩)⟩, ht⟩) (fun _ h => by cases h) dX11_isSpan_24
  · have ic3 : r1.toInt ≠ 0 := zi_eqf rfl rfl c3
    have p5 : 0 ≤ (Z_v) ∧ (Z_v) ≤ 2399 := (tp_cond.yes hw2p) (by omega)
    refine lv_iload_n hx hb dX11_isSpan_7 rfl (lv_at hl 1 rfl) ?_
    refine pz_calli (va_runS (As := [.int u]) (rest := []) ⟨hx, hb, hml, hown, hts⟩ (t_X11_isHour l dC dI _ u (Z_u) hZ_u) (va_cwS 1 hts gX11_isSpan_X11_isHour rfl rfl rfl pd_X11_isHour ⟨Nat.le_of_ble_eq_true rfl, Nat.le_of_ble_eq_true rfl⟩) ⟨pz_blind, pz_pre pz_P0 (hK.sub (tys' := []) [] rfl) (pz_D0 (A := fun _ => True)) hN⟩ rfl rfl hl.1 rfl (lv_room (Nat.le_of_ble_eq_true rfl)) dX11_isSpan_8 ⟨Nat.le_of_ble_eq_true rfl, Nat.le_of_ble_eq_true rfl⟩) (fun r6 hw7 => ?_)
    obtain ⟨hw7r, hw7p⟩ := hw7
    refine lv_if_eq (tgt := 23) hx hb dX11_isSpan_11 (by decide) (fun c8 => ?_) (fun c8 => ?_)
    · have ic8 : r6.toInt = 0 := zi_eq rfl rfl c8
      have p9 : ¬ (0 ≤ (Z_u) ∧ (Z_u) ≤ 2399) := (tp_cond.no hw7p) (by omega)
      refine lv_iconst (v := 0) hx hb dX11_isSpan_23 (by decide) ?_
      exact W.zret (v := 0) hx hb hr rfl (fun t ht hW => ⟨0, rfl, ⟨(by first | decide | omega), (Or.inr ⟨rfl, by omega⟩)⟩, ht⟩) (fun _ h => by cases h) dX11_isSpan_24
    · have ic8 : r6.toInt ≠ 0 := zi_eqf rfl rfl c8
      have p10 : 0 ≤ (Z_u) ∧ (Z_u) ≤ 2399 := (tp_cond.yes hw7p) (by omega)
      refine lv_iload_n hx hb dX11_isSpan_14 rfl (lv_at hl 0 rfl) ?_
      refine lv_iload_n hx hb dX11_isSpan_15 rfl (lv_at hl 1 rfl) ?_
      refine lv_icmp_gt (tgt := 23) hx hb dX11_isSpan_16 (by decide) (fun c11 => ?_) (fun c11 => ?_)
      · have ic11 : Z_v > Z_u := zi_gt hZ_v hZ_u c11
        refine lv_iconst (v := 0) hx hb dX11_isSpan_23 (by decide) ?_
        exact W.zret (v := 0) hx hb hr rfl (fun t ht hW => ⟨0, rfl, ⟨(by first | decide | omega), (Or.inr ⟨rfl, by omega⟩)⟩, ht⟩) (fun _ h => by cases h) dX11_isSpan_24
      · have ic11 : Z_v ≤ Z_u := zi_gtf hZ_v hZ_u c11
        refine lv_iconst (v := 1) hx hb dX11_isSpan_19 (by decide) ?_
        refine lv_goto (tgt := 24) hx hb dX11_isSpan_20 (by decide) ?_
        exact W.zret (v := 1) hx hb hr rfl (fun t ht hW => ⟨1, rfl, ⟨(by first | decide | omega), (Or.inl ⟨rfl, by omega⟩)⟩, ht⟩) (fun _ h => by cases h) dX11_isSpan_24
set_option maxHeartbeats 4000000 in
set_option maxRecDepth 100000 in
theorem t_X11_slotOwner (l : Launch) (dC : Nat → ClassId) (dI : Nat → Nat → Nat) (sz : Nat) (v : Int32) (u : Int32) : Met l yX11_slotOwner wqX11_slotOwner ({ frames := 2, cells := 0, slots := 0, locals := 400 }) (va_Pc [.int v, .int u] (pz_B dC dI [] [] sz)) (vp_Si (fun r => True ∧ True)) 0 0 (fun _ => False) := by
  refine Met.ofW (cc := cX11_slotOwner) (maxL := 2) (ret := some .int) (by decide) rfl ?_
  intro p e s m args below meth c s₁ B hml hv
  obtain ⟨rfl, hsz, hP, hK, hD0, hN⟩ := hv
  have hx := B.exec
  have hb := B.bytes
  have hr := B.returns
  have hts := fun (w : Cond) (h : w ∈ WALL) => atoms_spec (ws := wqX11_slotOwner) B.pre w (List.mem_cons_of_mem _ h)
  have hown : s.vm.findClass RX11 = some m.cls := findClass_of_methodNamed B.named
  have hlocks := B.notSynchronized
  subst hsz
  have hD := hD0
  have hS : va_S (fun _ => True) s.heap s.heap [] := va_S.rf
  have hl := lv_entry ([.int v, .int u]) (n := 2) (Nat.le_of_ble_eq_true rfl)
  rw [lg_entry_eq]
  generalize (lg_sl ([.int v, .int u]) ++ List.replicate (2 - (lg_sl ([.int v, .int u])).length) Slot.unset).toArray = ls at hl ⊢
  have hl : lv_has ls 2 [(0, .int v), (1, .int u)] := hl
  refine lv_iload_n hx hb dX11_slotOwner_0 rfl (lv_at hl 0 rfl) ?_
  refine lv_bipush (v := 6) hx hb dX11_slotOwner_1 (by decide) ?_
  refine lv_imul hx hb dX11_slotOwner_3 ?_
  refine lv_topi (fun z1 ez1 => ?_)
  refine lv_iload_n hx hb dX11_slotOwner_4 rfl (lv_at hl 1 rfl) ?_
  refine lv_iadd hx hb dX11_slotOwner_5 ?_
  refine lv_topi (fun z2 ez2 => ?_)
  exact W.iret (v := z2) hx hb hr (fun t ht hW => ⟨z2, rfl, ⟨trivial, trivial⟩, ht⟩) (fun _ h => by cases h) dX11_slotOwner_6
set_option maxHeartbeats 4000000 in
set_option maxRecDepth 100000 in
theorem t_X4_has (l : Launch) (dC : Nat → ClassId) (dI : Nat → Nat → Nat) (sz : Nat) (Ω : Nat → (Nat → Nat) → va_E → Prop) (κ : Nat → ClassId) (τ ν : Nat → Nat) (ρ : Nat → Nat → Nat) (L : List Nat) (f : Nat → va_E) (hG : tp_G τ ν ρ L) (hT : tp_T Ω κ τ ν ρ f) (h0 : Nat) (v : Int32) (ht_h0 : τ h0 = 5) (h0_x0 : Int32) (h0_x2 : Int32) (hf_h0 : f h0 = .inr (4, [.int h0_x0, .ref (ρ h0 1), .int h0_x2])) : Met l yX4_has wqX4_has ({ frames := 2, cells := 0, slots := 0, locals := 400 }) (va_Pc [.ref h0, .int v] (pz_B dC dI (tp_K κ) (va_pl L f) sz)) (vp_Si (fun r => (0 ≤ r.toInt ∧ r.toInt ≤ 1) ∧ tp_cond r (0 ≤ v.toInt ∧ v.toInt < h0_x2.toInt))) 0 0 (fun _ => False) := by
  refine Met.ofW (cc := cX4_has) (maxL := 2) (ret := some .boolean) (by decide) rfl ?_
  intro p e s m args below meth c s₁ B hml hv
  obtain ⟨rfl, hsz, hP, hK, hD0, hN⟩ := hv
  have hx := B.exec
  have hb := B.bytes
  have hr := B.returns
  have hts := fun (w : Cond) (h : w ∈ WALL) => atoms_spec (ws := wqX4_has) B.pre w (List.mem_cons_of_mem _ h)
  have hown : s.vm.findClass RX4 = some m.cls := findClass_of_methodNamed B.named
  have hlocks := B.notSynchronized
  subst hsz
  have hD := hD0
  have hS : va_S (fun _ => True) s.heap s.heap [] := va_S.rf
  have hl := lv_entry ([.ref h0, .int v]) (n := 2) (Nat.le_of_ble_eq_true rfl)
  rw [lg_entry_eq]
  generalize (lg_sl ([.ref h0, .int v]) ++ List.replicate (2 - (lg_sl ([.ref h0, .int v])).length) Slot.unset).toArray = ls at hl ⊢
  have hl : lv_has ls 2 [(0, .ref h0), (1, .int v)] := hl
  refine tpk_5 hT ht_h0 (fun h0z_x0 h0z_x2 hfz_h0 rzh0_0 rzh0_1 => ?_)
  obtain ⟨rfl, rfl⟩ := tp_same5 hf_h0 hfz_h0
  refine lv_iload_n hx hb dX4_has_0 rfl (lv_at hl 1 rfl) ?_
  refine lv_if_lt (tgt := 16) hx hb dX4_has_1 (by decide) (fun c1 => ?_) (fun c1 => ?_)
  · have ic1 : v.toInt < 0 := zi_lt rfl rfl c1
    refine lv_iconst (v := 0) hx hb dX4_has_16 (by decide) ?_
    exact W.zret (v := 0) hx hb hr rfl (fun t ht hW => ⟨0, rfl, ⟨(by first | decide | omega), (Or.inr ⟨rfl, by omega⟩)⟩, ht⟩) (fun _ h => by cases h) dX4_has_17
  · have ic1 : v.toInt ≥ 0 := zi_ltf rfl rfl c1
    refine lv_iload_n hx hb dX4_has_4 rfl (lv_at hl 1 rfl) ?_
    refine lv_aload_n hx hb dX4_has_5 rfl (lv_at hl 0 rfl) ?_
    refine tpk_pos (tp_in hG ht_h0 (by decide)) hf_h0 (fun q2 eq2 => ?_)
    refine va_get (D := (dC, dI)) (ci := 4) (v := .int h0_x2) (C := RX4) (T := TX4) (N := 3) hx hb hts hfX4 hown hK hP q2 eq2 rfl 2 (by decide) (hts (.fieldLink RX4 25 "ColdShips$Rows" "size" "I") wa_517) (fun _ h9 => h9) rfl dX4_has_6 ?_
    refine lv_icmp_ge (tgt := 16) hx hb dX4_has_9 (by decide) (fun c3 => ?_) (fun c3 => ?_)
    · have ic3 : v.toInt ≥ h0_x2.toInt := zi_ge rfl rfl c3
      refine lv_iconst (v := 0) hx hb dX4_has_16 (by decide) ?_
      exact W.zret (v := 0) hx hb hr rfl (fun t ht hW => ⟨0, rfl, ⟨(by first | decide | omega), (Or.inr ⟨rfl, by omega⟩)⟩, ht⟩) (fun _ h => by cases h) dX4_has_17
    · have ic3 : v.toInt < h0_x2.toInt := zi_gef rfl rfl c3
      refine lv_iconst (v := 1) hx hb dX4_has_12 (by decide) ?_
      refine lv_goto (tgt := 17) hx hb dX4_has_13 (by decide) ?_
      exact W.zret (v := 1) hx hb hr rfl (fun t ht hW => ⟨1, rfl, ⟨(by first | decide | omega), (Or.inl ⟨rfl, by omega⟩)⟩, ht⟩) (fun _ h => by cases h) dX4_has_17
set_option maxHeartbeats 4000000 in
set_option maxRecDepth 100000 in
theorem t_X4_at (l : Launch) (dC : Nat → ClassId) (dI : Nat → Nat → Nat) (sz : Nat) (Ω : Nat → (Nat → Nat) → va_E → Prop) (κ : Nat → ClassId) (τ ν : Nat → Nat) (ρ : Nat → Nat → Nat) (L : List Nat) (f : Nat → va_E) (hG : tp_G τ ν ρ L) (hT : tp_T Ω κ τ ν ρ f) (h0 : Nat) (v : Int32) (u : Int32) (ht_h0 : τ h0 = 5) (h0_x0 : Int32) (h0_x2 : Int32) (hf_h0 : f h0 = .inr (4, [.int h0_x0, .ref (ρ h0 1), .int h0_x2])) : Met l yX4_at wqX4_at ({ frames := 2, cells := 0, slots := 0, locals := 400 }) (va_Pc [.ref h0, .int v, .int u] (pz_B dC dI (tp_K κ) (va_pl L f) sz)) (vp_Sl (fun r => True ∧ True)) 0 0 (fun _ => False) := by
  refine Met.ofW (cc := cX4_at) (maxL := 4) (ret := some .long) (by decide) rfl ?_
  intro p e s m args below meth c s₁ B hml hv
  obtain ⟨rfl, hsz, hP, hK, hD0, hN⟩ := hv
  have hx := B.exec
  have hb := B.bytes
  have hr := B.returns
  have hts := fun (w : Cond) (h : w ∈ WALL) => atoms_spec (ws := wqX4_at) B.pre w (List.mem_cons_of_mem _ h)
  have hown : s.vm.findClass RX4 = some m.cls := findClass_of_methodNamed B.named
  have hlocks := B.notSynchronized
  subst hsz
  have hD := hD0
  have hS : va_S (fun _ => True) s.heap s.heap [] := va_S.rf
  have hl := lv_entry ([.ref h0, .int v, .int u]) (n := 4) (Nat.le_of_ble_eq_true rfl)
  rw [lg_entry_eq]
  generalize (lg_sl ([.ref h0, .int v, .int u]) ++ List.replicate (4 - (lg_sl ([.ref h0, .int v, .int u])).length) Slot.unset).toArray = ls at hl ⊢
  have hl : lv_has ls 4 [(0, .ref h0), (1, .int v), (2, .int u)] := hl
  refine tpk_5 hT ht_h0 (fun h0z_x0 h0z_x2 hfz_h0 rzh0_0 rzh0_1 => ?_)
  obtain ⟨rfl, rfl⟩ := tp_same5 hf_h0 hfz_h0
  refine lv_iload_n hx hb dX4_at_0 rfl (lv_at hl 1 rfl) ?_
  refine lv_if_lt (tgt := 28) hx hb dX4_at_1 (by decide) (fun c1 => ?_) (fun c1 => ?_)
  · have ic1 : v.toInt < 0 := zi_lt rfl rfl c1
    refine lv_iconst (v := 0) hx hb dX4_at_28 (by decide) ?_
    refine lv_istore_n (lv' := [(3, .int 0), (0, .ref h0), (1, .int v), (2, .int u)]) hx hb dX4_at_29 rfl hl (by decide) rfl (fun ls hl => ?_)
    refine lv_iload_n hx hb dX4_at_30 rfl (lv_at hl 0 rfl) ?_
    refine lv_if_eq (tgt := 50) hx hb dX4_at_31 (by decide) (fun _ => ?_) (fun c9 => absurd c9 (by decide))
    refine lv_lconst (v := 0) hx hb dX4_at_50 (by decide) ?_
    exact W.lret (v := 0) hx hb hr (fun t ht hW => ⟨0, rfl, ⟨trivial, trivial⟩, ht⟩) (fun _ h => by cases h) dX4_at_51
  · have ic1 : v.toInt ≥ 0 := zi_ltf rfl rfl c1
    refine lv_iload_n hx hb dX4_at_4 rfl (lv_at hl 1 rfl) ?_
    refine lv_aload_n hx hb dX4_at_5 rfl (lv_at hl 0 rfl) ?_
    refine tpk_pos (tp_in hG ht_h0 (by decide)) hf_h0 (fun q2 eq2 => ?_)
    refine va_get (D := (dC, dI)) (ci := 4) (v := .int h0_x2) (C := RX4) (T := TX4) (N := 3) hx hb hts hfX4 hown hK hP q2 eq2 rfl 2 (by decide) (hts (.fieldLink RX4 25 "ColdShips$Rows" "size" "I") wa_517) (fun _ h9 => h9) rfl dX4_at_6 ?_
    refine lv_icmp_ge (tgt := 28) hx hb dX4_at_9 (by decide) (fun c3 => ?_) (fun c3 => ?_)
    · have ic3 : v.toInt ≥ h0_x2.toInt := zi_ge rfl rfl c3
      refine lv_iconst (v := 0) hx hb dX4_at_28 (by decide) ?_
      refine lv_istore_n (lv' := [(3, .int 0), (0, .ref h0), (1, .int v), (2, .int u)]) hx hb dX4_at_29 rfl hl (by decide) rfl (fun ls hl => ?_)
      refine lv_iload_n hx hb dX4_at_30 rfl (lv_at hl 0 rfl) ?_
      refine lv_if_eq (tgt := 50) hx hb dX4_at_31 (by decide) (fun _ => ?_) (fun c9 => absurd c9 (by decide))
      refine lv_lconst (v := 0) hx hb dX4_at_50 (by decide) ?_
      exact W.lret (v := 0) hx hb hr (fun t ht hW => ⟨0, rfl, ⟨trivial, trivial⟩, ht⟩) (fun _ h => by cases h) dX4_at_51
    · have ic3 : v.toInt < h0_x2.toInt := zi_gef rfl rfl c3
      refine lv_iload_n hx hb dX4_at_12 rfl (lv_at hl 2 rfl) ?_
      refine lv_if_lt (tgt := 28) hx hb dX4_at_13 (by decide) (fun c4 => ?_) (fun c4 => ?_)
      · have ic4 : u.toInt < 0 := zi_lt rfl rfl c4
        refine lv_iconst (v := 0) hx hb dX4_at_28 (by decide) ?_
        refine lv_istore_n (lv' := [(3, .int 0), (0, .ref h0), (1, .int v), (2, .int u)]) hx hb dX4_at_29 rfl hl (by decide) rfl (fun ls hl => ?_)
        refine lv_iload_n hx hb dX4_at_30 rfl (lv_at hl 0 rfl) ?_
        refine lv_if_eq (tgt := 50) hx hb dX4_at_31 (by decide) (fun _ => ?_) (fun c9 => absurd c9 (by decide))
        refine lv_lconst (v := 0) hx hb dX4_at_50 (by decide) ?_
        exact W.lret (v := 0) hx hb hr (fun t ht hW => ⟨0, rfl, ⟨trivial, trivial⟩, ht⟩) (fun _ h => by cases h) dX4_at_51
      · have ic4 : u.toInt ≥ 0 := zi_ltf rfl rfl c4
        refine lv_iload_n hx hb dX4_at_16 rfl (lv_at hl 2 rfl) ?_
        refine lv_aload_n hx hb dX4_at_17 rfl (lv_at hl 0 rfl) ?_
        refine va_get (D := (dC, dI)) (ci := 4) (v := .int h0_x0) (C := RX4) (T := TX4) (N := 3) hx hb hts hfX4 hown hK hP q2 eq2 rfl 0 (by decide) (hts (.fieldLink RX4 15 "ColdShips$Rows" "width" "I") wa_81) (fun _ h9 => h9) rfl dX4_at_18 ?_
        refine lv_icmp_ge (tgt := 28) hx hb dX4_at_21 (by decide) (fun c5 => ?_) (fun c5 => ?_)
        · have ic5 : u.toInt ≥ h0_x0.toInt := zi_ge rfl rfl c5
          refine lv_iconst (v := 0) hx hb dX4_at_28 (by decide) ?_
          refine lv_istore_n (lv' := [(3, .int 0), (0, .ref h0), (1, .int v), (2, .int u)]) hx hb dX4_at_29 rfl hl (by decide) rfl (fun ls hl => ?_)
          refine lv_iload_n hx hb dX4_at_30 rfl (lv_at hl 0 rfl) ?_
          refine lv_if_eq (tgt := 50) hx hb dX4_at_31 (by decide) (fun _ => ?_) (fun c9 => absurd c9 (by decide))
          refine lv_lconst (v := 0) hx hb dX4_at_50 (by decide) ?_
          exact W.lret (v := 0) hx hb hr (fun t ht hW => ⟨0, rfl, ⟨trivial, trivial⟩, ht⟩) (fun _ h => by cases h) dX4_at_51
        · have ic5 : u.toInt < h0_x0.toInt := zi_gef rfl rfl c5
          refine lv_iconst (v := 1) hx hb dX4_at_24 (by decide) ?_
          refine lv_goto (tgt := 29) hx hb dX4_at_25 (by decide) ?_
          refine lv_istore_n (lv' := [(3, .int 1), (0, .ref h0), (1, .int v), (2, .int u)]) hx hb dX4_at_29 rfl hl (by decide) rfl (fun ls hl => ?_)
          refine lv_iload_n hx hb dX4_at_30 rfl (lv_at hl 0 rfl) ?_
          refine lv_if_eq (tgt := 50) hx hb dX4_at_31 (by decide) (fun c9 => absurd c9 (by decide)) (fun _ => ?_)
          refine lv_aload_n hx hb dX4_at_34 rfl (lv_at hl 1 rfl) ?_
          refine va_get (D := (dC, dI)) (ci := 4) (v := .ref (ρ h0 1)) (C := RX4) (T := TX4) (N := 3) hx hb hts hfX4 hown hK hP q2 eq2 rfl 1 (by decide) (hts (.fieldLink RX4 21 "ColdShips$Rows" "cells" "[J") wa_83) (fun _ h9 => h9) rfl dX4_at_35 ?_
          refine lv_iload_n hx hb dX4_at_38 rfl (lv_at hl 2 rfl) ?_
          refine lv_aload_n hx hb dX4_at_39 rfl (lv_at hl 1 rfl) ?_
          refine va_get (D := (dC, dI)) (ci := 4) (v := .int h0_x0) (C := RX4) (T := TX4) (N := 3) hx hb hts hfX4 hown hK hP q2 eq2 rfl 0 (by decide) (hts (.fieldLink RX4 15 "ColdShips$Rows" "width" "I") wa_81) (fun _ h9 => h9) rfl dX4_at_40 ?_
          refine lv_imul hx hb dX4_at_43 ?_
          refine lv_topi (fun z6 ez6 => ?_)
          refine tgk_5 hG ht_h0 (fun y7 y7n y8a y8b y8c => ?_)
          have jz6 := tp_rowN y7n y8b y8c (r := v.toInt) (c := u.toInt) (by omega) (by omega) (by omega) (by omega)
          have iz6 : z6.toInt = v.toInt * (ρ h0 10 : Int) := zi_mul ez6 rfl rzh0_0 (by omega) (by omega)
          refine lv_iload_n hx hb dX4_at_44 rfl (lv_at hl 3 rfl) ?_
          refine lv_iadd hx hb dX4_at_45 ?_
          refine lv_topi (fun z9 ez9 => ?_)
          have iz9 : z9.toInt = z6.toInt + u.toInt := zi_add ez9 rfl rfl (by omega) (by omega)
          refine tpk_21 hT y7 rfl (fun g11 hf_o10 => ?_)
          refine tpk_pos (tp_in hG y7 (by decide)) hf_o10 (fun q12 eq12 => ?_)
          refine va_lald hx hb hK hP q12 1 eq12 rfl (vp_in_iff.mpr ⟨by omega, by omega⟩) dX4_at_46 ?_
          refine lv_topl (fun z13 ez13 => ?_)
          refine lv_goto (tgt := 51) hx hb dX4_at_47 (by decide) ?_
          exact W.lret (v := z13) hx hb hr (fun t ht hW => ⟨z13, rfl, ⟨trivial, trivial⟩, ht⟩) (fun _ h => by cases h) dX4_at_51
set_option maxHeartbeats 4000000 in
set_option maxRecDepth 100000 in
theorem t_X4_number (l : Launch) (dC : Nat → ClassId) (dI : Nat → Nat → Nat) (sz : Nat) (Ω : Nat → (Nat → Nat) → va_E → Prop) (κ : Nat → ClassId) (τ ν : Nat → Nat) (ρ : Nat → Nat → Nat) (L : List Nat) (f : Nat → va_E) (hG : tp_G τ ν ρ L) (hT : tp_T Ω κ τ ν ρ f) (h0 : Nat) (v : Int32) (u : Int32) (ht_h0 : τ h0 = 5) : Met l yX4_number wqX4_number ({ frames := 3, cells := 0, slots := 0, locals := 800 }) (va_Pc [.ref h0, .int v, .int u] (pz_B dC dI (tp_K κ) (va_pl L f) sz)) (vp_Si (fun r => True ∧ True)) 0 0 (fun _ => False) := by
  refine Met.ofW (cc := cX4_number) (maxL := 3) (ret := some .int) (by decide) rfl ?_
  intro p e s m args below meth c s₁ B hml hv
  obtain ⟨rfl, hsz, hP, hK, hD0, hN⟩ := hv
  have hx := B.exec
  have hb := B.bytes
  have hr := B.returns
  have hts := fun (w : Cond) (h : w ∈ WALL) => atoms_spec (ws := wqX4_number) B.pre w (List.mem_cons_of_mem _ h)
  have hown : s.vm.findClass RX4 = some m.cls := findClass_of_methodNamed B.named
  have hlocks := B.notSynchronized
  subst hsz
  have hD := hD0
  have hS : va_S (fun _ => True) s.heap s.heap [] := va_S.rf
  have hl := lv_entry ([.ref h0, .int v, .int u]) (n := 3) (Nat.le_of_ble_eq_true rfl)
  rw [lg_entry_eq]
  generalize (lg_sl ([.ref h0, .int v, .int u]) ++ List.replicate (3 - (lg_sl ([.ref h0, .int v, .int u])).length) Slot.unset).toArray = ls at hl ⊢
  have hl : lv_has ls 3 [(0, .ref h0), (1, .int v), (2, .int u)] := hl
  refine lv_aload_n hx hb dX4_number_0 rfl (lv_at hl 0 rfl) ?_
  refine lv_iload_n hx hb dX4_number_1 rfl (lv_at hl 1 rfl) ?_
  refine lv_iload_n hx hb dX4_number_2 rfl (lv_at hl 2 rfl) ?_
  refine tgk_5 hG ht_h0 (fun y1 y1n y2a y2b y2c => ?_)
  refine tpk_5 hT ht_h0 (fun o3_x0 o3_x2 hf_o3 ro3_0 ro3_1 => ?_)
  refine tpk_pos (tp_in hG ht_h0 (by decide)) hf_o3 (fun q4 eq4 => ?_)
  refine pz_calll (va_runV (As := [.int v, .int u]) (rest := []) ⟨hx, hb, hml, hown, hts⟩ (t_X4_at l dC dI _ Ω κ τ ν ρ L f hG hT h0 v u ht_h0 o3_x0 o3_x2 hf_o3) (cwV 2 hts gX4_number_X4_at rfl rfl rfl ⟨rfl, pd_X4_at⟩ ⟨Nat.le_of_ble_eq_true rfl, Nat.le_of_ble_eq_true rfl⟩) ⟨pz_blind, va_recv hK hP (ci := 4) (q0 := q4) rfl eq4, pz_pre hP hK hD hN⟩ rfl rfl hl.1 rfl (lv_room (Nat.le_of_ble_eq_true rfl)) dX4_number_3 ⟨Nat.le_of_ble_eq_true rfl, Nat.le_of_ble_eq_true rfl⟩) (fun r5 hw6 => ?_)
  obtain ⟨hw6r, hw6p⟩ := hw6
  refine lv_l2i hx hb dX4_number_6 rfl ?_
  refine lv_topi (fun z7 ez7 => ?_)
  exact W.iret (v := z7) hx hb hr (fun t ht hW => ⟨z7, rfl, ⟨trivial, trivial⟩, ht⟩) (fun _ h => by cases h) dX4_number_7
set_option maxHeartbeats 4000000 in
set_option maxRecDepth 100000 in
theorem t_X4_set (l : Launch) (dC : Nat → ClassId) (dI : Nat → Nat → Nat) (sz : Nat) (Ω : Nat → (Nat → Nat) → va_E → Prop) (κ : Nat → ClassId) (τ ν : Nat → Nat) (ρ : Nat → Nat → Nat) (L : List Nat) (f : Nat → va_E) (hG : tp_G τ ν ρ L) (hT : tp_T Ω κ τ ν ρ f) (h0 : Nat) (v : Int32) (u : Int32) (x : Int64) (ht_h0 : τ h0 = 5) (h0_x0 : Int32) (h0_x2 : Int32) (hf_h0 : f h0 = .inr (4, [.int h0_x0, .ref (ρ h0 1), .int h0_x2])) : Met l yX4_set wqX4_set ({ frames := 3, cells := 0, slots := 0, locals := 800 }) (va_Pc [.ref h0, .int v, .int u, .long x] (pz_B dC dI (tp_K κ) (va_pl L f) sz)) (va_Qv (fun (f1 : Nat → va_E) => tp_T Ω κ τ ν ρ f1 ∧ tp_F τ [21] f f1 ∧ True) (fun (f1 : Nat → va_E) (t : State) => pz_E dC dI (tp_K κ) (va_A (va_pl L f) sz) (va_pl L f1) t) (va_A (va_pl L f) sz)) 0 0 (va_A (va_pl L f) sz) := by
  refine Met.ofW (cc := cX4_set) (maxL := 5) (ret := none) (by decide) rfl ?_
  intro p e s m args below meth c s₁ B hml hv
  obtain ⟨rfl, hsz, hP, hK, hD0, hN⟩ := hv
  have hx := B.exec
  have hb := B.bytes
  have hr := B.returns
  have hts := fun (w : Cond) (h : w ∈ WALL) => atoms_spec (ws := wqX4_set) B.pre w (List.mem_cons_of_mem _ h)
  have hown : s.vm.findClass RX4 = some m.cls := findClass_of_methodNamed B.named
  have hlocks := B.notSynchronized
  subst hsz
  have hD := hD0.self (sz := s.heap.size)
  generalize hAe : va_A (va_pl L f) s.heap.size = A at hD ⊢
  have hA : ∀ q : Nat, s.heap.size ≤ q → A q := fun q h => by rw [← hAe]; exact Or.inr h
  have hS : va_S A s.heap s.heap [] := va_S.rf
  have hR : tp_F τ [21] f f := tp_F.rf
  have hl := lv_entry ([.ref h0, .int v, .int u, .long x]) (n := 5) (Nat.le_of_ble_eq_true rfl)
  rw [lg_entry_eq]
  generalize (lg_sl ([.ref h0, .int v, .int u, .long x]) ++ List.replicate (5 - (lg_sl ([.ref h0, .int v, .int u, .long x])).length) Slot.unset).toArray = ls at hl ⊢
  have hl : lv_has ls 5 [(0, .ref h0), (1, .int v), (2, .int u), (3, .long x)] := hl
  refine tpk_5 hT ht_h0 (fun h0z_x0 h0z_x2 hfz_h0 rzh0_0 rzh0_1 => ?_)
  obtain ⟨rfl, rfl⟩ := tp_same5 hf_h0 hfz_h0
  refine lv_aload_n hx hb dX4_set_0 rfl (lv_at hl 0 rfl) ?_
  refine lv_iload_n hx hb dX4_set_1 rfl (lv_at hl 1 rfl) ?_
  refine tpk_pos (tp_in hG ht_h0 (by decide)) hf_h0 (fun q1 eq1 => ?_)
  refine pz_calli (va_runV (As := [.int v]) (rest := []) ⟨hx, hb, hml, hown, hts⟩ (t_X4_has l dC dI _ Ω κ τ ν ρ L f hG hT h0 v ht_h0 h0_x0 h0_x2 hf_h0) (cwV 1 hts gX4_set_X4_has rfl rfl rfl ⟨rfl, pd_X4_has⟩ ⟨Nat.le_of_ble_eq_true rfl, Nat.le_of_ble_eq_true rfl⟩) ⟨pz_blind, va_recv hK hP (ci := 4) (q0 := q1) rfl eq1, pz_pre hP hK hD hN⟩ rfl rfl hl.1 rfl (lv_room (Nat.le_of_ble_eq_true rfl)) dX4_set_2 ⟨Nat.le_of_ble_eq_true rfl, Nat.le_of_ble_eq_true rfl⟩) (fun r2 hw3 => ?_)
  obtain ⟨hw3r, hw3p⟩ := hw3
  refine lv_if_eq (tgt := 34) hx hb dX4_set_5 (by decide) (fun c4 => ?_) (fun c4 => ?_)
  · have ic4 : r2.toInt = 0 := zi_eq rfl rfl c4
    exact W.vret hx hb hr (fun t ht hW => ⟨⟨f, rfl, ⟨hT, hR, trivial⟩, by rw [ht]; exact hP, va_K.moved hW.alike hK, hD⟩, hS.F ht⟩) hS.2.2 dX4_set_34
  · have ic4 : r2.toInt ≠ 0 := zi_eqf rfl rfl c4
    have p5 : 0 ≤ v.toInt ∧ v.toInt < h0_x2.toInt := (tp_cond.yes hw3p) (by omega)
    refine lv_iload_n hx hb dX4_set_8 rfl (lv_at hl 2 rfl) ?_
    refine lv_if_lt (tgt := 34) hx hb dX4_set_9 (by decide) (fun c6 => ?_) (fun c6 => ?_)
    · have ic6 : u.toInt < 0 := zi_lt rfl rfl c6
      exact W.vret hx hb hr (fun t ht hW => ⟨⟨f, rfl, ⟨hT, hR, trivial⟩, by rw [ht]; exact hP, va_K.moved hW.alike hK, hD⟩, hS.F ht⟩) hS.2.2 dX4_set_34
    · have ic6 : u.toInt ≥ 0 := zi_ltf rfl rfl c6
      refine lv_iload_n hx hb dX4_set_12 rfl (lv_at hl 2 rfl) ?_
      refine lv_aload_n hx hb dX4_set_13 rfl (lv_at hl 0 rfl) ?_
      refine va_get (D := (dC, dI)) (ci := 4) (v := .int h0_x0) (C := RX4) (T := TX4) (N := 3) hx hb hts hfX4 hown hK hP q1 eq1 rfl 0 (by decide) (hts (.fieldLink RX4 15 "ColdShips$Rows" "width" "I") wa_81) (fun _ h9 => h9) rfl dX4_set_14 ?_
      refine lv_icmp_ge (tgt := 34) hx hb dX4_set_17 (by decide) (fun c7 => ?_) (fun c7 => ?_)
      · have ic7 : u.toInt ≥ h0_x0.toInt := zi_ge rfl rfl c7
        exact W.vret hx hb hr (fun t ht hW => ⟨⟨f, rfl, ⟨hT, hR, trivial⟩, by rw [ht]; exact hP, va_K.moved hW.alike hK, hD⟩, hS.F ht⟩) hS.2.2 dX4_set_34
      · have ic7 : u.toInt < h0_x0.toInt := zi_gef rfl rfl c7
        refine lv_aload_n hx hb dX4_set_20 rfl (lv_at hl 0 rfl) ?_
        refine va_get (D := (dC, dI)) (ci := 4) (v := .ref (ρ h0 1)) (C := RX4) (T := TX4) (N := 3) hx hb hts hfX4 hown hK hP q1 eq1 rfl 1 (by decide) (hts (.fieldLink RX4 21 "ColdShips$Rows" "cells" "[J") wa_83) (fun _ h9 => h9) rfl dX4_set_21 ?_
        refine lv_iload_n hx hb dX4_set_24 rfl (lv_at hl 1 rfl) ?_
        refine lv_aload_n hx hb dX4_set_25 rfl (lv_at hl 0 rfl) ?_
        refine va_get (D := (dC, dI)) (ci := 4) (v := .int h0_x0) (C := RX4) (T := TX4) (N := 3) hx hb hts hfX4 hown hK hP q1 eq1 rfl 0 (by decide) (hts (.fieldLink RX4 15 "ColdShips$Rows" "width" "I") wa_81) (fun _ h9 => h9) rfl dX4_set_26 ?_
        refine lv_imul hx hb dX4_set_29 ?_
        refine lv_topi (fun z8 ez8 => ?_)
        refine tgk_5 hG ht_h0 (fun y9 y9n y10a y10b y10c => ?_)
        have jz8 := tp_rowN y9n y10b y10c (r := v.toInt) (c := u.toInt) (by omega) (by omega) (by omega) (by omega)
        have iz8 : z8.toInt = v.toInt * (ρ h0 10 : Int) := zi_mul ez8 rfl rzh0_0 (by omega) (by omega)
        refine lv_iload_n hx hb dX4_set_30 rfl (lv_at hl 2 rfl) ?_
        refine lv_iadd hx hb dX4_set_31 ?_
        refine lv_topi (fun z11 ez11 => ?_)
        have iz11 : z11.toInt = z8.toInt + u.toInt := zi_add ez11 rfl rfl (by omega) (by omega)
        refine lv_lload_n hx hb dX4_set_32 rfl (lv_at hl 3 rfl) ?_
        refine tpk_21 hT y9 rfl (fun g13 hf_o12 => ?_)
        refine tpk_pos (tp_in hG y9 (by decide)) hf_o12 (fun q14 eq14 => ?_)
        refine va_last hx hb hK hP hD hS q14 1 eq14 rfl (vp_in_iff.mpr ⟨by omega, by omega⟩) dX4_set_33 (tp_k (.inl (κ 1, (ν (ρ h0 1)), .inr (.inl (vp_updL g13 z11.toNatClampNeg x)))) hD (tp_in hG y9 (by decide)) eq14 (fun f15 H locs hP hD hS g17 k16 => ?_))
        have hT := hT.up y9 g17 k16 (tp_o21 rfl)
        have hR := hR.up y9 (by decide) k16
        generalize (vp_updL g13 z11.toNatClampNeg x) = g18 at g17
        exact W.vret hx hb hr (fun t ht hW => ⟨⟨f15, rfl, ⟨hT, hR, trivial⟩, by rw [ht]; exact hP, va_K.moved hW.alike hK, hD⟩, hS.F ht⟩) hS.2.2 dX4_set_34
set_option maxHeartbeats 4000000 in
set_option maxRecDepth 100000 in
theorem t_X6_add (l : Launch) (dC : Nat → ClassId) (dI : Nat → Nat → Nat) (sz : Nat) (Ω : Nat → (Nat → Nat) → va_E → Prop) (κ : Nat → ClassId) (τ ν : Nat → Nat) (ρ : Nat → Nat → Nat) (L : List Nat) (f : Nat → va_E) (hG : tp_G τ ν ρ L) (hT : tp_T Ω κ τ ν ρ f) (h0 : Nat) (v : Int32) (a : Int32) (b : Int32) (ht_h0 : τ h0 = 7) (h0_x3 : Int32) (hf_h0 : f h0 = .inr (6, [.ref (ρ h0 0), .ref (ρ h0 1), .ref (ρ h0 2), .int h0_x3])) : Met l yX6_add wqX6_add ({ frames := 2, cells := 0, slots := 0, locals := 400 }) (va_Pc [.ref h0, .int v, .int a, .int b] (pz_B dC dI (tp_K κ) (va_pl L f) sz)) (va_Qi (fun (r : Int32) (f1 : Nat → va_E) => tp_T Ω κ τ ν ρ f1 ∧ tp_F τ [7, 20] f f1 ∧ True ∧ True) (fun (f1 : Nat → va_E) (t : State) => pz_E dC dI (tp_K κ) (va_A (va_pl L f) sz) (va_pl L f1) t) (va_A (va_pl L f) sz)) 0 0 (va_A (va_pl L f) sz) := by
  refine Met.ofW (cc := cX6_add) (maxL := 5) (ret := some .int) (by decide) rfl ?_
  intro p e s m args below meth c s₁ B hml hv
  obtain ⟨rfl, hsz, hP, hK, hD0, hN⟩ := hv
  have hx := B.exec
  have hb := B.bytes
  have hr := B.returns
  have hts := fun (w : Cond) (h : w ∈ WALL) => atoms_spec (ws := wqX6_add) B.pre w (List.mem_cons_of_mem _ h)
  have hown : s.vm.findClass RX6 = some m.cls := findClass_of_methodNamed B.named
  have hlocks := B.notSynchronized
  subst hsz
  have hD := hD0.self (sz := s.heap.size)
  generalize hAe : va_A (va_pl L f) s.heap.size = A at hD ⊢
  have hA : ∀ q : Nat, s.heap.size ≤ q → A q := fun q h => by rw [← hAe]; exact Or.inr h
  have hS : va_S A s.heap s.heap [] := va_S.rf
  have hR : tp_F τ [7, 20] f f := tp_F.rf
  have hl := lv_entry ([.ref h0, .int v, .int a, .int b]) (n := 5) (Nat.le_of_ble_eq_true rfl)
  rw [lg_entry_eq]
  generalize (lg_sl ([.ref h0, .int v, .int a, .int b]) ++ List.replicate (5 - (lg_sl ([.ref h0, .int v, .int a, .int b])).length) Slot.unset).toArray = ls at hl ⊢
  have hl : lv_has ls 5 [(0, .ref h0), (1, .int v), (2, .int a), (3, .int b)] := hl
  refine tpk_7 hT ht_h0 (fun h0z_x3 hfz_h0 rzh0_0 => ?_)
  obtain ⟨rfl⟩ := tp_same7 hf_h0 hfz_h0
  refine lv_aload_n hx hb dX6_add_0 rfl (lv_at hl 0 rfl) ?_
  refine tpk_pos (tp_in hG ht_h0 (by decide)) hf_h0 (fun q1 eq1 => ?_)
  refine va_get (D := (dC, dI)) (ci := 6) (v := .int h0_x3) (C := RX6) (T := TX6) (N := 4) hx hb hts hfX6 hown hK hP q1 eq1 rfl 3 (by decide) (hts (.fieldLink RX6 27 "ColdShips$Spans" "size" "I") wa_338) (fun _ h9 => h9) rfl dX6_add_1 ?_
  refine lv_aload_n hx hb dX6_add_4 rfl (lv_at hl 0 rfl) ?_
  refine va_get (D := (dC, dI)) (ci := 6) (v := .ref (ρ h0 0)) (C := RX6) (T := TX6) (N := 4) hx hb hts hfX6 hown hK hP q1 eq1 rfl 0 (by decide) (hts (.fieldLink RX6 15 "ColdShips$Spans" "owners" "[I") wa_73) (fun _ h9 => h9) rfl dX6_add_5 ?_
  refine tgk_7 hG ht_h0 (fun y2 y2n y3 y3n y4 y4n => ?_)
  refine tpk_20 hT y2 rfl (fun g6 hf_o5 => ?_)
  refine tpk_pos (tp_in hG y2 (by decide)) hf_o5 (fun q7 eq7 => ?_)
  obtain ⟨z8, ez8⟩ : ∃ y : Int32, y = Int32.ofNat (ν (ρ h0 0)) := ⟨_, rfl⟩
  have iz8 : z8.toInt = ((ν (ρ h0 0)) : Int) := zi_ofNat ez8 (by omega)
  refine va_alen hx hb hK hP q7 0 eq7 rfl ez8.symm dX6_add_8 ?_
  refine lv_icmp_lt (tgt := 14) hx hb dX6_add_9 (by decide) (fun c9 => ?_) (fun c9 => ?_)
  · have ic9 : h0_x3.toInt < z8.toInt := zi_lt rfl rfl c9
    refine lv_aload_n hx hb dX6_add_14 rfl (lv_at hl 0 rfl) ?_
    refine va_get (D := (dC, dI)) (ci := 6) (v := .int h0_x3) (C := RX6) (T := TX6) (N := 4) hx hb hts hfX6 hown hK hP q1 eq1 rfl 3 (by decide) (hts (.fieldLink RX6 27 "ColdShips$Spans" "size" "I") wa_338) (fun _ h9 => h9) rfl dX6_add_15 ?_
    refine lv_istore (lv' := [(4, .int h0_x3), (0, .ref h0), (1, .int v), (2, .int a), (3, .int b)]) hx hb dX6_add_18 hl (by decide) rfl (fun ls hl => ?_)
    refine pz_loop (fun n0 H locs ls => ∃ f13 : Nat → va_E, ∃ w10 : Int32, n0 = ((w10.toInt)).toNat ∧ tp_T Ω κ τ ν ρ f13 ∧ tp_F τ [7, 20] f f13 ∧ f13 h0 = .inr (6, [.ref (ρ h0 0), .ref (ρ h0 1), .ref (ρ h0 2), .int h0_x3]) ∧ (0 ≤ w10.toInt ∧ w10.toInt ≤ 60) ∧ ((w10.toInt) ≤ h0_x3.toInt) ∧ va_P (dC, dI) vwCl (va_pl L f13) H ∧ va_D A (va_pl L f13) ∧ va_S A s.heap H locs ∧ lv_has ls 5 [(4, .int w10), (0, .ref h0), (1, .int v), (2, .int a), (3, .int b)]) ?_ _ _ _ _ ⟨f, h0_x3, rfl, hT, hR, hf_h0, (by omega), (by omega), hP, hD, hS, lv_sub hl [0, 1, 2, 3, 4] rfl⟩
    intro n0 H locs ls hI ih14
    refine Exists.elim hI (fun f13 hE90 => Exists.elim hE90 (fun w10 hE91 => tn_10 hE91 (fun hn15 hT hR hk12k rw10 k11 hP hD hS hl => ?_)))
    clear hE91 hE90 hI
    refine lv_iload hx hb dX6_add_20 (lv_at hl 0 rfl) ?_
    refine tp_join 92 (fun H locs ls stk => stk = [] ∧ va_P (dC, dI) vwCl (va_pl L f13) H ∧ va_D A (va_pl L f13) ∧ va_S A s.heap H locs ∧ lv_has ls 5 [(4, .int w10), (0, .ref h0), (1, .int v), (2, .int a), (3, .int b)]) ?_ (fun hj16 => ?_)
    · intro H locs ls stk hI
      refine tn_5 hI (fun e90 hP hD hS hl => ?_)
      clear hI; subst e90
      refine lv_aload_n hx hb dX6_add_92 rfl (lv_at hl 1 rfl) ?_
      refine tpk_pos (tp_in hG ht_h0 (by decide)) hk12k (fun q17 eq17 => ?_)
      refine va_get (D := (dC, dI)) (ci := 6) (v := .ref (ρ h0 0)) (C := RX6) (T := TX6) (N := 4) hx hb hts hfX6 hown hK hP q17 eq17 rfl 0 (by decide) (hts (.fieldLink RX6 15 "ColdShips$Spans" "owners" "[I") wa_73) (fun _ h9 => h9) rfl dX6_add_93 ?_
      refine lv_iload hx hb dX6_add_96 (lv_at hl 0 rfl) ?_
      refine lv_iload_n hx hb dX6_add_98 rfl (lv_at hl 2 rfl) ?_
      refine tpk_20 hT y2 rfl (fun g19 hf_o18 => ?_)
      refine tpk_pos (tp_in hG y2 (by decide)) hf_o18 (fun q20 eq20 => ?_)
      refine va_iast hx hb hK hP hD hS q20 0 eq20 rfl (vp_in_iff.mpr ⟨by omega, by omega⟩) dX6_add_99 (tp_k (.inl (κ 0, (ν (ρ h0 0)), .inl (upd g19 w10.toNatClampNeg v))) hD (tp_in hG y2 (by decide)) eq20 (fun f21 H locs hP hD hS g23 k22 => ?_))
      have hT := hT.up y2 g23 k22 (tp_o20 rfl)
      have hR := hR.up y2 (by decide) k22
      generalize (upd g19 w10.toNatClampNeg v) = g24 at g23
      refine lv_aload_n hx hb dX6_add_100 rfl (lv_at hl 1 rfl) ?_
      have hf_25 : f21 h0 = .inr (6, [.ref (ρ h0 0), .ref (ρ h0 1), .ref (ρ h0 2), .int h0_x3]) := (k22 _ (tp_ne ht_h0 y2 (by decide))).trans hk12k
      refine tpk_pos (tp_in hG ht_h0 (by decide)) hf_25 (fun q26 eq26 => ?_)
      refine va_get (D := (dC, dI)) (ci := 6) (v := .ref (ρ h0 1)) (C := RX6) (T := TX6) (N := 4) hx hb hts hfX6 hown hK hP q26 eq26 rfl 1 (by decide) (hts (.fieldLink RX6 21 "ColdShips$Spans" "begins" "[I") wa_74) (fun _ h9 => h9) rfl dX6_add_101 ?_
      refine lv_iload hx hb dX6_add_104 (lv_at hl 0 rfl) ?_
      refine lv_iload_n hx hb dX6_add_106 rfl (lv_at hl 3 rfl) ?_
      refine tpk_20 hT y3 y3n (fun g28 hf_o27 => ?_)
      refine tpk_pos (tp_in hG y3 (by decide)) hf_o27 (fun q29 eq29 => ?_)
      refine va_iast hx hb hK hP hD hS q29 0 eq29 rfl (vp_in_iff.mpr ⟨by omega, by omega⟩) dX6_add_107 (tp_k (.inl (κ 0, (ν (ρ h0 0)), .inl (upd g28 w10.toNatClampNeg a))) hD (tp_in hG y3 (by decide)) eq29 (fun f30 H locs hP hD hS g32 k31 => ?_))
      have hT := hT.up y3 g32 k31 (tp_o20 y3n)
      have hR := hR.up y3 (by decide) k31
      generalize (upd g28 w10.toNatClampNeg a) = g33 at g32
      refine lv_aload_n hx hb dX6_add_108 rfl (lv_at hl 1 rfl) ?_
      have hf_34 : f30 h0 = .inr (6, [.ref (ρ h0 0), .ref (ρ h0 1), .ref (ρ h0 2), .int h0_x3]) := (k31 _ (tp_ne ht_h0 y3 (by decide))).trans hf_25
      refine tpk_pos (tp_in hG ht_h0 (by decide)) hf_34 (fun q35 eq35 => ?_)
      refine va_get (D := (dC, dI)) (ci := 6) (v := .ref (ρ h0 2)) (C := RX6) (T := TX6) (N := 4) hx hb hts hfX6 hown hK hP q35 eq35 rfl 2 (by decide) (hts (.fieldLink RX6 24 "ColdShips$Spans" "ends" "[I") wa_75) (fun _ h9 => h9) rfl dX6_add_109 ?_
      refine lv_iload hx hb dX6_add_112 (lv_at hl 0 rfl) ?_
      refine lv_iload_n hx hb dX6_add_114 rfl (lv_at hl 4 rfl) ?_
      refine tpk_20 hT y4 y4n (fun g37 hf_o36 => ?_)
      refine tpk_pos (tp_in hG y4 (by decide)) hf_o36 (fun q38 eq38 => ?_)
      refine va_iast hx hb hK hP hD hS q38 0 eq38 rfl (vp_in_iff.mpr ⟨by omega, by omega⟩) dX6_add_115 (tp_k (.inl (κ 0, (ν (ρ h0 0)), .inl (upd g37 w10.toNatClampNeg b))) hD (tp_in hG y4 (by decide)) eq38 (fun f39 H locs hP hD hS g41 k40 => ?_))
      have hT := hT.up y4 g41 k40 (tp_o20 y4n)
      have hR := hR.up y4 (by decide) k40
      generalize (upd g37 w10.toNatClampNeg b) = g42 at g41
      refine lv_aload_n hx hb dX6_add_116 rfl (lv_at hl 1 rfl) ?_
      refine lv_dup hx hb dX6_add_117 rfl ?_
      have hf_43 : f39 h0 = .inr (6, [.ref (ρ h0 0), .ref (ρ h0 1), .ref (ρ h0 2), .int h0_x3]) := (k40 _ (tp_ne ht_h0 y4 (by decide))).trans hf_34
      refine tpk_pos (tp_in hG ht_h0 (by decide)) hf_43 (fun q44 eq44 => ?_)
      refine va_get (D := (dC, dI)) (ci := 6) (v := .int h0_x3) (C := RX6) (T := TX6) (N := 4) hx hb hts hfX6 hown hK hP q44 eq44 rfl 3 (by decide) (hts (.fieldLink RX6 27 "ColdShips$Spans" "size" "I") wa_338) (fun _ h9 => h9) rfl dX6_add_118 ?_
      refine lv_iconst (v := 1) hx hb dX6_add_121 (by decide) ?_
      refine lv_iadd hx hb dX6_add_122 ?_
      refine lv_topi (fun z45 ez45 => ?_)
      have iz45 : z45.toInt = h0_x3.toInt + 1 := zi_add ez45 rfl rfl (by omega) (by omega)
      refine va_put (D := (dC, dI)) (ci := 6) (v := .int z45) (ty := .int) (C := RX6) (T := TX6) (N := 4) hx hb hts hfX6 tyX6 tyX6_ok nmX6 hown hK hP hD hS q44 eq44 rfl 3 (by decide) (hts (.fieldLink RX6 27 "ColdShips$Spans" "size" "I") wa_338) (fun _ h9 => h9) rfl (tyX6_ok 3 (by decide)) rfl rfl (Nat.le_of_ble_eq_true rfl) dX6_add_123 (tp_k (.inr (6, [.ref (ρ h0 0), .ref (ρ h0 1), .ref (ρ h0 2), .int z45])) hD (tp_in hG ht_h0 (by decide)) eq44 (fun f46 H locs hP hD hS g48 k47 => ?_))
      have hT := hT.up ht_h0 g48 k47 ⟨_, rfl, (by first | decide | omega | (omega))⟩
      have hR := hR.up ht_h0 (by decide) k47
      refine lv_aload_n hx hb dX6_add_126 rfl (lv_at hl 1 rfl) ?_
      refine tpk_pos (tp_in hG ht_h0 (by decide)) g48 (fun q49 eq49 => ?_)
      refine va_get (D := (dC, dI)) (ci := 6) (v := .int z45) (C := RX6) (T := TX6) (N := 4) hx hb hts hfX6 hown hK hP q49 eq49 rfl 3 (by decide) (hts (.fieldLink RX6 27 "ColdShips$Spans" "size" "I") wa_338) (fun _ h9 => h9) rfl dX6_add_127 ?_
      exact W.iret (v := z45) hx hb hr (fun t ht hW => ⟨⟨z45, f46, rfl, ⟨hT, hR, trivial, trivial⟩, by rw [ht]; exact hP, va_K.moved hW.alike hK, hD⟩, hS.F ht⟩) hS.2.2 dX6_add_130
    · refine lv_if_le (tgt := 92) hx hb dX6_add_22 (by decide) (fun c50 => ?_) (fun c50 => ?_)
      · have ic50 : w10.toInt ≤ 0 := zi_le rfl rfl c50
        exact hj16 _ _ _ _ ⟨rfl, hP, hD, hS, lv_sub hl [0, 1, 2, 3, 4] rfl⟩
      · have ic50 : w10.toInt > 0 := zi_lef rfl rfl c50
        refine lv_aload_n hx hb dX6_add_25 rfl (lv_at hl 1 rfl) ?_
        refine tpk_pos (tp_in hG ht_h0 (by decide)) hk12k (fun q51 eq51 => ?_)
        refine va_get (D := (dC, dI)) (ci := 6) (v := .ref (ρ h0 1)) (C := RX6) (T := TX6) (N := 4) hx hb hts hfX6 hown hK hP q51 eq51 rfl 1 (by decide) (hts (.fieldLink RX6 21 "ColdShips$Spans" "begins" "[I") wa_74) (fun _ h9 => h9) rfl dX6_add_26 ?_
        refine lv_iload hx hb dX6_add_29 (lv_at hl 0 rfl) ?_
        refine lv_iconst (v := 1) hx hb dX6_add_31 (by decide) ?_
        refine lv_isub hx hb dX6_add_32 ?_
        refine lv_topi (fun z52 ez52 => ?_)
        have iz52 : z52.toInt = w10.toInt - 1 := zi_sub ez52 rfl rfl (by omega) (by omega)
        refine tpk_20 hT y3 y3n (fun g54 hf_o53 => ?_)
        refine tpk_pos (tp_in hG y3 (by decide)) hf_o53 (fun q55 eq55 => ?_)
        refine va_iald hx hb hK hP q55 0 eq55 rfl (vp_in_iff.mpr ⟨by omega, by omega⟩) dX6_add_33 ?_
        refine lv_topi (fun z56 ez56 => ?_)
        refine lv_iload_n hx hb dX6_add_34 rfl (lv_at hl 3 rfl) ?_
        refine lv_icmp_le (tgt := 92) hx hb dX6_add_35 (by decide) (fun c57 => ?_) (fun c57 => ?_)
        · have ic57 : z56.toInt ≤ a.toInt := zi_le rfl rfl c57
          exact hj16 _ _ _ _ ⟨rfl, hP, hD, hS, lv_sub hl [0, 1, 2, 3, 4] rfl⟩
        · have ic57 : z56.toInt > a.toInt := zi_lef rfl rfl c57
          refine lv_aload_n hx hb dX6_add_38 rfl (lv_at hl 1 rfl) ?_
          refine va_get (D := (dC, dI)) (ci := 6) (v := .ref (ρ h0 0)) (C := RX6) (T := TX6) (N := 4) hx hb hts hfX6 hown hK hP q51 eq51 rfl 0 (by decide) (hts (.fieldLink RX6 15 "ColdShips$Spans" "owners" "[I") wa_73) (fun _ h9 => h9) rfl dX6_add_39 ?_
          refine lv_iload hx hb dX6_add_42 (lv_at hl 0 rfl) ?_
          refine lv_aload_n hx hb dX6_add_44 rfl (lv_at hl 1 rfl) ?_
          refine va_get (D := (dC, dI)) (ci := 6) (v := .ref (ρ h0 0)) (C := RX6) (T := TX6) (N := 4) hx hb hts hfX6 hown hK hP q51 eq51 rfl 0 (by decide) (hts (.fieldLink RX6 15 "ColdShips$Spans" "owners" "[I") wa_73) (fun _ h9 => h9) rfl dX6_add_45 ?_
          refine lv_iload hx hb dX6_add_48 (lv_at hl 0 rfl) ?_
          refine lv_iconst (v := 1) hx hb dX6_add_50 (by decide) ?_
          refine lv_isub hx hb dX6_add_51 ?_
          refine lv_topi (fun z58 ez58 => ?_)
          have iz58 : z58.toInt = w10.toInt - 1 := zi_sub ez58 rfl rfl (by omega) (by omega)
          refine tpk_20 hT y2 rfl (fun g60 hf_o59 => ?_)
          refine tpk_pos (tp_in hG y2 (by decide)) hf_o59 (fun q61 eq61 => ?_)
          refine va_iald hx hb hK hP q61 0 eq61 rfl (vp_in_iff.mpr ⟨by omega, by omega⟩) dX6_add_52 ?_
          refine lv_topi (fun z62 ez62 => ?_)
          refine va_iast hx hb hK hP hD hS q61 0 eq61 rfl (vp_in_iff.mpr ⟨by omega, by omega⟩) dX6_add_53 (tp_k (.inl (κ 0, (ν (ρ h0 0)), .inl (upd g60 w10.toNatClampNeg z62))) hD (tp_in hG y2 (by decide)) eq61 (fun f63 H locs hP hD hS g65 k64 => ?_))
          have hT := hT.up y2 g65 k64 (tp_o20 rfl)
          have hR := hR.up y2 (by decide) k64
          generalize (upd g60 w10.toNatClampNeg z62) = g66 at g65
          refine lv_aload_n hx hb dX6_add_54 rfl (lv_at hl 1 rfl) ?_
          have hf_67 : f63 h0 = .inr (6, [.ref (ρ h0 0), .ref (ρ h0 1), .ref (ρ h0 2), .int h0_x3]) := (k64 _ (tp_ne ht_h0 y2 (by decide))).trans hk12k
          refine tpk_pos (tp_in hG ht_h0 (by decide)) hf_67 (fun q68 eq68 => ?_)
          refine va_get (D := (dC, dI)) (ci := 6) (v := .ref (ρ h0 1)) (C := RX6) (T := TX6) (N := 4) hx hb hts hfX6 hown hK hP q68 eq68 rfl 1 (by decide) (hts (.fieldLink RX6 21 "ColdShips$Spans" "begins" "[I") wa_74) (fun _ h9 => h9) rfl dX6_add_55 ?_
          refine lv_iload hx hb dX6_add_58 (lv_at hl 0 rfl) ?_
          refine lv_aload_n hx hb dX6_add_60 rfl (lv_at hl 1 rfl) ?_
          refine va_get (D := (dC, dI)) (ci := 6) (v := .ref (ρ h0 1)) (C := RX6) (T := TX6) (N := 4) hx hb hts hfX6 hown hK hP q68 eq68 rfl 1 (by decide) (hts (.fieldLink RX6 21 "ColdShips$Spans" "begins" "[I") wa_74) (fun _ h9 => h9) rfl dX6_add_61 ?_
          refine lv_iload hx hb dX6_add_64 (lv_at hl 0 rfl) ?_
          refine lv_iconst (v := 1) hx hb dX6_add_66 (by decide) ?_
          refine lv_isub hx hb dX6_add_67 ?_
          refine lv_topi (fun z69 ez69 => ?_)
          have iz69 : z69.toInt = w10.toInt - 1 := zi_sub ez69 rfl rfl (by omega) (by omega)
          refine tpk_20 hT y3 y3n (fun g71 hf_o70 => ?_)
          refine tpk_pos (tp_in hG y3 (by decide)) hf_o70 (fun q72 eq72 => ?_)
          refine va_iald hx hb hK hP q72 0 eq72 rfl (vp_in_iff.mpr ⟨by omega, by omega⟩) dX6_add_68 ?_
          refine lv_topi (fun z73 ez73 => ?_)
          refine va_iast hx hb hK hP hD hS q72 0 eq72 rfl (vp_in_iff.mpr ⟨by omega, by omega⟩) dX6_add_69 (tp_k (.inl (κ 0, (ν (ρ h0 0)), .inl (upd g71 w10.toNatClampNeg z73))) hD (tp_in hG y3 (by decide)) eq72 (fun f74 H locs hP hD hS g76 k75 => ?_))
          have hT := hT.up y3 g76 k75 (tp_o20 y3n)
          have hR := hR.up y3 (by decide) k75
          generalize (upd g71 w10.toNatClampNeg z73) = g77 at g76
          refine lv_aload_n hx hb dX6_add_70 rfl (lv_at hl 1 rfl) ?_
          have hf_78 : f74 h0 = .inr (6, [.ref (ρ h0 0), .ref (ρ h0 1), .ref (ρ h0 2), .int h0_x3]) := (k75 _ (tp_ne ht_h0 y3 (by decide))).trans hf_67
          refine tpk_pos (tp_in hG ht_h0 (by decide)) hf_78 (fun q79 eq79 => ?_)
          refine va_get (D := (dC, dI)) (ci := 6) (v := .ref (ρ h0 2)) (C := RX6) (T := TX6) (N := 4) hx hb hts hfX6 hown hK hP q79 eq79 rfl 2 (by decide) (hts (.fieldLink RX6 24 "ColdShips$Spans" "ends" "[I") wa_75) (fun _ h9 => h9) rfl dX6_add_71 ?_
          refine lv_iload hx hb dX6_add_74 (lv_at hl 0 rfl) ?_
          refine lv_aload_n hx hb dX6_add_76 rfl (lv_at hl 1 rfl) ?_
          refine va_get (D := (dC, dI)) (ci := 6) (v := .ref (ρ h0 2)) (C := RX6) (T := TX6) (N := 4) hx hb hts hfX6 hown hK hP q79 eq79 rfl 2 (by decide) (hts (.fieldLink RX6 24 "ColdShips$Spans" "ends" "[I") wa_75) (fun _ h9 => h9) rfl dX6_add_77 ?_
          refine lv_iload hx hb dX6_add_80 (lv_at hl 0 rfl) ?_
          refine lv_iconst (v := 1) hx hb dX6_add_82 (by decide) ?_
          refine lv_isub hx hb dX6_add_83 ?_
          refine lv_topi (fun z80 ez80 => ?_)
          have iz80 : z80.toInt = w10.toInt - 1 := zi_sub ez80 rfl rfl (by omega) (by omega)
          refine tpk_20 hT y4 y4n (fun g82 hf_o81 => ?_)
          refine tpk_pos (tp_in hG y4 (by decide)) hf_o81 (fun q83 eq83 => ?_)
          refine va_iald hx hb hK hP q83 0 eq83 rfl (vp_in_iff.mpr ⟨by omega, by omega⟩) dX6_add_84 ?_
          refine lv_topi (fun z84 ez84 => ?_)
          refine va_iast hx hb hK hP hD hS q83 0 eq83 rfl (vp_in_iff.mpr ⟨by omega, by omega⟩) dX6_add_85 (tp_k (.inl (κ 0, (ν (ρ h0 0)), .inl (upd g82 w10.toNatClampNeg z84))) hD (tp_in hG y4 (by decide)) eq83 (fun f85 H locs hP hD hS g87 k86 => ?_))
          have hT := hT.up y4 g87 k86 (tp_o20 y4n)
          have hR := hR.up y4 (by decide) k86
          generalize (upd g82 w10.toNatClampNeg z84) = g88 at g87
          obtain ⟨z89, ez89⟩ : ∃ y : Int32, y = w10 + (-1) := ⟨_, rfl⟩
          refine lv_iinc (v := z89) (lv' := [(4, .int z89), (0, .ref h0), (1, .int v), (2, .int a), (3, .int b)]) hx hb dX6_add_86 hl (k := 0) rfl (by rw [ez89]; rfl) (by decide) rfl (fun ls hl => ?_)
          have iz89 : z89.toInt = w10.toInt + (-1) := zi_add ez89 rfl rfl (by omega) (by omega)
          refine lv_goto (tgt := 20) hx hb dX6_add_89 (by decide) ?_
          have hf_90 : f85 h0 = .inr (6, [.ref (ρ h0 0), .ref (ρ h0 1), .ref (ρ h0 2), .int h0_x3]) := (k86 _ (tp_ne ht_h0 y4 (by decide))).trans hf_78
          exact ih14 _ _ _ _ (by rw [hn15]; omega) ⟨f85, z89, rfl, hT, hR, hf_90, (by omega), (by omega), hP, hD, hS, lv_sub hl [0, 1, 2, 3, 4] rfl⟩
  · have ic9 : h0_x3.toInt ≥ z8.toInt := zi_ltf rfl rfl c9
    refine lv_iconst (v := (-1)) hx hb dX6_add_12 (by decide) ?_
    exact W.iret (v := (-1)) hx hb hr (fun t ht hW => ⟨⟨(-1), f, rfl, ⟨hT, hR, trivial, trivial⟩, by rw [ht]; exact hP, va_K.moved hW.alike hK, hD⟩, hS.F ht⟩) hS.2.2 dX6_add_13
set_option maxHeartbeats 4000000 in
set_option maxRecDepth 100000 in
theorem t_X6_meets (l : Launch) (dC : Nat → ClassId) (dI : Nat → Nat → Nat) (sz : Nat) (Ω : Nat → (Nat → Nat) → va_E → Prop) (κ : Nat → ClassId) (τ ν : Nat → Nat) (ρ : Nat → Nat → Nat) (L : List Nat) (f : Nat → va_E) (hG : tp_G τ ν ρ L) (hT : tp_T Ω κ τ ν ρ f) (h0 : Nat) (lo : Int32) (hi : Int32) (a : Int32) (b : Int32) (ht_h0 : τ h0 = 7) (h0_x3 : Int32) (hf_h0 : f h0 = .inr (6, [.ref (ρ h0 0), .ref (ρ h0 1), .ref (ρ h0 2), .int h0_x3])) : Met l yX6_meets wqX6_meets ({ frames := 2, cells := 0, slots := 0, locals := 400 }) (va_Pc [.ref h0, .int lo, .int hi, .int a, .int b] (pz_B dC dI (tp_K κ) (va_pl L f) sz)) (vp_Si (fun r => (0 ≤ r.toInt ∧ r.toInt ≤ 1) ∧ True)) 0 0 (fun _ => False) := by
  refine Met.ofW (cc := cX6_meets) (maxL := 6) (ret := some .boolean) (by decide) rfl ?_
  intro p e s m args below meth c s₁ B hml hv
  obtain ⟨rfl, hsz, hP, hK, hD0, hN⟩ := hv
  have hx := B.exec
  have hb := B.bytes
  have hr := B.returns
  have hts := fun (w : Cond) (h : w ∈ WALL) => atoms_spec (ws := wqX6_meets) B.pre w (List.mem_cons_of_mem _ h)
  have hown : s.vm.findClass RX6 = some m.cls := findClass_of_methodNamed B.named
  have hlocks := B.notSynchronized
  subst hsz
  have hD := hD0
  have hS : va_S (fun _ => True) s.heap s.heap [] := va_S.rf
  have hl := lv_entry ([.ref h0, .int lo, .int hi, .int a, .int b]) (n := 6) (Nat.le_of_ble_eq_true rfl)
  rw [lg_entry_eq]
  generalize (lg_sl ([.ref h0, .int lo, .int hi, .int a, .int b]) ++ List.replicate (6 - (lg_sl ([.ref h0, .int lo, .int hi, .int a, .int b])).length) Slot.unset).toArray = ls at hl ⊢
  have hl : lv_has ls 6 [(0, .ref h0), (1, .int lo), (2, .int hi), (3, .int a), (4, .int b)] := hl
  refine tpk_7 hT ht_h0 (fun h0z_x3 hfz_h0 rzh0_0 => ?_)
  obtain ⟨rfl⟩ := tp_same7 hf_h0 hfz_h0
  refine lv_iconst (v := 0) hx hb dX6_meets_0 (by decide) ?_
  refine lv_istore (lv' := [(5, .int 0), (0, .ref h0), (1, .int lo), (2, .int hi), (3, .int a), (4, .int b)]) hx hb dX6_meets_1 hl (by decide) rfl (fun ls hl => ?_)
  refine pz_loop (fun n0 H locs ls => ∃ w1 : Int32, n0 = (60 - (w1.toInt)).toNat ∧ (0 ≤ w1.toInt ∧ w1.toInt ≤ 60) ∧ H = s.heap ∧ locs = [] ∧ lv_has ls 6 [(5, .int w1), (0, .ref h0), (1, .int lo), (2, .int hi), (3, .int a), (4, .int b)]) ?_ _ _ _ _ ⟨0, rfl, (by have : (0 : Int32).toInt = 0 := rfl; omega), rfl, rfl, lv_sub hl [0, 1, 2, 3, 4, 5] rfl⟩
  intro n0 H locs ls hI ih2
  refine Exists.elim hI (fun w1 hE90 => tn_5 hE90 (fun hn3 rw1 e92 e93 hl => ?_))
  clear hE90 hI; subst e92; subst e93
  refine lv_iload hx hb dX6_meets_3 (lv_at hl 0 rfl) ?_
  refine lv_aload_n hx hb dX6_meets_5 rfl (lv_at hl 1 rfl) ?_
  refine tpk_pos (tp_in hG ht_h0 (by decide)) hf_h0 (fun q4 eq4 => ?_)
  refine va_get (D := (dC, dI)) (ci := 6) (v := .int h0_x3) (C := RX6) (T := TX6) (N := 4) hx hb hts hfX6 hown hK hP q4 eq4 rfl 3 (by decide) (hts (.fieldLink RX6 27 "ColdShips$Spans" "size" "I") wa_338) (fun _ h9 => h9) rfl dX6_meets_6 ?_
  refine lv_icmp_ge (tgt := 65) hx hb dX6_meets_9 (by decide) (fun c5 => ?_) (fun c5 => ?_)
  · have ic5 : w1.toInt ≥ h0_x3.toInt := zi_ge rfl rfl c5
    refine lv_iconst (v := 0) hx hb dX6_meets_65 (by decide) ?_
    exact W.zret (v := 0) hx hb hr rfl (fun t ht hW => ⟨0, rfl, ⟨(by first | decide | omega), trivial⟩, ht⟩) (fun _ h => by cases h) dX6_meets_66
  · have ic5 : w1.toInt < h0_x3.toInt := zi_gef rfl rfl c5
    refine lv_aload_n hx hb dX6_meets_12 rfl (lv_at hl 1 rfl) ?_
    refine va_get (D := (dC, dI)) (ci := 6) (v := .ref (ρ h0 1)) (C := RX6) (T := TX6) (N := 4) hx hb hts hfX6 hown hK hP q4 eq4 rfl 1 (by decide) (hts (.fieldLink RX6 21 "ColdShips$Spans" "begins" "[I") wa_74) (fun _ h9 => h9) rfl dX6_meets_13 ?_
    refine lv_iload hx hb dX6_meets_16 (lv_at hl 0 rfl) ?_
    refine tgk_7 hG ht_h0 (fun y6 y6n y7 y7n y8 y8n => ?_)
    refine tpk_20 hT y7 y7n (fun g10 hf_o9 => ?_)
    refine tpk_pos (tp_in hG y7 (by decide)) hf_o9 (fun q11 eq11 => ?_)
    refine va_iald hx hb hK hP q11 0 eq11 rfl (vp_in_iff.mpr ⟨by omega, by omega⟩) dX6_meets_18 ?_
    refine lv_topi (fun z12 ez12 => ?_)
    refine lv_iload hx hb dX6_meets_19 (lv_at hl 5 rfl) ?_
    refine lv_icmp_gt (tgt := 65) hx hb dX6_meets_21 (by decide) (fun c13 => ?_) (fun c13 => ?_)
    · have ic13 : z12.toInt > b.toInt := zi_gt rfl rfl c13
      refine lv_iconst (v := 0) hx hb dX6_meets_65 (by decide) ?_
      exact W.zret (v := 0) hx hb hr rfl (fun t ht hW => ⟨0, rfl, ⟨(by first | decide | omega), trivial⟩, ht⟩) (fun _ h => by cases h) dX6_meets_66
    · have ic13 : z12.toInt ≤ b.toInt := zi_gtf rfl rfl c13
      refine lv_aload_n hx hb dX6_meets_24 rfl (lv_at hl 1 rfl) ?_
      refine va_get (D := (dC, dI)) (ci := 6) (v := .ref (ρ h0 0)) (C := RX6) (T := TX6) (N := 4) hx hb hts hfX6 hown hK hP q4 eq4 rfl 0 (by decide) (hts (.fieldLink RX6 15 "ColdShips$Spans" "owners" "[I") wa_73) (fun _ h9 => h9) rfl dX6_meets_25 ?_
      refine lv_iload hx hb dX6_meets_28 (lv_at hl 0 rfl) ?_
      refine tpk_20 hT y6 rfl (fun g15 hf_o14 => ?_)
      refine tpk_pos (tp_in hG y6 (by decide)) hf_o14 (fun q16 eq16 => ?_)
      refine va_iald hx hb hK hP q16 0 eq16 rfl (vp_in_iff.mpr ⟨by omega, by omega⟩) dX6_meets_30 ?_
      refine lv_topi (fun z17 ez17 => ?_)
      refine lv_iload_n hx hb dX6_meets_31 rfl (lv_at hl 2 rfl) ?_
      refine lv_icmp_lt (tgt := 59) hx hb dX6_meets_32 (by decide) (fun c18 => ?_) (fun c18 => ?_)
      · have ic18 : z17.toInt < lo.toInt := zi_lt rfl rfl c18
        obtain ⟨z19, ez19⟩ : ∃ y : Int32, y = w1 + 1 := ⟨_, rfl⟩
        refine lv_iinc (v := z19) (lv' := [(5, .int z19), (0, .ref h0), (1, .int lo), (2, .int hi), (3, .int a), (4, .int b)]) hx hb dX6_meets_59 hl (k := 0) rfl (by rw [ez19]; rfl) (by decide) rfl (fun ls hl => ?_)
        have iz19 : z19.toInt = w1.toInt + 1 := zi_add ez19 rfl rfl (by omega) (by omega)
        refine lv_goto (tgt := 3) hx hb dX6_meets_62 (by decide) ?_
        exact ih2 _ _ _ _ (by rw [hn3]; omega) ⟨z19, rfl, (by omega), rfl, rfl, lv_sub hl [0, 1, 2, 3, 4, 5] rfl⟩
      · have ic18 : z17.toInt ≥ lo.toInt := zi_ltf rfl rfl c18
        refine lv_aload_n hx hb dX6_meets_35 rfl (lv_at hl 1 rfl) ?_
        refine va_get (D := (dC, dI)) (ci := 6) (v := .ref (ρ h0 0)) (C := RX6) (T := TX6) (N := 4) hx hb hts hfX6 hown hK hP q4 eq4 rfl 0 (by decide) (hts (.fieldLink RX6 15 "ColdShips$Spans" "owners" "[I") wa_73) (fun _ h9 => h9) rfl dX6_meets_36 ?_
        refine lv_iload hx hb dX6_meets_39 (lv_at hl 0 rfl) ?_
        refine va_iald hx hb hK hP q16 0 eq16 rfl (vp_in_iff.mpr ⟨by omega, by omega⟩) dX6_meets_41 ?_
        refine lv_topi (fun z20 ez20 => ?_)
        refine lv_iload_n hx hb dX6_meets_42 rfl (lv_at hl 3 rfl) ?_
        refine lv_icmp_gt (tgt := 59) hx hb dX6_meets_43 (by decide) (fun c21 => ?_) (fun c21 => ?_)
        · have ic21 : z20.toInt > hi.toInt := zi_gt rfl rfl c21
          obtain ⟨z22, ez22⟩ : ∃ y : Int32, y = w1 + 1 := ⟨_, rfl⟩
          refine lv_iinc (v := z22) (lv' := [(5, .int z22), (0, .ref h0), (1, .int lo), (2, .int hi), (3, .int a), (4, .int b)]) hx hb dX6_meets_59 hl (k := 0) rfl (by rw [ez22]; rfl) (by decide) rfl (fun ls hl => ?_)
          have iz22 : z22.toInt = w1.toInt + 1 := zi_add ez22 rfl rfl (by omega) (by omega)
          refine lv_goto (tgt := 3) hx hb dX6_meets_62 (by decide) ?_
          exact ih2 _ _ _ _ (by rw [hn3]; omega) ⟨z22, rfl, (by omega), rfl, rfl, lv_sub hl [0, 1, 2, 3, 4, 5] rfl⟩
        · have ic21 : z20.toInt ≤ hi.toInt := zi_gtf rfl rfl c21
          refine lv_aload_n hx hb dX6_meets_46 rfl (lv_at hl 1 rfl) ?_
          refine va_get (D := (dC, dI)) (ci := 6) (v := .ref (ρ h0 2)) (C := RX6) (T := TX6) (N := 4) hx hb hts hfX6 hown hK hP q4 eq4 rfl 2 (by decide) (hts (.fieldLink RX6 24 "ColdShips$Spans" "ends" "[I") wa_75) (fun _ h9 => h9) rfl dX6_meets_47 ?_
          refine lv_iload hx hb dX6_meets_50 (lv_at hl 0 rfl) ?_
          refine tpk_20 hT y8 y8n (fun g24 hf_o23 => ?_)
          refine tpk_pos (tp_in hG y8 (by decide)) hf_o23 (fun q25 eq25 => ?_)
          refine va_iald hx hb hK hP q25 0 eq25 rfl (vp_in_iff.mpr ⟨by omega, by omega⟩) dX6_meets_52 ?_
          refine lv_topi (fun z26 ez26 => ?_)
          refine lv_iload_n hx hb dX6_meets_53 rfl (lv_at hl 4 rfl) ?_
          refine lv_icmp_lt (tgt := 59) hx hb dX6_meets_54 (by decide) (fun c27 => ?_) (fun c27 => ?_)
          · have ic27 : z26.toInt < a.toInt := zi_lt rfl rfl c27
            obtain ⟨z28, ez28⟩ : ∃ y : Int32, y = w1 + 1 := ⟨_, rfl⟩
            refine lv_iinc (v := z28) (lv' := [(5, .int z28), (0, .ref h0), (1, .int lo), (2, .int hi), (3, .int a), (4, .int b)]) hx hb dX6_meets_59 hl (k := 0) rfl (by rw [ez28]; rfl) (by decide) rfl (fun ls hl => ?_)
            have iz28 : z28.toInt = w1.toInt + 1 := zi_add ez28 rfl rfl (by omega) (by omega)
            refine lv_goto (tgt := 3) hx hb dX6_meets_62 (by decide) ?_
            exact ih2 _ _ _ _ (by rw [hn3]; omega) ⟨z28, rfl, (by omega), rfl, rfl, lv_sub hl [0, 1, 2, 3, 4, 5] rfl⟩
          · have ic27 : z26.toInt ≥ a.toInt := zi_ltf rfl rfl c27
            refine lv_iconst (v := 1) hx hb dX6_meets_57 (by decide) ?_
            exact W.zret (v := 1) hx hb hr rfl (fun t ht hW => ⟨1, rfl, ⟨(by first | decide | omega), trivial⟩, ht⟩) (fun _ h => by cases h) dX6_meets_58
set_option maxHeartbeats 4000000 in
set_option maxRecDepth 100000 in
theorem t_X6_freeHours (l : Launch) (dC : Nat → ClassId) (dI : Nat → Nat → Nat) (sz : Nat) (Ω : Nat → (Nat → Nat) → va_E → Prop) (κ : Nat → ClassId) (τ ν : Nat → Nat) (ρ : Nat → Nat → Nat) (L : List Nat) (f : Nat → va_E) (hG : tp_G τ ν ρ L) (hT : tp_T Ω κ τ ν ρ f) (h0 : Nat) (lo : Int32) (hi : Int32) (a : Int32) (b : Int32) (ht_h0 : τ h0 = 7) (h0_x3 : Int32) (hf_h0 : f h0 = .inr (6, [.ref (ρ h0 0), .ref (ρ h0 1), .ref (ρ h0 2), .int h0_x3])) : Met l yX6_freeHours wqX6_freeHours ({ frames := 2, cells := 0, slots := 0, locals := 400 }) (va_Pc [.ref h0, .int lo, .int hi, .int a, .int b] (pz_B dC dI (tp_K κ) (va_pl L f) sz)) (vp_Si (fun r => True ∧ True)) 0 0 (fun _ => False) := by
  refine Met.ofW (cc := cX6_freeHours) (maxL := 9) (ret := some .int) (by decide) rfl ?_
  intro p e s m args below meth c s₁ B hml hv
  obtain ⟨rfl, hsz, hP, hK, hD0, hN⟩ := hv
  have hx := B.exec
  have hb := B.bytes
  have hr := B.returns
  have hts := fun (w : Cond) (h : w ∈ WALL) => atoms_spec (ws := wqX6_freeHours) B.pre w (List.mem_cons_of_mem _ h)
  have hown : s.vm.findClass RX6 = some m.cls := findClass_of_methodNamed B.named
  have hlocks := B.notSynchronized
  subst hsz
  have hD := hD0
  have hS : va_S (fun _ => True) s.heap s.heap [] := va_S.rf
  have hl := lv_entry ([.ref h0, .int lo, .int hi, .int a, .int b]) (n := 9) (Nat.le_of_ble_eq_true rfl)
  rw [lg_entry_eq]
  generalize (lg_sl ([.ref h0, .int lo, .int hi, .int a, .int b]) ++ List.replicate (9 - (lg_sl ([.ref h0, .int lo, .int hi, .int a, .int b])).length) Slot.unset).toArray = ls at hl ⊢
  have hl : lv_has ls 9 [(0, .ref h0), (1, .int lo), (2, .int hi), (3, .int a), (4, .int b)] := hl
  refine tpk_7 hT ht_h0 (fun h0z_x3 hfz_h0 rzh0_0 => ?_)
  obtain ⟨rfl⟩ := tp_same7 hf_h0 hfz_h0
  refine lv_iconst (v := 0) hx hb dX6_freeHours_0 (by decide) ?_
  refine lv_iload hx hb dX6_freeHours_1 (lv_at hl 4 rfl) ?_
  refine lv_iload_n hx hb dX6_freeHours_3 rfl (lv_at hl 3 rfl) ?_
  refine lv_isub hx hb dX6_freeHours_4 ?_
  refine lv_topi (fun z1 ez1 => ?_)
  refine lv_iconst (v := 1) hx hb dX6_freeHours_5 (by decide) ?_
  refine lv_iadd hx hb dX6_freeHours_6 ?_
  refine lv_topi (fun z2 ez2 => ?_)
  refine va_mmax hx hb (by rw [hml]; exact hl.1.symm) hown (hts (.methodLink RX6 9 Lib.Math.max.name) wa_69) (hts (.static Lib.Math.max.name) wa_70) (hts (.initialized "java/lang/Math") wa_71) (hts (.code Lib.Math.max.name Lib.Math.max.code 2 (some .int)) wa_72) (Nat.le_of_ble_eq_true rfl) (Nat.le_of_ble_eq_true rfl) (Nat.le_of_ble_eq_true rfl) (Nat.le_of_ble_eq_true rfl) dX6_freeHours_7 ?_
  refine lv_topi (fun z3 ez3 => ?_)
  have iz3 := zi_max ez3 (show (0 : Int32).toInt = 0 from rfl) (rfl : z2.toInt = _)
  refine lv_istore (lv' := [(5, .int z3), (0, .ref h0), (1, .int lo), (2, .int hi), (3, .int a), (4, .int b)]) hx hb dX6_freeHours_10 hl (by decide) rfl (fun ls hl => ?_)
  refine lv_iload_n hx hb dX6_freeHours_12 rfl (lv_at hl 4 rfl) ?_
  refine lv_istore (lv' := [(6, .int a), (5, .int z3), (0, .ref h0), (1, .int lo), (2, .int hi), (3, .int a), (4, .int b)]) hx hb dX6_freeHours_13 hl (by decide) rfl (fun ls hl => ?_)
  refine lv_iconst (v := 0) hx hb dX6_freeHours_15 (by decide) ?_
  refine lv_istore (lv' := [(7, .int 0), (6, .int a), (5, .int z3), (0, .ref h0), (1, .int lo), (2, .int hi), (3, .int a), (4, .int b)]) hx hb dX6_freeHours_16 hl (by decide) rfl (fun ls hl => ?_)
  refine pz_loop (fun n0 H locs ls => ∃ w4 : Int32, ∃ w5 : Int32, ∃ w6 : Int32, n0 = (60 - (w4.toInt)).toNat ∧ (0 ≤ w4.toInt ∧ w4.toInt ≤ 60) ∧ H = s.heap ∧ locs = [] ∧ lv_has ls 9 [(7, .int w4), (6, .int w5), (5, .int w6), (0, .ref h0), (1, .int lo), (2, .int hi), (3, .int a), (4, .int b)]) ?_ _ _ _ _ ⟨0, a, z3, rfl, (by have : (0 : Int32).toInt = 0 := rfl; omega), rfl, rfl, lv_sub hl [0, 1, 2, 3, 4, 5, 6, 7] rfl⟩
  intro n0 H locs ls hI ih7
  refine Exists.elim hI (fun w4 hE90 => Exists.elim hE90 (fun w5 hE91 => Exists.elim hE91 (fun w6 hE92 => tn_5 hE92 (fun hn8 rw4 e92 e93 hl => ?_))))
  clear hE92 hE91 hE90 hI; subst e92; subst e93
  refine lv_iload hx hb dX6_freeHours_18 (lv_at hl 0 rfl) ?_
  refine lv_aload_n hx hb dX6_freeHours_20 rfl (lv_at hl 3 rfl) ?_
  refine tpk_pos (tp_in hG ht_h0 (by decide)) hf_h0 (fun q9 eq9 => ?_)
  refine va_get (D := (dC, dI)) (ci := 6) (v := .int h0_x3) (C := RX6) (T := TX6) (N := 4) hx hb hts hfX6 hown hK hP q9 eq9 rfl 3 (by decide) (hts (.fieldLink RX6 27 "ColdShips$Spans" "size" "I") wa_338) (fun _ h9 => h9) rfl dX6_freeHours_21 ?_
  refine lv_icmp_ge (tgt := 128) hx hb dX6_freeHours_24 (by decide) (fun c10 => ?_) (fun c10 => ?_)
  · have ic10 : w4.toInt ≥ h0_x3.toInt := zi_ge rfl rfl c10
    refine lv_iload hx hb dX6_freeHours_128 (lv_at hl 2 rfl) ?_
    exact W.iret (v := w6) hx hb hr (fun t ht hW => ⟨w6, rfl, ⟨trivial, trivial⟩, ht⟩) (fun _ h => by cases h) dX6_freeHours_130
  · have ic10 : w4.toInt < h0_x3.toInt := zi_gef rfl rfl c10
    refine lv_aload_n hx hb dX6_freeHours_27 rfl (lv_at hl 3 rfl) ?_
    refine va_get (D := (dC, dI)) (ci := 6) (v := .ref (ρ h0 1)) (C := RX6) (T := TX6) (N := 4) hx hb hts hfX6 hown hK hP q9 eq9 rfl 1 (by decide) (hts (.fieldLink RX6 21 "ColdShips$Spans" "begins" "[I") wa_74) (fun _ h9 => h9) rfl dX6_freeHours_28 ?_
    refine lv_iload hx hb dX6_freeHours_31 (lv_at hl 0 rfl) ?_
    refine tgk_7 hG ht_h0 (fun y11 y11n y12 y12n y13 y13n => ?_)
    refine tpk_20 hT y12 y12n (fun g15 hf_o14 => ?_)
    refine tpk_pos (tp_in hG y12 (by decide)) hf_o14 (fun q16 eq16 => ?_)
    refine va_iald hx hb hK hP q16 0 eq16 rfl (vp_in_iff.mpr ⟨by omega, by omega⟩) dX6_freeHours_33 ?_
    refine lv_topi (fun z17 ez17 => ?_)
    refine lv_iload hx hb dX6_freeHours_34 (lv_at hl 7 rfl) ?_
    refine lv_icmp_gt (tgt := 128) hx hb dX6_freeHours_36 (by decide) (fun c18 => ?_) (fun c18 => ?_)
    · have ic18 : z17.toInt > b.toInt := zi_gt rfl rfl c18
      refine lv_iload hx hb dX6_freeHours_128 (lv_at hl 2 rfl) ?_
      exact W.iret (v := w6) hx hb hr (fun t ht hW => ⟨w6, rfl, ⟨trivial, trivial⟩, ht⟩) (fun _ h => by cases h) dX6_freeHours_130
    · have ic18 : z17.toInt ≤ b.toInt := zi_gtf rfl rfl c18
      refine lv_aload_n hx hb dX6_freeHours_39 rfl (lv_at hl 3 rfl) ?_
      refine va_get (D := (dC, dI)) (ci := 6) (v := .ref (ρ h0 0)) (C := RX6) (T := TX6) (N := 4) hx hb hts hfX6 hown hK hP q9 eq9 rfl 0 (by decide) (hts (.fieldLink RX6 15 "ColdShips$Spans" "owners" "[I") wa_73) (fun _ h9 => h9) rfl dX6_freeHours_40 ?_
      refine lv_iload hx hb dX6_freeHours_43 (lv_at hl 0 rfl) ?_
      refine tpk_20 hT y11 rfl (fun g20 hf_o19 => ?_)
      refine tpk_pos (tp_in hG y11 (by decide)) hf_o19 (fun q21 eq21 => ?_)
      refine va_iald hx hb hK hP q21 0 eq21 rfl (vp_in_iff.mpr ⟨by omega, by omega⟩) dX6_freeHours_45 ?_
      refine lv_topi (fun z22 ez22 => ?_)
      refine lv_iload_n hx hb dX6_freeHours_46 rfl (lv_at hl 4 rfl) ?_
      refine lv_icmp_lt (tgt := 122) hx hb dX6_freeHours_47 (by decide) (fun c23 => ?_) (fun c23 => ?_)
      · have ic23 : z22.toInt < lo.toInt := zi_lt rfl rfl c23
        obtain ⟨z24, ez24⟩ : ∃ y : Int32, y = w4 + 1 := ⟨_, rfl⟩
        refine lv_iinc (v := z24) (lv' := [(7, .int z24), (6, .int w5), (5, .int w6), (0, .ref h0), (1, .int lo), (2, .int hi), (3, .int a), (4, .int b)]) hx hb dX6_freeHours_122 hl (k := 0) rfl (by rw [ez24]; rfl) (by decide) rfl (fun ls hl => ?_)
        have iz24 : z24.toInt = w4.toInt + 1 := zi_add ez24 rfl rfl (by omega) (by omega)
        refine lv_goto (tgt := 18) hx hb dX6_freeHours_125 (by decide) ?_
        exact ih7 _ _ _ _ (by rw [hn8]; omega) ⟨z24, w5, w6, rfl, (by omega), rfl, rfl, lv_sub hl [0, 1, 2, 3, 4, 5, 6, 7] rfl⟩
      · have ic23 : z22.toInt ≥ lo.toInt := zi_ltf rfl rfl c23
        refine lv_aload_n hx hb dX6_freeHours_50 rfl (lv_at hl 3 rfl) ?_
        refine va_get (D := (dC, dI)) (ci := 6) (v := .ref (ρ h0 0)) (C := RX6) (T := TX6) (N := 4) hx hb hts hfX6 hown hK hP q9 eq9 rfl 0 (by decide) (hts (.fieldLink RX6 15 "ColdShips$Spans" "owners" "[I") wa_73) (fun _ h9 => h9) rfl dX6_freeHours_51 ?_
        refine lv_iload hx hb dX6_freeHours_54 (lv_at hl 0 rfl) ?_
        refine va_iald hx hb hK hP q21 0 eq21 rfl (vp_in_iff.mpr ⟨by omega, by omega⟩) dX6_freeHours_56 ?_
        refine lv_topi (fun z25 ez25 => ?_)
        refine lv_iload_n hx hb dX6_freeHours_57 rfl (lv_at hl 5 rfl) ?_
        refine lv_icmp_gt (tgt := 122) hx hb dX6_freeHours_58 (by decide) (fun c26 => ?_) (fun c26 => ?_)
        · have ic26 : z25.toInt > hi.toInt := zi_gt rfl rfl c26
          obtain ⟨z27, ez27⟩ : ∃ y : Int32, y = w4 + 1 := ⟨_, rfl⟩
          refine lv_iinc (v := z27) (lv' := [(7, .int z27), (6, .int w5), (5, .int w6), (0, .ref h0), (1, .int lo), (2, .int hi), (3, .int a), (4, .int b)]) hx hb dX6_freeHours_122 hl (k := 0) rfl (by rw [ez27]; rfl) (by decide) rfl (fun ls hl => ?_)
          have iz27 : z27.toInt = w4.toInt + 1 := zi_add ez27 rfl rfl (by omega) (by omega)
          refine lv_goto (tgt := 18) hx hb dX6_freeHours_125 (by decide) ?_
          exact ih7 _ _ _ _ (by rw [hn8]; omega) ⟨z27, w5, w6, rfl, (by omega), rfl, rfl, lv_sub hl [0, 1, 2, 3, 4, 5, 6, 7] rfl⟩
        · have ic26 : z25.toInt ≤ hi.toInt := zi_gtf rfl rfl c26
          refine lv_aload_n hx hb dX6_freeHours_61 rfl (lv_at hl 3 rfl) ?_
          refine va_get (D := (dC, dI)) (ci := 6) (v := .ref (ρ h0 2)) (C := RX6) (T := TX6) (N := 4) hx hb hts hfX6 hown hK hP q9 eq9 rfl 2 (by decide) (hts (.fieldLink RX6 24 "ColdShips$Spans" "ends" "[I") wa_75) (fun _ h9 => h9) rfl dX6_freeHours_62 ?_
          refine lv_iload hx hb dX6_freeHours_65 (lv_at hl 0 rfl) ?_
          refine tpk_20 hT y13 y13n (fun g29 hf_o28 => ?_)
          refine tpk_pos (tp_in hG y13 (by decide)) hf_o28 (fun q30 eq30 => ?_)
          refine va_iald hx hb hK hP q30 0 eq30 rfl (vp_in_iff.mpr ⟨by omega, by omega⟩) dX6_freeHours_67 ?_
          refine lv_topi (fun z31 ez31 => ?_)
          refine lv_iload hx hb dX6_freeHours_68 (lv_at hl 1 rfl) ?_
          refine lv_icmp_lt (tgt := 122) hx hb dX6_freeHours_70 (by decide) (fun c32 => ?_) (fun c32 => ?_)
          · have ic32 : z31.toInt < w5.toInt := zi_lt rfl rfl c32
            obtain ⟨z33, ez33⟩ : ∃ y : Int32, y = w4 + 1 := ⟨_, rfl⟩
            refine lv_iinc (v := z33) (lv' := [(7, .int z33), (6, .int w5), (5, .int w6), (0, .ref h0), (1, .int lo), (2, .int hi), (3, .int a), (4, .int b)]) hx hb dX6_freeHours_122 hl (k := 0) rfl (by rw [ez33]; rfl) (by decide) rfl (fun ls hl => ?_)
            have iz33 : z33.toInt = w4.toInt + 1 := zi_add ez33 rfl rfl (by omega) (by omega)
            refine lv_goto (tgt := 18) hx hb dX6_freeHours_125 (by decide) ?_
            exact ih7 _ _ _ _ (by rw [hn8]; omega) ⟨z33, w5, w6, rfl, (by omega), rfl, rfl, lv_sub hl [0, 1, 2, 3, 4, 5, 6, 7] rfl⟩
          · have ic32 : z31.toInt ≥ w5.toInt := zi_ltf rfl rfl c32
            refine lv_iload hx hb dX6_freeHours_73 (lv_at hl 1 rfl) ?_
            refine lv_iload hx hb dX6_freeHours_75 (lv_at hl 7 rfl) ?_
            refine lv_icmp_gt (tgt := 122) hx hb dX6_freeHours_77 (by decide) (fun c34 => ?_) (fun c34 => ?_)
            · have ic34 : w5.toInt > b.toInt := zi_gt rfl rfl c34
              obtain ⟨z35, ez35⟩ : ∃ y : Int32, y = w4 + 1 := ⟨_, rfl⟩
              refine lv_iinc (v := z35) (lv' := [(7, .int z35), (6, .int w5), (5, .int w6), (0, .ref h0), (1, .int lo), (2, .int hi), (3, .int a), (4, .int b)]) hx hb dX6_freeHours_122 hl (k := 0) rfl (by rw [ez35]; rfl) (by decide) rfl (fun ls hl => ?_)
              have iz35 : z35.toInt = w4.toInt + 1 := zi_add ez35 rfl rfl (by omega) (by omega)
              refine lv_goto (tgt := 18) hx hb dX6_freeHours_125 (by decide) ?_
              exact ih7 _ _ _ _ (by rw [hn8]; omega) ⟨z35, w5, w6, rfl, (by omega), rfl, rfl, lv_sub hl [0, 1, 2, 3, 4, 5, 6, 7] rfl⟩
            · have ic34 : w5.toInt ≤ b.toInt := zi_gtf rfl rfl c34
              refine lv_aload_n hx hb dX6_freeHours_80 rfl (lv_at hl 3 rfl) ?_
              refine va_get (D := (dC, dI)) (ci := 6) (v := .ref (ρ h0 2)) (C := RX6) (T := TX6) (N := 4) hx hb hts hfX6 hown hK hP q9 eq9 rfl 2 (by decide) (hts (.fieldLink RX6 24 "ColdShips$Spans" "ends" "[I") wa_75) (fun _ h9 => h9) rfl dX6_freeHours_81 ?_
              refine lv_iload hx hb dX6_freeHours_84 (lv_at hl 0 rfl) ?_
              refine va_iald hx hb hK hP q30 0 eq30 rfl (vp_in_iff.mpr ⟨by omega, by omega⟩) dX6_freeHours_86 ?_
              refine lv_topi (fun z36 ez36 => ?_)
              refine lv_iload hx hb dX6_freeHours_87 (lv_at hl 7 rfl) ?_
              refine va_mmin hx hb (by rw [hml]; exact hl.1.symm) hown (hts (.methodLink RX6 31 Lib.Math.min.name) wa_1152) (hts (.static Lib.Math.min.name) wa_434) (hts (.initialized "java/lang/Math") wa_71) (hts (.code Lib.Math.min.name Lib.Math.min.code 2 (some .int)) wa_435) (Nat.le_of_ble_eq_true rfl) (Nat.le_of_ble_eq_true rfl) (Nat.le_of_ble_eq_true rfl) (Nat.le_of_ble_eq_true rfl) dX6_freeHours_89 ?_
              refine lv_topi (fun z37 ez37 => ?_)
              have iz37 := zi_min ez37 (rfl : z36.toInt = _) (rfl : b.toInt = _)
              refine lv_istore (lv' := [(8, .int z37), (7, .int w4), (6, .int w5), (5, .int w6), (0, .ref h0), (1, .int lo), (2, .int hi), (3, .int a), (4, .int b)]) hx hb dX6_freeHours_92 hl (by decide) rfl (fun ls hl => ?_)
              refine lv_iload hx hb dX6_freeHours_94 (lv_at hl 3 rfl) ?_
              refine lv_iload hx hb dX6_freeHours_96 (lv_at hl 0 rfl) ?_
              refine lv_aload_n hx hb dX6_freeHours_98 rfl (lv_at hl 4 rfl) ?_
              refine va_get (D := (dC, dI)) (ci := 6) (v := .ref (ρ h0 1)) (C := RX6) (T := TX6) (N := 4) hx hb hts hfX6 hown hK hP q9 eq9 rfl 1 (by decide) (hts (.fieldLink RX6 21 "ColdShips$Spans" "begins" "[I") wa_74) (fun _ h9 => h9) rfl dX6_freeHours_99 ?_
              refine lv_iload hx hb dX6_freeHours_102 (lv_at hl 1 rfl) ?_
              refine va_iald hx hb hK hP q16 0 eq16 rfl (vp_in_iff.mpr ⟨by omega, by omega⟩) dX6_freeHours_104 ?_
              refine lv_topi (fun z38 ez38 => ?_)
              refine lv_iload hx hb dX6_freeHours_105 (lv_at hl 2 rfl) ?_
              refine va_mmax hx hb (by rw [hml]; exact hl.1.symm) hown (hts (.methodLink RX6 9 Lib.Math.max.name) wa_69) (hts (.static Lib.Math.max.name) wa_70) (hts (.initialized "java/lang/Math") wa_71) (hts (.code Lib.Math.max.name Lib.Math.max.code 2 (some .int)) wa_72) (Nat.le_of_ble_eq_true rfl) (Nat.le_of_ble_eq_true rfl) (Nat.le_of_ble_eq_true rfl) (Nat.le_of_ble_eq_true rfl) dX6_freeHours_107 ?_
              refine lv_topi (fun z39 ez39 => ?_)
              have iz39 := zi_max ez39 (rfl : z38.toInt = _) (rfl : w5.toInt = _)
              refine lv_isub hx hb dX6_freeHours_110 ?_
              refine lv_topi (fun z40 ez40 => ?_)
              refine lv_iconst (v := 1) hx hb dX6_freeHours_111 (by decide) ?_
              refine lv_iadd hx hb dX6_freeHours_112 ?_
              refine lv_topi (fun z41 ez41 => ?_)
              refine lv_isub hx hb dX6_freeHours_113 ?_
              refine lv_topi (fun z42 ez42 => ?_)
              refine lv_istore (lv' := [(5, .int z42), (8, .int z37), (7, .int w4), (6, .int w5), (0, .ref h0), (1, .int lo), (2, .int hi), (3, .int a), (4, .int b)]) hx hb dX6_freeHours_114 hl (by decide) rfl (fun ls hl => ?_)
              refine lv_iload hx hb dX6_freeHours_116 (lv_at hl 1 rfl) ?_
              refine lv_iconst (v := 1) hx hb dX6_freeHours_118 (by decide) ?_
              refine lv_iadd hx hb dX6_freeHours_119 ?_
              refine lv_topi (fun z43 ez43 => ?_)
              refine lv_istore (lv' := [(6, .int z43), (5, .int z42), (8, .int z37), (7, .int w4), (0, .ref h0), (1, .int lo), (2, .int hi), (3, .int a), (4, .int b)]) hx hb dX6_freeHours_120 hl (by decide) rfl (fun ls hl => ?_)
              obtain ⟨z44, ez44⟩ : ∃ y : Int32, y = w4 + 1 := ⟨_, rfl⟩
              refine lv_iinc (v := z44) (lv' := [(7, .int z44), (6, .int z43), (5, .int z42), (8, .int z37), (0, .ref h0), (1, .int lo), (2, .int hi), (3, .int a), (4, .int b)]) hx hb dX6_freeHours_122 hl (k := 3) rfl (by rw [ez44]; rfl) (by decide) rfl (fun ls hl => ?_)
              have iz44 : z44.toInt = w4.toInt + 1 := zi_add ez44 rfl rfl (by omega) (by omega)
              refine lv_goto (tgt := 18) hx hb dX6_freeHours_125 (by decide) ?_
              exact ih7 _ _ _ _ (by rw [hn8]; omega) ⟨z44, z43, z42, rfl, (by omega), rfl, rfl, lv_sub hl [0, 1, 2, 4, 5, 6, 7, 8] rfl⟩
set_option maxHeartbeats 4000000 in
set_option maxRecDepth 100000 in
theorem t_X6_hourBehind (l : Launch) (dC : Nat → ClassId) (dI : Nat → Nat → Nat) (sz : Nat) (Ω : Nat → (Nat → Nat) → va_E → Prop) (κ : Nat → ClassId) (τ ν : Nat → Nat) (ρ : Nat → Nat → Nat) (L : List Nat) (f : Nat → va_E) (hG : tp_G τ ν ρ L) (hT : tp_T Ω κ τ ν ρ f) (h0 : Nat) (lo : Int32) (hi : Int32) (a : Int32) (b : Int32) (ht_h0 : τ h0 = 7) (h0_x3 : Int32) (hf_h0 : f h0 = .inr (6, [.ref (ρ h0 0), .ref (ρ h0 1), .ref (ρ h0 2), .int h0_x3])) : Met l yX6_hourBehind wqX6_hourBehind ({ frames := 2, cells := 0, slots := 0, locals := 400 }) (va_Pc [.ref h0, .int lo, .int hi, .int a, .int b] (pz_B dC dI (tp_K κ) (va_pl L f) sz)) (vp_Si (fun r => True ∧ True)) 0 0 (fun _ => False) := by
  refine Met.ofW (cc := cX6_hourBehind) (maxL := 8) (ret := some .int) (by decide) rfl ?_
  intro p e s m args below meth c s₁ B hml hv
  obtain ⟨rfl, hsz, hP, hK, hD0, hN⟩ := hv
  have hx := B.exec
  have hb := B.bytes
  have hr := B.returns
  have hts := fun (w : Cond) (h : w ∈ WALL) => atoms_spec (ws := wqX6_hourBehind) B.pre w (List.mem_cons_of_mem _ h)
  have hown : s.vm.findClass RX6 = some m.cls := findClass_of_methodNamed B.named
  have hlocks := B.notSynchronized
  subst hsz
  have hD := hD0
  have hS : va_S (fun _ => True) s.heap s.heap [] := va_S.rf
  have hl := lv_entry ([.ref h0, .int lo, .int hi, .int a, .int b]) (n := 8) (Nat.le_of_ble_eq_true rfl)
  rw [lg_entry_eq]
  generalize (lg_sl ([.ref h0, .int lo, .int hi, .int a, .int b]) ++ List.replicate (8 - (lg_sl ([.ref h0, .int lo, .int hi, .int a, .int b])).length) Slot.unset).toArray = ls at hl ⊢
  have hl : lv_has ls 8 [(0, .ref h0), (1, .int lo), (2, .int hi), (3, .int a), (4, .int b)] := hl
  refine tpk_7 hT ht_h0 (fun h0z_x3 hfz_h0 rzh0_0 => ?_)
  obtain ⟨rfl⟩ := tp_same7 hf_h0 hfz_h0
  refine lv_iload hx hb dX6_hourBehind_0 (lv_at hl 4 rfl) ?_
  refine lv_istore (lv' := [(5, .int b), (0, .ref h0), (1, .int lo), (2, .int hi), (3, .int a), (4, .int b)]) hx hb dX6_hourBehind_2 hl (by decide) rfl (fun ls hl => ?_)
  refine lv_iload_n hx hb dX6_hourBehind_4 rfl (lv_at hl 4 rfl) ?_
  refine lv_istore (lv' := [(6, .int a), (5, .int b), (0, .ref h0), (1, .int lo), (2, .int hi), (3, .int a), (4, .int b)]) hx hb dX6_hourBehind_5 hl (by decide) rfl (fun ls hl => ?_)
  refine lv_iconst (v := 0) hx hb dX6_hourBehind_7 (by decide) ?_
  refine lv_istore (lv' := [(7, .int 0), (6, .int a), (5, .int b), (0, .ref h0), (1, .int lo), (2, .int hi), (3, .int a), (4, .int b)]) hx hb dX6_hourBehind_8 hl (by decide) rfl (fun ls hl => ?_)
  refine pz_loop (fun n0 H locs ls => ∃ w1 : Int32, ∃ w2 : Int32, ∃ w3 : Int32, n0 = (60 - (w1.toInt)).toNat ∧ (0 ≤ w1.toInt ∧ w1.toInt ≤ 60) ∧ H = s.heap ∧ locs = [] ∧ lv_has ls 8 [(7, .int w1), (6, .int w2), (5, .int w3), (0, .ref h0), (1, .int lo), (2, .int hi), (3, .int a), (4, .int b)]) ?_ _ _ _ _ ⟨0, a, b, rfl, (by have : (0 : Int32).toInt = 0 := rfl; omega), rfl, rfl, lv_sub hl [0, 1, 2, 3, 4, 5, 6, 7] rfl⟩
  intro n0 H locs ls hI ih4
  refine Exists.elim hI (fun w1 hE90 => Exists.elim hE90 (fun w2 hE91 => Exists.elim hE91 (fun w3 hE92 => tn_5 hE92 (fun hn5 rw1 e92 e93 hl => ?_))))
  clear hE92 hE91 hE90 hI; subst e92; subst e93
  refine lv_iload hx hb dX6_hourBehind_10 (lv_at hl 0 rfl) ?_
  refine lv_aload_n hx hb dX6_hourBehind_12 rfl (lv_at hl 3 rfl) ?_
  refine tpk_pos (tp_in hG ht_h0 (by decide)) hf_h0 (fun q6 eq6 => ?_)
  refine va_get (D := (dC, dI)) (ci := 6) (v := .int h0_x3) (C := RX6) (T := TX6) (N := 4) hx hb hts hfX6 hown hK hP q6 eq6 rfl 3 (by decide) (hts (.fieldLink RX6 27 "ColdShips$Spans" "size" "I") wa_338) (fun _ h9 => h9) rfl dX6_hourBehind_13 ?_
  refine tp_join 104 (fun H locs ls stk => stk = [] ∧ H = s.heap ∧ locs = [] ∧ lv_has ls 8 [(7, .int w1), (6, .int w2), (5, .int w3), (0, .ref h0), (1, .int lo), (2, .int hi), (3, .int a), (4, .int b)]) ?_ (fun hj7 => ?_)
  · intro H locs ls stk hI
    refine tn_4 hI (fun e90 e91 e92 hl => ?_)
    clear hI; subst e90; subst e91; subst e92
    refine lv_iload hx hb dX6_hourBehind_104 (lv_at hl 1 rfl) ?_
    refine lv_iload hx hb dX6_hourBehind_106 (lv_at hl 2 rfl) ?_
    refine lv_iadd hx hb dX6_hourBehind_108 ?_
    refine lv_topi (fun z8 ez8 => ?_)
    refine lv_sipush (v := 2400) hx hb dX6_hourBehind_109 (by decide) ?_
    refine lv_icmp_gt (tgt := 123) hx hb dX6_hourBehind_112 (by decide) (fun c9 => ?_) (fun c9 => ?_)
    · have ic9 : z8.toInt > 2400 := zi_gt rfl rfl c9
      refine lv_iconst (v := (-1)) hx hb dX6_hourBehind_123 (by decide) ?_
      exact W.iret (v := (-1)) hx hb hr (fun t ht hW => ⟨(-1), rfl, ⟨trivial, trivial⟩, ht⟩) (fun _ h => by cases h) dX6_hourBehind_124
    · have ic9 : z8.toInt ≤ 2400 := zi_gtf rfl rfl c9
      refine lv_iload hx hb dX6_hourBehind_115 (lv_at hl 1 rfl) ?_
      refine lv_iload hx hb dX6_hourBehind_117 (lv_at hl 2 rfl) ?_
      refine lv_iadd hx hb dX6_hourBehind_119 ?_
      refine lv_topi (fun z10 ez10 => ?_)
      refine lv_goto (tgt := 124) hx hb dX6_hourBehind_120 (by decide) ?_
      exact W.iret (v := z10) hx hb hr (fun t ht hW => ⟨z10, rfl, ⟨trivial, trivial⟩, ht⟩) (fun _ h => by cases h) dX6_hourBehind_124
  · refine lv_icmp_ge (tgt := 104) hx hb dX6_hourBehind_16 (by decide) (fun c11 => ?_) (fun c11 => ?_)
    · have ic11 : w1.toInt ≥ h0_x3.toInt := zi_ge rfl rfl c11
      exact hj7 _ _ _ _ ⟨rfl, rfl, rfl, lv_sub hl [0, 1, 2, 3, 4, 5, 6, 7] rfl⟩
    · have ic11 : w1.toInt < h0_x3.toInt := zi_gef rfl rfl c11
      refine lv_aload_n hx hb dX6_hourBehind_19 rfl (lv_at hl 3 rfl) ?_
      refine va_get (D := (dC, dI)) (ci := 6) (v := .ref (ρ h0 1)) (C := RX6) (T := TX6) (N := 4) hx hb hts hfX6 hown hK hP q6 eq6 rfl 1 (by decide) (hts (.fieldLink RX6 21 "ColdShips$Spans" "begins" "[I") wa_74) (fun _ h9 => h9) rfl dX6_hourBehind_20 ?_
      refine lv_iload hx hb dX6_hourBehind_23 (lv_at hl 0 rfl) ?_
      refine tgk_7 hG ht_h0 (fun y12 y12n y13 y13n y14 y14n => ?_)
      refine tpk_20 hT y13 y13n (fun g16 hf_o15 => ?_)
      refine tpk_pos (tp_in hG y13 (by decide)) hf_o15 (fun q17 eq17 => ?_)
      refine va_iald hx hb hK hP q17 0 eq17 rfl (vp_in_iff.mpr ⟨by omega, by omega⟩) dX6_hourBehind_25 ?_
      refine lv_topi (fun z18 ez18 => ?_)
      refine lv_iload hx hb dX6_hourBehind_26 (lv_at hl 1 rfl) ?_
      refine lv_isub hx hb dX6_hourBehind_28 ?_
      refine lv_topi (fun z19 ez19 => ?_)
      refine lv_iload hx hb dX6_hourBehind_29 (lv_at hl 2 rfl) ?_
      refine lv_icmp_ge (tgt := 104) hx hb dX6_hourBehind_31 (by decide) (fun c20 => ?_) (fun c20 => ?_)
      · have ic20 : z19.toInt ≥ w3.toInt := zi_ge rfl rfl c20
        exact hj7 _ _ _ _ ⟨rfl, rfl, rfl, lv_sub hl [0, 1, 2, 3, 4, 5, 6, 7] rfl⟩
      · have ic20 : z19.toInt < w3.toInt := zi_gef rfl rfl c20
        refine lv_aload_n hx hb dX6_hourBehind_34 rfl (lv_at hl 3 rfl) ?_
        refine va_get (D := (dC, dI)) (ci := 6) (v := .ref (ρ h0 0)) (C := RX6) (T := TX6) (N := 4) hx hb hts hfX6 hown hK hP q6 eq6 rfl 0 (by decide) (hts (.fieldLink RX6 15 "ColdShips$Spans" "owners" "[I") wa_73) (fun _ h9 => h9) rfl dX6_hourBehind_35 ?_
        refine lv_iload hx hb dX6_hourBehind_38 (lv_at hl 0 rfl) ?_
        refine tpk_20 hT y12 rfl (fun g22 hf_o21 => ?_)
        refine tpk_pos (tp_in hG y12 (by decide)) hf_o21 (fun q23 eq23 => ?_)
        refine va_iald hx hb hK hP q23 0 eq23 rfl (vp_in_iff.mpr ⟨by omega, by omega⟩) dX6_hourBehind_40 ?_
        refine lv_topi (fun z24 ez24 => ?_)
        refine lv_iload_n hx hb dX6_hourBehind_41 rfl (lv_at hl 4 rfl) ?_
        refine lv_icmp_lt (tgt := 98) hx hb dX6_hourBehind_42 (by decide) (fun c25 => ?_) (fun c25 => ?_)
        · have ic25 : z24.toInt < lo.toInt := zi_lt rfl rfl c25
          obtain ⟨z26, ez26⟩ : ∃ y : Int32, y = w1 + 1 := ⟨_, rfl⟩
          refine lv_iinc (v := z26) (lv' := [(7, .int z26), (6, .int w2), (5, .int w3), (0, .ref h0), (1, .int lo), (2, .int hi), (3, .int a), (4, .int b)]) hx hb dX6_hourBehind_98 hl (k := 0) rfl (by rw [ez26]; rfl) (by decide) rfl (fun ls hl => ?_)
          have iz26 : z26.toInt = w1.toInt + 1 := zi_add ez26 rfl rfl (by omega) (by omega)
          refine lv_goto (tgt := 10) hx hb dX6_hourBehind_101 (by decide) ?_
          exact ih4 _ _ _ _ (by rw [hn5]; omega) ⟨z26, w2, w3, rfl, (by omega), rfl, rfl, lv_sub hl [0, 1, 2, 3, 4, 5, 6, 7] rfl⟩
        · have ic25 : z24.toInt ≥ lo.toInt := zi_ltf rfl rfl c25
          refine lv_aload_n hx hb dX6_hourBehind_45 rfl (lv_at hl 3 rfl) ?_
          refine va_get (D := (dC, dI)) (ci := 6) (v := .ref (ρ h0 0)) (C := RX6) (T := TX6) (N := 4) hx hb hts hfX6 hown hK hP q6 eq6 rfl 0 (by decide) (hts (.fieldLink RX6 15 "ColdShips$Spans" "owners" "[I") wa_73) (fun _ h9 => h9) rfl dX6_hourBehind_46 ?_
          refine lv_iload hx hb dX6_hourBehind_49 (lv_at hl 0 rfl) ?_
          refine va_iald hx hb hK hP q23 0 eq23 rfl (vp_in_iff.mpr ⟨by omega, by omega⟩) dX6_hourBehind_51 ?_
          refine lv_topi (fun z27 ez27 => ?_)
          refine lv_iload_n hx hb dX6_hourBehind_52 rfl (lv_at hl 5 rfl) ?_
          refine lv_icmp_gt (tgt := 98) hx hb dX6_hourBehind_53 (by decide) (fun c28 => ?_) (fun c28 => ?_)
          · have ic28 : z27.toInt > hi.toInt := zi_gt rfl rfl c28
            obtain ⟨z29, ez29⟩ : ∃ y : Int32, y = w1 + 1 := ⟨_, rfl⟩
            refine lv_iinc (v := z29) (lv' := [(7, .int z29), (6, .int w2), (5, .int w3), (0, .ref h0), (1, .int lo), (2, .int hi), (3, .int a), (4, .int b)]) hx hb dX6_hourBehind_98 hl (k := 0) rfl (by rw [ez29]; rfl) (by decide) rfl (fun ls hl => ?_)
            have iz29 : z29.toInt = w1.toInt + 1 := zi_add ez29 rfl rfl (by omega) (by omega)
            refine lv_goto (tgt := 10) hx hb dX6_hourBehind_101 (by decide) ?_
            exact ih4 _ _ _ _ (by rw [hn5]; omega) ⟨z29, w2, w3, rfl, (by omega), rfl, rfl, lv_sub hl [0, 1, 2, 3, 4, 5, 6, 7] rfl⟩
          · have ic28 : z27.toInt ≤ hi.toInt := zi_gtf rfl rfl c28
            refine lv_aload_n hx hb dX6_hourBehind_56 rfl (lv_at hl 3 rfl) ?_
            refine va_get (D := (dC, dI)) (ci := 6) (v := .ref (ρ h0 2)) (C := RX6) (T := TX6) (N := 4) hx hb hts hfX6 hown hK hP q6 eq6 rfl 2 (by decide) (hts (.fieldLink RX6 24 "ColdShips$Spans" "ends" "[I") wa_75) (fun _ h9 => h9) rfl dX6_hourBehind_57 ?_
            refine lv_iload hx hb dX6_hourBehind_60 (lv_at hl 0 rfl) ?_
            refine tpk_20 hT y14 y14n (fun g31 hf_o30 => ?_)
            refine tpk_pos (tp_in hG y14 (by decide)) hf_o30 (fun q32 eq32 => ?_)
            refine va_iald hx hb hK hP q32 0 eq32 rfl (vp_in_iff.mpr ⟨by omega, by omega⟩) dX6_hourBehind_62 ?_
            refine lv_topi (fun z33 ez33 => ?_)
            refine lv_iload hx hb dX6_hourBehind_63 (lv_at hl 1 rfl) ?_
            refine lv_icmp_lt (tgt := 98) hx hb dX6_hourBehind_65 (by decide) (fun c34 => ?_) (fun c34 => ?_)
            · have ic34 : z33.toInt < w2.toInt := zi_lt rfl rfl c34
              obtain ⟨z35, ez35⟩ : ∃ y : Int32, y = w1 + 1 := ⟨_, rfl⟩
              refine lv_iinc (v := z35) (lv' := [(7, .int z35), (6, .int w2), (5, .int w3), (0, .ref h0), (1, .int lo), (2, .int hi), (3, .int a), (4, .int b)]) hx hb dX6_hourBehind_98 hl (k := 0) rfl (by rw [ez35]; rfl) (by decide) rfl (fun ls hl => ?_)
              have iz35 : z35.toInt = w1.toInt + 1 := zi_add ez35 rfl rfl (by omega) (by omega)
              refine lv_goto (tgt := 10) hx hb dX6_hourBehind_101 (by decide) ?_
              exact ih4 _ _ _ _ (by rw [hn5]; omega) ⟨z35, w2, w3, rfl, (by omega), rfl, rfl, lv_sub hl [0, 1, 2, 3, 4, 5, 6, 7] rfl⟩
            · have ic34 : z33.toInt ≥ w2.toInt := zi_ltf rfl rfl c34
              refine lv_iload hx hb dX6_hourBehind_68 (lv_at hl 2 rfl) ?_
              refine lv_iconst (v := 0) hx hb dX6_hourBehind_70 (by decide) ?_
              refine lv_aload_n hx hb dX6_hourBehind_71 rfl (lv_at hl 3 rfl) ?_
              refine va_get (D := (dC, dI)) (ci := 6) (v := .ref (ρ h0 1)) (C := RX6) (T := TX6) (N := 4) hx hb hts hfX6 hown hK hP q6 eq6 rfl 1 (by decide) (hts (.fieldLink RX6 21 "ColdShips$Spans" "begins" "[I") wa_74) (fun _ h9 => h9) rfl dX6_hourBehind_72 ?_
              refine lv_iload hx hb dX6_hourBehind_75 (lv_at hl 0 rfl) ?_
              refine va_iald hx hb hK hP q17 0 eq17 rfl (vp_in_iff.mpr ⟨by omega, by omega⟩) dX6_hourBehind_77 ?_
              refine lv_topi (fun z36 ez36 => ?_)
              refine lv_iload hx hb dX6_hourBehind_78 (lv_at hl 1 rfl) ?_
              refine lv_isub hx hb dX6_hourBehind_80 ?_
              refine lv_topi (fun z37 ez37 => ?_)
              refine va_mmax hx hb (by rw [hml]; exact hl.1.symm) hown (hts (.methodLink RX6 9 Lib.Math.max.name) wa_69) (hts (.static Lib.Math.max.name) wa_70) (hts (.initialized "java/lang/Math") wa_71) (hts (.code Lib.Math.max.name Lib.Math.max.code 2 (some .int)) wa_72) (Nat.le_of_ble_eq_true rfl) (Nat.le_of_ble_eq_true rfl) (Nat.le_of_ble_eq_true rfl) (Nat.le_of_ble_eq_true rfl) dX6_hourBehind_81 ?_
              refine lv_topi (fun z38 ez38 => ?_)
              have iz38 := zi_max ez38 (show (0 : Int32).toInt = 0 from rfl) (rfl : z37.toInt = _)
              refine lv_isub hx hb dX6_hourBehind_84 ?_
              refine lv_topi (fun z39 ez39 => ?_)
              refine lv_istore (lv' := [(5, .int z39), (7, .int w1), (6, .int w2), (0, .ref h0), (1, .int lo), (2, .int hi), (3, .int a), (4, .int b)]) hx hb dX6_hourBehind_85 hl (by decide) rfl (fun ls hl => ?_)
              refine lv_aload_n hx hb dX6_hourBehind_87 rfl (lv_at hl 3 rfl) ?_
              refine va_get (D := (dC, dI)) (ci := 6) (v := .ref (ρ h0 2)) (C := RX6) (T := TX6) (N := 4) hx hb hts hfX6 hown hK hP q6 eq6 rfl 2 (by decide) (hts (.fieldLink RX6 24 "ColdShips$Spans" "ends" "[I") wa_75) (fun _ h9 => h9) rfl dX6_hourBehind_88 ?_
              refine lv_iload hx hb dX6_hourBehind_91 (lv_at hl 1 rfl) ?_
              refine va_iald hx hb hK hP q32 0 eq32 rfl (vp_in_iff.mpr ⟨by omega, by omega⟩) dX6_hourBehind_93 ?_
              refine lv_topi (fun z40 ez40 => ?_)
              refine lv_iconst (v := 1) hx hb dX6_hourBehind_94 (by decide) ?_
              refine lv_iadd hx hb dX6_hourBehind_95 ?_
              refine lv_topi (fun z41 ez41 => ?_)
              refine lv_istore (lv' := [(6, .int z41), (5, .int z39), (7, .int w1), (0, .ref h0), (1, .int lo), (2, .int hi), (3, .int a), (4, .int b)]) hx hb dX6_hourBehind_96 hl (by decide) rfl (fun ls hl => ?_)
              obtain ⟨z42, ez42⟩ : ∃ y : Int32, y = w1 + 1 := ⟨_, rfl⟩
              refine lv_iinc (v := z42) (lv' := [(7, .int z42), (6, .int z41), (5, .int z39), (0, .ref h0), (1, .int lo), (2, .int hi), (3, .int a), (4, .int b)]) hx hb dX6_hourBehind_98 hl (k := 2) rfl (by rw [ez42]; rfl) (by decide) rfl (fun ls hl => ?_)
              have iz42 : z42.toInt = w1.toInt + 1 := zi_add ez42 rfl rfl (by omega) (by omega)
              refine lv_goto (tgt := 10) hx hb dX6_hourBehind_101 (by decide) ?_
              exact ih4 _ _ _ _ (by rw [hn5]; omega) ⟨z42, z41, z39, rfl, (by omega), rfl, rfl, lv_sub hl [0, 1, 2, 3, 4, 5, 6, 7] rfl⟩
set_option maxHeartbeats 4000000 in
set_option maxRecDepth 100000 in
theorem t_X6_copyFrom (l : Launch) (dC : Nat → ClassId) (dI : Nat → Nat → Nat) (sz : Nat) (Ω : Nat → (Nat → Nat) → va_E → Prop) (κ : Nat → ClassId) (τ ν : Nat → Nat) (ρ : Nat → Nat → Nat) (L : List Nat) (f : Nat → va_E) (hG : tp_G τ ν ρ L) (hT : tp_T Ω κ τ ν ρ f) (h0 : Nat) (h1 : Nat) (ht_h0 : τ h0 = 7) (ht_h1 : τ h1 = 7) : Met l yX6_copyFrom wqX6_copyFrom ({ frames := 2, cells := 0, slots := 0, locals := 400 }) (va_Pc [.ref h0, .ref h1] (pz_B dC dI (tp_K κ) (va_pl L f) sz)) (va_Qv (fun (f1 : Nat → va_E) => tp_T Ω κ τ ν ρ f1 ∧ tp_F τ [7, 20] f f1 ∧ True) (fun (f1 : Nat → va_E) (t : State) => pz_E dC dI (tp_K κ) (va_A (va_pl L f) sz) (va_pl L f1) t) (va_A (va_pl L f) sz)) 0 0 (va_A (va_pl L f) sz) := by
  refine Met.ofW (cc := cX6_copyFrom) (maxL := 2) (ret := none) (by decide) rfl ?_
  intro p e s m args below meth c s₁ B hml hv
  obtain ⟨rfl, hsz, hP, hK, hD0, hN⟩ := hv
  have hx := B.exec
  have hb := B.bytes
  have hr := B.returns
  have hts := fun (w : Cond) (h : w ∈ WALL) => atoms_spec (ws := wqX6_copyFrom) B.pre w (List.mem_cons_of_mem _ h)
  have hown : s.vm.findClass RX6 = some m.cls := findClass_of_methodNamed B.named
  have hlocks := B.notSynchronized
  subst hsz
  have hD := hD0.self (sz := s.heap.size)
  generalize hAe : va_A (va_pl L f) s.heap.size = A at hD ⊢
  have hA : ∀ q : Nat, s.heap.size ≤ q → A q := fun q h => by rw [← hAe]; exact Or.inr h
  have hS : va_S A s.heap s.heap [] := va_S.rf
  have hR : tp_F τ [7, 20] f f := tp_F.rf
  have hl := lv_entry ([.ref h0, .ref h1]) (n := 2) (Nat.le_of_ble_eq_true rfl)
  rw [lg_entry_eq]
  generalize (lg_sl ([.ref h0, .ref h1]) ++ List.replicate (2 - (lg_sl ([.ref h0, .ref h1])).length) Slot.unset).toArray = ls at hl ⊢
  have hl : lv_has ls 2 [(0, .ref h0), (1, .ref h1)] := hl
  refine lv_aload_n hx hb dX6_copyFrom_0 rfl (lv_at hl 1 rfl) ?_
  refine tgk_7 hG ht_h1 (fun y1 y1n y2 y2n y3 y3n => ?_)
  refine tpk_7 hT ht_h1 (fun o4_x3 hf_o4 ro4_0 => ?_)
  refine tpk_pos (tp_in hG ht_h1 (by decide)) hf_o4 (fun q5 eq5 => ?_)
  refine va_get (D := (dC, dI)) (ci := 6) (v := .int o4_x3) (C := RX6) (T := TX6) (N := 4) hx hb hts hfX6 hown hK hP q5 eq5 rfl 3 (by decide) (hts (.fieldLink RX6 27 "ColdShips$Spans" "size" "I") wa_338) (fun _ h9 => h9) rfl dX6_copyFrom_1 ?_
  refine lv_aload_n hx hb dX6_copyFrom_4 rfl (lv_at hl 0 rfl) ?_
  refine tgk_7 hG ht_h0 (fun y6 y6n y7 y7n y8 y8n => ?_)
  refine tpk_7 hT ht_h0 (fun o9_x3 hf_o9 ro9_0 => ?_)
  refine tpk_pos (tp_in hG ht_h0 (by decide)) hf_o9 (fun q10 eq10 => ?_)
  refine va_get (D := (dC, dI)) (ci := 6) (v := .ref (ρ h0 0)) (C := RX6) (T := TX6) (N := 4) hx hb hts hfX6 hown hK hP q10 eq10 rfl 0 (by decide) (hts (.fieldLink RX6 15 "ColdShips$Spans" "owners" "[I") wa_73) (fun _ h9 => h9) rfl dX6_copyFrom_5 ?_
  refine tpk_20 hT y6 rfl (fun g12 hf_o11 => ?_)
  refine tpk_pos (tp_in hG y6 (by decide)) hf_o11 (fun q13 eq13 => ?_)
  obtain ⟨z14, ez14⟩ : ∃ y : Int32, y = Int32.ofNat (ν (ρ h0 0)) := ⟨_, rfl⟩
  have iz14 : z14.toInt = ((ν (ρ h0 0)) : Int) := zi_ofNat ez14 (by omega)
  refine va_alen hx hb hK hP q13 0 eq13 rfl ez14.symm dX6_copyFrom_8 ?_
  refine lv_icmp_gt (tgt := 71) hx hb dX6_copyFrom_9 (by decide) (fun c15 => ?_) (fun c15 => ?_)
  · have ic15 : o4_x3.toInt > z14.toInt := zi_gt rfl rfl c15
    exact W.vret hx hb hr (fun t ht hW => ⟨⟨f, rfl, ⟨hT, hR, trivial⟩, by rw [ht]; exact hP, va_K.moved hW.alike hK, hD⟩, hS.F ht⟩) hS.2.2 dX6_copyFrom_71
  · have ic15 : o4_x3.toInt ≤ z14.toInt := zi_gtf rfl rfl c15
    refine lv_aload_n hx hb dX6_copyFrom_12 rfl (lv_at hl 1 rfl) ?_
    refine va_get (D := (dC, dI)) (ci := 6) (v := .ref (ρ h1 0)) (C := RX6) (T := TX6) (N := 4) hx hb hts hfX6 hown hK hP q5 eq5 rfl 0 (by decide) (hts (.fieldLink RX6 15 "ColdShips$Spans" "owners" "[I") wa_73) (fun _ h9 => h9) rfl dX6_copyFrom_13 ?_
    refine lv_iconst (v := 0) hx hb dX6_copyFrom_16 (by decide) ?_
    refine lv_aload_n hx hb dX6_copyFrom_17 rfl (lv_at hl 0 rfl) ?_
    refine va_get (D := (dC, dI)) (ci := 6) (v := .ref (ρ h0 0)) (C := RX6) (T := TX6) (N := 4) hx hb hts hfX6 hown hK hP q10 eq10 rfl 0 (by decide) (hts (.fieldLink RX6 15 "ColdShips$Spans" "owners" "[I") wa_73) (fun _ h9 => h9) rfl dX6_copyFrom_18 ?_
    refine lv_iconst (v := 0) hx hb dX6_copyFrom_21 (by decide) ?_
    refine lv_aload_n hx hb dX6_copyFrom_22 rfl (lv_at hl 1 rfl) ?_
    refine va_get (D := (dC, dI)) (ci := 6) (v := .int o4_x3) (C := RX6) (T := TX6) (N := 4) hx hb hts hfX6 hown hK hP q5 eq5 rfl 3 (by decide) (hts (.fieldLink RX6 27 "ColdShips$Spans" "size" "I") wa_338) (fun _ h9 => h9) rfl dX6_copyFrom_23 ?_
    refine tpk_20 hT y1 rfl (fun g17 hf_o16 => ?_)
    refine tpk_pos (tp_in hG y1 (by decide)) hf_o16 (fun q18 eq18 => ?_)
    refine va_copyi hx hb (by rw [hml]; exact hl.1.symm) hown (hts (.methodLink RX6 34 arraycopyName) wa_1516) (hts (.native arraycopyName) wa_465) (hts (.static arraycopyName) wa_466) (hts (.initialized "java/lang/System") wa_467) hK hP hD hS q18 q13 0 0 eq18 eq13 rfl rfl rfl (by decide) (by decide) (zi_nn (by omega)) (zi_cp (show (0 : Int32).toInt = 0 from rfl) (rfl : o4_x3.toInt = _) (by omega)) (zi_cp (show (0 : Int32).toInt = 0 from rfl) (rfl : o4_x3.toInt = _) (by omega)) (fun _ _ => rfl) (Nat.le_of_ble_eq_true rfl) (Nat.le_of_ble_eq_true rfl) dX6_copyFrom_26 (tp_k (.inl (κ 0, (ν (ρ h0 0)), .inl (va_cpy g17 g12 (0 : Int32).toNatClampNeg (0 : Int32).toNatClampNeg o4_x3.toNatClampNeg))) hD (tp_in hG y6 (by decide)) eq13 (fun f19 H locs hP hD hS g21 k20 => ?_))
    have hT := hT.up y6 g21 k20 (tp_o20 rfl)
    have hR := hR.up y6 (by decide) k20
    generalize (va_cpy g17 g12 (0 : Int32).toNatClampNeg (0 : Int32).toNatClampNeg o4_x3.toNatClampNeg) = g22 at g21
    refine lv_aload_n hx hb dX6_copyFrom_29 rfl (lv_at hl 1 rfl) ?_
    have hf_23 : f19 h1 = .inr (6, [.ref (ρ h1 0), .ref (ρ h1 1), .ref (ρ h1 2), .int o4_x3]) := (k20 _ (tp_ne ht_h1 y6 (by decide))).trans hf_o4
    refine tpk_pos (tp_in hG ht_h1 (by decide)) hf_23 (fun q24 eq24 => ?_)
    refine va_get (D := (dC, dI)) (ci := 6) (v := .ref (ρ h1 1)) (C := RX6) (T := TX6) (N := 4) hx hb hts hfX6 hown hK hP q24 eq24 rfl 1 (by decide) (hts (.fieldLink RX6 21 "ColdShips$Spans" "begins" "[I") wa_74) (fun _ h9 => h9) rfl dX6_copyFrom_30 ?_
    refine lv_iconst (v := 0) hx hb dX6_copyFrom_33 (by decide) ?_
    refine lv_aload_n hx hb dX6_copyFrom_34 rfl (lv_at hl 0 rfl) ?_
    have hf_25 : f19 h0 = .inr (6, [.ref (ρ h0 0), .ref (ρ h0 1), .ref (ρ h0 2), .int o9_x3]) := (k20 _ (tp_ne ht_h0 y6 (by decide))).trans hf_o9
    refine tpk_pos (tp_in hG ht_h0 (by decide)) hf_25 (fun q26 eq26 => ?_)
    refine va_get (D := (dC, dI)) (ci := 6) (v := .ref (ρ h0 1)) (C := RX6) (T := TX6) (N := 4) hx hb hts hfX6 hown hK hP q26 eq26 rfl 1 (by decide) (hts (.fieldLink RX6 21 "ColdShips$Spans" "begins" "[I") wa_74) (fun _ h9 => h9) rfl dX6_copyFrom_35 ?_
    refine lv_iconst (v := 0) hx hb dX6_copyFrom_38 (by decide) ?_
    refine lv_aload_n hx hb dX6_copyFrom_39 rfl (lv_at hl 1 rfl) ?_
    refine va_get (D := (dC, dI)) (ci := 6) (v := .int o4_x3) (C := RX6) (T := TX6) (N := 4) hx hb hts hfX6 hown hK hP q24 eq24 rfl 3 (by decide) (hts (.fieldLink RX6 27 "ColdShips$Spans" "size" "I") wa_338) (fun _ h9 => h9) rfl dX6_copyFrom_40 ?_
    refine tpk_20 hT y2 y2n (fun g28 hf_o27 => ?_)
    refine tpk_20 hT y7 y7n (fun g30 hf_o29 => ?_)
    refine tpk_pos (tp_in hG y2 (by decide)) hf_o27 (fun q31 eq31 => ?_)
    refine tpk_pos (tp_in hG y7 (by decide)) hf_o29 (fun q32 eq32 => ?_)
    refine va_copyi hx hb (by rw [hml]; exact hl.1.symm) hown (hts (.methodLink RX6 34 arraycopyName) wa_1516) (hts (.native arraycopyName) wa_465) (hts (.static arraycopyName) wa_466) (hts (.initialized "java/lang/System") wa_467) hK hP hD hS q31 q32 0 0 eq31 eq32 rfl rfl rfl (by decide) (by decide) (zi_nn (by omega)) (zi_cp (show (0 : Int32).toInt = 0 from rfl) (rfl : o4_x3.toInt = _) (by omega)) (zi_cp (show (0 : Int32).toInt = 0 from rfl) (rfl : o4_x3.toInt = _) (by omega)) (fun _ _ => rfl) (Nat.le_of_ble_eq_true rfl) (Nat.le_of_ble_eq_true rfl) dX6_copyFrom_43 (tp_k (.inl (κ 0, (ν (ρ h0 0)), .inl (va_cpy g28 g30 (0 : Int32).toNatClampNeg (0 : Int32).toNatClampNeg o4_x3.toNatClampNeg))) hD (tp_in hG y7 (by decide)) eq32 (fun f33 H locs hP hD hS g35 k34 => ?_))
    have hT := hT.up y7 g35 k34 (tp_o20 y7n)
    have hR := hR.up y7 (by decide) k34
    generalize (va_cpy g28 g30 (0 : Int32).toNatClampNeg (0 : Int32).toNatClampNeg o4_x3.toNatClampNeg) = g36 at g35
    refine lv_aload_n hx hb dX6_copyFrom_46 rfl (lv_at hl 1 rfl) ?_
    have hf_37 : f33 h1 = .inr (6, [.ref (ρ h1 0), .ref (ρ h1 1), .ref (ρ h1 2), .int o4_x3]) := (k34 _ (tp_ne ht_h1 y7 (by decide))).trans hf_23
    refine tpk_pos (tp_in hG ht_h1 (by decide)) hf_37 (fun q38 eq38 => ?_)
    refine va_get (D := (dC, dI)) (ci := 6) (v := .ref (ρ h1 2)) (C := RX6) (T := TX6) (N := 4) hx hb hts hfX6 hown hK hP q38 eq38 rfl 2 (by decide) (hts (.fieldLink RX6 24 "ColdShips$Spans" "ends" "[I") wa_75) (fun _ h9 => h9) rfl dX6_copyFrom_47 ?_
    refine lv_iconst (v := 0) hx hb dX6_copyFrom_50 (by decide) ?_
    refine lv_aload_n hx hb dX6_copyFrom_51 rfl (lv_at hl 0 rfl) ?_
    have hf_39 : f33 h0 = .inr (6, [.ref (ρ h0 0), .ref (ρ h0 1), .ref (ρ h0 2), .int o9_x3]) := (k34 _ (tp_ne ht_h0 y7 (by decide))).trans hf_25
    refine tpk_pos (tp_in hG ht_h0 (by decide)) hf_39 (fun q40 eq40 => ?_)
    refine va_get (D := (dC, dI)) (ci := 6) (v := .ref (ρ h0 2)) (C := RX6) (T := TX6) (N := 4) hx hb hts hfX6 hown hK hP q40 eq40 rfl 2 (by decide) (hts (.fieldLink RX6 24 "ColdShips$Spans" "ends" "[I") wa_75) (fun _ h9 => h9) rfl dX6_copyFrom_52 ?_
    refine lv_iconst (v := 0) hx hb dX6_copyFrom_55 (by decide) ?_
    refine lv_aload_n hx hb dX6_copyFrom_56 rfl (lv_at hl 1 rfl) ?_
    refine va_get (D := (dC, dI)) (ci := 6) (v := .int o4_x3) (C := RX6) (T := TX6) (N := 4) hx hb hts hfX6 hown hK hP q38 eq38 rfl 3 (by decide) (hts (.fieldLink RX6 27 "ColdShips$Spans" "size" "I") wa_338) (fun _ h9 => h9) rfl dX6_copyFrom_57 ?_
    refine tpk_20 hT y3 y3n (fun g42 hf_o41 => ?_)
    refine tpk_20 hT y8 y8n (fun g44 hf_o43 => ?_)
    refine tpk_pos (tp_in hG y3 (by decide)) hf_o41 (fun q45 eq45 => ?_)
    refine tpk_pos (tp_in hG y8 (by decide)) hf_o43 (fun q46 eq46 => ?_)
    refine va_copyi hx hb (by rw [hml]; exact hl.1.symm) hown (hts (.methodLink RX6 34 arraycopyName) wa_1516) (hts (.native arraycopyName) wa_465) (hts (.static arraycopyName) wa_466) (hts (.initialized "java/lang/System") wa_467) hK hP hD hS q45 q46 0 0 eq45 eq46 rfl rfl rfl (by decide) (by decide) (zi_nn (by omega)) (zi_cp (show (0 : Int32).toInt = 0 from rfl) (rfl : o4_x3.toInt = _) (by omega)) (zi_cp (show (0 : Int32).toInt = 0 from rfl) (rfl : o4_x3.toInt = _) (by omega)) (fun _ _ => rfl) (Nat.le_of_ble_eq_true rfl) (Nat.le_of_ble_eq_true rfl) dX6_copyFrom_60 (tp_k (.inl (κ 0, (ν (ρ h0 0)), .inl (va_cpy g42 g44 (0 : Int32).toNatClampNeg (0 : Int32).toNatClampNeg o4_x3.toNatClampNeg))) hD (tp_in hG y8 (by decide)) eq46 (fun f47 H locs hP hD hS g49 k48 => ?_))
    have hT := hT.up y8 g49 k48 (tp_o20 y8n)
    have hR := hR.up y8 (by decide) k48
    generalize (va_cpy g42 g44 (0 : Int32).toNatClampNeg (0 : Int32).toNatClampNeg o4_x3.toNatClampNeg) = g50 at g49
    refine lv_aload_n hx hb dX6_copyFrom_63 rfl (lv_at hl 0 rfl) ?_
    refine lv_aload_n hx hb dX6_copyFrom_64 rfl (lv_at hl 1 rfl) ?_
    have hf_51 : f47 h1 = .inr (6, [.ref (ρ h1 0), .ref (ρ h1 1), .ref (ρ h1 2), .int o4_x3]) := (k48 _ (tp_ne ht_h1 y8 (by decide))).trans hf_37
    refine tpk_pos (tp_in hG ht_h1 (by decide)) hf_51 (fun q52 eq52 => ?_)
    refine va_get (D := (dC, dI)) (ci := 6) (v := .int o4_x3) (C := RX6) (T := TX6) (N := 4) hx hb hts hfX6 hown hK hP q52 eq52 rfl 3 (by decide) (hts (.fieldLink RX6 27 "ColdShips$Spans" "size" "I") wa_338) (fun _ h9 => h9) rfl dX6_copyFrom_65 ?_
    have hf_53 : f47 h0 = .inr (6, [.ref (ρ h0 0), .ref (ρ h0 1), .ref (ρ h0 2), .int o9_x3]) := (k48 _ (tp_ne ht_h0 y8 (by decide))).trans hf_39
    refine tpk_pos (tp_in hG ht_h0 (by decide)) hf_53 (fun q54 eq54 => ?_)
    refine va_put (D := (dC, dI)) (ci := 6) (v := .int o4_x3) (ty := .int) (C := RX6) (T := TX6) (N := 4) hx hb hts hfX6 tyX6 tyX6_ok nmX6 hown hK hP hD hS q54 eq54 rfl 3 (by decide) (hts (.fieldLink RX6 27 "ColdShips$Spans" "size" "I") wa_338) (fun _ h9 => h9) rfl (tyX6_ok 3 (by decide)) rfl rfl (Nat.le_of_ble_eq_true rfl) dX6_copyFrom_68 (tp_k (.inr (6, [.ref (ρ h0 0), .ref (ρ h0 1), .ref (ρ h0 2), .int o4_x3])) hD (tp_in hG ht_h0 (by decide)) eq54 (fun f55 H locs hP hD hS g57 k56 => ?_))
    have hT := hT.up ht_h0 g57 k56 ⟨_, rfl, (by first | decide | omega | (omega))⟩
    have hR := hR.up ht_h0 (by decide) k56
    exact W.vret hx hb hr (fun t ht hW => ⟨⟨f55, rfl, ⟨hT, hR, trivial⟩, by rw [ht]; exact hP, va_K.moved hW.alike hK, hD⟩, hS.F ht⟩) hS.2.2 dX6_copyFrom_71
set_option maxHeartbeats 4000000 in
set_option maxRecDepth 100000 in
theorem t_X8_begin (l : Launch) (dC : Nat → ClassId) (dI : Nat → Nat → Nat) (sz : Nat) (Ω : Nat → (Nat → Nat) → va_E → Prop) (κ : Nat → ClassId) (τ ν : Nat → Nat) (ρ : Nat → Nat → Nat) (L : List Nat) (f : Nat → va_E) (hG : tp_G τ ν ρ L) (hT : tp_T Ω κ τ ν ρ f) (h0 : Nat) (a : Int32) (b : Int32) (a3 : Int32) (a4 : Int32) (ht_h0 : τ h0 = 9) : Met l yX8_begin wqX8_begin ({ frames := 3, cells := 0, slots := 0, locals := 800 }) (va_Pc [.ref h0, .int a, .int b, .int a3, .int a4] (pz_B dC dI (tp_K κ) (va_pl L f) sz)) (va_Qv (fun (f1 : Nat → va_E) => tp_T Ω κ τ ν ρ f1 ∧ tp_F τ [9, 20] f f1 ∧ True) (fun (f1 : Nat → va_E) (t : State) => pz_E dC dI (tp_K κ) (va_A (va_pl L f) sz) (va_pl L f1) t) (va_A (va_pl L f) sz)) 0 0 (va_A (va_pl L f) sz) := by
  refine Met.ofW (cc := cX8_begin) (maxL := 5) (ret := none) (by decide) rfl ?_
  intro p e s m args below meth c s₁ B hml hv
  obtain ⟨rfl, hsz, hP, hK, hD0, hN⟩ := hv
  have hx := B.exec
  have hb := B.bytes
  have hr := B.returns
  have hts := fun (w : Cond) (h : w ∈ WALL) => atoms_spec (ws := wqX8_begin) B.pre w (List.mem_cons_of_mem _ h)
  have hown : s.vm.findClass RX8 = some m.cls := findClass_of_methodNamed B.named
  have hlocks := B.notSynchronized
  subst hsz
  have hD := hD0.self (sz := s.heap.size)
  generalize hAe : va_A (va_pl L f) s.heap.size = A at hD ⊢
  have hA : ∀ q : Nat, s.heap.size ≤ q → A q := fun q h => by rw [← hAe]; exact Or.inr h
  have hS : va_S A s.heap s.heap [] := va_S.rf
  have hR : tp_F τ [9, 20] f f := tp_F.rf
  have hl := lv_entry ([.ref h0, .int a, .int b, .int a3, .int a4]) (n := 5) (Nat.le_of_ble_eq_true rfl)
  rw [lg_entry_eq]
  generalize (lg_sl ([.ref h0, .int a, .int b, .int a3, .int a4]) ++ List.replicate (5 - (lg_sl ([.ref h0, .int a, .int b, .int a3, .int a4])).length) Slot.unset).toArray = ls at hl ⊢
  have hl : lv_has ls 5 [(0, .ref h0), (1, .int a), (2, .int b), (3, .int a3), (4, .int a4)] := hl
  refine lv_aload_n hx hb dX8_begin_0 rfl (lv_at hl 0 rfl) ?_
  refine lv_iload_n hx hb dX8_begin_1 rfl (lv_at hl 1 rfl) ?_
  refine tgk_9 hG ht_h0 (fun y1 y1n y2 y2n => ?_)
  refine tpk_9 hT ht_h0 (fun o3_x0 o3_x1 o3_x2 o3_x3 o3_x4 hf_o3 ro3_0 => ?_)
  refine tpk_pos (tp_in hG ht_h0 (by decide)) hf_o3 (fun q4 eq4 => ?_)
  refine va_put (D := (dC, dI)) (ci := 8) (v := .int a) (ty := .int) (C := RX8) (T := TX8) (N := 7) hx hb hts hfX8 tyX8 tyX8_ok nmX8 hown hK hP hD hS q4 eq4 rfl 0 (by decide) (hts (.fieldLink RX8 22 "ColdShips$Terminal" "store" "I") wa_192) (fun _ h9 => h9) rfl (tyX8_ok 0 (by decide)) rfl rfl (Nat.le_of_ble_eq_true rfl) dX8_begin_2 (tp_k (.inr (8, [.int a, .int o3_x1, .int o3_x2, .int o3_x3, .int o3_x4, .ref (ρ h0 5), .ref (ρ h0 6)])) hD (tp_in hG ht_h0 (by decide)) eq4 (fun f5 H locs hP hD hS g7 k6 => ?_))
  have hT := hT.up ht_h0 g7 k6 ⟨_, _, _, _, _, rfl, (by first | decide | omega | (omega))⟩
  have hR := hR.up ht_h0 (by decide) k6
  refine lv_aload_n hx hb dX8_begin_5 rfl (lv_at hl 0 rfl) ?_
  refine lv_iload_n hx hb dX8_begin_6 rfl (lv_at hl 2 rfl) ?_
  refine tpk_pos (tp_in hG ht_h0 (by decide)) g7 (fun q8 eq8 => ?_)
  refine va_put (D := (dC, dI)) (ci := 8) (v := .int b) (ty := .int) (C := RX8) (T := TX8) (N := 7) hx hb hts hfX8 tyX8 tyX8_ok nmX8 hown hK hP hD hS q8 eq8 rfl 1 (by decide) (hts (.fieldLink RX8 25 "ColdShips$Terminal" "cap" "I") wa_193) (fun _ h9 => h9) rfl (tyX8_ok 1 (by decide)) rfl rfl (Nat.le_of_ble_eq_true rfl) dX8_begin_7 (tp_k (.inr (8, [.int a, .int b, .int o3_x2, .int o3_x3, .int o3_x4, .ref (ρ h0 5), .ref (ρ h0 6)])) hD (tp_in hG ht_h0 (by decide)) eq8 (fun f9 H locs hP hD hS g11 k10 => ?_))
  have hT := hT.up ht_h0 g11 k10 ⟨_, _, _, _, _, rfl, (by first | decide | omega | (omega))⟩
  have hR := hR.up ht_h0 (by decide) k10
  refine lv_aload_n hx hb dX8_begin_10 rfl (lv_at hl 0 rfl) ?_
  refine lv_iconst (v := 1) hx hb dX8_begin_11 (by decide) ?_
  refine lv_iload_n hx hb dX8_begin_12 rfl (lv_at hl 3 rfl) ?_
  refine va_mmax hx hb (by rw [hml]; exact hl.1.symm) hown (hts (.methodLink RX8 28 Lib.Math.max.name) wa_194) (hts (.static Lib.Math.max.name) wa_70) (hts (.initialized "java/lang/Math") wa_71) (hts (.code Lib.Math.max.name Lib.Math.max.code 2 (some .int)) wa_72) (Nat.le_of_ble_eq_true rfl) (Nat.le_of_ble_eq_true rfl) (Nat.le_of_ble_eq_true rfl) (Nat.le_of_ble_eq_true rfl) dX8_begin_13 ?_
  refine lv_topi (fun z12 ez12 => ?_)
  have iz12 := zi_max ez12 (show (1 : Int32).toInt = 1 from rfl) (rfl : a3.toInt = _)
  refine tpk_pos (tp_in hG ht_h0 (by decide)) g11 (fun q13 eq13 => ?_)
  refine va_put (D := (dC, dI)) (ci := 8) (v := .int z12) (ty := .int) (C := RX8) (T := TX8) (N := 7) hx hb hts hfX8 tyX8 tyX8_ok nmX8 hown hK hP hD hS q13 eq13 rfl 2 (by decide) (hts (.fieldLink RX8 9 "ColdShips$Terminal" "rate" "I") wa_87) (fun _ h9 => h9) rfl (tyX8_ok 2 (by decide)) rfl rfl (Nat.le_of_ble_eq_true rfl) dX8_begin_16 (tp_k (.inr (8, [.int a, .int b, .int z12, .int o3_x3, .int o3_x4, .ref (ρ h0 5), .ref (ρ h0 6)])) hD (tp_in hG ht_h0 (by decide)) eq13 (fun f14 H locs hP hD hS g16 k15 => ?_))
  have hT := hT.up ht_h0 g16 k15 ⟨_, _, _, _, _, rfl, (by first | decide | omega | (omega))⟩
  have hR := hR.up ht_h0 (by decide) k15
  refine lv_aload_n hx hb dX8_begin_19 rfl (lv_at hl 0 rfl) ?_
  refine lv_iload hx hb dX8_begin_20 (lv_at hl 4 rfl) ?_
  refine tpk_pos (tp_in hG ht_h0 (by decide)) g16 (fun q17 eq17 => ?_)
  refine va_put (D := (dC, dI)) (ci := 8) (v := .int a4) (ty := .int) (C := RX8) (T := TX8) (N := 7) hx hb hts hfX8 tyX8 tyX8_ok nmX8 hown hK hP hD hS q17 eq17 rfl 3 (by decide) (hts (.fieldLink RX8 34 "ColdShips$Terminal" "depth" "I") wa_195) (fun _ h9 => h9) rfl (tyX8_ok 3 (by decide)) rfl rfl (Nat.le_of_ble_eq_true rfl) dX8_begin_22 (tp_k (.inr (8, [.int a, .int b, .int z12, .int a4, .int o3_x4, .ref (ρ h0 5), .ref (ρ h0 6)])) hD (tp_in hG ht_h0 (by decide)) eq17 (fun f18 H locs hP hD hS g20 k19 => ?_))
  have hT := hT.up ht_h0 g20 k19 ⟨_, _, _, _, _, rfl, (by first | decide | omega | (omega))⟩
  have hR := hR.up ht_h0 (by decide) k19
  refine lv_aload_n hx hb dX8_begin_25 rfl (lv_at hl 0 rfl) ?_
  refine lv_sipush (v := 1000) hx hb dX8_begin_26 (by decide) ?_
  refine tpk_pos (tp_in hG ht_h0 (by decide)) g20 (fun q21 eq21 => ?_)
  refine va_put (D := (dC, dI)) (ci := 8) (v := .int 1000) (ty := .int) (C := RX8) (T := TX8) (N := 7) hx hb hts hfX8 tyX8 tyX8_ok nmX8 hown hK hP hD hS q21 eq21 rfl 4 (by decide) (hts (.fieldLink RX8 37 "ColdShips$Terminal" "heat" "I") wa_196) (fun _ h9 => h9) rfl (tyX8_ok 4 (by decide)) rfl rfl (Nat.le_of_ble_eq_true rfl) dX8_begin_29 (tp_k (.inr (8, [.int a, .int b, .int z12, .int a4, .int 1000, .ref (ρ h0 5), .ref (ρ h0 6)])) hD (tp_in hG ht_h0 (by decide)) eq21 (fun f22 H locs hP hD hS g24 k23 => ?_))
  have hT := hT.up ht_h0 g24 k23 ⟨_, _, _, _, _, rfl, (by first | decide | omega | (have : (1000 : Int32).toInt = 1000 := rfl; omega))⟩
  have hR := hR.up ht_h0 (by decide) k23
  refine lv_aload_n hx hb dX8_begin_32 rfl (lv_at hl 0 rfl) ?_
  refine tpk_pos (tp_in hG ht_h0 (by decide)) g24 (fun q25 eq25 => ?_)
  refine va_get (D := (dC, dI)) (ci := 8) (v := .ref (ρ h0 5)) (C := RX8) (T := TX8) (N := 7) hx hb hts hfX8 hown hK hP q25 eq25 rfl 5 (by decide) (hts (.fieldLink RX8 15 "ColdShips$Terminal" "wayHours" "[I") wa_88) (fun _ h9 => h9) rfl dX8_begin_33 ?_
  refine lv_iconst (v := 0) hx hb dX8_begin_36 (by decide) ?_
  have hFc := tp_fr hD hS hA
  refine va_callv (va_runS (As := [.ref (ρ h0 5), .int 0]) (rest := []) ⟨hx, hb, hml, hown, hts⟩ (t_J7_fill_53178 l dC dI _ Ω κ τ ν ρ L f22 hG hT (ρ h0 5) (0) y1 (by first | omega | (have : (0 : Int32).toInt = 0 := rfl; omega))) (va_cwS 2 hts gX8_begin_J7_fill_53178 rfl rfl rfl pd_J7_fill_53178 ⟨Nat.le_of_ble_eq_true rfl, Nat.le_of_ble_eq_true rfl⟩) ⟨pz_blind, pz_pre hP hK hD hN⟩ rfl rfl hl.1 rfl (lv_room (Nat.le_of_ble_eq_true rfl)) dX8_begin_37 ⟨Nat.le_of_ble_eq_true rfl, Nat.le_of_ble_eq_true rfl⟩) hS (fun q _ h => hFc q h) hFc (fun f28 t H1 locs ht hvm hw27 hB hz1 hk1 hS => ?_)
  refine tn_3 hw27 (fun hT hF29 hw27p => ?_); clear hw27
  have hR := hR.then hF29 (by decide)
  have hP := hB.1; rw [ht] at hP; have hD := tp_ad f28 hD; clear hB hFc hz1 hk1; subst ht; generalize t.heap = H at hP hS ⊢
  exact W.vret hx hb hr (fun t ht hW => ⟨⟨f28, rfl, ⟨hT, hR, trivial⟩, by rw [ht]; exact hP, va_K.moved hW.alike hK, hD⟩, hS.F ht⟩) hS.2.2 dX8_begin_40
set_option maxHeartbeats 4000000 in
set_option maxRecDepth 100000 in
theorem t_X8_tellWay (l : Launch) (dC : Nat → ClassId) (dI : Nat → Nat → Nat) (sz : Nat) (Ω : Nat → (Nat → Nat) → va_E → Prop) (κ : Nat → ClassId) (τ ν : Nat → Nat) (ρ : Nat → Nat → Nat) (L : List Nat) (f : Nat → va_E) (hG : tp_G τ ν ρ L) (hT : tp_T Ω κ τ ν ρ f) (h0 : Nat) (a : Int32) (b : Int32) (a3 : Int32) (ht_h0 : τ h0 = 9) : Met l yX8_tellWay wqX8_tellWay ({ frames := 3, cells := 0, slots := 0, locals := 800 }) (va_Pc [.ref h0, .int a, .int b, .int a3] (pz_B dC dI (tp_K κ) (va_pl L f) sz)) (va_Qv (fun (f1 : Nat → va_E) => tp_T Ω κ τ ν ρ f1 ∧ tp_F τ [20] f f1 ∧ True) (fun (f1 : Nat → va_E) (t : State) => pz_E dC dI (tp_K κ) (va_A (va_pl L f) sz) (va_pl L f1) t) (va_A (va_pl L f) sz)) 0 0 (va_A (va_pl L f) sz) := by
  refine Met.ofW (cc := cX8_tellWay) (maxL := 4) (ret := none) (by decide) rfl ?_
  intro p e s m args below meth c s₁ B hml hv
  obtain ⟨rfl, hsz, hP, hK, hD0, hN⟩ := hv
  have hx := B.exec
  have hb := B.bytes
  have hr := B.returns
  have hts := fun (w : Cond) (h : w ∈ WALL) => atoms_spec (ws := wqX8_tellWay) B.pre w (List.mem_cons_of_mem _ h)
  have hown : s.vm.findClass RX8 = some m.cls := findClass_of_methodNamed B.named
  have hlocks := B.notSynchronized
  subst hsz
  have hD := hD0.self (sz := s.heap.size)
  generalize hAe : va_A (va_pl L f) s.heap.size = A at hD ⊢
  have hA : ∀ q : Nat, s.heap.size ≤ q → A q := fun q h => by rw [← hAe]; exact Or.inr h
  have hS : va_S A s.heap s.heap [] := va_S.rf
  have hR : tp_F τ [20] f f := tp_F.rf
  have hl := lv_entry ([.ref h0, .int a, .int b, .int a3]) (n := 4) (Nat.le_of_ble_eq_true rfl)
  rw [lg_entry_eq]
  generalize (lg_sl ([.ref h0, .int a, .int b, .int a3]) ++ List.replicate (4 - (lg_sl ([.ref h0, .int a, .int b, .int a3])).length) Slot.unset).toArray = ls at hl ⊢
  have hl : lv_has ls 4 [(0, .ref h0), (1, .int a), (2, .int b), (3, .int a3)] := hl
  refine lv_iload_n hx hb dX8_tellWay_0 rfl (lv_at hl 1 rfl) ?_
  refine lv_iconst (v := 0) hx hb dX8_tellWay_1 (by decide) ?_
  refine lv_iconst (v := 5) hx hb dX8_tellWay_2 (by decide) ?_
  refine pz_calli (va_runSN (As := [.int a, .int 0, .int 5]) (rest := []) ⟨hx, hb, hml, hown, hts⟩ (t_X11_within l dC dI _ a (0) (5) (a.toInt) (0) (5) rfl rfl rfl) ⟨(va_cnB (host := "ColdShips") 3 hts ggX8_tellWay_X11_within rfl rfl rfl (hN.1 (.methodLinkNest RX8 46 yX11_within "ColdShips") nzw_108) (hts (.initialized RX11) wa_2) pd_X11_within ⟨Nat.le_of_ble_eq_true rfl, Nat.le_of_ble_eq_true rfl⟩), (hts (.static yX11_within) wa_181), trivial⟩ ⟨pz_blind, pz_pre pz_P0 (hK.sub (tys' := []) [] rfl) (pz_D0 (A := fun _ => True)) hN⟩ rfl rfl hl.1 rfl (lv_room (Nat.le_of_ble_eq_true rfl)) dX8_tellWay_3 ⟨Nat.le_of_ble_eq_true rfl, Nat.le_of_ble_eq_true rfl⟩) (fun r1 hw2 => ?_)
  obtain ⟨hw2r, hw2p⟩ := hw2
  refine lv_if_eq (tgt := 33) hx hb dX8_tellWay_6 (by decide) (fun c3 => ?_) (fun c3 => ?_)
  · have ic3 : r1.toInt = 0 := zi_eq rfl rfl c3
    exact W.vret hx hb hr (fun t ht hW => ⟨⟨f, rfl, ⟨hT, hR, trivial⟩, by rw [ht]; exact hP, va_K.moved hW.alike hK, hD⟩, hS.F ht⟩) hS.2.2 dX8_tellWay_33
  · have ic3 : r1.toInt ≠ 0 := zi_eqf rfl rfl c3
    have p4 : (0) ≤ (a.toInt) ∧ (a.toInt) ≤ (5) := (tp_cond.yes hw2p) (by omega)
    refine lv_aload_n hx hb dX8_tellWay_9 rfl (lv_at hl 0 rfl) ?_
    refine tgk_9 hG ht_h0 (fun y5 y5n y6 y6n => ?_)
    refine tpk_9 hT ht_h0 (fun o7_x0 o7_x1 o7_x2 o7_x3 o7_x4 hf_o7 ro7_0 => ?_)
    refine tpk_pos (tp_in hG ht_h0 (by decide)) hf_o7 (fun q8 eq8 => ?_)
    refine va_get (D := (dC, dI)) (ci := 8) (v := .ref (ρ h0 5)) (C := RX8) (T := TX8) (N := 7) hx hb hts hfX8 hown hK hP q8 eq8 rfl 5 (by decide) (hts (.fieldLink RX8 15 "ColdShips$Terminal" "wayHours" "[I") wa_88) (fun _ h9 => h9) rfl dX8_tellWay_10 ?_
    refine lv_iload_n hx hb dX8_tellWay_13 rfl (lv_at hl 1 rfl) ?_
    refine lv_iload_n hx hb dX8_tellWay_14 rfl (lv_at hl 2 rfl) ?_
    refine tpk_20 hT y5 y5n (fun g10 hf_o9 => ?_)
    refine tpk_pos (tp_in hG y5 (by decide)) hf_o9 (fun q11 eq11 => ?_)
    refine va_iast hx hb hK hP hD hS q11 0 eq11 rfl (vp_in_iff.mpr ⟨by omega, by omega⟩) dX8_tellWay_15 (tp_k (.inl (κ 0, 6, .inl (upd g10 a.toNatClampNeg b))) hD (tp_in hG y5 (by decide)) eq11 (fun f12 H locs hP hD hS g14 k13 => ?_))
    have hT := hT.up y5 g14 k13 (tp_o20 y5n)
    have hR := hR.up y5 (by decide) k13
    generalize (upd g10 a.toNatClampNeg b) = g15 at g14
    refine lv_aload_n hx hb dX8_tellWay_16 rfl (lv_at hl 0 rfl) ?_
    have hf_16 : f12 h0 = .inr (8, [.int o7_x0, .int o7_x1, .int o7_x2, .int o7_x3, .int o7_x4, .ref (ρ h0 5), .ref (ρ h0 6)]) := (k13 _ (tp_ne ht_h0 y5 (by decide))).trans hf_o7
    refine tpk_pos (tp_in hG ht_h0 (by decide)) hf_16 (fun q17 eq17 => ?_)
    refine va_get (D := (dC, dI)) (ci := 8) (v := .ref (ρ h0 6)) (C := RX8) (T := TX8) (N := 7) hx hb hts hfX8 hown hK hP q17 eq17 rfl 6 (by decide) (hts (.fieldLink RX8 19 "ColdShips$Terminal" "wayHalf" "[I") wa_89) (fun _ h9 => h9) rfl dX8_tellWay_17 ?_
    refine lv_iload_n hx hb dX8_tellWay_20 rfl (lv_at hl 1 rfl) ?_
    refine lv_iload_n hx hb dX8_tellWay_21 rfl (lv_at hl 3 rfl) ?_
    refine lv_if_eq (tgt := 31) hx hb dX8_tellWay_22 (by decide) (fun c18 => ?_) (fun c18 => ?_)
    · have ic18 : a3.toInt = 0 := zi_eq rfl rfl c18
      refine lv_iconst (v := 0) hx hb dX8_tellWay_31 (by decide) ?_
      refine tpk_20 hT y6 y6n (fun g20 hf_o19 => ?_)
      refine tpk_pos (tp_in hG y6 (by decide)) hf_o19 (fun q21 eq21 => ?_)
      refine va_iast hx hb hK hP hD hS q21 0 eq21 rfl (vp_in_iff.mpr ⟨by omega, by omega⟩) dX8_tellWay_32 (tp_k (.inl (κ 0, 6, .inl (upd g20 a.toNatClampNeg (0 : Int32)))) hD (tp_in hG y6 (by decide)) eq21 (fun f22 H locs hP hD hS g24 k23 => ?_))
      have hT := hT.up y6 g24 k23 (tp_o20 y6n)
      have hR := hR.up y6 (by decide) k23
      generalize (upd g20 a.toNatClampNeg (0 : Int32)) = g25 at g24
      exact W.vret hx hb hr (fun t ht hW => ⟨⟨f22, rfl, ⟨hT, hR, trivial⟩, by rw [ht]; exact hP, va_K.moved hW.alike hK, hD⟩, hS.F ht⟩) hS.2.2 dX8_tellWay_33
    · have ic18 : a3.toInt ≠ 0 := zi_eqf rfl rfl c18
      refine lv_iload_n hx hb dX8_tellWay_25 rfl (lv_at hl 2 rfl) ?_
      refine lv_iconst (v := 2) hx hb dX8_tellWay_26 (by decide) ?_
      refine lv_idiv hx hb dX8_tellWay_27 (by decide) ?_
      refine lv_topi (fun z26 ez26 => ?_)
      refine lv_goto (tgt := 32) hx hb dX8_tellWay_28 (by decide) ?_
      refine tpk_20 hT y6 y6n (fun g28 hf_o27 => ?_)
      refine tpk_pos (tp_in hG y6 (by decide)) hf_o27 (fun q29 eq29 => ?_)
      refine va_iast hx hb hK hP hD hS q29 0 eq29 rfl (vp_in_iff.mpr ⟨by omega, by omega⟩) dX8_tellWay_32 (tp_k (.inl (κ 0, 6, .inl (upd g28 a.toNatClampNeg z26))) hD (tp_in hG y6 (by decide)) eq29 (fun f30 H locs hP hD hS g32 k31 => ?_))
      have hT := hT.up y6 g32 k31 (tp_o20 y6n)
      have hR := hR.up y6 (by decide) k31
      generalize (upd g28 a.toNatClampNeg z26) = g33 at g32
      exact W.vret hx hb hr (fun t ht hW => ⟨⟨f30, rfl, ⟨hT, hR, trivial⟩, by rw [ht]; exact hP, va_K.moved hW.alike hK, hD⟩, hS.F ht⟩) hS.2.2 dX8_tellWay_33
set_option maxHeartbeats 4000000 in
set_option maxRecDepth 100000 in
theorem t_X8_hoursFor (l : Launch) (dC : Nat → ClassId) (dI : Nat → Nat → Nat) (sz : Nat) (Ω : Nat → (Nat → Nat) → va_E → Prop) (κ : Nat → ClassId) (τ ν : Nat → Nat) (ρ : Nat → Nat → Nat) (L : List Nat) (f : Nat → va_E) (hG : tp_G τ ν ρ L) (hT : tp_T Ω κ τ ν ρ f) (h0 : Nat) (a : Int32) (ht_h0 : τ h0 = 9) : Met l yX8_hoursFor wqX8_hoursFor ({ frames := 2, cells := 0, slots := 0, locals := 400 }) (va_Pc [.ref h0, .int a] (pz_B dC dI (tp_K κ) (va_pl L f) sz)) (vp_Si (fun r => True ∧ True)) 0 0 (fun _ => False) := by
  refine Met.ofW (cc := cX8_hoursFor) (maxL := 2) (ret := some .int) (by decide) rfl ?_
  intro p e s m args below meth c s₁ B hml hv
  obtain ⟨rfl, hsz, hP, hK, hD0, hN⟩ := hv
  have hx := B.exec
  have hb := B.bytes
  have hr := B.returns
  have hts := fun (w : Cond) (h : w ∈ WALL) => atoms_spec (ws := wqX8_hoursFor) B.pre w (List.mem_cons_of_mem _ h)
  have hown : s.vm.findClass RX8 = some m.cls := findClass_of_methodNamed B.named
  have hlocks := B.notSynchronized
  subst hsz
  have hD := hD0
  have hS : va_S (fun _ => True) s.heap s.heap [] := va_S.rf
  have hl := lv_entry ([.ref h0, .int a]) (n := 2) (Nat.le_of_ble_eq_true rfl)
  rw [lg_entry_eq]
  generalize (lg_sl ([.ref h0, .int a]) ++ List.replicate (2 - (lg_sl ([.ref h0, .int a])).length) Slot.unset).toArray = ls at hl ⊢
  have hl : lv_has ls 2 [(0, .ref h0), (1, .int a)] := hl
  refine lv_iload_n hx hb dX8_hoursFor_0 rfl (lv_at hl 1 rfl) ?_
  refine lv_aload_n hx hb dX8_hoursFor_1 rfl (lv_at hl 0 rfl) ?_
  refine tgk_9 hG ht_h0 (fun y1 y1n y2 y2n => ?_)
  refine tpk_9 hT ht_h0 (fun o3_x0 o3_x1 o3_x2 o3_x3 o3_x4 hf_o3 ro3_0 => ?_)
  refine tpk_pos (tp_in hG ht_h0 (by decide)) hf_o3 (fun q4 eq4 => ?_)
  refine va_get (D := (dC, dI)) (ci := 8) (v := .int o3_x2) (C := RX8) (T := TX8) (N := 7) hx hb hts hfX8 hown hK hP q4 eq4 rfl 2 (by decide) (hts (.fieldLink RX8 9 "ColdShips$Terminal" "rate" "I") wa_87) (fun _ h9 => h9) rfl dX8_hoursFor_2 ?_
  refine lv_iadd hx hb dX8_hoursFor_5 ?_
  refine lv_topi (fun z5 ez5 => ?_)
  refine lv_iconst (v := 1) hx hb dX8_hoursFor_6 (by decide) ?_
  refine lv_isub hx hb dX8_hoursFor_7 ?_
  refine lv_topi (fun z6 ez6 => ?_)
  refine lv_aload_n hx hb dX8_hoursFor_8 rfl (lv_at hl 0 rfl) ?_
  refine va_get (D := (dC, dI)) (ci := 8) (v := .int o3_x2) (C := RX8) (T := TX8) (N := 7) hx hb hts hfX8 hown hK hP q4 eq4 rfl 2 (by decide) (hts (.fieldLink RX8 9 "ColdShips$Terminal" "rate" "I") wa_87) (fun _ h9 => h9) rfl dX8_hoursFor_9 ?_
  refine lv_idiv hx hb dX8_hoursFor_12 (zi_nz (by omega) rfl) ?_
  refine lv_topi (fun z7 ez7 => ?_)
  exact W.iret (v := z7) hx hb hr (fun t ht hW => ⟨z7, rfl, ⟨trivial, trivial⟩, ht⟩) (fun _ h => by cases h) dX8_hoursFor_13
set_option maxHeartbeats 4000000 in
set_option maxRecDepth 100000 in
theorem t_X8_copyFrom (l : Launch) (dC : Nat → ClassId) (dI : Nat → Nat → Nat) (sz : Nat) (Ω : Nat → (Nat → Nat) → va_E → Prop) (κ : Nat → ClassId) (τ ν : Nat → Nat) (ρ : Nat → Nat → Nat) (L : List Nat) (f : Nat → va_E) (hG : tp_G τ ν ρ L) (hT : tp_T Ω κ τ ν ρ f) (h0 : Nat) (h1 : Nat) (ht_h0 : τ h0 = 9) (ht_h1 : τ h1 = 9) : Met l yX8_copyFrom wqX8_copyFrom ({ frames := 2, cells := 0, slots := 0, locals := 400 }) (va_Pc [.ref h0, .ref h1] (pz_B dC dI (tp_K κ) (va_pl L f) sz)) (va_Qv (fun (f1 : Nat → va_E) => tp_T Ω κ τ ν ρ f1 ∧ tp_F τ [9, 20] f f1 ∧ True) (fun (f1 : Nat → va_E) (t : State) => pz_E dC dI (tp_K κ) (va_A (va_pl L f) sz) (va_pl L f1) t) (va_A (va_pl L f) sz)) 0 0 (va_A (va_pl L f) sz) := by
  refine Met.ofW (cc := cX8_copyFrom) (maxL := 2) (ret := none) (by decide) rfl ?_
  intro p e s m args below meth c s₁ B hml hv
  obtain ⟨rfl, hsz, hP, hK, hD0, hN⟩ := hv
  have hx := B.exec
  have hb := B.bytes
  have hr := B.returns
  have hts := fun (w : Cond) (h : w ∈ WALL) => atoms_spec (ws := wqX8_copyFrom) B.pre w (List.mem_cons_of_mem _ h)
  have hown : s.vm.findClass RX8 = some m.cls := findClass_of_methodNamed B.named
  have hlocks := B.notSynchronized
  subst hsz
  have hD := hD0.self (sz := s.heap.size)
  generalize hAe : va_A (va_pl L f) s.heap.size = A at hD ⊢
  have hA : ∀ q : Nat, s.heap.size ≤ q → A q := fun q h => by rw [← hAe]; exact Or.inr h
  have hS : va_S A s.heap s.heap [] := va_S.rf
  have hR : tp_F τ [9, 20] f f := tp_F.rf
  have hl := lv_entry ([.ref h0, .ref h1]) (n := 2) (Nat.le_of_ble_eq_true rfl)
  rw [lg_entry_eq]
  generalize (lg_sl ([.ref h0, .ref h1]) ++ List.replicate (2 - (lg_sl ([.ref h0, .ref h1])).length) Slot.unset).toArray = ls at hl ⊢
  have hl : lv_has ls 2 [(0, .ref h0), (1, .ref h1)] := hl
  refine lv_aload_n hx hb dX8_copyFrom_0 rfl (lv_at hl 0 rfl) ?_
  refine lv_aload_n hx hb dX8_copyFrom_1 rfl (lv_at hl 1 rfl) ?_
  refine tgk_9 hG ht_h1 (fun y1 y1n y2 y2n => ?_)
  refine tpk_9 hT ht_h1 (fun o3_x0 o3_x1 o3_x2 o3_x3 o3_x4 hf_o3 ro3_0 => ?_)
  refine tpk_pos (tp_in hG ht_h1 (by decide)) hf_o3 (fun q4 eq4 => ?_)
  refine va_get (D := (dC, dI)) (ci := 8) (v := .int o3_x0) (C := RX8) (T := TX8) (N := 7) hx hb hts hfX8 hown hK hP q4 eq4 rfl 0 (by decide) (hts (.fieldLink RX8 22 "ColdShips$Terminal" "store" "I") wa_192) (fun _ h9 => h9) rfl dX8_copyFrom_2 ?_
  refine tgk_9 hG ht_h0 (fun y5 y5n y6 y6n => ?_)
  refine tpk_9 hT ht_h0 (fun o7_x0 o7_x1 o7_x2 o7_x3 o7_x4 hf_o7 ro7_0 => ?_)
  refine tpk_pos (tp_in hG ht_h0 (by decide)) hf_o7 (fun q8 eq8 => ?_)
  refine va_put (D := (dC, dI)) (ci := 8) (v := .int o3_x0) (ty := .int) (C := RX8) (T := TX8) (N := 7) hx hb hts hfX8 tyX8 tyX8_ok nmX8 hown hK hP hD hS q8 eq8 rfl 0 (by decide) (hts (.fieldLink RX8 22 "ColdShips$Terminal" "store" "I") wa_192) (fun _ h9 => h9) rfl (tyX8_ok 0 (by decide)) rfl rfl (Nat.le_of_ble_eq_true rfl) dX8_copyFrom_5 (tp_k (.inr (8, [.int o3_x0, .int o7_x1, .int o7_x2, .int o7_x3, .int o7_x4, .ref (ρ h0 5), .ref (ρ h0 6)])) hD (tp_in hG ht_h0 (by decide)) eq8 (fun f9 H locs hP hD hS g11 k10 => ?_))
  have hT := hT.up ht_h0 g11 k10 ⟨_, _, _, _, _, rfl, (by first | decide | omega | (omega))⟩
  have hR := hR.up ht_h0 (by decide) k10
  refine lv_aload_n hx hb dX8_copyFrom_8 rfl (lv_at hl 0 rfl) ?_
  refine lv_aload_n hx hb dX8_copyFrom_9 rfl (lv_at hl 1 rfl) ?_
  refine tpk_9 hT ht_h1 (fun o12_x0 o12_x1 o12_x2 o12_x3 o12_x4 hf_o12 ro12_0 => ?_)
  refine tpk_pos (tp_in hG ht_h1 (by decide)) hf_o12 (fun q13 eq13 => ?_)
  refine va_get (D := (dC, dI)) (ci := 8) (v := .int o12_x1) (C := RX8) (T := TX8) (N := 7) hx hb hts hfX8 hown hK hP q13 eq13 rfl 1 (by decide) (hts (.fieldLink RX8 25 "ColdShips$Terminal" "cap" "I") wa_193) (fun _ h9 => h9) rfl dX8_copyFrom_10 ?_
  refine tpk_pos (tp_in hG ht_h0 (by decide)) g11 (fun q14 eq14 => ?_)
  refine va_put (D := (dC, dI)) (ci := 8) (v := .int o12_x1) (ty := .int) (C := RX8) (T := TX8) (N := 7) hx hb hts hfX8 tyX8 tyX8_ok nmX8 hown hK hP hD hS q14 eq14 rfl 1 (by decide) (hts (.fieldLink RX8 25 "ColdShips$Terminal" "cap" "I") wa_193) (fun _ h9 => h9) rfl (tyX8_ok 1 (by decide)) rfl rfl (Nat.le_of_ble_eq_true rfl) dX8_copyFrom_13 (tp_k (.inr (8, [.int o3_x0, .int o12_x1, .int o7_x2, .int o7_x3, .int o7_x4, .ref (ρ h0 5), .ref (ρ h0 6)])) hD (tp_in hG ht_h0 (by decide)) eq14 (fun f15 H locs hP hD hS g17 k16 => ?_))
  have hT := hT.up ht_h0 g17 k16 ⟨_, _, _, _, _, rfl, (by first | decide | omega | (omega))⟩
  have hR := hR.up ht_h0 (by decide) k16
  refine lv_aload_n hx hb dX8_copyFrom_16 rfl (lv_at hl 0 rfl) ?_
  refine lv_aload_n hx hb dX8_copyFrom_17 rfl (lv_at hl 1 rfl) ?_
  refine tpk_9 hT ht_h1 (fun o18_x0 o18_x1 o18_x2 o18_x3 o18_x4 hf_o18 ro18_0 => ?_)
  refine tpk_pos (tp_in hG ht_h1 (by decide)) hf_o18 (fun q19 eq19 => ?_)
  refine va_get (D := (dC, dI)) (ci := 8) (v := .int o18_x2) (C := RX8) (T := TX8) (N := 7) hx hb hts hfX8 hown hK hP q19 eq19 rfl 2 (by decide) (hts (.fieldLink RX8 9 "ColdShips$Terminal" "rate" "I") wa_87) (fun _ h9 => h9) rfl dX8_copyFrom_18 ?_
  refine tpk_pos (tp_in hG ht_h0 (by decide)) g17 (fun q20 eq20 => ?_)
  refine va_put (D := (dC, dI)) (ci := 8) (v := .int o18_x2) (ty := .int) (C := RX8) (T := TX8) (N := 7) hx hb hts hfX8 tyX8 tyX8_ok nmX8 hown hK hP hD hS q20 eq20 rfl 2 (by decide) (hts (.fieldLink RX8 9 "ColdShips$Terminal" "rate" "I") wa_87) (fun _ h9 => h9) rfl (tyX8_ok 2 (by decide)) rfl rfl (Nat.le_of_ble_eq_true rfl) dX8_copyFrom_21 (tp_k (.inr (8, [.int o3_x0, .int o12_x1, .int o18_x2, .int o7_x3, .int o7_x4, .ref (ρ h0 5), .ref (ρ h0 6)])) hD (tp_in hG ht_h0 (by decide)) eq20 (fun f21 H locs hP hD hS g23 k22 => ?_))
  have hT := hT.up ht_h0 g23 k22 ⟨_, _, _, _, _, rfl, (by first | decide | omega | (omega))⟩
  have hR := hR.up ht_h0 (by decide) k22
  refine lv_aload_n hx hb dX8_copyFrom_24 rfl (lv_at hl 0 rfl) ?_
  refine lv_aload_n hx hb dX8_copyFrom_25 rfl (lv_at hl 1 rfl) ?_
  refine tpk_9 hT ht_h1 (fun o24_x0 o24_x1 o24_x2 o24_x3 o24_x4 hf_o24 ro24_0 => ?_)
  refine tpk_pos (tp_in hG ht_h1 (by decide)) hf_o24 (fun q25 eq25 => ?_)
  refine va_get (D := (dC, dI)) (ci := 8) (v := .int o24_x3) (C := RX8) (T := TX8) (N := 7) hx hb hts hfX8 hown hK hP q25 eq25 rfl 3 (by decide) (hts (.fieldLink RX8 34 "ColdShips$Terminal" "depth" "I") wa_195) (fun _ h9 => h9) rfl dX8_copyFrom_26 ?_
  refine tpk_pos (tp_in hG ht_h0 (by decide)) g23 (fun q26 eq26 => ?_)
  refine va_put (D := (dC, dI)) (ci := 8) (v := .int o24_x3) (ty := .int) (C := RX8) (T := TX8) (N := 7) hx hb hts hfX8 tyX8 tyX8_ok nmX8 hown hK hP hD hS q26 eq26 rfl 3 (by decide) (hts (.fieldLink RX8 34 "ColdShips$Terminal" "depth" "I") wa_195) (fun _ h9 => h9) rfl (tyX8_ok 3 (by decide)) rfl rfl (Nat.le_of_ble_eq_true rfl) dX8_copyFrom_29 (tp_k (.inr (8, [.int o3_x0, .int o12_x1, .int o18_x2, .int o24_x3, .int o7_x4, .ref (ρ h0 5), .ref (ρ h0 6)])) hD (tp_in hG ht_h0 (by decide)) eq26 (fun f27 H locs hP hD hS g29 k28 => ?_))
  have hT := hT.up ht_h0 g29 k28 ⟨_, _, _, _, _, rfl, (by first | decide | omega | (omega))⟩
  have hR := hR.up ht_h0 (by decide) k28
  refine lv_aload_n hx hb dX8_copyFrom_32 rfl (lv_at hl 0 rfl) ?_
  refine lv_aload_n hx hb dX8_copyFrom_33 rfl (lv_at hl 1 rfl) ?_
  refine tpk_9 hT ht_h1 (fun o30_x0 o30_x1 o30_x2 o30_x3 o30_x4 hf_o30 ro30_0 => ?_)
  refine tpk_pos (tp_in hG ht_h1 (by decide)) hf_o30 (fun q31 eq31 => ?_)
  refine va_get (D := (dC, dI)) (ci := 8) (v := .int o30_x4) (C := RX8) (T := TX8) (N := 7) hx hb hts hfX8 hown hK hP q31 eq31 rfl 4 (by decide) (hts (.fieldLink RX8 37 "ColdShips$Terminal" "heat" "I") wa_196) (fun _ h9 => h9) rfl dX8_copyFrom_34 ?_
  refine tpk_pos (tp_in hG ht_h0 (by decide)) g29 (fun q32 eq32 => ?_)
  refine va_put (D := (dC, dI)) (ci := 8) (v := .int o30_x4) (ty := .int) (C := RX8) (T := TX8) (N := 7) hx hb hts hfX8 tyX8 tyX8_ok nmX8 hown hK hP hD hS q32 eq32 rfl 4 (by decide) (hts (.fieldLink RX8 37 "ColdShips$Terminal" "heat" "I") wa_196) (fun _ h9 => h9) rfl (tyX8_ok 4 (by decide)) rfl rfl (Nat.le_of_ble_eq_true rfl) dX8_copyFrom_37 (tp_k (.inr (8, [.int o3_x0, .int o12_x1, .int o18_x2, .int o24_x3, .int o30_x4, .ref (ρ h0 5), .ref (ρ h0 6)])) hD (tp_in hG ht_h0 (by decide)) eq32 (fun f33 H locs hP hD hS g35 k34 => ?_))
  have hT := hT.up ht_h0 g35 k34 ⟨_, _, _, _, _, rfl, (by first | decide | omega | (omega))⟩
  have hR := hR.up ht_h0 (by decide) k34
  refine lv_aload_n hx hb dX8_copyFrom_40 rfl (lv_at hl 1 rfl) ?_
  refine tpk_9 hT ht_h1 (fun o36_x0 o36_x1 o36_x2 o36_x3 o36_x4 hf_o36 ro36_0 => ?_)
  refine tpk_pos (tp_in hG ht_h1 (by decide)) hf_o36 (fun q37 eq37 => ?_)
  refine va_get (D := (dC, dI)) (ci := 8) (v := .ref (ρ h1 5)) (C := RX8) (T := TX8) (N := 7) hx hb hts hfX8 hown hK hP q37 eq37 rfl 5 (by decide) (hts (.fieldLink RX8 15 "ColdShips$Terminal" "wayHours" "[I") wa_88) (fun _ h9 => h9) rfl dX8_copyFrom_41 ?_
  refine lv_iconst (v := 0) hx hb dX8_copyFrom_44 (by decide) ?_
  refine lv_aload_n hx hb dX8_copyFrom_45 rfl (lv_at hl 0 rfl) ?_
  refine tpk_pos (tp_in hG ht_h0 (by decide)) g35 (fun q38 eq38 => ?_)
  refine va_get (D := (dC, dI)) (ci := 8) (v := .ref (ρ h0 5)) (C := RX8) (T := TX8) (N := 7) hx hb hts hfX8 hown hK hP q38 eq38 rfl 5 (by decide) (hts (.fieldLink RX8 15 "ColdShips$Terminal" "wayHours" "[I") wa_88) (fun _ h9 => h9) rfl dX8_copyFrom_46 ?_
  refine lv_iconst (v := 0) hx hb dX8_copyFrom_49 (by decide) ?_
  refine lv_bipush (v := 6) hx hb dX8_copyFrom_50 (by decide) ?_
  refine tpk_20 hT y1 y1n (fun g40 hf_o39 => ?_)
  refine tpk_20 hT y5 y5n (fun g42 hf_o41 => ?_)
  refine tpk_pos (tp_in hG y1 (by decide)) hf_o39 (fun q43 eq43 => ?_)
  refine tpk_pos (tp_in hG y5 (by decide)) hf_o41 (fun q44 eq44 => ?_)
  refine va_copyi hx hb (by rw [hml]; exact hl.1.symm) hown (hts (.methodLink RX8 50 arraycopyName) wa_1502) (hts (.native arraycopyName) wa_465) (hts (.static arraycopyName) wa_466) (hts (.initialized "java/lang/System") wa_467) hK hP hD hS q43 q44 0 0 eq43 eq44 rfl rfl rfl (by decide) (by decide) (by decide) (by decide) (by decide) (fun _ _ => rfl) (Nat.le_of_ble_eq_true rfl) (Nat.le_of_ble_eq_true rfl) dX8_copyFrom_52 (tp_k (.inl (κ 0, 6, .inl (va_cpy g40 g42 (0 : Int32).toNatClampNeg (0 : Int32).toNatClampNeg (6 : Int32).toNatClampNeg))) hD (tp_in hG y5 (by decide)) eq44 (fun f45 H locs hP hD hS g47 k46 => ?_))
  have hT := hT.up y5 g47 k46 (tp_o20 y5n)
  have hR := hR.up y5 (by decide) k46
  generalize (va_cpy g40 g42 (0 : Int32).toNatClampNeg (0 : Int32).toNatClampNeg (6 : Int32).toNatClampNeg) = g48 at g47
  refine lv_aload_n hx hb dX8_copyFrom_55 rfl (lv_at hl 1 rfl) ?_
  have hf_49 : f45 h1 = .inr (8, [.int o36_x0, .int o36_x1, .int o36_x2, .int o36_x3, .int o36_x4, .ref (ρ h1 5), .ref (ρ h1 6)]) := (k46 _ (tp_ne ht_h1 y5 (by decide))).trans hf_o36
  refine tpk_pos (tp_in hG ht_h1 (by decide)) hf_49 (fun q50 eq50 => ?_)
  refine va_get (D := (dC, dI)) (ci := 8) (v := .ref (ρ h1 6)) (C := RX8) (T := TX8) (N := 7) hx hb hts hfX8 hown hK hP q50 eq50 rfl 6 (by decide) (hts (.fieldLink RX8 19 "ColdShips$Terminal" "wayHalf" "[I") wa_89) (fun _ h9 => h9) rfl dX8_copyFrom_56 ?_
  refine lv_iconst (v := 0) hx hb dX8_copyFrom_59 (by decide) ?_
  refine lv_aload_n hx hb dX8_copyFrom_60 rfl (lv_at hl 0 rfl) ?_
  have hf_51 : f45 h0 = .inr (8, [.int o3_x0, .int o12_x1, .int o18_x2, .int o24_x3, .int o30_x4, .ref (ρ h0 5), .ref (ρ h0 6)]) := (k46 _ (tp_ne ht_h0 y5 (by decide))).trans g35
  refine tpk_pos (tp_in hG ht_h0 (by decide)) hf_51 (fun q52 eq52 => ?_)
  refine va_get (D := (dC, dI)) (ci := 8) (v := .ref (ρ h0 6)) (C := RX8) (T := TX8) (N := 7) hx hb hts hfX8 hown hK hP q52 eq52 rfl 6 (by decide) (hts (.fieldLink RX8 19 "ColdShips$Terminal" "wayHalf" "[I") wa_89) (fun _ h9 => h9) rfl dX8_copyFrom_61 ?_
  refine lv_iconst (v := 0) hx hb dX8_copyFrom_64 (by decide) ?_
  refine lv_bipush (v := 6) hx hb dX8_copyFrom_65 (by decide) ?_
  refine tpk_20 hT y2 y2n (fun g54 hf_o53 => ?_)
  refine tpk_20 hT y6 y6n (fun g56 hf_o55 => ?_)
  refine tpk_pos (tp_in hG y2 (by decide)) hf_o53 (fun q57 eq57 => ?_)
  refine tpk_pos (tp_in hG y6 (by decide)) hf_o55 (fun q58 eq58 => ?_)
  refine va_copyi hx hb (by rw [hml]; exact hl.1.symm) hown (hts (.methodLink RX8 50 arraycopyName) wa_1502) (hts (.native arraycopyName) wa_465) (hts (.static arraycopyName) wa_466) (hts (.initialized "java/lang/System") wa_467) hK hP hD hS q57 q58 0 0 eq57 eq58 rfl rfl rfl (by decide) (by decide) (by decide) (by decide) (by decide) (fun _ _ => rfl) (Nat.le_of_ble_eq_true rfl) (Nat.le_of_ble_eq_true rfl) dX8_copyFrom_67 (tp_k (.inl (κ 0, 6, .inl (va_cpy g54 g56 (0 : Int32).toNatClampNeg (0 : Int32).toNatClampNeg (6 : Int32).toNatClampNeg))) hD (tp_in hG y6 (by decide)) eq58 (fun f59 H locs hP hD hS g61 k60 => ?_))
  have hT := hT.up y6 g61 k60 (tp_o20 y6n)
  have hR := hR.up y6 (by decide) k60
  generalize (va_cpy g54 g56 (0 : Int32).toNatClampNeg (0 : Int32).toNatClampNeg (6 : Int32).toNatClampNeg) = g62 at g61
  exact W.vret hx hb hr (fun t ht hW => ⟨⟨f59, rfl, ⟨hT, hR, trivial⟩, by rw [ht]; exact hP, va_K.moved hW.alike hK, hD⟩, hS.F ht⟩) hS.2.2 dX8_copyFrom_70
