set_option maxHeartbeats 4000000 in
set_option maxRecDepth 100000 in
theorem t_X12_in (l : Launch) (dC : Nat → ClassId) (dI : Nat → Nat → Nat) (sz : Nat) (v : Int64) (lo : Int64) (hi : Int64) (Z_v : Int) (Z_lo : Int) (Z_hi : Int) (hZ_v : v.toInt = Z_v) (hZ_lo : lo.toInt = Z_lo) (hZ_hi : hi.toInt = Z_hi) : Met l yX12_in wqX12_in ({ frames := 2, cells := 0, slots := 0, locals := 400 }) (va_Pc [.long v, .long lo, .long hi] (pz_B dC dI [] [] sz)) (vp_Si (fun r => (0 ≤ r.toInt ∧ r.toInt ≤ 1) ∧ tp_cond r (Z_lo ≤ Z_v ∧ Z_v ≤ Z_hi))) 0 0 (fun _ => False) := by
  refine Met.ofW (cc := cX12_in) (maxL := 6) (ret := some .boolean) (by decide) rfl ?_
  intro p e s m args below meth c s₁ B hml hv
  obtain ⟨rfl, hsz, hP, hK, hD0, hN⟩ := hv
  have hx := B.exec
  have hb := B.bytes
  have hr := B.returns
  have hts := fun (w : Cond) (h : w ∈ WALL) => atoms_spec (ws := wqX12_in) B.pre w (List.mem_cons_of_mem _ h)
  have hown : s.vm.findClass RX12 = some m.cls := findClass_of_methodNamed B.named
  have hlocks := B.notSynchronized
  subst hsz
  have hD := hD0
  have hS : va_S (fun _ => True) s.heap s.heap [] := va_S.rf
  have hl := lv_entry ([.long v, .long lo, .long hi]) (n := 6) (Nat.le_of_ble_eq_true rfl)
  rw [lg_entry_eq]
  generalize (lg_sl ([.long v, .long lo, .long hi]) ++ List.replicate (6 - (lg_sl ([.long v, .long lo, .long hi])).length) Slot.unset).toArray = ls at hl ⊢
  have hl : lv_has ls 6 [(0, .long v), (2, .long lo), (4, .long hi)] := hl
  refine lv_lload_n hx hb dX12_in_0 rfl (lv_at hl 0 rfl) ?_
  refine lv_lload_n hx hb dX12_in_1 rfl (lv_at hl 1 rfl) ?_
  refine W.lcmp hx hb dX12_in_2 ?_
  refine lv_if_lt (tgt := 17) hx hb dX12_in_3 (by decide) (fun c1 => ?_) (fun c1 => ?_)
  · have ic1 : Z_v < Z_lo := zl_lt hZ_v hZ_lo c1
    refine lv_iconst (v := 0) hx hb dX12_in_17 (by decide) ?_
    exact W.zret (v := 0) hx hb hr rfl (fun t ht hW => ⟨0, rfl, ⟨(by first | decide | omega), (Or.inr ⟨rfl, by omega⟩)⟩, ht⟩) (fun _ h => by cases h) dX12_in_18
  · have ic1 : Z_v ≥ Z_lo := zl_ltf hZ_v hZ_lo c1
    refine lv_lload_n hx hb dX12_in_6 rfl (lv_at hl 0 rfl) ?_
    refine lv_lload hx hb dX12_in_7 (lv_at hl 2 rfl) ?_
    refine W.lcmp hx hb dX12_in_9 ?_
    refine lv_if_gt (tgt := 17) hx hb dX12_in_10 (by decide) (fun c2 => ?_) (fun c2 => ?_)
    · have ic2 : Z_v > Z_hi := zl_gt hZ_v hZ_hi c2
      refine lv_iconst (v := 0) hx hb dX12_in_17 (by decide) ?_
      exact W.zret (v := 0) hx hb hr rfl (fun t ht hW => ⟨0, rfl, ⟨(by first | decide | omega), (Or.inr ⟨rfl, by omega⟩)⟩, ht⟩) (fun _ h => by cases h) dX12_in_18
    · have ic2 : Z_v ≤ Z_hi := zl_gtf hZ_v hZ_hi c2
      refine lv_iconst (v := 1) hx hb dX12_in_13 (by decide) ?_
      refine lv_goto (tgt := 18) hx hb dX12_in_14 (by decide) ?_
      exact W.zret (v := 1) hx hb hr rfl (fun t ht hW => ⟨1, rfl, ⟨(by first | decide | omega), (Or.inl ⟨rfl, by omega⟩)⟩, ht⟩) (fun _ h => by cases h) dX12_in_18
set_option maxHeartbeats 4000000 in
set_option maxRecDepth 100000 in
theorem t_X12_isHour (l : Launch) (dC : Nat → ClassId) (dI : Nat → Nat → Nat) (sz : Nat) (v : Int32) (Z_v : Int) (hZ_v : v.toInt = Z_v) : Met l yX12_isHour wqX12_isHour ({ frames := 3, cells := 0, slots := 0, locals := 800 }) (va_Pc [.int v] (pz_B dC dI [] [] sz)) (vp_Si (fun r => (0 ≤ r.toInt ∧ r.toInt ≤ 1) ∧ tp_cond r (0 ≤ Z_v ∧ Z_v ≤ 2399))) 0 0 (fun _ => False) := by
  refine Met.ofW (cc := cX12_isHour) (maxL := 1) (ret := some .boolean) (by decide) rfl ?_
  intro p e s m args below meth c s₁ B hml hv
  obtain ⟨rfl, hsz, hP, hK, hD0, hN⟩ := hv
  have hx := B.exec
  have hb := B.bytes
  have hr := B.returns
  have hts := fun (w : Cond) (h : w ∈ WALL) => atoms_spec (ws := wqX12_isHour) B.pre w (List.mem_cons_of_mem _ h)
  have hown : s.vm.findClass RX12 = some m.cls := findClass_of_methodNamed B.named
  have hlocks := B.notSynchronized
  subst hsz
  have hD := hD0
  have hS : va_S (fun _ => True) s.heap s.heap [] := va_S.rf
  have hl := lv_entry ([.int v]) (n := 1) (Nat.le_of_ble_eq_true rfl)
  rw [lg_entry_eq]
  generalize (lg_sl ([.int v]) ++ List.replicate (1 - (lg_sl ([.int v])).length) Slot.unset).toArray = ls at hl ⊢
  have hl : lv_has ls 1 [(0, .int v)] := hl
  refine lv_iload_n hx hb dX12_isHour_0 rfl (lv_at hl 0 rfl) ?_
  refine lv_i2l hx hb dX12_isHour_1 rfl ?_
  refine lv_lconst (v := 0) hx hb dX12_isHour_2 (by decide) ?_
  refine lv_ldc2 (own := RX12) (v := 2399) hx hb hown (hts (.constantLong RX12 97 (2399)) wa_354) dX12_isHour_3 ?_
  refine pz_calli (va_runS (As := [.long v.toInt64, .long 0, .long 2399]) (rest := []) ⟨hx, hb, hml, hown, hts⟩ (t_X12_in l dC dI _ v.toInt64 (0) (2399) (Z_v) (0) (2399) ((Int32.toInt_toInt64 v).trans hZ_v) rfl rfl) (va_cwS 3 hts gX12_isHour_X12_in rfl rfl rfl pd_X12_in ⟨Nat.le_of_ble_eq_true rfl, Nat.le_of_ble_eq_true rfl⟩) ⟨pz_blind, pz_pre pz_P0 (hK.sub (tys' := []) [] rfl) (pz_D0 (A := fun _ => True)) hN⟩ rfl rfl hl.1 rfl (lv_room (Nat.le_of_ble_eq_true rfl)) dX12_isHour_6 ⟨Nat.le_of_ble_eq_true rfl, Nat.le_of_ble_eq_true rfl⟩) (fun r1 hw2 => ?_)
  obtain ⟨hw2r, hw2p⟩ := hw2
  exact W.zret (v := r1) hx hb hr (zi_narZ (by omega) (by omega)) (fun t ht hW => ⟨r1, rfl, ⟨(by first | decide | omega), (tp_cond.of hw2p (by omega))⟩, ht⟩) (fun _ h => by cases h) dX12_isHour_9
set_option maxHeartbeats 4000000 in
set_option maxRecDepth 100000 in
theorem t_X12_isDay (l : Launch) (dC : Nat → ClassId) (dI : Nat → Nat → Nat) (sz : Nat) (v : Int32) (Z_v : Int) (hZ_v : v.toInt = Z_v) : Met l yX12_isDay wqX12_isDay ({ frames := 3, cells := 0, slots := 0, locals := 800 }) (va_Pc [.int v] (pz_B dC dI [] [] sz)) (vp_Si (fun r => (0 ≤ r.toInt ∧ r.toInt ≤ 1) ∧ tp_cond r (0 ≤ Z_v ∧ Z_v ≤ 99))) 0 0 (fun _ => False) := by
  refine Met.ofW (cc := cX12_isDay) (maxL := 1) (ret := some .boolean) (by decide) rfl ?_
  intro p e s m args below meth c s₁ B hml hv
  obtain ⟨rfl, hsz, hP, hK, hD0, hN⟩ := hv
  have hx := B.exec
  have hb := B.bytes
  have hr := B.returns
  have hts := fun (w : Cond) (h : w ∈ WALL) => atoms_spec (ws := wqX12_isDay) B.pre w (List.mem_cons_of_mem _ h)
  have hown : s.vm.findClass RX12 = some m.cls := findClass_of_methodNamed B.named
  have hlocks := B.notSynchronized
  subst hsz
  have hD := hD0
  have hS : va_S (fun _ => True) s.heap s.heap [] := va_S.rf
  have hl := lv_entry ([.int v]) (n := 1) (Nat.le_of_ble_eq_true rfl)
  rw [lg_entry_eq]
  generalize (lg_sl ([.int v]) ++ List.replicate (1 - (lg_sl ([.int v])).length) Slot.unset).toArray = ls at hl ⊢
  have hl : lv_has ls 1 [(0, .int v)] := hl
  refine lv_iload_n hx hb dX12_isDay_0 rfl (lv_at hl 0 rfl) ?_
  refine lv_i2l hx hb dX12_isDay_1 rfl ?_
  refine lv_lconst (v := 0) hx hb dX12_isDay_2 (by decide) ?_
  refine lv_ldc2 (own := RX12) (v := 99) hx hb hown (hts (.constantLong RX12 103 (99)) wa_315) dX12_isDay_3 ?_
  refine pz_calli (va_runS (As := [.long v.toInt64, .long 0, .long 99]) (rest := []) ⟨hx, hb, hml, hown, hts⟩ (t_X12_in l dC dI _ v.toInt64 (0) (99) (Z_v) (0) (99) ((Int32.toInt_toInt64 v).trans hZ_v) rfl rfl) (va_cwS 3 hts gX12_isDay_X12_in rfl rfl rfl pd_X12_in ⟨Nat.le_of_ble_eq_true rfl, Nat.le_of_ble_eq_true rfl⟩) ⟨pz_blind, pz_pre pz_P0 (hK.sub (tys' := []) [] rfl) (pz_D0 (A := fun _ => True)) hN⟩ rfl rfl hl.1 rfl (lv_room (Nat.le_of_ble_eq_true rfl)) dX12_isDay_6 ⟨Nat.le_of_ble_eq_true rfl, Nat.le_of_ble_eq_true rfl⟩) (fun r1 hw2 => ?_)
  obtain ⟨hw2r, hw2p⟩ := hw2
  exact W.zret (v := r1) hx hb hr (zi_narZ (by omega) (by omega)) (fun t ht hW => ⟨r1, rfl, ⟨(by first | decide | omega), (tp_cond.of hw2p (by omega))⟩, ht⟩) (fun _ h => by cases h) dX12_isDay_9
set_option maxHeartbeats 4000000 in
set_option maxRecDepth 100000 in
theorem t_X12_shipAt (l : Launch) (dC : Nat → ClassId) (dI : Nat → Nat → Nat) (sz : Nat) (v : Int32) (Z_v : Int) (h1 : 0 ≤ Z_v ∧ Z_v ≤ 5) (hZ_v : v.toInt = Z_v) : Met l yX12_shipAt wqX12_shipAt ({ frames := 2, cells := 0, slots := 0, locals := 400 }) (va_Pc [.int v] (pz_B dC dI [] [] sz)) (vp_Si (fun r => True ∧ r.toInt = 547 + 84 * Z_v)) 0 0 (fun _ => False) := by
  refine Met.ofW (cc := cX12_shipAt) (maxL := 1) (ret := some .int) (by decide) rfl ?_
  intro p e s m args below meth c s₁ B hml hv
  obtain ⟨rfl, hsz, hP, hK, hD0, hN⟩ := hv
  have hx := B.exec
  have hb := B.bytes
  have hr := B.returns
  have hts := fun (w : Cond) (h : w ∈ WALL) => atoms_spec (ws := wqX12_shipAt) B.pre w (List.mem_cons_of_mem _ h)
  have hown : s.vm.findClass RX12 = some m.cls := findClass_of_methodNamed B.named
  have hlocks := B.notSynchronized
  subst hsz
  have hD := hD0
  have hS : va_S (fun _ => True) s.heap s.heap [] := va_S.rf
  have hl := lv_entry ([.int v]) (n := 1) (Nat.le_of_ble_eq_true rfl)
  rw [lg_entry_eq]
  generalize (lg_sl ([.int v]) ++ List.replicate (1 - (lg_sl ([.int v])).length) Slot.unset).toArray = ls at hl ⊢
  have hl : lv_has ls 1 [(0, .int v)] := hl
  refine lv_sipush (v := 547) hx hb dX12_shipAt_0 (by decide) ?_
  refine lv_bipush (v := 84) hx hb dX12_shipAt_3 (by decide) ?_
  refine lv_iload_n hx hb dX12_shipAt_5 rfl (lv_at hl 0 rfl) ?_
  refine lv_imul hx hb dX12_shipAt_6 ?_
  refine lv_topi (fun z1 ez1 => ?_)
  have iz1 : z1.toInt = 84 * Z_v := zi_mul ez1 rfl hZ_v (by omega) (by omega)
  refine lv_iadd hx hb dX12_shipAt_7 ?_
  refine lv_topi (fun z2 ez2 => ?_)
  have iz2 : z2.toInt = 547 + z1.toInt := zi_add ez2 rfl rfl (by omega) (by omega)
  exact W.iret (v := z2) hx hb hr (fun t ht hW => ⟨z2, rfl, ⟨trivial, (by omega)⟩, ht⟩) (fun _ h => by cases h) dX12_shipAt_8
set_option maxHeartbeats 4000000 in
set_option maxRecDepth 100000 in
theorem t_X12_terminalAt (l : Launch) (dC : Nat → ClassId) (dI : Nat → Nat → Nat) (sz : Nat) (v : Int32) (Z_v : Int) (h1 : 0 ≤ Z_v ∧ Z_v ≤ 5) (hZ_v : v.toInt = Z_v) : Met l yX12_terminalAt wqX12_terminalAt ({ frames := 2, cells := 0, slots := 0, locals := 400 }) (va_Pc [.int v] (pz_B dC dI [] [] sz)) (vp_Si (fun r => True ∧ r.toInt = 20 + 5 * Z_v)) 0 0 (fun _ => False) := by
  refine Met.ofW (cc := cX12_terminalAt) (maxL := 1) (ret := some .int) (by decide) rfl ?_
  intro p e s m args below meth c s₁ B hml hv
  obtain ⟨rfl, hsz, hP, hK, hD0, hN⟩ := hv
  have hx := B.exec
  have hb := B.bytes
  have hr := B.returns
  have hts := fun (w : Cond) (h : w ∈ WALL) => atoms_spec (ws := wqX12_terminalAt) B.pre w (List.mem_cons_of_mem _ h)
  have hown : s.vm.findClass RX12 = some m.cls := findClass_of_methodNamed B.named
  have hlocks := B.notSynchronized
  subst hsz
  have hD := hD0
  have hS : va_S (fun _ => True) s.heap s.heap [] := va_S.rf
  have hl := lv_entry ([.int v]) (n := 1) (Nat.le_of_ble_eq_true rfl)
  rw [lg_entry_eq]
  generalize (lg_sl ([.int v]) ++ List.replicate (1 - (lg_sl ([.int v])).length) Slot.unset).toArray = ls at hl ⊢
  have hl : lv_has ls 1 [(0, .int v)] := hl
  refine lv_bipush (v := 20) hx hb dX12_terminalAt_0 (by decide) ?_
  refine lv_iconst (v := 5) hx hb dX12_terminalAt_2 (by decide) ?_
  refine lv_iload_n hx hb dX12_terminalAt_3 rfl (lv_at hl 0 rfl) ?_
  refine lv_imul hx hb dX12_terminalAt_4 ?_
  refine lv_topi (fun z1 ez1 => ?_)
  have iz1 : z1.toInt = 5 * Z_v := zi_mul ez1 rfl hZ_v (by omega) (by omega)
  refine lv_iadd hx hb dX12_terminalAt_5 ?_
  refine lv_topi (fun z2 ez2 => ?_)
  have iz2 : z2.toInt = 20 + z1.toInt := zi_add ez2 rfl rfl (by omega) (by omega)
  exact W.iret (v := z2) hx hb hr (fun t ht hW => ⟨z2, rfl, ⟨trivial, (by omega)⟩, ht⟩) (fun _ h => by cases h) dX12_terminalAt_6
set_option maxHeartbeats 4000000 in
set_option maxRecDepth 100000 in
theorem t_X12_landingAt (l : Launch) (dC : Nat → ClassId) (dI : Nat → Nat → Nat) (sz : Nat) (v : Int32) (Z_v : Int) (h1 : 0 ≤ Z_v ∧ Z_v ≤ 59) (hZ_v : v.toInt = Z_v) : Met l yX12_landingAt wqX12_landingAt ({ frames := 2, cells := 0, slots := 0, locals := 400 }) (va_Pc [.int v] (pz_B dC dI [] [] sz)) (vp_Si (fun r => True ∧ r.toInt = 1051 + 16 * Z_v)) 0 0 (fun _ => False) := by
  refine Met.ofW (cc := cX12_landingAt) (maxL := 1) (ret := some .int) (by decide) rfl ?_
  intro p e s m args below meth c s₁ B hml hv
  obtain ⟨rfl, hsz, hP, hK, hD0, hN⟩ := hv
  have hx := B.exec
  have hb := B.bytes
  have hr := B.returns
  have hts := fun (w : Cond) (h : w ∈ WALL) => atoms_spec (ws := wqX12_landingAt) B.pre w (List.mem_cons_of_mem _ h)
  have hown : s.vm.findClass RX12 = some m.cls := findClass_of_methodNamed B.named
  have hlocks := B.notSynchronized
  subst hsz
  have hD := hD0
  have hS : va_S (fun _ => True) s.heap s.heap [] := va_S.rf
  have hl := lv_entry ([.int v]) (n := 1) (Nat.le_of_ble_eq_true rfl)
  rw [lg_entry_eq]
  generalize (lg_sl ([.int v]) ++ List.replicate (1 - (lg_sl ([.int v])).length) Slot.unset).toArray = ls at hl ⊢
  have hl : lv_has ls 1 [(0, .int v)] := hl
  refine lv_sipush (v := 1051) hx hb dX12_landingAt_0 (by decide) ?_
  refine lv_bipush (v := 16) hx hb dX12_landingAt_3 (by decide) ?_
  refine lv_iload_n hx hb dX12_landingAt_5 rfl (lv_at hl 0 rfl) ?_
  refine lv_imul hx hb dX12_landingAt_6 ?_
  refine lv_topi (fun z1 ez1 => ?_)
  have iz1 : z1.toInt = 16 * Z_v := zi_mul ez1 rfl hZ_v (by omega) (by omega)
  refine lv_iadd hx hb dX12_landingAt_7 ?_
  refine lv_topi (fun z2 ez2 => ?_)
  have iz2 : z2.toInt = 1051 + z1.toInt := zi_add ez2 rfl rfl (by omega) (by omega)
  exact W.iret (v := z2) hx hb hr (fun t ht hW => ⟨z2, rfl, ⟨trivial, (by omega)⟩, ht⟩) (fun _ h => by cases h) dX12_landingAt_8
set_option maxHeartbeats 4000000 in
set_option maxRecDepth 100000 in
theorem t_X12_contractAt (l : Launch) (dC : Nat → ClassId) (dI : Nat → Nat → Nat) (sz : Nat) (v : Int32) (Z_v : Int) (h1 : 0 ≤ Z_v ∧ Z_v ≤ 11) (hZ_v : v.toInt = Z_v) : Met l yX12_contractAt wqX12_contractAt ({ frames := 2, cells := 0, slots := 0, locals := 400 }) (va_Pc [.int v] (pz_B dC dI [] [] sz)) (vp_Si (fun r => True ∧ r.toInt = 2251 + 864 * Z_v)) 0 0 (fun _ => False) := by
  refine Met.ofW (cc := cX12_contractAt) (maxL := 1) (ret := some .int) (by decide) rfl ?_
  intro p e s m args below meth c s₁ B hml hv
  obtain ⟨rfl, hsz, hP, hK, hD0, hN⟩ := hv
  have hx := B.exec
  have hb := B.bytes
  have hr := B.returns
  have hts := fun (w : Cond) (h : w ∈ WALL) => atoms_spec (ws := wqX12_contractAt) B.pre w (List.mem_cons_of_mem _ h)
  have hown : s.vm.findClass RX12 = some m.cls := findClass_of_methodNamed B.named
  have hlocks := B.notSynchronized
  subst hsz
  have hD := hD0
  have hS : va_S (fun _ => True) s.heap s.heap [] := va_S.rf
  have hl := lv_entry ([.int v]) (n := 1) (Nat.le_of_ble_eq_true rfl)
  rw [lg_entry_eq]
  generalize (lg_sl ([.int v]) ++ List.replicate (1 - (lg_sl ([.int v])).length) Slot.unset).toArray = ls at hl ⊢
  have hl : lv_has ls 1 [(0, .int v)] := hl
  refine lv_sipush (v := 2251) hx hb dX12_contractAt_0 (by decide) ?_
  refine lv_sipush (v := 864) hx hb dX12_contractAt_3 (by decide) ?_
  refine lv_iload_n hx hb dX12_contractAt_6 rfl (lv_at hl 0 rfl) ?_
  refine lv_imul hx hb dX12_contractAt_7 ?_
  refine lv_topi (fun z1 ez1 => ?_)
  have iz1 : z1.toInt = 864 * Z_v := zi_mul ez1 rfl hZ_v (by omega) (by omega)
  refine lv_iadd hx hb dX12_contractAt_8 ?_
  refine lv_topi (fun z2 ez2 => ?_)
  have iz2 : z2.toInt = 2251 + z1.toInt := zi_add ez2 rfl rfl (by omega) (by omega)
  exact W.iret (v := z2) hx hb hr (fun t ht hW => ⟨z2, rfl, ⟨trivial, (by omega)⟩, ht⟩) (fun _ h => by cases h) dX12_contractAt_9
set_option maxHeartbeats 4000000 in
set_option maxRecDepth 100000 in
theorem t_X12_lesser (l : Launch) (dC : Nat → ClassId) (dI : Nat → Nat → Nat) (sz : Nat) (v : Int32) (u : Int32) (Z_v : Int) (Z_u : Int) (hZ_v : v.toInt = Z_v) (hZ_u : u.toInt = Z_u) : Met l yX12_lesser wqX12_lesser ({ frames := 2, cells := 0, slots := 0, locals := 400 }) (va_Pc [.int v, .int u] (pz_B dC dI [] [] sz)) (vp_Si (fun r => True ∧ r.toInt ≤ Z_v ∧ r.toInt ≤ Z_u ∧ (r.toInt = Z_v ∨ r.toInt = Z_u))) 0 0 (fun _ => False) := by
  refine Met.ofW (cc := cX12_lesser) (maxL := 2) (ret := some .int) (by decide) rfl ?_
  intro p e s m args below meth c s₁ B hml hv
  obtain ⟨rfl, hsz, hP, hK, hD0, hN⟩ := hv
  have hx := B.exec
  have hb := B.bytes
  have hr := B.returns
  have hts := fun (w : Cond) (h : w ∈ WALL) => atoms_spec (ws := wqX12_lesser) B.pre w (List.mem_cons_of_mem _ h)
  have hown : s.vm.findClass RX12 = some m.cls := findClass_of_methodNamed B.named
  have hlocks := B.notSynchronized
  subst hsz
  have hD := hD0
  have hS : va_S (fun _ => True) s.heap s.heap [] := va_S.rf
  have hl := lv_entry ([.int v, .int u]) (n := 2) (Nat.le_of_ble_eq_true rfl)
  rw [lg_entry_eq]
  generalize (lg_sl ([.int v, .int u]) ++ List.replicate (2 - (lg_sl ([.int v, .int u])).length) Slot.unset).toArray = ls at hl ⊢
  have hl : lv_has ls 2 [(0, .int v), (1, .int u)] := hl
  refine lv_iload_n hx hb dX12_lesser_0 rfl (lv_at hl 0 rfl) ?_
  refine lv_iload_n hx hb dX12_lesser_1 rfl (lv_at hl 1 rfl) ?_
  refine lv_icmp_ge (tgt := 9) hx hb dX12_lesser_2 (by decide) (fun c1 => ?_) (fun c1 => ?_)
  · have ic1 : Z_v ≥ Z_u := zi_ge hZ_v hZ_u c1
    refine lv_iload_n hx hb dX12_lesser_9 rfl (lv_at hl 1 rfl) ?_
    exact W.iret (v := u) hx hb hr (fun t ht hW => ⟨u, rfl, ⟨trivial, (by omega)⟩, ht⟩) (fun _ h => by cases h) dX12_lesser_10
  · have ic1 : Z_v < Z_u := zi_gef hZ_v hZ_u c1
    refine lv_iload_n hx hb dX12_lesser_5 rfl (lv_at hl 0 rfl) ?_
    refine lv_goto (tgt := 10) hx hb dX12_lesser_6 (by decide) ?_
    exact W.iret (v := v) hx hb hr (fun t ht hW => ⟨v, rfl, ⟨trivial, (by omega)⟩, ht⟩) (fun _ h => by cases h) dX12_lesser_10
set_option maxHeartbeats 4000000 in
set_option maxRecDepth 100000 in
theorem t_X12_isSmall (l : Launch) (dC : Nat → ClassId) (dI : Nat → Nat → Nat) (sz : Nat) (v : Int32) (Z_v : Int) (hZ_v : v.toInt = Z_v) : Met l yX12_isSmall wqX12_isSmall ({ frames := 2, cells := 0, slots := 0, locals := 400 }) (va_Pc [.int v] (pz_B dC dI [] [] sz)) (vp_Si (fun r => (0 ≤ r.toInt ∧ r.toInt ≤ 1) ∧ tp_cond r (97 ≤ Z_v ∧ Z_v ≤ 122))) 0 0 (fun _ => False) := by
  refine Met.ofW (cc := cX12_isSmall) (maxL := 1) (ret := some .boolean) (by decide) rfl ?_
  intro p e s m args below meth c s₁ B hml hv
  obtain ⟨rfl, hsz, hP, hK, hD0, hN⟩ := hv
  have hx := B.exec
  have hb := B.bytes
  have hr := B.returns
  have hts := fun (w : Cond) (h : w ∈ WALL) => atoms_spec (ws := wqX12_isSmall) B.pre w (List.mem_cons_of_mem _ h)
  have hown : s.vm.findClass RX12 = some m.cls := findClass_of_methodNamed B.named
  have hlocks := B.notSynchronized
  subst hsz
  have hD := hD0
  have hS : va_S (fun _ => True) s.heap s.heap [] := va_S.rf
  have hl := lv_entry ([.int v]) (n := 1) (Nat.le_of_ble_eq_true rfl)
  rw [lg_entry_eq]
  generalize (lg_sl ([.int v]) ++ List.replicate (1 - (lg_sl ([.int v])).length) Slot.unset).toArray = ls at hl ⊢
  have hl : lv_has ls 1 [(0, .int v)] := hl
  refine lv_iload_n hx hb dX12_isSmall_0 rfl (lv_at hl 0 rfl) ?_
  refine lv_bipush (v := 97) hx hb dX12_isSmall_1 (by decide) ?_
  refine lv_icmp_lt (tgt := 16) hx hb dX12_isSmall_3 (by decide) (fun c1 => ?_) (fun c1 => ?_)
  · have ic1 : Z_v < 97 := zi_lt hZ_v rfl c1
    refine lv_iconst (v := 0) hx hb dX12_isSmall_16 (by decide) ?_
    exact W.zret (v := 0) hx hb hr rfl (fun t ht hW => ⟨0, rfl, ⟨(by first | decide | omega), (Or.inr ⟨rfl, by omega⟩)⟩, ht⟩) (fun _ h => by cases h) dX12_isSmall_17
  · have ic1 : Z_v ≥ 97 := zi_ltf hZ_v rfl c1
    refine lv_iload_n hx hb dX12_isSmall_6 rfl (lv_at hl 0 rfl) ?_
    refine lv_bipush (v := 122) hx hb dX12_isSmall_7 (by decide) ?_
    refine lv_icmp_gt (tgt := 16) hx hb dX12_isSmall_9 (by decide) (fun c2 => ?_) (fun c2 => ?_)
    · have ic2 : Z_v > 122 := zi_gt hZ_v rfl c2
      refine lv_iconst (v := 0) hx hb dX12_isSmall_16 (by decide) ?_
      exact W.zret (v := 0) hx hb hr rfl (fun t ht hW => ⟨0, rfl, ⟨(by first | decide | omega), (Or.inr ⟨rfl, by omega⟩)⟩, ht⟩) (fun _ h => by cases h) dX12_isSmall_17
    · have ic2 : Z_v ≤ 122 := zi_gtf hZ_v rfl c2
      refine lv_iconst (v := 1) hx hb dX12_isSmall_12 (by decide) ?_
      refine lv_goto (tgt := 17) hx hb dX12_isSmall_13 (by decide) ?_
      exact W.zret (v := 1) hx hb hr rfl (fun t ht hW => ⟨1, rfl, ⟨(by first | decide | omega), (Or.inl ⟨rfl, by omega⟩)⟩, ht⟩) (fun _ h => by cases h) dX12_isSmall_17
set_option maxHeartbeats 4000000 in
set_option maxRecDepth 100000 in
theorem t_X12_isDigit (l : Launch) (dC : Nat → ClassId) (dI : Nat → Nat → Nat) (sz : Nat) (v : Int32) (Z_v : Int) (hZ_v : v.toInt = Z_v) : Met l yX12_isDigit wqX12_isDigit ({ frames := 2, cells := 0, slots := 0, locals := 400 }) (va_Pc [.int v] (pz_B dC dI [] [] sz)) (vp_Si (fun r => (0 ≤ r.toInt ∧ r.toInt ≤ 1) ∧ tp_cond r (48 ≤ Z_v ∧ Z_v ≤ 57))) 0 0 (fun _ => False) := by
  refine Met.ofW (cc := cX12_isDigit) (maxL := 1) (ret := some .boolean) (by decide) rfl ?_
  intro p e s m args below meth c s₁ B hml hv
  obtain ⟨rfl, hsz, hP, hK, hD0, hN⟩ := hv
  have hx := B.exec
  have hb := B.bytes
  have hr := B.returns
  have hts := fun (w : Cond) (h : w ∈ WALL) => atoms_spec (ws := wqX12_isDigit) B.pre w (List.mem_cons_of_mem _ h)
  have hown : s.vm.findClass RX12 = some m.cls := findClass_of_methodNamed B.named
  have hlocks := B.notSynchronized
  subst hsz
  have hD := hD0
  have hS : va_S (fun _ => True) s.heap s.heap [] := va_S.rf
  have hl := lv_entry ([.int v]) (n := 1) (Nat.le_of_ble_eq_true rfl)
  rw [lg_entry_eq]
  generalize (lg_sl ([.int v]) ++ List.replicate (1 - (lg_sl ([.int v])).length) Slot.unset).toArray = ls at hl ⊢
  have hl : lv_has ls 1 [(0, .int v)] := hl
  refine lv_iload_n hx hb dX12_isDigit_0 rfl (lv_at hl 0 rfl) ?_
  refine lv_bipush (v := 48) hx hb dX12_isDigit_1 (by decide) ?_
  refine lv_icmp_lt (tgt := 16) hx hb dX12_isDigit_3 (by decide) (fun c1 => ?_) (fun c1 => ?_)
  · have ic1 : Z_v < 48 := zi_lt hZ_v rfl c1
    refine lv_iconst (v := 0) hx hb dX12_isDigit_16 (by decide) ?_
    exact W.zret (v := 0) hx hb hr rfl (fun t ht hW => ⟨0, rfl, ⟨(by first | decide | omega), (Or.inr ⟨rfl, by omega⟩)⟩, ht⟩) (fun _ h => by cases h) dX12_isDigit_17
  · have ic1 : Z_v ≥ 48 := zi_ltf hZ_v rfl c1
    refine lv_iload_n hx hb dX12_isDigit_6 rfl (lv_at hl 0 rfl) ?_
    refine lv_bipush (v := 57) hx hb dX12_isDigit_7 (by decide) ?_
    refine lv_icmp_gt (tgt := 16) hx hb dX12_isDigit_9 (by decide) (fun c2 => ?_) (fun c2 => ?_)
    · have ic2 : Z_v > 57 := zi_gt hZ_v rfl c2
      refine lv_iconst (v := 0) hx hb dX12_isDigit_16 (by decide) ?_
      exact W.zret (v := 0) hx hb hr rfl (fun t ht hW => ⟨0, rfl, ⟨(by first | decide | omega), (Or.inr ⟨rfl, by omega⟩)⟩, ht⟩) (fun _ h => by cases h) dX12_isDigit_17
    · have ic2 : Z_v ≤ 57 := zi_gtf hZ_v rfl c2
      refine lv_iconst (v := 1) hx hb dX12_isDigit_12 (by decide) ?_
      refine lv_goto (tgt := 17) hx hb dX12_isDigit_13 (by decide) ?_
      exact W.zret (v := 1) hx hb hr rfl (fun t ht hW => ⟨1, rfl, ⟨(by first | decide | omega), (Or.inl ⟨rfl, by omega⟩)⟩, ht⟩) (fun _ h => by cases h) dX12_isDigit_17
set_option maxHeartbeats 4000000 in
set_option maxRecDepth 100000 in
theorem t_X12_told (l : Launch) (dC : Nat → ClassId) (dI : Nat → Nat → Nat) (sz : Nat) (κ : Nat → ClassId) (τ ν : Nat → Nat) (ρ : Nat → Nat → Nat) (L : List Nat) (f : Nat → va_E) (hG : tp_G τ ν ρ L) (hT : tp_T (mo_O κ) κ τ ν ρ f) (h0 : Nat) (v : Int32) (ht_h0 : τ h0 = 13) : Met l yX12_told wqX12_told ({ frames := 2, cells := 0, slots := 0, locals := 400 }) (va_Pc [.ref h0, .int v] (pz_B dC dI (tp_K κ) (va_pl L f) sz)) (va_Qi (fun (r : Int32) (f1 : Nat → va_E) => tp_T (mo_O κ) κ τ ν ρ f1 ∧ tp_F τ [13] f f1 ∧ True ∧ r = v) (fun (f1 : Nat → va_E) (t : State) => pz_E dC dI (tp_K κ) (va_A (va_pl L f) sz) (va_pl L f1) t) (va_A (va_pl L f) sz)) 0 0 (va_A (va_pl L f) sz) := by
  refine Met.ofW (cc := cX12_told) (maxL := 2) (ret := some .int) (by decide) rfl ?_
  intro p e s m args below meth c s₁ B hml hv
  obtain ⟨rfl, hsz, hP, hK, hD0, hN⟩ := hv
  have hx := B.exec
  have hb := B.bytes
  have hr := B.returns
  have hts := fun (w : Cond) (h : w ∈ WALL) => atoms_spec (ws := wqX12_told) B.pre w (List.mem_cons_of_mem _ h)
  have hown : s.vm.findClass RX12 = some m.cls := findClass_of_methodNamed B.named
  have hlocks := B.notSynchronized
  subst hsz
  have hD := hD0.self (sz := s.heap.size)
  generalize hAe : va_A (va_pl L f) s.heap.size = A at hD ⊢
  have hA : ∀ q : Nat, s.heap.size ≤ q → A q := fun q h => by rw [← hAe]; exact Or.inr h
  have hS : va_S A s.heap s.heap [] := va_S.rf
  have hR : tp_F τ [13] f f := tp_F.rf
  have hl := lv_entry ([.ref h0, .int v]) (n := 2) (Nat.le_of_ble_eq_true rfl)
  rw [lg_entry_eq]
  generalize (lg_sl ([.ref h0, .int v]) ++ List.replicate (2 - (lg_sl ([.ref h0, .int v])).length) Slot.unset).toArray = ls at hl ⊢
  have hl : lv_has ls 2 [(0, .ref h0), (1, .int v)] := hl
  refine lv_aload_n hx hb dX12_told_0 rfl (lv_at hl 0 rfl) ?_
  refine lv_iload_n hx hb dX12_told_1 rfl (lv_at hl 1 rfl) ?_
  refine lv_if_ge (tgt := 9) hx hb dX12_told_2 (by decide) (fun c1 => ?_) (fun c1 => ?_)
  · have ic1 : v.toInt ≥ 0 := zi_ge rfl rfl c1
    refine lv_iconst (v := 0) hx hb dX12_told_9 (by decide) ?_
    refine tgk_13 hG ht_h0 (fun y2 y3 y4 y5 y6 y7 y8 y9 y10 y11 y12 y13 y14 y15 y16 y17 y18 y19 y20 y21 y22 y23 y24 y25 y26 => ?_)
    refine tpk_13 hT ht_h0 (fun o27_x0 o27_x1 o27_x7 o27_x9 o27_x10 o27_x11 o27_x12 o27_x13 o27_x14 o27_x15 o27_x16 o27_x17 o27_x18 o27_x19 o27_x20 o27_x22 o27_x25 o27_x28 o27_x29 o27_x32 o27_x33 o27_x34 o27_x35 o27_x36 o27_x37 o27_x38 o27_x47 o27_x48 hf_o27 ro27_0 ro27_1 ro27_2 ro27_3 ro27_4 ro27_5 ro27_6 ro27_7 ro27_8 ro27_9 ro27_10 ro27_11 ro27_12 ro27_13 => ?_)
    refine tpk_pos (tp_in hG ht_h0 (by decide)) hf_o27 (fun q28 eq28 => ?_)
    refine va_put (D := (dC, dI)) (ci := 12) (v := .int 0) (ty := .int) (C := RX12) (T := TX12) (N := 53) hx hb hts hfX12 tyX12 tyX12_ok nmX12 hown hK hP hD hS q28 eq28 rfl 1 (by decide) (hts (.fieldLink RX12 94 "ColdShipsModel" "status" "I") wa_220) (fun _ h9 => h9) rfl (tyX12_ok 1 (by decide)) rfl rfl (Nat.le_of_ble_eq_true rfl) dX12_told_10 (tp_k (.inr (12, [.int o27_x0, .int 0, .ref (ρ h0 2), .ref (ρ h0 3), .ref (ρ h0 4), .ref (ρ h0 5), .ref (ρ h0 6), .int o27_x7, .ref (ρ h0 8), .int o27_x9, .int o27_x10, .int o27_x11, .int o27_x12, .long o27_x13, .int o27_x14, .int o27_x15, .int o27_x16, .int o27_x17, .int o27_x18, .int o27_x19, .int o27_x20, .ref (ρ h0 21), .int o27_x22, .ref (ρ h0 23), .ref (ρ h0 24), .int o27_x25, .ref (ρ h0 26), .ref (ρ h0 27), .int o27_x28, .int o27_x29, .ref (ρ h0 30), .ref (ρ h0 31), .int o27_x32, .long o27_x33, .long o27_x34, .long o27_x35, .int o27_x36, .int o27_x37, .int o27_x38, .ref (ρ h0 39), .ref (ρ h0 40), .ref (ρ h0 41), .ref (ρ h0 42), .ref (ρ h0 43), .ref (ρ h0 44), .ref (ρ h0 45), .ref (ρ h0 46), .int o27_x47, .int o27_x48, .ref (ρ h0 49), .ref (ρ h0 50), .ref (ρ h0 51), .ref (ρ h0 52)])) hD (tp_in hG ht_h0 (by decide)) eq28 (fun f29 H locs hP hD hS g31 k30 => ?_))
    have hT := hT.up ht_h0 g31 k30 ⟨_, _, _, _, _, _, _, _, _, _, _, _, _, _, _, _, _, _, _, _, _, _, _, _, _, _, _, _, rfl, ro27_0, ro27_1, ro27_2, ro27_3, ro27_4, ro27_5, ro27_6, ro27_7, ro27_8, ro27_9, ro27_10, ro27_11, ro27_12, ro27_13⟩
    have hR := hR.up ht_h0 (by decide) k30
    refine lv_iload_n hx hb dX12_told_13 rfl (lv_at hl 1 rfl) ?_
    exact W.iret (v := v) hx hb hr (fun t ht hW => ⟨⟨v, f29, rfl, ⟨hT, hR, trivial, rfl⟩, by rw [ht]; exact hP, va_K.moved hW.alike hK, hD⟩, hS.F ht⟩) hS.2.2 dX12_told_14
  · have ic1 : v.toInt < 0 := zi_gef rfl rfl c1
    refine lv_iload_n hx hb dX12_told_5 rfl (lv_at hl 1 rfl) ?_
    refine lv_goto (tgt := 10) hx hb dX12_told_6 (by decide) ?_
    refine tgk_13 hG ht_h0 (fun y32 y33 y34 y35 y36 y37 y38 y39 y40 y41 y42 y43 y44 y45 y46 y47 y48 y49 y50 y51 y52 y53 y54 y55 y56 => ?_)
    refine tpk_13 hT ht_h0 (fun o57_x0 o57_x1 o57_x7 o57_x9 o57_x10 o57_x11 o57_x12 o57_x13 o57_x14 o57_x15 o57_x16 o57_x17 o57_x18 o57_x19 o57_x20 o57_x22 o57_x25 o57_x28 o57_x29 o57_x32 o57_x33 o57_x34 o57_x35 o57_x36 o57_x37 o57_x38 o57_x47 o57_x48 hf_o57 ro57_0 ro57_1 ro57_2 ro57_3 ro57_4 ro57_5 ro57_6 ro57_7 ro57_8 ro57_9 ro57_10 ro57_11 ro57_12 ro57_13 => ?_)
    refine tpk_pos (tp_in hG ht_h0 (by decide)) hf_o57 (fun q58 eq58 => ?_)
    refine va_put (D := (dC, dI)) (ci := 12) (v := .int v) (ty := .int) (C := RX12) (T := TX12) (N := 53) hx hb hts hfX12 tyX12 tyX12_ok nmX12 hown hK hP hD hS q58 eq58 rfl 1 (by decide) (hts (.fieldLink RX12 94 "ColdShipsModel" "status" "I") wa_220) (fun _ h9 => h9) rfl (tyX12_ok 1 (by decide)) rfl rfl (Nat.le_of_ble_eq_true rfl) dX12_told_10 (tp_k (.inr (12, [.int o57_x0, .int v, .ref (ρ h0 2), .ref (ρ h0 3), .ref (ρ h0 4), .ref (ρ h0 5), .ref (ρ h0 6), .int o57_x7, .ref (ρ h0 8), .int o57_x9, .int o57_x10, .int o57_x11, .int o57_x12, .long o57_x13, .int o57_x14, .int o57_x15, .int o57_x16, .int o57_x17, .int o57_x18, .int o57_x19, .int o57_x20, .ref (ρ h0 21), .int o57_x22, .ref (ρ h0 23), .ref (ρ h0 24), .int o57_x25, .ref (ρ h0 26), .ref (ρ h0 27), .int o57_x28, .int o57_x29, .ref (ρ h0 30), .ref (ρ h0 31), .int o57_x32, .long o57_x33, .long o57_x34, .long o57_x35, .int o57_x36, .int o57_x37, .int o57_x38, .ref (ρ h0 39), .ref (ρ h0 40), .ref (ρ h0 41), .ref (ρ h0 42), .ref (ρ h0 43), .ref (ρ h0 44), .ref (ρ h0 45), .ref (ρ h0 46), .int o57_x47, .int o57_x48, .ref (ρ h0 49), .ref (ρ h0 50), .ref (ρ h0 51), .ref (ρ h0 52)])) hD (tp_in hG ht_h0 (by decide)) eq58 (fun f59 H locs hP hD hS g61 k60 => ?_))
    have hT := hT.up ht_h0 g61 k60 ⟨_, _, _, _, _, _, _, _, _, _, _, _, _, _, _, _, _, _, _, _, _, _, _, _, _, _, _, _, rfl, ro57_0, ro57_1, ro57_2, ro57_3, ro57_4, ro57_5, ro57_6, ro57_7, ro57_8, ro57_9, ro57_10, ro57_11, ro57_12, ro57_13⟩
    have hR := hR.up ht_h0 (by decide) k60
    refine lv_iload_n hx hb dX12_told_13 rfl (lv_at hl 1 rfl) ?_
    exact W.iret (v := v) hx hb hr (fun t ht hW => ⟨⟨v, f59, rfl, ⟨hT, hR, trivial, rfl⟩, by rw [ht]; exact hP, va_K.moved hW.alike hK, hD⟩, hS.F ht⟩) hS.2.2 dX12_told_14
set_option maxHeartbeats 4000000 in
set_option maxRecDepth 100000 in
theorem t_X12_addFour (l : Launch) (dC : Nat → ClassId) (dI : Nat → Nat → Nat) (sz : Nat) (κ : Nat → ClassId) (τ ν : Nat → Nat) (ρ : Nat → Nat → Nat) (L : List Nat) (f : Nat → va_E) (hG : tp_G τ ν ρ L) (hT : tp_T (mo_O κ) κ τ ν ρ f) (h0 : Nat) (ad : Int32) (a1 : Int32) (a2 : Int32) (a3 : Int32) (a4 : Int32) (ht_h0 : τ h0 = 13) (hr_ad : 0 ≤ ad.toInt ∧ ad.toInt ≤ 12963) : Met l yX12_addFour wqX12_addFour ({ frames := 2, cells := 0, slots := 0, locals := 400 }) (va_Pc [.ref h0, .int ad, .int a1, .int a2, .int a3, .int a4] (pz_B dC dI (tp_K κ) (va_pl L f) sz)) (va_Qv (fun (f1 : Nat → va_E) => tp_T (mo_O κ) κ τ ν ρ f1 ∧ tp_F τ [32] f f1 ∧ ∃ Q1 Q2 Q3 : Int → Int, mo_U (mo_R (mo_i (f (ρ h0 2)))) Q1 (ad.toInt) a1.toInt ∧ mo_U Q1 Q2 (ad.toInt + 1) a2.toInt ∧ mo_U Q2 Q3 (ad.toInt + 2) a3.toInt ∧ mo_U Q3 (mo_R (mo_i (f1 (ρ h0 2)))) (ad.toInt + 3) a4.toInt) (fun (f1 : Nat → va_E) (t : State) => pz_E dC dI (tp_K κ) (va_A (va_pl L f) sz) (va_pl L f1) t) (va_A (va_pl L f) sz)) 0 0 (va_A (va_pl L f) sz) := by
  refine Met.ofW (cc := cX12_addFour) (maxL := 6) (ret := none) (by decide) rfl ?_
  intro p e s m args below meth c s₁ B hml hv
  obtain ⟨rfl, hsz, hP, hK, hD0, hN⟩ := hv
  have hx := B.exec
  have hb := B.bytes
  have hr := B.returns
  have hts := fun (w : Cond) (h : w ∈ WALL) => atoms_spec (ws := wqX12_addFour) B.pre w (List.mem_cons_of_mem _ h)
  have hown : s.vm.findClass RX12 = some m.cls := findClass_of_methodNamed B.named
  have hlocks := B.notSynchronized
  subst hsz
  have hD := hD0.self (sz := s.heap.size)
  generalize hAe : va_A (va_pl L f) s.heap.size = A at hD ⊢
  have hA : ∀ q : Nat, s.heap.size ≤ q → A q := fun q h => by rw [← hAe]; exact Or.inr h
  have hS : va_S A s.heap s.heap [] := va_S.rf
  have hR : tp_F τ [32] f f := tp_F.rf
  have hl := lv_entry ([.ref h0, .int ad, .int a1, .int a2, .int a3, .int a4]) (n := 6) (Nat.le_of_ble_eq_true rfl)
  rw [lg_entry_eq]
  generalize (lg_sl ([.ref h0, .int ad, .int a1, .int a2, .int a3, .int a4]) ++ List.replicate (6 - (lg_sl ([.ref h0, .int ad, .int a1, .int a2, .int a3, .int a4])).length) Slot.unset).toArray = ls at hl ⊢
  have hl : lv_has ls 6 [(0, .ref h0), (1, .int ad), (2, .int a1), (3, .int a2), (4, .int a3), (5, .int a4)] := hl
  refine tgk_13 hG ht_h0 (fun y1 y2 y3 y4 y5 y6 y7 y8 y9 y10 y11 y12 y13 y14 y15 y16 y17 y18 y19 y20 y21 y22 y23 y24 y25 => ?_)
  refine tpk_32 hT y1 (fun g27 hf_o26 => ?_)
  refine lv_aload_n hx hb dX12_addFour_0 rfl (lv_at hl 0 rfl) ?_
  refine tpk_13 hT ht_h0 (fun o28_x0 o28_x1 o28_x7 o28_x9 o28_x10 o28_x11 o28_x12 o28_x13 o28_x14 o28_x15 o28_x16 o28_x17 o28_x18 o28_x19 o28_x20 o28_x22 o28_x25 o28_x28 o28_x29 o28_x32 o28_x33 o28_x34 o28_x35 o28_x36 o28_x37 o28_x38 o28_x47 o28_x48 hf_o28 ro28_0 ro28_1 ro28_2 ro28_3 ro28_4 ro28_5 ro28_6 ro28_7 ro28_8 ro28_9 ro28_10 ro28_11 ro28_12 ro28_13 => ?_)
  refine tpk_pos (tp_in hG ht_h0 (by decide)) hf_o28 (fun q29 eq29 => ?_)
  refine va_get (D := (dC, dI)) (ci := 12) (v := .ref (ρ h0 2)) (C := RX12) (T := TX12) (N := 53) hx hb hts hfX12 hown hK hP q29 eq29 rfl 2 (by decide) (hts (.fieldLink RX12 7 "ColdShipsModel" "row" "[I") wa_148) (fun _ h9 => h9) rfl dX12_addFour_1 ?_
  refine lv_iload_n hx hb dX12_addFour_4 rfl (lv_at hl 1 rfl) ?_
  refine lv_iload_n hx hb dX12_addFour_5 rfl (lv_at hl 2 rfl) ?_
  refine tpk_pos (tp_in hG y1 (by decide)) hf_o26 (fun q30 eq30 => ?_)
  refine va_iast hx hb hK hP hD hS q30 0 eq30 rfl (vp_in_iff.mpr ⟨by omega, by omega⟩) dX12_addFour_6 (tp_k (.inl (κ 0, 12967, .inl (upd g27 ad.toNatClampNeg a1))) hD (tp_in hG y1 (by decide)) eq30 (fun f31 H locs hP hD hS g33 k32 => ?_))
  have hT := hT.up y1 g33 k32 tp_o32
  have hR := hR.up y1 (by decide) k32
  have hU35 : mo_U (mo_R g27) (mo_R (upd g27 ad.toNatClampNeg a1)) (ad.toInt) (a1.toInt) := mo_up (by omega) (rfl : a1.toInt = _) (by omega)
  generalize (upd g27 ad.toNatClampNeg a1) = g34 at g33 hU35
  refine lv_aload_n hx hb dX12_addFour_7 rfl (lv_at hl 0 rfl) ?_
  have hf_36 : f31 h0 = .inr (12, [.int o28_x0, .int o28_x1, .ref (ρ h0 2), .ref (ρ h0 3), .ref (ρ h0 4), .ref (ρ h0 5), .ref (ρ h0 6), .int o28_x7, .ref (ρ h0 8), .int o28_x9, .int o28_x10, .int o28_x11, .int o28_x12, .long o28_x13, .int o28_x14, .int o28_x15, .int o28_x16, .int o28_x17, .int o28_x18, .int o28_x19, .int o28_x20, .ref (ρ h0 21), .int o28_x22, .ref (ρ h0 23), .ref (ρ h0 24), .int o28_x25, .ref (ρ h0 26), .ref (ρ h0 27), .int o28_x28, .int o28_x29, .ref (ρ h0 30), .ref (ρ h0 31), .int o28_x32, .long o28_x33, .long o28_x34, .long o28_x35, .int o28_x36, .int o28_x37, .int o28_x38, .ref (ρ h0 39), .ref (ρ h0 40), .ref (ρ h0 41), .ref (ρ h0 42), .ref (ρ h0 43), .ref (ρ h0 44), .ref (ρ h0 45), .ref (ρ h0 46), .int o28_x47, .int o28_x48, .ref (ρ h0 49), .ref (ρ h0 50), .ref (ρ h0 51), .ref (ρ h0 52)]) := (k32 _ (tp_ne ht_h0 y1 (by decide))).trans hf_o28
  refine tpk_pos (tp_in hG ht_h0 (by decide)) hf_36 (fun q37 eq37 => ?_)
  refine va_get (D := (dC, dI)) (ci := 12) (v := .ref (ρ h0 2)) (C := RX12) (T := TX12) (N := 53) hx hb hts hfX12 hown hK hP q37 eq37 rfl 2 (by decide) (hts (.fieldLink RX12 7 "ColdShipsModel" "row" "[I") wa_148) (fun _ h9 => h9) rfl dX12_addFour_8 ?_
  refine lv_iload_n hx hb dX12_addFour_11 rfl (lv_at hl 1 rfl) ?_
  refine lv_iconst (v := 1) hx hb dX12_addFour_12 (by decide) ?_
  refine lv_iadd hx hb dX12_addFour_13 ?_
  refine lv_topi (fun z38 ez38 => ?_)
  have iz38 : z38.toInt = ad.toInt + 1 := zi_add ez38 rfl rfl (by omega) (by omega)
  refine lv_iload_n hx hb dX12_addFour_14 rfl (lv_at hl 3 rfl) ?_
  refine tpk_pos (tp_in hG y1 (by decide)) g33 (fun q39 eq39 => ?_)
  refine va_iast hx hb hK hP hD hS q39 0 eq39 rfl (vp_in_iff.mpr ⟨by omega, by omega⟩) dX12_addFour_15 (tp_k (.inl (κ 0, 12967, .inl (upd g34 z38.toNatClampNeg a2))) hD (tp_in hG y1 (by decide)) eq39 (fun f40 H locs hP hD hS g42 k41 => ?_))
  have hT := hT.up y1 g42 k41 tp_o32
  have hR := hR.up y1 (by decide) k41
  have hU44 : mo_U (mo_R g34) (mo_R (upd g34 z38.toNatClampNeg a2)) (ad.toInt + 1) (a2.toInt) := mo_up (by omega) (rfl : a2.toInt = _) (by omega)
  generalize (upd g34 z38.toNatClampNeg a2) = g43 at g42 hU44
  refine lv_aload_n hx hb dX12_addFour_16 rfl (lv_at hl 0 rfl) ?_
  have hf_45 : f40 h0 = .inr (12, [.int o28_x0, .int o28_x1, .ref (ρ h0 2), .ref (ρ h0 3), .ref (ρ h0 4), .ref (ρ h0 5), .ref (ρ h0 6), .int o28_x7, .ref (ρ h0 8), .int o28_x9, .int o28_x10, .int o28_x11, .int o28_x12, .long o28_x13, .int o28_x14, .int o28_x15, .int o28_x16, .int o28_x17, .int o28_x18, .int o28_x19, .int o28_x20, .ref (ρ h0 21), .int o28_x22, .ref (ρ h0 23), .ref (ρ h0 24), .int o28_x25, .ref (ρ h0 26), .ref (ρ h0 27), .int o28_x28, .int o28_x29, .ref (ρ h0 30), .ref (ρ h0 31), .int o28_x32, .long o28_x33, .long o28_x34, .long o28_x35, .int o28_x36, .int o28_x37, .int o28_x38, .ref (ρ h0 39), .ref (ρ h0 40), .ref (ρ h0 41), .ref (ρ h0 42), .ref (ρ h0 43), .ref (ρ h0 44), .ref (ρ h0 45), .ref (ρ h0 46), .int o28_x47, .int o28_x48, .ref (ρ h0 49), .ref (ρ h0 50), .ref (ρ h0 51), .ref (ρ h0 52)]) := (k41 _ (tp_ne ht_h0 y1 (by decide))).trans hf_36
  refine tpk_pos (tp_in hG ht_h0 (by decide)) hf_45 (fun q46 eq46 => ?_)
  refine va_get (D := (dC, dI)) (ci := 12) (v := .ref (ρ h0 2)) (C := RX12) (T := TX12) (N := 53) hx hb hts hfX12 hown hK hP q46 eq46 rfl 2 (by decide) (hts (.fieldLink RX12 7 "ColdShipsModel" "row" "[I") wa_148) (fun _ h9 => h9) rfl dX12_addFour_17 ?_
  refine lv_iload_n hx hb dX12_addFour_20 rfl (lv_at hl 1 rfl) ?_
  refine lv_iconst (v := 2) hx hb dX12_addFour_21 (by decide) ?_
  refine lv_iadd hx hb dX12_addFour_22 ?_
  refine lv_topi (fun z47 ez47 => ?_)
  have iz47 : z47.toInt = ad.toInt + 2 := zi_add ez47 rfl rfl (by omega) (by omega)
  refine lv_iload hx hb dX12_addFour_23 (lv_at hl 4 rfl) ?_
  refine tpk_pos (tp_in hG y1 (by decide)) g42 (fun q48 eq48 => ?_)
  refine va_iast hx hb hK hP hD hS q48 0 eq48 rfl (vp_in_iff.mpr ⟨by omega, by omega⟩) dX12_addFour_25 (tp_k (.inl (κ 0, 12967, .inl (upd g43 z47.toNatClampNeg a3))) hD (tp_in hG y1 (by decide)) eq48 (fun f49 H locs hP hD hS g51 k50 => ?_))
  have hT := hT.up y1 g51 k50 tp_o32
  have hR := hR.up y1 (by decide) k50
  have hU53 : mo_U (mo_R g43) (mo_R (upd g43 z47.toNatClampNeg a3)) (ad.toInt + 2) (a3.toInt) := mo_up (by omega) (rfl : a3.toInt = _) (by omega)
  generalize (upd g43 z47.toNatClampNeg a3) = g52 at g51 hU53
  refine lv_aload_n hx hb dX12_addFour_26 rfl (lv_at hl 0 rfl) ?_
  have hf_54 : f49 h0 = .inr (12, [.int o28_x0, .int o28_x1, .ref (ρ h0 2), .ref (ρ h0 3), .ref (ρ h0 4), .ref (ρ h0 5), .ref (ρ h0 6), .int o28_x7, .ref (ρ h0 8), .int o28_x9, .int o28_x10, .int o28_x11, .int o28_x12, .long o28_x13, .int o28_x14, .int o28_x15, .int o28_x16, .int o28_x17, .int o28_x18, .int o28_x19, .int o28_x20, .ref (ρ h0 21), .int o28_x22, .ref (ρ h0 23), .ref (ρ h0 24), .int o28_x25, .ref (ρ h0 26), .ref (ρ h0 27), .int o28_x28, .int o28_x29, .ref (ρ h0 30), .ref (ρ h0 31), .int o28_x32, .long o28_x33, .long o28_x34, .long o28_x35, .int o28_x36, .int o28_x37, .int o28_x38, .ref (ρ h0 39), .ref (ρ h0 40), .ref (ρ h0 41), .ref (ρ h0 42), .ref (ρ h0 43), .ref (ρ h0 44), .ref (ρ h0 45), .ref (ρ h0 46), .int o28_x47, .int o28_x48, .ref (ρ h0 49), .ref (ρ h0 50), .ref (ρ h0 51), .ref (ρ h0 52)]) := (k50 _ (tp_ne ht_h0 y1 (by decide))).trans hf_45
  refine tpk_pos (tp_in hG ht_h0 (by decide)) hf_54 (fun q55 eq55 => ?_)
  refine va_get (D := (dC, dI)) (ci := 12) (v := .ref (ρ h0 2)) (C := RX12) (T := TX12) (N := 53) hx hb hts hfX12 hown hK hP q55 eq55 rfl 2 (by decide) (hts (.fieldLink RX12 7 "ColdShipsModel" "row" "[I") wa_148) (fun _ h9 => h9) rfl dX12_addFour_27 ?_
  refine lv_iload_n hx hb dX12_addFour_30 rfl (lv_at hl 1 rfl) ?_
  refine lv_iconst (v := 3) hx hb dX12_addFour_31 (by decide) ?_
  refine lv_iadd hx hb dX12_addFour_32 ?_
  refine lv_topi (fun z56 ez56 => ?_)
  have iz56 : z56.toInt = ad.toInt + 3 := zi_add ez56 rfl rfl (by omega) (by omega)
  refine lv_iload hx hb dX12_addFour_33 (lv_at hl 5 rfl) ?_
  refine tpk_pos (tp_in hG y1 (by decide)) g51 (fun q57 eq57 => ?_)
  refine va_iast hx hb hK hP hD hS q57 0 eq57 rfl (vp_in_iff.mpr ⟨by omega, by omega⟩) dX12_addFour_35 (tp_k (.inl (κ 0, 12967, .inl (upd g52 z56.toNatClampNeg a4))) hD (tp_in hG y1 (by decide)) eq57 (fun f58 H locs hP hD hS g60 k59 => ?_))
  have hT := hT.up y1 g60 k59 tp_o32
  have hR := hR.up y1 (by decide) k59
  have hU62 : mo_U (mo_R g52) (mo_R (upd g52 z56.toNatClampNeg a4)) (ad.toInt + 3) (a4.toInt) := mo_up (by omega) (rfl : a4.toInt = _) (by omega)
  generalize (upd g52 z56.toNatClampNeg a4) = g61 at g60 hU62
  exact W.vret hx hb hr (fun t ht hW => ⟨⟨f58, rfl, ⟨hT, hR, ⟨mo_R g34, mo_R g43, mo_R g52, by rw [hf_o26, mo_i1]; exact hU35, hU44, hU53, by rw [g60, mo_i1]; exact hU62⟩⟩, by rw [ht]; exact hP, va_K.moved hW.alike hK, hD⟩, hS.F ht⟩) hS.2.2 dX12_addFour_36
set_option maxHeartbeats 4000000 in
set_option maxRecDepth 100000 in
theorem t_X12_isTerminal (l : Launch) (dC : Nat → ClassId) (dI : Nat → Nat → Nat) (sz : Nat) (κ : Nat → ClassId) (τ ν : Nat → Nat) (ρ : Nat → Nat → Nat) (L : List Nat) (f : Nat → va_E) (hG : tp_G τ ν ρ L) (hT : tp_T (mo_O κ) κ τ ν ρ f) (h0 : Nat) (v : Int32) (x : Int) (b : Int) (ht_h0 : τ h0 = 13) (hbb : 0 ≤ b ∧ b ≤ 1000) (hJ : mo_RI x b (mo_R (mo_i (f (ρ h0 2))))) : Met l yX12_isTerminal wqX12_isTerminal ({ frames := 3, cells := 0, slots := 0, locals := 800 }) (va_Pc [.ref h0, .int v] (pz_B dC dI (tp_K κ) (va_pl L f) sz)) (vp_Si (fun r => (0 ≤ r.toInt ∧ r.toInt ≤ 1) ∧ tp_cond r (0 ≤ v.toInt ∧ v.toInt < (mo_R (mo_i (f (ρ h0 2)))) 0))) 0 0 (fun _ => False) := by
  refine Met.ofW (cc := cX12_isTerminal) (maxL := 2) (ret := some .boolean) (by decide) rfl ?_
  intro p e s m args below meth c s₁ B hml hv
  obtain ⟨rfl, hsz, hP, hK, hD0, hN⟩ := hv
  have hx := B.exec
  have hb := B.bytes
  have hr := B.returns
  have hts := fun (w : Cond) (h : w ∈ WALL) => atoms_spec (ws := wqX12_isTerminal) B.pre w (List.mem_cons_of_mem _ h)
  have hown : s.vm.findClass RX12 = some m.cls := findClass_of_methodNamed B.named
  have hlocks := B.notSynchronized
  subst hsz
  have hD := hD0
  have hS : va_S (fun _ => True) s.heap s.heap [] := va_S.rf
  have hl := lv_entry ([.ref h0, .int v]) (n := 2) (Nat.le_of_ble_eq_true rfl)
  rw [lg_entry_eq]
  generalize (lg_sl ([.ref h0, .int v]) ++ List.replicate (2 - (lg_sl ([.ref h0, .int v])).length) Slot.unset).toArray = ls at hl ⊢
  have hl : lv_has ls 2 [(0, .ref h0), (1, .int v)] := hl
  refine tgk_13 hG ht_h0 (fun y1 y2 y3 y4 y5 y6 y7 y8 y9 y10 y11 y12 y13 y14 y15 y16 y17 y18 y19 y20 y21 y22 y23 y24 y25 => ?_)
  refine tpk_32 hT y1 (fun g27 hf_o26 => ?_)
  have hI : mo_RI x b (mo_R g27) := by have q9 := hJ; rw [hf_o26, mo_i1] at q9; exact q9
  refine lv_iload_n hx hb dX12_isTerminal_0 rfl (lv_at hl 1 rfl) ?_
  refine lv_i2l hx hb dX12_isTerminal_1 rfl ?_
  refine lv_lconst (v := 0) hx hb dX12_isTerminal_2 (by decide) ?_
  refine lv_aload_n hx hb dX12_isTerminal_3 rfl (lv_at hl 0 rfl) ?_
  refine tpk_13 hT ht_h0 (fun o28_x0 o28_x1 o28_x7 o28_x9 o28_x10 o28_x11 o28_x12 o28_x13 o28_x14 o28_x15 o28_x16 o28_x17 o28_x18 o28_x19 o28_x20 o28_x22 o28_x25 o28_x28 o28_x29 o28_x32 o28_x33 o28_x34 o28_x35 o28_x36 o28_x37 o28_x38 o28_x47 o28_x48 hf_o28 ro28_0 ro28_1 ro28_2 ro28_3 ro28_4 ro28_5 ro28_6 ro28_7 ro28_8 ro28_9 ro28_10 ro28_11 ro28_12 ro28_13 => ?_)
  refine tpk_pos (tp_in hG ht_h0 (by decide)) hf_o28 (fun q29 eq29 => ?_)
  refine va_get (D := (dC, dI)) (ci := 12) (v := .ref (ρ h0 2)) (C := RX12) (T := TX12) (N := 53) hx hb hts hfX12 hown hK hP q29 eq29 rfl 2 (by decide) (hts (.fieldLink RX12 7 "ColdShipsModel" "row" "[I") wa_148) (fun _ h9 => h9) rfl dX12_isTerminal_4 ?_
  refine lv_iconst (v := 0) hx hb dX12_isTerminal_7 (by decide) ?_
  refine tpk_pos (tp_in hG y1 (by decide)) hf_o26 (fun q30 eq30 => ?_)
  refine va_iald hx hb hK hP q30 0 eq30 rfl (vp_in_iff.mpr ⟨by decide, by decide⟩) dX12_isTerminal_8 ?_
  refine lv_topi (fun z31 ez31 => ?_)
  have jz31 : z31.toInt = mo_R g27 (0) := mo_rd ez31 (show (0 : Int32).toInt = (0) from by decide)
  have kz31 := hI.k0
  refine lv_i2l hx hb dX12_isTerminal_9 rfl ?_
  refine lv_lconst (v := 1) hx hb dX12_isTerminal_10 (by decide) ?_
  refine lv_lsub hx hb dX12_isTerminal_11 ?_
  refine lv_topl (fun z32 ez32 => ?_)
  have iz32 : z32.toInt = z31.toInt - 1 := zl_sub ez32 (Int32.toInt_toInt64 z31) rfl (by omega) (by omega)
  refine pz_calli (va_runS (As := [.long v.toInt64, .long 0, .long z32]) (rest := []) ⟨hx, hb, hml, hown, hts⟩ (t_X12_in l dC dI _ v.toInt64 (0) z32 (v.toInt) (0) (z32.toInt) (Int32.toInt_toInt64 v) rfl rfl) (va_cwS 3 hts gX12_isTerminal_X12_in rfl rfl rfl pd_X12_in ⟨Nat.le_of_ble_eq_true rfl, Nat.le_of_ble_eq_true rfl⟩) ⟨pz_blind, pz_pre pz_P0 (hK.sub (tys' := []) [] rfl) (pz_D0 (A := fun _ => True)) hN⟩ rfl rfl hl.1 rfl (lv_room (Nat.le_of_ble_eq_true rfl)) dX12_isTerminal_12 ⟨Nat.le_of_ble_eq_true rfl, Nat.le_of_ble_eq_true rfl⟩) (fun r33 hw34 => ?_)
  obtain ⟨hw34r, hw34p⟩ := hw34
  exact W.zret (v := r33) hx hb hr (zi_narZ (by omega) (by omega)) (fun t ht hW => ⟨r33, rfl, ⟨(by first | decide | omega), (by rw [hf_o26, mo_i1]; exact tp_cond.of hw34p (by omega))⟩, ht⟩) (fun _ h => by cases h) dX12_isTerminal_15
set_option maxHeartbeats 4000000 in
set_option maxRecDepth 100000 in
theorem t_X12_isShip (l : Launch) (dC : Nat → ClassId) (dI : Nat → Nat → Nat) (sz : Nat) (κ : Nat → ClassId) (τ ν : Nat → Nat) (ρ : Nat → Nat → Nat) (L : List Nat) (f : Nat → va_E) (hG : tp_G τ ν ρ L) (hT : tp_T (mo_O κ) κ τ ν ρ f) (h0 : Nat) (v : Int32) (x : Int) (b : Int) (ht_h0 : τ h0 = 13) (hbb : 0 ≤ b ∧ b ≤ 1000) (hJ : mo_RI x b (mo_R (mo_i (f (ρ h0 2))))) : Met l yX12_isShip wqX12_isShip ({ frames := 3, cells := 0, slots := 0, locals := 800 }) (va_Pc [.ref h0, .int v] (pz_B dC dI (tp_K κ) (va_pl L f) sz)) (vp_Si (fun r => (0 ≤ r.toInt ∧ r.toInt ≤ 1) ∧ tp_cond r (0 ≤ v.toInt ∧ v.toInt < (mo_R (mo_i (f (ρ h0 2)))) 1))) 0 0 (fun _ => False) := by
  refine Met.ofW (cc := cX12_isShip) (maxL := 2) (ret := some .boolean) (by decide) rfl ?_
  intro p e s m args below meth c s₁ B hml hv
  obtain ⟨rfl, hsz, hP, hK, hD0, hN⟩ := hv
  have hx := B.exec
  have hb := B.bytes
  have hr := B.returns
  have hts := fun (w : Cond) (h : w ∈ WALL) => atoms_spec (ws := wqX12_isShip) B.pre w (List.mem_cons_of_mem _ h)
  have hown : s.vm.findClass RX12 = some m.cls := findClass_of_methodNamed B.named
  have hlocks := B.notSynchronized
  subst hsz
  have hD := hD0
  have hS : va_S (fun _ => True) s.heap s.heap [] := va_S.rf
  have hl := lv_entry ([.ref h0, .int v]) (n := 2) (Nat.le_of_ble_eq_true rfl)
  rw [lg_entry_eq]
  generalize (lg_sl ([.ref h0, .int v]) ++ List.replicate (2 - (lg_sl ([.ref h0, .int v])).length) Slot.unset).toArray = ls at hl ⊢
  have hl : lv_has ls 2 [(0, .ref h0), (1, .int v)] := hl
  refine tgk_13 hG ht_h0 (fun y1 y2 y3 y4 y5 y6 y7 y8 y9 y10 y11 y12 y13 y14 y15 y16 y17 y18 y19 y20 y21 y22 y23 y24 y25 => ?_)
  refine tpk_32 hT y1 (fun g27 hf_o26 => ?_)
  have hI : mo_RI x b (mo_R g27) := by have q9 := hJ; rw [hf_o26, mo_i1] at q9; exact q9
  refine lv_iload_n hx hb dX12_isShip_0 rfl (lv_at hl 1 rfl) ?_
  refine lv_i2l hx hb dX12_isShip_1 rfl ?_
  refine lv_lconst (v := 0) hx hb dX12_isShip_2 (by decide) ?_
  refine lv_aload_n hx hb dX12_isShip_3 rfl (lv_at hl 0 rfl) ?_
  refine tpk_13 hT ht_h0 (fun o28_x0 o28_x1 o28_x7 o28_x9 o28_x10 o28_x11 o28_x12 o28_x13 o28_x14 o28_x15 o28_x16 o28_x17 o28_x18 o28_x19 o28_x20 o28_x22 o28_x25 o28_x28 o28_x29 o28_x32 o28_x33 o28_x34 o28_x35 o28_x36 o28_x37 o28_x38 o28_x47 o28_x48 hf_o28 ro28_0 ro28_1 ro28_2 ro28_3 ro28_4 ro28_5 ro28_6 ro28_7 ro28_8 ro28_9 ro28_10 ro28_11 ro28_12 ro28_13 => ?_)
  refine tpk_pos (tp_in hG ht_h0 (by decide)) hf_o28 (fun q29 eq29 => ?_)
  refine va_get (D := (dC, dI)) (ci := 12) (v := .ref (ρ h0 2)) (C := RX12) (T := TX12) (N := 53) hx hb hts hfX12 hown hK hP q29 eq29 rfl 2 (by decide) (hts (.fieldLink RX12 7 "ColdShipsModel" "row" "[I") wa_148) (fun _ h9 => h9) rfl dX12_isShip_4 ?_
  refine lv_iconst (v := 1) hx hb dX12_isShip_7 (by decide) ?_
  refine tpk_pos (tp_in hG y1 (by decide)) hf_o26 (fun q30 eq30 => ?_)
  refine va_iald hx hb hK hP q30 0 eq30 rfl (vp_in_iff.mpr ⟨by decide, by decide⟩) dX12_isShip_8 ?_
  refine lv_topi (fun z31 ez31 => ?_)
  have jz31 : z31.toInt = mo_R g27 (1) := mo_rd ez31 (show (1 : Int32).toInt = (1) from by decide)
  have kz31 := hI.k1
  refine lv_i2l hx hb dX12_isShip_9 rfl ?_
  refine lv_lconst (v := 1) hx hb dX12_isShip_10 (by decide) ?_
  refine lv_lsub hx hb dX12_isShip_11 ?_
  refine lv_topl (fun z32 ez32 => ?_)
  have iz32 : z32.toInt = z31.toInt - 1 := zl_sub ez32 (Int32.toInt_toInt64 z31) rfl (by omega) (by omega)
  refine pz_calli (va_runS (As := [.long v.toInt64, .long 0, .long z32]) (rest := []) ⟨hx, hb, hml, hown, hts⟩ (t_X12_in l dC dI _ v.toInt64 (0) z32 (v.toInt) (0) (z32.toInt) (Int32.toInt_toInt64 v) rfl rfl) (va_cwS 3 hts gX12_isShip_X12_in rfl rfl rfl pd_X12_in ⟨Nat.le_of_ble_eq_true rfl, Nat.le_of_ble_eq_true rfl⟩) ⟨pz_blind, pz_pre pz_P0 (hK.sub (tys' := []) [] rfl) (pz_D0 (A := fun _ => True)) hN⟩ rfl rfl hl.1 rfl (lv_room (Nat.le_of_ble_eq_true rfl)) dX12_isShip_12 ⟨Nat.le_of_ble_eq_true rfl, Nat.le_of_ble_eq_true rfl⟩) (fun r33 hw34 => ?_)
  obtain ⟨hw34r, hw34p⟩ := hw34
  exact W.zret (v := r33) hx hb hr (zi_narZ (by omega) (by omega)) (fun t ht hW => ⟨r33, rfl, ⟨(by first | decide | omega), (by rw [hf_o26, mo_i1]; exact tp_cond.of hw34p (by omega))⟩, ht⟩) (fun _ h => by cases h) dX12_isShip_15
set_option maxHeartbeats 4000000 in
set_option maxRecDepth 100000 in
theorem t_X12_isLanding (l : Launch) (dC : Nat → ClassId) (dI : Nat → Nat → Nat) (sz : Nat) (κ : Nat → ClassId) (τ ν : Nat → Nat) (ρ : Nat → Nat → Nat) (L : List Nat) (f : Nat → va_E) (hG : tp_G τ ν ρ L) (hT : tp_T (mo_O κ) κ τ ν ρ f) (h0 : Nat) (v : Int32) (x : Int) (b : Int) (ht_h0 : τ h0 = 13) (hbb : 0 ≤ b ∧ b ≤ 1000) (hJ : mo_RI x b (mo_R (mo_i (f (ρ h0 2))))) : Met l yX12_isLanding wqX12_isLanding ({ frames := 3, cells := 0, slots := 0, locals := 800 }) (va_Pc [.ref h0, .int v] (pz_B dC dI (tp_K κ) (va_pl L f) sz)) (vp_Si (fun r => (0 ≤ r.toInt ∧ r.toInt ≤ 1) ∧ tp_cond r (0 ≤ v.toInt ∧ v.toInt < (mo_R (mo_i (f (ρ h0 2)))) 5))) 0 0 (fun _ => False) := by
  refine Met.ofW (cc := cX12_isLanding) (maxL := 2) (ret := some .boolean) (by decide) rfl ?_
  intro p e s m args below meth c s₁ B hml hv
  obtain ⟨rfl, hsz, hP, hK, hD0, hN⟩ := hv
  have hx := B.exec
  have hb := B.bytes
  have hr := B.returns
  have hts := fun (w : Cond) (h : w ∈ WALL) => atoms_spec (ws := wqX12_isLanding) B.pre w (List.mem_cons_of_mem _ h)
  have hown : s.vm.findClass RX12 = some m.cls := findClass_of_methodNamed B.named
  have hlocks := B.notSynchronized
  subst hsz
  have hD := hD0
  have hS : va_S (fun _ => True) s.heap s.heap [] := va_S.rf
  have hl := lv_entry ([.ref h0, .int v]) (n := 2) (Nat.le_of_ble_eq_true rfl)
  rw [lg_entry_eq]
  generalize (lg_sl ([.ref h0, .int v]) ++ List.replicate (2 - (lg_sl ([.ref h0, .int v])).length) Slot.unset).toArray = ls at hl ⊢
  have hl : lv_has ls 2 [(0, .ref h0), (1, .int v)] := hl
  refine tgk_13 hG ht_h0 (fun y1 y2 y3 y4 y5 y6 y7 y8 y9 y10 y11 y12 y13 y14 y15 y16 y17 y18 y19 y20 y21 y22 y23 y24 y25 => ?_)
  refine tpk_32 hT y1 (fun g27 hf_o26 => ?_)
  have hI : mo_RI x b (mo_R g27) := by have q9 := hJ; rw [hf_o26, mo_i1] at q9; exact q9
  refine lv_iload_n hx hb dX12_isLanding_0 rfl (lv_at hl 1 rfl) ?_
  refine lv_i2l hx hb dX12_isLanding_1 rfl ?_
  refine lv_lconst (v := 0) hx hb dX12_isLanding_2 (by decide) ?_
  refine lv_aload_n hx hb dX12_isLanding_3 rfl (lv_at hl 0 rfl) ?_
  refine tpk_13 hT ht_h0 (fun o28_x0 o28_x1 o28_x7 o28_x9 o28_x10 o28_x11 o28_x12 o28_x13 o28_x14 o28_x15 o28_x16 o28_x17 o28_x18 o28_x19 o28_x20 o28_x22 o28_x25 o28_x28 o28_x29 o28_x32 o28_x33 o28_x34 o28_x35 o28_x36 o28_x37 o28_x38 o28_x47 o28_x48 hf_o28 ro28_0 ro28_1 ro28_2 ro28_3 ro28_4 ro28_5 ro28_6 ro28_7 ro28_8 ro28_9 ro28_10 ro28_11 ro28_12 ro28_13 => ?_)
  refine tpk_pos (tp_in hG ht_h0 (by decide)) hf_o28 (fun q29 eq29 => ?_)
  refine va_get (D := (dC, dI)) (ci := 12) (v := .ref (ρ h0 2)) (C := RX12) (T := TX12) (N := 53) hx hb hts hfX12 hown hK hP q29 eq29 rfl 2 (by decide) (hts (.fieldLink RX12 7 "ColdShipsModel" "row" "[I") wa_148) (fun _ h9 => h9) rfl dX12_isLanding_4 ?_
  refine lv_iconst (v := 5) hx hb dX12_isLanding_7 (by decide) ?_
  refine tpk_pos (tp_in hG y1 (by decide)) hf_o26 (fun q30 eq30 => ?_)
  refine va_iald hx hb hK hP q30 0 eq30 rfl (vp_in_iff.mpr ⟨by decide, by decide⟩) dX12_isLanding_8 ?_
  refine lv_topi (fun z31 ez31 => ?_)
  have jz31 : z31.toInt = mo_R g27 (5) := mo_rd ez31 (show (5 : Int32).toInt = (5) from by decide)
  have kz31 := hI.k5
  refine lv_i2l hx hb dX12_isLanding_9 rfl ?_
  refine lv_lconst (v := 1) hx hb dX12_isLanding_10 (by decide) ?_
  refine lv_lsub hx hb dX12_isLanding_11 ?_
  refine lv_topl (fun z32 ez32 => ?_)
  have iz32 : z32.toInt = z31.toInt - 1 := zl_sub ez32 (Int32.toInt_toInt64 z31) rfl (by omega) (by omega)
  refine pz_calli (va_runS (As := [.long v.toInt64, .long 0, .long z32]) (rest := []) ⟨hx, hb, hml, hown, hts⟩ (t_X12_in l dC dI _ v.toInt64 (0) z32 (v.toInt) (0) (z32.toInt) (Int32.toInt_toInt64 v) rfl rfl) (va_cwS 3 hts gX12_isLanding_X12_in rfl rfl rfl pd_X12_in ⟨Nat.le_of_ble_eq_true rfl, Nat.le_of_ble_eq_true rfl⟩) ⟨pz_blind, pz_pre pz_P0 (hK.sub (tys' := []) [] rfl) (pz_D0 (A := fun _ => True)) hN⟩ rfl rfl hl.1 rfl (lv_room (Nat.le_of_ble_eq_true rfl)) dX12_isLanding_12 ⟨Nat.le_of_ble_eq_true rfl, Nat.le_of_ble_eq_true rfl⟩) (fun r33 hw34 => ?_)
  obtain ⟨hw34r, hw34p⟩ := hw34
  exact W.zret (v := r33) hx hb hr (zi_narZ (by omega) (by omega)) (fun t ht hW => ⟨r33, rfl, ⟨(by first | decide | omega), (by rw [hf_o26, mo_i1]; exact tp_cond.of hw34p (by omega))⟩, ht⟩) (fun _ h => by cases h) dX12_isLanding_15
set_option maxHeartbeats 4000000 in
set_option maxRecDepth 100000 in
theorem t_X12_isContract (l : Launch) (dC : Nat → ClassId) (dI : Nat → Nat → Nat) (sz : Nat) (κ : Nat → ClassId) (τ ν : Nat → Nat) (ρ : Nat → Nat → Nat) (L : List Nat) (f : Nat → va_E) (hG : tp_G τ ν ρ L) (hT : tp_T (mo_O κ) κ τ ν ρ f) (h0 : Nat) (v : Int32) (x : Int) (b : Int) (ht_h0 : τ h0 = 13) (hbb : 0 ≤ b ∧ b ≤ 1000) (hJ : mo_RI x b (mo_R (mo_i (f (ρ h0 2))))) : Met l yX12_isContract wqX12_isContract ({ frames := 3, cells := 0, slots := 0, locals := 800 }) (va_Pc [.ref h0, .int v] (pz_B dC dI (tp_K κ) (va_pl L f) sz)) (vp_Si (fun r => (0 ≤ r.toInt ∧ r.toInt ≤ 1) ∧ tp_cond r (0 ≤ v.toInt ∧ v.toInt < (mo_R (mo_i (f (ρ h0 2)))) 8))) 0 0 (fun _ => False) := by
  refine Met.ofW (cc := cX12_isContract) (maxL := 2) (ret := some .boolean) (by decide) rfl ?_
  intro p e s m args below meth c s₁ B hml hv
  obtain ⟨rfl, hsz, hP, hK, hD0, hN⟩ := hv
  have hx := B.exec
  have hb := B.bytes
  have hr := B.returns
  have hts := fun (w : Cond) (h : w ∈ WALL) => atoms_spec (ws := wqX12_isContract) B.pre w (List.mem_cons_of_mem _ h)
  have hown : s.vm.findClass RX12 = some m.cls := findClass_of_methodNamed B.named
  have hlocks := B.notSynchronized
  subst hsz
  have hD := hD0
  have hS : va_S (fun _ => True) s.heap s.heap [] := va_S.rf
  have hl := lv_entry ([.ref h0, .int v]) (n := 2) (Nat.le_of_ble_eq_true rfl)
  rw [lg_entry_eq]
  generalize (lg_sl ([.ref h0, .int v]) ++ List.replicate (2 - (lg_sl ([.ref h0, .int v])).length) Slot.unset).toArray = ls at hl ⊢
  have hl : lv_has ls 2 [(0, .ref h0), (1, .int v)] := hl
  refine tgk_13 hG ht_h0 (fun y1 y2 y3 y4 y5 y6 y7 y8 y9 y10 y11 y12 y13 y14 y15 y16 y17 y18 y19 y20 y21 y22 y23 y24 y25 => ?_)
  refine tpk_32 hT y1 (fun g27 hf_o26 => ?_)
  have hI : mo_RI x b (mo_R g27) := by have q9 := hJ; rw [hf_o26, mo_i1] at q9; exact q9
  refine lv_iload_n hx hb dX12_isContract_0 rfl (lv_at hl 1 rfl) ?_
  refine lv_i2l hx hb dX12_isContract_1 rfl ?_
  refine lv_lconst (v := 0) hx hb dX12_isContract_2 (by decide) ?_
  refine lv_aload_n hx hb dX12_isContract_3 rfl (lv_at hl 0 rfl) ?_
  refine tpk_13 hT ht_h0 (fun o28_x0 o28_x1 o28_x7 o28_x9 o28_x10 o28_x11 o28_x12 o28_x13 o28_x14 o28_x15 o28_x16 o28_x17 o28_x18 o28_x19 o28_x20 o28_x22 o28_x25 o28_x28 o28_x29 o28_x32 o28_x33 o28_x34 o28_x35 o28_x36 o28_x37 o28_x38 o28_x47 o28_x48 hf_o28 ro28_0 ro28_1 ro28_2 ro28_3 ro28_4 ro28_5 ro28_6 ro28_7 ro28_8 ro28_9 ro28_10 ro28_11 ro28_12 ro28_13 => ?_)
  refine tpk_pos (tp_in hG ht_h0 (by decide)) hf_o28 (fun q29 eq29 => ?_)
  refine va_get (D := (dC, dI)) (ci := 12) (v := .ref (ρ h0 2)) (C := RX12) (T := TX12) (N := 53) hx hb hts hfX12 hown hK hP q29 eq29 rfl 2 (by decide) (hts (.fieldLink RX12 7 "ColdShipsModel" "row" "[I") wa_148) (fun _ h9 => h9) rfl dX12_isContract_4 ?_
  refine lv_bipush (v := 8) hx hb dX12_isContract_7 (by decide) ?_
  refine tpk_pos (tp_in hG y1 (by decide)) hf_o26 (fun q30 eq30 => ?_)
  refine va_iald hx hb hK hP q30 0 eq30 rfl (vp_in_iff.mpr ⟨by decide, by decide⟩) dX12_isContract_9 ?_
  refine lv_topi (fun z31 ez31 => ?_)
  have jz31 : z31.toInt = mo_R g27 (8) := mo_rd ez31 (show (8 : Int32).toInt = (8) from by decide)
  have kz31 := hI.k8
  refine lv_i2l hx hb dX12_isContract_10 rfl ?_
  refine lv_lconst (v := 1) hx hb dX12_isContract_11 (by decide) ?_
  refine lv_lsub hx hb dX12_isContract_12 ?_
  refine lv_topl (fun z32 ez32 => ?_)
  have iz32 : z32.toInt = z31.toInt - 1 := zl_sub ez32 (Int32.toInt_toInt64 z31) rfl (by omega) (by omega)
  refine pz_calli (va_runS (As := [.long v.toInt64, .long 0, .long z32]) (rest := []) ⟨hx, hb, hml, hown, hts⟩ (t_X12_in l dC dI _ v.toInt64 (0) z32 (v.toInt) (0) (z32.toInt) (Int32.toInt_toInt64 v) rfl rfl) (va_cwS 3 hts gX12_isContract_X12_in rfl rfl rfl pd_X12_in ⟨Nat.le_of_ble_eq_true rfl, Nat.le_of_ble_eq_true rfl⟩) ⟨pz_blind, pz_pre pz_P0 (hK.sub (tys' := []) [] rfl) (pz_D0 (A := fun _ => True)) hN⟩ rfl rfl hl.1 rfl (lv_room (Nat.le_of_ble_eq_true rfl)) dX12_isContract_13 ⟨Nat.le_of_ble_eq_true rfl, Nat.le_of_ble_eq_true rfl⟩) (fun r33 hw34 => ?_)
  obtain ⟨hw34r, hw34p⟩ := hw34
  exact W.zret (v := r33) hx hb hr (zi_narZ (by omega) (by omega)) (fun t ht hW => ⟨r33, rfl, ⟨(by first | decide | omega), (by rw [hf_o26, mo_i1]; exact tp_cond.of hw34p (by omega))⟩, ht⟩) (fun _ h => by cases h) dX12_isContract_16
